/-! the class: a row of nodes is copied -/

def LU (w : Nat → xC) (C : List (Int × List Int)) (b : Int) (t : List Int) : Prop := ∃ S E B : List Int, fo w 12 S E B C.length ((flt C).length + t.length) (flt C).length ∧ S.length = 80 ∧ E.length = 7 ∧ B.length = 7 ∧ FW C S E B ∧ gV C ∧ gZ B C.length = b ∧ (∀ j : Nat, j < t.length → gZ S ((flt C).length + j) = vc (t.getD j 0)) ∧ t.length ≤ 40 ∧ (flt C).length ≤ 40 ∧ C.length ≤ 6 ∧ ∀ s ∈ t, sgV s
def FF (w : Nat → xC) : Prop := ∃ (S E B : List Int) (c ln o : Int), fo w 12 S E B c ln o ∧ S.length = 80 ∧ E.length = 7 ∧ B.length = 7
def GS (l : Int) (w : Nat → xC) : Prop := ∃ (wt : Int) (Os : List Int), w 16 = gO l wt ∧ w 22 = cI 0 Os ∧ Os.length = 241
def ksD : List Nat := [12, 13, 14, 15, 16, 22]
theorem sz_le {l : Int} {w w' : Nat → xC} {N : Nat} (f : Fr ksD w w') (a : FF w) (b : FF w') (g : GS l w) (h : GS l w') : x_le (hp w N) (hp w' N) := hp_le (Nat.le_refl _) (fun j _ => by
  by_cases hj : j ∈ ksD
  · obtain ⟨S, E, B, c, ln, o, ⟨a1, a2, a3, a4⟩, a5, a6, a7⟩ := a
    obtain ⟨S', E', B', c', ln', o', ⟨b1, b2, b3, b4⟩, b5, b6, b7⟩ := b
    obtain ⟨wt, Os, g1, g2, g3⟩ := g
    obtain ⟨wt', Os', h1, h2, h3⟩ := h
    unfold ksD at hj
    simp only [List.mem_cons, List.not_mem_nil, or_false] at hj
    rcases hj with rfl | rfl | rfl | rfl | rfl | rfl
    · rw [a1, b1]; simp [x_c1]
    · have e1 : w 13 = cI 0 S := a2
      have e2 : w' 13 = cI 0 S' := b2
      rw [e1, e2]; simp [x_c1, a5, b5]
    · have e1 : w 14 = cI 0 E := a3
      have e2 : w' 14 = cI 0 E' := b3
      rw [e1, e2]; simp [x_c1, a6, b6]
    · have e1 : w 15 = cI 1 B := a4
      have e2 : w' 15 = cI 1 B' := b4
      rw [e1, e2]; simp [x_c1, a7, b7]
    · rw [g1, h1]; simp [x_c1, gF]
    · rw [g2, h2]; simp [x_c1, g3, h3]
  · rw [f j hj]
    exact Nat.le_refl _)
theorem LU.ff {w : Nat → xC} {C : List (Int × List Int)} {b : Int} {t : List Int} (h : LU w C b t) : FF w := by
  obtain ⟨S, E, B, h1, h2, h3, h4, _⟩ := h
  exact ⟨S, E, B, _, _, _, h1, h2, h3, h4⟩
theorem LU_ext {w' : Nat → xC} {C : List (Int × List Int)} {b : Int} {t u S S' E B : List Int} (hs : fo w' 12 S' E B C.length ((flt C).length + t.length + u.length) (flt C).length) (nS : S'.length = 80) (lE : E.length = 7) (lB : B.length = 7) (hW : FW C S E B) (hg : gV C) (hb : gZ B C.length = b) (ht : ∀ j : Nat, j < t.length → gZ S ((flt C).length + j) = vc (t.getD j 0)) (f9 : (flt C).length ≤ 40) (c6 : C.length ≤ 6) (h1 : ∀ s ∈ t, sgV s) (h2 : ∀ s ∈ u, sgV s) (hl : t.length + u.length ≤ 40) (e1 : ∀ j : Int, 0 ≤ j → j < (flt C).length + t.length → gZ S' j = gZ S j) (e2 : ∀ j : Nat, j < u.length → gZ S' ((flt C).length + t.length + j) = vc (u.getD j 0)) : LU w' C b (t ++ u) := by
  refine ⟨S', E, B, ?_, nS, lE, lB, ⟨fun j hj => ?_, hW.2.1, hW.2.2⟩, hg, hb, fun j hj => ?_, by rw [List.length_append]; exact hl, f9, c6, fun s hs => ?_⟩
  · rw [List.length_append, show (((t.length + u.length : Nat) : Int)) = (t.length : Int) + u.length by omega, ← Int.add_assoc]
    exact hs
  · rw [e1 j (by omega) (by omega)]
    exact hW.1 j hj
  · rw [List.length_append] at hj
    by_cases hjt : j < t.length
    · rw [e1 _ (by omega) (by omega), ht j hjt]
      congr 1
      simp only [List.getD_eq_getElem?_getD]
      rw [List.getElem?_append_left hjt]
    · have := e2 (j - t.length) (by omega)
      rw [show ((flt C).length : Int) + t.length + ((j - t.length : Nat) : Int) = (flt C).length + j by omega] at this
      rw [this]
      congr 1
      simp only [List.getD_eq_getElem?_getD]
      rw [List.getElem?_append_right (by omega)]
  · rcases List.mem_append.mp hs with hs | hs
    · exact h1 s hs
    · exact h2 s hs
section CV
variable {N : Nat} {l : Int} {P Sy Ee Ro : List Int} {fd rk : Nat → Nat} {K : Nat}
theorem ex_mem (hT : ∀ i, i < P.length → Ts 1 (tm P i)) (h1 : ∀ i, i < P.length → fd i < P.length) : ∀ (k i : Nat), i < P.length → ∀ s ∈ ex P fd k i, s ∈ P := by
  intro k
  induction k with
  | zero => intro i _ s hs; cases hs
  | succ k ih =>
    intro i hi s hs
    have hf := h1 i hi
    unfold ex at hs
    split at hs
    · rw [List.mem_singleton] at hs
      rw [hs]; exact pz_mem hf
    · rcases List.mem_cons.mp hs with hs | hs
      · rw [hs]; exact pz_mem hf
      · obtain ⟨q, hq, hs⟩ := List.mem_flatten.mp hs
        obtain ⟨y, hy, rfl⟩ := List.mem_map.mp hq
        exact ih y ((args_ok hf (hT _ hf)).2 y hy).2.1 s hs
def uV (P : List Int) (fd : Nat → Nat) (K : Nat) (u : List Int) : List Int := ren (fV P fd) (sub (sg P fd K) u)
theorem uV_nil : uV P fd K [] = [] := rfl
theorem uV_app (a b : List Int) : uV P fd K (a ++ b) = uV P fd K a ++ uV P fd K b := by
  unfold uV ren
  rw [sub_app, List.map_append]
theorem uV_cons (s : Int) (u : List Int) : uV P fd K (s :: u) = ren (fV P fd) (if s < 99 then sg P fd K s else [s]) ++ uV P fd K u := by
  unfold uV ren
  rw [sub_cons, List.map_append]
theorem sg_inP {w : Nat → xC} (hB : GB w P Sy Ee Ro l fd rk K) {u : List Int} (hu : ∀ s ∈ u, s ∈ P) : ∀ r ∈ sub (sg P fd K) u, r ∈ P := by
  obtain ⟨g1, g2, g3, g4, g5, g6, g7, hV, hM, g10, g11⟩ := hB
  intro r hr
  unfold sub at hr
  obtain ⟨v, hv, hr⟩ := List.mem_flatMap.mp hr
  have hvP := hu v hv
  split at hr
  · unfold sg at hr
    rw [if_pos hvP] at hr
    exact ex_mem hV.2.2.2.2.2 hM.1 K _ (pz_idx hvP).1 r hr
  · rw [List.mem_singleton] at hr
    rw [hr]; exact hvP
theorem fV_sg {w : Nat → xC} (hB : GB w P Sy Ee Ro l fd rk K) {r : Int} (hr : r ∈ P) : sgV (fV P fd r) ∧ (r < 99 → fV P fd r < 99 ∧ 0 ≤ fV P fd r) := by
  obtain ⟨g1, g2, g3, g4, g5, g6, g7, hV, hM, g10, g11⟩ := hB
  have h1 := pz_idx hr
  have v1 := hV.1
  have v2 := hV.2.1
  unfold fV
  by_cases hv : r < 99
  · have h2 := hM.1 _ h1.1
    rw [if_pos hv]
    exact ⟨⟨by omega, by omega, fun _ => by omega⟩, fun _ => ⟨by omega, by omega⟩⟩
  · rw [if_neg hv]
    have h3 := g11 _ h1.1
    rw [h1.2] at h3
    exact ⟨h3, fun z => absurd z hv⟩
theorem uV_sg {w : Nat → xC} (hB : GB w P Sy Ee Ro l fd rk K) {u : List Int} (hu : ∀ s ∈ u, s ∈ P) : ∀ s ∈ uV P fd K u, sgV s := by
  intro s hs
  unfold uV ren at hs
  obtain ⟨r, hr, rfl⟩ := List.mem_map.mp hs
  have h1 := (fV_sg hB (sg_inP hB hu r hr)).1
  by_cases hv : r < 99
  · rw [if_pos hv]; exact h1
  · rw [if_neg hv]
    unfold fV at h1
    rw [if_neg hv] at h1
    exact h1
theorem seg_mem {a b : Int} : ∀ s ∈ seg P a b, s ∈ P := fun s hs => List.mem_of_mem_drop (List.mem_of_mem_take hs)
theorem ren_fV {t : List Int} {j : Nat} (hj : j < t.length) : fV P fd (t.getD j 0) = (ren (fV P fd) t).getD j 0 := by
  rw [ren_getD hj]
  split
  · rfl
  · rename_i h
    unfold fV
    rw [if_neg h]
set_option maxHeartbeats 1000000 in
theorem l50 (d : Nat) (hN : 53 ≤ N) {to_ : Nat} (hto : to_ ≤ P.length) : ∀ (r at_ : Nat) (C : List (Int × List Int)) (b : Int) (t : List Int) (w : Nat → xC) (lv : xL), at_ + r = to_ → LU w C b t → GS l w → GB w P Sy Ee Ro l fd rk K → c1 lv → x_lk lv 0 = some (.ref 19) → x_lk lv 2 = some (.int (iZ (to_ : Int))) → x_lk lv 3 = some (.ref 15) → x_lk lv 4 = some (.int (iZ (at_ : Int))) →
    (t.length + (uV P fd K (seg P at_ to_)).length ≤ 40 → ∃ w', Fr ksC w w' ∧ LU w' C b (t ++ uV P fd K (seg P at_ to_)) ∧ GS l w' ∧ Gx q_k50 (d + 2) 3 (lv, [], hp w N) (some (.int (iZ 1)), hp w' N)) ∧
    (40 < t.length + (uV P fd K (seg P at_ to_)).length → ∃ w', Fr ksC w w' ∧ FF w' ∧ GS l w' ∧ Gx q_k50 (d + 2) 3 (lv, [], hp w N) (some (.int (iZ 0)), hp w' N)) := by
  intro r
  induction r with
  | zero =>
    intro at_ C b t w lv hk hL hG hB hc l0 l2 l3 l4
    have e : at_ = to_ := by omega
    have et := hL
    obtain ⟨S, E, B, h1, h2, h3, h4, h5, h6, h7, h8, h9, h10, h11, h12⟩ := et
    rw [e, seg_nil, uV_nil, List.append_nil]
    refine ⟨fun _ => ⟨w, Fr.rf _ _, hL, hG, Gx.fin 20 Cs.tt (fun X _ => ?_)⟩, fun z => absurd z (by simp only [List.length_nil]; omega)⟩
    have b1 : (to_ : Int) ≤ (at_ : Int) := by omega
    have v1 := hB.2.2.2.2.2.2.2.1.1
    have v2 := hB.2.2.2.2.2.2.2.1.2.1
    have b2 : (to_ : Int) ≤ 80 := by omega
    have b3 : (at_ : Int) ≤ 80 := by omega
    simp (disch := first | (refine c1_id ?_; assumption) | (refine c1_st rfl ?_; repeat (first | assumption | refine c1_st rfl ?_)) | omega) [nx_l, nx_r, nx_n, x_st, x_push, x_bin, x_div, x_un, x_dup, x_pop, x_dup2, x_goto, x_ifeq, x_ifne, x_iflt, x_ifge, x_ifgt, x_ifle, x_iceq, x_icne, x_iclt, x_icge, x_icgt, x_icle, x_ifnull, x_ifnonnull, x_ldi, x_lda, x_sti, x_sta, x_iinc, x_gf, x_pf, x_ald, x_ast, x_aln, x_len, x_cl_, x_cv, x_cs, x_rc, x_r0, x_isT, x_oi, x_rv, x_ri, x_ra, Value.category, t50_0, t50_1, t50_3, t50_5, t50_6, t50_9, t50_11, t50_12, t50_15, t50_18, t50_19, t50_22, t50_24, t50_25, t50_28, t50_31, t50_32, t50_33, t50_36, t50_38, t50_39, t50_40, t50_43, t50_46, t50_47, t50_48, t50_51, t50_53, t50_54, t50_57, t50_59, t50_61, t50_64, t50_65, t50_66, t50_69, t50_72, t50_73, lk_s, hp_get, hp_set, uH_at, uH_ne, uH_upd, uH_swap, iZ_add, iZ_sub, iZ_mul, iZ_neg, iZ_lt, iZ_le, iZ_eq, iZ_div, iZ_of, ix_Z, gZ_map, gZ_mapI, gZ_map', le_0, le_s, sZ_map, sZ_len, bZ_0, bZ_inj, bZ_t, bZ_f, nr_i, nr_0, nr_1, nr_b, ft_i, ft_b, ft_0, ft_1, zl_0, zl_1, l0, l2, l4, b1, -List.filter_filter, -List.getElem?_map, -List.getD_eq_getElem?_getD]
  | succ r ih =>
    intro at_ C b t w lv hk hL hG hB hc l0 l2 l3 l4
    have hB' := hB
    obtain ⟨g1, g2, g3, g4, g5, g6, g7, hV, hM, g10, g11⟩ := hB'
    obtain ⟨v1, v2, v3, v4, v5, v6⟩ := hV
    have hat : at_ < P.length := by omega
    obtain ⟨S, E, B, hf, nS, lE, lB, hW, hgv, hb, ht, t40, f40, c6, hsg⟩ := hL
    obtain ⟨wt, Os, hg, hO, nO⟩ := hG
    have es : seg P at_ to_ = pz P at_ :: seg P ((at_ + 1 : Nat) : Int) to_ := seg_cons (by omega) (by omega) (by omega)
    rw [es, uV_cons]
    obtain ⟨z1, z2, z3⟩ := v4 at_ hat
    have z4 := vs_lo z1
    have z5 := vs_hi z1
    obtain ⟨sy, hsy⟩ : ∃ sy : Int, sy = gZ Sy at_ := ⟨_, rfl⟩
    rw [← hsy] at z1 z2 z3 z4 z5
    have hsy' : gZ Sy (at_ : Int) = sy := hsy.symm
    have X2 := m2 (d + 1) w N sy (by omega) (by omega)
    have b1 : ¬ (to_ : Int) ≤ (at_ : Int) := by omega
    have b2 : ¬ l ≤ (at_ : Int) := by omega
    have ka : (at_ : Int) < 80 := by omega
    have ka0 : 0 ≤ (at_ : Int) := by omega
    have hro := g7 at_ hat
    have hfx := hM.1 at_ hat
    have C5 : c1 ((5, .int (iZ 1)) :: lv.filter (x_keep 5)) := c1_st (i := 5) (v := .int (iZ 1)) rfl hc
    have C4 := c1_st (i := 4) (v := .int (iZ ((at_ : Int) + 1))) rfl C5
    have go : ∀ (u : List Int) (w1 : Nat → xC), Fr ksC w w1 → LU w1 C b (t ++ u) → GS l w1 → (∀ res, Gx q_k50 (d + 2) 3 ((4, .int (iZ ((at_ : Int) + 1))) :: List.filter (x_keep 4) ((5, .int (iZ 1)) :: lv.filter (x_keep 5)), [], hp w1 N) res → Gx q_k50 (d + 2) 3 (lv, [], hp w N) res) →
        (t.length + (u ++ uV P fd K (seg P ((at_ + 1 : Nat) : Int) to_)).length ≤ 40 → ∃ w', Fr ksC w w' ∧ LU w' C b (t ++ (u ++ uV P fd K (seg P ((at_ + 1 : Nat) : Int) to_))) ∧ GS l w' ∧ Gx q_k50 (d + 2) 3 (lv, [], hp w N) (some (.int (iZ 1)), hp w' N)) ∧
        (40 < t.length + (u ++ uV P fd K (seg P ((at_ + 1 : Nat) : Int) to_)).length → ∃ w', Fr ksC w w' ∧ FF w' ∧ GS l w' ∧ Gx q_k50 (d + 2) 3 (lv, [], hp w N) (some (.int (iZ 0)), hp w' N)) := fun u w1 F1 L1 G1 hrun => by
      have I := ih (at_ + 1) C b (t ++ u) w1 _ (by omega) L1 G1 (hB.mv F1) C4 (by rw [lk_s C5, lk_s hc]; exact l0) (by rw [lk_s C5, lk_s hc]; exact l2) (by rw [lk_s C5, lk_s hc]; exact l3) (by rw [lk_s C5]; rfl)
      rw [List.append_assoc, List.length_append] at I
      refine ⟨fun h => ?_, fun h => ?_⟩
      · rw [List.length_append] at h
        obtain ⟨w', i1, i2, i3, i4⟩ := I.1 (by omega)
        exact ⟨w', F1.tr i1, i2, i3, hrun _ i4⟩
      · rw [List.length_append] at h
        obtain ⟨w', i1, i2, i3, i4⟩ := I.2 (by omega)
        exact ⟨w', F1.tr i1, i2, i3, hrun _ i4⟩
    by_cases hv : pz P at_ < 99
    · have hv' := z3.mp hv
      rw [decide_eq_true hv', bZ_t] at X2
      rw [if_pos hv, sg_v hM.2.2.1 hM.2.1 hat hv]
      have efd : ex P fd K (fd at_) = ex P fd K at_ := ex_fd hM.2.1 (hM.2.1 at_ hat)
      have A := m51 (P := P) (fd := fd) (K := K) (E := E) (B := B) (c := C.length) (o := (flt C).length) d hN (by omega) (by omega) (by omega) (by omega) (fd at_) hfx (by omega) (by omega) hg hO nO hf nS hB
      rw [efd] at A
      have lr : (ren (fV P fd) (ex P fd K at_)).length = (ex P fd K at_).length := ren_len _ _
      by_cases hfit : t.length + (ex P fd K at_).length ≤ 40
      · obtain ⟨w1, S', Os', j1, j2, j3, j4, j5, j6, j7, j8, j9⟩ := A.1 (by omega)
        refine go _ w1 j1 (LU_ext (S := S) (by rw [lr]; exact j2) j3 lE lB hW hgv hb ht f40 c6 hsg ?_ (by rw [lr]; exact hfit) j4 (fun j hj => ?_)) ⟨_, Os', j6, j7, j8⟩ (fun res hres => ?_)
        · have := uV_sg hB (u := [pz P at_]) (fun s hs => by rw [List.mem_singleton] at hs; rw [hs]; exact pz_mem hat)
          rw [uV_cons, uV_nil, List.append_nil, if_pos hv, sg_v hM.2.2.1 hM.2.1 hat hv] at this
          exact this
        · rw [lr] at hj
          rw [j5 j hj, ren_fV hj]
        · refine Gx.run 60 (X2.and j9) (fun X mm => ?_) hres
          obtain ⟨mm2, mm5⟩ := mm
          simp (disch := first | (refine c1_id ?_; assumption) | (refine c1_st rfl ?_; repeat (first | assumption | refine c1_st rfl ?_)) | omega) [nx_l, nx_r, nx_n, x_st, x_push, x_bin, x_div, x_un, x_dup, x_pop, x_dup2, x_goto, x_ifeq, x_ifne, x_iflt, x_ifge, x_ifgt, x_ifle, x_iceq, x_icne, x_iclt, x_icge, x_icgt, x_icle, x_ifnull, x_ifnonnull, x_ldi, x_lda, x_sti, x_sta, x_iinc, x_gf, x_pf, x_ald, x_ast, x_aln, x_len, x_cl_, x_cv, x_cs, x_rc, x_r0, x_isT, x_oi, x_rv, x_ri, x_ra, Value.category, t50_0, t50_1, t50_3, t50_5, t50_6, t50_9, t50_11, t50_12, t50_15, t50_18, t50_19, t50_22, t50_24, t50_25, t50_28, t50_31, t50_32, t50_33, t50_36, t50_38, t50_39, t50_40, t50_43, t50_46, t50_47, t50_48, t50_51, t50_53, t50_54, t50_57, t50_59, t50_61, t50_64, t50_65, t50_66, t50_69, t50_72, t50_73, lk_s, hp_get, hp_set, uH_at, uH_ne, uH_upd, uH_swap, iZ_add, iZ_sub, iZ_mul, iZ_neg, iZ_lt, iZ_le, iZ_eq, iZ_div, iZ_of, ix_Z, gZ_map, gZ_mapI, gZ_map', le_0, le_s, sZ_map, sZ_len, bZ_0, bZ_inj, bZ_t, bZ_f, nr_i, nr_0, nr_1, nr_b, ft_i, ft_b, ft_0, ft_1, zl_0, zl_1, l0, l2, l3, l4, hg, g1, g5, hsy', hro, b1, b2, mm2, mm5, gO, gF, -List.filter_filter, -List.getElem?_map, -List.getD_eq_getElem?_getD]
      · obtain ⟨w1, S', Os', ln', wt', j1, j2, j3, j4, j5, j6, j7, j8, j9, j10⟩ := A.2 (by omega)
        refine ⟨fun h => absurd h (by rw [List.length_append, lr]; omega), fun _ => ⟨w1, j1, ⟨S', E, B, _, _, _, j2, j3, lE, lB⟩, ⟨_, Os', j4, j5, j6⟩, Gx.fin 60 (X2.and j10) (fun X mm => ?_)⟩⟩
        obtain ⟨mm2, mm5⟩ := mm
        simp (disch := first | (refine c1_id ?_; assumption) | (refine c1_st rfl ?_; repeat (first | assumption | refine c1_st rfl ?_)) | omega) [nx_l, nx_r, nx_n, x_st, x_push, x_bin, x_div, x_un, x_dup, x_pop, x_dup2, x_goto, x_ifeq, x_ifne, x_iflt, x_ifge, x_ifgt, x_ifle, x_iceq, x_icne, x_iclt, x_icge, x_icgt, x_icle, x_ifnull, x_ifnonnull, x_ldi, x_lda, x_sti, x_sta, x_iinc, x_gf, x_pf, x_ald, x_ast, x_aln, x_len, x_cl_, x_cv, x_cs, x_rc, x_r0, x_isT, x_oi, x_rv, x_ri, x_ra, Value.category, t50_0, t50_1, t50_3, t50_5, t50_6, t50_9, t50_11, t50_12, t50_15, t50_18, t50_19, t50_22, t50_24, t50_25, t50_28, t50_31, t50_32, t50_33, t50_36, t50_38, t50_39, t50_40, t50_43, t50_46, t50_47, t50_48, t50_51, t50_53, t50_54, t50_57, t50_59, t50_61, t50_64, t50_65, t50_66, t50_69, t50_72, t50_73, lk_s, hp_get, hp_set, uH_at, uH_ne, uH_upd, uH_swap, iZ_add, iZ_sub, iZ_mul, iZ_neg, iZ_lt, iZ_le, iZ_eq, iZ_div, iZ_of, ix_Z, gZ_map, gZ_mapI, gZ_map', le_0, le_s, sZ_map, sZ_len, bZ_0, bZ_inj, bZ_t, bZ_f, nr_i, nr_0, nr_1, nr_b, ft_i, ft_b, ft_0, ft_1, zl_0, zl_1, l0, l2, l3, l4, hg, g1, g5, hsy', hro, b1, b2, mm2, mm5, gO, gF, -List.filter_filter, -List.getElem?_map, -List.getD_eq_getElem?_getD]
    · have hv' : ¬ 128 ≤ sy := fun z => hv (z3.mpr z)
      rw [decide_eq_false hv', bZ_f] at X2
      rw [if_neg hv]
      have er : ren (fV P fd) [pz P at_] = [pz P at_] := by
        unfold ren
        rw [List.map_cons, List.map_nil, if_neg hv]
      rw [er]
      have esy : sy = vc (pz P at_) := by rw [hsy]; exact g10 at_ hat hv
      have hfN : fN N 12 S E B := ⟨by omega, by omega, by omega, by omega⟩
      have X4 := m16 (w := w) (a := 12) (d + 1) sy hf hfN (by omega) (by omega) (by omega) (by omega)
      by_cases hfit : t.length + 1 ≤ 40
      · have hp2 : puL S ((flt C).length + t.length) (flt C).length = true := decide_eq_true ⟨by omega, by omega⟩
        rw [if_pos hp2] at X4
        have hf1 := hf.put sy
        obtain ⟨w1, hw1⟩ : ∃ w1, w1 = uH (uH w 12 (fC 12 C.length ((flt C).length + t.length + 1) (flt C).length)) 13 (cI 0 (sZ S ((flt C).length + t.length) sy)) := ⟨_, rfl⟩
        have X4' : Xc (d + 2) 16 [.ref 15, .int (iZ sy)] (hp w N) (some (.int (iZ 1)), hp w1 N) := by rw [hw1]; exact X4
        rw [← hw1] at hf1
        have F1 : Fr ksC w w1 := by rw [hw1]; exact ((Fr.rf _ _).up (by decide)).up (by decide)
        refine go _ w1 F1 (LU_ext (S := S) (u := [pz P at_]) hf1 (by rw [sZ_len]; exact nS) lE lB hW hgv hb ht f40 c6 hsg (fun s hs => by rw [List.mem_singleton] at hs; rw [hs]; exact g11 at_ hat) hfit (fun j j0 jl => by rw [gZ_sZ (by omega) (by omega) j0, if_neg (by omega)]) (fun j hj => ?_)) ⟨wt, Os, by rw [hw1, uH_ne (by decide), uH_ne (by decide)]; exact hg, by rw [hw1, uH_ne (by decide), uH_ne (by decide)]; exact hO, nO⟩ (fun res hres => ?_)
        · have ej : j = 0 := by simp only [List.length_singleton] at hj; omega
          rw [ej, gZ_sZ (by omega) (by omega) (by omega), if_pos (by omega), esy]
          rfl
        · obtain ⟨fa, fs, fe, fg⟩ := hf
          refine Gx.run 60 (X2.and X4') (fun X mm => ?_) hres
          obtain ⟨mm2, mm5⟩ := mm
          simp (disch := first | (refine c1_id ?_; assumption) | (refine c1_st rfl ?_; repeat (first | assumption | refine c1_st rfl ?_)) | omega) [nx_l, nx_r, nx_n, x_st, x_push, x_bin, x_div, x_un, x_dup, x_pop, x_dup2, x_goto, x_ifeq, x_ifne, x_iflt, x_ifge, x_ifgt, x_ifle, x_iceq, x_icne, x_iclt, x_icge, x_icgt, x_icle, x_ifnull, x_ifnonnull, x_ldi, x_lda, x_sti, x_sta, x_iinc, x_gf, x_pf, x_ald, x_ast, x_aln, x_len, x_cl_, x_cv, x_cs, x_rc, x_r0, x_isT, x_oi, x_rv, x_ri, x_ra, Value.category, t50_0, t50_1, t50_3, t50_5, t50_6, t50_9, t50_11, t50_12, t50_15, t50_18, t50_19, t50_22, t50_24, t50_25, t50_28, t50_31, t50_32, t50_33, t50_36, t50_38, t50_39, t50_40, t50_43, t50_46, t50_47, t50_48, t50_51, t50_53, t50_54, t50_57, t50_59, t50_61, t50_64, t50_65, t50_66, t50_69, t50_72, t50_73, lk_s, hp_get, hp_set, uH_at, uH_ne, uH_upd, uH_swap, iZ_add, iZ_sub, iZ_mul, iZ_neg, iZ_lt, iZ_le, iZ_eq, iZ_div, iZ_of, ix_Z, gZ_map, gZ_mapI, gZ_map', le_0, le_s, sZ_map, sZ_len, bZ_0, bZ_inj, bZ_t, bZ_f, nr_i, nr_0, nr_1, nr_b, ft_i, ft_b, ft_0, ft_1, zl_0, zl_1, l0, l2, l3, l4, hg, g1, g5, fa, hsy', hro, b1, b2, mm2, mm5, gO, gF, -List.filter_filter, -List.getElem?_map, -List.getD_eq_getElem?_getD]
      · have hp2 : ¬ puL S ((flt C).length + t.length) (flt C).length = true := fun z => hfit (by have := (of_decide_eq_true z).2; omega)
        rw [if_neg hp2] at X4
        have X4' : Xc (d + 2) 16 [.ref 15, .int (iZ sy)] (hp w N) (some (.int (iZ 0)), hp w N) := X4
        refine ⟨fun h => absurd h (by rw [List.length_append, List.length_singleton]; omega), fun _ => ⟨w, Fr.rf _ _, ⟨S, E, B, _, _, _, hf, nS, lE, lB⟩, ⟨wt, Os, hg, hO, nO⟩, Gx.fin 60 (X2.and X4') (fun X mm => ?_)⟩⟩
        obtain ⟨mm2, mm5⟩ := mm
        obtain ⟨fa, fs, fe, fg⟩ := hf
        simp (disch := first | (refine c1_id ?_; assumption) | (refine c1_st rfl ?_; repeat (first | assumption | refine c1_st rfl ?_)) | omega) [nx_l, nx_r, nx_n, x_st, x_push, x_bin, x_div, x_un, x_dup, x_pop, x_dup2, x_goto, x_ifeq, x_ifne, x_iflt, x_ifge, x_ifgt, x_ifle, x_iceq, x_icne, x_iclt, x_icge, x_icgt, x_icle, x_ifnull, x_ifnonnull, x_ldi, x_lda, x_sti, x_sta, x_iinc, x_gf, x_pf, x_ald, x_ast, x_aln, x_len, x_cl_, x_cv, x_cs, x_rc, x_r0, x_isT, x_oi, x_rv, x_ri, x_ra, Value.category, t50_0, t50_1, t50_3, t50_5, t50_6, t50_9, t50_11, t50_12, t50_15, t50_18, t50_19, t50_22, t50_24, t50_25, t50_28, t50_31, t50_32, t50_33, t50_36, t50_38, t50_39, t50_40, t50_43, t50_46, t50_47, t50_48, t50_51, t50_53, t50_54, t50_57, t50_59, t50_61, t50_64, t50_65, t50_66, t50_69, t50_72, t50_73, lk_s, hp_get, hp_set, uH_at, uH_ne, uH_upd, uH_swap, iZ_add, iZ_sub, iZ_mul, iZ_neg, iZ_lt, iZ_le, iZ_eq, iZ_div, iZ_of, ix_Z, gZ_map, gZ_mapI, gZ_map', le_0, le_s, sZ_map, sZ_len, bZ_0, bZ_inj, bZ_t, bZ_f, nr_i, nr_0, nr_1, nr_b, ft_i, ft_b, ft_0, ft_1, zl_0, zl_1, l0, l2, l3, l4, hg, g1, g5, fa, hsy', hro, b1, b2, mm2, mm5, gO, gF, -List.filter_filter, -List.getElem?_map, -List.getD_eq_getElem?_getD]
theorem m50 (d : Nat) (hN : 53 ≤ N) {to_ : Nat} (hto : to_ ≤ P.length) (fr : Nat) (hft : fr ≤ to_) {C : List (Int × List Int)} {b : Int} {t : List Int} {w : Nat → xC} (hL : LU w C b t) (hG : GS l w) (hB : GB w P Sy Ee Ro l fd rk K) :
    (t.length + (uV P fd K (seg P fr to_)).length ≤ 40 → ∃ w', Fr ksC w w' ∧ LU w' C b (t ++ uV P fd K (seg P fr to_)) ∧ GS l w' ∧ Xc (d + 3) 50 [.ref 19, .int (iZ (fr : Int)), .int (iZ (to_ : Int)), .ref 15] (hp w N) (some (.int (iZ 1)), hp w' N)) ∧
    (40 < t.length + (uV P fd K (seg P fr to_)).length → ∃ w', Fr ksC w w' ∧ FF w' ∧ GS l w' ∧ Xc (d + 3) 50 [.ref 19, .int (iZ (fr : Int)), .int (iZ (to_ : Int)), .ref 15] (hp w N) (some (.int (iZ 0)), hp w' N)) := by
  have hc : c1 (lv_args 0 [.ref 19, .int (iZ (fr : Int)), .int (iZ (to_ : Int)), .ref 15]) := by simp [c1, lv_args, Value.category]
  have l0 : x_lk (lv_args 0 [.ref 19, .int (iZ (fr : Int)), .int (iZ (to_ : Int)), .ref 15]) 0 = some (.ref 19) := rfl
  have l1 : x_lk (lv_args 0 [.ref 19, .int (iZ (fr : Int)), .int (iZ (to_ : Int)), .ref 15]) 1 = some (.int (iZ (fr : Int))) := rfl
  have l2 : x_lk (lv_args 0 [.ref 19, .int (iZ (fr : Int)), .int (iZ (to_ : Int)), .ref 15]) 2 = some (.int (iZ (to_ : Int))) := rfl
  have l3 : x_lk (lv_args 0 [.ref 19, .int (iZ (fr : Int)), .int (iZ (to_ : Int)), .ref 15]) 3 = some (.ref 15) := rfl
  have C4 := c1_st (i := 4) (v := .int (iZ (fr : Int))) rfl hc
  have I := l50 (P := P) (fd := fd) (K := K) d hN hto (to_ - fr) fr C b t w _ (by omega) hL hG hB C4 (by rw [lk_s hc]; exact l0) (by rw [lk_s hc]; exact l2) (by rw [lk_s hc]; exact l3) (by rw [lk_s hc]; rfl)
  have g0 : ∀ res, Gx q_k50 (d + 2) 3 ((4, .int (iZ (fr : Int))) :: List.filter (x_keep 4) (lv_args 0 [.ref 19, .int (iZ (fr : Int)), .int (iZ (to_ : Int)), .ref 15]), [], hp w N) res → Gx q_k50 (d + 2) 0 ((lv_args 0 [.ref 19, .int (iZ (fr : Int)), .int (iZ (to_ : Int)), .ref 15]), [], hp w N) res := fun res hgg => by
    generalize lv_args 0 [.ref 19, .int (iZ (fr : Int)), .int (iZ (to_ : Int)), .ref 15] = lv at hc l0 l1 l2 l3 hgg
    refine Gx.run 10 Cs.tt (fun X _ => ?_) hgg
    simp (disch := first | (refine c1_id ?_; assumption) | (refine c1_st rfl ?_; repeat (first | assumption | refine c1_st rfl ?_)) | omega) [nx_l, nx_r, nx_n, x_st, x_push, x_bin, x_div, x_un, x_dup, x_pop, x_dup2, x_goto, x_ifeq, x_ifne, x_iflt, x_ifge, x_ifgt, x_ifle, x_iceq, x_icne, x_iclt, x_icge, x_icgt, x_icle, x_ifnull, x_ifnonnull, x_ldi, x_lda, x_sti, x_sta, x_iinc, x_gf, x_pf, x_ald, x_ast, x_aln, x_len, x_cl_, x_cv, x_cs, x_rc, x_r0, x_isT, x_oi, x_rv, x_ri, x_ra, Value.category, t50_0, t50_1, t50_3, t50_5, t50_6, t50_9, t50_11, t50_12, t50_15, t50_18, t50_19, t50_22, t50_24, t50_25, t50_28, t50_31, t50_32, t50_33, t50_36, t50_38, t50_39, t50_40, t50_43, t50_46, t50_47, t50_48, t50_51, t50_53, t50_54, t50_57, t50_59, t50_61, t50_64, t50_65, t50_66, t50_69, t50_72, t50_73, lk_s, hp_get, hp_set, uH_at, uH_ne, uH_upd, uH_swap, iZ_add, iZ_sub, iZ_mul, iZ_neg, iZ_lt, iZ_le, iZ_eq, iZ_div, iZ_of, ix_Z, gZ_map, gZ_mapI, gZ_map', le_0, le_s, sZ_map, sZ_len, bZ_0, bZ_inj, bZ_t, bZ_f, nr_i, nr_0, nr_1, nr_b, ft_i, ft_b, ft_0, ft_1, zl_0, zl_1, l1, -List.filter_filter, -List.getElem?_map, -List.getD_eq_getElem?_getD]
  have fk : ∀ w', Fr ksC w w' → Fr ksD w w' := fun w' h => h.sub (by decide)
  refine ⟨fun h => ?_, fun h => ?_⟩
  · obtain ⟨w', i1, i2, i3, i4⟩ := I.1 h
    exact ⟨w', i1, i2, i3, Xc.of rfl (by simp [lg_sl, Value.category]) (g0 _ i4) (sz_le (fk _ i1) hL.ff i2.ff hG i3)⟩
  · obtain ⟨w', i1, i2, i3, i4⟩ := I.2 h
    exact ⟨w', i1, i2, i3, Xc.of rfl (by simp [lg_sl, Value.category]) (g0 _ i4) (sz_le (fk _ i1) hL.ff i2 hG i3)⟩
end CV
