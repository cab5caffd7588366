/-! the reference: occurs, whole -/

theorem ex_sizes {w w' : Nat → xC} {N : Nat} (h : ∀ j, x_c1 (w j) ≤ x_c1 (w' j)) : x_le (hp w N) (hp w' N) := hp_le (Nat.le_refl _) (fun j _ => h j)
section OC
variable {w : Nat → xC} {N : Nat} {m : Nat → Int} {S Bd St En : List Int} {ρ : Int → List Int}
theorem m112 (d : Nat) (hN : 53 ≤ N) (hm : w 27 = .inr (8, mF m)) (hS : w 45 = cI 0 S) (hB : w 46 = cI 0 Bd) (hSt : w 49 = cI 0 St) (hEn : w 50 = cI 0 En) (s1 : St.length = 400) (s2 : En.length = 400) (hl : S.length < 10000) (hbl : Bd.length = 52) (hr : ∀ i, 0 ≤ gZ S i ∧ gZ S i < 100000) (hv : ∀ i, gZ S i < 99 → gZ S i < 52) (hb : ∀ v, 0 ≤ v → v < 52 → -1 ≤ gZ Bd v ∧ gZ Bd v < S.length) (hbT : ∀ v, 0 ≤ v → v < 52 → 0 ≤ gZ Bd v → Ts 1 (tm S (gZ Bd v).toNat)) (hρ : RB S (bdf Bd) ρ) (hne : ∀ v, ρ v ≠ []) (v : Int) (hv0 : 0 ≤ v) (hv1 : v < 52) (hvb : gZ Bd v < 0)
    (p : Int) (p0 : 0 ≤ p) (p1 : p < S.length) (pT : Ts 1 (tm S p.toNat)) :
    ∃ St' En' : List Int, St'.length = 400 ∧ En'.length = 400 ∧ Xc (d + 3) 112 [.ref 30, .int (iZ v), .int (iZ p)] (hp w N) (some (.int (iZ (bZ (decide (v ∈ sub ρ (tm S p.toNat)))))), hp (uH (uH w 49 (cI 0 St')) 50 (cI 0 En')) N) := by
  have hf := tm_fit p0 p1
  have e1 : gZ (sZ St 0 p) 0 = p := by rw [gZ_sZ (by omega) (by omega) (by omega), if_pos rfl]
  have e2 : gZ (sZ En 0 (p + (tm S p.toNat).length)) 0 = p + (tm S p.toNat).length := by rw [gZ_sZ (by omega) (by omega) (by omega), if_pos rfl]
  have hF : FrOK S ρ (sZ St 0 p) (sZ En 0 (p + (tm S p.toNat).length)) [] := by
    show 0 ≤ gZ (sZ St 0 p) 0 ∧ gZ (sZ St 0 p) 0 ≤ gZ (sZ En 0 _) 0 ∧ gZ (sZ En 0 _) 0 ≤ _
    rw [e1, e2]
    omega
  have etr : frT S ρ (sZ St 0 p) (sZ En 0 (p + (tm S p.toNat).length)) (([] : List Int).length + 1) = sub ρ (tm S p.toNat) := by
    show sub ρ (seg S (gZ (sZ St 0 p) 0) (gZ (sZ En 0 _) 0)) ++ [] = _
    rw [e1, e2, seg_tm p0, List.append_nil]
  have hc : c1 (lv_args 0 [.ref 30, .int (iZ v), .int (iZ p)]) := by simp [c1, lv_args, Value.category]
  have l0 : x_lk (lv_args 0 [.ref 30, .int (iZ v), .int (iZ p)]) 0 = some (.ref 30) := rfl
  have l1 : x_lk (lv_args 0 [.ref 30, .int (iZ v), .int (iZ p)]) 1 = some (.int (iZ v)) := rfl
  have l2 : x_lk (lv_args 0 [.ref 30, .int (iZ v), .int (iZ p)]) 2 = some (.int (iZ p)) := rfl
  obtain ⟨St', En', k1, k2, k3⟩ := l112 d hN hm hS hB hl hbl hr hv hb hbT hρ hne v hv0 hv1 hvb _ (sZ St 0 p) (sZ En 0 (p + (tm S p.toNat).length)) [] 1 ((3, .int (iZ 1)) :: List.filter (x_keep 3) (lv_args 0 [.ref 30, .int (iZ v), .int (iZ p)])) (by rw [sZ_len]; exact s1) (by rw [sZ_len]; exact s2) rfl hF (Nat.le_refl _) (c1_st rfl hc) (by rw [lk_s hc]; exact l0) (by rw [lk_s hc]; exact l1) (by rw [lk_s hc]; rfl)
  rw [etr] at k3
  refine ⟨St', En', k1, k2, Xc.of rfl (by simp [lg_sl, Value.category]) ?_ (hp_le (Nat.le_refl _) (fun j _ => by (simp only [uH]; repeat' split) <;> simp_all [x_c1, sZ_len, cpl_len, mF_len]))⟩
  generalize lv_args 0 [.ref 30, .int (iZ v), .int (iZ p)] = lv at hc l0 l1 l2 k3
  have mm := m109 d (w := uH w 49 (cI 0 (sZ St 0 p))) (m := m) (S := S) (N := N) hN (by rw [uH_ne (by omega)]; exact hm) (by rw [uH_ne (by omega)]; exact hS) hl hr p p0 pT
  refine Gx.run 60 mm (fun C mm => ?_) k3
  simp (disch := first | (refine c1_id ?_; assumption) | (refine c1_st rfl ?_; first | assumption | (refine c1_st rfl ?_; first | assumption | (refine c1_st rfl ?_; first | assumption | (refine c1_st rfl ?_; assumption)))) | omega) [nx_l, nx_r, nx_n, x_st, x_push, x_bin, x_div, x_un, x_dup, x_pop, x_dup2, x_goto, x_ifeq, x_ifne, x_iflt, x_ifge, x_ifgt, x_ifle, x_iceq, x_icne, x_iclt, x_icge, x_icgt, x_icle, x_ifnull, x_ifnonnull, x_ldi, x_lda, x_sti, x_sta, x_iinc, x_gf, x_pf, x_ald, x_ast, x_aln, x_len, x_cl_, x_cv, x_cs, x_rc, x_r0, x_isT, x_oi, x_rv, x_ri, x_ra, Value.category, t112_0, t112_1, t112_2, t112_3, t112_6, t112_7, t112_8, t112_9, t112_10, t112_13, t112_14, t112_15, t112_16, t112_19, t112_20, t112_21, t112_24, t112_25, t112_28, t112_29, t112_30, t112_31, t112_32, t112_34, t112_36, t112_37, t112_40, t112_41, t112_42, t112_43, t112_44, t112_47, t112_50, t112_53, t112_54, t112_57, t112_58, t112_59, t112_60, t112_61, t112_62, t112_63, t112_64, t112_65, t112_66, t112_69, t112_71, t112_72, t112_74, t112_76, t112_77, t112_80, t112_81, t112_82, t112_84, t112_86, t112_89, t112_90, t112_93, t112_95, t112_96, t112_99, t112_100, t112_103, t112_104, t112_105, t112_108, t112_110, t112_111, t112_112, t112_113, t112_116, t112_117, t112_118, t112_119, t112_122, t112_124, t112_125, t112_128, t112_129, t112_132, t112_135, t112_136, lk_s, hp_get, hp_set, uH_at, uH_ne, uH_upd, uH_swap, iZ_add, iZ_sub, iZ_mul, iZ_neg, iZ_lt, iZ_le, iZ_eq, iZ_div, iZ_of, ix_Z, gZ_map, gZ_mapI, gZ_map', le_0, le_s, sZ_map, sZ_len, bZ_0, bZ_inj, bZ_t, bZ_f, nr_i, nr_0, nr_1, nr_b, ft_i, ft_b, ft_0, ft_1, zl_0, zl_1, zl_99, mF_len, mg_0, mg_1, mg_2, mg_3, mg_4, mg_5, mg_6, mg_7, mg_8, mg_9, mg_10, mg_11, mg_12, mg_13, mg_14, mg_15, mg_16, mg_17, mg_18, mg_19, mg_20, mg_21, mg_22, mg_23, mg_24, mg_25, mg_26, mg_27, mg_28, mg_29, mg_30, mg_31, mg_32, mg_33, mg_34, mg_35, mg_36, mg_37, mg_38, ms_0, ms_1, ms_2, ms_13, ms_14, ms_15, ms_16, ms_21, ms_22, ms_23, ms_24, ms_28, ms_36, ms_37, ms_38, st_at, st_ne, st_st, st_swap, l0, l1, l2, hm, hSt, hEn, mm, -List.filter_filter, -List.getElem?_map, -List.getD_eq_getElem?_getD]
end OC
