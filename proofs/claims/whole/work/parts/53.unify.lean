/-! the reference: unify, whole -/

theorem UI.congr {a0 b0 : List Int} {σ τ : Int → List Int} {L : List (List Int × List Int)} (h : UI a0 b0 σ L) (e : ∀ v, v < 99 → σ v = τ v) : UI a0 b0 τ L := by
  have es : ∀ t, sub τ t = sub σ t := fun t => sub_congr (fun v _ hv => (e v hv).symm)
  obtain ⟨h1, h2, h3, h4⟩ := h
  refine ⟨fun v hv => by rw [← e v hv]; exact h1 v hv, fun v hv => by rw [es, ← e v hv]; exact h2 v hv, fun θ hθ k => ⟨fun v hv => by rw [← e v hv]; exact (h3 θ hθ k).1 v hv, (h3 θ hθ k).2⟩, fun θ hθ k g => h4 θ hθ (fun v hv => by rw [e v hv]; exact k v hv) g⟩
section UN
variable {w : Nat → xC} {N : Nat} {m : Nat → Int} {S Bd Lf Rg St En : List Int}
theorem unH_0 (hB : w 46 = cI 0 Bd) (hSt : w 49 = cI 0 St) (hEn : w 50 = cI 0 En) (L R : List Int) : unH w N Bd L R St En = hp (uH (uH w 47 (cI 0 L)) 48 (cI 0 R)) N := by
  unfold unH
  rw [uH_self hB, uH_self (a := 49) (c := cI 0 St) (by rw [uH_ne (by omega), uH_ne (by omega)]; exact hSt), uH_self (a := 50) (c := cI 0 En) (by rw [uH_ne (by omega), uH_ne (by omega)]; exact hEn)]
theorem m113 (d : Nat) (hN : 53 ≤ N) (hm : w 27 = .inr (8, mF m)) (hW : w 45 = cI 0 S) (hS : SOK S) (hB : w 46 = cI 0 Bd) (bl : Bd.length = 52) (hBd : ∀ v, 0 ≤ v → v < 52 → gZ Bd v = -1) (hLf : w 47 = cI 0 Lf) (hRg : w 48 = cI 0 Rg) (hSt : w 49 = cI 0 St) (hEn : w 50 = cI 0 En) (s1 : Lf.length = 400) (s2 : Rg.length = 400) (s3 : St.length = 400) (s4 : En.length = 400) (a b : Int) (oa : okp S a) (ob : okp S b) :
    ∃ (Bd' Lf' Rg' St' En' : List Int) (r : Bool), Bd'.length = 52 ∧ Lf'.length = 400 ∧ Rg'.length = 400 ∧ St'.length = 400 ∧ En'.length = 400 ∧ Xc (d + 4) 113 [.ref 30, .int (iZ a), .int (iZ b)] (hp w N) (some (.int (iZ (bZ r))), unH w N Bd' Lf' Rg' St' En') ∧ (r = true → ∃ ρ', BdOK S Bd' ρ' ∧ Mg (sgm ρ') (tm S a.toNat) (tm S b.toNat)) ∧ (r = false → ∀ θ, Tσ θ → sub θ (tm S a.toNat) ≠ sub θ (tm S b.toNat)) := by
  have hl := hS.1
  have a88 := okp_lt oa
  have b88 := okp_lt ob
  have a0 := oa.1
  have b0 := ob.1
  have hneg : ∀ v, v < 99 → bdf Bd v < 0 := fun v _ => by
    unfold bdf
    split
    · next h => rw [hBd v h.1 h.2]; decide
    · decide
  have hOK : BdOK S Bd (fun v => [v]) := ⟨bl, fun v v0 v1 => ⟨by rw [hBd v v0 v1]; decide, fun z => by rw [hBd v v0 v1] at z; omega⟩, RB.init hneg, fun v => by simp⟩
  have e1 : gZ (sZ Lf 0 a) 0 = a := by rw [gZ_sZ (by omega) (by omega) (by omega), if_pos rfl]
  have e2 : gZ (sZ Rg 0 b) 0 = b := by rw [gZ_sZ (by omega) (by omega) (by omega), if_pos rfl]
  have hU : UI (tm S a.toNat) (tm S b.toNat) (sgm (fun v => [v])) (prs S (sZ Lf 0 a) (sZ Rg 0 b) [264].length) := by
    have := (UI.init (tm S a.toNat) (tm S b.toNat)).congr (τ := sgm (fun v => [v])) (fun v hv => by
      show [v] = er [v]
      rw [er_ne (by unfold mk_; omega)]
      rfl)
    show UI _ _ _ [(tm S (gZ (sZ Lf 0 a) 0).toNat, tm S (gZ (sZ Rg 0 b) 0).toNat)]
    rw [e1, e2]
    exact this
  have hc : c1 (lv_args 0 [.ref 30, .int (iZ a), .int (iZ b)]) := by simp [c1, lv_args, Value.category]
  have l0 : x_lk (lv_args 0 [.ref 30, .int (iZ a), .int (iZ b)]) 0 = some (.ref 30) := rfl
  have l1 : x_lk (lv_args 0 [.ref 30, .int (iZ a), .int (iZ b)]) 1 = some (.int (iZ a)) := rfl
  have l2 : x_lk (lv_args 0 [.ref 30, .int (iZ a), .int (iZ b)]) 2 = some (.int (iZ b)) := rfl
  obtain ⟨Bd', Lf', Rg', St', En', r, r1, r2, r3, r4, r5, r6, r7, r8⟩ := un_all d hN hm hW hS (tm S a.toNat) (tm S b.toNat) _ _ Bd (sZ Lf 0 a) (sZ Rg 0 b) St En (fun v => [v]) [264] 1 ((3, .int (iZ 1)) :: List.filter (x_keep 3) (lv_args 0 [.ref 30, .int (iZ a), .int (iZ b)])) hOK (by rw [sZ_len]; exact s1) (by rw [sZ_len]; exact s2) s3 s4 (Nat.le_refl _) (Nat.le_refl _) hU ⟨fun h => by omega, (fun _ h => by cases h), by omega, trivial⟩ (fun i hi => by
      obtain rfl : i = 0 := by simpa using hi
      exact ⟨by show okp S (gZ (sZ Lf 0 a) 0); rw [e1]; exact oa, by show okp S (gZ (sZ Rg 0 b) 0); rw [e2]; exact ob⟩) rfl (c1_st rfl hc) (by rw [lk_s hc]; exact l0) (by rw [lk_s hc]; rfl)
  refine ⟨Bd', Lf', Rg', St', En', r, r1, r2, r3, r4, r5, Xc.of rfl (by simp [lg_sl, Value.category]) ?_ (hp_le (Nat.le_refl _) (fun j _ => by (simp only [uH]; repeat' split) <;> simp_all [x_c1, sZ_len, cpl_len, mF_len])), r7, r8⟩
  rw [unH_0 hB hSt hEn] at r6
  generalize lv_args 0 [.ref 30, .int (iZ a), .int (iZ b)] = lv at hc l0 l1 l2 r6
  refine Gx.run 60 Cs.tt (fun C _ => ?_) r6
  simp (disch := first | (refine c1_id ?_; assumption) | (refine c1_st rfl ?_; repeat (first | assumption | refine c1_st rfl ?_)) | omega) [nx_l, nx_r, nx_n, x_st, x_push, x_bin, x_div, x_un, x_dup, x_pop, x_dup2, x_goto, x_ifeq, x_ifne, x_iflt, x_ifge, x_ifgt, x_ifle, x_iceq, x_icne, x_iclt, x_icge, x_icgt, x_icle, x_ifnull, x_ifnonnull, x_ldi, x_lda, x_sti, x_sta, x_iinc, x_gf, x_pf, x_ald, x_ast, x_aln, x_len, x_cl_, x_cv, x_cs, x_rc, x_r0, x_isT, x_oi, x_rv, x_ri, x_ra, Value.category, t113_0, t113_1, t113_2, t113_3, t113_6, t113_7, t113_8, t113_9, t113_10, t113_13, t113_14, t113_15, t113_16, t113_17, t113_20, t113_23, t113_24, t113_25, t113_28, t113_29, t113_30, t113_33, t113_35, t113_36, t113_37, t113_40, t113_41, t113_42, t113_45, t113_47, t113_48, t113_51, t113_53, t113_54, t113_56, t113_57, t113_60, t113_62, t113_63, t113_65, t113_67, t113_69, t113_72, t113_74, t113_76, t113_79, t113_80, t113_82, t113_84, t113_87, t113_90, t113_91, t113_92, t113_93, t113_96, t113_98, t113_100, t113_101, t113_104, t113_106, t113_108, t113_111, t113_113, t113_115, t113_118, t113_119, t113_121, t113_123, t113_126, t113_129, t113_130, t113_131, t113_132, t113_135, t113_137, t113_139, t113_140, t113_143, t113_145, t113_147, t113_150, t113_151, t113_152, t113_154, t113_156, t113_159, t113_161, t113_162, t113_163, t113_165, t113_167, t113_168, t113_169, t113_171, t113_172, t113_174, t113_176, t113_178, t113_181, t113_184, t113_185, t113_188, t113_189, t113_191, t113_192, t113_193, t113_196, t113_197, t113_199, t113_200, t113_203, t113_204, t113_206, t113_209, t113_211, t113_212, t113_214, t113_217, t113_219, t113_222, t113_225, t113_228, t113_229, lk_s, hp_get, hp_set, uH_at, uH_ne, uH_upd, uH_swap, iZ_add, iZ_sub, iZ_mul, iZ_neg, iZ_lt, iZ_le, iZ_eq, iZ_div, iZ_of, ix_Z, gZ_map, gZ_mapI, gZ_map', le_0, le_s, sZ_map, sZ_len, bZ_0, bZ_inj, bZ_t, bZ_f, nr_i, nr_0, nr_1, nr_b, ft_i, ft_b, ft_0, ft_1, zl_0, zl_1, zl_99, mF_len, mg_0, mg_1, mg_2, mg_3, mg_4, mg_5, mg_6, mg_7, mg_8, mg_9, mg_10, mg_11, mg_12, mg_13, mg_14, mg_15, mg_16, mg_17, mg_18, mg_19, mg_20, mg_21, mg_22, mg_23, mg_24, mg_25, mg_26, mg_27, mg_28, mg_29, mg_30, mg_31, mg_32, mg_33, mg_34, mg_35, mg_36, mg_37, mg_38, ms_0, ms_1, ms_2, ms_13, ms_14, ms_15, ms_16, ms_21, ms_22, ms_23, ms_24, ms_28, ms_36, ms_37, ms_38, st_at, st_ne, st_st, st_swap, l0, l1, l2, hm, hLf, hRg, -List.filter_filter, -List.getElem?_map, -List.getD_eq_getElem?_getD]
end UN
