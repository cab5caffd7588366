/-! loops: fuel is counted; the first: Arrays.fill of ints -/
theorem x_lk_keep : ∀ {lv : xL} {i j : Nat} {v : Value}, j ≠ i → x_lk lv j = some v → v.category ≠ 2 → x_lk (lv.filter (x_keep i)) j = some v
  | [], _, _, _, _, h, _ => by cases h
  | q :: t, i, j, v, hj, h, hv => by
    unfold x_lk at h
    split at h
    · next e =>
      cases h
      have hk : x_keep i q = true := by
        unfold x_keep
        have h1 : (q.1 == i) = false := by rw [e]; simpa using hj
        have h2 : (q.2.category == 2) = false := by simpa using hv
        rw [h1, h2]
        simp
      rw [List.filter_cons_of_pos hk]
      unfold x_lk
      rw [if_pos e]
    · next e =>
      have ih := x_lk_keep hj h hv
      by_cases hk : x_keep i q = true
      · rw [List.filter_cons_of_pos hk]
        unfold x_lk
        rw [if_neg e]
        exact ih
      · rw [List.filter_cons_of_neg hk]
        exact ih
theorem x_lk_new {lv : xL} {i : Nat} {v : Value} : x_lk ((i, v) :: lv) i = some v := if_pos rfl
theorem x_lk_old {lv : xL} {i j : Nat} {v w : Value} (hj : i ≠ j) (h : x_lk lv j = some w) (hw : w.category = 1) : x_lk ((i, v) :: lv.filter (x_keep i)) j = some w := by
  unfold x_lk
  rw [if_neg hj]
  exact x_lk_keep (Ne.symm hj) h (by rw [hw]; decide)
def x_fill (xs : List Int32) (i : Nat) (v : Int32) : List Int32 := xs.take i ++ List.replicate (xs.length - i) v
theorem x_fill_all {xs : List Int32} {v : Int32} : x_fill xs xs.length v = xs := by simp [x_fill]
theorem x_fill_set {xs : List Int32} {i : Nat} {v : Int32} (hi : i < xs.length) : x_fill (xs.set i v) (i + 1) v = x_fill xs i v := by
  unfold x_fill
  rw [List.length_set, List.take_set, show xs.length - i = (xs.length - (i + 1)) + 1 by omega, List.replicate_succ, List.take_succ]
  rw [List.getElem?_eq_getElem hi]
  simp only [Option.toList_some]
  rw [List.set_append_right _ _ (by rw [List.length_take]; omega)]
  rw [List.length_take, Nat.min_eq_left (by omega)]
  simp
set_option maxRecDepth 8000 in
theorem l148 (C : xF) (n a : Nat) (v : Int32) : ∀ (k i : Nat) (h : xH) (lv : xL) (xs : List Int32), i + k = xs.length → xs.length < 2 ^ 31 → h[a]? = some (.inl (0, .inl xs)) → x_lk lv 0 = some (.ref (a + 3)) → x_lk lv 1 = some (.int v) → x_lk lv 2 = some (.int (nI i)) → x_lk lv 3 = some (.int (nI xs.length)) →
    x_go q_k148 C (n + 9 * k + 4) 5 (lv, [], h) = some (none, h.set a (.inl (0, .inl (x_fill xs i v)))) := by
  intro k
  induction k with
  | zero =>
    intro i h lv xs hi hlen hO l0 l1 l2 l3
    obtain rfl : i = xs.length := by omega
    have hge : nI xs.length ≤ nI xs.length := nI_le (Nat.le_refl _) hlen
    rw [x_fill_all, x_same hO]
    simp [x_go, x_fetch, q_k148, q_k148_0, x_ldi, x_st, x_icge, x_rv, l2, l3, hge]
  | succ k ih =>
    intro i h lv xs hi hlen hO l0 l1 l2 l3
    have hlt : i < xs.length := by omega
    have hng : ¬ nI xs.length ≤ nI i := fun q => absurd (nI_lt hlt hlen) (Int32.not_lt.mpr q)
    have hix : x_ix (nI i) xs.length = some i := by
      unfold x_ix
      rw [if_neg, nI_clamp (by omega)]
      rintro (q | q)
      · exact nI_pos (by omega) q
      · rw [nI_clamp (by omega)] at q
        omega
    have ha : a < h.length := (List.getElem?_eq_some_iff.mp hO).1
    have hO' : (h.set a (.inl (0, .inl (xs.set i v))))[a]? = some (.inl (0, .inl (xs.set i v))) := List.getElem?_set_self ha
    have e := ih (i + 1) (h.set a (.inl (0, .inl (xs.set i v)))) ((2, .int (nI i + 1)) :: lv.filter (x_keep 2)) (xs.set i v) (by rw [List.length_set]; omega) (by rw [List.length_set]; exact hlen) hO'
      (x_lk_old (by decide) l0 rfl) (x_lk_old (by decide) l1 rfl) (by rw [nI_1]; exact x_lk_new) (by rw [List.length_set]; exact x_lk_old (by decide) l3 rfl)
    rw [x_fill_set hlt, List.set_set] at e
    rw [← e, show n + 9 * (k + 1) + 4 = (n + 9 * k + 4) + 9 by omega]
    simp [x_go, x_fetch, q_k148, q_k148_0, x_ldi, x_lda, x_st, x_icge, x_ast, x_iinc, x_goto, l0, l1, l2, l3, hng, hO, hix, -List.getElem?_eq_getElem, -getElem?_pos]
theorem e148 (F d a : Nat) (h : xH) (xs : List Int32) (v : Int32) (hO : h[a]? = some (.inl (0, .inl xs))) (hlen : xs.length < 2 ^ 31) (hF : 9 * xs.length + 9 ≤ F) :
    x_call x_tb F (d + 1) 148 [.ref (a + 3), .int v] h = some (none, h.set a (.inl (0, .inl (List.replicate xs.length v)))) := by
  have hsz : x_c1 (.inl (0, .inl (List.replicate xs.length v))) = x_c1 (.inl (0, .inl xs)) := by simp [x_c1]
  refine x_callE (cd := q_k148) (mL := 4) rfl (by simp [lg_sl, Value.category]) ?_ (x_le_set hO hsz)
  obtain ⟨n, rfl⟩ : ∃ n, F = (n + 9 * xs.length + 4) + 5 := ⟨F - (9 * xs.length + 9), by omega⟩
  have e := l148 (x_call x_tb ((n + 9 * xs.length + 4) + 5) d) n a v xs.length 0 h [(3, .int (nI xs.length)), (2, .int 0), (0, .ref (a + 3)), (1, .int v)] xs (by omega) hlen hO rfl rfl rfl rfl
  have e0 : x_fill xs 0 v = List.replicate xs.length v := by simp [x_fill]
  rw [e0] at e
  rw [← e]
  generalize x_call x_tb ((n + 9 * xs.length + 4) + 5) d = C
  simp [x_go, x_fetch, q_k148, q_k148_0, x_st, x_push, x_sti, x_lda, x_aln, x_len, x_lk, x_keep, lv_args, Value.category, hO, nI, -List.getElem?_eq_getElem, -getElem?_pos]
theorem x_cpy_take {xs : List Int32} {k : Nat} (hk : k ≤ xs.length) : x_cpy xs (List.replicate k 0) 0 0 k = xs.take k := by
  apply List.ext_getElem?
  intro j
  unfold x_cpy
  rw [List.getElem?_mapIdx, List.getElem?_replicate, List.getElem?_take]
  by_cases hj : j < k
  · have hjl : j < xs.length := by omega
    simp [hj, List.getD_eq_getElem?_getD, List.getElem?_eq_getElem hjl]
  · simp [hj]
set_option maxRecDepth 8000 in
theorem e149 (F d a k : Nat) (h : xH) (xs : List Int32) (hO : h[a]? = some (.inl (0, .inl xs))) (hk : k ≤ xs.length) (hlen : xs.length ≤ 1000000) :
    x_call x_tb (F + 30) (d + 1) 149 [.ref (a + 3), .int (nI k)] h = some (some (.ref (h.length + 3)), h ++ [.inl (0, .inl (xs.take k))]) := by
  refine x_callE (cd := q_k149) (mL := 3) rfl (by simp [lg_sl, Value.category]) ?_ x_le_push
  have ha : a < h.length := (List.getElem?_eq_some_iff.mp hO).1
  have hlN : Int32.ofNat xs.length = nI xs.length := rfl
  generalize x_call x_tb (F + 30) d = C
  by_cases hkl : k = xs.length
  · subst hkl
    rw [List.take_length]
    have g2 : ∀ c : xC, (h ++ [c])[h.length]? = some c := fun c => by simp
    simp [x_go, x_fetch, q_k149, q_k149_0, x_ldi, x_lda, x_lk, lv_args, Value.category, x_aln, x_len, x_st, x_icne, x_cln, x_cst, x_ra, hO, hlN, g2, -List.getElem?_eq_getElem, -getElem?_pos]
  · have hne : ¬ nI k = nI xs.length := fun q => hkl ((nI_eq (by omega) (by omega)).mp q)
    have hlt : nI k < nI xs.length := nI_lt (by omega) (by omega)
    have hp : ¬ nI k < 0 := nI_pos (by omega)
    have hc : (nI k).toNatClampNeg = k := nI_clamp (by omega)
    have h0c : (0 : Int32).toNatClampNeg = 0 := by decide
    have hkm : ¬ 1000000 < k := by omega
    have g1 : ∀ c : xC, (h ++ [c])[a]? = some (.inl (0, .inl xs)) := fun c => by rw [List.getElem?_append_left ha]; exact hO
    have g2 : ∀ c : xC, (h ++ [c])[h.length]? = some c := fun c => by simp
    have g3 : ∀ c c' : xC, (h ++ [c]).set h.length c' = h ++ [c'] := fun c c' => by simp
    have e := x_cpy_take hk
    simp [x_go, x_fetch, q_k149, q_k149_0, x_ldi, x_lda, x_sta, x_keep, x_lk, lv_args, Value.category, x_aln, x_len, x_st, x_icne, x_push, x_na, x_mm, x_acp, x_ra, hO, hlN, hne, hlt, hp, hc, h0c, hkm, hk, g1, g2, g3, e, -List.getElem?_eq_getElem, -getElem?_pos, -List.getElem?_append]
