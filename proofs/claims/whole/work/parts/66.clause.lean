/-! clauses in rows: symbols one behind another, beginnings, negations -/

def stC (C : List (Int × List Int)) (k : Nat) : Nat := (flt (C.take k)).length
def lC (C : List (Int × List Int)) (k : Nat) : Int × List Int := C.getD k (0, [])
def adL (C : List (Int × List Int)) (x : Int × List Int) : List (Int × List Int) := if x ∈ C then C else C ++ [x]
theorem flt_nil : flt [] = [] := rfl
theorem flt_cons (x : Int × List Int) (C : List (Int × List Int)) : flt (x :: C) = x.2 ++ flt C := by simp [flt]
theorem lC_mem {C : List (Int × List Int)} {k : Nat} (h : k < C.length) : lC C k ∈ C := by
  unfold lC
  rw [List.getD_eq_getElem?_getD, List.getElem?_eq_getElem h]
  exact List.getElem_mem h
theorem lC_app {C D : List (Int × List Int)} {k : Nat} (h : k < C.length) : lC (C ++ D) k = lC C k := by
  unfold lC
  rw [List.getD_eq_getElem?_getD, List.getD_eq_getElem?_getD, List.getElem?_append_left h]
theorem lC_end {C : List (Int × List Int)} {x : Int × List Int} : lC (C ++ [x]) C.length = x := by
  unfold lC
  rw [List.getD_eq_getElem?_getD, List.getElem?_append_right (Nat.le_refl _)]
  simp
theorem lC_of {C : List (Int × List Int)} {x : Int × List Int} (h : x ∈ C) : ∃ k, k < C.length ∧ lC C k = x := by
  obtain ⟨k, hk, e⟩ := List.getElem_of_mem h
  refine ⟨k, hk, ?_⟩
  unfold lC
  rw [List.getD_eq_getElem?_getD, List.getElem?_eq_getElem hk]
  exact e
theorem stC_0 (C : List (Int × List Int)) : stC C 0 = 0 := rfl
theorem take_lC {C : List (Int × List Int)} {k : Nat} (h : k < C.length) : C.take (k + 1) = C.take k ++ [lC C k] := by
  have e : lC C k = C[k] := by
    unfold lC
    rw [List.getD_eq_getElem?_getD, List.getElem?_eq_getElem h]
    rfl
  rw [e]
  exact (List.take_append_getElem h).symm
theorem stC_succ {C : List (Int × List Int)} {k : Nat} (h : k < C.length) : stC C (k + 1) = stC C k + (lC C k).2.length := by
  unfold stC
  rw [take_lC h, flt_app, List.length_append, flt_cons, flt_nil, List.append_nil]
theorem stC_all (C : List (Int × List Int)) : stC C C.length = (flt C).length := by
  unfold stC
  rw [List.take_length]
theorem stC_app {C D : List (Int × List Int)} {k : Nat} (h : k ≤ C.length) : stC (C ++ D) k = stC C k := by
  unfold stC
  rw [List.take_append_of_le_length h]
theorem stC_mono {C : List (Int × List Int)} : ∀ {k j : Nat}, j ≤ k → stC C j ≤ stC C k
  | 0, j, h => by
    have : j = 0 := by omega
    subst this
    exact Nat.le_refl _
  | k + 1, j, h => by
    by_cases e : j = k + 1
    · subst e
      exact Nat.le_refl _
    · have h1 := stC_mono (C := C) (show j ≤ k by omega)
      by_cases hk : k < C.length
      · rw [stC_succ hk]
        omega
      · have e2 : stC C (k + 1) = stC C k := by
          unfold stC
          rw [List.take_of_length_le (by omega), List.take_of_length_le (by omega)]
        rw [e2]
        exact h1
theorem flt_split {C : List (Int × List Int)} {k : Nat} (h : k < C.length) : flt C = flt (C.take k) ++ ((lC C k).2 ++ flt (C.drop (k + 1))) := by
  have e : C = C.take k ++ [lC C k] ++ C.drop (k + 1) := by
    rw [← take_lC h]
    exact (List.take_append_drop (k + 1) C).symm
  have e2 : flt C = flt (C.take k ++ [lC C k] ++ C.drop (k + 1)) := congrArg flt e
  rw [e2, flt_app, flt_app, flt_cons, flt_nil, List.append_nil, List.append_assoc]
theorem flt_at {C : List (Int × List Int)} {k i : Nat} (h : k < C.length) (hi : i < (lC C k).2.length) : (flt C).getD (stC C k + i) 0 = (lC C k).2.getD i 0 := by
  rw [flt_split h, List.getD_eq_getElem?_getD, List.getD_eq_getElem?_getD]
  unfold stC
  rw [List.getElem?_append_right (by omega), List.getElem?_append_left (by omega)]
  congr 2
  omega
def RW (C : List (Int × List Int)) (R Sa Mi : List Int) : Prop := (∀ j : Nat, j < (flt C).length → gZ R j = (flt C).getD j 0) ∧ (∀ k : Nat, k ≤ C.length → gZ Sa k = stC C k) ∧ ∀ k : Nat, k < C.length → gZ Mi k = (lC C k).1
def vC (C : List (Int × List Int)) : Prop := ∀ x ∈ C, (x.1 = 0 ∨ x.1 = 1) ∧ ∀ s ∈ x.2, 0 ≤ s ∧ s < 100000 ∧ (s < 99 → s < 52)
theorem vC.app {C D : List (Int × List Int)} (h : vC C) (g : vC D) : vC (C ++ D) := fun x hx => by
  rcases List.mem_append.mp hx with hx | hx
  · exact h x hx
  · exact g x hx
theorem vC.left {C D : List (Int × List Int)} (h : vC (C ++ D)) : vC C := fun x hx => h x (List.mem_append_left _ hx)
theorem getD_mem {l : List Int} {i : Nat} (h : i < l.length) : l.getD i 0 ∈ l := by
  rw [List.getD_eq_getElem?_getD, List.getElem?_eq_getElem h]
  exact List.getElem_mem h
theorem vC.flt {C : List (Int × List Int)} (h : vC C) {j : Nat} (hj : j < (flt C).length) : 0 ≤ (flt C).getD j 0 ∧ (flt C).getD j 0 < 100000 ∧ ((flt C).getD j 0 < 99 → (flt C).getD j 0 < 52) := by
  obtain ⟨x, hx, hs⟩ := flt_of (getD_mem hj)
  exact (h x hx).2 _ hs
theorem stC_lt {C : List (Int × List Int)} {k i : Nat} (h : k < C.length) (hi : i < (lC C k).2.length) : stC C k + i < (flt C).length := by
  have h1 := stC_succ h
  have h2 := stC_mono (C := C) (show k + 1 ≤ C.length from h)
  rw [stC_all] at h2
  omega
theorem RW.atom {C : List (Int × List Int)} {R Sa Mi : List Int} (h : RW C R Sa Mi) {k i : Nat} (hk : k < C.length) (hi : i < (lC C k).2.length) : gZ R (gZ Sa k + i) = (lC C k).2.getD i 0 := by
  rw [h.2.1 k (by omega), show ((stC C k : Nat) : Int) + (i : Int) = ((stC C k + i : Nat) : Int) by omega, h.1 _ (stC_lt hk hi), flt_at hk hi]
theorem RW.len {C : List (Int × List Int)} {R Sa Mi : List Int} (h : RW C R Sa Mi) {k : Nat} (hk : k < C.length) : gZ Sa ((k : Int) + 1) - gZ Sa k = (lC C k).2.length := by
  rw [show (k : Int) + 1 = ((k + 1 : Nat) : Int) by omega, h.2.1 k (by omega), h.2.1 (k + 1) (by omega), stC_succ hk]
  omega
theorem ssZ_iff (S : List Int) : ∀ (n : Nat) (x y : Int), ssZ S x y n = true ↔ ∀ i : Nat, i < n → gZ S (x + i) = gZ S (y + i)
  | 0, x, y => ⟨fun _ i hi => absurd hi (Nat.not_lt_zero _), fun _ => rfl⟩
  | n + 1, x, y => by
    show (decide (gZ S x = gZ S y) && ssZ S (x + 1) (y + 1) n) = true ↔ _
    rw [Bool.and_eq_true, decide_eq_true_iff, ssZ_iff S n]
    constructor
    · intro h i hi
      cases i with
      | zero => simpa using h.1
      | succ i =>
        have := h.2 i (by omega)
        rw [show x + ((i + 1 : Nat) : Int) = x + 1 + i by omega, show y + ((i + 1 : Nat) : Int) = y + 1 + i by omega]
        exact this
    · intro h
      refine ⟨by simpa using h 0 (by omega), fun i hi => ?_⟩
      have := h (i + 1) (by omega)
      rw [show x + ((i + 1 : Nat) : Int) = x + 1 + i by omega, show y + ((i + 1 : Nat) : Int) = y + 1 + i by omega] at this
      exact this
theorem twF_iff (f : Int → Bool) : ∀ (r : Nat) (q : Int), twF f r q = true ↔ ∃ j : Nat, j < r ∧ f (q + j) = true
  | 0, q => ⟨fun h => (by cases h), fun ⟨j, h, _⟩ => absurd h (Nat.not_lt_zero _)⟩
  | r + 1, q => by
    show (f q || twF f r (q + 1)) = true ↔ _
    rw [Bool.or_eq_true, twF_iff f r]
    constructor
    · rintro (h | ⟨j, hj, h⟩)
      · exact ⟨0, by omega, by simpa using h⟩
      · exact ⟨j + 1, by omega, by rw [show q + ((j + 1 : Nat) : Int) = q + 1 + j by omega]; exact h⟩
    · rintro ⟨j, hj, h⟩
      cases j with
      | zero => exact Or.inl (by simpa using h)
      | succ j => exact Or.inr ⟨j, by omega, by rw [show q + ((j + 1 : Nat) : Int) = q + 1 + j by omega] at h; exact h⟩
theorem getD_ext {a b : List Int} (hl : a.length = b.length) (h : ∀ i, i < a.length → a.getD i 0 = b.getD i 0) : a = b := by
  apply List.ext_getElem hl
  intro i h1 h2
  have := h i h1
  rw [List.getD_eq_getElem?_getD, List.getD_eq_getElem?_getD, List.getElem?_eq_getElem h1, List.getElem?_eq_getElem h2] at this
  exact this
theorem RW.same {C : List (Int × List Int)} {R Sa Mi : List Int} (h : RW C R Sa Mi) {k q : Nat} (hq : q < C.length) (hk : k < C.length) : sameL R Sa Mi k (lC C k).2.length q = true ↔ lC C q = lC C k := by
  unfold sameL
  rw [Bool.and_eq_true, Bool.and_eq_true, decide_eq_true_iff, decide_eq_true_iff, ssZ_iff, h.2.2 q hq, h.2.2 k hk, h.len hq]
  constructor
  · intro ⟨⟨h1, h2⟩, h3⟩
    have hl : (lC C q).2.length = (lC C k).2.length := by omega
    refine Prod.ext h1 (getD_ext hl (fun i hi => ?_))
    have := h3 i (by omega)
    rw [h.atom hq hi, h.atom hk (by omega)] at this
    exact this
  · intro e
    refine ⟨⟨by rw [e], by rw [e]⟩, fun i hi => ?_⟩
    rw [h.atom hq (by rw [e]; omega), h.atom hk (by omega), e]
theorem RW.twice {C : List (Int × List Int)} {x : Int × List Int} {R Sa Mi : List Int} (h : RW (C ++ [x]) R Sa Mi) : twF (sameL R Sa Mi C.length x.2.length) C.length 0 = decide (x ∈ C) := by
  rw [Bool.eq_iff_iff, twF_iff, decide_eq_true_iff]
  have hl : (C ++ [x]).length = C.length + 1 := by simp
  constructor
  · rintro ⟨j, hj, e⟩
    have := (h.same (k := C.length) (q := j) (by omega) (by omega)).mp (by rw [lC_end]; simpa using e)
    rw [lC_end, lC_app hj] at this
    rw [← this]
    exact lC_mem hj
  · intro hx
    obtain ⟨j, hj, e⟩ := lC_of hx
    refine ⟨j, hj, ?_⟩
    have := (h.same (k := C.length) (q := j) (by omega) (by omega)).mpr (by rw [lC_end, lC_app hj]; exact e)
    rw [lC_end] at this
    simpa using this
theorem RW.pop {C D : List (Int × List Int)} {R Sa Mi : List Int} (h : RW (C ++ D) R Sa Mi) : RW C R Sa Mi := by
  refine ⟨fun j hj => ?_, fun k hk => ?_, fun k hk => ?_⟩
  · rw [h.1 j (by rw [flt_app, List.length_append]; omega), flt_app, List.getD_eq_getElem?_getD, List.getD_eq_getElem?_getD, List.getElem?_append_left hj]
  · rw [h.2.1 k (by rw [List.length_append]; omega), stC_app hk]
  · rw [h.2.2 k (by rw [List.length_append]; omega), lC_app hk]
theorem RW.push {C : List (Int × List Int)} {x : Int × List Int} {R Sa Sa' Mi : List Int} (h : RW C R Sa Mi) (hx : ∀ j : Nat, j < x.2.length → gZ R ((flt C).length + j) = x.2.getD j 0) (hi : gZ Mi C.length = x.1) (hs : ∀ k : Nat, k ≤ C.length → gZ Sa' k = gZ Sa k) (he : gZ Sa' ((C.length : Int) + 1) = (flt C).length + x.2.length) : RW (C ++ [x]) R Sa' Mi := by
  have hl : (C ++ [x]).length = C.length + 1 := by simp
  have ef : flt (C ++ [x]) = flt C ++ x.2 := by rw [flt_app, flt_cons, flt_nil, List.append_nil]
  refine ⟨fun j hj => ?_, fun k hk => ?_, fun k hk => ?_⟩
  · rw [ef, List.length_append] at hj
    rw [ef, List.getD_eq_getElem?_getD]
    by_cases h1 : j < (flt C).length
    · rw [List.getElem?_append_left h1, h.1 j h1, List.getD_eq_getElem?_getD]
    · rw [List.getElem?_append_right (by omega)]
      have := hx (j - (flt C).length) (by omega)
      rw [show ((flt C).length : Int) + ((j - (flt C).length : Nat) : Int) = (j : Int) by omega, List.getD_eq_getElem?_getD] at this
      exact this
  · by_cases h1 : k ≤ C.length
    · rw [hs k h1, h.2.1 k h1, stC_app h1]
    · have : k = C.length + 1 := by omega
      subst this
      have e : stC (C ++ [x]) (C.length + 1) = (flt (C ++ [x])).length := by rw [← hl, stC_all]
      rw [e, ef, show ((C.length + 1 : Nat) : Int) = (C.length : Int) + 1 by omega, he, List.length_append]
      omega
  · by_cases h1 : k < C.length
    · rw [h.2.2 k h1, lC_app h1]
    · have : k = C.length := by omega
      subst this
      rw [lC_end, hi]
theorem st_same {m : Nat → Int} {i : Nat} {v : Int} (h : m i = v) : st_ m i v = m := by
  funext k
  unfold st_
  split
  · next e => rw [← h, e]
  · rfl
section EN
variable {w : Nat → xC} {N : Nat} {m : Nat → Int} {R Sa Mi : List Int} {C : List (Int × List Int)} {x : Int × List Int}
theorem m116A (d : Nat) (hN : 53 ≤ N) (hm : w 27 = .inr (8, mF m)) (hR : w 38 = cI 0 R) (s1 : R.length = 600) (hA : w 39 = cI 0 Sa) (s2 : Sa.length = 14) (hM : w 41 = cI 1 Mi) (s3 : Mi.length = 14) (h10 : m 10 = 0) (hW : RW C R Sa Mi) (hv : vC C) (hv2 : vC [x]) (hx : ∀ j : Nat, j < x.2.length → gZ R ((flt C).length + j) = x.2.getD j 0) (hi : gZ Mi C.length = x.1) (e8 : m 8 = C.length) (e7 : m 7 = (flt C).length + x.2.length) (k1 : C.length < 13) (n1 : x.2.length ≤ 100) (n2 : m 7 ≤ 500) :
    ∃ Sa' : List Int, Sa'.length = 14 ∧ RW (adL C x) R Sa' Mi ∧ Xc (d + 2) 116 [.ref 30] (hp w N) (none, hp (uH (uH w 27 (.inr (8, mF (st_ (st_ m 7 (flt (adL C x)).length) 8 (adL C x).length)))) 39 (cI 0 Sa')) N) := by
  have hW2 : RW (C ++ [x]) R (sZ Sa (m 8 + 1) (m 7)) Mi := hW.push hx hi (fun k hk => by rw [gZ_sZ (by omega) (by omega) (by omega), if_neg (by omega)]) (by rw [e8, gZ_sZ (by omega) (by omega) (by omega), if_pos rfl, e7])
  have eS := hW.2.1 C.length (Nat.le_refl _)
  rw [stC_all] at eS
  have hv3 : vC (C ++ [x]) := hv.app hv2
  have ef : flt (C ++ [x]) = flt C ++ x.2 := by rw [flt_app, flt_cons, flt_nil, List.append_nil]
  have k := m116 d (w := w) (N := N) hN hm hR s1 hA s2 hM s3 (fun i i0 i1 => by
    have g := hW2.1 i.toNat (by rw [ef, List.length_append]; omega)
    rw [show ((i.toNat : Nat) : Int) = i by omega] at g
    rw [g]
    have g9 := hv3.flt (j := i.toNat) (by rw [ef, List.length_append]; omega)
    exact ⟨g9.1, g9.2.1⟩) (fun i i0 i1 => by
    have g := hW.2.1 i.toNat (by omega)
    rw [show ((i.toNat : Nat) : Int) = i by omega] at g
    have g2 := stC_mono (C := C) (show i.toNat ≤ C.length by omega)
    rw [stC_all] at g2
    rw [g]
    omega) (fun i i0 i1 => by
    have g := hW2.2.2 i.toNat (by simp; omega)
    rw [show ((i.toNat : Nat) : Int) = i by omega] at g
    rw [g]
    exact (hv3 _ (lC_mem (by simp; omega))).1) (by omega) (by omega) (by rw [e8, eS, e7]; omega) (by rw [e8, eS, e7]; omega) n2 h10
  have et : twF (sameL R (sZ Sa (m 8 + 1) (m 7)) Mi (m 8) (m 7 - gZ Sa (m 8))) (m 8).toNat 0 = decide (x ∈ C) := by
    have g := hW2.twice
    have e1 : (m 8).toNat = C.length := by omega
    have e2 : m 7 - gZ Sa (m 8) = (x.2.length : Int) := by rw [e8, eS, e7]; omega
    rw [e1, e2]
    have e3 : sameL R (sZ Sa (m 8 + 1) (m 7)) Mi (m 8) (x.2.length : Int) = sameL R (sZ Sa (m 8 + 1) (m 7)) Mi (C.length : Int) (x.2.length : Int) := by rw [e8]
    rw [e3]
    exact g
  rw [et] at k
  refine ⟨sZ Sa (m 8 + 1) (m 7), by rw [sZ_len]; exact s2, ?_, ?_⟩
  · unfold adL
    split
    · exact hW2.pop
    · exact hW2
  · unfold adL
    by_cases hxc : x ∈ C
    · rw [if_pos hxc]
      rw [decide_eq_true hxc, if_pos rfl] at k
      have e4 : gZ Sa (m 8) = ((flt C).length : Int) := by rw [e8]; exact eS
      rw [e4] at k
      have e5 : st_ (st_ m 7 ((flt C).length : Int)) 8 (m 8) = st_ (st_ m 7 ((flt C).length : Int)) 8 (C.length : Int) := by rw [e8]
      rw [e5] at k
      exact k
    · rw [if_neg hxc]
      rw [decide_eq_false hxc, if_neg (by decide)] at k
      have e5 : st_ m 7 ((flt (C ++ [x])).length : Int) = m := st_same (by rw [e7, ef, List.length_append]; omega)
      have e6 : m 8 + 1 = ((C ++ [x]).length : Int) := by rw [e8]; simp
      rw [e5, ← e6]
      exact k
end EN
