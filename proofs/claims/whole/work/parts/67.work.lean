/-! the reference: a literal is begun, spread, ended; clauses are made of literals -/

def Fr (ks : List Nat) (w w' : Nat → xC) : Prop := ∀ j, ¬ j ∈ ks → w' j = w j
theorem Fr.rf (ks : List Nat) (w : Nat → xC) : Fr ks w w := fun _ _ => rfl
theorem Fr.tr {ks : List Nat} {w w' w'' : Nat → xC} (h : Fr ks w w') (g : Fr ks w' w'') : Fr ks w w'' := fun j hj => (g j hj).trans (h j hj)
theorem Fr.up {ks : List Nat} {w w' : Nat → xC} {a : Nat} {c : xC} (h : Fr ks w w') (ha : a ∈ ks) : Fr ks w (uH w' a c) := fun j hj => by
  have hne : j ≠ a := fun e => hj (by rw [e]; exact ha)
  rw [uH_ne hne]
  exact h j hj
theorem Fr.sub {ks ks' : List Nat} {w w' : Nat → xC} (h : Fr ks w w') (hs : ∀ j, j ∈ ks → j ∈ ks') : Fr ks' w w' := fun j hj => h j (fun z => hj (hs j z))
def ksW : List Nat := [27, 38, 39, 41, 49, 50]
def WK (w : Nat → xC) (m : Nat → Int) (R Sa Mi St En : List Int) : Prop := w 27 = .inr (8, mF m) ∧ w 38 = cI 0 R ∧ R.length = 600 ∧ w 39 = cI 0 Sa ∧ Sa.length = 14 ∧ w 41 = cI 1 Mi ∧ Mi.length = 14 ∧ w 49 = cI 0 St ∧ St.length = 400 ∧ w 50 = cI 0 En ∧ En.length = 400 ∧ (∀ i, gZ Mi i = 0 ∨ gZ Mi i = 1) ∧ gZ Sa 0 = 0
def WB (C : List (Int × List Int)) (m : Nat → Int) (R Sa Mi : List Int) : Prop := RW C R Sa Mi ∧ m 8 = C.length ∧ m 10 = 0 ∧ m 7 = (flt C).length ∧ vC C ∧ (flt C).length ≤ 40 * C.length
def WL (C : List (Int × List Int)) (b : Int) (t : List Int) (m : Nat → Int) (R Sa Mi : List Int) : Prop := RW C R Sa Mi ∧ m 8 = C.length ∧ m 10 = 0 ∧ m 7 = (flt C).length + t.length ∧ vC C ∧ (flt C).length ≤ 40 * C.length ∧ gZ Mi C.length = b ∧ t.length ≤ 40 ∧ (∀ j : Nat, j < t.length → gZ R ((flt C).length + j) = t.getD j 0) ∧ vC [(b, t)]
def mFr (m m' : Nat → Int) : Prop := ∀ i, i ≠ 7 → i ≠ 8 → i ≠ 10 → m' i = m i
theorem mFr.rf (m : Nat → Int) : mFr m m := fun _ _ _ _ => rfl
theorem mFr.tr {m m' m'' : Nat → Int} (h : mFr m m') (g : mFr m' m'') : mFr m m'' := fun i a b c => (g i a b c).trans (h i a b c)
def LtS (C : List (Int × List Int)) (b : Int) (o : Option (List Int)) (m : Nat → Int) (R Sa Mi : List Int) : Prop := match o with
  | some t => WL C b t m R Sa Mi
  | none => m 10 = 1 ∧ m 8 = C.length
def BtS (o : Option (List (Int × List Int))) (m : Nat → Int) (R Sa Mi : List Int) : Prop := match o with
  | some C => WB C m R Sa Mi
  | none => m 10 = 1
def spO (o : Option (List Int)) (u : List Int) : Option (List Int) := match o with
  | some t => if t.length + u.length ≤ 40 then some (t ++ u) else none
  | none => none
def mk1 : Option (List (Int × List Int)) → List (Int × List Int) → Option (List (Int × List Int))
  | o, [] => o
  | none, _ :: t => mk1 none t
  | some C, x :: t => mk1 (if x.2.length ≤ 40 then some (adL C x) else none) t
theorem mk1_none : ∀ t : List (Int × List Int), mk1 none t = none
  | [] => rfl
  | _ :: t => mk1_none t
theorem mk1_app : ∀ (a b : List (Int × List Int)) (o : Option (List (Int × List Int))), mk1 o (a ++ b) = mk1 (mk1 o a) b
  | [], b, o => by simp [mk1]
  | x :: a, b, none => by
    rw [mk1_none, mk1_none, mk1_none]
  | x :: a, b, some C => by
    show mk1 _ (a ++ b) = mk1 (mk1 _ a) b
    exact mk1_app a b _
theorem wrL_lo : ∀ {l R : List Int} {i j : Int}, 0 ≤ i → i + l.length ≤ R.length → 0 ≤ j → j < i → gZ (wrL R i l) j = gZ R j
  | [], _, _, _, _, _, _, _ => rfl
  | x :: l, R, i, j, h0, h1, j0, j1 => by
    show gZ (wrL (sZ R i x) (i + 1) l) j = _
    simp only [List.length_cons] at h1
    rw [wrL_lo (by omega) (by rw [sZ_len]; omega) j0 (by omega), gZ_sZ h0 (by omega) j0, if_neg (by omega)]
theorem tm_sub {P : List Int} {i : Nat} {r : Int} (h : r ∈ tm P i) : r ∈ P.drop i := by
  obtain ⟨b, e⟩ := tk_pre (P.drop i) 1
  rw [e]
  exact List.mem_append_left _ h
theorem wrL_at : ∀ {l R : List Int} {i : Int} {j : Nat}, 0 ≤ i → i + l.length ≤ R.length → j < l.length → gZ (wrL R i l) (i + j) = l.getD j 0
  | [], _, _, j, _, _, hj => absurd hj (Nat.not_lt_zero _)
  | x :: l, R, i, j, h0, h1, hj => by
    show gZ (wrL (sZ R i x) (i + 1) l) (i + j) = _
    simp only [List.length_cons] at h1 hj
    cases j with
    | zero =>
      rw [show i + ((0 : Nat) : Int) = i by omega, wrL_lo (by omega) (by rw [sZ_len]; omega) h0 (by omega), gZ_sZ h0 (by omega) h0, if_pos rfl]
      rfl
    | succ j =>
      rw [show i + ((j + 1 : Nat) : Int) = i + 1 + (j : Int) by omega, wrL_at (by omega) (by rw [sZ_len]; omega) (by omega)]
      rfl
theorem RB_mem {S Bd : List Int} {ρ : Int → List Int} (hS : SOK S) (h : BdOK S Bd ρ) : ∀ (n : Nat) (v : Int), 0 ≤ v → v < 52 → (ρ v).length ≤ n → ∀ s ∈ ρ v, s = mk_ ∨ (0 ≤ s ∧ s < 100000 ∧ (s < 99 → s < 52))
  | 0, v, v0, v1, hn, s, hs => by
    have := h.2.2.2 v
    rw [List.length_eq_zero_iff.mp (by omega : (ρ v).length = 0)] at hs
    cases hs
  | n + 1, v, v0, v1, hn, s, hs => by
    have hb := h.2.2.1 v (by omega)
    by_cases h0 : bdf Bd v < 0
    · rw [hb.1 h0, List.mem_singleton] at hs
      exact Or.inr (by omega)
    · have e := hb.2 (by omega)
      rw [e] at hs hn
      rcases List.mem_cons.mp hs with hs | hs
      · exact Or.inl hs
      · unfold sub at hs
        obtain ⟨r, hr, hs⟩ := List.mem_flatMap.mp hs
        have hrS : r ∈ S := List.mem_of_mem_drop (tm_sub hr)
        obtain ⟨i, hi, ei⟩ := List.getElem_of_mem hrS
        have eg : gZ S i = r := by
          unfold gZ
          rw [show ((i : Nat) : Int).toNat = i by omega, List.getD_eq_getElem?_getD, List.getElem?_eq_getElem hi]
          exact ei
        have r1 := hS.2.1 i
        have r2 := hS.2.2 i
        rw [eg] at r1 r2
        by_cases h9 : r < 99
        · rw [if_pos h9] at hs
          have hl : (ρ r).length ≤ (sub ρ (tm S (bdf Bd v).toNat)).length := by
            obtain ⟨a, b, e2⟩ := List.append_of_mem hr
            rw [e2, sub_app, sub_cons, if_pos h9, List.length_append, List.length_append]
            omega
          simp only [List.length_cons] at hn
          exact RB_mem hS h n r r1.1 (r2 h9) (by omega) s hs
        · rw [if_neg h9, List.mem_singleton] at hs
          subst hs
          exact Or.inr ⟨r1.1, r1.2, r2⟩
theorem sgm_rng {S Bd : List Int} {ρ : Int → List Int} (hS : SOK S) (h : BdOK S Bd ρ) {a b : Int} {s : Int} (hs : s ∈ er (sub ρ (seg S a b))) : 0 ≤ s ∧ s < 100000 ∧ (s < 99 → s < 52) := by
  unfold er at hs
  have hne := (List.mem_filter.mp hs).2
  have hs := (List.mem_filter.mp hs).1
  have hne : s ≠ mk_ := by simpa using hne
  unfold sub at hs
  obtain ⟨r, hr, hs⟩ := List.mem_flatMap.mp hs
  have hrS : r ∈ S := List.mem_of_mem_drop (List.mem_of_mem_take hr)
  obtain ⟨i, hi, ei⟩ := List.getElem_of_mem hrS
  have eg : gZ S i = r := by
    unfold gZ
    rw [show ((i : Nat) : Int).toNat = i by omega, List.getD_eq_getElem?_getD, List.getElem?_eq_getElem hi]
    exact ei
  have r1 := hS.2.1 i
  have r2 := hS.2.2 i
  rw [eg] at r1 r2
  by_cases h9 : r < 99
  · rw [if_pos h9] at hs
    rcases RB_mem hS h _ r r1.1 (r2 h9) (Nat.le_refl _) s hs with e | e
    · exact absurd e hne
    · exact e
  · rw [if_neg h9, List.mem_singleton] at hs
    subst hs
    exact ⟨r1.1, r1.2, r2⟩
theorem seg_lt {S : List Int} (hS : SOK S) {a b : Int} : ∀ s ∈ seg S a b, s < 1000000 := fun s hs => by
  have hrS : s ∈ S := List.mem_of_mem_drop (List.mem_of_mem_take hs)
  obtain ⟨i, hi, ei⟩ := List.getElem_of_mem hrS
  have eg : gZ S i = s := by
    unfold gZ
    rw [show ((i : Nat) : Int).toNat = i by omega, List.getD_eq_getElem?_getD, List.getElem?_eq_getElem hi]
    exact ei
  have := hS.2.1 i
  omega
section WK
variable {w : Nat → xC} {N : Nat} {m : Nat → Int} {R Sa Mi St En S Bd : List Int} {ρ : Int → List Int} {C D : List (Int × List Int)} {b : Int} {o : Option (List Int)}
theorem A115 (d : Nat) (hN : 53 ≤ N) (hk : WK w m R Sa Mi St En) (hb : WB C m R Sa Mi) (hc : C.length < 13) (b : Bool) : ∃ (w' : Nat → xC) (Sa' Mi' : List Int), Fr ksW w w' ∧ WK w' m R Sa' Mi' St En ∧ LtS C (bZ b) (some []) m R Sa' Mi' ∧ Xc (d + 1) 115 [.ref 30, .int (iZ (bZ b))] (hp w N) (none, hp w' N) := by
  obtain ⟨k1, k2, k3, k4, k5, k6, k7, k8, k9, k10, k11, k12, k13⟩ := hk
  obtain ⟨b1, b2, b3, b4, b5, b6⟩ := hb
  have hx := m115 d hN k1 k4 k6 k5 k7 (by omega) (by omega) b
  refine ⟨_, sZ Sa (m 8) (m 7), sZ Mi (m 8) (bZ b), ((Fr.rf _ _).up (by decide)).up (by decide), ⟨?_, ?_, k3, ?_, by rw [sZ_len]; exact k5, ?_, by rw [sZ_len]; exact k7, ?_, k9, ?_, k11, ?_, ?_⟩, ?_, hx⟩
  · rw [uH_ne (by decide), uH_ne (by decide)]; exact k1
  · rw [uH_ne (by decide), uH_ne (by decide)]; exact k2
  · rw [uH_ne (by decide), uH_at]
  · rw [uH_at]
  · rw [uH_ne (by decide), uH_ne (by decide)]; exact k8
  · rw [uH_ne (by decide), uH_ne (by decide)]; exact k10
  · intro i
    unfold gZ sZ
    rw [List.getD_eq_getElem?_getD, List.getElem?_set]
    split
    · split
      · cases b <;> simp [bZ]
      · simp
    · have := k12 i
      unfold gZ at this
      rw [List.getD_eq_getElem?_getD] at this
      exact this
  · have eS : sZ Sa (m 8) (m 7) = Sa := sZ_same (by rw [b2, b1.2.1 _ (Nat.le_refl _), stC_all, b4]) (by omega) (by omega)
    rw [eS]
    exact k13
  · have eS : sZ Sa (m 8) (m 7) = Sa := sZ_same (by rw [b2, b1.2.1 _ (Nat.le_refl _), stC_all, b4]) (by omega) (by omega)
    rw [eS]
    refine ⟨⟨b1.1, b1.2.1, fun k hk => ?_⟩, b2, b3, by rw [b4]; simp, b5, b6, ?_, by simp, fun j hj => absurd hj (Nat.not_lt_zero _), ?_⟩
    · rw [gZ_sZ (by omega) (by omega) (by omega), if_neg (by omega)]
      exact b1.2.2 k hk
    · rw [b2, gZ_sZ (by omega) (by omega) (by omega), if_pos rfl]
    · intro x hx
      rw [List.mem_singleton] at hx
      subst hx
      refine ⟨?_, fun s hs => by cases hs⟩
      cases b
      · exact Or.inl rfl
      · exact Or.inr rfl
theorem A114 (d : Nat) (hN : 53 ≤ N) (hk : WK w m R Sa Mi St En) (hl : LtS C b o m R Sa Mi) (hc : C.length < 12) (hS : w 45 = cI 0 S) (hO : SOK S) (hB : w 46 = cI 0 Bd) (hρ : BdOK S Bd ρ) (x y : Int) (h0 : 0 ≤ x) (h1 : x ≤ y) (h2 : y ≤ S.length) : ∃ (w' : Nat → xC) (m' : Nat → Int) (R' St' En' : List Int), Fr ksW w w' ∧ WK w' m' R' Sa Mi St' En' ∧ mFr m m' ∧ LtS C b (spO o (sub (sgm ρ) (seg S x y))) m' R' Sa Mi ∧ Xc (d + 3) 114 [.ref 30, .int (iZ x), .int (iZ y)] (hp w N) (none, hp w' N) := by
  obtain ⟨k1, k2, k3, k4, k5, k6, k7, k8, k9, k10, k11, k12, k13⟩ := hk
  cases o with
  | none =>
    have hx := m114g d hN k1 hl.1 k8 k10 k9 k11 x y
    refine ⟨_, m, R, sZ St 0 x, sZ En 0 y, ((Fr.rf _ _).up (by decide)).up (by decide), ⟨?_, ?_, k3, ?_, k5, ?_, k7, ?_, by rw [sZ_len]; exact k9, ?_, by rw [sZ_len]; exact k11, k12, k13⟩, mFr.rf _, hl, hx⟩
    · rw [uH_ne (by decide), uH_ne (by decide)]; exact k1
    · rw [uH_ne (by decide), uH_ne (by decide)]; exact k2
    · rw [uH_ne (by decide), uH_ne (by decide)]; exact k4
    · rw [uH_ne (by decide), uH_ne (by decide)]; exact k6
    · rw [uH_ne (by decide), uH_at]
    · rw [uH_at]
  | some t =>
    obtain ⟨b1, b2, b3, b4, b5, b6, b7, b8, b9, b10⟩ := hl
    have eS : gZ Sa (m 8) = (flt C).length := by rw [b2, b1.2.1 _ (Nat.le_refl _), stC_all]
    have hu := sgm_sub (ρ := ρ) (seg_lt hO (a := x) (b := y))
    have hx := m114 d hN k1 b3 k2 k3 k8 k10 k9 k11 hS hB k4 k5 (by omega) (by omega) (by omega) (by omega) (by omega) (by omega) (by rw [hO.1]; omega) hρ.1 hO.2.1 hO.2.2 (BdOK.lt hO hρ) (fun v v0 v1 v2 => ((hρ.2.1 v v0 v1).2 v2).2.2) hρ.2.2.1 hρ.2.2.2 x y h0 h1 h2
    have e7 : m 7 - gZ Sa (m 8) = (t.length : Int) := by rw [eS, b4]; omega
    rw [e7] at hx
    have hrng : ∀ s ∈ er (sub ρ (seg S x y)), 0 ≤ s ∧ s < 100000 ∧ (s < 99 → s < 52) := fun s hs => sgm_rng hO hρ hs
    rw [← hu]
    generalize er (sub ρ (seg S x y)) = u at hx hrng
    by_cases h40 : t.length + u.length ≤ 40
    · obtain ⟨St', En', g1, g2, g3⟩ := hx.1 (by omega)
      refine ⟨_, st_ (st_ m 7 (m 7 + u.length)) 10 0, wrL R (m 7) u, St', En', (((((Fr.rf _ _).up (by decide)).up (by decide)).up (by decide)).up (by decide)), ⟨?_, ?_, ?_, ?_, k5, ?_, k7, ?_, g1, ?_, g2, k12, k13⟩, ?_, ?_, g3⟩
      · rw [uH_ne (by decide), uH_ne (by decide), uH_ne (by decide), uH_at]
      · rw [uH_ne (by decide), uH_ne (by decide), uH_at]
      · rw [wrL_len]; exact k3
      · rw [uH_ne (by decide), uH_ne (by decide), uH_ne (by decide), uH_ne (by decide)]; exact k4
      · rw [uH_ne (by decide), uH_ne (by decide), uH_ne (by decide), uH_ne (by decide)]; exact k6
      · rw [uH_ne (by decide), uH_at]
      · rw [uH_at]
      · intro i i1 i2 i3
        rw [st_ne i3, st_ne i1]
      · show LtS C b (if _ then _ else _) _ _ _ _
        rw [if_pos h40]
        have hlo : ∀ j : Int, 0 ≤ j → j < m 7 → gZ (wrL R (m 7) u) j = gZ R j := fun j j0 j1 => wrL_lo (by omega) (by omega) j0 j1
        refine ⟨⟨fun j hj => ?_, b1.2.1, b1.2.2⟩, ?_, ?_, ?_, b5, b6, b7, ?_, fun j hj => ?_, ?_⟩
        · rw [hlo j (by omega) (by omega)]
          exact b1.1 j hj
        · rw [st_ne (by decide), st_ne (by decide)]; exact b2
        · rw [st_at]
        · rw [st_ne (by decide), st_at, b4, List.length_append]
          omega
        · rw [List.length_append]; exact h40
        · rw [List.length_append] at hj
          rw [List.getD_eq_getElem?_getD]
          by_cases hjt : j < t.length
          · rw [hlo _ (by omega) (by omega), b9 j hjt, List.getElem?_append_left hjt, List.getD_eq_getElem?_getD]
          · rw [List.getElem?_append_right (by omega), show ((flt C).length : Int) + (j : Int) = m 7 + ((j - t.length : Nat) : Int) by omega, wrL_at (by omega) (by omega) (by omega), List.getD_eq_getElem?_getD]
        · intro z hz
          rw [List.mem_singleton] at hz
          subst hz
          refine ⟨(b10 _ List.mem_cons_self).1, fun s hs => ?_⟩
          rcases List.mem_append.mp hs with hs | hs
          · exact (b10 _ List.mem_cons_self).2 s hs
          · exact hrng s hs
    · obtain ⟨St', En', R', r', g1, g2, g3, g4, g5, g6⟩ := hx.2 (by omega)
      refine ⟨_, st_ (st_ m 7 r') 10 1, R', St', En', (((((Fr.rf _ _).up (by decide)).up (by decide)).up (by decide)).up (by decide)), ⟨?_, ?_, g3, ?_, k5, ?_, k7, ?_, g1, ?_, g2, k12, k13⟩, ?_, ?_, g6⟩
      · rw [uH_ne (by decide), uH_ne (by decide), uH_ne (by decide), uH_at]
      · rw [uH_ne (by decide), uH_ne (by decide), uH_at]
      · rw [uH_ne (by decide), uH_ne (by decide), uH_ne (by decide), uH_ne (by decide)]; exact k4
      · rw [uH_ne (by decide), uH_ne (by decide), uH_ne (by decide), uH_ne (by decide)]; exact k6
      · rw [uH_ne (by decide), uH_at]
      · rw [uH_at]
      · intro i i1 i2 i3
        rw [st_ne i3, st_ne i1]
      · show LtS C b (if _ then _ else _) _ _ _ _
        rw [if_neg h40]
        refine ⟨by rw [st_at], ?_⟩
        rw [st_ne (by decide), st_ne (by decide)]; exact b2
theorem A116 (d : Nat) (hN : 53 ≤ N) (hk : WK w m R Sa Mi St En) (hl : LtS C b o m R Sa Mi) (hc : C.length < 12) : ∃ (w' : Nat → xC) (m' : Nat → Int) (Sa' : List Int), Fr ksW w w' ∧ WK w' m' R Sa' Mi St En ∧ mFr m m' ∧ BtS (o.map (fun t => adL C (b, t))) m' R Sa' Mi ∧ Xc (d + 2) 116 [.ref 30] (hp w N) (none, hp w' N) := by
  obtain ⟨k1, k2, k3, k4, k5, k6, k7, k8, k9, k10, k11, k12, k13⟩ := hk
  cases o with
  | none =>
    have hx := m116g d hN k1 k4 k5 (by rw [hl.2]; omega) (by rw [hl.2]; omega) hl.1
    refine ⟨_, st_ m 8 (m 8 + 1), sZ Sa (m 8 + 1) (m 7), (((Fr.rf _ _).up (by decide)).up (by decide)), ⟨?_, ?_, k3, ?_, ?_, ?_, k7, ?_, k9, ?_, k11, k12, ?_⟩, ?_, ?_, hx⟩
    · rw [uH_ne (by decide), uH_at]
    · rw [uH_ne (by decide), uH_ne (by decide)]; exact k2
    · rw [uH_at]
    · rw [sZ_len]; exact k5
    · rw [uH_ne (by decide), uH_ne (by decide)]; exact k6
    · rw [uH_ne (by decide), uH_ne (by decide)]; exact k8
    · rw [uH_ne (by decide), uH_ne (by decide)]; exact k10
    · have := hl.2
      rw [gZ_sZ (by omega) (by omega) (by omega), if_neg (by omega)]
      exact k13
    · intro i i1 i2 i3
      rw [st_ne i2]
    · show st_ m 8 (m 8 + 1) 10 = 1
      rw [st_ne (by decide)]
      exact hl.1
  | some t =>
    obtain ⟨b1, b2, b3, b4, b5, b6, b7, b8, b9, b10⟩ := hl
    obtain ⟨Sa', g1, g2, g3⟩ := m116A d hN k1 k2 k3 k4 k5 k6 k7 b3 b1 b5 b10 b9 b7 b2 b4 (by omega) (by show t.length ≤ 100; omega) (by omega)
    refine ⟨_, st_ (st_ m 7 (flt (adL C (b, t))).length) 8 (adL C (b, t)).length, Sa', (((Fr.rf _ _).up (by decide)).up (by decide)), ⟨?_, ?_, k3, ?_, g1, ?_, k7, ?_, k9, ?_, k11, k12, by simpa [stC_0] using g2.2.1 0 (by omega)⟩, ?_, ?_, g3⟩
    · rw [uH_ne (by decide), uH_at]
    · rw [uH_ne (by decide), uH_ne (by decide)]; exact k2
    · rw [uH_at]
    · rw [uH_ne (by decide), uH_ne (by decide)]; exact k6
    · rw [uH_ne (by decide), uH_ne (by decide)]; exact k8
    · rw [uH_ne (by decide), uH_ne (by decide)]; exact k10
    · intro i i1 i2 i3
      rw [st_ne i2, st_ne i1]
    · show WB (adL C (b, t)) _ _ _ _
      refine ⟨g2, by rw [st_at], ?_, ?_, ?_, ?_⟩
      · rw [st_ne (by decide), st_ne (by decide)]; exact b3
      · rw [st_ne (by decide), st_at]
      · unfold adL
        split
        · exact b5
        · exact b5.app b10
      · unfold adL
        split
        · exact b6
        · rw [flt_app, List.length_append, flt_cons, flt_nil, List.append_nil, List.length_append]
          show _ + t.length ≤ 40 * (C.length + 1)
          omega
end WK
