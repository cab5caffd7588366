/-! the class: apply for each rule -/

theorem litIn {D2 : List (Int × List Int)} {l q i : Nat} (hl : l < D2.length) (hq : q < D2.length) (hi : i < (lC D2 l).2.length) (h1 : stC D2 q ≤ stC D2 l + i) (h2 : stC D2 l + i < stC D2 (q + 1)) : q = l := by
  have s := stC_succ hl
  rcases Nat.lt_trichotomy q l with h | h | h
  · have := stC_mono (C := D2) (show q + 1 ≤ l from h)
    omega
  · exact h
  · have := stC_mono (C := D2) (show l + 1 ≤ q from h)
    omega
section DG
variable {N : Nat} {w : Nat → xC} {D D2 : List (Int × List Int)} {a b : Nat} {S E B S2 E2 B2 : List Int} {o o2 : Int}
theorem f60 {k : Nat} (g : gC D) (hk : k < D.length) : stC D k < (flt D).length ∧ (flt D).length ≤ 40 := by
  have := stC_lt hk (g.ne _ (lC_mem hk))
  have := g.2.1
  omega
theorem tmL {X : List (Int × List Int)} {k i : Nat} (g : gC D) (hk : k < D.length) (hi : i < (lC D k).2.length) : tm (flt (D ++ X)) (stC D k + i) = tm (lC D k).2 i := by
  have := tmA (C := D ++ X) (k := k) (i := i) (by rw [List.length_append]; omega) (by rw [lC_app hk]; exact hi) (by rw [lC_app hk]; exact (g.2.2 _ (lC_mem hk)).2.1)
  rw [lC_app hk, stC_app (by omega)] at this
  exact this
theorem tmR {k i : Nat} (g : gC D2) (hk : k < D2.length) (hi : i < (lC D2 k).2.length) : tm (flt (D ++ shC D2)) ((flt D).length + stC D2 k + i) = tm (lC (shC D2) k).2 i := by
  have hk' : k < (shC D2).length := by rw [shC_len]; exact hk
  have hl : (lC (shC D2) k).2.length = (lC D2 k).2.length := by rw [lC_shC hk, litR_len]
  have := tmA (C := D ++ shC D2) (k := D.length + k) (i := i) (by rw [List.length_append]; omega) (by rw [lC_appR, hl]; exact hi) (by rw [lC_appR]; exact (g.shift _ (lC_mem hk')).2.1)
  rw [lC_appR, stC_appR, stC_shC] at this
  exact this
theorem othL {X : List (Int × List Int)} {pl fi f1 f2 : Int} {k : Nat} (g : gC D) (hk : k < D.length) (hp1 : pl < 0 ∨ ((flt D).length : Int) ≤ pl) (h1 : f1 = stC D k) (h2 : f2 < 0 ∨ ((flt D).length : Int) ≤ f2) : ltP (flt (D ++ X)) pl fi f1 f2 0 D D.length 0 = oth k 0 D := by
  have := ltP_oth (P := flt (D ++ X)) (pl := pl) (fi := fi) (f1 := f1) (f2 := f2) (sh := 0) (D := D) (D' := D) (but := (k : Int)) (fun q hq => ?_) (fun q hq _ => atL hq ?_) rfl D.length 0 (by omega)
  · rw [this]
    rfl
  · have := f60 g hq
    rw [h1, Nat.zero_add]
    constructor
    · rintro (e | e)
      · have := st_inj g.ne hq hk (by omega)
        omega
      · omega
    · intro e
      have : q = k := by omega
      exact Or.inl (by rw [this])
  · have h3 := stC_mono (C := D) (show q + 1 ≤ D.length from hq)
    rw [stC_all] at h3
    omega
theorem m59_0 (d : Nat) (hN : 53 ≤ N) (ha : 53 ≤ a) (hb : 53 ≤ b) (hf : FM w N a S E B D o) (hf2 : FM w N b S2 E2 B2 D2 o2) (hI : DI w) (k k2 : Nat) (hk : k < D.length) (hk2 : k2 < D2.length) (p : Int) :
    ∃ (r : Int) (w' : Nat → xC) (C' : List (Int × List Int)), Fr ksX w w' ∧ DI w' ∧ RZ ((lC D k).1 ≠ (lC D2 k2).1) (lC D k).2 (lC (shC D2) k2).2 (oth k 0 D ++ oth k2 0 (shC D2)) r C' ∧ (r = 0 → LB w' C') ∧ Xc (d + 6) 59 [.ref 14, .int (iZ 0), .ref (a + 3), .int (iZ (k : Int)), .ref (b + 3), .int (iZ (k2 : Int)), .int (iZ p)] (hp w N) (some (.int (iZ r)), hp w' N) := by
  refine Q59 d hN true 0 (by decide) (by decide) (by decide) ha hb hf (fun _ => hf2) hI k k2 p (fun w1 Sy Ee Ro q1 q2 q3 q4 q5 q6 hR hd hf hf2 => ?_)
  obtain ⟨m1, m2, m3, m4, m5, m6, m7⟩ := hf
  obtain ⟨n1, n2, n3, n4, n5, n6, n7⟩ := hf2 rfl
  have X := m60_0 (N := N) (d + 1) hN hd k k2 hk hk2 p (fun j j0 _ => by omega) m1 m2 m3 m4.gv m6 m7 m5 m4.2.1 (fun j j0 _ => by omega) n1 n2 n3 n4.gv n6 n7 n4.2.1
  refine ⟨_, _, _, _, _, _, X, fun _ => ⟨stC D k, (flt D).length + stC D2 k2, rfl, by omega, ?_⟩⟩
  rw [if_pos rfl]
  have z1 := f60 m4 hk
  have z2 := f60 n4 hk2
  have lP : (flt (D ++ shC D2)).length = (flt D).length + (flt D2).length := by rw [flt_app, List.length_append, flt_shC, ren_len]
  refine ⟨by omega, by omega, by omega, by omega, fun q hq z _ => by omega, fun _ q hq z _ => by omega, ?_, ?_, ?_⟩
  · have := tmL (X := shC D2) (i := 0) m4 hk (m4.ne _ (lC_mem hk))
    rw [tm_at0 (m4.2.2 _ (lC_mem hk)).2.1] at this
    exact this
  · have := tmR (D := D) (i := 0) n4 hk2 (n4.ne _ (lC_mem hk2))
    rw [tm_at0 (n4.shift _ (lC_mem (by rw [shC_len]; exact hk2))).2.1] at this
    exact this
  · rw [if_pos rfl, othL m4 hk (by omega) rfl (by omega)]
    congr 1
    have := ltP_oth (P := flt (D ++ shC D2)) (pl := -1) (fi := -1) (f1 := stC D k) (f2 := (flt D).length + stC D2 k2) (sh := (flt D).length) (D := D2) (D' := shC D2) (but := (k2 : Int)) (fun q hq => ?_) (fun q hq _ => atR hq (by omega)) (shC_len _) D2.length 0 (by omega)
    · rw [this]
      rfl
    · constructor
      · rintro (e | e)
        · omega
        · have := st_inj n4.ne hq hk2 (by omega)
          omega
      · intro e
        have : q = k2 := by omega
        exact Or.inr (by rw [this]; omega)
theorem m59_1 (d : Nat) (hN : 53 ≤ N) (ha : 53 ≤ a) (hb : 53 ≤ b) (hf : FM w N a S E B D o) (hI : DI w) (k k2 : Nat) (hk : k < D.length) (hk2 : k2 < D.length) (p : Int) :
    ∃ (r : Int) (w' : Nat → xC) (C' : List (Int × List Int)), Fr ksX w w' ∧ DI w' ∧ RZ ((k : Int) ≠ (k2 : Int) ∧ (lC D k).1 = (lC D k2).1) (lC D k).2 (lC D k2).2 (oth k2 0 D) r C' ∧ (r = 0 → LB w' C') ∧ Xc (d + 6) 59 [.ref 14, .int (iZ 1), .ref (a + 3), .int (iZ (k : Int)), .ref (b + 3), .int (iZ (k2 : Int)), .int (iZ p)] (hp w N) (some (.int (iZ r)), hp w' N) := by
  refine Q59 (D2 := []) (S2 := []) (E2 := []) (B2 := []) (o2 := 0) d hN false 1 (by decide) (by decide) (by decide) ha hb hf (fun z => by cases z) hI k k2 p (fun w1 Sy Ee Ro q1 q2 q3 q4 q5 q6 hR hd hf hf2 => ?_)
  obtain ⟨m1, m2, m3, m4, m5, m6, m7⟩ := hf
  have X := m60_1 (N := N) (b := b) (d + 1) hN hd k k2 hk hk2 p (fun j j0 _ => by omega) m1 m2 m3 m4.gv m6 m7 m5 m4.2.1
  refine ⟨_, _, _, _, _, _, X, fun _ => ⟨stC D k, stC D k2, rfl, rfl, ?_⟩⟩
  rw [if_neg (by decide)]
  have z1 := f60 m4 hk
  have z2 := f60 m4 hk2
  have lP : (flt (D ++ [])).length = (flt D).length := by rw [List.append_nil]
  refine ⟨by omega, by omega, by omega, by omega, fun q hq z _ => by omega, fun z => (by cases z), ?_, ?_, ?_⟩
  · have := tmL (X := []) (i := 0) m4 hk (m4.ne _ (lC_mem hk))
    rw [tm_at0 (m4.2.2 _ (lC_mem hk)).2.1] at this
    exact this
  · have := tmL (X := []) (i := 0) m4 hk2 (m4.ne _ (lC_mem hk2))
    rw [tm_at0 (m4.2.2 _ (lC_mem hk2)).2.1] at this
    exact this
  · rw [if_neg (by decide), List.append_nil]
    exact othL m4 hk2 (by omega) rfl (by omega)
/-- where the sides of an equation lie -/
theorem side {X : List (Int × List Int)} {k : Nat} {Ee : List Int} (g : gC D) (hk : k < D.length) (h9 : (lC D k).2.getD 0 0 = 99) (hE : ∀ i : Int, 0 ≤ i → i < (flt (D ++ X)).length → gZ Ee i = i + (tm (flt (D ++ X)) i.toNat).length) : endZ Ee (flt (D ++ X)).length (stC D k + 1) = ((stC D k + (1 + (tm (lC D k).2 1).length) : Nat) : Int) ∧ stC D k + (1 + (tm (lC D k).2 1).length) < (flt (D ++ X)).length ∧ stC D k + 1 < (flt (D ++ X)).length ∧ tm (flt (D ++ X)) (stC D k + 1) = tm (lC D k).2 1 ∧ tm (flt (D ++ X)) (stC D k + (1 + (tm (lC D k).2 1).length)) = tm (lC D k).2 (1 + (tm (lC D k).2 1).length) := by
  have hT := (g.2.2 _ (lC_mem hk)).2.1
  obtain ⟨t1, t2⟩ := two_99 hT h9
  have b1 := stC_lt hk t1
  have b2 := stC_lt hk t2
  have lP : (flt (D ++ X)).length = (flt D).length + (flt X).length := by rw [flt_app, List.length_append]
  have e1 := tmL (X := X) g hk t1
  have e2 := tmL (X := X) g hk t2
  refine ⟨?_, by omega, by omega, e1, e2⟩
  unfold endZ
  rw [if_pos (by omega), hE _ (by omega) (by omega), show ((stC D k : Int) + 1).toNat = stC D k + 1 by omega, e1]
  omega
theorem m59_2 (d : Nat) (hN : 53 ≤ N) (ha : 53 ≤ a) (hb : 53 ≤ b) (hf : FM w N a S E B D o) (hI : DI w) (k : Nat) (hk : k < D.length) (k2 p : Int) :
    ∃ (r : Int) (w' : Nat → xC) (C' : List (Int × List Int)), Fr ksX w w' ∧ DI w' ∧ RZ ((lC D k).2.getD 0 0 = 99 ∧ (lC D k).1 = 1) (tm (lC D k).2 1) (tm (lC D k).2 (1 + (tm (lC D k).2 1).length)) (oth k 0 D) r C' ∧ (r = 0 → LB w' C') ∧ Xc (d + 6) 59 [.ref 14, .int (iZ 2), .ref (a + 3), .int (iZ (k : Int)), .ref (b + 3), .int (iZ k2), .int (iZ p)] (hp w N) (some (.int (iZ r)), hp w' N) := by
  refine Q59 (D2 := []) (S2 := []) (E2 := []) (B2 := []) (o2 := 0) d hN false 2 (by decide) (by decide) (by decide) ha hb hf (fun z => by cases z) hI k k2 p (fun w1 Sy Ee Ro q1 q2 q3 q4 q5 q6 hR hd hf hf2 => ?_)
  rw [if_neg (by decide)] at hR
  obtain ⟨m1, m2, m3, m4, m5, m6, m7⟩ := hf
  obtain ⟨⟨wt, r1⟩, r2, r3, r4, r5, r6, _⟩ := hR
  have X := m60_2 (N := N) (b := b) (d + 1) hN hd k hk k2 p (fun j j0 _ => by omega) m1 m2 m3 m4.gv m6 m7 m5 m4.2.1 r1 r4 r5 (by omega) r2.2.1 (m4.ne _ (lC_mem hk))
  refine ⟨_, _, _, _, _, _, X, fun hft => ?_⟩
  obtain ⟨s1, s2, s3, s4, s5⟩ := side (X := []) m4 hk hft.1 r6
  refine ⟨stC D k + 1, stC D k + (1 + (tm (lC D k).2 1).length), by omega, s1, ?_⟩
  rw [if_neg (by decide)]
  have z1 := f60 m4 hk
  refine ⟨s3, s2, by omega, by omega, fun q hq z _ => by omega, fun z => (by cases z), s4, s5, ?_⟩
  rw [if_neg (by decide), List.append_nil]
  exact othL m4 hk (by omega) rfl (by omega)
set_option maxHeartbeats 1000000 in
theorem m59_3 (d : Nat) (hN : 53 ≤ N) (ha : 53 ≤ a) (hb : 53 ≤ b) (hf : FM w N a S E B D o) (hf2 : FM w N b S2 E2 B2 D2 o2) (hI : DI w) (k k2 : Nat) (hk : k < D.length) (hk2 : k2 < D2.length) (p : Int) (p0 : 0 ≤ p) (p2 : p < 2147483648) (q : Nat) (eq : (q : Int) = plQ p) (hq : 1 + q < (lC D2 k2).2.length) :
    ∃ (r : Int) (w' : Nat → xC) (C' : List (Int × List Int)), Fr ksX w w' ∧ DI w' ∧ RZ ((lC D k).2.getD 0 0 = 99 ∧ (lC D k).1 = 0) (f3 (lC D k).2 p) (tm (lC (shC D2) k2).2 (1 + q)) (oth k 0 D ++ rew k2 (rw3 (lC (shC D2) k2).2 (g3 (lC D k).2 p) q) 0 (shC D2)) r C' ∧ (r = 0 → LB w' C') ∧ Xc (d + 6) 59 [.ref 14, .int (iZ 3), .ref (a + 3), .int (iZ (k : Int)), .ref (b + 3), .int (iZ (k2 : Int)), .int (iZ p)] (hp w N) (some (.int (iZ r)), hp w' N) := by
  refine Q59 d hN true 3 (by decide) (by decide) (by decide) ha hb hf (fun _ => hf2) hI k k2 p (fun w1 Sy Ee Ro q1 q2 q3 q4 q5 q6 hR hd hf hf2 => ?_)
  rw [if_pos rfl] at hR
  obtain ⟨m1, m2, m3, m4, m5, m6, m7⟩ := hf
  obtain ⟨n1, n2, n3, n4, n5, n6, n7⟩ := hf2 rfl
  obtain ⟨⟨wt, r1⟩, r2, r3, r4, r5, r6, _⟩ := hR
  have z1 := f60 m4 hk
  have z2 := f60 n4 hk2
  have b2 := stC_lt hk2 hq
  have X := m60_3 (N := N) (d + 1) hN hd k k2 hk hk2 p p0 (by omega) p2 (fun j j0 _ => by omega) m1 m2 m3 m4.gv m6 m7 m5 m4.2.1 (fun j j0 _ => by omega) n1 n2 n3 n4.gv n6 n7 n4.2.1 r1 r4 r5 (by omega) r2.2.1 (m4.ne _ (lC_mem hk))
  refine ⟨_, _, _, _, _, _, X, fun hft => ?_⟩
  obtain ⟨s1, s2, s3, s4, s5⟩ := side (X := shC D2) m4 hk hft.1 r6
  have lP : (flt (D ++ shC D2)).length = (flt D).length + (flt D2).length := by rw [flt_app, List.length_append, flt_shC, ren_len]
  have tb := tmR (D := D) n4 hk2 hq
  have sk := stC_succ hk2
  have lB2 : (lC (shC D2) k2).2.length = (lC D2 k2).2.length := by rw [lC_shC hk2, litR_len]
  have tf := tm_fits (u := (lC (shC D2) k2).2) (i := 1 + q) (by omega)
  rw [s1]
  obtain ⟨xn, hxn⟩ : ∃ xn : Nat, xn = if 100 ≤ p then stC D k + (1 + (tm (lC D k).2 1).length) else stC D k + 1 := ⟨_, rfl⟩
  obtain ⟨fn, hfn⟩ : ∃ fn : Nat, fn = if 100 ≤ p then stC D k + 1 else stC D k + (1 + (tm (lC D k).2 1).length) := ⟨_, rfl⟩
  have ex : (if 100 ≤ p then ((stC D k + (1 + (tm (lC D k).2 1).length) : Nat) : Int) else (stC D k : Int) + 1) = (xn : Int) := by rw [hxn]; split <;> omega
  have ef : (if 100 ≤ p then (stC D k : Int) + 1 else ((stC D k + (1 + (tm (lC D k).2 1).length) : Nat) : Int)) = (fn : Int) := by rw [hfn]; split <;> omega
  rw [ex, ef]
  have xl : xn < (flt (D ++ shC D2)).length := by rw [hxn]; split <;> omega
  have fl : fn < (flt (D ++ shC D2)).length := by rw [hfn]; split <;> omega
  have tx : tm (flt (D ++ shC D2)) xn = f3 (lC D k).2 p := by
    rw [hxn]
    unfold f3
    split
    · exact s5
    · exact s4
  have tf3 : tm (flt (D ++ shC D2)) fn = g3 (lC D k).2 p := by
    rw [hfn]
    unfold g3
    split
    · exact s4
    · exact s5
  have epl : ((flt D).length : Int) + stC D2 k2 + 1 + plQ p = (((flt D).length + stC D2 k2 + (1 + q) : Nat) : Int) := by omega
  rw [epl]
  refine ⟨xn, (flt D).length + stC D2 k2 + (1 + q), rfl, rfl, ?_⟩
  rw [if_pos rfl]
  refine ⟨xl, by omega, by omega, by omega, fun j hj za zb => ?_, fun _ j hj za zb => ?_, tx, tb, ?_⟩
  · exfalso
    have h3 := stC_mono (C := D) (show j + 1 ≤ D.length from hj)
    rw [stC_all] at h3
    omega
  · have ej := litIn (i := 1 + q) hk2 hj hq (by omega) (by omega)
    subst ej
    refine ⟨_, fn, rfl, rfl, fl, ?_⟩
    rw [tb]
    omega
  · rw [if_pos rfl, othL m4 hk (by omega) rfl (by omega)]
    congr 1
    have := ltP_rew (P := flt (D ++ shC D2)) (pl := (((flt D).length + stC D2 k2 + (1 + q) : Nat) : Int)) (fi := fn) (f1 := stC D k) (f2 := -1) (sh := (flt D).length) (D := D2) (D' := shC D2) (l := (k2 : Int)) (y := rw3 (lC (shC D2) k2).2 (g3 (lC D k).2 p) q) (fun j hj => by omega) (fun j hj => ?_) (shC_len _) D2.length 0 (by omega)
    · rw [this]
      rfl
    · by_cases ej : (j : Int) = k2
      · have ej' : j = k2 := by omega
        subst ej'
        rw [if_pos rfl]
        have hs := segR (D := D) hk2
        rw [sk, show (((flt D).length + (stC D2 j + (lC D2 j).2.length) : Nat) : Int) = (((flt D).length + stC D2 j : Nat) : Int) + (lC (shC D2) j).2.length by omega] at hs
        have e1 := seg_seg (by omega) hs (i := 0) (j := 1 + q) (by omega) (by omega)
        have e2 := seg_seg (by omega) hs (i := 1 + q + (tm (lC (shC D2) j).2 (1 + q)).length) (j := (lC (shC D2) j).2.length) (by omega) (by omega)
        rw [List.take_of_length_le (by rw [List.length_drop]; omega)] at e2
        have ea : atP (flt (D ++ shC D2)) (((flt D).length + stC D2 j + (1 + q) : Nat) : Int) (fn : Int) ((flt D).length + stC D2 j) ((flt D).length + stC D2 (j + 1)) = rw3 (lC (shC D2) j).2 (g3 (lC D k).2 p) q := by
          unfold atP rw3
          rw [if_neg (by omega), Int.toNat_natCast, Int.toNat_natCast, tf3, tb]
          rw [List.drop_zero, Nat.sub_zero, show (((flt D).length + stC D2 j : Nat) : Int) + ((0 : Nat) : Int) = (((flt D).length + stC D2 j : Nat) : Int) by omega, show (((flt D).length + stC D2 j : Nat) : Int) + ((1 + q : Nat) : Int) = (((flt D).length + stC D2 j + (1 + q) : Nat) : Int) by omega] at e1
          rw [e1, show ((((flt D).length + stC D2 j + (1 + q) : Nat) : Int) + ((tm (lC (shC D2) j).2 (1 + q)).length : Int)) = (((flt D).length + stC D2 j : Nat) : Int) + ((1 + q + (tm (lC (shC D2) j).2 (1 + q)).length : Nat) : Int) by omega, show (((flt D).length + stC D2 (j + 1) : Nat) : Int) = (((flt D).length + stC D2 j : Nat) : Int) + ((lC (shC D2) j).2.length : Int) by omega, e2]
        rw [ea, lC_shC hk2]
        rfl
      · rw [if_neg ej]
        refine atR hj ?_
        rcases Nat.lt_trichotomy j k2 with h | h | h
        · have := stC_mono (C := D2) (show j + 1 ≤ k2 from h)
          omega
        · omega
        · have := stC_mono (C := D2) (show k2 + 1 ≤ j from h)
          omega
end DG
