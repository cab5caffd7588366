/-! both objects: what holds of them together -/

def NBt (Ds : List (List (Int × List Int) × Bool × Int × Int)) : Prop := ∀ c : Nat, c < Ds.length → (cl Ds c).2.2.2.toNat < 2 ^ Ds.length ∧ ∀ b : Nat, b < Ds.length → (cl Ds c).2.2.2.toNat.testBit b = true → (cl Ds b).2.1 = true
theorem NBt.add {Ds : List (List (Int × List Int) × Bool × Int × Int)} {q : List (Int × List Int) × Bool × Int × Int} (h : NBt Ds) (h1 : q.2.2.2.toNat < 2 ^ (Ds.length + 1)) (h2 : ∀ b : Nat, b < Ds.length → q.2.2.2.toNat.testBit b = true → (cl Ds b).2.1 = true) (h3 : q.2.2.2.toNat.testBit Ds.length = true → q.2.1 = true) : NBt (Ds ++ [q]) := by
  intro c hc
  simp only [List.length_append, List.length_singleton] at hc
  have cb : ∀ b, b < Ds.length → cl (Ds ++ [q]) b = cl Ds b := fun b hb => by rw [getD_cl, if_pos hb]
  have ce : cl (Ds ++ [q]) Ds.length = q := by rw [getD_cl, if_neg (by omega), if_pos rfl]
  rw [show (Ds ++ [q]).length = Ds.length + 1 by simp]
  by_cases e : c < Ds.length
  · rw [cb c e]
    obtain ⟨a1, a2⟩ := h c e
    refine ⟨Nat.lt_of_lt_of_le a1 (Nat.pow_le_pow_right (by decide) (by omega)), fun b hb ht => ?_⟩
    by_cases eb : b < Ds.length
    · rw [cb b eb]
      exact a2 b eb ht
    · have : b = Ds.length := by omega
      subst this
      rw [Nat.testBit_lt_two_pow a1] at ht
      cases ht
  · have : c = Ds.length := by omega
    subst this
    rw [ce]
    refine ⟨h1, fun b hb ht => ?_⟩
    by_cases eb : b < Ds.length
    · rw [cb b eb]
      exact h2 b eb ht
    · have : b = Ds.length := by omega
      subst this
      rw [ce]
      exact h3 ht
theorem NBt.given {Ds : List (List (Int × List Int) × Bool × Int × Int)} (h : NBt Ds) (C : List (Int × List Int)) (d : Int) : NBt (Ds ++ [(C, true, d, ((2 ^ Ds.length : Nat) : Int))]) := by
  refine h.add ?_ (fun b hb ht => ?_) (fun _ => rfl)
  · show ((2 ^ Ds.length : Nat) : Int).toNat < _
    rw [Int.toNat_natCast]
    exact Nat.pow_lt_pow_right (by decide) (by omega)
  · have ht' : (((2 ^ Ds.length : Nat) : Int).toNat).testBit b = true := ht
    rw [Int.toNat_natCast, Nat.testBit_two_pow] at ht'
    have : Ds.length = b := by simpa using ht'
    omega
theorem NBt.step {Ds : List (List (Int × List Int) × Bool × Int × Int)} (h : NBt Ds) (C : List (Int × List Int)) (d : Int) {rule i j : Int} (i0 : 0 ≤ i) (i1 : i < Ds.length) (hj : rule = 0 ∨ rule = 3 → 0 ≤ j ∧ j < Ds.length) : NBt (Ds ++ [(C, false, d, ndS Ds rule i j)]) := by
  obtain ⟨a1, a2⟩ := h i.toNat (by omega)
  have key : (ndS Ds rule i j).toNat < 2 ^ Ds.length ∧ ∀ b : Nat, b < Ds.length → (ndS Ds rule i j).toNat.testBit b = true → (cl Ds b).2.1 = true := by
    unfold ndS
    split
    · next hr =>
      obtain ⟨j0, j1⟩ := hj hr
      obtain ⟨b1, b2⟩ := h j.toNat (by omega)
      unfold orN
      rw [Int.toNat_natCast]
      refine ⟨Nat.or_lt_two_pow a1 b1, fun b hb ht => ?_⟩
      rw [Nat.testBit_or, Bool.or_eq_true] at ht
      rcases ht with ht | ht
      · exact a2 b hb ht
      · exact b2 b hb ht
    · exact ⟨a1, a2⟩
  refine h.add (Nat.lt_of_lt_of_le key.1 (Nat.pow_le_pow_right (by decide) (by omega))) key.2 (fun ht => ?_)
  have ht' : (ndS Ds rule i j).toNat.testBit Ds.length = true := ht
  rw [Nat.testBit_lt_two_pow key.1] at ht'
  cases ht'
theorem KI.add {Ds : List (List (Int × List Int) × Bool × Int × Int)} {U U' : List Int} {q : List (Int × List Int) × Bool × Int × Int} (h : KI Ds U) (he : exU U U') (hq : ∀ y ∈ q.1, LW U' y.2) : KI (Ds ++ [q]) U' := by
  intro i hi y hy
  simp only [List.length_append, List.length_singleton] at hi
  rw [getD_cl] at hy
  by_cases e : i < Ds.length
  · rw [if_pos e] at hy
    exact (h i e y hy).ex he
  · rw [if_neg e, if_pos (by omega)] at hy
    exact hq y hy
section BOTH
variable {w : Nat → xC} {N : Nat} {Ds : List (List (Int × List Int) × Bool × Int × Int)} {T U : List Int} {m : Nat → Int} {x : Nat → List Int}
theorem RS.hw {w' : Nat → xC} (h : RS w m x Ds T U) (f : ∀ j, 27 ≤ j → j ≤ 51 → w' j = w j) : RS w' m x Ds T U := by
  obtain ⟨⟨h1, h2⟩, h3⟩ := h
  exact ⟨⟨(f 27 (by omega) (by omega)).trans h1, fun j j0 j1 => ⟨(f j (by omega) j1).trans (h2 j j0 j1).1, (h2 j j0 j1).2⟩⟩, h3⟩
theorem RS.hr (h : RS w m x Ds T U) : HR Ds := fun i hi => by
  have h4 := h.2.2.2.1
  obtain ⟨_, _, _, _, a, b, c, d⟩ := h.2.2.2.2.1 i hi
  exact ⟨a, by omega, c, d⟩
theorem CS.frR {w' : Nat → xC} {clm cf lf : Int} (h : CS w N Ds T U clm cf lf) (f : FrR w w') : CS w' N Ds T U clm cf lf := by
  obtain ⟨z0, z30, ⟨p, Tx, z1, z2, z3⟩, ⟨Rf, r1, r2, r3⟩, z4, z5, z6, ⟨V, v1, v2⟩, z9, z10, z11, z12, z13⟩ := h
  exact ⟨(f 0 (by omega)).trans z0, z30, ⟨p, Tx, (f 1 (by omega)).trans z1, (f 2 (by omega)).trans z2, z3⟩, ⟨Rf, (f 3 (by omega)).trans r1, r2, fun i hi => by
    obtain ⟨n, n1, n2⟩ := r3 i hi
    exact ⟨n, n1, n2.mv (Nat.le_refl _) (fun j j0 _ => f j (by omega))⟩⟩, (f 4 (by omega)).trans z4, (f 5 (by omega)).trans z5, z6, ⟨V, (f 6 (by omega)).trans v1, v2⟩, z9.mv (fun j j0 j1 => f j (by omega)), z10.mv (fun j j0 j1 => f j (by omega)), z11.mv (fun j j0 j1 => f j (by omega)), z12, fun j j0 j1 => by rw [f j (by omega)]; exact z13 j j0 j1⟩
/-- the two objects stand alike -/
def IV (w : Nat → xC) (N : Nat) (Ds : List (List (Int × List Int) × Bool × Int × Int)) (T U : List Int) (m : Nat → Int) (x : Nat → List Int) : Prop := (∃ clm cf : Int, CS w N Ds T U clm cf (m 1)) ∧ RS w m x Ds T U ∧ KI Ds U ∧ NBt Ds ∧ ∃ v, w 52 = lO v
theorem IV.ref {w' : Nat → xC} {m' : Nat → Int} {x' : Nat → List Int} (h : IV w N Ds T U m x) (f : FrR w w') (hR : RS w' m' x' Ds T U) (e : m' 1 = m 1) : IV w' N Ds T U m' x' := by
  obtain ⟨⟨clm, cf, h1⟩, h2, h3, h4, v, h5⟩ := h
  exact ⟨⟨clm, cf, by rw [e]; exact h1.frR f⟩, hR, h3, h4, v, (f 52 (by omega)).trans h5⟩
theorem IV.z0 (h : IV w N Ds T U m x) : IV (uH w 27 (.inr (8, mF (st_ m 0 0)))) N Ds T U (st_ m 0 0) x := h.ref (fun j hj => uH_ne (by omega)) h.2.1.z0 (st_ne (by decide))
theorem RZ_two {fit : Prop} {a b : List Int} {L : List (Int × List Int)} {r r' : Int} {C C' : List (Int × List Int)} (h : RZ fit a b L r C) (g : RZ fit a b L r' C') : r = r' ∧ (r = 0 → C = C') := RZ_det h g
theorem rzR_det {rule i k j l p r r' : Int} {C C' : List (Int × List Int)} (h : rzR Ds rule i k j l p r C) (g : rzR Ds rule i k j l p r' C') : r = r' ∧ (r = 0 → C = C') := by
  unfold rzR at h g
  by_cases r0 : rule = 0
  · rw [if_pos r0] at h g
    exact RZ_det h g
  · rw [if_neg r0] at h g
    by_cases r1 : rule = 1
    · rw [if_pos r1] at h g
      exact RZ_det h g
    · rw [if_neg r1] at h g
      by_cases r2 : rule = 2
      · rw [if_pos r2] at h g
        exact RZ_det h g
      · rw [if_neg r2] at h g
        exact RZ_det h g
/-- what given answers, both ways -/
theorem given_eq {out : Option Value} {lf' r : Int} {Ds' : List (List (Int × List Int) × Bool × Int × Int)} {U' : List Int} {w' : Nat → xC} {m' : Nat → Int} {x' : Nat → List Int} (hU : U.length = 26) (h : GVc Ds T U out lf' Ds' U') (g : GVn Ds T U r w' m' x') (hK : KI Ds U) (hB : NBt Ds) : RS w' m' x' Ds' [] U' ∧ m' 1 = lf' ∧ m' 0 = kG out ∧ ((∃ t, out = some (.retAddr t)) ∧ kG out ≠ 0 ∨ r = Ds.length) ∧ KI Ds' U' ∧ NBt Ds' := by
  unfold GVc at h
  unfold GVn at g
  cases hrd : rdQ T with
  | none =>
    rw [hrd] at h g
    obtain ⟨rfl, rfl, rfl, rfl⟩ := h
    obtain ⟨g1, g2, g3, g4⟩ := g
    exact ⟨g4, g3, g2, Or.inl ⟨⟨_, rfl⟩, by decide⟩, hK, hB⟩
  | some l =>
    rw [hrd] at h g
    dsimp only at h g
    by_cases hf : (ntC l (U, false)).2 = true
    · rw [if_pos hf] at h g
      obtain ⟨rfl, rfl, rfl, rfl⟩ := h
      obtain ⟨g1, g2, g3, g4⟩ := g
      exact ⟨g4, g3, g2, Or.inl ⟨⟨_, rfl⟩, by decide⟩, hK, hB⟩
    · rw [if_neg hf] at h g
      by_cases h30 : Ds.length = 30
      · rw [if_pos h30] at h g
        obtain ⟨rfl, rfl, rfl, rfl⟩ := h
        obtain ⟨g1, g2, g3, g4⟩ := g
        exact ⟨g4, g3, g2, Or.inl ⟨⟨_, rfl⟩, by decide⟩, hK, hB⟩
      · rw [if_neg h30] at h g
        obtain ⟨rfl, rfl, rfl, rfl⟩ := h
        obtain ⟨g1, g2, g3, g4⟩ := g
        have hf' : (ntC l (U, false)).2 = false := by simpa using hf
        obtain ⟨_, e1, _, _⟩ := ntC_ex (l := l) (z := (U, false)) hU (rdQ_lt hrd) hf'
        refine ⟨g4, g3, by rw [g2]; rfl, Or.inr g1, hK.add e1 (read_LW hrd hU hf'), hB.given _ _⟩
theorem step_eq {rule i k j l p why r : Int} {Ds' : List (List (Int × List Int) × Bool × Int × Int)} {U' : List Int} {w' : Nat → xC} {m' : Nat → Int} {x' : Nat → List Int} (hU : U.length = 26) (hG : ∀ i : Nat, i < Ds.length → gC (cl Ds i).1) (h : AVs Ds T U rule i k j l p why Ds' U') (g : SVs Ds T U rule i k j l p r w' m' x') (hK : KI Ds U) (hB : NBt Ds) : RS w' m' x' Ds' [] U' ∧ m' 1 = why ∧ m' 0 = kS why ∧ (why = 0 → r = Ds.length) ∧ KI Ds' U' ∧ NBt Ds' := by
  have k0 : ∀ {r : Int}, -8 ≤ r → r ≤ -5 → kS r = 4 := fun {r} h1 h2 => by
    unfold kS
    rw [if_neg (by omega), if_neg (by omega), if_neg (by omega), if_neg (by omega)]
  unfold AVs at h
  unfold SVs at g
  by_cases h30 : Ds.length = 30
  · rw [if_pos h30] at h g
    obtain ⟨rfl, rfl, rfl⟩ := h
    obtain ⟨g1, g2, g3, g4⟩ := g
    exact ⟨g4, g3, g2, fun z => absurd z (by decide), hK, hB⟩
  · rw [if_neg h30] at h g
    cases ht : thB Ds T rule i k j l p with
    | false =>
      rw [if_pos ht] at h g
      obtain ⟨rfl, rfl, rfl⟩ := h
      obtain ⟨g1, g2, g3, g4⟩ := g
      exact ⟨g4, g3, g2, fun z => absurd z (by decide), hK, hB⟩
    | true =>
      have tne : ¬ thB Ds T rule i k j l p = false := by rw [ht]; decide
      rw [if_neg tne] at h g
      obtain ⟨r0, r1, i0, i1, hT4, _, _, hjj, _⟩ := thB_ok ht
      have hj' : rule = 0 ∨ rule = 3 → 0 ≤ j ∧ j < Ds.length := fun z => ⟨(hjj z).1, (hjj z).2.1⟩
      by_cases hTe : T = []
      · rw [if_pos hTe] at h g
        obtain ⟨rr, C', q1, q2⟩ := h
        obtain ⟨rr', C'', p1, p2⟩ := g
        obtain ⟨e1, e2⟩ := rzR_det q1 p1
        subst e1
        by_cases hr : rr = 0
        · rw [if_pos hr] at q2 p2
          obtain ⟨rfl, rfl, rfl⟩ := q2
          obtain ⟨g1, g2, g3, g4⟩ := p2
          rw [← e2 hr] at g4
          rw [hr] at q1
          exact ⟨g4, g3, g2, fun _ => g1, hK.add (exU.rf _) (rzR_LW hK hG ht (fun z => hT4 z hTe) q1), hB.step _ _ i0 i1 hj'⟩
        · rw [if_neg hr] at q2 p2
          obtain ⟨rfl, rfl, rfl⟩ := q2
          obtain ⟨g1, g2, g3, g4⟩ := p2
          have rng : why = 0 ∨ (-7 ≤ why ∧ why ≤ -5) := by
            unfold rzR at q1
            split at q1
            · exact RZ_rng q1
            · split at q1
              · exact RZ_rng q1
              · split at q1
                · exact RZ_rng q1
                · exact RZ_rng q1
          exact ⟨g4, g3, by rw [g2, k0 (by omega) (by omega)], fun z => absurd z hr, hK, hB⟩
      · rw [if_neg hTe] at h g
        cases hrd : rdQ T with
        | none =>
          rw [hrd] at h g
          obtain ⟨rfl, rfl, rfl⟩ := h
          obtain ⟨g1, g2, g3, g4⟩ := g
          exact ⟨g4, g3, g2, fun z => absurd z (by decide), hK, hB⟩
        | some l0 =>
          rw [hrd] at h g
          dsimp only at h g
          by_cases hf : (ntC l0 (U, false)).2 = true
          · rw [if_pos hf] at h g
            obtain ⟨rfl, rfl, rfl⟩ := h
            obtain ⟨g1, g2, g3, g4⟩ := g
            exact ⟨g4, g3, g2, fun z => absurd z (by decide), hK, hB⟩
          · rw [if_neg hf] at h g
            have hf' : (ntC l0 (U, false)).2 = false := by simpa using hf
            by_cases h4 : rule = 4
            · rw [if_pos h4] at h g
              split at h
              · next hd =>
                rw [if_pos hd] at g
                obtain ⟨rfl, rfl, rfl⟩ := h
                obtain ⟨g1, g2, g3, g4⟩ := g
                obtain ⟨_, e1, _, _⟩ := ntC_ex (l := l0) (z := (U, false)) hU (rdQ_lt hrd) hf'
                exact ⟨g4, g3, g2, fun _ => g1, hK.add e1 (read_LW hrd hU hf'), hB.step _ _ i0 i1 hj'⟩
              · next hd =>
                rw [if_neg hd] at g
                obtain ⟨rfl, rfl, rfl⟩ := h
                obtain ⟨g1, g2, g3, g4⟩ := g
                exact ⟨g4, g3, g2, fun z => absurd z (by decide), hK, hB⟩
            · rw [if_neg h4] at h g
              obtain ⟨rr, C', q1, q2⟩ := h
              obtain ⟨rr', C'', p1, p2⟩ := g
              obtain ⟨e1, e2⟩ := rzR_det q1 p1
              subst e1
              by_cases hr : rr = 0
              · rw [if_pos hr] at q2 p2
                rw [← e2 hr] at p2
                by_cases hC : C' = rnD (uqs [] l0)
                · rw [if_pos hC] at q2 p2
                  obtain ⟨rfl, rfl, rfl⟩ := q2
                  obtain ⟨g1, g2, g3, g4⟩ := p2
                  rw [hr] at q1
                  exact ⟨g4, g3, g2, fun _ => g1, hK.add (exU.rf _) (rzR_LW hK hG ht h4 q1), hB.step _ _ i0 i1 hj'⟩
                · rw [if_neg hC] at q2 p2
                  obtain ⟨rfl, rfl, rfl⟩ := q2
                  obtain ⟨g1, g2, g3, g4⟩ := p2
                  exact ⟨g4, g3, g2, fun z => absurd z (by decide), hK, hB⟩
              · rw [if_neg hr] at q2 p2
                obtain ⟨rfl, rfl, rfl⟩ := q2
                obtain ⟨g1, g2, g3, g4⟩ := p2
                have rng : why = 0 ∨ (-7 ≤ why ∧ why ≤ -5) := by
                  unfold rzR at q1
                  split at q1
                  · exact RZ_rng q1
                  · split at q1
                    · exact RZ_rng q1
                    · split at q1
                      · exact RZ_rng q1
                      · exact RZ_rng q1
                exact ⟨g4, g3, by rw [g2, k0 (by omega) (by omega)], fun z => absurd z hr, hK, hB⟩
/-- needs, both ways -/
theorem needs_eq (h : RS w m x Ds T U) (hB : NBt Ds) (c b : Int) : (inC Ds c && inC Ds b && (cl Ds b.toNat).2.1 && bt (cl Ds c.toNat).2.2.2 b) = (inC Ds c && inC Ds b && bt (cl Ds c.toNat).2.2.2 b) := by
  cases hc : inC Ds c with
  | false => rfl
  | true =>
    cases hb : inC Ds b with
    | false => rfl
    | true =>
      cases hg : (cl Ds b.toNat).2.1 with
      | true => rfl
      | false =>
        rw [Bool.and_false, Bool.false_and]
        unfold inC at hc hb
        have hc' : 0 ≤ c ∧ c < Ds.length := by simpa using hc
        have hb' : 0 ≤ b ∧ b < Ds.length := by simpa using hb
        have h30 := h.2.2.2.1
        obtain ⟨_, _, _, _, _, _, n0, n1⟩ := h.2.2.2.2.1 c.toNat (by omega)
        have e := bt_nat (cl Ds c.toNat).2.2.2.toNat b.toNat (by omega)
        rw [show (((cl Ds c.toNat).2.2.2.toNat : Nat) : Int) = (cl Ds c.toNat).2.2.2 by omega, show ((b.toNat : Nat) : Int) = b by omega] at e
        rw [e]
        cases ht : (cl Ds c.toNat).2.2.2.toNat.testBit b.toNat with
        | false => rfl
        | true =>
          have := (hB c.toNat (by omega)).2 b.toNat (by omega) ht
          rw [hg] at this
          cases this
end BOTH
