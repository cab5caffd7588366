/-! the reading of a text -/
/-- up to j terms, each by f, then the sign that closes them -/
def rdA (f : List Int → Option (List Int × List Int)) : Nat → List Int → Option (Int × List Int × List Int)
  | 0, _ => none
  | j + 1, r => match f r with
    | none => none
    | some (_, []) => none
    | some (t, c :: r1) => if c = 41 then some (1, t, r1) else if c = 44 then (match rdA f j r1 with
      | none => none
      | some (k, ts, r2) => some (k + 1, t ++ ts, r2)) else none
/-- a term: its signs, and the text behind it -/
def rdT : Nat → List Int → Option (List Int × List Int)
  | 0, _ => none
  | _ + 1, [] => none
  | n + 1, c :: r =>
    if 65 ≤ c ∧ c ≤ 90 then some ([c - 65], r)
    else if 97 ≤ c ∧ c ≤ 122 then (match r with
      | [] => some ([100 + 4 * (c - 97)], [])
      | d :: r1 => if d = 40 then (match rdA (rdT n) 3 r1 with
        | none => none
        | some (k, ts, r2) => some ((100 + 4 * (c - 97) + k) :: ts, r2)) else some ([100 + 4 * (c - 97)], d :: r1))
    else none
def hdU (r : List Int) : Bool := match r with
  | [] => false
  | c :: _ => decide (65 ≤ c ∧ c ≤ 90)
/-- an atom -/
def rdM (n : Nat) (r : List Int) : Option (List Int × List Int) := match rdT n r with
  | none => none
  | some (t, []) => if hdU r = true then none else some (t, [])
  | some (t, c :: r1) => if c = 61 then (match rdT n r1 with
    | none => none
    | some (u, r2) => some (99 :: (t ++ u), r2)) else if hdU r = true then none else some (t, c :: r1)
/-- a literal: 1 for a negation -/
def rdL (n : Nat) (r : List Int) : Option ((Int × List Int) × List Int) := match r with
  | [] => none
  | c :: r1 => if c = 126 then (rdM n r1).map (fun q => ((1, q.1), q.2)) else (rdM n (c :: r1)).map (fun q => ((0, q.1), q.2))
/-- literals with | between -/
def rdC (n : Nat) : Nat → List Int → Option (List (Int × List Int))
  | 0, _ => none
  | k + 1, r => match rdL n r with
    | none => none
    | some (x, []) => some [x]
    | some (x, c :: r1) => if c = 124 then (rdC n k r1).map (fun l => x :: l) else none
theorem ar_f {c k : Int} (h1 : 97 ≤ c) (h2 : 0 ≤ k) (h3 : k ≤ 3) : ar (100 + 4 * (c - 97) + k) = k.toNat := by
  unfold ar
  rw [if_neg (by omega), if_neg (by omega)]
  omega
theorem rdA_ok {f : List Int → Option (List Int × List Int)} (hf : ∀ r t r1, f r = some (t, r1) → Ts 1 t ∧ r1.length < r.length) : ∀ {j : Nat} {r : List Int} {k : Int} {ts r2 : List Int}, rdA f j r = some (k, ts, r2) → 1 ≤ k ∧ k ≤ j ∧ Ts k.toNat ts ∧ r2.length < r.length
  | 0, _, _, _, _, h => by cases h
  | j + 1, r, k, ts, r2, h => by
    unfold rdA at h
    split at h
    · cases h
    · cases h
    · next t c r1 hr =>
      have h1 := hf _ _ _ hr
      simp only [List.length_cons] at h1
      split at h
      · cases h
        refine ⟨by omega, by omega, h1.1, by omega⟩
      · split at h
        · split at h
          · cases h
          · next k0 ts0 r20 ha =>
            cases h
            have ih := rdA_ok hf ha
            refine ⟨by omega, by omega, ?_, by omega⟩
            have := Ts_app h1.1 ih.2.2.1
            rw [show (k0 + 1).toNat = 1 + k0.toNat by omega]
            exact this
        · cases h
theorem rdT_ok : ∀ {n : Nat} {r t r1 : List Int}, rdT n r = some (t, r1) → Ts 1 t ∧ r1.length < r.length
  | 0, _, _, _, h => by cases h
  | n + 1, [], _, _, h => by cases h
  | n + 1, c :: r, t, r1, h => by
    unfold rdT at h
    split at h
    · next hc =>
      cases h
      exact ⟨Ts_v (by omega), by simp⟩
    · split at h
      · next hc =>
        have ea : ar (100 + 4 * (c - 97)) = 0 := by
          have := ar_f (c := c) (k := 0) hc.1 (by omega) (by omega)
          rw [Int.add_zero] at this
          exact this
        have e0 : Ts 1 [100 + 4 * (c - 97)] := by
          show Ts (0 + ar (100 + 4 * (c - 97))) []
          rw [ea, Ts_nil]
        split at h
        · cases h
          exact ⟨e0, by simp⟩
        · next d r2 =>
          split at h
          · split at h
            · cases h
            · next k ts r3 ha =>
              cases h
              have ih := rdA_ok (fun r t r1 hr => rdT_ok (n := n) hr) ha
              refine ⟨?_, by simp only [List.length_cons]; omega⟩
              show Ts (0 + ar (100 + 4 * (c - 97) + k)) ts
              rw [ar_f hc.1 (by omega) (by omega), Nat.zero_add]
              exact ih.2.2.1
          · cases h
            exact ⟨e0, by simp⟩
      · cases h
