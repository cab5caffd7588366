/-! rows written one place behind another -/
def cpl (D : Int) (g : Int → Int) : Nat → Int → List Int → List Int
  | 0, _, Q => Q
  | r + 1, k, Q => cpl D g r (k + 1) (sZ Q (D + k) (g k))
theorem cpl_len (D : Int) (g : Int → Int) : ∀ (r : Nat) (k : Int) (Q : List Int), (cpl D g r k Q).length = Q.length
  | 0, _, _ => rfl
  | r + 1, k, Q => by
    show (cpl D g r (k + 1) (sZ Q (D + k) (g k))).length = _
    rw [cpl_len D g r, sZ_len]
theorem cpl_at {D : Int} {g : Int → Int} : ∀ {r : Nat} {k : Int} {Q : List Int} {j : Int}, 0 ≤ D + k → D + k + r ≤ Q.length → 0 ≤ j → gZ (cpl D g r k Q) j = if D + k ≤ j ∧ j < D + k + r then g (j - D) else gZ Q j
  | 0, k, Q, j, h0, h1, h2 => by
    rw [if_neg (by omega)]
    rfl
  | r + 1, k, Q, j, h0, h1, h2 => by
    show gZ (cpl D g r (k + 1) (sZ Q (D + k) (g k))) j = _
    rw [cpl_at (r := r) (by omega) (by rw [sZ_len]; omega) h2, gZ_sZ h0 (by omega) h2]
    by_cases h3 : D + k = j
    · have e : j - D = k := by omega
      rw [if_neg (by omega), if_pos h3, if_pos (by omega), e]
    · rw [if_neg h3]
      by_cases h4 : D + k ≤ j ∧ j < D + k + (r + 1 : Nat)
      · rw [if_pos (by omega), if_pos h4]
      · rw [if_neg (by omega), if_neg h4]
