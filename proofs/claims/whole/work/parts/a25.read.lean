/-! the class: the draft is read; its reading is the reference's -/
theorem f28_0 : x_fetch q_k28 0 = x_lda 1 0 := rfl
theorem t28_0 (C : xF) (s n : Nat) (z : xS) : x_to q_k28 C s (n + 1) 0 z = x_nx q_k28 C s n ((x_lda 1 0) C z) := x_to_at f28_0 C s n z
theorem f28_1 : x_fetch q_k28 1 = x_st (x_push 2 (.int (0))) := rfl
theorem t28_1 (C : xF) (s n : Nat) (z : xS) : x_to q_k28 C s (n + 1) 1 z = x_nx q_k28 C s n ((x_st (x_push 2 (.int (0)))) C z) := x_to_at f28_1 C s n z
theorem f28_2 : x_fetch q_k28 2 = x_pf 5 3 1 (.int) := rfl
theorem t28_2 (C : xF) (s n : Nat) (z : xS) : x_to q_k28 C s (n + 1) 2 z = x_nx q_k28 C s n ((x_pf 5 3 1 (.int)) C z) := x_to_at f28_2 C s n z
theorem f28_5 : x_fetch q_k28 5 = x_lda 6 1 := rfl
theorem t28_5 (C : xF) (s n : Nat) (z : xS) : x_to q_k28 C s (n + 1) 5 z = x_nx q_k28 C s n ((x_lda 6 1) C z) := x_to_at f28_5 C s n z
theorem f28_6 : x_fetch q_k28 6 = x_cv 9 10 1 4 := rfl
theorem t28_6 (C : xF) (s n : Nat) (z : xS) : x_to q_k28 C s (n + 1) 6 z = x_nx q_k28 C s n ((x_cv 9 10 1 4) C z) := x_to_at f28_6 C s n z
theorem f28_9 : x_fetch q_k28 9 = x_lda 10 0 := rfl
theorem t28_9 (C : xF) (s n : Nat) (z : xS) : x_to q_k28 C s (n + 1) 9 z = x_nx q_k28 C s n ((x_lda 10 0) C z) := x_to_at f28_9 C s n z
theorem f28_10 : x_fetch q_k28 10 = x_lda 11 1 := rfl
theorem t28_10 (C : xF) (s n : Nat) (z : xS) : x_to q_k28 C s (n + 1) 10 z = x_nx q_k28 C s n ((x_lda 11 1) C z) := x_to_at f28_10 C s n z
theorem f28_11 : x_fetch q_k28 11 = x_cv 14 29 2 3 := rfl
theorem t28_11 (C : xF) (s n : Nat) (z : xS) : x_to q_k28 C s (n + 1) 11 z = x_nx q_k28 C s n ((x_cv 14 29 2 3) C z) := x_to_at f28_11 C s n z
theorem f28_14 : x_fetch q_k28 14 = x_ri (.boolean) := rfl
theorem t28_14 (C : xF) (s n : Nat) (z : xS) : x_to q_k28 C s (n + 1) 14 z = x_nx q_k28 C s n ((x_ri (.boolean)) C z) := x_to_at f28_14 C s n z
theorem f29_0 : x_fetch q_k29 0 = x_lda 1 0 := rfl
theorem t29_0 (C : xF) (s n : Nat) (z : xS) : x_to q_k29 C s (n + 1) 0 z = x_nx q_k29 C s n ((x_lda 1 0) C z) := x_to_at f29_0 C s n z
theorem f29_1 : x_fetch q_k29 1 = x_gf 4 3 2 := rfl
theorem t29_1 (C : xF) (s n : Nat) (z : xS) : x_to q_k29 C s (n + 1) 1 z = x_nx q_k29 C s n ((x_gf 4 3 2) C z) := x_to_at f29_1 C s n z
theorem f29_4 : x_fetch q_k29 4 = x_st (x_push 5 (.int (1))) := rfl
theorem t29_4 (C : xF) (s n : Nat) (z : xS) : x_to q_k29 C s (n + 1) 4 z = x_nx q_k29 C s n ((x_st (x_push 5 (.int (1)))) C z) := x_to_at f29_4 C s n z
theorem f29_5 : x_fetch q_k29 5 = x_st (x_icne 21 8) := rfl
theorem t29_5 (C : xF) (s n : Nat) (z : xS) : x_to q_k29 C s (n + 1) 5 z = x_nx q_k29 C s n ((x_st (x_icne 21 8)) C z) := x_to_at f29_5 C s n z
theorem f29_8 : x_fetch q_k29 8 = x_lda 9 0 := rfl
theorem t29_8 (C : xF) (s n : Nat) (z : xS) : x_to q_k29 C s (n + 1) 8 z = x_nx q_k29 C s n ((x_lda 9 0) C z) := x_to_at f29_8 C s n z
theorem f29_9 : x_fetch q_k29 9 = x_gf 12 3 0 := rfl
theorem t29_9 (C : xF) (s n : Nat) (z : xS) : x_to q_k29 C s (n + 1) 9 z = x_nx q_k29 C s n ((x_gf 12 3 0) C z) := x_to_at f29_9 C s n z
theorem f29_12 : x_fetch q_k29 12 = x_st (x_push 13 (.int (0))) := rfl
theorem t29_12 (C : xF) (s n : Nat) (z : xS) : x_to q_k29 C s (n + 1) 12 z = x_nx q_k29 C s n ((x_st (x_push 13 (.int (0)))) C z) := x_to_at f29_12 C s n z
theorem f29_13 : x_fetch q_k29 13 = x_ald 14 2 := rfl
theorem t29_13 (C : xF) (s n : Nat) (z : xS) : x_to q_k29 C s (n + 1) 13 z = x_nx q_k29 C s n ((x_ald 14 2) C z) := x_to_at f29_13 C s n z
theorem f29_14 : x_fetch q_k29 14 = x_st (x_push 16 (.int (35))) := rfl
theorem t29_14 (C : xF) (s n : Nat) (z : xS) : x_to q_k29 C s (n + 1) 14 z = x_nx q_k29 C s n ((x_st (x_push 16 (.int (35)))) C z) := x_to_at f29_14 C s n z
theorem f29_16 : x_fetch q_k29 16 = x_st (x_icne 21 19) := rfl
theorem t29_16 (C : xF) (s n : Nat) (z : xS) : x_to q_k29 C s (n + 1) 16 z = x_nx q_k29 C s n ((x_st (x_icne 21 19)) C z) := x_to_at f29_16 C s n z
theorem f29_19 : x_fetch q_k29 19 = x_st (x_push 20 (.int (1))) := rfl
theorem t29_19 (C : xF) (s n : Nat) (z : xS) : x_to q_k29 C s (n + 1) 19 z = x_nx q_k29 C s n ((x_st (x_push 20 (.int (1)))) C z) := x_to_at f29_19 C s n z
theorem f29_20 : x_fetch q_k29 20 = x_ri (.boolean) := rfl
theorem t29_20 (C : xF) (s n : Nat) (z : xS) : x_to q_k29 C s (n + 1) 20 z = x_nx q_k29 C s n ((x_ri (.boolean)) C z) := x_to_at f29_20 C s n z
theorem f29_21 : x_fetch q_k29 21 = x_st (x_push 22 (.int (0))) := rfl
theorem t29_21 (C : xF) (s n : Nat) (z : xS) : x_to q_k29 C s (n + 1) 21 z = x_nx q_k29 C s n ((x_st (x_push 22 (.int (0)))) C z) := x_to_at f29_21 C s n z
theorem f29_22 : x_fetch q_k29 22 = x_sti 23 2 := rfl
theorem t29_22 (C : xF) (s n : Nat) (z : xS) : x_to q_k29 C s (n + 1) 22 z = x_nx q_k29 C s n ((x_sti 23 2) C z) := x_to_at f29_22 C s n z
theorem f29_23 : x_fetch q_k29 23 = x_ldi 24 2 := rfl
theorem t29_23 (C : xF) (s n : Nat) (z : xS) : x_to q_k29 C s (n + 1) 23 z = x_nx q_k29 C s n ((x_ldi 24 2) C z) := x_to_at f29_23 C s n z
theorem f29_24 : x_fetch q_k29 24 = x_st (x_push 26 (.int (60))) := rfl
theorem t29_24 (C : xF) (s n : Nat) (z : xS) : x_to q_k29 C s (n + 1) 24 z = x_nx q_k29 C s n ((x_st (x_push 26 (.int (60)))) C z) := x_to_at f29_24 C s n z
theorem f29_26 : x_fetch q_k29 26 = x_st (x_icge 69 29) := rfl
theorem t29_26 (C : xF) (s n : Nat) (z : xS) : x_to q_k29 C s (n + 1) 26 z = x_nx q_k29 C s n ((x_st (x_icge 69 29)) C z) := x_to_at f29_26 C s n z
theorem f29_29 : x_fetch q_k29 29 = x_lda 30 0 := rfl
theorem t29_29 (C : xF) (s n : Nat) (z : xS) : x_to q_k29 C s (n + 1) 29 z = x_nx q_k29 C s n ((x_lda 30 0) C z) := x_to_at f29_29 C s n z
theorem f29_30 : x_fetch q_k29 30 = x_lda 31 1 := rfl
theorem t29_30 (C : xF) (s n : Nat) (z : xS) : x_to q_k29 C s (n + 1) 30 z = x_nx q_k29 C s n ((x_lda 31 1) C z) := x_to_at f29_30 C s n z
theorem f29_31 : x_fetch q_k29 31 = x_cv 34 30 2 3 := rfl
theorem t29_31 (C : xF) (s n : Nat) (z : xS) : x_to q_k29 C s (n + 1) 31 z = x_nx q_k29 C s n ((x_cv 34 30 2 3) C z) := x_to_at f29_31 C s n z
theorem f29_34 : x_fetch q_k29 34 = x_st (x_ifne 39 37) := rfl
theorem t29_34 (C : xF) (s n : Nat) (z : xS) : x_to q_k29 C s (n + 1) 34 z = x_nx q_k29 C s n ((x_st (x_ifne 39 37)) C z) := x_to_at f29_34 C s n z
theorem f29_37 : x_fetch q_k29 37 = x_st (x_push 38 (.int (0))) := rfl
theorem t29_37 (C : xF) (s n : Nat) (z : xS) : x_to q_k29 C s (n + 1) 37 z = x_nx q_k29 C s n ((x_st (x_push 38 (.int (0)))) C z) := x_to_at f29_37 C s n z
theorem f29_38 : x_fetch q_k29 38 = x_ri (.boolean) := rfl
theorem t29_38 (C : xF) (s n : Nat) (z : xS) : x_to q_k29 C s (n + 1) 38 z = x_nx q_k29 C s n ((x_ri (.boolean)) C z) := x_to_at f29_38 C s n z
theorem f29_39 : x_fetch q_k29 39 = x_lda 40 0 := rfl
theorem t29_39 (C : xF) (s n : Nat) (z : xS) : x_to q_k29 C s (n + 1) 39 z = x_nx q_k29 C s n ((x_lda 40 0) C z) := x_to_at f29_39 C s n z
theorem f29_40 : x_fetch q_k29 40 = x_gf 43 3 1 := rfl
theorem t29_40 (C : xF) (s n : Nat) (z : xS) : x_to q_k29 C s (n + 1) 40 z = x_nx q_k29 C s n ((x_gf 43 3 1) C z) := x_to_at f29_40 C s n z
theorem f29_43 : x_fetch q_k29 43 = x_lda 44 0 := rfl
theorem t29_43 (C : xF) (s n : Nat) (z : xS) : x_to q_k29 C s (n + 1) 43 z = x_nx q_k29 C s n ((x_lda 44 0) C z) := x_to_at f29_43 C s n z
theorem f29_44 : x_fetch q_k29 44 = x_gf 47 3 2 := rfl
theorem t29_44 (C : xF) (s n : Nat) (z : xS) : x_to q_k29 C s (n + 1) 44 z = x_nx q_k29 C s n ((x_gf 47 3 2) C z) := x_to_at f29_44 C s n z
theorem f29_47 : x_fetch q_k29 47 = x_st (x_icne 52 50) := rfl
theorem t29_47 (C : xF) (s n : Nat) (z : xS) : x_to q_k29 C s (n + 1) 47 z = x_nx q_k29 C s n ((x_st (x_icne 52 50)) C z) := x_to_at f29_47 C s n z
theorem f29_50 : x_fetch q_k29 50 = x_st (x_push 51 (.int (1))) := rfl
theorem t29_50 (C : xF) (s n : Nat) (z : xS) : x_to q_k29 C s (n + 1) 50 z = x_nx q_k29 C s n ((x_st (x_push 51 (.int (1)))) C z) := x_to_at f29_50 C s n z
theorem f29_51 : x_fetch q_k29 51 = x_ri (.boolean) := rfl
theorem t29_51 (C : xF) (s n : Nat) (z : xS) : x_to q_k29 C s (n + 1) 51 z = x_nx q_k29 C s n ((x_ri (.boolean)) C z) := x_to_at f29_51 C s n z
theorem f29_52 : x_fetch q_k29 52 = x_lda 53 0 := rfl
theorem t29_52 (C : xF) (s n : Nat) (z : xS) : x_to q_k29 C s (n + 1) 52 z = x_nx q_k29 C s n ((x_lda 53 0) C z) := x_to_at f29_52 C s n z
theorem f29_53 : x_fetch q_k29 53 = x_st (x_push 55 (.int (124))) := rfl
theorem t29_53 (C : xF) (s n : Nat) (z : xS) : x_to q_k29 C s (n + 1) 53 z = x_nx q_k29 C s n ((x_st (x_push 55 (.int (124)))) C z) := x_to_at f29_53 C s n z
theorem f29_55 : x_fetch q_k29 55 = x_cv 58 34 2 3 := rfl
theorem t29_55 (C : xF) (s n : Nat) (z : xS) : x_to q_k29 C s (n + 1) 55 z = x_nx q_k29 C s n ((x_cv 58 34 2 3) C z) := x_to_at f29_55 C s n z
theorem f29_58 : x_fetch q_k29 58 = x_st (x_ifne 63 61) := rfl
theorem t29_58 (C : xF) (s n : Nat) (z : xS) : x_to q_k29 C s (n + 1) 58 z = x_nx q_k29 C s n ((x_st (x_ifne 63 61)) C z) := x_to_at f29_58 C s n z
theorem f29_61 : x_fetch q_k29 61 = x_st (x_push 62 (.int (0))) := rfl
theorem t29_61 (C : xF) (s n : Nat) (z : xS) : x_to q_k29 C s (n + 1) 61 z = x_nx q_k29 C s n ((x_st (x_push 62 (.int (0)))) C z) := x_to_at f29_61 C s n z
theorem f29_62 : x_fetch q_k29 62 = x_ri (.boolean) := rfl
theorem t29_62 (C : xF) (s n : Nat) (z : xS) : x_to q_k29 C s (n + 1) 62 z = x_nx q_k29 C s n ((x_ri (.boolean)) C z) := x_to_at f29_62 C s n z
theorem f29_63 : x_fetch q_k29 63 = x_iinc 66 2 (1) := rfl
theorem t29_63 (C : xF) (s n : Nat) (z : xS) : x_to q_k29 C s (n + 1) 63 z = x_nx q_k29 C s n ((x_iinc 66 2 (1)) C z) := x_to_at f29_63 C s n z
theorem f29_66 : x_fetch q_k29 66 = x_st (x_goto 23) := rfl
theorem t29_66 (C : xF) (s n : Nat) (z : xS) : x_to q_k29 C s (n + 1) 66 z = x_nx q_k29 C s n ((x_st (x_goto 23)) C z) := x_to_at f29_66 C s n z
theorem f29_69 : x_fetch q_k29 69 = x_st (x_push 70 (.int (0))) := rfl
theorem t29_69 (C : xF) (s n : Nat) (z : xS) : x_to q_k29 C s (n + 1) 69 z = x_nx q_k29 C s n ((x_st (x_push 70 (.int (0)))) C z) := x_to_at f29_69 C s n z
theorem f29_70 : x_fetch q_k29 70 = x_ri (.boolean) := rfl
theorem t29_70 (C : xF) (s n : Nat) (z : xS) : x_to q_k29 C s (n + 1) 70 z = x_nx q_k29 C s n ((x_ri (.boolean)) C z) := x_to_at f29_70 C s n z
theorem eqA_rdA {f : List Int → Option (List Int × List Int)} (hf : ∀ r t r1, f r = some (t, r1) → eqA r = eqA r1) : ∀ {j : Nat} {r : List Int} {k : Int} {ts r2 : List Int}, rdA f j r = some (k, ts, r2) → eqA r = eqA r2
  | 0, _, _, _, _, h => by cases h
  | j + 1, r, k, ts, r2, h => by
    unfold rdA at h
    split at h
    · cases h
    · cases h
    · next t c r1 hr =>
      have h1 := hf _ _ _ hr
      split at h
      · next hc =>
        cases h
        rw [h1, hc]
        rfl
      · split at h
        · next hc =>
          split at h
          · cases h
          · next k0 ts0 r20 ha =>
            cases h
            have ih := eqA_rdA hf ha
            rw [h1, hc, ← ih]
            rfl
        · cases h
theorem eqA_c {c : Int} {r : List Int} (h1 : c ≠ 124) (h2 : c ≠ 61) : eqA (c :: r) = eqA r := by
  show (if c = 124 then false else if c = 61 then true else eqA r) = eqA r
  rw [if_neg h1, if_neg h2]
theorem eqA_rdT : ∀ {n : Nat} {r t r1 : List Int}, rdT n r = some (t, r1) → eqA r = eqA r1
  | 0, _, _, _, h => by cases h
  | n + 1, [], _, _, h => by cases h
  | n + 1, c :: r, t, r1, h => by
    unfold rdT at h
    split at h
    · next hc =>
      cases h
      exact eqA_c (by omega) (by omega)
    · split at h
      · next hc =>
        have e := eqA_c (c := c) (r := r) (by omega) (by omega)
        split at h
        · cases h
          exact e
        · next d r2 =>
          split at h
          · next hd =>
            split at h
            · cases h
            · next k ts r3 ha =>
              cases h
              have ih := eqA_rdA (fun r t r1 hr => eqA_rdT (n := n) hr) ha
              rw [e, eqA_c (by omega) (by omega)]
              exact ih
          · cases h
            exact e
      · cases h
theorem clM_rdM {n : Nat} {r t r1 : List Int} (h : clM n r = some (t, r1)) : rdM n r = some (t, r1) := by
  unfold clM at h
  unfold rdM
  cases hT : rdT n r with
  | none =>
    rw [hT] at h
    split at h
    · cases h
    · split at h
      · cases h
      · cases h
  | some v =>
    obtain ⟨u, q⟩ := v
    rw [hT] at h
    have e := eqA_rdT hT
    split at h
    · next hE =>
      cases q with
      | nil => cases h
      | cons c q =>
        dsimp only at h ⊢
        split at h
        · next hc =>
          rw [if_pos hc]
          exact h
        · cases h
    · next hE =>
      split at h
      · cases h
      · next hU =>
        cases h
        cases r1 with
        | nil =>
          dsimp only
          rw [if_neg hU]
        | cons c q =>
          dsimp only
          by_cases h61 : c = 61
          · exfalso
            rw [h61] at e
            exact hE e
          · rw [if_neg h61, if_neg hU]
theorem rdM_clM {n : Nat} {r t r1 : List Int} (h : rdM n r = some (t, r1)) (hr : r1 = [] ∨ ∃ q, r1 = 124 :: q) : clM n r = some (t, r1) := by
  unfold rdM at h
  unfold clM
  cases hT : rdT n r with
  | none =>
    rw [hT] at h
    cases h
  | some v =>
    obtain ⟨u, q⟩ := v
    rw [hT] at h
    have e := eqA_rdT hT
    cases q with
    | nil =>
      dsimp only at h
      split at h
      · cases h
      · next hU =>
        cases h
        have e2 : eqA r = false := e
        rw [e2, if_neg (by decide), if_neg hU]
    | cons c q =>
      dsimp only at h
      split at h
      · next hc =>
        have e2 : eqA r = true := by
          rw [e, hc]
          rfl
        rw [e2, if_pos rfl]
        dsimp only
        rw [if_pos hc]
        exact h
      · next hc =>
        split at h
        · cases h
        · next hU =>
          cases h
          rcases hr with hr | ⟨q', hr⟩
          · cases hr
          · cases hr
            have e2 : eqA r = false := e
            rw [e2, if_neg (by decide), if_neg hU]
theorem rdM_nil {n : Nat} : rdM n [] = none := by
  cases n <;> rfl
theorem clM_nil {n : Nat} : clM n [] = none := by
  cases n <;> rfl
theorem clL_rdL {n : Nat} {r r1 : List Int} {x : Int × List Int} (h : clL n r = some (x, r1)) : rdL n r = some (x, r1) := by
  unfold clL at h
  cases hM : clM n (sgn r).2 with
  | none => rw [hM] at h; cases h
  | some v =>
    obtain ⟨t, q⟩ := v
    rw [hM] at h
    cases h
    cases r with
    | nil =>
      have : clM n [] = some (t, r1) := hM
      rw [clM_nil] at this
      cases this
    | cons c r =>
      have e := clM_rdM hM
      unfold sgn at e
      unfold sgn rdL
      dsimp only at e ⊢
      split
      · next hc =>
        rw [if_pos hc] at e
        rw [e]
        rfl
      · next hc =>
        rw [if_neg hc] at e
        rw [e]
        rfl
theorem rdL_clL {n : Nat} {r r1 : List Int} {x : Int × List Int} (h : rdL n r = some (x, r1)) (hr : r1 = [] ∨ ∃ q, r1 = 124 :: q) : clL n r = some (x, r1) := by
  cases r with
  | nil => cases h
  | cons c r =>
    unfold rdL at h
    unfold clL
    dsimp only at h
    split at h
    · next hc =>
      cases hM : rdM n r with
      | none => rw [hM] at h; cases h
      | some v =>
        obtain ⟨t, q⟩ := v
        rw [hM] at h
        cases h
        have e : sgn (c :: r) = (1, r) := by
          unfold sgn
          dsimp only
          rw [if_pos hc]
        rw [e]
        dsimp only
        rw [rdM_clM hM hr]
    · next hc =>
      cases hM : rdM n (c :: r) with
      | none => rw [hM] at h; cases h
      | some v =>
        obtain ⟨t, q⟩ := v
        rw [hM] at h
        cases h
        have e : sgn (c :: r) = (0, c :: r) := by
          unfold sgn
          dsimp only
          rw [if_neg hc]
        rw [e]
        dsimp only
        rw [rdM_clM hM hr]
theorem clC_rdC {n : Nat} : ∀ (k : Nat) (r : List Int), clC n k r = rdC n k r
  | 0, _ => rfl
  | k + 1, r => by
    unfold clC rdC
    cases hR : rdL n r with
    | none =>
      cases hC : clL n r with
      | none => rfl
      | some v =>
        obtain ⟨x, q⟩ := v
        rw [clL_rdL hC] at hR
        cases hR
    | some v =>
      obtain ⟨x, q⟩ := v
      cases q with
      | nil => rw [rdL_clL hR (Or.inl rfl)]
      | cons c q =>
        by_cases hc : c = 124
        · subst hc
          rw [rdL_clL hR (Or.inr ⟨q, rfl⟩)]
          dsimp only
          rw [if_pos rfl, if_pos rfl, clC_rdC k q]
        · dsimp only
          rw [if_neg hc]
          cases hC : clL n r with
          | none => rfl
          | some v =>
            obtain ⟨y, q2⟩ := v
            have := clL_rdL hC
            rw [hR] at this
            cases this
            dsimp only
            rw [if_neg hc]
theorem rdM_len {n : Nat} {r t r1 : List Int} (h : rdM n r = some (t, r1)) : r1.length < r.length := by
  unfold rdM at h
  cases hT : rdT n r with
  | none => rw [hT] at h; cases h
  | some v =>
    obtain ⟨u, q⟩ := v
    have k := (rdT_ok hT).2
    rw [hT] at h
    cases q with
    | nil =>
      dsimp only at h
      split at h
      · cases h
      · cases h
        exact k
    | cons c q =>
      dsimp only at h
      split at h
      · cases hU : rdT n q with
        | none => rw [hU] at h; cases h
        | some v2 =>
          obtain ⟨u2, q2⟩ := v2
          have k2 := (rdT_ok hU).2
          rw [hU] at h
          cases h
          simp only [List.length_cons] at k
          omega
      · split at h
        · cases h
        · cases h
          exact k
theorem rdL_len {n : Nat} {r r1 : List Int} {x : Int × List Int} (h : rdL n r = some (x, r1)) : r1.length < r.length := by
  cases r with
  | nil => cases h
  | cons c r =>
    unfold rdL at h
    dsimp only at h
    split at h
    · cases hM : rdM n r with
      | none => rw [hM] at h; cases h
      | some v =>
        obtain ⟨t, q⟩ := v
        rw [hM] at h
        cases h
        have := rdM_len hM
        simp only [List.length_cons]
        omega
    · cases hM : rdM n (c :: r) with
      | none => rw [hM] at h; cases h
      | some v =>
        obtain ⟨t, q⟩ := v
        rw [hM] at h
        cases h
        exact rdM_len hM
theorem rdC_fuel {n : Nat} : ∀ (k : Nat) (r : List Int), r.length ≤ k → rdC n k r = rdC n (k + 1) r
  | 0, r, h => by
    cases r with
    | nil => rfl
    | cons c r => simp at h
  | k + 1, r, h => by
    unfold rdC
    cases hR : rdL n r with
    | none => rfl
    | some v =>
      obtain ⟨x, q⟩ := v
      have hl := rdL_len hR
      cases q with
      | nil => rfl
      | cons c q =>
        simp only [List.length_cons] at hl
        dsimp only
        rw [rdC_fuel k q (by omega)]
theorem uqs_in {l : List (Int × List Int)} {x : Int × List Int} : ∀ {C : List (Int × List Int)}, x ∈ C ∨ x ∈ l → x ∈ uqs C l := by
  induction l with
  | nil =>
    intro C h
    rcases h with h | h
    · exact h
    · cases h
  | cons y l ih =>
    intro C h
    show x ∈ (if y ∈ C then uqs C l else uqs (C ++ [y]) l)
    split
    · next hy =>
      refine ih ?_
      rcases h with h | h
      · exact Or.inl h
      · rcases List.mem_cons.mp h with h | h
        · rw [h]
          exact Or.inl hy
        · exact Or.inr h
    · refine ih ?_
      rcases h with h | h
      · exact Or.inl (List.mem_append_left _ h)
      · rcases List.mem_cons.mp h with h | h
        · rw [h]
          exact Or.inl (List.mem_append_right _ (List.mem_singleton.mpr rfl))
        · exact Or.inr h
theorem flt_ge {l : List (Int × List Int)} {x : Int × List Int} (h : x ∈ l) : x.2.length ≤ (flt l).length := by
  induction l with
  | nil => cases h
  | cons y l ih =>
    rw [flt_cons, List.length_append]
    rcases List.mem_cons.mp h with h | h
    · rw [h]
      omega
    · have := ih h
      omega
/-- the class's reading, as a whole -/
theorem read_ok {T : List Int} (h35 : T ≠ [35]) (hT : T.length ≤ 60) : (∀ l C', clC 30 60 T = some l → cpC [] l = some C' → rdQ T = some l ∧ C' = uqs [] l) ∧ ((∀ l, clC 30 60 T = some l → cpC [] l = none) → rdQ T = none) := by
  have e : clC 30 60 T = rdC 30 61 T := by rw [clC_rdC, rdC_fuel 60 T hT]
  constructor
  · intro l C' h1 h2
    rw [e] at h1
    obtain ⟨q1, q2, q3⟩ := cp_some l [] C' (Nat.zero_le _) (Nat.zero_le _) h2
    rw [mk1_all] at q1
    split at q1
    · cases q1
      refine ⟨?_, rfl⟩
      unfold rdQ
      rw [if_neg h35, h1]
      dsimp only
      rw [if_pos ⟨q2, q3⟩]
    · cases q1
  · intro h
    unfold rdQ
    rw [if_neg h35]
    cases hR : rdC 30 61 T with
    | none => rfl
    | some l =>
      dsimp only
      have hn := h l (by rw [e]; exact hR)
      rcases cp_none l [] hn with h1 | ⟨C', h1, h2⟩
      · rw [mk1_all] at h1
        split at h1
        · cases h1
        · next hx =>
          rw [if_neg (fun z => hx (fun x hx => ?_))]
          have := flt_ge (uqs_in (C := []) (Or.inr hx))
          omega
      · rw [mk1_all] at h1
        split at h1
        · cases h1
          rw [if_neg h2]
        · cases h1
section RC2
variable {N : Nat} {Tx : List Int} {l : Int}
set_option maxHeartbeats 1000000 in
theorem l29 (d : Nat) (hN : 53 ≤ N) : ∀ (k : Nat) (C : List (Int × List Int)) (r : List Int) (p : Int) (w : Nat → xC) (lv : xL), k ≤ 60 → LA w 7 C → w 1 = pO p l → w 2 = cI 2 Tx → DX Tx l p r → c1 lv → x_lk lv 0 = some (.ref 4) → x_lk lv 1 = some (.ref 10) → x_lk lv 2 = some (.int (iZ (60 - (k : Int)))) →
    (∃ (L C' : List (Int × List Int)) (p' : Int) (w' : Nat → xC), clC 30 k r = some L ∧ cpC C L = some C' ∧ Fr ksJ w w' ∧ LA w' 7 C' ∧ w' 1 = pO p' l ∧ Gx q_k29 (d + 33) 23 (lv, [], hp w N) (some (.int (iZ 1)), hp w' N)) ∨
    ((∀ L, clC 30 k r = some L → cpC C L = none) ∧ ∃ (p' : Int) (w' : Nat → xC), Fr ksJ w w' ∧ JK w' 7 ∧ w' 1 = pO p' l ∧ Gx q_k29 (d + 33) 23 (lv, [], hp w N) (some (.int (iZ 0)), hp w' N))
  | 0, C, r, p, w, lv, hk, hL, h1, h2, hx, hc, l0, l1, l2 => by
    refine Or.inr ⟨fun L z => (by cases z), p, w, Fr.rf _ _, hL.jk, h1, Gx.fin 20 Cs.tt (fun X _ => ?_)⟩
    rw [show (60 : Int) - ((0 : Nat) : Int) = 60 by omega] at l2
    simp (disch := first | (refine c1_id ?_; assumption) | (refine c1_st rfl ?_; repeat (first | assumption | refine c1_st rfl ?_)) | omega) [nx_l, nx_r, nx_n, x_st, x_push, x_bin, x_div, x_un, x_dup, x_pop, x_dup2, x_goto, x_ifeq, x_ifne, x_iflt, x_ifge, x_ifgt, x_ifle, x_iceq, x_icne, x_iclt, x_icge, x_icgt, x_icle, x_ifnull, x_ifnonnull, x_ldi, x_lda, x_sti, x_sta, x_iinc, x_gf, x_pf, x_ald, x_ast, x_aln, x_len, x_cl_, x_cv, x_cs, x_rc, x_r0, x_isT, x_oi, x_rv, x_ri, x_ra, Value.category, t29_0, t29_1, t29_4, t29_5, t29_8, t29_9, t29_12, t29_13, t29_14, t29_16, t29_19, t29_20, t29_21, t29_22, t29_23, t29_24, t29_26, t29_29, t29_30, t29_31, t29_34, t29_37, t29_38, t29_39, t29_40, t29_43, t29_44, t29_47, t29_50, t29_51, t29_52, t29_53, t29_55, t29_58, t29_61, t29_62, t29_63, t29_66, t29_69, t29_70, lk_s, hp_get, hp_set, uH_at, uH_ne, uH_upd, uH_swap, iZ_add, iZ_sub, iZ_mul, iZ_neg, iZ_lt, iZ_le, iZ_eq, iZ_div, iZ_of, ix_Z, gZ_map, gZ_mapI, gZ_map', le_0, le_s, sZ_map, sZ_len, bZ_0, bZ_inj, bZ_t, bZ_f, nr_i, nr_0, nr_1, nr_b, ft_i, ft_b, ft_0, ft_1, zl_0, zl_1, zl_35, zl_60, zl_124, l2, -List.filter_filter, -List.getElem?_map, -List.getD_eq_getElem?_getD]
  | k + 1, C, r, p, w, lv, hk, hL, h1, h2, hx, hc, l0, l1, l2 => by
    obtain ⟨i, hi⟩ : ∃ i : Int, i = 60 - ((k + 1 : Nat) : Int) := ⟨_, rfl⟩
    rw [← hi] at l2
    have i6 : ¬ 60 ≤ i := by omega
    have i0 : 0 ≤ i := by omega
    rcases m30 (N := N) d hN hL h1 h2 hx with ⟨x, r1, p1, w1, a1, a2, a3, a4, a5, a6, a7⟩ | ⟨a1, p1, w1, a2, a3, a4, a5⟩
    · have e21 : w1 2 = cI 2 Tx := (a3 2 (by decide)).trans h2
      have ecp : ∀ t, cpC C (x :: t) = cpC (adL C x) t := fun t => by
        rw [cpC_cons]
        exact if_pos a2
      cases r1 with
      | nil =>
        obtain ⟨q1, q2, q3⟩ := a6.nil
        refine Or.inl ⟨[x], adL C x, p1, w1, ?_, ?_, a3, a4, a5, ?_⟩
        · unfold clC
          rw [a1]
        · rw [ecp]
          rfl
        · refine Gx.fin 40 a7 (fun X mm => ?_)
          simp (disch := first | (refine c1_id ?_; assumption) | (refine c1_st rfl ?_; repeat (first | assumption | refine c1_st rfl ?_)) | omega) [nx_l, nx_r, nx_n, x_st, x_push, x_bin, x_div, x_un, x_dup, x_pop, x_dup2, x_goto, x_ifeq, x_ifne, x_iflt, x_ifge, x_ifgt, x_ifle, x_iceq, x_icne, x_iclt, x_icge, x_icgt, x_icle, x_ifnull, x_ifnonnull, x_ldi, x_lda, x_sti, x_sta, x_iinc, x_gf, x_pf, x_ald, x_ast, x_aln, x_len, x_cl_, x_cv, x_cs, x_rc, x_r0, x_isT, x_oi, x_rv, x_ri, x_ra, Value.category, t29_0, t29_1, t29_4, t29_5, t29_8, t29_9, t29_12, t29_13, t29_14, t29_16, t29_19, t29_20, t29_21, t29_22, t29_23, t29_24, t29_26, t29_29, t29_30, t29_31, t29_34, t29_37, t29_38, t29_39, t29_40, t29_43, t29_44, t29_47, t29_50, t29_51, t29_52, t29_53, t29_55, t29_58, t29_61, t29_62, t29_63, t29_66, t29_69, t29_70, lk_s, hp_get, hp_set, uH_at, uH_ne, uH_upd, uH_swap, iZ_add, iZ_sub, iZ_mul, iZ_neg, iZ_lt, iZ_le, iZ_eq, iZ_div, iZ_of, ix_Z, gZ_map, gZ_mapI, gZ_map', le_0, le_s, sZ_map, sZ_len, bZ_0, bZ_inj, bZ_t, bZ_f, nr_i, nr_0, nr_1, nr_b, ft_i, ft_b, ft_0, ft_1, zl_0, zl_1, zl_35, zl_60, zl_124, l0, l1, l2, i6, mm, h1, a5, q1, pO, -List.filter_filter, -List.getElem?_map, -List.getD_eq_getElem?_getD]
      | cons c r2 =>
        obtain ⟨q1, q2, q3, q4, q5, q6, q7⟩ := a6.hd
        have b1 : ¬ p1 = l := by omega
        by_cases hc124 : c = 124
        · subst hc124
          have Xt := m34y (N := N) (d + 32) hN a5 e21 a6
          obtain ⟨w2, hw2⟩ : ∃ w2, w2 = uH w1 1 (pO (p1 + 1) l) := ⟨_, rfl⟩
          rw [← hw2] at Xt
          have L2 : LA w2 7 (adL C x) := a4.mv (fun j j0 _ => by rw [hw2, uH_ne (by omega)])
          have F2 : Fr ksJ w w2 := a3.tr (by rw [hw2]; exact (Fr.rf _ _).up (by decide))
          have C2 := c1_st (i := 2) (v := .int (iZ (i + 1))) rfl hc
          have g23 : ∀ res, Gx q_k29 (d + 33) 23 ((2, .int (iZ (i + 1))) :: lv.filter (x_keep 2), [], hp w2 N) res → Gx q_k29 (d + 33) 23 (lv, [], hp w N) res := fun res hres => by
            refine Gx.run 60 (a7.and Xt) (fun X mm => ?_) (Gx.run (pc := 66) (z := ((2, .int (iZ (i + 1))) :: lv.filter (x_keep 2), [], hp w2 N)) 5 Cs.tt (fun X _ => ?_) hres)
            · obtain ⟨mm1, mm2⟩ := mm
              simp (disch := first | (refine c1_id ?_; assumption) | (refine c1_st rfl ?_; repeat (first | assumption | refine c1_st rfl ?_)) | omega) [nx_l, nx_r, nx_n, x_st, x_push, x_bin, x_div, x_un, x_dup, x_pop, x_dup2, x_goto, x_ifeq, x_ifne, x_iflt, x_ifge, x_ifgt, x_ifle, x_iceq, x_icne, x_iclt, x_icge, x_icgt, x_icle, x_ifnull, x_ifnonnull, x_ldi, x_lda, x_sti, x_sta, x_iinc, x_gf, x_pf, x_ald, x_ast, x_aln, x_len, x_cl_, x_cv, x_cs, x_rc, x_r0, x_isT, x_oi, x_rv, x_ri, x_ra, Value.category, t29_0, t29_1, t29_4, t29_5, t29_8, t29_9, t29_12, t29_13, t29_14, t29_16, t29_19, t29_20, t29_21, t29_22, t29_23, t29_24, t29_26, t29_29, t29_30, t29_31, t29_34, t29_37, t29_38, t29_39, t29_40, t29_43, t29_44, t29_47, t29_50, t29_51, t29_52, t29_53, t29_55, t29_58, t29_61, t29_62, t29_63, t29_66, t29_69, t29_70, lk_s, hp_get, hp_set, uH_at, uH_ne, uH_upd, uH_swap, iZ_add, iZ_sub, iZ_mul, iZ_neg, iZ_lt, iZ_le, iZ_eq, iZ_div, iZ_of, ix_Z, gZ_map, gZ_mapI, gZ_map', le_0, le_s, sZ_map, sZ_len, bZ_0, bZ_inj, bZ_t, bZ_f, nr_i, nr_0, nr_1, nr_b, ft_i, ft_b, ft_0, ft_1, zl_0, zl_1, zl_35, zl_60, zl_124, l0, l1, l2, i6, mm1, mm2, h1, a5, b1, pO, -List.filter_filter, -List.getElem?_map, -List.getD_eq_getElem?_getD]
            · simp (disch := first | (refine c1_id ?_; assumption) | (refine c1_st rfl ?_; repeat (first | assumption | refine c1_st rfl ?_)) | omega) [nx_l, nx_r, nx_n, x_st, x_push, x_bin, x_div, x_un, x_dup, x_pop, x_dup2, x_goto, x_ifeq, x_ifne, x_iflt, x_ifge, x_ifgt, x_ifle, x_iceq, x_icne, x_iclt, x_icge, x_icgt, x_icle, x_ifnull, x_ifnonnull, x_ldi, x_lda, x_sti, x_sta, x_iinc, x_gf, x_pf, x_ald, x_ast, x_aln, x_len, x_cl_, x_cv, x_cs, x_rc, x_r0, x_isT, x_oi, x_rv, x_ri, x_ra, Value.category, t29_0, t29_1, t29_4, t29_5, t29_8, t29_9, t29_12, t29_13, t29_14, t29_16, t29_19, t29_20, t29_21, t29_22, t29_23, t29_24, t29_26, t29_29, t29_30, t29_31, t29_34, t29_37, t29_38, t29_39, t29_40, t29_43, t29_44, t29_47, t29_50, t29_51, t29_52, t29_53, t29_55, t29_58, t29_61, t29_62, t29_63, t29_66, t29_69, t29_70, lk_s, hp_get, hp_set, uH_at, uH_ne, uH_upd, uH_swap, iZ_add, iZ_sub, iZ_mul, iZ_neg, iZ_lt, iZ_le, iZ_eq, iZ_div, iZ_of, ix_Z, gZ_map, gZ_mapI, gZ_map', le_0, le_s, sZ_map, sZ_len, bZ_0, bZ_inj, bZ_t, bZ_f, nr_i, nr_0, nr_1, nr_b, ft_i, ft_b, ft_0, ft_1, zl_0, zl_1, zl_35, zl_60, zl_124, -List.filter_filter, -List.getElem?_map, -List.getD_eq_getElem?_getD]
          rcases l29 d hN k (adL C x) r2 (p1 + 1) w2 ((2, .int (iZ (i + 1))) :: lv.filter (x_keep 2)) (by omega) L2 (by rw [hw2, uH_at]) (by rw [hw2, uH_ne (by decide)]; exact e21) a6.tl C2 (by rw [lk_s hc]; exact l0) (by rw [lk_s hc]; exact l1) (by rw [lk_s hc, show i + 1 = 60 - (k : Int) by omega]; rfl) with ⟨L, C', p3, w3, j1, j2, j3, j4, j5, j6⟩ | ⟨j1, p3, w3, j2, j3, j4, j5⟩
          · refine Or.inl ⟨x :: L, C', p3, w3, ?_, by rw [ecp]; exact j2, F2.tr j3, j4, j5, g23 _ j6⟩
            unfold clC
            rw [a1]
            dsimp only
            rw [if_pos rfl, j1]
            rfl
          · refine Or.inr ⟨fun L z => ?_, p3, w3, F2.tr j2, j3, j4, g23 _ j5⟩
            unfold clC at z
            rw [a1] at z
            dsimp only at z
            rw [if_pos rfl] at z
            cases hR : clC 30 k r2 with
            | none => rw [hR] at z; cases z
            | some L2 =>
              rw [hR] at z
              cases z
              rw [ecp]
              exact j1 _ hR
        · have Xn := m34n (N := N) (c := 124) (d + 32) hN a5 e21 a6 (by omega) (by omega) (fun r' z => hc124 (by injection z))
          refine Or.inr ⟨fun L z => ?_, p1, w1, a3, a4.jk, a5, ?_⟩
          · unfold clC at z
            rw [a1] at z
            dsimp only at z
            rw [if_neg hc124] at z
            cases z
          · refine Gx.fin 60 (a7.and Xn) (fun X mm => ?_)
            obtain ⟨mm1, mm2⟩ := mm
            simp (disch := first | (refine c1_id ?_; assumption) | (refine c1_st rfl ?_; repeat (first | assumption | refine c1_st rfl ?_)) | omega) [nx_l, nx_r, nx_n, x_st, x_push, x_bin, x_div, x_un, x_dup, x_pop, x_dup2, x_goto, x_ifeq, x_ifne, x_iflt, x_ifge, x_ifgt, x_ifle, x_iceq, x_icne, x_iclt, x_icge, x_icgt, x_icle, x_ifnull, x_ifnonnull, x_ldi, x_lda, x_sti, x_sta, x_iinc, x_gf, x_pf, x_ald, x_ast, x_aln, x_len, x_cl_, x_cv, x_cs, x_rc, x_r0, x_isT, x_oi, x_rv, x_ri, x_ra, Value.category, t29_0, t29_1, t29_4, t29_5, t29_8, t29_9, t29_12, t29_13, t29_14, t29_16, t29_19, t29_20, t29_21, t29_22, t29_23, t29_24, t29_26, t29_29, t29_30, t29_31, t29_34, t29_37, t29_38, t29_39, t29_40, t29_43, t29_44, t29_47, t29_50, t29_51, t29_52, t29_53, t29_55, t29_58, t29_61, t29_62, t29_63, t29_66, t29_69, t29_70, lk_s, hp_get, hp_set, uH_at, uH_ne, uH_upd, uH_swap, iZ_add, iZ_sub, iZ_mul, iZ_neg, iZ_lt, iZ_le, iZ_eq, iZ_div, iZ_of, ix_Z, gZ_map, gZ_mapI, gZ_map', le_0, le_s, sZ_map, sZ_len, bZ_0, bZ_inj, bZ_t, bZ_f, nr_i, nr_0, nr_1, nr_b, ft_i, ft_b, ft_0, ft_1, zl_0, zl_1, zl_35, zl_60, zl_124, l0, l1, l2, i6, mm1, mm2, h1, a5, b1, pO, -List.filter_filter, -List.getElem?_map, -List.getD_eq_getElem?_getD]
    · refine Or.inr ⟨fun L z => ?_, p1, w1, a2, a3, a4, ?_⟩
      · unfold clC at z
        cases hA : clL 30 r with
        | none => rw [hA] at z; cases z
        | some v =>
          obtain ⟨x, r1⟩ := v
          have hno : ∀ t, cpC C (x :: t) = none := fun t => by
            rw [cpC_cons]
            exact if_neg (a1 x r1 hA)
          rw [hA] at z
          cases r1 with
          | nil =>
            cases z
            exact hno _
          | cons c r2 =>
            dsimp only at z
            split at z
            · cases hR : clC 30 k r2 with
              | none => rw [hR] at z; cases z
              | some L2 =>
                rw [hR] at z
                cases z
                exact hno _
            · cases z
      · refine Gx.fin 40 a5 (fun X mm => ?_)
        simp (disch := first | (refine c1_id ?_; assumption) | (refine c1_st rfl ?_; repeat (first | assumption | refine c1_st rfl ?_)) | omega) [nx_l, nx_r, nx_n, x_st, x_push, x_bin, x_div, x_un, x_dup, x_pop, x_dup2, x_goto, x_ifeq, x_ifne, x_iflt, x_ifge, x_ifgt, x_ifle, x_iceq, x_icne, x_iclt, x_icge, x_icgt, x_icle, x_ifnull, x_ifnonnull, x_ldi, x_lda, x_sti, x_sta, x_iinc, x_gf, x_pf, x_ald, x_ast, x_aln, x_len, x_cl_, x_cv, x_cs, x_rc, x_r0, x_isT, x_oi, x_rv, x_ri, x_ra, Value.category, t29_0, t29_1, t29_4, t29_5, t29_8, t29_9, t29_12, t29_13, t29_14, t29_16, t29_19, t29_20, t29_21, t29_22, t29_23, t29_24, t29_26, t29_29, t29_30, t29_31, t29_34, t29_37, t29_38, t29_39, t29_40, t29_43, t29_44, t29_47, t29_50, t29_51, t29_52, t29_53, t29_55, t29_58, t29_61, t29_62, t29_63, t29_66, t29_69, t29_70, lk_s, hp_get, hp_set, uH_at, uH_ne, uH_upd, uH_swap, iZ_add, iZ_sub, iZ_mul, iZ_neg, iZ_lt, iZ_le, iZ_eq, iZ_div, iZ_of, ix_Z, gZ_map, gZ_mapI, gZ_map', le_0, le_s, sZ_map, sZ_len, bZ_0, bZ_inj, bZ_t, bZ_f, nr_i, nr_0, nr_1, nr_b, ft_i, ft_b, ft_0, ft_1, zl_0, zl_1, zl_35, zl_60, zl_124, l0, l1, l2, i6, h1, mm, pO, -List.filter_filter, -List.getElem?_map, -List.getD_eq_getElem?_getD]
def R28 (T : List Int) (w' : Nat → xC) (ok : Bool) : Prop := match rdQ T with
  | none => ok = false
  | some l => ok = true ∧ LA w' 7 (uqs [] l)
set_option maxHeartbeats 1000000 in
theorem m29 (d : Nat) (hN : 53 ≤ N) {w : Nat → xC} {T : List Int} (hL : LA w 7 []) (h1 : w 1 = pO 0 l) (h2 : w 2 = cI 2 Tx) (hx : DX Tx l 0 T) :
    ∃ (p' : Int) (w' : Nat → xC) (ok : Bool), Fr ksJ w w' ∧ JK w' 7 ∧ w' 1 = pO p' l ∧ R28 T w' ok ∧ Xc (d + 34) 29 [.ref 4, .ref 10] (hp w N) (some (.int (iZ (bZ ok))), hp w' N) := by
  have hx' := hx
  obtain ⟨x1, x2, x3, x4, x5⟩ := hx'
  have hT60 : T.length ≤ 60 := by omega
  by_cases h35 : T = [35]
  · subst h35
    obtain ⟨q1, q2, q3, q4, q5, q6, q7⟩ := hx.hd
    simp only [List.length_singleton] at x3
    have el : l = 1 := by omega
    refine ⟨0, w, true, Fr.rf _ _, hL.jk, h1, ⟨rfl, hL⟩, ?_⟩
    rw [bZ_t]
    refine Xc.of rfl (by simp [lg_sl, Value.category]) ?_ (x_le.rf)
    have hc : c1 (lv_args 0 [.ref 4, .ref 10]) := by simp [c1, lv_args, Value.category]
    have l0 : x_lk (lv_args 0 [.ref 4, .ref 10]) 0 = some (.ref 4) := rfl
    have l1 : x_lk (lv_args 0 [.ref 4, .ref 10]) 1 = some (.ref 10) := rfl
    generalize lv_args 0 [.ref 4, .ref 10] = lv at hc l0 l1
    refine Gx.fin 40 Cs.tt (fun X _ => ?_)
    simp (disch := first | (refine c1_id ?_; assumption) | (refine c1_st rfl ?_; repeat (first | assumption | refine c1_st rfl ?_)) | omega) [nx_l, nx_r, nx_n, x_st, x_push, x_bin, x_div, x_un, x_dup, x_pop, x_dup2, x_goto, x_ifeq, x_ifne, x_iflt, x_ifge, x_ifgt, x_ifle, x_iceq, x_icne, x_iclt, x_icge, x_icgt, x_icle, x_ifnull, x_ifnonnull, x_ldi, x_lda, x_sti, x_sta, x_iinc, x_gf, x_pf, x_ald, x_ast, x_aln, x_len, x_cl_, x_cv, x_cs, x_rc, x_r0, x_isT, x_oi, x_rv, x_ri, x_ra, Value.category, t29_0, t29_1, t29_4, t29_5, t29_8, t29_9, t29_12, t29_13, t29_14, t29_16, t29_19, t29_20, t29_21, t29_22, t29_23, t29_24, t29_26, t29_29, t29_30, t29_31, t29_34, t29_37, t29_38, t29_39, t29_40, t29_43, t29_44, t29_47, t29_50, t29_51, t29_52, t29_53, t29_55, t29_58, t29_61, t29_62, t29_63, t29_66, t29_69, t29_70, lk_s, hp_get, hp_set, uH_at, uH_ne, uH_upd, uH_swap, iZ_add, iZ_sub, iZ_mul, iZ_neg, iZ_lt, iZ_le, iZ_eq, iZ_div, iZ_of, ix_Z, gZ_map, gZ_mapI, gZ_map', le_0, le_s, sZ_map, sZ_len, bZ_0, bZ_inj, bZ_t, bZ_f, nr_i, nr_0, nr_1, nr_b, ft_i, ft_b, ft_0, ft_1, zl_0, zl_1, zl_35, zl_60, zl_124, l0, h1, h2, el, q1, pO, -List.filter_filter, -List.getElem?_map, -List.getD_eq_getElem?_getD]
  · obtain ⟨r1, r2⟩ := read_ok h35 hT60
    have key : ∃ (p' : Int) (w' : Nat → xC) (ok : Bool), Fr ksJ w w' ∧ JK w' 7 ∧ w' 1 = pO p' l ∧ R28 T w' ok ∧ Gx q_k29 (d + 33) 0 (lv_args 0 [.ref 4, .ref 10], [], hp w N) (some (.int (iZ (bZ ok))), hp w' N) := by
      have hc : c1 (lv_args 0 [.ref 4, .ref 10]) := by simp [c1, lv_args, Value.category]
      have l0 : x_lk (lv_args 0 [.ref 4, .ref 10]) 0 = some (.ref 4) := rfl
      have l1 : x_lk (lv_args 0 [.ref 4, .ref 10]) 1 = some (.ref 10) := rfl
      generalize lv_args 0 [.ref 4, .ref 10] = lv at hc l0 l1 ⊢
      have C2 := c1_st (i := 2) (v := .int (iZ 0)) rfl hc
      have g23 : ∀ res, Gx q_k29 (d + 33) 23 ((2, .int (iZ 0)) :: lv.filter (x_keep 2), [], hp w N) res → Gx q_k29 (d + 33) 0 (lv, [], hp w N) res := fun res hres => by
        refine Gx.run 40 Cs.tt (fun X _ => ?_) hres
        by_cases e1 : l = 1
        · cases T with
          | nil =>
            simp only [List.length_nil] at x3
            omega
          | cons c T2 =>
            obtain ⟨q1, q2, q3, q4, q5, q6, q7⟩ := hx.hd
            simp only [List.length_cons] at x3
            have hT2 : T2 = [] := List.eq_nil_of_length_eq_zero (by omega)
            have b1 : ¬ c = 35 := fun z => h35 (by rw [z, hT2])
            simp (disch := first | (refine c1_id ?_; assumption) | (refine c1_st rfl ?_; repeat (first | assumption | refine c1_st rfl ?_)) | omega) [nx_l, nx_r, nx_n, x_st, x_push, x_bin, x_div, x_un, x_dup, x_pop, x_dup2, x_goto, x_ifeq, x_ifne, x_iflt, x_ifge, x_ifgt, x_ifle, x_iceq, x_icne, x_iclt, x_icge, x_icgt, x_icle, x_ifnull, x_ifnonnull, x_ldi, x_lda, x_sti, x_sta, x_iinc, x_gf, x_pf, x_ald, x_ast, x_aln, x_len, x_cl_, x_cv, x_cs, x_rc, x_r0, x_isT, x_oi, x_rv, x_ri, x_ra, Value.category, t29_0, t29_1, t29_4, t29_5, t29_8, t29_9, t29_12, t29_13, t29_14, t29_16, t29_19, t29_20, t29_21, t29_22, t29_23, t29_24, t29_26, t29_29, t29_30, t29_31, t29_34, t29_37, t29_38, t29_39, t29_40, t29_43, t29_44, t29_47, t29_50, t29_51, t29_52, t29_53, t29_55, t29_58, t29_61, t29_62, t29_63, t29_66, t29_69, t29_70, lk_s, hp_get, hp_set, uH_at, uH_ne, uH_upd, uH_swap, iZ_add, iZ_sub, iZ_mul, iZ_neg, iZ_lt, iZ_le, iZ_eq, iZ_div, iZ_of, ix_Z, gZ_map, gZ_mapI, gZ_map', le_0, le_s, sZ_map, sZ_len, bZ_0, bZ_inj, bZ_t, bZ_f, nr_i, nr_0, nr_1, nr_b, ft_i, ft_b, ft_0, ft_1, zl_0, zl_1, zl_35, zl_60, zl_124, l0, h1, h2, e1, q1, b1, pO, -List.filter_filter, -List.getElem?_map, -List.getD_eq_getElem?_getD]
        · simp (disch := first | (refine c1_id ?_; assumption) | (refine c1_st rfl ?_; repeat (first | assumption | refine c1_st rfl ?_)) | omega) [nx_l, nx_r, nx_n, x_st, x_push, x_bin, x_div, x_un, x_dup, x_pop, x_dup2, x_goto, x_ifeq, x_ifne, x_iflt, x_ifge, x_ifgt, x_ifle, x_iceq, x_icne, x_iclt, x_icge, x_icgt, x_icle, x_ifnull, x_ifnonnull, x_ldi, x_lda, x_sti, x_sta, x_iinc, x_gf, x_pf, x_ald, x_ast, x_aln, x_len, x_cl_, x_cv, x_cs, x_rc, x_r0, x_isT, x_oi, x_rv, x_ri, x_ra, Value.category, t29_0, t29_1, t29_4, t29_5, t29_8, t29_9, t29_12, t29_13, t29_14, t29_16, t29_19, t29_20, t29_21, t29_22, t29_23, t29_24, t29_26, t29_29, t29_30, t29_31, t29_34, t29_37, t29_38, t29_39, t29_40, t29_43, t29_44, t29_47, t29_50, t29_51, t29_52, t29_53, t29_55, t29_58, t29_61, t29_62, t29_63, t29_66, t29_69, t29_70, lk_s, hp_get, hp_set, uH_at, uH_ne, uH_upd, uH_swap, iZ_add, iZ_sub, iZ_mul, iZ_neg, iZ_lt, iZ_le, iZ_eq, iZ_div, iZ_of, ix_Z, gZ_map, gZ_mapI, gZ_map', le_0, le_s, sZ_map, sZ_len, bZ_0, bZ_inj, bZ_t, bZ_f, nr_i, nr_0, nr_1, nr_b, ft_i, ft_b, ft_0, ft_1, zl_0, zl_1, zl_35, zl_60, zl_124, l0, h1, e1, pO, -List.filter_filter, -List.getElem?_map, -List.getD_eq_getElem?_getD]
      rcases l29 (N := N) d hN 60 [] T 0 w ((2, .int (iZ 0)) :: lv.filter (x_keep 2)) (by omega) hL h1 h2 hx C2 (by rw [lk_s hc]; exact l0) (by rw [lk_s hc]; exact l1) (by rw [lk_s hc]; rfl) with ⟨L, C', p3, w3, j1, j2, j3, j4, j5, j6⟩ | ⟨j1, p3, w3, j2, j3, j4, j5⟩
      · obtain ⟨k1, k2⟩ := r1 L C' j1 j2
        refine ⟨p3, w3, true, j3, j4.jk, j5, ?_, g23 _ (by rw [bZ_t]; exact j6)⟩
        unfold R28
        rw [k1]
        exact ⟨rfl, by rw [← k2]; exact j4⟩
      · refine ⟨p3, w3, false, j2, j3, j4, ?_, g23 _ (by rw [bZ_f]; exact j5)⟩
        unfold R28
        rw [r2 j1]
    obtain ⟨p', w', ok, i1, i2, i3, i4, i5⟩ := key
    exact ⟨p', w', ok, i1, i2, i3, i4, Xc.of rfl (by simp [lg_sl, Value.category]) i5 (jk_le i1 hL.jk i2 h1 i3)⟩
theorem m28 (d : Nat) (hN : 53 ≤ N) {w : Nat → xC} {T : List Int} {p : Int} (hJ : JK w 7) (h1 : w 1 = pO p l) (h2 : w 2 = cI 2 Tx) (hx : DX Tx l 0 T) :
    ∃ (p' : Int) (w' : Nat → xC) (ok : Bool), Fr ksJ w w' ∧ JK w' 7 ∧ w' 1 = pO p' l ∧ R28 T w' ok ∧ Xc (d + 35) 28 [.ref 4, .ref 10] (hp w N) (some (.int (iZ (bZ ok))), hp w' N) := by
  obtain ⟨w1, hw1⟩ : ∃ w1, w1 = uH w 1 (pO 0 l) := ⟨_, rfl⟩
  have hJ1 : JK w1 7 := hJ.mv (fun j j0 _ => by rw [hw1, uH_ne (by omega)])
  have hJ0 := hJ1
  obtain ⟨S, E, B, c, o, u, hf, nS, nE, nB, _⟩ := hJ1
  have X10 := m10 (N := N) (a := 7) (d + 33) hf ⟨by omega, by omega, by omega, by omega⟩
  obtain ⟨w2, hw2⟩ : ∃ w2, w2 = uH w1 7 (fC 7 0 0 o) := ⟨_, rfl⟩
  have X10 : Xc (d + 34) 10 [.ref 10] (hp w1 N) (none, hp w2 N) := by rw [hw2]; exact X10
  have hL2 : LA w2 7 [] := ⟨S, E, B, o, ⟨by rw [hw2, uH_at]; rfl, by rw [hw2, uH_ne (by decide)]; exact hf.2.1, by rw [hw2, uH_ne (by decide)]; exact hf.2.2.1, by rw [hw2, uH_ne (by decide)]; exact hf.2.2.2⟩, nS, nE, nB, ⟨fun j hj => absurd hj (Nat.not_lt_zero _), fun j hj => absurd hj (Nat.not_lt_zero _), fun j hj => absurd hj (Nat.not_lt_zero _)⟩, fun y hy => (by cases hy), by decide, by decide⟩
  have F2 : Fr ksJ w w2 := by rw [hw2, hw1]; exact ((Fr.rf _ _).up (by decide)).up (by decide)
  obtain ⟨p', w', ok, i1, i2, i3, i4, i5⟩ := m29 (N := N) d hN hL2 (by rw [hw2, uH_ne (by decide), hw1, uH_at]) (by rw [hw2, uH_ne (by decide), hw1, uH_ne (by decide)]; exact h2) hx
  refine ⟨p', w', ok, F2.tr i1, i2, i3, i4, ?_⟩
  refine Xc.of rfl (by simp [lg_sl, Value.category]) ?_ (jk_le (F2.tr i1) hJ i2 h1 i3)
  have hc : c1 (lv_args 0 [.ref 4, .ref 10]) := by simp [c1, lv_args, Value.category]
  have l0 : x_lk (lv_args 0 [.ref 4, .ref 10]) 0 = some (.ref 4) := rfl
  have l1 : x_lk (lv_args 0 [.ref 4, .ref 10]) 1 = some (.ref 10) := rfl
  generalize lv_args 0 [.ref 4, .ref 10] = lv at hc l0 l1
  refine Gx.fin 40 (X10.and i5) (fun X mm => ?_)
  obtain ⟨mm1, mm2⟩ := mm
  have f7 : w 7 = fC 7 c u.length o := by
    have := hf.1
    rw [hw1, uH_ne (by decide)] at this
    exact this
  have e12 : w2 1 = pO 0 l := by rw [hw2, uH_ne (by decide), hw1, uH_at]
  rw [hw1] at mm1
  cases ok with
  | true =>
    rw [bZ_t] at mm2 ⊢
    simp (disch := first | (refine c1_id ?_; assumption) | (refine c1_st rfl ?_; repeat (first | assumption | refine c1_st rfl ?_)) | omega) [nx_l, nx_r, nx_n, x_st, x_push, x_bin, x_div, x_un, x_dup, x_pop, x_dup2, x_goto, x_ifeq, x_ifne, x_iflt, x_ifge, x_ifgt, x_ifle, x_iceq, x_icne, x_iclt, x_icge, x_icgt, x_icle, x_ifnull, x_ifnonnull, x_ldi, x_lda, x_sti, x_sta, x_iinc, x_gf, x_pf, x_ald, x_ast, x_aln, x_len, x_cl_, x_cv, x_cs, x_rc, x_r0, x_isT, x_oi, x_rv, x_ri, x_ra, Value.category, t28_0, t28_1, t28_2, t28_5, t28_6, t28_9, t28_10, t28_11, t28_14, lk_s, hp_get, hp_set, uH_at, uH_ne, uH_upd, uH_swap, iZ_add, iZ_sub, iZ_mul, iZ_neg, iZ_lt, iZ_le, iZ_eq, iZ_div, iZ_of, ix_Z, gZ_map, gZ_mapI, gZ_map', le_0, le_s, sZ_map, sZ_len, bZ_0, bZ_inj, bZ_t, bZ_f, nr_i, nr_0, nr_1, nr_b, ft_i, ft_b, ft_0, ft_1, zl_0, zl_1, l0, l1, h1, f7, e12, mm1, mm2, pO, fC, -List.filter_filter, -List.getElem?_map, -List.getD_eq_getElem?_getD]
  | false =>
    rw [bZ_f] at mm2 ⊢
    simp (disch := first | (refine c1_id ?_; assumption) | (refine c1_st rfl ?_; repeat (first | assumption | refine c1_st rfl ?_)) | omega) [nx_l, nx_r, nx_n, x_st, x_push, x_bin, x_div, x_un, x_dup, x_pop, x_dup2, x_goto, x_ifeq, x_ifne, x_iflt, x_ifge, x_ifgt, x_ifle, x_iceq, x_icne, x_iclt, x_icge, x_icgt, x_icle, x_ifnull, x_ifnonnull, x_ldi, x_lda, x_sti, x_sta, x_iinc, x_gf, x_pf, x_ald, x_ast, x_aln, x_len, x_cl_, x_cv, x_cs, x_rc, x_r0, x_isT, x_oi, x_rv, x_ri, x_ra, Value.category, t28_0, t28_1, t28_2, t28_5, t28_6, t28_9, t28_10, t28_11, t28_14, lk_s, hp_get, hp_set, uH_at, uH_ne, uH_upd, uH_swap, iZ_add, iZ_sub, iZ_mul, iZ_neg, iZ_lt, iZ_le, iZ_eq, iZ_div, iZ_of, ix_Z, gZ_map, gZ_mapI, gZ_map', le_0, le_s, sZ_map, sZ_len, bZ_0, bZ_inj, bZ_t, bZ_f, nr_i, nr_0, nr_1, nr_b, ft_i, ft_b, ft_0, ft_1, zl_0, zl_1, l0, l1, h1, f7, e12, mm1, mm2, pO, fC, -List.filter_filter, -List.getElem?_map, -List.getD_eq_getElem?_getD]
end RC2
