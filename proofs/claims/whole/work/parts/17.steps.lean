theorem x_callE {tb : Nat → Option (List (Nat × xO) × Nat)} {F d M mL : Nat} {cd : List (Nat × xO)} {as : List Value} {h h' : xH} {v : Option Value} (ht : tb M = some (cd, mL)) (hl : (lg_sl as).length ≤ mL) (hg : x_go cd (x_call tb F d) F 0 (lv_args 0 as, [], h) = some (v, h')) (hle : x_le h h') : x_call tb F (d + 1) M as h = some (v, h') := by
  unfold x_call
  rw [ht]
  dsimp only
  rw [if_pos hl, hg]
  unfold x_grew
  exact if_pos hle
theorem e134 (F d : Nat) (h : xH) (a : Nat) (k : Int32) (fs : List Value) (hO : h[a]? = some (.inr (8, fs))) (hc : fs[2]? = some (.int 0)) : x_call x_tb (F + 20) (d + 1) 134 [.ref (a + 1), .int k] h = some (some (.int 0), h) := by
  refine x_callE (cd := q_k134) (mL := 2) rfl (by simp [lg_sl, Value.category]) ?_ x_le.rf
  by_cases h1 : k < 0
  · simp [x_go, x_fetch, q_k134, q_k134_0, x_st, x_ldi, x_lda, x_lk, lv_args, x_push, x_iflt, x_icge, x_gf, x_goto, x_ri, hO, hc, h1, narrow, Value.category]
  · have h2 : (0 : Int32) ≤ k := Int32.not_lt.mp h1
    simp [x_go, x_fetch, q_k134, q_k134_0, x_st, x_ldi, x_lda, x_lk, lv_args, x_push, x_iflt, x_icge, x_gf, x_goto, x_ri, hO, hc, h1, h2, narrow, Value.category]
