theorem p_sw (xs : Nat → Int32) (n : Nat) (v : Int32) (t : Nat) (h : xH) (ht : x_tsw 0 12 [108, 135, 179, 297, 310, 323, 348, 373, 410, 435, 472, 485, 510] 523 [.int v] = some (t, [])) : x_go (q_kL 7 xs) (x_call x_tb 400 8) (n + 1) 40 ([(4, .int 0), (3, .ref 53), (2, .ref 28), (1, .ref 1), (0, .ref 0)], [.int v], h) = x_go (q_kL 7 xs) (x_call x_tb 400 8) n t ([(4, .int 0), (3, .ref 53), (2, .ref 28), (1, .ref 1), (0, .ref 0)], [], h) := by
  simp [x_go, fL_40, x_st, ht]
theorem p_short : ∀ L, L < 7 → Int32.ofNat L - 7 < 0 := by decide
theorem p_all (L : Nat) (xs : Nat → Int32) (hL : L ≤ 7) : ∃ h', x_go (q_kL L xs) (x_call x_tb 400 8) 225 0 ([(0, .ref 0)], [], []) = some (some (.int 1), h') ∧ h'.length ≤ 1000 ∧ x_sl h' ≤ 100000 := by
  rcases Nat.lt_or_ge L 7 with h | h
  · exact ⟨p_H0, (p_head L xs 212).trans (p_out L xs 204 (p_short L h) p_H0), by decide +kernel, by decide +kernel⟩
  · obtain rfl : L = 7 := by omega
    have e0 := (p_head 7 xs 212).trans (p_in xs 201)
    have z0 : p_H0.length ≤ 1000 ∧ x_sl p_H0 ≤ 100000 := ⟨by decide +kernel, by decide +kernel⟩
    have key : ∃ h', x_go (q_kL 7 xs) (x_call x_tb 400 8) 201 40 ([(4, .int 0), (3, .ref 53), (2, .ref 28), (1, .ref 1), (0, .ref 0)], [.int (xs 0 &&& 15)], p_H0) = some (some (.int 1), h') ∧ h'.length ≤ 1000 ∧ x_sl h' ≤ 100000 := by
      obtain ⟨j, hj, ej⟩ := pk_andE (xs 0) (m := 15) 4 (by decide)
      rw [ej]
      match j, hj with
      | 0, _ =>
        obtain ⟨h', a, b, c⟩ := p_c0 xs
        exact ⟨h', (p_sw xs 200 _ 108 p_H0 (by decide)).trans a, by rw [b]; decide, by rw [c]; exact z0.2⟩
      | 1, _ => exact ⟨p_G2, (p_sw xs 200 _ 135 p_H0 (by decide)).trans (p_c1 xs), by decide +kernel, by decide +kernel⟩
      | 2, _ => exact ⟨p_H3, (p_sw xs 200 _ 179 p_H0 (by decide)).trans (p_c2 xs), by decide +kernel, by decide +kernel⟩
      | 3, _ => exact ⟨p_H0, (p_sw xs 200 _ 297 p_H0 (by decide)).trans (p_c3 xs), z0⟩
      | 4, _ => exact ⟨p_H0, (p_sw xs 200 _ 310 p_H0 (by decide)).trans (p_c4 xs), z0⟩
      | 5, _ => exact ⟨p_H0, (p_sw xs 200 _ 323 p_H0 (by decide)).trans (p_c5 xs), z0⟩
      | 6, _ => exact ⟨p_H0, (p_sw xs 200 _ 348 p_H0 (by decide)).trans (p_c6 xs), z0⟩
      | 7, _ => exact ⟨p_H0, (p_sw xs 200 _ 373 p_H0 (by decide)).trans (p_c7 xs), z0⟩
      | 8, _ => exact ⟨p_H0, (p_sw xs 200 _ 410 p_H0 (by decide)).trans (p_c8 xs), z0⟩
      | 9, _ => exact ⟨p_H0, (p_sw xs 200 _ 435 p_H0 (by decide)).trans (p_c9 xs), z0⟩
      | 10, _ => exact ⟨p_H0, (p_sw xs 200 _ 472 p_H0 (by decide)).trans (p_c10 xs), z0⟩
      | 11, _ => exact ⟨p_H0, (p_sw xs 200 _ 485 p_H0 (by decide)).trans (p_c11 xs), z0⟩
      | 12, _ => exact ⟨p_H0, (p_sw xs 200 _ 510 p_H0 (by decide)).trans (p_c12 xs), z0⟩
      | 13, _ => exact ⟨p_H0, (p_sw xs 200 _ 523 p_H0 (by decide)).trans (p_cd xs), z0⟩
      | 14, _ => exact ⟨p_H0, (p_sw xs 200 _ 523 p_H0 (by decide)).trans (p_cd xs), z0⟩
      | 15, _ => exact ⟨p_H0, (p_sw xs 200 _ 523 p_H0 (by decide)).trans (p_cd xs), z0⟩
      | k + 16, hk => exact absurd hk (by omega)
    obtain ⟨h', a, b⟩ := key
    exact ⟨h', e0.trans a, b⟩
