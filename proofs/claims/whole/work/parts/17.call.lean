theorem x_callE {tb : Nat → Option (List (Nat × xO) × Nat)} {F d M mL : Nat} {cd : List (Nat × xO)} {as : List Value} {h h' : xH} {v : Option Value} (ht : tb M = some (cd, mL)) (hl : (lg_sl as).length ≤ mL) (hg : x_go cd (x_call tb F d) F 0 (lv_args 0 as, [], h) = some (v, h')) (hle : x_le h h') : x_call tb F (d + 1) M as h = some (v, h') := by
  unfold x_call
  rw [ht]
  dsimp only
  rw [if_pos hl, hg]
  unfold x_grew
  exact if_pos hle
theorem x_same {α : Type} {h : List α} {a : Nat} {c : α} (hO : h[a]? = some c) : h.set a c = h := by
  apply List.ext_getElem?
  intro j
  rw [List.getElem?_set]
  split
  · next e =>
    subst e
    split
    · exact hO.symm
    · next hn => exact absurd (List.getElem?_eq_some_iff.mp hO).1 hn
  · rfl
