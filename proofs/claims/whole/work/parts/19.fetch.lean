theorem x_at {pc : Nat} {op : xO} : ∀ {a : List (Nat × xO)} {ks : List Nat} {i : Nat} (r : List (Nat × xO)), a.map Prod.fst = ks → (ks.take i).contains pc = false → a[i]? = some (pc, op) → x_fetch (a ++ r) pc = op
  | [], _, _, _, _, _, hi => by simp at hi
  | q :: t, _, 0, _, rfl, _, hi => by
    simp at hi
    subst hi
    simp [x_fetch]
  | q :: t, _, i + 1, r, rfl, hn, hi => by
    simp only [List.map_cons, List.take_succ_cons, List.contains_cons, Bool.or_eq_false_iff] at hn
    have hq : ¬ q.1 = pc := fun e => by
      have := hn.1
      simp [e] at this
    have e : x_fetch (q :: t ++ r) pc = x_fetch (t ++ r) pc := if_neg hq
    exact e.trans (x_at r rfl hn.2 (by simpa using hi))
theorem x_past {pc : Nat} : ∀ {a : List (Nat × xO)} {ks : List Nat} (r : List (Nat × xO)), a.map Prod.fst = ks → ks.contains pc = false → x_fetch (a ++ r) pc = x_fetch r pc
  | [], _, _, _, _ => rfl
  | q :: t, _, r, rfl, hn => by
    simp only [List.map_cons, List.contains_cons, Bool.or_eq_false_iff] at hn
    have hq : ¬ q.1 = pc := fun e => by
      have := hn.1
      simp [e] at this
    have e : x_fetch (q :: t ++ r) pc = x_fetch (t ++ r) pc := if_neg hq
    exact e.trans (x_past r rfl hn.2)
def q_ks0 : List Nat := [0, 3, 4, 7, 8, 11, 12, 15, 16, 17, 19, 20, 21, 23, 25, 26, 27, 29, 30, 33, 34, 36, 37, 39, 40, 108, 109, 110, 112, 113, 114, 115, 116, 119, 120, 121, 123, 124, 125, 126]
theorem q_ke0 (b L : Nat) (xs : Nat → Int32) : (q_kL_0 b L xs).map Prod.fst = q_ks0 := rfl
def q_ks1 : List Nat := [127, 130, 133, 134, 135, 136, 137, 140, 142, 143, 146, 148, 149, 152, 154, 157, 158, 159, 161, 164, 165, 166, 167, 169, 170, 171, 174, 175, 176, 179, 180, 181, 183, 184, 185, 186, 187, 189, 190, 191]
theorem q_ke1 (b L : Nat) (xs : Nat → Int32) : (q_kL_1 b L xs).map Prod.fst = q_ks1 := rfl
def q_ks2 : List Nat := [192, 193, 195, 196, 197, 198, 199, 201, 202, 203, 204, 205, 207, 208, 209, 210, 211, 213, 215, 216, 217, 218, 221, 223, 224, 225, 227, 228, 229, 230, 231, 233, 234, 235, 236, 237, 239, 240, 241, 242]
theorem q_ke2 (b L : Nat) (xs : Nat → Int32) : (q_kL_2 b L xs).map Prod.fst = q_ks2 := rfl
def q_ks3 : List Nat := [243, 245, 246, 247, 248, 249, 251, 252, 253, 254, 255, 257, 259, 260, 261, 264, 266, 267, 270, 272, 275, 276, 277, 279, 282, 283, 284, 285, 287, 288, 289, 292, 293, 294, 297, 298, 301, 302, 305, 308]
theorem q_ke3 (b L : Nat) (xs : Nat → Int32) : (q_kL_3 b L xs).map Prod.fst = q_ks3 := rfl
def q_ks4 : List Nat := [309, 310, 311, 314, 315, 318, 321, 322, 323, 324, 325, 327, 328, 329, 330, 333, 334, 335, 337, 338, 339, 340, 343, 346, 347, 348, 349, 350, 352, 353, 354, 355, 358, 359, 360, 362, 363, 364, 365, 368]
theorem q_ke4 (b L : Nat) (xs : Nat → Int32) : (q_kL_4 b L xs).map Prod.fst = q_ks4 := rfl
def q_ks5 : List Nat := [371, 372, 373, 374, 375, 377, 378, 379, 380, 381, 383, 384, 385, 386, 389, 390, 391, 393, 394, 395, 396, 397, 399, 400, 401, 402, 405, 408, 409, 410, 411, 412, 414, 415, 416, 417, 420, 421, 422, 424]
theorem q_ke5 (b L : Nat) (xs : Nat → Int32) : (q_kL_5 b L xs).map Prod.fst = q_ks5 := rfl
def q_ks6 : List Nat := [425, 426, 427, 430, 433, 434, 435, 436, 437, 439, 440, 441, 442, 443, 445, 446, 447, 448, 451, 452, 453, 455, 456, 457, 458, 459, 461, 462, 463, 464, 467, 470, 471, 472, 473, 476, 477, 480, 483, 484]
theorem q_ke6 (b L : Nat) (xs : Nat → Int32) : (q_kL_6 b L xs).map Prod.fst = q_ks6 := rfl
def q_ks7 : List Nat := [485, 486, 487, 489, 490, 491, 492, 495, 496, 497, 499, 500, 501, 502, 505, 508, 509, 510, 511, 514, 515, 518, 521, 522, 523, 526, 529, 530]
theorem q_ke7 (b L : Nat) (xs : Nat → Int32) : (q_kL_7 b L xs).map Prod.fst = q_ks7 := rfl
def q_r0 (b L : Nat) (xs : Nat → Int32) : List (Nat × xO) := q_kL_0 b L xs ++ (q_kL_1 b L xs ++ (q_kL_2 b L xs ++ (q_kL_3 b L xs ++ (q_kL_4 b L xs ++ (q_kL_5 b L xs ++ (q_kL_6 b L xs ++ (q_kL_7 b L xs ++ [])))))))
def q_r1 (b L : Nat) (xs : Nat → Int32) : List (Nat × xO) := q_kL_1 b L xs ++ (q_kL_2 b L xs ++ (q_kL_3 b L xs ++ (q_kL_4 b L xs ++ (q_kL_5 b L xs ++ (q_kL_6 b L xs ++ (q_kL_7 b L xs ++ []))))))
def q_r2 (b L : Nat) (xs : Nat → Int32) : List (Nat × xO) := q_kL_2 b L xs ++ (q_kL_3 b L xs ++ (q_kL_4 b L xs ++ (q_kL_5 b L xs ++ (q_kL_6 b L xs ++ (q_kL_7 b L xs ++ [])))))
def q_r3 (b L : Nat) (xs : Nat → Int32) : List (Nat × xO) := q_kL_3 b L xs ++ (q_kL_4 b L xs ++ (q_kL_5 b L xs ++ (q_kL_6 b L xs ++ (q_kL_7 b L xs ++ []))))
def q_r4 (b L : Nat) (xs : Nat → Int32) : List (Nat × xO) := q_kL_4 b L xs ++ (q_kL_5 b L xs ++ (q_kL_6 b L xs ++ (q_kL_7 b L xs ++ [])))
def q_r5 (b L : Nat) (xs : Nat → Int32) : List (Nat × xO) := q_kL_5 b L xs ++ (q_kL_6 b L xs ++ (q_kL_7 b L xs ++ []))
def q_r6 (b L : Nat) (xs : Nat → Int32) : List (Nat × xO) := q_kL_6 b L xs ++ (q_kL_7 b L xs ++ [])
def q_r7 (b L : Nat) (xs : Nat → Int32) : List (Nat × xO) := q_kL_7 b L xs ++ []
theorem q_kLr (b L : Nat) (xs : Nat → Int32) : q_kL b L xs = q_r0 b L xs := by simp only [q_kL, q_r0, List.append_assoc, List.append_nil]
theorem q_if0 (b L : Nat) (xs : Nat → Int32) {pc i : Nat} {op : xO} (hn : (q_ks0.take i).contains pc = false) (hi : (q_kL_0 b L xs)[i]? = some (pc, op)) : x_fetch (q_kL b L xs) pc = op := by
  rw [q_kLr]
  exact x_at (q_r1 b L xs) (q_ke0 b L xs) hn hi
theorem q_if1 (b L : Nat) (xs : Nat → Int32) {pc i : Nat} {op : xO} (h0 : q_ks0.contains pc = false) (hn : (q_ks1.take i).contains pc = false) (hi : (q_kL_1 b L xs)[i]? = some (pc, op)) : x_fetch (q_kL b L xs) pc = op := by
  rw [q_kLr]
  refine (x_past (q_r1 b L xs) (q_ke0 b L xs) h0).trans ?_
  exact x_at (q_r2 b L xs) (q_ke1 b L xs) hn hi
theorem q_if2 (b L : Nat) (xs : Nat → Int32) {pc i : Nat} {op : xO} (h0 : q_ks0.contains pc = false) (h1 : q_ks1.contains pc = false) (hn : (q_ks2.take i).contains pc = false) (hi : (q_kL_2 b L xs)[i]? = some (pc, op)) : x_fetch (q_kL b L xs) pc = op := by
  rw [q_kLr]
  refine (x_past (q_r1 b L xs) (q_ke0 b L xs) h0).trans ?_
  refine (x_past (q_r2 b L xs) (q_ke1 b L xs) h1).trans ?_
  exact x_at (q_r3 b L xs) (q_ke2 b L xs) hn hi
theorem q_if3 (b L : Nat) (xs : Nat → Int32) {pc i : Nat} {op : xO} (h0 : q_ks0.contains pc = false) (h1 : q_ks1.contains pc = false) (h2 : q_ks2.contains pc = false) (hn : (q_ks3.take i).contains pc = false) (hi : (q_kL_3 b L xs)[i]? = some (pc, op)) : x_fetch (q_kL b L xs) pc = op := by
  rw [q_kLr]
  refine (x_past (q_r1 b L xs) (q_ke0 b L xs) h0).trans ?_
  refine (x_past (q_r2 b L xs) (q_ke1 b L xs) h1).trans ?_
  refine (x_past (q_r3 b L xs) (q_ke2 b L xs) h2).trans ?_
  exact x_at (q_r4 b L xs) (q_ke3 b L xs) hn hi
theorem q_if4 (b L : Nat) (xs : Nat → Int32) {pc i : Nat} {op : xO} (h0 : q_ks0.contains pc = false) (h1 : q_ks1.contains pc = false) (h2 : q_ks2.contains pc = false) (h3 : q_ks3.contains pc = false) (hn : (q_ks4.take i).contains pc = false) (hi : (q_kL_4 b L xs)[i]? = some (pc, op)) : x_fetch (q_kL b L xs) pc = op := by
  rw [q_kLr]
  refine (x_past (q_r1 b L xs) (q_ke0 b L xs) h0).trans ?_
  refine (x_past (q_r2 b L xs) (q_ke1 b L xs) h1).trans ?_
  refine (x_past (q_r3 b L xs) (q_ke2 b L xs) h2).trans ?_
  refine (x_past (q_r4 b L xs) (q_ke3 b L xs) h3).trans ?_
  exact x_at (q_r5 b L xs) (q_ke4 b L xs) hn hi
theorem q_if5 (b L : Nat) (xs : Nat → Int32) {pc i : Nat} {op : xO} (h0 : q_ks0.contains pc = false) (h1 : q_ks1.contains pc = false) (h2 : q_ks2.contains pc = false) (h3 : q_ks3.contains pc = false) (h4 : q_ks4.contains pc = false) (hn : (q_ks5.take i).contains pc = false) (hi : (q_kL_5 b L xs)[i]? = some (pc, op)) : x_fetch (q_kL b L xs) pc = op := by
  rw [q_kLr]
  refine (x_past (q_r1 b L xs) (q_ke0 b L xs) h0).trans ?_
  refine (x_past (q_r2 b L xs) (q_ke1 b L xs) h1).trans ?_
  refine (x_past (q_r3 b L xs) (q_ke2 b L xs) h2).trans ?_
  refine (x_past (q_r4 b L xs) (q_ke3 b L xs) h3).trans ?_
  refine (x_past (q_r5 b L xs) (q_ke4 b L xs) h4).trans ?_
  exact x_at (q_r6 b L xs) (q_ke5 b L xs) hn hi
theorem q_if6 (b L : Nat) (xs : Nat → Int32) {pc i : Nat} {op : xO} (h0 : q_ks0.contains pc = false) (h1 : q_ks1.contains pc = false) (h2 : q_ks2.contains pc = false) (h3 : q_ks3.contains pc = false) (h4 : q_ks4.contains pc = false) (h5 : q_ks5.contains pc = false) (hn : (q_ks6.take i).contains pc = false) (hi : (q_kL_6 b L xs)[i]? = some (pc, op)) : x_fetch (q_kL b L xs) pc = op := by
  rw [q_kLr]
  refine (x_past (q_r1 b L xs) (q_ke0 b L xs) h0).trans ?_
  refine (x_past (q_r2 b L xs) (q_ke1 b L xs) h1).trans ?_
  refine (x_past (q_r3 b L xs) (q_ke2 b L xs) h2).trans ?_
  refine (x_past (q_r4 b L xs) (q_ke3 b L xs) h3).trans ?_
  refine (x_past (q_r5 b L xs) (q_ke4 b L xs) h4).trans ?_
  refine (x_past (q_r6 b L xs) (q_ke5 b L xs) h5).trans ?_
  exact x_at (q_r7 b L xs) (q_ke6 b L xs) hn hi
theorem q_if7 (b L : Nat) (xs : Nat → Int32) {pc i : Nat} {op : xO} (h0 : q_ks0.contains pc = false) (h1 : q_ks1.contains pc = false) (h2 : q_ks2.contains pc = false) (h3 : q_ks3.contains pc = false) (h4 : q_ks4.contains pc = false) (h5 : q_ks5.contains pc = false) (h6 : q_ks6.contains pc = false) (hn : (q_ks7.take i).contains pc = false) (hi : (q_kL_7 b L xs)[i]? = some (pc, op)) : x_fetch (q_kL b L xs) pc = op := by
  rw [q_kLr]
  refine (x_past (q_r1 b L xs) (q_ke0 b L xs) h0).trans ?_
  refine (x_past (q_r2 b L xs) (q_ke1 b L xs) h1).trans ?_
  refine (x_past (q_r3 b L xs) (q_ke2 b L xs) h2).trans ?_
  refine (x_past (q_r4 b L xs) (q_ke3 b L xs) h3).trans ?_
  refine (x_past (q_r5 b L xs) (q_ke4 b L xs) h4).trans ?_
  refine (x_past (q_r6 b L xs) (q_ke5 b L xs) h5).trans ?_
  refine (x_past (q_r7 b L xs) (q_ke6 b L xs) h6).trans ?_
  exact x_at [] (q_ke7 b L xs) hn hi
theorem fL_0 (b L : Nat) (xs : Nat → Int32) : x_fetch (q_kL b L xs) 0 = x_nw_ 3 0 [.null, .null, .int 0, .null, .null, .int 0, .int 0, .null, .null, .int 0] := q_if0 b L xs (i := 0) (by decide +kernel) rfl
theorem fL_3 (b L : Nat) (xs : Nat → Int32) : x_fetch (q_kL b L xs) 3 = x_st (x_dup 4) := q_if0 b L xs (i := 1) (by decide +kernel) rfl
theorem fL_4 (b L : Nat) (xs : Nat → Int32) : x_fetch (q_kL b L xs) 4 = x_cs 7 67 1 := q_if0 b L xs (i := 2) (by decide +kernel) rfl
theorem fL_7 (b L : Nat) (xs : Nat → Int32) : x_fetch (q_kL b L xs) 7 = x_sta 8 1 := q_if0 b L xs (i := 3) (by decide +kernel) rfl
theorem fL_8 (b L : Nat) (xs : Nat → Int32) : x_fetch (q_kL b L xs) 8 = x_nw_ 11 8 [.int 0, .int 0, .int 0, .null, .null, .null, .null, .null, .null, .null, .null, .null, .null, .int 0, .int 0, .int 0, .int 0, .null, .null, .null, .null, .int 0, .int 0, .int 0, .int 0, .null, .null, .null, .int 0, .null, .null, .null, .null, .null, .null, .null, .int 0, .int 0, .int 0] := q_if0 b L xs (i := 4) (by decide +kernel) rfl
theorem fL_11 (b L : Nat) (xs : Nat → Int32) : x_fetch (q_kL b L xs) 11 = x_st (x_dup 12) := q_if0 b L xs (i := 5) (by decide +kernel) rfl
theorem fL_12 (b L : Nat) (xs : Nat → Int32) : x_fetch (q_kL b L xs) 12 = x_cs 15 91 1 := q_if0 b L xs (i := 6) (by decide +kernel) rfl
theorem fL_15 (b L : Nat) (xs : Nat → Int32) : x_fetch (q_kL b L xs) 15 = x_sta 16 2 := q_if0 b L xs (i := 7) (by decide +kernel) rfl
theorem fL_16 (b L : Nat) (xs : Nat → Int32) : x_fetch (q_kL b L xs) 16 = x_st (x_push 17 (.int (1))) := q_if0 b L xs (i := 8) (by decide +kernel) rfl
theorem fL_17 (b L : Nat) (xs : Nat → Int32) : x_fetch (q_kL b L xs) 17 = x_nal 19 3 := q_if0 b L xs (i := 9) (by decide +kernel) rfl
theorem fL_19 (b L : Nat) (xs : Nat → Int32) : x_fetch (q_kL b L xs) 19 = x_sta 20 3 := q_if0 b L xs (i := 10) (by decide +kernel) rfl
theorem fL_20 (b L : Nat) (xs : Nat → Int32) : x_fetch (q_kL b L xs) 20 = x_st (x_push 21 (.int (0))) := q_if0 b L xs (i := 11) (by decide +kernel) rfl
theorem fL_21 (b L : Nat) (xs : Nat → Int32) : x_fetch (q_kL b L xs) 21 = x_sti 23 4 := q_if0 b L xs (i := 12) (by decide +kernel) rfl
theorem fL_23 (b L : Nat) (xs : Nat → Int32) : x_fetch (q_kL b L xs) 23 = x_ldi 25 4 := q_if0 b L xs (i := 13) (by decide +kernel) rfl
theorem fL_25 (b L : Nat) (xs : Nat → Int32) : x_fetch (q_kL b L xs) 25 = x_lda 26 0 := q_if0 b L xs (i := 14) (by decide +kernel) rfl
theorem fL_26 (b L : Nat) (xs : Nat → Int32) : x_fetch (q_kL b L xs) 26 = x_st (x_sln 27 b L) := q_if0 b L xs (i := 15) (by decide +kernel) rfl
theorem fL_27 (b L : Nat) (xs : Nat → Int32) : x_fetch (q_kL b L xs) 27 = x_st (x_push 29 (.int (7))) := q_if0 b L xs (i := 16) (by decide +kernel) rfl
theorem fL_29 (b L : Nat) (xs : Nat → Int32) : x_fetch (q_kL b L xs) 29 = x_st (x_bin 30 (fun a b => a - b)) := q_if0 b L xs (i := 17) (by decide +kernel) rfl
theorem fL_30 (b L : Nat) (xs : Nat → Int32) : x_fetch (q_kL b L xs) 30 = x_st (x_icgt 529 33) := q_if0 b L xs (i := 18) (by decide +kernel) rfl
theorem fL_33 (b L : Nat) (xs : Nat → Int32) : x_fetch (q_kL b L xs) 33 = x_lda 34 0 := q_if0 b L xs (i := 19) (by decide +kernel) rfl
theorem fL_34 (b L : Nat) (xs : Nat → Int32) : x_fetch (q_kL b L xs) 34 = x_ldi 36 4 := q_if0 b L xs (i := 20) (by decide +kernel) rfl
theorem fL_36 (b L : Nat) (xs : Nat → Int32) : x_fetch (q_kL b L xs) 36 = x_st (x_sld 37 b L xs) := q_if0 b L xs (i := 21) (by decide +kernel) rfl
theorem fL_37 (b L : Nat) (xs : Nat → Int32) : x_fetch (q_kL b L xs) 37 = x_st (x_push 39 (.int (15))) := q_if0 b L xs (i := 22) (by decide +kernel) rfl
theorem fL_39 (b L : Nat) (xs : Nat → Int32) : x_fetch (q_kL b L xs) 39 = x_st (x_bin 40 (fun a b => a &&& b)) := q_if0 b L xs (i := 23) (by decide +kernel) rfl
theorem fL_40 (b L : Nat) (xs : Nat → Int32) : x_fetch (q_kL b L xs) 40 = x_st (x_tsw 0 12 [108, 135, 179, 297, 310, 323, 348, 373, 410, 435, 472, 485, 510] 523) := q_if0 b L xs (i := 24) (by decide +kernel) rfl
theorem fL_108 (b L : Nat) (xs : Nat → Int32) : x_fetch (q_kL b L xs) 108 = x_lda 109 1 := q_if0 b L xs (i := 25) (by decide +kernel) rfl
theorem fL_109 (b L : Nat) (xs : Nat → Int32) : x_fetch (q_kL b L xs) 109 = x_lda 110 0 := q_if0 b L xs (i := 26) (by decide +kernel) rfl
theorem fL_110 (b L : Nat) (xs : Nat → Int32) : x_fetch (q_kL b L xs) 110 = x_ldi 112 4 := q_if0 b L xs (i := 27) (by decide +kernel) rfl
theorem fL_112 (b L : Nat) (xs : Nat → Int32) : x_fetch (q_kL b L xs) 112 = x_st (x_push 113 (.int (1))) := q_if0 b L xs (i := 28) (by decide +kernel) rfl
theorem fL_113 (b L : Nat) (xs : Nat → Int32) : x_fetch (q_kL b L xs) 113 = x_st (x_bin 114 (fun a b => a + b)) := q_if0 b L xs (i := 29) (by decide +kernel) rfl
theorem fL_114 (b L : Nat) (xs : Nat → Int32) : x_fetch (q_kL b L xs) 114 = x_st (x_sld 115 b L xs) := q_if0 b L xs (i := 30) (by decide +kernel) rfl
theorem fL_115 (b L : Nat) (xs : Nat → Int32) : x_fetch (q_kL b L xs) 115 = x_st (x_un 116 (fun a => .int (a.toUInt32 % 65536).toInt32)) := q_if0 b L xs (i := 31) (by decide +kernel) rfl
theorem fL_116 (b L : Nat) (xs : Nat → Int32) : x_fetch (q_kL b L xs) 116 = x_cv 119 68 2 0 := q_if0 b L xs (i := 32) (by decide +kernel) rfl
theorem fL_119 (b L : Nat) (xs : Nat → Int32) : x_fetch (q_kL b L xs) 119 = x_lda 120 2 := q_if0 b L xs (i := 33) (by decide +kernel) rfl
theorem fL_120 (b L : Nat) (xs : Nat → Int32) : x_fetch (q_kL b L xs) 120 = x_lda 121 0 := q_if0 b L xs (i := 34) (by decide +kernel) rfl
theorem fL_121 (b L : Nat) (xs : Nat → Int32) : x_fetch (q_kL b L xs) 121 = x_ldi 123 4 := q_if0 b L xs (i := 35) (by decide +kernel) rfl
theorem fL_123 (b L : Nat) (xs : Nat → Int32) : x_fetch (q_kL b L xs) 123 = x_st (x_push 124 (.int (1))) := q_if0 b L xs (i := 36) (by decide +kernel) rfl
theorem fL_124 (b L : Nat) (xs : Nat → Int32) : x_fetch (q_kL b L xs) 124 = x_st (x_bin 125 (fun a b => a + b)) := q_if0 b L xs (i := 37) (by decide +kernel) rfl
theorem fL_125 (b L : Nat) (xs : Nat → Int32) : x_fetch (q_kL b L xs) 125 = x_st (x_sld 126 b L xs) := q_if0 b L xs (i := 38) (by decide +kernel) rfl
theorem fL_126 (b L : Nat) (xs : Nat → Int32) : x_fetch (q_kL b L xs) 126 = x_st (x_un 127 (fun a => .int (a.toUInt32 % 65536).toInt32)) := q_if0 b L xs (i := 39) (by decide +kernel) rfl
theorem fL_127 (b L : Nat) (xs : Nat → Int32) : x_fetch (q_kL b L xs) 127 = x_cv 130 94 2 8 := q_if1 b L xs (i := 0) (by decide +kernel) (by decide +kernel) rfl
theorem fL_130 (b L : Nat) (xs : Nat → Int32) : x_fetch (q_kL b L xs) 130 = x_st (x_iceq 523 133) := q_if1 b L xs (i := 1) (by decide +kernel) (by decide +kernel) rfl
theorem fL_135 (b L : Nat) (xs : Nat → Int32) : x_fetch (q_kL b L xs) 135 = x_lda 136 1 := q_if1 b L xs (i := 4) (by decide +kernel) (by decide +kernel) rfl
theorem fL_136 (b L : Nat) (xs : Nat → Int32) : x_fetch (q_kL b L xs) 136 = x_lda 137 3 := q_if1 b L xs (i := 5) (by decide +kernel) (by decide +kernel) rfl
theorem fL_137 (b L : Nat) (xs : Nat → Int32) : x_fetch (q_kL b L xs) 137 = x_cl_ 140 146 2 := q_if1 b L xs (i := 6) (by decide +kernel) (by decide +kernel) rfl
theorem fL_140 (b L : Nat) (xs : Nat → Int32) : x_fetch (q_kL b L xs) 140 = x_sti 142 5 := q_if1 b L xs (i := 7) (by decide +kernel) (by decide +kernel) rfl
theorem fL_142 (b L : Nat) (xs : Nat → Int32) : x_fetch (q_kL b L xs) 142 = x_lda 143 2 := q_if1 b L xs (i := 8) (by decide +kernel) (by decide +kernel) rfl
theorem fL_143 (b L : Nat) (xs : Nat → Int32) : x_fetch (q_kL b L xs) 143 = x_cv 146 108 1 8 := q_if1 b L xs (i := 9) (by decide +kernel) (by decide +kernel) rfl
theorem fL_146 (b L : Nat) (xs : Nat → Int32) : x_fetch (q_kL b L xs) 146 = x_sti 148 6 := q_if1 b L xs (i := 10) (by decide +kernel) (by decide +kernel) rfl
theorem fL_148 (b L : Nat) (xs : Nat → Int32) : x_fetch (q_kL b L xs) 148 = x_lda 149 2 := q_if1 b L xs (i := 11) (by decide +kernel) (by decide +kernel) rfl
theorem fL_149 (b L : Nat) (xs : Nat → Int32) : x_fetch (q_kL b L xs) 149 = x_cv 152 92 1 8 := q_if1 b L xs (i := 12) (by decide +kernel) (by decide +kernel) rfl
theorem fL_152 (b L : Nat) (xs : Nat → Int32) : x_fetch (q_kL b L xs) 152 = x_ldi 154 5 := q_if1 b L xs (i := 13) (by decide +kernel) (by decide +kernel) rfl
theorem fL_154 (b L : Nat) (xs : Nat → Int32) : x_fetch (q_kL b L xs) 154 = x_st (x_iceq 159 157) := q_if1 b L xs (i := 14) (by decide +kernel) (by decide +kernel) rfl
theorem fL_159 (b L : Nat) (xs : Nat → Int32) : x_fetch (q_kL b L xs) 159 = x_ldi 161 5 := q_if1 b L xs (i := 17) (by decide +kernel) (by decide +kernel) rfl
theorem fL_161 (b L : Nat) (xs : Nat → Int32) : x_fetch (q_kL b L xs) 161 = x_st (x_ifne 176 164) := q_if1 b L xs (i := 18) (by decide +kernel) (by decide +kernel) rfl
theorem fL_176 (b L : Nat) (xs : Nat → Int32) : x_fetch (q_kL b L xs) 176 = x_st (x_goto 523) := q_if1 b L xs (i := 28) (by decide +kernel) (by decide +kernel) rfl
theorem fL_179 (b L : Nat) (xs : Nat → Int32) : x_fetch (q_kL b L xs) 179 = x_lda 180 1 := q_if1 b L xs (i := 29) (by decide +kernel) (by decide +kernel) rfl
theorem fL_180 (b L : Nat) (xs : Nat → Int32) : x_fetch (q_kL b L xs) 180 = x_lda 181 0 := q_if1 b L xs (i := 30) (by decide +kernel) (by decide +kernel) rfl
theorem fL_181 (b L : Nat) (xs : Nat → Int32) : x_fetch (q_kL b L xs) 181 = x_ldi 183 4 := q_if1 b L xs (i := 31) (by decide +kernel) (by decide +kernel) rfl
theorem fL_183 (b L : Nat) (xs : Nat → Int32) : x_fetch (q_kL b L xs) 183 = x_st (x_push 184 (.int (1))) := q_if1 b L xs (i := 32) (by decide +kernel) (by decide +kernel) rfl
theorem fL_184 (b L : Nat) (xs : Nat → Int32) : x_fetch (q_kL b L xs) 184 = x_st (x_bin 185 (fun a b => a + b)) := q_if1 b L xs (i := 33) (by decide +kernel) (by decide +kernel) rfl
theorem fL_185 (b L : Nat) (xs : Nat → Int32) : x_fetch (q_kL b L xs) 185 = x_st (x_sld 186 b L xs) := q_if1 b L xs (i := 34) (by decide +kernel) (by decide +kernel) rfl
theorem fL_186 (b L : Nat) (xs : Nat → Int32) : x_fetch (q_kL b L xs) 186 = x_lda 187 0 := q_if1 b L xs (i := 35) (by decide +kernel) (by decide +kernel) rfl
theorem fL_187 (b L : Nat) (xs : Nat → Int32) : x_fetch (q_kL b L xs) 187 = x_ldi 189 4 := q_if1 b L xs (i := 36) (by decide +kernel) (by decide +kernel) rfl
theorem fL_189 (b L : Nat) (xs : Nat → Int32) : x_fetch (q_kL b L xs) 189 = x_st (x_push 190 (.int (2))) := q_if1 b L xs (i := 37) (by decide +kernel) (by decide +kernel) rfl
theorem fL_190 (b L : Nat) (xs : Nat → Int32) : x_fetch (q_kL b L xs) 190 = x_st (x_bin 191 (fun a b => a + b)) := q_if1 b L xs (i := 38) (by decide +kernel) (by decide +kernel) rfl
theorem fL_191 (b L : Nat) (xs : Nat → Int32) : x_fetch (q_kL b L xs) 191 = x_st (x_sld 192 b L xs) := q_if1 b L xs (i := 39) (by decide +kernel) (by decide +kernel) rfl
theorem fL_192 (b L : Nat) (xs : Nat → Int32) : x_fetch (q_kL b L xs) 192 = x_lda 193 0 := q_if2 b L xs (i := 0) (by decide +kernel) (by decide +kernel) (by decide +kernel) rfl
theorem fL_193 (b L : Nat) (xs : Nat → Int32) : x_fetch (q_kL b L xs) 193 = x_ldi 195 4 := q_if2 b L xs (i := 1) (by decide +kernel) (by decide +kernel) (by decide +kernel) rfl
theorem fL_195 (b L : Nat) (xs : Nat → Int32) : x_fetch (q_kL b L xs) 195 = x_st (x_push 196 (.int (3))) := q_if2 b L xs (i := 2) (by decide +kernel) (by decide +kernel) (by decide +kernel) rfl
theorem fL_196 (b L : Nat) (xs : Nat → Int32) : x_fetch (q_kL b L xs) 196 = x_st (x_bin 197 (fun a b => a + b)) := q_if2 b L xs (i := 3) (by decide +kernel) (by decide +kernel) (by decide +kernel) rfl
theorem fL_197 (b L : Nat) (xs : Nat → Int32) : x_fetch (q_kL b L xs) 197 = x_st (x_sld 198 b L xs) := q_if2 b L xs (i := 4) (by decide +kernel) (by decide +kernel) (by decide +kernel) rfl
theorem fL_198 (b L : Nat) (xs : Nat → Int32) : x_fetch (q_kL b L xs) 198 = x_lda 199 0 := q_if2 b L xs (i := 5) (by decide +kernel) (by decide +kernel) (by decide +kernel) rfl
theorem fL_199 (b L : Nat) (xs : Nat → Int32) : x_fetch (q_kL b L xs) 199 = x_ldi 201 4 := q_if2 b L xs (i := 6) (by decide +kernel) (by decide +kernel) (by decide +kernel) rfl
theorem fL_201 (b L : Nat) (xs : Nat → Int32) : x_fetch (q_kL b L xs) 201 = x_st (x_push 202 (.int (4))) := q_if2 b L xs (i := 7) (by decide +kernel) (by decide +kernel) (by decide +kernel) rfl
theorem fL_202 (b L : Nat) (xs : Nat → Int32) : x_fetch (q_kL b L xs) 202 = x_st (x_bin 203 (fun a b => a + b)) := q_if2 b L xs (i := 8) (by decide +kernel) (by decide +kernel) (by decide +kernel) rfl
theorem fL_203 (b L : Nat) (xs : Nat → Int32) : x_fetch (q_kL b L xs) 203 = x_st (x_sld 204 b L xs) := q_if2 b L xs (i := 9) (by decide +kernel) (by decide +kernel) (by decide +kernel) rfl
theorem fL_204 (b L : Nat) (xs : Nat → Int32) : x_fetch (q_kL b L xs) 204 = x_lda 205 0 := q_if2 b L xs (i := 10) (by decide +kernel) (by decide +kernel) (by decide +kernel) rfl
theorem fL_205 (b L : Nat) (xs : Nat → Int32) : x_fetch (q_kL b L xs) 205 = x_ldi 207 4 := q_if2 b L xs (i := 11) (by decide +kernel) (by decide +kernel) (by decide +kernel) rfl
theorem fL_207 (b L : Nat) (xs : Nat → Int32) : x_fetch (q_kL b L xs) 207 = x_st (x_push 208 (.int (5))) := q_if2 b L xs (i := 12) (by decide +kernel) (by decide +kernel) (by decide +kernel) rfl
theorem fL_208 (b L : Nat) (xs : Nat → Int32) : x_fetch (q_kL b L xs) 208 = x_st (x_bin 209 (fun a b => a + b)) := q_if2 b L xs (i := 13) (by decide +kernel) (by decide +kernel) (by decide +kernel) rfl
theorem fL_209 (b L : Nat) (xs : Nat → Int32) : x_fetch (q_kL b L xs) 209 = x_st (x_sld 210 b L xs) := q_if2 b L xs (i := 14) (by decide +kernel) (by decide +kernel) (by decide +kernel) rfl
theorem fL_210 (b L : Nat) (xs : Nat → Int32) : x_fetch (q_kL b L xs) 210 = x_lda 211 0 := q_if2 b L xs (i := 15) (by decide +kernel) (by decide +kernel) (by decide +kernel) rfl
theorem fL_211 (b L : Nat) (xs : Nat → Int32) : x_fetch (q_kL b L xs) 211 = x_ldi 213 4 := q_if2 b L xs (i := 16) (by decide +kernel) (by decide +kernel) (by decide +kernel) rfl
theorem fL_213 (b L : Nat) (xs : Nat → Int32) : x_fetch (q_kL b L xs) 213 = x_st (x_push 215 (.int (6))) := q_if2 b L xs (i := 17) (by decide +kernel) (by decide +kernel) (by decide +kernel) rfl
theorem fL_215 (b L : Nat) (xs : Nat → Int32) : x_fetch (q_kL b L xs) 215 = x_st (x_bin 216 (fun a b => a + b)) := q_if2 b L xs (i := 18) (by decide +kernel) (by decide +kernel) (by decide +kernel) rfl
theorem fL_216 (b L : Nat) (xs : Nat → Int32) : x_fetch (q_kL b L xs) 216 = x_st (x_sld 217 b L xs) := q_if2 b L xs (i := 19) (by decide +kernel) (by decide +kernel) (by decide +kernel) rfl
theorem fL_217 (b L : Nat) (xs : Nat → Int32) : x_fetch (q_kL b L xs) 217 = x_lda 218 3 := q_if2 b L xs (i := 20) (by decide +kernel) (by decide +kernel) (by decide +kernel) rfl
theorem fL_218 (b L : Nat) (xs : Nat → Int32) : x_fetch (q_kL b L xs) 218 = x_cl_ 221 147 8 := q_if2 b L xs (i := 21) (by decide +kernel) (by decide +kernel) (by decide +kernel) rfl
theorem fL_221 (b L : Nat) (xs : Nat → Int32) : x_fetch (q_kL b L xs) 221 = x_sti 223 5 := q_if2 b L xs (i := 22) (by decide +kernel) (by decide +kernel) (by decide +kernel) rfl
theorem fL_223 (b L : Nat) (xs : Nat → Int32) : x_fetch (q_kL b L xs) 223 = x_lda 224 2 := q_if2 b L xs (i := 23) (by decide +kernel) (by decide +kernel) (by decide +kernel) rfl
theorem fL_224 (b L : Nat) (xs : Nat → Int32) : x_fetch (q_kL b L xs) 224 = x_lda 225 0 := q_if2 b L xs (i := 24) (by decide +kernel) (by decide +kernel) (by decide +kernel) rfl
theorem fL_225 (b L : Nat) (xs : Nat → Int32) : x_fetch (q_kL b L xs) 225 = x_ldi 227 4 := q_if2 b L xs (i := 25) (by decide +kernel) (by decide +kernel) (by decide +kernel) rfl
theorem fL_227 (b L : Nat) (xs : Nat → Int32) : x_fetch (q_kL b L xs) 227 = x_st (x_push 228 (.int (1))) := q_if2 b L xs (i := 26) (by decide +kernel) (by decide +kernel) (by decide +kernel) rfl
theorem fL_228 (b L : Nat) (xs : Nat → Int32) : x_fetch (q_kL b L xs) 228 = x_st (x_bin 229 (fun a b => a + b)) := q_if2 b L xs (i := 27) (by decide +kernel) (by decide +kernel) (by decide +kernel) rfl
theorem fL_229 (b L : Nat) (xs : Nat → Int32) : x_fetch (q_kL b L xs) 229 = x_st (x_sld 230 b L xs) := q_if2 b L xs (i := 28) (by decide +kernel) (by decide +kernel) (by decide +kernel) rfl
theorem fL_230 (b L : Nat) (xs : Nat → Int32) : x_fetch (q_kL b L xs) 230 = x_lda 231 0 := q_if2 b L xs (i := 29) (by decide +kernel) (by decide +kernel) (by decide +kernel) rfl
theorem fL_231 (b L : Nat) (xs : Nat → Int32) : x_fetch (q_kL b L xs) 231 = x_ldi 233 4 := q_if2 b L xs (i := 30) (by decide +kernel) (by decide +kernel) (by decide +kernel) rfl
theorem fL_233 (b L : Nat) (xs : Nat → Int32) : x_fetch (q_kL b L xs) 233 = x_st (x_push 234 (.int (2))) := q_if2 b L xs (i := 31) (by decide +kernel) (by decide +kernel) (by decide +kernel) rfl
theorem fL_234 (b L : Nat) (xs : Nat → Int32) : x_fetch (q_kL b L xs) 234 = x_st (x_bin 235 (fun a b => a + b)) := q_if2 b L xs (i := 32) (by decide +kernel) (by decide +kernel) (by decide +kernel) rfl
theorem fL_235 (b L : Nat) (xs : Nat → Int32) : x_fetch (q_kL b L xs) 235 = x_st (x_sld 236 b L xs) := q_if2 b L xs (i := 33) (by decide +kernel) (by decide +kernel) (by decide +kernel) rfl
theorem fL_236 (b L : Nat) (xs : Nat → Int32) : x_fetch (q_kL b L xs) 236 = x_lda 237 0 := q_if2 b L xs (i := 34) (by decide +kernel) (by decide +kernel) (by decide +kernel) rfl
theorem fL_237 (b L : Nat) (xs : Nat → Int32) : x_fetch (q_kL b L xs) 237 = x_ldi 239 4 := q_if2 b L xs (i := 35) (by decide +kernel) (by decide +kernel) (by decide +kernel) rfl
theorem fL_239 (b L : Nat) (xs : Nat → Int32) : x_fetch (q_kL b L xs) 239 = x_st (x_push 240 (.int (3))) := q_if2 b L xs (i := 36) (by decide +kernel) (by decide +kernel) (by decide +kernel) rfl
theorem fL_240 (b L : Nat) (xs : Nat → Int32) : x_fetch (q_kL b L xs) 240 = x_st (x_bin 241 (fun a b => a + b)) := q_if2 b L xs (i := 37) (by decide +kernel) (by decide +kernel) (by decide +kernel) rfl
theorem fL_241 (b L : Nat) (xs : Nat → Int32) : x_fetch (q_kL b L xs) 241 = x_st (x_sld 242 b L xs) := q_if2 b L xs (i := 38) (by decide +kernel) (by decide +kernel) (by decide +kernel) rfl
theorem fL_242 (b L : Nat) (xs : Nat → Int32) : x_fetch (q_kL b L xs) 242 = x_lda 243 0 := q_if2 b L xs (i := 39) (by decide +kernel) (by decide +kernel) (by decide +kernel) rfl
theorem fL_243 (b L : Nat) (xs : Nat → Int32) : x_fetch (q_kL b L xs) 243 = x_ldi 245 4 := q_if3 b L xs (i := 0) (by decide +kernel) (by decide +kernel) (by decide +kernel) (by decide +kernel) rfl
theorem fL_245 (b L : Nat) (xs : Nat → Int32) : x_fetch (q_kL b L xs) 245 = x_st (x_push 246 (.int (4))) := q_if3 b L xs (i := 1) (by decide +kernel) (by decide +kernel) (by decide +kernel) (by decide +kernel) rfl
theorem fL_246 (b L : Nat) (xs : Nat → Int32) : x_fetch (q_kL b L xs) 246 = x_st (x_bin 247 (fun a b => a + b)) := q_if3 b L xs (i := 2) (by decide +kernel) (by decide +kernel) (by decide +kernel) (by decide +kernel) rfl
theorem fL_247 (b L : Nat) (xs : Nat → Int32) : x_fetch (q_kL b L xs) 247 = x_st (x_sld 248 b L xs) := q_if3 b L xs (i := 3) (by decide +kernel) (by decide +kernel) (by decide +kernel) (by decide +kernel) rfl
theorem fL_248 (b L : Nat) (xs : Nat → Int32) : x_fetch (q_kL b L xs) 248 = x_lda 249 0 := q_if3 b L xs (i := 4) (by decide +kernel) (by decide +kernel) (by decide +kernel) (by decide +kernel) rfl
theorem fL_249 (b L : Nat) (xs : Nat → Int32) : x_fetch (q_kL b L xs) 249 = x_ldi 251 4 := q_if3 b L xs (i := 5) (by decide +kernel) (by decide +kernel) (by decide +kernel) (by decide +kernel) rfl
theorem fL_251 (b L : Nat) (xs : Nat → Int32) : x_fetch (q_kL b L xs) 251 = x_st (x_push 252 (.int (5))) := q_if3 b L xs (i := 6) (by decide +kernel) (by decide +kernel) (by decide +kernel) (by decide +kernel) rfl
theorem fL_252 (b L : Nat) (xs : Nat → Int32) : x_fetch (q_kL b L xs) 252 = x_st (x_bin 253 (fun a b => a + b)) := q_if3 b L xs (i := 7) (by decide +kernel) (by decide +kernel) (by decide +kernel) (by decide +kernel) rfl
theorem fL_253 (b L : Nat) (xs : Nat → Int32) : x_fetch (q_kL b L xs) 253 = x_st (x_sld 254 b L xs) := q_if3 b L xs (i := 8) (by decide +kernel) (by decide +kernel) (by decide +kernel) (by decide +kernel) rfl
theorem fL_254 (b L : Nat) (xs : Nat → Int32) : x_fetch (q_kL b L xs) 254 = x_lda 255 0 := q_if3 b L xs (i := 9) (by decide +kernel) (by decide +kernel) (by decide +kernel) (by decide +kernel) rfl
theorem fL_255 (b L : Nat) (xs : Nat → Int32) : x_fetch (q_kL b L xs) 255 = x_ldi 257 4 := q_if3 b L xs (i := 10) (by decide +kernel) (by decide +kernel) (by decide +kernel) (by decide +kernel) rfl
theorem fL_257 (b L : Nat) (xs : Nat → Int32) : x_fetch (q_kL b L xs) 257 = x_st (x_push 259 (.int (6))) := q_if3 b L xs (i := 11) (by decide +kernel) (by decide +kernel) (by decide +kernel) (by decide +kernel) rfl
theorem fL_259 (b L : Nat) (xs : Nat → Int32) : x_fetch (q_kL b L xs) 259 = x_st (x_bin 260 (fun a b => a + b)) := q_if3 b L xs (i := 12) (by decide +kernel) (by decide +kernel) (by decide +kernel) (by decide +kernel) rfl
theorem fL_260 (b L : Nat) (xs : Nat → Int32) : x_fetch (q_kL b L xs) 260 = x_st (x_sld 261 b L xs) := q_if3 b L xs (i := 13) (by decide +kernel) (by decide +kernel) (by decide +kernel) (by decide +kernel) rfl
theorem fL_261 (b L : Nat) (xs : Nat → Int32) : x_fetch (q_kL b L xs) 261 = x_cv 264 121 7 8 := q_if3 b L xs (i := 14) (by decide +kernel) (by decide +kernel) (by decide +kernel) (by decide +kernel) rfl
theorem fL_264 (b L : Nat) (xs : Nat → Int32) : x_fetch (q_kL b L xs) 264 = x_sti 266 6 := q_if3 b L xs (i := 15) (by decide +kernel) (by decide +kernel) (by decide +kernel) (by decide +kernel) rfl
theorem fL_266 (b L : Nat) (xs : Nat → Int32) : x_fetch (q_kL b L xs) 266 = x_lda 267 2 := q_if3 b L xs (i := 16) (by decide +kernel) (by decide +kernel) (by decide +kernel) (by decide +kernel) rfl
theorem fL_267 (b L : Nat) (xs : Nat → Int32) : x_fetch (q_kL b L xs) 267 = x_cv 270 92 1 8 := q_if3 b L xs (i := 17) (by decide +kernel) (by decide +kernel) (by decide +kernel) (by decide +kernel) rfl
theorem fL_270 (b L : Nat) (xs : Nat → Int32) : x_fetch (q_kL b L xs) 270 = x_ldi 272 5 := q_if3 b L xs (i := 18) (by decide +kernel) (by decide +kernel) (by decide +kernel) (by decide +kernel) rfl
theorem fL_272 (b L : Nat) (xs : Nat → Int32) : x_fetch (q_kL b L xs) 272 = x_st (x_iceq 277 275) := q_if3 b L xs (i := 19) (by decide +kernel) (by decide +kernel) (by decide +kernel) (by decide +kernel) rfl
theorem fL_277 (b L : Nat) (xs : Nat → Int32) : x_fetch (q_kL b L xs) 277 = x_ldi 279 5 := q_if3 b L xs (i := 22) (by decide +kernel) (by decide +kernel) (by decide +kernel) (by decide +kernel) rfl
theorem fL_279 (b L : Nat) (xs : Nat → Int32) : x_fetch (q_kL b L xs) 279 = x_st (x_ifne 294 282) := q_if3 b L xs (i := 23) (by decide +kernel) (by decide +kernel) (by decide +kernel) (by decide +kernel) rfl
theorem fL_294 (b L : Nat) (xs : Nat → Int32) : x_fetch (q_kL b L xs) 294 = x_st (x_goto 523) := q_if3 b L xs (i := 33) (by decide +kernel) (by decide +kernel) (by decide +kernel) (by decide +kernel) rfl
theorem fL_297 (b L : Nat) (xs : Nat → Int32) : x_fetch (q_kL b L xs) 297 = x_lda 298 1 := q_if3 b L xs (i := 34) (by decide +kernel) (by decide +kernel) (by decide +kernel) (by decide +kernel) rfl
theorem fL_298 (b L : Nat) (xs : Nat → Int32) : x_fetch (q_kL b L xs) 298 = x_cv 301 71 1 0 := q_if3 b L xs (i := 35) (by decide +kernel) (by decide +kernel) (by decide +kernel) (by decide +kernel) rfl
theorem fL_301 (b L : Nat) (xs : Nat → Int32) : x_fetch (q_kL b L xs) 301 = x_lda 302 2 := q_if3 b L xs (i := 36) (by decide +kernel) (by decide +kernel) (by decide +kernel) (by decide +kernel) rfl
theorem fL_302 (b L : Nat) (xs : Nat → Int32) : x_fetch (q_kL b L xs) 302 = x_cv 305 132 1 8 := q_if3 b L xs (i := 37) (by decide +kernel) (by decide +kernel) (by decide +kernel) (by decide +kernel) rfl
theorem fL_305 (b L : Nat) (xs : Nat → Int32) : x_fetch (q_kL b L xs) 305 = x_st (x_iceq 523 308) := q_if3 b L xs (i := 38) (by decide +kernel) (by decide +kernel) (by decide +kernel) (by decide +kernel) rfl
theorem fL_310 (b L : Nat) (xs : Nat → Int32) : x_fetch (q_kL b L xs) 310 = x_lda 311 1 := q_if4 b L xs (i := 1) (by decide +kernel) (by decide +kernel) (by decide +kernel) (by decide +kernel) (by decide +kernel) rfl
theorem fL_311 (b L : Nat) (xs : Nat → Int32) : x_fetch (q_kL b L xs) 311 = x_cv 314 72 1 0 := q_if4 b L xs (i := 2) (by decide +kernel) (by decide +kernel) (by decide +kernel) (by decide +kernel) (by decide +kernel) rfl
theorem fL_314 (b L : Nat) (xs : Nat → Int32) : x_fetch (q_kL b L xs) 314 = x_lda 315 2 := q_if4 b L xs (i := 3) (by decide +kernel) (by decide +kernel) (by decide +kernel) (by decide +kernel) (by decide +kernel) rfl
theorem fL_315 (b L : Nat) (xs : Nat → Int32) : x_fetch (q_kL b L xs) 315 = x_cv 318 133 1 8 := q_if4 b L xs (i := 4) (by decide +kernel) (by decide +kernel) (by decide +kernel) (by decide +kernel) (by decide +kernel) rfl
theorem fL_318 (b L : Nat) (xs : Nat → Int32) : x_fetch (q_kL b L xs) 318 = x_st (x_iceq 523 321) := q_if4 b L xs (i := 5) (by decide +kernel) (by decide +kernel) (by decide +kernel) (by decide +kernel) (by decide +kernel) rfl
theorem fL_323 (b L : Nat) (xs : Nat → Int32) : x_fetch (q_kL b L xs) 323 = x_lda 324 1 := q_if4 b L xs (i := 8) (by decide +kernel) (by decide +kernel) (by decide +kernel) (by decide +kernel) (by decide +kernel) rfl
theorem fL_324 (b L : Nat) (xs : Nat → Int32) : x_fetch (q_kL b L xs) 324 = x_lda 325 0 := q_if4 b L xs (i := 9) (by decide +kernel) (by decide +kernel) (by decide +kernel) (by decide +kernel) (by decide +kernel) rfl
theorem fL_325 (b L : Nat) (xs : Nat → Int32) : x_fetch (q_kL b L xs) 325 = x_ldi 327 4 := q_if4 b L xs (i := 10) (by decide +kernel) (by decide +kernel) (by decide +kernel) (by decide +kernel) (by decide +kernel) rfl
theorem fL_327 (b L : Nat) (xs : Nat → Int32) : x_fetch (q_kL b L xs) 327 = x_st (x_push 328 (.int (1))) := q_if4 b L xs (i := 11) (by decide +kernel) (by decide +kernel) (by decide +kernel) (by decide +kernel) (by decide +kernel) rfl
theorem fL_328 (b L : Nat) (xs : Nat → Int32) : x_fetch (q_kL b L xs) 328 = x_st (x_bin 329 (fun a b => a + b)) := q_if4 b L xs (i := 12) (by decide +kernel) (by decide +kernel) (by decide +kernel) (by decide +kernel) (by decide +kernel) rfl
theorem fL_329 (b L : Nat) (xs : Nat → Int32) : x_fetch (q_kL b L xs) 329 = x_st (x_sld 330 b L xs) := q_if4 b L xs (i := 13) (by decide +kernel) (by decide +kernel) (by decide +kernel) (by decide +kernel) (by decide +kernel) rfl
theorem fL_330 (b L : Nat) (xs : Nat → Int32) : x_fetch (q_kL b L xs) 330 = x_cv 333 73 2 0 := q_if4 b L xs (i := 14) (by decide +kernel) (by decide +kernel) (by decide +kernel) (by decide +kernel) (by decide +kernel) rfl
theorem fL_333 (b L : Nat) (xs : Nat → Int32) : x_fetch (q_kL b L xs) 333 = x_lda 334 2 := q_if4 b L xs (i := 15) (by decide +kernel) (by decide +kernel) (by decide +kernel) (by decide +kernel) (by decide +kernel) rfl
theorem fL_334 (b L : Nat) (xs : Nat → Int32) : x_fetch (q_kL b L xs) 334 = x_lda 335 0 := q_if4 b L xs (i := 16) (by decide +kernel) (by decide +kernel) (by decide +kernel) (by decide +kernel) (by decide +kernel) rfl
theorem fL_335 (b L : Nat) (xs : Nat → Int32) : x_fetch (q_kL b L xs) 335 = x_ldi 337 4 := q_if4 b L xs (i := 17) (by decide +kernel) (by decide +kernel) (by decide +kernel) (by decide +kernel) (by decide +kernel) rfl
theorem fL_337 (b L : Nat) (xs : Nat → Int32) : x_fetch (q_kL b L xs) 337 = x_st (x_push 338 (.int (1))) := q_if4 b L xs (i := 18) (by decide +kernel) (by decide +kernel) (by decide +kernel) (by decide +kernel) (by decide +kernel) rfl
theorem fL_338 (b L : Nat) (xs : Nat → Int32) : x_fetch (q_kL b L xs) 338 = x_st (x_bin 339 (fun a b => a + b)) := q_if4 b L xs (i := 19) (by decide +kernel) (by decide +kernel) (by decide +kernel) (by decide +kernel) (by decide +kernel) rfl
theorem fL_339 (b L : Nat) (xs : Nat → Int32) : x_fetch (q_kL b L xs) 339 = x_st (x_sld 340 b L xs) := q_if4 b L xs (i := 20) (by decide +kernel) (by decide +kernel) (by decide +kernel) (by decide +kernel) (by decide +kernel) rfl
theorem fL_340 (b L : Nat) (xs : Nat → Int32) : x_fetch (q_kL b L xs) 340 = x_cv 343 135 2 8 := q_if4 b L xs (i := 21) (by decide +kernel) (by decide +kernel) (by decide +kernel) (by decide +kernel) (by decide +kernel) rfl
theorem fL_343 (b L : Nat) (xs : Nat → Int32) : x_fetch (q_kL b L xs) 343 = x_st (x_iceq 523 346) := q_if4 b L xs (i := 22) (by decide +kernel) (by decide +kernel) (by decide +kernel) (by decide +kernel) (by decide +kernel) rfl
theorem fL_348 (b L : Nat) (xs : Nat → Int32) : x_fetch (q_kL b L xs) 348 = x_lda 349 1 := q_if4 b L xs (i := 25) (by decide +kernel) (by decide +kernel) (by decide +kernel) (by decide +kernel) (by decide +kernel) rfl
theorem fL_349 (b L : Nat) (xs : Nat → Int32) : x_fetch (q_kL b L xs) 349 = x_lda 350 0 := q_if4 b L xs (i := 26) (by decide +kernel) (by decide +kernel) (by decide +kernel) (by decide +kernel) (by decide +kernel) rfl
theorem fL_350 (b L : Nat) (xs : Nat → Int32) : x_fetch (q_kL b L xs) 350 = x_ldi 352 4 := q_if4 b L xs (i := 27) (by decide +kernel) (by decide +kernel) (by decide +kernel) (by decide +kernel) (by decide +kernel) rfl
theorem fL_352 (b L : Nat) (xs : Nat → Int32) : x_fetch (q_kL b L xs) 352 = x_st (x_push 353 (.int (1))) := q_if4 b L xs (i := 28) (by decide +kernel) (by decide +kernel) (by decide +kernel) (by decide +kernel) (by decide +kernel) rfl
theorem fL_353 (b L : Nat) (xs : Nat → Int32) : x_fetch (q_kL b L xs) 353 = x_st (x_bin 354 (fun a b => a + b)) := q_if4 b L xs (i := 29) (by decide +kernel) (by decide +kernel) (by decide +kernel) (by decide +kernel) (by decide +kernel) rfl
theorem fL_354 (b L : Nat) (xs : Nat → Int32) : x_fetch (q_kL b L xs) 354 = x_st (x_sld 355 b L xs) := q_if4 b L xs (i := 30) (by decide +kernel) (by decide +kernel) (by decide +kernel) (by decide +kernel) (by decide +kernel) rfl
theorem fL_355 (b L : Nat) (xs : Nat → Int32) : x_fetch (q_kL b L xs) 355 = x_cv 358 74 2 0 := q_if4 b L xs (i := 31) (by decide +kernel) (by decide +kernel) (by decide +kernel) (by decide +kernel) (by decide +kernel) rfl
theorem fL_358 (b L : Nat) (xs : Nat → Int32) : x_fetch (q_kL b L xs) 358 = x_lda 359 2 := q_if4 b L xs (i := 32) (by decide +kernel) (by decide +kernel) (by decide +kernel) (by decide +kernel) (by decide +kernel) rfl
theorem fL_359 (b L : Nat) (xs : Nat → Int32) : x_fetch (q_kL b L xs) 359 = x_lda 360 0 := q_if4 b L xs (i := 33) (by decide +kernel) (by decide +kernel) (by decide +kernel) (by decide +kernel) (by decide +kernel) rfl
theorem fL_360 (b L : Nat) (xs : Nat → Int32) : x_fetch (q_kL b L xs) 360 = x_ldi 362 4 := q_if4 b L xs (i := 34) (by decide +kernel) (by decide +kernel) (by decide +kernel) (by decide +kernel) (by decide +kernel) rfl
theorem fL_362 (b L : Nat) (xs : Nat → Int32) : x_fetch (q_kL b L xs) 362 = x_st (x_push 363 (.int (1))) := q_if4 b L xs (i := 35) (by decide +kernel) (by decide +kernel) (by decide +kernel) (by decide +kernel) (by decide +kernel) rfl
theorem fL_363 (b L : Nat) (xs : Nat → Int32) : x_fetch (q_kL b L xs) 363 = x_st (x_bin 364 (fun a b => a + b)) := q_if4 b L xs (i := 36) (by decide +kernel) (by decide +kernel) (by decide +kernel) (by decide +kernel) (by decide +kernel) rfl
theorem fL_364 (b L : Nat) (xs : Nat → Int32) : x_fetch (q_kL b L xs) 364 = x_st (x_sld 365 b L xs) := q_if4 b L xs (i := 37) (by decide +kernel) (by decide +kernel) (by decide +kernel) (by decide +kernel) (by decide +kernel) rfl
theorem fL_365 (b L : Nat) (xs : Nat → Int32) : x_fetch (q_kL b L xs) 365 = x_cv 368 136 2 8 := q_if4 b L xs (i := 38) (by decide +kernel) (by decide +kernel) (by decide +kernel) (by decide +kernel) (by decide +kernel) rfl
theorem fL_368 (b L : Nat) (xs : Nat → Int32) : x_fetch (q_kL b L xs) 368 = x_st (x_iceq 523 371) := q_if4 b L xs (i := 39) (by decide +kernel) (by decide +kernel) (by decide +kernel) (by decide +kernel) (by decide +kernel) rfl
theorem fL_373 (b L : Nat) (xs : Nat → Int32) : x_fetch (q_kL b L xs) 373 = x_lda 374 1 := q_if5 b L xs (i := 2) (by decide +kernel) (by decide +kernel) (by decide +kernel) (by decide +kernel) (by decide +kernel) (by decide +kernel) rfl
theorem fL_374 (b L : Nat) (xs : Nat → Int32) : x_fetch (q_kL b L xs) 374 = x_lda 375 0 := q_if5 b L xs (i := 3) (by decide +kernel) (by decide +kernel) (by decide +kernel) (by decide +kernel) (by decide +kernel) (by decide +kernel) rfl
theorem fL_375 (b L : Nat) (xs : Nat → Int32) : x_fetch (q_kL b L xs) 375 = x_ldi 377 4 := q_if5 b L xs (i := 4) (by decide +kernel) (by decide +kernel) (by decide +kernel) (by decide +kernel) (by decide +kernel) (by decide +kernel) rfl
theorem fL_377 (b L : Nat) (xs : Nat → Int32) : x_fetch (q_kL b L xs) 377 = x_st (x_push 378 (.int (1))) := q_if5 b L xs (i := 5) (by decide +kernel) (by decide +kernel) (by decide +kernel) (by decide +kernel) (by decide +kernel) (by decide +kernel) rfl
theorem fL_378 (b L : Nat) (xs : Nat → Int32) : x_fetch (q_kL b L xs) 378 = x_st (x_bin 379 (fun a b => a + b)) := q_if5 b L xs (i := 6) (by decide +kernel) (by decide +kernel) (by decide +kernel) (by decide +kernel) (by decide +kernel) (by decide +kernel) rfl
theorem fL_379 (b L : Nat) (xs : Nat → Int32) : x_fetch (q_kL b L xs) 379 = x_st (x_sld 380 b L xs) := q_if5 b L xs (i := 7) (by decide +kernel) (by decide +kernel) (by decide +kernel) (by decide +kernel) (by decide +kernel) (by decide +kernel) rfl
theorem fL_380 (b L : Nat) (xs : Nat → Int32) : x_fetch (q_kL b L xs) 380 = x_lda 381 0 := q_if5 b L xs (i := 8) (by decide +kernel) (by decide +kernel) (by decide +kernel) (by decide +kernel) (by decide +kernel) (by decide +kernel) rfl
theorem fL_381 (b L : Nat) (xs : Nat → Int32) : x_fetch (q_kL b L xs) 381 = x_ldi 383 4 := q_if5 b L xs (i := 9) (by decide +kernel) (by decide +kernel) (by decide +kernel) (by decide +kernel) (by decide +kernel) (by decide +kernel) rfl
theorem fL_383 (b L : Nat) (xs : Nat → Int32) : x_fetch (q_kL b L xs) 383 = x_st (x_push 384 (.int (2))) := q_if5 b L xs (i := 10) (by decide +kernel) (by decide +kernel) (by decide +kernel) (by decide +kernel) (by decide +kernel) (by decide +kernel) rfl
theorem fL_384 (b L : Nat) (xs : Nat → Int32) : x_fetch (q_kL b L xs) 384 = x_st (x_bin 385 (fun a b => a + b)) := q_if5 b L xs (i := 11) (by decide +kernel) (by decide +kernel) (by decide +kernel) (by decide +kernel) (by decide +kernel) (by decide +kernel) rfl
theorem fL_385 (b L : Nat) (xs : Nat → Int32) : x_fetch (q_kL b L xs) 385 = x_st (x_sld 386 b L xs) := q_if5 b L xs (i := 12) (by decide +kernel) (by decide +kernel) (by decide +kernel) (by decide +kernel) (by decide +kernel) (by decide +kernel) rfl
theorem fL_386 (b L : Nat) (xs : Nat → Int32) : x_fetch (q_kL b L xs) 386 = x_cv 389 75 3 0 := q_if5 b L xs (i := 13) (by decide +kernel) (by decide +kernel) (by decide +kernel) (by decide +kernel) (by decide +kernel) (by decide +kernel) rfl
theorem fL_389 (b L : Nat) (xs : Nat → Int32) : x_fetch (q_kL b L xs) 389 = x_lda 390 2 := q_if5 b L xs (i := 14) (by decide +kernel) (by decide +kernel) (by decide +kernel) (by decide +kernel) (by decide +kernel) (by decide +kernel) rfl
theorem fL_390 (b L : Nat) (xs : Nat → Int32) : x_fetch (q_kL b L xs) 390 = x_lda 391 0 := q_if5 b L xs (i := 15) (by decide +kernel) (by decide +kernel) (by decide +kernel) (by decide +kernel) (by decide +kernel) (by decide +kernel) rfl
theorem fL_391 (b L : Nat) (xs : Nat → Int32) : x_fetch (q_kL b L xs) 391 = x_ldi 393 4 := q_if5 b L xs (i := 16) (by decide +kernel) (by decide +kernel) (by decide +kernel) (by decide +kernel) (by decide +kernel) (by decide +kernel) rfl
theorem fL_393 (b L : Nat) (xs : Nat → Int32) : x_fetch (q_kL b L xs) 393 = x_st (x_push 394 (.int (1))) := q_if5 b L xs (i := 17) (by decide +kernel) (by decide +kernel) (by decide +kernel) (by decide +kernel) (by decide +kernel) (by decide +kernel) rfl
theorem fL_394 (b L : Nat) (xs : Nat → Int32) : x_fetch (q_kL b L xs) 394 = x_st (x_bin 395 (fun a b => a + b)) := q_if5 b L xs (i := 18) (by decide +kernel) (by decide +kernel) (by decide +kernel) (by decide +kernel) (by decide +kernel) (by decide +kernel) rfl
theorem fL_395 (b L : Nat) (xs : Nat → Int32) : x_fetch (q_kL b L xs) 395 = x_st (x_sld 396 b L xs) := q_if5 b L xs (i := 19) (by decide +kernel) (by decide +kernel) (by decide +kernel) (by decide +kernel) (by decide +kernel) (by decide +kernel) rfl
theorem fL_396 (b L : Nat) (xs : Nat → Int32) : x_fetch (q_kL b L xs) 396 = x_lda 397 0 := q_if5 b L xs (i := 20) (by decide +kernel) (by decide +kernel) (by decide +kernel) (by decide +kernel) (by decide +kernel) (by decide +kernel) rfl
theorem fL_397 (b L : Nat) (xs : Nat → Int32) : x_fetch (q_kL b L xs) 397 = x_ldi 399 4 := q_if5 b L xs (i := 21) (by decide +kernel) (by decide +kernel) (by decide +kernel) (by decide +kernel) (by decide +kernel) (by decide +kernel) rfl
theorem fL_399 (b L : Nat) (xs : Nat → Int32) : x_fetch (q_kL b L xs) 399 = x_st (x_push 400 (.int (2))) := q_if5 b L xs (i := 22) (by decide +kernel) (by decide +kernel) (by decide +kernel) (by decide +kernel) (by decide +kernel) (by decide +kernel) rfl
theorem fL_400 (b L : Nat) (xs : Nat → Int32) : x_fetch (q_kL b L xs) 400 = x_st (x_bin 401 (fun a b => a + b)) := q_if5 b L xs (i := 23) (by decide +kernel) (by decide +kernel) (by decide +kernel) (by decide +kernel) (by decide +kernel) (by decide +kernel) rfl
theorem fL_401 (b L : Nat) (xs : Nat → Int32) : x_fetch (q_kL b L xs) 401 = x_st (x_sld 402 b L xs) := q_if5 b L xs (i := 24) (by decide +kernel) (by decide +kernel) (by decide +kernel) (by decide +kernel) (by decide +kernel) (by decide +kernel) rfl
theorem fL_402 (b L : Nat) (xs : Nat → Int32) : x_fetch (q_kL b L xs) 402 = x_cv 405 140 3 8 := q_if5 b L xs (i := 25) (by decide +kernel) (by decide +kernel) (by decide +kernel) (by decide +kernel) (by decide +kernel) (by decide +kernel) rfl
theorem fL_405 (b L : Nat) (xs : Nat → Int32) : x_fetch (q_kL b L xs) 405 = x_st (x_iceq 523 408) := q_if5 b L xs (i := 26) (by decide +kernel) (by decide +kernel) (by decide +kernel) (by decide +kernel) (by decide +kernel) (by decide +kernel) rfl
theorem fL_410 (b L : Nat) (xs : Nat → Int32) : x_fetch (q_kL b L xs) 410 = x_lda 411 1 := q_if5 b L xs (i := 29) (by decide +kernel) (by decide +kernel) (by decide +kernel) (by decide +kernel) (by decide +kernel) (by decide +kernel) rfl
theorem fL_411 (b L : Nat) (xs : Nat → Int32) : x_fetch (q_kL b L xs) 411 = x_lda 412 0 := q_if5 b L xs (i := 30) (by decide +kernel) (by decide +kernel) (by decide +kernel) (by decide +kernel) (by decide +kernel) (by decide +kernel) rfl
theorem fL_412 (b L : Nat) (xs : Nat → Int32) : x_fetch (q_kL b L xs) 412 = x_ldi 414 4 := q_if5 b L xs (i := 31) (by decide +kernel) (by decide +kernel) (by decide +kernel) (by decide +kernel) (by decide +kernel) (by decide +kernel) rfl
theorem fL_414 (b L : Nat) (xs : Nat → Int32) : x_fetch (q_kL b L xs) 414 = x_st (x_push 415 (.int (1))) := q_if5 b L xs (i := 32) (by decide +kernel) (by decide +kernel) (by decide +kernel) (by decide +kernel) (by decide +kernel) (by decide +kernel) rfl
theorem fL_415 (b L : Nat) (xs : Nat → Int32) : x_fetch (q_kL b L xs) 415 = x_st (x_bin 416 (fun a b => a + b)) := q_if5 b L xs (i := 33) (by decide +kernel) (by decide +kernel) (by decide +kernel) (by decide +kernel) (by decide +kernel) (by decide +kernel) rfl
theorem fL_416 (b L : Nat) (xs : Nat → Int32) : x_fetch (q_kL b L xs) 416 = x_st (x_sld 417 b L xs) := q_if5 b L xs (i := 34) (by decide +kernel) (by decide +kernel) (by decide +kernel) (by decide +kernel) (by decide +kernel) (by decide +kernel) rfl
theorem fL_417 (b L : Nat) (xs : Nat → Int32) : x_fetch (q_kL b L xs) 417 = x_cv 420 76 2 0 := q_if5 b L xs (i := 35) (by decide +kernel) (by decide +kernel) (by decide +kernel) (by decide +kernel) (by decide +kernel) (by decide +kernel) rfl
theorem fL_420 (b L : Nat) (xs : Nat → Int32) : x_fetch (q_kL b L xs) 420 = x_lda 421 2 := q_if5 b L xs (i := 36) (by decide +kernel) (by decide +kernel) (by decide +kernel) (by decide +kernel) (by decide +kernel) (by decide +kernel) rfl
theorem fL_421 (b L : Nat) (xs : Nat → Int32) : x_fetch (q_kL b L xs) 421 = x_lda 422 0 := q_if5 b L xs (i := 37) (by decide +kernel) (by decide +kernel) (by decide +kernel) (by decide +kernel) (by decide +kernel) (by decide +kernel) rfl
theorem fL_422 (b L : Nat) (xs : Nat → Int32) : x_fetch (q_kL b L xs) 422 = x_ldi 424 4 := q_if5 b L xs (i := 38) (by decide +kernel) (by decide +kernel) (by decide +kernel) (by decide +kernel) (by decide +kernel) (by decide +kernel) rfl
theorem fL_424 (b L : Nat) (xs : Nat → Int32) : x_fetch (q_kL b L xs) 424 = x_st (x_push 425 (.int (1))) := q_if5 b L xs (i := 39) (by decide +kernel) (by decide +kernel) (by decide +kernel) (by decide +kernel) (by decide +kernel) (by decide +kernel) rfl
theorem fL_425 (b L : Nat) (xs : Nat → Int32) : x_fetch (q_kL b L xs) 425 = x_st (x_bin 426 (fun a b => a + b)) := q_if6 b L xs (i := 0) (by decide +kernel) (by decide +kernel) (by decide +kernel) (by decide +kernel) (by decide +kernel) (by decide +kernel) (by decide +kernel) rfl
theorem fL_426 (b L : Nat) (xs : Nat → Int32) : x_fetch (q_kL b L xs) 426 = x_st (x_sld 427 b L xs) := q_if6 b L xs (i := 1) (by decide +kernel) (by decide +kernel) (by decide +kernel) (by decide +kernel) (by decide +kernel) (by decide +kernel) (by decide +kernel) rfl
theorem fL_427 (b L : Nat) (xs : Nat → Int32) : x_fetch (q_kL b L xs) 427 = x_cv 430 141 2 8 := q_if6 b L xs (i := 2) (by decide +kernel) (by decide +kernel) (by decide +kernel) (by decide +kernel) (by decide +kernel) (by decide +kernel) (by decide +kernel) rfl
theorem fL_430 (b L : Nat) (xs : Nat → Int32) : x_fetch (q_kL b L xs) 430 = x_st (x_iceq 523 433) := q_if6 b L xs (i := 3) (by decide +kernel) (by decide +kernel) (by decide +kernel) (by decide +kernel) (by decide +kernel) (by decide +kernel) (by decide +kernel) rfl
theorem fL_435 (b L : Nat) (xs : Nat → Int32) : x_fetch (q_kL b L xs) 435 = x_lda 436 1 := q_if6 b L xs (i := 6) (by decide +kernel) (by decide +kernel) (by decide +kernel) (by decide +kernel) (by decide +kernel) (by decide +kernel) (by decide +kernel) rfl
theorem fL_436 (b L : Nat) (xs : Nat → Int32) : x_fetch (q_kL b L xs) 436 = x_lda 437 0 := q_if6 b L xs (i := 7) (by decide +kernel) (by decide +kernel) (by decide +kernel) (by decide +kernel) (by decide +kernel) (by decide +kernel) (by decide +kernel) rfl
theorem fL_437 (b L : Nat) (xs : Nat → Int32) : x_fetch (q_kL b L xs) 437 = x_ldi 439 4 := q_if6 b L xs (i := 8) (by decide +kernel) (by decide +kernel) (by decide +kernel) (by decide +kernel) (by decide +kernel) (by decide +kernel) (by decide +kernel) rfl
theorem fL_439 (b L : Nat) (xs : Nat → Int32) : x_fetch (q_kL b L xs) 439 = x_st (x_push 440 (.int (1))) := q_if6 b L xs (i := 9) (by decide +kernel) (by decide +kernel) (by decide +kernel) (by decide +kernel) (by decide +kernel) (by decide +kernel) (by decide +kernel) rfl
theorem fL_440 (b L : Nat) (xs : Nat → Int32) : x_fetch (q_kL b L xs) 440 = x_st (x_bin 441 (fun a b => a + b)) := q_if6 b L xs (i := 10) (by decide +kernel) (by decide +kernel) (by decide +kernel) (by decide +kernel) (by decide +kernel) (by decide +kernel) (by decide +kernel) rfl
theorem fL_441 (b L : Nat) (xs : Nat → Int32) : x_fetch (q_kL b L xs) 441 = x_st (x_sld 442 b L xs) := q_if6 b L xs (i := 11) (by decide +kernel) (by decide +kernel) (by decide +kernel) (by decide +kernel) (by decide +kernel) (by decide +kernel) (by decide +kernel) rfl
theorem fL_442 (b L : Nat) (xs : Nat → Int32) : x_fetch (q_kL b L xs) 442 = x_lda 443 0 := q_if6 b L xs (i := 12) (by decide +kernel) (by decide +kernel) (by decide +kernel) (by decide +kernel) (by decide +kernel) (by decide +kernel) (by decide +kernel) rfl
theorem fL_443 (b L : Nat) (xs : Nat → Int32) : x_fetch (q_kL b L xs) 443 = x_ldi 445 4 := q_if6 b L xs (i := 13) (by decide +kernel) (by decide +kernel) (by decide +kernel) (by decide +kernel) (by decide +kernel) (by decide +kernel) (by decide +kernel) rfl
theorem fL_445 (b L : Nat) (xs : Nat → Int32) : x_fetch (q_kL b L xs) 445 = x_st (x_push 446 (.int (2))) := q_if6 b L xs (i := 14) (by decide +kernel) (by decide +kernel) (by decide +kernel) (by decide +kernel) (by decide +kernel) (by decide +kernel) (by decide +kernel) rfl
theorem fL_446 (b L : Nat) (xs : Nat → Int32) : x_fetch (q_kL b L xs) 446 = x_st (x_bin 447 (fun a b => a + b)) := q_if6 b L xs (i := 15) (by decide +kernel) (by decide +kernel) (by decide +kernel) (by decide +kernel) (by decide +kernel) (by decide +kernel) (by decide +kernel) rfl
theorem fL_447 (b L : Nat) (xs : Nat → Int32) : x_fetch (q_kL b L xs) 447 = x_st (x_sld 448 b L xs) := q_if6 b L xs (i := 16) (by decide +kernel) (by decide +kernel) (by decide +kernel) (by decide +kernel) (by decide +kernel) (by decide +kernel) (by decide +kernel) rfl
theorem fL_448 (b L : Nat) (xs : Nat → Int32) : x_fetch (q_kL b L xs) 448 = x_cv 451 77 3 0 := q_if6 b L xs (i := 17) (by decide +kernel) (by decide +kernel) (by decide +kernel) (by decide +kernel) (by decide +kernel) (by decide +kernel) (by decide +kernel) rfl
theorem fL_451 (b L : Nat) (xs : Nat → Int32) : x_fetch (q_kL b L xs) 451 = x_lda 452 2 := q_if6 b L xs (i := 18) (by decide +kernel) (by decide +kernel) (by decide +kernel) (by decide +kernel) (by decide +kernel) (by decide +kernel) (by decide +kernel) rfl
theorem fL_452 (b L : Nat) (xs : Nat → Int32) : x_fetch (q_kL b L xs) 452 = x_lda 453 0 := q_if6 b L xs (i := 19) (by decide +kernel) (by decide +kernel) (by decide +kernel) (by decide +kernel) (by decide +kernel) (by decide +kernel) (by decide +kernel) rfl
theorem fL_453 (b L : Nat) (xs : Nat → Int32) : x_fetch (q_kL b L xs) 453 = x_ldi 455 4 := q_if6 b L xs (i := 20) (by decide +kernel) (by decide +kernel) (by decide +kernel) (by decide +kernel) (by decide +kernel) (by decide +kernel) (by decide +kernel) rfl
theorem fL_455 (b L : Nat) (xs : Nat → Int32) : x_fetch (q_kL b L xs) 455 = x_st (x_push 456 (.int (1))) := q_if6 b L xs (i := 21) (by decide +kernel) (by decide +kernel) (by decide +kernel) (by decide +kernel) (by decide +kernel) (by decide +kernel) (by decide +kernel) rfl
theorem fL_456 (b L : Nat) (xs : Nat → Int32) : x_fetch (q_kL b L xs) 456 = x_st (x_bin 457 (fun a b => a + b)) := q_if6 b L xs (i := 22) (by decide +kernel) (by decide +kernel) (by decide +kernel) (by decide +kernel) (by decide +kernel) (by decide +kernel) (by decide +kernel) rfl
theorem fL_457 (b L : Nat) (xs : Nat → Int32) : x_fetch (q_kL b L xs) 457 = x_st (x_sld 458 b L xs) := q_if6 b L xs (i := 23) (by decide +kernel) (by decide +kernel) (by decide +kernel) (by decide +kernel) (by decide +kernel) (by decide +kernel) (by decide +kernel) rfl
theorem fL_458 (b L : Nat) (xs : Nat → Int32) : x_fetch (q_kL b L xs) 458 = x_lda 459 0 := q_if6 b L xs (i := 24) (by decide +kernel) (by decide +kernel) (by decide +kernel) (by decide +kernel) (by decide +kernel) (by decide +kernel) (by decide +kernel) rfl
theorem fL_459 (b L : Nat) (xs : Nat → Int32) : x_fetch (q_kL b L xs) 459 = x_ldi 461 4 := q_if6 b L xs (i := 25) (by decide +kernel) (by decide +kernel) (by decide +kernel) (by decide +kernel) (by decide +kernel) (by decide +kernel) (by decide +kernel) rfl
theorem fL_461 (b L : Nat) (xs : Nat → Int32) : x_fetch (q_kL b L xs) 461 = x_st (x_push 462 (.int (2))) := q_if6 b L xs (i := 26) (by decide +kernel) (by decide +kernel) (by decide +kernel) (by decide +kernel) (by decide +kernel) (by decide +kernel) (by decide +kernel) rfl
theorem fL_462 (b L : Nat) (xs : Nat → Int32) : x_fetch (q_kL b L xs) 462 = x_st (x_bin 463 (fun a b => a + b)) := q_if6 b L xs (i := 27) (by decide +kernel) (by decide +kernel) (by decide +kernel) (by decide +kernel) (by decide +kernel) (by decide +kernel) (by decide +kernel) rfl
theorem fL_463 (b L : Nat) (xs : Nat → Int32) : x_fetch (q_kL b L xs) 463 = x_st (x_sld 464 b L xs) := q_if6 b L xs (i := 28) (by decide +kernel) (by decide +kernel) (by decide +kernel) (by decide +kernel) (by decide +kernel) (by decide +kernel) (by decide +kernel) rfl
theorem fL_464 (b L : Nat) (xs : Nat → Int32) : x_fetch (q_kL b L xs) 464 = x_cv 467 142 3 8 := q_if6 b L xs (i := 29) (by decide +kernel) (by decide +kernel) (by decide +kernel) (by decide +kernel) (by decide +kernel) (by decide +kernel) (by decide +kernel) rfl
theorem fL_467 (b L : Nat) (xs : Nat → Int32) : x_fetch (q_kL b L xs) 467 = x_st (x_iceq 523 470) := q_if6 b L xs (i := 30) (by decide +kernel) (by decide +kernel) (by decide +kernel) (by decide +kernel) (by decide +kernel) (by decide +kernel) (by decide +kernel) rfl
theorem fL_472 (b L : Nat) (xs : Nat → Int32) : x_fetch (q_kL b L xs) 472 = x_lda 473 1 := q_if6 b L xs (i := 33) (by decide +kernel) (by decide +kernel) (by decide +kernel) (by decide +kernel) (by decide +kernel) (by decide +kernel) (by decide +kernel) rfl
theorem fL_473 (b L : Nat) (xs : Nat → Int32) : x_fetch (q_kL b L xs) 473 = x_cv 476 78 1 0 := q_if6 b L xs (i := 34) (by decide +kernel) (by decide +kernel) (by decide +kernel) (by decide +kernel) (by decide +kernel) (by decide +kernel) (by decide +kernel) rfl
theorem fL_476 (b L : Nat) (xs : Nat → Int32) : x_fetch (q_kL b L xs) 476 = x_lda 477 2 := q_if6 b L xs (i := 35) (by decide +kernel) (by decide +kernel) (by decide +kernel) (by decide +kernel) (by decide +kernel) (by decide +kernel) (by decide +kernel) rfl
theorem fL_477 (b L : Nat) (xs : Nat → Int32) : x_fetch (q_kL b L xs) 477 = x_cv 480 143 1 8 := q_if6 b L xs (i := 36) (by decide +kernel) (by decide +kernel) (by decide +kernel) (by decide +kernel) (by decide +kernel) (by decide +kernel) (by decide +kernel) rfl
theorem fL_480 (b L : Nat) (xs : Nat → Int32) : x_fetch (q_kL b L xs) 480 = x_st (x_iceq 523 483) := q_if6 b L xs (i := 37) (by decide +kernel) (by decide +kernel) (by decide +kernel) (by decide +kernel) (by decide +kernel) (by decide +kernel) (by decide +kernel) rfl
theorem fL_485 (b L : Nat) (xs : Nat → Int32) : x_fetch (q_kL b L xs) 485 = x_lda 486 1 := q_if7 b L xs (i := 0) (by decide +kernel) (by decide +kernel) (by decide +kernel) (by decide +kernel) (by decide +kernel) (by decide +kernel) (by decide +kernel) (by decide +kernel) rfl
theorem fL_486 (b L : Nat) (xs : Nat → Int32) : x_fetch (q_kL b L xs) 486 = x_lda 487 0 := q_if7 b L xs (i := 1) (by decide +kernel) (by decide +kernel) (by decide +kernel) (by decide +kernel) (by decide +kernel) (by decide +kernel) (by decide +kernel) (by decide +kernel) rfl
theorem fL_487 (b L : Nat) (xs : Nat → Int32) : x_fetch (q_kL b L xs) 487 = x_ldi 489 4 := q_if7 b L xs (i := 2) (by decide +kernel) (by decide +kernel) (by decide +kernel) (by decide +kernel) (by decide +kernel) (by decide +kernel) (by decide +kernel) (by decide +kernel) rfl
theorem fL_489 (b L : Nat) (xs : Nat → Int32) : x_fetch (q_kL b L xs) 489 = x_st (x_push 490 (.int (1))) := q_if7 b L xs (i := 3) (by decide +kernel) (by decide +kernel) (by decide +kernel) (by decide +kernel) (by decide +kernel) (by decide +kernel) (by decide +kernel) (by decide +kernel) rfl
theorem fL_490 (b L : Nat) (xs : Nat → Int32) : x_fetch (q_kL b L xs) 490 = x_st (x_bin 491 (fun a b => a + b)) := q_if7 b L xs (i := 4) (by decide +kernel) (by decide +kernel) (by decide +kernel) (by decide +kernel) (by decide +kernel) (by decide +kernel) (by decide +kernel) (by decide +kernel) rfl
theorem fL_491 (b L : Nat) (xs : Nat → Int32) : x_fetch (q_kL b L xs) 491 = x_st (x_sld 492 b L xs) := q_if7 b L xs (i := 5) (by decide +kernel) (by decide +kernel) (by decide +kernel) (by decide +kernel) (by decide +kernel) (by decide +kernel) (by decide +kernel) (by decide +kernel) rfl
theorem fL_492 (b L : Nat) (xs : Nat → Int32) : x_fetch (q_kL b L xs) 492 = x_cv 495 79 2 0 := q_if7 b L xs (i := 6) (by decide +kernel) (by decide +kernel) (by decide +kernel) (by decide +kernel) (by decide +kernel) (by decide +kernel) (by decide +kernel) (by decide +kernel) rfl
theorem fL_495 (b L : Nat) (xs : Nat → Int32) : x_fetch (q_kL b L xs) 495 = x_lda 496 2 := q_if7 b L xs (i := 7) (by decide +kernel) (by decide +kernel) (by decide +kernel) (by decide +kernel) (by decide +kernel) (by decide +kernel) (by decide +kernel) (by decide +kernel) rfl
theorem fL_496 (b L : Nat) (xs : Nat → Int32) : x_fetch (q_kL b L xs) 496 = x_lda 497 0 := q_if7 b L xs (i := 8) (by decide +kernel) (by decide +kernel) (by decide +kernel) (by decide +kernel) (by decide +kernel) (by decide +kernel) (by decide +kernel) (by decide +kernel) rfl
theorem fL_497 (b L : Nat) (xs : Nat → Int32) : x_fetch (q_kL b L xs) 497 = x_ldi 499 4 := q_if7 b L xs (i := 9) (by decide +kernel) (by decide +kernel) (by decide +kernel) (by decide +kernel) (by decide +kernel) (by decide +kernel) (by decide +kernel) (by decide +kernel) rfl
theorem fL_499 (b L : Nat) (xs : Nat → Int32) : x_fetch (q_kL b L xs) 499 = x_st (x_push 500 (.int (1))) := q_if7 b L xs (i := 10) (by decide +kernel) (by decide +kernel) (by decide +kernel) (by decide +kernel) (by decide +kernel) (by decide +kernel) (by decide +kernel) (by decide +kernel) rfl
theorem fL_500 (b L : Nat) (xs : Nat → Int32) : x_fetch (q_kL b L xs) 500 = x_st (x_bin 501 (fun a b => a + b)) := q_if7 b L xs (i := 11) (by decide +kernel) (by decide +kernel) (by decide +kernel) (by decide +kernel) (by decide +kernel) (by decide +kernel) (by decide +kernel) (by decide +kernel) rfl
theorem fL_501 (b L : Nat) (xs : Nat → Int32) : x_fetch (q_kL b L xs) 501 = x_st (x_sld 502 b L xs) := q_if7 b L xs (i := 12) (by decide +kernel) (by decide +kernel) (by decide +kernel) (by decide +kernel) (by decide +kernel) (by decide +kernel) (by decide +kernel) (by decide +kernel) rfl
theorem fL_502 (b L : Nat) (xs : Nat → Int32) : x_fetch (q_kL b L xs) 502 = x_cv 505 144 2 8 := q_if7 b L xs (i := 13) (by decide +kernel) (by decide +kernel) (by decide +kernel) (by decide +kernel) (by decide +kernel) (by decide +kernel) (by decide +kernel) (by decide +kernel) rfl
theorem fL_505 (b L : Nat) (xs : Nat → Int32) : x_fetch (q_kL b L xs) 505 = x_st (x_iceq 523 508) := q_if7 b L xs (i := 14) (by decide +kernel) (by decide +kernel) (by decide +kernel) (by decide +kernel) (by decide +kernel) (by decide +kernel) (by decide +kernel) (by decide +kernel) rfl
theorem fL_510 (b L : Nat) (xs : Nat → Int32) : x_fetch (q_kL b L xs) 510 = x_lda 511 1 := q_if7 b L xs (i := 17) (by decide +kernel) (by decide +kernel) (by decide +kernel) (by decide +kernel) (by decide +kernel) (by decide +kernel) (by decide +kernel) (by decide +kernel) rfl
theorem fL_511 (b L : Nat) (xs : Nat → Int32) : x_fetch (q_kL b L xs) 511 = x_cv 514 80 1 0 := q_if7 b L xs (i := 18) (by decide +kernel) (by decide +kernel) (by decide +kernel) (by decide +kernel) (by decide +kernel) (by decide +kernel) (by decide +kernel) (by decide +kernel) rfl
theorem fL_514 (b L : Nat) (xs : Nat → Int32) : x_fetch (q_kL b L xs) 514 = x_lda 515 2 := q_if7 b L xs (i := 19) (by decide +kernel) (by decide +kernel) (by decide +kernel) (by decide +kernel) (by decide +kernel) (by decide +kernel) (by decide +kernel) (by decide +kernel) rfl
theorem fL_515 (b L : Nat) (xs : Nat → Int32) : x_fetch (q_kL b L xs) 515 = x_cv 518 145 1 8 := q_if7 b L xs (i := 20) (by decide +kernel) (by decide +kernel) (by decide +kernel) (by decide +kernel) (by decide +kernel) (by decide +kernel) (by decide +kernel) (by decide +kernel) rfl
theorem fL_518 (b L : Nat) (xs : Nat → Int32) : x_fetch (q_kL b L xs) 518 = x_st (x_iceq 523 521) := q_if7 b L xs (i := 21) (by decide +kernel) (by decide +kernel) (by decide +kernel) (by decide +kernel) (by decide +kernel) (by decide +kernel) (by decide +kernel) (by decide +kernel) rfl
theorem fL_523 (b L : Nat) (xs : Nat → Int32) : x_fetch (q_kL b L xs) 523 = x_iinc 526 4 (7) := q_if7 b L xs (i := 24) (by decide +kernel) (by decide +kernel) (by decide +kernel) (by decide +kernel) (by decide +kernel) (by decide +kernel) (by decide +kernel) (by decide +kernel) rfl
theorem fL_526 (b L : Nat) (xs : Nat → Int32) : x_fetch (q_kL b L xs) 526 = x_st (x_goto 23) := q_if7 b L xs (i := 25) (by decide +kernel) (by decide +kernel) (by decide +kernel) (by decide +kernel) (by decide +kernel) (by decide +kernel) (by decide +kernel) (by decide +kernel) rfl
theorem fL_529 (b L : Nat) (xs : Nat → Int32) : x_fetch (q_kL b L xs) 529 = x_st (x_push 530 (.int (1))) := q_if7 b L xs (i := 26) (by decide +kernel) (by decide +kernel) (by decide +kernel) (by decide +kernel) (by decide +kernel) (by decide +kernel) (by decide +kernel) (by decide +kernel) rfl
theorem fL_530 (b L : Nat) (xs : Nat → Int32) : x_fetch (q_kL b L xs) 530 = x_ri (.boolean) := q_if7 b L xs (i := 27) (by decide +kernel) (by decide +kernel) (by decide +kernel) (by decide +kernel) (by decide +kernel) (by decide +kernel) (by decide +kernel) (by decide +kernel) rfl
