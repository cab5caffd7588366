/-! the reference: the literals but one, with all that is bound; variables called by their order -/
theorem f117_0 : x_fetch q_k117 0 = x_st (x_push 1 (.int (0))) := rfl
theorem t117_0 (C : xF) (s n : Nat) (z : xS) : x_to q_k117 C s (n + 1) 0 z = x_nx q_k117 C s n ((x_st (x_push 1 (.int (0)))) C z) := x_to_at f117_0 C s n z
theorem f117_1 : x_fetch q_k117 1 = x_sti 3 4 := rfl
theorem t117_1 (C : xF) (s n : Nat) (z : xS) : x_to q_k117 C s (n + 1) 1 z = x_nx q_k117 C s n ((x_sti 3 4) C z) := x_to_at f117_1 C s n z
theorem f117_3 : x_fetch q_k117 3 = x_ldi 5 4 := rfl
theorem t117_3 (C : xF) (s n : Nat) (z : xS) : x_to q_k117 C s (n + 1) 3 z = x_nx q_k117 C s n ((x_ldi 5 4) C z) := x_to_at f117_3 C s n z
theorem f117_5 : x_fetch q_k117 5 = x_lda 6 0 := rfl
theorem t117_5 (C : xF) (s n : Nat) (z : xS) : x_to q_k117 C s (n + 1) 5 z = x_nx q_k117 C s n ((x_lda 6 0) C z) := x_to_at f117_5 C s n z
theorem f117_6 : x_fetch q_k117 6 = x_gf 9 8 5 := rfl
theorem t117_6 (C : xF) (s n : Nat) (z : xS) : x_to q_k117 C s (n + 1) 6 z = x_nx q_k117 C s n ((x_gf 9 8 5) C z) := x_to_at f117_6 C s n z
theorem f117_9 : x_fetch q_k117 9 = x_ldi 10 1 := rfl
theorem t117_9 (C : xF) (s n : Nat) (z : xS) : x_to q_k117 C s (n + 1) 9 z = x_nx q_k117 C s n ((x_ldi 10 1) C z) := x_to_at f117_9 C s n z
theorem f117_10 : x_fetch q_k117 10 = x_ald 11 0 := rfl
theorem t117_10 (C : xF) (s n : Nat) (z : xS) : x_to q_k117 C s (n + 1) 10 z = x_nx q_k117 C s n ((x_ald 11 0) C z) := x_to_at f117_10 C s n z
theorem f117_11 : x_fetch q_k117 11 = x_st (x_icge 87 14) := rfl
theorem t117_11 (C : xF) (s n : Nat) (z : xS) : x_to q_k117 C s (n + 1) 11 z = x_nx q_k117 C s n ((x_st (x_icge 87 14)) C z) := x_to_at f117_11 C s n z
theorem f117_14 : x_fetch q_k117 14 = x_lda 15 0 := rfl
theorem t117_14 (C : xF) (s n : Nat) (z : xS) : x_to q_k117 C s (n + 1) 14 z = x_nx q_k117 C s n ((x_lda 15 0) C z) := x_to_at f117_14 C s n z
theorem f117_15 : x_fetch q_k117 15 = x_gf 18 8 24 := rfl
theorem t117_15 (C : xF) (s n : Nat) (z : xS) : x_to q_k117 C s (n + 1) 15 z = x_nx q_k117 C s n ((x_gf 18 8 24) C z) := x_to_at f117_15 C s n z
theorem f117_18 : x_fetch q_k117 18 = x_st (x_ifne 87 21) := rfl
theorem t117_18 (C : xF) (s n : Nat) (z : xS) : x_to q_k117 C s (n + 1) 18 z = x_nx q_k117 C s n ((x_st (x_ifne 87 21)) C z) := x_to_at f117_18 C s n z
theorem f117_21 : x_fetch q_k117 21 = x_ldi 23 4 := rfl
theorem t117_21 (C : xF) (s n : Nat) (z : xS) : x_to q_k117 C s (n + 1) 21 z = x_nx q_k117 C s n ((x_ldi 23 4) C z) := x_to_at f117_21 C s n z
theorem f117_23 : x_fetch q_k117 23 = x_ldi 24 3 := rfl
theorem t117_23 (C : xF) (s n : Nat) (z : xS) : x_to q_k117 C s (n + 1) 23 z = x_nx q_k117 C s n ((x_ldi 24 3) C z) := x_to_at f117_23 C s n z
theorem f117_24 : x_fetch q_k117 24 = x_st (x_iceq 81 27) := rfl
theorem t117_24 (C : xF) (s n : Nat) (z : xS) : x_to q_k117 C s (n + 1) 24 z = x_nx q_k117 C s n ((x_st (x_iceq 81 27)) C z) := x_to_at f117_24 C s n z
theorem f117_27 : x_fetch q_k117 27 = x_lda 28 0 := rfl
theorem t117_27 (C : xF) (s n : Nat) (z : xS) : x_to q_k117 C s (n + 1) 27 z = x_nx q_k117 C s n ((x_lda 28 0) C z) := x_to_at f117_27 C s n z
theorem f117_28 : x_fetch q_k117 28 = x_lda 29 0 := rfl
theorem t117_28 (C : xF) (s n : Nat) (z : xS) : x_to q_k117 C s (n + 1) 28 z = x_nx q_k117 C s n ((x_lda 29 0) C z) := x_to_at f117_28 C s n z
theorem f117_29 : x_fetch q_k117 29 = x_gf 32 8 8 := rfl
theorem t117_29 (C : xF) (s n : Nat) (z : xS) : x_to q_k117 C s (n + 1) 29 z = x_nx q_k117 C s n ((x_gf 32 8 8) C z) := x_to_at f117_29 C s n z
theorem f117_32 : x_fetch q_k117 32 = x_st (x_push 34 (.int (7))) := rfl
theorem t117_32 (C : xF) (s n : Nat) (z : xS) : x_to q_k117 C s (n + 1) 32 z = x_nx q_k117 C s n ((x_st (x_push 34 (.int (7)))) C z) := x_to_at f117_32 C s n z
theorem f117_34 : x_fetch q_k117 34 = x_ldi 35 1 := rfl
theorem t117_34 (C : xF) (s n : Nat) (z : xS) : x_to q_k117 C s (n + 1) 34 z = x_nx q_k117 C s n ((x_ldi 35 1) C z) := x_to_at f117_34 C s n z
theorem f117_35 : x_fetch q_k117 35 = x_st (x_bin 36 (fun a b => a * b)) := rfl
theorem t117_35 (C : xF) (s n : Nat) (z : xS) : x_to q_k117 C s (n + 1) 35 z = x_nx q_k117 C s n ((x_st (x_bin 36 (fun a b => a * b))) C z) := x_to_at f117_35 C s n z
theorem f117_36 : x_fetch q_k117 36 = x_ldi 38 4 := rfl
theorem t117_36 (C : xF) (s n : Nat) (z : xS) : x_to q_k117 C s (n + 1) 36 z = x_nx q_k117 C s n ((x_ldi 38 4) C z) := x_to_at f117_36 C s n z
theorem f117_38 : x_fetch q_k117 38 = x_st (x_bin 39 (fun a b => a + b)) := rfl
theorem t117_38 (C : xF) (s n : Nat) (z : xS) : x_to q_k117 C s (n + 1) 38 z = x_nx q_k117 C s n ((x_st (x_bin 39 (fun a b => a + b))) C z) := x_to_at f117_38 C s n z
theorem f117_39 : x_fetch q_k117 39 = x_ald 40 1 := rfl
theorem t117_39 (C : xF) (s n : Nat) (z : xS) : x_to q_k117 C s (n + 1) 39 z = x_nx q_k117 C s n ((x_ald 40 1) C z) := x_to_at f117_39 C s n z
theorem f117_40 : x_fetch q_k117 40 = x_cv 43 115 2 8 := rfl
theorem t117_40 (C : xF) (s n : Nat) (z : xS) : x_to q_k117 C s (n + 1) 40 z = x_nx q_k117 C s n ((x_cv 43 115 2 8) C z) := x_to_at f117_40 C s n z
theorem f117_43 : x_fetch q_k117 43 = x_lda 44 0 := rfl
theorem t117_43 (C : xF) (s n : Nat) (z : xS) : x_to q_k117 C s (n + 1) 43 z = x_nx q_k117 C s n ((x_lda 44 0) C z) := x_to_at f117_43 C s n z
theorem f117_44 : x_fetch q_k117 44 = x_ldi 45 2 := rfl
theorem t117_44 (C : xF) (s n : Nat) (z : xS) : x_to q_k117 C s (n + 1) 44 z = x_nx q_k117 C s n ((x_ldi 45 2) C z) := x_to_at f117_44 C s n z
theorem f117_45 : x_fetch q_k117 45 = x_lda 46 0 := rfl
theorem t117_45 (C : xF) (s n : Nat) (z : xS) : x_to q_k117 C s (n + 1) 45 z = x_nx q_k117 C s n ((x_lda 46 0) C z) := x_to_at f117_45 C s n z
theorem f117_46 : x_fetch q_k117 46 = x_gf 49 8 4 := rfl
theorem t117_46 (C : xF) (s n : Nat) (z : xS) : x_to q_k117 C s (n + 1) 46 z = x_nx q_k117 C s n ((x_gf 49 8 4) C z) := x_to_at f117_46 C s n z
theorem f117_49 : x_fetch q_k117 49 = x_st (x_push 51 (.int (7))) := rfl
theorem t117_49 (C : xF) (s n : Nat) (z : xS) : x_to q_k117 C s (n + 1) 49 z = x_nx q_k117 C s n ((x_st (x_push 51 (.int (7)))) C z) := x_to_at f117_49 C s n z
theorem f117_51 : x_fetch q_k117 51 = x_ldi 52 1 := rfl
theorem t117_51 (C : xF) (s n : Nat) (z : xS) : x_to q_k117 C s (n + 1) 51 z = x_nx q_k117 C s n ((x_ldi 52 1) C z) := x_to_at f117_51 C s n z
theorem f117_52 : x_fetch q_k117 52 = x_st (x_bin 53 (fun a b => a * b)) := rfl
theorem t117_52 (C : xF) (s n : Nat) (z : xS) : x_to q_k117 C s (n + 1) 52 z = x_nx q_k117 C s n ((x_st (x_bin 53 (fun a b => a * b))) C z) := x_to_at f117_52 C s n z
theorem f117_53 : x_fetch q_k117 53 = x_ldi 55 4 := rfl
theorem t117_53 (C : xF) (s n : Nat) (z : xS) : x_to q_k117 C s (n + 1) 53 z = x_nx q_k117 C s n ((x_ldi 55 4) C z) := x_to_at f117_53 C s n z
theorem f117_55 : x_fetch q_k117 55 = x_st (x_bin 56 (fun a b => a + b)) := rfl
theorem t117_55 (C : xF) (s n : Nat) (z : xS) : x_to q_k117 C s (n + 1) 55 z = x_nx q_k117 C s n ((x_st (x_bin 56 (fun a b => a + b))) C z) := x_to_at f117_55 C s n z
theorem f117_56 : x_fetch q_k117 56 = x_ald 57 0 := rfl
theorem t117_56 (C : xF) (s n : Nat) (z : xS) : x_to q_k117 C s (n + 1) 56 z = x_nx q_k117 C s n ((x_ald 57 0) C z) := x_to_at f117_56 C s n z
theorem f117_57 : x_fetch q_k117 57 = x_st (x_bin 58 (fun a b => a + b)) := rfl
theorem t117_57 (C : xF) (s n : Nat) (z : xS) : x_to q_k117 C s (n + 1) 57 z = x_nx q_k117 C s n ((x_st (x_bin 58 (fun a b => a + b))) C z) := x_to_at f117_57 C s n z
theorem f117_58 : x_fetch q_k117 58 = x_ldi 59 2 := rfl
theorem t117_58 (C : xF) (s n : Nat) (z : xS) : x_to q_k117 C s (n + 1) 58 z = x_nx q_k117 C s n ((x_ldi 59 2) C z) := x_to_at f117_58 C s n z
theorem f117_59 : x_fetch q_k117 59 = x_lda 60 0 := rfl
theorem t117_59 (C : xF) (s n : Nat) (z : xS) : x_to q_k117 C s (n + 1) 59 z = x_nx q_k117 C s n ((x_lda 60 0) C z) := x_to_at f117_59 C s n z
theorem f117_60 : x_fetch q_k117 60 = x_gf 63 8 4 := rfl
theorem t117_60 (C : xF) (s n : Nat) (z : xS) : x_to q_k117 C s (n + 1) 60 z = x_nx q_k117 C s n ((x_gf 63 8 4) C z) := x_to_at f117_60 C s n z
theorem f117_63 : x_fetch q_k117 63 = x_st (x_push 65 (.int (7))) := rfl
theorem t117_63 (C : xF) (s n : Nat) (z : xS) : x_to q_k117 C s (n + 1) 63 z = x_nx q_k117 C s n ((x_st (x_push 65 (.int (7)))) C z) := x_to_at f117_63 C s n z
theorem f117_65 : x_fetch q_k117 65 = x_ldi 66 1 := rfl
theorem t117_65 (C : xF) (s n : Nat) (z : xS) : x_to q_k117 C s (n + 1) 65 z = x_nx q_k117 C s n ((x_ldi 66 1) C z) := x_to_at f117_65 C s n z
theorem f117_66 : x_fetch q_k117 66 = x_st (x_bin 67 (fun a b => a * b)) := rfl
theorem t117_66 (C : xF) (s n : Nat) (z : xS) : x_to q_k117 C s (n + 1) 66 z = x_nx q_k117 C s n ((x_st (x_bin 67 (fun a b => a * b))) C z) := x_to_at f117_66 C s n z
theorem f117_67 : x_fetch q_k117 67 = x_ldi 69 4 := rfl
theorem t117_67 (C : xF) (s n : Nat) (z : xS) : x_to q_k117 C s (n + 1) 67 z = x_nx q_k117 C s n ((x_ldi 69 4) C z) := x_to_at f117_67 C s n z
theorem f117_69 : x_fetch q_k117 69 = x_st (x_bin 70 (fun a b => a + b)) := rfl
theorem t117_69 (C : xF) (s n : Nat) (z : xS) : x_to q_k117 C s (n + 1) 69 z = x_nx q_k117 C s n ((x_st (x_bin 70 (fun a b => a + b))) C z) := x_to_at f117_69 C s n z
theorem f117_70 : x_fetch q_k117 70 = x_st (x_push 71 (.int (1))) := rfl
theorem t117_70 (C : xF) (s n : Nat) (z : xS) : x_to q_k117 C s (n + 1) 70 z = x_nx q_k117 C s n ((x_st (x_push 71 (.int (1)))) C z) := x_to_at f117_70 C s n z
theorem f117_71 : x_fetch q_k117 71 = x_st (x_bin 72 (fun a b => a + b)) := rfl
theorem t117_71 (C : xF) (s n : Nat) (z : xS) : x_to q_k117 C s (n + 1) 71 z = x_nx q_k117 C s n ((x_st (x_bin 72 (fun a b => a + b))) C z) := x_to_at f117_71 C s n z
theorem f117_72 : x_fetch q_k117 72 = x_ald 73 0 := rfl
theorem t117_72 (C : xF) (s n : Nat) (z : xS) : x_to q_k117 C s (n + 1) 72 z = x_nx q_k117 C s n ((x_ald 73 0) C z) := x_to_at f117_72 C s n z
theorem f117_73 : x_fetch q_k117 73 = x_st (x_bin 74 (fun a b => a + b)) := rfl
theorem t117_73 (C : xF) (s n : Nat) (z : xS) : x_to q_k117 C s (n + 1) 73 z = x_nx q_k117 C s n ((x_st (x_bin 74 (fun a b => a + b))) C z) := x_to_at f117_73 C s n z
theorem f117_74 : x_fetch q_k117 74 = x_cv 77 114 3 8 := rfl
theorem t117_74 (C : xF) (s n : Nat) (z : xS) : x_to q_k117 C s (n + 1) 74 z = x_nx q_k117 C s n ((x_cv 77 114 3 8) C z) := x_to_at f117_74 C s n z
theorem f117_77 : x_fetch q_k117 77 = x_lda 78 0 := rfl
theorem t117_77 (C : xF) (s n : Nat) (z : xS) : x_to q_k117 C s (n + 1) 77 z = x_nx q_k117 C s n ((x_lda 78 0) C z) := x_to_at f117_77 C s n z
theorem f117_78 : x_fetch q_k117 78 = x_cv 81 116 1 8 := rfl
theorem t117_78 (C : xF) (s n : Nat) (z : xS) : x_to q_k117 C s (n + 1) 78 z = x_nx q_k117 C s n ((x_cv 81 116 1 8) C z) := x_to_at f117_78 C s n z
theorem f117_81 : x_fetch q_k117 81 = x_iinc 84 4 (1) := rfl
theorem t117_81 (C : xF) (s n : Nat) (z : xS) : x_to q_k117 C s (n + 1) 81 z = x_nx q_k117 C s n ((x_iinc 84 4 (1)) C z) := x_to_at f117_81 C s n z
theorem f117_84 : x_fetch q_k117 84 = x_st (x_goto 3) := rfl
theorem t117_84 (C : xF) (s n : Nat) (z : xS) : x_to q_k117 C s (n + 1) 84 z = x_nx q_k117 C s n ((x_st (x_goto 3)) C z) := x_to_at f117_84 C s n z
theorem f117_87 : x_fetch q_k117 87 = x_rv := rfl
theorem t117_87 (C : xF) (s n : Nat) (z : xS) : x_to q_k117 C s (n + 1) 87 z = x_nx q_k117 C s n ((x_rv) C z) := x_to_at f117_87 C s n z
def oth (but : Int) : Int → List (Int × List Int) → List (Int × List Int)
  | _, [] => []
  | k, x :: t => if k = but then oth but (k + 1) t else x :: oth but (k + 1) t
theorem drop_lC {D : List (Int × List Int)} {k : Nat} (h : k < D.length) : D.drop k = lC D k :: D.drop (k + 1) := by
  have e : lC D k = D[k] := by
    unfold lC
    rw [List.getD_eq_getElem?_getD, List.getElem?_eq_getElem h]
    rfl
  rw [e]
  exact List.drop_eq_getElem_cons h
/-- a clause in its row of clauses -/
def RC (c : Int) (D : List (Int × List Int)) (Ma Be Ng : List Int) : Prop := Ma.length = 30 ∧ Be.length = 210 ∧ Ng.length = 210 ∧ 0 ≤ c ∧ c < 30 ∧ D.length ≤ 6 ∧ gZ Ma c = D.length ∧ (∀ k : Nat, k ≤ D.length → gZ Be (7 * c + k) = stC D k) ∧ ∀ k : Nat, k < D.length → gZ Ng (7 * c + k) = (lC D k).1 ∧ ((lC D k).1 = 0 ∨ (lC D k).1 = 1)
/-- its terms among the places -/
def LD (fr : Int) (D : List (Int × List Int)) (S : List Int) : Prop := 0 ≤ fr ∧ fr + (flt D).length ≤ 160 ∧ ∀ j : Nat, j < (flt D).length → gZ S (fr + j) = (flt D).getD j 0
theorem seg_of {S l : List Int} {a : Int} (h0 : 0 ≤ a) (h1 : a + l.length ≤ S.length) (h : ∀ j : Nat, j < l.length → gZ S (a + j) = l.getD j 0) : seg S a (a + l.length) = l := by
  have hl : (seg S a (a + l.length)).length = l.length := by
    unfold seg
    rw [List.length_take, List.length_drop]
    omega
  refine getD_ext hl (fun i hi => ?_)
  have := h i (by omega)
  unfold gZ at this
  rw [← this]
  unfold seg
  rw [List.getD_eq_getElem?_getD, List.getD_eq_getElem?_getD, List.getElem?_take_of_lt (by omega), List.getElem?_drop]
  congr 2
  omega
theorem LD.seg {fr : Int} {D : List (Int × List Int)} {S : List Int} (h : LD fr D S) (hS : S.length = 160) {k : Nat} (hk : k < D.length) : seg S (fr + stC D k) (fr + stC D (k + 1)) = (lC D k).2 := by
  have e := stC_succ hk
  have e2 := stC_mono (C := D) (show k + 1 ≤ D.length from hk)
  rw [stC_all] at e2
  have h0 := h.1
  have h1 := h.2.1
  have := seg_of (S := S) (l := (lC D k).2) (a := fr + stC D k) (by omega) (by omega) (fun j hj => by
    have e3 := h.2.2 (stC D k + j) (stC_lt hk hj)
    rw [flt_at hk hj] at e3
    rw [← e3]
    congr 1
    omega)
  rw [e, show fr + ((stC D k + (lC D k).2.length : Nat) : Int) = fr + (stC D k : Int) + ((lC D k).2.length : Int) by omega]
  exact this
theorem WK.le1 {w w' : Nat → xC} {m m' : Nat → Int} {R Sa Mi St En R' Sa' Mi' St' En' : List Int} (g1 : Fr ksW w w') (hK : WK w m R Sa Mi St En) (g2 : WK w' m' R' Sa' Mi' St' En') (j : Nat) : x_c1 (w j) ≤ x_c1 (w' j) := by
  by_cases hj : j ∈ ksW
  · obtain ⟨k1, k2, k3, k4, k5, k6, k7, k8, k9, k10, k11, k12⟩ := hK
    obtain ⟨j1, j2, j3, j4, j5, j6, j7, j8, j9, j10, j11, j12⟩ := g2
    unfold ksW at hj
    simp only [List.mem_cons, List.not_mem_nil, or_false] at hj
    rcases hj with rfl | rfl | rfl | rfl | rfl | rfl
    · rw [k1, j1]; simp [x_c1, mF_len]
    · rw [k2, j2]; simp [x_c1, k3, j3]
    · rw [k4, j4]; simp [x_c1, k5, j5]
    · rw [k6, j6]; simp [x_c1, k7, j7]
    · rw [k8, j8]; simp [x_c1, k9, j9]
    · rw [k10, j10]; simp [x_c1, k11, j11]
  · rw [g1 j hj]
    exact Nat.le_refl _
section OT
variable {N : Nat} {S Bd Ma Be Ng : List Int} {ρ : Int → List Int} {D : List (Int × List Int)} {c fr : Int}
def OG (d pc : Nat) (cd : List (Nat × xO)) (N : Nat) (w : Nat → xC) (m : Nat → Int) (lv : xL) (o : Option (List (Int × List Int))) : Prop := ∃ (w' : Nat → xC) (m' : Nat → Int) (R' Sa' Mi' St' En' : List Int), Fr ksW w w' ∧ WK w' m' R' Sa' Mi' St' En' ∧ mFr m m' ∧ BtS o m' R' Sa' Mi' ∧ Gx cd d pc (lv, [], hp w N) (none, hp w' N)
set_option maxHeartbeats 4000000 in
theorem l117 (d : Nat) (hN : 53 ≤ N) (hO : SOK S) (hρ : BdOK S Bd ρ) (hC : RC c D Ma Be Ng) (hL : LD fr D S) (but : Int) (u0 : -2147483648 ≤ but) (u1 : but < 2147483648) :
    ∀ (r : Nat) (k : Nat) (w : Nat → xC) (m : Nat → Int) (R Sa Mi St En : List Int) (o : Option (List (Int × List Int))) (lv : xL), k + r = D.length → w 45 = cI 0 S → w 46 = cI 0 Bd → w 30 = cI 0 Ma → w 29 = cI 0 Be → w 33 = cI 1 Ng → WK w m R Sa Mi St En → BtS o m R Sa Mi → (∀ C, o = some C → C.length + r < 13) → c1 lv → x_lk lv 0 = some (.ref 30) → x_lk lv 1 = some (.int (iZ c)) → x_lk lv 2 = some (.int (iZ fr)) → x_lk lv 3 = some (.int (iZ but)) → x_lk lv 4 = some (.int (iZ (k : Int))) →
    OG (d + 3) 3 q_k117 N w m lv (mk1 o ((oth but k (D.drop k)).map (litS (sgm ρ)))) := by
  obtain ⟨a1, a2, a3, a4, a5, a6, a7, a8, a9⟩ := hC
  have hl0 := hL.1
  have hl1 := hL.2.1
  intro r
  induction r with
  | zero =>
    intro k w m R Sa Mi St En o lv hk hS hB hMa hBe hNg hK hB1 hcn hc l0 l1 l2 l3 l4
    have ek : k = D.length := by omega
    subst ek
    rw [List.drop_length]
    refine ⟨w, m, R, Sa, Mi, St, En, Fr.rf _ _, hK, mFr.rf _, by simpa [oth, mk1] using hB1, Gx.fin 40 Cs.tt (fun C _ => ?_)⟩
    have hm := hK.1
    have b1 : (D.length : Int) ≤ (D.length : Int) := Int.le_refl _
    simp (disch := first | (refine c1_id ?_; assumption) | (refine c1_st rfl ?_; repeat (first | assumption | refine c1_st rfl ?_)) | omega) [nx_l, nx_r, nx_n, x_st, x_push, x_bin, x_div, x_un, x_dup, x_pop, x_dup2, x_goto, x_ifeq, x_ifne, x_iflt, x_ifge, x_ifgt, x_ifle, x_iceq, x_icne, x_iclt, x_icge, x_icgt, x_icle, x_ifnull, x_ifnonnull, x_ldi, x_lda, x_sti, x_sta, x_iinc, x_gf, x_pf, x_ald, x_ast, x_aln, x_len, x_cl_, x_cv, x_cs, x_rc, x_r0, x_isT, x_oi, x_rv, x_ri, x_ra, Value.category, t117_0, t117_1, t117_3, t117_5, t117_6, t117_9, t117_10, t117_11, t117_14, t117_15, t117_18, t117_21, t117_23, t117_24, t117_27, t117_28, t117_29, t117_32, t117_34, t117_35, t117_36, t117_38, t117_39, t117_40, t117_43, t117_44, t117_45, t117_46, t117_49, t117_51, t117_52, t117_53, t117_55, t117_56, t117_57, t117_58, t117_59, t117_60, t117_63, t117_65, t117_66, t117_67, t117_69, t117_70, t117_71, t117_72, t117_73, t117_74, t117_77, t117_78, t117_81, t117_84, t117_87, lk_s, hp_get, hp_set, uH_at, uH_ne, uH_upd, uH_swap, iZ_add, iZ_sub, iZ_mul, iZ_neg, iZ_lt, iZ_le, iZ_eq, iZ_div, iZ_of, ix_Z, gZ_map, gZ_mapI, gZ_map', le_0, le_s, sZ_map, sZ_len, bZ_0, bZ_inj, bZ_t, bZ_f, nr_i, nr_0, nr_1, nr_b, ft_i, ft_b, ft_0, ft_1, zl_0, zl_1, zl_7, mF_len, mg_0, mg_1, mg_2, mg_3, mg_4, mg_5, mg_6, mg_7, mg_8, mg_9, mg_10, mg_11, mg_12, mg_13, mg_14, mg_15, mg_16, mg_17, mg_18, mg_19, mg_20, mg_21, mg_22, mg_23, mg_24, mg_25, mg_26, mg_27, mg_28, mg_29, mg_30, mg_31, mg_32, mg_33, mg_34, mg_35, mg_36, mg_37, mg_38, ms_0, ms_1, ms_2, ms_13, ms_14, ms_15, ms_16, ms_21, ms_22, ms_23, ms_24, ms_28, ms_36, ms_37, ms_38, st_at, st_ne, st_st, st_swap, l0, l1, l4, hm, hMa, a7, b1, -List.filter_filter, -List.getElem?_map, -List.getD_eq_getElem?_getD]
  | succ r ih =>
    intro k w m R Sa Mi St En o lv hk hS hB hMa hBe hNg hK hB1 hcn hc l0 l1 l2 l3 l4
    have hm := hK.1
    have hkD : k < D.length := by omega
    have b1 : ¬ (D.length : Int) ≤ (k : Int) := by omega
    cases o with
    | none =>
      rw [mk1_none]
      have hg : m 10 = 1 := hB1
      refine ⟨w, m, R, Sa, Mi, St, En, Fr.rf _ _, hK, mFr.rf _, hB1, Gx.fin 40 Cs.tt (fun C _ => ?_)⟩
      simp (disch := first | (refine c1_id ?_; assumption) | (refine c1_st rfl ?_; repeat (first | assumption | refine c1_st rfl ?_)) | omega) [nx_l, nx_r, nx_n, x_st, x_push, x_bin, x_div, x_un, x_dup, x_pop, x_dup2, x_goto, x_ifeq, x_ifne, x_iflt, x_ifge, x_ifgt, x_ifle, x_iceq, x_icne, x_iclt, x_icge, x_icgt, x_icle, x_ifnull, x_ifnonnull, x_ldi, x_lda, x_sti, x_sta, x_iinc, x_gf, x_pf, x_ald, x_ast, x_aln, x_len, x_cl_, x_cv, x_cs, x_rc, x_r0, x_isT, x_oi, x_rv, x_ri, x_ra, Value.category, t117_0, t117_1, t117_3, t117_5, t117_6, t117_9, t117_10, t117_11, t117_14, t117_15, t117_18, t117_21, t117_23, t117_24, t117_27, t117_28, t117_29, t117_32, t117_34, t117_35, t117_36, t117_38, t117_39, t117_40, t117_43, t117_44, t117_45, t117_46, t117_49, t117_51, t117_52, t117_53, t117_55, t117_56, t117_57, t117_58, t117_59, t117_60, t117_63, t117_65, t117_66, t117_67, t117_69, t117_70, t117_71, t117_72, t117_73, t117_74, t117_77, t117_78, t117_81, t117_84, t117_87, lk_s, hp_get, hp_set, uH_at, uH_ne, uH_upd, uH_swap, iZ_add, iZ_sub, iZ_mul, iZ_neg, iZ_lt, iZ_le, iZ_eq, iZ_div, iZ_of, ix_Z, gZ_map, gZ_mapI, gZ_map', le_0, le_s, sZ_map, sZ_len, bZ_0, bZ_inj, bZ_t, bZ_f, nr_i, nr_0, nr_1, nr_b, ft_i, ft_b, ft_0, ft_1, zl_0, zl_1, zl_7, mF_len, mg_0, mg_1, mg_2, mg_3, mg_4, mg_5, mg_6, mg_7, mg_8, mg_9, mg_10, mg_11, mg_12, mg_13, mg_14, mg_15, mg_16, mg_17, mg_18, mg_19, mg_20, mg_21, mg_22, mg_23, mg_24, mg_25, mg_26, mg_27, mg_28, mg_29, mg_30, mg_31, mg_32, mg_33, mg_34, mg_35, mg_36, mg_37, mg_38, ms_0, ms_1, ms_2, ms_13, ms_14, ms_15, ms_16, ms_21, ms_22, ms_23, ms_24, ms_28, ms_36, ms_37, ms_38, st_at, st_ne, st_st, st_swap, l0, l1, l4, hm, hMa, a7, b1, hg, -List.filter_filter, -List.getElem?_map, -List.getD_eq_getElem?_getD]
    | some C =>
      have hg : m 10 = 0 := hB1.2.2.1
      rw [drop_lC hkD]
      by_cases hbut : (k : Int) = but
      · have e : oth but k (lC D k :: D.drop (k + 1)) = oth but ((k + 1 : Nat) : Int) (D.drop (k + 1)) := by
          show (if (k : Int) = but then _ else _) = _
          rw [if_pos hbut]
          rfl
        rw [e]
        have C1 := c1_st (i := 4) (v := .int (iZ ((k : Int) + 1))) rfl hc
        obtain ⟨w', m', R', Sa', Mi', St', En', g1, g2, g3, g4, g5⟩ := ih (k + 1) w m R Sa Mi St En (some C) _ (by omega) hS hB hMa hBe hNg hK hB1 (fun C' e' => by have := hcn C' e'; omega) C1 (by rw [lk_s hc]; exact l0) (by rw [lk_s hc]; exact l1) (by rw [lk_s hc]; exact l2) (by rw [lk_s hc]; exact l3) (by rw [lk_s hc]; rfl)
        refine ⟨w', m', R', Sa', Mi', St', En', g1, g2, g3, g4, Gx.run 40 Cs.tt (fun C _ => ?_) g5⟩
        subst hbut
        simp (disch := first | (refine c1_id ?_; assumption) | (refine c1_st rfl ?_; repeat (first | assumption | refine c1_st rfl ?_)) | omega) [nx_l, nx_r, nx_n, x_st, x_push, x_bin, x_div, x_un, x_dup, x_pop, x_dup2, x_goto, x_ifeq, x_ifne, x_iflt, x_ifge, x_ifgt, x_ifle, x_iceq, x_icne, x_iclt, x_icge, x_icgt, x_icle, x_ifnull, x_ifnonnull, x_ldi, x_lda, x_sti, x_sta, x_iinc, x_gf, x_pf, x_ald, x_ast, x_aln, x_len, x_cl_, x_cv, x_cs, x_rc, x_r0, x_isT, x_oi, x_rv, x_ri, x_ra, Value.category, t117_0, t117_1, t117_3, t117_5, t117_6, t117_9, t117_10, t117_11, t117_14, t117_15, t117_18, t117_21, t117_23, t117_24, t117_27, t117_28, t117_29, t117_32, t117_34, t117_35, t117_36, t117_38, t117_39, t117_40, t117_43, t117_44, t117_45, t117_46, t117_49, t117_51, t117_52, t117_53, t117_55, t117_56, t117_57, t117_58, t117_59, t117_60, t117_63, t117_65, t117_66, t117_67, t117_69, t117_70, t117_71, t117_72, t117_73, t117_74, t117_77, t117_78, t117_81, t117_84, t117_87, lk_s, hp_get, hp_set, uH_at, uH_ne, uH_upd, uH_swap, iZ_add, iZ_sub, iZ_mul, iZ_neg, iZ_lt, iZ_le, iZ_eq, iZ_div, iZ_of, ix_Z, gZ_map, gZ_mapI, gZ_map', le_0, le_s, sZ_map, sZ_len, bZ_0, bZ_inj, bZ_t, bZ_f, nr_i, nr_0, nr_1, nr_b, ft_i, ft_b, ft_0, ft_1, zl_0, zl_1, zl_7, mF_len, mg_0, mg_1, mg_2, mg_3, mg_4, mg_5, mg_6, mg_7, mg_8, mg_9, mg_10, mg_11, mg_12, mg_13, mg_14, mg_15, mg_16, mg_17, mg_18, mg_19, mg_20, mg_21, mg_22, mg_23, mg_24, mg_25, mg_26, mg_27, mg_28, mg_29, mg_30, mg_31, mg_32, mg_33, mg_34, mg_35, mg_36, mg_37, mg_38, ms_0, ms_1, ms_2, ms_13, ms_14, ms_15, ms_16, ms_21, ms_22, ms_23, ms_24, ms_28, ms_36, ms_37, ms_38, st_at, st_ne, st_st, st_swap, l0, l1, l3, l4, hm, hMa, a7, b1, hg, -List.filter_filter, -List.getElem?_map, -List.getD_eq_getElem?_getD]
      · have e : oth but k (lC D k :: D.drop (k + 1)) = lC D k :: oth but ((k + 1 : Nat) : Int) (D.drop (k + 1)) := by
          show (if (k : Int) = but then _ else _) = _
          rw [if_neg hbut]
          rfl
        rw [e, List.map_cons]
        obtain ⟨n1, n2⟩ := a9 k hkD
        obtain ⟨bb, hbb⟩ : ∃ bb : Bool, (lC D k).1 = bZ bb := by
          rcases n2 with n2 | n2
          · exact ⟨false, n2⟩
          · exact ⟨true, n2⟩
        have hcl := hcn C rfl
        obtain ⟨w1, Sa1, Mi1, f1, K1, L1, X1⟩ := A115 (d + 2) hN hK hB1 (by omega) bb
        have e7 := a8 k (by omega)
        have e8 := a8 (k + 1) (by omega)
        rw [show 7 * c + ((k + 1 : Nat) : Int) = 7 * c + (k : Int) + 1 by omega] at e8
        have es := stC_succ hkD
        have es2 := stC_mono (C := D) (show k + 1 ≤ D.length from hkD)
        rw [stC_all] at es2
        have hSl := hO.1
        obtain ⟨w2, m2, R2, St2, En2, f2, K2, M2, L2, X2⟩ := A114 d hN K1 L1 (by omega) ((f1 45 (by decide)).trans hS) hO ((f1 46 (by decide)).trans hB) hρ (fr + stC D k) (fr + stC D (k + 1)) (by omega) (by omega) (by omega)
        rw [hL.seg hSl hkD] at L2
        obtain ⟨w3, m3, Sa3, f3, K3, M3, L3, X3⟩ := A116 (d + 1) hN K2 L2 (by omega)
        have f123 : Fr ksW w w3 := (f1.tr f2).tr f3
        have C1 := c1_st (i := 4) (v := .int (iZ ((k : Int) + 1))) rfl hc
        have eo : Option.map (fun t => adL C (bZ bb, t)) (spO (some []) (sub (sgm ρ) (lC D k).2)) = (if (litS (sgm ρ) (lC D k)).2.length ≤ 40 then some (adL C (litS (sgm ρ) (lC D k))) else none) := by
          show Option.map _ (if ([] : List Int).length + (sub (sgm ρ) (lC D k).2).length ≤ 40 then _ else _) = (if (sub (sgm ρ) (lC D k).2).length ≤ 40 then some (adL C ((lC D k).1, sub (sgm ρ) (lC D k).2)) else none)
          rw [hbb]
          by_cases h40 : (sub (sgm ρ) (lC D k).2).length ≤ 40
          · rw [if_pos (by simpa using h40), if_pos h40]
            rfl
          · rw [if_neg (by simpa using h40), if_neg h40]
            rfl
        rw [eo] at L3
        obtain ⟨w', m', R', Sa', Mi', St', En', g1, g2, g3, g4, g5⟩ := ih (k + 1) w3 m3 R2 Sa3 Mi1 St2 En2 _ _ (by omega) ((f123 45 (by decide)).trans hS) ((f123 46 (by decide)).trans hB) ((f123 30 (by decide)).trans hMa) ((f123 29 (by decide)).trans hBe) ((f123 33 (by decide)).trans hNg) K3 L3 (fun C' e' => by
          have hle : (adL C (litS (sgm ρ) (lC D k))).length ≤ C.length + 1 := by
            unfold adL
            split
            · omega
            · simp
          split at e'
          · cases e'
            omega
          · cases e') C1 (by rw [lk_s hc]; exact l0) (by rw [lk_s hc]; exact l1) (by rw [lk_s hc]; exact l2) (by rw [lk_s hc]; exact l3) (by rw [lk_s hc]; rfl)
        refine ⟨w', m', R', Sa', Mi', St', En', f123.tr g1, g2, (M2.tr M3).tr g3, ?_, ?_⟩
        · show BtS (mk1 (if (litS (sgm ρ) (lC D k)).2.length ≤ 40 then some (adL C (litS (sgm ρ) (lC D k))) else none) _) _ _ _ _
          exact g4
        · have r3 : Gx q_k117 (d + 3) 77 (lv, [], hp w2 N) (none, hp w' N) := by
            refine Gx.run 40 X3 (fun C mm => ?_) g5
            have hm2 := K2.1
            simp (disch := first | (refine c1_id ?_; assumption) | (refine c1_st rfl ?_; repeat (first | assumption | refine c1_st rfl ?_)) | omega) [nx_l, nx_r, nx_n, x_st, x_push, x_bin, x_div, x_un, x_dup, x_pop, x_dup2, x_goto, x_ifeq, x_ifne, x_iflt, x_ifge, x_ifgt, x_ifle, x_iceq, x_icne, x_iclt, x_icge, x_icgt, x_icle, x_ifnull, x_ifnonnull, x_ldi, x_lda, x_sti, x_sta, x_iinc, x_gf, x_pf, x_ald, x_ast, x_aln, x_len, x_cl_, x_cv, x_cs, x_rc, x_r0, x_isT, x_oi, x_rv, x_ri, x_ra, Value.category, t117_0, t117_1, t117_3, t117_5, t117_6, t117_9, t117_10, t117_11, t117_14, t117_15, t117_18, t117_21, t117_23, t117_24, t117_27, t117_28, t117_29, t117_32, t117_34, t117_35, t117_36, t117_38, t117_39, t117_40, t117_43, t117_44, t117_45, t117_46, t117_49, t117_51, t117_52, t117_53, t117_55, t117_56, t117_57, t117_58, t117_59, t117_60, t117_63, t117_65, t117_66, t117_67, t117_69, t117_70, t117_71, t117_72, t117_73, t117_74, t117_77, t117_78, t117_81, t117_84, t117_87, lk_s, hp_get, hp_set, uH_at, uH_ne, uH_upd, uH_swap, iZ_add, iZ_sub, iZ_mul, iZ_neg, iZ_lt, iZ_le, iZ_eq, iZ_div, iZ_of, ix_Z, gZ_map, gZ_mapI, gZ_map', le_0, le_s, sZ_map, sZ_len, bZ_0, bZ_inj, bZ_t, bZ_f, nr_i, nr_0, nr_1, nr_b, ft_i, ft_b, ft_0, ft_1, zl_0, zl_1, zl_7, mF_len, mg_0, mg_1, mg_2, mg_3, mg_4, mg_5, mg_6, mg_7, mg_8, mg_9, mg_10, mg_11, mg_12, mg_13, mg_14, mg_15, mg_16, mg_17, mg_18, mg_19, mg_20, mg_21, mg_22, mg_23, mg_24, mg_25, mg_26, mg_27, mg_28, mg_29, mg_30, mg_31, mg_32, mg_33, mg_34, mg_35, mg_36, mg_37, mg_38, ms_0, ms_1, ms_2, ms_13, ms_14, ms_15, ms_16, ms_21, ms_22, ms_23, ms_24, ms_28, ms_36, ms_37, ms_38, st_at, st_ne, st_st, st_swap, l0, l4, hm2, mm, -List.filter_filter, -List.getElem?_map, -List.getD_eq_getElem?_getD]
          have hBe1 := (f1 29 (by decide)).trans hBe
          have hm1 := K1.1
          have r2 : Gx q_k117 (d + 3) 43 (lv, [], hp w1 N) (none, hp w' N) := by
            refine Gx.run 60 X2 (fun C mm => ?_) r3
            rw [← e7, ← e8] at mm
            simp (disch := first | (refine c1_id ?_; assumption) | (refine c1_st rfl ?_; repeat (first | assumption | refine c1_st rfl ?_)) | omega) [nx_l, nx_r, nx_n, x_st, x_push, x_bin, x_div, x_un, x_dup, x_pop, x_dup2, x_goto, x_ifeq, x_ifne, x_iflt, x_ifge, x_ifgt, x_ifle, x_iceq, x_icne, x_iclt, x_icge, x_icgt, x_icle, x_ifnull, x_ifnonnull, x_ldi, x_lda, x_sti, x_sta, x_iinc, x_gf, x_pf, x_ald, x_ast, x_aln, x_len, x_cl_, x_cv, x_cs, x_rc, x_r0, x_isT, x_oi, x_rv, x_ri, x_ra, Value.category, t117_0, t117_1, t117_3, t117_5, t117_6, t117_9, t117_10, t117_11, t117_14, t117_15, t117_18, t117_21, t117_23, t117_24, t117_27, t117_28, t117_29, t117_32, t117_34, t117_35, t117_36, t117_38, t117_39, t117_40, t117_43, t117_44, t117_45, t117_46, t117_49, t117_51, t117_52, t117_53, t117_55, t117_56, t117_57, t117_58, t117_59, t117_60, t117_63, t117_65, t117_66, t117_67, t117_69, t117_70, t117_71, t117_72, t117_73, t117_74, t117_77, t117_78, t117_81, t117_84, t117_87, lk_s, hp_get, hp_set, uH_at, uH_ne, uH_upd, uH_swap, iZ_add, iZ_sub, iZ_mul, iZ_neg, iZ_lt, iZ_le, iZ_eq, iZ_div, iZ_of, ix_Z, gZ_map, gZ_mapI, gZ_map', le_0, le_s, sZ_map, sZ_len, bZ_0, bZ_inj, bZ_t, bZ_f, nr_i, nr_0, nr_1, nr_b, ft_i, ft_b, ft_0, ft_1, zl_0, zl_1, zl_7, mF_len, mg_0, mg_1, mg_2, mg_3, mg_4, mg_5, mg_6, mg_7, mg_8, mg_9, mg_10, mg_11, mg_12, mg_13, mg_14, mg_15, mg_16, mg_17, mg_18, mg_19, mg_20, mg_21, mg_22, mg_23, mg_24, mg_25, mg_26, mg_27, mg_28, mg_29, mg_30, mg_31, mg_32, mg_33, mg_34, mg_35, mg_36, mg_37, mg_38, ms_0, ms_1, ms_2, ms_13, ms_14, ms_15, ms_16, ms_21, ms_22, ms_23, ms_24, ms_28, ms_36, ms_37, ms_38, st_at, st_ne, st_st, st_swap, l0, l1, l2, l4, hm1, hBe1, mm, -List.filter_filter, -List.getElem?_map, -List.getD_eq_getElem?_getD]
          refine Gx.run 60 X1 (fun C mm => ?_) r2
          rw [← hbb, ← n1] at mm
          simp (disch := first | (refine c1_id ?_; assumption) | (refine c1_st rfl ?_; repeat (first | assumption | refine c1_st rfl ?_)) | omega) [nx_l, nx_r, nx_n, x_st, x_push, x_bin, x_div, x_un, x_dup, x_pop, x_dup2, x_goto, x_ifeq, x_ifne, x_iflt, x_ifge, x_ifgt, x_ifle, x_iceq, x_icne, x_iclt, x_icge, x_icgt, x_icle, x_ifnull, x_ifnonnull, x_ldi, x_lda, x_sti, x_sta, x_iinc, x_gf, x_pf, x_ald, x_ast, x_aln, x_len, x_cl_, x_cv, x_cs, x_rc, x_r0, x_isT, x_oi, x_rv, x_ri, x_ra, Value.category, t117_0, t117_1, t117_3, t117_5, t117_6, t117_9, t117_10, t117_11, t117_14, t117_15, t117_18, t117_21, t117_23, t117_24, t117_27, t117_28, t117_29, t117_32, t117_34, t117_35, t117_36, t117_38, t117_39, t117_40, t117_43, t117_44, t117_45, t117_46, t117_49, t117_51, t117_52, t117_53, t117_55, t117_56, t117_57, t117_58, t117_59, t117_60, t117_63, t117_65, t117_66, t117_67, t117_69, t117_70, t117_71, t117_72, t117_73, t117_74, t117_77, t117_78, t117_81, t117_84, t117_87, lk_s, hp_get, hp_set, uH_at, uH_ne, uH_upd, uH_swap, iZ_add, iZ_sub, iZ_mul, iZ_neg, iZ_lt, iZ_le, iZ_eq, iZ_div, iZ_of, ix_Z, gZ_map, gZ_mapI, gZ_map', le_0, le_s, sZ_map, sZ_len, bZ_0, bZ_inj, bZ_t, bZ_f, nr_i, nr_0, nr_1, nr_b, ft_i, ft_b, ft_0, ft_1, zl_0, zl_1, zl_7, mF_len, mg_0, mg_1, mg_2, mg_3, mg_4, mg_5, mg_6, mg_7, mg_8, mg_9, mg_10, mg_11, mg_12, mg_13, mg_14, mg_15, mg_16, mg_17, mg_18, mg_19, mg_20, mg_21, mg_22, mg_23, mg_24, mg_25, mg_26, mg_27, mg_28, mg_29, mg_30, mg_31, mg_32, mg_33, mg_34, mg_35, mg_36, mg_37, mg_38, ms_0, ms_1, ms_2, ms_13, ms_14, ms_15, ms_16, ms_21, ms_22, ms_23, ms_24, ms_28, ms_36, ms_37, ms_38, st_at, st_ne, st_st, st_swap, l0, l1, l3, l4, hm, hMa, hNg, a7, b1, hg, hbut, mm, -List.filter_filter, -List.getElem?_map, -List.getD_eq_getElem?_getD]
theorem m117 (d : Nat) (hN : 53 ≤ N) (hO : SOK S) (hρ : BdOK S Bd ρ) (hC : RC c D Ma Be Ng) (hL : LD fr D S) (but : Int) (u0 : -2147483648 ≤ but) (u1 : but < 2147483648) (w : Nat → xC) (m : Nat → Int) (R Sa Mi St En : List Int) (o : Option (List (Int × List Int))) (hS : w 45 = cI 0 S) (hB : w 46 = cI 0 Bd) (hMa : w 30 = cI 0 Ma) (hBe : w 29 = cI 0 Be) (hNg : w 33 = cI 1 Ng) (hK : WK w m R Sa Mi St En) (hB1 : BtS o m R Sa Mi) (hcn : ∀ C, o = some C → C.length + D.length < 13) :
    ∃ (w' : Nat → xC) (m' : Nat → Int) (R' Sa' Mi' St' En' : List Int), Fr ksW w w' ∧ WK w' m' R' Sa' Mi' St' En' ∧ mFr m m' ∧ BtS (mk1 o ((oth but 0 D).map (litS (sgm ρ)))) m' R' Sa' Mi' ∧ Xc (d + 4) 117 [.ref 30, .int (iZ c), .int (iZ fr), .int (iZ but)] (hp w N) (none, hp w' N) := by
  have hc : c1 (lv_args 0 [.ref 30, .int (iZ c), .int (iZ fr), .int (iZ but)]) := by simp [c1, lv_args, Value.category]
  have C1 := c1_st (i := 4) (v := .int (iZ 0)) rfl hc
  obtain ⟨w', m', R', Sa', Mi', St', En', g1, g2, g3, g4, g5⟩ := l117 d hN hO hρ hC hL but u0 u1 D.length 0 w m R Sa Mi St En o _ (by omega) hS hB hMa hBe hNg hK hB1 hcn C1 (by rw [lk_s hc]; rfl) (by rw [lk_s hc]; rfl) (by rw [lk_s hc]; rfl) (by rw [lk_s hc]; rfl) (by rw [lk_s hc]; rfl)
  rw [List.drop_zero] at g4
  refine ⟨w', m', R', Sa', Mi', St', En', g1, g2, g3, g4, Xc.of rfl (by simp [lg_sl, Value.category]) (Gx.run 20 Cs.tt (fun C _ => ?_) g5) (hp_le (Nat.le_refl _) (fun j _ => ?_))⟩
  · simp (disch := first | (refine c1_id ?_; assumption) | (refine c1_st rfl ?_; repeat (first | assumption | refine c1_st rfl ?_)) | omega) [nx_l, nx_r, nx_n, x_st, x_push, x_bin, x_div, x_un, x_dup, x_pop, x_dup2, x_goto, x_ifeq, x_ifne, x_iflt, x_ifge, x_ifgt, x_ifle, x_iceq, x_icne, x_iclt, x_icge, x_icgt, x_icle, x_ifnull, x_ifnonnull, x_ldi, x_lda, x_sti, x_sta, x_iinc, x_gf, x_pf, x_ald, x_ast, x_aln, x_len, x_cl_, x_cv, x_cs, x_rc, x_r0, x_isT, x_oi, x_rv, x_ri, x_ra, Value.category, t117_0, t117_1, t117_3, t117_5, t117_6, t117_9, t117_10, t117_11, t117_14, t117_15, t117_18, t117_21, t117_23, t117_24, t117_27, t117_28, t117_29, t117_32, t117_34, t117_35, t117_36, t117_38, t117_39, t117_40, t117_43, t117_44, t117_45, t117_46, t117_49, t117_51, t117_52, t117_53, t117_55, t117_56, t117_57, t117_58, t117_59, t117_60, t117_63, t117_65, t117_66, t117_67, t117_69, t117_70, t117_71, t117_72, t117_73, t117_74, t117_77, t117_78, t117_81, t117_84, t117_87, lk_s, hp_get, hp_set, uH_at, uH_ne, uH_upd, uH_swap, iZ_add, iZ_sub, iZ_mul, iZ_neg, iZ_lt, iZ_le, iZ_eq, iZ_div, iZ_of, ix_Z, gZ_map, gZ_mapI, gZ_map', le_0, le_s, sZ_map, sZ_len, bZ_0, bZ_inj, bZ_t, bZ_f, nr_i, nr_0, nr_1, nr_b, ft_i, ft_b, ft_0, ft_1, zl_0, zl_1, zl_7, mF_len, mg_0, mg_1, mg_2, mg_3, mg_4, mg_5, mg_6, mg_7, mg_8, mg_9, mg_10, mg_11, mg_12, mg_13, mg_14, mg_15, mg_16, mg_17, mg_18, mg_19, mg_20, mg_21, mg_22, mg_23, mg_24, mg_25, mg_26, mg_27, mg_28, mg_29, mg_30, mg_31, mg_32, mg_33, mg_34, mg_35, mg_36, mg_37, mg_38, ms_0, ms_1, ms_2, ms_13, ms_14, ms_15, ms_16, ms_21, ms_22, ms_23, ms_24, ms_28, ms_36, ms_37, ms_38, st_at, st_ne, st_st, st_swap, lv_args, x_lk, -List.filter_filter, -List.getElem?_map, -List.getD_eq_getElem?_getD]
  · exact WK.le1 g1 hK g2 j
end OT
