/-! how the loop of the law begins -/

def MOp (S : List Nat) (op : xO) : Prop := ∀ C C' : xF, (∀ M ∈ S, ∀ as h r, C M as h = some r → C' M as h = some r) → ∀ z q, op C z = some q → op C' z = some q
theorem mo_c {S : List Nat} {op : xO} (h : ∀ C C' z, op C z = op C' z) : MOp S op := fun C C' _ z q e => by rw [h C' C z]; exact e
theorem mo_cs {S : List Nat} {n M k : Nat} (hM : M ∈ S) : MOp S (x_cs n M k) := fun C C' hC z q e => by
  unfold x_cs at e ⊢
  split at e
  · next h0 =>
    rw [if_pos h0]
    unfold x_cl_ at e ⊢
    split at e
    · cases e
    · next h1 =>
      rw [if_neg h1]
      cases hc : C M (z.2.1.take k).reverse z.2.2 with
      | none => rw [hc] at e; cases e
      | some r =>
        rw [hC M hM _ _ _ hc]
        rw [hc] at e
        exact e
  · cases e
def MOL (S : List Nat) (cd : List (Nat × xO)) : Prop := ∀ o ∈ cd, MOp S o.2
theorem mol_n {S : List Nat} : MOL S [] := fun o ho => by cases ho
theorem mol_c {S : List Nat} {o : Nat × xO} {cd : List (Nat × xO)} (h : MOp S o.2) (t : MOL S cd) : MOL S (o :: cd) := fun q hq => by
  rcases List.mem_cons.mp hq with rfl | hq
  · exact h
  · exact t q hq
theorem mol_a {S : List Nat} {a b : List (Nat × xO)} (h : MOL S a) (t : MOL S b) : MOL S (a ++ b) := fun q hq => by
  rcases List.mem_append.mp hq with hq | hq
  · exact h q hq
  · exact t q hq
theorem mo_f {S : List Nat} : ∀ {cd : List (Nat × xO)}, MOL S cd → ∀ pc, MOp S (x_fetch cd pc)
  | [], _, pc => mo_c (fun _ _ _ => rfl)
  | q :: t, h, pc => by
    unfold x_fetch
    split
    · exact h q List.mem_cons_self
    · exact mo_f (fun o ho => h o (List.mem_cons_of_mem _ ho)) pc
theorem go_mono {S : List Nat} {cd : List (Nat × xO)} (h : MOL S cd) {C C' : xF} (hC : ∀ M ∈ S, ∀ as h r, C M as h = some r → C' M as h = some r) : ∀ (n n' pc : Nat) (z : xS) (r : Option Value × xH), n ≤ n' → x_go cd C n pc z = some r → x_go cd C' n' pc z = some r
  | 0, _, _, _, _, _, e => by cases e
  | n + 1, 0, _, _, _, hn, _ => by omega
  | n + 1, n' + 1, pc, z, r, hn, e => by
    unfold x_go at e ⊢
    cases hf : x_fetch cd pc C z with
    | none => rw [hf] at e; cases e
    | some q =>
      rw [mo_f h pc C C' hC z q hf]
      rw [hf] at e
      cases q with
      | inl q =>
        dsimp only at e ⊢
        exact go_mono h hC n n' q.1 q.2 r (by omega) e
      | inr q => exact e
theorem call_mono {S : List Nat} (hS : ∀ M ∈ S, ∀ q, x_tb M = some q → MOL S q.1) : ∀ (d d' F F' : Nat), d ≤ d' → F ≤ F' → ∀ M ∈ S, ∀ as h r, x_call x_tb F d M as h = some r → x_call x_tb F' d' M as h = some r
  | 0, _, _, _, _, _, _, _, _, _, _, e => by cases e
  | d + 1, 0, _, _, hd, _, _, _, _, _, _, _ => by omega
  | d + 1, d' + 1, F, F', hd, hF, M, hM, as, h, r, e => by
    unfold x_call at e ⊢
    cases ht : x_tb M with
    | none => rw [ht] at e; cases e
    | some q =>
      rw [ht] at e
      dsimp only at e ⊢
      split at e
      · next hl =>
        rw [if_pos hl]
        cases hg : x_go q.1 (x_call x_tb F d) F 0 (lv_args 0 as, [], h) with
        | none => rw [hg] at e; cases e
        | some r0 =>
          rw [go_mono (hS M hM q ht) (fun M' hM' as' h' r' e' => call_mono hS d d' F F' (by omega) hF M' hM' as' h' r' e') F F' 0 _ r0 hF hg]
          rw [hg] at e
          exact e
      · cases e
def sI : List Nat := [67, 26, 35, 8, 58, 39, 52, 91]
theorem ml67 : MOL sI q_k67 := by
  unfold q_k67 q_k67_0
  repeat (first | exact mol_n | refine mol_c (by first | exact mo_c (fun _ _ _ => rfl) | exact mo_cs (by decide)) ?_)
theorem ml26 : MOL sI q_k26 := by
  unfold q_k26 q_k26_0
  repeat (first | exact mol_n | refine mol_c (by first | exact mo_c (fun _ _ _ => rfl) | exact mo_cs (by decide)) ?_)
theorem ml35 : MOL sI q_k35 := by
  unfold q_k35 q_k35_0
  repeat (first | exact mol_n | refine mol_c (by first | exact mo_c (fun _ _ _ => rfl) | exact mo_cs (by decide)) ?_)
theorem ml8 : MOL sI q_k8 := by
  unfold q_k8 q_k8_0
  repeat (first | exact mol_n | refine mol_c (by first | exact mo_c (fun _ _ _ => rfl) | exact mo_cs (by decide)) ?_)
theorem ml58 : MOL sI q_k58 := by
  unfold q_k58 q_k58_0
  repeat (first | exact mol_n | refine mol_c (by first | exact mo_c (fun _ _ _ => rfl) | exact mo_cs (by decide)) ?_)
theorem ml39 : MOL sI q_k39 := by
  unfold q_k39 q_k39_0
  repeat (first | exact mol_n | refine mol_c (by first | exact mo_c (fun _ _ _ => rfl) | exact mo_cs (by decide)) ?_)
theorem ml52 : MOL sI q_k52 := by
  unfold q_k52 q_k52_0
  repeat (first | exact mol_n | refine mol_c (by first | exact mo_c (fun _ _ _ => rfl) | exact mo_cs (by decide)) ?_)
theorem ml91 : MOL sI q_k91 := by
  unfold q_k91
  refine mol_a (mol_a ?_ ?_) ?_
  · unfold q_k91_0
    repeat (first | exact mol_n | refine mol_c (by first | exact mo_c (fun _ _ _ => rfl) | exact mo_cs (by decide)) ?_)
  · unfold q_k91_1
    repeat (first | exact mol_n | refine mol_c (by first | exact mo_c (fun _ _ _ => rfl) | exact mo_cs (by decide)) ?_)
  · unfold q_k91_2
    repeat (first | exact mol_n | refine mol_c (by first | exact mo_c (fun _ _ _ => rfl) | exact mo_cs (by decide)) ?_)
theorem sI_ok : ∀ M ∈ sI, ∀ q, x_tb M = some q → MOL sI q.1 := by
  intro M hM q hq
  unfold sI at hM
  simp only [List.mem_cons, List.not_mem_nil, or_false] at hM
  rcases hM with rfl | rfl | rfl | rfl | rfl | rfl | rfl | rfl
  · obtain ⟨mL, e⟩ : ∃ mL, x_tb 67 = some (q_k67, mL) := ⟨_, rfl⟩
    rw [e] at hq
    cases hq
    exact ml67
  · obtain ⟨mL, e⟩ : ∃ mL, x_tb 26 = some (q_k26, mL) := ⟨_, rfl⟩
    rw [e] at hq
    cases hq
    exact ml26
  · obtain ⟨mL, e⟩ : ∃ mL, x_tb 35 = some (q_k35, mL) := ⟨_, rfl⟩
    rw [e] at hq
    cases hq
    exact ml35
  · obtain ⟨mL, e⟩ : ∃ mL, x_tb 8 = some (q_k8, mL) := ⟨_, rfl⟩
    rw [e] at hq
    cases hq
    exact ml8
  · obtain ⟨mL, e⟩ : ∃ mL, x_tb 58 = some (q_k58, mL) := ⟨_, rfl⟩
    rw [e] at hq
    cases hq
    exact ml58
  · obtain ⟨mL, e⟩ : ∃ mL, x_tb 39 = some (q_k39, mL) := ⟨_, rfl⟩
    rw [e] at hq
    cases hq
    exact ml39
  · obtain ⟨mL, e⟩ : ∃ mL, x_tb 52 = some (q_k52, mL) := ⟨_, rfl⟩
    rw [e] at hq
    cases hq
    exact ml52
  · obtain ⟨mL, e⟩ : ∃ mL, x_tb 91 = some (q_k91, mL) := ⟨_, rfl⟩
    rw [e] at hq
    cases hq
    exact ml91
theorem X67 (d : Nat) : Xc (d + 8) 67 [.ref 3] [.inr (0, [.null, .null, .int 0, .null, .null, .int 0, .int 0, .null, .null, .int 0])] (none, p_HA) := ⟨400, fun F D hF hD => call_mono sI_ok 8 D 400 F (by omega) hF 67 (by decide) _ _ _ p_new⟩
theorem X91 (d : Nat) : Xc (d + 8) 91 [.ref 30] (p_HA ++ [.inr (8, [.int 0, .int 0, .int 0, .null, .null, .null, .null, .null, .null, .null, .null, .null, .null, .int 0, .int 0, .int 0, .int 0, .null, .null, .null, .null, .int 0, .int 0, .int 0, .int 0, .null, .null, .null, .int 0, .null, .null, .null, .null, .null, .null, .null, .int 0, .int 0, .int 0])]) (none, p_HB) := ⟨400, fun F D hF hD => call_mono sI_ok 8 D 400 F (by omega) hF 91 (by decide) _ _ _ p_newM⟩
theorem hp_of (l : List xC) (c : xC) : hp (fun j => l.getD j c) l.length = l := by
  unfold hp
  apply List.ext_getElem
  · simp
  · intro i h1 h2
    simp only [List.getElem_map, List.getElem_range]
    rw [List.getD_eq_getElem?_getD, List.getElem?_eq_getElem h2]
    rfl
def w_0 (j : Nat) : xC := p_H0.getD j (.inr (0, []))
theorem hp_0 : hp w_0 53 = p_H0 := hp_of p_H0 (.inr (0, []))
theorem rep_Z (n : Nat) : List.replicate n (0 : Int32) = (List.replicate n (0 : Int)).map iZ := by
  rw [List.map_replicate]
  rfl
theorem ci_Z (t n : Nat) : (.inl (t, .inl (List.replicate n (0 : Int32))) : xC) = cI t (List.replicate n 0) := by
  rw [rep_Z]
theorem gZ_r0 (n : Nat) (i : Int) : gZ (List.replicate n 0) i = 0 := by
  unfold gZ
  rw [List.getD_eq_getElem?_getD, List.getElem?_replicate]
  split <;> rfl
def x_0 (j : Nat) : List Int := List.replicate (lnR j) 0
def m_0 (_ : Nat) : Int := 0
theorem RS_0 : RS w_0 m_0 x_0 [] [] (List.replicate 26 0) := by
  refine ⟨⟨rfl, fun j j0 j1 => ⟨?_, by unfold x_0; simp⟩⟩, ?_, rfl, by simp, fun i hi => absurd hi (Nat.not_lt_zero _), ⟨by simp, fun i => by rw [gZ_r0]; omega⟩, rfl, rfl, by simp, rfl, fun c hc => by cases hc⟩
  · have hj : j = 28 ∨ j = 29 ∨ j = 30 ∨ j = 31 ∨ j = 32 ∨ j = 33 ∨ j = 34 ∨ j = 35 ∨ j = 36 ∨ j = 37 ∨ j = 38 ∨ j = 39 ∨ j = 40 ∨ j = 41 ∨ j = 42 ∨ j = 43 ∨ j = 44 ∨ j = 45 ∨ j = 46 ∨ j = 47 ∨ j = 48 ∨ j = 49 ∨ j = 50 ∨ j = 51 := by omega
    rcases hj with rfl | rfl | rfl | rfl | rfl | rfl | rfl | rfl | rfl | rfl | rfl | rfl | rfl | rfl | rfl | rfl | rfl | rfl | rfl | rfl | rfl | rfl | rfl | rfl
    all_goals exact ci_Z _ _
  · refine ⟨?_, fun i => Or.inl (gZ_r0 _ _), fun i => ?_, gZ_r0 _ _⟩
    · exact ⟨by unfold x_0; simp [lnR], fun i => by unfold x_0; rw [gZ_r0]; omega, fun i _ => by unfold x_0; rw [gZ_r0]; omega⟩
    · have : gZ (x_0 28) i = 0 := gZ_r0 _ _
      rw [this]
      omega
theorem CS_0 : CS w_0 53 [] [] (List.replicate 26 0) 0 0 0 := by
  have z : ∀ n (i : Int), gZ (List.replicate n 0) i = 0 := gZ_r0
  refine ⟨rfl, by simp, ⟨0, List.replicate 60 0, rfl, ci_Z 2 60, ⟨by simp, by omega, by simp, by simp, fun j hj => absurd hj (Nat.not_lt_zero _)⟩⟩, ⟨List.replicate 30 none, rfl, by simp, fun i hi => absurd hi (Nat.not_lt_zero _)⟩, rfl, ci_Z 0 26, ⟨by simp, fun i => by rw [gZ_r0]; omega⟩, ⟨List.replicate 26 0, ci_Z 0 26, by simp⟩, ?_, ?_, ?_, by omega, fun j j0 j1 => by omega⟩
  · exact ⟨List.replicate 80 0, List.replicate 7 0, List.replicate 7 0, 0, 0, [], ⟨rfl, ci_Z 0 80, ci_Z 0 7, ci_Z 1 7⟩, by simp, by simp, by simp, by simp, fun s hs => (by cases hs), fun j hj => absurd hj (Nat.not_lt_zero _)⟩
  · refine ⟨⟨0, 0, 0, 0, 0, 0, rfl⟩, ⟨List.replicate 80 0, List.replicate 7 0, List.replicate 7 0, 0, 0, 0, ⟨rfl, ci_Z 0 80, ci_Z 0 7, ci_Z 1 7⟩, by simp, by simp, by simp⟩, ⟨0, 0, List.replicate 80 0, List.replicate 80 0, List.replicate 80 0, List.replicate 52 0, List.replicate 80 0, List.replicate 241 0, List.replicate 241 0, rfl, ci_Z 0 80, by simp, ci_Z 0 80, by simp, ci_Z 0 80, by simp, fun i i0 i1 => by rw [gZ_r0]; omega, ci_Z 0 52, by simp, ci_Z 1 80, by simp, fun i => Or.inl (gZ_r0 _ _), ci_Z 0 241, List.length_replicate, ci_Z 0 241, List.length_replicate⟩⟩
  · exact ⟨0, List.replicate 26 0, List.replicate 26 0, rfl, ci_Z 0 26, by simp, ci_Z 0 26, by simp⟩
theorem IV_0 : IV w_0 53 [] [] (List.replicate 26 0) m_0 x_0 := ⟨⟨0, 0, CS_0⟩, RS_0, fun i hi => absurd hi (Nat.not_lt_zero _), fun i hi => absurd hi (Nat.not_lt_zero _), 0, rfl⟩
