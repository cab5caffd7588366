/-! the walk through terms and bindings with a stack of rows that are still to be seen -/
def seg (P : List Int) (i j : Int) : List Int := (P.drop i.toNat).take (j.toNat - i.toNat)
theorem seg_nil (P : List Int) (i : Int) : seg P i i = [] := by simp [seg]
theorem seg_cons {P : List Int} {i j : Int} (h0 : 0 ≤ i) (h1 : i < j) (h2 : i < P.length) : seg P i j = gZ P i :: seg P (i + 1) j := by
  unfold seg
  rw [pz_drop (show i.toNat < P.length by omega), show j.toNat - i.toNat = (j.toNat - (i + 1).toNat) + 1 by omega, List.take_succ_cons, show (i + 1).toNat = i.toNat + 1 by omega]
  rfl
theorem seg_tm {P : List Int} {i : Int} (h0 : 0 ≤ i) : seg P i (i + (tm P i.toNat).length) = tm P i.toNat := by
  obtain ⟨b, e⟩ := tk_pre (P.drop i.toNat) 1
  have e' : P.drop i.toNat = tm P i.toNat ++ b := e
  unfold seg
  rw [e', show (i + ((tm P i.toNat).length : Int)).toNat - i.toNat = (tm P i.toNat).length by omega, List.take_left]
theorem tm_fit {P : List Int} {i : Int} (h0 : 0 ≤ i) (h1 : i < P.length) : i + (tm P i.toNat).length ≤ P.length := by
  obtain ⟨b, e⟩ := tk_pre (P.drop i.toNat) 1
  have e' : P.drop i.toNat = tm P i.toNat ++ b := e
  have := congrArg List.length e'
  rw [List.length_drop, List.length_append] at this
  omega
/-- what the first t rows of the stack still give, the last one first -/
def frT (P : List Int) (ρ : Int → List Int) (St En : List Int) : Nat → List Int
  | 0 => []
  | t + 1 => sub ρ (seg P (gZ St t) (gZ En t)) ++ frT P ρ St En t
theorem frT_congr {P : List Int} {ρ : Int → List Int} {St En St' En' : List Int} : ∀ {t : Nat}, (∀ i : Nat, i < t → gZ St' i = gZ St i ∧ gZ En' i = gZ En i) → frT P ρ St' En' t = frT P ρ St En t
  | 0, _ => rfl
  | t + 1, h => by
    show sub ρ (seg P (gZ St' t) (gZ En' t)) ++ frT P ρ St' En' t = sub ρ (seg P (gZ St t) (gZ En t)) ++ frT P ρ St En t
    rw [(h t (by omega)).1, (h t (by omega)).2, frT_congr (fun i hi => h i (by omega))]
/-- a row on the stack lies in the places -/
def frV (P St En : List Int) (t : Nat) : Prop := 0 ≤ gZ St t ∧ gZ St t ≤ gZ En t ∧ gZ En t ≤ P.length
/-- the rows above the first come from the variables V, the last one first -/
def FrOK (P : List Int) (ρ : Int → List Int) (St En : List Int) : List Int → Prop
  | [] => frV P St En 0
  | v :: V => frV P St En (V.length + 1) ∧ (sub ρ (seg P (gZ St ((V.length + 1 : Nat) : Int)) (gZ En ((V.length + 1 : Nat) : Int)))).length < (ρ v).length ∧ (0 ≤ v ∧ v < 52) ∧ (∀ u ∈ V, (ρ v).length < (ρ u).length) ∧ FrOK P ρ St En V
theorem FrOK_top {P : List Int} {ρ : Int → List Int} {St En : List Int} : ∀ {V : List Int}, FrOK P ρ St En V → frV P St En V.length
  | [], h => h
  | _ :: _, h => h.1
theorem FrOK_nd {P : List Int} {ρ : Int → List Int} {St En : List Int} : ∀ {V : List Int}, FrOK P ρ St En V → (V.map Int.toNat).Nodup ∧ ∀ x ∈ V.map Int.toNat, x < 52
  | [], _ => ⟨List.nodup_nil, fun _ h => by cases h⟩
  | v :: V, h => by
    obtain ⟨h1, h2, h3, h4, h5⟩ := h
    obtain ⟨g1, g2⟩ := FrOK_nd h5
    refine ⟨?_, fun x hx => ?_⟩
    · rw [List.map_cons, List.nodup_cons]
      refine ⟨fun hm => ?_, g1⟩
      obtain ⟨u, hu, e⟩ := List.mem_map.mp hm
      have hu0 : 0 ≤ u := by
        have : ∀ {W : List Int}, FrOK P ρ St En W → ∀ x ∈ W, 0 ≤ x := by
          intro W
          induction W with
          | nil => intro _ x hx; cases hx
          | cons y W ih =>
            intro hW x hx
            rcases List.mem_cons.mp hx with rfl | hx
            · exact hW.2.2.1.1
            · exact ih hW.2.2.2.2 x hx
        exact this h5 u hu
      have : u = v := by omega
      have := h4 u hu
      subst u
      omega
    · rw [List.map_cons] at hx
      rcases List.mem_cons.mp hx with rfl | hx
      · omega
      · exact g2 x hx
theorem FrOK_len {P : List Int} {ρ : Int → List Int} {St En : List Int} {V : List Int} (h : FrOK P ρ St En V) : V.length ≤ 52 := by
  obtain ⟨g1, g2⟩ := FrOK_nd h
  have := pigeon g1 g2
  rw [List.length_map] at this
  exact this
theorem FrOK_congr {P : List Int} {ρ : Int → List Int} {St En St' En' : List Int} : ∀ {V : List Int}, (∀ i : Nat, i ≤ V.length → gZ St' i = gZ St i ∧ gZ En' i = gZ En i) → FrOK P ρ St En V → FrOK P ρ St' En' V
  | [], h, g => by
    obtain ⟨e1, e2⟩ := h 0 (Nat.le_refl _)
    show frV P St' En' 0
    unfold frV at *
    rw [e1, e2]
    exact g
  | v :: V, h, g => by
    obtain ⟨g1, g2, g3, g4, g5⟩ := g
    obtain ⟨e1, e2⟩ := h (V.length + 1) (Nat.le_refl _)
    refine ⟨?_, ?_, g3, g4, FrOK_congr (fun i hi => h i (Nat.le_succ_of_le hi)) g5⟩
    · unfold frV at *
      rw [e1, e2]
      exact g1
    · rw [e1, e2]
      exact g2
/-- the topmost row goes one place on -/
theorem FrOK_on {P : List Int} {ρ : Int → List Int} (hne : ∀ v, ρ v ≠ []) {St En : List Int} {V : List Int} (h : FrOK P ρ St En V) (hl : St.length = 400) (hn : gZ St V.length ≠ gZ En V.length) : FrOK P ρ (sZ St V.length (gZ St V.length + 1)) En V := by
  have hv := FrOK_len h
  have ht := FrOK_top h
  have s1 : gZ (sZ St V.length (gZ St V.length + 1)) V.length = gZ St V.length + 1 := by rw [gZ_sZ (by omega) (by omega) (by omega), if_pos rfl]
  have s2 : ∀ i : Nat, i < V.length → gZ (sZ St V.length (gZ St V.length + 1)) i = gZ St i := fun i hi => by rw [gZ_sZ (by omega) (by omega) (by omega), if_neg (by omega)]
  obtain ⟨t1, t2, t3⟩ := ht
  cases V with
  | nil =>
    show frV P _ En 0
    refine ⟨?_, ?_, t3⟩
    · show 0 ≤ gZ (sZ St ([] : List Int).length _) ([] : List Int).length
      rw [s1]
      omega
    · show gZ (sZ St ([] : List Int).length _) ([] : List Int).length ≤ gZ En ([] : List Int).length
      rw [s1]
      omega
  | cons v V =>
    obtain ⟨h1, h2, h3, h4, h5⟩ := h
    refine ⟨⟨?_, ?_, t3⟩, ?_, h3, h4, FrOK_congr (fun i hi => ⟨s2 i (by simp only [List.length_cons]; omega), rfl⟩) h5⟩
    · show 0 ≤ gZ (sZ St (v :: V).length _) (v :: V).length
      rw [s1]
      omega
    · show gZ (sZ St (v :: V).length _) (v :: V).length ≤ gZ En (v :: V).length
      rw [s1]
      omega
    · show (sub ρ (seg P (gZ (sZ St (v :: V).length _) (v :: V).length) (gZ En (v :: V).length))).length < _
      rw [s1]
      have e : seg P (gZ St (v :: V).length) (gZ En (v :: V).length) = gZ P (gZ St (v :: V).length) :: seg P (gZ St (v :: V).length + 1) (gZ En (v :: V).length) := seg_cons t1 (by omega) (by omega)
      have h2' : (sub ρ (seg P (gZ St (v :: V).length) (gZ En (v :: V).length))).length < (ρ v).length := h2
      rw [e, sub_cons, List.length_append] at h2'
      omega
