/-! what the class copies is what the reference makes -/

theorem mk1_grow : ∀ (t C C' : List (Int × List Int)), mk1 (some C) t = some C' → C.length ≤ C'.length ∧ (flt C).length ≤ (flt C').length
  | [], C, C', h => by
    injection h with h
    rw [h]
    exact ⟨Nat.le_refl _, Nat.le_refl _⟩
  | x :: t, C, C', h => by
    unfold mk1 at h
    split at h
    · have := mk1_grow t _ _ h
      have e : C.length ≤ (adL C x).length ∧ (flt C).length ≤ (flt (adL C x)).length := by
        unfold adL
        split
        · exact ⟨Nat.le_refl _, Nat.le_refl _⟩
        · rw [flt_app, List.length_append, List.length_append]
          omega
      omega
    · rw [mk1_none] at h
      cases h
theorem cp_some : ∀ (t C C' : List (Int × List Int)), C.length ≤ 6 → (flt C).length ≤ 40 → cpC C t = some C' → mk1 (some C) t = some C' ∧ C'.length ≤ 6 ∧ (flt C').length ≤ 40
  | [], C, C', h1, h2, h => by
    injection h with h
    rw [← h]
    exact ⟨rfl, h1, h2⟩
  | x :: t, C, C', h1, h2, h => by
    unfold cpC at h
    split at h
    · rename_i hc
      have e : (adL C x).length ≤ 6 ∧ (flt (adL C x)).length ≤ 40 := by
        unfold adL
        by_cases hx : x ∈ C
        · rw [if_pos hx]
          exact ⟨h1, h2⟩
        · rw [if_neg hx, flt_app, List.length_append, List.length_append, flt_cons, flt_nil, List.append_nil]
          rcases hc.2 with z | z
          · exact absurd z hx
          · simp only [List.length_singleton]
            omega
      have := cp_some t (adL C x) C' e.1 e.2 h
      unfold mk1
      rw [if_pos hc.1]
      exact this
    · cases h
theorem cp_none : ∀ (t C : List (Int × List Int)), cpC C t = none → mk1 (some C) t = none ∨ ∃ C', mk1 (some C) t = some C' ∧ ¬ (C'.length ≤ 6 ∧ (flt C').length ≤ 40)
  | [], C, h => by cases h
  | x :: t, C, h => by
    unfold cpC at h
    unfold mk1
    by_cases h4 : x.2.length ≤ 40
    · rw [if_pos h4]
      by_cases hc : x ∈ C ∨ (C.length + 1 ≤ 6 ∧ (flt C).length + x.2.length ≤ 40)
      · rw [if_pos ⟨h4, hc⟩] at h
        exact cp_none t _ h
      · cases hm : mk1 (some (adL C x)) t with
        | none => exact Or.inl rfl
        | some C' =>
          refine Or.inr ⟨C', rfl, fun z => hc (Or.inr ?_)⟩
          have hg := mk1_grow t _ _ hm
          have e : adL C x = C ++ [x] := if_neg (fun q => hc (Or.inl q))
          rw [e, flt_app, List.length_append, List.length_append, flt_cons, flt_nil, List.append_nil] at hg
          simp only [List.length_singleton] at hg
          omega
    · rw [if_neg h4, mk1_none]
      exact Or.inl rfl
theorem cpC_cons (C t : List (Int × List Int)) (x : Int × List Int) : cpC C (x :: t) = if x.2.length ≤ 40 ∧ (x ∈ C ∨ (C.length + 1 ≤ 6 ∧ (flt C).length + x.2.length ≤ 40)) then cpC (adL C x) t else none := rfl
theorem cpC_app : ∀ (a C b : List (Int × List Int)), cpC C (a ++ b) = (cpC C a).bind (fun C' => cpC C' b)
  | [], C, b => rfl
  | x :: a, C, b => by
    rw [List.cons_append, cpC_cons, cpC_cons]
    split
    · exact cpC_app a _ b
    · rfl
section PV
variable {l : Int} {P Sy Ee Ro : List Int} {fd rk : Nat → Nat} {K : Nat}
theorem ex_root (hT : ∀ i, i < P.length → Ts 1 (tm P i)) (h1 : ∀ i, i < P.length → fd i < P.length) (h2 : ∀ i, i < P.length → fd (fd i) = fd i) : ∀ (k i : Nat), i < P.length → ∀ s ∈ ex P fd k i, s < 99 → ∃ n, n < P.length ∧ fd n = n ∧ pz P n = s := by
  intro k
  induction k with
  | zero => intro i _ s hs; cases hs
  | succ k ih =>
    intro i hi s hs h9
    have hf := h1 i hi
    unfold ex at hs
    split at hs
    · rw [List.mem_singleton] at hs
      exact ⟨fd i, hf, h2 i hi, hs.symm⟩
    · rcases List.mem_cons.mp hs with hs | hs
      · exact ⟨fd i, hf, h2 i hi, hs.symm⟩
      · obtain ⟨q, hq, hs⟩ := List.mem_flatten.mp hs
        obtain ⟨y, hy, rfl⟩ := List.mem_map.mp hq
        exact ih y ((args_ok hf (hT _ hf)).2 y hy).2.1 s hs h9
theorem fV_back {w : Nat → xC} (hB : GB w P Sy Ee Ro l fd rk K) {u : List Int} (hu : ∀ s ∈ u, s ∈ P) : ∀ v ∈ sub (sg P fd K) u, v < 99 → fV P fd v < 99 ∧ pz P (fV P fd v).toNat = v := by
  intro v hv h9
  have hvP := sg_inP hB hu v hv
  refine ⟨((fV_sg hB hvP).2 h9).1, ?_⟩
  obtain ⟨g1, g2, g3, g4, g5, g6, g7, hV, hM, g10, g11⟩ := hB
  have hn : ∃ n, n < P.length ∧ fd n = n ∧ pz P n = v := by
    unfold sub at hv
    obtain ⟨q, hq, hv⟩ := List.mem_flatMap.mp hv
    split at hv
    · unfold sg at hv
      rw [if_pos (hu q hq)] at hv
      exact ex_root hV.2.2.2.2.2 hM.1 hM.2.1 K _ (pz_idx (hu q hq)).1 v hv h9
    · rename_i z
      rw [List.mem_singleton] at hv
      exact absurd (hv ▸ h9) z
  obtain ⟨n, n1, n2, n3⟩ := hn
  have hi := pz_idx hvP
  have e : fd (P.idxOf v) = fd n := hM.2.2.1 _ n hi.1 n1 (by rw [hi.2]; exact h9) (by rw [hi.2, n3])
  unfold fV
  rw [if_pos h9, e, n2, Int.toNat_natCast, n3]
/-- what the class makes of the raw literals -/
theorem cp_md {w : Nat → xC} (hB : GB w P Sy Ee Ro l fd rk K) {L : List (Int × List Int)} (hL : ∀ y ∈ L, ∀ s ∈ y.2, s ∈ P) :
    (cpC [] (L.map (litV P fd K)) = none → mdC L (sg P fd K) = none) ∧
    ∀ C', cpC [] (L.map (litV P fd K)) = some C' → mdC L (sg P fd K) = if (fvs [] (flt C')).length ≤ 26 then some (rnD C') else none := by
  have em : L.map (litV P fd K) = (L.map (litS (sg P fd K))).map (litR (fV P fd)) := by
    rw [List.map_map]
    rfl
  rw [em]
  obtain ⟨M, hM⟩ : ∃ M, M = L.map (litS (sg P fd K)) := ⟨_, rfl⟩
  rw [← hM]
  have hbk : ∀ y ∈ M, ∀ v ∈ y.2, v < 99 → fV P fd v < 99 ∧ pz P (fV P fd v).toNat = v := fun y hy => by
    rw [hM] at hy
    obtain ⟨z, hz, rfl⟩ := List.mem_map.mp hy
    exact fV_back hB (hL z hz)
  have hinj : ∀ a b : Int × List Int, (a ∈ ([] : List (Int × List Int)) ∨ a ∈ M) → (b ∈ ([] : List (Int × List Int)) ∨ b ∈ M) → litR (fV P fd) a = litR (fV P fd) b → a = b := fun a b ha hb e => by
    rcases ha with ha | ha
    · cases ha
    · rcases hb with hb | hb
      · cases hb
      · have e1 : (litR (fV P fd) a).1 = (litR (fV P fd) b).1 := by rw [e]
        have e2 : (litR (fV P fd) a).2 = (litR (fV P fd) b).2 := by rw [e]
        have e2 : ren (fV P fd) a.2 = ren (fV P fd) b.2 := e2
        have r1 := ren_back (f := fV P fd) (g := fun n => pz P n.toNat) (hbk a ha)
        have r2 := ren_back (f := fV P fd) (g := fun n => pz P n.toNat) (hbk b hb)
        rw [e2, r2] at r1
        exact Prod.ext e1 r1.symm
  have hmap : uqs [] (M.map (litR (fV P fd))) = (uqs [] M).map (litR (fV P fd)) := uqs_map (q := []) hinj
  have hall : (∀ x ∈ M.map (litR (fV P fd)), x.2.length ≤ 40) ↔ ∀ x ∈ M, x.2.length ≤ 40 := by
    constructor
    · intro h x hx
      have := h _ (List.mem_map_of_mem (f := litR (fV P fd)) hx)
      rw [litR_len] at this
      exact this
    · intro h x hx
      obtain ⟨y, hy, rfl⟩ := List.mem_map.mp hx
      rw [litR_len]
      exact h y hy
  have hk1 : mk1 (some []) (M.map (litR (fV P fd))) = (mk1 (some []) M).map (fun C => C.map (litR (fV P fd))) := by
    rw [mk1_all, mk1_all, hmap]
    by_cases h : ∀ x ∈ M, x.2.length ≤ 40
    · rw [if_pos (hall.mpr h), if_pos h]
      rfl
    · rw [if_neg (fun z => h (hall.mp z)), if_neg h]
      rfl
  have hmd : mdC L (sg P fd K) = match mk1 (some []) M with
      | none => none
      | some C => if C.length ≤ 6 ∧ (flt C).length ≤ 40 ∧ (fvs [] (flt C)).length ≤ 26 then some (rnD C) else none := by
    rw [hM]
    rfl
  have hC : ∀ C, mk1 (some []) M = some C → ∀ v ∈ flt C, v < 99 → fV P fd v < 99 ∧ (fun n : Int => pz P n.toNat) (fV P fd v) = v := fun C hC v hv h9 => by
    rw [mk1_all] at hC
    split at hC
    · injection hC with hC
      obtain ⟨y, hy, hvy⟩ := flt_of hv
      rw [← hC] at hy
      rcases uqs_mem hy with z | z
      · cases z
      · exact hbk y z v hvy h9
    · cases hC
  have hfl : ∀ C : List (Int × List Int), (flt (C.map (litR (fV P fd)))).length = (flt C).length := fun C => by rw [flt_ren, ren_len]
  rw [hmd]
  refine ⟨fun h => ?_, fun C' h => ?_⟩
  · rcases cp_none _ _ h with h | ⟨C', h, hn⟩
    · rw [hk1] at h
      cases hm : mk1 (some []) M with
      | none => rfl
      | some C => rw [hm] at h; cases h
    · rw [hk1] at h
      cases hm : mk1 (some []) M with
      | none => rfl
      | some C =>
        rw [hm] at h
        injection h with h
        dsimp only at h
        rw [← h, List.length_map, hfl] at hn
        dsimp only
        rw [if_neg (fun z => hn ⟨z.1, z.2.1⟩)]
  · obtain ⟨h1, h2, h3⟩ := cp_some _ [] C' (by simp) (by simp [flt]) h
    rw [hk1] at h1
    cases hm : mk1 (some []) M with
    | none => rw [hm] at h1; cases h1
    | some C =>
      rw [hm] at h1
      injection h1 with h1
      dsimp only at h1
      have hr := rnD_ren (f := fV P fd) (g := fun n => pz P n.toNat) (C := C) (hC C hm)
      rw [h1] at hr
      rw [← h1, List.length_map] at h2
      rw [← h1, hfl] at h3
      dsimp only
      rw [hr.1, hr.2]
      by_cases h26 : (fvs [] (flt C)).length ≤ 26
      · rw [if_pos ⟨h2, h3, h26⟩, if_pos h26]
      · rw [if_neg (fun z => h26 z.2.2), if_neg h26]
end PV
