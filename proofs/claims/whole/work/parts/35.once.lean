/-! literals once, each where it comes first -/
def uqs : List (Int × List Int) → List (Int × List Int) → List (Int × List Int)
  | q, [] => q
  | q, x :: t => if x ∈ q then uqs q t else uqs (q ++ [x]) t
theorem uqs_pre : ∀ (t q : List (Int × List Int)), ∃ r, uqs q t = q ++ r
  | [], q => ⟨[], by simp [uqs]⟩
  | x :: t, q => by
    unfold uqs
    split
    · exact uqs_pre t q
    · obtain ⟨r, e⟩ := uqs_pre t (q ++ [x])
      exact ⟨x :: r, by rw [e]; simp⟩
theorem uqs_mem : ∀ {t q : List (Int × List Int)} {x : Int × List Int}, x ∈ uqs q t → x ∈ q ∨ x ∈ t
  | [], _, _, h => Or.inl h
  | y :: t, q, x, h => by
    unfold uqs at h
    split at h
    · rcases uqs_mem h with h | h
      · exact Or.inl h
      · exact Or.inr (List.mem_cons_of_mem _ h)
    · rcases uqs_mem h with h | h
      · rcases List.mem_append.mp h with h | h
        · exact Or.inl h
        · rw [List.mem_singleton] at h
          exact Or.inr (h ▸ List.mem_cons_self)
      · exact Or.inr (List.mem_cons_of_mem _ h)
theorem uqs_map {f : Int × List Int → Int × List Int} : ∀ {t q : List (Int × List Int)}, (∀ a b, (a ∈ q ∨ a ∈ t) → (b ∈ q ∨ b ∈ t) → f a = f b → a = b) → uqs (q.map f) (t.map f) = (uqs q t).map f
  | [], _, _ => rfl
  | x :: t, q, h => by
    rw [List.map_cons]
    unfold uqs
    by_cases hx : x ∈ q
    · rw [if_pos hx, if_pos (List.mem_map_of_mem hx)]
      refine uqs_map (fun a b ha hb => h a b ?_ ?_)
      · rcases ha with ha | ha
        · exact Or.inl ha
        · exact Or.inr (List.mem_cons_of_mem _ ha)
      · rcases hb with hb | hb
        · exact Or.inl hb
        · exact Or.inr (List.mem_cons_of_mem _ hb)
    · have hn : ¬ f x ∈ q.map f := fun g => by
        obtain ⟨y, hy, e⟩ := List.mem_map.mp g
        have := h y x (Or.inl hy) (Or.inr List.mem_cons_self) e
        exact hx (this ▸ hy)
      rw [if_neg hx, if_neg hn]
      have e : q.map f ++ [f x] = (q ++ [x]).map f := by simp
      rw [e]
      refine uqs_map (fun a b ha hb => h a b ?_ ?_)
      · rcases ha with ha | ha
        · rcases List.mem_append.mp ha with ha | ha
          · exact Or.inl ha
          · rw [List.mem_singleton] at ha
            exact Or.inr (ha ▸ List.mem_cons_self)
        · exact Or.inr (List.mem_cons_of_mem _ ha)
      · rcases hb with hb | hb
        · rcases List.mem_append.mp hb with hb | hb
          · exact Or.inl hb
          · rw [List.mem_singleton] at hb
            exact Or.inr (hb ▸ List.mem_cons_self)
        · exact Or.inr (List.mem_cons_of_mem _ hb)
/-- the signs of a clause, one literal behind another -/
def flt (l : List (Int × List Int)) : List Int := (l.map Prod.snd).flatten
theorem flt_app (a b : List (Int × List Int)) : flt (a ++ b) = flt a ++ flt b := by simp [flt]
theorem flt_mem {l : List (Int × List Int)} {x : Int × List Int} (h : x ∈ l) {s : Int} (hs : s ∈ x.2) : s ∈ flt l := by
  unfold flt
  rw [List.mem_flatten]
  exact ⟨x.2, List.mem_map_of_mem h, hs⟩
theorem flt_of {l : List (Int × List Int)} {s : Int} (h : s ∈ flt l) : ∃ x ∈ l, s ∈ x.2 := by
  unfold flt at h
  rw [List.mem_flatten] at h
  obtain ⟨t, ht, hs⟩ := h
  obtain ⟨x, hx, rfl⟩ := List.mem_map.mp ht
  exact ⟨x, hx, hs⟩
def litS (σ : Int → List Int) (x : Int × List Int) : Int × List Int := (x.1, sub σ x.2)
def litR (f : Int → Int) (x : Int × List Int) : Int × List Int := (x.1, ren f x.2)
theorem flt_ren (f : Int → Int) (l : List (Int × List Int)) : flt (l.map (litR f)) = ren f (flt l) := by
  unfold flt ren litR
  rw [List.map_map, List.map_flatten, List.map_map]
  rfl
theorem ren_back {f g : Int → Int} {t : List Int} (h : ∀ v ∈ t, v < 99 → f v < 99 ∧ g (f v) = v) : ren g (ren f t) = t := by
  unfold ren
  rw [List.map_map]
  have : t.map ((fun s => if s < 99 then g s else s) ∘ (fun s => if s < 99 then f s else s)) = t.map id := by
    apply List.map_congr_left
    intro s hs
    show (if (if s < 99 then f s else s) < 99 then g (if s < 99 then f s else s) else (if s < 99 then f s else s)) = s
    by_cases h9 : s < 99
    · have e5 : (if s < 99 then f s else s) = f s := if_pos h9
      simp only [e5]
      rw [if_pos (h s hs h9).1, (h s hs h9).2]
    · have e5 : (if s < 99 then f s else s) = s := if_neg h9
      simp only [e5]
      rw [if_neg h9]
  rw [this, List.map_id]
/-- two most general unifiers make clauses that differ in the names of variables alone -/
theorem Mg.clause {σ τ : Int → List Int} {a b : List Int} (h : Mg σ a b) (g : Mg τ a b) (l : List (Int × List Int)) :
    uqs [] (l.map (litS τ)) = (uqs [] (l.map (litS σ))).map (litR (hdf τ)) ∧ ∀ v ∈ flt (uqs [] (l.map (litS σ))), v < 99 → hdf τ v < 99 ∧ hdf σ (hdf τ v) = v := by
  have tw : ∀ t, sub τ t = ren (hdf τ) (sub σ t) ∧ sub σ t = ren (hdf σ) (sub τ t) ∧ ∀ v ∈ sub σ t, v < 99 → hdf τ v < 99 ∧ hdf σ (hdf τ v) = v := fun t => h.twin g t
  have e1 : l.map (litS τ) = (l.map (litS σ)).map (litR (hdf τ)) := by
    rw [List.map_map]
    apply List.map_congr_left
    intro x _
    show (x.1, sub τ x.2) = (x.1, ren (hdf τ) (sub σ x.2))
    rw [(tw x.2).1]
  refine ⟨?_, ?_⟩
  · rw [e1]
    have := uqs_map (f := litR (hdf τ)) (t := l.map (litS σ)) (q := []) (fun x y hx hy e => by
      rcases hx with hx | hx
      · cases hx
      rcases hy with hy | hy
      · cases hy
      obtain ⟨x0, _, rfl⟩ := List.mem_map.mp hx
      obtain ⟨y0, _, rfl⟩ := List.mem_map.mp hy
      have e0 : (x0.1, ren (hdf τ) (sub σ x0.2)) = (y0.1, ren (hdf τ) (sub σ y0.2)) := e
      have e3 : x0.1 = y0.1 := (Prod.mk.inj e0).1
      have e4 : ren (hdf τ) (sub σ x0.2) = ren (hdf τ) (sub σ y0.2) := (Prod.mk.inj e0).2
      show (x0.1, sub σ x0.2) = (y0.1, sub σ y0.2)
      rw [e3, ← ren_back (tw x0.2).2.2, ← ren_back (tw y0.2).2.2, e4])
    rw [List.map_nil] at this
    exact this
  · intro v hv
    obtain ⟨x, hx, hs⟩ := flt_of hv
    rcases uqs_mem hx with hx | hx
    · cases hx
    · obtain ⟨x0, _, rfl⟩ := List.mem_map.mp hx
      exact (tw x0.2).2.2 v hs
