/-! terms as rows of signs, each sign ahead of its terms; a sign below 99 is a variable, 99 is the sign of equality -/
def ar (s : Int) : Nat := if s < 99 then 0 else if s = 99 then 2 else ((s - 100) % 4).toNat
theorem ar_v {s : Int} (h : s < 99) : ar s = 0 := if_pos h
theorem ar_le (s : Int) : ar s ≤ 3 := by
  unfold ar
  split
  · omega
  · split <;> omega
/-- a row of n terms -/
def Ts : Nat → List Int → Prop
  | n, [] => n = 0
  | 0, _ :: _ => False
  | n + 1, s :: t => Ts (n + ar s) t
theorem Ts_nil {n : Nat} : Ts n [] = (n = 0) := by cases n <;> rfl
theorem Ts_0 {s : Int} {t : List Int} : ¬ Ts 0 (s :: t) := fun h => h
theorem Ts_s {n : Nat} {s : Int} {t : List Int} : Ts (n + 1) (s :: t) = Ts (n + ar s) t := rfl
theorem Ts_cons {n : Nat} {s : Int} {t : List Int} (h : Ts n (s :: t)) : ∃ m, n = m + 1 ∧ Ts (m + ar s) t := by
  cases n with
  | zero => exact absurd h Ts_0
  | succ m => exact ⟨m, rfl, h⟩
theorem Ts_app : ∀ {a b : List Int} {n m : Nat}, Ts n a → Ts m b → Ts (n + m) (a ++ b)
  | [], b, n, m, h, g => by
    rw [Ts_nil] at h
    subst h
    rw [Nat.zero_add]
    exact g
  | s :: t, b, n, m, h, g => by
    obtain ⟨k, rfl, hh⟩ := Ts_cons h
    have e := Ts_app hh g
    show Ts (k + 1 + m) (s :: (t ++ b))
    rw [show k + 1 + m = (k + m) + 1 by omega, Ts_s, show k + m + ar s = k + ar s + m by omega]
    exact e
theorem Ts_split : ∀ {t : List Int} {n m : Nat}, Ts (n + m) t → ∃ a b, t = a ++ b ∧ Ts n a ∧ Ts m b
  | [], n, m, h => by
    rw [Ts_nil] at h
    exact ⟨[], [], rfl, by rw [Ts_nil]; omega, by rw [Ts_nil]; omega⟩
  | s :: t, 0, m, h => ⟨[], s :: t, rfl, by rw [Ts_nil], by rw [Nat.zero_add] at h; exact h⟩
  | s :: t, n + 1, m, h => by
    rw [show n + 1 + m = (n + m) + 1 by omega, Ts_s, show n + m + ar s = n + ar s + m by omega] at h
    obtain ⟨a, b, rfl, h1, h2⟩ := Ts_split h
    exact ⟨s :: a, b, rfl, h1, h2⟩
theorem Ts_uniq : ∀ {a b : List Int} {n : Nat} {x y : List Int}, Ts n a → Ts n b → a ++ x = b ++ y → a = b ∧ x = y
  | [], [], _, _, _, _, _, e => ⟨rfl, e⟩
  | [], s :: t, n, _, _, h, g, _ => by
    rw [Ts_nil] at h
    subst h
    exact absurd g Ts_0
  | s :: t, [], n, _, _, h, g, _ => by
    rw [Ts_nil] at g
    subst g
    exact absurd h Ts_0
  | s :: t, s' :: t', n, x, y, h, g, e => by
    simp only [List.cons_append, List.cons.injEq] at e
    obtain ⟨rfl, e⟩ := e
    obtain ⟨m, rfl, hh⟩ := Ts_cons h
    obtain ⟨h1, h2⟩ := Ts_uniq hh (show Ts (m + ar s) t' from g) e
    exact ⟨by rw [h1], h2⟩
theorem Ts_ne {n : Nat} {a : List Int} (h : Ts (n + 1) a) : a ≠ [] := by
  rintro rfl
  rw [Ts_nil] at h
  omega
/-- terms put in for variables -/
def sub (σ : Int → List Int) (t : List Int) : List Int := t.flatMap (fun s => if s < 99 then σ s else [s])
theorem sub_nil (σ : Int → List Int) : sub σ [] = [] := rfl
theorem sub_cons (σ : Int → List Int) (s : Int) (t : List Int) : sub σ (s :: t) = (if s < 99 then σ s else [s]) ++ sub σ t := by simp [sub]
theorem sub_app (σ : Int → List Int) (a b : List Int) : sub σ (a ++ b) = sub σ a ++ sub σ b := by simp [sub]
theorem sub_v {σ : Int → List Int} {v : Int} (h : v < 99) : sub σ [v] = σ v := by simp [sub, h]
theorem sub_f {σ : Int → List Int} {v : Int} (h : ¬ v < 99) : sub σ [v] = [v] := by simp [sub, h]
theorem sub_congr {σ τ : Int → List Int} : ∀ {t : List Int}, (∀ v, v ∈ t → v < 99 → σ v = τ v) → sub σ t = sub τ t
  | [], _ => rfl
  | s :: t, h => by
    rw [sub_cons, sub_cons, sub_congr (t := t) (fun v hv => h v (List.mem_cons_of_mem _ hv))]
    by_cases hs : s < 99
    · rw [if_pos hs, if_pos hs, h s List.mem_cons_self hs]
    · rw [if_neg hs, if_neg hs]
theorem sub_sub (θ σ : Int → List Int) : ∀ t : List Int, sub θ (sub σ t) = sub (fun v => sub θ (σ v)) t
  | [] => rfl
  | s :: t => by
    rw [sub_cons, sub_app, sub_sub θ σ t, sub_cons]
    by_cases hs : s < 99
    · rw [if_pos hs, if_pos hs]
    · rw [if_neg hs, if_neg hs, sub_f hs]
theorem sub_id : ∀ t : List Int, sub (fun v => [v]) t = t
  | [] => rfl
  | s :: t => by
    rw [sub_cons, sub_id t]
    by_cases hs : s < 99 <;> simp [hs]
def Tσ (σ : Int → List Int) : Prop := ∀ v, v < 99 → Ts 1 (σ v)
theorem Tσ_ne {σ : Int → List Int} (h : Tσ σ) (v : Int) (hv : v < 99) : σ v ≠ [] := Ts_ne (n := 0) (h v hv)
theorem Ts_sub {σ : Int → List Int} (hσ : Tσ σ) : ∀ {t : List Int} {n : Nat}, Ts n t → Ts n (sub σ t)
  | [], n, h => h
  | s :: t, n, h => by
    obtain ⟨m, rfl, hh⟩ := Ts_cons h
    have ih := Ts_sub hσ hh
    rw [sub_cons]
    by_cases hs : s < 99
    · rw [if_pos hs, Nat.add_comm]
      rw [ar_v hs, Nat.add_zero] at ih
      exact Ts_app (hσ s hs) ih
    · rw [if_neg hs]
      exact ih
theorem sub_len {σ : Int → List Int} (h : ∀ v, v < 99 → σ v ≠ []) : ∀ t : List Int, t.length ≤ (sub σ t).length
  | [] => Nat.le_refl _
  | s :: t => by
    rw [sub_cons, List.length_append, List.length_cons]
    have ih := sub_len h t
    have : 1 ≤ (if s < 99 then σ s else [s]).length := by
      split
      · next hs => exact List.length_pos_iff.mpr (h s hs)
      · exact Nat.le_refl _
    omega
theorem sub_one {σ : Int → List Int} (h : ∀ v, v < 99 → σ v ≠ []) : ∀ {t : List Int}, (sub σ t).length = t.length → ∀ v, v ∈ t → v < 99 → (σ v).length = 1
  | [], _, v, hv, _ => by cases hv
  | s :: t, e, v, hv, hv9 => by
    rw [sub_cons, List.length_append, List.length_cons] at e
    have hl := sub_len h t
    have h1 : 1 ≤ (if s < 99 then σ s else [s]).length := by
      split
      · next hs => exact List.length_pos_iff.mpr (h s hs)
      · exact Nat.le_refl _
    rcases List.mem_cons.mp hv with rfl | hv
    · rw [if_pos hv9] at e h1
      omega
    · exact sub_one h (by omega) v hv hv9
/-- other names for variables -/
def ren (f : Int → Int) (t : List Int) : List Int := t.map (fun s => if s < 99 then f s else s)
def hdf (σ : Int → List Int) (v : Int) : Int := (σ v).headD 0
theorem sub_ren {σ : Int → List Int} (h : ∀ v, v < 99 → σ v ≠ []) {t : List Int} (e : (sub σ t).length = t.length) : sub σ t = ren (hdf σ) t := by
  have h1 := sub_one h e
  clear e
  induction t with
  | nil => rfl
  | cons s t ih =>
    have ih := ih (fun v hv => h1 v (List.mem_cons_of_mem _ hv))
    rw [sub_cons, ih]
    show _ = (if s < 99 then hdf σ s else s) :: ren _ t
    unfold hdf
    by_cases hs : s < 99
    · have := h1 s List.mem_cons_self hs
      rw [if_pos hs, if_pos hs]
      match hσ : σ s, this with
      | [x], _ => rfl
    · rw [if_neg hs, if_neg hs]
      rfl
/-- two rows that come from each other by substitution differ in the names of variables alone -/
theorem twin_ {σ τ : Int → List Int} (hσ : Tσ σ) (hτ : Tσ τ) {A B : List Int} (h1 : sub τ A = B) (h2 : sub σ B = A) : B = ren (hdf τ) A ∧ A = ren (hdf σ) B ∧ (∀ v ∈ A, v < 99 → hdf τ v < 99 ∧ hdf σ (hdf τ v) = v) := by
  have l1 := sub_len (Tσ_ne hτ) A
  have l2 := sub_len (Tσ_ne hσ) B
  rw [h1] at l1
  rw [h2] at l2
  have e1 : B = ren (hdf τ) A := by rw [← h1]; exact sub_ren (Tσ_ne hτ) (by rw [h1]; omega)
  have e2 : A = ren (hdf σ) B := by rw [← h2]; exact sub_ren (Tσ_ne hσ) (by rw [h2]; omega)
  refine ⟨e1, e2, ?_⟩
  generalize hdf τ = f at e1 ⊢
  generalize hdf σ = g at e2 ⊢
  intro v hv hv9
  obtain ⟨i, hi, rfl⟩ := List.getElem_of_mem hv
  have hB : i < B.length := by rw [e1]; simpa [ren] using hi
  have e3 : B[i] = f A[i] := by
    have := congrArg (fun q => q[i]?) e1
    simp only [ren, List.getElem?_map, List.getElem?_eq_getElem hi, List.getElem?_eq_getElem hB, Option.map_some, Option.some.injEq] at this
    rw [this, if_pos hv9]
  have e4 : A[i] = if B[i] < 99 then g B[i] else B[i] := by
    have := congrArg (fun q => q[i]?) e2
    simp only [ren, List.getElem?_map, List.getElem?_eq_getElem hi, List.getElem?_eq_getElem hB, Option.map_some, Option.some.injEq] at this
    exact this
  by_cases hb : B[i] < 99
  · rw [if_pos hb] at e4
    rw [← e3]
    exact ⟨hb, e4.symm⟩
  · rw [if_neg hb] at e4
    omega
/-- a most general unifier -/
def Mg (σ : Int → List Int) (a b : List Int) : Prop := Tσ σ ∧ sub σ a = sub σ b ∧ ∀ θ, Tσ θ → sub θ a = sub θ b → ∀ v, v < 99 → sub θ (σ v) = θ v
theorem Mg.back {σ θ : Int → List Int} {a b : List Int} (h : Mg σ a b) (hθ : Tσ θ) (e : sub θ a = sub θ b) (t : List Int) : sub θ (sub σ t) = sub θ t := by
  rw [sub_sub]
  exact sub_congr (fun v _ hv => h.2.2 θ hθ e v hv)
theorem Mg.twin {σ τ : Int → List Int} {a b : List Int} (h : Mg σ a b) (g : Mg τ a b) (t : List Int) : sub τ t = ren (hdf τ) (sub σ t) ∧ sub σ t = ren (hdf σ) (sub τ t) ∧ ∀ v ∈ sub σ t, v < 99 → hdf τ v < 99 ∧ hdf σ (hdf τ v) = v :=
  twin_ h.1 g.1 (h.back g.1 g.2.1 t) (g.back h.1 h.2.1 t)
/-- the variables in the order in which they come first, behind those of q -/
def fvs : List Int → List Int → List Int
  | q, [] => q
  | q, s :: t => if s < 99 ∧ ¬ s ∈ q then fvs (q ++ [s]) t else fvs q t
/-- variables called by their places in that order -/
def rnm (t : List Int) : List Int := t.map (fun s => if s < 99 then ((fvs [] t).idxOf s : Int) else s)
theorem fvs_q : ∀ {t q : List Int} {v : Int}, v ∈ q → v ∈ fvs q t
  | [], _, _, h => h
  | s :: t, q, v, h => by
    unfold fvs
    split
    · exact fvs_q (List.mem_append_left _ h)
    · exact fvs_q h
theorem fvs_mem : ∀ {t q : List Int} {v : Int}, v ∈ t → v < 99 → v ∈ fvs q t
  | [], _, _, h, _ => by cases h
  | s :: t, q, v, h, hv => by
    unfold fvs
    rcases List.mem_cons.mp h with rfl | h
    · split
      · exact fvs_q (List.mem_append_right _ List.mem_cons_self)
      · next hn =>
        have : v ∈ q := by
          refine Classical.byContradiction (fun hq => hn ⟨hv, hq⟩)
        exact fvs_q this
    · split
      · exact fvs_mem h hv
      · exact fvs_mem h hv
theorem fvs_of : ∀ {t q : List Int} {v : Int}, v ∈ fvs q t → v ∈ q ∨ (v ∈ t ∧ v < 99)
  | [], _, _, h => Or.inl h
  | s :: t, q, v, h => by
    unfold fvs at h
    split at h
    · next hc =>
      rcases fvs_of h with h | h
      · rcases List.mem_append.mp h with h | h
        · exact Or.inl h
        · rw [List.mem_singleton] at h
          subst h
          exact Or.inr ⟨List.mem_cons_self, hc.1⟩
      · exact Or.inr ⟨List.mem_cons_of_mem _ h.1, h.2⟩
    · rcases fvs_of h with h | h
      · exact Or.inl h
      · exact Or.inr ⟨List.mem_cons_of_mem _ h.1, h.2⟩
theorem fvs_ren {f : Int → Int} : ∀ {t q : List Int}, (∀ v, v ∈ t → v < 99 → f v < 99) → (∀ v u, v ∈ t → v < 99 → (u ∈ q ∨ (u ∈ t ∧ u < 99)) → f v = f u → v = u) → fvs (q.map f) (ren f t) = (fvs q t).map f
  | [], _, _, _ => rfl
  | s :: t, q, h1, h2 => by
    have g1 : ∀ v, v ∈ t → v < 99 → f v < 99 := fun v hv => h1 v (List.mem_cons_of_mem _ hv)
    show fvs (q.map f) ((if s < 99 then f s else s) :: ren f t) = _
    unfold fvs
    by_cases hs : s < 99
    · rw [if_pos hs]
      have hf := h1 s List.mem_cons_self hs
      by_cases hq : s ∈ q
      · have : f s ∈ q.map f := List.mem_map_of_mem hq
        rw [if_neg (fun x => x.2 this), if_neg (fun x => x.2 hq)]
        refine fvs_ren g1 (fun v u hv h9 hu e => h2 v u (List.mem_cons_of_mem _ hv) h9 ?_ e)
        rcases hu with hu | hu
        · exact Or.inl hu
        · exact Or.inr ⟨List.mem_cons_of_mem _ hu.1, hu.2⟩
      · have : ¬ f s ∈ q.map f := by
          intro hm
          obtain ⟨u, hu, e⟩ := List.mem_map.mp hm
          have := h2 s u List.mem_cons_self hs (Or.inl hu) e.symm
          exact hq (this ▸ hu)
        rw [if_pos ⟨hf, this⟩, if_pos ⟨hs, hq⟩]
        have e : q.map f ++ [f s] = (q ++ [s]).map f := by simp
        rw [e]
        refine fvs_ren g1 (fun v u hv h9 hu e => h2 v u (List.mem_cons_of_mem _ hv) h9 ?_ e)
        rcases hu with hu | hu
        · rcases List.mem_append.mp hu with hu | hu
          · exact Or.inl hu
          · rw [List.mem_singleton] at hu
            subst hu
            exact Or.inr ⟨List.mem_cons_self, hs⟩
        · exact Or.inr ⟨List.mem_cons_of_mem _ hu.1, hu.2⟩
    · rw [if_neg hs, if_neg (fun x => hs x.1), if_neg (fun x => hs x.1)]
      refine fvs_ren g1 (fun v u hv h9 hu e => h2 v u (List.mem_cons_of_mem _ hv) h9 ?_ e)
      rcases hu with hu | hu
      · exact Or.inl hu
      · exact Or.inr ⟨List.mem_cons_of_mem _ hu.1, hu.2⟩
theorem idx_map {f : Int → Int} : ∀ {q : List Int} {s : Int}, (∀ u ∈ q, f s = f u → s = u) → (q.map f).idxOf (f s) = q.idxOf s
  | [], _, _ => rfl
  | u :: q, s, h => by
    rw [List.map_cons, List.idxOf_cons, List.idxOf_cons]
    by_cases e : u = s
    · subst e
      simp
    · have : ¬ f u = f s := fun x => e (h u List.mem_cons_self x.symm).symm
      have ih := idx_map (q := q) (s := s) (fun v hv => h v (List.mem_cons_of_mem _ hv))
      rw [show (f u == f s) = false by simpa using this, show (u == s) = false by simpa using e, ih]
/-- the names given do not hang on the names before -/
theorem rnm_ren {f g : Int → Int} {A : List Int} (h : ∀ v ∈ A, v < 99 → f v < 99 ∧ g (f v) = v) : rnm (ren f A) = rnm A ∧ (fvs [] (ren f A)).length = (fvs [] A).length := by
  have hi : ∀ v u, v ∈ A → v < 99 → (u ∈ ([] : List Int) ∨ (u ∈ A ∧ u < 99)) → f v = f u → v = u := by
    intro v u hv h9 hu e
    rcases hu with hu | hu
    · cases hu
    · rw [← (h v hv h9).2, e, (h u hu.1 hu.2).2]
  have e := fvs_ren (t := A) (q := []) (f := f) (fun v hv h9 => (h v hv h9).1) hi
  rw [List.map_nil] at e
  refine ⟨?_, by rw [e, List.length_map]⟩
  unfold rnm
  rw [e]
  show (A.map _).map _ = _
  rw [List.map_map]
  apply List.map_congr_left
  intro s hs
  show (if (if s < 99 then f s else s) < 99 then _ else _) = _
  by_cases h9 : s < 99
  · have e5 : (if s < 99 then f s else s) = f s := if_pos h9
    simp only [e5]
    rw [if_pos (h s hs h9).1, if_pos h9, idx_map]
    intro u hu e2
    rcases fvs_of hu with hu | hu
    · cases hu
    · exact hi s u hs h9 (Or.inr hu) e2
  · have e5 : (if s < 99 then f s else s) = s := if_neg h9
    simp only [e5]
    rw [if_neg h9, if_neg h9]
