/-! bound variables by the places of their terms; the way that a walk through all of it takes, with a mark for each binding that is followed -/
def mk_ : Int := 1000000
def er (t : List Int) : List Int := t.filter (fun s => decide (s ≠ mk_))
theorem er_app (a b : List Int) : er (a ++ b) = er a ++ er b := by simp [er]
theorem er_mk (t : List Int) : er (mk_ :: t) = er t := by
  unfold er
  rw [List.filter_cons_of_neg (by simp)]
theorem er_ne {s : Int} {t : List Int} (h : s ≠ mk_) : er (s :: t) = s :: er t := by
  unfold er
  rw [List.filter_cons_of_pos (by simpa using h)]
theorem er_id {t : List Int} (h : ∀ s ∈ t, s < 1000000) : er t = t := by
  unfold er
  rw [List.filter_eq_self]
  intro s hs
  have h1 := h s hs
  have h2 : s ≠ mk_ := by
    unfold mk_
    omega
  simpa using h2
theorem er_mem {s : Int} {t : List Int} (h : s ≠ mk_) : s ∈ er t ↔ s ∈ t := by
  unfold er
  rw [List.mem_filter]
  simp [h]
theorem er_sub (ρ : Int → List Int) : ∀ t : List Int, er (sub ρ t) = sub (fun v => er (ρ v)) (er t)
  | [] => rfl
  | s :: t => by
    rw [sub_cons, er_app, er_sub ρ t]
    by_cases hm : s = mk_
    · subst hm
      have h9 : ¬ mk_ < 99 := by decide
      rw [if_neg h9, er_mk, er_mk]
      rfl
    · rw [er_ne hm, sub_cons]
      by_cases hs : s < 99
      · rw [if_pos hs, if_pos hs]
      · rw [if_neg hs, if_neg hs, er_ne hm]
        rfl
/-- ρ is the way through the bindings b -/
def RB (P : List Int) (b : Int → Int) (ρ : Int → List Int) : Prop := ∀ v, v < 99 → (b v < 0 → ρ v = [v]) ∧ (0 ≤ b v → ρ v = mk_ :: sub ρ (tm P (b v).toNat))
def bset (b : Int → Int) (s q : Int) (v : Int) : Int := if v = s then q else b v
theorem RB.init {P : List Int} {b : Int → Int} (h : ∀ v, v < 99 → b v < 0) : RB P b (fun v => [v]) := fun v hv => ⟨fun _ => rfl, fun g => absurd (h v hv) (by omega)⟩
theorem RB.bind {P : List Int} {b : Int → Int} {ρ : Int → List Int} {s : Int} {q : Nat} (h : RB P b ρ) (hs : s < 99) (hb : b s < 0) (ho : ¬ s ∈ sub ρ (tm P q)) : RB P (bset b s q) (fun v => sub (for1 s (mk_ :: sub ρ (tm P q))) (ρ v)) := by
  have hm : ∀ t, sub (for1 s (mk_ :: sub ρ (tm P q))) (mk_ :: t) = mk_ :: sub (for1 s (mk_ :: sub ρ (tm P q))) t := fun t => by
    have h9 : ¬ mk_ < 99 := by decide
    rw [sub_cons, if_neg h9]
    rfl
  intro v hv
  by_cases e : v = s
  · subst e
    have e1 : bset b v q v = q := if_pos rfl
    rw [e1]
    refine ⟨fun g => absurd g (by omega), fun _ => ?_⟩
    show sub (for1 v (mk_ :: sub ρ (tm P q))) (ρ v) = _
    rw [(h v hv).1 hb, sub_v hv, for1_s, ← sub_sub, Int.toNat_natCast, for1_not ho]
  · have e1 : bset b s q v = b v := if_neg e
    rw [e1]
    refine ⟨fun g => ?_, fun g => ?_⟩
    · show sub (for1 s (mk_ :: sub ρ (tm P q))) (ρ v) = _
      rw [(h v hv).1 g, sub_v hv, for1_n e]
    · show sub (for1 s (mk_ :: sub ρ (tm P q))) (ρ v) = _
      rw [(h v hv).2 g, hm, ← sub_sub]
/-- the substitution behind the way -/
def sgm (ρ : Int → List Int) (v : Int) : List Int := er (ρ v)
theorem sgm_sub {ρ : Int → List Int} {t : List Int} (h : ∀ s ∈ t, s < 1000000) : er (sub ρ t) = sub (sgm ρ) t := by
  rw [er_sub, er_id h]
  rfl
theorem sgm_bind {ρ : Int → List Int} {s : Int} {t : List Int} (h : ∀ s ∈ t, s < 1000000) (hs : s < 99) : sgm (fun v => sub (for1 s (mk_ :: sub ρ t)) (ρ v)) = fun v => sub (for1 s (sub (sgm ρ) t)) (sgm ρ v) := by
  funext v
  unfold sgm
  rw [er_sub]
  apply sub_congr
  intro u _ _
  unfold for1
  split
  · rw [er_mk]
    exact sgm_sub h
  · next hu =>
    rw [er_ne (by unfold mk_; omega)]
    rfl
/-- to the end of a chain of bindings -/
def ld (P : List Int) (b : Int → Int) : Nat → Nat → Nat
  | 0, p => p
  | k + 1, p => if pz P p < 99 ∧ 0 ≤ b (pz P p) then ld P b k (b (pz P p)).toNat else p
theorem ld_end {P : List Int} {b : Int → Int} {ρ : Int → List Int} (h : RB P b ρ) (hl : ∀ v, v < 99 → b v < P.length) : ∀ (k p : Nat), p < P.length → (sub ρ (tm P p)).length ≤ k → ld P b k p < P.length ∧ ¬ (pz P (ld P b k p) < 99 ∧ 0 ≤ b (pz P (ld P b k p))) ∧ er (sub ρ (tm P (ld P b k p))) = er (sub ρ (tm P p))
  | 0, p, hp, hk => by
    have : sub ρ (tm P p) = [] := List.eq_nil_of_length_eq_zero (by omega)
    refine ⟨hp, fun g => ?_, rfl⟩
    have g' : pz P p < 99 ∧ 0 ≤ b (pz P p) := g
    rw [val_v ρ hp g'.1, (h _ g'.1).2 g'.2] at this
    cases this
  | k + 1, p, hp, hk => by
    unfold ld
    by_cases g : pz P p < 99 ∧ 0 ≤ b (pz P p)
    · rw [if_pos g]
      have hb := hl _ g.1
      have e : sub ρ (tm P p) = mk_ :: sub ρ (tm P (b (pz P p)).toNat) := by rw [val_v ρ hp g.1, (h _ g.1).2 g.2]
      rw [e] at hk ⊢
      have ih := ld_end h hl k (b (pz P p)).toNat (by omega) (by simp only [List.length_cons] at hk; omega)
      rw [er_mk]
      exact ih
    · rw [if_neg g]
      exact ⟨hp, g, rfl⟩
theorem ld_more {P : List Int} {b : Int → Int} : ∀ {k p : Nat}, ¬ (pz P (ld P b k p) < 99 ∧ 0 ≤ b (pz P (ld P b k p))) → ∀ j, ld P b (k + j) p = ld P b k p
  | 0, p, h, j => by
    show ld P b (0 + j) p = p
    cases j with
    | zero => rfl
    | succ j => exact if_neg h
  | k + 1, p, h, j => by
    rw [show k + 1 + j = (k + j) + 1 by omega]
    unfold ld at h ⊢
    split
    · next g =>
      rw [if_pos g] at h
      exact ld_more h j
    · rfl
