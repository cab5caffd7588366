/-! arrays of longs and of references, Math.max and Math.min -/
section
variable {K : xK} {scr : Option (Nat × Nat × (Nat → Int32))} {l : Launch} {y : MethodName} {cc : ByteArray} {mL : Nat} {ret : Option FieldType} {Ts : List Cond} {pc : Nat}
def x_aldl (n t : Nat) : xO := fun _ z => match z.2.1 with
  | .int i :: .ref (b + 3) :: r => match z.2.2[b]? with
    | some (.inl (tj, .inr (.inl xs))) => if tj = t then (x_ix i xs.length).map (fun j => .inl (n, z.1, .long (xs.getD j 0) :: r, z.2.2)) else none
    | _ => none
  | _ => none
theorem x_aldl_inv {n t : Nat} {calls : xF} {lv : xL} {st : List Value} {h : xH} {z : xZ} (ho : x_aldl n t calls (lv, st, h) = some z) : ∃ i b r xs, st = .int i :: .ref (b + 3) :: r ∧ h[b]? = some (.inl (t, .inr (.inl xs))) ∧ vp_in i xs.length ∧ z = .inl (n, lv, .long (xs.getD i.toNatClampNeg 0) :: r, h) := by
  unfold x_aldl at ho
  split at ho
  · next i b r hst =>
    split at ho
    · next tj xs hb =>
      split at ho
      · next e =>
        subst e
        cases hv : x_ix i xs.length with
        | none => rw [hv] at ho; cases ho
        | some j =>
          rw [hv] at ho
          obtain ⟨e1, e2, -⟩ := x_ix_inv hv
          subst e2
          exact ⟨i, b, r, xs, hst, hb, e1, (Option.some.inj ho).symm⟩
      · cases ho
    · cases ho
  · cases ho
theorem s_lald {t : Nat} (hd : decode cc pc = .ok (.laload, 1)) (ht : K.2.1[t]? = some .long) : x_Sim K scr l y cc mL ret Ts pc (x_aldl (pc + 1) t) := by
  intro G kA ad p e R s m args below meth c B d calls hok hf hl h0 z r hle ho
  obtain ⟨lv, st, h⟩ := z
  obtain ⟨i, b, q, xs, rfl, hb, hi, rfl⟩ := x_aldl_inv ho
  refine ⟨x_le.rf, fun _ _ Q kk ls H locs h1 h2 h3 => ?_⟩
  exact va_lald B.1 B.2.1 B.2.2.2.2.2.2.2.2.1 h2.1 b t (x_w_at hb) (x_ty_at ht) hi hd (kk ls H locs h1 h2 h3)
def x_astl (n t : Nat) : xO := fun _ z => match z.2.1 with
  | .long x :: .int i :: .ref (b + 3) :: r => match z.2.2[b]? with
    | some (.inl (tj, .inr (.inl xs))) => if tj = t then (x_ix i xs.length).map (fun j => .inl (n, z.1, r, z.2.2.set b (.inl (t, .inr (.inl (xs.set j x)))))) else none
    | _ => none
  | _ => none
theorem x_astl_inv {n t : Nat} {calls : xF} {lv : xL} {st : List Value} {h : xH} {z : xZ} (ho : x_astl n t calls (lv, st, h) = some z) : ∃ x i b r xs, st = .long x :: .int i :: .ref (b + 3) :: r ∧ h[b]? = some (.inl (t, .inr (.inl xs))) ∧ vp_in i xs.length ∧ z = .inl (n, lv, r, h.set b (.inl (t, .inr (.inl (xs.set i.toNatClampNeg x))))) := by
  unfold x_astl at ho
  split at ho
  · next x i b r hst =>
    split at ho
    · next tj xs hb =>
      split at ho
      · next e =>
        subst e
        cases hv : x_ix i xs.length with
        | none => rw [hv] at ho; cases ho
        | some j =>
          rw [hv] at ho
          obtain ⟨e1, e2, -⟩ := x_ix_inv hv
          subst e2
          exact ⟨x, i, b, r, xs, hst, hb, e1, (Option.some.inj ho).symm⟩
      · cases ho
    · cases ho
  · cases ho
theorem x_set_atG {α : Type} {xs : List α} {i j : Nat} {x w : α} (hi : i < xs.length) : (xs.set i x).getD j w = if j = i then x else xs.getD j w := by
  by_cases h : j = i
  · subst h
    simp [List.getD_eq_getElem?_getD, hi]
  · simp [List.getD_eq_getElem?_getD, List.getElem?_set, h, Ne.symm h]
theorem x_arr_atL {G : va_G} {kA : Nat → ClassId} {ad : Nat → Nat} {t b i : Nat} {xs : List Int64} {x : Int64} {H' : Heap} (hi : i < xs.length) (e1 : H'[ad (b + 3)]? = some ((vp_cell (kA t) (xs.length, .inr (.inl (fun j => xs.getD j 0)))).setSlot i (.long x))) : va_at G K.1 (ad (b + 3), x_e kA ad (.inl (t, .inr (.inl (xs.set i x))))) H' := by
  show H'[ad (b + 3)]? = some (vp_cell (kA t) ((xs.set i x).length, .inr (.inl (fun j => (xs.set i x).getD j 0))))
  rw [e1, vp_cell_l, vp_cell_l, arrV_store, List.length_set]
  congr 2
  funext q
  rw [x_set_atG hi]
  unfold updV
  split <;> rfl
theorem s_last {t : Nat} (hd : decode cc pc = .ok (.lastore, 1)) (ht : K.2.1[t]? = some .long) : x_Sim K scr l y cc mL ret Ts pc (x_astl (pc + 1) t) := by
  intro G kA ad p e R s m args below meth c B d calls hok hf hl h0 z r hle ho
  obtain ⟨lv, st, h⟩ := z
  obtain ⟨x, i, b, q, xs, rfl, hb, hi, rfl⟩ := x_astl_inv ho
  have hlt : i.toNatClampNeg < xs.length := Nat.not_le.mp fun q => hi (Or.inr q)
  have hsz : x_c1 (.inl (t, .inr (.inl (xs.set i.toNatClampNeg x)))) = x_c1 (.inl (t, .inr (.inl xs))) := by simp [x_c1]
  refine ⟨x_le_set hb hsz, fun _ _ Q kk ls H locs h1 h2 h3 => ?_⟩
  refine W.last B.1 B.2.1 (h2.1 b _ (x_w_at hb)) ((B.2.2.2.2.2.2.2.2.1.2 t _ (x_ty_at ht)).1 xs.length (fun j => .long (xs.getD j 0))) (fun q => by cases q) (by show ¬ (i < 0 ∨ (arrV _ _ _).slots.size ≤ _); rw [arrV_size]; exact hi) rfl rfl hd fun H' e1 e2 e3 => ?_
  have w := kk ls H' _ h1 (h2.set hb (x_arr_atL hlt e1) e2 e3) (h3.put (k := i.toNatClampNeg) e2 e3 ⟨b, rfl⟩)
  dsimp only at w
  rw [List.length_set, x_sl_set hb hsz] at w
  exact w
def x_aldr (n t : Nat) : xO := fun _ z => match z.2.1 with
  | .int i :: .ref (b + 3) :: r => match z.2.2[b]? with
    | some (.inl (tj, .inr (.inr xs))) => if tj = t then (x_ix i xs.length).map (fun j => .inl (n, z.1, va_rf (xs.getD j none) :: r, z.2.2)) else none
    | _ => none
  | _ => none
theorem x_aldr_inv {n t : Nat} {calls : xF} {lv : xL} {st : List Value} {h : xH} {z : xZ} (ho : x_aldr n t calls (lv, st, h) = some z) : ∃ i b r xs, st = .int i :: .ref (b + 3) :: r ∧ h[b]? = some (.inl (t, .inr (.inr xs))) ∧ vp_in i xs.length ∧ z = .inl (n, lv, va_rf (xs.getD i.toNatClampNeg none) :: r, h) := by
  unfold x_aldr at ho
  split at ho
  · next i b r hst =>
    split at ho
    · next tj xs hb =>
      split at ho
      · next e =>
        subst e
        cases hv : x_ix i xs.length with
        | none => rw [hv] at ho; cases ho
        | some j =>
          rw [hv] at ho
          obtain ⟨e1, e2, -⟩ := x_ix_inv hv
          subst e2
          exact ⟨i, b, r, xs, hst, hb, e1, (Option.some.inj ho).symm⟩
      · cases ho
    · cases ho
  · cases ho
theorem x_v_rf (ad : Nat → Nat) (o : Option Nat) : x_v ad (va_rf o) = va_rf (o.map ad) := by cases o <;> rfl
theorem s_aald {t : Nat} {C : String} (hd : decode cc pc = .ok (.aaload, 1)) (ht : K.2.1[t]? = some (.object C)) : x_Sim K scr l y cc mL ret Ts pc (x_aldr (pc + 1) t) := by
  intro G kA ad p e R s m args below meth c B d calls hok hf hl h0 z r hle ho
  obtain ⟨lv, st, h⟩ := z
  obtain ⟨i, b, q, xs, rfl, hb, hi, rfl⟩ := x_aldr_inv ho
  refine ⟨x_le.rf, fun _ _ Q kk ls H locs h1 h2 h3 => ?_⟩
  have w := kk ls H locs h1 h2 h3
  dsimp only at w
  rw [List.map_cons, x_v_rf] at w
  exact va_aldq B.1 B.2.1 B.2.2.2.2.2.2.2.2.1 h2.1 b t (x_w_at hb) (x_ty_at ht) hi hd w
def x_astr (n t ci : Nat) : xO := fun _ z => match z.2.1 with
  | .ref (k + 3) :: .int i :: .ref (b + 3) :: r => match z.2.2[b]?, z.2.2[k]? with
    | some (.inl (tj, .inr (.inr xs))), some (.inr (cj, _)) => if tj = t ∧ cj = ci then (x_ix i xs.length).map (fun j => .inl (n, z.1, r, z.2.2.set b (.inl (t, .inr (.inr (xs.set j (some (k + 3)))))))) else none
    | _, _ => none
  | _ => none
theorem x_astr_inv {n t ci : Nat} {calls : xF} {lv : xL} {st : List Value} {h : xH} {z : xZ} (ho : x_astr n t ci calls (lv, st, h) = some z) : ∃ k i b r xs fs, st = .ref (k + 3) :: .int i :: .ref (b + 3) :: r ∧ h[b]? = some (.inl (t, .inr (.inr xs))) ∧ h[k]? = some (.inr (ci, fs)) ∧ vp_in i xs.length ∧ z = .inl (n, lv, r, h.set b (.inl (t, .inr (.inr (xs.set i.toNatClampNeg (some (k + 3))))))) := by
  unfold x_astr at ho
  split at ho
  · next k i b r hst =>
    split at ho
    · next tj xs cj fs hb hk =>
      split at ho
      · next e =>
        obtain ⟨e0, e9⟩ := e
        subst e0
        subst e9
        cases hv : x_ix i xs.length with
        | none => rw [hv] at ho; cases ho
        | some j =>
          rw [hv] at ho
          obtain ⟨e1, e2, -⟩ := x_ix_inv hv
          subst e2
          exact ⟨k, i, b, r, xs, fs, hst, hb, hk, e1, (Option.some.inj ho).symm⟩
      · cases ho
    · cases ho
  · cases ho
theorem x_arr_atR {G : va_G} {kA : Nat → ClassId} {ad : Nat → Nat} {t b i k : Nat} {xs : List (Option Nat)} {H' : Heap} (hi : i < xs.length) (e1 : H'[ad (b + 3)]? = some ((vp_cell (kA t) (xs.length, .inr (.inr (.inr (.inr (fun j => (xs.getD j none).map ad)))))).setSlot i (.ref (ad k)))) : va_at G K.1 (ad (b + 3), x_e kA ad (.inl (t, .inr (.inr (xs.set i (some k)))))) H' := by
  show H'[ad (b + 3)]? = some (vp_cell (kA t) ((xs.set i (some k)).length, .inr (.inr (.inr (.inr (fun j => ((xs.set i (some k)).getD j none).map ad))))))
  rw [e1, vp_cell_q, vp_cell_q, arrV_store, List.length_set]
  congr 2
  funext q
  rw [x_set_atG hi]
  unfold updV
  split <;> rfl
theorem s_aast {t ci : Nat} {C : String} {T0 : u_T} {n0 : Nat} (hd : decode cc pc = .ok (.aastore, 1)) (ht : K.2.1[t]? = some (.object C)) (hc : K.1[ci]? = some (C, T0, n0)) : x_Sim K scr l y cc mL ret Ts pc (x_astr (pc + 1) t ci) := by
  intro G kA ad p e R s m args below meth c B d calls hok hf hl h0 z r hle ho
  obtain ⟨lv, st, h⟩ := z
  obtain ⟨k, i, b, q, xs, fs, rfl, hb, hk, hi, rfl⟩ := x_astr_inv ho
  have hlt : i.toNatClampNeg < xs.length := Nat.not_le.mp fun q => hi (Or.inr q)
  have hi0 : ¬ i < 0 := fun q => hi (Or.inl q)
  have hsz : x_c1 (.inl (t, .inr (.inr (xs.set i.toNatClampNeg (some (k + 3)))))) = x_c1 (.inl (t, .inr (.inr xs))) := by simp [x_c1]
  refine ⟨x_le_set hb hsz, fun _ _ Q kk ls H locs h1 h2 h3 => ?_⟩
  have hK := B.2.2.2.2.2.2.2.2.1
  obtain ⟨r', hr', cellV, g1, g2, g3, -⟩ := h2.1 k _ (x_w_at hk)
  have hcls := (hK.1 ci _ hc).2
  obtain ⟨kA', comp, k1, k2, k3, -⟩ := (hK.2 t _ (x_ty_at ht)).2
  have hcomp : comp = G.1 ci := Option.some.inj (k3.symm.trans hcls.1)
  subst hcomp
  obtain ⟨kC, hkC, -⟩ := hcls.2
  refine W.aast B.1 B.2.1 (h2.1 b _ (x_w_at hb)) (fun q h => by cases h) (fun h => by cases h) k1 k2 rfl hkC ⟨hi0, by show _ < (arrV _ _ _).slots.size; rw [arrV_size]; exact hlt⟩ g1 (fun q h => by rw [g3] at h; cases h) (by rw [g2]; exact hkC) (by rw [g2]; exact va_assign hcls) rfl rfl hd fun H' e1 e2 e3 => ?_
  have w := kk ls H' _ h1 (h2.set hb (x_arr_atR hlt e1) e2 e3) (h3.put (k := i.toNatClampNeg) e2 e3 ⟨b, rfl⟩)
  dsimp only at w
  rw [List.length_set, x_sl_set hb hsz] at w
  exact w
def x_mm (n : Nat) (g : Int32 → Int32 → Int32) (st : List Value) : Option (Nat × List Value) := match st with
  | .int b :: .int a :: r => if (r.map (fun v => v.category)).sum ≤ 8 then some (n, .int (g a b) :: r) else none
  | _ => none
theorem x_mm_inv {n k : Nat} {g : Int32 → Int32 → Int32} {st st' : List Value} (h : x_mm n g st = some (k, st')) : ∃ a b r, st = .int b :: .int a :: r ∧ (r.map (fun v => v.category)).sum ≤ 8 ∧ k = n ∧ st' = .int (g a b) :: r := by
  unfold x_mm at h
  split at h
  · next b a r =>
    split at h
    · next hs =>
      cases h
      exact ⟨a, b, r, rfl, hs, rfl, rfl⟩
    · cases h
  · cases h
theorem s_mmax {idx : Nat} (hd : decode cc pc = .ok (.invokestatic idx, 3)) (h1 : Cond.methodLink y.cls idx Lib.Math.max.name ∈ Ts) (h2 : Cond.static Lib.Math.max.name ∈ Ts) (h3 : Cond.initialized "java/lang/Math" ∈ Ts) (h4 : Cond.code Lib.Math.max.name Lib.Math.max.code 2 (some .int) ∈ Ts) : x_Sim K scr l y cc mL ret Ts pc (x_st (x_mm (pc + 3) (fun a b => if a < b then b else a))) := by
  intro G kA ad p e R s m args below meth c B d calls hok hf hl h0 z r hle ho
  obtain ⟨lv, st, h⟩ := z
  unfold x_st at ho
  cases hs : x_mm (pc + 3) (fun a b => if a < b then b else a) st with
  | none => simp only [hs] at ho; cases ho
  | some q =>
    obtain ⟨q1, q2⟩ := q
    simp only [hs] at ho
    cases ho
    obtain ⟨a, b, rest, rfl, hsum, rfl, rfl⟩ := x_mm_inv hs
    refine ⟨x_le.rf, fun hc1 hc2 Q k ls H locs g1 g2 g3 => ?_⟩
    have hts := B.2.2.2.2.1
    have h8 : ((rest.map (x_v ad)).map fun v => v.category).sum ≤ 8 := x_sum8 ad rest hsum
    exact va_mmax B.1 B.2.1 (by rw [B.2.2.1]; exact g1.1.symm) B.2.2.2.2.2.1 (hts _ h1) (hts _ h2) (hts _ h3) (hts _ h4) (by omega) (by omega) hc1 hc2 hd (k ls H locs g1 g2 g3)
theorem s_mmin {idx : Nat} (hd : decode cc pc = .ok (.invokestatic idx, 3)) (h1 : Cond.methodLink y.cls idx Lib.Math.min.name ∈ Ts) (h2 : Cond.static Lib.Math.min.name ∈ Ts) (h3 : Cond.initialized "java/lang/Math" ∈ Ts) (h4 : Cond.code Lib.Math.min.name Lib.Math.min.code 2 (some .int) ∈ Ts) : x_Sim K scr l y cc mL ret Ts pc (x_st (x_mm (pc + 3) (fun a b => if b < a then b else a))) := by
  intro G kA ad p e R s m args below meth c B d calls hok hf hl h0 z r hle ho
  obtain ⟨lv, st, h⟩ := z
  unfold x_st at ho
  cases hs : x_mm (pc + 3) (fun a b => if b < a then b else a) st with
  | none => simp only [hs] at ho; cases ho
  | some q =>
    obtain ⟨q1, q2⟩ := q
    simp only [hs] at ho
    cases ho
    obtain ⟨a, b, rest, rfl, hsum, rfl, rfl⟩ := x_mm_inv hs
    refine ⟨x_le.rf, fun hc1 hc2 Q k ls H locs g1 g2 g3 => ?_⟩
    have hts := B.2.2.2.2.1
    have h8 : ((rest.map (x_v ad)).map fun v => v.category).sum ≤ 8 := x_sum8 ad rest hsum
    exact va_mmin B.1 B.2.1 (by rw [B.2.2.1]; exact g1.1.symm) B.2.2.2.2.2.1 (hts _ h1) (hts _ h2) (hts _ h3) (hts _ h4) (by omega) (by omega) hc1 hc2 hd (k ls H locs g1 g2 g3)
end
