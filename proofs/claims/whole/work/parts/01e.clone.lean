/-! a clone of an array of ints, bytes, .., a checkcast of an array, System.arraycopy of bytes -/
section
variable {K : xK} {scr : Option (Nat × Nat × (Nat → Int32))} {l : Launch} {y : MethodName} {cc : ByteArray} {mL : Nat} {ret : Option FieldType} {Ts : List Cond} {pc : Nat}
def x_cln (n t : Nat) (ok : Int32 → Bool) : xO := fun _ z => match z.2.1 with
  | .ref (b + 3) :: r => match z.2.2[b]? with
    | some (.inl (tj, .inl xs)) => if tj = t ∧ xs.all ok = true ∧ (r.map (fun v => v.category)).sum ≤ 8 then some (.inl (n, z.1, .ref (z.2.2.length + 3) :: r, z.2.2 ++ [.inl (t, .inl xs)])) else none
    | _ => none
  | _ => none
theorem x_cln_inv {n t : Nat} {ok : Int32 → Bool} {calls : xF} {lv : xL} {st : List Value} {h : xH} {z : xZ} (ho : x_cln n t ok calls (lv, st, h) = some z) : ∃ b r xs, st = .ref (b + 3) :: r ∧ h[b]? = some (.inl (t, .inl xs)) ∧ xs.all ok = true ∧ (r.map (fun v => v.category)).sum ≤ 8 ∧ z = .inl (n, lv, .ref (h.length + 3) :: r, h ++ [.inl (t, .inl xs)]) := by
  unfold x_cln at ho
  split at ho
  · next b r hst =>
    split at ho
    · next tj xs hb =>
      split at ho
      · next e =>
        obtain ⟨e0, e1, e2⟩ := e
        subst e0
        exact ⟨b, r, xs, hst, hb, e1, e2, (Option.some.inj ho).symm⟩
      · cases ho
    · cases ho
  · cases ho
theorem s_clone {idx t : Nat} {nm : String} {ty : FieldType} {ok : Int32 → Bool} (hd : decode cc pc = .ok (.invokevirtual idx, 3)) (ht : K.2.1[t]? = some ty) (hok0 : ∀ v, ok v = true → fits ty (.int v) = true)
    (w1 : Cond.methodLink y.cls idx ⟨nm, "clone", "()Ljava/lang/Object;"⟩ ∈ Ts) (w2 : Cond.sameMethod nm "java/lang/Object" "clone" "()Ljava/lang/Object;" ∈ Ts) (w3 : Cond.native ⟨"java/lang/Object", "clone", "()Ljava/lang/Object;"⟩ ∈ Ts) (w4 : Cond.instanceMethod ⟨"java/lang/Object", "clone", "()Ljava/lang/Object;"⟩ ∈ Ts)
    (w5 : Cond.selects nm ⟨nm, "clone", "()Ljava/lang/Object;"⟩ ⟨"java/lang/Object", "clone", "()Ljava/lang/Object;"⟩ ∈ Ts) (w6 : Cond.castable nm "java/lang/Cloneable" ∈ K.2.2.2.2.1) (hra : ∀ U cA, va_RA U cA ty → U.vm.findClass nm = some cA) : x_Sim K scr l y cc mL ret Ts pc (x_cln (pc + 3) t ok) := by
  intro G kA ad p e R s m args below meth c B d calls hok hf hlo h0 z r hle ho
  obtain ⟨lv, st, h⟩ := z
  obtain ⟨b, rest, xs, rfl, hb, hall, hsum, rfl⟩ := x_cln_inv ho
  refine ⟨x_le_push, fun hc1 hc2 Q kk ls H locs g1 g2 g3 => ?_⟩
  have hts := B.2.2.2.2.1
  have hK := B.2.2.2.2.2.2.2.2.1
  have hml : c.maxLocals = ls.size := by rw [B.2.2.1]; exact g1.1.symm
  have h8 : ((rest.map (x_v ad)).map fun v => v.category).sum ≤ 8 := x_sum8 ad rest hsum
  dsimp only at hc1 hc2 hle
  have q1 := hle.1
  have q2 := hle.2
  rw [List.length_append] at hc1
  rw [x_sl_push] at hc2
  simp only [List.length_cons, List.length_nil, x_c1] at hc1 hc2
  have hnm : s.vm.findClass nm = some (kA t) := hra _ _ (hK.2 t _ (x_ty_at ht)).2
  generalize hx : vp_cell (kA t) (xs.length, .inl (fun j => xs.getD j 0)) = cell
  have hcA : H[ad (b + 3)]? = some cell := by rw [← hx]; exact g2.1 b _ (x_w_at hb)
  have hsz : cell.slots.size = xs.length := by rw [← hx]; exact arrV_size _ _ _
  have hvm0 : cell.vm = .none := by rw [← hx]; rfl
  have hcl0 : cell.cls = kA t := by rw [← hx]; rfl
  have hcellE : ({ cls := cell.cls, slots := cell.slots } : Cell) = cell := by rw [← hx]; rfl
  have hfit : ∀ (i : Nat) (v : Value), cell.slots[i]? = some v → fits ty v = true := fun i v hv => by
    have hi : i < xs.length := by
      have := (Array.getElem?_eq_some_iff.mp hv).1
      rwa [hsz] at this
    have e9 : cell.slots[i]? = some (.int (xs.getD i 0)) := by
      rw [← hx]
      exact arrV_read _ _ hi
    cases Option.some.inj (hv.symm.trans e9)
    refine hok0 _ (List.all_eq_true.mp hall _ ?_)
    rw [List.getD_eq_getElem?_getD, List.getElem?_eq_getElem hi]
    exact List.getElem_mem hi
  obtain ⟨c0, t0', f1, f2, f3⟩ := Cond.castable_spec (va_Nw.use (A := args) rfl (B.2.2.2.2.2.2.2.2.2.1 _ w6).2)
  cases hnm.symm.trans f1
  intro T hT X
  have hcellT : T.heap[ad (b + 3)]? = some cell := by rw [hT]; exact hcA
  obtain ⟨-, kA', hkA, comp, hkind⟩ := State.isArrayOf_alike X.warmed.alike ((hK.2 t _ (x_ty_at ht)).1 0 (fun _ => .null))
  obtain ⟨-, kS, hkS, compS, hkindS⟩ := (hK.2 t _ (x_ty_at ht)).1 0 (fun _ => .null)
  obtain ⟨vm', X', st⟩ := X.cloneArray B.1 B.2.2.2.2.2.1 (hts _ w1) (hts _ w2) (hts _ w3) (hts _ w4) (hts _ w5) (a := ad (b + 3)) (cell := cell) hcellT (fun k h => by rw [hvm0] at h; cases h) (by rw [hvm0]; exact fun h => by cases h) (by rw [hcl0]; exact hnm) f2 (by rw [hcl0]; exact f3)
    (fun i v hv => by
      rw [hcl0]
      have hk' : T.vm.classes[kA t]? = some kA' := hkA
      simpa [State.fitsSlot, State.slotType?, hk', hkind] using hfit i v hv)
    (g := F0 m pc ls (.ref (ad (b + 3)) :: rest.map (x_v ad))) rfl (by rw [hml]) rfl (by rw [B.2.1]; exact hd) (by omega) (by show 2 * 0 + _ + 14 ≤ _; omega) (by show h.length - h0.length + 1 ≤ _; omega) (by show x_sl h - x_sl h0 + _ ≤ _; rw [hsz]; omega) (hloader := by rw [hcl0]; exact Vm.clonesLoader_of_array hkS hkindS)
  rw [hcellE, hsz] at X'
  generalize hH1 : H.push cell = H1
  have z1 : H1.size = H.size + 1 := by rw [← hH1, Array.size_push]
  have e1 : H1[H.size]? = some cell := by rw [← hH1, Array.getElem?_push_size]
  have o1 : ∀ q : Nat, q < H.size → H1[q]? = H[q]? := fun q hq => by rw [← hH1, Array.getElem?_push, if_neg (Nat.ne_of_lt hq)]
  have hat : va_at G K.1 (H.size, x_e kA ad (.inl (t, .inl xs))) H1 := by
    show H1[H.size]? = some (vp_cell (kA t) (xs.length, .inl (fun j => xs.getD j 0)))
    rw [hx]
    exact e1
  have w := kk ls H1 locs g1 (g2.push hat z1 o1) (x_S_push g3 z1 o1)
  dsimp only at w
  rw [x_sl_push, List.length_append] at w
  simp only [List.length_cons, List.length_nil, x_c1, List.map_cons, x_v] at w
  have e0 : ad (h.length + 3) = H.size := g2.2.2 0
  rw [e0] at w
  have w' : W p l e R s m args below meth c H1 locs (h.length - h0.length + 1) (x_sl h - x_sl h0 + xs.length) Q (F0 m (pc + 3) ls (.ref H.size :: rest.map (x_v ad))) := W.cs (by omega) (by omega) w
  obtain ⟨t1, b1, b2⟩ := w' ((T.setVm vm').pushCell cell) (by rw [← hH1, ← hT]; rfl) X'
  refine ⟨t1, st t1 ?_, b2⟩
  rw [hcellE, hT]
  exact b1
def x_cst (n t : Nat) : xO := fun _ z => match z.2.1 with
  | .ref (b + 3) :: r => match z.2.2[b]? with
    | some (.inl (tj, _)) => if tj = t then some (.inl (n, z.1, .ref (b + 3) :: r, z.2.2)) else none
    | _ => none
  | _ => none
theorem s_castA {idx t : Nat} {nm : String} {ty : FieldType} (hd : decode cc pc = .ok (.checkcast idx, 3)) (ht : K.2.1[t]? = some ty) (w1 : Cond.classLink y.cls idx nm ∈ Ts) (hra : ∀ U cA, va_RA U cA ty → U.vm.findClass nm = some cA) : x_Sim K scr l y cc mL ret Ts pc (x_cst (pc + 3) t) := by
  intro G kA ad p e R s m args below meth c B d calls hok hf hlo h0 z r hle ho
  obtain ⟨lv, st, h⟩ := z
  unfold x_cst at ho
  split at ho
  · next b rest hst =>
    split at ho
    · next tj a hb =>
      split at ho
      · next e9 =>
        subst e9
        dsimp only at hst
        subst hst
        cases ho
        refine ⟨x_le.rf, fun _ _ Q kk ls H locs g1 g2 g3 => ?_⟩
        exact va_castA B.1 B.2.1 B.2.2.2.2.2.1 (B.2.2.2.2.1 _ w1) g2.1 b (x_w_at hb) (hra _ _ (B.2.2.2.2.2.2.2.2.1.2 _ _ (x_ty_at ht)).2) hd (kk ls H locs g1 g2 g3)
      · cases ho
    · cases ho
  · cases ho
theorem x_raI (U : State) (cA : ClassId) (h : va_RA U cA .int) : U.vm.findClass "[I" = some cA := by
  have e : "[" ++ FieldType.toString .int = "[I" := by decide
  rw [← e]
  exact h
theorem x_raB (U : State) (cA : ClassId) (h : va_RA U cA .byte) : U.vm.findClass "[B" = some cA := by
  have e : "[" ++ FieldType.toString .byte = "[B" := by decide
  rw [← e]
  exact h
end
