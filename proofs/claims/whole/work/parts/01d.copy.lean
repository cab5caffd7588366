/-! System.arraycopy between arrays of ints -/
section
variable {K : xK} {scr : Option (Nat × Nat × (Nat → Int32))} {l : Launch} {y : MethodName} {cc : ByteArray} {mL : Nat} {ret : Option FieldType} {Ts : List Cond} {pc : Nat}
def x_cpy (xs ys : List Int32) (sp dp k : Nat) : List Int32 := ys.mapIdx (fun j v => if dp ≤ j ∧ j < dp + k then xs.getD (sp + (j - dp)) 0 else v)
theorem x_cpy_len {xs ys : List Int32} {sp dp k : Nat} : (x_cpy xs ys sp dp k).length = ys.length := by simp [x_cpy]
def x_acp (n t : Nat) : xO := fun _ z => match z.2.1 with
  | .int k :: .int dp :: .ref (b + 3) :: .int sp :: .ref (a + 3) :: r => match z.2.2[a]?, z.2.2[b]? with
    | some (.inl (ta, .inl xs)), some (.inl (tb, .inl ys)) =>
      if ta = t ∧ tb = t ∧ ¬ sp < 0 ∧ ¬ dp < 0 ∧ ¬ k < 0 ∧ sp.toNatClampNeg + k.toNatClampNeg ≤ xs.length ∧ dp.toNatClampNeg + k.toNatClampNeg ≤ ys.length ∧ (r.map (fun v => v.category)).sum ≤ 8 then
        some (.inl (n, z.1, r, z.2.2.set b (.inl (t, .inl (x_cpy xs ys sp.toNatClampNeg dp.toNatClampNeg k.toNatClampNeg)))))
      else none
    | _, _ => none
  | _ => none
theorem x_acp_inv {n t : Nat} {calls : xF} {lv : xL} {st : List Value} {h : xH} {z : xZ} (ho : x_acp n t calls (lv, st, h) = some z) : ∃ k dp b sp a r xs ys, st = .int k :: .int dp :: .ref (b + 3) :: .int sp :: .ref (a + 3) :: r ∧ h[a]? = some (.inl (t, .inl xs)) ∧ h[b]? = some (.inl (t, .inl ys)) ∧ (¬ sp < 0 ∧ ¬ dp < 0 ∧ ¬ k < 0 ∧ sp.toNatClampNeg + k.toNatClampNeg ≤ xs.length ∧ dp.toNatClampNeg + k.toNatClampNeg ≤ ys.length ∧ (r.map (fun v => v.category)).sum ≤ 8) ∧ z = .inl (n, lv, r, h.set b (.inl (t, .inl (x_cpy xs ys sp.toNatClampNeg dp.toNatClampNeg k.toNatClampNeg)))) := by
  unfold x_acp at ho
  split at ho
  · next k dp b sp a r hst =>
    split at ho
    · next ta xs tb ys ha hb =>
      split at ho
      · next e =>
        obtain ⟨e0, e9, e⟩ := e
        subst e0
        subst e9
        exact ⟨k, dp, b, sp, a, r, xs, ys, hst, ha, hb, e, (Option.some.inj ho).symm⟩
      · cases ho
    · cases ho
  · cases ho
theorem x_arr_atC {G : va_G} {kA : Nat → ClassId} {ad : Nat → Nat} {t b sp dp k : Nat} {xs ys : List Int32} {H' : Heap} (hd : dp + k ≤ ys.length) (e1 : H'[ad (b + 3)]? = some (vp_cell (kA t) (ys.length, .inl (va_cpy (fun j => xs.getD j 0) (fun j => ys.getD j 0) sp dp k)))) : va_at G K.1 (ad (b + 3), x_e kA ad (.inl (t, .inl (x_cpy xs ys sp dp k)))) H' := by
  show H'[ad (b + 3)]? = some (vp_cell (kA t) ((x_cpy xs ys sp dp k).length, .inl (fun j => (x_cpy xs ys sp dp k).getD j 0)))
  rw [e1, x_cpy_len]
  congr 4
  funext q
  unfold va_cpy x_cpy
  simp only [List.getD_eq_getElem?_getD, List.getElem?_mapIdx]
  by_cases hq : q < ys.length
  · simp [hq]
  · rw [if_neg (by omega)]
    simp [hq]
theorem s_acopy {idx t : Nat} (hd : decode cc pc = .ok (.invokestatic idx, 3)) (ht : K.2.1[t]? = some .int) (w1 : Cond.methodLink y.cls idx arraycopyName ∈ Ts) (w2 : Cond.native arraycopyName ∈ Ts) (w3 : Cond.static arraycopyName ∈ Ts) (w4 : Cond.initialized "java/lang/System" ∈ Ts) : x_Sim K scr l y cc mL ret Ts pc (x_acp (pc + 3) t) := by
  intro G kA ad p e R s m args below meth c B d calls hok hf hlo h0 z r hle ho
  obtain ⟨lv, st, h⟩ := z
  obtain ⟨k, dp, b, sp, a, rest, xs, ys, rfl, ha, hb, ⟨h1, h2, h3, h4, h5, hsum⟩, rfl⟩ := x_acp_inv ho
  have hsz : x_c1 (.inl (t, .inl (x_cpy xs ys sp.toNatClampNeg dp.toNatClampNeg k.toNatClampNeg))) = x_c1 (.inl (t, .inl ys)) := by simp [x_c1, x_cpy_len]
  refine ⟨x_le_set hb hsz, fun _ _ Q kk ls H locs g1 g2 g3 => ?_⟩
  have hts := B.2.2.2.2.1
  have hK := B.2.2.2.2.2.2.2.2.1
  have hml : c.maxLocals = ls.size := by rw [B.2.2.1]; exact g1.1.symm
  have h8 : ((rest.map (x_v ad)).map fun v => v.category).sum ≤ 8 := x_sum8 ad rest hsum
  have nn : ∀ z : Int32, ¬ z < 0 → z.toInt = (z.toNatClampNeg : Int) := by
    intro z hz
    have hz0 : (0 : Int) ≤ z.toInt := by
      have := Int32.not_lt.mp hz
      simpa using Int32.le_iff_toInt_le.mp this
    show z.toInt = ((z.toInt.toNat : Nat) : Int)
    omega
  intro T hT X
  have hc0 : H[ad (a + 3)]? = some (vp_cell (kA t) (xs.length, .inl (fun j => xs.getD j 0))) := g2.1 a _ (x_w_at ha)
  have hc1 : H[ad (b + 3)]? = some (vp_cell (kA t) (ys.length, .inl (fun j => ys.getD j 0))) := g2.1 b _ (x_w_at hb)
  obtain ⟨-, k0, hk0, cm0, hkk0⟩ := (hK.2 t _ (x_ty_at ht)).1 xs.length (fun j => .int (xs.getD j 0))
  obtain ⟨-, k1, hk1, cm1, hkk1⟩ := (hK.2 t _ (x_ty_at ht)).1 ys.length (fun j => .int (ys.getD j 0))
  have hroom : ((rest.map (x_v ad)).map fun v => v.category).sum + (nativeFrameWords "java/lang/System" "arraycopy" 5 + 11) ≤ R.locals := by
    have : nativeFrameWords "java/lang/System" "arraycopy" 5 = 7 := by decide
    omega
  obtain ⟨vm', X', step⟩ := X.arraycopy B.1 B.2.2.2.2.2.1 (hts _ w1) (hts _ w2) (hts _ w3) (hts _ w4) (src := ad (a + 3)) (dst := ad (b + 3)) (cs := vp_cell (kA t) (xs.length, .inl (fun j => xs.getD j 0))) (cd := vp_cell (kA t) (ys.length, .inl (fun j => ys.getD j 0))) (srcPos := sp) (destPos := dp) (n := k) (by rw [hT]; exact hc0) (by rw [hT]; exact hc1)
    (fun _ h => by cases h) (fun _ h => by cases h) (fun h => by cases h) (fun h => by cases h) hk0 hk1 hkk0 hkk1 (by simp [refKind]) h1 h2 h3
    (by rw [nn sp h1, nn k h3]; show ¬ _ > ((arrV (kA t) xs.length (fun j => .int (xs.getD j 0))).slots.size : Int); rw [arrV_size]; omega)
    (by rw [nn dp h2, nn k h3]; show ¬ _ > ((arrV (kA t) ys.length (fun j => .int (ys.getD j 0))).slots.size : Int); rw [arrV_size]; omega)
    (fun vm₁ _ i hi => by
      have e : (vp_cell (kA t) (xs.length, .inl (fun j => xs.getD j 0))).slots.getD (sp.toNatClampNeg + i) .null = .int (xs.getD (sp.toNatClampNeg + i) 0) := by
        show (arrV (kA t) xs.length (fun j => .int (xs.getD j 0))).slots.getD _ _ = _
        rw [Array.getD_eq_getD_getElem?, arrV_read _ _ (by omega)]
        rfl
      refine ⟨?_, ?_⟩
      · rw [e]
        rfl
      · rw [e]
        exact trivial)
    (g := F0 m pc ls (.int k :: .int dp :: .ref (ad (b + 3)) :: .int sp :: .ref (ad (a + 3)) :: rest.map (x_v ad))) rfl (by rw [hml]) (rest := rest.map (x_v ad)) rfl (by rw [B.2.1]; exact hd) (by omega) (by show 2 * 0 + _ + _ ≤ _; omega)
  have e1 : copied (vp_cell (kA t) (xs.length, .inl (fun j => xs.getD j 0))) (vp_cell (kA t) (ys.length, .inl (fun j => ys.getD j 0))) sp dp k = vp_cell (kA t) (ys.length, .inl (va_cpy (fun j => xs.getD j 0) (fun j => ys.getD j 0) sp.toNatClampNeg dp.toNatClampNeg k.toNatClampNeg)) := va_copied (fun z => .int z) (kA t) (kA t) (n1 := ys.length) (dp := dp.toNatClampNeg) (fun j => xs.getD j 0) (fun j => ys.getD j 0) h4
  rw [e1] at X' step
  generalize hcl : vp_cell (kA t) (ys.length, .inl (va_cpy (fun j => xs.getD j 0) (fun j => ys.getD j 0) sp.toNatClampNeg dp.toNatClampNeg k.toNatClampNeg)) = cell at X' step e1
  have hl : ad (b + 3) < H.size := (Array.getElem?_eq_some_iff.mp hc1).1
  have hheap : ((T.setVm vm').setCell (ad (b + 3)) cell).heap = H.setIfInBounds (ad (b + 3)) cell := by rw [← hT]; rfl
  have oq : ∀ q : Nat, q ≠ ad (b + 3) → (H.setIfInBounds (ad (b + 3)) cell)[q]? = H[q]? := fun q hq => by simp [Array.getElem?_setIfInBounds, Ne.symm hq]
  have eH : (H.setIfInBounds (ad (b + 3)) cell)[ad (b + 3)]? = some cell := by simp [Array.getElem?_setIfInBounds, hl]
  have z0 : (H.setIfInBounds (ad (b + 3)) cell).size = H.size := by simp
  have w := fun (L : List Loc) (hL : ∀ q ∈ L, q.base = ad (b + 3)) => kk ls (H.setIfInBounds (ad (b + 3)) cell) (locs ++ L) g1 (g2.set hb (x_arr_atC h5 (by rw [hcl]; exact eH)) z0 oq) ⟨by rw [z0]; exact g3.1, fun q f1 f2 => by
      rw [oq q (fun e => f2 ⟨b, e⟩)]
      exact g3.2.1 q f1 f2, fun q hq => (List.mem_append.mp hq).elim (g3.2.2 q) (fun h => ⟨b, hL q h⟩)⟩
  dsimp only at w
  rw [List.length_set, x_sl_set hb hsz] at w
  obtain ⟨t1, a1, b1⟩ := w _ (fun q hq => by
    obtain ⟨z, -, hz⟩ := List.mem_map.mp hq
    rw [← hz]) _ hheap X'
  exact ⟨t1, step t1 a1, b1⟩
end
