/-! calls of a superclass's method: invokespecial; invokevirtual of an inherited one, of one that is overridden -/
section
variable {K : xK} {scr : Option (Nat × Nat × (Nat → Int32))} {l : Launch} {y : MethodName} {cc : ByteArray} {mL : Nat} {ret : Option FieldType} {Ts : List Cond} {pc : Nat}
theorem s_super {idx M k ci ml N : Nat} {C : String} {T : u_T} {ym : MethodName} {bs : ByteArray} {rt : Option FieldType} {wm ws' : List Cond} (hd : decode cc pc = .ok (.invokespecial idx, 3)) (hy : K.2.2.1 M = ym) (hwm : K.2.2.2.1 M = wm) (hcl : K.1[ci]? = some (C, T, N)) (hGd : GoodIn Ts (va_wsSU y.cls idx ym wm)) (hw : wm = .code ym bs ml rt :: ws') (hdd : ym.name ≠ "<init>" ∧ (parseMethodDescriptor ym.desc).map (fun d => d.parameters.length) = some k) (hml : ml ≤ 41) : x_Sim K scr l y cc mL ret Ts pc (x_cv (pc + 3) M (k + 1) ci) := by
  intro G kA ad p e R s m args below meth c B d calls hok hf hl h0 z r hle ho
  obtain ⟨lv, st, h⟩ := z
  unfold x_cv at ho
  split at ho
  case isFalse => cases ho
  next hrc =>
  obtain ⟨as, rest, v, h', hst, has, hk, hsum, hc, hT, rfl⟩ := x_cl_inv ho
  obtain ⟨b, As, fs, rfl, hb⟩ := x_rc_inv has hrc
  have hm := hok M (.ref (b + 3) :: As) h v h' hc
  refine ⟨hm.1, fun hc1 hc2 Q kk ls H locs h1 h2 h3 => ?_⟩
  have hts := B.2.2.2.2.1
  have hK := B.2.2.2.2.2.2.2.2.1
  have g1 := hle.1
  have g2 := hle.2
  have g3 := hm.1.1
  have g4 := hm.1.2
  dsimp only at hc1 hc2 g1 g2
  have hpre : PreV s H C (ad (b + 3)) (x_Pc K G kA ad (.ref (b + 3) :: As) h) (As.map (x_v ad)) := ⟨x_blind, va_recv hK h2.1 hcl (x_w_at hb), fun U hU hW => ⟨rfl, by rw [hU]; exact h2, va_K.moved hW.alike hK, B.2.2.2.2.2.2.2.2.2.1.warm hW, B.2.2.2.2.2.2.2.2.2.2.1.step hW hU h3⟩⟩
  have hroom : (x_rm d h h').frames + 1 ≤ R.frames ∧ 8 + (ml + 11) + (x_rm d h h').locals ≤ R.locals := ⟨hf, by show 8 + (ml + 11) + (60 * d + 200) ≤ R.locals; omega⟩
  rw [hy, hwm] at hm
  have hrun := va_runSU (hat := (hK.1 ci _ hcl).2) (As := As.map (x_v ad)) (b := ad (b + 3)) (rest := rest.map (x_v ad)) (g := F0 m pc ls (st.map (x_v ad))) (H := H) (locs := locs) (cells := h.length - h0.length) (slots := x_sl h - x_sl h0) (below := below) (e := e) (meth := meth) (S := ⟨B.1, B.2.1, B.2.2.1, B.2.2.2.2.2.1, hts⟩) (hM := x_ret hT (hm.2 ad)) (cw := va_cwSU k hts hGd hw rfl rfl hdd hroom) (hp := hpre) (hg := rfl) (hn := by simpa using hk) (hsize := h1.1) (hstack := by show st.map (x_v ad) = _; rw [hst]; simp [x_v]) (hW := lv_room (m := m) (pc := pc) (ls := ls) (x_sum8 ad rest hsum)) (hdg := hd) (hf := ⟨by omega, by omega⟩)
  show W p l e R s m args below meth c H locs (h.length - h0.length) (x_sl h - x_sl h0) Q (F0 m pc ls (st.map (x_v ad)))
  refine x_goon hT hrun h3 (fun H1 locs1 hR1 hS1 => ?_)
  have w := kk ls H1 locs1 h1 hR1 hS1
  dsimp only at w
  rw [x_toL]
  exact W.cs (by omega) (by omega) w

theorem s_invokevirtualU {idx M k ci ml N : Nat} {C owner : String} {T : u_T} {xm ym : MethodName} {bs : ByteArray} {rt : Option FieldType} {wm ws' : List Cond} (hd : decode cc pc = .ok (.invokevirtual idx, 3)) (hy : K.2.2.1 M = ym) (hwm : K.2.2.2.1 M = wm) (hcl : K.1[ci]? = some (C, T, N)) (hGd : GoodIn Ts (va_wsU y.cls idx C owner xm ym wm)) (hw : wm = .code ym bs ml rt :: ws') (hyx : ym = ⟨owner, xm.name, xm.desc⟩) (hdd : owner ≠ "java/lang/invoke/MethodHandle" ∧ owner ≠ "java/lang/invoke/VarHandle" ∧ (parseMethodDescriptor xm.desc).map (fun d => d.parameters.length) = some k) (hml : ml ≤ 41) : x_Sim K scr l y cc mL ret Ts pc (x_cv (pc + 3) M (k + 1) ci) := by
  intro G kA ad p e R s m args below meth c B d calls hok hf hl h0 z r hle ho
  obtain ⟨lv, st, h⟩ := z
  unfold x_cv at ho
  split at ho
  case isFalse => cases ho
  next hrc =>
  obtain ⟨as, rest, v, h', hst, has, hk, hsum, hc, hT, rfl⟩ := x_cl_inv ho
  obtain ⟨b, As, fs, rfl, hb⟩ := x_rc_inv has hrc
  have hm := hok M (.ref (b + 3) :: As) h v h' hc
  refine ⟨hm.1, fun hc1 hc2 Q kk ls H locs h1 h2 h3 => ?_⟩
  have hts := B.2.2.2.2.1
  have hK := B.2.2.2.2.2.2.2.2.1
  have g1 := hle.1
  have g2 := hle.2
  have g3 := hm.1.1
  have g4 := hm.1.2
  dsimp only at hc1 hc2 g1 g2
  have hpre : PreV s H C (ad (b + 3)) (x_Pc K G kA ad (.ref (b + 3) :: As) h) (As.map (x_v ad)) := ⟨x_blind, va_recv hK h2.1 hcl (x_w_at hb), fun U hU hW => ⟨rfl, by rw [hU]; exact h2, va_K.moved hW.alike hK, B.2.2.2.2.2.2.2.2.2.1.warm hW, B.2.2.2.2.2.2.2.2.2.2.1.step hW hU h3⟩⟩
  have hroom : (x_rm d h h').frames + 1 ≤ R.frames ∧ 8 + (ml + 11) + (x_rm d h h').locals ≤ R.locals := ⟨hf, by show 8 + (ml + 11) + (60 * d + 200) ≤ R.locals; omega⟩
  rw [hy, hwm] at hm
  have hrun := va_runU (As := As.map (x_v ad)) (b := ad (b + 3)) (rest := rest.map (x_v ad)) (g := F0 m pc ls (st.map (x_v ad))) (H := H) (locs := locs) (cells := h.length - h0.length) (slots := x_sl h - x_sl h0) (below := below) (e := e) (meth := meth) ⟨B.1, B.2.1, B.2.2.1, B.2.2.2.2.2.1, hts⟩ (x_ret hT (hm.2 ad)) (va_cwU k hts hGd hw rfl rfl hyx hdd hroom) hpre rfl (by simpa using hk) h1.1 (by show st.map (x_v ad) = _; rw [hst]; simp [x_v]) (lv_room (m := m) (pc := pc) (ls := ls) (x_sum8 ad rest hsum)) hd ⟨by omega, by omega⟩
  show W p l e R s m args below meth c H locs (h.length - h0.length) (x_sl h - x_sl h0) Q (F0 m pc ls (st.map (x_v ad)))
  refine x_goon hT hrun h3 (fun H1 locs1 hR1 hS1 => ?_)
  have w := kk ls H1 locs1 h1 hR1 hS1
  dsimp only at w
  rw [x_toL]
  exact W.cs (by omega) (by omega) w

theorem s_invokevirtualO {idx M k ci ml N : Nat} {C owner : String} {T : u_T} {xm ym : MethodName} {bs : ByteArray} {rt : Option FieldType} {wm ws' : List Cond} (hd : decode cc pc = .ok (.invokevirtual idx, 3)) (hy : K.2.2.1 M = ym) (hwm : K.2.2.2.1 M = wm) (hcl : K.1[ci]? = some (C, T, N)) (hGd : GoodIn Ts (va_wsO y.cls idx C owner xm ym wm)) (hw : wm = .code ym bs ml rt :: ws') {b0 : ByteArray} {m0 : Nat} {r0 : Option FieldType} (hb0 : Cond.code ⟨owner, xm.name, xm.desc⟩ b0 m0 r0 ∈ Ts) (hdd : owner ≠ "java/lang/invoke/MethodHandle" ∧ owner ≠ "java/lang/invoke/VarHandle" ∧ (parseMethodDescriptor xm.desc).map (fun d => d.parameters.length) = some k) (hml : ml ≤ 41) : x_Sim K scr l y cc mL ret Ts pc (x_cv (pc + 3) M (k + 1) ci) := by
  intro G kA ad p e R s m args below meth c B d calls hok hf hl h0 z r hle ho
  obtain ⟨lv, st, h⟩ := z
  unfold x_cv at ho
  split at ho
  case isFalse => cases ho
  next hrc =>
  obtain ⟨as, rest, v, h', hst, has, hk, hsum, hc, hT, rfl⟩ := x_cl_inv ho
  obtain ⟨b, As, fs, rfl, hb⟩ := x_rc_inv has hrc
  have hm := hok M (.ref (b + 3) :: As) h v h' hc
  refine ⟨hm.1, fun hc1 hc2 Q kk ls H locs h1 h2 h3 => ?_⟩
  have hts := B.2.2.2.2.1
  have hK := B.2.2.2.2.2.2.2.2.1
  have g1 := hle.1
  have g2 := hle.2
  have g3 := hm.1.1
  have g4 := hm.1.2
  dsimp only at hc1 hc2 g1 g2
  have hpre : PreV s H C (ad (b + 3)) (x_Pc K G kA ad (.ref (b + 3) :: As) h) (As.map (x_v ad)) := ⟨x_blind, va_recv hK h2.1 hcl (x_w_at hb), fun U hU hW => ⟨rfl, by rw [hU]; exact h2, va_K.moved hW.alike hK, B.2.2.2.2.2.2.2.2.2.1.warm hW, B.2.2.2.2.2.2.2.2.2.2.1.step hW hU h3⟩⟩
  have hroom : (x_rm d h h').frames + 1 ≤ R.frames ∧ 8 + (ml + 11) + (x_rm d h h').locals ≤ R.locals := ⟨hf, by show 8 + (ml + 11) + (60 * d + 200) ≤ R.locals; omega⟩
  rw [hy, hwm] at hm
  have hrun := va_runU (As := As.map (x_v ad)) (b := ad (b + 3)) (rest := rest.map (x_v ad)) (g := F0 m pc ls (st.map (x_v ad))) (H := H) (locs := locs) (cells := h.length - h0.length) (slots := x_sl h - x_sl h0) (below := below) (e := e) (meth := meth) ⟨B.1, B.2.1, B.2.2.1, B.2.2.2.2.2.1, hts⟩ (x_ret hT (hm.2 ad)) (va_cwO k hts hGd hw rfl rfl hb0 hdd hroom) hpre rfl (by simpa using hk) h1.1 (by show st.map (x_v ad) = _; rw [hst]; simp [x_v]) (lv_room (m := m) (pc := pc) (ls := ls) (x_sum8 ad rest hsum)) hd ⟨by omega, by omega⟩
  show W p l e R s m args below meth c H locs (h.length - h0.length) (x_sl h - x_sl h0) Q (F0 m pc ls (st.map (x_v ad)))
  refine x_goon hT hrun h3 (fun H1 locs1 hR1 hS1 => ?_)
  have w := kk ls H1 locs1 h1 hR1 hS1
  dsimp only at w
  rw [x_toL]
  exact W.cs (by omega) (by omega) w
end
