/-! the text # and its bytes, which no cell of ours holds: .ref 0 and .ref 1 -/
section
variable {K : xK} {scr : Option (Nat × Nat × (Nat → Int32))} {l : Launch} {y : MethodName} {cc : ByteArray} {mL : Nat} {ret : Option FieldType} {Ts : List Cond} {pc : Nat}
theorem x_Sh_at {ad : Nat → Nat} {p : Program} {s : State} {m : MethodId} {args : Array Value} {meth : Method} {c : Code} {G : va_G} {kA : Nat → ClassId} (B : x_B K scr ad y cc mL ret Ts p s m args meth c G kA) :
    vk_R "ProofDesk" 204 "#" (ad 0) s ∧ va_O "java/lang/String" (ad 0) (x_A ad) s s.heap ∧ va_OF "java/lang/String" "coder" "B" (.int 0) (ad 0) (x_A ad) s s.heap ∧ va_OF "java/lang/String" "value" "[B" (.ref (ad 1)) (ad 0) (x_A ad) s s.heap ∧ va_T .byte (ad 1) 1 (fun _ => .int 35) (x_A ad) s s.heap ∧ va_Z "jdk/internal/util/Preconditions" "SIOOBE_FORMATTER" "Ljava/util/function/BiFunction;" (x_fm (ad 2)) (x_A ad) s s.heap := by
  obtain ⟨i1, i2, i3, i4, i5, i6⟩ := B.2.2.2.2.2.2.2.2.2.2.1
  have hA : ∀ a : Nat, a < K.2.2.2.2.2.heap.size → ¬ x_A ad a := fun a ha ⟨k, hk⟩ => by
    have := i4 k
    omega
  obtain ⟨h1, h2, h3, h4, h5⟩ := i6 (x_A ad) hA
  exact ⟨i5.warm i1, (h1.moved i1.alike).kept (fun a ha _ => i2 a ha), (h2.moved i1.alike).kept (fun a ha _ => i2 a ha), (h3.moved i1.alike).kept (fun a ha _ => i2 a ha), (h4.moved i1.alike).kept (fun a ha _ => i2 a ha), (h5.moved i1.alike).kept (fun a ha _ => i2 a ha)⟩
theorem s_ldcH (hy : y.cls = "ProofDesk") (hd : decode cc pc = .ok (.ldc 204, 2)) : x_Sim K scr l y cc mL ret Ts pc (x_st (x_push (pc + 2) (.ref 0))) := by
  intro G kA ad p e R s m args below meth c B d calls hok hf hl h0 q r hle ho
  obtain ⟨lv, st, h⟩ := q
  cases ho
  refine ⟨x_le.rf, fun _ _ Q kk ls H locs h1 h2 h3 => ?_⟩
  exact va_ldcS B.1 B.2.1 (by rw [← hy]; exact B.2.2.2.2.2.1) (x_Sh_at B).1 hd (kk ls H locs h1 h2 h3)
theorem s_getsF {idx : Nat} (hd : decode cc pc = .ok (.getstatic idx, 3)) (w1 : Cond.fieldLink y.cls idx "jdk/internal/util/Preconditions" "SIOOBE_FORMATTER" "Ljava/util/function/BiFunction;" ∈ Ts) : x_Sim K scr l y cc mL ret Ts pc (x_st (x_push (pc + 3) (.retAddr 0))) := by
  intro G kA ad p e R s m args below meth c B d calls hok hf hl h0 q r hle ho
  obtain ⟨lv, st, h⟩ := q
  cases ho
  refine ⟨x_le.rf, fun _ _ Q kk ls H locs h1 h2 h3 => ?_⟩
  exact va_gets B.1 B.2.1 (x_Sh_at B).2.2.2.2.2 h3 B.2.2.2.2.2.1 (B.2.2.2.2.1 _ w1) (fun _ q => q) hd (kk ls H locs h1 h2 h3)
/-- the bytes of a text -/
def x_gfV (n ci k : Nat) : xO := fun calls z => match z.2.1 with
  | .ref 0 :: r => some (.inl (n, z.1, .ref 1 :: r, z.2.2))
  | _ => x_gf n ci k calls z
theorem s_gfV {idx ci k : Nat} (hd : decode cc pc = .ok (.getfield idx, 3)) (w1 : Cond.fieldLink y.cls idx "java/lang/String" "value" "[B" ∈ Ts) (hb : x_Sim K scr l y cc mL ret Ts pc (x_gf (pc + 3) ci k)) : x_Sim K scr l y cc mL ret Ts pc (x_gfV (pc + 3) ci k) := by
  intro G kA ad p e R s m args below meth c B d calls hok hf hl h0 q r hle ho
  obtain ⟨lv, st, h⟩ := q
  unfold x_gfV at ho
  split at ho
  · next r0 hs =>
    dsimp only at hs
    subst hs
    cases ho
    refine ⟨x_le.rf, fun _ _ Q kk ls H locs h1 h2 h3 => ?_⟩
    exact vk_getf B.1 B.2.1 (x_Sh_at B).2.2.2.1 h3 B.2.2.2.2.2.1 (B.2.2.2.2.1 _ w1) (fun _ q => q) hd (kk ls H locs h1 h2 h3)
  · exact hb G kA ad p e R s m args below meth c B d calls hok hf hl h0 _ r hle ho
/-- the kind of a text's bytes -/
def x_gfC (n ci k : Nat) : xO := fun calls z => match z.2.1 with
  | .ref 0 :: r => some (.inl (n, z.1, .int 0 :: r, z.2.2))
  | _ => x_gf n ci k calls z
theorem s_gfC {idx ci k : Nat} (hd : decode cc pc = .ok (.getfield idx, 3)) (w1 : Cond.fieldLink y.cls idx "java/lang/String" "coder" "B" ∈ Ts) (hb : x_Sim K scr l y cc mL ret Ts pc (x_gf (pc + 3) ci k)) : x_Sim K scr l y cc mL ret Ts pc (x_gfC (pc + 3) ci k) := by
  intro G kA ad p e R s m args below meth c B d calls hok hf hl h0 q r hle ho
  obtain ⟨lv, st, h⟩ := q
  unfold x_gfC at ho
  split at ho
  · next r0 hs =>
    dsimp only at hs
    subst hs
    cases ho
    refine ⟨x_le.rf, fun _ _ Q kk ls H locs h1 h2 h3 => ?_⟩
    exact vk_getf B.1 B.2.1 (x_Sh_at B).2.2.1 h3 B.2.2.2.2.2.1 (B.2.2.2.2.1 _ w1) (fun _ q => q) hd (kk ls H locs h1 h2 h3)
  · exact hb G kA ad p e R s m args below meth c B d calls hok hf hl h0 _ r hle ho
def x_alnH (n nt : Nat) : xO := fun calls z => match z.2.1 with
  | .ref 1 :: r => some (.inl (n, z.1, .int 1 :: r, z.2.2))
  | _ => x_aln n nt calls z
theorem s_alenH {nt : Nat} (hd : decode cc pc = .ok (.arraylength, 1)) (hb : x_Sim K scr l y cc mL ret Ts pc (x_aln (pc + 1) nt)) : x_Sim K scr l y cc mL ret Ts pc (x_alnH (pc + 1) nt) := by
  intro G kA ad p e R s m args below meth c B d calls hok hf hl h0 q r hle ho
  obtain ⟨lv, st, h⟩ := q
  unfold x_alnH at ho
  split at ho
  · next r0 hs =>
    dsimp only at hs
    subst hs
    cases ho
    refine ⟨x_le.rf, fun _ _ Q kk ls H locs h1 h2 h3 => ?_⟩
    exact va_tlen B.1 B.2.1 (x_Sh_at B).2.2.2.2.1 h3 rfl hd (kk ls H locs h1 h2 h3)
  · exact hb G kA ad p e R s m args below meth c B d calls hok hf hl h0 _ r hle ho
def x_aldH (n t : Nat) : xO := fun calls z => match z.2.1 with
  | .int i :: .ref 1 :: r => if i = 0 then some (.inl (n, z.1, .int 35 :: r, z.2.2)) else none
  | _ => x_ald n t calls z
theorem s_baldH {t : Nat} (hd : decode cc pc = .ok (.baload, 1)) (hb : x_Sim K scr l y cc mL ret Ts pc (x_ald (pc + 1) t)) : x_Sim K scr l y cc mL ret Ts pc (x_aldH (pc + 1) t) := by
  intro G kA ad p e R s m args below meth c B d calls hok hf hl h0 q r hle ho
  obtain ⟨lv, st, h⟩ := q
  unfold x_aldH at ho
  split at ho
  · next i r0 hs =>
    dsimp only at hs
    subst hs
    split at ho
    · next hi =>
      subst hi
      cases ho
      refine ⟨x_le.rf, fun _ _ Q kk ls H locs h1 h2 h3 => ?_⟩
      exact va_tb B.1 B.2.1 (x_Sh_at B).2.2.2.2.1 h3 (i := 0) (by unfold vp_in; decide) rfl hd (kk ls H locs h1 h2 h3)
    · cases ho
  · exact hb G kA ad p e R s m args below meth c B d calls hok hf hl h0 _ r hle ho
def x_rH (k : Nat) (st : List Value) : Bool := match (st.take k).reverse with
  | .ref 0 :: _ => true
  | _ => false
theorem x_rH_inv {k : Nat} {st as : List Value} (has : as = (st.take k).reverse) (hr : x_rH k st = true) : ∃ As, as = .ref 0 :: As := by
  unfold x_rH at hr
  rw [← has] at hr
  clear has
  split at hr
  · next As => exact ⟨As, rfl⟩
  · cases hr
def x_cvH (n M k ci : Nat) : xO := fun calls z => if x_rH k z.2.1 = true then x_cl_ n M k calls z else x_cv n M k ci calls z
theorem s_invokevirtualH {idx M k ci ml : Nat} {ym : MethodName} {bs : ByteArray} {rt : Option FieldType} {wm ws' : List Cond} (hd : decode cc pc = .ok (.invokevirtual idx, 3)) (hy : K.2.2.1 M = ym) (hwm : K.2.2.2.1 M = wm) (hGd : GoodIn Ts (wsV y.cls idx "java/lang/String" ym wm)) (hw : wm = .code ym bs ml rt :: ws') (hdd : ym.cls = "java/lang/String" ∧ ym.cls ≠ "java/lang/invoke/MethodHandle" ∧ ym.cls ≠ "java/lang/invoke/VarHandle" ∧ (parseMethodDescriptor ym.desc).map (fun d => d.parameters.length) = some k) (hml : ml ≤ 41)
    (hv : x_Sim K scr l y cc mL ret Ts pc (x_cv (pc + 3) M (k + 1) ci)) : x_Sim K scr l y cc mL ret Ts pc (x_cvH (pc + 3) M (k + 1) ci) := by
  intro G kA ad p e R s m args below meth c B d calls hok hf hl h0 z r hle ho
  obtain ⟨lv, st, h⟩ := z
  unfold x_cvH at ho
  split at ho
  case isFalse => exact hv G kA ad p e R s m args below meth c B d calls hok hf hl h0 _ r hle ho
  next hrc =>
  obtain ⟨as, rest, v, h', hst, has, hk, hsum, hc, hT, rfl⟩ := x_cl_inv ho
  obtain ⟨As, rfl⟩ := x_rH_inv has hrc
  have hm := hok M (.ref 0 :: As) h v h' hc
  refine ⟨hm.1, fun hc1 hc2 Q kk ls H locs h1 h2 h3 => ?_⟩
  have hts := B.2.2.2.2.1
  have hK := B.2.2.2.2.2.2.2.2.1
  have g1 := hle.1
  have g2 := hle.2
  have g3 := hm.1.1
  have g4 := hm.1.2
  dsimp only at hc1 hc2 g1 g2
  have hrv : ∃ cell : Cell, H[ad 0]? = some cell ∧ cell.vm.isStatics = false ∧ s.vm.findClass "java/lang/String" = some cell.cls := by
    obtain ⟨cell, z1, z2, z3, -⟩ := (x_Sh_at B).2.1.kept h3.2.1
    exact ⟨cell, z1, z2, z3⟩
  have hpre : PreV s H "java/lang/String" (ad 0) (x_Pc K G kA ad (.ref 0 :: As) h) (As.map (x_v ad)) := ⟨x_blind, hrv, fun U hU hW => ⟨rfl, by rw [hU]; exact h2, va_K.moved hW.alike hK, B.2.2.2.2.2.2.2.2.2.1.warm hW, B.2.2.2.2.2.2.2.2.2.2.1.step hW hU h3⟩⟩
  have hroom : (x_rm d h h').frames + 1 ≤ R.frames ∧ 8 + (ml + 11) + (x_rm d h h').locals ≤ R.locals := ⟨hf, by show 8 + (ml + 11) + (60 * d + 200) ≤ R.locals; omega⟩
  rw [hy, hwm] at hm
  have hrun := va_runV (As := As.map (x_v ad)) (b := ad 0) (rest := rest.map (x_v ad)) (g := F0 m pc ls (st.map (x_v ad))) (H := H) (locs := locs) (cells := h.length - h0.length) (slots := x_sl h - x_sl h0) (below := below) (e := e) (meth := meth) ⟨B.1, B.2.1, B.2.2.1, B.2.2.2.2.2.1, hts⟩ (x_ret hT (hm.2 ad)) (cwV k hts hGd hw rfl rfl hdd hroom) hpre rfl (by simpa using hk) h1.1 (by show st.map (x_v ad) = _; rw [hst]; simp [x_v]) (lv_room (m := m) (pc := pc) (ls := ls) (x_sum8 ad rest hsum)) hd ⟨by omega, by omega⟩
  show W p l e R s m args below meth c H locs (h.length - h0.length) (x_sl h - x_sl h0) Q (F0 m pc ls (st.map (x_v ad)))
  refine x_goon hT hrun h3 (fun H1 locs1 hR1 hS1 => ?_)
  have w := kk ls H1 locs1 h1 hR1 hS1
  dsimp only at w
  rw [x_toL]
  exact W.cs (by omega) (by omega) w
end
