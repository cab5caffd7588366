/-! a static field whose value is known since the beginning -/
section
variable {K : xK} {scr : Option (Nat × Nat × (Nat → Int32))} {l : Launch} {y : MethodName} {cc : ByteArray} {mL : Nat} {ret : Option FieldType} {Ts : List Cond} {pc : Nat}
def x_Zi (C n d : String) (z : Int32) (s0 : State) : Prop := ∀ A : Nat → Prop, (∀ a : Nat, a < s0.heap.size → ¬ A a) → va_Z C n d (.int z) A s0 s0.heap
theorem x_Zi.of {C n d : String} {z : Int32} {s0 : State} {args : Array Value} (hl : (Cond.laysStatic C n d).before args s0 = true) (hini : (Cond.initialized C).before args s0 = true) (hv : (Cond.eq (.static C n d) (.int z)).before args s0 = true) : x_Zi C n d z s0 :=
  fun _ hA => va_Zof hl hini (va_eqi hv) hA
theorem s_getsI {idx : Nat} {C n d : String} {z : Int32} (hd : decode cc pc = .ok (.getstatic idx, 3)) (w1 : Cond.fieldLink y.cls idx C n d ∈ Ts) (hZ : x_Zi C n d z K.2.2.2.2.2) : x_Sim K scr l y cc mL ret Ts pc (x_st (x_push (pc + 3) (.int z))) := by
  intro G kA ad p e R s m args below meth c B d' calls hok hf hl h0 q r hle ho
  obtain ⟨lv, st, h⟩ := q
  cases ho
  refine ⟨x_le.rf, fun _ _ Q kk ls H locs h1 h2 h3 => ?_⟩
  obtain ⟨i1, i2, i3, i4⟩ := B.2.2.2.2.2.2.2.2.2.2.1
  have hA : ∀ a : Nat, a < K.2.2.2.2.2.heap.size → ¬ x_A ad a := fun a ha ⟨k, hk⟩ => by
    have := i4.1 k
    omega
  have hz : va_Z C n d (.int z) (x_A ad) s s.heap := ((hZ (x_A ad) hA).moved i1.alike).kept (fun a ha _ => i2 a ha)
  exact va_gets B.1 B.2.1 hz h3 B.2.2.2.2.2.1 (B.2.2.2.2.1 _ w1) (fun _ q => q) hd (kk ls H locs h1 h2 h3)
end
