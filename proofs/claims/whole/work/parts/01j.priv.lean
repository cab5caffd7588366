/-! a call of a method that its owner keeps to itself, on an object of a kind below -/
section
variable {p : Program} {l : Launch} {e : Env} {R : Room} {s : State} {m : MethodId} {args : Array Value} {below : List Frame} {meth : Method} {c : Code} {H : Heap} {locs : List Loc} {cells slots : Nat}
theorem x_runP {y : MethodName} {bytes cc : ByteArray} {maxL nL mc ms n index : Nat} {ret : Option FieldType} {ws : List Cond} {rm : Room} {Pc : Array Value → State → Prop} {Qc : Array Value → State → Outcome → State → Prop} {free : Addr → Prop} {Ts : List Cond} {own C : String} {b : Addr} {As rest : List Value} {g : JFrame}
    (S : CallFix p m c cc nL s args Ts own) (hM : Met l y ws rm Pc Qc mc ms free) (hbk : rm.cells = mc ∧ rm.slots = ms ∧ rm.frames + 1 ≤ R.frames ∧ 8 + (maxL + 11) + rm.locals ≤ R.locals ∧ (∀ w ∈ ws, ∀ (a' : Array Value) (U : State), s.WarmedH U.vm → w.before a' U = true) ∧ Cond.code y bytes maxL ret ∈ ws)
    (hcode : (Cond.code y bytes maxL ret).before args s = true) (hini : (Cond.initialized y.cls).before args s = true) (hy : y.cls ≠ "java/lang/invoke/MethodHandle" ∧ y.cls ≠ "java/lang/invoke/VarHandle") (hlen : ∀ sig, parseMethodDescriptor y.desc = some sig → n = sig.parameters.length) (hl : (Cond.methodLink own index y).before args s = true) (hin : (Cond.instanceMethod y).before args s = true) (hsm : (Cond.sameMethod y.cls y.cls y.name y.desc).before args s = true) (hpr : (Cond.privateMethod y).before args s = true) (hp : PreV s H C b Pc As)
    (hg : g.method = m) (hn : As.length = n) (hsize : g.locals.size = nL) (hstack : g.stack = As.reverse ++ .ref b :: rest) (hW : 2 * g.monitorRoom + (rest.map fun v => v.category).sum ≤ 8) (hdg : decode cc g.pc = .ok (.invokevirtual index, 3)) (hf : cells + mc ≤ R.cells ∧ slots + ms ≤ R.slots) :
    va_Run p l e R s m args below meth c H locs cells slots mc ms g rest (Qc (Value.ref b :: As).toArray) (free) := by
  obtain ⟨hrc, hrs, hfr, hlo, hws, hcw⟩ := hbk
  have hK : Back l R p e below s args y 3 8 (PreOf R mc ms Pc) (PostOf Qc mc ms free) := back_of (bytes := bytes) (maxL := maxL) (ret := ret) hM hp.1 hrc hrs hfr hlo hws hcw (fun a' U hW => word_at hW (Or.inl (by first | rfl | simp [Cond.onTables, Cond.keeps, Cond.steady])) hini)
  obtain ⟨hx, hb, hml, ho, -⟩ := S
  obtain ⟨-, ⟨cellB, hcB, hoB, hclB⟩, hPc⟩ := hp
  have hpv := Cond.privateMethod_at hpr
  obtain ⟨cn, ck, r1, hcn, hck, hni, hfd, hn1⟩ := Cond.sameMethod_found hsm
  have hsel : (Cond.selects y.cls y y).before args s = true := Stand.selects_self_of_private hcn hck hni hpv hin hy
  have hob : ∀ q, cellB.vm ≠ .statics q := fun q e9 => by
    rw [e9] at hoB
    cases hoB
  intro T hT X
  obtain ⟨v, vm₁, ⟨U', l2, c2, s2⟩, hW₁, X', ⟨g', mk, t, L, e1, e2, hq, h1, hL, h2, h3⟩, st⟩ := X.privateBack hx (bytes := bytes) (maxL := maxL) (ret := ret) ho hl hin hsel hpv hcode hy hK hg (hsize.trans hml.symm) (Steps.refl _) (by rw [hT]; exact hcB) hob (argsL := As) (rest := rest) (fun sig h => hn.trans (hlen sig h)) hstack hW (by rw [hb]; exact hdg)
    (fun vm₁ hW₁ => ⟨hf.1, hf.2, hPc (T.setVm vm₁) hT hW₁⟩)
  dsimp only [Pt.U, Pt.locs, Pt.cells, Pt.slots] at X' e1 e2 h1 h2 h3 st
  subst h1; subst h2; subst h3
  exact ⟨v, (T.setVm vm₁).calling g' mk (Value.ref b :: As).toArray, t, U', L, hT, X', hL, e1, e2, hq, fun target h9 => st.trans h9⟩
end
section
variable {K : xK} {scr : Option (Nat × Nat × (Nat → Int32))} {l : Launch} {y : MethodName} {cc : ByteArray} {mL : Nat} {ret : Option FieldType} {Ts : List Cond} {pc : Nat}
theorem s_invokevirtualP {idx M k ci ml N : Nat} {C : String} {T : u_T} {ym : MethodName} {bs : ByteArray} {rt : Option FieldType} {wm ws' : List Cond} (hd : decode cc pc = .ok (.invokevirtual idx, 3)) (hy : K.2.2.1 M = ym) (hwm : K.2.2.2.1 M = wm) (hcl : K.1[ci]? = some (C, T, N)) (hG : GoodIn Ts wm) (hlk : Cond.methodLink y.cls idx ym ∈ Ts) (hin : Cond.instanceMethod ym ∈ Ts) (hsm : Cond.sameMethod ym.cls ym.cls ym.name ym.desc ∈ Ts) (hpr : (Cond.privateMethod ym).before #[] K.2.2.2.2.2 = true) (hini : Cond.initialized ym.cls ∈ Ts) (hw : wm = .code ym bs ml rt :: ws') (hdd : ym.cls ≠ "java/lang/invoke/MethodHandle" ∧ ym.cls ≠ "java/lang/invoke/VarHandle" ∧ (parseMethodDescriptor ym.desc).map (fun d => d.parameters.length) = some k) (hml : ml ≤ 41) : x_Sim K scr l y cc mL ret Ts pc (x_cv (pc + 3) M (k + 1) ci) := by
  intro G kA ad p e R s m args below meth c B d calls hok hf hl h0 z r hle ho
  obtain ⟨lv, st, h⟩ := z
  unfold x_cv at ho
  split at ho
  case isFalse => cases ho
  next hrc =>
  obtain ⟨as, rest, v, h', hst, has, hk, hsum, hc, hT, rfl⟩ := x_cl_inv ho
  obtain ⟨b, As, fs, rfl, hb⟩ := x_rc_inv has hrc
  have hm := hok M (.ref (b + 3) :: As) h v h' hc
  refine ⟨hm.1, fun hc1 hc2 Q kk ls H locs h1 h2 h3 => ?_⟩
  have hts := B.2.2.2.2.1
  have hK := B.2.2.2.2.2.2.2.2.1
  have g1 := hle.1
  have g2 := hle.2
  have g3 := hm.1.1
  have g4 := hm.1.2
  dsimp only at hc1 hc2 g1 g2
  have hpre : PreV s H C (ad (b + 3)) (x_Pc K G kA ad (.ref (b + 3) :: As) h) (As.map (x_v ad)) := ⟨x_blind, va_recv hK h2.1 hcl (x_w_at hb), fun U hU hW => ⟨rfl, by rw [hU]; exact h2, va_K.moved hW.alike hK, B.2.2.2.2.2.2.2.2.2.1.warm hW, B.2.2.2.2.2.2.2.2.2.2.1.step hW hU h3⟩⟩
  have hroom : (x_rm d h h').frames + 1 ≤ R.frames ∧ 8 + (ml + 11) + (x_rm d h h').locals ≤ R.locals := ⟨hf, by show 8 + (ml + 11) + (60 * d + 200) ≤ R.locals; omega⟩
  rw [hy, hwm] at hm
  have hcm : Cond.code ym bs ml rt ∈ wm := by rw [hw]; exact List.mem_cons_self
  have hln : ∀ sig, parseMethodDescriptor ym.desc = some sig → k = sig.parameters.length := fun sig h9 => by
    have h8 := hdd.2.2
    rw [h9] at h8
    exact (Option.some.inj h8).symm
  have hrun := x_runP (As := As.map (x_v ad)) (b := ad (b + 3)) (C := C) (rest := rest.map (x_v ad)) (g := F0 m pc ls (st.map (x_v ad))) (H := H) (locs := locs) (cells := h.length - h0.length) (slots := x_sl h - x_sl h0) (below := below) (e := e) (meth := meth) (n := k) (index := idx) ⟨B.1, B.2.1, B.2.2.1, B.2.2.2.2.2.1, hts⟩ (x_ret hT (hm.2 ad)) ⟨rfl, rfl, hroom.1, hroom.2, pay_in hts hG, hcm⟩ (hts _ (hG _ hcm).1) (hts _ hini) ⟨hdd.1, hdd.2.1⟩ hln (hts _ hlk) (hts _ hin) (hts _ hsm) (Cond.privateMethod_warm B.2.2.2.2.2.2.2.2.2.2.1.1 hpr) hpre rfl (by simpa using hk) h1.1 (by show st.map (x_v ad) = _; rw [hst]; simp [x_v]) (lv_room (m := m) (pc := pc) (ls := ls) (x_sum8 ad rest hsum)) hd ⟨by omega, by omega⟩
  show W p l e R s m args below meth c H locs (h.length - h0.length) (x_sl h - x_sl h0) Q (F0 m pc ls (st.map (x_v ad)))
  refine x_goon hT hrun h3 (fun H1 locs1 hR1 hS1 => ?_)
  have w := kk ls H1 locs1 h1 hR1 hS1
  dsimp only at w
  rw [x_toL]
  exact W.cs (by omega) (by omega) w
end
