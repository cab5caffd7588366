/-! CATCHES: a call whose method throws, in a method that has handlers; the search may link the handlers' kinds as it goes -/
/-- the handlers, in their order: hp is where the object of kind X goes on -/
def x_Hs (s : State) (own X : String) (pc : Nat) : List (Nat × Nat × Nat × Nat) → Nat → Prop
  | [], _ => False
  | x :: t, hp => (x.1 ≤ pc ∧ pc < x.2.1) ∧ x.2.2.2 ≠ 0 ∧ ∃ C : String, (Cond.classLink own x.2.2.2 C).before #[] s = true ∧ ((C = X ∧ hp = x.2.2.1) ∨ (va_Nc X C s ∧ x_Hs s own X pc t hp))
section XCA
variable {e : Env} {f : JFrame} {a : Addr}
theorem x_look {x : ExceptionTableEntry} {t : List ExceptionTableEntry} {S : State} {cT : ClassId} {cell : Cell} (hx : covers x f.pc = true) (h0 : x.catchType ≠ 0)
    (hg : (resolveClass f.method.cls x.catchType).Gives e.toSetting S.vm (.ok cT) (S.vm.noted f.method.cls x.catchType (.cls cT))) (hcell : S.heap[a]? = some cell) (hobj : ∀ k, cell.vm ≠ .statics k) (hk : ∃ k, (S.vm.noted f.method.cls x.catchType (.cls cT)).classes[cell.cls]? = some k) (hk2 : ∃ k, (S.vm.noted f.method.cls x.catchType (.cls cT)).classes[cT]? = some k)
    (Q : Handler → Pre) (E : CtlPost) (d : Bool) (acts : List Action) :
    wp (findHandler.go f a (x :: t)) Q E e d acts S ↔ if (S.vm.noted f.method.cls x.catchType (.cls cT)).assignable cell.cls cT = true then Q (.found x.handlerPc) d acts (S.setVm (S.vm.noted f.method.cls x.catchType (.cls cT))) else wp (findHandler.go f a t) Q E e d acts (S.setVm (S.vm.noted f.method.cls x.catchType (.cls cT))) := by
  simp only [covers] at hx
  obtain ⟨g1, g2⟩ := hg.op (op := VmOp.resolveClass f.method.cls x.catchType) rfl
  obtain ⟨k1, hk1⟩ := hk
  obtain ⟨k2, hk2⟩ := hk2
  cases hq : (S.vm.noted f.method.cls x.catchType (.cls cT)).assignable cell.cls cT <;> simp [findHandler.go, hx, h0, g1, g2, hcell, hobj, hk1, hk2, hq, VmOp.dirties, VmOp.acts]
theorem x_search {s : State} {own X : String} {cell : Cell} (hpl : e.platform.magicAccessors = ({} : Platform).magicAccessors) (hown : s.vm.findClass own = some f.method.cls) (hX : ClassAt s X cell.cls) (hobj : ∀ k, cell.vm ≠ .statics k) {hp : Nat} :
    ∀ (tb : List ExceptionTableEntry) (S : State), s.WarmedH S.vm → S.heap[a]? = some cell → x_Hs s own X f.pc (tb.map (fun h => (h.startPc, h.endPc, h.handlerPc, h.catchType))) hp →
      ∃ vm1, s.WarmedH vm1 ∧ ∀ (Q : Handler → Pre) (E : CtlPost) (d : Bool) (acts : List Action), wp (findHandler.go f a tb) Q E e d acts S ↔ Q (.found hp) d acts (S.setVm vm1) := by
  intro tb
  induction tb with
  | nil => intro S _ _ h; exact h.elim
  | cons x t ih =>
    intro S hW hcell h
    obtain ⟨⟨c1, c2⟩, h0, C, hlk, hor⟩ := h
    have hcov : covers x f.pc = true := by simp only [covers, Bool.and_eq_true, decide_eq_true_eq]; exact ⟨c1, c2⟩
    obtain ⟨cT, hfT, hcl⟩ := Cond.classLink_spec hown hlk e.platform hpl
    obtain ⟨hg, hW1, -⟩ := State.classEntry (e := e) hW hcl
    obtain ⟨kX, hkX, -⟩ := hX.2
    obtain ⟨kT, hkT, -⟩ := Vm.findClass_spec hfT
    obtain ⟨kX', hkX', -⟩ := hW1.alike.2.2 _ _ hkX
    obtain ⟨kT', hkT', -⟩ := hW1.alike.2.2 _ _ hkT
    have key := x_look (e := e) (f := f) (a := a) (t := t) hcov h0 hg hcell hobj ⟨kX', hkX'⟩ ⟨kT', hkT'⟩
    rcases hor with ⟨rfl, rfl⟩ | ⟨⟨c3, c4, hc3, hc4, hno⟩, hrest⟩
    · have eT : cT = cell.cls := Option.some.inj (hfT.symm.trans hX.1)
      refine ⟨_, hW1, fun Q E d acts => ?_⟩
      rw [key Q E d acts, if_pos (by rw [hW1.alike.assignable, eT]; exact va_assign hX)]
    · have e3 : c3 = cell.cls := Option.some.inj (hc3.symm.trans hX.1)
      have e4 : c4 = cT := Option.some.inj (hc4.symm.trans hfT)
      subst e3
      subst e4
      obtain ⟨vm2, hW2, hq⟩ := ih (S.setVm _) hW1 hcell hrest
      refine ⟨vm2, hW2, fun Q E d acts => ?_⟩
      rw [key Q E d acts, if_neg (by rw [hW1.alike.assignable, hno]; decide)]
      exact hq Q E d acts
/-- into the handler; the tables may have been linked on the way -/
theorem x_caught {tb : Tables} {s target : State} {g : JFrame} {c : Code} {below : List Frame} (h : At s g.method c below) {pc : Nat} {vm1 : Vm}
    (hfind : ∀ (Q : Handler → Pre) (E : CtlPost) (d : Bool) (acts : List Action), wp (findHandler g a) Q E e d acts ((s.setTop g).pushFrame (.throwing a)) ↔ Q (.found pc) d acts (((s.setTop g).pushFrame (.throwing a)).setVm vm1))
    (hrest : Steps tb e below ((s.setVm vm1).setTop { g with pc := pc, stack := [.ref a] }) target) : Steps tb e below ((s.setTop g).pushFrame (.throwing a)) target := by
  obtain ⟨hgo, hw⟩ := h.throwing a
  refine Steps.head hgo hw ?_
  have hst : (stepThrowing e ((s.setTop g).pushFrame (.throwing a)) a (.java g :: s.frames.tail)).Is ((((s.setTop g).pushFrame (.throwing a)).setVm vm1).setFrames (.java { g with pc := pc, stack := [.ref a] } :: s.frames.tail)) [] := by
    simp only [stepThrowing, searchFrame, vmDo]
    generalize hr : Sem.go _ e false [] _ = res
    obtain ⟨as, rfl, ha⟩ := Sem.eq_ok_of hr (a := Handler.found pc) (s' := ((s.setTop g).pushFrame (.throwing a)).setVm vm1) (acts' := []) (by simp [hfind _ _ _ _])
    exact ⟨rfl, ha⟩
  rw [stepThread_throwing (frames_entered h.top _), hst.1]
  obtain ⟨g0, hg⟩ := Option.isSome_iff_exists.mp h.top
  obtain ⟨r, hr⟩ := State.topJava?_eq_some.mp hg
  have hr2 : (s.setVm vm1).frames = .java g0 :: r := hr
  rw [State.setTop_of_frames _ hr2] at hrest
  have e1 : ∀ (F G : List Frame), ((s.setFrames F).setVm vm1).setFrames G = (s.setVm vm1).setFrames G := fun F G => by
    have e2 : (s.setFrames F).setVm vm1 = (s.setVm vm1).setFrames F := rfl
    rw [e2, State.setFrames_setFrames]
  rw [State.pushFrame, State.setTop_of_frames _ hr, State.setFrames_setFrames, e1, hr]
  exact hrest
end XCA
section XCB
variable {p : Program} {l : Launch} {e : Env} {R : Room} {s : State} {m : MethodId} {args : Array Value} {below : List Frame} {meth : Method} {c : Code} {T : State} {locs : List Loc} {cells slots : Nat}
/-- a call that ends in a throw: the note lies over the caller's frame, and the caller stands there -/
theorem x_noted (X : Stand p l e R s m args below meth c T locs cells slots) {y : MethodName} {ws ws' : List Cond} {bytes : ByteArray} {maxL : Nat} {ret : Option FieldType} {rm : Room} {Pc : Array Value → State → Prop} {Qc : Array Value → State → Outcome → State → Prop} {mc ms : Nat} {free : Addr → Prop}
    (hM : x_Met l y ws rm Pc Qc mc ms free) (hthr : ∀ a st o t, Qc a st o t → ∃ x, o = .threw x) (hw : ws = Cond.code y bytes maxL ret :: ws') (hws : ∀ w ∈ ws, ∀ (a' : Array Value) (U : State), s.WarmedH U.vm → w.before a' U = true) (hini : (Cond.initialized y.cls).before args s = true)
    (hrc : rm.cells = mc) (hrs : rm.slots = ms) (hfr : rm.frames + 1 ≤ R.frames) (hlo : 8 + (maxL + 11) + rm.locals ≤ R.locals) (hcells : cells + mc ≤ R.cells) (hslots : slots + ms ≤ R.slots) (hbl : FrameBlind Pc)
    {g : JFrame} {ig : Instr} {mk : MethodId} {av : Array Value} (hg : g.method = m) (hsize : g.locals.size = c.maxLocals) (hdg : decode c.code g.pc = .ok (ig, 3)) (hW : 2 * g.monitorRoom + (g.stack.map fun v => v.category).sum ≤ 8) (hn : T.methodNamed? y = some mk) (hp : Pc av T) :
    ∃ (x : Addr) (t T' : State) (L : List Loc), Stand p l e R s m args below meth c T' (locs ++ L) (cells + mc) (slots + ms) ∧ (∀ q ∈ L, free q.base) ∧ T'.heap = t.heap ∧ Qc av (T.calling g mk av) (.threw x) t ∧
      Steps p.tables e below (doInvoke e (T.setTop g) [] mk av).1 ((T'.setTop g).pushFrame (.throwing x)) := by
  have h2 : (Cond.code y bytes maxL ret).before av T = true := hws _ (by rw [hw]; exact List.mem_cons_self) _ _ X.warmed
  obtain ⟨methY, cY, hmY, hcY, -, hlY, -, -, -, -⟩ := Cond.code_spec hn h2
  obtain ⟨kY, hkY, -⟩ := className_of_methodNamed hn
  have hini2 : (Cond.initialized y.cls).before av T = true := word_at X.warmed (Or.inl (by first | rfl | simp [Cond.onTables, Cond.keeps, Cond.steady])) hini
  have hinitY : kY.init = .initialized := Cond.initialized_spec (findClass_of_methodNamed hn) hkY hini2
  have h : At T g.method c below := by rw [hg]; exact X.here
  have happ : (headSpec ws rm).appliesLoose y e.platform (T.calling g mk av) = true :=
    Spec.appliesLoose_calling (g := g) h hdg hn hkY hinitY (X.room_calling (g := g) (R' := (headSpec ws rm).room) hsize hmY hcY hfr (by rw [hlY]; show _ + _ + rm.locals ≤ _; omega) (by show cells + rm.cells ≤ _; omega) (by show slots + rm.slots ≤ _; omega)) (atoms_intro fun w hw9 => hws w hw9 _ _ X.warmed)
  obtain ⟨mid, hmid⟩ := h.above
  have hfr2 : (T.setTop g).frames = (.java g :: mid) ++ below := by rw [State.frames_setTop' g h.top, hmid]; rfl
  obtain ⟨o, s2, hsteps, -, hend, hq, L, ⟨hW2, hs2⟩, hL⟩ := Steps.callFree hM p X.admits X.cas X.clock (acts := []) hfr2 happ (hbl _ _ _ _ hp) trivial
  obtain ⟨x, rfl⟩ := hthr _ _ _ _ hq
  rw [State.frames_setTop' g h.top] at hend
  obtain ⟨e2, q2, q3, q4, q5, q6⟩ := hs2
  have e3 : s2 = ({ (T.calling g mk av).setFrames s2.frames with heap := s2.heap, slotsUsed := s2.slotsUsed } : State).setVm s2.vm := by
    have e9 : s2 = ({ s2 with vm := (T.calling g mk av).vm } : State).setVm s2.vm := rfl
    exact e9.trans (congrArg (fun u => State.setVm u s2.vm) e2)
  have hf2 : s2.frames = .throwing x :: .java g :: T.frames.tail := hend
  have hW3 : T.WarmedH s2.vm := hW2
  obtain ⟨g0, hg0⟩ := Option.isSome_iff_exists.mp h.top
  obtain ⟨r, hr⟩ := State.topJava?_eq_some.mp hg0
  have hr2 : (({ T with heap := s2.heap, slotsUsed := s2.slotsUsed } : State).setVm s2.vm).frames = .java g0 :: r := hr
  have hs3 : s2 = ((({ T with heap := s2.heap, slotsUsed := s2.slotsUsed } : State).setVm s2.vm).setTop g).pushFrame (.throwing x) := by
    refine e3.trans ?_
    rw [hf2, State.calling_eq h.top, State.setFrames_setFrames, State.pushFrame, State.frames_setTop _ hr2, State.setTop_of_frames _ hr2, State.setFrames_setFrames, hr]
    rfl
  have hsame : T.sameButNew ({ T with heap := s2.heap, slotsUsed := s2.slotsUsed } : State) L mc ms := by
    obtain ⟨t9, ht9, -⟩ := State.frames_cons hr
    refine ⟨?_, q2, q3, q4, q5, q6⟩
    show ({ T with heap := s2.heap, slotsUsed := s2.slotsUsed } : State) = { T.setFrames T.frames with heap := s2.heap, slotsUsed := s2.slotsUsed }
    rw [State.setFrames_self ht9]
  have hAt : At T m c below := X.here
  refine ⟨x, s2, (({ T with heap := s2.heap, slotsUsed := s2.slotsUsed } : State).setVm s2.vm), L,
    ⟨X.admits, X.cas, X.clock, X.frames, X.room, X.hears, X.method, X.code, (hAt.setHeapUsed s2.heap s2.slotsUsed).setVm hW3.alike, X.tail, State.WarmedH.trans X.warmed hW3, X.limits, X.bytes, X.same.trans (hsame.setVm s.vm)⟩, hL, rfl, hq, ?_⟩
  rw [← hs3]
  exact hsteps
end XCB
def x_HT (s0 : State) (Ts : List Cond) (own X : String) (pc : Nat) : List (Nat × Nat × Nat × Nat) → Nat → Prop
  | [], _ => False
  | x :: t, hp => (x.1 ≤ pc ∧ pc < x.2.1) ∧ x.2.2.2 ≠ 0 ∧ ∃ C : String, Cond.classLink own x.2.2.2 C ∈ Ts ∧ ((C = X ∧ hp = x.2.2.1) ∨ (va_Nc X C s0 ∧ x_HT s0 Ts own X pc t hp))
theorem x_HT.at {s0 s : State} {Ts : List Cond} {args : Array Value} {own X : String} {pc : Nat} (hvm : s0.vm.Alike s.vm) (hts : ∀ w ∈ Ts, w.before args s = true) : ∀ {tb : List (Nat × Nat × Nat × Nat)} {hp : Nat}, x_HT s0 Ts own X pc tb hp → x_Hs s own X pc tb hp
  | [], _, h => h
  | x :: t, hp, h => by
    obtain ⟨h1, h2, C, h3, h4⟩ := h
    refine ⟨h1, h2, C, va_any rfl (hts _ h3), ?_⟩
    rcases h4 with h4 | ⟨h4, h5⟩
    · exact Or.inl h4
    · exact Or.inr ⟨h4.moved hvm, x_HT.at hvm hts h5⟩
def x_lkN : List (Nat × Nat) → Nat → Option Nat
  | [], _ => none
  | q :: t, k => if q.1 = k then some q.2 else x_lkN t k
/-- a virtual call in a method with handlers: hs tells for each kind of thrown object where it goes on -/
def x_ct (n M k ci : Nat) (hs : List (Nat × Nat)) : xO := fun calls z => match x_cv n M k ci calls z with
  | some r => some r
  | none => if x_rc ci k z.2.1 z.2.2 = true ∧ ¬ (z.2.1.length < k ∨ 8 < ((z.2.1.drop k).map (fun v => v.category)).sum) then
      match calls M (z.2.1.take k).reverse z.2.2 with
      | some (some (.retAddr t), h') => match h'[h'.length - 1]? with
        | some (.inr (cj, _)) => if cj = t then (x_lkN hs t).map (fun hp => .inl (hp, z.1, [.ref (h'.length + 2)], h')) else none
        | _ => none
      | _ => none
    else none
theorem x_ct_inv {n M k ci : Nat} {hs : List (Nat × Nat)} {calls : xF} {lv : xL} {st : List Value} {h : xH} {z : xZ} (ho : x_ct n M k ci hs calls (lv, st, h) = some z) : x_cv n M k ci calls (lv, st, h) = some z ∨
    ∃ as rest t h' fs hp, st = as.reverse ++ rest ∧ as = (st.take k).reverse ∧ as.length = k ∧ (rest.map (fun v => v.category)).sum ≤ 8 ∧ x_rc ci k st h = true ∧ calls M as h = some (some (.retAddr t), h') ∧ h'[h'.length - 1]? = some (.inr (t, fs)) ∧ x_lkN hs t = some hp ∧ z = .inl (hp, lv, [.ref (h'.length + 2)], h') := by
  unfold x_ct at ho
  split at ho
  · next r hr => exact Or.inl (by rw [hr]; exact ho)
  · split at ho
    · next hc =>
      obtain ⟨hrc, hn⟩ := hc
      dsimp only at hrc hn ho
      split at ho
      · next t h' hq =>
        split at ho
        · next cj fs hl =>
          split at ho
          · next e =>
            subst e
            cases hp : x_lkN hs cj with
            | none => rw [hp] at ho; cases ho
            | some hpv =>
              rw [hp] at ho
              refine Or.inr ⟨(st.take k).reverse, st.drop k, cj, h', fs, hpv, ?_, rfl, ?_, Nat.not_lt.mp fun g => hn (Or.inr g), hrc, hq, hl, hp, (Option.some.inj ho).symm⟩
              · rw [List.reverse_reverse, List.take_append_drop]
              · have : ¬ st.length < k := fun g => hn (Or.inl g)
                simp; omega
          · cases ho
        · cases ho
      · cases ho
    · cases ho
set_option maxHeartbeats 1000000 in
theorem s_catch {K : xK} {scr : Option (Nat × Nat × (Nat → Int32))} {l : Launch} {y : MethodName} {cc : ByteArray} {mL : Nat} {ret : Option FieldType} {Ts : List Cond} {pc : Nat} {idx M k ci ml N : Nat} {C : String} {T : u_T} {ym : MethodName} {bs : ByteArray} {rt : Option FieldType} {wm ws' : List Cond} {hh : List (Nat × Nat × Nat × Nat)} {hs : List (Nat × Nat)}
    (hv : x_Sim K scr l y cc mL ret Ts pc (x_cv (pc + 3) M (k + 1) ci)) (hd : decode cc pc = .ok (.invokevirtual idx, 3)) (hy : K.2.2.1 M = ym) (hwm : K.2.2.2.1 M = wm) (hcl : K.1[ci]? = some (C, T, N)) (hGd : GoodIn Ts (wsV y.cls idx C ym wm)) (hw : wm = .code ym bs ml rt :: ws')
    (hdd : ym.cls = C ∧ ym.cls ≠ "java/lang/invoke/MethodHandle" ∧ ym.cls ≠ "java/lang/invoke/VarHandle" ∧ (parseMethodDescriptor ym.desc).map (fun d => d.parameters.length) = some k) (hml : ml ≤ 41)
    (hcw : Cond.codeWith y cc mL ret hh ∈ Ts) (hHs : ∀ t hp, x_lkN hs t = some hp → ∃ X T0, K.1[t]? = some (X, T0, 0) ∧ x_HT K.2.2.2.2.2 Ts y.cls X pc hh hp) : x_Sim K scr l y cc mL ret Ts pc (x_ct (pc + 3) M (k + 1) ci hs) := by
  intro G kA ad p e R s m args below meth c B d calls hok hf hl h0 z r hle ho
  obtain ⟨lv, st, h⟩ := z
  rcases x_ct_inv ho with ho1 | ⟨as, rest, t, h', fs9, hp, hst, has, hk, hsum, hrc, hc, hlast, hlk, rfl⟩
  · exact hv G kA ad p e R s m args below meth c B d calls hok hf hl h0 (lv, st, h) r hle ho1
  obtain ⟨b, As, fs, rfl, hb⟩ := x_rc_inv has hrc
  have hm := hok M (.ref (b + 3) :: As) h _ h' hc
  refine ⟨hm.1, fun hc1 hc2 Q kk ls H locs h1 h2 h3 => ?_⟩
  have hts := B.2.2.2.2.1
  have hK := B.2.2.2.2.2.2.2.2.1
  have hI := B.2.2.2.2.2.2.2.2.2.2.1
  have hown := B.2.2.2.2.2.1
  have g1 := hle.1
  have g2 := hle.2
  have g3 := hm.1.1
  have g4 := hm.1.2
  dsimp only at hc1 hc2 g1 g2
  rw [hy, hwm] at hm
  obtain ⟨X, T0, hcX, hHT⟩ := hHs t hp hlk
  have ok : ∀ w ∈ wsV y.cls idx C ym wm, w.before args s = true := fun w h => hts w (hGd w h).1
  have hlink : (Cond.methodLink y.cls idx ym).before args s = true := ok _ (by simp [wsV])
  have hinst : (Cond.instanceMethod ym).before args s = true := ok _ (by simp [wsV])
  have hsel : (Cond.selects C ym ym).before args s = true := ok _ (by simp [wsV])
  have hini : (Cond.initialized ym.cls).before args s = true := by rw [hdd.1]; exact ok _ (by simp [wsV])
  have hcode : (Cond.code ym bs ml rt).before args s = true := ok _ (by rw [hw]; simp [wsV])
  have hGm : GoodIn Ts wm := fun w h => hGd w (by unfold wsV; exact List.mem_append_right _ h)
  have hyn : ym.cls ≠ "java/lang/invoke/MethodHandle" ∧ ym.cls ≠ "java/lang/invoke/VarHandle" := ⟨hdd.2.1, hdd.2.2.1⟩
  show W p l e R s m args below meth c H locs (h.length - h0.length) (x_sl h - x_sl h0) Q (F0 m pc ls (st.map (x_v ad)))
  intro T1 hT X1
  obtain ⟨mk, methM, hnamed, hmethM, hstM, habM⟩ := Cond.instanceMethod_spec hinst
  obtain ⟨methM', cM, hmethM', -, -, -, -, -, -, hsigM⟩ := Cond.code_spec hnamed hcode
  cases hmethM.symm.trans hmethM'
  obtain ⟨c2, r2, m2, q1, q2, q3, q4, kP, hkP, hkPi⟩ := Cond.selects_spec hsel
  obtain ⟨cellB, hcB, hoB, hclB⟩ := va_recv hK h2.1 hcl (x_w_at hb)
  cases hclB.symm.trans q1
  cases (State.methodFound?_of_named hnamed hyn).symm.trans q2
  cases hnamed.symm.trans q3
  have hselP : selectMethod e.platform s.vm cellB.cls mk = .method mk := by rw [Launch.admits_selectMethod X1.admits]; exact q4
  have hlen : (As.map (x_v ad)).length = methM.sig.parameters.length := by
    have e9 := hdd.2.2.2
    rw [hsigM] at e9
    have e8 : methM.sig.parameters.length = k := Option.some.inj e9
    rw [e8, List.length_map]
    simpa using hk
  have hstk : (F0 m pc ls (st.map (x_v ad))).stack = (As.map (x_v ad)).reverse ++ .ref (ad (b + 3)) :: rest.map (x_v ad) := by
    show st.map (x_v ad) = _
    rw [hst]; simp [x_v]
  obtain ⟨vm1, X2, hstep⟩ := X1.invokevirtual B.1 hown hlink hnamed hmethM hstM hkP hkPi hyn (a := ad (b + 3)) (cell := cellB) (by rw [hT]; exact hcB) (fun z h => by rw [h] at hoB; cases hoB) hselP hmethM habM hkP hkPi (g := F0 m pc ls (st.map (x_v ad))) rfl (argsL := As.map (x_v ad)) (rest := rest.map (x_v ad)) hlen hstk (by rw [B.2.1]; exact hd)
  have hpre : x_Pc K G kA ad (.ref (b + 3) :: As) h (Value.ref (ad (b + 3)) :: As.map (x_v ad)).toArray (T1.setVm vm1) :=
    ⟨rfl, by show x_R K G kA ad h T1.heap; rw [hT]; exact h2, va_K.moved X2.warmed.alike hK, B.2.2.2.2.2.2.2.2.2.1.warm X2.warmed, hI.step X2.warmed hT h3⟩
  obtain ⟨x, t1, T2, L, X3, hL, e1, ⟨hx, hR2, hF⟩, hst2⟩ := x_noted X2 (hm.2 ad) (fun a st o t hq => ⟨ad (h'.length + 2), by rw [hq.1]; simp [x_out, x_isT]⟩) hw (pay_in hts hGm) hini rfl rfl (by show d + 8 + 1 ≤ R.frames; exact hf) (by show 8 + (ml + 11) + (60 * d + 200) ≤ R.locals; omega) (by omega) (by omega) x_blind
    (g := F0 m pc ls (rest.map (x_v ad))) (ig := .invokevirtual idx) (mk := mk) rfl (by rw [B.2.2.1]; exact h1.1) (by rw [B.2.1]; exact hd) (lv_room (m := m) (pc := pc) (ls := ls) (x_sum8 ad rest hsum)) (X2.named hnamed) hpre
  have hxa : x = ad (h'.length + 2) := by
    have e9 : Outcome.threw x = .threw (ad (h'.length + 2)) := by rw [hx]; simp [x_out, x_isT]
    exact Outcome.threw.inj e9
  subst hxa
  have hpos : h'.length - 1 + 3 = h'.length + 2 := by
    have := (List.getElem?_eq_some_iff.mp hlast).1
    omega
  obtain ⟨rr, hrr, cellX, k1, k2, k3, -⟩ := hR2.1 (h'.length - 1) _ (x_w_at hlast)
  rw [hpos] at k1
  have hXc : ClassAt s X cellX.cls := by rw [k2]; exact (hK.1 t _ hcX).2
  have hpl : e.platform.magicAccessors = ({} : Platform).magicAccessors := by rw [X1.admits.platform]
  obtain ⟨m9, meth9, c9, hn9, hm9, hc9, -, -, htab, -⟩ := Cond.codeWith_spec (hts _ hcw)
  cases B.2.2.2.2.2.2.2.2.2.2.2.1.symm.trans hn9
  cases X1.method.symm.trans hm9
  cases X1.code.symm.trans hc9
  obtain ⟨vm2, hW2, hfind⟩ := x_search (e := e) (f := F0 m pc ls (rest.map (x_v ad))) (a := ad (h'.length + 2)) hpl hown hXc (fun k hk9 => by rw [k3] at hk9; cases hk9) c.exceptionTable.toList ((T2.setTop (F0 m pc ls (rest.map (x_v ad)))).pushFrame (.throwing (ad (h'.length + 2))))
    (by rw [Stand.throwing_vm]; exact X3.warmed) (by rw [Stand.throwing_heap, e1]; exact k1) (by rw [htab]; exact hHT.at hI.1.alike hts)
  have hS2 : va_S (x_A ad) s.heap t1.heap (locs ++ L) := by
    have hh : ((T1.setVm vm1).calling (F0 m pc ls (rest.map (x_v ad))) mk (Value.ref (ad (b + 3)) :: As.map (x_v ad)).toArray).heap = H := hT
    refine ⟨?_, fun q z1 z2 => ?_, fun q hq => ?_⟩
    · have := hF.1; rw [hh] at this; exact Nat.le_trans h3.1 this
    · have := hF.2 q (by rw [hh]; exact Nat.lt_of_lt_of_le z1 h3.1) z2
      rw [this, hh]; exact h3.2.1 q z1 z2
    · rcases List.mem_append.mp hq with hq | hq
      · exact h3.2.2 q hq
      · exact hL q hq
  have w := kk ls t1.heap (locs ++ L) h1 hR2 hS2
  dsimp only at w
  have w2 : W p l e R s m args below meth c t1.heap (locs ++ L) (h.length - h0.length + (h'.length - h.length)) (x_sl h - x_sl h0 + (x_sl h' - x_sl h)) Q (F0 m hp ls [.ref (ad (h'.length + 2))]) := W.cs (by omega) (by omega) w
  obtain ⟨t3, a1, b1⟩ := w2 (T2.setVm vm2) e1 (X3.noted hW2)
  refine ⟨t3, hstep _ (fun acts => ?_), b1⟩
  rw [doInvoke_state]
  have hm2 : ((T2.setTop (F0 m pc ls (rest.map (x_v ad)))).pushFrame (.throwing (ad (h'.length + 2)))).vm.method? m = some meth := by rw [Stand.throwing_vm]; exact X3.method'
  exact hst2.trans (x_caught (e := e) (g := F0 m pc ls (rest.map (x_v ad))) (a := ad (h'.length + 2)) (vm1 := vm2) X3.here (fun Q9 E9 d9 acts9 => by rw [W.findHandler_eq hm2 X3.code]; exact hfind Q9 E9 d9 acts9) a1)
/-! methods with handlers: their contracts, their calls -/
section XCW
variable {K : xK} {scr : Option (Nat × Nat × (Nat → Int32))} {l : Launch} {y : MethodName} {cc : ByteArray} {mL : Nat} {ret : Option FieldType} {Ts : List Cond} {pc : Nat}
theorem x_metW {cd : List (Nat × xO)} {ws' : List Cond} {hh : List (Nat × Nat × Nat × Nat)} (hy : plainName y.cls = true) (hw : Ts = Cond.codeWith y cc mL ret hh :: ws') (hs : ∀ q ∈ cd, x_Sim K none l y cc mL ret Ts q.1 q.2) {G : va_G} {kA : Nat → ClassId} {d : Nat} {calls : xF} (hok : x_Ok K l G kA d calls)
    {as : List Value} (hlen : (lg_sl as).length ≤ mL) {h h' : xH} {v : Option Value} {n : Nat} (hle : x_le h h') (hgo : x_go cd calls n 0 (lv_args 0 as, [], h) = some (v, h')) : x_M K l G kA (d + 1) y Ts as h v h' := by
  refine ⟨hle, fun ad => ?_⟩
  refine MetFree.of_bodyS (code := cc) (maxLocals := mL) (ret := ret) hy ?_ ?_
  · intro args s m h hn
    obtain ⟨m9, meth, c, hn9, h1, h2, h3, h4, -, h5, h6, -⟩ := Cond.codeWith_spec (atoms_spec (ws := Ts) h _ (by rw [hw]; exact List.mem_cons_self))
    cases hn.symm.trans hn9
    exact ⟨meth, c, h1, h2, h3, h4, h5, h6⟩
  · intro p e s m args below meth c s₁ B hml hv _
    obtain ⟨rfl, hR, hK, hN, hI⟩ := hv
    have hlocks : meth.locks = false := B.notSynchronized
    have hB : x_B K none ad y cc mL ret Ts p s m (as.map (x_v ad)).toArray meth c G kA :=
      ⟨B.exec, B.bytes, hml, B.returns, atoms_spec (ws := Ts) B.pre, findClass_of_methodNamed B.named, hlocks, (name_of_methodNamed B.named B.method).1, hK, hN, hI, B.named, fun b L xs e => by cases e⟩
    have hsl : (lg_sl (as.map (x_v ad))).length ≤ mL := by
      have e : (lg_sl (as.map (x_v ad))).length = (lg_sl as).length := by
        simp only [lg_sl, List.length_flatMap, List.map_map]
        congr 1
        apply List.map_congr_left
        intro q _
        simp only [Function.comp, x_v_cat]
        split <;> rfl
      rw [e]; exact hlen
    have hl := lv_entry (as.map (x_v ad)) (n := mL) hsl
    rw [x_args] at hl
    obtain ⟨-, w⟩ := x_go_sim (below := below) (e := e) hs hB hok (R := (headSpec Ts (x_rm (d + 1) h h')).room) (Nat.le_refl _) (Nat.le_refl _) (h0 := h) (h' := h') (v := v) (Nat.le_refl _) (Nat.le_refl _) n 0 (lv_args 0 as, [], h) x_le.rf hgo
    have w1 := w _ s.heap [] hl hR va_S.rf
    have e1 : h.length - h.length = 0 := Nat.sub_self _
    have e2 : x_sl h - x_sl h = 0 := Nat.sub_self _
    dsimp only at w1
    rw [e1, e2] at w1
    have hh0 : s₁.heap = s.heap := by rw [B.state]; rfl
    have w2 : W p l e (headSpec Ts (x_rm (d + 1) h h')).room s m (as.map (x_v ad)).toArray below meth c s.heap [] 0 0 (x_MQ below (x_Qc K G kA ad v h') (as.map (x_v ad)).toArray s (h'.length - h.length) (x_sl h' - x_sl h) (x_A ad)) (entryFrame m (as.map (x_v ad)).toArray mL) := by
      rw [lg_entry_eq]; exact w1
    obtain ⟨t, a1, o, b1, b2, b3⟩ := w2 s₁ hh0 (Stand.of_body B)
    exact ⟨t, o, a1, b1, b2, b3⟩
theorem s_invokestaticW {idx M k ml : Nat} {ym : MethodName} {bs : ByteArray} {rt : Option FieldType} {hh : List (Nat × Nat × Nat × Nat)} {wm ws' : List Cond} (hd : decode cc pc = .ok (.invokestatic idx, 3)) (hy : K.2.2.1 M = ym) (hwm : K.2.2.2.1 M = wm) (hGd : GoodIn Ts (va_wsS y.cls idx ym wm)) (hw : wm = .codeWith ym bs ml rt hh :: ws')
    (hdd : ym.cls ≠ "java/lang/invoke/MethodHandle" ∧ ym.cls ≠ "java/lang/invoke/VarHandle" ∧ (parseMethodDescriptor ym.desc).map (fun d => d.parameters.length) = some k) (hml : ml ≤ 41) : x_Sim K scr l y cc mL ret Ts pc (x_cl_ (pc + 3) M k) := by
  intro G kA ad p e R s m args below meth c B d calls hok hf hl h0 z r hle ho
  obtain ⟨lv, st, h⟩ := z
  obtain ⟨as, rest, v, h', hst, has, hk, hsum, hc, hT, rfl⟩ := x_cl_inv ho
  have hm := hok M as h v h' hc
  refine ⟨hm.1, fun hc1 hc2 Q kk ls H locs h1 h2 h3 => ?_⟩
  have hts := B.2.2.2.2.1
  have hK := B.2.2.2.2.2.2.2.2.1
  have g1 := hle.1
  have g2 := hle.2
  have g3 := hm.1.1
  have g4 := hm.1.2
  dsimp only at hc1 hc2 g1 g2
  rw [hy, hwm] at hm
  have ok : ∀ w ∈ va_wsS y.cls idx ym wm, w.before args s = true := fun w h => hts w (hGd w h).1
  have hlink : (Cond.methodLink y.cls idx ym).before args s = true := ok _ (by simp [va_wsS])
  have hstat : (Cond.static ym).before args s = true := ok _ (by simp [va_wsS])
  have hinit : (Cond.initialized ym.cls).before args s = true := ok _ (by simp [va_wsS])
  have hcode : (Cond.codeWith ym bs ml rt hh).before args s = true := ok _ (by rw [hw]; simp [va_wsS])
  have hGm : GoodIn Ts wm := fun w h => hGd w (by unfold va_wsS; exact List.mem_append_right _ h)
  have hyn : ym.cls ≠ "java/lang/invoke/MethodHandle" ∧ ym.cls ≠ "java/lang/invoke/VarHandle" := ⟨hdd.1, hdd.2.1⟩
  show W p l e R s m args below meth c H locs (h.length - h0.length) (x_sl h - x_sl h0) Q (F0 m pc ls (st.map (x_v ad)))
  intro T1 hT1 X1
  obtain ⟨mk, methM, cM, hnamed, hmethM, -, -, -, -, -, -, hsigM⟩ := Cond.codeWith_spec hcode
  have hstatic : methM.isStatic = true := Cond.static_spec hnamed hmethM hstat
  obtain ⟨kP, hkP, -⟩ := className_of_methodNamed hnamed
  have hinitP : kP.init = .initialized := Cond.initialized_spec (findClass_of_methodNamed hnamed) hkP hinit
  have hlen : (as.map (x_v ad)).length = methM.sig.parameters.length := by
    have e9 := hdd.2.2
    rw [hsigM] at e9
    have e8 : methM.sig.parameters.length = k := Option.some.inj e9
    rw [e8, List.length_map, hk]
  obtain ⟨vm1, X2, hstep⟩ := X1.invokestatic B.1 B.2.2.2.2.2.1 hlink hnamed hmethM hstatic hkP hinitP hyn (g := F0 m pc ls (st.map (x_v ad))) rfl (argsL := as.map (x_v ad)) (rest := rest.map (x_v ad)) hlen (by show st.map (x_v ad) = _; rw [hst]; simp) (by rw [B.2.1]; exact hd)
  have hback := va_backW (l := l) (R := R) (p := p) (e := e) (below := below) (s := s) (sargs := args) (len := 3) (W := 8) (x_ret hT (hm.2 ad)) x_blind rfl rfl (by show d + 8 + 1 ≤ R.frames; exact hf) (by show 8 + (ml + 11) + (60 * d + 200) ≤ R.locals; omega) (pay_in hts hGm) (by rw [hw]; exact List.mem_cons_self) (fun a' U hW => word_at hW (Or.inl (by first | rfl | simp [Cond.onTables, Cond.keeps, Cond.steady])) hinit)
  have hpre : x_Pc K G kA ad as h (as.map (x_v ad)).toArray (T1.setVm vm1) :=
    ⟨rfl, by show x_R K G kA ad h T1.heap; rw [hT1]; exact h2, va_K.moved X2.warmed.alike hK, B.2.2.2.2.2.2.2.2.2.1.warm X2.warmed, B.2.2.2.2.2.2.2.2.2.2.1.step X2.warmed hT1 h3⟩
  obtain ⟨v2, ⟨U2, l2, c2, s2⟩, X3, ⟨g', mk', t, L, e1, e2, hq, z1, hL, z2, z3⟩, hsteps⟩ := hback m meth c ⟨T1.setVm vm1, locs, h.length - h0.length, x_sl h - x_sl h0⟩ (F0 m pc ls (rest.map (x_v ad))) (.invokestatic idx) mk (as.map (x_v ad)).toArray X2 rfl (by rw [B.2.2.1]; exact h1.1) (by rw [B.2.1]; exact hd) (lv_room (m := m) (pc := pc) (ls := ls) (x_sum8 ad rest hsum)) (X2.named hnamed) ⟨by show h.length - h0.length + _ ≤ _; omega, by show x_sl h - x_sl h0 + _ ≤ _; omega, hpre⟩
  dsimp only [Pt.U, Pt.locs, Pt.cells, Pt.slots] at X3 e1 e2 z1 z2 z3 hsteps
  subst z1; subst z2; subst z3
  obtain ⟨hv, hR2, hF⟩ := hq
  rw [x_out, if_neg (by rw [hT]; decide)] at hv
  cases Outcome.returned.inj hv
  have hS2 : va_S (x_A ad) s.heap t.heap (locs ++ L) := by
    have hh9 : ((T1.setVm vm1).calling g' mk' (as.map (x_v ad)).toArray).heap = H := hT1
    refine ⟨?_, fun q z1 z2 => ?_, fun q hq => ?_⟩
    · have := hF.1; rw [hh9] at this; exact Nat.le_trans h3.1 this
    · have := hF.2 q (by rw [hh9]; exact Nat.lt_of_lt_of_le z1 h3.1) z2
      rw [this, hh9]; exact h3.2.1 q z1 z2
    · rcases List.mem_append.mp hq with hq | hq
      · exact h3.2.2 q hq
      · exact hL q hq
  have w := kk ls t.heap (locs ++ L) h1 hR2 hS2
  dsimp only at w
  rw [← x_toL] at w
  have w2 : W p l e R s m args below meth c t.heap (locs ++ L) (h.length - h0.length + (h'.length - h.length)) (x_sl h - x_sl h0 + (x_sl h' - x_sl h)) Q (F0 m (pc + 3) ls ((v.map (x_v ad)).toList ++ rest.map (x_v ad))) := W.cs (by omega) (by omega) w
  obtain ⟨t3, a1, b1⟩ := w2 U2 e1 X3
  exact ⟨t3, hstep _ (fun acts => by rw [doInvoke_state]; exact hsteps.trans a1), b1⟩
end XCW
/-- a table of methods, some with handlers -/
def x_Tw (K : xK) (l : Launch) (tb : Nat → Option (List (Nat × xO) × Nat)) : Prop := ∀ M cd mL, tb M = some (cd, mL) →
  ∃ cc ret ws', plainName (K.2.2.1 M).cls = true ∧ (K.2.2.2.1 M = Cond.code (K.2.2.1 M) cc mL ret :: ws' ∨ ∃ hh, K.2.2.2.1 M = Cond.codeWith (K.2.2.1 M) cc mL ret hh :: ws') ∧ ∀ q ∈ cd, x_Sim K none l (K.2.2.1 M) cc mL ret (K.2.2.2.1 M) q.1 q.2
theorem x_call_okW {K : xK} {l : Launch} {tb : Nat → Option (List (Nat × xO) × Nat)} (hT : x_Tw K l tb) (F : Nat) (G : va_G) (kA : Nat → ClassId) : ∀ d, x_Ok K l G kA d (x_call tb F d) := by
  intro d
  induction d with
  | zero => intro M as h r h' e; cases e
  | succ d ih =>
    intro M as h r h' e
    unfold x_call at e
    split at e
    · cases e
    · next q hq =>
      split at e
      · next hlen =>
        obtain ⟨e1, hle⟩ := x_grew_inv e
        obtain ⟨cc, ret, ws', h1, h2, h3⟩ := hT M q.1 q.2 hq
        rcases h2 with h2 | ⟨hh, h2⟩
        · exact x_met h1 h2 h3 ih hlen hle e1
        · exact x_metW h1 h2 h3 ih hlen hle e1
      · cases e
