/-! THROWS: an object of a kind of RuntimeException is made with a text and thrown; its words; what the heap holds then -/
def x_RT : String := "java/lang/RuntimeException"
/-- what the tables say of java.lang.Throwable, of the constructors that pass the text on, and of the kind X itself, whose constructor's link stands at i1 -/
def x_xa (own : String) (ic : Nat) (X : String) (i1 : Nat) (b1 : ByteArray) : List Cond :=
  Bundle.throwableAtoms ++ (Bundle.throwableSAtoms ++ (Bundle.passSAtoms X x_RT i1 b1 ++ (Bundle.chainSAtoms x_RT ["java/lang/Exception"] ++
  ([.methodLink own ic (Bundle.initS X), .instantiable X 6, .selects X Bundle.tFill0 Bundle.tFill0, .selects X Bundle.tFill Bundle.tFill,
   .lays X Bundle.tN "cause" "Ljava/lang/Throwable;", .lays X Bundle.tN "stackTrace" Bundle.steD, .lays X Bundle.tN "suppressedExceptions" Bundle.listD, .lays X Bundle.tN "detailMessage" "Ljava/lang/String;",
   .fieldLink Bundle.tN 198 Bundle.tN "backtrace" "Ljava/lang/Object;", .lays Bundle.tN Bundle.tN "backtrace" "Ljava/lang/Object;", .lays X Bundle.tN "backtrace" "Ljava/lang/Object;"] ++
  [.isRef (.static Bundle.tN "UNASSIGNED_STACK" Bundle.steD), .isRef (.static Bundle.tN "SUPPRESSED_SENTINEL" Bundle.listD)]))))
/-- those of them that no steady word carries: they are read off the state with which all began -/
def x_ew : List Cond := [.declares (Bundle.initS x_RT), .declares (Bundle.initS "java/lang/Exception"), .declares (Bundle.initS Bundle.tN), .laysStatic Bundle.tN "UNASSIGNED_STACK" Bundle.steD, .laysStatic Bundle.tN "SUPPRESSED_SENTINEL" Bundle.listD,
  .isRef (.static Bundle.tN "UNASSIGNED_STACK" Bundle.steD), .isRef (.static Bundle.tN "SUPPRESSED_SENTINEL" Bundle.listD)]
theorem x_ew_dec {s0 s : State} {args : Array Value} {x : MethodName} (hW : s0.WarmedH s.vm) (h : (Cond.declares x).before #[] s0 = true) : (Cond.declares x).before args s = true := by
  have e := Cond.onTables_vm (A := #[]) (A' := args) (U := s0) (U' := s) s.vm (.declares x) rfl
  have hU : s.setVm s.vm = s := rfl
  rw [hU] at e
  rw [← e, Cond.declares_setVm hW.alike]
  exact h
theorem x_ew_lay {s0 s : State} {args : Array Value} {C n d : String} (hW : s0.WarmedH s.vm) (hh : ∀ q : Nat, q < s0.heap.size → s.heap[q]? = s0.heap[q]?) (h : (Cond.laysStatic C n d).before #[] s0 = true) : (Cond.laysStatic C n d).before args s = true := by
  have h1 : (Cond.laysStatic C n d).holds #[] (s0.setVm s.vm) none (s0.setVm s.vm) [] = true := Cond.holds_shifted (State.Shifted.of_warmed hW) (.laysStatic C n d) [] rfl h
  show (Cond.laysStatic C n d).holds args s none s [] = true
  have e1 : (s0.setVm s.vm).fieldFound? C n d = s.fieldFound? C n d := rfl
  have e2 : (s0.setVm s.vm).vm.findClass C = s.vm.findClass C := rfl
  have e3 : (s0.setVm s.vm).heap = s0.heap := rfl
  simp only [Cond.holds, Cond.value, e1, e2, e3] at h1 ⊢
  cases hc : s.vm.findClass C with
  | none => simp [hc] at h1
  | some c =>
    cases hf : s.fieldFound? C n d with
    | none => simp [hc, hf] at h1
    | some x =>
      obtain ⟨c', k, i, f⟩ := x
      cases hk : k.statics with
      | none => simp [hc, hf, hk] at h1
      | some q =>
        cases hq : s0.heap[q]? with
        | none => simp [hc, hf, hk, hq] at h1
        | some cell =>
          have hs : s.heap[q]? = some cell := by rw [hh q (Array.getElem?_eq_some_iff.mp hq).1]; exact hq
          simp only [hc, hf, hk, hq, hs, Option.bind_some, Option.map_some] at h1 ⊢
          exact h1
theorem x_ew_ref {s0 s : State} {args : Array Value} {C n d : String} (hW : s0.WarmedH s.vm) (hh : ∀ q : Nat, q < s0.heap.size → s.heap[q]? = s0.heap[q]?) (h : (Cond.isRef (.static C n d)).before #[] s0 = true) : (Cond.isRef (.static C n d)).before args s = true := by
  have h1 : (Cond.isRef (.static C n d)).holds #[] (s0.setVm s.vm) none (s0.setVm s.vm) [] = true := Cond.holds_shifted (State.Shifted.of_warmed hW) (.isRef (.static C n d)) [] rfl h
  show (Cond.isRef (.static C n d)).holds args s none s [] = true
  have e1 : (s0.setVm s.vm).fieldNamed? C n d true = s.fieldNamed? C n d true := rfl
  have e3 : (s0.setVm s.vm).heap = s0.heap := rfl
  have et : ∀ a9, (Term.static C n d).eval a9 (s0.setVm s.vm) none [] (s0.setVm s.vm) = none ∨ (Term.static C n d).eval args s none [] s = (Term.static C n d).eval a9 (s0.setVm s.vm) none [] (s0.setVm s.vm) := by
    intro a9
    simp only [Term.eval, e1, e3]
    cases hf : s.fieldNamed? C n d true with
    | none => exact Or.inl (by simp [hf])
    | some x =>
      obtain ⟨c', k, i⟩ := x
      cases hk : k.statics with
      | none => exact Or.inl (by simp [hf, hk])
      | some q =>
        cases hq : s0.heap[q]? with
        | none => exact Or.inl (by simp [hf, hk, hq])
        | some cell =>
          have hs : s.heap[q]? = some cell := by rw [hh q (Array.getElem?_eq_some_iff.mp hq).1]; exact hq
          exact Or.inr (by simp [hf, hk, hq, hs])
  rcases et #[] with h2 | h2
  · simp [Cond.holds, Cond.value, h2] at h1
  · simp only [Cond.holds, Cond.value] at h1 ⊢
    rw [h2]
    exact h1
theorem x_ew_at {s0 s : State} {ad : Nat → Nat} {args : Array Value} (hE : ∀ w ∈ x_ew, w.before #[] s0 = true) (hI : x_I s0 ad s) : ∀ w ∈ x_ew, w.before args s = true := by
  have hE' := hE
  unfold x_ew at hE ⊢
  simp only [List.forall_mem_cons] at hE ⊢
  obtain ⟨h1, h2, h3, h4, h5, h6, h7, -⟩ := hE
  exact ⟨x_ew_dec hI.1 h1, x_ew_dec hI.1 h2, x_ew_dec hI.1 h3, x_ew_lay hI.1 hI.2.1 h4, x_ew_lay hI.1 hI.2.1 h5, x_ew_ref hI.1 hI.2.1 h6, x_ew_ref hI.1 hI.2.1 h7, fun _ h => absurd h List.not_mem_nil⟩
/-- where a kind's statics lie: among the old cells -/
theorem x_stat {s0 s : State} {C n d : String} {c i q : Nat} {k : Class} {f : Field} (hW : s0.WarmedH s.vm) (h : (Cond.laysStatic C n d).before #[] s0 = true) (hf : s.fieldFound? C n d = some (c, k, i, f)) (hk : k.statics = some q) : q < s0.heap.size := by
  have h1 : (Cond.laysStatic C n d).holds #[] (s0.setVm s.vm) none (s0.setVm s.vm) [] = true := Cond.holds_shifted (State.Shifted.of_warmed hW) (.laysStatic C n d) [] rfl h
  have e1 : (s0.setVm s.vm).fieldFound? C n d = s.fieldFound? C n d := rfl
  have e2 : (s0.setVm s.vm).vm.findClass C = s.vm.findClass C := rfl
  have e3 : (s0.setVm s.vm).heap = s0.heap := rfl
  simp only [Cond.holds, Cond.value, e1, e2, e3, hf] at h1
  cases hc : s.vm.findClass C with
  | none => simp [hc] at h1
  | some c =>
    cases hq : s0.heap[q]? with
    | none => simp [hc, hk, hq] at h1
    | some cell => exact (Array.getElem?_eq_some_iff.mp hq).1
section XT
variable {p : Program} {l : Launch} {e : Env} {R : Room} {s : State} {m : MethodId} {args : Array Value} {below : List Frame} {meth : Method} {c : Code} {H : Heap} {locs : List Loc} {cells slots : Nat}
/-- ldc of a text that was resolved when all began -/
theorem x_ldcS {s0 : State} {ad : Nat → Nat} {Q : State → Prop} (hexec : p.tables.exec = Jvm.exec) {cc : ByteArray} (hb : c.code = cc) (hI : x_I s0 ad s) {own text : String} {index pc : Nat} {ls : Array Slot} {rest : List Value} (hown : s.vm.findClass own = some m.cls) (hc : (Cond.stringRef own index text).before #[] s0 = true) (hdg : decode cc pc = .ok (.ldc index, 2))
    (k : ∀ sa : Addr, W p l e R s m args below meth c H locs cells slots Q (F0 m (pc + 2) ls (.ref sa :: rest))) : W p l e R s m args below meth c H locs cells slots Q (F0 m pc ls rest) := by
  have hown0 : s0.vm.findClass own = some m.cls := by rw [← hI.1.alike.findClass]; exact hown
  obtain ⟨k0, cf, i, sa, hk, hcf, hcp, -, hr, -⟩ := Cond.stringRef_spec hown0 hc
  intro T hT X
  have hW : s0.WarmedH T.vm := State.WarmedH.trans hI.1 X.warmed
  obtain ⟨k', hk', he⟩ := hW.alike.2.2 _ _ hk
  have hr' : k'.resolved[index]? = some (some (.string sa)) := by
    rcases hW.entry hk hk' index with h | ⟨h, -⟩
    · rw [h]; exact hr
    · rw [hr] at h; cases h
  obtain ⟨t, a, b⟩ := k sa T hT X
  refine ⟨t, ?_, b⟩
  jvm_step X.here [hexec, hb, hdg, ldc.wp_string (e := e) (s := T) (f := F0 m pc ls rest) X.here.top hk' (by rw [he]; exact hcf) hcp hr']
  exact a
set_option maxHeartbeats 4000000 in
/-- the constructor's call and the throw behind it -/
theorem x_ctorW {K : xK} {G : va_G} {kA : Nat → ClassId} {ad : Nat → Nat} {h : xH} {X own : String} {T0 : u_T} {ci ic i1 pc mL : Nat} {b1 cc : ByteArray} {ls : Array Slot} {H1 : Heap} {kC : Class} {sa : Addr}
    (hexec : p.tables.exec = Jvm.exec) (hb : c.code = cc) (hml : c.maxLocals = mL) (hl : l.stackTraces = false) (hlocks : meth.locks = false) (hown : s.vm.findClass own = some m.cls) (hX : Bundle.fit X = true)
    (hd0 : decode b1 0 = .ok (.aload_n 0, 1)) (hd1 : decode b1 1 = .ok (.aload_n 1, 1)) (hd2 : decode b1 2 = .ok (.invokespecial i1, 3)) (hd5 : decode b1 5 = .ok (.return_, 1))
    (hat : ∀ w ∈ x_xa own ic X i1 b1, w.before args s = true) (hc : K.1[ci]? = some (X, T0, 0)) (hK : va_K G K.1 (x_ty K kA) s) (hI : x_I K.2.2.2.2.2 ad s)
    (hsz : ls.size = mL) (hkC : s.vm.classes[G.1 ci]? = some kC) (hR : x_R K G kA ad h H) (hS : va_S (x_A ad) s.heap H locs) (e1 : H1[H.size]? = some (blank (G.1 ci) kC)) (z1 : H1.size = H.size + 1) (o1 : ∀ q : Nat, q < H.size → H1[q]? = H[q]?)
    (hout : ∀ x ∈ c.exceptionTable.toList, covers x (pc + 3) = false) (hd6 : decode cc pc = .ok (.invokespecial ic, 3)) (hd9 : decode cc (pc + 3) = .ok (.athrow, 1)) (hRf : 8 ≤ R.frames) (hRl : 200 ≤ R.locals) (hE : ∀ w ∈ x_ew, w.before #[] K.2.2.2.2.2 = true) :
    W p l e R s m args below meth c H1 locs cells slots (x_MQ below (x_Qc K G kA ad (some (.retAddr ci)) (h ++ [.inr (ci, List.replicate 6 .null)])) args s cells slots (x_A ad)) (F0 m pc ls [.ref sa, .ref H.size, .ref H.size]) := by
  intro T hT X0
  subst hb
  have htr : e.platform.stackTraces = false := by rw [X0.admits.platform]; exact hl
  have howns : e.platform.frameOwnsMonitors = true := by rw [X0.admits.platform]
  have hfin : e.platform.finalization = false := by rw [X0.admits.platform]
  have hpl : e.platform.magicAccessors = ({} : Platform).magicAccessors := by rw [X0.admits.platform]
  have a' : ∀ w, w ∈ x_xa own ic X i1 b1 → w.holds args s none s [] = true := fun w hw => hat w hw
  obtain ⟨Tc, Z0, L, -, Y⟩ := ThrowableC.of_atoms (args := args) howns hfin hpl (fun w hw => hat w (by simp [x_xa, hw]))
  obtain ⟨Z, M, LZ, LM, hnZ⟩ := Init0T.ofS_atoms (args := args) hpl L Y (fun w hw => hat w (by simp [x_xa, hw]))
  obtain ⟨P2, Ps, hlen, L2, hL, hP2m, hlink2, hlink⟩ := Bundle.chainS (args := args) hpl hnZ ["java/lang/Exception"] x_RT (by decide +kernel) (by decide +kernel) (fun w hw => hat w (by simp [x_xa, hw]))
  obtain ⟨P1, L1, hP1m, hP1s⟩ := PassC.ofS_atoms (args := args) (s := s) hpl (X := X) (Y := x_RT) (Bundle.fit_spec hX).1 (by decide) hd0 hd1 hd2 hd5 (fun w hw => hat w (by simp [x_xa, hw]))
  have hsup : P1.sup = P2.m := Option.some.inj (hP1s.symm.trans hP2m)
  have hfound : s.vm.findClass X = some P1.m.cls := findClass_of_methodNamed hP1m
  have hcls : P1.m.cls = G.1 ci := Option.some.inj (hfound.symm.trans (hK.1 ci _ hc).2.1)
  obtain ⟨c1, kX, hc1, hk, hord, -, -, hn6⟩ := Cond.instantiable_spec (a' (.instantiable X 6) (by simp [x_xa]))
  cases Option.some.inj (hc1.symm.trans hfound)
  have ekX : kX = kC := by rw [← hcls] at hkC; exact Option.some.inj (hk.symm.trans hkC)
  subst ekX
  have hcell : T.heap[H.size]? = some (freshCell P1.m.cls kX) := by rw [hT, hcls]; exact e1
  have hsel0 : selectMethod e.platform s.vm P1.m.cls Tc.fill0 = .method Tc.fill0 := by
    obtain ⟨c2, r2, m2, q1, q2, q3, q4, -⟩ := Cond.selects_spec (a' (.selects X Bundle.tFill0 Bundle.tFill0) (by simp [x_xa]))
    cases Option.some.inj (q1.symm.trans hfound)
    cases Option.some.inj (q2.symm.trans (State.methodFound?_of_named Y.fill0 (by decide)))
    cases Option.some.inj (q3.symm.trans Y.fill0)
    rw [Launch.admits_selectMethod X0.admits]; exact q4
  have hselF : selectMethod e.platform s.vm P1.m.cls Tc.fill = .method Tc.fill := by
    obtain ⟨c2, r2, m2, q1, q2, q3, q4, -⟩ := Cond.selects_spec (a' (.selects X Bundle.tFill Bundle.tFill) (by simp [x_xa]))
    cases Option.some.inj (q1.symm.trans hfound)
    cases Option.some.inj (q2.symm.trans (State.methodFound?_of_named Y.fill (by decide)))
    cases Option.some.inj (q3.symm.trans Y.fill)
    rw [Launch.admits_selectMethod X0.admits]; exact q4
  obtain ⟨cellS, hcS, hiss⟩ := Y.statics
  obtain ⟨u0, hu0⟩ := Cond.staticRefV Y.unassigned L.unassignedStatic L.statics hcS hiss (a' (.isRef (.static Bundle.tN "UNASSIGNED_STACK" Bundle.steD)) (by simp [x_xa]))
  obtain ⟨sen, hsen⟩ := Cond.staticRefV Y.sentinel L.sentinelStatic L.statics hcS hiss (a' (.isRef (.static Bundle.tN "SUPPRESSED_SENTINEL" Bundle.listD)) (by simp [x_xa]))
  obtain ⟨ci198, i198, fB, hk198, hg198, ha198, hsB, -, hnB, htB, hffB⟩ := Cond.ownField (t := .object "java/lang/Object") Y.found L.cls (by decide +kernel) (a' (.fieldLink Bundle.tN 198 Bundle.tN "backtrace" "Ljava/lang/Object;") (by simp [x_xa])) (a' (.lays Bundle.tN Bundle.tN "backtrace" "Ljava/lang/Object;") (by simp [x_xa])) e.platform hpl
  have hslt : (Tc.aS : Nat) < s.heap.size := (Array.getElem?_eq_some_iff.mp hcS).1
  have hs0 : (Tc.aS : Nat) < K.2.2.2.2.2.heap.size := x_stat hI.1 (hE (.laysStatic Bundle.tN "UNASSIGNED_STACK" Bundle.steD) (by simp [x_ew])) Y.unassigned L.statics
  have hnA : ¬ x_A ad Tc.aS := by
    rintro ⟨k, hk9⟩
    rw [hk9] at hs0
    exact Nat.lt_irrefl _ (Nat.lt_of_le_of_lt (hI.2.2.2.1 k) hs0)
  have hHlt : s.heap.size ≤ H.size := hS.1
  have hcellS : T.heap[Tc.aS]? = some cellS := by
    rw [hT, o1 _ (Nat.lt_of_lt_of_le hslt hHlt), hS.2.1 _ hslt hnA]
    exact hcS
  have hknownS : cellS.vm ≠ .unknown := by
    intro hu
    rw [hu] at hiss
    cases hiss
  have hneS : Tc.aS ≠ H.size := Nat.ne_of_lt (Nat.lt_of_lt_of_le hslt hHlt)
  obtain ⟨iM, hffM⟩ := Y.msg
  obtain ⟨tyC, dC, hdC, hdnC⟩ := Cond.laysAt hfound hk Y.cause (a' (.lays X Bundle.tN "cause" "Ljava/lang/Throwable;") (by simp [x_xa]))
  obtain ⟨tyS, dS, hdS, hdnS⟩ := Cond.laysAt hfound hk Y.stack (a' (.lays X Bundle.tN "stackTrace" Bundle.steD) (by simp [x_xa]))
  obtain ⟨tyP, dP, hdP, hdnP⟩ := Cond.laysAt hfound hk Y.supp (a' (.lays X Bundle.tN "suppressedExceptions" Bundle.listD) (by simp [x_xa]))
  obtain ⟨tyM, dM, hdM, hdnM⟩ := Cond.laysAt hfound hk hffM (a' (.lays X Bundle.tN "detailMessage" "Ljava/lang/String;") (by simp [x_xa]))
  obtain ⟨tyB, dB, hdB, hdnB⟩ := Cond.laysAt hfound hk hffB (a' (.lays X Bundle.tN "backtrace" "Ljava/lang/Object;") (by simp [x_xa]))
  have bC := Cond.laysApart hdB hdC hdnB hdnC (by rw [hnB, Y.causeName]; decide)
  have bS := Cond.laysApart hdB hdS hdnB hdnS (by rw [hnB, Y.stackName]; decide)
  have bP := Cond.laysApart hdB hdP hdnB hdnP (by rw [hnB, Y.suppName]; decide)
  have hskip : SkipFacts Tc e.platform s (fun u => u) u0 ((preparedCellV Tc.toThrowableT (freshCell P1.m.cls kX) H.size u0 sen).withEntry T.cur) :=
    ⟨{ ci198 := ci198, i198 := i198, fBack := fB }, ⟨hk198, hg198, ha198, hsB⟩, by
      have := fresh_default (c := P1.m.cls) tyB
      rw [htB] at this
      simpa [preparedCellV, Cell.setSlot, Cell.withEntry, Array.getElem?_setIfInBounds, bC, bS, bP, bC.symm, bS.symm, bP.symm, defaultValue] using this, fun _ _ => rfl⟩
  obtain ⟨tm, methC, cdC, kC', vm₁, hnC, -, -, -, -, -, -, -, hW₁, st1⟩ := Steps.initColdS (tb := p.tables) (e := e) (below := below) (s := s) (U := T) X0.here hexec X0.warmed hpl hown (t := Bundle.initS X) rfl rfl (Bundle.fit_spec hX).2
    (a' (.methodLink own ic (Bundle.initS X)) (by simp [x_xa])) (hat (.instanceMethod (Bundle.initS X)) (by simp [x_xa, Bundle.passSAtoms])) (bytes := b1) (maxL := 2) (hat (.code (Bundle.initS X) b1 2 none) (by simp [x_xa, Bundle.passSAtoms]))
    (f := F0 m pc ls [.ref sa, .ref H.size, .ref H.size]) rfl (a := H.size) (msg := .ref sa) (rest := [.ref H.size]) rfl hd6
  cases Option.some.inj (hnC.symm.trans hP1m)
  have X₁ := X0.noted hW₁
  have hlp : Ps.length = 1 := hlen
  have hmr : (F0 m pc ls [.ref H.size]).monitorRoom = 0 := rfl
  obtain ⟨vm₂, X₂, st2⟩ := X₁.ctorMessageOffV hexec (g := F0 m pc ls [.ref H.size]) rfl (by rw [hml]; exact hsz) Tc L Z LZ M LM (P1 :: P2 :: Ps)
    (fun P hP => by
      rcases List.mem_cons.mp hP with rfl | hP
      · exact L1
      · rcases List.mem_cons.mp hP with rfl | hP
        · exact L2
        · exact hL P hP) ⟨hsup, hlink2, hlink⟩ (u0 := u0) (sen := sen) (self := H.size) (msg := .ref sa) rfl (cell := freshCell P1.m.cls kX) (cellS := cellS)
    hcell (fun _ => by simp) (by simp) rfl rfl hsel0 hselF hcellS hneS hknownS hu0 hsen
    (Takes.of_laid hk hord tyC (by rw [Y.causeType]; rfl)) (Takes.of_laid hk hord tyS (by rw [Y.stackType]; exact fits_refV_array _ u0)) (Takes.of_laid hk hord tyP (by rw [Y.suppType]; exact fits_refV_object _ sen))
    (Takes.of_laid hk hord tyM (by rw [Y.msgType]; rfl)) Y.objLocals hskip htr [] hd6
    (by simp only [List.length_cons, hlp]; omega) (by rw [hmr]; simp only [List.length_cons, hlp, List.map_cons, List.map_nil, Value.category, List.sum_cons, List.sum_nil]; omega)
  obtain ⟨hwalk, hrun, hended, hWU, hsame⟩ := X₂.athrowLeaves hexec (g := F0 m (pc + 3) ls [.ref H.size]) rfl rfl rfl hout (a := H.size) (rest := []) rfl hd9
  have e0 : ad (h.length + 3) = H.size := hR.2.2 0
  have hTs : T.heap.size = H.size + 1 := by rw [hT]; exact z1
  have hlt : H.size < ((T.setVm vm₁).setVm vm₂).heap.size := by show H.size < T.heap.size; omega
  have hU := heapAt_setCell_self (s := (T.setVm vm₁).setVm vm₂) (plainBareV Tc.toThrowableT (freshCell P1.m.cls kX) H.size u0 sen (.ref sa)) hlt
  have hold : ∀ q : Nat, q < H.size → (((T.setVm vm₁).setVm vm₂).setCell H.size (plainBareV Tc.toThrowableT (freshCell P1.m.cls kX) H.size u0 sen (.ref sa))).heap[q]? = H[q]? := fun q hq => by
    rw [heapAt_setCell_ne _ (Nat.ne_of_gt hq)]
    show T.heap[q]? = H[q]?
    rw [hT]; exact o1 q hq
  have hsz2 : (((T.setVm vm₁).setVm vm₂).setCell H.size (plainBareV Tc.toThrowableT (freshCell P1.m.cls kX) H.size u0 sen (.ref sa))).heap.size = H.size + 1 := by
    rw [size_setCell]; exact hTs
  refine ⟨_, st1 _ (fun acts => by rw [doInvoke_state]; exact st2 _ hwalk), .threw H.size, hrun, hended, ⟨?_, ?_, ?_⟩, _, ⟨hWU, hsame⟩, ?_⟩
  · simp [x_out, x_isT, e0]
  · refine hR.push (c := .inr (ci, List.replicate 6 .null)) ⟨_, hc, _, hU, ?_, ?_, fun k hk => absurd hk (Nat.not_lt_zero k)⟩ hsz2 hold
    · show P1.m.cls = G.1 ci
      exact hcls
    · rfl
  · refine ⟨?_, fun q hq hA => ?_⟩
    · show s.heap.size ≤ (((T.setVm vm₁).setVm vm₂).setCell H.size (plainBareV Tc.toThrowableT (freshCell P1.m.cls kX) H.size u0 sen (.ref sa))).heap.size
      rw [hsz2]
      omega
    · show (((T.setVm vm₁).setVm vm₂).setCell H.size (plainBareV Tc.toThrowableT (freshCell P1.m.cls kX) H.size u0 sen (.ref sa))).heap[q]? = _
      rw [hold q (Nat.lt_of_lt_of_le hq hHlt)]
      exact hS.2.1 q hq hA
  · intro q hq
    rcases List.mem_append.mp hq with h1 | h1
    · exact hS.2.2 q h1
    · have hb9 : q.base = H.size := by
        simp only [List.mem_cons, List.not_mem_nil, or_false] at h1
        rcases h1 with rfl | rfl | rfl | rfl | rfl <;> rfl
      exact ⟨h.length, by rw [hb9]; exact e0.symm⟩
end XT
def x_thr (ci : Nat) : xO := fun _ z => match z.2.1 with
  | [] => some (.inr (some (.retAddr ci), z.2.2 ++ [.inr (ci, List.replicate 6 .null)]))
  | _ => none
theorem s_throw {K : xK} {scr : Option (Nat × Nat × (Nat → Int32))} {l : Launch} {y : MethodName} {cc : ByteArray} {mL : Nat} {ret : Option FieldType} {Ts ws' : List Cond} {pc : Nat} {ci ia ib ic i1 : Nat} {X text : String} {T0 : u_T} {b1 : ByteArray} (hTs : Ts = Cond.code y cc mL ret :: ws') (hl : l.stackTraces = false) (hE : ∀ w ∈ x_ew, w.before #[] K.2.2.2.2.2 = true) (hstr : (Cond.stringRef y.cls ib text).before #[] K.2.2.2.2.2 = true) (hX : Bundle.fit X = true)
    (hb0 : decode b1 0 = .ok (.aload_n 0, 1)) (hb1 : decode b1 1 = .ok (.aload_n 1, 1)) (hb2 : decode b1 2 = .ok (.invokespecial i1, 3)) (hb5 : decode b1 5 = .ok (.return_, 1))
    (hat : ∀ w ∈ x_xa y.cls ic X i1 b1, w ∈ Ts ∨ w ∈ x_ew) (hcl : Cond.classLink y.cls ia X ∈ Ts) (hini : Cond.initialized X ∈ Ts) (hin6 : Cond.instantiable X 6 ∈ Ts) (hc : K.1[ci]? = some (X, T0, 0))
    (hd0 : decode cc pc = .ok (.new ia, 3)) (hd3 : decode cc (pc + 3) = .ok (.dup, 1)) (hd4 : decode cc (pc + 4) = .ok (.ldc ib, 2)) (hd6 : decode cc (pc + 6) = .ok (.invokespecial ic, 3)) (hd9 : decode cc (pc + 9) = .ok (.athrow, 1)) : x_Sim K scr l y cc mL ret Ts pc (x_thr ci) := by
  intro G kA ad p e R s m args below meth c B d calls hok hf hlo h0 z r hle ho
  obtain ⟨lv, st, h⟩ := z
  unfold x_thr at ho
  split at ho
  · next hst =>
    dsimp only at hst
    subst hst
    cases ho
    refine ⟨x_le_push, fun hc1 hc2 ls H locs h1 h2 h3 => ?_⟩
    have hts := B.2.2.2.2.1
    have hK := B.2.2.2.2.2.2.2.2.1
    have hI := B.2.2.2.2.2.2.2.2.2.2.1
    have hKn := hK.1 ci _ hc
    dsimp only at hc1 hc2 hle
    have g1 := hle.1
    have g2 := hle.2
    rw [List.length_append] at hc1
    rw [x_sl_push] at hc2
    simp only [List.length_cons, List.length_nil, x_c1, List.length_replicate] at hc1 hc2
    show W p l e R s m args below meth c H locs (h.length - h0.length) (x_sl h - x_sl h0) _ (F0 m pc ls [])
    refine W.newcK B.1 B.2.1 B.2.2.2.2.2.1 (hts _ hcl) (hts _ hin6) (hts _ hini) rfl hd0 (by omega) (by omega) hKn.2.1 rfl fun H1 kC hkC e1 z1 o1 => ?_
    refine lv_dup B.1 B.2.1 hd3 rfl ?_
    refine x_ldcS B.1 B.2.1 hI B.2.2.2.2.2.1 hstr hd4 (fun sa => ?_)
    have hatoms : ∀ w ∈ x_xa y.cls ic X i1 b1, w.before args s = true := fun w hw => (hat w hw).elim (fun q => hts w q) (fun q => x_ew_at hE hI w q)
    obtain ⟨meth', c', hm', hc', -, -, -, -, hemp, -⟩ := Cond.code_spec (args := args) (first := s) (o := none) (idx := []) B.2.2.2.2.2.2.2.2.2.2.2.1 (hts _ (by rw [hTs]; exact List.mem_cons_self))
    have hcov : ∀ T locs' k n, Stand p l e R s m args below meth c T locs' k n → ∀ x ∈ c.exceptionTable.toList, covers x (pc + 6 + 3) = false := fun T locs' k n X9 => by
      have em : meth = meth' := Option.some.inj (X9.method.symm.trans hm')
      subst em
      have ec : c = c' := Option.some.inj (X9.code.symm.trans hc')
      subst ec
      exact covers_of_empty hemp _
    intro T hT X9
    have w := x_ctorW (R := R) (e := e) (below := below) (meth := meth) (locs := locs) (cells := h.length - h0.length + 1) (slots := x_sl h - x_sl h0 + 6) (K := K) (h := h) (sa := sa) B.1 B.2.1 B.2.2.1 hl B.2.2.2.2.2.2.1 B.2.2.2.2.2.1 hX hb0 hb1 hb2 hb5 hatoms hc hK hI h1.1 hkC h2 h3 e1 z1 o1 (hcov _ _ _ _ X9) hd6 hd9 (by omega) (by omega) hE T hT X9
    have ea : (h ++ [Sum.inr (ci, List.replicate 6 Value.null)]).length - h0.length = h.length - h0.length + 1 := by simp; omega
    have eb : x_sl (h ++ [Sum.inr (ci, List.replicate 6 Value.null)]) - x_sl h0 = x_sl h - x_sl h0 + 6 := by rw [x_sl_push]; simp only [x_c1, List.length_replicate]; omega
    rw [ea, eb]
    exact w
  · cases ho
