/-! THE CLAIM OUT OF ONE WALK OF THE LAW'S BODY. Your part is whole_start (and what it stands on); all else here is the same for every law, but numbers. -/
def R_law : String := "ProofDeskLaw"
def lw_P (b : Addr) (xs : List Int32) (args : Array Value) (s : State) : Prop := args = #[.ref b] ∧ s.IntsAt b xs ∧ xs.length ≤ 3584 ∧ (Jvm.Cond.and given_1 narrow_1).before args s = true
def lw_Q (_ : Array Value) (s : State) (o : Outcome) (t : State) : Prop := o = .returned (some (.int 1)) ∧ Framed s o t [] 601024 7293034
def lw_Z (below : List Frame) (a : Array Value) (s : State) : State → Prop := fun t => ∃ o, t.status = .running ∧ Ended t below o ∧ lw_Q a s o t
/-- the law's own end, with 1 on the stack, nothing written that was there before, its room as the claim has it -/
theorem lw_ret {p : Program} {l : Launch} {e : Env} {s : State} {m : MethodId} {below : List Frame} {meth : Method} {c : Code} {b : Nat} (hx : p.tables.exec = Jvm.exec) (hb : c.code = code) (hr : meth.sig.returnType = ret) (hlocks : meth.locks = false) {pc : Nat} {H : Heap} {ls : Array Slot} (hdg : decode code pc = .ok (.ireturn, 1)) : W p l e room_1 s m #[Value.ref b] below meth c H [] 601024 7293034 (lw_Z below #[Value.ref b] s) (F0 m pc ls [.int 1]) := by
  intro T hT X
  obtain ⟨fs, hret, hrun, hended, hW, hframe⟩ := X.leave (v := some (.int 1)) (hlocks := hlocks) (fun h => by rw [hr] at h; cases h)
  have hmeth' : T.vm.method? m = some meth := X.method'
  refine ⟨T.setFrames fs, ?_, .returned (some (.int 1)), hrun, hended, rfl, ⟨_, rfl⟩, hW, hframe⟩
  jvm_step X.here [X.here.top, hx, hb, hdg, hmeth', hr, ret, narrow_b1]
  (try refine ⟨rfl, ?_⟩); (try refine ⟨rfl, ?_⟩)
  first | (intro acts; rw [hret _ acts rfl rfl rfl]) | rw [hret _ _ rfl rfl rfl]
  exact Steps.refl _
/-- what holds at the law's entry: the machine, the code, the tables' words (any of lw_tbl by 'hts w (by decide +kernel)'), the script of L ints xs at the cell b, what the Statement gives of the start (any of its parts by flat_of_before) -/
def lw_At (p : Program) (s : State) (m : MethodId) (meth : Method) (c : Code) (b L : Nat) (xs : Nat → Int32) : Prop :=
  p.tables.exec = Jvm.exec ∧ c.code = code ∧ meth.sig.returnType = ret ∧ c.maxLocals = 7 ∧ s.vm.findClass R_law = some m.cls ∧ (∀ w ∈ lw_tbl, w.before #[Value.ref b] s = true) ∧ va_X b L xs s s.heap ∧ b < s.heap.size ∧ meth.locks = false ∧ (Jvm.Cond.and given_1 narrow_1).before #[Value.ref b] s = true ∧ s.methodNamed? x = some m

theorem x_noTr {l : Launch} (hf : l.flags = flags0) : l.stackTraces = false := by
  unfold Launch.stackTraces; rw [hf]; decide
theorem x_known {s : State} {cl : List vw_C} {tl : List FieldType} (h1 : ∀ q ∈ cl, ∃ (cC : ClassId) (iS : Nat → Nat), u_Kn s q.1 q.2.1 q.2.2 cC iS) (h2 : ∀ t ∈ tl, ∃ cA : ClassId, ArrOfT s cA t ∧ va_RA s cA t) :
    ∃ (G : va_G) (kA : Nat → ClassId), (∀ (c : Nat) (q : vw_C), cl[c]? = some q → u_Kn s q.1 q.2.1 q.2.2 (G.1 c) (G.2 c)) ∧ ∀ (i : Nat) (t : FieldType), tl[i]? = some t → ArrOfT s (kA i) t ∧ va_RA s (kA i) t := by
  have g1 : ∀ c : Nat, ∃ (r : ClassId × (Nat → Nat)), ∀ q, cl[c]? = some q → u_Kn s q.1 q.2.1 q.2.2 r.1 r.2 := fun c => by
    cases hq : cl[c]? with
    | none => exact ⟨(0, fun _ => 0), fun q h => by cases h⟩
    | some q =>
      obtain ⟨cC, iS, hk⟩ := h1 q (List.mem_of_getElem? hq)
      exact ⟨(cC, iS), fun q' h => by cases h; exact hk⟩
  have g2 : ∀ i : Nat, ∃ cA : ClassId, ∀ t, tl[i]? = some t → ArrOfT s cA t ∧ va_RA s cA t := fun i => by
    cases ht : tl[i]? with
    | none => exact ⟨0, fun t h => by cases h⟩
    | some t =>
      obtain ⟨cA, hk⟩ := h2 t (List.mem_of_getElem? ht)
      exact ⟨cA, fun t' h => by cases h; exact hk⟩
  exact ⟨(fun c => (Classical.choose (g1 c)).1, fun c => (Classical.choose (g1 c)).2), fun i => Classical.choose (g2 i), fun c q h => Classical.choose_spec (g1 c) q h, fun i t h => Classical.choose_spec (g2 i) t h⟩
theorem x_arrOf {s : State} {args : Array Value} {ty : FieldType} (h : (Cond.arrayClass ty).before args s = true) (hr : ∀ cA, s.vm.findClass ("[" ++ ty.toString) = some cA → va_RA s cA ty) : ∃ cA : ClassId, ArrOfT s cA ty ∧ va_RA s cA ty := by
  obtain ⟨cA, kA, comp, h1, h2, h3⟩ := Cond.arrayClass_spec h
  exact ⟨cA, fun n z => ⟨fun k h => (by cases h), kA, h2, comp, h3⟩, hr cA h1⟩
theorem x_arrOver {s : State} {args : Array Value} {n : String} (h : (Cond.arrayOver (.object n)).before args s = true) : ∃ cA : ClassId, ArrOfT s cA (.object n) ∧ va_RA s cA (.object n) := by
  obtain ⟨comp, cA, kA, h1, h2, h3, h4, h5⟩ := Cond.arrayOver_spec h
  exact ⟨cA, fun n z => ⟨fun k h => (by cases h), kA, h3, comp, h4⟩, kA, comp, h3, h4, h1, h5⟩
set_option maxHeartbeats 4000000 in
theorem x_begin {s : State} {args : Array Value} (hts : ∀ w ∈ lw_tbl, w.before args s = true) : ∃ (G : va_G) (kA : Nat → ClassId), va_K G (x_K s).1 (x_ty (x_K s) kA) s := by
  have hT : ∀ w ∈ q_wL, w.before args s = true := fun w hw => hts w ((List.mem_filter.mp (List.mem_cons.mp hw |>.elim (fun e => e ▸ mw_408) (fun h => h))).1)
  have g1 : ∀ q ∈ x_cl, ∃ (cC : ClassId) (iS : Nat → Nat), u_Kn s q.1 q.2.1 q.2.2 cC iS := List.forall_mem_cons.2 ⟨u_known hT q_in0 (n := 10) (hT _ (x_up mw_962)), List.forall_mem_cons.2 ⟨u_known hT q_in1 (n := 4) (hT _ (x_up mw_606)), List.forall_mem_cons.2 ⟨u_known hT q_in2 (n := 8) (hT _ (x_up mw_496)), List.forall_mem_cons.2 ⟨u_known hT q_in3 (n := 3) (hT _ (x_up mw_479)), List.forall_mem_cons.2 ⟨u_known hT q_in4 (n := 6) (hT _ (x_up mw_395)), List.forall_mem_cons.2 ⟨u_known hT q_in5 (n := 9) (hT _ (x_up mw_401)), List.forall_mem_cons.2 ⟨u_known hT q_in6 (n := 3) (hT _ (x_up mw_502)), List.forall_mem_cons.2 ⟨u_known hT q_in7 (n := 2) (hT _ (x_up mw_487)), List.forall_mem_cons.2 ⟨u_known hT q_in8 (n := 39) (hT _ (x_up mw_967)), List.forall_mem_cons.2 ⟨u_known hT (fun _ h => by cases h) (n := 6) (hT _ (x_up mw_126)), List.forall_mem_cons.2 ⟨u_known hT (fun _ h => by cases h) (n := 6) (hT _ (x_up mw_140)), List.forall_mem_cons.2 ⟨u_known hT (fun _ h => by cases h) (n := 6) (hT _ (x_up mw_152)), List.forall_mem_cons.2 ⟨u_known hT (fun _ h => by cases h) (n := 6) (hT _ (x_up mw_164)), List.forall_mem_cons.2 ⟨u_known hT q_in13 (n := 4) (hT _ (x_up mw_918)), List.forall_mem_cons.2 ⟨u_known hT q_in14 (n := 4) (hT _ (x_up mw_618)), fun _ h => absurd h List.not_mem_nil⟩⟩⟩⟩⟩⟩⟩⟩⟩⟩⟩⟩⟩⟩⟩
  have g2 : ∀ t ∈ x_tl, ∃ cA : ClassId, ArrOfT s cA t ∧ va_RA s cA t := List.forall_mem_cons.2 ⟨x_arrOf (hT _ (x_up mw_188)) (fun _ h => h), List.forall_mem_cons.2 ⟨x_arrOf (hT _ (x_up mw_191)) (fun _ h => h), List.forall_mem_cons.2 ⟨x_arrOf (hT _ (x_up mw_237)) (fun _ h => h), List.forall_mem_cons.2 ⟨x_arrOf (hT _ (x_up mw_971)) (fun _ h => h), List.forall_mem_cons.2 ⟨x_arrOver (hts (Cond.arrayOver (.object "ProofDesk$Clause")) (List.mem_append_right _ (List.mem_of_getElem? (i := 55) (by decide +kernel)))), List.forall_mem_cons.2 ⟨x_arrOf (hT _ (x_up mw_878)) (fun _ h => h), fun _ h => absurd h List.not_mem_nil⟩⟩⟩⟩⟩⟩
  obtain ⟨G, kA, h1, h2⟩ := x_known g1 g2
  refine ⟨G, kA, h1, fun k q hq => ?_⟩
  have e : (x_ty (x_K s) kA)[k]? = (x_tl[k]?).map (fun t => (kA k, t)) := by
    show (x_tl.mapIdx (fun i t => (kA i, t)))[k]? = _
    rw [List.getElem?_mapIdx]
  rw [e] at hq
  cases ht : x_tl[k]? with
  | none => rw [ht] at hq; cases hq
  | some t =>
    rw [ht] at hq
    cases hq
    exact h2 k t ht
set_option maxHeartbeats 4000000 in
theorem x_first {s : State} {b : Nat} (hts : ∀ w ∈ lw_tbl, w.before #[Value.ref b] s = true) (hgv : (Jvm.Cond.and given_1 narrow_1).before #[Value.ref b] s = true) : (∀ w ∈ x_ew, w.before #[] s = true) ∧ (∀ w ∈ x_ss, w.before #[] s = true) ∧ (∀ q ∈ x_np, va_Nc q.1 q.2 s) ∧ x_Nw (x_K s) s := by
  have hs := flat_of_before _ hgv
  refine ⟨?_, ?_, ?_, ?_⟩
  · exact List.forall_mem_cons.2 ⟨(hts (Cond.declares ⟨"java/lang/RuntimeException", "<init>", "(Ljava/lang/String;)V"⟩) (List.mem_append_right _ (List.mem_of_getElem? (i := 455) (by decide +kernel)))), List.forall_mem_cons.2 ⟨(hts (Cond.declares ⟨"java/lang/Exception", "<init>", "(Ljava/lang/String;)V"⟩) (List.mem_append_right _ (List.mem_of_getElem? (i := 457) (by decide +kernel)))), List.forall_mem_cons.2 ⟨(hts (Cond.declares ⟨"java/lang/Throwable", "<init>", "(Ljava/lang/String;)V"⟩) (List.mem_append_right _ (List.mem_of_getElem? (i := 459) (by decide +kernel)))), List.forall_mem_cons.2 ⟨(hts (Cond.laysStatic "java/lang/Throwable" "UNASSIGNED_STACK" "[Ljava/lang/StackTraceElement;") (List.mem_append_right _ (List.mem_of_getElem? (i := 478) (by decide +kernel)))), List.forall_mem_cons.2 ⟨(hts (Cond.laysStatic "java/lang/Throwable" "SUPPRESSED_SENTINEL" "Ljava/util/List;") (List.mem_append_right _ (List.mem_of_getElem? (i := 480) (by decide +kernel)))), List.forall_mem_cons.2 ⟨hs (.isRef (.static "java/lang/Throwable" "UNASSIGNED_STACK" "[Ljava/lang/StackTraceElement;")) (by decide +kernel), List.forall_mem_cons.2 ⟨hs (.isRef (.static "java/lang/Throwable" "SUPPRESSED_SENTINEL" "Ljava/util/List;")) (by decide +kernel), fun _ h => absurd h List.not_mem_nil⟩⟩⟩⟩⟩⟩⟩
  · exact List.forall_mem_cons.2 ⟨(hts (Cond.stringRef "ProofDesk" 69 "there are 30 clauses") (List.mem_append_right _ (List.mem_of_getElem? (i := 493) (by decide +kernel)))), List.forall_mem_cons.2 ⟨(hts (Cond.stringRef "ProofDesk" 76 "the draft can't be read as a clause") (List.mem_append_right _ (List.mem_of_getElem? (i := 529) (by decide +kernel)))), List.forall_mem_cons.2 ⟨(hts (Cond.stringRef "ProofDesk" 204 "#") (List.mem_append_right _ (List.mem_of_getElem? (i := 565) (by decide +kernel)))), List.forall_mem_cons.2 ⟨(hts (Cond.stringRef "ProofDesk" 89 "a clause, literal, rule, place or claim is not there") (List.mem_append_right _ (List.mem_of_getElem? (i := 929) (by decide +kernel)))), List.forall_mem_cons.2 ⟨(hts (Cond.stringRef "ProofDesk" 92 "the claim can't be read as a clause") (List.mem_append_right _ (List.mem_of_getElem? (i := 936) (by decide +kernel)))), List.forall_mem_cons.2 ⟨(hts (Cond.stringRef "ProofDesk" 96 "the step is not right") (List.mem_append_right _ (List.mem_of_getElem? (i := 946) (by decide +kernel)))), fun _ h => absurd h List.not_mem_nil⟩⟩⟩⟩⟩⟩
  · exact List.forall_mem_cons.2 ⟨va_Nc.of (hs (.not (.castable "java/lang/IllegalStateException" "java/lang/IllegalArgumentException")) (by decide +kernel)), List.forall_mem_cons.2 ⟨va_Nc.of (hs (.not (.castable "java/util/NoSuchElementException" "java/lang/IllegalStateException")) (by decide +kernel)), List.forall_mem_cons.2 ⟨va_Nc.of (hs (.not (.castable "java/lang/IllegalArgumentException" "java/lang/IllegalStateException")) (by decide +kernel)), List.forall_mem_cons.2 ⟨va_Nc.of (hs (.not (.castable "java/lang/IllegalArgumentException" "java/util/NoSuchElementException")) (by decide +kernel)), List.forall_mem_cons.2 ⟨va_Nc.of (hs (.not (.castable "java/lang/UnsupportedOperationException" "java/lang/IllegalStateException")) (by decide +kernel)), List.forall_mem_cons.2 ⟨va_Nc.of (hs (.not (.castable "java/lang/UnsupportedOperationException" "java/util/NoSuchElementException")) (by decide +kernel)), List.forall_mem_cons.2 ⟨va_Nc.of (hs (.not (.castable "java/lang/UnsupportedOperationException" "java/lang/IllegalArgumentException")) (by decide +kernel)), fun _ h => absurd h List.not_mem_nil⟩⟩⟩⟩⟩⟩⟩
  · exact List.forall_mem_cons.2 ⟨⟨rfl, (hts (Cond.arrayOver (.object "ProofDesk$Clause")) (List.mem_append_right _ (List.mem_of_getElem? (i := 55) (by decide +kernel))))⟩, List.forall_mem_cons.2 ⟨⟨rfl, (hts (Cond.castable "[I" "java/lang/Cloneable") (List.mem_append_right _ (List.mem_of_getElem? (i := 556) (by decide +kernel))))⟩, List.forall_mem_cons.2 ⟨⟨rfl, (hts (Cond.castable "[B" "java/lang/Cloneable") (List.mem_append_right _ (List.mem_of_getElem? (i := 628) (by decide +kernel))))⟩, List.forall_mem_cons.2 ⟨⟨rfl, (hts (Cond.methodLinkNest "ProofDesk$Deduction" 25 ⟨"ProofDesk", "hasTwoParents", "(I)Z"⟩ "ProofDesk") (List.mem_append_right _ (List.mem_of_getElem? (i := 790) (by decide +kernel))))⟩, List.forall_mem_cons.2 ⟨⟨rfl, (hts (Cond.methodLinkNest "ProofDesk$Deduction" 110 ⟨"ProofDesk", "placeOf", "(I)I"⟩ "ProofDesk") (List.mem_append_right _ (List.mem_of_getElem? (i := 837) (by decide +kernel))))⟩, fun _ h => absurd h List.not_mem_nil⟩⟩⟩⟩⟩
theorem x_Sh_of {s : State} {b : Nat} (hts : ∀ w ∈ lw_tbl, w.before #[Value.ref b] s = true) (hgv : (Jvm.Cond.and given_1 narrow_1).before #[Value.ref b] s = true) : (∃ sa sv su, x_Sh s sa sv su) ∧ x_Zi "java/lang/String" "COMPACT_STRINGS" "Z" 1 s ∧ ∀ w ∈ x_pm, w.before #[] s = true := by
  have hs := flat_of_before _ hgv
  have hsr := hts (Cond.stringRef "ProofDesk" 204 "#") (List.mem_append_right _ (List.mem_of_getElem? (i := 565) (by decide +kernel)))
  have hex := hs (.exactly (.string "ProofDesk" 204) "java/lang/String") (by decide +kernel)
  have hco := hs (.eq (.field (.string "ProofDesk" 204) "java/lang/String" "coder" "B") (.int 0)) (by decide +kernel)
  have har := hs (.arrayOf (.field (.string "ProofDesk" 204) "java/lang/String" "value" "[B") .byte) (by decide +kernel)
  have hle := hs (.eq (.length (.field (.string "ProofDesk" 204) "java/lang/String" "value" "[B")) (.int 1)) (by decide +kernel)
  have hel := hs (.eq (.elem (.field (.string "ProofDesk" 204) "java/lang/String" "value" "[B") (.int 0)) (.int 35)) (by decide +kernel)
  obtain ⟨a, c, cA, kA, q1, q2, q3, q4, q5, q6, -⟩ := Cond.exactly_spec (args := #[Value.ref b]) (first := s) (o := none) (s := s) (idx := []) hex
  have hT : ∀ A : Nat → Prop, (∀ q : Nat, q < s.heap.size → ¬ A q) → ∃ t, (Term.field (.string "ProofDesk" 204) "java/lang/String" "value" "[B").eval #[Value.ref b] s none [] s = some (.ref t) ∧ va_T .byte t 1 (fun _ => .int 35) A s s.heap := fun A hA =>
    va_Tof (N := 1) (f := fun _ => .int 35) (A := A) (by decide) har (va_eqt hle) (fun j hj => by
      obtain rfl : j = 0 := by omega
      exact va_eqt hel) hA
  obtain ⟨t0, ht0, -⟩ := hT (fun _ => False) (fun _ _ h => h)
  have hsi := hs (.isRef (.static "jdk/internal/util/Preconditions" "SIOOBE_FORMATTER" "Ljava/util/function/BiFunction;")) (by decide +kernel)
  have hlay := hts (Cond.laysStatic "jdk/internal/util/Preconditions" "SIOOBE_FORMATTER" "Ljava/util/function/BiFunction;") (List.mem_append_right _ (List.mem_of_getElem? (i := 287) (by decide +kernel)))
  have hini := hts (Cond.initialized "jdk/internal/util/Preconditions") (List.mem_append_right _ (List.mem_of_getElem? (i := 25) (by decide +kernel)))
  obtain ⟨su, hsu⟩ : ∃ su, (Term.static "jdk/internal/util/Preconditions" "SIOOBE_FORMATTER" "Ljava/util/function/BiFunction;").eval #[Value.ref b] s none [] s = some (x_fm su) := by
    obtain ⟨v, hv, hr⟩ := Cond.isRef_spec (args := #[Value.ref b]) (first := s) (o := none) (s := s) (idx := []) hsi
    cases v with
    | ref q => exact ⟨q + 1, hv⟩
    | null => exact ⟨0, hv⟩
    | _ => cases hr
  have hZ : x_Zi "java/lang/String" "COMPACT_STRINGS" "Z" 1 s := x_Zi.of (hts (Cond.laysStatic "java/lang/String" "COMPACT_STRINGS" "Z") (List.mem_append_right _ (List.mem_of_getElem? (i := 271) (by decide +kernel)))) (hts (Cond.initialized "java/lang/String") (List.mem_append_right _ (List.mem_of_getElem? (i := 21) (by decide +kernel)))) (hs (.eq (.static "java/lang/String" "COMPACT_STRINGS" "Z") (.int 1)) (by decide +kernel))
  have hP : ∀ w ∈ x_pm, w.before #[] s = true := List.forall_mem_cons.2 ⟨hts (Cond.privateMethod ⟨"java/lang/AbstractStringBuilder", "ensureCapacityInternal", "(I)V"⟩) (List.mem_append_right _ (List.mem_of_getElem? (i := 604) (by decide +kernel))), List.forall_mem_cons.2 ⟨hts (Cond.privateMethod ⟨"java/lang/AbstractStringBuilder", "newCapacity", "(I)I"⟩) (List.mem_append_right _ (List.mem_of_getElem? (i := 608) (by decide +kernel))), List.forall_mem_cons.2 ⟨hts (Cond.privateMethod ⟨"java/lang/AbstractStringBuilder", "inflate", "()V"⟩) (List.mem_append_right _ (List.mem_of_getElem? (i := 639) (by decide +kernel))), fun _ h => absurd h List.not_mem_nil⟩⟩⟩
  refine ⟨⟨a, t0, su, vk_R.of hsr q1, fun A hA => ⟨⟨cA, q3, q5, by rw [q6]; exact q2, hA a (Array.getElem?_eq_some_iff.mp q3).1⟩, vk_OFof q1 (va_eqt hco) hA, vk_OFof q1 ht0 hA, ?_, va_Zof hlay hini hsu hA⟩⟩, hZ, hP⟩
  obtain ⟨t, ht, h⟩ := hT A hA
  have e : t = t0 := by
    have := ht.symm.trans ht0
    simpa using this
  subst e
  exact h
/-- the run of the law at small gives the walk of its body -/
theorem x_start {p : Program} {e : Env} {s : State} {m : MethodId} {below : List Frame} {meth : Method} {c : Code} (l : Launch) (hfl : l.flags = flags0) {b L : Nat} {xs : Nat → Int32} (C0 : lw_At p s m meth c b L xs) (F d n : Nat) (hd : d ≤ 1000) {h' : xH}
    (hgo : x_go (q_kL b L xs) (x_call x_tb F d) n 0 ([(0, .retAddr (b + 1))], [], []) = some (some (.int 1), h')) (hc1 : h'.length ≤ 601024) (hc2 : x_sl h' ≤ 7293034) :
    W p l e room_1 s m #[Value.ref b] below meth c s.heap [] 0 0 (lw_Z below #[Value.ref b] s) (entryFrame m ([Value.ref b] : List Value).toArray 7) := by
  obtain ⟨hx, hcd, hret, hml, hown, hts, hX, hbl, hlk, hgv, hnm⟩ := C0
  obtain ⟨hE, hS, hN, hNw⟩ := x_first hts hgv
  obtain ⟨G, kA, hK⟩ := x_begin hts
  obtain ⟨⟨sa, sv, su, hSh⟩, hZ, hP⟩ := x_Sh_of hts hgv
  have had : ∀ k, (fun k => if k = 0 then sa else if k = 1 then sv else if k = 2 then su else s.heap.size + (k - 3)) (k + 3) = s.heap.size + k := fun k => by simp
  generalize hade : (fun k => if k = 0 then sa else if k = 1 then sv else if k = 2 then su else s.heap.size + (k - 3)) = ad at had
  have had0 : ad 0 = sa := by rw [← hade]; rfl
  have had1 : ad 1 = sv := by rw [← hade]; rfl
  have had2 : ad 2 = su := by rw [← hade]; rfl
  have hI : x_I s ad s := ⟨State.WarmedH.refl s, fun _ _ => rfl, Nat.le_refl _, fun k => by rw [had]; omega, by rw [had0, had1, had2]; exact hSh⟩
  have hP0 : va_P G (x_K s).1 (x_w kA ad []) s.heap := fun k q h => absurd h (by simp [x_w])
  have hD0 : va_D (x_A ad) (x_w kA ad []) := ⟨fun i j p q h => absurd h (by simp [x_w]), fun k q h => absurd h (by simp [x_w])⟩
  have hR : x_R (x_K s) G kA ad [] s.heap := by
    refine ⟨hP0, hD0, fun j => ?_⟩
    have h9 := had j
    show ad (0 + 3 + j) = _
    rw [show 0 + 3 + j = j + 3 by omega]
    exact h9
  have hT : ∀ w ∈ q_wL, w.before #[Value.ref b] s = true := fun w hw => hts w ((List.mem_filter.mp (List.mem_cons.mp hw |>.elim (fun e => e ▸ mw_408) (fun h => h))).1)
  intro T hT1 X
  have hB : x_B (x_K s) (some (b, L, xs)) ad x code 7 ret q_wL p s m #[Value.ref b] meth c G kA :=
    ⟨hx, hcd, hml, hret, hT, hown, hlk, (name_of_methodNamed hnm X.method).1, hK, hNw, hI, hnm, fun b' L' xs' e => by
      cases e
      refine ⟨hX, hbl, fun ⟨k, hk⟩ => ?_⟩
      rw [had] at hk
      omega⟩
  have hok := x_call_okW (x_Tb_ok l s (x_noTr hfl) hE hS hN hZ hP) F G kA d
  obtain ⟨-, w⟩ := x_go_sim (below := below) (e := e) (q_sL l s b L xs) hB hok (R := room_1) (by show d + 9 ≤ 2048; omega) (by show 60 * (d + 1) + 200 ≤ 84000; omega) (h0 := []) (h' := h') (v := some (.int 1)) (by show h'.length - 0 ≤ 601024; omega) (by show x_sl h' - 0 ≤ 7293034; omega) n 0 ([(0, .retAddr (b + 1))], [], []) x_le.rf hgo
  have hl := lv_entry [Value.ref b] (n := 7) (Nat.le_of_ble_eq_true rfl)
  have hl2 : lv_has ((lg_sl [Value.ref b] ++ List.replicate (7 - (lg_sl [Value.ref b]).length) Slot.unset).toArray) 7 (x_l ad [(0, .retAddr (b + 1))]) := by
    have e9 : x_l ad [(0, .retAddr (b + 1))] = lv_args 0 [Value.ref b] := by simp [x_l, lv_args, x_v]
    rw [e9]; exact hl
  have w1 := w _ s.heap [] hl2 hR va_S.rf
  have w2 : W p l e room_1 s m #[Value.ref b] below meth c s.heap [] 0 0 (lw_Z below #[Value.ref b] s) (entryFrame m ([Value.ref b] : List Value).toArray 7) := by
    rw [lg_entry_eq]
    refine x_W_mono (fun t ht => ?_) w1
    obtain ⟨o, h1, h2, ⟨h3, -, -⟩, L9, ⟨h4, h5⟩, h6⟩ := ht
    refine ⟨o, h1, h2, ?_, ⟨some (.int 1), ?_⟩, h4, ?_⟩
    · rw [h3]; rfl
    · rw [h3]; rfl
    · have h7 := h5.mono (show h'.length - ([] : xH).length ≤ 601024 by simpa using hc1) (show x_sl h' - x_sl [] ≤ 7293034 by show x_sl h' - 0 ≤ _; omega)
      obtain ⟨z1, z2, z3, z4, z5, z6⟩ := h7
      refine ⟨z1, z2, z3, z4, z5, fun a c9 hc9 => ?_⟩
      obtain ⟨c', y1, y2, y3, y4⟩ := z6 a c9 hc9
      refine ⟨c', y1, y2, y3, fun i _ => y4 i (fun hm => ?_)⟩
      obtain ⟨k, hk⟩ := h6 _ hm
      have hlt := (Array.getElem?_eq_some_iff.mp hc9).1
      have hk2 : a = ad (k + 3) := hk
      rw [hk2, had] at hlt
      omega
  exact w2 T hT1 X
