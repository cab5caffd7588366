/-! THE MACHINE AT SMALL: a run of bytecode over an abstract heap, as a function that can be computed; and the rows that tie each of its instructions to the machine.
A heap is a list of cells; the reference .ref (i + 3) means cell i, .ref 0 the text #, .ref 1 its row of bytes, .retAddr 0 the value of a static field of the JDK that is handed on unread; .retAddr (b + 1) is the address b itself (the law's script); ad gives the machine's addresses. -/
abbrev xA : Type := List Int32 ⊕ List Int64 ⊕ List (Option Nat)
abbrev xC : Type := (Nat × xA) ⊕ (Nat × List Value)
abbrev xH : Type := List xC
abbrev xL : Type := List (Nat × Value)
abbrev xS : Type := xL × List Value × xH
abbrev xZ : Type := (Nat × xS) ⊕ (Option Value × xH)
abbrev xF : Type := Nat → List Value → xH → Option (Option Value × xH)
abbrev xO : Type := xF → xS → Option xZ
/-- the tables: the object kinds, the array kinds, the methods' names and words -/
abbrev xK : Type := List vw_C × List FieldType × (Nat → MethodName) × (Nat → List Cond) × List Cond × State
def x_fm (u : Nat) : Value := match u with
  | 0 => .null
  | q + 1 => .ref q
theorem x_fm_cat (u : Nat) : (x_fm u).category = 1 := by cases u <;> rfl
def x_v (ad : Nat → Nat) : Value → Value
  | .ref k => .ref (ad k)
  | .int x => .int x
  | .long x => .long x
  | .float x => .float x
  | .double x => .double x
  | .null => .null
  | .retAddr 0 => x_fm (ad 2)
  | .retAddr (n + 1) => .ref n
theorem x_v_cat (ad : Nat → Nat) (v : Value) : (x_v ad v).category = v.category := by
  cases v with
  | retAddr n =>
    cases n with
    | zero => exact x_fm_cat (ad 2)
    | succ n => rfl
  | _ => rfl
theorem x_v_narrow {ad : Nat → Nat} {ty : FieldType} {v : Value} (h : narrow ty v = v) : narrow ty (x_v ad v) = x_v ad v := by
  cases v with
  | retAddr n =>
    cases n with
    | zero =>
      show narrow ty (x_fm (ad 2)) = x_fm (ad 2)
      cases ad 2 <;> cases ty <;> rfl
    | succ n => cases ty <;> rfl
  | ref k => cases ty <;> rfl
  | _ => exact h
theorem x_v_fits {ad : Nat → Nat} {ty : FieldType} {v : Value} (h : fits ty v = true) : fits ty (x_v ad v) = true := by
  cases v with
  | retAddr n => cases ty <;> cases h
  | ref k => cases ty <;> first | exact h | rfl | cases h
  | _ => exact h
def x_a (ad : Nat → Nat) (a : xA) : vp_A := match a with
  | .inl xs => (xs.length, .inl (fun j => xs.getD j 0))
  | .inr (.inl xs) => (xs.length, .inr (.inl (fun j => xs.getD j 0)))
  | .inr (.inr xs) => (xs.length, .inr (.inr (.inr (.inr (fun j => (xs.getD j none).map ad)))))
def x_e (kA : Nat → ClassId) (ad : Nat → Nat) (c : xC) : va_E := match c with
  | .inl q => .inl (kA q.1, x_a ad q.2)
  | .inr q => .inr (q.1, q.2.map (x_v ad))
def x_w (kA : Nat → ClassId) (ad : Nat → Nat) (h : xH) : va_W := h.mapIdx (fun i c => (ad (i + 3), x_e kA ad c))
theorem x_w_at {kA : Nat → ClassId} {ad : Nat → Nat} {h : xH} {i : Nat} {c : xC} (hi : h[i]? = some c) : (x_w kA ad h)[i]? = some (ad (i + 3), x_e kA ad c) := by
  simp [x_w, hi]
theorem x_w_set {kA : Nat → ClassId} {ad : Nat → Nat} {h : xH} {i : Nat} {c : xC} : x_w kA ad (h.set i c) = (x_w kA ad h).set i (ad (i + 3), x_e kA ad c) := by
  apply List.ext_getElem?
  intro j
  simp only [x_w, List.getElem?_mapIdx, List.getElem?_set, List.length_mapIdx]
  by_cases hj : i = j
  · subst hj
    by_cases hl : i < h.length <;> simp [hl]
  · simp [hj]
theorem x_w_push {kA : Nat → ClassId} {ad : Nat → Nat} {h : xH} {c : xC} : x_w kA ad (h ++ [c]) = x_w kA ad h ++ [(ad (h.length + 3), x_e kA ad c)] := by
  simp [x_w, List.mapIdx_append]
def x_A (ad : Nat → Nat) : Nat → Prop := fun q => ∃ k, q = ad (k + 3)
def x_ty (K : xK) (kA : Nat → ClassId) : List (ClassId × FieldType) := K.2.1.mapIdx (fun i t => (kA i, t))
theorem x_ty_at {K : xK} {kA : Nat → ClassId} {t : Nat} {ty : FieldType} (h : K.2.1[t]? = some ty) : (x_ty K kA)[t]? = some (kA t, ty) := by
  simp [x_ty, h]
/-- the machine's heap holds the abstract one; the next cell that is made will have the address of the next place -/
def x_R (K : xK) (G : va_G) (kA : Nat → ClassId) (ad : Nat → Nat) (h : xH) (H : Heap) : Prop :=
  va_P G K.1 (x_w kA ad h) H ∧ va_D (x_A ad) (x_w kA ad h) ∧ ∀ j, ad (h.length + 3 + j) = H.size + j
theorem x_R.set {K : xK} {G : va_G} {kA : Nat → ClassId} {ad : Nat → Nat} {h : xH} {H H1 : Heap} {i : Nat} {c0 c : xC} (hR : x_R K G kA ad h H) (hi : h[i]? = some c0) (he : va_at G K.1 (ad (i + 3), x_e kA ad c) H1) (z : H1.size = H.size) (oq : ∀ q : Nat, q ≠ ad (i + 3) → H1[q]? = H[q]?) : x_R K G kA ad (h.set i c) H1 := by
  obtain ⟨hP, hD, hA⟩ := hR
  have hw := x_w_at (kA := kA) (ad := ad) hi
  refine ⟨?_, ?_, ?_⟩
  · rw [x_w_set]; exact hP.set hD hw he oq
  · rw [x_w_set]; exact hD.set hw
  · intro j
    rw [List.length_set, z]
    exact hA j
theorem x_R.push {K : xK} {G : va_G} {kA : Nat → ClassId} {ad : Nat → Nat} {h : xH} {H H1 : Heap} {c : xC} (hR : x_R K G kA ad h H) (he : va_at G K.1 (H.size, x_e kA ad c) H1) (z : H1.size = H.size + 1) (oq : ∀ q : Nat, q < H.size → H1[q]? = H[q]?) : x_R K G kA ad (h ++ [c]) H1 := by
  obtain ⟨hP, hD, hA⟩ := hR
  have e0 : ad (h.length + 3) = H.size := hA 0
  refine ⟨?_, ?_, ?_⟩
  · rw [x_w_push, e0]
    refine (hP.kept (fun k x hx => oq x.1 (hP k x hx).lt)).app (fun k x hx => ?_)
    have hz : k < 1 := (List.getElem?_eq_some_iff.mp hx).1
    rw [show k = 0 by omega] at hx
    cases hx
    exact he
  · rw [x_w_push, e0]
    exact hD.push hP rfl ⟨h.length, e0.symm⟩
  · intro j
    have h1 := hA (j + 1)
    have e : (h ++ [c]).length + 3 + j = h.length + 3 + (j + 1) := by simp; omega
    rw [e, h1, z]; omega
theorem x_S_push {A : Nat → Prop} {H0 H H1 : Heap} {locs : List Loc} (hS : va_S A H0 H locs) (z : H1.size = H.size + 1) (oq : ∀ q : Nat, q < H.size → H1[q]? = H[q]?) : va_S A H0 H1 locs :=
  ⟨Nat.le_trans hS.1 (by omega), fun x h1 h2 => (oq x (Nat.lt_of_lt_of_le h1 hS.1)).trans (hS.2.1 x h1 h2), hS.2.2⟩
def x_c1 (c : xC) : Nat := match c with
  | .inl (_, .inl xs) => xs.length
  | .inl (_, .inr (.inl xs)) => xs.length
  | .inl (_, .inr (.inr xs)) => xs.length
  | .inr (_, fs) => fs.length
def x_sl (h : xH) : Nat := (h.map x_c1).sum
theorem x_sl_push (h : xH) (c : xC) : x_sl (h ++ [c]) = x_sl h + x_c1 c := by simp [x_sl]
theorem x_sl_set {h : xH} {i : Nat} {c0 c : xC} (hi : h[i]? = some c0) (e : x_c1 c = x_c1 c0) : x_sl (h.set i c) = x_sl h := by
  have : (h.set i c).map x_c1 = h.map x_c1 := by
    apply List.ext_getElem?
    intro j
    simp only [List.getElem?_map, List.getElem?_set]
    by_cases hj : i = j
    · subst hj
      have hl : i < h.length := (List.getElem?_eq_some_iff.mp hi).1
      have he : h[i] = c0 := (List.getElem?_eq_some_iff.mp hi).2
      simp [hl, he, e]
    · simp [hj]
  simp [x_sl, this]
def x_le (h h' : xH) : Prop := h.length ≤ h'.length ∧ x_sl h ≤ x_sl h'
theorem x_le.rf {h : xH} : x_le h h := ⟨Nat.le_refl _, Nat.le_refl _⟩
theorem x_le.tr {h h1 h2 : xH} (a : x_le h h1) (b : x_le h1 h2) : x_le h h2 := ⟨Nat.le_trans a.1 b.1, Nat.le_trans a.2 b.2⟩
theorem x_le_set {h : xH} {i : Nat} {c0 c : xC} (hi : h[i]? = some c0) (e : x_c1 c = x_c1 c0) : x_le h (h.set i c) := ⟨by simp, Nat.le_of_eq (x_sl_set hi e).symm⟩
theorem x_le_push {h : xH} {c : xC} : x_le h (h ++ [c]) := ⟨by simp, by rw [x_sl_push]; omega⟩
def x_l (ad : Nat → Nat) (lv : xL) : List (Nat × Value) := lv.map (fun q => (q.1, x_v ad q.2))
def x_keep (i : Nat) (q : Nat × Value) : Bool := !(q.1 == i) && !(q.1 + 1 == i && q.2.category == 2)
theorem x_l_keep (ad : Nat → Nat) (i : Nat) (v : Value) (lv : xL) : (i, x_v ad v) :: (x_l ad lv).filter (fun q => !(q.1 == i) && !(q.1 + 1 == i && q.2.category == 2)) = x_l ad ((i, v) :: lv.filter (x_keep i)) := by
  have e : ((fun q : Nat × Value => !(q.1 == i) && !(q.1 + 1 == i && q.2.category == 2)) ∘ (fun q : Nat × Value => (q.1, x_v ad q.2))) = x_keep i := by
    funext q
    simp [x_keep, x_v_cat]
  simp only [x_l, List.filter_map, e, List.map_cons]
def x_lk : xL → Nat → Option Value
  | [], _ => none
  | q :: t, i => if q.1 = i then some q.2 else x_lk t i
theorem x_lk_mem : ∀ {lv : xL} {i : Nat} {v : Value}, x_lk lv i = some v → (i, v) ∈ lv
  | [], _, _, h => by cases h
  | q :: t, i, v, h => by
    unfold x_lk at h
    split at h
    · next e =>
      cases h
      subst e
      exact List.mem_cons_self
    · exact List.mem_cons_of_mem _ (x_lk_mem h)
theorem x_lk_at {ls : Array Slot} {mL : Nat} {ad : Nat → Nat} {lv : xL} {i : Nat} {v : Value} (hl : lv_has ls mL (x_l ad lv)) (h : x_lk lv i = some v) : ls[i]? = some (.val (x_v ad v)) :=
  hl.2.2 (i, x_v ad v) (List.mem_map.mpr ⟨(i, v), x_lk_mem h, rfl⟩)
theorem x_args (ad : Nat → Nat) : ∀ (as : List Value) (i : Nat), lv_args i (as.map (x_v ad)) = x_l ad (lv_args i as)
  | [], _ => rfl
  | v :: t, i => by
    simp only [List.map_cons, lv_args, x_l, x_v_cat]
    exact congrArg _ (x_args ad t _)
def x_isN (w : Cond) : Bool := match w with
  | .fieldLinkNest .. => true
  | .methodLinkNest .. => true
  | .arrayOver (.object _) => true
  | .castable .. => true
  | _ => false
/-- links to what a nest mate keeps to itself -/
def x_Nw (K : xK) (U : State) : Prop := ∀ w ∈ K.2.2.2.2.1, x_isN w = true ∧ va_Nw w U
theorem x_Nw.warm {K : xK} {s U : State} (hW : s.WarmedH U.vm) (h : x_Nw K s) : x_Nw K U := fun w hw => by
  obtain ⟨h1, h2⟩ := h w hw
  refine ⟨h1, ?_⟩
  cases w with
  | fieldLinkNest => exact va_Nw.warmF hW h2
  | methodLinkNest => exact va_Nw.warmM hW h2
  | castable => exact va_Nw.warmC hW h2
  | arrayOver t =>
    cases t with
    | object C => exact va_AO.moved hW.alike h2
    | _ => cases h1
  | _ => cases h1
theorem x_Nw.same {K : xK} {s U : State} (e : s.vm = U.vm) (h : x_Nw K s) : x_Nw K U := fun w hw => by
  obtain ⟨h1, h2⟩ := h w hw
  refine ⟨h1, ?_⟩
  cases w with
  | fieldLinkNest => exact va_Nw.same rfl e h2
  | methodLinkNest => exact va_Nw.same rfl e h2
  | castable => exact va_Nw.same rfl e h2
  | arrayOver t =>
    cases t with
    | object C => exact va_AO.moved (by rw [e]; exact Vm.Alike.refl U.vm) h2
    | _ => cases h1
  | _ => cases h1
/-- the text # at a, its bytes at v; the JDK's maker of messages at u -/
def x_Sh (s0 : State) (a v u : Nat) : Prop := vk_R "ProofDesk" 204 "#" a s0 ∧ ∀ A : Nat → Prop, (∀ q : Nat, q < s0.heap.size → ¬ A q) → va_O "java/lang/String" a A s0 s0.heap ∧ va_OF "java/lang/String" "coder" "B" (.int 0) a A s0 s0.heap ∧ va_OF "java/lang/String" "value" "[B" (.ref v) a A s0 s0.heap ∧ va_T .byte v 1 (fun _ => .int 35) A s0 s0.heap ∧ va_Z "jdk/internal/util/Preconditions" "SIOOBE_FORMATTER" "Ljava/util/function/BiFunction;" (x_fm u) A s0 s0.heap
/-- since the state s0, with which all began: the tables are warmer, the old cells are as they were -/
def x_I (s0 : State) (ad : Nat → Nat) (U : State) : Prop := s0.WarmedH U.vm ∧ (∀ q : Nat, q < s0.heap.size → U.heap[q]? = s0.heap[q]?) ∧ s0.heap.size ≤ U.heap.size ∧ (∀ k, s0.heap.size ≤ ad (k + 3)) ∧ x_Sh s0 (ad 0) (ad 1) (ad 2)
theorem x_I.step {s0 : State} {ad : Nat → Nat} {s U : State} {H : Heap} {locs : List Loc} (hI : x_I s0 ad s) (hW : s.WarmedH U.vm) (hU : U.heap = H) (hS : va_S (x_A ad) s.heap H locs) : x_I s0 ad U := by
  obtain ⟨h1, h2, h3, h4⟩ := hI
  refine ⟨State.WarmedH.trans h1 hW, fun q hq => ?_, by rw [hU]; exact Nat.le_trans h3 hS.1, h4⟩
  rw [hU, hS.2.1 q (Nat.lt_of_lt_of_le hq h3) (fun ⟨k, hk⟩ => by have := h4.1 k; omega)]
  exact h2 q hq
/-- an end that is a throw is told by .retAddr (the kind of what is thrown); the thrown object is then the last cell -/
def x_isT (r : Option Value) : Bool := match r with
  | some (.retAddr _) => true
  | _ => false
def x_out (ad : Nat → Nat) (r : Option Value) (h' : xH) : Outcome := if x_isT r = true then .threw (ad (h'.length + 2)) else .returned (r.map (x_v ad))
/-- as the kit's contracts, but an end may be a throw -/
def x_FE (first t : State) (L : List Loc) (k n : Nat) : Prop := first.WarmedH t.vm ∧ first.sameButNew ({ t with vm := first.vm } : State) L k n
def x_Met (l : Launch) (y : MethodName) (ws : List Cond) (rm : Room) (Pc : Array Value → State → Prop) (Qc : Array Value → State → Outcome → State → Prop) (mc ms : Nat) (free : Addr → Prop) : Prop :=
  MetFree l y (headSpec ws rm) Pc (fun _ _ _ _ _ => True) (fun a st o t => Qc a st o t ∧ ∃ L, x_FE st t L mc ms ∧ ∀ q ∈ L, free q.base)
def x_MQ (below : List Frame) (Qc : Array Value → State → Outcome → State → Prop) (a : Array Value) (s : State) (mc ms : Nat) (free : Addr → Prop) : State → Prop := fun t =>
  ∃ o, t.status = .running ∧ Ended t below o ∧ Qc a s o t ∧ ∃ L, x_FE s t L mc ms ∧ ∀ q ∈ L, free q.base
theorem x_MQ_of {below : List Frame} {Qc : Array Value → State → Outcome → State → Prop} {a : Array Value} {s : State} {mc ms : Nat} {free : Addr → Prop} {t : State} (h : MQ below Qc a s mc ms free t) : x_MQ below Qc a s mc ms free t := by
  obtain ⟨o, h1, h2, h3, L, ⟨-, h4, h5⟩, h6⟩ := h
  exact ⟨o, h1, h2, h3, L, ⟨h4, h5⟩, h6⟩
theorem x_W_mono {p : Program} {l : Launch} {e : Env} {R : Room} {s : State} {m : MethodId} {args : Array Value} {below : List Frame} {meth : Method} {c : Code} {H : Heap} {locs : List Loc} {cells slots : Nat} {Q Q' : State → Prop} {g : JFrame} (h : ∀ t, Q t → Q' t) (k : W p l e R s m args below meth c H locs cells slots Q g) : W p l e R s m args below meth c H locs cells slots Q' g := by
  intro T hT X
  obtain ⟨t, a, b⟩ := k T hT X
  exact ⟨t, a, h t b⟩
theorem x_toMet {l : Launch} {y : MethodName} {ws : List Cond} {rm : Room} {Pc : Array Value → State → Prop} {Qc : Array Value → State → Outcome → State → Prop} {mc ms : Nat} {free : Addr → Prop} (h : x_Met l y ws rm Pc Qc mc ms free) (hq : ∀ a st o t, Qc a st o t → ∃ v, o = .returned v) : Met l y ws rm Pc Qc mc ms free := by
  intro p e ha hc hk s m args below hf happ hP hK
  obtain ⟨n, o, h1, h2, h3, h4, L, ⟨h5, h6⟩, h7⟩ := h p e ha hc hk s m args below hf happ hP hK
  exact ⟨n, o, h1, h2, h3, h4, L, ⟨hq _ _ _ _ h4, h5, h6⟩, h7⟩
theorem x_ofW {l : Launch} {y : MethodName} {ws ws' : List Cond} {rm : Room} {Pc : Array Value → State → Prop} {Qc : Array Value → State → Outcome → State → Prop} {mc ms : Nat} {free : Addr → Prop} {cc : ByteArray} {maxL : Nat} {ret : Option FieldType}
    (hy : plainName y.cls = true) (hw : ws = Cond.code y cc maxL ret :: ws')
    (body : ∀ p e s m args below meth c s₁, BodyLoose p l y (headSpec ws rm) cc maxL ret e s m args below meth c s₁ → c.maxLocals = maxL → Pc args s →
      W p l e (headSpec ws rm).room s m args below meth c s.heap [] 0 0 (x_MQ below Qc args s mc ms free) (entryFrame m args maxL)) : x_Met l y ws rm Pc Qc mc ms free := by
  refine MetFree.of_bodyS (code := cc) (maxLocals := maxL) (ret := ret) hy ?_ ?_
  · intro args s m h hn
    obtain ⟨meth, c, h1, h2, h3, h4, h5, h6, -, -⟩ := Cond.code_spec hn (atoms_spec (ws := ws) h _ (by rw [hw]; exact List.mem_cons_self))
    exact ⟨meth, c, h1, h2, h3, h4, h5, h6⟩
  · intro p e s m args below meth c s₁ B hml hP _
    have hh0 : s₁.heap = s.heap := by rw [B.state]; rfl
    obtain ⟨t, a1, o, b1, b2, b3⟩ := body p e s m args below meth c s₁ B hml hP s₁ hh0 (Stand.of_body B)
    exact ⟨t, o, a1, b1, b2, b3⟩
def x_Qc (K : xK) (G : va_G) (kA : Nat → ClassId) (ad : Nat → Nat) (r : Option Value) (h' : xH) : Array Value → State → Outcome → State → Prop := fun _ st o t =>
  o = x_out ad r h' ∧ x_R K G kA ad h' t.heap ∧ va_F (x_A ad) st t
def x_Pc (K : xK) (G : va_G) (kA : Nat → ClassId) (ad : Nat → Nat) (as : List Value) (h : xH) : Array Value → State → Prop :=
  va_Pc (as.map (x_v ad)) (fun U => x_R K G kA ad h U.heap ∧ va_K G K.1 (x_ty K kA) U ∧ x_Nw K U ∧ x_I K.2.2.2.2.2 ad U)
def x_rm (d : Nat) (h h' : xH) : Room := { frames := d + 8, cells := h'.length - h.length, slots := x_sl h' - x_sl h, locals := 60 * d + 200 }
def x_M (K : xK) (l : Launch) (G : va_G) (kA : Nat → ClassId) (d : Nat) (y : MethodName) (ws : List Cond) (as : List Value) (h : xH) (r : Option Value) (h' : xH) : Prop :=
  x_le h h' ∧ ∀ ad, x_Met l y ws (x_rm d h h') (x_Pc K G kA ad as h) (x_Qc K G kA ad r h') (h'.length - h.length) (x_sl h' - x_sl h) (x_A ad)
def x_Ok (K : xK) (l : Launch) (G : va_G) (kA : Nat → ClassId) (d : Nat) (calls : xF) : Prop :=
  ∀ M as h r h', calls M as h = some (r, h') → x_M K l G kA d (K.2.2.1 M) (K.2.2.2.1 M) as h r h'
/-- what a method's body knows -/
def x_B (K : xK) (scr : Option (Nat × Nat × (Nat → Int32))) (ad : Nat → Nat) (y : MethodName) (cc : ByteArray) (mL : Nat) (ret : Option FieldType) (Ts : List Cond) (p : Program) (s : State) (m : MethodId) (args : Array Value) (meth : Method) (c : Code) (G : va_G) (kA : Nat → ClassId) : Prop :=
  p.tables.exec = Jvm.exec ∧ c.code = cc ∧ c.maxLocals = mL ∧ meth.sig.returnType = ret ∧ (∀ w ∈ Ts, w.before args s = true) ∧ s.vm.findClass y.cls = some m.cls ∧ meth.locks = false ∧ meth.name = y.name ∧ va_K G K.1 (x_ty K kA) s ∧ x_Nw K s ∧ x_I K.2.2.2.2.2 ad s ∧ s.methodNamed? y = some m ∧ ∀ b L xs, scr = some (b, L, xs) → va_X b L xs s s.heap ∧ b < s.heap.size ∧ ¬ x_A ad b
def x_W (K : xK) (G : va_G) (kA : Nat → ClassId) (ad : Nat → Nat) (mL : Nat) (p : Program) (l : Launch) (e : Env) (R : Room) (s : State) (m : MethodId) (args : Array Value) (below : List Frame) (meth : Method) (c : Code) (h0 : xH) (Q : State → Prop) (pc : Nat) (z : xS) : Prop :=
  ∀ ls H locs, lv_has ls mL (x_l ad z.1) → x_R K G kA ad z.2.2 H → va_S (x_A ad) s.heap H locs → W p l e R s m args below meth c H locs (z.2.2.length - h0.length) (x_sl z.2.2 - x_sl h0) Q (F0 m pc ls (z.2.1.map (x_v ad)))
/-- an instruction at pc does what o says -/
def x_Sim (K : xK) (scr : Option (Nat × Nat × (Nat → Int32))) (l : Launch) (y : MethodName) (cc : ByteArray) (mL : Nat) (ret : Option FieldType) (Ts : List Cond) (pc : Nat) (o : xO) : Prop :=
  ∀ (G : va_G) (kA : Nat → ClassId) (ad : Nat → Nat) (p : Program) (e : Env) (R : Room) (s : State) (m : MethodId) (args : Array Value) (below : List Frame) (meth : Method) (c : Code),
    x_B K scr ad y cc mL ret Ts p s m args meth c G kA → ∀ (d : Nat) (calls : xF), x_Ok K l G kA d calls → d + 9 ≤ R.frames → 60 * (d + 1) + 200 ≤ R.locals →
    ∀ (h0 : xH) (z : xS) (r : xZ), x_le h0 z.2.2 → o calls z = some r →
    match r with
    | .inl (pc', z') => x_le z.2.2 z'.2.2 ∧ (z'.2.2.length - h0.length ≤ R.cells → x_sl z'.2.2 - x_sl h0 ≤ R.slots → ∀ Q, x_W K G kA ad mL p l e R s m args below meth c h0 Q pc' z' → x_W K G kA ad mL p l e R s m args below meth c h0 Q pc z)
    | .inr (v, h') => x_le z.2.2 h' ∧ (h'.length - h0.length ≤ R.cells → x_sl h' - x_sl h0 ≤ R.slots → x_W K G kA ad mL p l e R s m args below meth c h0 (x_MQ below (x_Qc K G kA ad v h') args s (h'.length - h0.length) (x_sl h' - x_sl h0) (x_A ad)) pc z)
/-! the run -/
def x_fetch : List (Nat × xO) → Nat → xO
  | [], _ => fun _ _ => none
  | q :: t, pc => if q.1 = pc then q.2 else x_fetch t pc
def x_go (cd : List (Nat × xO)) (calls : xF) : Nat → Nat → xS → Option (Option Value × xH)
  | 0, _, _ => none
  | n + 1, pc, z => match x_fetch cd pc calls z with
    | none => none
    | some (.inl q) => x_go cd calls n q.1 q.2
    | some (.inr q) => some q
theorem x_fetch_mem : ∀ {cd : List (Nat × xO)} {pc : Nat} {calls : xF} {z : xS} {r : xZ}, x_fetch cd pc calls z = some r → (pc, x_fetch cd pc) ∈ cd
  | [], _, _, _, _, h => by cases h
  | q :: t, pc, calls, z, r, h => by
    unfold x_fetch at h ⊢
    split at h
    · next e =>
      rw [if_pos e]
      subst e
      exact List.mem_cons_self
    · next e =>
      rw [if_neg e]
      exact List.mem_cons_of_mem _ (x_fetch_mem h)
section XG
variable {K : xK} {scr : Option (Nat × Nat × (Nat → Int32))} {l : Launch} {y : MethodName} {cc : ByteArray} {mL : Nat} {ret : Option FieldType} {Ts : List Cond} {pc : Nat}
theorem x_go_sim {cd : List (Nat × xO)} (hs : ∀ q ∈ cd, x_Sim K scr l y cc mL ret Ts q.1 q.2) {G : va_G} {kA : Nat → ClassId} {ad : Nat → Nat} {p : Program} {e : Env} {R : Room} {s : State} {m : MethodId} {args : Array Value} {below : List Frame} {meth : Method} {c : Code}
    (B : x_B K scr ad y cc mL ret Ts p s m args meth c G kA) {d : Nat} {calls : xF} (hok : x_Ok K l G kA d calls) (hf : d + 9 ≤ R.frames) (hl : 60 * (d + 1) + 200 ≤ R.locals) {h0 h' : xH} {v : Option Value} (hc1 : h'.length - h0.length ≤ R.cells) (hc2 : x_sl h' - x_sl h0 ≤ R.slots) :
    ∀ (n pc : Nat) (z : xS), x_le h0 z.2.2 → x_go cd calls n pc z = some (v, h') → x_le z.2.2 h' ∧ x_W K G kA ad mL p l e R s m args below meth c h0 (x_MQ below (x_Qc K G kA ad v h') args s (h'.length - h0.length) (x_sl h' - x_sl h0) (x_A ad)) pc z := by
  intro n
  induction n with
  | zero => intro pc z _ h; cases h
  | succ n ih =>
    intro pc z hle h
    unfold x_go at h
    cases hr : x_fetch cd pc calls z with
    | none => rw [hr] at h; cases h
    | some r =>
      rw [hr] at h
      have hsim := hs _ (x_fetch_mem hr) G kA ad p e R s m args below meth c B d calls hok hf hl h0 z r hle hr
      cases r with
      | inl q =>
        obtain ⟨pc', z'⟩ := q
        obtain ⟨hle1, k⟩ := hsim
        obtain ⟨hle2, w⟩ := ih pc' z' (hle.tr hle1) h
        exact ⟨hle1.tr hle2, k (by have := hle2.1; omega) (by have := hle2.2; omega) _ w⟩
      | inr q =>
        obtain ⟨v', h1⟩ := q
        cases h
        obtain ⟨hle1, w⟩ := hsim
        exact ⟨hle1, w hc1 hc2⟩
/-- the growth alone, where no machine stands -/
theorem x_met {cd : List (Nat × xO)} {ws' : List Cond} (hy : plainName y.cls = true) (hw : Ts = Cond.code y cc mL ret :: ws') (hs : ∀ q ∈ cd, x_Sim K none l y cc mL ret Ts q.1 q.2) {G : va_G} {kA : Nat → ClassId} {d : Nat} {calls : xF} (hok : x_Ok K l G kA d calls)
    {as : List Value} (hlen : (lg_sl as).length ≤ mL) {h h' : xH} {v : Option Value} {n : Nat} (hle : x_le h h') (hgo : x_go cd calls n 0 (lv_args 0 as, [], h) = some (v, h')) : x_M K l G kA (d + 1) y Ts as h v h' := by
  refine ⟨hle, fun ad => x_ofW (cc := cc) (maxL := mL) (ret := ret) hy hw ?_⟩
  intro p e s m args below meth c s₁ B hml hv
  obtain ⟨rfl, hR, hK, hN, hI⟩ := hv
  have hlocks : meth.locks = false := B.notSynchronized
  have hB : x_B K none ad y cc mL ret Ts p s m (as.map (x_v ad)).toArray meth c G kA :=
    ⟨B.exec, B.bytes, hml, B.returns, atoms_spec (ws := Ts) B.pre, findClass_of_methodNamed B.named, hlocks, (name_of_methodNamed B.named B.method).1, hK, hN, hI, B.named, fun b L xs e => by cases e⟩
  have hsl : (lg_sl (as.map (x_v ad))).length ≤ mL := by
    have e : (lg_sl (as.map (x_v ad))).length = (lg_sl as).length := by
      simp only [lg_sl, List.length_flatMap, List.map_map]
      congr 1
      apply List.map_congr_left
      intro q _
      simp only [Function.comp, x_v_cat]
      split <;> rfl
    rw [e]; exact hlen
  have hl := lv_entry (as.map (x_v ad)) (n := mL) hsl
  rw [lg_entry_eq]
  rw [x_args] at hl
  obtain ⟨-, w⟩ := x_go_sim (below := below) (e := e) hs hB hok (R := (headSpec Ts (x_rm (d + 1) h h')).room) (Nat.le_refl _) (Nat.le_refl _) (h0 := h) (h' := h') (v := v) (Nat.le_refl _) (Nat.le_refl _) n 0 (lv_args 0 as, [], h) x_le.rf hgo
  have w1 := w _ s.heap [] hl hR va_S.rf
  have e1 : h.length - h.length = 0 := Nat.sub_self _
  have e2 : x_sl h - x_sl h = 0 := Nat.sub_self _
  rw [e1, e2] at w1
  exact w1
end XG

section XS
variable {K : xK} {scr : Option (Nat × Nat × (Nat → Int32))} {l : Launch} {y : MethodName} {cc : ByteArray} {mL : Nat} {ret : Option FieldType} {Ts : List Cond} {pc : Nat}
def x_st (f : List Value → Option (Nat × List Value)) : xO := fun _ z => match f z.2.1 with
  | some q => some (.inl (q.1, z.1, q.2, z.2.2))
  | none => none
theorem x_st_sim {f : List Value → Option (Nat × List Value)}
    (hh : ∀ {G : va_G} {kA : Nat → ClassId} {p : Program} {e : Env} {R : Room} {s : State} {m : MethodId} {args : Array Value} {below : List Frame} {meth : Method} {c : Code} {H : Heap} {locs : List Loc} {cells slots : Nat} {Q : State → Prop} {ls : Array Slot} (ad : Nat → Nat),
      x_B K scr ad y cc mL ret Ts p s m args meth c G kA → ∀ st n st', f st = some (n, st') → W p l e R s m args below meth c H locs cells slots Q (F0 m n ls (st'.map (x_v ad))) → W p l e R s m args below meth c H locs cells slots Q (F0 m pc ls (st.map (x_v ad)))) :
    x_Sim K scr l y cc mL ret Ts pc (x_st f) := by
  intro G kA ad p e R s m args below meth c B d calls hok hf hl h0 z r hle ho
  obtain ⟨lv, st, h⟩ := z
  unfold x_st at ho
  cases hs : f st with
  | none => simp only [hs] at ho; cases ho
  | some q =>
    obtain ⟨n, st'⟩ := q
    simp only [hs] at ho
    cases ho
    exact ⟨x_le.rf, fun _ _ Q k ls H locs h1 h2 h3 => hh ad B st n st' hs (k ls H locs h1 h2 h3)⟩
/-! constants -/
def x_push (n : Nat) (v : Value) : List Value → Option (Nat × List Value) := fun st => some (n, v :: st)
theorem s_iconst {k : Int} {v : Int32} (hd : decode cc pc = .ok (.iconst k, 1)) (hv : Int32.ofInt k = v) : x_Sim K scr l y cc mL ret Ts pc (x_st (x_push (pc + 1) (.int v))) :=
  x_st_sim fun ad B st n st' hs k => by cases hs; exact lv_iconst B.1 B.2.1 hd hv k
theorem s_bipush {k : Int} {v : Int32} (hd : decode cc pc = .ok (.bipush k, 2)) (hv : (Int8.ofInt k).toInt32 = v) : x_Sim K scr l y cc mL ret Ts pc (x_st (x_push (pc + 2) (.int v))) :=
  x_st_sim fun ad B st n st' hs k => by cases hs; exact lv_bipush B.1 B.2.1 hd hv k
theorem s_sipush {k : Int} {v : Int32} (hd : decode cc pc = .ok (.sipush k, 3)) (hv : (Int16.ofInt k).toInt32 = v) : x_Sim K scr l y cc mL ret Ts pc (x_st (x_push (pc + 3) (.int v))) :=
  x_st_sim fun ad B st n st' hs k => by cases hs; exact lv_sipush B.1 B.2.1 hd hv k
theorem s_null (hd : decode cc pc = .ok (.aconst_null, 1)) : x_Sim K scr l y cc mL ret Ts pc (x_st (x_push (pc + 1) .null)) :=
  x_st_sim fun ad B st n st' hs k => by cases hs; exact lv_null B.1 B.2.1 hd k
theorem s_ldc {i : Nat} {v : Int32} (hd : decode cc pc = .ok (.ldc i, 2)) (hc : Cond.constant y.cls i v ∈ Ts) : x_Sim K scr l y cc mL ret Ts pc (x_st (x_push (pc + 2) (.int v))) :=
  x_st_sim fun ad B st n st' hs k => by cases hs; exact lv_ldc B.1 B.2.1 B.2.2.2.2.2.1 (B.2.2.2.2.1 _ hc) hd k

def x_bin (n : Nat) (g : Int32 → Int32 → Int32) (st : List Value) : Option (Nat × List Value) := match st with
  | .int b :: .int a :: r => some (n, .int (g a b) :: r)
  | _ => none
theorem s_iadd (hd : decode cc pc = .ok (.iadd, 1)) : x_Sim K scr l y cc mL ret Ts pc (x_st (x_bin (pc + 1) (fun a b => a + b))) :=
  x_st_sim fun ad B st n st' hs k => by
    unfold x_bin at hs
    split at hs
    · cases hs; exact lv_iadd B.1 B.2.1 hd k
    · cases hs
theorem s_isub (hd : decode cc pc = .ok (.isub, 1)) : x_Sim K scr l y cc mL ret Ts pc (x_st (x_bin (pc + 1) (fun a b => a - b))) :=
  x_st_sim fun ad B st n st' hs k => by
    unfold x_bin at hs
    split at hs
    · cases hs; exact lv_isub B.1 B.2.1 hd k
    · cases hs
theorem s_imul (hd : decode cc pc = .ok (.imul, 1)) : x_Sim K scr l y cc mL ret Ts pc (x_st (x_bin (pc + 1) (fun a b => a * b))) :=
  x_st_sim fun ad B st n st' hs k => by
    unfold x_bin at hs
    split at hs
    · cases hs; exact lv_imul B.1 B.2.1 hd k
    · cases hs
theorem s_iand (hd : decode cc pc = .ok (.iand, 1)) : x_Sim K scr l y cc mL ret Ts pc (x_st (x_bin (pc + 1) (fun a b => a &&& b))) :=
  x_st_sim fun ad B st n st' hs k => by
    unfold x_bin at hs
    split at hs
    · cases hs; exact lv_iand B.1 B.2.1 hd k
    · cases hs
theorem s_ior (hd : decode cc pc = .ok (.ior, 1)) : x_Sim K scr l y cc mL ret Ts pc (x_st (x_bin (pc + 1) (fun a b => a ||| b))) :=
  x_st_sim fun ad B st n st' hs k => by
    unfold x_bin at hs
    split at hs
    · cases hs; exact lv_ior B.1 B.2.1 hd k
    · cases hs
theorem s_ixor (hd : decode cc pc = .ok (.ixor, 1)) : x_Sim K scr l y cc mL ret Ts pc (x_st (x_bin (pc + 1) (fun a b => a ^^^ b))) :=
  x_st_sim fun ad B st n st' hs k => by
    unfold x_bin at hs
    split at hs
    · cases hs; exact lv_ixor B.1 B.2.1 hd k
    · cases hs
theorem s_ishl (hd : decode cc pc = .ok (.ishl, 1)) : x_Sim K scr l y cc mL ret Ts pc (x_st (x_bin (pc + 1) (fun a b => a <<< (b &&& 31)))) :=
  x_st_sim fun ad B st n st' hs k => by
    unfold x_bin at hs
    split at hs
    · cases hs; exact lv_ishl B.1 B.2.1 hd k
    · cases hs
theorem s_ishr (hd : decode cc pc = .ok (.ishr, 1)) : x_Sim K scr l y cc mL ret Ts pc (x_st (x_bin (pc + 1) (fun a b => a >>> (b &&& 31)))) :=
  x_st_sim fun ad B st n st' hs k => by
    unfold x_bin at hs
    split at hs
    · cases hs; exact lv_ishr B.1 B.2.1 hd k
    · cases hs
theorem s_iushr (hd : decode cc pc = .ok (.iushr, 1)) : x_Sim K scr l y cc mL ret Ts pc (x_st (x_bin (pc + 1) (fun a b => (a.toUInt32 >>> (b.toUInt32 &&& Int32.toUInt32 31)).toInt32))) :=
  x_st_sim fun ad B st n st' hs k => by
    unfold x_bin at hs
    split at hs
    · cases hs; exact lv_iushr B.1 B.2.1 hd rfl k
    · cases hs
def x_div (n : Nat) (g : Int32 → Int32 → Int32) (st : List Value) : Option (Nat × List Value) := match st with
  | .int b :: .int a :: r => if b = 0 then none else some (n, .int (g a b) :: r)
  | _ => none
theorem s_idiv (hd : decode cc pc = .ok (.idiv, 1)) : x_Sim K scr l y cc mL ret Ts pc (x_st (x_div (pc + 1) (fun a b => a / b))) :=
  x_st_sim fun ad B st n st' hs k => by
    unfold x_div at hs
    split at hs
    · split at hs
      · cases hs
      · next hne => cases hs; exact lv_idiv B.1 B.2.1 hd hne k
    · cases hs
theorem s_irem (hd : decode cc pc = .ok (.irem, 1)) : x_Sim K scr l y cc mL ret Ts pc (x_st (x_div (pc + 1) (fun a b => a - a / b * b))) :=
  x_st_sim fun ad B st n st' hs k => by
    unfold x_div at hs
    split at hs
    · split at hs
      · cases hs
      · next hne => cases hs; exact lv_irem B.1 B.2.1 hd hne k
    · cases hs
def x_un (n : Nat) (g : Int32 → Value) (st : List Value) : Option (Nat × List Value) := match st with
  | .int a :: r => some (n, g a :: r)
  | _ => none
theorem s_ineg (hd : decode cc pc = .ok (.ineg, 1)) : x_Sim K scr l y cc mL ret Ts pc (x_st (x_un (pc + 1) (fun a => .int (-a)))) :=
  x_st_sim fun ad B st n st' hs k => by
    unfold x_un at hs
    split at hs
    · cases hs; exact lv_ineg B.1 B.2.1 hd k
    · cases hs
theorem s_i2l (hd : decode cc pc = .ok (.i2l, 1)) : x_Sim K scr l y cc mL ret Ts pc (x_st (x_un (pc + 1) (fun a => .long a.toInt64))) :=
  x_st_sim fun ad B st n st' hs k => by
    unfold x_un at hs
    split at hs
    · cases hs; exact lv_i2l B.1 B.2.1 hd rfl k
    · cases hs
theorem s_i2b (hd : decode cc pc = .ok (.i2b, 1)) : x_Sim K scr l y cc mL ret Ts pc (x_st (x_un (pc + 1) (fun a => .int a.toInt8.toInt32))) :=
  x_st_sim fun ad B st n st' hs k => by
    unfold x_un at hs
    split at hs
    · cases hs; exact lv_i2b B.1 B.2.1 hd rfl k
    · cases hs
theorem s_i2s (hd : decode cc pc = .ok (.i2s, 1)) : x_Sim K scr l y cc mL ret Ts pc (x_st (x_un (pc + 1) (fun a => .int a.toInt16.toInt32))) :=
  x_st_sim fun ad B st n st' hs k => by
    unfold x_un at hs
    split at hs
    · cases hs; exact lv_i2s B.1 B.2.1 hd rfl k
    · cases hs
theorem s_i2c (hd : decode cc pc = .ok (.i2c, 1)) : x_Sim K scr l y cc mL ret Ts pc (x_st (x_un (pc + 1) (fun a => .int (a.toUInt32 % 65536).toInt32))) :=
  x_st_sim fun ad B st n st' hs k => by
    unfold x_un at hs
    split at hs
    · cases hs; exact lv_i2c B.1 B.2.1 hd rfl k
    · cases hs
def x_dup (n : Nat) (st : List Value) : Option (Nat × List Value) := match st with
  | a :: r => if a.category = 1 then some (n, a :: a :: r) else none
  | _ => none
theorem s_dup (hd : decode cc pc = .ok (.dup, 1)) : x_Sim K scr l y cc mL ret Ts pc (x_st (x_dup (pc + 1))) :=
  x_st_sim fun ad B st n st' hs k => by
    unfold x_dup at hs
    split at hs
    · split at hs
      · next hc => cases hs; exact lv_dup B.1 B.2.1 hd (by rw [x_v_cat]; exact hc) k
      · cases hs
    · cases hs
def x_pop (n : Nat) (st : List Value) : Option (Nat × List Value) := match st with
  | a :: r => if a.category = 1 then some (n, r) else none
  | _ => none
theorem s_pop (hd : decode cc pc = .ok (.pop, 1)) : x_Sim K scr l y cc mL ret Ts pc (x_st (x_pop (pc + 1))) :=
  x_st_sim fun ad B st n st' hs k => by
    unfold x_pop at hs
    split at hs
    · next a r =>
      split at hs
      · next hc => cases hs; exact lv_pop (va := x_v ad a) B.1 B.2.1 hd (by rw [x_v_cat]; exact hc) k
      · cases hs
    · cases hs
def x_dupx1 (n : Nat) (st : List Value) : Option (Nat × List Value) := match st with
  | a :: b :: r => if a.category = 1 ∧ b.category = 1 then some (n, a :: b :: a :: r) else none
  | _ => none
theorem s_dup_x1 (hd : decode cc pc = .ok (.dup_x1, 1)) : x_Sim K scr l y cc mL ret Ts pc (x_st (x_dupx1 (pc + 1))) :=
  x_st_sim fun ad B st n st' hs k => by
    unfold x_dupx1 at hs
    split at hs
    · split at hs
      · next hc => cases hs; exact lv_dup_x1 B.1 B.2.1 hd (by rw [x_v_cat]; exact hc.1) (by rw [x_v_cat]; exact hc.2) k
      · cases hs
    · cases hs
def x_dupx2 (n : Nat) (st : List Value) : Option (Nat × List Value) := match st with
  | a :: b :: d :: r => if a.category = 1 ∧ b.category = 1 ∧ d.category = 1 then some (n, a :: b :: d :: a :: r) else none
  | _ => none
theorem s_dup_x2 (hd : decode cc pc = .ok (.dup_x2, 1)) : x_Sim K scr l y cc mL ret Ts pc (x_st (x_dupx2 (pc + 1))) :=
  x_st_sim fun ad B st n st' hs k => by
    unfold x_dupx2 at hs
    split at hs
    · split at hs
      · next hc => cases hs; exact lv_dup_x2 B.1 B.2.1 hd (by rw [x_v_cat]; exact hc.1) (by rw [x_v_cat]; exact hc.2.1) (by rw [x_v_cat]; exact hc.2.2) k
      · cases hs
    · cases hs
def x_dup2 (n : Nat) (st : List Value) : Option (Nat × List Value) := match st with
  | a :: b :: r => if a.category = 1 ∧ b.category = 1 then some (n, a :: b :: a :: b :: r) else none
  | _ => none
theorem s_dup2 (hd : decode cc pc = .ok (.dup2, 1)) : x_Sim K scr l y cc mL ret Ts pc (x_st (x_dup2 (pc + 1))) :=
  x_st_sim fun ad B st n st' hs k => by
    unfold x_dup2 at hs
    split at hs
    · split at hs
      · next hc => cases hs; exact lv_dup2_11 B.1 B.2.1 hd (by rw [x_v_cat]; exact hc.1) (by rw [x_v_cat]; exact hc.2) k
      · cases hs
    · cases hs
def x_goto (n : Nat) (st : List Value) : Option (Nat × List Value) := some (n, st)
theorem s_goto {off : Int} {t : Nat} (hd : decode cc pc = .ok (.goto off, 3)) (ht : (pc : Int) + off = (t : Int)) : x_Sim K scr l y cc mL ret Ts pc (x_st (x_goto t)) :=
  x_st_sim fun ad B st n st' hs k => by cases hs; exact lv_goto B.1 B.2.1 hd ht k
def x_ifeq (t n : Nat) (st : List Value) : Option (Nat × List Value) := match st with
  | .int a :: r => some (if a = 0 then t else n, r)
  | _ => none
theorem s_ifeq {off : Int} {t : Nat} (hd : decode cc pc = .ok (.ifCond .eq off, 3)) (ht : (pc : Int) + off = (t : Int)) : x_Sim K scr l y cc mL ret Ts pc (x_st (x_ifeq t (pc + 3))) :=
  x_st_sim fun ad B st n st' hs k => by
    unfold x_ifeq at hs
    split at hs
    · cases hs; exact lv_if_eq B.1 B.2.1 hd ht (fun h => by rw [if_pos h] at k; exact k) (fun h => by rw [if_neg h] at k; exact k)
    · cases hs
def x_ifne (t n : Nat) (st : List Value) : Option (Nat × List Value) := match st with
  | .int a :: r => some (if a = 0 then n else t, r)
  | _ => none
theorem s_ifne {off : Int} {t : Nat} (hd : decode cc pc = .ok (.ifCond .ne off, 3)) (ht : (pc : Int) + off = (t : Int)) : x_Sim K scr l y cc mL ret Ts pc (x_st (x_ifne t (pc + 3))) :=
  x_st_sim fun ad B st n st' hs k => by
    unfold x_ifne at hs
    split at hs
    · cases hs; exact lv_if_ne B.1 B.2.1 hd ht (fun h => by rw [if_neg h] at k; exact k) (fun h => by rw [if_pos h] at k; exact k)
    · cases hs
def x_iflt (t n : Nat) (st : List Value) : Option (Nat × List Value) := match st with
  | .int a :: r => some (if a < 0 then t else n, r)
  | _ => none
theorem s_iflt {off : Int} {t : Nat} (hd : decode cc pc = .ok (.ifCond .lt off, 3)) (ht : (pc : Int) + off = (t : Int)) : x_Sim K scr l y cc mL ret Ts pc (x_st (x_iflt t (pc + 3))) :=
  x_st_sim fun ad B st n st' hs k => by
    unfold x_iflt at hs
    split at hs
    · cases hs; exact lv_if_lt B.1 B.2.1 hd ht (fun h => by rw [if_pos h] at k; exact k) (fun h => by rw [if_neg h] at k; exact k)
    · cases hs
def x_ifge (t n : Nat) (st : List Value) : Option (Nat × List Value) := match st with
  | .int a :: r => some (if 0 ≤ a then t else n, r)
  | _ => none
theorem s_ifge {off : Int} {t : Nat} (hd : decode cc pc = .ok (.ifCond .ge off, 3)) (ht : (pc : Int) + off = (t : Int)) : x_Sim K scr l y cc mL ret Ts pc (x_st (x_ifge t (pc + 3))) :=
  x_st_sim fun ad B st n st' hs k => by
    unfold x_ifge at hs
    split at hs
    · cases hs; exact lv_if_ge B.1 B.2.1 hd ht (fun h => by rw [if_pos h] at k; exact k) (fun h => by rw [if_neg h] at k; exact k)
    · cases hs
def x_ifgt (t n : Nat) (st : List Value) : Option (Nat × List Value) := match st with
  | .int a :: r => some (if 0 < a then t else n, r)
  | _ => none
theorem s_ifgt {off : Int} {t : Nat} (hd : decode cc pc = .ok (.ifCond .gt off, 3)) (ht : (pc : Int) + off = (t : Int)) : x_Sim K scr l y cc mL ret Ts pc (x_st (x_ifgt t (pc + 3))) :=
  x_st_sim fun ad B st n st' hs k => by
    unfold x_ifgt at hs
    split at hs
    · cases hs; exact lv_if_gt B.1 B.2.1 hd ht (fun h => by rw [if_pos h] at k; exact k) (fun h => by rw [if_neg h] at k; exact k)
    · cases hs
def x_ifle (t n : Nat) (st : List Value) : Option (Nat × List Value) := match st with
  | .int a :: r => some (if a ≤ 0 then t else n, r)
  | _ => none
theorem s_ifle {off : Int} {t : Nat} (hd : decode cc pc = .ok (.ifCond .le off, 3)) (ht : (pc : Int) + off = (t : Int)) : x_Sim K scr l y cc mL ret Ts pc (x_st (x_ifle t (pc + 3))) :=
  x_st_sim fun ad B st n st' hs k => by
    unfold x_ifle at hs
    split at hs
    · cases hs; exact lv_if_le B.1 B.2.1 hd ht (fun h => by rw [if_pos h] at k; exact k) (fun h => by rw [if_neg h] at k; exact k)
    · cases hs
def x_iceq (t n : Nat) (st : List Value) : Option (Nat × List Value) := match st with
  | .int b :: .int a :: r => some (if a = b then t else n, r)
  | _ => none
theorem s_icmp_eq {off : Int} {t : Nat} (hd : decode cc pc = .ok (.if_icmp .eq off, 3)) (ht : (pc : Int) + off = (t : Int)) : x_Sim K scr l y cc mL ret Ts pc (x_st (x_iceq t (pc + 3))) :=
  x_st_sim fun ad B st n st' hs k => by
    unfold x_iceq at hs
    split at hs
    · cases hs; exact lv_icmp_eq B.1 B.2.1 hd ht (fun h => by rw [if_pos h] at k; exact k) (fun h => by rw [if_neg h] at k; exact k)
    · cases hs
def x_icne (t n : Nat) (st : List Value) : Option (Nat × List Value) := match st with
  | .int b :: .int a :: r => some (if a = b then n else t, r)
  | _ => none
theorem s_icmp_ne {off : Int} {t : Nat} (hd : decode cc pc = .ok (.if_icmp .ne off, 3)) (ht : (pc : Int) + off = (t : Int)) : x_Sim K scr l y cc mL ret Ts pc (x_st (x_icne t (pc + 3))) :=
  x_st_sim fun ad B st n st' hs k => by
    unfold x_icne at hs
    split at hs
    · cases hs; exact lv_icmp_ne B.1 B.2.1 hd ht (fun h => by rw [if_neg h] at k; exact k) (fun h => by rw [if_pos h] at k; exact k)
    · cases hs
def x_iclt (t n : Nat) (st : List Value) : Option (Nat × List Value) := match st with
  | .int b :: .int a :: r => some (if a < b then t else n, r)
  | _ => none
theorem s_icmp_lt {off : Int} {t : Nat} (hd : decode cc pc = .ok (.if_icmp .lt off, 3)) (ht : (pc : Int) + off = (t : Int)) : x_Sim K scr l y cc mL ret Ts pc (x_st (x_iclt t (pc + 3))) :=
  x_st_sim fun ad B st n st' hs k => by
    unfold x_iclt at hs
    split at hs
    · cases hs; exact lv_icmp_lt B.1 B.2.1 hd ht (fun h => by rw [if_pos h] at k; exact k) (fun h => by rw [if_neg h] at k; exact k)
    · cases hs
def x_icge (t n : Nat) (st : List Value) : Option (Nat × List Value) := match st with
  | .int b :: .int a :: r => some (if b ≤ a then t else n, r)
  | _ => none
theorem s_icmp_ge {off : Int} {t : Nat} (hd : decode cc pc = .ok (.if_icmp .ge off, 3)) (ht : (pc : Int) + off = (t : Int)) : x_Sim K scr l y cc mL ret Ts pc (x_st (x_icge t (pc + 3))) :=
  x_st_sim fun ad B st n st' hs k => by
    unfold x_icge at hs
    split at hs
    · cases hs; exact lv_icmp_ge B.1 B.2.1 hd ht (fun h => by rw [if_pos h] at k; exact k) (fun h => by rw [if_neg h] at k; exact k)
    · cases hs
def x_icgt (t n : Nat) (st : List Value) : Option (Nat × List Value) := match st with
  | .int b :: .int a :: r => some (if b < a then t else n, r)
  | _ => none
theorem s_icmp_gt {off : Int} {t : Nat} (hd : decode cc pc = .ok (.if_icmp .gt off, 3)) (ht : (pc : Int) + off = (t : Int)) : x_Sim K scr l y cc mL ret Ts pc (x_st (x_icgt t (pc + 3))) :=
  x_st_sim fun ad B st n st' hs k => by
    unfold x_icgt at hs
    split at hs
    · cases hs; exact lv_icmp_gt B.1 B.2.1 hd ht (fun h => by rw [if_pos h] at k; exact k) (fun h => by rw [if_neg h] at k; exact k)
    · cases hs
def x_icle (t n : Nat) (st : List Value) : Option (Nat × List Value) := match st with
  | .int b :: .int a :: r => some (if a ≤ b then t else n, r)
  | _ => none
theorem s_icmp_le {off : Int} {t : Nat} (hd : decode cc pc = .ok (.if_icmp .le off, 3)) (ht : (pc : Int) + off = (t : Int)) : x_Sim K scr l y cc mL ret Ts pc (x_st (x_icle t (pc + 3))) :=
  x_st_sim fun ad B st n st' hs k => by
    unfold x_icle at hs
    split at hs
    · cases hs; exact lv_icmp_le B.1 B.2.1 hd ht (fun h => by rw [if_pos h] at k; exact k) (fun h => by rw [if_neg h] at k; exact k)
    · cases hs
def x_ifnull (t n : Nat) (st : List Value) : Option (Nat × List Value) := match st with
  | .ref _ :: r => some (n, r)
  | .null :: r => some (t, r)
  | _ => none
theorem s_ifnull {off : Int} {t : Nat} (hd : decode cc pc = .ok (.ifnull off, 3)) (ht : (pc : Int) + off = (t : Int)) : x_Sim K scr l y cc mL ret Ts pc (x_st (x_ifnull t (pc + 3))) :=
  x_st_sim fun ad B st n st' hs k => by
    unfold x_ifnull at hs
    split at hs
    · cases hs; exact lv_ifnull B.1 B.2.1 hd k
    · cases hs; exact lv_ifnullN B.1 B.2.1 hd ht k
    · cases hs
def x_ifnonnull (t n : Nat) (st : List Value) : Option (Nat × List Value) := match st with
  | .ref _ :: r => some (t, r)
  | .null :: r => some (n, r)
  | _ => none
theorem s_ifnonnull {off : Int} {t : Nat} (hd : decode cc pc = .ok (.ifnonnull off, 3)) (ht : (pc : Int) + off = (t : Int)) : x_Sim K scr l y cc mL ret Ts pc (x_st (x_ifnonnull t (pc + 3))) :=
  x_st_sim fun ad B st n st' hs k => by
    unfold x_ifnonnull at hs
    split at hs
    · cases hs; exact lv_ifnonnull B.1 B.2.1 hd ht k
    · cases hs; exact lv_ifnonnullN B.1 B.2.1 hd k
    · cases hs
def x_tsw (lo hi : Int) (ts : List Nat) (t : Nat) (st : List Value) : Option (Nat × List Value) := match st with
  | .int a :: r => if a.toInt < lo ∨ hi < a.toInt then some (t, r) else (ts[(a.toInt - lo).toNat]?).map (fun q => (q, r))
  | _ => none
theorem s_tsw {dflt lo hi : Int} {offs : Array Int} {len t : Nat} {ts : List Nat} (hd : decode cc pc = .ok (.tableswitch dflt lo hi offs, len)) (ht : (pc : Int) + dflt = (t : Int)) (hts : offs.toList.map (fun o => (pc : Int) + o) = ts.map (fun q : Nat => (q : Int))) : x_Sim K scr l y cc mL ret Ts pc (x_st (x_tsw lo hi ts t)) :=
  x_st_sim fun ad B st n st' hs k => by
    unfold x_tsw at hs
    split at hs
    · next a r =>
      split at hs
      · next h => cases hs; exact lv_tableOut B.1 B.2.1 hd h ht k
      · next h =>
        cases hq : ts[(a.toInt - lo).toNat]? with
        | none => rw [hq] at hs; cases hs
        | some q =>
          rw [hq] at hs
          cases hs
          have h1 : (offs.toList.map (fun o => (pc : Int) + o))[(a.toInt - lo).toNat]? = some (n : Int) := by rw [hts]; simp [hq]
          rw [List.getElem?_map] at h1
          cases ho : offs.toList[(a.toInt - lo).toNat]? with
          | none => rw [ho] at h1; cases h1
          | some o =>
            rw [ho] at h1
            have h2 : (pc : Int) + o = (n : Int) := Option.some.inj h1
            exact lv_tableIn B.1 B.2.1 hd (fun z => h (Or.inl z)) (fun z => h (Or.inr z)) (by rw [← Array.getElem?_toList]; exact ho) h2 k
    · cases hs
def x_lcmp (n : Nat) (st : List Value) : Option (Nat × List Value) := match st with
  | .long b :: .long a :: r => some (n, .int (lg_cmp a b) :: r)
  | _ => none
theorem s_lcmp (hd : decode cc pc = .ok (.lcmp, 1)) : x_Sim K scr l y cc mL ret Ts pc (x_st (x_lcmp (pc + 1))) :=
  x_st_sim fun ad B st n st' hs k => by
    unfold x_lcmp at hs
    split at hs
    · cases hs; exact W.lcmp B.1 B.2.1 hd k
    · cases hs
theorem s_bad : x_Sim K scr l y cc mL ret Ts pc (fun _ _ => none) := by
  intro G kA ad p e R s m args below meth c B d calls hok hf hl h0 z r hle ho
  cases ho
/-! the law's script -/
def x_sln (n b L : Nat) (st : List Value) : Option (Nat × List Value) := match st with
  | .retAddr a :: r => if a = b + 1 then some (n, .int (Int32.ofNat L) :: r) else none
  | _ => none
theorem s_sln {b L : Nat} {xs : Nat → Int32} (hd : decode cc pc = .ok (.arraylength, 1)) : x_Sim K (some (b, L, xs)) l y cc mL ret Ts pc (x_st (x_sln (pc + 1) b L)) := by
  intro G kA ad p e R s m args below meth c B d calls hok hf hl h0 z r hle ho
  obtain ⟨lv, st, h⟩ := z
  unfold x_st at ho
  cases hs : x_sln (pc + 1) b L st with
  | none => simp only [hs] at ho; cases ho
  | some q =>
    simp only [hs] at ho
    cases ho
    unfold x_sln at hs
    split at hs
    · split at hs
      · next e9 =>
        subst e9
        cases hs
        obtain ⟨hX, hb, hA⟩ := B.2.2.2.2.2.2.2.2.2.2.2.2 _ L xs rfl
        exact ⟨x_le.rf, fun _ _ Q k ls H locs h1 h2 h3 => va_slen B.1 B.2.1 hX hb hA h3 hd (k ls H locs h1 h2 h3)⟩
      · cases hs
    · cases hs
def x_sld (n b L : Nat) (xs : Nat → Int32) (st : List Value) : Option (Nat × List Value) := match st with
  | .int i :: .retAddr a :: r => if a = b + 1 then (if i < 0 ∨ L ≤ i.toNatClampNeg then none else some (n, .int (xs i.toNatClampNeg) :: r)) else none
  | _ => none
theorem s_sld {b L : Nat} {xs : Nat → Int32} (hd : decode cc pc = .ok (.iaload, 1)) : x_Sim K (some (b, L, xs)) l y cc mL ret Ts pc (x_st (x_sld (pc + 1) b L xs)) := by
  intro G kA ad p e R s m args below meth c B d calls hok hf hl h0 z r hle ho
  obtain ⟨lv, st, h⟩ := z
  unfold x_st at ho
  cases hs : x_sld (pc + 1) b L xs st with
  | none => simp only [hs] at ho; cases ho
  | some q =>
    simp only [hs] at ho
    cases ho
    unfold x_sld at hs
    split at hs
    · split at hs
      · next e9 =>
        subst e9
        split at hs
        · cases hs
        · next hi =>
          cases hs
          obtain ⟨hX, hb, hA⟩ := B.2.2.2.2.2.2.2.2.2.2.2.2 _ L xs rfl
          exact ⟨x_le.rf, fun _ _ Q k ls H locs h1 h2 h3 => va_sld B.1 B.2.1 hX hb hA h3 hi hd (k ls H locs h1 h2 h3)⟩
      · cases hs
    · cases hs
/-! locals -/
def x_ldi (n i : Nat) : xO := fun _ z => match x_lk z.1 i with
  | some (.int x) => some (.inl (n, z.1, .int x :: z.2.1, z.2.2))
  | _ => none
def x_lda (n i : Nat) : xO := fun _ z => match x_lk z.1 i with
  | some (.ref x) => some (.inl (n, z.1, .ref x :: z.2.1, z.2.2))
  | some .null => some (.inl (n, z.1, .null :: z.2.1, z.2.2))
  | some (.retAddr (x + 1)) => some (.inl (n, z.1, .retAddr (x + 1) :: z.2.1, z.2.2))
  | _ => none
theorem s_iload_n {k : Fin 4} {i : Nat} (hd : decode cc pc = .ok (.iload_n k, 1)) (hi : (k : Nat) = i) : x_Sim K scr l y cc mL ret Ts pc (x_ldi (pc + 1) i) := by
  intro G kA ad p e R s m args below meth c B d calls hok hf hl h0 z r hle ho
  unfold x_ldi at ho
  split at ho
  · next x hx =>
    cases ho
    exact ⟨x_le.rf, fun _ _ Q k ls H locs h1 h2 h3 => lv_iload_n B.1 B.2.1 hd hi (x_lk_at h1 hx) (k ls H locs h1 h2 h3)⟩
  · cases ho
theorem s_iload {i : Nat} (hd : decode cc pc = .ok (.iload i, 2)) : x_Sim K scr l y cc mL ret Ts pc (x_ldi (pc + 2) i) := by
  intro G kA ad p e R s m args below meth c B d calls hok hf hl h0 z r hle ho
  unfold x_ldi at ho
  split at ho
  · next x hx =>
    cases ho
    exact ⟨x_le.rf, fun _ _ Q k ls H locs h1 h2 h3 => lv_iload B.1 B.2.1 hd (x_lk_at h1 hx) (k ls H locs h1 h2 h3)⟩
  · cases ho
theorem s_aload_n {k : Fin 4} {i : Nat} (hd : decode cc pc = .ok (.aload_n k, 1)) (hi : (k : Nat) = i) : x_Sim K scr l y cc mL ret Ts pc (x_lda (pc + 1) i) := by
  intro G kA ad p e R s m args below meth c B d calls hok hf hl h0 z r hle ho
  unfold x_lda at ho
  split at ho
  · next x hx =>
    cases ho
    exact ⟨x_le.rf, fun _ _ Q k ls H locs h1 h2 h3 => lv_aload_n B.1 B.2.1 hd hi (x_lk_at h1 hx) (k ls H locs h1 h2 h3)⟩
  · next hx =>
    cases ho
    exact ⟨x_le.rf, fun _ _ Q k ls H locs h1 h2 h3 => lv_aload_nN B.1 B.2.1 hd hi (x_lk_at h1 hx) (k ls H locs h1 h2 h3)⟩
  · next x hx =>
    cases ho
    exact ⟨x_le.rf, fun _ _ Q k ls H locs h1 h2 h3 => lv_aload_n B.1 B.2.1 hd hi (x_lk_at h1 hx) (k ls H locs h1 h2 h3)⟩
  · cases ho
theorem s_aload {i : Nat} (hd : decode cc pc = .ok (.aload i, 2)) : x_Sim K scr l y cc mL ret Ts pc (x_lda (pc + 2) i) := by
  intro G kA ad p e R s m args below meth c B d calls hok hf hl h0 z r hle ho
  unfold x_lda at ho
  split at ho
  · next x hx =>
    cases ho
    exact ⟨x_le.rf, fun _ _ Q k ls H locs h1 h2 h3 => lv_aload B.1 B.2.1 hd (x_lk_at h1 hx) (k ls H locs h1 h2 h3)⟩
  · next hx =>
    cases ho
    exact ⟨x_le.rf, fun _ _ Q k ls H locs h1 h2 h3 => lv_aloadN B.1 B.2.1 hd (x_lk_at h1 hx) (k ls H locs h1 h2 h3)⟩
  · next x hx =>
    cases ho
    exact ⟨x_le.rf, fun _ _ Q k ls H locs h1 h2 h3 => lv_aload B.1 B.2.1 hd (x_lk_at h1 hx) (k ls H locs h1 h2 h3)⟩
  · cases ho
def x_sti (n i : Nat) : xO := fun _ z => match z.2.1 with
  | .int x :: r => some (.inl (n, (i, .int x) :: z.1.filter (x_keep i), r, z.2.2))
  | _ => none
def x_sta (n i : Nat) : xO := fun _ z => match z.2.1 with
  | .ref x :: r => some (.inl (n, (i, .ref x) :: z.1.filter (x_keep i), r, z.2.2))
  | .null :: r => some (.inl (n, (i, .null) :: z.1.filter (x_keep i), r, z.2.2))
  | _ => none
theorem s_istore_n {k : Fin 4} {i : Nat} (hd : decode cc pc = .ok (.istore_n k, 1)) (hi : (k : Nat) = i) (hn : i < mL) : x_Sim K scr l y cc mL ret Ts pc (x_sti (pc + 1) i) := by
  intro G kA ad p e R s m args below meth c B d calls hok hf hl h0 z r hle ho
  obtain ⟨lv, st, h⟩ := z
  unfold x_sti at ho
  split at ho
  · next x r hx =>
    dsimp only at hx
    subst hx
    cases ho
    exact ⟨x_le.rf, fun _ _ Q k ls H locs h1 h2 h3 => lv_istore_n B.1 B.2.1 hd hi h1 hn (x_l_keep ad i (.int x) lv) (fun ls' hl' => k ls' H locs hl' h2 h3)⟩
  · cases ho
theorem s_istore {i : Nat} (hd : decode cc pc = .ok (.istore i, 2)) (hn : i < mL) : x_Sim K scr l y cc mL ret Ts pc (x_sti (pc + 2) i) := by
  intro G kA ad p e R s m args below meth c B d calls hok hf hl h0 z r hle ho
  obtain ⟨lv, st, h⟩ := z
  unfold x_sti at ho
  split at ho
  · next x r hx =>
    dsimp only at hx
    subst hx
    cases ho
    exact ⟨x_le.rf, fun _ _ Q k ls H locs h1 h2 h3 => lv_istore B.1 B.2.1 hd h1 hn (x_l_keep ad i (.int x) lv) (fun ls' hl' => k ls' H locs hl' h2 h3)⟩
  · cases ho
theorem s_astore_n {k : Fin 4} {i : Nat} (hd : decode cc pc = .ok (.astore_n k, 1)) (hi : (k : Nat) = i) (hn : i < mL) : x_Sim K scr l y cc mL ret Ts pc (x_sta (pc + 1) i) := by
  intro G kA ad p e R s m args below meth c B d calls hok hf hl h0 z r hle ho
  obtain ⟨lv, st, h⟩ := z
  unfold x_sta at ho
  split at ho
  · next x r hx =>
    dsimp only at hx
    subst hx
    cases ho
    exact ⟨x_le.rf, fun _ _ Q k ls H locs h1 h2 h3 => lv_astore_n B.1 B.2.1 hd hi h1 hn (x_l_keep ad i (.ref x) lv) (fun ls' hl' => k ls' H locs hl' h2 h3)⟩
  · next r hx =>
    dsimp only at hx
    subst hx
    cases ho
    exact ⟨x_le.rf, fun _ _ Q k ls H locs h1 h2 h3 => lv_astore_nN B.1 B.2.1 hd hi h1 hn (x_l_keep ad i .null lv) (fun ls' hl' => k ls' H locs hl' h2 h3)⟩
  · cases ho
theorem s_astore {i : Nat} (hd : decode cc pc = .ok (.astore i, 2)) (hn : i < mL) : x_Sim K scr l y cc mL ret Ts pc (x_sta (pc + 2) i) := by
  intro G kA ad p e R s m args below meth c B d calls hok hf hl h0 z r hle ho
  obtain ⟨lv, st, h⟩ := z
  unfold x_sta at ho
  split at ho
  · next x r hx =>
    dsimp only at hx
    subst hx
    cases ho
    exact ⟨x_le.rf, fun _ _ Q k ls H locs h1 h2 h3 => lv_astore B.1 B.2.1 hd h1 hn (x_l_keep ad i (.ref x) lv) (fun ls' hl' => k ls' H locs hl' h2 h3)⟩
  · next r hx =>
    dsimp only at hx
    subst hx
    cases ho
    exact ⟨x_le.rf, fun _ _ Q k ls H locs h1 h2 h3 => lv_astoreN B.1 B.2.1 hd h1 hn (x_l_keep ad i .null lv) (fun ls' hl' => k ls' H locs hl' h2 h3)⟩
  · cases ho
def x_iinc (n i : Nat) (k : Int32) : xO := fun _ z => match x_lk z.1 i with
  | some (.int x) => some (.inl (n, (i, .int (x + k)) :: z.1.filter (x_keep i), z.2.1, z.2.2))
  | _ => none
theorem s_iinc {i : Nat} {k : Int} {v : Int32} (hd : decode cc pc = .ok (.iinc i k, 3)) (hv : Int32.ofInt k = v) (hn : i < mL) : x_Sim K scr l y cc mL ret Ts pc (x_iinc (pc + 3) i v) := by
  intro G kA ad p e R s m args below meth c B d calls hok hf hl h0 z r hle ho
  obtain ⟨lv, st, h⟩ := z
  subst hv
  unfold x_iinc at ho
  split at ho
  · next x hx =>
    cases ho
    refine ⟨x_le.rf, fun _ _ Q kk ls H locs h1 h2 h3 => ?_⟩
    obtain ⟨j, hj⟩ := List.mem_iff_getElem?.mp (List.mem_map.mpr ⟨(i, .int x), x_lk_mem hx, rfl⟩ : (i, x_v ad (.int x)) ∈ x_l ad lv)
    exact lv_iinc B.1 B.2.1 hd h1 hj rfl hn (x_l_keep ad i (.int (x + Int32.ofInt k)) lv) (fun ls' hl' => kk ls' H locs hl' h2 h3)
  · cases ho
/-! fields -/
def x_gf (n ci k : Nat) : xO := fun _ z => match z.2.1 with
  | .ref (b + 3) :: r => match z.2.2[b]? with
    | some (.inr (cj, fs)) => if cj = ci then (fs[k]?).map (fun v => .inl (n, z.1, v :: r, z.2.2)) else none
    | _ => none
  | _ => none
theorem x_gf_inv {n ci k : Nat} {calls : xF} {lv : xL} {st : List Value} {h : xH} {z : xZ} (ho : x_gf n ci k calls (lv, st, h) = some z) : ∃ b r fs v, st = .ref (b + 3) :: r ∧ h[b]? = some (.inr (ci, fs)) ∧ fs[k]? = some v ∧ z = .inl (n, lv, v :: r, h) := by
  unfold x_gf at ho
  split at ho
  · next b r hst =>
    split at ho
    · next cj fs hb =>
      split at ho
      · next e =>
        subst e
        cases hv : fs[k]? with
        | none => rw [hv] at ho; cases ho
        | some v =>
          rw [hv] at ho
          exact ⟨b, r, fs, v, hst, hb, hv, (Option.some.inj ho).symm⟩
      · cases ho
    · cases ho
  · cases ho
theorem s_getfield {C ref : String} {T : u_T} {N ci k idx : Nat} (hd : decode cc pc = .ok (.getfield idx, 3)) (hc : K.1[ci]? = some (C, T, N)) (hin : ∀ w ∈ u_ws C T N, w ∈ Ts) (hk : k < N) (hlk : Cond.fieldLink y.cls idx ref (T k).2.1 (T k).2.2.1 ∈ Ts) (href : (T k).1 = ref) : x_Sim K scr l y cc mL ret Ts pc (x_gf (pc + 3) ci k) := by
  intro G kA ad p e R s m args below meth c B d calls hok hf hl h0 z r hle ho
  obtain ⟨lv, st, h⟩ := z
  obtain ⟨b, q, fs, v, rfl, hb, hv, rfl⟩ := x_gf_inv ho
  subst href
  refine ⟨x_le.rf, fun _ _ Q kk ls H locs h1 h2 h3 => ?_⟩
  exact va_get B.1 B.2.1 B.2.2.2.2.1 hin B.2.2.2.2.2.1 B.2.2.2.2.2.2.2.2.1 h2.1 b (x_w_at hb) hc k hk (B.2.2.2.2.1 _ hlk) (fun _ h9 => h9) (v := x_v ad v) (by simp [hv]) hd (kk ls H locs h1 h2 h3)
theorem s_getfieldN {C ref host : String} {T : u_T} {N ci k idx : Nat} (hd : decode cc pc = .ok (.getfield idx, 3)) (hc : K.1[ci]? = some (C, T, N)) (hin : ∀ w ∈ u_ws C T N, w ∈ Ts) (hk : k < N) (hlk : Cond.fieldLinkNest y.cls idx ref (T k).2.1 (T k).2.2.1 host ∈ K.2.2.2.2.1) (href : (T k).1 = ref) : x_Sim K scr l y cc mL ret Ts pc (x_gf (pc + 3) ci k) := by
  intro G kA ad p e R s m args below meth c B d calls hok hf hl h0 z r hle ho
  obtain ⟨lv, st, h⟩ := z
  obtain ⟨b, q, fs, v, rfl, hb, hv, rfl⟩ := x_gf_inv ho
  subst href
  refine ⟨x_le.rf, fun _ _ Q kk ls H locs h1 h2 h3 => ?_⟩
  exact va_getN B.1 B.2.1 B.2.2.2.2.1 hin B.2.2.2.2.2.1 B.2.2.2.2.2.2.2.2.1 h2.1 b (x_w_at hb) hc k hk (va_Nw.use rfl (B.2.2.2.2.2.2.2.2.2.1 _ hlk).2) (fun _ h9 => h9) (v := x_v ad v) (by simp [hv]) hd (kk ls H locs h1 h2 h3)
def x_pf (n ci k : Nat) (ty : FieldType) : xO := fun _ z => match z.2.1 with
  | v :: .ref (b + 3) :: r => match z.2.2[b]? with
    | some (.inr (cj, fs)) => if cj = ci ∧ k < fs.length ∧ narrow ty v = v ∧ fits ty v = true then some (.inl (n, z.1, r, z.2.2.set b (.inr (ci, fs.set k v)))) else none
    | _ => none
  | _ => none
theorem x_pf_inv {n ci k : Nat} {ty : FieldType} {calls : xF} {lv : xL} {st : List Value} {h : xH} {z : xZ} (ho : x_pf n ci k ty calls (lv, st, h) = some z) : ∃ v b r fs, st = v :: .ref (b + 3) :: r ∧ h[b]? = some (.inr (ci, fs)) ∧ k < fs.length ∧ narrow ty v = v ∧ fits ty v = true ∧ z = .inl (n, lv, r, h.set b (.inr (ci, fs.set k v))) := by
  unfold x_pf at ho
  split at ho
  · next v b r hst =>
    split at ho
    · next cj fs hb =>
      split at ho
      · next e =>
        obtain ⟨rfl, e1, e2, e3⟩ := e
        exact ⟨v, b, r, fs, hst, hb, e1, e2, e3, (Option.some.inj ho).symm⟩
      · cases ho
    · cases ho
  · cases ho
/-- what a stored field leaves: common to the three kinds of putfield -/
theorem x_put_at {G : va_G} {kA : Nat → ClassId} {ad : Nat → Nat} {C : String} {T : u_T} {N ci k b : Nat} {fs : List Value} {v : Value} {H' : Heap} {cell : Cell} (hc : K.1[ci]? = some (C, T, N)) (hkl : k < fs.length) (hk : k < N)
    (hap : ∀ a b, a < N → b < N → a ≠ b → G.2 ci a ≠ G.2 ci b) (q2 : cell.cls = G.1 ci) (q3 : cell.vm = .none) (q4 : ∀ j, j < N → cell.slots[G.2 ci j]? = some (vp_V (fs.map (x_v ad)) j)) (e1 : H'[ad (b + 3)]? = some (cell.setSlot (G.2 ci k) (x_v ad v))) :
    va_at G K.1 (ad (b + 3), x_e kA ad (.inr (ci, fs.set k v))) H' := by
  refine ⟨_, hc, t_OB.to (V := updV (vp_V (fs.map (x_v ad))) k (x_v ad v)) ⟨_, e1, q2, q3, t_set q4 hap hk (x_v ad v)⟩ (fun j _ => ?_)⟩
  rw [vp_updV_set (by simpa using hkl)]
  simp only [List.map_set]
theorem s_putfield {C ref : String} {T : u_T} {N ci k idx : Nat} {ty : FieldType} (ty0 : Nat → FieldType) (hd : decode cc pc = .ok (.putfield idx, 3)) (hc : K.1[ci]? = some (C, T, N)) (hin : ∀ w ∈ u_ws C T N, w ∈ Ts) (hty : ∀ k, k < N → parseFieldDescriptor (T k).2.2.1 = some (ty0 k)) (hnm : ∀ a, a < N → ∀ b, b < N → a ≠ b → (T a).2.1 ≠ (T b).2.1) (hk : k < N) (hlk : Cond.fieldLink y.cls idx ref (T k).2.1 (T k).2.2.1 ∈ Ts) (href : (T k).1 = ref) (hfin : (T k).2.2.2 = false) (hpd : parseFieldDescriptor (T k).2.2.1 = some ty) : x_Sim K scr l y cc mL ret Ts pc (x_pf (pc + 3) ci k ty) := by
  intro G kA ad p e R s m args below meth c B d calls hok hf hl h0 z r hle ho
  obtain ⟨lv, st, h⟩ := z
  obtain ⟨v, b, q, fs, rfl, hb, hkl, hn, hfit, rfl⟩ := x_pf_inv ho
  subst href
  have hsz : x_c1 (.inr (ci, fs.set k v)) = x_c1 (.inr (ci, fs)) := by simp [x_c1]
  refine ⟨x_le_set hb hsz, fun _ _ Q kk ls H locs h1 h2 h3 => ?_⟩
  have hts := B.2.2.2.2.1
  have hK := B.2.2.2.2.2.2.2.2.1
  have hap := va_apart (own := y.cls) hts hin ty0 hty hnm hK hc
  obtain ⟨rr, g1, cell, q1, q2, q3, q4⟩ := h2.1 b _ (x_w_at hb)
  have hr : rr = (C, T, N) := Option.some.inj (g1.symm.trans hc)
  subst hr
  obtain ⟨hS, hfc, kC, hkC, hkind⟩ := hK.1 ci _ hc
  obtain ⟨cf, kf, fi, f, hi, hsl⟩ := hS k hk
  have hlay := hts _ (hin _ (u_in_lay hk))
  unfold u_lay at hlay
  rw [if_neg (by rw [hfin]; decide)] at hlay
  have hst := (u_facts hfc hkC (u_lays hts hin hk) hi).1
  have h6 := u_store hfc hkC hkind hlay hi hpd (x_v_narrow (ad := ad) hn) (x_v_fits hfit)
  refine W.putK B.1 B.2.1 (f := f) ⟨B.2.2.2.2.2.1, hts _ hlk, ⟨_, _, _, hi⟩, hst⟩ (by rw [q2]; exact h6) q1 q3 (by rw [hsl]; exact k2_hasslot (q4 k hk)) rfl rfl hd fun H' e1 e2 e3 => ?_
  rw [hsl] at e1 ⊢
  have w := kk ls H' _ h1 (h2.set hb (x_put_at hc hkl hk hap q2 q3 q4 e1) e2 e3) (h3.put (k := G.2 ci k) e2 e3 ⟨b, rfl⟩)
  dsimp only at w
  rw [List.length_set, x_sl_set hb hsz] at w
  exact w
theorem s_putfieldN {C ref host : String} {T : u_T} {N ci k idx : Nat} {ty : FieldType} (ty0 : Nat → FieldType) (hd : decode cc pc = .ok (.putfield idx, 3)) (hc : K.1[ci]? = some (C, T, N)) (hin : ∀ w ∈ u_ws C T N, w ∈ Ts) (hty : ∀ k, k < N → parseFieldDescriptor (T k).2.2.1 = some (ty0 k)) (hnm : ∀ a, a < N → ∀ b, b < N → a ≠ b → (T a).2.1 ≠ (T b).2.1) (hk : k < N) (hlk : Cond.fieldLinkNest y.cls idx ref (T k).2.1 (T k).2.2.1 host ∈ K.2.2.2.2.1) (href : (T k).1 = ref) (hfin : (T k).2.2.2 = false) (hpd : parseFieldDescriptor (T k).2.2.1 = some ty) : x_Sim K scr l y cc mL ret Ts pc (x_pf (pc + 3) ci k ty) := by
  intro G kA ad p e R s m args below meth c B d calls hok hf hl h0 z r hle ho
  obtain ⟨lv, st, h⟩ := z
  obtain ⟨v, b, q, fs, rfl, hb, hkl, hn, hfit, rfl⟩ := x_pf_inv ho
  subst href
  have hsz : x_c1 (.inr (ci, fs.set k v)) = x_c1 (.inr (ci, fs)) := by simp [x_c1]
  refine ⟨x_le_set hb hsz, fun _ _ Q kk ls H locs h1 h2 h3 => ?_⟩
  have hts := B.2.2.2.2.1
  have hK := B.2.2.2.2.2.2.2.2.1
  have hap := va_apart (own := y.cls) hts hin ty0 hty hnm hK hc
  obtain ⟨rr, g1, cell, q1, q2, q3, q4⟩ := h2.1 b _ (x_w_at hb)
  have hr : rr = (C, T, N) := Option.some.inj (g1.symm.trans hc)
  subst hr
  obtain ⟨hS, hfc, kC, hkC, hkind⟩ := hK.1 ci _ hc
  obtain ⟨cf, kf, fi, f, hi, hsl⟩ := hS k hk
  have hlay := hts _ (hin _ (u_in_lay hk))
  unfold u_lay at hlay
  rw [if_neg (by rw [hfin]; decide)] at hlay
  have hst := (u_facts hfc hkC (u_lays hts hin hk) hi).1
  have h6 := u_store hfc hkC hkind hlay hi hpd (x_v_narrow (ad := ad) hn) (x_v_fits hfit)
  refine va_WputK B.1 B.2.1 (f := f) B.2.2.2.2.2.1 (va_Nw.use rfl (B.2.2.2.2.2.2.2.2.2.1 _ hlk).2) hi hst (by rw [q2]; exact h6) q1 q3 (by rw [hsl]; exact k2_hasslot (q4 k hk)) rfl rfl hd fun H' e1 e2 e3 => ?_
  rw [hsl] at e1 ⊢
  have w := kk ls H' _ h1 (h2.set hb (x_put_at hc hkl hk hap q2 q3 q4 e1) e2 e3) (h3.put (k := G.2 ci k) e2 e3 ⟨b, rfl⟩)
  dsimp only at w
  rw [List.length_set, x_sl_set hb hsz] at w
  exact w
theorem s_putfieldF {C : String} {T : u_T} {N ci k idx : Nat} {ty : FieldType} (ty0 : Nat → FieldType) (hd : decode cc pc = .ok (.putfield idx, 3)) (hc : K.1[ci]? = some (C, T, N)) (hin : ∀ w ∈ u_ws C T N, w ∈ Ts) (hty : ∀ k, k < N → parseFieldDescriptor (T k).2.2.1 = some (ty0 k)) (hnm : ∀ a, a < N → ∀ b, b < N → a ≠ b → (T a).2.1 ≠ (T b).2.1) (hk : k < N) (hlk : Cond.fieldLink y.cls idx y.cls (T k).2.1 (T k).2.2.1 ∈ Ts) (href : (T k).1 = y.cls) (hfin : (T k).2.2.2 = true) (hpd : parseFieldDescriptor (T k).2.2.1 = some ty) (hyn : y.name = "<init>") : x_Sim K scr l y cc mL ret Ts pc (x_pf (pc + 3) ci k ty) := by
  intro G kA ad p e R s m args below meth c B d calls hok hf hl h0 z r hle ho
  obtain ⟨lv, st, h⟩ := z
  obtain ⟨v, b, q, fs, rfl, hb, hkl, hn, hfit, rfl⟩ := x_pf_inv ho
  have hsz : x_c1 (.inr (ci, fs.set k v)) = x_c1 (.inr (ci, fs)) := by simp [x_c1]
  refine ⟨x_le_set hb hsz, fun _ _ Q kk ls H locs h1 h2 h3 => ?_⟩
  have hts := B.2.2.2.2.1
  have hK := B.2.2.2.2.2.2.2.2.1
  have hown := B.2.2.2.2.2.1
  have hap := va_apart (own := y.cls) hts hin ty0 hty hnm hK hc
  obtain ⟨rr, g1, cell, q1, q2, q3, q4⟩ := h2.1 b _ (x_w_at hb)
  have hr : rr = (C, T, N) := Option.some.inj (g1.symm.trans hc)
  subst hr
  obtain ⟨hS, hfc, kC, hkC, hkind⟩ := hK.1 ci _ hc
  obtain ⟨cf, kf, fi, f, hi, hsl⟩ := hS k hk
  have hlay := hts _ (hin _ (u_in_lay hk))
  unfold u_lay at hlay
  rw [if_pos hfin] at hlay
  have hst := (u_facts hfc hkC (u_lays hts hin hk) hi).1
  have hcf : m.cls = cf := by
    obtain ⟨_, _, c', _, _, _, -, -, hf', -, -, -, hown2, -⟩ := Cond.laysFinal_spec hlay
    have e1 : c' = cf := by have := hi.symm.trans hf'; simp at this; exact this.1.symm
    rw [href] at hown2
    rw [← e1]; exact Option.some.inj (hown.symm.trans hown2)
  have h6 := u_fits hfc hkC hkind (Or.inr hlay) hi hpd (x_v_narrow (ad := ad) hn) (x_v_fits hfit)
  rw [href] at hi
  refine W.putFinK B.1 B.2.1 hown (hts _ hlk) hi hst hcf (B.2.2.2.2.2.2.2.1.trans hyn) (by rw [q2]; exact h6) q1 q3 (by rw [hsl]; exact k2_hasslot (q4 k hk)) rfl rfl hd fun H' e1 e2 e3 => ?_
  rw [hsl] at e1 ⊢
  have w := kk ls H' _ h1 (h2.set hb (x_put_at hc hkl hk hap q2 q3 q4 e1) e2 e3) (h3.put (k := G.2 ci k) e2 e3 ⟨b, rfl⟩)
  dsimp only at w
  rw [List.length_set, x_sl_set hb hsz] at w
  exact w
/-! arrays -/
def x_ix (i : Int32) (n : Nat) : Option Nat := if i < 0 ∨ n ≤ i.toNatClampNeg then none else some i.toNatClampNeg
theorem x_ix_inv {i : Int32} {n j : Nat} (h : x_ix i n = some j) : vp_in i n ∧ i.toNatClampNeg = j ∧ j < n := by
  unfold x_ix at h
  split at h
  · cases h
  · next hn =>
    cases h
    exact ⟨hn, rfl, Nat.not_le.mp fun q => hn (Or.inr q)⟩
def x_ald (n t : Nat) : xO := fun _ z => match z.2.1 with
  | .int i :: .ref (b + 3) :: r => match z.2.2[b]? with
    | some (.inl (tj, .inl xs)) => if tj = t then (x_ix i xs.length).map (fun j => .inl (n, z.1, .int (xs.getD j 0) :: r, z.2.2)) else none
    | _ => none
  | _ => none
theorem x_ald_inv {n t : Nat} {calls : xF} {lv : xL} {st : List Value} {h : xH} {z : xZ} (ho : x_ald n t calls (lv, st, h) = some z) : ∃ i b r xs, st = .int i :: .ref (b + 3) :: r ∧ h[b]? = some (.inl (t, .inl xs)) ∧ vp_in i xs.length ∧ z = .inl (n, lv, .int (xs.getD i.toNatClampNeg 0) :: r, h) := by
  unfold x_ald at ho
  split at ho
  · next i b r hst =>
    split at ho
    · next tj xs hb =>
      split at ho
      · next e =>
        subst e
        cases hv : x_ix i xs.length with
        | none => rw [hv] at ho; cases ho
        | some j =>
          rw [hv] at ho
          obtain ⟨e1, e2, -⟩ := x_ix_inv hv
          subst e2
          exact ⟨i, b, r, xs, hst, hb, e1, (Option.some.inj ho).symm⟩
      · cases ho
    · cases ho
  · cases ho

theorem s_iald {t : Nat} (hd : decode cc pc = .ok (.iaload, 1)) (ht : K.2.1[t]? = some .int) : x_Sim K scr l y cc mL ret Ts pc (x_ald (pc + 1) t) := by
  intro G kA ad p e R s m args below meth c B d calls hok hf hl h0 z r hle ho
  obtain ⟨lv, st, h⟩ := z
  obtain ⟨i, b, q, xs, rfl, hb, hi, rfl⟩ := x_ald_inv ho
  refine ⟨x_le.rf, fun _ _ Q kk ls H locs h1 h2 h3 => ?_⟩
  exact va_iald B.1 B.2.1 B.2.2.2.2.2.2.2.2.1 h2.1 b t (x_w_at hb) (x_ty_at ht) hi hd (kk ls H locs h1 h2 h3)
theorem s_zald {t : Nat} (hd : decode cc pc = .ok (.baload, 1)) (ht : K.2.1[t]? = some .boolean) : x_Sim K scr l y cc mL ret Ts pc (x_ald (pc + 1) t) := by
  intro G kA ad p e R s m args below meth c B d calls hok hf hl h0 z r hle ho
  obtain ⟨lv, st, h⟩ := z
  obtain ⟨i, b, q, xs, rfl, hb, hi, rfl⟩ := x_ald_inv ho
  refine ⟨x_le.rf, fun _ _ Q kk ls H locs h1 h2 h3 => ?_⟩
  exact va_zald B.1 B.2.1 B.2.2.2.2.2.2.2.2.1 h2.1 b t (x_w_at hb) (x_ty_at ht) hi hd (kk ls H locs h1 h2 h3)
theorem s_cald {t : Nat} (hd : decode cc pc = .ok (.caload, 1)) (ht : K.2.1[t]? = some .char) : x_Sim K scr l y cc mL ret Ts pc (x_ald (pc + 1) t) := by
  intro G kA ad p e R s m args below meth c B d calls hok hf hl h0 z r hle ho
  obtain ⟨lv, st, h⟩ := z
  obtain ⟨i, b, q, xs, rfl, hb, hi, rfl⟩ := x_ald_inv ho
  refine ⟨x_le.rf, fun _ _ Q kk ls H locs h1 h2 h3 => ?_⟩
  exact va_cald B.1 B.2.1 B.2.2.2.2.2.2.2.2.1 h2.1 b t (x_w_at hb) (x_ty_at ht) hi hd (kk ls H locs h1 h2 h3)
theorem s_bald {t : Nat} (hd : decode cc pc = .ok (.baload, 1)) (ht : K.2.1[t]? = some .byte) : x_Sim K scr l y cc mL ret Ts pc (x_ald (pc + 1) t) := by
  intro G kA ad p e R s m args below meth c B d calls hok hf hl h0 z r hle ho
  obtain ⟨lv, st, h⟩ := z
  obtain ⟨i, b, q, xs, rfl, hb, hi, rfl⟩ := x_ald_inv ho
  refine ⟨x_le.rf, fun _ _ Q kk ls H locs h1 h2 h3 => ?_⟩
  exact va_bald B.1 B.2.1 B.2.2.2.2.2.2.2.2.1 h2.1 b t (x_w_at hb) (x_ty_at ht) hi hd (kk ls H locs h1 h2 h3)
def x_ast (n t : Nat) (g : Int32 → Int32) : xO := fun _ z => match z.2.1 with
  | .int x :: .int i :: .ref (b + 3) :: r => match z.2.2[b]? with
    | some (.inl (tj, .inl xs)) => if tj = t then (x_ix i xs.length).map (fun j => .inl (n, z.1, r, z.2.2.set b (.inl (t, .inl (xs.set j (g x)))))) else none
    | _ => none
  | _ => none
theorem x_ast_inv {n t : Nat} {g : Int32 → Int32} {calls : xF} {lv : xL} {st : List Value} {h : xH} {z : xZ} (ho : x_ast n t g calls (lv, st, h) = some z) : ∃ x i b r xs, st = .int x :: .int i :: .ref (b + 3) :: r ∧ h[b]? = some (.inl (t, .inl xs)) ∧ vp_in i xs.length ∧ z = .inl (n, lv, r, h.set b (.inl (t, .inl (xs.set i.toNatClampNeg (g x))))) := by
  unfold x_ast at ho
  split at ho
  · next x i b r hst =>
    split at ho
    · next tj xs hb =>
      split at ho
      · next e =>
        subst e
        cases hv : x_ix i xs.length with
        | none => rw [hv] at ho; cases ho
        | some j =>
          rw [hv] at ho
          obtain ⟨e1, e2, -⟩ := x_ix_inv hv
          subst e2
          exact ⟨x, i, b, r, xs, hst, hb, e1, (Option.some.inj ho).symm⟩
      · cases ho
    · cases ho
  · cases ho
theorem x_set_at {xs : List Int32} {i j : Nat} {x : Int32} (hi : i < xs.length) : (xs.set i x).getD j 0 = if j = i then x else xs.getD j 0 := by
  by_cases h : j = i
  · subst h
    simp [List.getD_eq_getElem?_getD, hi]
  · simp [List.getD_eq_getElem?_getD, List.getElem?_set, h, Ne.symm h]
theorem x_arr_at {G : va_G} {kA : Nat → ClassId} {ad : Nat → Nat} {t b i : Nat} {xs : List Int32} {x : Int32} {H' : Heap} (hi : i < xs.length) (e1 : H'[ad (b + 3)]? = some ((vp_cell (kA t) (xs.length, .inl (fun j => xs.getD j 0))).setSlot i (.int x))) : va_at G K.1 (ad (b + 3), x_e kA ad (.inl (t, .inl (xs.set i x)))) H' := by
  show H'[ad (b + 3)]? = some (vp_cell (kA t) ((xs.set i x).length, .inl (fun j => (xs.set i x).getD j 0)))
  rw [e1, vp_cell_i, vp_cell_i, arrV_store, List.length_set]
  congr 2
  funext q
  rw [x_set_at hi]
  unfold updV
  split <;> rfl

theorem s_iast {t : Nat} (hd : decode cc pc = .ok (.iastore, 1)) (ht : K.2.1[t]? = some .int) : x_Sim K scr l y cc mL ret Ts pc (x_ast (pc + 1) t (fun x => x)) := by
  intro G kA ad p e R s m args below meth c B d calls hok hf hl h0 z r hle ho
  obtain ⟨lv, st, h⟩ := z
  obtain ⟨x, i, b, q, xs, rfl, hb, hi, rfl⟩ := x_ast_inv ho
  have hlt : i.toNatClampNeg < xs.length := Nat.not_le.mp fun q => hi (Or.inr q)
  have hsz : x_c1 (.inl (t, .inl (xs.set i.toNatClampNeg (x)))) = x_c1 (.inl (t, .inl xs)) := by simp [x_c1]
  refine ⟨x_le_set hb hsz, fun _ _ Q kk ls H locs h1 h2 h3 => ?_⟩
  refine W.iast B.1 B.2.1 (h2.1 b _ (x_w_at hb)) ((B.2.2.2.2.2.2.2.2.1.2 t _ (x_ty_at ht)).1 xs.length (fun j => .int (xs.getD j 0))) (fun q => by cases q) (by show ¬ (i < 0 ∨ (arrV _ _ _).slots.size ≤ _); rw [arrV_size]; exact hi) rfl rfl hd fun H' e1 e2 e3 => ?_
  have w := kk ls H' _ h1 (h2.set hb (x_arr_at hlt e1) e2 e3) (h3.put (k := i.toNatClampNeg) e2 e3 ⟨b, rfl⟩)
  dsimp only at w
  rw [List.length_set, x_sl_set hb hsz] at w
  exact w
theorem s_zast {t : Nat} (hd : decode cc pc = .ok (.bastore, 1)) (ht : K.2.1[t]? = some .boolean) : x_Sim K scr l y cc mL ret Ts pc (x_ast (pc + 1) t (fun x => vp_nar .boolean x)) := by
  intro G kA ad p e R s m args below meth c B d calls hok hf hl h0 z r hle ho
  obtain ⟨lv, st, h⟩ := z
  obtain ⟨x, i, b, q, xs, rfl, hb, hi, rfl⟩ := x_ast_inv ho
  have hlt : i.toNatClampNeg < xs.length := Nat.not_le.mp fun q => hi (Or.inr q)
  have hsz : x_c1 (.inl (t, .inl (xs.set i.toNatClampNeg (vp_nar .boolean x)))) = x_c1 (.inl (t, .inl xs)) := by simp [x_c1]
  refine ⟨x_le_set hb hsz, fun _ _ Q kk ls H locs h1 h2 h3 => ?_⟩
  refine W.zast B.1 B.2.1 (h2.1 b _ (x_w_at hb)) ((B.2.2.2.2.2.2.2.2.1.2 t _ (x_ty_at ht)).1 xs.length (fun j => .int (xs.getD j 0))) (fun q => by cases q) (by show ¬ (i < 0 ∨ (arrV _ _ _).slots.size ≤ _); rw [arrV_size]; exact hi) rfl rfl hd fun H' e1 e2 e3 => ?_
  have w := kk ls H' _ h1 (h2.set hb (x_arr_at hlt e1) e2 e3) (h3.put (k := i.toNatClampNeg) e2 e3 ⟨b, rfl⟩)
  dsimp only at w
  rw [List.length_set, x_sl_set hb hsz] at w
  exact w
theorem s_cast {t : Nat} (hd : decode cc pc = .ok (.castore, 1)) (ht : K.2.1[t]? = some .char) : x_Sim K scr l y cc mL ret Ts pc (x_ast (pc + 1) t (fun x => vp_nar .char x)) := by
  intro G kA ad p e R s m args below meth c B d calls hok hf hl h0 z r hle ho
  obtain ⟨lv, st, h⟩ := z
  obtain ⟨x, i, b, q, xs, rfl, hb, hi, rfl⟩ := x_ast_inv ho
  have hlt : i.toNatClampNeg < xs.length := Nat.not_le.mp fun q => hi (Or.inr q)
  have hsz : x_c1 (.inl (t, .inl (xs.set i.toNatClampNeg (vp_nar .char x)))) = x_c1 (.inl (t, .inl xs)) := by simp [x_c1]
  refine ⟨x_le_set hb hsz, fun _ _ Q kk ls H locs h1 h2 h3 => ?_⟩
  refine W.cast B.1 B.2.1 (h2.1 b _ (x_w_at hb)) ((B.2.2.2.2.2.2.2.2.1.2 t _ (x_ty_at ht)).1 xs.length (fun j => .int (xs.getD j 0))) (fun q => by cases q) (by show ¬ (i < 0 ∨ (arrV _ _ _).slots.size ≤ _); rw [arrV_size]; exact hi) rfl rfl hd fun H' e1 e2 e3 => ?_
  have w := kk ls H' _ h1 (h2.set hb (x_arr_at hlt e1) e2 e3) (h3.put (k := i.toNatClampNeg) e2 e3 ⟨b, rfl⟩)
  dsimp only at w
  rw [List.length_set, x_sl_set hb hsz] at w
  exact w
theorem s_bast {t : Nat} (hd : decode cc pc = .ok (.bastore, 1)) (ht : K.2.1[t]? = some .byte) : x_Sim K scr l y cc mL ret Ts pc (x_ast (pc + 1) t (fun x => vp_nar .byte x)) := by
  intro G kA ad p e R s m args below meth c B d calls hok hf hl h0 z r hle ho
  obtain ⟨lv, st, h⟩ := z
  obtain ⟨x, i, b, q, xs, rfl, hb, hi, rfl⟩ := x_ast_inv ho
  have hlt : i.toNatClampNeg < xs.length := Nat.not_le.mp fun q => hi (Or.inr q)
  have hsz : x_c1 (.inl (t, .inl (xs.set i.toNatClampNeg (vp_nar .byte x)))) = x_c1 (.inl (t, .inl xs)) := by simp [x_c1]
  refine ⟨x_le_set hb hsz, fun _ _ Q kk ls H locs h1 h2 h3 => ?_⟩
  refine W.bast B.1 B.2.1 (h2.1 b _ (x_w_at hb)) ((B.2.2.2.2.2.2.2.2.1.2 t _ (x_ty_at ht)).1 xs.length (fun j => .int (xs.getD j 0))) (fun q => by cases q) (by show ¬ (i < 0 ∨ (arrV _ _ _).slots.size ≤ _); rw [arrV_size]; exact hi) rfl rfl hd fun H' e1 e2 e3 => ?_
  have w := kk ls H' _ h1 (h2.set hb (x_arr_at hlt e1) e2 e3) (h3.put (k := i.toNatClampNeg) e2 e3 ⟨b, rfl⟩)
  dsimp only at w
  rw [List.length_set, x_sl_set hb hsz] at w
  exact w
def x_len (a : xA) : Nat := match a with
  | .inl xs => xs.length
  | .inr (.inl xs) => xs.length
  | .inr (.inr xs) => xs.length
def x_aln (n nt : Nat) : xO := fun _ z => match z.2.1 with
  | .ref (b + 3) :: r => match z.2.2[b]? with
    | some (.inl (t, a)) => if t < nt then some (.inl (n, z.1, .int (Int32.ofNat (x_len a)) :: r, z.2.2)) else none
    | _ => none
  | _ => none
theorem s_alen (hd : decode cc pc = .ok (.arraylength, 1)) (nt : Nat) (hnt : K.2.1.length = nt) : x_Sim K scr l y cc mL ret Ts pc (x_aln (pc + 1) nt) := by
  intro G kA ad p e R s m args below meth c B d calls hok hf hl h0 z r hle ho
  obtain ⟨lv, st, h⟩ := z
  unfold x_aln at ho
  split at ho
  · next b q hst =>
    dsimp only at hst
    subst hst
    split at ho
    · next t a hb =>
      split at ho
      · next htn =>
        cases ho
        refine ⟨x_le.rf, fun _ _ Q kk ls H locs h1 h2 h3 => ?_⟩
        obtain ⟨ty, hty⟩ : ∃ ty, K.2.1[t]? = some ty := ⟨_, List.getElem?_eq_getElem (by omega)⟩
        refine va_alen B.1 B.2.1 B.2.2.2.2.2.2.2.2.1 h2.1 b t (x_w_at hb) (x_ty_at hty) (v := Int32.ofNat (x_len a)) ?_ hd (kk ls H locs h1 h2 h3)
        rcases a with xs | xs | xs <;> rfl
      · cases ho
    · cases ho
  · cases ho
/-! makings -/
def x_nw_ (n ci : Nat) (fs : List Value) : xO := fun _ z => some (.inl (n, z.1, .ref (z.2.2.length + 3) :: z.2.1, z.2.2 ++ [.inr (ci, fs)]))
theorem s_new {C : String} {T : u_T} {N ci idx : Nat} {fs : List Value} (ty0 : Nat → FieldType) (hd : decode cc pc = .ok (.new idx, 3)) (hc : K.1[ci]? = some (C, T, N)) (hin : ∀ w ∈ u_ws C T N, w ∈ Ts) (hty : ∀ k, k < N → parseFieldDescriptor (T k).2.2.1 = some (ty0 k)) (hcl : Cond.classLink y.cls idx C ∈ Ts) (hinst : Cond.instantiable C N ∈ Ts) (hini : Cond.initialized C ∈ Ts) (hfl : fs.length = N) (hfs : ∀ j, j < N → defaultValue (ty0 j) = vp_V fs j) (hnr : fs.all (fun v => match v with | .ref _ => false | .retAddr _ => false | _ => true) = true) : x_Sim K scr l y cc mL ret Ts pc (x_nw_ (pc + 3) ci fs) := by
  intro G kA ad p e R s m args below meth c B d calls hok hf hl h0 z r hle ho
  obtain ⟨lv, st, h⟩ := z
  cases ho
  refine ⟨x_le_push, fun hc1 hc2 Q kk ls H locs h1 h2 h3 => ?_⟩
  have hts := B.2.2.2.2.1
  have hK := B.2.2.2.2.2.2.2.2.1
  have hKn := hK.1 ci _ hc
  have hmap : fs.map (x_v ad) = fs := by
    have : ∀ v ∈ fs, x_v ad v = v := fun v hv => by
      have := List.all_eq_true.mp hnr v hv
      cases v <;> first | rfl | cases this
    calc fs.map (x_v ad) = fs.map id := List.map_congr_left this
      _ = fs := List.map_id fs
  dsimp only at hc1 hc2 hle
  have g1 := hle.1
  have g2 := hle.2
  rw [List.length_append] at hc1
  rw [x_sl_push] at hc2
  simp only [List.length_cons, List.length_nil, x_c1] at hc1 hc2
  show W p l e R s m args below meth c H locs (h.length - h0.length) (x_sl h - x_sl h0) Q (F0 m pc ls (st.map (x_v ad)))
  refine W.newcK B.1 B.2.1 B.2.2.2.2.2.1 (hts _ hcl) (hts _ hinst) (hts _ hini) rfl hd (by omega) (by omega) hKn.2.1 rfl fun H1 kC hkC e1 z1 o1 => ?_
  have hat : va_at G K.1 (H.size, x_e kA ad (.inr (ci, fs))) H1 := by
    show ∃ r : vw_C, K.1[ci]? = some r ∧ t_OB H.size (G.1 ci) r.2.2 (G.2 ci) H1 (vp_V (fs.map (x_v ad)))
    rw [hmap]
    exact ⟨_, hc, (u_born ty0 hts hin hKn hkC e1 hty).to hfs⟩
  have w := kk ls H1 locs h1 (h2.push hat z1 o1) (x_S_push h3 z1 o1)
  dsimp only at w
  rw [x_sl_push, List.length_append] at w
  simp only [List.length_cons, List.length_nil, x_c1, List.map_cons, x_v] at w
  have e0 : ad (h.length + 3) = H.size := h2.2.2 0
  rw [e0] at w
  refine W.cs (by omega) (by omega) w
def x_na (n t : Nat) : xO := fun _ z => match z.2.1 with
  | .int k :: r => if k < 0 ∨ 1000000 < k.toNatClampNeg then none else some (.inl (n, z.1, .ref (z.2.2.length + 3) :: r, z.2.2 ++ [.inl (t, .inl (List.replicate k.toNatClampNeg 0))]))
  | _ => none
theorem s_newarray {t : Nat} {at0 : ArrayType} {ty : FieldType} (hd : decode cc pc = .ok (.newarray at0, 2)) (hty : newarray.typeOf at0 = ty) (hw : Cond.arrayClass ty ∈ Ts) (ht : K.2.1[t]? = some ty) (hb4 : componentBytes ty ≤ 8) (hdf : defaultValue ty = .int 0) (hra : ∀ U cA, va_RA U cA ty → U.vm.findClass ("[" ++ ty.toString) = some cA) : x_Sim K scr l y cc mL ret Ts pc (x_na (pc + 2) t) := by
  intro G kA ad p e R s m args below meth c B d calls hok hf hl h0 z r hle ho
  obtain ⟨lv, st, h⟩ := z
  subst hty
  unfold x_na at ho
  split at ho
  · next k q hst =>
    dsimp only at hst
    subst hst
    split at ho
    · cases ho
    · next hn =>
      cases ho
      refine ⟨x_le_push, fun hc1 hc2 Q kk ls H locs h1 h2 h3 => ?_⟩
      have hts := B.2.2.2.2.1
      have hK := B.2.2.2.2.2.2.2.2.1
      dsimp only at hc1 hc2 hle
      have g1 := hle.1
      have g2 := hle.2
      rw [List.length_append] at hc1
      rw [x_sl_push] at hc2
      simp only [List.length_cons, List.length_nil, x_c1, List.length_replicate] at hc1 hc2
      have hn1 : ¬ k < 0 := fun q => hn (Or.inl q)
      have hn2 : k.toNatClampNeg ≤ 1000000 := Nat.not_lt.mp fun q => hn (Or.inr q)
      have hby : k.toNatClampNeg * componentBytes (newarray.typeOf at0) ≤ 536870912 := Nat.le_trans (Nat.mul_le_mul hn2 hb4) (by decide)
      show W p l e R s m args below meth c H locs (h.length - h0.length) (x_sl h - x_sl h0) Q (F0 m pc ls ((Value.int k :: q).map (x_v ad)))
      refine va_newaK B.1 B.2.1 (hts _ hw) rfl hd rfl hn1 rfl hby (by omega) (by omega) rfl fun H1 cA e1 z1 o1 hAr hNm => ?_
      have hcA : cA = kA t := Option.some.inj (hNm.symm.trans (hra _ _ (hK.2 t _ (x_ty_at ht)).2))
      subst hcA
      have hat : va_at G K.1 (H.size, x_e kA ad (.inl (t, .inl (List.replicate k.toNatClampNeg 0)))) H1 := by
        show H1[H.size]? = some (vp_cell (kA t) ((List.replicate k.toNatClampNeg (0 : Int32)).length, .inl (fun j => (List.replicate k.toNatClampNeg (0 : Int32)).getD j 0)))
        rw [e1, vp_cell_i, hdf, List.length_replicate]
        congr 2
        funext j
        simp [List.getD_eq_getElem?_getD, List.getElem?_replicate]
        split <;> rfl
      have w := kk ls H1 locs h1 (h2.push hat z1 o1) (x_S_push h3 z1 o1)
      dsimp only at w
      rw [x_sl_push, List.length_append] at w
      simp only [List.length_cons, List.length_nil, x_c1, List.length_replicate, List.map_cons, x_v] at w
      have e0 : ad (h.length + 3) = H.size := h2.2.2 0
      rw [e0] at w
      refine W.cs (by omega) (by omega) w
  · cases ho
def x_nal (n t : Nat) : xO := fun _ z => match z.2.1 with
  | .int k :: r => if k < 0 ∨ 1000000 < k.toNatClampNeg then none else some (.inl (n, z.1, .ref (z.2.2.length + 3) :: r, z.2.2 ++ [.inl (t, .inr (.inl (List.replicate k.toNatClampNeg 0)))]))
  | _ => none
theorem s_newlongs {t : Nat} (hd : decode cc pc = .ok (.newarray .long, 2)) (hw : Cond.arrayClass .long ∈ Ts) (ht : K.2.1[t]? = some .long) : x_Sim K scr l y cc mL ret Ts pc (x_nal (pc + 2) t) := by
  intro G kA ad p e R s m args below meth c B d calls hok hf hl h0 z r hle ho
  obtain ⟨lv, st, h⟩ := z
  unfold x_nal at ho
  split at ho
  · next k q hst =>
    dsimp only at hst
    subst hst
    split at ho
    · cases ho
    · next hn =>
      cases ho
      refine ⟨x_le_push, fun hc1 hc2 Q kk ls H locs h1 h2 h3 => ?_⟩
      have hts := B.2.2.2.2.1
      have hK := B.2.2.2.2.2.2.2.2.1
      dsimp only at hc1 hc2 hle
      have g1 := hle.1
      have g2 := hle.2
      rw [List.length_append] at hc1
      rw [x_sl_push] at hc2
      simp only [List.length_cons, List.length_nil, x_c1, List.length_replicate] at hc1 hc2
      have hn1 : ¬ k < 0 := fun q => hn (Or.inl q)
      have hn2 : k.toNatClampNeg ≤ 1000000 := Nat.not_lt.mp fun q => hn (Or.inr q)
      have hby : k.toNatClampNeg * componentBytes (newarray.typeOf .long) ≤ 536870912 := Nat.le_trans (Nat.mul_le_mul hn2 (show componentBytes (newarray.typeOf .long) ≤ 8 by decide)) (by decide)
      show W p l e R s m args below meth c H locs (h.length - h0.length) (x_sl h - x_sl h0) Q (F0 m pc ls ((Value.int k :: q).map (x_v ad)))
      refine va_newaK (atype := .long) B.1 B.2.1 (hts _ hw) rfl hd rfl hn1 rfl hby (by omega) (by omega) rfl fun H1 cA e1 z1 o1 hAr hNm => ?_
      have hcA : cA = kA t := Option.some.inj (hNm.symm.trans (hK.2 t _ (x_ty_at ht)).2)
      subst hcA
      have hat : va_at G K.1 (H.size, x_e kA ad (.inl (t, .inr (.inl (List.replicate k.toNatClampNeg 0))))) H1 := by
        show H1[H.size]? = some (vp_cell (kA t) ((List.replicate k.toNatClampNeg (0 : Int64)).length, .inr (.inl (fun j => (List.replicate k.toNatClampNeg (0 : Int64)).getD j 0))))
        rw [e1, vp_cell_l, List.length_replicate]
        congr 2
        funext j
        simp [List.getD_eq_getElem?_getD, List.getElem?_replicate]
        split <;> rfl
      have w := kk ls H1 locs h1 (h2.push hat z1 o1) (x_S_push h3 z1 o1)
      dsimp only at w
      rw [x_sl_push, List.length_append] at w
      simp only [List.length_cons, List.length_nil, x_c1, List.length_replicate, List.map_cons, x_v] at w
      have e0 : ad (h.length + 3) = H.size := h2.2.2 0
      rw [e0] at w
      refine W.cs (by omega) (by omega) w
  · cases ho
def x_naq (n t : Nat) : xO := fun _ z => match z.2.1 with
  | .int k :: r => if k < 0 ∨ 1000000 < k.toNatClampNeg then none else some (.inl (n, z.1, .ref (z.2.2.length + 3) :: r, z.2.2 ++ [.inl (t, .inr (.inr (List.replicate k.toNatClampNeg none)))]))
  | _ => none
theorem s_anewarray {t idx : Nat} {C : String} (hd : decode cc pc = .ok (.anewarray idx, 3)) (hcl : Cond.classLink y.cls idx C ∈ Ts) (hov : Cond.arrayOver (.object C) ∈ K.2.2.2.2.1) (ht : K.2.1[t]? = some (.object C)) : x_Sim K scr l y cc mL ret Ts pc (x_naq (pc + 3) t) := by
  intro G kA ad p e R s m args below meth c B d calls hok hf hl h0 z r hle ho
  obtain ⟨lv, st, h⟩ := z
  unfold x_naq at ho
  split at ho
  · next k q hst =>
    dsimp only at hst
    subst hst
    split at ho
    · cases ho
    · next hn =>
      cases ho
      refine ⟨x_le_push, fun hc1 hc2 Q kk ls H locs h1 h2 h3 => ?_⟩
      have hts := B.2.2.2.2.1
      have hK := B.2.2.2.2.2.2.2.2.1
      dsimp only at hc1 hc2 hle
      have g1 := hle.1
      have g2 := hle.2
      rw [List.length_append] at hc1
      rw [x_sl_push] at hc2
      simp only [List.length_cons, List.length_nil, x_c1, List.length_replicate] at hc1 hc2
      have hn1 : ¬ k < 0 := fun q => hn (Or.inl q)
      have hn2 : k.toNatClampNeg ≤ 1000000 := Nat.not_lt.mp fun q => hn (Or.inr q)
      have hby : k.toNatClampNeg * 4 ≤ 536870912 := by omega
      show W p l e R s m args below meth c H locs (h.length - h0.length) (x_sl h - x_sl h0) Q (F0 m pc ls ((Value.int k :: q).map (x_v ad)))
      refine W.anew B.1 B.2.1 B.2.2.2.2.2.1 (hts _ hcl) (va_AO.use (B.2.2.2.2.2.2.2.2.2.1 _ hov).2) rfl hd rfl hn1 hby (by omega) (by omega) fun cA kA0 comp hNm hk1 hk2 hk3 => ?_
      obtain ⟨-, -, -, -, -, hNm2⟩ := (hK.2 t _ (x_ty_at ht)).2
      have hcA : cA = kA t := Option.some.inj (hNm.symm.trans hNm2)
      subst hcA
      have z1 : (H.push { cls := kA t, slots := Array.replicate k.toNatClampNeg Value.null, vm := .none }).size = H.size + 1 := by simp
      have o1 : ∀ q : Nat, q < H.size → (H.push { cls := kA t, slots := Array.replicate k.toNatClampNeg Value.null, vm := .none })[q]? = H[q]? := fun q hq => by
        rw [Array.getElem?_push, if_neg (Nat.ne_of_lt hq)]
      have hat : va_at G K.1 (H.size, x_e kA ad (.inl (t, .inr (.inr (List.replicate k.toNatClampNeg none))))) (H.push { cls := kA t, slots := Array.replicate k.toNatClampNeg Value.null, vm := .none }) := by
        show (H.push _)[H.size]? = some (vp_cell (kA t) ((List.replicate k.toNatClampNeg (none : Option Nat)).length, .inr (.inr (.inr (.inr (fun j => ((List.replicate k.toNatClampNeg (none : Option Nat)).getD j none).map ad))))))
        rw [vp_cell_q, List.length_replicate, arrV_new]
        rw [Array.getElem?_push, if_pos rfl]
        congr 2
        funext j
        have e9 : (List.replicate k.toNatClampNeg (none : Option Nat)).getD j none = none := by
          simp [List.getD_eq_getElem?_getD, List.getElem?_replicate]
          split <;> rfl
        rw [e9]; rfl
      have w := kk ls _ locs h1 (h2.push hat z1 o1) (x_S_push h3 z1 o1)
      dsimp only at w
      rw [x_sl_push, List.length_append] at w
      simp only [List.length_cons, List.length_nil, x_c1, List.length_replicate, List.map_cons, x_v] at w
      have e0 : ad (h.length + 3) = H.size := h2.2.2 0
      rw [e0] at w
      refine W.cs (by omega) (by omega) w
  · cases ho
/-! calls -/
theorem x_goon {G : va_G} {kA : Nat → ClassId} {ad : Nat → Nat} {p : Program} {e : Env} {R : Room} {s : State} {m : MethodId} {args : Array Value} {below : List Frame} {meth : Method} {c : Code} {H : Heap} {locs : List Loc} {cells slots mc ms : Nat} {Q : State → Prop} {ls : Array Slot} {st0 rest : List Value} {a : Array Value} {r : Option Value} {h' : xH}
    (hT9 : x_isT r = false) (hr : va_Run p l e R s m args below meth c H locs cells slots mc ms (F0 m pc ls st0) rest (x_Qc K G kA ad r h' a) (x_A ad)) (hS : va_S (x_A ad) s.heap H locs)
    (kk : ∀ (H1 : Heap) (locs1 : List Loc), x_R K G kA ad h' H1 → va_S (x_A ad) s.heap H1 locs1 → W p l e R s m args below meth c H1 locs1 (cells + mc) (slots + ms) Q (F0 m (pc + 3) ls ((r.map (x_v ad)).toList ++ rest))) : W p l e R s m args below meth c H locs cells slots Q (F0 m pc ls st0) := by
  intro T hT X
  obtain ⟨v, st₀, t, T', L, g0, X', hL, e1, e2, ⟨hv, hR, hF⟩, st⟩ := hr T hT X
  rw [x_out, if_neg (by rw [hT9]; decide)] at hv
  cases Outcome.returned.inj hv
  have hS1 : va_S (x_A ad) s.heap t.heap (locs ++ L) := by
    refine ⟨?_, fun q g1 g2 => ?_, fun q hq => ?_⟩
    · have := hF.1; rw [g0] at this; exact Nat.le_trans hS.1 this
    · have := hF.2 q (by rw [g0]; exact Nat.lt_of_lt_of_le g1 hS.1) g2
      rw [this, g0]; exact hS.2.1 q g1 g2
    · rcases List.mem_append.mp hq with h | h
      · exact hS.2.2 q h
      · exact hL q h
  obtain ⟨t2, a1, b1⟩ := kk t.heap (locs ++ L) hR hS1 T' e1 X'
  exact ⟨t2, st t2 a1, b1⟩
def x_cl_ (n M k : Nat) : xO := fun calls z =>
  if z.2.1.length < k ∨ 8 < ((z.2.1.drop k).map (fun v => v.category)).sum then none
  else match calls M (z.2.1.take k).reverse z.2.2 with
    | some q => if x_isT q.1 = true then none else some (.inl (n, z.1, q.1.toList ++ z.2.1.drop k, q.2))
    | none => none
theorem x_cl_inv {n M k : Nat} {calls : xF} {lv : xL} {st : List Value} {h : xH} {z : xZ} (ho : x_cl_ n M k calls (lv, st, h) = some z) : ∃ as rest v h', st = as.reverse ++ rest ∧ as = (st.take k).reverse ∧ as.length = k ∧ (rest.map (fun v => v.category)).sum ≤ 8 ∧ calls M as h = some (v, h') ∧ x_isT v = false ∧ z = .inl (n, lv, v.toList ++ rest, h') := by
  unfold x_cl_ at ho
  dsimp only at ho
  split at ho
  · cases ho
  · next hn =>
    split at ho
    · next q hq =>
      split at ho
      · cases ho
      · next hT =>
        refine ⟨(st.take k).reverse, st.drop k, q.1, q.2, ?_, rfl, ?_, Nat.not_lt.mp fun g => hn (Or.inr g), hq, by simpa using hT, (Option.some.inj ho).symm⟩
        · rw [List.reverse_reverse, List.take_append_drop]
        · have : ¬ st.length < k := fun g => hn (Or.inl g)
          simp; omega
    · cases ho
theorem x_ret {K : xK} {l : Launch} {G : va_G} {kA : Nat → ClassId} {ad : Nat → Nat} {y : MethodName} {ws : List Cond} {rm : Room} {Pc : Array Value → State → Prop} {v : Option Value} {h' : xH} {mc ms : Nat} {free : Addr → Prop} (hT : x_isT v = false) (h : x_Met l y ws rm Pc (x_Qc K G kA ad v h') mc ms free) : Met l y ws rm Pc (x_Qc K G kA ad v h') mc ms free :=
  x_toMet h (fun a st o t hq => ⟨v.map (x_v ad), by rw [hq.1]; simp [x_out, hT]⟩)
theorem x_blind {G : va_G} {kA : Nat → ClassId} {ad : Nat → Nat} {as : List Value} {h : xH} : FrameBlind (x_Pc K G kA ad as h) := fun a U g mk q =>
  ⟨q.1, q.2.1, va_K.moved (u := U) (U := U.calling g mk a) (Vm.Alike.refl U.vm) q.2.2.1, q.2.2.2.1.same (s := U) (U := U.calling g mk a) rfl, q.2.2.2.2⟩
theorem x_sum8 (ad : Nat → Nat) (rest : List Value) (h : (rest.map (fun v => v.category)).sum ≤ 8) : ((rest.map (x_v ad)).map (fun v => v.category)).sum ≤ 8 := by
  rw [List.map_map]
  have : ((fun v : Value => v.category) ∘ x_v ad) = (fun v : Value => v.category) := by funext v; exact x_v_cat ad v
  rw [this]; exact h
theorem x_toL (ad : Nat → Nat) (v : Option Value) (rest : List Value) : (v.map (x_v ad)).toList ++ rest.map (x_v ad) = (v.toList ++ rest).map (x_v ad) := by cases v <;> simp

theorem s_invokestatic {idx M k ml : Nat} {ym : MethodName} {bs : ByteArray} {rt : Option FieldType} {wm ws' : List Cond} (hd : decode cc pc = .ok (.invokestatic idx, 3)) (hy : K.2.2.1 M = ym) (hwm : K.2.2.2.1 M = wm) (hGd : GoodIn Ts (va_wsS y.cls idx ym wm)) (hw : wm = .code ym bs ml rt :: ws') (hdd : ym.cls ≠ "java/lang/invoke/MethodHandle" ∧ ym.cls ≠ "java/lang/invoke/VarHandle" ∧ (parseMethodDescriptor ym.desc).map (fun d => d.parameters.length) = some k) (hml : ml ≤ 41) : x_Sim K scr l y cc mL ret Ts pc (x_cl_ (pc + 3) M k) := by
  intro G kA ad p e R s m args below meth c B d calls hok hf hl h0 z r hle ho
  obtain ⟨lv, st, h⟩ := z
  obtain ⟨as, rest, v, h', hst, has, hk, hsum, hc, hT, rfl⟩ := x_cl_inv ho
  have hm := hok M as h v h' hc
  refine ⟨hm.1, fun hc1 hc2 Q kk ls H locs h1 h2 h3 => ?_⟩
  have hts := B.2.2.2.2.1
  have hK := B.2.2.2.2.2.2.2.2.1
  have g1 := hle.1
  have g2 := hle.2
  have g3 := hm.1.1
  have g4 := hm.1.2
  dsimp only at hc1 hc2 g1 g2
  have hpre : PreS s H (x_Pc K G kA ad as h) (as.map (x_v ad)) := ⟨x_blind, fun U hU hW => ⟨rfl, by rw [hU]; exact h2, va_K.moved hW.alike hK, B.2.2.2.2.2.2.2.2.2.1.warm hW, B.2.2.2.2.2.2.2.2.2.2.1.step hW hU h3⟩⟩
  have hroom : (x_rm d h h').frames + 1 ≤ R.frames ∧ 8 + (ml + 11) + (x_rm d h h').locals ≤ R.locals := ⟨hf, by show 8 + (ml + 11) + (60 * d + 200) ≤ R.locals; omega⟩
  rw [hy, hwm] at hm
  have hrun := va_runS (As := as.map (x_v ad)) (rest := rest.map (x_v ad)) (g := F0 m pc ls (st.map (x_v ad))) (H := H) (locs := locs) (cells := h.length - h0.length) (slots := x_sl h - x_sl h0) (below := below) (e := e) (meth := meth) ⟨B.1, B.2.1, B.2.2.1, B.2.2.2.2.2.1, hts⟩ (x_ret hT (hm.2 ad)) (va_cwS k hts hGd hw rfl rfl hdd hroom) hpre rfl (by simp [hk]) h1.1 (by show st.map (x_v ad) = _; rw [hst]; simp) (lv_room (m := m) (pc := pc) (ls := ls) (x_sum8 ad rest hsum)) hd ⟨by omega, by omega⟩
  show W p l e R s m args below meth c H locs (h.length - h0.length) (x_sl h - x_sl h0) Q (F0 m pc ls (st.map (x_v ad)))
  refine x_goon hT hrun h3 (fun H1 locs1 hR1 hS1 => ?_)
  have w := kk ls H1 locs1 h1 hR1 hS1
  dsimp only at w
  rw [x_toL]
  exact W.cs (by omega) (by omega) w

theorem s_invokestaticN {idx M k ml : Nat} {ym : MethodName} {host : String} {bs : ByteArray} {rt : Option FieldType} {wm ws' : List Cond} (hd : decode cc pc = .ok (.invokestatic idx, 3)) (hy : K.2.2.1 M = ym) (hwm : K.2.2.2.1 M = wm) (hG : GoodIn Ts wm) (hlk : Cond.methodLinkNest y.cls idx ym host ∈ K.2.2.2.2.1) (hstt : Cond.static ym ∈ Ts) (hini : Cond.initialized ym.cls ∈ Ts) (hw : wm = .code ym bs ml rt :: ws') (hdd : ym.cls ≠ "java/lang/invoke/MethodHandle" ∧ ym.cls ≠ "java/lang/invoke/VarHandle" ∧ (parseMethodDescriptor ym.desc).map (fun d => d.parameters.length) = some k) (hml : ml ≤ 41) : x_Sim K scr l y cc mL ret Ts pc (x_cl_ (pc + 3) M k) := by
  intro G kA ad p e R s m args below meth c B d calls hok hf hl h0 z r hle ho
  obtain ⟨lv, st, h⟩ := z
  obtain ⟨as, rest, v, h', hst, has, hk, hsum, hc, hT, rfl⟩ := x_cl_inv ho
  have hm := hok M as h v h' hc
  refine ⟨hm.1, fun hc1 hc2 Q kk ls H locs h1 h2 h3 => ?_⟩
  have hts := B.2.2.2.2.1
  have hK := B.2.2.2.2.2.2.2.2.1
  have g1 := hle.1
  have g2 := hle.2
  have g3 := hm.1.1
  have g4 := hm.1.2
  dsimp only at hc1 hc2 g1 g2
  have hpre : PreS s H (x_Pc K G kA ad as h) (as.map (x_v ad)) := ⟨x_blind, fun U hU hW => ⟨rfl, by rw [hU]; exact h2, va_K.moved hW.alike hK, B.2.2.2.2.2.2.2.2.2.1.warm hW, B.2.2.2.2.2.2.2.2.2.2.1.step hW hU h3⟩⟩
  have hroom : (x_rm d h h').frames + 1 ≤ R.frames ∧ 8 + (ml + 11) + (x_rm d h h').locals ≤ R.locals := ⟨hf, by show 8 + (ml + 11) + (60 * d + 200) ≤ R.locals; omega⟩
  rw [hy, hwm] at hm
  have hrun := va_runSN (As := as.map (x_v ad)) (rest := rest.map (x_v ad)) (g := F0 m pc ls (st.map (x_v ad))) (H := H) (locs := locs) (cells := h.length - h0.length) (slots := x_sl h - x_sl h0) (below := below) (e := e) (meth := meth) ⟨B.1, B.2.1, B.2.2.1, B.2.2.2.2.2.1, hts⟩ (x_ret hT (hm.2 ad)) ⟨va_cnB k hts hG hw rfl rfl (B.2.2.2.2.2.2.2.2.2.1 _ hlk).2 (hts _ hini) hdd hroom, hts _ hstt, trivial⟩ hpre rfl (by simp [hk]) h1.1 (by show st.map (x_v ad) = _; rw [hst]; simp) (lv_room (m := m) (pc := pc) (ls := ls) (x_sum8 ad rest hsum)) hd ⟨by omega, by omega⟩
  show W p l e R s m args below meth c H locs (h.length - h0.length) (x_sl h - x_sl h0) Q (F0 m pc ls (st.map (x_v ad)))
  refine x_goon hT hrun h3 (fun H1 locs1 hR1 hS1 => ?_)
  have w := kk ls H1 locs1 h1 hR1 hS1
  dsimp only at w
  rw [x_toL]
  exact W.cs (by omega) (by omega) w

def x_rc (ci k : Nat) (st : List Value) (h : xH) : Bool := match (st.take k).reverse with
  | .ref (b + 3) :: _ => match h[b]? with
    | some (.inr (cj, _)) => cj == ci
    | _ => false
  | _ => false
theorem x_rc_inv {ci k : Nat} {st : List Value} {h : xH} {as : List Value} (has : as = (st.take k).reverse) (hr : x_rc ci k st h = true) : ∃ b As fs, as = .ref (b + 3) :: As ∧ h[b]? = some (.inr (ci, fs)) := by
  unfold x_rc at hr
  rw [← has] at hr
  clear has
  rcases as with _ | ⟨v, As⟩
  · cases hr
  · cases v with
    | ref a =>
      rcases a with _ | _ | _ | b
      · cases hr
      · cases hr
      · cases hr
      · dsimp only at hr
        split at hr
        · rename_i cj fs hb
          have : cj = ci := by simpa using hr
          subst this
          exact ⟨b, As, fs, rfl, hb⟩
        · cases hr
    | _ => cases hr
def x_cv (n M k ci : Nat) : xO := fun calls z => if x_rc ci k z.2.1 z.2.2 = true then x_cl_ n M k calls z else none

theorem s_invokevirtual {idx M k ci ml N : Nat} {C : String} {T : u_T} {ym : MethodName} {bs : ByteArray} {rt : Option FieldType} {wm ws' : List Cond} (hd : decode cc pc = .ok (.invokevirtual idx, 3)) (hy : K.2.2.1 M = ym) (hwm : K.2.2.2.1 M = wm) (hcl : K.1[ci]? = some (C, T, N)) (hGd : GoodIn Ts (wsV y.cls idx C ym wm)) (hw : wm = .code ym bs ml rt :: ws') (hdd : ym.cls = C ∧ ym.cls ≠ "java/lang/invoke/MethodHandle" ∧ ym.cls ≠ "java/lang/invoke/VarHandle" ∧ (parseMethodDescriptor ym.desc).map (fun d => d.parameters.length) = some k) (hml : ml ≤ 41) : x_Sim K scr l y cc mL ret Ts pc (x_cv (pc + 3) M (k + 1) ci) := by
  intro G kA ad p e R s m args below meth c B d calls hok hf hl h0 z r hle ho
  obtain ⟨lv, st, h⟩ := z
  unfold x_cv at ho
  split at ho
  case isFalse => cases ho
  next hrc =>
  obtain ⟨as, rest, v, h', hst, has, hk, hsum, hc, hT, rfl⟩ := x_cl_inv ho
  obtain ⟨b, As, fs, rfl, hb⟩ := x_rc_inv has hrc
  have hm := hok M (.ref (b + 3) :: As) h v h' hc
  refine ⟨hm.1, fun hc1 hc2 Q kk ls H locs h1 h2 h3 => ?_⟩
  have hts := B.2.2.2.2.1
  have hK := B.2.2.2.2.2.2.2.2.1
  have g1 := hle.1
  have g2 := hle.2
  have g3 := hm.1.1
  have g4 := hm.1.2
  dsimp only at hc1 hc2 g1 g2
  have hpre : PreV s H C (ad (b + 3)) (x_Pc K G kA ad (.ref (b + 3) :: As) h) (As.map (x_v ad)) := ⟨x_blind, va_recv hK h2.1 hcl (x_w_at hb), fun U hU hW => ⟨rfl, by rw [hU]; exact h2, va_K.moved hW.alike hK, B.2.2.2.2.2.2.2.2.2.1.warm hW, B.2.2.2.2.2.2.2.2.2.2.1.step hW hU h3⟩⟩
  have hroom : (x_rm d h h').frames + 1 ≤ R.frames ∧ 8 + (ml + 11) + (x_rm d h h').locals ≤ R.locals := ⟨hf, by show 8 + (ml + 11) + (60 * d + 200) ≤ R.locals; omega⟩
  rw [hy, hwm] at hm
  have hrun := va_runV (As := As.map (x_v ad)) (b := ad (b + 3)) (rest := rest.map (x_v ad)) (g := F0 m pc ls (st.map (x_v ad))) (H := H) (locs := locs) (cells := h.length - h0.length) (slots := x_sl h - x_sl h0) (below := below) (e := e) (meth := meth) ⟨B.1, B.2.1, B.2.2.1, B.2.2.2.2.2.1, hts⟩ (x_ret hT (hm.2 ad)) (cwV k hts hGd hw rfl rfl hdd hroom) hpre rfl (by simpa using hk) h1.1 (by show st.map (x_v ad) = _; rw [hst]; simp [x_v]) (lv_room (m := m) (pc := pc) (ls := ls) (x_sum8 ad rest hsum)) hd ⟨by omega, by omega⟩
  show W p l e R s m args below meth c H locs (h.length - h0.length) (x_sl h - x_sl h0) Q (F0 m pc ls (st.map (x_v ad)))
  refine x_goon hT hrun h3 (fun H1 locs1 hR1 hS1 => ?_)
  have w := kk ls H1 locs1 h1 hR1 hS1
  dsimp only at w
  rw [x_toL]
  exact W.cs (by omega) (by omega) w

theorem s_invokevirtualN {idx M k ci ml N : Nat} {C host : String} {T : u_T} {ym : MethodName} {bs : ByteArray} {rt : Option FieldType} {wm ws' : List Cond} (hd : decode cc pc = .ok (.invokevirtual idx, 3)) (hy : K.2.2.1 M = ym) (hwm : K.2.2.2.1 M = wm) (hcl : K.1[ci]? = some (C, T, N)) (hG : GoodIn Ts wm) (hlk : Cond.methodLinkNest y.cls idx ym host ∈ K.2.2.2.2.1) (hin : Cond.instanceMethod ym ∈ Ts) (hsel : Cond.selects C ym ym ∈ Ts) (hini : Cond.initialized ym.cls ∈ Ts) (hw : wm = .code ym bs ml rt :: ws') (hdd : ym.cls ≠ "java/lang/invoke/MethodHandle" ∧ ym.cls ≠ "java/lang/invoke/VarHandle" ∧ (parseMethodDescriptor ym.desc).map (fun d => d.parameters.length) = some k) (hml : ml ≤ 41) : x_Sim K scr l y cc mL ret Ts pc (x_cv (pc + 3) M (k + 1) ci) := by
  intro G kA ad p e R s m args below meth c B d calls hok hf hl h0 z r hle ho
  obtain ⟨lv, st, h⟩ := z
  unfold x_cv at ho
  split at ho
  case isFalse => cases ho
  next hrc =>
  obtain ⟨as, rest, v, h', hst, has, hk, hsum, hc, hT, rfl⟩ := x_cl_inv ho
  obtain ⟨b, As, fs, rfl, hb⟩ := x_rc_inv has hrc
  have hm := hok M (.ref (b + 3) :: As) h v h' hc
  refine ⟨hm.1, fun hc1 hc2 Q kk ls H locs h1 h2 h3 => ?_⟩
  have hts := B.2.2.2.2.1
  have hK := B.2.2.2.2.2.2.2.2.1
  have g1 := hle.1
  have g2 := hle.2
  have g3 := hm.1.1
  have g4 := hm.1.2
  dsimp only at hc1 hc2 g1 g2
  have hpre : PreV s H C (ad (b + 3)) (x_Pc K G kA ad (.ref (b + 3) :: As) h) (As.map (x_v ad)) := ⟨x_blind, va_recv hK h2.1 hcl (x_w_at hb), fun U hU hW => ⟨rfl, by rw [hU]; exact h2, va_K.moved hW.alike hK, B.2.2.2.2.2.2.2.2.2.1.warm hW, B.2.2.2.2.2.2.2.2.2.2.1.step hW hU h3⟩⟩
  have hroom : (x_rm d h h').frames + 1 ≤ R.frames ∧ 8 + (ml + 11) + (x_rm d h h').locals ≤ R.locals := ⟨hf, by show 8 + (ml + 11) + (60 * d + 200) ≤ R.locals; omega⟩
  rw [hy, hwm] at hm
  have hrun := va_runVN (As := As.map (x_v ad)) (b := ad (b + 3)) (C := C) (rest := rest.map (x_v ad)) (g := F0 m pc ls (st.map (x_v ad))) (H := H) (locs := locs) (cells := h.length - h0.length) (slots := x_sl h - x_sl h0) (below := below) (e := e) (meth := meth) ⟨B.1, B.2.1, B.2.2.1, B.2.2.2.2.2.1, hts⟩ (x_ret hT (hm.2 ad)) ⟨va_cnB k hts hG hw rfl rfl (B.2.2.2.2.2.2.2.2.2.1 _ hlk).2 (hts _ hini) hdd hroom, hts _ hin, hts _ hsel⟩ hpre rfl (by simpa using hk) h1.1 (by show st.map (x_v ad) = _; rw [hst]; simp [x_v]) (lv_room (m := m) (pc := pc) (ls := ls) (x_sum8 ad rest hsum)) hd ⟨by omega, by omega⟩
  show W p l e R s m args below meth c H locs (h.length - h0.length) (x_sl h - x_sl h0) Q (F0 m pc ls (st.map (x_v ad)))
  refine x_goon hT hrun h3 (fun H1 locs1 hR1 hS1 => ?_)
  have w := kk ls H1 locs1 h1 hR1 hS1
  dsimp only at w
  rw [x_toL]
  exact W.cs (by omega) (by omega) w

def x_r0 (k : Nat) (st : List Value) : Bool := match (st.take k).reverse with
  | .ref _ :: _ => true
  | _ => false
theorem x_r0_inv {k : Nat} {st : List Value} {as : List Value} (has : as = (st.take k).reverse) (hr : x_r0 k st = true) : ∃ b As, as = .ref b :: As := by
  unfold x_r0 at hr
  rw [← has] at hr
  clear has
  rcases as with _ | ⟨v, As⟩
  · cases hr
  · cases v with
    | ref a => exact ⟨a, As, rfl⟩
    | _ => cases hr
/-- a constructor's call -/
def x_cs (n M k : Nat) : xO := fun calls z => if x_r0 k z.2.1 = true then x_cl_ n M k calls z else none

theorem s_invokespecial {idx M k ml : Nat} {ym : MethodName} {bs : ByteArray} {wm ws' : List Cond} (hd : decode cc pc = .ok (.invokespecial idx, 3)) (hy : K.2.2.1 M = ym) (hwm : K.2.2.2.1 M = wm) (hG : GoodIn Ts wm) (hlk : Cond.methodLink y.cls idx ym ∈ Ts) (hin : Cond.instanceMethod ym ∈ Ts) (hini : Cond.initialized ym.cls ∈ Ts) (hyn : ym.name = "<init>") (hw : wm = .code ym bs ml none :: ws') (hdd : ym.cls ≠ "java/lang/invoke/MethodHandle" ∧ ym.cls ≠ "java/lang/invoke/VarHandle" ∧ (parseMethodDescriptor ym.desc).map (fun d => d.parameters.length) = some k) (hml : ml ≤ 41) : x_Sim K scr l y cc mL ret Ts pc (x_cs (pc + 3) M (k + 1)) := by
  intro G kA ad p e R s m args below meth c B d calls hok hf hl h0 z r hle ho
  obtain ⟨lv, st, h⟩ := z
  unfold x_cs at ho
  split at ho
  case isFalse => cases ho
  next hrc =>
  obtain ⟨as, rest, v, h', hst, has, hk, hsum, hc, hT, rfl⟩ := x_cl_inv ho
  obtain ⟨b, As, rfl⟩ := x_r0_inv has hrc
  have hm := hok M (.ref b :: As) h v h' hc
  refine ⟨hm.1, fun hc1 hc2 Q kk ls H locs h1 h2 h3 => ?_⟩
  have hts := B.2.2.2.2.1
  have hK := B.2.2.2.2.2.2.2.2.1
  have g1 := hle.1
  have g2 := hle.2
  have g3 := hm.1.1
  have g4 := hm.1.2
  dsimp only at hc1 hc2 g1 g2
  have hpre : PreS s H (x_Pc K G kA ad (.ref b :: As) h) (.ref (ad b) :: As.map (x_v ad)) := ⟨x_blind, fun U hU hW => ⟨rfl, by rw [hU]; exact h2, va_K.moved hW.alike hK, B.2.2.2.2.2.2.2.2.2.1.warm hW, B.2.2.2.2.2.2.2.2.2.2.1.step hW hU h3⟩⟩
  have hroom : (x_rm d h h').frames + 1 ≤ R.frames ∧ 8 + (ml + 11) + (x_rm d h h').locals ≤ R.locals := ⟨hf, by show 8 + (ml + 11) + (60 * d + 200) ≤ R.locals; omega⟩
  rw [hy, hwm] at hm
  have hrun := va_runI (As := As.map (x_v ad)) (b := ad b) (rest := rest.map (x_v ad)) (g := F0 m pc ls (st.map (x_v ad))) (H := H) (locs := locs) (cells := h.length - h0.length) (slots := x_sl h - x_sl h0) (below := below) (e := e) (meth := meth) ⟨B.1, B.2.1, B.2.2.1, B.2.2.2.2.2.1, hts⟩ (x_ret hT (hm.2 ad)) (cwI k hts hG hw rfl rfl (hts _ hini) (hts _ hlk) (hts _ hin) hyn hdd hroom) hpre rfl (by simpa using hk) h1.1 (by show st.map (x_v ad) = _; rw [hst]; simp [x_v]) (lv_room (m := m) (pc := pc) (ls := ls) (x_sum8 ad rest hsum)) hd ⟨by omega, by omega⟩
  show W p l e R s m args below meth c H locs (h.length - h0.length) (x_sl h - x_sl h0) Q (F0 m pc ls (st.map (x_v ad)))
  refine x_goon hT hrun h3 (fun H1 locs1 hR1 hS1 => ?_)
  have w := kk ls H1 locs1 h1 hR1 hS1
  dsimp only at w
  rw [x_toL]
  exact W.cs (by omega) (by omega) w

def x_oi (n : Nat) (st : List Value) : Option (Nat × List Value) := match st with
  | .ref _ :: r => if (r.map (fun v => v.category)).sum ≤ 8 then some (n, r) else none
  | _ => none
theorem s_objInit {idx : Nat} (hd : decode cc pc = .ok (.invokespecial idx, 3)) (h1 : Cond.methodLink y.cls idx Lib.objectInit ∈ Ts) (h2 : Cond.instanceMethod Lib.objectInit ∈ Ts) (h3 : Cond.code Lib.objectInit ⟨#[0xb1]⟩ 1 none ∈ Ts) : x_Sim K scr l y cc mL ret Ts pc (x_st (x_oi (pc + 3))) := by
  intro G kA ad p e R s m args below meth c B d calls hok hf hl h0 z r hle ho
  obtain ⟨lv, st, h⟩ := z
  unfold x_st at ho
  cases hs : x_oi (pc + 3) st with
  | none => simp only [hs] at ho; cases ho
  | some q =>
    simp only [hs] at ho
    cases ho
    unfold x_oi at hs
    split at hs
    · next b rest =>
      split at hs
      · next hsum =>
        cases hs
        refine ⟨x_le.rf, fun _ _ Q k ls H locs g1 g2 g3 => ?_⟩
        have hts := B.2.2.2.2.1
        refine W.objInit B.1 B.2.1 B.2.2.2.2.2.1 (hts _ h1) (hts _ h2) (hts _ h3) rfl (by rw [B.2.2.1]; exact g1.1) (a := ad b) (rest := rest.map (x_v ad)) rfl hd (by omega) ?_ (k ls H locs g1 g2 g3)
        have h8 := lv_room (m := m) (pc := pc) (ls := ls) (rest := (Value.ref b :: rest).map (x_v ad)) (x_sum8 ad rest hsum)
        have h9 : 2 * (F0 m pc ls ((Value.ref b :: rest).map (x_v ad))).monitorRoom + ((rest.map (x_v ad)).map fun v => v.category).sum + 12 ≤ R.locals := by omega
        exact h9
      · cases hs
    · cases hs
/-! ends -/
def x_rv : xO := fun _ z => match z.2.1 with
  | [] => some (.inr (none, z.2.2))
  | _ => none
theorem s_return (hd : decode cc pc = .ok (.return_, 1)) (hret : ret = none) : x_Sim K scr l y cc mL ret Ts pc x_rv := by
  intro G kA ad p e R s m args below meth c B d calls hok hf hl h0 z r hle ho
  obtain ⟨lv, st, h⟩ := z
  unfold x_rv at ho
  split at ho
  · next hst =>
    dsimp only at hst
    subst hst
    cases ho
    refine ⟨x_le.rf, fun _ _ ls H locs g1 g2 g3 => x_W_mono (fun t => x_MQ_of) ?_⟩
    have hlocks : meth.locks = false := B.2.2.2.2.2.2.1
    exact W.vret B.1 B.2.1 (B.2.2.2.1.trans hret) (fun t ht hW => ⟨rfl, by rw [ht]; exact g2, g3.F ht⟩) g3.2.2 hd
  · cases ho
def x_ri (ty : FieldType) : xO := fun _ z => match z.2.1 with
  | [.int x] => if narrow ty (.int x) = .int x then some (.inr (some (.int x), z.2.2)) else none
  | _ => none
theorem s_ireturn {ty : FieldType} (hd : decode cc pc = .ok (.ireturn, 1)) (hret : ret = some ty) : x_Sim K scr l y cc mL ret Ts pc (x_ri ty) := by
  intro G kA ad p e R s m args below meth c B d calls hok hf hl h0 z r hle ho
  obtain ⟨lv, st, h⟩ := z
  unfold x_ri at ho
  split at ho
  · next x hst =>
    dsimp only at hst
    subst hst
    split at ho
    · next hn =>
      cases ho
      refine ⟨x_le.rf, fun _ _ ls H locs g1 g2 g3 => x_W_mono (fun t => x_MQ_of) ?_⟩
      have hlocks : meth.locks = false := B.2.2.2.2.2.2.1
      exact W.zret B.1 B.2.1 (B.2.2.2.1.trans hret) hn (fun t ht hW => ⟨rfl, by rw [ht]; exact g2, g3.F ht⟩) g3.2.2 hd
    · cases ho
  · cases ho
def x_ra : xO := fun _ z => match z.2.1 with
  | [.ref k] => some (.inr (some (.ref k), z.2.2))
  | [.null] => some (.inr (some .null, z.2.2))
  | _ => none
theorem s_areturn {rt : FieldType} (hd : decode cc pc = .ok (.areturn, 1)) (hret : ret = some rt) (hrt : (∃ n, rt = .object n) ∨ ∃ t, rt = .array t) : x_Sim K scr l y cc mL ret Ts pc x_ra := by
  intro G kA ad p e R s m args below meth c B d calls hok hf hl h0 z r hle ho
  obtain ⟨lv, st, h⟩ := z
  have hlocks : ∀ (_ : True), meth.locks = false := fun _ => B.2.2.2.2.2.2.1
  unfold x_ra at ho
  split at ho
  · next k hst =>
    dsimp only at hst
    subst hst
    cases ho
    refine ⟨x_le.rf, fun _ _ ls H locs g1 g2 g3 => x_W_mono (fun t => x_MQ_of) ?_⟩
    have hlocks : meth.locks = false := B.2.2.2.2.2.2.1
    exact W.aret B.1 B.2.1 (B.2.2.2.1.trans hret) hrt (Or.inr ⟨ad k, rfl⟩) (fun t ht hW => ⟨rfl, by rw [ht]; exact g2, g3.F ht⟩) g3.2.2 hd
  · next hst =>
    dsimp only at hst
    subst hst
    cases ho
    refine ⟨x_le.rf, fun _ _ ls H locs g1 g2 g3 => x_W_mono (fun t => x_MQ_of) ?_⟩
    have hlocks : meth.locks = false := B.2.2.2.2.2.2.1
    exact W.aret B.1 B.2.1 (B.2.2.2.1.trans hret) hrt (Or.inl rfl) (fun t ht hW => ⟨rfl, by rw [ht]; exact g2, g3.F ht⟩) g3.2.2 hd
  · cases ho
end XS
/-! THE CALLS: every method by its number; d: how deep calls may go; F: how many instructions a body may run -/
def x_grew (h : xH) (r : Option (Option Value × xH)) : Option (Option Value × xH) := match r with
  | some q => if h.length ≤ q.2.length ∧ x_sl h ≤ x_sl q.2 then some q else none
  | none => none
theorem x_grew_inv {h : xH} {r : Option (Option Value × xH)} {q : Option Value × xH} (e : x_grew h r = some q) : r = some q ∧ x_le h q.2 := by
  unfold x_grew at e
  split at e
  · split at e
    · next hc => cases e; exact ⟨rfl, hc⟩
    · cases e
  · cases e
def x_call (tb : Nat → Option (List (Nat × xO) × Nat)) (F : Nat) : Nat → xF
  | 0, _, _, _ => none
  | d + 1, M, as, h => match tb M with
    | none => none
    | some q => if (lg_sl as).length ≤ q.2 then x_grew h (x_go q.1 (x_call tb F d) F 0 (lv_args 0 as, [], h)) else none
/-- a table of methods whose instructions do what they say -/
def x_Tb (K : xK) (l : Launch) (tb : Nat → Option (List (Nat × xO) × Nat)) : Prop := ∀ M cd mL, tb M = some (cd, mL) →
  ∃ cc ret ws', plainName (K.2.2.1 M).cls = true ∧ K.2.2.2.1 M = Cond.code (K.2.2.1 M) cc mL ret :: ws' ∧ ∀ q ∈ cd, x_Sim K none l (K.2.2.1 M) cc mL ret (K.2.2.2.1 M) q.1 q.2
theorem x_call_ok {K : xK} {l : Launch} {tb : Nat → Option (List (Nat × xO) × Nat)} (hT : x_Tb K l tb) (F : Nat) (G : va_G) (kA : Nat → ClassId) : ∀ d, x_Ok K l G kA d (x_call tb F d) := by
  intro d
  induction d with
  | zero => intro M as h r h' e; cases e
  | succ d ih =>
    intro M as h r h' e
    unfold x_call at e
    split at e
    · cases e
    · next q hq =>
      split at e
      · next hlen =>
        obtain ⟨e1, hle⟩ := x_grew_inv e
        obtain ⟨cc, ret, ws', h1, h2, h3⟩ := hT M q.1 q.2 hq
        exact x_met h1 h2 h3 ih hlen hle e1
      · cases e

