/-! the terms in a row by their places; what joined places give -/
def tk : Nat → List Int → List Int
  | 0, _ => []
  | _ + 1, [] => []
  | n + 1, s :: t => s :: tk (n + ar s) t
theorem tk_0 (l : List Int) : tk 0 l = [] := by cases l <;> rfl
theorem tk_app : ∀ {a b : List Int} {n : Nat}, Ts n a → tk n (a ++ b) = a
  | [], b, n, h => by
    rw [Ts_nil] at h
    subst h
    cases b <;> rfl
  | s :: t, b, n, h => by
    obtain ⟨m, rfl, hh⟩ := Ts_cons h
    show s :: tk (m + ar s) (t ++ b) = s :: t
    rw [tk_app hh]
theorem tk_pre : ∀ (l : List Int) (n : Nat), ∃ b, l = tk n l ++ b
  | [], n => ⟨[], by cases n <;> rfl⟩
  | s :: t, 0 => ⟨s :: t, rfl⟩
  | s :: t, n + 1 => by
    obtain ⟨b, e⟩ := tk_pre t (n + ar s)
    exact ⟨b, by
      show s :: t = s :: (tk (n + ar s) t ++ b)
      rw [← e]⟩
theorem tk_cut {n m : Nat} {l : List Int} (h : Ts (n + m) (tk (n + m) l)) : Ts n (tk n l) ∧ Ts m (tk m (l.drop (tk n l).length)) ∧ tk (n + m) l = tk n l ++ tk m (l.drop (tk n l).length) := by
  obtain ⟨b, e⟩ := tk_pre l (n + m)
  obtain ⟨a1, a2, e2, h1, h2⟩ := Ts_split h
  have e3 : l = a1 ++ (a2 ++ b) := by rw [← List.append_assoc, ← e2]; exact e
  have t1 : tk n l = a1 := by rw [e3]; exact tk_app h1
  have t2 : l.drop a1.length = a2 ++ b := by rw [e3, List.drop_left]
  have t3 : tk m (a2 ++ b) = a2 := tk_app h2
  rw [t1, t2, t3]
  exact ⟨h1, h2, e2⟩
def pz (P : List Int) (i : Nat) : Int := P.getD i 0
def tm (P : List Int) (i : Nat) : List Int := tk 1 (P.drop i)
theorem pz_drop {P : List Int} {i : Nat} (h : i < P.length) : P.drop i = pz P i :: P.drop (i + 1) := by
  rw [List.drop_eq_getElem_cons h]
  unfold pz
  rw [List.getD_eq_getElem?_getD, List.getElem?_eq_getElem h]
  rfl
theorem tm_eq {P : List Int} {i : Nat} (h : i < P.length) : tm P i = pz P i :: tk (ar (pz P i)) (P.drop (i + 1)) := by
  unfold tm
  rw [pz_drop h]
  show _ :: tk (0 + ar (pz P i)) _ = _
  rw [Nat.zero_add]
/-- the places of m terms, from j on -/
def apos (P : List Int) : Nat → Nat → List Nat
  | 0, _ => []
  | m + 1, j => j :: apos P m (j + (tm P j).length)
def args (P : List Int) (i : Nat) : List Nat := apos P (ar (pz P i)) (i + 1)
theorem apos_tk {P : List Int} : ∀ {m j : Nat}, Ts m (tk m (P.drop j)) → tk m (P.drop j) = ((apos P m j).map (tm P)).flatten ∧ ∀ q ∈ apos P m j, Ts 1 (tm P q) ∧ q < P.length ∧ j ≤ q
  | 0, j, _ => ⟨by rw [tk_0]; rfl, fun q hq => by cases hq⟩
  | m + 1, j, h => by
    rw [Nat.add_comm] at h
    obtain ⟨h1, h2, h3⟩ := tk_cut h
    rw [List.drop_drop] at h2 h3
    obtain ⟨g1, g2⟩ := apos_tk (P := P) (m := m) (j := j + (tm P j).length) h2
    refine ⟨?_, fun q hq => ?_⟩
    · rw [show tk (m + 1) (P.drop j) = tk (1 + m) (P.drop j) by rw [Nat.add_comm], h3]
      show _ = tm P j ++ ((apos P m (j + (tm P j).length)).map (tm P)).flatten
      rw [← g1]
      rfl
    · rcases List.mem_cons.mp hq with rfl | hq
      · refine ⟨h1, ?_, Nat.le_refl _⟩
        refine Nat.lt_of_not_le (fun hl => ?_)
        have e : P.drop q = [] := List.drop_eq_nil_of_le hl
        rw [e] at h1
        exact Ts_ne (n := 0) h1 rfl
      · have := g2 q hq
        exact ⟨this.1, this.2.1, by omega⟩
theorem args_ok {P : List Int} {i : Nat} (hi : i < P.length) (hT : Ts 1 (tm P i)) : tm P i = pz P i :: ((args P i).map (tm P)).flatten ∧ ∀ q ∈ args P i, Ts 1 (tm P q) ∧ q < P.length ∧ i < q := by
  rw [tm_eq hi] at hT
  have h : Ts (ar (pz P i)) (tk (ar (pz P i)) (P.drop (i + 1))) := by
    have : Ts (0 + ar (pz P i)) (tk (ar (pz P i)) (P.drop (i + 1))) := hT
    rw [Nat.zero_add] at this
    exact this
  obtain ⟨g1, g2⟩ := apos_tk h
  refine ⟨by rw [tm_eq hi, g1]; rfl, fun q hq => ?_⟩
  have := g2 q hq
  exact ⟨this.1, this.2.1, by omega⟩
theorem tm_v {P : List Int} {i : Nat} (hi : i < P.length) (hv : pz P i < 99) : tm P i = [pz P i] := by
  rw [tm_eq hi, ar_v hv]
  cases P.drop (i + 1) <;> rfl
theorem val_v {P : List Int} {i : Nat} (θ : Int → List Int) (hi : i < P.length) (hv : pz P i < 99) : sub θ (tm P i) = θ (pz P i) := by
  rw [tm_v hi hv, sub_v hv]
theorem val_f {P : List Int} {i : Nat} (θ : Int → List Int) (hi : i < P.length) (hT : Ts 1 (tm P i)) (hv : ¬ pz P i < 99) : sub θ (tm P i) = pz P i :: ((args P i).map (fun q => sub θ (tm P q))).flatten := by
  rw [(args_ok hi hT).1, sub_cons, if_neg hv, sub_flat, List.map_map]
  rfl
/-- what a place stands for, by the places fd that stand for all joined with them -/
def ex (P : List Int) (fd : Nat → Nat) : Nat → Nat → List Int
  | 0, _ => []
  | k + 1, i => if pz P (fd i) < 99 then [pz P (fd i)] else pz P (fd i) :: ((args P (fd i)).map (ex P fd k)).flatten
section NODES
variable {P : List Int} {fd rk : Nat → Nat} {K : Nat}
theorem ex_same (hT : ∀ i, i < P.length → Ts 1 (tm P i)) (h1 : ∀ i, i < P.length → fd i < P.length) (h5 : ∀ i, i < P.length → ¬ pz P (fd i) < 99 → ∀ x ∈ args P (fd i), rk (fd x) < rk (fd i)) : ∀ (k k' i : Nat), i < P.length → rk (fd i) < k → rk (fd i) < k' → ex P fd k i = ex P fd k' i
  | 0, _, _, _, h, _ => absurd h (Nat.not_lt_zero _)
  | _ + 1, 0, _, _, _, h => absurd h (Nat.not_lt_zero _)
  | k + 1, k' + 1, i, hi, hk, hk' => by
    unfold ex
    by_cases hv : pz P (fd i) < 99
    · rw [if_pos hv, if_pos hv]
    · rw [if_neg hv, if_neg hv]
      have : (args P (fd i)).map (ex P fd k) = (args P (fd i)).map (ex P fd k') := by
        apply List.map_congr_left
        intro x hx
        have hr := h5 i hi hv x hx
        have hl := ((args_ok (h1 i hi) (hT _ (h1 i hi))).2 x hx).2.1
        exact ex_same hT h1 h5 k k' x hl (by omega) (by omega)
      rw [this]
theorem ex_eq (hT : ∀ i, i < P.length → Ts 1 (tm P i)) (h1 : ∀ i, i < P.length → fd i < P.length) (h5 : ∀ i, i < P.length → ¬ pz P (fd i) < 99 → ∀ x ∈ args P (fd i), rk (fd x) < rk (fd i)) (hK : ∀ i, i < P.length → rk (fd i) < K) {i : Nat} (hi : i < P.length) (hv : ¬ pz P (fd i) < 99) :
    ex P fd K i = pz P (fd i) :: ((args P (fd i)).map (ex P fd K)).flatten := by
  have hk := hK i hi
  obtain ⟨k, rfl⟩ : ∃ k, K = k + 1 := ⟨K - 1, by omega⟩
  have e : ex P fd (k + 1) i = pz P (fd i) :: ((args P (fd i)).map (ex P fd k)).flatten := if_neg hv
  rw [e]
  have : (args P (fd i)).map (ex P fd k) = (args P (fd i)).map (ex P fd (k + 1)) := by
    apply List.map_congr_left
    intro x hx
    have hr := h5 i hi hv x hx
    have hl := ((args_ok (h1 i hi) (hT _ (h1 i hi))).2 x hx).2.1
    exact ex_same hT h1 h5 k (k + 1) x hl (by omega) (by omega)
  rw [this]
theorem ex_v (hK : ∀ i, i < P.length → rk (fd i) < K) {i : Nat} (hi : i < P.length) (hv : pz P (fd i) < 99) : ex P fd K i = [pz P (fd i)] := by
  have hk := hK i hi
  obtain ⟨k, rfl⟩ : ∃ k, K = k + 1 := ⟨K - 1, by omega⟩
  exact if_pos hv
theorem ex_fd (h2 : ∀ i, i < P.length → fd (fd i) = fd i) {i j : Nat} (e : fd i = fd j) : ex P fd K i = ex P fd K j := by
  cases K with
  | zero => rfl
  | succ k =>
    unfold ex
    rw [e]
/-- the substitution that joined places give -/
def sg (P : List Int) (fd : Nat → Nat) (K : Nat) (v : Int) : List Int := if v ∈ P then ex P fd K (P.idxOf v) else [v]
theorem pz_mem {i : Nat} (hi : i < P.length) : pz P i ∈ P := by
  unfold pz
  rw [List.getD_eq_getElem?_getD, List.getElem?_eq_getElem hi]
  exact List.getElem_mem hi
theorem pz_idx {v : Int} (h : v ∈ P) : P.idxOf v < P.length ∧ pz P (P.idxOf v) = v := by
  have hl : P.idxOf v < P.length := List.idxOf_lt_length_of_mem h
  refine ⟨hl, ?_⟩
  unfold pz
  rw [List.getD_eq_getElem?_getD, List.getElem?_eq_getElem hl]
  exact List.getElem_idxOf hl
theorem sg_v (h3 : ∀ i j, i < P.length → j < P.length → pz P i < 99 → pz P i = pz P j → fd i = fd j) (h2 : ∀ i, i < P.length → fd (fd i) = fd i) {i : Nat} (hi : i < P.length) (hv : pz P i < 99) : sg P fd K (pz P i) = ex P fd K i := by
  have hm := pz_mem (P := P) hi
  unfold sg
  rw [if_pos hm]
  obtain ⟨g1, g2⟩ := pz_idx hm
  exact ex_fd h2 (h3 _ _ g1 hi (by rw [g2]; exact hv) g2)
/-- with the substitution, the term at a place is what the place stands for -/
theorem sg_tm (hT : ∀ i, i < P.length → Ts 1 (tm P i)) (h1 : ∀ i, i < P.length → fd i < P.length) (h2 : ∀ i, i < P.length → fd (fd i) = fd i) (h3 : ∀ i j, i < P.length → j < P.length → pz P i < 99 → pz P i = pz P j → fd i = fd j) (h4 : ∀ i, i < P.length → ¬ pz P i < 99 → pz P (fd i) = pz P i ∧ (args P i).map fd = (args P (fd i)).map fd)
    (h5 : ∀ i, i < P.length → ¬ pz P (fd i) < 99 → ∀ x ∈ args P (fd i), rk (fd x) < rk (fd i)) (hK : ∀ i, i < P.length → rk (fd i) < K) : ∀ (n i : Nat), P.length - i ≤ n → i < P.length → sub (sg P fd K) (tm P i) = ex P fd K i := by
  intro n
  induction n with
  | zero => intro i hn hi; omega
  | succ n ih =>
    intro i hn hi
    by_cases hv : pz P i < 99
    · rw [val_v _ hi hv, sg_v h3 h2 hi hv]
    · obtain ⟨e1, e2⟩ := h4 i hi hv
      rw [val_f _ hi (hT i hi) hv, ex_eq hT h1 h5 hK hi (by rw [e1]; exact hv), e1]
      have a1 : (args P i).map (fun q => sub (sg P fd K) (tm P q)) = (args P i).map (ex P fd K) := by
        apply List.map_congr_left
        intro q hq
        have := (args_ok hi (hT i hi)).2 q hq
        exact ih q (by omega) this.2.1
      have a2 : (args P i).map (ex P fd K) = (args P (fd i)).map (ex P fd K) := by
        have : ∀ {A B : List Nat}, A.map fd = B.map fd → A.map (ex P fd K) = B.map (ex P fd K) := by
          intro A
          induction A with
          | nil =>
            intro B e
            cases B with
            | nil => rfl
            | cons b B => cases e
          | cons a A ihA =>
            intro B e
            cases B with
            | nil => cases e
            | cons b B =>
              simp only [List.map_cons, List.cons.injEq] at e
              rw [List.map_cons, List.map_cons, ihA e.2, ex_fd h2 e.1]
        exact this e2
      rw [a1, a2]
theorem ex_Ts (hT : ∀ i, i < P.length → Ts 1 (tm P i)) (h1 : ∀ i, i < P.length → fd i < P.length) (h5 : ∀ i, i < P.length → ¬ pz P (fd i) < 99 → ∀ x ∈ args P (fd i), rk (fd x) < rk (fd i)) (hK : ∀ i, i < P.length → rk (fd i) < K) : ∀ (n i : Nat), rk (fd i) < n → i < P.length → Ts 1 (ex P fd K i) := by
  intro n
  induction n with
  | zero => intro i hn _; omega
  | succ n ih =>
    intro i hn hi
    by_cases hv : pz P (fd i) < 99
    · rw [ex_v hK hi hv]
      exact Ts_v hv
    · rw [ex_eq hT h1 h5 hK hi hv]
      have hl : (args P (fd i)).length = ar (pz P (fd i)) := by
        have : ∀ m j, (apos P m j).length = m := by
          intro m
          induction m with
          | zero => intro j; rfl
          | succ m ihm => intro j; show _ + 1 = _; rw [ihm]
        exact this _ _
      have hA : ∀ A : List Nat, (∀ x ∈ A, Ts 1 (ex P fd K x)) → Ts A.length (A.map (ex P fd K)).flatten := by
        intro A
        induction A with
        | nil => intro _; rw [List.map_nil, List.flatten_nil, Ts_nil]; rfl
        | cons a A ihA =>
          intro h
          rw [List.map_cons, List.flatten_cons, List.length_cons, Nat.add_comm]
          exact Ts_app (h a List.mem_cons_self) (ihA (fun x hx => h x (List.mem_cons_of_mem _ hx)))
      have := hA (args P (fd i)) (fun x hx => by
        have hr := h5 i hi hv x hx
        have hl := ((args_ok (h1 i hi) (hT _ (h1 i hi))).2 x hx).2.1
        exact ih x (by omega) hl)
      rw [hl] at this
      show Ts (0 + ar (pz P (fd i))) _
      rw [Nat.zero_add]
      exact this
theorem ex_th (hT : ∀ i, i < P.length → Ts 1 (tm P i)) (h1 : ∀ i, i < P.length → fd i < P.length) (h5 : ∀ i, i < P.length → ¬ pz P (fd i) < 99 → ∀ x ∈ args P (fd i), rk (fd x) < rk (fd i)) (hK : ∀ i, i < P.length → rk (fd i) < K) {θ : Int → List Int} (h7 : ∀ i, i < P.length → sub θ (tm P i) = sub θ (tm P (fd i))) : ∀ (n i : Nat), rk (fd i) < n → i < P.length → sub θ (ex P fd K i) = sub θ (tm P i) := by
  intro n
  induction n with
  | zero => intro i hn _; omega
  | succ n ih =>
    intro i hn hi
    rw [h7 i hi]
    by_cases hv : pz P (fd i) < 99
    · rw [ex_v hK hi hv, sub_v hv, val_v θ (h1 i hi) hv]
    · rw [ex_eq hT h1 h5 hK hi hv, val_f θ (h1 i hi) (hT _ (h1 i hi)) hv, sub_cons, if_neg hv, sub_flat, List.map_map]
      have : (args P (fd i)).map (sub θ ∘ ex P fd K) = (args P (fd i)).map (fun q => sub θ (tm P q)) := by
        apply List.map_congr_left
        intro x hx
        have hr := h5 i hi hv x hx
        have hl := ((args_ok (h1 i hi) (hT _ (h1 i hi))).2 x hx).2.1
        exact ih x (by omega) hl
      rw [this]
      rfl
/-- joined places give a most general unifier -/
theorem sg_Mg (hT : ∀ i, i < P.length → Ts 1 (tm P i)) (h1 : ∀ i, i < P.length → fd i < P.length) (h2 : ∀ i, i < P.length → fd (fd i) = fd i) (h3 : ∀ i j, i < P.length → j < P.length → pz P i < 99 → pz P i = pz P j → fd i = fd j) (h4 : ∀ i, i < P.length → ¬ pz P i < 99 → pz P (fd i) = pz P i ∧ (args P i).map fd = (args P (fd i)).map fd)
    (h5 : ∀ i, i < P.length → ¬ pz P (fd i) < 99 → ∀ x ∈ args P (fd i), rk (fd x) < rk (fd i)) (hK : ∀ i, i < P.length → rk (fd i) < K) {x y : Nat} (hx : x < P.length) (hy : y < P.length) (h6 : fd x = fd y) (h7 : ∀ θ, Tσ θ → sub θ (tm P x) = sub θ (tm P y) → ∀ i, i < P.length → sub θ (tm P i) = sub θ (tm P (fd i))) :
    Mg (sg P fd K) (tm P x) (tm P y) := by
  have e := sg_tm hT h1 h2 h3 h4 h5 hK
  refine ⟨fun v hv => ?_, ?_, fun θ hθ k v hv => ?_⟩
  · unfold sg
    split
    · next hm => exact ex_Ts hT h1 h5 hK _ _ (Nat.lt_succ_self _) (pz_idx hm).1
    · exact Ts_v hv
  · rw [e _ x (Nat.le_refl _) hx, e _ y (Nat.le_refl _) hy]
    exact ex_fd h2 h6
  · unfold sg
    split
    · next hm =>
      obtain ⟨g1, g2⟩ := pz_idx hm
      rw [ex_th hT h1 h5 hK (h7 θ hθ k) _ _ (Nat.lt_succ_self _) g1, val_v θ g1 (by rw [g2]; exact hv), g2]
    · exact sub_v hv
end NODES
