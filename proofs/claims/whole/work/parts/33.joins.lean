/-! joining places: what stays true while pairs of places are worked off -/
theorem nodup_one : ∀ {l : List Nat} (n : Nat), l.Nodup → l.length ≤ (l.filter (fun x => decide (x ≠ n))).length + 1
  | [], _, _ => by simp
  | a :: l, n, h => by
    rw [List.nodup_cons] at h
    by_cases e : a = n
    · subst e
      have : l.filter (fun x => decide (x ≠ a)) = l := by
        rw [List.filter_eq_self]
        intro x hx
        have : x ≠ a := fun e => h.1 (e ▸ hx)
        simpa using this
      rw [List.filter_cons_of_neg (by simp), this]
      simp
    · rw [List.filter_cons_of_pos (by simpa using e)]
      have := nodup_one n h.2
      simp only [List.length_cons]
      omega
theorem pigeon : ∀ {n : Nat} {l : List Nat}, l.Nodup → (∀ x ∈ l, x < n) → l.length ≤ n
  | 0, [], _, _ => Nat.le_refl _
  | 0, a :: l, _, h => absurd (h a List.mem_cons_self) (Nat.not_lt_zero _)
  | n + 1, l, hd, h => by
    have h1 := nodup_one n hd
    have h2 := pigeon (n := n) (l := l.filter (fun x => decide (x ≠ n))) (hd.filter _) (fun x hx => by
      have := List.mem_filter.mp hx
      have h3 := h x this.1
      have h4 : x ≠ n := by simpa using this.2
      omega)
    omega
/-- up the pointers, k steps at most -/
def fdn (R : Nat → Nat) : Nat → Nat → Nat
  | 0, i => i
  | k + 1, i => if R i = i then i else fdn R k (R i)
theorem fdn_root {R : Nat → Nat} {i : Nat} (h : R i = i) : ∀ k, fdn R k i = i
  | 0 => rfl
  | _ + 1 => if_pos h
section FDN
variable {n : Nat} {R dm : Nat → Nat}
/-- the places on the way up, k steps -/
def way (R : Nat → Nat) : Nat → Nat → List Nat
  | 0, i => [i]
  | k + 1, i => i :: way R k (R i)
theorem way_len : ∀ (k i : Nat), (way R k i).length = k + 1
  | 0, _ => rfl
  | k + 1, i => by
    show (way R k (R i)).length + 1 = _
    rw [way_len k]
theorem fdn_top (h1 : ∀ i, i < n → R i < n) (h2 : ∀ i, i < n → R i ≠ i → dm (R i) < dm i) : ∀ (k i : Nat), i < n → R (fdn R k i) ≠ fdn R k i → (way R k i).Nodup ∧ ∀ x ∈ way R k i, x < n ∧ dm x ≤ dm i
  | 0, i, hi, _ => ⟨by simp [way], fun x hx => by
      rw [way, List.mem_singleton] at hx
      subst hx
      exact ⟨hi, Nat.le_refl _⟩⟩
  | k + 1, i, hi, hn => by
    by_cases e : R i = i
    · rw [fdn_root e] at hn
      exact absurd e hn
    · have hf : fdn R (k + 1) i = fdn R k (R i) := if_neg e
      rw [hf] at hn
      obtain ⟨g1, g2⟩ := fdn_top h1 h2 k (R i) (h1 i hi) hn
      have hd := h2 i hi e
      refine ⟨?_, fun x hx => ?_⟩
      · show (i :: way R k (R i)).Nodup
        rw [List.nodup_cons]
        refine ⟨fun hm => ?_, g1⟩
        have := (g2 i hm).2
        omega
      · rcases List.mem_cons.mp hx with rfl | hx
        · exact ⟨hi, Nat.le_refl _⟩
        · have := g2 x hx
          exact ⟨this.1, by omega⟩
theorem fdn_is (h1 : ∀ i, i < n → R i < n) (h2 : ∀ i, i < n → R i ≠ i → dm (R i) < dm i) {k i : Nat} (hk : n ≤ k) (hi : i < n) : R (fdn R k i) = fdn R k i := by
  refine Classical.byContradiction (fun hn => ?_)
  obtain ⟨g1, g2⟩ := fdn_top h1 h2 k i hi hn
  have := pigeon g1 (fun x hx => (g2 x hx).1)
  rw [way_len] at this
  omega
theorem fdn_lt (h1 : ∀ i, i < n → R i < n) : ∀ (k i : Nat), i < n → fdn R k i < n
  | 0, _, hi => hi
  | k + 1, i, hi => by
    unfold fdn
    split
    · exact hi
    · exact fdn_lt h1 k _ (h1 i hi)
theorem fdn_more : ∀ {k i : Nat}, R (fdn R k i) = fdn R k i → ∀ j, fdn R (k + j) i = fdn R k i
  | 0, i, h, j => by
    show fdn R (0 + j) i = i
    exact fdn_root h _
  | k + 1, i, h, j => by
    by_cases e : R i = i
    · rw [fdn_root e, fdn_root e]
    · have e1 : fdn R (k + 1) i = fdn R k (R i) := if_neg e
      rw [e1] at h ⊢
      rw [show k + 1 + j = (k + j) + 1 by omega]
      have e2 : fdn R (k + j + 1) i = fdn R (k + j) (R i) := if_neg e
      rw [e2]
      exact fdn_more h j
theorem fdn_R (h1 : ∀ i, i < n → R i < n) (h2 : ∀ i, i < n → R i ≠ i → dm (R i) < dm i) {k i : Nat} (hk : n ≤ k) (hi : i < n) : fdn R k (R i) = fdn R k i := by
  by_cases e : R i = i
  · rw [e]
  · have e1 : fdn R (k + 1) i = fdn R k (R i) := if_neg e
    rw [← e1]
    exact fdn_more (fdn_is h1 h2 hk hi) 1
theorem fdn_all {α : Type} {φ : Nat → α} (h1 : ∀ i, i < n → R i < n) {a : Nat} (hφ : ∀ i, i < n → i ≠ a → φ (R i) = φ i) (ha : R a = a) : ∀ (k i : Nat), i < n → φ (fdn R k i) = φ i
  | 0, _, _ => rfl
  | k + 1, i, hi => by
    unfold fdn
    split
    · rfl
    · next e =>
      rw [fdn_all h1 hφ ha k _ (h1 i hi)]
      exact hφ i hi (fun q => e (q ▸ ha))
end FDN
def ups (R : Nat → Nat) (a b : Nat) (i : Nat) : Nat := if i = a then b else R i
theorem ups_a (R : Nat → Nat) (a b : Nat) : ups R a b a = b := if_pos rfl
theorem ups_n {R : Nat → Nat} {a b i : Nat} (h : i ≠ a) : ups R a b i = R i := if_neg h
/-- φ does not part joined places, nor those that are to be joined -/
def Rs (n : Nat) (R : Nat → Nat) (W : List (Nat × Nat)) (φ : Nat → List Int) : Prop := (∀ i, i < n → φ (R i) = φ i) ∧ ∀ q ∈ W, φ q.1 = φ q.2
def UJ (P : List Int) (x y : Nat) (R : Nat → Nat) (W : List (Nat × Nat)) : Prop :=
  (∀ i, i < P.length → R i < P.length) ∧ (∃ dm : Nat → Nat, ∀ i, i < P.length → R i ≠ i → dm (R i) < dm i) ∧
  (∀ φ, Rs P.length R [] φ → ∀ i j, i < P.length → j < P.length → pz P i < 99 → pz P i = pz P j → φ i = φ j) ∧
  (∀ i, i < P.length → R i ≠ i → ¬ pz P i < 99 → pz P (R i) = pz P i ∧ ∀ φ, Rs P.length R W φ → (args P i).map φ = (args P (R i)).map φ) ∧
  (∀ φ, Rs P.length R W φ → φ x = φ y) ∧
  (∀ θ, Tσ θ → sub θ (tm P x) = sub θ (tm P y) → Rs P.length R W (fun i => sub θ (tm P i))) ∧
  ∀ q ∈ W, q.1 < P.length ∧ q.2 < P.length
section UJ
variable {P : List Int} {x y : Nat} {R : Nat → Nat} {W : List (Nat × Nat)} {p q k : Nat}
theorem UJ.same (h : UJ P x y R ((p, q) :: W)) (hk : P.length ≤ k) (e : fdn R k p = fdn R k q) : UJ P x y R W := by
  obtain ⟨h1, ⟨dm, h2⟩, h3, h4, h5, h6, h7⟩ := h
  have hpq := h7 (p, q) List.mem_cons_self
  have key : ∀ φ, Rs P.length R W φ → Rs P.length R ((p, q) :: W) φ := fun φ hφ => ⟨hφ.1, fun r hr => by
    rcases List.mem_cons.mp hr with rfl | hr
    · show φ p = φ q
      have hr := fdn_is h1 h2 hk hpq.1
      rw [← fdn_all (φ := φ) (a := fdn R k p) h1 (fun i hi _ => hφ.1 i hi) hr k p hpq.1, ← fdn_all (φ := φ) (a := fdn R k p) h1 (fun i hi _ => hφ.1 i hi) hr k q hpq.2, e]
    · exact hφ.2 r hr⟩
  exact ⟨h1, ⟨dm, h2⟩, h3, fun i hi hr hv => ⟨(h4 i hi hr hv).1, fun φ hφ => (h4 i hi hr hv).2 φ (key φ hφ)⟩, fun φ hφ => h5 φ (key φ hφ), fun θ hθ e9 => ⟨(h6 θ hθ e9).1, fun r hr => (h6 θ hθ e9).2 r (List.mem_cons_of_mem _ hr)⟩, fun r hr => h7 r (List.mem_cons_of_mem _ hr)⟩
/-- a, the top of p, is put below b, the top of q; V are the pairs that come new -/
theorem UJ.link {V : List (Nat × Nat)} (h : UJ P x y R ((p, q) :: W)) (hk : P.length ≤ k) (hne : fdn R k p ≠ fdn R k q) (hv : ¬ pz P (fdn R k p) < 99 → pz P (fdn R k q) = pz P (fdn R k p) ∧ ∀ φ : Nat → List Int, (∀ r ∈ V, φ r.1 = φ r.2) → (args P (fdn R k p)).map φ = (args P (fdn R k q)).map φ)
    (hV : ∀ θ, Tσ θ → sub θ (tm P (fdn R k p)) = sub θ (tm P (fdn R k q)) → ∀ r ∈ V, sub θ (tm P r.1) = sub θ (tm P r.2)) (hVl : ∀ r ∈ V, r.1 < P.length ∧ r.2 < P.length) : UJ P x y (ups R (fdn R k p) (fdn R k q)) (V ++ W) := by
  obtain ⟨h1, ⟨dm, h2⟩, h3, h4, h5, h6, h7⟩ := h
  have hpq := h7 (p, q) List.mem_cons_self
  have ta := fdn_is h1 h2 hk hpq.1
  have tb := fdn_is h1 h2 hk hpq.2
  have la := fdn_lt h1 k p hpq.1
  have lb := fdn_lt h1 k q hpq.2
  have fR : ∀ i, i < P.length → fdn R k (R i) = fdn R k i := fun i hi => fdn_R h1 h2 hk hi
  have pall : ∀ (φ : Nat → List Int), (∀ i, i < P.length → i ≠ fdn R k p → φ (R i) = φ i) → φ (fdn R k p) = φ p ∧ φ (fdn R k q) = φ q := fun φ hφ => ⟨fdn_all h1 hφ ta k p hpq.1, fdn_all h1 hφ ta k q hpq.2⟩
  generalize fdn R k p = a at *
  generalize fdn R k q = b at *
  have key : ∀ φ, Rs P.length (ups R a b) W φ → Rs P.length R ((p, q) :: W) φ := fun φ hφ => by
    have g : ∀ i, i < P.length → i ≠ a → φ (R i) = φ i := fun i hi hn => by
      have := hφ.1 i hi
      rw [ups_n hn] at this
      exact this
    have gab : φ b = φ a := by
      have := hφ.1 a la
      rw [ups_a] at this
      exact this
    refine ⟨fun i hi => ?_, fun r hr => ?_⟩
    · by_cases hn : i = a
      · rw [hn, ta]
      · exact g i hi hn
    · rcases List.mem_cons.mp hr with rfl | hr
      · obtain ⟨e1, e2⟩ := pall φ g
        show φ p = φ q
        rw [← e1, ← e2, gab]
      · exact hφ.2 r hr
  have key2 : ∀ φ, Rs P.length (ups R a b) (V ++ W) φ → Rs P.length R ((p, q) :: W) φ := fun φ hφ => key φ ⟨hφ.1, fun r hr => hφ.2 r (List.mem_append_right _ hr)⟩
  refine ⟨fun i hi => ?_, ⟨fun i => if fdn R k i = a then dm i + dm b + 1 else dm i, fun i hi hn => ?_⟩, fun φ hφ => ?_, fun i hi hn hv9 => ?_, fun φ hφ => h5 φ (key2 φ hφ), fun θ hθ e9 => ?_, fun r hr => ?_⟩
  · unfold ups
    split
    · exact lb
    · exact h1 i hi
  · have fa : fdn R k a = a := fdn_root ta k
    have fb : fdn R k b = b := fdn_root tb k
    by_cases hia : i = a
    · subst hia
      rw [ups_a]
      show (if fdn R k b = i then dm b + dm b + 1 else dm b) < if fdn R k i = i then dm i + dm b + 1 else dm i
      rw [fb, fa, if_neg (Ne.symm hne), if_pos rfl]
      omega
    · rw [ups_n hia] at hn ⊢
      have hd := h2 i hi hn
      show (if fdn R k (R i) = a then dm (R i) + dm b + 1 else dm (R i)) < if fdn R k i = a then dm i + dm b + 1 else dm i
      rw [fR i hi]
      split <;> omega
  · refine h3 φ ⟨fun i hi => ?_, fun _ h => by cases h⟩
    by_cases hn : i = a
    · rw [hn, ta]
    · have := hφ.1 i hi
      rw [ups_n hn] at this
      exact this
  · by_cases hia : i = a
    · subst hia
      obtain ⟨e1, e2⟩ := hv hv9
      rw [ups_a]
      exact ⟨e1, fun φ hφ => e2 φ (fun r hr => hφ.2 r (List.mem_append_left _ hr))⟩
    · rw [ups_n hia] at hn ⊢
      obtain ⟨e1, e2⟩ := h4 i hi hn hv9
      exact ⟨e1, fun φ hφ => e2 φ (key2 φ hφ)⟩
  · obtain ⟨g1, g2⟩ := h6 θ hθ e9
    obtain ⟨e1, e2⟩ := pall (fun i => sub θ (tm P i)) (fun i hi _ => g1 i hi)
    have e3 : sub θ (tm P p) = sub θ (tm P q) := g2 (p, q) List.mem_cons_self
    have e4 : sub θ (tm P a) = sub θ (tm P b) := by
      rw [e1, e2, e3]
    refine ⟨fun i hi => ?_, fun r hr => ?_⟩
    · by_cases hia : i = a
      · subst hia
        rw [ups_a]
        exact e4.symm
      · rw [ups_n hia]
        exact g1 i hi
    · rcases List.mem_append.mp hr with hr | hr
      · exact hV θ hθ e4 r hr
      · exact g2 r (List.mem_cons_of_mem _ hr)
  · rcases List.mem_append.mp hr with hr | hr
    · exact hVl r hr
    · exact h7 r (List.mem_cons_of_mem _ hr)
theorem UJ.tops (h : UJ P x y R ((p, q) :: W)) (hk : P.length ≤ k) {θ : Int → List Int} (hθ : Tσ θ) (e : sub θ (tm P x) = sub θ (tm P y)) : sub θ (tm P (fdn R k p)) = sub θ (tm P (fdn R k q)) := by
  obtain ⟨h1, ⟨dm, h2⟩, h3, h4, h5, h6, h7⟩ := h
  have hpq := h7 (p, q) List.mem_cons_self
  obtain ⟨g1, g2⟩ := h6 θ hθ e
  have ta := fdn_is h1 h2 hk hpq.1
  have e1 := fdn_all (φ := fun i => sub θ (tm P i)) h1 (fun i hi _ => g1 i hi) ta k p hpq.1
  have e2 := fdn_all (φ := fun i => sub θ (tm P i)) h1 (fun i hi _ => g1 i hi) ta k q hpq.2
  rw [e1, e2]
  exact g2 (p, q) List.mem_cons_self
theorem UJ.clash (hT : ∀ i, i < P.length → Ts 1 (tm P i)) (h : UJ P x y R ((p, q) :: W)) (hk : P.length ≤ k) (ha : ¬ pz P (fdn R k p) < 99) (hb : ¬ pz P (fdn R k q) < 99) (hn : pz P (fdn R k p) ≠ pz P (fdn R k q)) : ∀ θ, Tσ θ → sub θ (tm P x) ≠ sub θ (tm P y) := by
  intro θ hθ e
  have hpq := h.2.2.2.2.2.2 (p, q) List.mem_cons_self
  have e1 := h.tops hk hθ e
  have la := fdn_lt h.1 k p hpq.1
  have lb := fdn_lt h.1 k q hpq.2
  rw [val_f θ la (hT _ la) ha, val_f θ lb (hT _ lb) hb] at e1
  simp only [List.cons.injEq] at e1
  exact hn e1.1
/-- all worked off: the tops have what is wanted of them, but for the rank -/
theorem UJ.fin (h : UJ P x y R []) (hk : P.length ≤ k) : (∀ i, i < P.length → fdn R k i < P.length) ∧ (∀ i, i < P.length → fdn R k (fdn R k i) = fdn R k i) ∧ (∀ i j, i < P.length → j < P.length → pz P i < 99 → pz P i = pz P j → fdn R k i = fdn R k j) ∧
    (∀ i, i < P.length → ¬ pz P i < 99 → pz P (fdn R k i) = pz P i ∧ (args P i).map (fdn R k) = (args P (fdn R k i)).map (fdn R k)) ∧ (x < P.length → y < P.length → fdn R k x = fdn R k y) ∧ ∀ θ, Tσ θ → sub θ (tm P x) = sub θ (tm P y) → ∀ i, i < P.length → sub θ (tm P i) = sub θ (tm P (fdn R k i)) := by
  obtain ⟨h1, ⟨dm, h2⟩, h3, h4, h5, h6, h7⟩ := h
  have hφ : Rs P.length R [] (fun i => [(fdn R k i : Int)]) := ⟨fun i hi => by
    show [(fdn R k (R i) : Int)] = [(fdn R k i : Int)]
    rw [fdn_R h1 h2 hk hi], fun _ h => by cases h⟩
  have inj : ∀ {a b : Nat}, [(a : Int)] = [(b : Int)] → a = b := fun e => by
    have := List.cons.inj e
    omega
  have mapinj : ∀ {A B : List Nat}, A.map (fun i => [(fdn R k i : Int)]) = B.map (fun i => [(fdn R k i : Int)]) → A.map (fdn R k) = B.map (fdn R k) := by
    intro A
    induction A with
    | nil =>
      intro B e
      cases B with
      | nil => rfl
      | cons b B => cases e
    | cons a A ih =>
      intro B e
      cases B with
      | nil => cases e
      | cons b B =>
        rw [List.map_cons, List.map_cons, List.cons.injEq] at e
        rw [List.map_cons, List.map_cons, ih e.2, inj e.1]
  have chain : ∀ (m i : Nat), i < P.length → ¬ pz P i < 99 → pz P (fdn R m i) = pz P i ∧ (args P i).map (fdn R k) = (args P (fdn R m i)).map (fdn R k) := by
    intro m
    induction m with
    | zero => intro i _ _; exact ⟨rfl, rfl⟩
    | succ m ih =>
      intro i hi hv
      by_cases e : R i = i
      · rw [fdn_root e]
        exact ⟨rfl, rfl⟩
      · have e1 : fdn R (m + 1) i = fdn R m (R i) := if_neg e
        rw [e1]
        obtain ⟨g1, g2⟩ := h4 i hi e hv
        obtain ⟨k1, k2⟩ := ih (R i) (h1 i hi) (by rw [g1]; exact hv)
        exact ⟨by rw [k1, g1], by rw [mapinj (g2 _ hφ), k2]⟩
  refine ⟨fun i hi => fdn_lt h1 k i hi, fun i hi => fdn_root (fdn_is h1 h2 hk hi) k, fun i j hi hj hv e => inj (h3 _ hφ i j hi hj hv e), fun i hi hv => chain k i hi hv, fun _ _ => inj (h5 _ hφ), fun θ hθ e i hi => ?_⟩
  have g := (h6 θ hθ e).1
  have ta := fdn_is h1 h2 hk hi
  exact (fdn_all (φ := fun i => sub θ (tm P i)) h1 (fun i hi _ => g i hi) ta k i hi).symm
end UJ
