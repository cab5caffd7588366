/-! unifying as a set of pairs that is worked off: what stays true -/
def UI (a0 b0 : List Int) (σ : Int → List Int) (L : List (List Int × List Int)) : Prop :=
  Tσ σ ∧ (∀ v, v < 99 → sub σ (σ v) = σ v) ∧
  (∀ θ, Tσ θ → sub θ a0 = sub θ b0 → (∀ v, v < 99 → sub θ (σ v) = θ v) ∧ ∀ q ∈ L, sub θ q.1 = sub θ q.2) ∧
  (∀ θ, Tσ θ → (∀ v, v < 99 → sub θ (σ v) = θ v) → (∀ q ∈ L, sub θ q.1 = sub θ q.2) → sub θ a0 = sub θ b0)
theorem Ts_v {v : Int} (h : v < 99) : Ts 1 [v] := by
  show Ts (0 + ar v) []
  rw [Ts_nil, ar_v h]
theorem UI.init (a0 b0 : List Int) : UI a0 b0 (fun v => [v]) [(a0, b0)] := by
  refine ⟨fun v hv => Ts_v hv, fun v hv => sub_v hv, fun θ _ e => ⟨fun v hv => sub_v hv, fun q hq => ?_⟩, fun θ _ _ h => h (a0, b0) List.mem_cons_self⟩
  rw [List.mem_singleton] at hq
  subst hq
  exact e
theorem UI.fin {a0 b0 : List Int} {σ : Int → List Int} (h : UI a0 b0 σ []) : Mg σ a0 b0 :=
  ⟨h.1, h.2.2.2 σ h.1 h.2.1 (fun _ hq => by cases hq), fun θ hθ e => (h.2.2.1 θ hθ e).1⟩
theorem UI.perm {a0 b0 : List Int} {σ : Int → List Int} {L L' : List (List Int × List Int)} (h : UI a0 b0 σ L) (e : ∀ q, q ∈ L ↔ q ∈ L') : UI a0 b0 σ L' :=
  ⟨h.1, h.2.1, fun θ hθ k => ⟨(h.2.2.1 θ hθ k).1, fun q hq => (h.2.2.1 θ hθ k).2 q ((e q).mpr hq)⟩, fun θ hθ k g => h.2.2.2 θ hθ k (fun q hq => g q ((e q).mp hq))⟩
theorem UI.flip {a0 b0 a b : List Int} {σ : Int → List Int} {L : List (List Int × List Int)} (h : UI a0 b0 σ ((a, b) :: L)) : UI a0 b0 σ ((b, a) :: L) := by
  refine ⟨h.1, h.2.1, fun θ hθ k => ⟨(h.2.2.1 θ hθ k).1, fun q hq => ?_⟩, fun θ hθ k g => h.2.2.2 θ hθ k (fun q hq => ?_)⟩
  · have g := (h.2.2.1 θ hθ k).2
    rcases List.mem_cons.mp hq with rfl | hq
    · exact (g (a, b) List.mem_cons_self).symm
    · exact g q (List.mem_cons_of_mem _ hq)
  · rcases List.mem_cons.mp hq with rfl | hq
    · exact (g (b, a) List.mem_cons_self).symm
    · exact g q (List.mem_cons_of_mem _ hq)
theorem through {θ σ : Int → List Int} (h : ∀ v, v < 99 → sub θ (σ v) = θ v) (t : List Int) : sub θ (sub σ t) = sub θ t := by
  rw [sub_sub]
  exact sub_congr (fun v _ hv => h v hv)
theorem UI.same {a0 b0 a b : List Int} {σ : Int → List Int} {L : List (List Int × List Int)} (h : UI a0 b0 σ ((a, b) :: L)) (e : sub σ a = sub σ b) : UI a0 b0 σ L := by
  refine ⟨h.1, h.2.1, fun θ hθ k => ⟨(h.2.2.1 θ hθ k).1, fun q hq => (h.2.2.1 θ hθ k).2 q (List.mem_cons_of_mem _ hq)⟩, fun θ hθ k g => h.2.2.2 θ hθ k (fun q hq => ?_)⟩
  rcases List.mem_cons.mp hq with rfl | hq
  · show sub θ a = sub θ b
    rw [← through k a, ← through k b, e]
  · exact g q hq
/-- the term t for the variable s -/
def for1 (s : Int) (t : List Int) (u : Int) : List Int := if u = s then t else [u]
theorem for1_s (s : Int) (t : List Int) : for1 s t s = t := if_pos rfl
theorem for1_n {s u : Int} {t : List Int} (h : u ≠ s) : for1 s t u = [u] := if_neg h
theorem for1_not {s : Int} {t r : List Int} (h : ¬ s ∈ r) : sub (for1 s t) r = r := by
  have : sub (for1 s t) r = sub (fun v => [v]) r := sub_congr (fun v hv _ => for1_n (fun e => h (e ▸ hv)))
  rw [this, sub_id]
theorem for1_id {θ : Int → List Int} {s : Int} {t : List Int} (h : sub θ t = θ s) (r : List Int) : sub θ (sub (for1 s t) r) = sub θ r := by
  refine through (fun v hv => ?_) r
  by_cases e : v = s
  · subst e
    rw [for1_s]
    exact h
  · rw [for1_n e, sub_v hv]
theorem UI.bind {a0 b0 a b : List Int} {σ : Int → List Int} {L : List (List Int × List Int)} {s : Int} (h : UI a0 b0 σ ((a, b) :: L)) (hs : s < 99) (ea : sub σ a = [s]) (hσ : σ s = [s]) (ho : ¬ s ∈ sub σ b) (hb : Ts 1 (sub σ b)) : UI a0 b0 (fun v => sub (for1 s (sub σ b)) (σ v)) L := by
  obtain ⟨h1, h2, h3, h4⟩ := h
  have hT : Tσ (for1 s (sub σ b)) := by
    intro v hv
    unfold for1
    split
    · exact hb
    · exact Ts_v hv
  have e2 : sub σ (sub σ b) = sub σ b := through h2 b
  have eS : sub (for1 s (sub σ b)) (σ s) = sub σ b := by rw [hσ, sub_v hs, for1_s]
  refine ⟨fun v hv => Ts_sub hT (h1 v hv), fun v hv => ?_, fun θ hθ k => ?_, fun θ hθ k g => ?_⟩
  · show sub (fun v => sub (for1 s (sub σ b)) (σ v)) (sub (for1 s (sub σ b)) (σ v)) = _
    rw [for1_id (s := s) (t := sub σ b) (θ := fun v => sub (for1 s (sub σ b)) (σ v)) ?_ (σ v)]
    · rw [← sub_sub, h2 v hv]
    · rw [← sub_sub, e2, for1_not ho]
      exact eS.symm
  · obtain ⟨g1, g2⟩ := h3 θ hθ k
    have gp : sub θ a = sub θ b := g2 (a, b) List.mem_cons_self
    have gs : sub θ (sub σ b) = θ s := by
      rw [through g1 b, ← gp, ← through g1 a, ea, sub_v hs]
    refine ⟨fun v hv => ?_, fun q hq => g2 q (List.mem_cons_of_mem _ hq)⟩
    show sub θ (sub (for1 s (sub σ b)) (σ v)) = θ v
    rw [for1_id gs, g1 v hv]
  · have gs : sub θ (sub σ b) = θ s := by
      have h9 : sub θ (sub (for1 s (sub σ b)) (σ s)) = θ s := k s hs
      rw [eS] at h9
      exact h9
    have g1 : ∀ v, v < 99 → sub θ (σ v) = θ v := fun v hv => by
      have h9 : sub θ (sub (for1 s (sub σ b)) (σ v)) = θ v := k v hv
      rw [for1_id gs] at h9
      exact h9
    refine h4 θ hθ g1 (fun q hq => ?_)
    rcases List.mem_cons.mp hq with rfl | hq
    · show sub θ a = sub θ b
      rw [← through g1 a, ea, sub_v hs, ← gs, through g1 b]
    · exact g q hq
theorem pairs_eq : ∀ {K : List (List Int × List Int)}, (∀ q ∈ K, Ts 1 q.1 ∧ Ts 1 q.2) → (K.map Prod.fst).flatten = (K.map Prod.snd).flatten → ∀ q ∈ K, q.1 = q.2
  | [], _, _, q, hq => by cases hq
  | p :: K, h, e, q, hq => by
    simp only [List.map_cons, List.flatten_cons] at e
    have hp := h p List.mem_cons_self
    obtain ⟨e1, e2⟩ := Ts_uniq hp.1 hp.2 e
    rcases List.mem_cons.mp hq with rfl | hq
    · exact e1
    · exact pairs_eq (fun x hx => h x (List.mem_cons_of_mem _ hx)) e2 q hq
theorem sub_flat (θ : Int → List Int) : ∀ K : List (List Int), sub θ K.flatten = (K.map (sub θ)).flatten
  | [] => rfl
  | a :: K => by
    rw [List.flatten_cons, sub_app, sub_flat θ K, List.map_cons, List.flatten_cons]
theorem UI.dec {a0 b0 a b x y : List Int} {σ : Int → List Int} {L K : List (List Int × List Int)} {f : Int} (h : UI a0 b0 σ ((a, b) :: L)) (hf : ¬ f < 99) (ea : sub σ a = sub σ (f :: x)) (eb : sub σ b = sub σ (f :: y)) (hx : x = (K.map Prod.fst).flatten) (hy : y = (K.map Prod.snd).flatten) (hK : ∀ q ∈ K, Ts 1 q.1 ∧ Ts 1 q.2) : UI a0 b0 σ (K ++ L) := by
  obtain ⟨h1, h2, h3, h4⟩ := h
  refine ⟨h1, h2, fun θ hθ k => ?_, fun θ hθ k g => ?_⟩
  · obtain ⟨g1, g2⟩ := h3 θ hθ k
    refine ⟨g1, fun q hq => ?_⟩
    rcases List.mem_append.mp hq with hq | hq
    · have gp : sub θ a = sub θ b := g2 (a, b) List.mem_cons_self
      rw [← through g1 a, ea, through g1, ← through g1 b, eb, through g1, sub_cons, sub_cons, if_neg hf] at gp
      have gp : sub θ x = sub θ y := by simpa using gp
      rw [hx, hy, sub_flat, sub_flat, List.map_map, List.map_map] at gp
      have := pairs_eq (K := K.map (fun q => (sub θ q.1, sub θ q.2))) (fun p hp => by
        obtain ⟨r, hr, rfl⟩ := List.mem_map.mp hp
        exact ⟨Ts_sub hθ (hK r hr).1, Ts_sub hθ (hK r hr).2⟩) (by rw [List.map_map, List.map_map]; exact gp) (sub θ q.1, sub θ q.2) (List.mem_map.mpr ⟨q, hq, rfl⟩)
      exact this
    · exact g2 q (List.mem_cons_of_mem _ hq)
  · refine h4 θ hθ k (fun q hq => ?_)
    rcases List.mem_cons.mp hq with rfl | hq
    · show sub θ a = sub θ b
      rw [← through k a, ea, through k, ← through k b, eb, through k, sub_cons, sub_cons, hx, hy, sub_flat, sub_flat, List.map_map, List.map_map]
      have : K.map (sub θ ∘ Prod.fst) = K.map (sub θ ∘ Prod.snd) := List.map_congr_left (fun q hq => g q (List.mem_append_left _ hq))
      rw [this]
    · exact g q (List.mem_append_right _ hq)
theorem UI.clash {a0 b0 a b x y : List Int} {σ : Int → List Int} {L : List (List Int × List Int)} {f g : Int} (h : UI a0 b0 σ ((a, b) :: L)) (hf : ¬ f < 99) (hg : ¬ g < 99) (hn : f ≠ g) (ea : sub σ a = sub σ (f :: x)) (eb : sub σ b = sub σ (g :: y)) : ∀ θ, Tσ θ → sub θ a0 ≠ sub θ b0 := by
  intro θ hθ k
  obtain ⟨g1, g2⟩ := h.2.2.1 θ hθ k
  have gp : sub θ a = sub θ b := g2 (a, b) List.mem_cons_self
  rw [← through g1 a, ea, through g1, ← through g1 b, eb, through g1, sub_cons, sub_cons, if_neg hf, if_neg hg] at gp
  simp only [List.cons_append, List.nil_append, List.cons.injEq] at gp
  exact hn gp.1
theorem sub_longer {θ : Int → List Int} (hθ : Tσ θ) {s : Int} (hs : s < 99) {t : List Int} (hm : s ∈ t) (hn : t ≠ [s]) : (θ s).length < (sub θ t).length := by
  obtain ⟨p, q, rfl⟩ := List.append_of_mem hm
  rw [sub_app, sub_cons, if_pos hs, List.length_append, List.length_append]
  have h1 := sub_len (Tσ_ne hθ) p
  have h2 := sub_len (Tσ_ne hθ) q
  have : 0 < p.length + q.length := by
    refine Nat.pos_of_ne_zero (fun e => hn ?_)
    have e1 : p = [] := List.eq_nil_of_length_eq_zero (by omega)
    have e2 : q = [] := List.eq_nil_of_length_eq_zero (by omega)
    rw [e1, e2]
    rfl
  omega
theorem UI.occ {a0 b0 a b : List Int} {σ : Int → List Int} {L : List (List Int × List Int)} {s : Int} (h : UI a0 b0 σ ((a, b) :: L)) (hs : s < 99) (ea : sub σ a = [s]) (hm : s ∈ sub σ b) (hn : sub σ b ≠ [s]) : ∀ θ, Tσ θ → sub θ a0 ≠ sub θ b0 := by
  intro θ hθ k
  obtain ⟨g1, g2⟩ := h.2.2.1 θ hθ k
  have gp : sub θ a = sub θ b := g2 (a, b) List.mem_cons_self
  rw [← through g1 a, ea, sub_v hs, ← through g1 b] at gp
  have := sub_longer hθ hs hm hn
  rw [gp] at this
  omega
