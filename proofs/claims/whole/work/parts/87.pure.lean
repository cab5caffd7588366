/-! which signs a rule's clause has; clauses that were read are right -/

theorem fvs_nodup : ∀ {t q : List Int}, q.Nodup → (fvs q t).Nodup
  | [], _, h => h
  | s :: t, q, h => by
    unfold fvs
    split
    · next hs =>
      refine fvs_nodup ?_
      rw [List.nodup_append]
      refine ⟨h, by simp, fun a ha b hb => ?_⟩
      rw [List.mem_singleton] at hb
      subst hb
      exact fun e => hs.2 (e ▸ ha)
    · exact fvs_nodup h
theorem fvs_26 {t : List Int} (h : ∀ s ∈ t, s < 99 → 0 ≤ s ∧ s < 26) : (fvs [] t).length ≤ 26 := by
  have hn := fvs_nodup (t := t) (q := []) List.nodup_nil
  have hb : ∀ v ∈ fvs [] t, 0 ≤ v ∧ v < 26 := fun v hv => by
    rcases fvs_of hv with hv | hv
    · cases hv
    · exact h v hv.1 hv.2
  have h2 : ((fvs [] t).map Int.toNat).Nodup := by
    have key : ∀ l : List Int, l.Nodup → (∀ v ∈ l, 0 ≤ v ∧ v < 26) → (l.map Int.toNat).Nodup := by
      intro l
      induction l with
      | nil => intro _ _; exact List.nodup_nil
      | cons a l ih =>
        intro hn hb
        rw [List.nodup_cons] at hn
        rw [List.map_cons, List.nodup_cons]
        refine ⟨fun z => ?_, ih hn.2 (fun v hv => hb v (List.mem_cons_of_mem _ hv))⟩
        obtain ⟨y, hy, e⟩ := List.mem_map.mp z
        have b1 := hb a List.mem_cons_self
        have b2 := hb y (List.mem_cons_of_mem _ hy)
        have : y = a := by omega
        exact hn.1 (this ▸ hy)
    exact key _ hn hb
  have := pigeon (n := 26) h2 (fun y hy => by
    obtain ⟨z, hz, e⟩ := List.mem_map.mp hy
    have := hb z hz
    omega)
  rw [List.length_map] at this
  exact this
theorem Ts_map {g : Int → Int} (hg : ∀ s, ar (g s) = ar s) : ∀ {t : List Int} {n : Nat}, Ts n t → Ts n (t.map g)
  | [], n, h => h
  | s :: t, n, h => by
    obtain ⟨m, rfl, hh⟩ := Ts_cons h
    show Ts (m + ar (g s)) (t.map g)
    rw [hg]
    exact Ts_map hg hh
theorem gC_rnD {C : List (Int × List Int)} (h1 : C.length ≤ 6) (h2 : (flt C).length ≤ 40) (h3 : (fvs [] (flt C)).length ≤ 26) (h : ∀ y ∈ C, (y.1 = 0 ∨ y.1 = 1) ∧ Ts 1 y.2 ∧ ∀ s ∈ y.2, s < 204) : gC (rnD C) := by
  refine ⟨by rw [rnD_len]; exact h1, by rw [flt_rnD, rnm_len]; exact h2, fun y hy => ?_⟩
  unfold rnD at hy
  obtain ⟨z, hz, e⟩ := List.mem_map.mp hy
  subst e
  have g := h z hz
  have var : ∀ s ∈ z.2, s < 99 → (0 : Int) ≤ ((fvs [] (flt C)).idxOf s : Int) ∧ ((fvs [] (flt C)).idxOf s : Int) < 26 := fun s hs h9 => by
    have := List.idxOf_lt_length_iff.mpr (fvs_mem (q := []) (flt_mem hz hs) h9)
    omega
  refine ⟨g.1, ?_, fun s hs => ?_⟩
  · have : ren (fun v => ((fvs [] (flt C)).idxOf v : Int)) z.2 = z.2.map (fun s => if s < 99 then (if s ∈ z.2 then ((fvs [] (flt C)).idxOf s : Int) else s) else s) := by
      unfold ren
      apply List.map_congr_left
      intro s hs
      by_cases h9 : s < 99
      · rw [if_pos h9, if_pos h9, if_pos hs]
      · rw [if_neg h9, if_neg h9]
    show Ts 1 (ren (fun v => ((fvs [] (flt C)).idxOf v : Int)) z.2)
    rw [this]
    refine Ts_map (fun s => ?_) g.2.1
    by_cases h9 : s < 99
    · rw [if_pos h9]
      by_cases hs : s ∈ z.2
      · rw [if_pos hs, ar_v (by have := var s hs h9; omega), ar_v h9]
      · rw [if_neg hs]
    · rw [if_neg h9]
  · obtain ⟨q, hq, e⟩ := List.mem_map.mp hs
    subst e
    by_cases h9 : q < 99
    · rw [if_pos h9]
      dsimp only
      have := var q hq h9
      omega
    · rw [if_neg h9]
      have := g.2.2 q hq
      omega
theorem Mg.sg {σ : Int → List Int} {a b : List Int} (h : Mg σ a b) (P : Int → Prop) [DecidablePred P] (ha : ∀ s ∈ a, 99 ≤ s → P s) (hb : ∀ s ∈ b, 99 ≤ s → P s) : ∀ v, v < 99 → ∀ s ∈ σ v, 99 ≤ s → P s := by
  intro v hv
  obtain ⟨g, hg⟩ : ∃ g : Int → Int, g = fun s => if 99 ≤ s ∧ ¬ P s then (if s = 99 then 400102 else s + 400000) else s := ⟨_, rfl⟩
  have g1 : ∀ s, s < 99 → g s = s := fun s hs => by rw [hg]; exact if_neg (by omega)
  have g2 : ∀ s, P s → g s = s := fun s hs => by rw [hg]; exact if_neg (fun z => z.2 hs)
  have gar : ∀ s, ar (g s) = ar s := fun s => by
    rw [hg]
    show ar (if 99 ≤ s ∧ ¬ P s then (if s = 99 then 400102 else s + 400000) else s) = ar s
    split
    · next hs =>
      split
      · next e =>
        rw [e]
        rfl
      · next e =>
        unfold ar
        rw [if_neg (by omega), if_neg (by omega), if_neg (by omega), if_neg e]
        omega
    · rfl
  have hθ : Tσ (fun u => (σ u).map g) := fun u hu => Ts_map gar (h.1 u hu)
  have hs : ∀ t : List Int, (∀ s ∈ t, 99 ≤ s → P s) → sub (fun u => (σ u).map g) t = (sub σ t).map g := by
    intro t
    induction t with
    | nil => intro _; rfl
    | cons s t ih =>
      intro ht
      rw [sub_cons, sub_cons, List.map_append, ih (fun z hz => ht z (List.mem_cons_of_mem _ hz))]
      congr 1
      by_cases h9 : s < 99
      · rw [if_pos h9, if_pos h9]
      · rw [if_neg h9, if_neg h9, List.map_cons, g2 s (ht s List.mem_cons_self (by omega))]
        rfl
  have he : sub (fun u => (σ u).map g) a = sub (fun u => (σ u).map g) b := by
    rw [hs a ha, hs b hb, h.2.1]
  have hk := h.2.2 _ hθ he v hv
  have key : ∀ n : Nat, ∀ s, s.toNat ≤ n → s ∈ σ v → 99 ≤ s → P s := by
    intro n
    induction n with
    | zero => intro s h1 _ h3; omega
    | succ n ih =>
      intro s h1 h2 h3
      by_cases hP : P s
      · exact hP
      · exfalso
        have hin : s ∈ sub (fun u => (σ u).map g) (σ v) := by
          unfold sub
          refine List.mem_flatMap.mpr ⟨s, h2, ?_⟩
          rw [if_neg (by omega)]
          exact List.mem_singleton.mpr rfl
        rw [hk] at hin
        obtain ⟨s', h4, h5⟩ := List.mem_map.mp hin
        by_cases h6 : 99 ≤ s' ∧ ¬ P s'
        · have e : g s' = if s' = 99 then 400102 else s' + 400000 := by rw [hg]; exact if_pos h6
          rw [e] at h5
          refine h6.2 (ih s' ?_ h4 h6.1)
          split at h5 <;> omega
        · have e : g s' = s' := by rw [hg]; exact if_neg h6
          rw [e] at h5
          subst h5
          exact h6 ⟨h3, hP⟩
  exact fun s hs2 h9 => key s.toNat s (Nat.le_refl _) hs2 h9
theorem sub_sg {σ : Int → List Int} {P : Int → Prop} (h : ∀ v, v < 99 → ∀ s ∈ σ v, 99 ≤ s → P s) {t : List Int} (ht : ∀ s ∈ t, 99 ≤ s → P s) : ∀ s ∈ sub σ t, 99 ≤ s → P s := fun s hs h9 => by
  unfold sub at hs
  obtain ⟨r, hr, hs⟩ := List.mem_flatMap.mp hs
  by_cases hv : r < 99
  · rw [if_pos hv] at hs
    exact h r hv s hs h9
  · rw [if_neg hv, List.mem_singleton] at hs
    subst hs
    exact ht s hr h9
theorem mdC_ok {σ : Int → List Int} {a b : List Int} {L C' : List (Int × List Int)} (h : Mg σ a b) (ha : ∀ s ∈ a, s < 204) (hb : ∀ s ∈ b, s < 204) (hL : ∀ y ∈ L, (y.1 = 0 ∨ y.1 = 1) ∧ Ts 1 y.2 ∧ ∀ s ∈ y.2, s < 204) (hC : mdC L σ = some C') : gC C' := by
  unfold mdC at hC
  rw [mk1_all] at hC
  split at hC
  · cases hC
  · next C e =>
    split at e
    · cases e
      split at hC
      · next hb3 =>
        cases hC
        refine gC_rnD hb3.1 hb3.2.1 hb3.2.2 (fun y hy => ?_)
        rcases uqs_mem hy with hy | hy
        · cases hy
        · obtain ⟨z, hz, e2⟩ := List.mem_map.mp hy
          subst e2
          have g := hL z hz
          refine ⟨g.1, Ts_sub h.1 g.2.1, fun s hs => ?_⟩
          by_cases h9 : s < 99
          · omega
          · exact sub_sg (P := fun s => s < 204) (h.sg (fun s => s < 204) (fun s hs _ => ha s hs) (fun s hs _ => hb s hs)) (fun s hs _ => g.2.2 s hs) s hs (by omega)
      · cases hC
    · cases e
theorem rdC_ok {n : Nat} : ∀ {k : Nat} {r : List Int} {l : List (Int × List Int)}, rdC n k r = some l → ∀ y ∈ l, (y.1 = 0 ∨ y.1 = 1) ∧ Ts 1 y.2 ∧ ∀ s ∈ y.2, sgR s ∨ s = 99
  | 0, _, _, h => by cases h
  | k + 1, r, l, h => by
    unfold rdC at h
    split at h
    · cases h
    · next x hL =>
      cases h
      intro y hy
      rw [List.mem_singleton] at hy
      subst hy
      obtain ⟨b, A⟩ := y
      have := rdL_ok hL
      exact ⟨this.1, this.2.1, this.2.2.2⟩
    · next x c r1 hL =>
      split at h
      · cases hR : rdC n k r1 with
        | none => rw [hR] at h; cases h
        | some l2 =>
          rw [hR] at h
          cases h
          intro y hy
          rcases List.mem_cons.mp hy with hy | hy
          · subst hy
            obtain ⟨b, A⟩ := y
            have := rdL_ok hL
            exact ⟨this.1, this.2.1, this.2.2.2⟩
          · exact rdC_ok hR y hy
      · cases h
theorem rdQ_ok {T : List Int} {l : List (Int × List Int)} (h : rdQ T = some l) : (uqs [] l).length ≤ 6 ∧ (flt (uqs [] l)).length ≤ 40 ∧ gC (rnD (uqs [] l)) := by
  unfold rdQ at h
  have key : ∀ l, (∀ y ∈ l, (y.1 = 0 ∨ y.1 = 1) ∧ Ts 1 y.2 ∧ ∀ s ∈ y.2, sgR s ∨ s = 99) → (uqs [] l).length ≤ 6 → (flt (uqs [] l)).length ≤ 40 → gC (rnD (uqs [] l)) := fun l hl h6 h40 => by
    have hu : ∀ y ∈ uqs [] l, (y.1 = 0 ∨ y.1 = 1) ∧ Ts 1 y.2 ∧ ∀ s ∈ y.2, sgR s ∨ s = 99 := fun y hy => by
      rcases uqs_mem hy with hy | hy
      · cases hy
      · exact hl y hy
    refine gC_rnD h6 h40 (fvs_26 (fun s hs h9 => ?_)) (fun y hy => ⟨(hu y hy).1, (hu y hy).2.1, fun s hs => ?_⟩)
    · obtain ⟨y, hy, hz⟩ := flt_of hs
      rcases (hu y hy).2.2 s hz with e | e
      · rcases e with e | e <;> omega
      · omega
    · rcases (hu y hy).2.2 s hs with e | e
      · rcases e with e | e <;> omega
      · omega
  split at h
  · cases h
    exact ⟨Nat.zero_le _, Nat.zero_le _, key [] (fun y hy => (by cases hy)) (Nat.zero_le _) (Nat.zero_le _)⟩
  · split at h
    · cases h
    · next l2 hR =>
      split at h
      · next hb =>
        cases h
        exact ⟨hb.1, hb.2, key l (rdC_ok hR) hb.1 hb.2⟩
      · cases h
