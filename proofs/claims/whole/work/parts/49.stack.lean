/-! the stack of pairs that are still to be unified: it stays short -/
def Bel (ρ : Int → List Int) (S : List Int) (p q : Nat) : Prop := ∃ a b : List Int, a ≠ [] ∧ sub ρ (tm S p) = a ++ (sub ρ (tm S q) ++ b)
section BEL
variable {ρ : Int → List Int} {S : List Int} {p q r : Nat}
theorem Bel.trans (h : Bel ρ S p q) (g : Bel ρ S q r) : Bel ρ S p r := by
  obtain ⟨a, b, h1, h2⟩ := h
  obtain ⟨a', b', g1, g2⟩ := g
  exact ⟨a ++ a', b' ++ b, by simp [h1], by rw [h2, g2]; simp only [List.append_assoc]⟩
theorem Bel.lt (h : Bel ρ S p q) : (sub ρ (tm S q)).length < (sub ρ (tm S p)).length := by
  obtain ⟨a, b, h1, h2⟩ := h
  rw [h2, List.length_append, List.length_append]
  have := List.length_pos_iff.mpr h1
  omega
theorem Bel.mono {f : Int → List Int} (hf : ∀ v, v < 99 → f v ≠ []) (h : Bel ρ S p q) : Bel (fun v => sub f (ρ v)) S p q := by
  obtain ⟨a, b, h1, h2⟩ := h
  refine ⟨sub f a, sub f b, fun e => ?_, ?_⟩
  · have := sub_len hf a
    rw [e] at this
    exact h1 (List.eq_nil_of_length_eq_zero (by simpa using this))
  · rw [← sub_sub, ← sub_sub, h2, sub_app, sub_app]
theorem Bel.arg {x : Nat} (hp : p < S.length) (hT : Ts 1 (tm S p)) (hv : ¬ pz S p < 99) (hx : x ∈ args S p) : Bel ρ S p x := by
  rw [Bel, val_f ρ hp hT hv]
  obtain ⟨s, t, e⟩ := List.append_of_mem hx
  rw [e]
  refine ⟨pz S p :: (s.map (fun q => sub ρ (tm S q))).flatten, (t.map (fun q => sub ρ (tm S q))).flatten, by simp, by simp⟩
end BEL
theorem ld_tr {P : List Int} {b : Int → Int} {ρ : Int → List Int} (h : RB P b ρ) (hl : ∀ v, v < 99 → b v < P.length) : ∀ (k p : Nat), p < P.length → ∃ ms, sub ρ (tm P p) = ms ++ sub ρ (tm P (ld P b k p))
  | 0, p, _ => ⟨[], rfl⟩
  | k + 1, p, hp => by
    unfold ld
    by_cases g : pz P p < 99 ∧ 0 ≤ b (pz P p)
    · rw [if_pos g]
      have hb := hl _ g.1
      obtain ⟨ms, e⟩ := ld_tr h hl k (b (pz P p)).toNat (by omega)
      refine ⟨mk_ :: ms, ?_⟩
      rw [val_v ρ hp g.1, (h _ g.1).2 g.2, e]
      rfl
    · rw [if_neg g]
      exact ⟨[], rfl⟩
theorem Bel.led {ρ : Int → List Int} {S : List Int} {b : Int → Int} (h : RB S b ρ) (hl : ∀ v, v < 99 → b v < S.length) {p x k : Nat} (hx : x < S.length) (hb : Bel ρ S p x) : Bel ρ S p (ld S b k x) := by
  obtain ⟨a, c, h1, h2⟩ := hb
  obtain ⟨ms, e⟩ := ld_tr h hl k x hx
  exact ⟨a ++ ms, c, by simp [h1], by rw [h2, e]; simp only [List.append_assoc]⟩
/-- who pushed what is on the stack, the last one first: 3 times the place of a sign and which of its terms; 264 the first pair -/
def SK (ρ : Int → List Int) (S Lf : List Int) : List Nat → Prop
  | [] => True
  | g :: G => (g < 264 → Bel ρ S (g / 3) (gZ Lf (G.length : Int)).toNat) ∧ (∀ h ∈ G, h < 264 ∧ g < 264 ∧ ((g / 3 = h / 3 ∧ g ≠ h) ∨ Bel ρ S (h / 3) (g / 3))) ∧ g < 265 ∧ SK ρ S Lf G
theorem SK_nd {ρ : Int → List Int} {S Lf : List Int} : ∀ {G : List Nat}, SK ρ S Lf G → G.Nodup ∧ ∀ x ∈ G, x < 265
  | [], _ => ⟨List.nodup_nil, fun _ h => by cases h⟩
  | g :: G, h => by
    obtain ⟨h1, h2, h3, h4⟩ := h
    obtain ⟨g1, g2⟩ := SK_nd h4
    refine ⟨?_, fun x hx => ?_⟩
    · rw [List.nodup_cons]
      refine ⟨fun hm => ?_, g1⟩
      rcases (h2 g hm).2.2 with e | e
      · exact e.2 rfl
      · have := e.lt
        omega
    · rcases List.mem_cons.mp hx with rfl | hx
      · exact h3
      · exact g2 x hx
theorem SK_len {ρ : Int → List Int} {S Lf : List Int} {G : List Nat} (h : SK ρ S Lf G) : G.length ≤ 265 := by
  obtain ⟨g1, g2⟩ := SK_nd h
  exact pigeon g1 g2
theorem SK_mono {ρ f : Int → List Int} (hf : ∀ v, v < 99 → f v ≠ []) {S Lf : List Int} : ∀ {G : List Nat}, SK ρ S Lf G → SK (fun v => sub f (ρ v)) S Lf G
  | [], _ => trivial
  | g :: G, h => by
    obtain ⟨h1, h2, h3, h4⟩ := h
    exact ⟨fun q => (h1 q).mono hf, fun x hx => ⟨(h2 x hx).1, (h2 x hx).2.1, (h2 x hx).2.2.imp id (fun q => q.mono hf)⟩, h3, SK_mono hf h4⟩
theorem SK_congr {ρ : Int → List Int} {S Lf Lf' : List Int} : ∀ {G : List Nat}, (∀ i : Nat, i < G.length → gZ Lf' i = gZ Lf i) → SK ρ S Lf G → SK ρ S Lf' G
  | [], _, _ => trivial
  | g :: G, e, h => by
    obtain ⟨h1, h2, h3, h4⟩ := h
    refine ⟨fun q => ?_, h2, h3, SK_congr (fun i hi => e i (Nat.lt_succ_of_lt hi)) h4⟩
    rw [e G.length (Nat.lt_succ_self _)]
    exact h1 q
/-- r terms from x on, pushed -/
def psh (S : List Int) : List Int → Int → Nat → Int → List Int
  | L, _, 0, _ => L
  | L, T, r + 1, x => psh S (sZ L T x) (T + 1) r (x + (tm S x.toNat).length)
theorem psh_len (S : List Int) : ∀ (r : Nat) (L : List Int) (T x : Int), (psh S L T r x).length = L.length
  | 0, _, _, _ => rfl
  | r + 1, L, T, x => by
    show (psh S (sZ L T x) (T + 1) r _).length = _
    rw [psh_len S r, sZ_len]
theorem psh_low {S : List Int} : ∀ {r : Nat} {L : List Int} {T x : Int} {i : Int}, 0 ≤ T → T + r ≤ L.length → 0 ≤ i → i < T → gZ (psh S L T r x) i = gZ L i
  | 0, _, _, _, _, _, _, _, _ => rfl
  | r + 1, L, T, x, i, h0, h1, h2, h3 => by
    show gZ (psh S (sZ L T x) (T + 1) r _) i = _
    rw [psh_low (by omega) (by rw [sZ_len]; omega) h2 (by omega), gZ_sZ h0 (by omega) h2, if_neg (by omega)]
theorem psh_at {S : List Int} : ∀ {r : Nat} {L : List Int} {T x : Int} {j : Nat}, 0 ≤ T → T + r ≤ L.length → 0 ≤ x → j < r → gZ (psh S L T r x) (T + j) = (((apos S r x.toNat)[j]?.getD 0 : Nat) : Int)
  | 0, _, _, _, _, _, _, _, hj => absurd hj (Nat.not_lt_zero _)
  | r + 1, L, T, x, 0, h0, h1, h2, _ => by
    show gZ (psh S (sZ L T x) (T + 1) r _) (T + ((0 : Nat) : Int)) = _
    rw [psh_low (by omega) (by rw [sZ_len]; omega) (by omega) (by omega), gZ_sZ h0 (by omega) (by omega), if_pos (by omega)]
    show x = ((x.toNat : Nat) : Int)
    omega
  | r + 1, L, T, x, j + 1, h0, h1, h2, hj => by
    show gZ (psh S (sZ L T x) (T + 1) r (x + (tm S x.toNat).length)) (T + ((j + 1 : Nat) : Int)) = _
    have := psh_at (S := S) (r := r) (L := sZ L T x) (T := T + 1) (x := x + (tm S x.toNat).length) (j := j) (by omega) (by rw [sZ_len]; omega) (by omega) (by omega)
    rw [show T + ((j + 1 : Nat) : Int) = T + 1 + (j : Int) by omega, this]
    show _ = (((x.toNat :: apos S r (x.toNat + (tm S x.toNat).length))[j + 1]?.getD 0 : Nat) : Int)
    rw [show (x + ((tm S x.toNat).length : Int)).toNat = x.toNat + (tm S x.toNat).length by omega]
    rfl
