/-! the reference: made, for all rules; needs -/

theorem oth_mem : ∀ {D : List (Int × List Int)} {b k : Int} {y : Int × List Int}, y ∈ oth b k D → y ∈ D
  | [], _, _, _, h => by cases h
  | z :: t, b, k, y, h => by
    unfold oth at h
    split at h
    · exact List.mem_cons_of_mem _ (oth_mem h)
    · rcases List.mem_cons.mp h with h | h
      · rw [h]
        exact List.mem_cons_self
      · exact List.mem_cons_of_mem _ (oth_mem h)
theorem rew_mem : ∀ {D : List (Int × List Int)} {l k : Int} {z : List Int} {y : Int × List Int}, y ∈ rew l z k D → y ∈ D ∨ ∃ q ∈ D, y = (q.1, z)
  | [], _, _, _, _, h => by cases h
  | q :: t, l, k, z, y, h => by
    unfold rew at h
    rcases List.mem_cons.mp h with h | h
    · split at h
      · exact Or.inr ⟨q, List.mem_cons_self, h⟩
      · rw [h]
        exact Or.inl List.mem_cons_self
    · rcases rew_mem h with h | ⟨q', h1, h2⟩
      · exact Or.inl (List.mem_cons_of_mem _ h)
      · exact Or.inr ⟨q', List.mem_cons_of_mem _ h1, h2⟩
theorem Ts_repl : ∀ {B : List Int} {n i : Nat} {G : List Int}, Ts n B → i < B.length → Ts 1 G → Ts n (B.take i ++ (G ++ B.drop (i + (tm B i).length)))
  | [], _, _, _, _, h, _ => absurd h (Nat.not_lt_zero _)
  | s :: t, n, 0, G, hT, _, hG => by
    obtain ⟨n', rfl, _⟩ := Ts_cons hT
    obtain ⟨a1, a2, a3⟩ := tk_sp hT
    have e : tm (s :: t) 0 = tk 1 (s :: t) := rfl
    rw [List.take_zero, List.nil_append, Nat.zero_add, e, Nat.add_comm]
    exact Ts_app hG a2
  | s :: t, n, i + 1, G, hT, hi, hG => by
    obtain ⟨n', rfl, hT'⟩ := Ts_cons hT
    have e : tm (s :: t) (i + 1) = tm t i := rfl
    rw [e, List.take_succ_cons, show i + 1 + (tm t i).length = (i + (tm t i).length) + 1 by omega, List.drop_succ_cons, List.cons_append]
    show Ts (n' + ar s) _
    exact Ts_repl hT' (by simpa using hi) hG
theorem tm_mem {P : List Int} {i : Nat} {r : Int} (h : r ∈ tm P i) : r ∈ P := List.mem_of_mem_drop (tm_sub h)
def cl1 (Ds : List (List (Int × List Int) × Bool × Int × Int)) (i : Int) : List (Int × List Int) := (cl Ds i.toNat).1
def rzR (Ds : List (List (Int × List Int) × Bool × Int × Int)) (rule i k j l p rr : Int) (C' : List (Int × List Int)) : Prop :=
  if rule = 0 then RZ ((lC (cl1 Ds i) k.toNat).1 ≠ (lC (cl1 Ds j) l.toNat).1) (lC (cl1 Ds i) k.toNat).2 (lC (shC (cl1 Ds j)) l.toNat).2 (oth k.toNat 0 (cl1 Ds i) ++ oth l.toNat 0 (shC (cl1 Ds j))) rr C'
  else if rule = 1 then RZ ((k.toNat : Int) ≠ (l.toNat : Int) ∧ (lC (cl1 Ds i) k.toNat).1 = (lC (cl1 Ds i) l.toNat).1) (lC (cl1 Ds i) k.toNat).2 (lC (cl1 Ds i) l.toNat).2 (oth l.toNat 0 (cl1 Ds i)) rr C'
  else if rule = 2 then RZ ((lC (cl1 Ds i) k.toNat).2.getD 0 0 = 99 ∧ (lC (cl1 Ds i) k.toNat).1 = 1) (tm (lC (cl1 Ds i) k.toNat).2 1) (tm (lC (cl1 Ds i) k.toNat).2 (1 + (tm (lC (cl1 Ds i) k.toNat).2 1).length)) (oth k.toNat 0 (cl1 Ds i)) rr C'
  else RZ ((lC (cl1 Ds i) k.toNat).2.getD 0 0 = 99 ∧ (lC (cl1 Ds i) k.toNat).1 = 0) (f3 (lC (cl1 Ds i) k.toNat).2 p) (tm (lC (shC (cl1 Ds j)) l.toNat).2 (1 + (plQ p).toNat)) (oth k.toNat 0 (cl1 Ds i) ++ rew l.toNat (rw3 (lC (shC (cl1 Ds j)) l.toNat).2 (g3 (lC (cl1 Ds i) k.toNat).2 p) (plQ p).toNat) 0 (shC (cl1 Ds j))) rr C'
theorem RZ_rng {fit : Prop} {a b : List Int} {L : List (Int × List Int)} {r : Int} {C : List (Int × List Int)} (h : RZ fit a b L r C) : r = 0 ∨ (-7 ≤ r ∧ r ≤ -5) := by
  rcases h with ⟨_, h⟩ | ⟨_, _, h⟩ | ⟨_, _, _, h | h⟩
  · exact Or.inr (by omega)
  · exact Or.inr (by omega)
  · exact Or.inr (by omega)
  · exact Or.inl h.2
theorem RZ_gC {fit : Prop} {a b : List Int} {L : List (Int × List Int)} {r : Int} {C : List (Int × List Int)} (h : RZ fit a b L r C) (h0 : r = 0) (ha : ∀ s ∈ a, s < 204) (hb : ∀ s ∈ b, s < 204) (hL : fit → ∀ y ∈ L, (y.1 = 0 ∨ y.1 = 1) ∧ Ts 1 y.2 ∧ ∀ s ∈ y.2, s < 204) : gC C := by
  rcases h with ⟨_, h⟩ | ⟨_, _, h⟩ | ⟨hf, σ, hM, h | h⟩
  · omega
  · omega
  · omega
  · exact mdC_ok hM ha hb (hL hf) h.1
theorem gC.ln {D : List (Int × List Int)} (h : gC D) : ∀ y ∈ D, (y.1 = 0 ∨ y.1 = 1) ∧ Ts 1 y.2 ∧ ∀ s ∈ y.2, s < 204 := fun y hy => ⟨(h.2.2 y hy).1, (h.2.2 y hy).2.1, fun s hs => ((h.2.2 y hy).2.2 s hs).2.1⟩
theorem gC.lns {D : List (Int × List Int)} (h : gC D) : ∀ y ∈ shC D, (y.1 = 0 ∨ y.1 = 1) ∧ Ts 1 y.2 ∧ ∀ s ∈ y.2, s < 204 := fun y hy => ⟨(h.shift y hy).1, (h.shift y hy).2.1, fun s hs => ((h.shift y hy).2.2 s hs).2.1⟩
theorem thB_ok {Ds : List (List (Int × List Int) × Bool × Int × Int)} {T : List Int} {rule i k j l p : Int} (h : thB Ds T rule i k j l p = true) : 0 ≤ rule ∧ rule ≤ 4 ∧ 0 ≤ i ∧ i < Ds.length ∧ (rule = 4 → T ≠ []) ∧ (rule ≠ 4 → litB (cl1 Ds i) k = true) ∧ (rule = 1 → litB (cl1 Ds i) l = true) ∧ (rule = 0 ∨ rule = 3 → 0 ≤ j ∧ j < Ds.length ∧ litB (cl1 Ds j) l = true) ∧ (rule = 3 → plB (lC (cl1 Ds j) l.toNat).2 p = true) := by
  unfold thB at h
  unfold cl1
  split at h
  · cases h
  · next h1 =>
    refine ⟨by omega, by omega, by omega, by omega, ?_⟩
    split at h
    · next h2 =>
      exact ⟨fun _ => by simpa using h, fun z => absurd h2 z, fun z => by omega, fun z => by omega, fun z => by omega⟩
    · next h2 =>
      split at h
      · cases h
      · next h3 =>
        have h3' : litB (cl Ds i.toNat).1 k = true := by simpa using h3
        split at h
        · next h4 => exact ⟨fun z => by omega, fun _ => h3', fun _ => h, fun z => by omega, fun z => by omega⟩
        · next h4 =>
          split at h
          · next h5 => exact ⟨fun z => by omega, fun _ => h3', fun z => by omega, fun z => by omega, fun z => by omega⟩
          · next h5 =>
            split at h
            · cases h
            · next h6 =>
              have h7 : litB (cl Ds j.toNat).1 l = true := by
                cases hh : litB (cl Ds j.toNat).1 l with
                | true => rfl
                | false => exact absurd (Or.inr (Or.inr hh)) h6
              have h8 : 0 ≤ j ∧ j < Ds.length ∧ litB (cl Ds j.toNat).1 l = true := ⟨by omega, by omega, h7⟩
              split at h
              · next h9 => exact ⟨fun z => by omega, fun _ => h3', fun z => by omega, fun _ => h8, fun z => by omega⟩
              · next h9 => exact ⟨fun z => by omega, fun _ => h3', fun z => by omega, fun _ => h8, fun _ => h⟩
theorem litB_ok {D : List (Int × List Int)} {k : Int} (h : litB D k = true) : 0 ≤ k ∧ k.toNat < D.length := by
  unfold litB at h
  have : 0 ≤ k ∧ k < D.length := by simpa using h
  omega
def orN (a b : Int) : Int := ((a.toNat ||| b.toNat : Nat) : Int)
theorem orN_lt {a b : Int} (ha : a < 1073741824) (hb : b < 1073741824) : 0 ≤ orN a b ∧ orN a b < 1073741824 := by
  have : a.toNat ||| b.toNat < 2 ^ 30 := Nat.or_lt_two_pow (by omega) (by omega)
  unfold orN
  omega
theorem iZ_bv (n : Nat) : (iZ (n : Int)).toBitVec = BitVec.ofNat 32 n := rfl
theorem or_Z {a b : Int} (a0 : 0 ≤ a) (ha : a < 1073741824) (b0 : 0 ≤ b) (hb : b < 1073741824) : iZ a ||| iZ b = iZ (orN a b) := by
  obtain ⟨x, rfl⟩ : ∃ x : Nat, a = (x : Int) := ⟨a.toNat, by omega⟩
  obtain ⟨y, rfl⟩ : ∃ y : Nat, b = (y : Int) := ⟨b.toNat, by omega⟩
  have hlt : x ||| y < 2 ^ 30 := Nat.or_lt_two_pow (by omega) (by omega)
  unfold orN
  rw [show ((x : Int)).toNat = x by omega, show ((y : Int)).toNat = y by omega]
  apply Int32.toBitVec.inj
  rw [Int32.toBitVec_or, iZ_bv, iZ_bv, iZ_bv]
  apply BitVec.eq_of_toNat_eq
  rw [BitVec.toNat_or, BitVec.toNat_ofNat, BitVec.toNat_ofNat, BitVec.toNat_ofNat, Nat.mod_eq_of_lt (by omega), Nat.mod_eq_of_lt (by omega), Nat.mod_eq_of_lt (by omega)]
section M5
variable {w : Nat → xC} {N : Nat} {m : Nat → Int} {x : Nat → List Int} {Ds : List (List (Int × List Int) × Bool × Int × Int)} {T U : List Int}
set_option maxHeartbeats 1000000 in
theorem M125 (d : Nat) (hN : 53 ≤ N) (h : RS w m x Ds T U) {T0 : List Int} (rule i k j l p : Int) (lr : -2147483648 ≤ l ∧ l < 2147483648) (pr : -2147483648 ≤ p ∧ p < 2147483648) (ht : thB Ds T0 rule i k j l p = true) (h4 : rule ≠ 4) :
    ∃ (rr : Int) (w' : Nat → xC) (m' : Nat → Int) (x' : Nat → List Int) (C' : List (Int × List Int)), RO w' m' x' ∧ Fr ksQ w w' ∧ (∀ j, ¬ j ∈ ksQ → x' j = x j) ∧ RI x' ∧ mFr9 m m' ∧ rzR Ds rule i k j l p rr C' ∧ (rr = 0 ∨ (-7 ≤ rr ∧ rr ≤ -5)) ∧ (rr = 0 → gC C' ∧ RW C' (x' 38) (x' 39) (x' 41) ∧ m' 8 = C'.length ∧ m' 7 = (flt C').length) ∧ Xc (d + 5) 125 [.ref 30, .int (iZ rule), .int (iZ i), .int (iZ k), .int (iZ j), .int (iZ l), .int (iZ p)] (hp w N) (some (.int (iZ rr)), hp w' N) := by
  obtain ⟨r0, r1, i0, i1, _, hk, hl1, hj, hp3⟩ := thB_ok ht
  obtain ⟨k0, k1⟩ := litB_ok (hk h4)
  have D1 : RD i (cl1 Ds i) x := h.rd i0 i1
  have gD := D1.2.1
  have hR := h.1
  have hI := h.2.1
  have ek : ((k.toNat : Nat) : Int) = k := by omega
  have memk := lC_mem k1
  have cases4 : rule = 0 ∨ rule = 1 ∨ rule = 2 ∨ rule = 3 := by omega
  rcases cases4 with rfl | rfl | rfl | rfl
  · obtain ⟨j0, j1, hl⟩ := hj (Or.inl rfl)
    obtain ⟨l0, l1⟩ := litB_ok hl
    have D2 : RD j (cl1 Ds j) x := h.rd j0 j1
    have gE := D2.2.1
    have el : ((l.toNat : Nat) : Int) = l := by omega
    have lsh : l.toNat < (shC (cl1 Ds j)).length := by rw [shC_len]; exact l1
    have meml := lC_mem lsh
    obtain ⟨rr, w', m', x', C', a1, a2, a3, a4, a5, a6, a7, a8⟩ := m125_0 d hN hR hI D1 D2 k.toNat l.toNat k1 l1 p pr
    rw [ek, el] at a8
    exact ⟨rr, w', m', x', C', a1, a2, a3, a4, a5, a6, RZ_rng a6, fun z => ⟨RZ_gC a6 z (gD.ln _ memk).2.2 (gE.lns _ meml).2.2 (fun _ y hy => by
        rcases List.mem_append.mp hy with hy | hy
        · exact gD.ln y (oth_mem hy)
        · exact gE.lns y (oth_mem hy)), a7 z⟩, a8⟩
  · obtain ⟨l0, l1⟩ := litB_ok (hl1 rfl)
    have el : ((l.toNat : Nat) : Int) = l := by omega
    obtain ⟨rr, w', m', x', C', a1, a2, a3, a4, a5, a6, a7, a8⟩ := m125_1 (j := j) d hN hR hI D1 k.toNat l.toNat k1 l1 p pr
    rw [ek, el] at a8
    exact ⟨rr, w', m', x', C', a1, a2, a3, a4, a5, a6, RZ_rng a6, fun z => ⟨RZ_gC a6 z (gD.ln _ memk).2.2 (gD.ln _ (lC_mem l1)).2.2 (fun _ y hy => gD.ln y (oth_mem hy)), a7 z⟩, a8⟩
  · skip
    obtain ⟨rr, w', m', x', C', a1, a2, a3, a4, a5, a6, a7, a8⟩ := m125_2 (j := j) d hN hR hI D1 k.toNat l k1 lr p pr
    rw [ek] at a8
    exact ⟨rr, w', m', x', C', a1, a2, a3, a4, a5, a6, RZ_rng a6, fun z => ⟨RZ_gC a6 z (fun s hs => (gD.ln _ memk).2.2 s (tm_mem hs)) (fun s hs => (gD.ln _ memk).2.2 s (tm_mem hs)) (fun _ y hy => gD.ln y (oth_mem hy)), a7 z⟩, a8⟩
  · obtain ⟨j0, j1, hl⟩ := hj (Or.inr rfl)
    obtain ⟨l0, l1⟩ := litB_ok hl
    have D2 : RD j (cl1 Ds j) x := h.rd j0 j1
    have gE := D2.2.1
    have el : ((l.toNat : Nat) : Int) = l := by omega
    have lsh : l.toNat < (shC (cl1 Ds j)).length := by rw [shC_len]; exact l1
    have meml := lC_mem lsh
    have hpl := hp3 rfl
    unfold plB at hpl
    have hpl' : 0 ≤ p ∧ 1 + plQ p < (lC (cl1 Ds j) l.toNat).2.length ∧ 99 ≤ (lC (cl1 Ds j) l.toNat).2.getD (1 + plQ p).toNat 0 := by simpa using hpl
    have q0 : 0 ≤ plQ p := by
      unfold plQ
      split <;> omega
    have els : lC (shC (cl1 Ds j)) l.toNat = litR (fun v => v + 26) (lC (cl1 Ds j) l.toNat) := by
      unfold shC
      rw [lC_map l1]
    have elen : (lC (shC (cl1 Ds j)) l.toNat).2.length = (lC (cl1 Ds j) l.toNat).2.length := by
      rw [els, litR_len]
    have hq1 : 1 + (plQ p).toNat < (lC (shC (cl1 Ds j)) l.toNat).2.length := by omega
    have hq9 : 99 ≤ (lC (shC (cl1 Ds j)) l.toNat).2.getD (1 + (plQ p).toNat) 0 := by
      rw [els]
      show 99 ≤ (ren (fun v => v + 26) (lC (cl1 Ds j) l.toNat).2).getD (1 + (plQ p).toNat) 0
      rw [ren_getD (by omega)]
      have := hpl'.2.2
      rw [show (1 + plQ p).toNat = 1 + (plQ p).toNat by omega] at this
      rw [if_neg (by omega)]
      exact this
    obtain ⟨rr, w', m', x', C', a1, a2, a3, a4, a5, a6, a7, a8⟩ := m125_3 d hN hR hI D1 D2 k.toNat l.toNat k1 l1 p pr (plQ p).toNat (by rw [show (((plQ p).toNat : Nat) : Int) = plQ p by omega]; rfl) hq1 hq9
    rw [ek, el] at a8
    exact ⟨rr, w', m', x', C', a1, a2, a3, a4, a5, a6, RZ_rng a6, fun z => ⟨RZ_gC a6 z (fun s hs => by
        unfold f3 at hs
        split at hs
        · exact (gD.ln _ memk).2.2 s (tm_mem hs)
        · exact (gD.ln _ memk).2.2 s (tm_mem hs)) (fun s hs => (gE.lns _ meml).2.2 s (tm_mem hs)) (fun hf y hy => by
        rcases List.mem_append.mp hy with hy | hy
        · exact gD.ln y (oth_mem hy)
        · rcases rew_mem hy with hy | ⟨q, hq, e⟩
          · exact gE.lns y hy
          · obtain ⟨t1, t2⟩ := two_99 (gD.ln _ memk).2.1 hf.1
            have TG : Ts 1 (g3 (lC (cl1 Ds i) k.toNat).2 p) := by
              unfold g3
              split
              · exact Ts_at (gD.ln _ memk).2.1 t1
              · exact Ts_at (gD.ln _ memk).2.1 t2
            rw [e]
            refine ⟨(gE.lns q hq).1, ?_, fun s hs => ?_⟩
            · exact Ts_repl (gE.lns _ meml).2.1 hq1 TG
            · unfold rw3 at hs
              rcases List.mem_append.mp hs with hs | hs
              · exact (gE.lns _ meml).2.2 s (List.mem_of_mem_take hs)
              · rcases List.mem_append.mp hs with hs | hs
                · unfold g3 at hs
                  split at hs
                  · exact (gD.ln _ memk).2.2 s (tm_mem hs)
                  · exact (gD.ln _ memk).2.2 s (tm_mem hs)
                · exact (gE.lns _ meml).2.2 s (List.mem_of_mem_drop hs)), a7 z⟩, a8⟩
end M5
