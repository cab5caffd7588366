/-! ints by their values, heaps by functions, runs whose fuel is not counted -/
def iZ (z : Int) : Int32 := Int32.ofInt z
theorem iZ_add (a b : Int) : iZ a + iZ b = iZ (a + b) := (Int32.ofInt_add a b).symm
theorem iZ_sub (a b : Int) : iZ a - iZ b = iZ (a - b) := (Int32.ofInt_sub a b).symm
theorem iZ_mul (a b : Int) : iZ a * iZ b = iZ (a * b) := (Int32.ofInt_mul a b).symm
theorem iZ_neg (a : Int) : - iZ a = iZ (-a) := (Int32.ofInt_neg a).symm
theorem iZ_int {a : Int} (h1 : -2147483648 ≤ a) (h2 : a < 2147483648) : (iZ a).toInt = a := Int32.toInt_ofInt_of_le (by omega) (by omega)
theorem iZ_lt {a b : Int} (h1 : -2147483648 ≤ a) (h2 : a < 2147483648) (h3 : -2147483648 ≤ b) (h4 : b < 2147483648) : (iZ a < iZ b) = (a < b) := by
  rw [Int32.lt_iff_toInt_lt, iZ_int h1 h2, iZ_int h3 h4]
theorem iZ_le {a b : Int} (h1 : -2147483648 ≤ a) (h2 : a < 2147483648) (h3 : -2147483648 ≤ b) (h4 : b < 2147483648) : (iZ a ≤ iZ b) = (a ≤ b) := by
  rw [Int32.le_iff_toInt_le, iZ_int h1 h2, iZ_int h3 h4]
theorem iZ_eq {a b : Int} (h1 : -2147483648 ≤ a) (h2 : a < 2147483648) (h3 : -2147483648 ≤ b) (h4 : b < 2147483648) : (iZ a = iZ b) = (a = b) := by
  rw [← Int32.toInt_inj, iZ_int h1 h2, iZ_int h3 h4]
theorem iZ_clamp {a : Int} (h1 : 0 ≤ a) (h2 : a < 2147483648) : (iZ a).toNatClampNeg = a.toNat := by
  show (iZ a).toInt.toNat = a.toNat
  rw [iZ_int (by omega) h2]
theorem iZ_div {a b : Int} (h1 : 0 ≤ a) (h2 : a < 2147483648) (h3 : 0 < b) (h4 : b < 2147483648) : iZ a / iZ b = iZ (a / b) := by
  have e : iZ a ≠ Int32.minValue := by
    intro q
    have q2 := congrArg Int32.toInt q
    rw [iZ_int (by omega) h2] at q2
    have : Int32.minValue.toInt = -2147483648 := by decide
    omega
  have hb : 0 ≤ a / b := Int.ediv_nonneg h1 (by omega)
  have hc : a / b ≤ a := Int.ediv_le_self b h1
  apply Int32.toInt_inj.1
  rw [Int32.toInt_div_of_ne_left _ _ e, iZ_int (by omega) h2, iZ_int (by omega) h4, iZ_int (by omega) (by omega), Int.tdiv_eq_ediv_of_nonneg h1]
theorem iZ_of (n : Nat) : Int32.ofNat n = iZ n := Int32.ofInt_eq_ofNat.symm
theorem iZ_nI (n : Nat) : nI n = iZ n := iZ_of n
theorem iZ_self (x : Int32) : iZ x.toInt = x := Int32.ofInt_toInt x
def tN (a : Int) : Nat := a.toNat
theorem ix_Z {a : Int} {n : Nat} (h0 : 0 ≤ a) (h1 : a < n) (h2 : n < 2147483648) : x_ix (iZ a) n = some (tN a) := by
  unfold x_ix tN
  rw [iZ_clamp h0 (by omega), if_neg]
  rintro (q | q)
  · rw [Int32.lt_iff_toInt_lt, iZ_int (by omega) (by omega), Int32.toInt_zero] at q
    omega
  · omega
def bZ (b : Bool) : Int := if b = true then 1 else 0
theorem bZ_t : bZ true = 1 := rfl
theorem bZ_f : bZ false = 0 := rfl
theorem bZ_lo (b : Bool) : 0 ≤ bZ b := by cases b <;> decide
theorem bZ_hi (b : Bool) : bZ b ≤ 1 := by cases b <;> decide
theorem bZ_0 (b : Bool) : (iZ (bZ b) = iZ 0) = (b = false) := by cases b <;> simp [bZ] <;> decide
theorem bZ_inj (a b : Bool) : (iZ (bZ a) = iZ (bZ b)) = (a = b) := by cases a <;> cases b <;> simp [bZ] <;> decide
theorem nr_i (x : Int32) : narrow .int (.int x) = .int x := rfl
theorem nr_0 : narrow .boolean (.int (iZ 0)) = .int (iZ 0) := by decide
theorem nr_1 : narrow .boolean (.int (iZ 1)) = .int (iZ 1) := by decide
theorem nr_b (b : Bool) : narrow .boolean (.int (iZ (bZ b))) = .int (iZ (bZ b)) := by cases b <;> decide
theorem ft_i (x : Int32) : fits .int (.int x) = true := rfl
theorem ft_b (b : Bool) : fits .boolean (.int (iZ (bZ b))) = true := by cases b <;> decide
theorem ft_0 : fits .boolean (.int (iZ 0)) = true := by decide
theorem ft_1 : fits .boolean (.int (iZ 1)) = true := by decide
/-! heaps -/
def hp (w : Nat → xC) (n : Nat) : xH := (List.range n).map w
def uH (w : Nat → xC) (a : Nat) (c : xC) : Nat → xC := fun j => if j = a then c else w j
theorem hp_len (w : Nat → xC) (n : Nat) : (hp w n).length = n := by simp [hp]
theorem hp_get {w : Nat → xC} {n b : Nat} (h : b < n) : (hp w n)[b]? = some (w b) := by simp [hp, h]
theorem hp_set (w : Nat → xC) (n b : Nat) (c : xC) : (hp w n).set b c = hp (uH w b c) n := by
  apply List.ext_getElem?
  intro j
  rw [List.getElem?_set, hp_len]
  by_cases hb : b = j
  · subst hb
    by_cases hn : b < n
    · simp [hp, hn, uH]
    · simp [hp, hn]
  · by_cases hn : j < n
    · simp [hp, hn, uH, hb, Ne.symm hb]
    · simp [hp, hn, hb]
theorem hp_push (w : Nat → xC) (n : Nat) (c : xC) : hp w n ++ [c] = hp (uH w n c) (n + 1) := by
  unfold hp
  rw [List.range_succ, List.map_append]
  congr 1
  · apply List.map_congr_left
    intro j hj
    have : j < n := List.mem_range.mp hj
    simp [uH, Nat.ne_of_lt this]
  · simp [uH]
theorem hp_congr {w w' : Nat → xC} {n : Nat} (h : ∀ j, j < n → w j = w' j) : hp w n = hp w' n :=
  List.map_congr_left (fun j hj => h j (List.mem_range.mp hj))
theorem uH_at (w : Nat → xC) (a : Nat) (c : xC) : uH w a c a = c := if_pos rfl
theorem uH_ne {w : Nat → xC} {a j : Nat} {c : xC} (h : j ≠ a) : uH w a c j = w j := if_neg h
theorem uH_upd (w : Nat → xC) (a : Nat) (c c' : xC) : uH (uH w a c) a c' = uH w a c' := by
  funext j
  unfold uH
  split <;> rfl
theorem uH_swap {w : Nat → xC} {a b : Nat} {c c' : xC} (h : a < b) : uH (uH w b c) a c' = uH (uH w a c') b c := by
  funext j
  unfold uH
  by_cases h1 : j = a
  · have : j ≠ b := by omega
    simp [h1]
    omega
  · simp [h1]
theorem uH_self {w : Nat → xC} {a : Nat} {c : xC} (h : w a = c) : uH w a c = w := by
  funext j
  unfold uH
  split
  · next e => rw [e, h]
  · rfl
theorem hp_sl (w : Nat → xC) (n : Nat) : x_sl (hp w (n + 1)) = x_sl (hp w n) + x_c1 (w n) := by
  unfold x_sl hp
  rw [List.range_succ]
  simp
theorem hp_le {w w' : Nat → xC} : ∀ {n n' : Nat}, n ≤ n' → (∀ j, j < n → x_c1 (w j) ≤ x_c1 (w' j)) → x_le (hp w n) (hp w' n') := by
  intro n n' hn hw
  refine ⟨by rw [hp_len, hp_len]; exact hn, ?_⟩
  induction n' with
  | zero =>
    obtain rfl : n = 0 := by omega
    exact Nat.le_refl _
  | succ m ih =>
    rw [hp_sl]
    by_cases hm : n = m + 1
    · subst hm
      rw [hp_sl]
      have h1 := hw m (by omega)
      have h2 : x_sl (hp w m) ≤ x_sl (hp w' m) := by
        clear ih h1
        have : ∀ k, k ≤ m → x_sl (hp w k) ≤ x_sl (hp w' k) := by
          intro k
          induction k with
          | zero => intro _; exact Nat.le_refl _
          | succ k ihk =>
            intro hk
            rw [hp_sl, hp_sl]
            have := hw k (by omega)
            have := ihk (by omega)
            omega
        exact this m (Nat.le_refl m)
      omega
    · have := ih (by omega)
      omega
theorem hp_up {w : Nat → xC} {n a : Nat} {c : xC} (h : x_c1 (w a) ≤ x_c1 c) : x_le (hp w n) (hp (uH w a c) n) := by
  refine hp_le (Nat.le_refl _) (fun j _ => ?_)
  unfold uH
  split
  · next e => subst e; exact h
  · exact Nat.le_refl _
/-! cells of ints -/
abbrev cI (t : Nat) (S : List Int) : xC := .inl (t, .inl (S.map iZ))
def gZ (S : List Int) (a : Int) : Int := S.getD a.toNat 0
def sZ (S : List Int) (a v : Int) : List Int := S.set a.toNat v
theorem gZ_map (S : List Int) (a : Int) : (S.map iZ).getD (tN a) 0 = iZ (gZ S a) := by
  unfold gZ tN
  rw [List.getD_eq_getElem?_getD, List.getD_eq_getElem?_getD, List.getElem?_map]
  cases S[a.toNat]? <;> rfl
theorem gZ_mapI (S : List Int) (a : Int) : (S.map iZ).getD (tN a) (iZ 0) = iZ (gZ S a) := gZ_map S a
theorem le_0 {α : Type} (a : α) (l : List α) : (a :: l)[0]? = some a := rfl
theorem le_s {α : Type} (a : α) (l : List α) (n : Nat) : (a :: l)[n + 1]? = l[n]? := rfl
theorem gZ_map' (S : List Int) (a : Int) : ((S.map iZ)[tN a]?).getD 0 = iZ (gZ S a) := by
  rw [← List.getD_eq_getElem?_getD, gZ_map]
theorem sZ_map (S : List Int) (a v : Int) : (S.map iZ).set (tN a) (iZ v) = (sZ S a v).map iZ := (List.map_set).symm
theorem sZ_len (S : List Int) (a v : Int) : (sZ S a v).length = S.length := List.length_set
theorem gZ_sZ {S : List Int} {a b v : Int} (h0 : 0 ≤ a) (h1 : a < S.length) (h2 : 0 ≤ b) : gZ (sZ S a v) b = if a = b then v else gZ S b := by
  unfold gZ sZ
  rw [List.getD_eq_getElem?_getD, List.getD_eq_getElem?_getD, List.getElem?_set]
  by_cases h : a = b
  · subst h
    rw [if_pos rfl, if_pos (by omega), if_pos rfl]
    rfl
  · rw [if_neg (by omega), if_neg h]
/-! locals -/
def c1 (lv : xL) : Prop := ∀ q ∈ lv, q.2.category = 1
theorem c1_id {lv : xL} (h : c1 lv) : c1 lv := h
theorem c1_st {lv : xL} {i : Nat} {v : Value} (hv : v.category = 1) (h : c1 lv) : c1 ((i, v) :: lv.filter (x_keep i)) := by
  intro q hq
  rcases List.mem_cons.mp hq with rfl | hq
  · exact hv
  · exact h q (List.mem_filter.mp hq).1
theorem lk_f : ∀ {lv : xL} {i j : Nat}, c1 lv → x_lk (lv.filter (x_keep i)) j = if j = i then none else x_lk lv j
  | [], _, _, _ => by simp [x_lk]
  | q :: t, i, j, h => by
    have hq : (q.2.category == 2) = false := by rw [h q List.mem_cons_self]; rfl
    have ih := lk_f (lv := t) (i := i) (j := j) (fun x hx => h x (List.mem_cons_of_mem _ hx))
    by_cases hk : q.1 = i
    · have hk1 : x_keep i q = false := by unfold x_keep; rw [hk]; simp
      rw [List.filter_cons_of_neg (by rw [hk1]; decide), ih]
      by_cases hj : j = i
      · simp [hj]
      · rw [if_neg hj, if_neg hj]
        unfold x_lk
        rw [if_neg (by omega)]
        cases t <;> rfl
    · have hk1 : x_keep i q = true := by unfold x_keep; rw [hq]; simp [hk]
      rw [List.filter_cons_of_pos hk1]
      unfold x_lk
      by_cases hj : q.1 = j
      · rw [if_pos hj, if_pos hj, if_neg (by omega)]
      · rw [if_neg hj, if_neg hj]
        have e : x_lk (List.filter (x_keep i) t) j = if j = i then none else x_lk t j := ih
        exact e
theorem lk_s {lv : xL} {i j : Nat} {v : Value} (h : c1 lv) : x_lk ((i, v) :: lv.filter (x_keep i)) j = if i = j then some v else x_lk lv j := by
  by_cases hj : i = j
  · rw [if_pos hj]
    exact if_pos hj
  · rw [if_neg hj]
    have e : x_lk ((i, v) :: lv.filter (x_keep i)) j = x_lk (lv.filter (x_keep i)) j := if_neg hj
    rw [e, lk_f h, if_neg (Ne.symm hj)]
/-! runs -/
def Cs (d : Nat) (P : xF → Prop) : Prop := ∃ N, ∀ F D, N ≤ F → d ≤ D → P (x_call x_tb F D)
theorem Cs.tt {d : Nat} : Cs d (fun _ => True) := ⟨0, fun _ _ _ _ => trivial⟩
theorem Cs.and {d : Nat} {P Q : xF → Prop} (hp : Cs d P) (hq : Cs d Q) : Cs d (fun C => P C ∧ Q C) := by
  obtain ⟨N, h⟩ := hp
  obtain ⟨M, g⟩ := hq
  exact ⟨N + M, fun F D hF hD => ⟨h F D (by omega) hD, g F D (by omega) hD⟩⟩
theorem Cs.up {d d' : Nat} {P : xF → Prop} (h : Cs d P) (hd : d ≤ d') : Cs d' P := by
  obtain ⟨N, h⟩ := h
  exact ⟨N, fun F D hF hD => h F D hF (by omega)⟩
def Xc (d M : Nat) (as : List Value) (h : xH) (r : Option Value × xH) : Prop := Cs d (fun C => C M as h = some r)
def Gx (cd : List (Nat × xO)) (d pc : Nat) (z : xS) (r : Option Value × xH) : Prop := ∃ N, ∀ F D n, N ≤ F → d ≤ D → N ≤ n → x_go cd (x_call x_tb F D) n pc z = some r
/-- a run until it comes to s, or to its end -/
def x_to (cd : List (Nat × xO)) (C : xF) (s : Nat) : Nat → Nat → xS → Option xZ
  | 0, _, _ => none
  | n + 1, pc, z => match x_fetch cd pc C z with
    | none => none
    | some (.inl q) => if q.1 = s then some (.inl q) else x_to cd C s n q.1 q.2
    | some (.inr q) => some (.inr q)
/-- what follows an operation -/
def x_nx (cd : List (Nat × xO)) (C : xF) (s n : Nat) (r : Option xZ) : Option xZ := match r with
  | none => none
  | some (.inl q) => if q.1 = s then some (.inl q) else x_to cd C s n q.1 q.2
  | some (.inr q) => some (.inr q)
theorem x_to_at {cd : List (Nat × xO)} {pc : Nat} {op : xO} (h : x_fetch cd pc = op) (C : xF) (s n : Nat) (z : xS) : x_to cd C s (n + 1) pc z = x_nx cd C s n (op C z) := by
  subst h
  rfl
theorem nx_l (cd : List (Nat × xO)) (C : xF) (s n : Nat) (q : Nat × xS) : x_nx cd C s n (some (.inl q)) = if q.1 = s then some (.inl q) else x_to cd C s n q.1 q.2 := rfl
theorem nx_r (cd : List (Nat × xO)) (C : xF) (s n : Nat) (q : Option Value × xH) : x_nx cd C s n (some (.inr q)) = some (.inr q) := rfl
theorem nx_n (cd : List (Nat × xO)) (C : xF) (s n : Nat) : x_nx cd C s n none = none := rfl
theorem x_to_go {cd : List (Nat × xO)} {C : xF} {s : Nat} : ∀ {k pc : Nat} {z : xS} {q : Nat × xS}, x_to cd C s k pc z = some (.inl q) → ∃ j, j ≤ k ∧ ∀ n, x_go cd C (n + j) pc z = x_go cd C n q.1 q.2
  | 0, _, _, _, h => by cases h
  | k + 1, pc, z, q, h => by
    unfold x_to at h
    cases hf : x_fetch cd pc C z with
    | none => rw [hf] at h; cases h
    | some r =>
      rw [hf] at h
      cases r with
      | inl p =>
        dsimp only at h
        by_cases hs : p.1 = s
        · rw [if_pos hs] at h
          cases h
          refine ⟨1, by omega, fun n => ?_⟩
          show x_go cd C (n + 1) pc z = _
          unfold x_go
          rw [hf]
          cases n <;> rfl
        · rw [if_neg hs] at h
          obtain ⟨j, hj, e⟩ := x_to_go h
          refine ⟨j + 1, by omega, fun n => ?_⟩
          rw [← e n]
          show x_go cd C ((n + j) + 1) pc z = _
          have e1 : x_go cd C ((n + j) + 1) pc z = match x_fetch cd pc C z with
            | none => none
            | some (.inl q) => x_go cd C (n + j) q.1 q.2
            | some (.inr q) => some q := rfl
          rw [e1, hf]
      | inr p => cases h
theorem x_to_end {cd : List (Nat × xO)} {C : xF} {s : Nat} : ∀ {k pc : Nat} {z : xS} {r : Option Value × xH}, x_to cd C s k pc z = some (.inr r) → ∃ j, j ≤ k ∧ ∀ n, x_go cd C (n + j) pc z = some r
  | 0, _, _, _, h => by cases h
  | k + 1, pc, z, q, h => by
    unfold x_to at h
    cases hf : x_fetch cd pc C z with
    | none => rw [hf] at h; cases h
    | some r =>
      rw [hf] at h
      cases r with
      | inl p =>
        dsimp only at h
        by_cases hs : p.1 = s
        · rw [if_pos hs] at h
          cases h
        · rw [if_neg hs] at h
          obtain ⟨j, hj, e⟩ := x_to_end h
          refine ⟨j + 1, by omega, fun n => ?_⟩
          rw [← e n]
          have e1 : x_go cd C ((n + j) + 1) pc z = match x_fetch cd pc C z with
            | none => none
            | some (.inl q) => x_go cd C (n + j) q.1 q.2
            | some (.inr q) => some q := rfl
          show x_go cd C ((n + j) + 1) pc z = _
          rw [e1, hf]
      | inr p =>
        cases h
        refine ⟨1, by omega, fun n => ?_⟩
        have e1 : x_go cd C (n + 1) pc z = match x_fetch cd pc C z with
            | none => none
            | some (.inl q) => x_go cd C n q.1 q.2
            | some (.inr q) => some q := rfl
        rw [e1, hf]
theorem Gx.run {P : xF → Prop} {cd : List (Nat × xO)} {d pc pc' : Nat} {z z' : xS} {r : Option Value × xH} (k : Nat) (hP : Cs d P) (hb : ∀ C : xF, P C → x_to cd C pc' k pc z = some (.inl (pc', z'))) (hg : Gx cd d pc' z' r) : Gx cd d pc z r := by
  obtain ⟨N1, h1⟩ := hP
  obtain ⟨N2, h2⟩ := hg
  refine ⟨N1 + N2 + k, fun F D n hF hD hn => ?_⟩
  obtain ⟨j, hj, e⟩ := x_to_go (hb _ (h1 F D (by omega) hD))
  obtain ⟨m, rfl⟩ : ∃ m, n = m + j := ⟨n - j, by omega⟩
  rw [e m]
  exact h2 F D m (by omega) hD (by omega)
theorem Gx.fin {P : xF → Prop} {cd : List (Nat × xO)} {d pc : Nat} {z : xS} {r : Option Value × xH} (k : Nat) (hP : Cs d P) (hb : ∀ C : xF, P C → x_to cd C 99999 k pc z = some (.inr r)) : Gx cd d pc z r := by
  obtain ⟨N1, h1⟩ := hP
  refine ⟨N1 + k, fun F D n hF hD hn => ?_⟩
  obtain ⟨j, hj, e⟩ := x_to_end (hb _ (h1 F D (by omega) hD))
  obtain ⟨m, rfl⟩ : ∃ m, n = m + j := ⟨n - j, by omega⟩
  exact e m
theorem Xc.of {d M mL : Nat} {cd : List (Nat × xO)} {as : List Value} {h : xH} {r : Option Value × xH} (ht : x_tb M = some (cd, mL)) (hl : (lg_sl as).length ≤ mL) (hg : Gx cd d 0 (lv_args 0 as, [], h) r) (hle : x_le h r.2) : Xc (d + 1) M as h r := by
  obtain ⟨N, g⟩ := hg
  refine ⟨N, fun F D hF hD => ?_⟩
  obtain ⟨D', rfl⟩ : ∃ D', D = D' + 1 := ⟨D - 1, by omega⟩
  exact x_callE ht hl (g F D' F hF (by omega) hF) hle
/-- a method without loops -/
theorem Xc.fin {P : xF → Prop} {d M mL : Nat} {cd : List (Nat × xO)} {as : List Value} {h : xH} {r : Option Value × xH} (k : Nat) (ht : x_tb M = some (cd, mL)) (hl : (lg_sl as).length ≤ mL) (hP : Cs d P) (hb : ∀ C : xF, P C → x_to cd C 99999 k 0 (lv_args 0 as, [], h) = some (.inr r)) (hle : x_le h r.2) : Xc (d + 1) M as h r :=
  Xc.of ht hl (Gx.fin k hP hb) hle
/-! the numbers that stand in the code -/
theorem zl_0 : (0 : Int32) = iZ 0 := rfl
theorem zl_1 : (1 : Int32) = iZ 1 := rfl
theorem zl_2 : (2 : Int32) = iZ 2 := rfl
theorem zl_3 : (3 : Int32) = iZ 3 := rfl
theorem zl_4 : (4 : Int32) = iZ 4 := rfl
theorem zl_5 : (5 : Int32) = iZ 5 := rfl
theorem zl_6 : (6 : Int32) = iZ 6 := rfl
theorem zl_7 : (7 : Int32) = iZ 7 := rfl
theorem zl_8 : (8 : Int32) = iZ 8 := rfl
theorem zl_14 : (14 : Int32) = iZ 14 := rfl
theorem zl_26 : (26 : Int32) = iZ 26 := rfl
theorem zl_30 : (30 : Int32) = iZ 30 := rfl
theorem zl_32 : (32 : Int32) = iZ 32 := rfl
theorem zl_35 : (35 : Int32) = iZ 35 := rfl
theorem zl_40 : (40 : Int32) = iZ 40 := rfl
theorem zl_41 : (41 : Int32) = iZ 41 := rfl
theorem zl_44 : (44 : Int32) = iZ 44 := rfl
theorem zl_52 : (52 : Int32) = iZ 52 := rfl
theorem zl_60 : (60 : Int32) = iZ 60 := rfl
theorem zl_61 : (61 : Int32) = iZ 61 := rfl
theorem zl_65 : (65 : Int32) = iZ 65 := rfl
theorem zl_80 : (80 : Int32) = iZ 80 := rfl
theorem zl_88 : (88 : Int32) = iZ 88 := rfl
theorem zl_90 : (90 : Int32) = iZ 90 := rfl
theorem zl_97 : (97 : Int32) = iZ 97 := rfl
theorem zl_99 : (99 : Int32) = iZ 99 := rfl
theorem zl_100 : (100 : Int32) = iZ 100 := rfl
theorem zl_106 : (106 : Int32) = iZ 106 := rfl
theorem zl_122 : (122 : Int32) = iZ 122 := rfl
theorem zl_124 : (124 : Int32) = iZ 124 := rfl
theorem zl_126 : (126 : Int32) = iZ 126 := rfl
theorem zl_128 : (128 : Int32) = iZ 128 := rfl
theorem zl_160 : (160 : Int32) = iZ 160 := rfl
theorem zl_210 : (210 : Int32) = iZ 210 := rfl
theorem zl_241 : (241 : Int32) = iZ 241 := rfl
theorem zl_400 : (400 : Int32) = iZ 400 := rfl
theorem zl_600 : (600 : Int32) = iZ 600 := rfl
theorem zl_1320 : (1320 : Int32) = iZ 1320 := rfl
