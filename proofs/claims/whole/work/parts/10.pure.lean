/-! What is counted and chosen, in numbers. -/
def okL (G T : Nat) (is wh si : Int32) : Prop := (is = 0 ∧ wh = -1 ∧ (si = -1 ∨ ∃ t, 1 ≤ t ∧ t ≤ T ∧ si = nI t)) ∨ (is = 1 ∧ ∃ w, w < G ∧ wh = nI w) ∨ (is = 2 ∧ wh = -1)
def okG (G T g : Nat) (gv : Nat → Int32) : Prop := (∃ N, 1 ≤ N ∧ N ≤ 6 ∧ gv 0 = nI N ∧ ∃ R, R ≤ N ∧ gv 2 = nI R) ∧ (∃ A, A ≤ 6 ∧ gv 1 = nI A) ∧ (gv 3 = -1 ∨ ∃ o, o < G ∧ o ≠ g ∧ gv 3 = nI o) ∧ (gv 4 = 0 ∨ gv 4 = 1 ∨ gv 4 = 2 ∨ gv 4 = 3) ∧ (∃ s, s ≤ 6 ∧ gv 5 + 1 = nI s) ∧ ∀ i, i < 6 → okL G T (gv (10 + 4 * i)) (gv (12 + 4 * i)) (gv (13 + 4 * i))
def okV (T : Nat) (v : NV) : Prop := T < 2 ^ 30 ∧ ∃ G, 1 ≤ G ∧ G ≤ 4 ∧ v.1 = nI G ∧ (∃ t, t ≤ T ∧ v.2.1 = nI t) ∧ ∀ g, g < 4 → okG G T g (v.2.2.2 g)
def fsOK (gv fs : Nat → Int32) : Prop := ∀ i, i < 6 → gv (10 + 4 * i) = 0 → fs i = if gv (13 + 4 * i) = -1 then 0 else gv (13 + 4 * i)
theorem okL.mono {G T T' : Nat} {is wh si : Int32} (h : okL G T is wh si) (ht : T ≤ T') : okL G T' is wh si := by
  rcases h with ⟨h1, h2, h3⟩ | h | h
  · exact Or.inl ⟨h1, h2, h3.imp id (fun ⟨t, a, b, c⟩ => ⟨t, a, by omega, c⟩)⟩
  · exact Or.inr (Or.inl h)
  · exact Or.inr (Or.inr h)
theorem okG.mono {G T T' g : Nat} {gv : Nat → Int32} (h : okG G T g gv) (ht : T ≤ T') : okG G T' g gv := ⟨h.1, h.2.1, h.2.2.1, h.2.2.2.1, h.2.2.2.2.1, fun i hi => (h.2.2.2.2.2 i hi).mono ht⟩
theorem okV.mono {T T' : Nat} {v : NV} (h : okV T v) (ht : T ≤ T') (hT : T' < 2 ^ 30) : okV T' v := by
  obtain ⟨-, G, h1, h2, h3, ⟨t, h4, h5⟩, h6⟩ := h
  exact ⟨hT, G, h1, h2, h3, ⟨t, by omega, h5⟩, fun g hg => (h6 g hg).mono ht⟩
/-- since when a line is free: the class's number orders as the reference's -/
def cv0 (p : Int32) : Int32 := if p = -1 then 0 else p
theorem cv0_lt {p q : Int32} (hp : p = -1 ∨ ∃ t, 1 ≤ t ∧ t < 2 ^ 31 ∧ p = nI t) (hq : q = -1 ∨ ∃ t, 1 ≤ t ∧ t < 2 ^ 31 ∧ q = nI t) : cv0 p < cv0 q ↔ p < q := by
  have hm : ∀ t, t < 2 ^ 31 → ¬ nI t = -1 := fun t ht e => by
    have := congrArg Int32.toInt e
    rw [nI_toInt ht] at this
    have h2 : (-1 : Int32).toInt = -1 := by decide
    rw [h2] at this
    omega
  have hz : (0 : Int32).toInt = 0 := by decide
  have h1 : (-1 : Int32).toInt = -1 := by decide
  rcases hp with rfl | ⟨a, ha1, ha2, rfl⟩ <;> rcases hq with rfl | ⟨b, hb1, hb2, rfl⟩
  · simp only [cv0, if_true, Int32.lt_iff_toInt_lt, hz, h1]
    omega
  · simp only [cv0, if_true, hm b hb2, if_false, Int32.lt_iff_toInt_lt, hz, h1, nI_toInt hb2]
    omega
  · simp only [cv0, if_true, hm a ha2, if_false, Int32.lt_iff_toInt_lt, hz, h1, nI_toInt ha2]
    omega
  · simp only [cv0, hm a ha2, hm b hb2, if_false]
theorem fLg_eq {sv k1 k2 : Nat → Int32} : ∀ {n : Nat}, (∀ i j, i < n → j < n → sv i = 0 → sv j = 0 → (k1 i < k1 j ↔ k2 i < k2 j)) → n < 2 ^ 31 → fLg sv k1 n = fLg sv k2 n
  | 0, _, _ => rfl
  | n + 1, h, hn => by
    have ih := fLg_eq (sv := sv) (k1 := k1) (k2 := k2) (n := n) (fun i j hi hj => h i j (by omega) (by omega)) (by omega)
    unfold fLg
    rw [← ih]
    by_cases hs : sv n = 0
    · rcases fLg_rng sv k1 n with hb | ⟨t, h1, h2, h3⟩
      · simp only [hs, hb, true_or, and_true]
      · rw [h2, nI_clamp (by omega)]
        have := h n t (by omega) (by omega) hs h3
        by_cases hc : k1 n < k1 t
        · rw [if_pos ⟨hs, Or.inr hc⟩, if_pos ⟨hs, Or.inr (this.mp hc)⟩]
        · by_cases hm : nI t = -1
          · rw [if_pos ⟨hs, Or.inl hm⟩, if_pos ⟨hs, Or.inl hm⟩]
          · rw [if_neg (fun z => z.2.elim hm hc), if_neg (fun z => z.2.elim hm (fun y => hc (this.mpr y)))]
    · rw [if_neg (fun z => hs z.1), if_neg (fun z => hs z.1)]
theorem sCh_fs {G T g : Nat} {gv fs : Nat → Int32} {N s : Nat} (ho : okG G T g gv) (hT : T < 2 ^ 30) (hf : fsOK gv fs) (hN : N ≤ 6) : sCh gv fs N s = sCh gv (fun i => gv (13 + 4 * i)) N s := by
  unfold sCh
  rw [fLg_eq (k1 := fs) (k2 := fun i => gv (13 + 4 * i)) (fun i j hi hj h1 h2 => ?_) (by omega)]
  have key : ∀ i, i < 6 → gv (10 + 4 * i) = 0 → gv (13 + 4 * i) = -1 ∨ ∃ t, 1 ≤ t ∧ t < 2 ^ 31 ∧ gv (13 + 4 * i) = nI t := fun i hi h0 => by
    rcases ho.2.2.2.2.2 i hi with ⟨-, -, h⟩ | ⟨h, -⟩ | ⟨h, -⟩
    · exact h.imp id (fun ⟨t, a, b, c⟩ => ⟨t, a, by omega, c⟩)
    · rw [h0] at h; exact absurd h (by decide)
    · rw [h0] at h; exact absurd h (by decide)
  rw [hf i (by omega) h1, hf j (by omega) h2]
  exact cv0_lt (key i (by omega) h1) (key j (by omega) h2)
/-! the sets -/
def mk6 (gv : Nat → Int32) (w : Int32) : Nat → Nat
  | 0 => 0
  | k + 1 => if gv (10 + 4 * k) = w then mk6 gv w k + 2 ^ k else mk6 gv w k
def cntN (gv : Nat → Int32) (w : Int32) : Nat → Nat
  | 0 => 0
  | k + 1 => if gv (10 + 4 * k) = w then cntN gv w k + 1 else cntN gv w k
theorem mk6_lt (gv : Nat → Int32) (w : Int32) : ∀ k, mk6 gv w k < 2 ^ k
  | 0 => Nat.one_pos
  | k + 1 => by
    have := mk6_lt gv w k
    unfold mk6
    rw [Nat.pow_succ]
    split <;> omega
theorem or6 : ∀ k, k < 6 → ∀ m, m < 2 ^ k → nI m ||| (1 <<< (nI k &&& 31)) = nI (m + 2 ^ k) := by decide +kernel
theorem sSet_mk (gv : Nat → Int32) (w : Int32) : ∀ k, k ≤ 6 → sSet gv w k = nI (mk6 gv w k)
  | 0, _ => rfl
  | k + 1, h => by
    unfold sSet mk6
    rw [sSet_mk gv w k (by omega)]
    split
    · exact or6 k (by omega) _ (mk6_lt gv w k)
    · rfl
def pop6 (m : Nat) : Nat := m % 2 + m / 2 % 2 + m / 4 % 2 + m / 8 % 2 + m / 16 % 2 + m / 32 % 2
theorem pop6_add : ∀ k, k < 6 → ∀ m, m < 2 ^ k → pop6 (m + 2 ^ k) = pop6 m + 1 := by decide +kernel
theorem pop6_mk (gv : Nat → Int32) (w : Int32) : ∀ k, k ≤ 6 → pop6 (mk6 gv w k) = cntN gv w k
  | 0, _ => (show pop6 0 = 0 by decide)
  | k + 1, h => by
    unfold mk6 cntN
    split
    · rw [pop6_add k (by omega) _ (mk6_lt gv w k), pop6_mk gv w k (by omega)]
    · exact pop6_mk gv w k (by omega)
theorem bitC_pop : ∀ m, m < 64 → bitC (nI m) = nI (pop6 m) := by decide +kernel
theorem bitC_set (gv : Nat → Int32) (w : Int32) (k : Nat) (hk : k ≤ 6) : bitC (sSet gv w k) = nI (cntN gv w k) := by
  rw [sSet_mk gv w k hk, bitC_pop _ (Nat.lt_of_lt_of_le (mk6_lt gv w k) (Nat.pow_le_pow_right (by omega) hk)), pop6_mk gv w k hk]
theorem cnt_N {gv : Nat → Int32} {w : Int32} {N : Nat} (h0 : gv 0 = nI N) (h6 : N ≤ 6) : cnt gv w = nI (cntN gv w N) := by
  unfold cnt
  rw [h0, nI_clamp (by omega), bitC_set _ _ _ h6]
theorem cntN_le (gv : Nat → Int32) (w : Int32) : ∀ k, cntN gv w k ≤ k
  | 0 => Nat.le_refl 0
  | k + 1 => by
    have := cntN_le gv w k
    unfold cntN
    split <;> omega
theorem cntN_0 {gv : Nat → Int32} {w : Int32} : ∀ {k : Nat}, (∀ i, i < k → gv (10 + 4 * i) ≠ w) → cntN gv w k = 0 ∧ mk6 gv w k = 0
  | 0, _ => ⟨rfl, rfl⟩
  | k + 1, h => by
    have ih := cntN_0 (gv := gv) (w := w) (k := k) (fun i hi => h i (by omega))
    unfold cntN mk6
    rw [if_neg (h k (by omega)), if_neg (h k (by omega))]
    exact ih
theorem mk6_pos {gv : Nat → Int32} {w : Int32} : ∀ {k i : Nat}, i < k → gv (10 + 4 * i) = w → 0 < mk6 gv w k
  | k + 1, i, hi, h => by
    unfold mk6
    by_cases e : i = k
    · subst e
      rw [if_pos h]
      have := Nat.two_pow_pos i
      omega
    · have := mk6_pos (gv := gv) (w := w) (k := k) (i := i) (by omega) h
      split
      · exact Nat.lt_of_lt_of_le this (Nat.le_add_right _ _)
      · exact this
/-! what is chosen -/
theorem fLast_rng (gv : Nat → Int32) : ∀ n, (fLast gv n = -1 ∧ ∀ i, i < n → gv (10 + 4 * i) ≠ 0) ∨ ∃ t, t < n ∧ fLast gv n = nI t ∧ gv (10 + 4 * t) = 0
  | 0 => Or.inl ⟨rfl, fun i hi => by omega⟩
  | n + 1 => by
    unfold fLast
    by_cases h : gv (10 + 4 * n) = 0
    · rw [if_pos h]
      exact Or.inr ⟨n, by omega, rfl, h⟩
    · rw [if_neg h]
      rcases fLast_rng gv n with ⟨h1, h2⟩ | ⟨t, h1, h2, h3⟩
      · exact Or.inl ⟨h1, fun i hi => if e : i = n then e ▸ h else h2 i (by omega)⟩
      · exact Or.inr ⟨t, by omega, h2, h3⟩
theorem fLg_rng2 (sv key : Nat → Int32) : ∀ n, (fLg sv key n = -1 ∧ ∀ i, i < n → sv i ≠ 0) ∨ ∃ t, t < n ∧ fLg sv key n = nI t ∧ sv t = 0
  | 0 => Or.inl ⟨rfl, fun i hi => by omega⟩
  | n + 1 => by
    unfold fLg
    rcases fLg_rng2 sv key n with ⟨h1, h2⟩ | ⟨t, h1, h2, h3⟩
    · by_cases h : sv n = 0
      · rw [if_pos ⟨h, Or.inl h1⟩]
        exact Or.inr ⟨n, by omega, rfl, h⟩
      · rw [if_neg (fun z => h z.1)]
        exact Or.inl ⟨h1, fun i hi => if e : i = n then e ▸ h else h2 i (by omega)⟩
    · split
      · rename_i hc
        exact Or.inr ⟨n, by omega, rfl, hc.1⟩
      · exact Or.inr ⟨t, by omega, h2, h3⟩
theorem fFrom_rng (gv : Nat → Int32) (N s : Nat) (hN : 0 < N) : ∀ d i, (fFrom gv N s d i = -1 ∧ ∀ j, i ≤ j → j < i + d → gv (10 + 4 * ((s + j) % N)) ≠ 0) ∨ ∃ t, t < N ∧ fFrom gv N s d i = nI t ∧ gv (10 + 4 * t) = 0
  | 0, i => Or.inl ⟨rfl, fun j h1 h2 => by omega⟩
  | d + 1, i => by
    unfold fFrom
    by_cases h : gv (10 + 4 * ((s + i) % N)) = 0
    · rw [if_pos h]
      exact Or.inr ⟨_, Nat.mod_lt _ hN, rfl, h⟩
    · rw [if_neg h]
      rcases fFrom_rng gv N s hN d (i + 1) with ⟨h1, h2⟩ | h1
      · exact Or.inl ⟨h1, fun j g1 g2 => if e : j = i then e ▸ h else h2 j (by omega) (by omega)⟩
      · exact Or.inr h1
theorem ring_all {N s : Nat} (hN : 0 < N) (t : Nat) (ht : t < N) : ∃ j, j < N ∧ (s + j) % N = t := by
  refine ⟨(t + (N - s % N)) % N, Nat.mod_lt _ hN, ?_⟩
  have h1 : s % N < N := Nat.mod_lt _ hN
  rw [Nat.add_mod, Nat.mod_mod, ← Nat.add_mod]
  have : s + (t + (N - s % N)) = N * (s / N + 1) + t := by
    have := Nat.div_add_mod s N
    rw [Nat.mul_add]
    omega
  rw [this, Nat.mul_add_mod, Nat.mod_eq_of_lt ht]
theorem sCh_rng (gv key : Nat → Int32) (N s : Nat) (hN : 0 < N) : (sCh gv key N s = -1 ∧ ∀ i, i < N → gv (10 + 4 * i) ≠ 0) ∨ ∃ t, t < N ∧ sCh gv key N s = nI t ∧ gv (10 + 4 * t) = 0 := by
  have ff : ∀ s, (fFrom gv N s N 0 = -1 ∧ ∀ i, i < N → gv (10 + 4 * i) ≠ 0) ∨ ∃ t, t < N ∧ fFrom gv N s N 0 = nI t ∧ gv (10 + 4 * t) = 0 := fun s => by
    rcases fFrom_rng gv N s hN N 0 with ⟨h1, h2⟩ | h
    · exact Or.inl ⟨h1, fun i hi => by
        obtain ⟨j, hj, he⟩ := ring_all (s := s) hN i hi
        rw [← he]
        exact h2 j (by omega) (by omega)⟩
    · exact Or.inr h
  unfold sCh
  split
  · exact fLast_rng gv N
  · split
    · exact fLg_rng2 _ key N
    · split
      · exact ff s
      · exact ff 0
theorem nI_nm1 {t : Nat} (ht : t < 2 ^ 31) : ¬ nI t = -1 := fun e => by
  have := congrArg Int32.toInt e
  rw [nI_toInt ht] at this
  have h2 : (-1 : Int32).toInt = -1 := by decide
  rw [h2] at this
  omega
/-- the line that is chosen -/
def chg (gv : Nat → Int32) : Int32 := sCh gv (fun i => gv (13 + 4 * i)) (gv 0).toNatClampNeg (gv 5 + 1).toNatClampNeg
theorem chg_N {gv : Nat → Int32} {N s : Nat} (h0 : gv 0 = nI N) (h6 : N ≤ 6) (hs : gv 5 + 1 = nI s) (hs6 : s ≤ 6) : chg gv = sCh gv (fun i => gv (13 + 4 * i)) N s := by
  unfold chg
  rw [h0, hs, nI_clamp (by omega), nI_clamp (by omega)]
/-- where a call goes: ten times the group and the line, or -1 -/
def sNext (gs : Nat → Nat → Int32) (g : Nat) : Int32 := if ¬ chg (gs g) = -1 then 10 * nI g + chg (gs g) else if gs g 3 = -1 then -1 else if gs (gs g 3).toNatClampNeg 2 < cnt (gs (gs g 3).toNatClampNeg) 0 then 10 * gs g 3 + chg (gs (gs g 3).toNatClampNeg) else -1
theorem ten {g t : Nat} : 10 * nI g + nI t = nI (10 * g + t) := by
  rw [show (10 : Int32) = nI 10 by decide, pk_mul, nI_add]
theorem sNext_cases {G T : Nat} {gs : Nat → Nat → Int32} (hG : G ≤ 4) (ho : ∀ g, g < 4 → okG G T g (gs g)) {g : Nat} (hg : g < G) : sNext gs g = -1 ∨ ∃ h t, h < G ∧ t < (gs h 0).toNatClampNeg ∧ (gs h 0).toNatClampNeg ≤ 6 ∧ sNext gs g = nI (10 * h + t) ∧ gs h (10 + 4 * t) = 0 := by
  have key : ∀ h, h < 4 → ∃ N, 1 ≤ N ∧ N ≤ 6 ∧ gs h 0 = nI N ∧ (∃ R, R ≤ N ∧ gs h 2 = nI R) ∧ ∃ s, s ≤ 6 ∧ gs h 5 + 1 = nI s := fun h hh => by
    obtain ⟨⟨N, a, b, c, d⟩, -, -, -, ⟨s, hs⟩, -⟩ := ho h hh
    exact ⟨N, a, b, c, d, s, hs⟩
  unfold sNext
  obtain ⟨N, n1, n6, n0, -, s, s6, hs⟩ := key g (by omega)
  rw [chg_N n0 n6 hs s6]
  rcases sCh_rng (gs g) (fun i => gs g (13 + 4 * i)) N s (by omega) with ⟨h1, h2⟩ | ⟨t, h1, h2, h3⟩
  · rw [if_neg (fun z => z h1)]
    rcases (ho g (by omega)).2.2.1 with h3 | ⟨o, o1, o2, o3⟩
    · rw [if_pos h3]; exact Or.inl rfl
    · rw [o3, if_neg (nI_nm1 (by omega)), nI_clamp (by omega)]
      obtain ⟨M, m1, m6, m0, ⟨R, r1, r2⟩, s', s6', hs'⟩ := key o (by omega)
      split
      · rename_i hc
        rw [chg_N m0 m6 hs' s6']
        rcases sCh_rng (gs o) (fun i => gs o (13 + 4 * i)) M s' (by omega) with ⟨q1, q2⟩ | ⟨t, q1, q2, q3⟩
        · rw [cnt_N m0 m6, (cntN_0 q2).1, r2] at hc
          exact absurd (i_lt hc (by omega) (by omega)) (by omega)
        · rw [q2, ten]
          exact Or.inr ⟨o, t, o1, by rw [m0, nI_clamp (by omega)]; exact q1, by rw [m0, nI_clamp (by omega)]; exact m6, rfl, q3⟩
      · exact Or.inl rfl
  · rw [h2, if_pos (nI_nm1 (by omega)), ten]
    exact Or.inr ⟨g, t, hg, by rw [n0, nI_clamp (by omega)]; exact h1, by rw [n0, nI_clamp (by omega)]; exact n6, rfl, h3⟩
