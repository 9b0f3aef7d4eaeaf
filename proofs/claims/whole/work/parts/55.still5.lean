/-! TOGETHER stands still within 30 rounds -/
section ST
variable {A : Nat → Nat} {c P B : Nat → Nat → Nat}
theorem st_c0 (hc : ∀ k, k < 4 → c k 0 + c k 1 + c k 2 + c k 3 ≤ A k) {k h : Nat} (hk : k < 4) (hh : h < 4) (h0 : A k = 0) : c k h = 0 := by
  have := hc k hk
  rcases (show h = 0 ∨ h = 1 ∨ h = 2 ∨ h = 3 by omega) with rfl | rfl | rfl | rfl <;> omega
theorem st_up (hP : ∀ k, k < 4 → 1 ≤ A k → gap (P k) (2 * A k + 2)) {k x y : Nat} (hk : k < 4) (h1 : 1 ≤ A k) (hxy : x ≤ y) (hy : y ≤ 18000) : P k x ≤ P k y := (hP k hk h1 x y hxy hy).1
theorem st_mono1 (hc : ∀ k, k < 4 → c k 0 + c k 1 + c k 2 + c k 3 ≤ A k) (hP : ∀ k, k < 4 → 1 ≤ A k → gap (P k) (2 * A k + 2)) (hB0 : ∀ h, h < 4 → B 0 h = 0) (hB : ∀ t h, h < 4 → B (t + 1) h = c 0 h * P 0 (B t 0) + c 1 h * P 1 (B t 1) + c 2 h * P 2 (B t 2) + c 3 h * P 3 (B t 3)) (hBl : ∀ t h, h < 4 → B t h ≤ 18000) : ∀ t h, h < 4 → B t h ≤ B (t + 1) h
  | 0, h, hh => by rw [hB0 h hh]; exact Nat.zero_le _
  | t + 1, h, hh => by
    have tm : ∀ k, k < 4 → c k h * P k (B t k) ≤ c k h * P k (B (t + 1) k) := fun k hk => by
      by_cases h0 : A k = 0
      · rw [st_c0 hc hk hh h0, Nat.zero_mul, Nat.zero_mul]; exact Nat.le_refl _
      · exact Nat.mul_le_mul_left _ (st_up hP hk (by omega) (st_mono1 hc hP hB0 hB hBl t k hk) (hBl (t + 1) k hk))
    rw [hB t h hh, hB (t + 1) h hh]
    have := tm 0 (by omega)
    have := tm 1 (by omega)
    have := tm 2 (by omega)
    have := tm 3 (by omega)
    omega
theorem st_mono (hc : ∀ k, k < 4 → c k 0 + c k 1 + c k 2 + c k 3 ≤ A k) (hP : ∀ k, k < 4 → 1 ≤ A k → gap (P k) (2 * A k + 2)) (hB0 : ∀ h, h < 4 → B 0 h = 0) (hB : ∀ t h, h < 4 → B (t + 1) h = c 0 h * P 0 (B t 0) + c 1 h * P 1 (B t 1) + c 2 h * P 2 (B t 2) + c 3 h * P 3 (B t 3)) (hBl : ∀ t h, h < 4 → B t h ≤ 18000) (s h : Nat) (hh : h < 4) : ∀ n, B s h ≤ B (s + n) h
  | 0 => Nat.le_refl _
  | n + 1 => Nat.le_trans (st_mono hc hP hB0 hB hBl s h hh n) (st_mono1 hc hP hB0 hB hBl (s + n) h hh)
theorem st_main (hA : ∀ k, k < 4 → A k ≤ 6) (hc : ∀ k, k < 4 → c k 0 + c k 1 + c k 2 + c k 3 ≤ A k) (hP : ∀ k, k < 4 → 1 ≤ A k → gap (P k) (2 * A k + 2)) (hP1 : ∀ k b, P k b ≤ 1000) (hB0 : ∀ h, h < 4 → B 0 h = 0) (hB : ∀ t h, h < 4 → B (t + 1) h = c 0 h * P 0 (B t 0) + c 1 h * P 1 (B t 1) + c 2 h * P 2 (B t 2) + c 3 h * P 3 (B t 3)) (hBl : ∀ t h, h < 4 → B t h ≤ 18000) : ∃ t, t < 30 ∧ ∀ h, h < 4 → B (t + 1) h = B t h := by
  refine Classical.byContradiction fun hno => ?_
  have mono : ∀ s t h, h < 4 → s ≤ t → B s h ≤ B t h := fun s t h hh hst => by
    have := st_mono hc hP hB0 hB hBl s h hh (t - s)
    rwa [show s + (t - s) = t by omega] at this
  have dd : ∃ d : Nat → Nat → Nat, ∀ k t, d k t = P k (B 29 k) - P k (B t k) := ⟨fun k t => P k (B 29 k) - P k (B t k), fun _ _ => rfl⟩
  obtain ⟨d, hd⟩ := dd
  have hPt : ∀ k t, k < 4 → 1 ≤ A k → t ≤ 29 → P k (B 29 k) = P k (B t k) + d k t := fun k t hk h1 ht => by
    have := st_up hP hk h1 (mono t 29 k hk ht) (hBl 29 k hk)
    rw [hd k t]; omega
  have hcd : ∀ k h t, k < 4 → h < 4 → t ≤ 29 → c k h * P k (B 29 k) = c k h * P k (B t k) + c k h * d k t := fun k h t hk hh ht => by
    by_cases h0 : A k = 0
    · rw [st_c0 hc hk hh h0, Nat.zero_mul, Nat.zero_mul, Nat.zero_mul]
    · rw [hPt k t hk (by omega) ht, Nat.mul_add]
  have hin : ∀ t h, h < 4 → t ≤ 29 → B 30 h = B (t + 1) h + (c 0 h * d 0 t + c 1 h * d 1 t + c 2 h * d 2 t + c 3 h * d 3 t) := fun t h hh ht => by
    have e1 : B 30 h = c 0 h * P 0 (B 29 0) + c 1 h * P 1 (B 29 1) + c 2 h * P 2 (B 29 2) + c 3 h * P 3 (B 29 3) := hB 29 h hh
    have e2 := hB t h hh
    have := hcd 0 h t (by omega) hh ht
    have := hcd 1 h t (by omega) hh ht
    have := hcd 2 h t (by omega) hh ht
    have := hcd 3 h t (by omega) hh ht
    omega
  have hstep : ∀ t h, h < 4 → t ≤ 28 → 1 ≤ A h → (2 * A h + 2) * d h (t + 1) + 1 ≤ (c 0 h * d 0 t + c 1 h * d 1 t + c 2 h * d 2 t + c 3 h * d 3 t) + (2 * A h + 2) := fun t h hh ht h1 => by
    have e1 := (hP h hh h1 (B (t + 1) h) (B 30 h) (mono (t + 1) 30 h hh (by omega)) (hBl 30 h hh)).2
    have e2 := hin t h hh (by omega)
    have e3 := st_up hP hh h1 (mono 29 30 h hh (by omega)) (hBl 30 h hh)
    have e4 : (2 * A h + 2) * d h (t + 1) ≤ (2 * A h + 2) * (P h (B 30 h) - P h (B (t + 1) h)) := Nat.mul_le_mul_left _ (by rw [hd h (t + 1)]; omega)
    omega
  have hsum : ∀ k t, k < 4 → c k 0 * d k t + c k 1 * d k t + c k 2 * d k t + c k 3 * d k t ≤ A k * d k t := fun k t hk => by
    rw [← Nat.add_mul, ← Nat.add_mul, ← Nat.add_mul]
    exact Nat.mul_le_mul_right _ (hc k hk)
  obtain ⟨en, hen⟩ : ∃ en : Nat → Nat, ∀ t, en t = A 0 * d 0 t + A 1 * d 1 t + A 2 * d 2 t + A 3 * d 3 t := ⟨_, fun _ => rfl⟩
  have h14 : ∀ t h, h < 4 → t ≤ 28 → 14 * (A h * d h (t + 1)) ≤ 6 * (c 0 h * d 0 t + c 1 h * d 1 t + c 2 h * d 2 t + c 3 h * d 3 t) + 78 := fun t h hh ht => by
    have h6 := hA h hh
    generalize hi : c 0 h * d 0 t + c 1 h * d 1 t + c 2 h * d 2 t + c 3 h * d 3 t = i
    by_cases h0 : A h = 0
    · rw [h0]; omega
    · have hs := hstep t h hh ht (by omega)
      rw [hi] at hs
      rcases (show A h = 1 ∨ A h = 2 ∨ A h = 3 ∨ A h = 4 ∨ A h = 5 ∨ A h = 6 by omega) with e | e | e | e | e | e <;> rw [e] at hs ⊢ <;> omega
  have hE : ∀ t, t ≤ 28 → 7 * en (t + 1) ≤ 3 * en t + 156 := fun t ht => by
    have := h14 t 0 (by omega) ht
    have := h14 t 1 (by omega) ht
    have := h14 t 2 (by omega) ht
    have := h14 t 3 (by omega) ht
    have := hsum 0 t (by omega)
    have := hsum 1 t (by omega)
    have := hsum 2 t (by omega)
    have := hsum 3 t (by omega)
    rw [hen t, hen (t + 1)]
    omega
  have hE0 : en 0 ≤ 24000 := by
    have z : ∀ k, k < 4 → A k * d k 0 ≤ 6 * 1000 := fun k hk => Nat.mul_le_mul (hA k hk) (by rw [hd k 0]; have := hP1 k (B 29 k); omega)
    have := z 0 (by omega)
    have := z 1 (by omega)
    have := z 2 (by omega)
    have := z 3 (by omega)
    rw [hen 0]
    omega
  have hE11 : en 11 ≤ 40 := by
    have : 7 * en 1 ≤ 3 * en 0 + 156 := hE 0 (by omega)
    have : 7 * en 2 ≤ 3 * en 1 + 156 := hE 1 (by omega)
    have : 7 * en 3 ≤ 3 * en 2 + 156 := hE 2 (by omega)
    have : 7 * en 4 ≤ 3 * en 3 + 156 := hE 3 (by omega)
    have : 7 * en 5 ≤ 3 * en 4 + 156 := hE 4 (by omega)
    have : 7 * en 6 ≤ 3 * en 5 + 156 := hE 5 (by omega)
    have : 7 * en 7 ≤ 3 * en 6 + 156 := hE 6 (by omega)
    have : 7 * en 8 ≤ 3 * en 7 + 156 := hE 7 (by omega)
    have : 7 * en 9 ≤ 3 * en 8 + 156 := hE 8 (by omega)
    have : 7 * en 10 ≤ 3 * en 9 + 156 := hE 9 (by omega)
    have : 7 * en 11 ≤ 3 * en 10 + 156 := hE 10 (by omega)
    omega
  obtain ⟨δ, hδ⟩ : ∃ δ : Nat → Nat → Nat, ∀ k t, δ k t = if A k = 0 then 0 else d k t := ⟨_, fun _ _ => rfl⟩
  have h4 : ∀ t h, h < 4 → t ≤ 28 → 4 * δ h (t + 1) ≤ (c 0 h * d 0 t + c 1 h * d 1 t + c 2 h * d 2 t + c 3 h * d 3 t) + 3 := fun t h hh ht => by
    have h6 := hA h hh
    generalize hi : c 0 h * d 0 t + c 1 h * d 1 t + c 2 h * d 2 t + c 3 h * d 3 t = i
    rw [hδ h (t + 1)]
    by_cases h0 : A h = 0
    · rw [if_pos h0]; omega
    · have hs := hstep t h hh ht (by omega)
      rw [hi] at hs
      rw [if_neg h0]
      rcases (show A h = 1 ∨ A h = 2 ∨ A h = 3 ∨ A h = 4 ∨ A h = 5 ∨ A h = 6 by omega) with e | e | e | e | e | e <;> rw [e] at hs <;> omega
  obtain ⟨D, hD⟩ : ∃ D : Nat → Nat, ∀ t, D t = δ 0 t + δ 1 t + δ 2 t + δ 3 t := ⟨_, fun _ => rfl⟩
  have hD12 : D 12 ≤ 13 := by
    have : 4 * δ 0 12 ≤ (c 0 0 * d 0 11 + c 1 0 * d 1 11 + c 2 0 * d 2 11 + c 3 0 * d 3 11) + 3 := h4 11 0 (by omega) (by omega)
    have : 4 * δ 1 12 ≤ (c 0 1 * d 0 11 + c 1 1 * d 1 11 + c 2 1 * d 2 11 + c 3 1 * d 3 11) + 3 := h4 11 1 (by omega) (by omega)
    have : 4 * δ 2 12 ≤ (c 0 2 * d 0 11 + c 1 2 * d 1 11 + c 2 2 * d 2 11 + c 3 2 * d 3 11) + 3 := h4 11 2 (by omega) (by omega)
    have : 4 * δ 3 12 ≤ (c 0 3 * d 0 11 + c 1 3 * d 1 11 + c 2 3 * d 2 11 + c 3 3 * d 3 11) + 3 := h4 11 3 (by omega) (by omega)
    have := hsum 0 11 (by omega)
    have := hsum 1 11 (by omega)
    have := hsum 2 11 (by omega)
    have := hsum 3 11 (by omega)
    have := hen 11
    rw [hD 12]
    omega
  have hfall : ∀ t, t ≤ 28 → D (t + 1) + 1 ≤ D t := fun t ht => by
    have hm : ∀ k, k < 4 → δ k (t + 1) ≤ δ k t := fun k hk => by
      rw [hδ k t, hδ k (t + 1)]
      by_cases h0 : A k = 0
      · rw [if_pos h0, if_pos h0]; exact Nat.le_refl _
      · rw [if_neg h0, if_neg h0]
        have e1 := hPt k t hk (by omega) (by omega)
        have e2 := hPt k (t + 1) hk (by omega) (by omega)
        have e3 := st_up hP hk (by omega) (mono t (t + 1) k hk (by omega)) (hBl (t + 1) k hk)
        omega
    have m0 := hm 0 (by omega)
    have m1 := hm 1 (by omega)
    have m2 := hm 2 (by omega)
    have m3 := hm 3 (by omega)
    refine Classical.byContradiction fun hq => hno ⟨t + 1, by omega, fun h hh => ?_⟩
    rw [hD t, hD (t + 1)] at hq
    have he : ∀ k, k < 4 → c k h * P k (B (t + 1) k) = c k h * P k (B t k) := fun k hk => by
      by_cases h0 : A k = 0
      · rw [st_c0 hc hk hh h0, Nat.zero_mul, Nat.zero_mul]
      · have e1 := hPt k t hk (by omega) (by omega)
        have e2 := hPt k (t + 1) hk (by omega) (by omega)
        have e3 : δ k (t + 1) = δ k t := by
          rcases (show k = 0 ∨ k = 1 ∨ k = 2 ∨ k = 3 by omega) with rfl | rfl | rfl | rfl <;> omega
        rw [hδ k t, hδ k (t + 1), if_neg h0, if_neg h0] at e3
        rw [show P k (B (t + 1) k) = P k (B t k) by omega]
    rw [hB (t + 1) h hh, hB t h hh, he 0 (by omega), he 1 (by omega), he 2 (by omega), he 3 (by omega)]
  have hlast : ∀ n, n ≤ 17 → D (12 + n) + n ≤ D 12 := by
    intro n
    induction n with
    | zero => intro _; exact Nat.le_refl _
    | succ n ih =>
      intro hn
      have := ih (by omega)
      have := hfall (12 + n) (by omega)
      have e : 12 + (n + 1) = 12 + n + 1 := by omega
      rw [e]
      omega
  have := hlast 17 (by omega)
  omega
end ST
theorem stl_still (gs : Nat → Nat → Int32) (G : Nat) : ∀ (d s t : Nat), s ≤ t → t < s + d → (∀ g, g < 4 → Bt gs G (t + 1) g = Bt gs G t g) → ∀ g, g < 4 → Bt gs G (stl gs G d s - 1) g = Bt gs G (stl gs G d s) g
  | 0, s, t, h1, h2, _ => by omega
  | d + 1, s, t, h1, h2, h3 => by
    intro g hg
    unfold stl
    by_cases hq : ∀ g, g < 4 → Bt gs G (s + 1) g = Bt gs G s g
    · rw [if_pos hq, Nat.add_sub_cancel]
      exact (hq g hg).symm
    · rw [if_neg hq]
      have hne : s ≠ t := fun e => hq (e ▸ h3)
      exact stl_still gs G d (s + 1) t (by omega) (by omega) h3 g hg
theorem wt_full (f p N A B : Nat) : ∀ k, wt f p N A N B k = wt f p N A N 0 k
  | 0 => rfl
  | k + 1 => by
    unfold wt
    rw [wt_full f p N A B k]
    congr 2
    unfold cm
    rw [if_neg (by omega), if_neg (by omega)]
theorem pPn_full (N A B : Nat) : pPn N A N B = pPn N A N 0 := by
  unfold pPn
  rw [funext (wt_full 1000000 1000 N A B)]
theorem gap_pP {G T g : Nat} {gv : Nat → Int32} (ho : okG G T g gv) (h1 : 1 ≤ nA gv) : gap (pP gv) (2 * nA gv + 2) := by
  obtain ⟨⟨N, n1, n6, e0, R, hR, e2⟩, ⟨A, a6, ea⟩, -⟩ := ho
  have x0 : nN gv = N := by unfold nN; rw [e0, nI_clamp (by omega)]
  have x1 : nA gv = A := by unfold nA; rw [ea, nI_clamp (by omega)]
  have x2 : nR gv = R := by unfold nR; rw [e2, nI_clamp (by omega)]
  have hf : pP gv = pPn N A R := by funext b; unfold pP; rw [x0, x1, x2]
  rw [hf, x1]
  by_cases e : R = N
  · subst e
    intro x y h1 h2
    rw [pPn_full R A x, pPn_full R A y, Nat.sub_self, Nat.mul_zero]
    exact ⟨Nat.le_refl _, by omega⟩
  · exact gapP N A R (by omega) n6 (by omega) a6
theorem still_of {T : Nat} {v : NV} (hv : okV T v) : still v := by
  obtain ⟨hT, G, G1, hG4, hG, -, ho⟩ := hv
  have hGc : v.1.toNatClampNeg = G := by rw [hG]; exact nI_clamp (by omega)
  unfold still sB sRd
  rw [hGc]
  obtain ⟨gs, hgs⟩ : ∃ gs, gs = v.2.2.2 := ⟨_, rfl⟩
  rw [← hgs] at ho ⊢
  obtain ⟨c, hcd⟩ : ∃ c : Nat → Nat → Nat, ∀ k h, c k h = if k < G ∧ gs k 3 = nI h then nA (gs k) else 0 := ⟨_, fun _ _ => rfl⟩
  have hA : ∀ k, k < 4 → nA (gs k) ≤ 6 := fun k hk => by
    obtain ⟨-, ⟨A, a6, ea⟩, -⟩ := ho k hk
    unfold nA
    rw [ea, nI_clamp (by omega)]
    exact a6
  have hc : ∀ k, k < 4 → c k 0 + c k 1 + c k 2 + c k 3 ≤ nA (gs k) := fun k hk => by
    obtain ⟨-, -, hov, -⟩ := ho k hk
    have hne : ∀ h, h < 4 → ∀ o, o < 4 → h ≠ o → gs k 3 = nI o → c k h = 0 := fun h hh o ho hn e => by
      rw [hcd k h, if_neg]
      rintro ⟨-, q⟩
      exact hn ((nI_eq (by omega) (by omega)).mp (q.symm.trans e))
    have hle : ∀ h, c k h ≤ nA (gs k) := fun h => by
      rw [hcd k h]
      split
      · exact Nat.le_refl _
      · exact Nat.zero_le _
    rcases hov with q | ⟨o, o1, -, q⟩
    · have hz : ∀ h, h < 4 → c k h = 0 := fun h hh => by
        rw [hcd k h, if_neg]
        rintro ⟨-, q2⟩
        exact nI_nm1 (show h < 2 ^ 31 by omega) (q2.symm.trans q)
      rw [hz 0 (by omega), hz 1 (by omega), hz 2 (by omega), hz 3 (by omega)]
      exact Nat.zero_le _
    · have l0 := hle 0
      have l1 := hle 1
      have l2 := hle 2
      have l3 := hle 3
      rcases (show o = 0 ∨ o = 1 ∨ o = 2 ∨ o = 3 by omega) with rfl | rfl | rfl | rfl
      · rw [hne 1 (by omega) 0 (by omega) (by omega) q, hne 2 (by omega) 0 (by omega) (by omega) q, hne 3 (by omega) 0 (by omega) (by omega) q]; omega
      · rw [hne 0 (by omega) 1 (by omega) (by omega) q, hne 2 (by omega) 1 (by omega) (by omega) q, hne 3 (by omega) 1 (by omega) (by omega) q]; omega
      · rw [hne 0 (by omega) 2 (by omega) (by omega) q, hne 1 (by omega) 2 (by omega) (by omega) q, hne 3 (by omega) 2 (by omega) (by omega) q]; omega
      · rw [hne 0 (by omega) 3 (by omega) (by omega) q, hne 1 (by omega) 3 (by omega) (by omega) q, hne 2 (by omega) 3 (by omega) (by omega) q]; omega
  have hs : ∀ (ls : Nat → Nat) (h k : Nat), k ≤ G → sn gs ls k h = (if 0 < k then c 0 h * ls 0 else 0) + (if 1 < k then c 1 h * ls 1 else 0) + (if 2 < k then c 2 h * ls 2 else 0) + (if 3 < k then c 3 h * ls 3 else 0) := by
    intro ls h k
    induction k with
    | zero => intro _; rfl
    | succ k ih =>
      intro hk
      have e : (if gs k 3 = nI h then nA (gs k) * ls k else 0) = c k h * ls k := by
        rw [hcd k h]
        by_cases q : gs k 3 = nI h
        · rw [if_pos q, if_pos ⟨by omega, q⟩]
        · rw [if_neg q, if_neg (fun z => q z.2), Nat.zero_mul]
      unfold sn
      rw [ih (by omega), e]
      rcases (show k = 0 ∨ k = 1 ∨ k = 2 ∨ k = 3 by omega) with rfl | rfl | rfl | rfl <;> simp
  have hz : ∀ k h, G ≤ k → c k h = 0 := fun k h hk => by
    rw [hcd k h, if_neg (fun z => by have := z.1; omega)]
  have hB : ∀ t h, h < 4 → Bt gs G (t + 1) h = c 0 h * pP (gs 0) (Bt gs G t 0) + c 1 h * pP (gs 1) (Bt gs G t 1) + c 2 h * pP (gs 2) (Bt gs G t 2) + c 3 h * pP (gs 3) (Bt gs G t 3) := fun t h hh => by
    show sn gs (fun g => pP (gs g) (Bt gs G t g)) G h = _
    rw [hs _ h G (Nat.le_refl _)]
    have tm : ∀ k, (if k < G then c k h * (fun g => pP (gs g) (Bt gs G t g)) k else 0) = c k h * pP (gs k) (Bt gs G t k) := fun k => by
      by_cases q : k < G
      · rw [if_pos q]
      · rw [if_neg q, hz k h (by omega), Nat.zero_mul]
    rw [tm 0, tm 1, tm 2, tm 3]
  obtain ⟨t, t30, ht⟩ := st_main (A := fun k => nA (gs k)) (c := c) (P := fun k => pP (gs k)) (B := Bt gs G) hA hc (fun k hk h1 => gap_pP (ho k hk) h1) (fun k b => pPn_le _ _ _ _) (fun _ _ => rfl) hB (fun t h hh => Bt_le hG4 ho t h hh)
  exact stl_still gs G 30 0 t (Nat.zero_le _) (by omega) ht
