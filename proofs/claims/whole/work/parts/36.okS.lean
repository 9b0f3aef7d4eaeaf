/-! What the abstract state keeps -/
def okS (T : Nat) (σ : AS) : Prop := okV T σ.1 ∧ (∀ j, j < σ.2.2.1 → okV T (σ.2.1 j)) ∧ (∀ j, j < 2 → ¬ σ.2.2.2.2.2.1 j = 0 → okV T (σ.2.2.2.1 j)) ∧ (∀ j, j < 2 → σ.2.2.2.2.1 j < 2 ^ 31) ∧ σ.2.2.1 ≤ 20 ∧ σ.2.2.2.2.2.2.2.2.2.1 ≤ 20 ∧ σ.2.2.2.2.2.2.2.2.2.2 < 2 ^ 31
theorem okS.mono {T T' : Nat} {σ : AS} (h : okS T σ) (ht : T ≤ T') (hT : T' < 2 ^ 30) : okS T' σ := ⟨h.1.mono ht hT, fun j hj => (h.2.1 j hj).mono ht hT, fun j hj hk => (h.2.2.1 j hj hk).mono ht hT, h.2.2.2⟩
theorem okS.psh {T : Nat} {σ : AS} {w : NV} (h : okS T σ) (hw : okV T w) : okS T (psh w σ) := by
  obtain ⟨v, hv, d, iv, isd, ik, bg, bl, bs, nb, sd⟩ := σ
  obtain ⟨h1, h2, h3, h4, h5, h6, h7⟩ := h
  refine ⟨hw, fun j hj => ?_, h3, h4, pushD_le h5, h6, h7⟩
  show okV T (pushH hv d v j)
  have hj : j < pushD d := hj
  unfold pushD at hj
  unfold pushH
  by_cases hd : d < 20
  · rw [if_pos hd] at hj ⊢
    by_cases e : j = d
    · subst e; rw [va_up_self]; exact h1
    · rw [va_up_ne _ _ e]; exact h2 j (show j < d by omega)
  · rw [if_neg hd] at hj ⊢
    show okV T (if j = 19 then v else hv (j + 1))
    by_cases e : j = 19
    · rw [if_pos e]; exact h1
    · rw [if_neg e]; exact h2 (j + 1) (show j + 1 < d by have : d ≤ 20 := h5; omega)
section OS
variable {T : Nat} {σ : AS}
theorem okS.build (h : okS T σ) (z : Int32) : okS T (fBuild σ z).2 := by
  unfold fBuild
  by_cases hz : 1 ≤ z ∧ z ≤ 4
  · obtain ⟨G, g1, g4, e⟩ := btw (a := 1) (b := 4) (by omega) (by omega) hz
    rw [if_pos hz, e, nI_clamp (by omega)]
    exact h.psh (okV_v0 h.1.1 g1 g4)
  · rw [if_neg hz]; exact h
theorem okS.call (h : okS T σ) (hT : T + 1 < 2 ^ 30) (z : Int32) : okS (T + 1) (fCall σ z).2 := by
  obtain ⟨G, hG, G1, G4, -⟩ := okN h.1
  unfold fCall
  by_cases hz : z < 0 ∨ σ.1.1 ≤ z
  · rw [if_pos hz]; exact h.mono (by omega) hT
  · rw [if_neg hz]
    rcases pk_ix z (n := G) (by omega) with q | q | ⟨g, hg, e⟩
    · exact absurd (Or.inl q) hz
    · exact absurd (Or.inr (hG ▸ q)) hz
    · rw [e, nI_clamp (by omega)]
      exact (h.mono (by omega) hT).psh (h.1.place hT hG G4 hg)
theorem okS.fin (h : okS T σ) (hT : T + 1 < 2 ^ 30) (z i : Int32) : okS (T + 1) (fEnd σ z i).2 := by
  unfold fEnd
  rcases line_cases h.1 z i with ⟨h1, -⟩ | ⟨G, g, N, t, hG, G4, hg, e1, n0, n6, ht, e2, hno⟩
  · rw [if_pos h1]; exact h.mono (by omega) hT
  · rw [if_neg hno]
    split
    · exact h.mono (by omega) hT
    · rw [e1, e2, nI_clamp (by omega), nI_clamp (by omega)]
      exact (h.mono (by omega) hT).psh (h.1.sEnd hT (by omega) (by omega))
theorem okS.damage (h : okS T σ) (hT : T + 1 < 2 ^ 30) (z i : Int32) : okS (T + 1) (fDam σ z i).2 := by
  unfold fDam
  rcases line_cases h.1 z i with ⟨h1, -⟩ | ⟨G, g, N, t, hG, G4, hg, e1, n0, n6, ht, e2, hno⟩
  · rw [if_pos h1]; exact h.mono (by omega) hT
  · rw [if_neg hno]
    split
    · exact h.mono (by omega) hT
    · rw [e1, e2, nI_clamp (by omega), nI_clamp (by omega)]
      exact (h.mono (by omega) hT).psh (h.1.sBrk hT (by omega) (by omega))
theorem okS.mend (h : okS T σ) (hT : T + 1 < 2 ^ 30) (z i : Int32) : okS (T + 1) (fMend σ z i).2 := by
  unfold fMend
  rcases line_cases h.1 z i with ⟨h1, -⟩ | ⟨G, g, N, t, hG, G4, hg, e1, n0, n6, ht, e2, hno⟩
  · rw [if_pos h1]; exact h.mono (by omega) hT
  · rw [if_neg hno]
    split
    · exact h.mono (by omega) hT
    · rw [e1, e2, nI_clamp (by omega), nI_clamp (by omega)]
      exact (h.mono (by omega) hT).psh (h.1.sEnd hT (by omega) (by omega))
theorem okS.shape (h : okS T σ) (z n a r o c : Int32) : okS T (fShape σ z n a r o c).2 := by
  obtain ⟨G, hG, G1, G4, -⟩ := okN h.1
  unfold fShape
  by_cases h1 : (z < 0 ∨ σ.1.1 ≤ z) ∨ o = z ∨ (¬ o = -1 ∧ (o < 0 ∨ σ.1.1 ≤ o))
  · rw [if_pos h1]; exact h
  · rw [if_neg h1]
    by_cases h2 : ¬ (1 ≤ n ∧ n ≤ 6) ∨ ¬ (0 ≤ a ∧ a ≤ 6) ∨ ¬ (0 ≤ r ∧ r ≤ n) ∨ ¬ (0 ≤ c ∧ c ≤ 3)
    · rw [if_pos h2]; exact h
    · rw [if_neg h2]
      rcases pk_ix z (n := G) (by omega) with q | q | ⟨g, hg, e⟩
      · exact absurd (Or.inl (Or.inl q)) h1
      · exact absurd (Or.inl (Or.inr (hG ▸ q))) h1
      · have q1 : 1 ≤ n ∧ n ≤ 6 := Classical.byContradiction (fun y => h2 (Or.inl y))
        have q2 : 0 ≤ a ∧ a ≤ 6 := Classical.byContradiction (fun y => h2 (Or.inr (Or.inl y)))
        have q3 : 0 ≤ r ∧ r ≤ n := Classical.byContradiction (fun y => h2 (Or.inr (Or.inr (Or.inl y))))
        have q4 : 0 ≤ c ∧ c ≤ 3 := Classical.byContradiction (fun y => h2 (Or.inr (Or.inr (Or.inr y))))
        obtain ⟨N, n1, n6, rfl⟩ := btw (a := 1) (b := 6) (by omega) (by omega) q1
        obtain ⟨A, a0, a6, rfl⟩ := btw (a := 0) (b := 6) (by omega) (by omega) q2
        obtain ⟨R, r1, r6, rfl⟩ := btw (a := 0) (b := N) (by omega) (by omega) q3
        obtain ⟨C, c1, c6, rfl⟩ := btw (a := 0) (b := 3) (by omega) (by omega) q4
        have ho : o = -1 ∨ ∃ k, k < G ∧ k ≠ g ∧ o = nI k := by
          by_cases y1 : o = -1
          · exact Or.inl y1
          · rcases pk_ix o (n := G) (by omega) with q | q | ⟨k, hk, ek⟩
            · exact absurd (Or.inr (Or.inr ⟨y1, Or.inl q⟩)) h1
            · exact absurd (Or.inr (Or.inr ⟨y1, Or.inr (hG ▸ q)⟩)) h1
            · exact Or.inr ⟨k, hk, fun y => h1 (Or.inr (Or.inl (by rw [ek, e, y]))), ek⟩
        rw [e, nI_clamp (by omega)]
        exact h.psh (h.1.shape hG G4 (by omega) n1 n6 a6 r6 c6 ho)
theorem okS_pair {T : Nat} {v : NV} {hv : Nat → NV} {d : Nat} {iv : Nat → NV} {isd : Nat → Nat} {ik bg bl bs : Nat → Int32} {nb sd : Nat} (h : okS T (v, hv, d, iv, isd, ik, bg, bl, bs, nb, sd)) (p : Nat × NV) (hok : okV T p.2) (hlt : p.1 < 2 ^ 31) : okS T (p.2, pushH hv d v, pushD d, iv, isd, ik, bg, bl, bs, nb, p.1) := by
  obtain ⟨s, w⟩ := p
  have h1 : okS T (psh w (v, hv, d, iv, isd, ik, bg, bl, bs, nb, sd)) := h.psh hok
  exact ⟨h1.1, h1.2.1, h1.2.2.1, h1.2.2.2.1, h1.2.2.2.2.1, h1.2.2.2.2.2.1, hlt⟩
theorem dr1_eq (v : NV) (hv : Nat → NV) (d : Nat) (iv : Nat → NV) (isd : Nat → Nat) (ik bg bl bs : Nat → Int32) (nb sd : Nat) : dr1 (v, hv, d, iv, isd, ik, bg, bl, bs, nb, sd) = ((sDr sd v).2, pushH hv d v, pushD d, iv, isd, ik, bg, bl, bs, nb, (sDr sd v).1) := rfl
theorem okS_dr1 {T : Nat} (v : NV) (hv : Nat → NV) (d : Nat) (iv : Nat → NV) (isd : Nat → Nat) (ik bg bl bs : Nat → Int32) (nb sd : Nat) (h : okS T (v, hv, d, iv, isd, ik, bg, bl, bs, nb, sd)) (hv0 : okV T v) (hT : T + 1 < 2 ^ 30) : okS (T + 1) ((sDr sd v).2, pushH hv d v, pushD d, iv, isd, ik, bg, bl, bs, nb, (sDr sd v).1) :=
  okS_pair (h.mono (Nat.le_succ T) hT) (sDr sd v) (okV.sDr hv0 hT) (sDr_lt sd v)
theorem okS.dr1 (h : okS T σ) (hT : T + 1 < 2 ^ 30) : okS (T + 1) (dr1 σ) := by
  obtain ⟨v, hv, d, iv, isd, ik, bg, bl, bs, nb, sd⟩ := σ
  rw [dr1_eq]
  exact okS_dr1 v hv d iv isd ik bg bl bs nb sd h h.1 hT
theorem okS.drN {T : Nat} : ∀ (n : Nat) {σ : AS}, okS T σ → T + n < 2 ^ 30 → okS (T + n) (drN σ n)
  | 0, _, h, _ => h
  | n + 1, σ, h, hT => by
    rw [drN_succ, show T + (n + 1) = (T + 1) + n by omega]
    exact okS.drN n (h.dr1 (by omega)) (by omega)
theorem okS.drift (h : okS T σ) (hT : T + 20 < 2 ^ 30) (z : Int32) : okS (T + 20) (fDrift σ z).2 := by
  unfold fDrift
  by_cases hz : 1 ≤ z ∧ z ≤ 20
  · obtain ⟨m, m1, m2, e⟩ := btw (a := 1) (b := 20) (by omega) (by omega) hz
    rw [if_pos hz, e, nI_clamp (by omega)]
    exact (okS.drN m h (by omega)).mono (by omega) hT
  · rw [if_neg hz]; exact h.mono (by omega) hT
theorem okS.undo (h : okS T σ) (z : Int32) : okS T (fUndo σ z).2 := by
  unfold fUndo
  by_cases hz : 1 ≤ z ∧ z ≤ 20
  · obtain ⟨m, m1, m2, e⟩ := btw (a := 1) (b := 20) (by omega) (by omega) hz
    rw [if_neg (fun y => y hz)]
    have hd := h.2.2.2.2.1
    by_cases h2 : z ≤ nI σ.2.2.1
    · rw [if_neg (fun y => y h2)]
      rw [e] at h2
      have h3 := i_le h2 (by omega) (by omega)
      rw [e, nI_clamp (by omega)]
      exact ⟨h.2.1 _ (by omega), fun j hj => h.2.1 j (by have : j < σ.2.2.1 - m := hj; omega), h.2.2.1, h.2.2.2.1, (show σ.2.2.1 - m ≤ 20 by omega), h.2.2.2.2.2⟩
    · rw [if_pos h2]; exact h
  · rw [if_pos hz]; exact h
theorem okS.write (h : okS T σ) (z i s : Int32) : okS T (fWrite σ z i s).2 := by
  obtain ⟨v, hv, d, iv, isd, ik, bg, bl, bs, nb, sd⟩ := σ
  unfold fWrite
  split
  · exact h
  · split
    · exact h
    · split
      · exact h
      · rename_i hb
        exact ⟨h.1, h.2.1, h.2.2.1, h.2.2.2.1, h.2.2.2.2.1, (show nb + 1 ≤ 20 by have : ¬ 20 ≤ nb := hb; omega), h.2.2.2.2.2.2⟩
theorem okS.tear (h : okS T σ) : okS T (fTear σ).2 := by
  obtain ⟨v, hv, d, iv, isd, ik, bg, bl, bs, nb, sd⟩ := σ
  exact ⟨h.1, h.2.1, h.2.2.1, h.2.2.2.1, h.2.2.2.2.1, Nat.zero_le _, h.2.2.2.2.2.2⟩
theorem okS.seed (h : okS T σ) (z : Int32) : okS T (fSeed σ z).2 := by
  obtain ⟨v, hv, d, iv, isd, ik, bg, bl, bs, nb, sd⟩ := σ
  unfold fSeed
  by_cases hz : z < 0
  · rw [if_pos hz]; exact h
  · rw [if_neg hz]
    obtain ⟨m, m1, -, m3⟩ := nn_nI hz
    exact ⟨h.1, h.2.1, h.2.2.1, h.2.2.2.1, h.2.2.2.2.1, h.2.2.2.2.2.1, (show z.toNatClampNeg < 2 ^ 31 by rw [m3]; exact m1)⟩
theorem okS.keep (h : okS T σ) (z : Int32) : okS T (fKeep σ z).2 := by
  obtain ⟨v, hv, d, iv, isd, ik, bg, bl, bs, nb, sd⟩ := σ
  unfold fKeep
  by_cases hz : 0 ≤ z ∧ z ≤ 1
  · rw [if_neg (fun y => y hz)]
    refine ⟨h.1, fun j hj => absurd hj (Nat.not_lt_zero j), fun j hj hk => ?_, fun j hj => ?_, Nat.zero_le _, h.2.2.2.2.2⟩
    · show okV T (va_up iv z.toNatClampNeg v j)
      by_cases e : j = z.toNatClampNeg
      · rw [← e, va_up_self]; exact h.1
      · rw [va_up_ne _ _ e]
        have hk : ¬ va_up ik z.toNatClampNeg 1 j = 0 := hk
        rw [va_up_ne _ _ e] at hk
        exact h.2.2.1 j hj hk
    · show va_up isd z.toNatClampNeg sd j < 2 ^ 31
      by_cases e : j = z.toNatClampNeg
      · rw [← e, va_up_self]; exact h.2.2.2.2.2.2
      · rw [va_up_ne _ _ e]; exact h.2.2.2.1 j hj
  · rw [if_pos hz]; exact h
theorem okS.goBack (h : okS T σ) (z : Int32) : okS T (fGoBack σ z).2 := by
  obtain ⟨v, hv, d, iv, isd, ik, bg, bl, bs, nb, sd⟩ := σ
  unfold fGoBack
  by_cases hz : 0 ≤ z ∧ z ≤ 1
  · rw [if_neg (fun y => y hz)]
    obtain ⟨u, u0, u1, e⟩ := btw (a := 0) (b := 1) (by omega) (by omega) hz
    have ec : z.toNatClampNeg = u := by rw [e]; exact nI_clamp (by omega)
    rw [ec]
    by_cases hk : ik u = 0
    · rw [if_pos hk]; exact h
    · rw [if_neg hk]
      exact ⟨h.2.2.1 u (by omega) hk, fun j hj => absurd hj (Nat.not_lt_zero j), h.2.2.1, h.2.2.2.1, Nat.zero_le _, h.2.2.2.2.2.1, h.2.2.2.1 u (by omega)⟩
  · rw [if_pos hz]; exact h
end OS
