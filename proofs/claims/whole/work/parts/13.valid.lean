/-! What stays true of a net's numbers -/
theorem okG.of {G T T' g : Nat} {gv gv' : Nat → Int32} (h : okG G T g gv) (h0 : ∀ w, w < 5 → gv' w = gv w) (h5 : ∃ s, s ≤ 6 ∧ gv' 5 + 1 = nI s) (hl : ∀ j, j < 6 → okL G T' (gv' (10 + 4 * j)) (gv' (12 + 4 * j)) (gv' (13 + 4 * j))) : okG G T' g gv' := by
  obtain ⟨a1, a2, a3, a4, -, -⟩ := h
  refine ⟨?_, ?_, ?_, ?_, h5, hl⟩
  · rw [h0 0 (by omega), h0 2 (by omega)]; exact a1
  · rw [h0 1 (by omega)]; exact a2
  · rw [h0 3 (by omega)]; exact a3
  · rw [h0 4 (by omega)]; exact a4
theorem okG.cnt {G T g w : Nat} {z : Int32} {gv : Nat → Int32} (h : okG G T g gv) (h1 : 6 ≤ w) (h2 : w < 10) : okG G T g (upd gv w z) :=
  okG.of h (fun j hj => pk_un (by omega)) (by rw [pk_un (by omega)]; exact h.2.2.2.2.1) (fun j hj => by rw [pk_un (by omega), pk_un (by omega), pk_un (by omega)]; exact h.2.2.2.2.2 j hj)
theorem okG.hold {G T g t : Nat} {gv : Nat → Int32} {c : Int32} {w : Nat} (h : okG G T g gv) (ht : t < 6) (hw : w < G) : okG G T g (upd (gHold gv t c (nI w)) (13 + 4 * t) 0) := by
  unfold gHold
  refine okG.of h (fun j hj => by rw [pk_un (by omega), pk_un (by omega), pk_un (by omega), pk_un (by omega), pk_un (by omega)]) ⟨t + 1, by omega, by rw [pk_un (by omega), pk_us, nI_1]⟩ (fun j hj => ?_)
  by_cases e : j = t
  · subst e
    rw [pk_un (by omega), pk_un (by omega), pk_un (by omega), pk_un (by omega), pk_us, pk_un (by omega), pk_un (by omega), pk_us]
    exact Or.inr (Or.inl ⟨rfl, w, hw, rfl⟩)
  · rw [pk_un (by omega), pk_un (by omega), pk_un (by omega), pk_un (by omega), pk_un (by omega), pk_un (by omega), pk_un (by omega), pk_un (by omega), pk_un (by omega), pk_un (by omega), pk_un (by omega), pk_un (by omega), pk_un (by omega), pk_un (by omega), pk_un (by omega)]
    exact h.2.2.2.2.2 j hj
theorem okG.lett {G T T' g i : Nat} {gv : Nat → Int32} {b z : Int32} (h : okG G T g gv) (hT : T ≤ T') (hi : i < 6) (hb : okL G T' b (-1) z) : okG G T' g (upd (gLet gv i b) (13 + 4 * i) z) := by
  unfold gLet
  refine okG.of h (fun j hj => by rw [pk_un (by omega), pk_un (by omega), pk_un (by omega), pk_un (by omega)]) (by rw [pk_un (by omega), pk_un (by omega), pk_un (by omega), pk_un (by omega)]; exact h.2.2.2.2.1) (fun j hj => ?_)
  by_cases e : j = i
  · subst e
    rw [pk_us, pk_un (by omega), pk_un (by omega), pk_un (by omega), pk_us, pk_un (by omega), pk_us]
    exact hb
  · rw [pk_un (by omega), pk_un (by omega), pk_un (by omega), pk_un (by omega), pk_un (by omega), pk_un (by omega), pk_un (by omega), pk_un (by omega), pk_un (by omega), pk_un (by omega), pk_un (by omega), pk_un (by omega)]
    exact (h.2.2.2.2.2 j hj).mono hT
theorem up_all {α : Type} {P : Nat → α → Prop} {gs : Nat → α} {g : Nat} {z : α} (h : ∀ j, j < 4 → P j (gs j)) (hz : P g z) : ∀ j, j < 4 → P j (va_up gs g z j) := fun j hj => by
  by_cases e : j = g
  · subst e; rw [va_up_self]; exact hz
  · rw [va_up_ne _ _ e]; exact h j hj
theorem okV.place {T : Nat} {v : NV} {G g : Nat} (h : okV T v) (hT : T + 1 < 2 ^ 30) (hG : v.1 = nI G) (hG4 : G ≤ 4) (hg : g < G) : okV (T + 1) (sPlace v g) := by
  obtain ⟨-, G', g1, g2, g3, ⟨t, t1, t2⟩, ho⟩ := h
  obtain rfl : G' = G := (nI_eq (by omega) (by omega)).mp (g3.symm.trans hG)
  obtain ⟨v1, v2, v3, gs⟩ := v
  dsimp only at *
  have ho1 : ∀ g, g < 4 → okG G' (T + 1) g (gs g) := fun g hg => (ho g hg).mono (by omega)
  have ht : (∃ t, t ≤ T + 1 ∧ v2 + 1 = nI t) := ⟨t + 1, by omega, by rw [t2, nI_1]⟩
  unfold sPlace
  dsimp only
  rcases sNext_cases hG4 ho hg with hp | ⟨h, i, hh, hi, hM6, hp, -⟩
  · rw [if_pos hp]
    exact ⟨hT, G', g1, g2, g3, ht, up_all ho1 ((ho1 g (by omega)).cnt (by omega) (by omega) |>.cnt (by omega) (by omega))⟩
  · have ed : nI (10 * h + i) / 10 = nI h := by
      rw [show (10 : Int32) = nI 10 by decide, pk_div (by omega) (by omega) (by omega)]
      congr 1
      omega
    have er : nI (10 * h + i) - nI (10 * h + i) / 10 * 10 = nI i := by
      rw [show (10 : Int32) = nI 10 by decide, pk_rem (by omega) (by omega) (by omega)]
      congr 1
      omega
    rw [hp, if_neg (nI_nm1 (by omega)), er, ed, nI_clamp (by omega), nI_clamp (by omega)]
    have h1 := up_all (g := g) ho1 ((ho1 g (by omega)).cnt (w := 6) (z := gs g 6 + 1) (by omega) (by omega))
    have h2 := up_all (g := h) h1 ((h1 h (by omega)).hold (t := i) (c := v3) (w := g) (by omega) hg)
    refine ⟨hT, G', g1, g2, g3, ht, ?_⟩
    dsimp only
    split
    · exact up_all h2 ((h2 g (by omega)).cnt (by omega) (by omega))
    · exact up_all h2 ((h2 g (by omega)).cnt (by omega) (by omega))
theorem okV.sEnd {T : Nat} {v : NV} {g i : Nat} (h : okV T v) (hT : T + 1 < 2 ^ 30) (hg : g < 4) (hi : i < 6) : okV (T + 1) (sEnd v g i) := by
  obtain ⟨-, G, g1, g2, g3, ⟨t, t1, t2⟩, ho⟩ := h
  have e : v.2.1 + 1 = nI (t + 1) := by rw [t2, nI_1]
  refine ⟨hT, G, g1, g2, g3, ⟨t + 1, by omega, e⟩, ?_⟩
  exact up_all (fun g hg => (ho g hg).mono (by omega)) ((ho g hg).lett (by omega) hi (Or.inl ⟨rfl, rfl, Or.inr ⟨t + 1, by omega, by omega, e⟩⟩))
theorem okV.sBrk {T : Nat} {v : NV} {g i : Nat} (h : okV T v) (hT : T + 1 < 2 ^ 30) (hg : g < 4) (hi : i < 6) : okV (T + 1) (sBrk v g i) := by
  obtain ⟨-, G, g1, g2, g3, ⟨t, t1, t2⟩, ho⟩ := h
  refine ⟨hT, G, g1, g2, g3, ⟨t + 1, by omega, by show v.2.1 + 1 = _; rw [t2, nI_1]⟩, ?_⟩
  have ho1 : ∀ g, g < 4 → okG G (T + 1) g (v.2.2.2 g) := fun g hg => (ho g hg).mono (by omega)
  have key : ∀ gs1 : Nat → Nat → Int32, (∀ g, g < 4 → okG G (T + 1) g (gs1 g)) → ∀ j, j < 4 → okG G (T + 1) j (va_up gs1 g (upd (gLet (gs1 g) i 2) (13 + 4 * i) 0) j) := fun gs1 h1 => up_all h1 ((h1 g hg).lett (by omega) hi (Or.inr (Or.inr ⟨rfl, rfl⟩)))
  refine key _ ?_
  split
  · exact ho1
  · rename_i hne
    obtain ⟨w, w1, w2⟩ : ∃ w, w < G ∧ v.2.2.2 g (12 + 4 * i) = nI w := by
      rcases (ho g hg).2.2.2.2.2 i hi with ⟨-, q, -⟩ | ⟨-, q⟩ | ⟨-, q⟩
      · exact absurd q hne
      · exact q
      · exact absurd q hne
    rw [w2, nI_clamp (by omega)]
    exact up_all ho1 ((ho1 w (by omega)).cnt (by omega) (by omega))
theorem g0_ok (G T g : Nat) : okG G T g g0 := by
  refine ⟨⟨3, by omega, by omega, by decide, 0, by omega, by decide⟩, ⟨2, by omega, by decide⟩, Or.inl (by decide), Or.inl (by decide), ⟨0, by omega, by decide⟩, fun i hi => ?_⟩
  refine Or.inl ⟨?_, ?_, Or.inl ?_⟩
  · unfold g0 gFree
    rw [if_neg (by omega), if_neg (by omega), if_pos (by omega)]
  · unfold g0 gFree
    rw [if_neg (by omega), if_neg (by omega), if_neg (by omega)]
  · unfold g0 gFree
    rw [if_neg (by omega), if_neg (by omega), if_neg (by omega)]
def v0 (G : Nat) : NV := (nI G, 0, 0, fun _ => g0)
theorem okV_v0 {T G : Nat} (hT : T < 2 ^ 30) (h1 : 1 ≤ G) (h4 : G ≤ 4) : okV T (v0 G) := ⟨hT, G, h1, h4, rfl, ⟨0, by omega, nI_0.symm⟩, fun g _ => g0_ok G T g⟩
theorem fOK_g0 : fsOK g0 (fun _ => 0) := fun i hi _ => by
  have : g0 (13 + 4 * i) = -1 := by
    unfold g0 gFree
    rw [if_neg (by omega), if_neg (by omega), if_neg (by omega)]
  rw [this, if_pos rfl]
theorem fOK_free (gv : Nat → Int32) : fsOK (gFree gv) (fun _ => 0) := fun i hi _ => by
  have : gFree gv (13 + 4 * i) = -1 := by
    unfold gFree
    rw [if_neg (by omega), if_neg (by omega), if_neg (by omega)]
  rw [this, if_pos rfl]
theorem fOK_v0 (G : Nat) : fOK (v0 G) (fun _ _ => 0) := fun g _ => fOK_g0
/-- a group is shaped anew -/
def gShape (gv : Nat → Int32) (n a r o c : Int32) : Nat → Int32 := gFree (upd (upd (upd (upd (upd gv 0 n) 1 a) 2 r) 3 o) 4 c)
def sShape (v : NV) (g : Nat) (n a r o c : Int32) : NV := (v.1, v.2.1, v.2.2.1, va_up v.2.2.2 g (gShape (v.2.2.2 g) n a r o c))
theorem okV.shape {T : Nat} {v : NV} {G g N A R c : Nat} {o : Int32} (h : okV T v) (hG : v.1 = nI G) (hG4 : G ≤ 4) (hg : g < 4) (n1 : 1 ≤ N) (n6 : N ≤ 6) (a6 : A ≤ 6) (rN : R ≤ N) (c3 : c ≤ 3) (ho : o = -1 ∨ ∃ h, h < G ∧ h ≠ g ∧ o = nI h) : okV T (sShape v g (nI N) (nI A) (nI R) o (nI c)) := by
  obtain ⟨hT, G', g1, g2, g3, ht, hk⟩ := h
  obtain rfl : G' = G := (nI_eq (by omega) (by omega)).mp (g3.symm.trans hG)
  refine ⟨hT, G', g1, g2, g3, ht, up_all hk ?_⟩
  unfold gShape
  have e : ∀ {u : Nat → Int32} {w : Nat}, w < 5 → gFree u w = u w := fun {u w} hw => by
    unfold gFree
    rw [if_neg (by omega), if_pos (by omega)]
  refine ⟨⟨N, n1, n6, ?_, R, rN, ?_⟩, ⟨A, a6, ?_⟩, ?_, ?_, ⟨0, by omega, ?_⟩, fun i hi => Or.inl ⟨?_, ?_, Or.inl ?_⟩⟩
  · rw [e (by omega)]; rfl
  · rw [e (by omega)]; rfl
  · rw [e (by omega)]; rfl
  · rw [e (by omega)]; exact ho
  · rw [e (by omega)]
    show nI c = 0 ∨ nI c = 1 ∨ nI c = 2 ∨ nI c = 3
    rcases (show c = 0 ∨ c = 1 ∨ c = 2 ∨ c = 3 by omega) with rfl | rfl | rfl | rfl <;> decide
  · unfold gFree
    rw [if_pos rfl]
    decide
  · unfold gFree
    rw [if_neg (by omega), if_neg (by omega), if_pos (by omega)]
  · unfold gFree
    rw [if_neg (by omega), if_neg (by omega), if_neg (by omega)]
  · unfold gFree
    rw [if_neg (by omega), if_neg (by omega), if_neg (by omega)]
/-! what the class keeps hidden -/
theorem fsOK.cnt {gv fs : Nat → Int32} {w : Nat} {z : Int32} (h : fsOK gv fs) (hw : w < 10) : fsOK (upd gv w z) fs := fun i hi h0 => by
  rw [pk_un (by omega)] at h0 ⊢
  exact h i hi h0
theorem fsOK.hold {gv fs : Nat → Int32} {t : Nat} {c w : Int32} (h : fsOK gv fs) (ht : t < 6) : fsOK (upd (gHold gv t c w) (13 + 4 * t) 0) fs := fun i hi h0 => by
  unfold gHold at h0 ⊢
  by_cases e : i = t
  · subst e
    rw [pk_un (by omega), pk_un (by omega), pk_un (by omega), pk_un (by omega), pk_us] at h0
    exact absurd h0 (by decide)
  · rw [pk_un (by omega), pk_un (by omega), pk_un (by omega), pk_un (by omega), pk_un (by omega)] at h0 ⊢
    exact h i hi h0
theorem fsOK.lett {gv fs : Nat → Int32} {t : Nat} {b z w : Int32} (h : fsOK gv fs) (ht : t < 6) (hz : b = 0 → ¬ z = -1 ∧ w = z) : fsOK (upd (gLet gv t b) (13 + 4 * t) z) (upd fs t w) := fun i hi h0 => by
  unfold gLet at h0 ⊢
  by_cases e : i = t
  · subst e
    rw [pk_un (by omega), pk_un (by omega), pk_un (by omega), pk_us] at h0
    rw [pk_us, pk_us, if_neg (hz h0).1]
    exact (hz h0).2
  · rw [pk_un (by omega), pk_un (by omega), pk_un (by omega), pk_un (by omega)] at h0
    rw [pk_un e, pk_un (show 13 + 4 * i ≠ 13 + 4 * t by omega), pk_un (show 13 + 4 * i ≠ 12 + 4 * t by omega), pk_un (show 13 + 4 * i ≠ 11 + 4 * t by omega), pk_un (show 13 + 4 * i ≠ 10 + 4 * t by omega)]
    exact h i hi h0
theorem fOK.place {T : Nat} {v : NV} {fss : Nat → Nat → Int32} {G g : Nat} (h : fOK v fss) (hv : okV T v) (hG : v.1 = nI G) (hG4 : G ≤ 4) (hg : g < G) : fOK (sPlace v g) fss := by
  obtain ⟨hT0, G', g1, g2, g3, -, ho⟩ := hv
  obtain rfl : G' = G := (nI_eq (by omega) (by omega)).mp (g3.symm.trans hG)
  obtain ⟨v1, v2, v3, gs⟩ := v
  dsimp only [fOK] at *
  unfold sPlace
  dsimp only
  rcases sNext_cases hG4 ho hg with hp | ⟨k, i, hh, hi, hM6, hp, -⟩
  · rw [if_pos hp]
    exact up_all (P := fun j z => fsOK z (fss j)) h ((h g (by omega)).cnt (by omega) |>.cnt (by omega))
  · have ed : nI (10 * k + i) / 10 = nI k := by
      rw [show (10 : Int32) = nI 10 by decide, pk_div (by omega) (by omega) (by omega)]
      congr 1
      omega
    have er : nI (10 * k + i) - nI (10 * k + i) / 10 * 10 = nI i := by
      rw [show (10 : Int32) = nI 10 by decide, pk_rem (by omega) (by omega) (by omega)]
      congr 1
      omega
    rw [hp, if_neg (nI_nm1 (by omega)), er, ed, nI_clamp (by omega), nI_clamp (by omega)]
    have h1 := up_all (P := fun j z => fsOK z (fss j)) (g := g) h ((h g (by omega)).cnt (w := 6) (z := gs g 6 + 1) (by omega))
    have h2 := up_all (P := fun j z => fsOK z (fss j)) (g := k) h1 ((h1 k (by omega)).hold (t := i) (c := v3) (w := nI g) (by omega))
    dsimp only
    split
    · exact up_all (P := fun j z => fsOK z (fss j)) h2 ((h2 g (by omega)).cnt (by omega))
    · exact up_all (P := fun j z => fsOK z (fss j)) h2 ((h2 g (by omega)).cnt (by omega))
theorem up2_all {P : (Nat → Int32) → (Nat → Int32) → Prop} {gs fss : Nat → Nat → Int32} {g : Nat} {y z : Nat → Int32} (h : ∀ j, j < 4 → P (gs j) (fss j)) (hz : P y z) : ∀ j, j < 4 → P (va_up gs g y j) (va_up fss g z j) := fun j hj => by
  by_cases e : j = g
  · subst e; rw [va_up_self, va_up_self]; exact hz
  · rw [va_up_ne _ _ e, va_up_ne _ _ e]; exact h j hj
theorem fOK.sEnd {T : Nat} {v : NV} {fss : Nat → Nat → Int32} {g i : Nat} (h : fOK v fss) (hv : okV T v) (hg : g < 4) (hi : i < 6) : fOK (sEnd v g i) (va_up fss g (upd (fss g) i (v.2.1 + 1))) := by
  obtain ⟨hT, G, g1, g2, g3, ⟨t, t1, t2⟩, ho⟩ := hv
  have e : v.2.1 + 1 = nI (t + 1) := by rw [t2, nI_1]
  exact up2_all h ((h g hg).lett hi (fun _ => ⟨by rw [e]; exact nI_nm1 (by omega), rfl⟩))
theorem fOK.sBrk {T : Nat} {v : NV} {fss : Nat → Nat → Int32} {g i : Nat} (h : fOK v fss) (hv : okV T v) (hg : g < 4) (hi : i < 6) : fOK (sBrk v g i) (va_up fss g (upd (fss g) i (v.2.1 + 1))) := by
  obtain ⟨hT, G, g1, g2, g3, ⟨t, t1, t2⟩, ho⟩ := hv
  have key : ∀ gs1 : Nat → Nat → Int32, (∀ g, g < 4 → fsOK (gs1 g) (fss g)) → ∀ j, j < 4 → fsOK (va_up gs1 g (upd (gLet (gs1 g) i 2) (13 + 4 * i) 0) j) (va_up fss g (upd (fss g) i (v.2.1 + 1)) j) := fun gs1 h1 => up2_all h1 ((h1 g hg).lett hi (fun q => absurd q (by decide)))
  refine key _ ?_
  split
  · exact h
  · rename_i hne
    obtain ⟨w, w1, w2⟩ : ∃ w, w < G ∧ v.2.2.2 g (12 + 4 * i) = nI w := by
      rcases (ho g hg).2.2.2.2.2 i hi with ⟨-, q, -⟩ | ⟨-, q⟩ | ⟨-, q⟩
      · exact absurd q hne
      · exact q
      · exact absurd q hne
    rw [w2, nI_clamp (by omega)]
    exact up_all (P := fun j z => fsOK z (fss j)) h ((h w (by omega)).cnt (by omega))
theorem fOK.shape {v : NV} {fss : Nat → Nat → Int32} {g : Nat} {n a r o c : Int32} (h : fOK v fss) : fOK (sShape v g n a r o c) (va_up fss g (fun _ => 0)) := up2_all h (fOK_free _)
