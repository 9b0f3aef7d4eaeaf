/-! TrunkReserve$Net. A net's value: how many groups, the time, the calls, the groups' rows. -/
abbrev NV : Type := Int32 × Int32 × Int32 × (Nat → Nat → Int32)
def Np (E : Ev) (a : Nat) (v : NV) (fss : Nat → Nat → Int32) (H : Heap) : Prop := ob E 6 a [.int v.1, .int v.2.1, .int v.2.2.1, .ref (a + 1)] H ∧ aq E E.2.2.2.2.1 (a + 1) 4 (fun j => some (a + 2 + 5 * j)) H ∧ ∀ g, g < 4 → Gp E (a + 2 + 5 * g) (v.2.2.2 g) (fss g) H
theorem aq_kept {E : Ev} {c : ClassId} {a n : Nat} {f : Nat → Option Nat} {H H' : Heap} (h : aq E c a n f H) (hq : H'[a]? = H[a]?) : aq E c a n f H' := va_at.kept h hq
theorem Np.kept {E : Ev} {a : Nat} {v : NV} {fss : Nat → Nat → Int32} {H H' : Heap} (h : Np E a v fss H) (hq : ∀ q, rg a 22 q → H'[q]? = H[q]?) : Np E a v fss H' :=
  ⟨ob_kept h.1 (hq _ ⟨by omega, by omega⟩), aq_kept h.2.1 (hq _ ⟨by omega, by omega⟩), fun g hg => (h.2.2 g hg).kept (fun q h => hq q ⟨by have := h.1; omega, by have := h.2; omega⟩)⟩
theorem Np.to {E : Ev} {a : Nat} {v v' : NV} {fss fss' : Nat → Nat → Int32} {H : Heap} (h : Np E a v fss H) (h1 : v.1 = v'.1) (h2 : v.2.1 = v'.2.1) (h3 : v.2.2.1 = v'.2.2.1) (h4 : ∀ g, g < 4 → v.2.2.2 g = v'.2.2.2 g ∧ fss g = fss' g) : Np E a v' fss' H :=
  ⟨h1 ▸ h2 ▸ h3 ▸ h.1, h.2.1, fun g hg => (h4 g hg).1 ▸ (h4 g hg).2 ▸ h.2.2 g hg⟩
/-- the net's own cell is written -/
theorem Np.wo {E : Ev} {a : Nat} {x0 y0 z0 : Int32} {gs : Nat → Nat → Int32} {fss : Nat → Nat → Int32} {H H' : Heap} (x y z : Int32) (h : Np E a (x0, y0, z0, gs) fss H) (h1 : ob E 6 a [.int x, .int y, .int z, .ref (a + 1)] H') (h2 : but a H H') : Np E a (x, y, z, gs) fss H' :=
  ⟨h1, aq_kept h.2.1 (h2.2 _ (by omega)), fun g hg => (h.2.2 g hg).kept (fun q hq => h2.2 q (by have := hq.1; omega))⟩
/-- one of its groups has changed -/
theorem Np.grp {E : Ev} {a g : Nat} {v : NV} {fss : Nat → Nat → Int32} {gv fs : Nat → Int32} {H H' : Heap} (hg : g < 4) (h : Np E a v fss H) (h1 : Gp E (a + 2 + 5 * g) gv fs H') (h2 : out (rg (a + 2 + 5 * g) 5) H H') : Np E a (v.1, v.2.1, v.2.2.1, va_up v.2.2.2 g gv) (va_up fss g fs) H' := by
  refine ⟨ob_kept h.1 (out_at h2 h.1 (fun z => by have := z.1; dsimp only at this; omega)), aq_kept h.2.1 (out_at h2 h.2.1 (fun z => by have := z.1; dsimp only at this; omega)), fun j hj => ?_⟩
  by_cases e : j = g
  · subst e
    rw [show ((v.1, v.2.1, v.2.2.1, va_up v.2.2.2 j gv) : NV).2.2.2 j = gv from va_up_self _ _ _, va_up_self]
    exact h1
  · rw [show ((v.1, v.2.1, v.2.2.1, va_up v.2.2.2 g gv) : NV).2.2.2 j = v.2.2.2 j from va_up_ne _ _ e, va_up_ne _ _ e]
    exact (h.2.2 j hj).kept (fun q hq => h2.2 q ((h.2.2 j hj).lt q hq) (fun z => by have := z.1; have := z.2; have := hq.1; have := hq.2; omega))
theorem Np.grpb {E : Ev} {a g q : Nat} {v : NV} {fss : Nat → Nat → Int32} {gv fs : Nat → Int32} {H H' : Heap} (hg : g < 4) (hq : rg (a + 2 + 5 * g) 5 q) (h : Np E a v fss H) (h1 : Gp E (a + 2 + 5 * g) gv fs H') (h2 : but q H H') : Np E a (v.1, v.2.1, v.2.2.1, va_up v.2.2.2 g gv) (va_up fss g fs) H' :=
  Np.grp hg h h1 ⟨by rw [h2.1]; exact Nat.le_refl _, fun b _ hb => h2.2 b (fun e => hb (by rw [e]; exact hq))⟩
theorem va_up_same {α : Type} (f : Nat → α) (k j : Nat) : va_up f k (f k) j = f j := by
  by_cases h : j = k
  · subst h; exact va_up_self _ _ _
  · exact va_up_ne _ _ h
theorem np_le {E : Ev} {a : Nat} {v : NV} {fss : Nat → Nat → Int32} {H : Heap} (h : Np E a v fss H) : a + 22 ≤ H.size := (h.2.2 3 (by omega)).lt (a + 21) ⟨by omega, by omega⟩
theorem n_aa {a j : Nat} (hj : j < 4) : (fun j => some (a + 2 + 5 * j)) (nI j).toNatClampNeg = some (a + 2 + 5 * j) := by
  show some (a + 2 + 5 * (nI j).toNatClampNeg) = _
  rw [nI_clamp (by omega)]
set_option maxRecDepth 100000 in
set_option maxHeartbeats 4000000 in
theorem c_N_groupAt (l : Launch) (E : Ev) (a : Nat) (v : NV) (fss : Nat → Nat → Int32) (G g : Nat) (hG : v.1 = nI G) (hG4 : G ≤ 4) (hg : g < G) : Ct l E yX6_groupAt cX6_groupAt 2 (some (.object "TrunkReserve$Group")) (rm 1) [.ref a, .int (nI g)] (Np E a v fss) (rV (some (.ref (a + 2 + 5 * g))) (Np E a v fss)) (fun _ => False) := by
  refine ct_start (by decide) [some (.ref a), some (.int (nI g))] rfl (Nat.le_of_ble_eq_true rfl) ?_
  intro x hF hN hA hR
  refine g_iload_n hF dX6_groupAt_0 1 rfl rfl ?_
  refine g_if_lt hF dX6_groupAt_1 4 rfl 21 (by decide) (fun c => absurd c (nI_pos (by omega))) (fun _ => ?_)
  refine g_iload_n hF dX6_groupAt_4 5 rfl rfl ?_
  refine g_aload_n hF dX6_groupAt_5 6 rfl rfl ?_
  refine g_get hF fl_X6_22 dX6_groupAt_6 9 rfl (by intro H h; first | exact h.1 | exact h.2.1) rfl ?_
  refine g_icmp_ge hF dX6_groupAt_9 12 rfl 21 (by decide) (fun c => absurd c (hG ▸ fun z => absurd (i_le z (by omega) (by omega)) (by omega))) (fun _ => ?_)
  refine g_aload_n hF dX6_groupAt_12 13 rfl rfl ?_
  refine g_get hF fl_X6_11 dX6_groupAt_13 16 rfl (by intro H h; first | exact h.1 | exact h.2.1) rfl ?_
  refine g_iload_n hF dX6_groupAt_16 17 rfl rfl ?_
  refine g_aald hF 3 dX6_groupAt_17 18 rfl rfl (by intro H h; first | exact h.1 | exact h.2.1) (vp_in_nI (show g < 4 by omega) (by omega)) (n_aa (j := g) (by omega)) ?_
  refine g_goto hF dX6_groupAt_18 22 (by decide) ?_
  exact g_aret hF (Or.inr ⟨_, rfl⟩) dX6_groupAt_22 (Nat.le_of_ble_eq_true rfl) (Nat.le_of_ble_eq_true rfl) (fun H h => hR _ _ ⟨rfl, h⟩)
set_option maxRecDepth 100000 in
set_option maxHeartbeats 4000000 in
theorem c_N_groupAtN (l : Launch) (E : Ev) (a : Nat) (v : NV) (fss : Nat → Nat → Int32) (z : Int32) (hz : z < 0 ∨ v.1 ≤ z) : Ct l E yX6_groupAt cX6_groupAt 2 (some (.object "TrunkReserve$Group")) (rm 1) [.ref a, .int z] (Np E a v fss) (rV (some .null) (Np E a v fss)) (fun _ => False) := by
  refine ct_start (by decide) [some (.ref a), some (.int z)] rfl (Nat.le_of_ble_eq_true rfl) ?_
  intro x hF hN hA hR
  refine g_iload_n hF dX6_groupAt_0 1 rfl rfl ?_
  refine g_if_lt hF dX6_groupAt_1 4 rfl 21 (by decide) (fun c1 => ?_) (fun c1 => ?_)
  · refine g_null hF dX6_groupAt_21 22 rfl ?_
    exact g_aret hF (Or.inl rfl) dX6_groupAt_22 (Nat.le_of_ble_eq_true rfl) (Nat.le_of_ble_eq_true rfl) (fun H h => hR _ _ ⟨rfl, h⟩)
  · refine g_iload_n hF dX6_groupAt_4 5 rfl rfl ?_
    refine g_aload_n hF dX6_groupAt_5 6 rfl rfl ?_
    refine g_get hF fl_X6_22 dX6_groupAt_6 9 rfl (by intro H h; first | exact h.1 | exact h.2.1) rfl ?_
    refine g_icmp_ge hF dX6_groupAt_9 12 rfl 21 (by decide) (fun c9 => ?_) (fun c9 => ?_)
    · refine g_null hF dX6_groupAt_21 22 rfl ?_
      exact g_aret hF (Or.inl rfl) dX6_groupAt_22 (Nat.le_of_ble_eq_true rfl) (Nat.le_of_ble_eq_true rfl) (fun H h => hR _ _ ⟨rfl, h⟩)
    · exact absurd hz (fun h => h.elim c1 c9)
set_option maxRecDepth 100000 in
set_option maxHeartbeats 4000000 in
theorem c_N_gwl (l : Launch) (E : Ev) (a : Nat) (v : NV) (fss : Nat → Nat → Int32) (G g N i : Nat) (hG : v.1 = nI G) (hG4 : G ≤ 4) (hg : g < G) (hN0 : v.2.2.2 g 0 = nI N) (hN6 : N ≤ 6) (hi : i < N) : Ct l E yX6_groupWithLine cX6_groupWithLine 4 (some (.object "TrunkReserve$Group")) (rm 2) [.ref a, .int (nI g), .int (nI i)] (Np E a v fss) (rV (some (.ref (a + 2 + 5 * g))) (Np E a v fss)) (fun _ => False) := by
  refine ct_start (by decide) [some (.ref a), some (.int (nI g)), some (.int (nI i)), none] rfl (Nat.le_of_ble_eq_true rfl) ?_
  intro x hF hN hA hR
  have hg4 : g < 4 := by omega
  have e1 : (if 0 ≤ nI i ∧ nI i < v.2.2.2 g 0 then (1 : Int32) else 0) = 1 := if_pos ⟨nI_pos' (by omega), by rw [hN0]; exact (nI_ltI (by omega) (by omega)).mpr hi⟩
  refine g_aload_n hF dX6_groupWithLine_0 1 rfl rfl ?_
  refine g_iload_n hF dX6_groupWithLine_1 2 rfl rfl ?_
  refine g_callV hF cv_X6_38 (c_N_groupAt l E a v fss G g hG hG4 hg) dX6_groupWithLine_2 5 rfl (st := []) rfl rfl ⟨Nat.le_of_ble_eq_true rfl, Nat.le_of_ble_eq_true rfl⟩ ⟨Nat.le_of_ble_eq_true rfl, Nat.le_of_ble_eq_true rfl⟩ rfl (Nat.le_of_ble_eq_true rfl) 6 rfl (by intro H h; first | exact h.1 | exact h.2.1 | exact (h.2.2 g hg4).1) (Pr' := _) (fun _ h => h) (hA) (fun _ _ _ h _ => by exact h) (st1 := [_]) rfl (k1 := 0) (n1 := 0) rfl rfl ?_
  refine g_astore_n hF dX6_groupWithLine_5 6 rfl (lo' := [_, _, _, _]) (Nat.le_of_ble_eq_true rfl) rfl ?_
  refine g_aload_n hF dX6_groupWithLine_6 7 rfl rfl ?_
  refine g_ifnull hF dX6_groupWithLine_7 10 rfl ?_
  refine g_aload_n hF dX6_groupWithLine_10 11 rfl rfl ?_
  refine g_iload_n hF dX6_groupWithLine_11 12 rfl rfl ?_
  refine g_callV hF cv_X6_42 (c_G_hasLine l E (a + 2 + 5 * g) (v.2.2.2 g) (fss g) (nI i)) dX6_groupWithLine_12 15 rfl (st := []) rfl rfl ⟨Nat.le_of_ble_eq_true rfl, Nat.le_of_ble_eq_true rfl⟩ ⟨Nat.le_of_ble_eq_true rfl, Nat.le_of_ble_eq_true rfl⟩ rfl (Nat.le_of_ble_eq_true rfl) 3 rfl (by intro H h; first | exact h.1 | exact h.2.1 | exact (h.2.2 g hg4).1) (Pr' := Np E a v fss) (fun H h => h.2.2 g hg4) (fun q z => z.elim) (fun H H' h h1 h2 => by exact Np.to (Np.grp hg4 h h1 ⟨h2.1, fun b hb _ => h2.2 b hb (fun z => z)⟩) rfl rfl rfl (fun j _ => ⟨va_up_same v.2.2.2 g j, va_up_same fss g j⟩)) (st1 := [_]) rfl (k1 := 0) (n1 := 0) rfl rfl ?_
  rw [e1]
  refine g_if_eq hF dX6_groupWithLine_15 18 rfl 22 (by decide) (fun c => absurd c ((by decide))) (fun _ => ?_)
  refine g_aload_n hF dX6_groupWithLine_18 19 rfl rfl ?_
  refine g_goto hF dX6_groupWithLine_19 23 (by decide) ?_
  exact g_aret hF (Or.inr ⟨_, rfl⟩) dX6_groupWithLine_23 (Nat.le_of_ble_eq_true rfl) (Nat.le_of_ble_eq_true rfl) (fun H h => hR _ _ ⟨rfl, h⟩)
set_option maxRecDepth 100000 in
set_option maxHeartbeats 4000000 in
theorem c_N_gwlN (l : Launch) (E : Ev) (a : Nat) (v : NV) (fss : Nat → Nat → Int32) (G : Nat) (z w : Int32) (hG : v.1 = nI G) (hG4 : G ≤ 4) (hz : (z < 0 ∨ v.1 ≤ z) ∨ ∃ g, g < G ∧ z = nI g ∧ (w < 0 ∨ v.2.2.2 g 0 ≤ w)) : Ct l E yX6_groupWithLine cX6_groupWithLine 4 (some (.object "TrunkReserve$Group")) (rm 2) [.ref a, .int z, .int w] (Np E a v fss) (rV (some .null) (Np E a v fss)) (fun _ => False) := by
  refine ct_start (by decide) [some (.ref a), some (.int z), some (.int w), none] rfl (Nat.le_of_ble_eq_true rfl) ?_
  intro x hF hN hA hR
  rcases hz with hz | ⟨g, hg, rfl, hw⟩
  · refine g_aload_n hF dX6_groupWithLine_0 1 rfl rfl ?_
    refine g_iload_n hF dX6_groupWithLine_1 2 rfl rfl ?_
    refine g_callV hF cv_X6_38 (c_N_groupAtN l E a v fss z hz) dX6_groupWithLine_2 5 rfl (st := []) rfl rfl ⟨Nat.le_of_ble_eq_true rfl, Nat.le_of_ble_eq_true rfl⟩ ⟨Nat.le_of_ble_eq_true rfl, Nat.le_of_ble_eq_true rfl⟩ rfl (Nat.le_of_ble_eq_true rfl) 6 rfl (by intro H h; first | exact h.1 | exact h.2.1 | exact (h.2.2 g hg4).1) (Pr' := _) (fun _ h => h) (hA) (fun _ _ _ h _ => by exact h) (st1 := [_]) rfl (k1 := 0) (n1 := 0) rfl rfl ?_
    refine g_astore_nN hF dX6_groupWithLine_5 6 rfl (lo' := [_, _, _, _]) (Nat.le_of_ble_eq_true rfl) rfl ?_
    refine g_aload_nN hF dX6_groupWithLine_6 7 rfl rfl ?_
    refine g_ifnullN hF dX6_groupWithLine_7 22 (by decide) ?_
    refine g_null hF dX6_groupWithLine_22 23 rfl ?_
    exact g_aret hF (Or.inl rfl) dX6_groupWithLine_23 (Nat.le_of_ble_eq_true rfl) (Nat.le_of_ble_eq_true rfl) (fun H h => hR _ _ ⟨rfl, h⟩)
  · have hg4 : g < 4 := by omega
    have e1 : (if 0 ≤ w ∧ w < v.2.2.2 g 0 then (1 : Int32) else 0) = 0 := if_neg (fun h => hw.elim (fun q => absurd h.1 (Int32.not_le.mpr q)) (fun q => absurd h.2 (Int32.not_lt.mpr q)))
    refine g_aload_n hF dX6_groupWithLine_0 1 rfl rfl ?_
    refine g_iload_n hF dX6_groupWithLine_1 2 rfl rfl ?_
    refine g_callV hF cv_X6_38 (c_N_groupAt l E a v fss G g hG hG4 hg) dX6_groupWithLine_2 5 rfl (st := []) rfl rfl ⟨Nat.le_of_ble_eq_true rfl, Nat.le_of_ble_eq_true rfl⟩ ⟨Nat.le_of_ble_eq_true rfl, Nat.le_of_ble_eq_true rfl⟩ rfl (Nat.le_of_ble_eq_true rfl) 6 rfl (by intro H h; first | exact h.1 | exact h.2.1 | exact (h.2.2 g hg4).1) (Pr' := _) (fun _ h => h) (hA) (fun _ _ _ h _ => by exact h) (st1 := [_]) rfl (k1 := 0) (n1 := 0) rfl rfl ?_
    refine g_astore_n hF dX6_groupWithLine_5 6 rfl (lo' := [_, _, _, _]) (Nat.le_of_ble_eq_true rfl) rfl ?_
    refine g_aload_n hF dX6_groupWithLine_6 7 rfl rfl ?_
    refine g_ifnull hF dX6_groupWithLine_7 10 rfl ?_
    refine g_aload_n hF dX6_groupWithLine_10 11 rfl rfl ?_
    refine g_iload_n hF dX6_groupWithLine_11 12 rfl rfl ?_
    refine g_callV hF cv_X6_42 (c_G_hasLine l E (a + 2 + 5 * g) (v.2.2.2 g) (fss g) w) dX6_groupWithLine_12 15 rfl (st := []) rfl rfl ⟨Nat.le_of_ble_eq_true rfl, Nat.le_of_ble_eq_true rfl⟩ ⟨Nat.le_of_ble_eq_true rfl, Nat.le_of_ble_eq_true rfl⟩ rfl (Nat.le_of_ble_eq_true rfl) 3 rfl (by intro H h; first | exact h.1 | exact h.2.1 | exact (h.2.2 g hg4).1) (Pr' := Np E a v fss) (fun H h => h.2.2 g hg4) (fun q z => z.elim) (fun H H' h h1 h2 => by exact Np.to (Np.grp hg4 h h1 ⟨h2.1, fun b hb _ => h2.2 b hb (fun z => z)⟩) rfl rfl rfl (fun j _ => ⟨va_up_same v.2.2.2 g j, va_up_same fss g j⟩)) (st1 := [_]) rfl (k1 := 0) (n1 := 0) rfl rfl ?_
    rw [e1]
    refine g_if_eq hF dX6_groupWithLine_15 18 rfl 22 (by decide) (fun _ => ?_) (fun c => absurd (rfl) c)
    refine g_null hF dX6_groupWithLine_22 23 rfl ?_
    exact g_aret hF (Or.inl rfl) dX6_groupWithLine_23 (Nat.le_of_ble_eq_true rfl) (Nat.le_of_ble_eq_true rfl) (fun H h => hR _ _ ⟨rfl, h⟩)
/-- how many lines of a group are so -/
def cnt (gv : Nat → Int32) (w : Int32) : Int32 := bitC (sSet gv w (gv 0).toNatClampNeg)
def sHeld (gs : Nat → Nat → Int32) : Nat → Int32
  | 0 => 0
  | k + 1 => sHeld gs k + cnt (gs k) 1
def sLost (gs : Nat → Nat → Int32) : Nat → Int32
  | 0 => 0
  | k + 1 => sLost gs k + gs k 9
set_option maxRecDepth 100000 in
set_option maxHeartbeats 4000000 in
theorem c_N_heldLines (l : Launch) (E : Ev) (a : Nat) (v : NV) (fss : Nat → Nat → Int32) (G : Nat) (hG : v.1 = nI G) (hG4 : G ≤ 4) (hn : ∀ g, g < 4 → ∃ N, N ≤ 6 ∧ v.2.2.2 g 0 = nI N) : Ct l E yX6_heldLines cX6_heldLines 3 (some .int) (rm 3) [.ref a] (Np E a v fss) (rV (some (.int (sHeld v.2.2.2 G))) (Np E a v fss)) (fun _ => False) := by
  refine ct_start (by decide) [some (.ref a), none, none] rfl (Nat.le_of_ble_eq_true rfl) ?_
  intro x hF hN hA hR
  have loop : ∀ (n j : Nat) (s i : Int32), G - j < n → j ≤ G → i = nI j → s = sHeld v.2.2.2 j → go l (rm 3) E x 0 0 (Np E a v fss) [some (.ref a), some (.int s), some (.int i)] 4 [] := by
    intro n
    induction n with
    | zero => intro j s i h; omega
    | succ n ih =>
      intro j s i hn0 hj hi hs
      subst hi
      refine g_iload_n hF dX6_heldLines_4 5 rfl rfl ?_
      refine g_aload_n hF dX6_heldLines_5 6 rfl rfl ?_
      refine g_get hF fl_X6_22 dX6_heldLines_6 9 rfl (by intro H h; first | exact h.1 | exact h.2.1 | exact (h.2.2 j hj4).1) rfl ?_
      refine g_icmp_ge hF dX6_heldLines_9 12 rfl 31 (by decide) (fun c9 => ?_) (fun c9 => ?_)
      · refine g_iload_n hF dX6_heldLines_31 32 rfl rfl ?_
        exact g_iret hF dX6_heldLines_32 (Nat.le_of_ble_eq_true rfl) (Nat.le_of_ble_eq_true rfl) (fun H h => hR _ _ ⟨congrArg (fun z => some (Value.int z)) (by have := i_le (hG ▸ c9) (by omega) (by omega); rw [hs, show j = G by omega]), h⟩)
      · have hlt : j < G := i_nle (hG ▸ c9) (by omega) (by omega)
        have hj4 : j < 4 := by omega
        obtain ⟨N, hN6, hN0⟩ := hn j hj4
        refine g_iload_n hF dX6_heldLines_12 13 rfl rfl ?_
        refine g_aload_n hF dX6_heldLines_13 14 rfl rfl ?_
        refine g_get hF fl_X6_11 dX6_heldLines_14 17 rfl (by intro H h; first | exact h.1 | exact h.2.1 | exact (h.2.2 j hj4).1) rfl ?_
        refine g_iload_n hF dX6_heldLines_17 18 rfl rfl ?_
        refine g_aald hF 3 dX6_heldLines_18 19 rfl rfl (by intro H h; first | exact h.1 | exact h.2.1 | exact (h.2.2 j hj4).1) (vp_in_nI hj4 (by omega)) (n_aa hj4) ?_
        refine g_iconst hF (1) dX6_heldLines_19 20 rfl rfl ?_
        refine g_callV hF cv_X6_46 (c_G_count l E (a + 2 + 5 * j) (v.2.2.2 j) (fss j) 1 N hN0 hN6) dX6_heldLines_20 23 rfl (st := [_]) rfl rfl ⟨Nat.le_of_ble_eq_true rfl, Nat.le_of_ble_eq_true rfl⟩ ⟨Nat.le_of_ble_eq_true rfl, Nat.le_of_ble_eq_true rfl⟩ rfl (Nat.le_of_ble_eq_true rfl) 3 rfl (by intro H h; first | exact h.1 | exact h.2.1 | exact (h.2.2 j hj4).1) (Pr' := Np E a v fss) (fun H h => h.2.2 j hj4) (fun q z => z.elim) (fun H H' h h1 h2 => by exact Np.to (Np.grp hj4 h h1 ⟨h2.1, fun b hb _ => h2.2 b hb (fun z => z)⟩) rfl rfl rfl (fun i _ => ⟨va_up_same v.2.2.2 j i, va_up_same fss j i⟩)) (st1 := [_, _]) rfl (k1 := 0) (n1 := 0) rfl rfl ?_
        refine g_iadd hF dX6_heldLines_23 24 rfl ?_
        refine g_istore_n hF dX6_heldLines_24 25 rfl (lo' := [_, _, _]) (Nat.le_of_ble_eq_true rfl) rfl ?_
        refine g_iinc hF dX6_heldLines_25 28 rfl (1) rfl (lo' := [_, _, _]) rfl rfl ?_
        refine g_goto hF dX6_heldLines_28 4 (by decide) ?_
        exact ih (j + 1) _ _ (by omega) (by omega) (nI_succ j).symm (by rw [hs]; show _ = sHeld v.2.2.2 j + cnt (v.2.2.2 j) 1; unfold cnt; rw [hN0, nI_clamp (by omega)])
  refine g_iconst hF (0) dX6_heldLines_0 1 rfl rfl ?_
  refine g_istore_n hF dX6_heldLines_1 2 rfl (lo' := [_, _, _]) (Nat.le_of_ble_eq_true rfl) rfl ?_
  refine g_iconst hF (0) dX6_heldLines_2 3 rfl rfl ?_
  refine g_istore_n hF dX6_heldLines_3 4 rfl (lo' := [_, _, _]) (Nat.le_of_ble_eq_true rfl) rfl ?_
  exact loop (G + 1) 0 0 0 (by omega) (by omega) nI_0.symm rfl
set_option maxRecDepth 100000 in
set_option maxHeartbeats 4000000 in
theorem c_N_lostCalls (l : Launch) (E : Ev) (a : Nat) (v : NV) (fss : Nat → Nat → Int32) (G : Nat) (hG : v.1 = nI G) (hG4 : G ≤ 4) : Ct l E yX6_lostCalls cX6_lostCalls 3 (some .int) (rm 1) [.ref a] (Np E a v fss) (rV (some (.int (sLost v.2.2.2 G))) (Np E a v fss)) (fun _ => False) := by
  refine ct_start (by decide) [some (.ref a), none, none] rfl (Nat.le_of_ble_eq_true rfl) ?_
  intro x hF hN hA hR
  have loop : ∀ (n j : Nat) (s i : Int32), G - j < n → j ≤ G → i = nI j → s = sLost v.2.2.2 j → go l (rm 1) E x 0 0 (Np E a v fss) [some (.ref a), some (.int s), some (.int i)] 4 [] := by
    intro n
    induction n with
    | zero => intro j s i h; omega
    | succ n ih =>
      intro j s i hn0 hj hi hs
      subst hi
      refine g_iload_n hF dX6_lostCalls_4 5 rfl rfl ?_
      refine g_aload_n hF dX6_lostCalls_5 6 rfl rfl ?_
      refine g_get hF fl_X6_22 dX6_lostCalls_6 9 rfl (by intro H h; first | exact h.1 | exact h.2.1 | exact (h.2.2 j hj4).1) rfl ?_
      refine g_icmp_ge hF dX6_lostCalls_9 12 rfl 30 (by decide) (fun c9 => ?_) (fun c9 => ?_)
      · refine g_iload_n hF dX6_lostCalls_30 31 rfl rfl ?_
        exact g_iret hF dX6_lostCalls_31 (Nat.le_of_ble_eq_true rfl) (Nat.le_of_ble_eq_true rfl) (fun H h => hR _ _ ⟨congrArg (fun z => some (Value.int z)) (by have := i_le (hG ▸ c9) (by omega) (by omega); rw [hs, show j = G by omega]), h⟩)
      · have hlt : j < G := i_nle (hG ▸ c9) (by omega) (by omega)
        have hj4 : j < 4 := by omega
        refine g_iload_n hF dX6_lostCalls_12 13 rfl rfl ?_
        refine g_aload_n hF dX6_lostCalls_13 14 rfl rfl ?_
        refine g_get hF fl_X6_11 dX6_lostCalls_14 17 rfl (by intro H h; first | exact h.1 | exact h.2.1 | exact (h.2.2 j hj4).1) rfl ?_
        refine g_iload_n hF dX6_lostCalls_17 18 rfl rfl ?_
        refine g_aald hF 3 dX6_lostCalls_18 19 rfl rfl (by intro H h; first | exact h.1 | exact h.2.1 | exact (h.2.2 j hj4).1) (vp_in_nI hj4 (by omega)) (n_aa hj4) ?_
        refine g_get hF fl_X6_50 dX6_lostCalls_19 22 rfl (by intro H h; first | exact h.1 | exact h.2.1 | exact (h.2.2 j hj4).1) rfl ?_
        refine g_iadd hF dX6_lostCalls_22 23 rfl ?_
        refine g_istore_n hF dX6_lostCalls_23 24 rfl (lo' := [_, _, _]) (Nat.le_of_ble_eq_true rfl) rfl ?_
        refine g_iinc hF dX6_lostCalls_24 27 rfl (1) rfl (lo' := [_, _, _]) rfl rfl ?_
        refine g_goto hF dX6_lostCalls_27 4 (by decide) ?_
        exact ih (j + 1) _ _ (by omega) (by omega) (nI_succ j).symm (by rw [hs]; rfl)
  refine g_iconst hF (0) dX6_lostCalls_0 1 rfl rfl ?_
  refine g_istore_n hF dX6_lostCalls_1 2 rfl (lo' := [_, _, _]) (Nat.le_of_ble_eq_true rfl) rfl ?_
  refine g_iconst hF (0) dX6_lostCalls_2 3 rfl rfl ?_
  refine g_istore_n hF dX6_lostCalls_3 4 rfl (lo' := [_, _, _]) (Nat.le_of_ble_eq_true rfl) rfl ?_
  exact loop (G + 1) 0 0 0 (by omega) (by omega) nI_0.symm rfl
set_option maxRecDepth 100000 in
set_option maxHeartbeats 4000000 in
theorem c_N_begin (l : Launch) (E : Ev) (a : Nat) (v : NV) (fss : Nat → Nat → Int32) (z : Int32) : Ct l E yX6_begin cX6_begin 3 none (rm 4) [.ref a, .int z] (Np E a v fss) (rV none (Np E a (z, 0, 0, fun _ => g0) (fun _ _ => 0))) (rg a 22) := by
  refine ct_start (by decide) [some (.ref a), some (.int z), none] rfl (Nat.le_of_ble_eq_true rfl) ?_
  intro x hF hN hA hR
  have loop : ∀ (n j : Nat) (i : Int32) (gs fss : Nat → Nat → Int32), 4 - j < n → j ≤ 4 → i = nI j → (∀ g, g < j → gs g = g0 ∧ fss g = fun _ => 0) → go l (rm 4) E x 0 0 (Np E a (z, 0, 0, gs) fss) [some (.ref a), some (.int z), some (.int i)] 17 [] := by
    intro n
    induction n with
    | zero => intro j i gs fss h; omega
    | succ n ih =>
      intro j i gs fss hn0 hj hi hs
      subst hi
      refine g_iload_n hF dX6_begin_17 18 rfl rfl ?_
      refine g_iconst hF (4) dX6_begin_18 19 rfl rfl ?_
      refine g_icmp_ge hF dX6_begin_19 22 rfl 37 (by decide) (fun c19 => ?_) (fun c19 => ?_)
      · exact g_vret hF dX6_begin_37 (Nat.le_of_ble_eq_true rfl) (Nat.le_of_ble_eq_true rfl) (fun H h => hR _ _ ⟨rfl, by have := i_le (a := 4) c19 (by omega) (by omega); exact Np.to h rfl rfl rfl (fun g hg => hs g (by omega))⟩)
      · have hj4 : j < 4 := i_nle (a := 4) c19 (by omega) (by omega)
        refine g_aload_n hF dX6_begin_22 23 rfl rfl ?_
        refine g_get hF fl_X6_11 dX6_begin_23 26 rfl (by intro H h; first | exact h.1 | exact h.2.1 | exact (h.2.2 j hj4).1) rfl ?_
        refine g_iload_n hF dX6_begin_26 27 rfl rfl ?_
        refine g_aald hF 3 dX6_begin_27 28 rfl rfl (by intro H h; first | exact h.1 | exact h.2.1 | exact (h.2.2 j hj4).1) (vp_in_nI hj4 (by omega)) (n_aa hj4) ?_
        refine g_callV hF cv_X6_32 (c_G_begin l E (a + 2 + 5 * j) (gs j) (fss j)) dX6_begin_28 31 rfl (st := []) rfl rfl ⟨Nat.le_of_ble_eq_true rfl, Nat.le_of_ble_eq_true rfl⟩ ⟨Nat.le_of_ble_eq_true rfl, Nat.le_of_ble_eq_true rfl⟩ rfl (Nat.le_of_ble_eq_true rfl) 3 rfl (by intro H h; first | exact h.1 | exact h.2.1 | exact (h.2.2 j hj4).1) (Pr' := Np E a (z, 0, 0, va_up gs j g0) (va_up fss j (fun _ => 0))) (fun H h => h.2.2 j hj4) (fun q hq => hA q ⟨by have := hq.1; omega, by have := hq.2; omega⟩) (fun H H' h h1 h2 => by exact Np.grp hj4 h h1 h2) (st1 := []) rfl (k1 := 0) (n1 := 0) rfl rfl ?_
        refine g_iinc hF dX6_begin_31 34 rfl (1) rfl (lo' := [_, _, _]) rfl rfl ?_
        refine g_goto hF dX6_begin_34 17 (by decide) ?_
        exact ih (j + 1) _ _ _ (by omega) (by omega) (nI_succ j).symm (fun g hg => if e : g = j then by subst e; exact ⟨va_up_self _ _ _, va_up_self _ _ _⟩ else by rw [va_up_ne _ _ e, va_up_ne _ _ e]; exact hs g (by omega))
  refine g_aload_n hF dX6_begin_0 1 rfl rfl ?_
  refine g_iload_n hF dX6_begin_1 2 rfl rfl ?_
  refine g_put hF pl_X6_22 dX6_begin_2 5 rfl (by intro H h; first | exact h.1 | exact h.2.1 | exact (h.2.2 j hj4).1) (Nat.le_of_ble_eq_true rfl) rfl rfl (hA _ ⟨by omega, by omega⟩) (Pr' := Np E a (z, v.2.1, v.2.2.1, v.2.2.2) fss) (fun H H' h h1 h2 => by exact Np.wo z v.2.1 v.2.2.1 h h1 h2) ?_
  refine g_aload_n hF dX6_begin_5 6 rfl rfl ?_
  refine g_iconst hF (0) dX6_begin_6 7 rfl rfl ?_
  refine g_put hF pl_X6_26 dX6_begin_7 10 rfl (by intro H h; first | exact h.1 | exact h.2.1 | exact (h.2.2 j hj4).1) (Nat.le_of_ble_eq_true rfl) rfl rfl (hA _ ⟨by omega, by omega⟩) (Pr' := Np E a (z, 0, v.2.2.1, v.2.2.2) fss) (fun H H' h h1 h2 => by exact Np.wo z 0 v.2.2.1 h h1 h2) ?_
  refine g_aload_n hF dX6_begin_10 11 rfl rfl ?_
  refine g_iconst hF (0) dX6_begin_11 12 rfl rfl ?_
  refine g_put hF pl_X6_29 dX6_begin_12 15 rfl (by intro H h; first | exact h.1 | exact h.2.1 | exact (h.2.2 j hj4).1) (Nat.le_of_ble_eq_true rfl) rfl rfl (hA _ ⟨by omega, by omega⟩) (Pr' := Np E a (z, 0, 0, v.2.2.2) fss) (fun H H' h h1 h2 => by exact Np.wo z 0 0 h h1 h2) ?_
  refine g_iconst hF (0) dX6_begin_15 16 rfl rfl ?_
  refine g_istore_n hF dX6_begin_16 17 rfl (lo' := [_, _, _]) (Nat.le_of_ble_eq_true rfl) rfl ?_
  exact loop 5 0 0 _ _ (by omega) (by omega) nI_0.symm (fun g hg => by omega)
set_option maxRecDepth 100000 in
set_option maxHeartbeats 4000000 in
theorem c_N_copyFrom (l : Launch) (E : Ev) (a b : Nat) (v w : NV) (fss oss : Nat → Nat → Int32) (hd : a + 22 ≤ b ∨ b + 22 ≤ a) : Ct l E yX6_copyFrom cX6_copyFrom 3 none (rm 3) [.ref a, .ref b] (fun H => Np E a v fss H ∧ Np E b w oss H) (rV none (fun H => Np E a w oss H ∧ Np E b w oss H)) (rg a 22) := by
  refine ct_start (by decide) [some (.ref a), some (.ref b), none] rfl (Nat.le_of_ble_eq_true rfl) ?_
  intro x hF hN hA hR
  have kb : ∀ {q : Nat} {H H' : Heap}, rg a 22 q → but q H H' → Np E b w oss H → Np E b w oss H' := fun {q H H'} hq h2 h => h.kept (fun z hz => h2.2 z (by have := hz.1; have := hz.2; have := hq.1; have := hq.2; omega))
  have loop : ∀ (n j : Nat) (i : Int32) (gs fss : Nat → Nat → Int32), 4 - j < n → j ≤ 4 → i = nI j → (∀ g, g < j → gs g = w.2.2.2 g ∧ fss g = oss g) → go l (rm 3) E x 0 0 (fun H => Np E a (w.1, w.2.1, w.2.2.1, gs) fss H ∧ Np E b w oss H) [some (.ref a), some (.ref b), some (.int i)] 26 [] := by
    intro n
    induction n with
    | zero => intro j i gs fss h; omega
    | succ n ih =>
      intro j i gs fss hn0 hj hi hs
      subst hi
      refine g_iload_n hF dX6_copyFrom_26 27 rfl rfl ?_
      refine g_iconst hF (4) dX6_copyFrom_27 28 rfl rfl ?_
      refine g_icmp_ge hF dX6_copyFrom_28 31 rfl 52 (by decide) (fun c28 => ?_) (fun c28 => ?_)
      · exact g_vret hF dX6_copyFrom_52 (Nat.le_of_ble_eq_true rfl) (Nat.le_of_ble_eq_true rfl) (fun H h => hR _ _ ⟨rfl, by have := i_le (a := 4) c28 (by omega) (by omega); exact ⟨Np.to h.1 rfl rfl rfl (fun g hg => hs g (by omega)), h.2⟩⟩)
      · have hj4 : j < 4 := i_nle (a := 4) c28 (by omega) (by omega)
        refine g_aload_n hF dX6_copyFrom_31 32 rfl rfl ?_
        refine g_get hF fl_X6_11 dX6_copyFrom_32 35 rfl (by intro H h; first | exact h.1.1 | exact h.2.1 | exact h.1.2.1 | exact h.2.2.1 | exact (h.1.2.2 j hj4).1) rfl ?_
        refine g_iload_n hF dX6_copyFrom_35 36 rfl rfl ?_
        refine g_aald hF 3 dX6_copyFrom_36 37 rfl rfl (by intro H h; first | exact h.1.1 | exact h.2.1 | exact h.1.2.1 | exact h.2.2.1 | exact (h.1.2.2 j hj4).1) (vp_in_nI hj4 (by omega)) (n_aa hj4) ?_
        refine g_aload_n hF dX6_copyFrom_37 38 rfl rfl ?_
        refine g_get hF fl_X6_11 dX6_copyFrom_38 41 rfl (by intro H h; first | exact h.1.1 | exact h.2.1 | exact h.1.2.1 | exact h.2.2.1 | exact (h.1.2.2 j hj4).1) rfl ?_
        refine g_iload_n hF dX6_copyFrom_41 42 rfl rfl ?_
        refine g_aald hF 3 dX6_copyFrom_42 43 rfl rfl (by intro H h; first | exact h.1.1 | exact h.2.1 | exact h.1.2.1 | exact h.2.2.1 | exact (h.1.2.2 j hj4).1) (vp_in_nI hj4 (by omega)) (n_aa hj4) ?_
        refine g_callV hF cv_X6_34 (c_G_copyFrom l E (a + 2 + 5 * j) (b + 2 + 5 * j) (gs j) (fss j) (w.2.2.2 j) (oss j) (by omega)) dX6_copyFrom_43 46 rfl (st := []) rfl rfl ⟨Nat.le_of_ble_eq_true rfl, Nat.le_of_ble_eq_true rfl⟩ ⟨Nat.le_of_ble_eq_true rfl, Nat.le_of_ble_eq_true rfl⟩ rfl (Nat.le_of_ble_eq_true rfl) 3 rfl (by intro H h; first | exact h.1.1 | exact h.2.1 | exact h.1.2.1 | exact h.2.2.1 | exact (h.1.2.2 j hj4).1) (Pr' := fun H => Np E a (w.1, w.2.1, w.2.2.1, va_up gs j (w.2.2.2 j)) (va_up fss j (oss j)) H ∧ Np E b w oss H) (fun H h => ⟨h.1.2.2 j hj4, h.2.2.2 j hj4⟩) (fun q hq => hA q ⟨by have := hq.1; omega, by have := hq.2; omega⟩) (fun H H' h h1 h2 => by exact ⟨Np.grp hj4 h.1 h1.1 h2, h.2.kept (fun q hq => h2.2 q (Nat.lt_of_lt_of_le (Nat.lt_of_lt_of_le hq.2 (by omega)) (np_le h.2)) (fun z => by have := z.1; have := z.2; have := hq.1; have := hq.2; omega))⟩) (st1 := []) rfl (k1 := 0) (n1 := 0) rfl rfl ?_
        refine g_iinc hF dX6_copyFrom_46 49 rfl (1) rfl (lo' := [_, _, _]) rfl rfl ?_
        refine g_goto hF dX6_copyFrom_49 26 (by decide) ?_
        exact ih (j + 1) _ _ _ (by omega) (by omega) (nI_succ j).symm (fun g hg => if e : g = j then by subst e; exact ⟨va_up_self _ _ _, va_up_self _ _ _⟩ else by rw [va_up_ne _ _ e, va_up_ne _ _ e]; exact hs g (by omega))
  refine g_aload_n hF dX6_copyFrom_0 1 rfl rfl ?_
  refine g_aload_n hF dX6_copyFrom_1 2 rfl rfl ?_
  refine g_get hF fl_X6_22 dX6_copyFrom_2 5 rfl (by intro H h; first | exact h.1.1 | exact h.2.1) rfl ?_
  refine g_put hF pl_X6_22 dX6_copyFrom_5 8 rfl (by intro H h; first | exact h.1.1 | exact h.2.1) (Nat.le_of_ble_eq_true rfl) rfl rfl (hA _ ⟨by omega, by omega⟩) (Pr' := fun H => Np E a (w.1, v.2.1, v.2.2.1, v.2.2.2) fss H ∧ Np E b w oss H) (fun H H' h h1 h2 => by exact ⟨Np.wo w.1 v.2.1 v.2.2.1 h.1 h1 h2, kb ⟨by omega, by omega⟩ h2 h.2⟩) ?_
  refine g_aload_n hF dX6_copyFrom_8 9 rfl rfl ?_
  refine g_aload_n hF dX6_copyFrom_9 10 rfl rfl ?_
  refine g_get hF fl_X6_26 dX6_copyFrom_10 13 rfl (by intro H h; first | exact h.1.1 | exact h.2.1) rfl ?_
  refine g_put hF pl_X6_26 dX6_copyFrom_13 16 rfl (by intro H h; first | exact h.1.1 | exact h.2.1) (Nat.le_of_ble_eq_true rfl) rfl rfl (hA _ ⟨by omega, by omega⟩) (Pr' := fun H => Np E a (w.1, w.2.1, v.2.2.1, v.2.2.2) fss H ∧ Np E b w oss H) (fun H H' h h1 h2 => by exact ⟨Np.wo w.1 w.2.1 v.2.2.1 h.1 h1 h2, kb ⟨by omega, by omega⟩ h2 h.2⟩) ?_
  refine g_aload_n hF dX6_copyFrom_16 17 rfl rfl ?_
  refine g_aload_n hF dX6_copyFrom_17 18 rfl rfl ?_
  refine g_get hF fl_X6_29 dX6_copyFrom_18 21 rfl (by intro H h; first | exact h.1.1 | exact h.2.1) rfl ?_
  refine g_put hF pl_X6_29 dX6_copyFrom_21 24 rfl (by intro H h; first | exact h.1.1 | exact h.2.1) (Nat.le_of_ble_eq_true rfl) rfl rfl (hA _ ⟨by omega, by omega⟩) (Pr' := fun H => Np E a (w.1, w.2.1, w.2.2.1, v.2.2.2) fss H ∧ Np E b w oss H) (fun H H' h h1 h2 => by exact ⟨Np.wo w.1 w.2.1 w.2.2.1 h.1 h1 h2, kb ⟨by omega, by omega⟩ h2 h.2⟩) ?_
  refine g_iconst hF (0) dX6_copyFrom_24 25 rfl rfl ?_
  refine g_istore_n hF dX6_copyFrom_25 26 rfl (lo' := [_, _, _]) (Nat.le_of_ble_eq_true rfl) rfl ?_
  exact loop 5 0 0 _ _ (by omega) (by omega) nI_0.symm (fun g hg => by omega)
