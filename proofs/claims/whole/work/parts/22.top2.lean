/-! TrunkReserve: deeds -/
abbrev AS : Type := NV × (Nat → NV) × Nat × (Nat → NV) × (Nat → Nat) × (Nat → Int32) × (Nat → Int32) × (Nat → Int32) × (Nat → Int32) × Nat × Nat
def CS (E : Ev) (b : Nat) : AS → Heap → Prop
  | (v, hv, d, iv, isd, ik, bg, bl, bs, nb, sd) => Cs E b v hv d iv isd ik bg bl bs nb sd
theorem Cs.S {E : Ev} {b : Nat} {hv : Nat → NV} {v : NV} {rv : Nat → NV} {p d : Nat} {iv : Nat → NV} {isd : Nat → Nat} {ik bg bl bs : Nat → Int32} {nb sd : Nat} {wf : Nat → Int64} {wx wy : Int32} {fa fb : Int64} {tl tn ts : Nat → Int32} {tr : Int32} {H : Heap} (hr : rel rv p hv d) (h : Sx E b v rv p d iv isd ik bg bl bs nb sd wf wx wy fa fb tl tn ts tr H) : CS E b (v, hv, d, iv, isd, ik, bg, bl, bs, nb, sd) H := Cs.mk hr h
/-- the state behind a deed that makes the net w -/
def psh (w : NV) : AS → AS
  | (v, hv, d, r) => (w, pushH hv d v, pushD d, r)
def fBuild (σ : AS) (z : Int32) : Int32 × AS := if 1 ≤ z ∧ z ≤ 4 then (σ.1.1, psh (v0 z.toNatClampNeg) σ) else (-1000000002, σ)

def fShape (σ : AS) (z n a r o c : Int32) : Int32 × AS := if (z < 0 ∨ σ.1.1 ≤ z) ∨ o = z ∨ (¬ o = -1 ∧ (o < 0 ∨ σ.1.1 ≤ o)) then (-1000000001, σ) else if ¬ (1 ≤ n ∧ n ≤ 6) ∨ ¬ (0 ≤ a ∧ a ≤ 6) ∨ ¬ (0 ≤ r ∧ r ≤ n) ∨ ¬ (0 ≤ c ∧ c ≤ 3) then (-1000000002, σ) else (cnt (σ.1.2.2.2 z.toNatClampNeg) 1, psh (sShape σ.1 z.toNatClampNeg n a r o c) σ)
def fCall (σ : AS) (z : Int32) : Int32 × AS := if z < 0 ∨ σ.1.1 ≤ z then (-1000000001, σ) else (sNext σ.1.2.2.2 z.toNatClampNeg, psh (sPlace σ.1 z.toNatClampNeg) σ)
def fEnd (σ : AS) (z i : Int32) : Int32 × AS := if (z < 0 ∨ σ.1.1 ≤ z) ∨ (i < 0 ∨ σ.1.2.2.2 z.toNatClampNeg 0 ≤ i) then (-1000000001, σ) else if ¬ σ.1.2.2.2 z.toNatClampNeg (10 + 4 * i.toNatClampNeg) = 1 then (-1000000003, σ) else (σ.1.2.2.2 z.toNatClampNeg (11 + 4 * i.toNatClampNeg), psh (sEnd σ.1 z.toNatClampNeg i.toNatClampNeg) σ)
def fDam (σ : AS) (z i : Int32) : Int32 × AS := if (z < 0 ∨ σ.1.1 ≤ z) ∨ (i < 0 ∨ σ.1.2.2.2 z.toNatClampNeg 0 ≤ i) then (-1000000001, σ) else if σ.1.2.2.2 z.toNatClampNeg (10 + 4 * i.toNatClampNeg) = 2 then (-1000000003, σ) else (σ.1.2.2.2 z.toNatClampNeg (11 + 4 * i.toNatClampNeg), psh (sBrk σ.1 z.toNatClampNeg i.toNatClampNeg) σ)
def fMend (σ : AS) (z i : Int32) : Int32 × AS := if (z < 0 ∨ σ.1.1 ≤ z) ∨ (i < 0 ∨ σ.1.2.2.2 z.toNatClampNeg 0 ≤ i) then (-1000000001, σ) else if ¬ σ.1.2.2.2 z.toNatClampNeg (10 + 4 * i.toNatClampNeg) = 2 then (-1000000003, σ) else (cnt ((sEnd σ.1 z.toNatClampNeg i.toNatClampNeg).2.2.2 z.toNatClampNeg) 0, psh (sEnd σ.1 z.toNatClampNeg i.toNatClampNeg) σ)
/-- n times by draws -/
def dr1 : AS → AS
  | (v, hv, d, iv, isd, ik, bg, bl, bs, nb, sd) => ((sDr sd v).2, pushH hv d v, pushD d, iv, isd, ik, bg, bl, bs, nb, (sDr sd v).1)
def drN (σ : AS) (n : Nat) : AS := Nat.rec (motive := fun _ => AS → AS) (fun σ => σ) (fun _ f σ => f (dr1 σ)) n σ
theorem drN_succ (σ : AS) (n : Nat) : drN σ (n + 1) = drN (dr1 σ) n := rfl
theorem drN_zero (σ : AS) : drN σ 0 = σ := rfl
def fDrift (σ : AS) (z : Int32) : Int32 × AS := if 1 ≤ z ∧ z ≤ 20 then (sHeld (drN σ z.toNatClampNeg).1.2.2.2 (drN σ z.toNatClampNeg).1.1.toNatClampNeg, drN σ z.toNatClampNeg) else (-1000000002, σ)
def fUndo (σ : AS) (z : Int32) : Int32 × AS := if ¬ (1 ≤ z ∧ z ≤ 20) then (-1000000002, σ) else if ¬ z ≤ nI σ.2.2.1 then (-1000000003, σ) else ((σ.2.1 (σ.2.2.1 - z.toNatClampNeg)).2.1, (σ.2.1 (σ.2.2.1 - z.toNatClampNeg), σ.2.1, σ.2.2.1 - z.toNatClampNeg, σ.2.2.2))
/-- a number between two small ones -/
theorem btw {z : Int32} {a b : Nat} (hb : b < 2 ^ 30) (ha : a ≤ b) (h : nI a ≤ z ∧ z ≤ nI b) : ∃ n, a ≤ n ∧ n ≤ b ∧ z = nI n := by
  rcases pk_ix z (n := b + 1) (by omega) with q | q | ⟨n, q, rfl⟩
  · exact absurd (Int32.lt_of_le_of_lt (Int32.le_trans (nI_pos' (by omega)) h.1) q) (Int32.lt_irrefl (a := 0))
  · exact absurd (Int32.le_trans q h.2) (fun y => absurd (i_le y (by omega) (by omega)) (by omega))
  · exact ⟨n, i_le h.1 (by omega) (by omega), by omega, rfl⟩
set_option maxRecDepth 100000 in
set_option maxHeartbeats 16000000 in
theorem c_C_build (l : Launch) (E : Ev) (b T : Nat) (σ : AS) (hv0 : okV T σ.1) (z : Int32) : Ct l E yX9_build cX9_build 3 (some .int) (rm 6) [.ref b, .int z] (CS E b σ) (rV (some (.int (fBuild σ z).1)) (CS E b (fBuild σ z).2)) (rg b 524) := by
  refine ct_start (by decide) [some (.ref b), some (.int z), none] rfl (Nat.le_of_ble_eq_true rfl) ?_
  intro x hF hN hA hR
  obtain ⟨v, hv, d, iv, isd, ik, bg, bl, bs, nb, sd⟩ := σ
  refine g_open (fun rv p wf wx wy fa fb tl tn ts tr hr => ?_)
  dsimp only at hv0
  by_cases hz : 1 ≤ z ∧ z ≤ 4
  · obtain ⟨G, g1, g4, rfl⟩ := btw (a := 1) (b := 4) (by omega) (by omega) hz
    have e : fBuild (v, hv, d, iv, isd, ik, bg, bl, bs, nb, sd) (nI G) = (v.1, psh (v0 G) (v, hv, d, iv, isd, ik, bg, bl, bs, nb, sd)) := by unfold fBuild; rw [if_pos hz, nI_clamp (by omega)]
    rw [e] at hR
    refine g_iload_n hF dX9_build_0 1 rfl rfl ?_
    refine g_iconst hF (1) dX9_build_1 2 rfl rfl ?_
    refine g_iconst hF (4) dX9_build_2 3 rfl rfl ?_
    refine g_callS hF cs_X9_157 (c_isWithin l E (nI G) (1) (4) (Sx E b v rv p d iv isd ik bg bl bs nb sd wf wx wy fa fb tl tn ts tr) 1 ((if_pos hz).symm)) dX9_build_3 6 rfl (st := []) rfl rfl ⟨Nat.le_of_ble_eq_true rfl, Nat.le_of_ble_eq_true rfl⟩ ⟨Nat.le_of_ble_eq_true rfl, Nat.le_of_ble_eq_true rfl⟩ rfl (Nat.le_of_ble_eq_true rfl) (Pr' := _) (fun _ h => h) (fun q z => z.elim) (fun _ _ _ h _ => by exact h) (st1 := [_]) rfl (k1 := 0) (n1 := 0) rfl rfl ?_
    refine g_if_ne hF dX9_build_6 9 rfl 12 (by decide) (fun _ => ?_) (fun c => absurd c ((by decide)))
    refine g_aload_n hF dX9_build_12 13 rfl rfl ?_
    refine g_get hF fl_X9_19 dX9_build_13 16 rfl (by intro H h; first | exact h.1 | exact h.2.1.nob | exact h.2.2.1.1 | exact h.2.2.2.1 | exact h.2.2.2.2.2.1.1 | exact h.2.2.2.2.2.2.1) rfl ?_
    refine g_aload_n hF dX9_build_16 17 rfl rfl ?_
    refine g_get hF fl_X9_10 dX9_build_17 20 rfl (by intro H h; first | exact h.1 | exact h.2.1.nob | exact h.2.2.1.1 | exact h.2.2.2.1 | exact h.2.2.2.2.2.1.1 | exact h.2.2.2.2.2.2.1) rfl ?_
    refine g_callV hF cv_X9_161 (c_H_remember l E (b + 23) (b + 1) rv p d v hr.1 hr.2.1 (by omega)) dX9_build_20 23 rfl (st := []) rfl rfl ⟨Nat.le_of_ble_eq_true rfl, Nat.le_of_ble_eq_true rfl⟩ ⟨Nat.le_of_ble_eq_true rfl, Nat.le_of_ble_eq_true rfl⟩ rfl (Nat.le_of_ble_eq_true rfl) 4 rfl (by intro H h; first | exact h.1 | exact h.2.1.nob | exact h.2.2.1.1 | exact h.2.2.2.1 | exact h.2.2.2.2.2.1.1 | exact h.2.2.2.2.2.2.1) (Pr' := Sx E b v (va_up rv p v) ((p + 1) % 20) (pushD d) iv isd ik bg bl bs nb sd wf wx wy fa fb tl tn ts tr) (fun H h => ⟨h.2.2.1, h.2.1⟩) (fun q y => hA q ⟨by have := y.1; omega, by have := y.2; omega⟩) (fun H H' h h1 h2 => by exact h.h h2 (fun q y => Or.inl ⟨by have := y.1; omega, by have := y.2; omega⟩) h1.1) (st1 := []) rfl (k1 := 0) (n1 := 0) rfl rfl ?_
    refine g_aload_n hF dX9_build_23 24 rfl rfl ?_
    refine g_get hF fl_X9_10 dX9_build_24 27 rfl (by intro H h; first | exact h.1 | exact h.2.1.nob | exact h.2.2.1.1 | exact h.2.2.2.1 | exact h.2.2.2.2.2.1.1 | exact h.2.2.2.2.2.2.1) rfl ?_
    refine g_get hF fl_X9_65 dX9_build_27 30 rfl (by intro H h; first | exact h.1 | exact h.2.1.nob | exact h.2.2.1.1 | exact h.2.2.2.1 | exact h.2.2.2.2.2.1.1 | exact h.2.2.2.2.2.2.1) rfl ?_
    refine g_istore_n hF dX9_build_30 31 rfl (lo' := [_, _, _]) (Nat.le_of_ble_eq_true rfl) rfl ?_
    refine g_aload_n hF dX9_build_31 32 rfl rfl ?_
    refine g_get hF fl_X9_10 dX9_build_32 35 rfl (by intro H h; first | exact h.1 | exact h.2.1.nob | exact h.2.2.1.1 | exact h.2.2.2.1 | exact h.2.2.2.2.2.1.1 | exact h.2.2.2.2.2.2.1) rfl ?_
    refine g_iload_n hF dX9_build_35 36 rfl rfl ?_
    refine g_callV hF cv_X9_165 (q_begin l E (b + 1) v G) dX9_build_36 39 rfl (st := []) rfl rfl ⟨Nat.le_of_ble_eq_true rfl, Nat.le_of_ble_eq_true rfl⟩ ⟨Nat.le_of_ble_eq_true rfl, Nat.le_of_ble_eq_true rfl⟩ rfl (Nat.le_of_ble_eq_true rfl) 6 rfl (by intro H h; first | exact h.1 | exact h.2.1.nob | exact h.2.2.1.1 | exact h.2.2.2.1 | exact h.2.2.2.2.2.1.1 | exact h.2.2.2.2.2.2.1) (Pr' := Sx E b (v0 G) (va_up rv p v) ((p + 1) % 20) (pushD d) iv isd ik bg bl bs nb sd wf wx wy fa fb tl tn ts tr) (fun H h => h.2.1) (fun q y => hA q ⟨by have := y.1; omega, by have := y.2; omega⟩) (fun H H' h h1 h2 => by exact h.n h2 (fun q y => Or.inl ⟨by have := y.1; omega, by have := y.2; omega⟩) h1) (st1 := []) rfl (k1 := 0) (n1 := 0) rfl rfl ?_
    refine g_iload_n hF dX9_build_39 40 rfl rfl ?_
    exact g_iret hF dX9_build_40 (Nat.le_of_ble_eq_true rfl) (Nat.le_of_ble_eq_true rfl) (fun H h => hR _ _ ⟨congrArg (fun z => some (Value.int z)) (rfl), Cs.S (hr.push v) h⟩)
  · rw [show fBuild (v, hv, d, iv, isd, ik, bg, bl, bs, nb, sd) z = (-1000000002, (v, hv, d, iv, isd, ik, bg, bl, bs, nb, sd)) from if_neg hz] at hR
    refine g_iload_n hF dX9_build_0 1 rfl rfl ?_
    refine g_iconst hF (1) dX9_build_1 2 rfl rfl ?_
    refine g_iconst hF (4) dX9_build_2 3 rfl rfl ?_
    refine g_callS hF cs_X9_157 (c_isWithin l E (z) (1) (4) (Sx E b v rv p d iv isd ik bg bl bs nb sd wf wx wy fa fb tl tn ts tr) 0 ((if_neg hz).symm)) dX9_build_3 6 rfl (st := []) rfl rfl ⟨Nat.le_of_ble_eq_true rfl, Nat.le_of_ble_eq_true rfl⟩ ⟨Nat.le_of_ble_eq_true rfl, Nat.le_of_ble_eq_true rfl⟩ rfl (Nat.le_of_ble_eq_true rfl) (Pr' := _) (fun _ h => h) (fun q z => z.elim) (fun _ _ _ h _ => by exact h) (st1 := [_]) rfl (k1 := 0) (n1 := 0) rfl rfl ?_
    refine g_if_ne hF dX9_build_6 9 rfl 12 (by decide) (fun c => absurd (rfl) c) (fun _ => ?_)
    refine g_ldc hF kc_X9_95 dX9_build_9 11 rfl ?_
    exact g_iret hF dX9_build_11 (Nat.le_of_ble_eq_true rfl) (Nat.le_of_ble_eq_true rfl) (fun H h => hR _ _ ⟨congrArg (fun z => some (Value.int z)) (rfl), Cs.S hr h⟩)
set_option maxRecDepth 100000 in
set_option maxHeartbeats 16000000 in
theorem c_C_call (l : Launch) (E : Ev) (b T : Nat) (σ : AS) (hv0 : okV T σ.1) (z : Int32) : Ct l E yX9_call cX9_call 2 (some .int) (rm 6) [.ref b, .int z] (CS E b σ) (rV (some (.int (fCall σ z).1)) (CS E b (fCall σ z).2)) (rg b 524) := by
  refine ct_start (by decide) [some (.ref b), some (.int z)] rfl (Nat.le_of_ble_eq_true rfl) ?_
  intro x hF hN hA hR
  obtain ⟨v, hv, d, iv, isd, ik, bg, bl, bs, nb, sd⟩ := σ
  refine g_open (fun rv p wf wx wy fa fb tl tn ts tr hr => ?_)
  dsimp only at hv0
  obtain ⟨G, hG, G1, G4, hGc, ho, hn⟩ := okN hv0
  rcases pk_ix z (n := G) (by omega) with hz | hz | ⟨g, hg, rfl⟩
  · rw [show fCall (v, hv, d, iv, isd, ik, bg, bl, bs, nb, sd) z = (-1000000001, (v, hv, d, iv, isd, ik, bg, bl, bs, nb, sd)) from if_pos (Or.inl hz)] at hR
    refine g_aload_n hF dX9_call_0 1 rfl rfl ?_
    refine g_get hF fl_X9_10 dX9_call_1 4 rfl (by intro H h; first | exact h.1 | exact h.2.1.nob | exact h.2.2.1.1 | exact h.2.2.2.1 | exact h.2.2.2.2.2.1.1 | exact h.2.2.2.2.2.2.1 | exact Nq.go hg4 h.2.1 | exact Nq.st hg4 h.2.1) rfl ?_
    refine g_iload_n hF dX9_call_4 5 rfl rfl ?_
    refine g_callV hF cv_X9_96 (q_groupAtN l E (b + 1) v z (Or.inl hz)) dX9_call_5 8 rfl (st := []) rfl rfl ⟨Nat.le_of_ble_eq_true rfl, Nat.le_of_ble_eq_true rfl⟩ ⟨Nat.le_of_ble_eq_true rfl, Nat.le_of_ble_eq_true rfl⟩ rfl (Nat.le_of_ble_eq_true rfl) 6 rfl (by intro H h; first | exact h.1 | exact h.2.1.nob | exact h.2.2.1.1 | exact h.2.2.2.1 | exact h.2.2.2.2.2.1.1 | exact h.2.2.2.2.2.2.1 | exact Nq.go hg4 h.2.1 | exact Nq.st hg4 h.2.1) (Pr' := Sx E b v rv p d iv isd ik bg bl bs nb sd wf wx wy fa fb tl tn ts tr) (fun H h => h.2.1) (fun q z => z.elim) (fun H H' h h1 h2 => by exact h.no h2 (fun q z => z.elim)) (st1 := [_]) rfl (k1 := 0) (n1 := 0) rfl rfl ?_
    refine g_ifnonnullN hF dX9_call_8 11 rfl ?_
    refine g_ldc hF kc_X9_100 dX9_call_11 13 rfl ?_
    exact g_iret hF dX9_call_13 (Nat.le_of_ble_eq_true rfl) (Nat.le_of_ble_eq_true rfl) (fun H h => hR _ _ ⟨congrArg (fun z => some (Value.int z)) (rfl), Cs.S hr h⟩)
  · rw [show fCall (v, hv, d, iv, isd, ik, bg, bl, bs, nb, sd) z = (-1000000001, (v, hv, d, iv, isd, ik, bg, bl, bs, nb, sd)) from if_pos (Or.inr (hG ▸ hz))] at hR
    refine g_aload_n hF dX9_call_0 1 rfl rfl ?_
    refine g_get hF fl_X9_10 dX9_call_1 4 rfl (by intro H h; first | exact h.1 | exact h.2.1.nob | exact h.2.2.1.1 | exact h.2.2.2.1 | exact h.2.2.2.2.2.1.1 | exact h.2.2.2.2.2.2.1 | exact Nq.go hg4 h.2.1 | exact Nq.st hg4 h.2.1) rfl ?_
    refine g_iload_n hF dX9_call_4 5 rfl rfl ?_
    refine g_callV hF cv_X9_96 (q_groupAtN l E (b + 1) v z (Or.inr (hG ▸ hz))) dX9_call_5 8 rfl (st := []) rfl rfl ⟨Nat.le_of_ble_eq_true rfl, Nat.le_of_ble_eq_true rfl⟩ ⟨Nat.le_of_ble_eq_true rfl, Nat.le_of_ble_eq_true rfl⟩ rfl (Nat.le_of_ble_eq_true rfl) 6 rfl (by intro H h; first | exact h.1 | exact h.2.1.nob | exact h.2.2.1.1 | exact h.2.2.2.1 | exact h.2.2.2.2.2.1.1 | exact h.2.2.2.2.2.2.1 | exact Nq.go hg4 h.2.1 | exact Nq.st hg4 h.2.1) (Pr' := Sx E b v rv p d iv isd ik bg bl bs nb sd wf wx wy fa fb tl tn ts tr) (fun H h => h.2.1) (fun q z => z.elim) (fun H H' h h1 h2 => by exact h.no h2 (fun q z => z.elim)) (st1 := [_]) rfl (k1 := 0) (n1 := 0) rfl rfl ?_
    refine g_ifnonnullN hF dX9_call_8 11 rfl ?_
    refine g_ldc hF kc_X9_100 dX9_call_11 13 rfl ?_
    exact g_iret hF dX9_call_13 (Nat.le_of_ble_eq_true rfl) (Nat.le_of_ble_eq_true rfl) (fun H h => hR _ _ ⟨congrArg (fun z => some (Value.int z)) (rfl), Cs.S hr h⟩)
  · have e : fCall (v, hv, d, iv, isd, ik, bg, bl, bs, nb, sd) (nI g) = (sNext v.2.2.2 g, psh (sPlace v g) (v, hv, d, iv, isd, ik, bg, bl, bs, nb, sd)) := by unfold fCall; rw [if_neg (fun h => h.elim (nI_pos (by omega)) (fun q => absurd (i_le (hG ▸ q) (by omega) (by omega)) (by omega))), nI_clamp (by omega)]
    rw [e] at hR
    refine g_aload_n hF dX9_call_0 1 rfl rfl ?_
    refine g_get hF fl_X9_10 dX9_call_1 4 rfl (by intro H h; first | exact h.1 | exact h.2.1.nob | exact h.2.2.1.1 | exact h.2.2.2.1 | exact h.2.2.2.2.2.1.1 | exact h.2.2.2.2.2.2.1 | exact Nq.go hg4 h.2.1 | exact Nq.st hg4 h.2.1) rfl ?_
    refine g_iload_n hF dX9_call_4 5 rfl rfl ?_
    refine g_callV hF cv_X9_96 (q_groupAt l E (b + 1) v G g hG G4 hg) dX9_call_5 8 rfl (st := []) rfl rfl ⟨Nat.le_of_ble_eq_true rfl, Nat.le_of_ble_eq_true rfl⟩ ⟨Nat.le_of_ble_eq_true rfl, Nat.le_of_ble_eq_true rfl⟩ rfl (Nat.le_of_ble_eq_true rfl) 6 rfl (by intro H h; first | exact h.1 | exact h.2.1.nob | exact h.2.2.1.1 | exact h.2.2.2.1 | exact h.2.2.2.2.2.1.1 | exact h.2.2.2.2.2.2.1 | exact Nq.go hg4 h.2.1 | exact Nq.st hg4 h.2.1) (Pr' := Sx E b v rv p d iv isd ik bg bl bs nb sd wf wx wy fa fb tl tn ts tr) (fun H h => h.2.1) (fun q z => z.elim) (fun H H' h h1 h2 => by exact h.no h2 (fun q z => z.elim)) (st1 := [_]) rfl (k1 := 0) (n1 := 0) rfl rfl ?_
    refine g_ifnonnull hF dX9_call_8 14 (by decide) ?_
    refine g_aload_n hF dX9_call_14 15 rfl rfl ?_
    refine g_get hF fl_X9_19 dX9_call_15 18 rfl (by intro H h; first | exact h.1 | exact h.2.1.nob | exact h.2.2.1.1 | exact h.2.2.2.1 | exact h.2.2.2.2.2.1.1 | exact h.2.2.2.2.2.2.1 | exact Nq.go hg4 h.2.1 | exact Nq.st hg4 h.2.1) rfl ?_
    refine g_aload_n hF dX9_call_18 19 rfl rfl ?_
    refine g_get hF fl_X9_10 dX9_call_19 22 rfl (by intro H h; first | exact h.1 | exact h.2.1.nob | exact h.2.2.1.1 | exact h.2.2.2.1 | exact h.2.2.2.2.2.1.1 | exact h.2.2.2.2.2.2.1 | exact Nq.go hg4 h.2.1 | exact Nq.st hg4 h.2.1) rfl ?_
    refine g_callV hF cv_X9_161 (c_H_remember l E (b + 23) (b + 1) rv p d v hr.1 hr.2.1 (by omega)) dX9_call_22 25 rfl (st := []) rfl rfl ⟨Nat.le_of_ble_eq_true rfl, Nat.le_of_ble_eq_true rfl⟩ ⟨Nat.le_of_ble_eq_true rfl, Nat.le_of_ble_eq_true rfl⟩ rfl (Nat.le_of_ble_eq_true rfl) 4 rfl (by intro H h; first | exact h.1 | exact h.2.1.nob | exact h.2.2.1.1 | exact h.2.2.2.1 | exact h.2.2.2.2.2.1.1 | exact h.2.2.2.2.2.2.1 | exact Nq.go hg4 h.2.1 | exact Nq.st hg4 h.2.1) (Pr' := Sx E b v (va_up rv p v) ((p + 1) % 20) (pushD d) iv isd ik bg bl bs nb sd wf wx wy fa fb tl tn ts tr) (fun H h => ⟨h.2.2.1, h.2.1⟩) (fun q y => hA q ⟨by have := y.1; omega, by have := y.2; omega⟩) (fun H H' h h1 h2 => by exact h.h h2 (fun q y => Or.inl ⟨by have := y.1; omega, by have := y.2; omega⟩) h1.1) (st1 := []) rfl (k1 := 0) (n1 := 0) rfl rfl ?_
    refine g_aload_n hF dX9_call_25 26 rfl rfl ?_
    refine g_get hF fl_X9_10 dX9_call_26 29 rfl (by intro H h; first | exact h.1 | exact h.2.1.nob | exact h.2.2.1.1 | exact h.2.2.2.1 | exact h.2.2.2.2.2.1.1 | exact h.2.2.2.2.2.2.1 | exact Nq.go hg4 h.2.1 | exact Nq.st hg4 h.2.1) rfl ?_
    refine g_iload_n hF dX9_call_29 30 rfl rfl ?_
    refine g_callV hF cv_X9_175 (q_placeCall l E (b + 1) v T G g hv0 hG G4 hg) dX9_call_30 33 rfl (st := []) rfl rfl ⟨Nat.le_of_ble_eq_true rfl, Nat.le_of_ble_eq_true rfl⟩ ⟨Nat.le_of_ble_eq_true rfl, Nat.le_of_ble_eq_true rfl⟩ rfl (Nat.le_of_ble_eq_true rfl) 6 rfl (by intro H h; first | exact h.1 | exact h.2.1.nob | exact h.2.2.1.1 | exact h.2.2.2.1 | exact h.2.2.2.2.2.1.1 | exact h.2.2.2.2.2.2.1 | exact Nq.go hg4 h.2.1 | exact Nq.st hg4 h.2.1) (Pr' := Sx E b (sPlace v g) (va_up rv p v) ((p + 1) % 20) (pushD d) iv isd ik bg bl bs nb sd wf wx wy fa fb tl tn ts tr) (fun H h => h.2.1) (fun q y => hA q ⟨by have := y.1; omega, by have := y.2; omega⟩) (fun H H' h h1 h2 => by exact h.n h2 (fun q y => Or.inl ⟨by have := y.1; omega, by have := y.2; omega⟩) h1) (st1 := [_]) rfl (k1 := 0) (n1 := 0) rfl rfl ?_
    exact g_iret hF dX9_call_33 (Nat.le_of_ble_eq_true rfl) (Nat.le_of_ble_eq_true rfl) (fun H h => hR _ _ ⟨congrArg (fun z => some (Value.int z)) (rfl), Cs.S (hr.push v) h⟩)
set_option maxRecDepth 100000 in
set_option maxHeartbeats 16000000 in
theorem c_C_end (l : Launch) (E : Ev) (b T : Nat) (σ : AS) (hv0 : okV T σ.1) (z i : Int32) : Ct l E yX9_end cX9_end 4 (some .int) (rm 6) [.ref b, .int z, .int i] (CS E b σ) (rV (some (.int (fEnd σ z i).1)) (CS E b (fEnd σ z i).2)) (rg b 524) := by
  refine ct_start (by decide) [some (.ref b), some (.int z), some (.int i), none] rfl (Nat.le_of_ble_eq_true rfl) ?_
  intro x hF hN hA hR
  obtain ⟨v, hv, d, iv, isd, ik, bg, bl, bs, nb, sd⟩ := σ
  refine g_open (fun rv p wf wx wy fa fb tl tn ts tr hr => ?_)
  dsimp only at hv0
  rcases line_cases hv0 z i with ⟨h1, G, hG, G4, h2⟩ | ⟨G, g, N, t, hG, G4, hg, rfl, n0, n6, ht, rfl, hno⟩
  · rw [show fEnd (v, hv, d, iv, isd, ik, bg, bl, bs, nb, sd) z i = (-1000000001, (v, hv, d, iv, isd, ik, bg, bl, bs, nb, sd)) from if_pos h1] at hR
    refine g_aload_n hF dX9_end_0 1 rfl rfl ?_
    refine g_get hF fl_X9_10 dX9_end_1 4 rfl (by intro H h; first | exact h.1 | exact h.2.1.nob | exact h.2.2.1.1 | exact h.2.2.2.1 | exact h.2.2.2.2.2.1.1 | exact h.2.2.2.2.2.2.1 | exact Nq.go hg4 h.2.1 | exact Nq.st hg4 h.2.1) rfl ?_
    refine g_iload_n hF dX9_end_4 5 rfl rfl ?_
    refine g_iload_n hF dX9_end_5 6 rfl rfl ?_
    refine g_callV hF cv_X9_143 (q_gwlN l E (b + 1) v G z i hG G4 h2) dX9_end_6 9 rfl (st := []) rfl rfl ⟨Nat.le_of_ble_eq_true rfl, Nat.le_of_ble_eq_true rfl⟩ ⟨Nat.le_of_ble_eq_true rfl, Nat.le_of_ble_eq_true rfl⟩ rfl (Nat.le_of_ble_eq_true rfl) 6 rfl (by intro H h; first | exact h.1 | exact h.2.1.nob | exact h.2.2.1.1 | exact h.2.2.2.1 | exact h.2.2.2.2.2.1.1 | exact h.2.2.2.2.2.2.1 | exact Nq.go hg4 h.2.1 | exact Nq.st hg4 h.2.1) (Pr' := Sx E b v rv p d iv isd ik bg bl bs nb sd wf wx wy fa fb tl tn ts tr) (fun H h => h.2.1) (fun q z => z.elim) (fun H H' h h1 h2 => by exact h.no h2 (fun q z => z.elim)) (st1 := [_]) rfl (k1 := 0) (n1 := 0) rfl rfl ?_
    refine g_astore_nN hF dX9_end_9 10 rfl (lo' := [_, _, _, _]) (Nat.le_of_ble_eq_true rfl) rfl ?_
    refine g_aload_nN hF dX9_end_10 11 rfl rfl ?_
    refine g_ifnonnullN hF dX9_end_11 14 rfl ?_
    refine g_ldc hF kc_X9_100 dX9_end_14 16 rfl ?_
    exact g_iret hF dX9_end_16 (Nat.le_of_ble_eq_true rfl) (Nat.le_of_ble_eq_true rfl) (fun H h => hR _ _ ⟨congrArg (fun z => some (Value.int z)) (rfl), Cs.S hr h⟩)
  · have hg4 : g < 4 := by omega
    have hct : (nI t).toNatClampNeg = t := nI_clamp (by omega)
    have e : fEnd (v, hv, d, iv, isd, ik, bg, bl, bs, nb, sd) (nI g) (nI t) = if ¬ v.2.2.2 g (10 + 4 * t) = 1 then (-1000000003, (v, hv, d, iv, isd, ik, bg, bl, bs, nb, sd)) else (v.2.2.2 g (11 + 4 * t), psh (sEnd v g t) (v, hv, d, iv, isd, ik, bg, bl, bs, nb, sd)) := by unfold fEnd; dsimp only; rw [if_neg hno, hct, nI_clamp (by omega)]
    by_cases hc : v.2.2.2 g (10 + 4 * t) = 1
    · rw [e, if_neg (fun q => q hc)] at hR
      refine g_aload_n hF dX9_end_0 1 rfl rfl ?_
      refine g_get hF fl_X9_10 dX9_end_1 4 rfl (by intro H h; first | exact h.1 | exact h.2.1.nob | exact h.2.2.1.1 | exact h.2.2.2.1 | exact h.2.2.2.2.2.1.1 | exact h.2.2.2.2.2.2.1 | exact Nq.go hg4 h.2.1 | exact Nq.st hg4 h.2.1) rfl ?_
      refine g_iload_n hF dX9_end_4 5 rfl rfl ?_
      refine g_iload_n hF dX9_end_5 6 rfl rfl ?_
      refine g_callV hF cv_X9_143 (q_gwl l E (b + 1) v G g N t hG G4 hg n0 n6 ht) dX9_end_6 9 rfl (st := []) rfl rfl ⟨Nat.le_of_ble_eq_true rfl, Nat.le_of_ble_eq_true rfl⟩ ⟨Nat.le_of_ble_eq_true rfl, Nat.le_of_ble_eq_true rfl⟩ rfl (Nat.le_of_ble_eq_true rfl) 6 rfl (by intro H h; first | exact h.1 | exact h.2.1.nob | exact h.2.2.1.1 | exact h.2.2.2.1 | exact h.2.2.2.2.2.1.1 | exact h.2.2.2.2.2.2.1 | exact Nq.go hg4 h.2.1 | exact Nq.st hg4 h.2.1) (Pr' := Sx E b v rv p d iv isd ik bg bl bs nb sd wf wx wy fa fb tl tn ts tr) (fun H h => h.2.1) (fun q z => z.elim) (fun H H' h h1 h2 => by exact h.no h2 (fun q z => z.elim)) (st1 := [_]) rfl (k1 := 0) (n1 := 0) rfl rfl ?_
      refine g_astore_n hF dX9_end_9 10 rfl (lo' := [_, _, _, _]) (Nat.le_of_ble_eq_true rfl) rfl ?_
      refine g_aload_n hF dX9_end_10 11 rfl rfl ?_
      refine g_ifnonnull hF dX9_end_11 17 (by decide) ?_
      refine g_aload_n hF dX9_end_17 18 rfl rfl ?_
      refine g_get hF fl_X9_147 dX9_end_18 21 rfl (by intro H h; first | exact h.1 | exact h.2.1.nob | exact h.2.2.1.1 | exact h.2.2.2.1 | exact h.2.2.2.2.2.1.1 | exact h.2.2.2.2.2.2.1 | exact Nq.go hg4 h.2.1 | exact Nq.st hg4 h.2.1) rfl ?_
      refine g_iload_n hF dX9_end_21 22 rfl rfl ?_
      refine g_iald hF dX9_end_22 23 rfl (by intro H h; first | exact h.1 | exact h.2.1.nob | exact h.2.2.1.1 | exact h.2.2.2.1 | exact h.2.2.2.2.2.1.1 | exact h.2.2.2.2.2.2.1 | exact Nq.go hg4 h.2.1 | exact Nq.st hg4 h.2.1) (vp_in_nI (show t < 6 by omega) (by omega)) ?_
      rw [hct]
      refine g_iconst hF (1) dX9_end_23 24 rfl rfl ?_
      refine g_icmp_eq hF dX9_end_24 27 rfl 30 (by decide) (fun _ => ?_) (fun c => absurd (hc) c)
      refine g_aload_n hF dX9_end_30 31 rfl rfl ?_
      refine g_get hF fl_X9_19 dX9_end_31 34 rfl (by intro H h; first | exact h.1 | exact h.2.1.nob | exact h.2.2.1.1 | exact h.2.2.2.1 | exact h.2.2.2.2.2.1.1 | exact h.2.2.2.2.2.2.1 | exact Nq.go hg4 h.2.1 | exact Nq.st hg4 h.2.1) rfl ?_
      refine g_aload_n hF dX9_end_34 35 rfl rfl ?_
      refine g_get hF fl_X9_10 dX9_end_35 38 rfl (by intro H h; first | exact h.1 | exact h.2.1.nob | exact h.2.2.1.1 | exact h.2.2.2.1 | exact h.2.2.2.2.2.1.1 | exact h.2.2.2.2.2.2.1 | exact Nq.go hg4 h.2.1 | exact Nq.st hg4 h.2.1) rfl ?_
      refine g_callV hF cv_X9_161 (c_H_remember l E (b + 23) (b + 1) rv p d v hr.1 hr.2.1 (by omega)) dX9_end_38 41 rfl (st := []) rfl rfl ⟨Nat.le_of_ble_eq_true rfl, Nat.le_of_ble_eq_true rfl⟩ ⟨Nat.le_of_ble_eq_true rfl, Nat.le_of_ble_eq_true rfl⟩ rfl (Nat.le_of_ble_eq_true rfl) 4 rfl (by intro H h; first | exact h.1 | exact h.2.1.nob | exact h.2.2.1.1 | exact h.2.2.2.1 | exact h.2.2.2.2.2.1.1 | exact h.2.2.2.2.2.2.1 | exact Nq.go hg4 h.2.1 | exact Nq.st hg4 h.2.1) (Pr' := Sx E b v (va_up rv p v) ((p + 1) % 20) (pushD d) iv isd ik bg bl bs nb sd wf wx wy fa fb tl tn ts tr) (fun H h => ⟨h.2.2.1, h.2.1⟩) (fun q y => hA q ⟨by have := y.1; omega, by have := y.2; omega⟩) (fun H H' h h1 h2 => by exact h.h h2 (fun q y => Or.inl ⟨by have := y.1; omega, by have := y.2; omega⟩) h1.1) (st1 := []) rfl (k1 := 0) (n1 := 0) rfl rfl ?_
      refine g_aload_n hF dX9_end_41 42 rfl rfl ?_
      refine g_get hF fl_X9_10 dX9_end_42 45 rfl (by intro H h; first | exact h.1 | exact h.2.1.nob | exact h.2.2.1.1 | exact h.2.2.2.1 | exact h.2.2.2.2.2.1.1 | exact h.2.2.2.2.2.2.1 | exact Nq.go hg4 h.2.1 | exact Nq.st hg4 h.2.1) rfl ?_
      refine g_aload_n hF dX9_end_45 46 rfl rfl ?_
      refine g_iload_n hF dX9_end_46 47 rfl rfl ?_
      refine g_callV hF cv_X9_179 (q_endCall l E (b + 1) v T g t hv0 hg4 (by omega)) dX9_end_47 50 rfl (st := []) rfl rfl ⟨Nat.le_of_ble_eq_true rfl, Nat.le_of_ble_eq_true rfl⟩ ⟨Nat.le_of_ble_eq_true rfl, Nat.le_of_ble_eq_true rfl⟩ rfl (Nat.le_of_ble_eq_true rfl) 6 rfl (by intro H h; first | exact h.1 | exact h.2.1.nob | exact h.2.2.1.1 | exact h.2.2.2.1 | exact h.2.2.2.2.2.1.1 | exact h.2.2.2.2.2.2.1 | exact Nq.go hg4 h.2.1 | exact Nq.st hg4 h.2.1) (Pr' := Sx E b (sEnd v g t) (va_up rv p v) ((p + 1) % 20) (pushD d) iv isd ik bg bl bs nb sd wf wx wy fa fb tl tn ts tr) (fun H h => h.2.1) (fun q y => hA q ⟨by have := y.1; omega, by have := y.2; omega⟩) (fun H H' h h1 h2 => by exact h.n h2 (fun q y => Or.inl ⟨by have := y.1; omega, by have := y.2; omega⟩) h1) (st1 := [_]) rfl (k1 := 0) (n1 := 0) rfl rfl ?_
      exact g_iret hF dX9_end_50 (Nat.le_of_ble_eq_true rfl) (Nat.le_of_ble_eq_true rfl) (fun H h => hR _ _ ⟨congrArg (fun z => some (Value.int z)) (rfl), Cs.S (hr.push v) h⟩)
    · rw [e, if_pos hc] at hR
      refine g_aload_n hF dX9_end_0 1 rfl rfl ?_
      refine g_get hF fl_X9_10 dX9_end_1 4 rfl (by intro H h; first | exact h.1 | exact h.2.1.nob | exact h.2.2.1.1 | exact h.2.2.2.1 | exact h.2.2.2.2.2.1.1 | exact h.2.2.2.2.2.2.1 | exact Nq.go hg4 h.2.1 | exact Nq.st hg4 h.2.1) rfl ?_
      refine g_iload_n hF dX9_end_4 5 rfl rfl ?_
      refine g_iload_n hF dX9_end_5 6 rfl rfl ?_
      refine g_callV hF cv_X9_143 (q_gwl l E (b + 1) v G g N t hG G4 hg n0 n6 ht) dX9_end_6 9 rfl (st := []) rfl rfl ⟨Nat.le_of_ble_eq_true rfl, Nat.le_of_ble_eq_true rfl⟩ ⟨Nat.le_of_ble_eq_true rfl, Nat.le_of_ble_eq_true rfl⟩ rfl (Nat.le_of_ble_eq_true rfl) 6 rfl (by intro H h; first | exact h.1 | exact h.2.1.nob | exact h.2.2.1.1 | exact h.2.2.2.1 | exact h.2.2.2.2.2.1.1 | exact h.2.2.2.2.2.2.1 | exact Nq.go hg4 h.2.1 | exact Nq.st hg4 h.2.1) (Pr' := Sx E b v rv p d iv isd ik bg bl bs nb sd wf wx wy fa fb tl tn ts tr) (fun H h => h.2.1) (fun q z => z.elim) (fun H H' h h1 h2 => by exact h.no h2 (fun q z => z.elim)) (st1 := [_]) rfl (k1 := 0) (n1 := 0) rfl rfl ?_
      refine g_astore_n hF dX9_end_9 10 rfl (lo' := [_, _, _, _]) (Nat.le_of_ble_eq_true rfl) rfl ?_
      refine g_aload_n hF dX9_end_10 11 rfl rfl ?_
      refine g_ifnonnull hF dX9_end_11 17 (by decide) ?_
      refine g_aload_n hF dX9_end_17 18 rfl rfl ?_
      refine g_get hF fl_X9_147 dX9_end_18 21 rfl (by intro H h; first | exact h.1 | exact h.2.1.nob | exact h.2.2.1.1 | exact h.2.2.2.1 | exact h.2.2.2.2.2.1.1 | exact h.2.2.2.2.2.2.1 | exact Nq.go hg4 h.2.1 | exact Nq.st hg4 h.2.1) rfl ?_
      refine g_iload_n hF dX9_end_21 22 rfl rfl ?_
      refine g_iald hF dX9_end_22 23 rfl (by intro H h; first | exact h.1 | exact h.2.1.nob | exact h.2.2.1.1 | exact h.2.2.2.1 | exact h.2.2.2.2.2.1.1 | exact h.2.2.2.2.2.2.1 | exact Nq.go hg4 h.2.1 | exact Nq.st hg4 h.2.1) (vp_in_nI (show t < 6 by omega) (by omega)) ?_
      rw [hct]
      refine g_iconst hF (1) dX9_end_23 24 rfl rfl ?_
      refine g_icmp_eq hF dX9_end_24 27 rfl 30 (by decide) (fun c => absurd c (hc)) (fun _ => ?_)
      refine g_ldc hF kc_X9_178 dX9_end_27 29 rfl ?_
      exact g_iret hF dX9_end_29 (Nat.le_of_ble_eq_true rfl) (Nat.le_of_ble_eq_true rfl) (fun H h => hR _ _ ⟨congrArg (fun z => some (Value.int z)) (rfl), Cs.S hr h⟩)
set_option maxRecDepth 100000 in
set_option maxHeartbeats 16000000 in
theorem c_C_damage (l : Launch) (E : Ev) (b T : Nat) (σ : AS) (hv0 : okV T σ.1) (z i : Int32) : Ct l E yX9_damage cX9_damage 4 (some .int) (rm 6) [.ref b, .int z, .int i] (CS E b σ) (rV (some (.int (fDam σ z i).1)) (CS E b (fDam σ z i).2)) (rg b 524) := by
  refine ct_start (by decide) [some (.ref b), some (.int z), some (.int i), none] rfl (Nat.le_of_ble_eq_true rfl) ?_
  intro x hF hN hA hR
  obtain ⟨v, hv, d, iv, isd, ik, bg, bl, bs, nb, sd⟩ := σ
  refine g_open (fun rv p wf wx wy fa fb tl tn ts tr hr => ?_)
  dsimp only at hv0
  rcases line_cases hv0 z i with ⟨h1, G, hG, G4, h2⟩ | ⟨G, g, N, t, hG, G4, hg, rfl, n0, n6, ht, rfl, hno⟩
  · rw [show fDam (v, hv, d, iv, isd, ik, bg, bl, bs, nb, sd) z i = (-1000000001, (v, hv, d, iv, isd, ik, bg, bl, bs, nb, sd)) from if_pos h1] at hR
    refine g_aload_n hF dX9_damage_0 1 rfl rfl ?_
    refine g_get hF fl_X9_10 dX9_damage_1 4 rfl (by intro H h; first | exact h.1 | exact h.2.1.nob | exact h.2.2.1.1 | exact h.2.2.2.1 | exact h.2.2.2.2.2.1.1 | exact h.2.2.2.2.2.2.1 | exact Nq.go hg4 h.2.1 | exact Nq.st hg4 h.2.1) rfl ?_
    refine g_iload_n hF dX9_damage_4 5 rfl rfl ?_
    refine g_iload_n hF dX9_damage_5 6 rfl rfl ?_
    refine g_callV hF cv_X9_143 (q_gwlN l E (b + 1) v G z i hG G4 h2) dX9_damage_6 9 rfl (st := []) rfl rfl ⟨Nat.le_of_ble_eq_true rfl, Nat.le_of_ble_eq_true rfl⟩ ⟨Nat.le_of_ble_eq_true rfl, Nat.le_of_ble_eq_true rfl⟩ rfl (Nat.le_of_ble_eq_true rfl) 6 rfl (by intro H h; first | exact h.1 | exact h.2.1.nob | exact h.2.2.1.1 | exact h.2.2.2.1 | exact h.2.2.2.2.2.1.1 | exact h.2.2.2.2.2.2.1 | exact Nq.go hg4 h.2.1 | exact Nq.st hg4 h.2.1) (Pr' := Sx E b v rv p d iv isd ik bg bl bs nb sd wf wx wy fa fb tl tn ts tr) (fun H h => h.2.1) (fun q z => z.elim) (fun H H' h h1 h2 => by exact h.no h2 (fun q z => z.elim)) (st1 := [_]) rfl (k1 := 0) (n1 := 0) rfl rfl ?_
    refine g_astore_nN hF dX9_damage_9 10 rfl (lo' := [_, _, _, _]) (Nat.le_of_ble_eq_true rfl) rfl ?_
    refine g_aload_nN hF dX9_damage_10 11 rfl rfl ?_
    refine g_ifnonnullN hF dX9_damage_11 14 rfl ?_
    refine g_ldc hF kc_X9_100 dX9_damage_14 16 rfl ?_
    exact g_iret hF dX9_damage_16 (Nat.le_of_ble_eq_true rfl) (Nat.le_of_ble_eq_true rfl) (fun H h => hR _ _ ⟨congrArg (fun z => some (Value.int z)) (rfl), Cs.S hr h⟩)
  · have hg4 : g < 4 := by omega
    have hct : (nI t).toNatClampNeg = t := nI_clamp (by omega)
    have e : fDam (v, hv, d, iv, isd, ik, bg, bl, bs, nb, sd) (nI g) (nI t) = if v.2.2.2 g (10 + 4 * t) = 2 then (-1000000003, (v, hv, d, iv, isd, ik, bg, bl, bs, nb, sd)) else (v.2.2.2 g (11 + 4 * t), psh (sBrk v g t) (v, hv, d, iv, isd, ik, bg, bl, bs, nb, sd)) := by unfold fDam; dsimp only; rw [if_neg hno, hct, nI_clamp (by omega)]
    by_cases hc : v.2.2.2 g (10 + 4 * t) = 2
    · rw [e, if_pos hc] at hR
      refine g_aload_n hF dX9_damage_0 1 rfl rfl ?_
      refine g_get hF fl_X9_10 dX9_damage_1 4 rfl (by intro H h; first | exact h.1 | exact h.2.1.nob | exact h.2.2.1.1 | exact h.2.2.2.1 | exact h.2.2.2.2.2.1.1 | exact h.2.2.2.2.2.2.1 | exact Nq.go hg4 h.2.1 | exact Nq.st hg4 h.2.1) rfl ?_
      refine g_iload_n hF dX9_damage_4 5 rfl rfl ?_
      refine g_iload_n hF dX9_damage_5 6 rfl rfl ?_
      refine g_callV hF cv_X9_143 (q_gwl l E (b + 1) v G g N t hG G4 hg n0 n6 ht) dX9_damage_6 9 rfl (st := []) rfl rfl ⟨Nat.le_of_ble_eq_true rfl, Nat.le_of_ble_eq_true rfl⟩ ⟨Nat.le_of_ble_eq_true rfl, Nat.le_of_ble_eq_true rfl⟩ rfl (Nat.le_of_ble_eq_true rfl) 6 rfl (by intro H h; first | exact h.1 | exact h.2.1.nob | exact h.2.2.1.1 | exact h.2.2.2.1 | exact h.2.2.2.2.2.1.1 | exact h.2.2.2.2.2.2.1 | exact Nq.go hg4 h.2.1 | exact Nq.st hg4 h.2.1) (Pr' := Sx E b v rv p d iv isd ik bg bl bs nb sd wf wx wy fa fb tl tn ts tr) (fun H h => h.2.1) (fun q z => z.elim) (fun H H' h h1 h2 => by exact h.no h2 (fun q z => z.elim)) (st1 := [_]) rfl (k1 := 0) (n1 := 0) rfl rfl ?_
      refine g_astore_n hF dX9_damage_9 10 rfl (lo' := [_, _, _, _]) (Nat.le_of_ble_eq_true rfl) rfl ?_
      refine g_aload_n hF dX9_damage_10 11 rfl rfl ?_
      refine g_ifnonnull hF dX9_damage_11 17 (by decide) ?_
      refine g_aload_n hF dX9_damage_17 18 rfl rfl ?_
      refine g_get hF fl_X9_147 dX9_damage_18 21 rfl (by intro H h; first | exact h.1 | exact h.2.1.nob | exact h.2.2.1.1 | exact h.2.2.2.1 | exact h.2.2.2.2.2.1.1 | exact h.2.2.2.2.2.2.1 | exact Nq.go hg4 h.2.1 | exact Nq.st hg4 h.2.1) rfl ?_
      refine g_iload_n hF dX9_damage_21 22 rfl rfl ?_
      refine g_iald hF dX9_damage_22 23 rfl (by intro H h; first | exact h.1 | exact h.2.1.nob | exact h.2.2.1.1 | exact h.2.2.2.1 | exact h.2.2.2.2.2.1.1 | exact h.2.2.2.2.2.2.1 | exact Nq.go hg4 h.2.1 | exact Nq.st hg4 h.2.1) (vp_in_nI (show t < 6 by omega) (by omega)) ?_
      rw [hct]
      refine g_iconst hF (2) dX9_damage_23 24 rfl rfl ?_
      refine g_icmp_ne hF dX9_damage_24 27 rfl 30 (by decide) (fun c => absurd (hc) c) (fun _ => ?_)
      refine g_ldc hF kc_X9_178 dX9_damage_27 29 rfl ?_
      exact g_iret hF dX9_damage_29 (Nat.le_of_ble_eq_true rfl) (Nat.le_of_ble_eq_true rfl) (fun H h => hR _ _ ⟨congrArg (fun z => some (Value.int z)) (rfl), Cs.S hr h⟩)
    · rw [e, if_neg hc] at hR
      refine g_aload_n hF dX9_damage_0 1 rfl rfl ?_
      refine g_get hF fl_X9_10 dX9_damage_1 4 rfl (by intro H h; first | exact h.1 | exact h.2.1.nob | exact h.2.2.1.1 | exact h.2.2.2.1 | exact h.2.2.2.2.2.1.1 | exact h.2.2.2.2.2.2.1 | exact Nq.go hg4 h.2.1 | exact Nq.st hg4 h.2.1) rfl ?_
      refine g_iload_n hF dX9_damage_4 5 rfl rfl ?_
      refine g_iload_n hF dX9_damage_5 6 rfl rfl ?_
      refine g_callV hF cv_X9_143 (q_gwl l E (b + 1) v G g N t hG G4 hg n0 n6 ht) dX9_damage_6 9 rfl (st := []) rfl rfl ⟨Nat.le_of_ble_eq_true rfl, Nat.le_of_ble_eq_true rfl⟩ ⟨Nat.le_of_ble_eq_true rfl, Nat.le_of_ble_eq_true rfl⟩ rfl (Nat.le_of_ble_eq_true rfl) 6 rfl (by intro H h; first | exact h.1 | exact h.2.1.nob | exact h.2.2.1.1 | exact h.2.2.2.1 | exact h.2.2.2.2.2.1.1 | exact h.2.2.2.2.2.2.1 | exact Nq.go hg4 h.2.1 | exact Nq.st hg4 h.2.1) (Pr' := Sx E b v rv p d iv isd ik bg bl bs nb sd wf wx wy fa fb tl tn ts tr) (fun H h => h.2.1) (fun q z => z.elim) (fun H H' h h1 h2 => by exact h.no h2 (fun q z => z.elim)) (st1 := [_]) rfl (k1 := 0) (n1 := 0) rfl rfl ?_
      refine g_astore_n hF dX9_damage_9 10 rfl (lo' := [_, _, _, _]) (Nat.le_of_ble_eq_true rfl) rfl ?_
      refine g_aload_n hF dX9_damage_10 11 rfl rfl ?_
      refine g_ifnonnull hF dX9_damage_11 17 (by decide) ?_
      refine g_aload_n hF dX9_damage_17 18 rfl rfl ?_
      refine g_get hF fl_X9_147 dX9_damage_18 21 rfl (by intro H h; first | exact h.1 | exact h.2.1.nob | exact h.2.2.1.1 | exact h.2.2.2.1 | exact h.2.2.2.2.2.1.1 | exact h.2.2.2.2.2.2.1 | exact Nq.go hg4 h.2.1 | exact Nq.st hg4 h.2.1) rfl ?_
      refine g_iload_n hF dX9_damage_21 22 rfl rfl ?_
      refine g_iald hF dX9_damage_22 23 rfl (by intro H h; first | exact h.1 | exact h.2.1.nob | exact h.2.2.1.1 | exact h.2.2.2.1 | exact h.2.2.2.2.2.1.1 | exact h.2.2.2.2.2.2.1 | exact Nq.go hg4 h.2.1 | exact Nq.st hg4 h.2.1) (vp_in_nI (show t < 6 by omega) (by omega)) ?_
      rw [hct]
      refine g_iconst hF (2) dX9_damage_23 24 rfl rfl ?_
      refine g_icmp_ne hF dX9_damage_24 27 rfl 30 (by decide) (fun _ => ?_) (fun c => absurd c (hc))
      refine g_aload_n hF dX9_damage_30 31 rfl rfl ?_
      refine g_get hF fl_X9_19 dX9_damage_31 34 rfl (by intro H h; first | exact h.1 | exact h.2.1.nob | exact h.2.2.1.1 | exact h.2.2.2.1 | exact h.2.2.2.2.2.1.1 | exact h.2.2.2.2.2.2.1 | exact Nq.go hg4 h.2.1 | exact Nq.st hg4 h.2.1) rfl ?_
      refine g_aload_n hF dX9_damage_34 35 rfl rfl ?_
      refine g_get hF fl_X9_10 dX9_damage_35 38 rfl (by intro H h; first | exact h.1 | exact h.2.1.nob | exact h.2.2.1.1 | exact h.2.2.2.1 | exact h.2.2.2.2.2.1.1 | exact h.2.2.2.2.2.2.1 | exact Nq.go hg4 h.2.1 | exact Nq.st hg4 h.2.1) rfl ?_
      refine g_callV hF cv_X9_161 (c_H_remember l E (b + 23) (b + 1) rv p d v hr.1 hr.2.1 (by omega)) dX9_damage_38 41 rfl (st := []) rfl rfl ⟨Nat.le_of_ble_eq_true rfl, Nat.le_of_ble_eq_true rfl⟩ ⟨Nat.le_of_ble_eq_true rfl, Nat.le_of_ble_eq_true rfl⟩ rfl (Nat.le_of_ble_eq_true rfl) 4 rfl (by intro H h; first | exact h.1 | exact h.2.1.nob | exact h.2.2.1.1 | exact h.2.2.2.1 | exact h.2.2.2.2.2.1.1 | exact h.2.2.2.2.2.2.1 | exact Nq.go hg4 h.2.1 | exact Nq.st hg4 h.2.1) (Pr' := Sx E b v (va_up rv p v) ((p + 1) % 20) (pushD d) iv isd ik bg bl bs nb sd wf wx wy fa fb tl tn ts tr) (fun H h => ⟨h.2.2.1, h.2.1⟩) (fun q y => hA q ⟨by have := y.1; omega, by have := y.2; omega⟩) (fun H H' h h1 h2 => by exact h.h h2 (fun q y => Or.inl ⟨by have := y.1; omega, by have := y.2; omega⟩) h1.1) (st1 := []) rfl (k1 := 0) (n1 := 0) rfl rfl ?_
      refine g_aload_n hF dX9_damage_41 42 rfl rfl ?_
      refine g_get hF fl_X9_10 dX9_damage_42 45 rfl (by intro H h; first | exact h.1 | exact h.2.1.nob | exact h.2.2.1.1 | exact h.2.2.2.1 | exact h.2.2.2.2.2.1.1 | exact h.2.2.2.2.2.2.1 | exact Nq.go hg4 h.2.1 | exact Nq.st hg4 h.2.1) rfl ?_
      refine g_aload_n hF dX9_damage_45 46 rfl rfl ?_
      refine g_iload_n hF dX9_damage_46 47 rfl rfl ?_
      refine g_callV hF cv_X9_183 (q_breakLine l E (b + 1) v T g t hv0 hg4 (by omega)) dX9_damage_47 50 rfl (st := []) rfl rfl ⟨Nat.le_of_ble_eq_true rfl, Nat.le_of_ble_eq_true rfl⟩ ⟨Nat.le_of_ble_eq_true rfl, Nat.le_of_ble_eq_true rfl⟩ rfl (Nat.le_of_ble_eq_true rfl) 6 rfl (by intro H h; first | exact h.1 | exact h.2.1.nob | exact h.2.2.1.1 | exact h.2.2.2.1 | exact h.2.2.2.2.2.1.1 | exact h.2.2.2.2.2.2.1 | exact Nq.go hg4 h.2.1 | exact Nq.st hg4 h.2.1) (Pr' := Sx E b (sBrk v g t) (va_up rv p v) ((p + 1) % 20) (pushD d) iv isd ik bg bl bs nb sd wf wx wy fa fb tl tn ts tr) (fun H h => h.2.1) (fun q y => hA q ⟨by have := y.1; omega, by have := y.2; omega⟩) (fun H H' h h1 h2 => by exact h.n h2 (fun q y => Or.inl ⟨by have := y.1; omega, by have := y.2; omega⟩) h1) (st1 := [_]) rfl (k1 := 0) (n1 := 0) rfl rfl ?_
      exact g_iret hF dX9_damage_50 (Nat.le_of_ble_eq_true rfl) (Nat.le_of_ble_eq_true rfl) (fun H h => hR _ _ ⟨congrArg (fun z => some (Value.int z)) (rfl), Cs.S (hr.push v) h⟩)
set_option maxRecDepth 100000 in
set_option maxHeartbeats 16000000 in
theorem c_C_mend (l : Launch) (E : Ev) (b T : Nat) (σ : AS) (hv0 : okV T σ.1) (z i : Int32) : Ct l E yX9_mend cX9_mend 4 (some .int) (rm 6) [.ref b, .int z, .int i] (CS E b σ) (rV (some (.int (fMend σ z i).1)) (CS E b (fMend σ z i).2)) (rg b 524) := by
  refine ct_start (by decide) [some (.ref b), some (.int z), some (.int i), none] rfl (Nat.le_of_ble_eq_true rfl) ?_
  intro x hF hN hA hR
  obtain ⟨v, hv, d, iv, isd, ik, bg, bl, bs, nb, sd⟩ := σ
  refine g_open (fun rv p wf wx wy fa fb tl tn ts tr hr => ?_)
  dsimp only at hv0
  rcases line_cases hv0 z i with ⟨h1, G, hG, G4, h2⟩ | ⟨G, g, N, t, hG, G4, hg, rfl, n0, n6, ht, rfl, hno⟩
  · rw [show fMend (v, hv, d, iv, isd, ik, bg, bl, bs, nb, sd) z i = (-1000000001, (v, hv, d, iv, isd, ik, bg, bl, bs, nb, sd)) from if_pos h1] at hR
    refine g_aload_n hF dX9_mend_0 1 rfl rfl ?_
    refine g_get hF fl_X9_10 dX9_mend_1 4 rfl (by intro H h; first | exact h.1 | exact h.2.1.nob | exact h.2.2.1.1 | exact h.2.2.2.1 | exact h.2.2.2.2.2.1.1 | exact h.2.2.2.2.2.2.1 | exact Nq.go hg4 h.2.1 | exact Nq.st hg4 h.2.1) rfl ?_
    refine g_iload_n hF dX9_mend_4 5 rfl rfl ?_
    refine g_iload_n hF dX9_mend_5 6 rfl rfl ?_
    refine g_callV hF cv_X9_143 (q_gwlN l E (b + 1) v G z i hG G4 h2) dX9_mend_6 9 rfl (st := []) rfl rfl ⟨Nat.le_of_ble_eq_true rfl, Nat.le_of_ble_eq_true rfl⟩ ⟨Nat.le_of_ble_eq_true rfl, Nat.le_of_ble_eq_true rfl⟩ rfl (Nat.le_of_ble_eq_true rfl) 6 rfl (by intro H h; first | exact h.1 | exact h.2.1.nob | exact h.2.2.1.1 | exact h.2.2.2.1 | exact h.2.2.2.2.2.1.1 | exact h.2.2.2.2.2.2.1 | exact Nq.go hg4 h.2.1 | exact Nq.st hg4 h.2.1) (Pr' := Sx E b v rv p d iv isd ik bg bl bs nb sd wf wx wy fa fb tl tn ts tr) (fun H h => h.2.1) (fun q z => z.elim) (fun H H' h h1 h2 => by exact h.no h2 (fun q z => z.elim)) (st1 := [_]) rfl (k1 := 0) (n1 := 0) rfl rfl ?_
    refine g_astore_nN hF dX9_mend_9 10 rfl (lo' := [_, _, _, _]) (Nat.le_of_ble_eq_true rfl) rfl ?_
    refine g_aload_nN hF dX9_mend_10 11 rfl rfl ?_
    refine g_ifnonnullN hF dX9_mend_11 14 rfl ?_
    refine g_ldc hF kc_X9_100 dX9_mend_14 16 rfl ?_
    exact g_iret hF dX9_mend_16 (Nat.le_of_ble_eq_true rfl) (Nat.le_of_ble_eq_true rfl) (fun H h => hR _ _ ⟨congrArg (fun z => some (Value.int z)) (rfl), Cs.S hr h⟩)
  · have hg4 : g < 4 := by omega
    have hct : (nI t).toNatClampNeg = t := nI_clamp (by omega)
    have e : fMend (v, hv, d, iv, isd, ik, bg, bl, bs, nb, sd) (nI g) (nI t) = if ¬ v.2.2.2 g (10 + 4 * t) = 2 then (-1000000003, (v, hv, d, iv, isd, ik, bg, bl, bs, nb, sd)) else (cnt ((sEnd v g t).2.2.2 g) 0, psh (sEnd v g t) (v, hv, d, iv, isd, ik, bg, bl, bs, nb, sd)) := by unfold fMend; dsimp only; rw [if_neg hno, hct, nI_clamp (by omega)]
    by_cases hc : v.2.2.2 g (10 + 4 * t) = 2
    · rw [e, if_neg (fun q => q hc)] at hR
      have hn1 : (sEnd v g t).2.2.2 g 0 = nI N := by
        show va_up v.2.2.2 g (upd (gLet (v.2.2.2 g) t 0) (13 + 4 * t) (v.2.1 + 1)) g 0 = nI N
        rw [va_up_self]
        unfold gLet
        rw [pk_un (by omega), pk_un (by omega), pk_un (by omega), pk_un (by omega)]
        exact n0
      refine g_aload_n hF dX9_mend_0 1 rfl rfl ?_
      refine g_get hF fl_X9_10 dX9_mend_1 4 rfl (by intro H h; first | exact h.1 | exact h.2.1.nob | exact h.2.2.1.1 | exact h.2.2.2.1 | exact h.2.2.2.2.2.1.1 | exact h.2.2.2.2.2.2.1 | exact Nq.go hg4 h.2.1 | exact Nq.st hg4 h.2.1) rfl ?_
      refine g_iload_n hF dX9_mend_4 5 rfl rfl ?_
      refine g_iload_n hF dX9_mend_5 6 rfl rfl ?_
      refine g_callV hF cv_X9_143 (q_gwl l E (b + 1) v G g N t hG G4 hg n0 n6 ht) dX9_mend_6 9 rfl (st := []) rfl rfl ⟨Nat.le_of_ble_eq_true rfl, Nat.le_of_ble_eq_true rfl⟩ ⟨Nat.le_of_ble_eq_true rfl, Nat.le_of_ble_eq_true rfl⟩ rfl (Nat.le_of_ble_eq_true rfl) 6 rfl (by intro H h; first | exact h.1 | exact h.2.1.nob | exact h.2.2.1.1 | exact h.2.2.2.1 | exact h.2.2.2.2.2.1.1 | exact h.2.2.2.2.2.2.1 | exact Nq.go hg4 h.2.1 | exact Nq.st hg4 h.2.1) (Pr' := Sx E b v rv p d iv isd ik bg bl bs nb sd wf wx wy fa fb tl tn ts tr) (fun H h => h.2.1) (fun q z => z.elim) (fun H H' h h1 h2 => by exact h.no h2 (fun q z => z.elim)) (st1 := [_]) rfl (k1 := 0) (n1 := 0) rfl rfl ?_
      refine g_astore_n hF dX9_mend_9 10 rfl (lo' := [_, _, _, _]) (Nat.le_of_ble_eq_true rfl) rfl ?_
      refine g_aload_n hF dX9_mend_10 11 rfl rfl ?_
      refine g_ifnonnull hF dX9_mend_11 17 (by decide) ?_
      refine g_aload_n hF dX9_mend_17 18 rfl rfl ?_
      refine g_get hF fl_X9_147 dX9_mend_18 21 rfl (by intro H h; first | exact h.1 | exact h.2.1.nob | exact h.2.2.1.1 | exact h.2.2.2.1 | exact h.2.2.2.2.2.1.1 | exact h.2.2.2.2.2.2.1 | exact Nq.go hg4 h.2.1 | exact Nq.st hg4 h.2.1) rfl ?_
      refine g_iload_n hF dX9_mend_21 22 rfl rfl ?_
      refine g_iald hF dX9_mend_22 23 rfl (by intro H h; first | exact h.1 | exact h.2.1.nob | exact h.2.2.1.1 | exact h.2.2.2.1 | exact h.2.2.2.2.2.1.1 | exact h.2.2.2.2.2.2.1 | exact Nq.go hg4 h.2.1 | exact Nq.st hg4 h.2.1) (vp_in_nI (show t < 6 by omega) (by omega)) ?_
      rw [hct]
      refine g_iconst hF (2) dX9_mend_23 24 rfl rfl ?_
      refine g_icmp_eq hF dX9_mend_24 27 rfl 30 (by decide) (fun _ => ?_) (fun c => absurd (hc) c)
      refine g_aload_n hF dX9_mend_30 31 rfl rfl ?_
      refine g_get hF fl_X9_19 dX9_mend_31 34 rfl (by intro H h; first | exact h.1 | exact h.2.1.nob | exact h.2.2.1.1 | exact h.2.2.2.1 | exact h.2.2.2.2.2.1.1 | exact h.2.2.2.2.2.2.1 | exact Nq.go hg4 h.2.1 | exact Nq.st hg4 h.2.1) rfl ?_
      refine g_aload_n hF dX9_mend_34 35 rfl rfl ?_
      refine g_get hF fl_X9_10 dX9_mend_35 38 rfl (by intro H h; first | exact h.1 | exact h.2.1.nob | exact h.2.2.1.1 | exact h.2.2.2.1 | exact h.2.2.2.2.2.1.1 | exact h.2.2.2.2.2.2.1 | exact Nq.go hg4 h.2.1 | exact Nq.st hg4 h.2.1) rfl ?_
      refine g_callV hF cv_X9_161 (c_H_remember l E (b + 23) (b + 1) rv p d v hr.1 hr.2.1 (by omega)) dX9_mend_38 41 rfl (st := []) rfl rfl ⟨Nat.le_of_ble_eq_true rfl, Nat.le_of_ble_eq_true rfl⟩ ⟨Nat.le_of_ble_eq_true rfl, Nat.le_of_ble_eq_true rfl⟩ rfl (Nat.le_of_ble_eq_true rfl) 4 rfl (by intro H h; first | exact h.1 | exact h.2.1.nob | exact h.2.2.1.1 | exact h.2.2.2.1 | exact h.2.2.2.2.2.1.1 | exact h.2.2.2.2.2.2.1 | exact Nq.go hg4 h.2.1 | exact Nq.st hg4 h.2.1) (Pr' := Sx E b v (va_up rv p v) ((p + 1) % 20) (pushD d) iv isd ik bg bl bs nb sd wf wx wy fa fb tl tn ts tr) (fun H h => ⟨h.2.2.1, h.2.1⟩) (fun q y => hA q ⟨by have := y.1; omega, by have := y.2; omega⟩) (fun H H' h h1 h2 => by exact h.h h2 (fun q y => Or.inl ⟨by have := y.1; omega, by have := y.2; omega⟩) h1.1) (st1 := []) rfl (k1 := 0) (n1 := 0) rfl rfl ?_
      refine g_aload_n hF dX9_mend_41 42 rfl rfl ?_
      refine g_get hF fl_X9_10 dX9_mend_42 45 rfl (by intro H h; first | exact h.1 | exact h.2.1.nob | exact h.2.2.1.1 | exact h.2.2.2.1 | exact h.2.2.2.2.2.1.1 | exact h.2.2.2.2.2.2.1 | exact Nq.go hg4 h.2.1 | exact Nq.st hg4 h.2.1) rfl ?_
      refine g_aload_n hF dX9_mend_45 46 rfl rfl ?_
      refine g_iload_n hF dX9_mend_46 47 rfl rfl ?_
      refine g_callV hF cv_X9_186 (q_mendLine l E (b + 1) v T g t hv0 hg4 (by omega)) dX9_mend_47 50 rfl (st := []) rfl rfl ⟨Nat.le_of_ble_eq_true rfl, Nat.le_of_ble_eq_true rfl⟩ ⟨Nat.le_of_ble_eq_true rfl, Nat.le_of_ble_eq_true rfl⟩ rfl (Nat.le_of_ble_eq_true rfl) 6 rfl (by intro H h; first | exact h.1 | exact h.2.1.nob | exact h.2.2.1.1 | exact h.2.2.2.1 | exact h.2.2.2.2.2.1.1 | exact h.2.2.2.2.2.2.1 | exact Nq.go hg4 h.2.1 | exact Nq.st hg4 h.2.1) (Pr' := Sx E b (sEnd v g t) (va_up rv p v) ((p + 1) % 20) (pushD d) iv isd ik bg bl bs nb sd wf wx wy fa fb tl tn ts tr) (fun H h => h.2.1) (fun q y => hA q ⟨by have := y.1; omega, by have := y.2; omega⟩) (fun H H' h h1 h2 => by exact h.n h2 (fun q y => Or.inl ⟨by have := y.1; omega, by have := y.2; omega⟩) h1) (st1 := []) rfl (k1 := 0) (n1 := 0) rfl rfl ?_
      refine g_aload_n hF dX9_mend_50 51 rfl rfl ?_
      refine g_iconst hF (0) dX9_mend_51 52 rfl rfl ?_
      refine g_callV hF cv_X9_169 (q_count l E (b + 1) (sEnd v g t) 0 g N hg4 hn1 n6) dX9_mend_52 55 rfl (st := []) rfl rfl ⟨Nat.le_of_ble_eq_true rfl, Nat.le_of_ble_eq_true rfl⟩ ⟨Nat.le_of_ble_eq_true rfl, Nat.le_of_ble_eq_true rfl⟩ rfl (Nat.le_of_ble_eq_true rfl) 3 rfl (by intro H h; first | exact h.1 | exact h.2.1.nob | exact h.2.2.1.1 | exact h.2.2.2.1 | exact h.2.2.2.2.2.1.1 | exact h.2.2.2.2.2.2.1 | exact Nq.go hg4 h.2.1 | exact Nq.st hg4 h.2.1) (Pr' := Sx E b (sEnd v g t) (va_up rv p v) ((p + 1) % 20) (pushD d) iv isd ik bg bl bs nb sd wf wx wy fa fb tl tn ts tr) (fun H h => h.2.1) (fun q z => z.elim) (fun H H' h h1 h2 => by exact h.no h2 (fun q z => z.elim)) (st1 := [_]) rfl (k1 := 0) (n1 := 0) rfl rfl ?_
      exact g_iret hF dX9_mend_55 (Nat.le_of_ble_eq_true rfl) (Nat.le_of_ble_eq_true rfl) (fun H h => hR _ _ ⟨congrArg (fun z => some (Value.int z)) (rfl), Cs.S (hr.push v) h⟩)
    · rw [e, if_pos hc] at hR
      refine g_aload_n hF dX9_mend_0 1 rfl rfl ?_
      refine g_get hF fl_X9_10 dX9_mend_1 4 rfl (by intro H h; first | exact h.1 | exact h.2.1.nob | exact h.2.2.1.1 | exact h.2.2.2.1 | exact h.2.2.2.2.2.1.1 | exact h.2.2.2.2.2.2.1 | exact Nq.go hg4 h.2.1 | exact Nq.st hg4 h.2.1) rfl ?_
      refine g_iload_n hF dX9_mend_4 5 rfl rfl ?_
      refine g_iload_n hF dX9_mend_5 6 rfl rfl ?_
      refine g_callV hF cv_X9_143 (q_gwl l E (b + 1) v G g N t hG G4 hg n0 n6 ht) dX9_mend_6 9 rfl (st := []) rfl rfl ⟨Nat.le_of_ble_eq_true rfl, Nat.le_of_ble_eq_true rfl⟩ ⟨Nat.le_of_ble_eq_true rfl, Nat.le_of_ble_eq_true rfl⟩ rfl (Nat.le_of_ble_eq_true rfl) 6 rfl (by intro H h; first | exact h.1 | exact h.2.1.nob | exact h.2.2.1.1 | exact h.2.2.2.1 | exact h.2.2.2.2.2.1.1 | exact h.2.2.2.2.2.2.1 | exact Nq.go hg4 h.2.1 | exact Nq.st hg4 h.2.1) (Pr' := Sx E b v rv p d iv isd ik bg bl bs nb sd wf wx wy fa fb tl tn ts tr) (fun H h => h.2.1) (fun q z => z.elim) (fun H H' h h1 h2 => by exact h.no h2 (fun q z => z.elim)) (st1 := [_]) rfl (k1 := 0) (n1 := 0) rfl rfl ?_
      refine g_astore_n hF dX9_mend_9 10 rfl (lo' := [_, _, _, _]) (Nat.le_of_ble_eq_true rfl) rfl ?_
      refine g_aload_n hF dX9_mend_10 11 rfl rfl ?_
      refine g_ifnonnull hF dX9_mend_11 17 (by decide) ?_
      refine g_aload_n hF dX9_mend_17 18 rfl rfl ?_
      refine g_get hF fl_X9_147 dX9_mend_18 21 rfl (by intro H h; first | exact h.1 | exact h.2.1.nob | exact h.2.2.1.1 | exact h.2.2.2.1 | exact h.2.2.2.2.2.1.1 | exact h.2.2.2.2.2.2.1 | exact Nq.go hg4 h.2.1 | exact Nq.st hg4 h.2.1) rfl ?_
      refine g_iload_n hF dX9_mend_21 22 rfl rfl ?_
      refine g_iald hF dX9_mend_22 23 rfl (by intro H h; first | exact h.1 | exact h.2.1.nob | exact h.2.2.1.1 | exact h.2.2.2.1 | exact h.2.2.2.2.2.1.1 | exact h.2.2.2.2.2.2.1 | exact Nq.go hg4 h.2.1 | exact Nq.st hg4 h.2.1) (vp_in_nI (show t < 6 by omega) (by omega)) ?_
      rw [hct]
      refine g_iconst hF (2) dX9_mend_23 24 rfl rfl ?_
      refine g_icmp_eq hF dX9_mend_24 27 rfl 30 (by decide) (fun c => absurd c (hc)) (fun _ => ?_)
      refine g_ldc hF kc_X9_178 dX9_mend_27 29 rfl ?_
      exact g_iret hF dX9_mend_29 (Nat.le_of_ble_eq_true rfl) (Nat.le_of_ble_eq_true rfl) (fun H h => hR _ _ ⟨congrArg (fun z => some (Value.int z)) (rfl), Cs.S hr h⟩)
set_option maxRecDepth 100000 in
set_option maxHeartbeats 16000000 in
theorem c_C_drift (l : Launch) (E : Ev) (b T : Nat) (σ : AS) (hT : T + 20 < 2 ^ 30) (hv0 : okV T σ.1) (hs : σ.2.2.2.2.2.2.2.2.2.2 < 2 ^ 31) (z : Int32) : Ct l E yX9_drift cX9_drift 3 (some .int) (rm 7) [.ref b, .int z] (CS E b σ) (rV (some (.int (fDrift σ z).1)) (CS E b (fDrift σ z).2)) (rg b 524) := by
  refine ct_start (by decide) [some (.ref b), some (.int z), none] rfl (Nat.le_of_ble_eq_true rfl) ?_
  intro x hF hN hA hR
  obtain ⟨v, hv, d, iv, isd, ik, bg, bl, bs, nb, sd⟩ := σ
  refine g_open (fun rv p wf wx wy fa fb tl tn ts tr hr => ?_)
  dsimp only at hv0
  dsimp only at hs
  by_cases hz : 1 ≤ z ∧ z ≤ 20
  · obtain ⟨m, m1, m20, rfl⟩ := btw (a := 1) (b := 20) (by omega) (by omega) hz
    obtain ⟨σf, ef⟩ : ∃ q, q = drN (v, hv, d, iv, isd, ik, bg, bl, bs, nb, sd) m := ⟨_, rfl⟩
    rw [show fDrift (v, hv, d, iv, isd, ik, bg, bl, bs, nb, sd) (nI m) = (sHeld σf.1.2.2.2 σf.1.1.toNatClampNeg, σf) by unfold fDrift; rw [if_pos hz, nI_clamp (by omega), ← ef]] at hR
    have loop : ∀ (n j : Nat) (i : Int32) (v : NV) (hv : Nat → NV) (d sd : Nat) (rv : Nat → NV) (p : Nat), m - j < n → j ≤ m → i = nI j → rel rv p hv d → okV (T + j) v → sd < 2 ^ 31 → σf = drN (v, hv, d, iv, isd, ik, bg, bl, bs, nb, sd) (m - j) → go l (rm 7) E x 0 0 (Sx E b v rv p d iv isd ik bg bl bs nb sd wf wx wy fa fb tl tn ts tr) [some (.ref b), some (.int (nI m)), some (.int i)] 15 [] := by
      intro n
      induction n with
      | zero => intro j i v hv d sd rv p h; omega
      | succ n ih =>
        intro j i v hv d sd rv p hn0 hj hi hr hv0 hs hf
        subst hi
        by_cases hlt : j < m
        · rw [show m - j = (m - (j + 1)) + 1 by omega, drN_succ, show dr1 (v, hv, d, iv, isd, ik, bg, bl, bs, nb, sd) = ((sDr sd v).2, pushH hv d v, pushD d, iv, isd, ik, bg, bl, bs, nb, (sDr sd v).1) from rfl] at hf
          refine g_iload_n hF dX9_drift_15 16 rfl rfl ?_
          refine g_iload_n hF dX9_drift_16 17 rfl rfl ?_
          refine g_icmp_ge hF dX9_drift_17 20 rfl 48 (by decide) (fun c => absurd c (fun z => absurd (i_le z (by omega) (by omega)) (by omega))) (fun _ => ?_)
          refine g_aload_n hF dX9_drift_20 21 rfl rfl ?_
          refine g_get hF fl_X9_19 dX9_drift_21 24 rfl (by intro H h; first | exact h.1 | exact h.2.1.nob | exact h.2.2.1.1 | exact h.2.2.2.1 | exact h.2.2.2.2.2.1.1 | exact h.2.2.2.2.2.2.1 | exact Nq.go hg4 h.2.1 | exact Nq.st hg4 h.2.1) rfl ?_
          refine g_aload_n hF dX9_drift_24 25 rfl rfl ?_
          refine g_get hF fl_X9_10 dX9_drift_25 28 rfl (by intro H h; first | exact h.1 | exact h.2.1.nob | exact h.2.2.1.1 | exact h.2.2.2.1 | exact h.2.2.2.2.2.1.1 | exact h.2.2.2.2.2.2.1 | exact Nq.go hg4 h.2.1 | exact Nq.st hg4 h.2.1) rfl ?_
          refine g_callV hF cv_X9_161 (c_H_remember l E (b + 23) (b + 1) rv p d v hr.1 hr.2.1 (by omega)) dX9_drift_28 31 rfl (st := []) rfl rfl ⟨Nat.le_of_ble_eq_true rfl, Nat.le_of_ble_eq_true rfl⟩ ⟨Nat.le_of_ble_eq_true rfl, Nat.le_of_ble_eq_true rfl⟩ rfl (Nat.le_of_ble_eq_true rfl) 4 rfl (by intro H h; first | exact h.1 | exact h.2.1.nob | exact h.2.2.1.1 | exact h.2.2.2.1 | exact h.2.2.2.2.2.1.1 | exact h.2.2.2.2.2.2.1 | exact Nq.go hg4 h.2.1 | exact Nq.st hg4 h.2.1) (Pr' := Sx E b v (va_up rv p v) ((p + 1) % 20) (pushD d) iv isd ik bg bl bs nb sd wf wx wy fa fb tl tn ts tr) (fun H h => ⟨h.2.2.1, h.2.1⟩) (fun q y => hA q ⟨by have := y.1; omega, by have := y.2; omega⟩) (fun H H' h h1 h2 => by exact h.h h2 (fun q y => Or.inl ⟨by have := y.1; omega, by have := y.2; omega⟩) h1.1) (st1 := []) rfl (k1 := 0) (n1 := 0) rfl rfl ?_
          refine g_aload_n hF dX9_drift_31 32 rfl rfl ?_
          refine g_get hF fl_X9_40 dX9_drift_32 35 rfl (by intro H h; first | exact h.1 | exact h.2.1.nob | exact h.2.2.1.1 | exact h.2.2.2.1 | exact h.2.2.2.2.2.1.1 | exact h.2.2.2.2.2.2.1 | exact Nq.go hg4 h.2.1 | exact Nq.st hg4 h.2.1) rfl ?_
          refine g_aload_n hF dX9_drift_35 36 rfl rfl ?_
          refine g_get hF fl_X9_10 dX9_drift_36 39 rfl (by intro H h; first | exact h.1 | exact h.2.1.nob | exact h.2.2.1.1 | exact h.2.2.2.1 | exact h.2.2.2.2.2.1.1 | exact h.2.2.2.2.2.2.1 | exact Nq.go hg4 h.2.1 | exact Nq.st hg4 h.2.1) rfl ?_
          refine g_callV hF cv_X9_190 (q_driftOnce l E (b + 1) v (b + 516) sd (T + j) hs hv0 (fun y => by have := y.1; have := y.2; omega)) dX9_drift_39 42 rfl (st := []) rfl rfl ⟨Nat.le_of_ble_eq_true rfl, Nat.le_of_ble_eq_true rfl⟩ ⟨Nat.le_of_ble_eq_true rfl, Nat.le_of_ble_eq_true rfl⟩ rfl (Nat.le_of_ble_eq_true rfl) 1 rfl (by intro H h; first | exact h.1 | exact h.2.1.nob | exact h.2.2.1.1 | exact h.2.2.2.1 | exact h.2.2.2.2.2.1.1 | exact h.2.2.2.2.2.2.1 | exact Nq.go hg4 h.2.1 | exact Nq.st hg4 h.2.1) (Pr' := Sx E b (sDr sd v).2 (va_up rv p v) ((p + 1) % 20) (pushD d) iv isd ik bg bl bs nb (sDr sd v).1 wf wx wy fa fb tl tn ts tr) (fun H h => ⟨h.2.2.2.2.2.2.1, h.2.1⟩) (fun q y => hA q (y.elim (fun e => ⟨by omega, by omega⟩) (fun y => ⟨by have := y.1; omega, by have := y.2; omega⟩))) (fun H H' h h1 h2 => by exact h.nd h2 (fun q y => y.elim (fun e => Or.inr ⟨by omega, by omega⟩) (fun y => Or.inl ⟨by have := y.1; omega, by have := y.2; omega⟩)) h1.2 h1.1) (st1 := []) rfl (k1 := 0) (n1 := 0) rfl rfl ?_
          refine g_iinc hF dX9_drift_42 45 rfl (1) rfl (lo' := [_, _, _]) rfl rfl ?_
          refine g_goto hF dX9_drift_45 15 (by decide) ?_
          exact ih (j + 1) _ _ _ _ _ _ _ (by omega) (by omega) (nI_succ j).symm (hr.push v) (hv0.sDr (by omega)) (sDr_lt _ _) hf
        · have hm : m - j = 0 := by omega
          rw [hm, drN_zero] at hf
          subst hf
          refine g_iload_n hF dX9_drift_15 16 rfl rfl ?_
          refine g_iload_n hF dX9_drift_16 17 rfl rfl ?_
          refine g_icmp_ge hF dX9_drift_17 20 rfl 48 (by decide) (fun _ => ?_) (fun c => absurd (nI_le (by omega) (by omega)) c)
          refine g_aload_n hF dX9_drift_48 49 rfl rfl ?_
          refine g_get hF fl_X9_10 dX9_drift_49 52 rfl (by intro H h; first | exact h.1 | exact h.2.1.nob | exact h.2.2.1.1 | exact h.2.2.2.1 | exact h.2.2.2.2.2.1.1 | exact h.2.2.2.2.2.2.1 | exact Nq.go hg4 h.2.1 | exact Nq.st hg4 h.2.1) rfl ?_
          refine g_callV hF cv_X9_75 (q_heldLines l E (b + 1) v (T + j) hv0) dX9_drift_52 55 rfl (st := []) rfl rfl ⟨Nat.le_of_ble_eq_true rfl, Nat.le_of_ble_eq_true rfl⟩ ⟨Nat.le_of_ble_eq_true rfl, Nat.le_of_ble_eq_true rfl⟩ rfl (Nat.le_of_ble_eq_true rfl) 6 rfl (by intro H h; first | exact h.1 | exact h.2.1.nob | exact h.2.2.1.1 | exact h.2.2.2.1 | exact h.2.2.2.2.2.1.1 | exact h.2.2.2.2.2.2.1 | exact Nq.go hg4 h.2.1 | exact Nq.st hg4 h.2.1) (Pr' := Sx E b v rv p d iv isd ik bg bl bs nb sd wf wx wy fa fb tl tn ts tr) (fun H h => h.2.1) (fun q z => z.elim) (fun H H' h h1 h2 => by exact h.no h2 (fun q z => z.elim)) (st1 := [_]) rfl (k1 := 0) (n1 := 0) rfl rfl ?_
          exact g_iret hF dX9_drift_55 (Nat.le_of_ble_eq_true rfl) (Nat.le_of_ble_eq_true rfl) (fun H h => hR _ _ ⟨congrArg (fun z => some (Value.int z)) (rfl), Cs.S hr h⟩)
    refine g_iload_n hF dX9_drift_0 1 rfl rfl ?_
    refine g_iconst hF (1) dX9_drift_1 2 rfl rfl ?_
    refine g_bipush hF (20) dX9_drift_2 4 rfl rfl ?_
    refine g_callS hF cs_X9_157 (c_isWithin l E (nI m) (1) (20) (Sx E b v rv p d iv isd ik bg bl bs nb sd wf wx wy fa fb tl tn ts tr) 1 ((if_pos hz).symm)) dX9_drift_4 7 rfl (st := []) rfl rfl ⟨Nat.le_of_ble_eq_true rfl, Nat.le_of_ble_eq_true rfl⟩ ⟨Nat.le_of_ble_eq_true rfl, Nat.le_of_ble_eq_true rfl⟩ rfl (Nat.le_of_ble_eq_true rfl) (Pr' := _) (fun _ h => h) (fun q z => z.elim) (fun _ _ _ h _ => by exact h) (st1 := [_]) rfl (k1 := 0) (n1 := 0) rfl rfl ?_
    refine g_if_ne hF dX9_drift_7 10 rfl 13 (by decide) (fun _ => ?_) (fun c => absurd c ((by decide)))
    refine g_iconst hF (0) dX9_drift_13 14 rfl rfl ?_
    refine g_istore_n hF dX9_drift_14 15 rfl (lo' := [_, _, _]) (Nat.le_of_ble_eq_true rfl) rfl ?_
    exact loop (m + 1) 0 0 _ _ _ _ _ _ (by omega) (by omega) nI_0.symm hr hv0 hs ef
  · rw [show fDrift (v, hv, d, iv, isd, ik, bg, bl, bs, nb, sd) z = (-1000000002, (v, hv, d, iv, isd, ik, bg, bl, bs, nb, sd)) from if_neg hz] at hR
    refine g_iload_n hF dX9_drift_0 1 rfl rfl ?_
    refine g_iconst hF (1) dX9_drift_1 2 rfl rfl ?_
    refine g_bipush hF (20) dX9_drift_2 4 rfl rfl ?_
    refine g_callS hF cs_X9_157 (c_isWithin l E (z) (1) (20) (Sx E b v rv p d iv isd ik bg bl bs nb sd wf wx wy fa fb tl tn ts tr) 0 ((if_neg hz).symm)) dX9_drift_4 7 rfl (st := []) rfl rfl ⟨Nat.le_of_ble_eq_true rfl, Nat.le_of_ble_eq_true rfl⟩ ⟨Nat.le_of_ble_eq_true rfl, Nat.le_of_ble_eq_true rfl⟩ rfl (Nat.le_of_ble_eq_true rfl) (Pr' := _) (fun _ h => h) (fun q z => z.elim) (fun _ _ _ h _ => by exact h) (st1 := [_]) rfl (k1 := 0) (n1 := 0) rfl rfl ?_
    refine g_if_ne hF dX9_drift_7 10 rfl 13 (by decide) (fun c => absurd (rfl) c) (fun _ => ?_)
    refine g_ldc hF kc_X9_95 dX9_drift_10 12 rfl ?_
    exact g_iret hF dX9_drift_12 (Nat.le_of_ble_eq_true rfl) (Nat.le_of_ble_eq_true rfl) (fun H h => hR _ _ ⟨congrArg (fun z => some (Value.int z)) (rfl), Cs.S hr h⟩)
set_option maxRecDepth 100000 in
set_option maxHeartbeats 16000000 in
theorem c_C_undo (l : Launch) (E : Ev) (b T : Nat) (σ : AS) (hv0 : okV T σ.1) (z : Int32) : Ct l E yX9_undo cX9_undo 2 (some .int) (rm 6) [.ref b, .int z] (CS E b σ) (rV (some (.int (fUndo σ z).1)) (CS E b (fUndo σ z).2)) (rg b 524) := by
  refine ct_start (by decide) [some (.ref b), some (.int z)] rfl (Nat.le_of_ble_eq_true rfl) ?_
  intro x hF hN hA hR
  obtain ⟨v, hv, d, iv, isd, ik, bg, bl, bs, nb, sd⟩ := σ
  refine g_open (fun rv p wf wx wy fa fb tl tn ts tr hr => ?_)
  dsimp only at hv0
  by_cases hz : 1 ≤ z ∧ z ≤ 20
  · obtain ⟨m, m1, m20, rfl⟩ := btw (a := 1) (b := 20) (by omega) (by omega) hz
    have hd := hr.2.1
    by_cases hm : m ≤ d
    · have e : fUndo (v, hv, d, iv, isd, ik, bg, bl, bs, nb, sd) (nI m) = ((hv (d - m)).2.1, (hv (d - m), hv, d - m, iv, isd, ik, bg, bl, bs, nb, sd)) := by unfold fUndo; dsimp only; rw [if_neg (fun q => q hz), if_neg (fun q => q (nI_le hm (by omega))), nI_clamp (by omega)]
      rw [e] at hR
      obtain ⟨hr2, hr3⟩ := hr.back hm
      refine g_iload_n hF dX9_undo_0 1 rfl rfl ?_
      refine g_iconst hF (1) dX9_undo_1 2 rfl rfl ?_
      refine g_bipush hF (20) dX9_undo_2 4 rfl rfl ?_
      refine g_callS hF cs_X9_157 (c_isWithin l E (nI m) (1) (20) (Sx E b v rv p d iv isd ik bg bl bs nb sd wf wx wy fa fb tl tn ts tr) 1 ((if_pos hz).symm)) dX9_undo_4 7 rfl (st := []) rfl rfl ⟨Nat.le_of_ble_eq_true rfl, Nat.le_of_ble_eq_true rfl⟩ ⟨Nat.le_of_ble_eq_true rfl, Nat.le_of_ble_eq_true rfl⟩ rfl (Nat.le_of_ble_eq_true rfl) (Pr' := _) (fun _ h => h) (fun q z => z.elim) (fun _ _ _ h _ => by exact h) (st1 := [_]) rfl (k1 := 0) (n1 := 0) rfl rfl ?_
      refine g_if_ne hF dX9_undo_7 10 rfl 13 (by decide) (fun _ => ?_) (fun c => absurd c ((by decide)))
      refine g_iload_n hF dX9_undo_13 14 rfl rfl ?_
      refine g_aload_n hF dX9_undo_14 15 rfl rfl ?_
      refine g_get hF fl_X9_19 dX9_undo_15 18 rfl (by intro H h; first | exact h.1 | exact h.2.1.nob | exact h.2.2.1.1 | exact h.2.2.2.1 | exact h.2.2.2.2.2.1.1 | exact h.2.2.2.2.2.2.1 | exact Nq.go hg4 h.2.1 | exact Nq.st hg4 h.2.1) rfl ?_
      refine g_get hF fl_X9_94 dX9_undo_18 21 rfl (by intro H h; first | exact h.1 | exact h.2.1.nob | exact h.2.2.1.1 | exact h.2.2.2.1 | exact h.2.2.2.2.2.1.1 | exact h.2.2.2.2.2.2.1 | exact Nq.go hg4 h.2.1 | exact Nq.st hg4 h.2.1) rfl ?_
      refine g_icmp_le hF dX9_undo_21 24 rfl 27 (by decide) (fun _ => ?_) (fun c => absurd (nI_le hm (by omega)) c)
      refine g_aload_n hF dX9_undo_27 28 rfl rfl ?_
      refine g_get hF fl_X9_19 dX9_undo_28 31 rfl (by intro H h; first | exact h.1 | exact h.2.1.nob | exact h.2.2.1.1 | exact h.2.2.2.1 | exact h.2.2.2.2.2.1.1 | exact h.2.2.2.2.2.2.1 | exact Nq.go hg4 h.2.1 | exact Nq.st hg4 h.2.1) rfl ?_
      refine g_iload_n hF dX9_undo_31 32 rfl rfl ?_
      refine g_aload_n hF dX9_undo_32 33 rfl rfl ?_
      refine g_get hF fl_X9_10 dX9_undo_33 36 rfl (by intro H h; first | exact h.1 | exact h.2.1.nob | exact h.2.2.1.1 | exact h.2.2.2.1 | exact h.2.2.2.2.2.1.1 | exact h.2.2.2.2.2.2.1 | exact Nq.go hg4 h.2.1 | exact Nq.st hg4 h.2.1) rfl ?_
      refine g_callV hF cv_X9_193 (c_H_takeBack l E (b + 23) (b + 1) rv p d m v hr.1 hr.2.1 hm (by omega)) dX9_undo_36 39 rfl (st := []) rfl rfl ⟨Nat.le_of_ble_eq_true rfl, Nat.le_of_ble_eq_true rfl⟩ ⟨Nat.le_of_ble_eq_true rfl, Nat.le_of_ble_eq_true rfl⟩ rfl (Nat.le_of_ble_eq_true rfl) 4 rfl (by intro H h; first | exact h.1 | exact h.2.1.nob | exact h.2.2.1.1 | exact h.2.2.2.1 | exact h.2.2.2.2.2.1.1 | exact h.2.2.2.2.2.2.1 | exact Nq.go hg4 h.2.1 | exact Nq.st hg4 h.2.1) (Pr' := Sx E b (hv (d - m)) rv ((p + 20 - m) % 20) (d - m) iv isd ik bg bl bs nb sd wf wx wy fa fb tl tn ts tr) (fun H h => ⟨h.2.2.1, h.2.1⟩) (fun q y => hA q (y.elim (fun y => ⟨by have := y.1; omega, by have := y.2; omega⟩) (fun y => ⟨by have := y.1; omega, by have := y.2; omega⟩))) (fun H H' h h1 h2 => by exact h.nh h2 (fun q y => y.elim (fun y => Or.inl ⟨by have := y.1; omega, by have := y.2; omega⟩) (fun y => Or.inl ⟨by have := y.1; omega, by have := y.2; omega⟩)) (hr3 m1 ▸ h1.2) h1.1) (st1 := []) rfl (k1 := 0) (n1 := 0) rfl rfl ?_
      refine g_aload_n hF dX9_undo_39 40 rfl rfl ?_
      refine g_get hF fl_X9_10 dX9_undo_40 43 rfl (by intro H h; first | exact h.1 | exact h.2.1.nob | exact h.2.2.1.1 | exact h.2.2.2.1 | exact h.2.2.2.2.2.1.1 | exact h.2.2.2.2.2.2.1 | exact Nq.go hg4 h.2.1 | exact Nq.st hg4 h.2.1) rfl ?_
      refine g_get hF fl_X9_69 dX9_undo_43 46 rfl (by intro H h; first | exact h.1 | exact h.2.1.nob | exact h.2.2.1.1 | exact h.2.2.2.1 | exact h.2.2.2.2.2.1.1 | exact h.2.2.2.2.2.2.1 | exact Nq.go hg4 h.2.1 | exact Nq.st hg4 h.2.1) rfl ?_
      exact g_iret hF dX9_undo_46 (Nat.le_of_ble_eq_true rfl) (Nat.le_of_ble_eq_true rfl) (fun H h => hR _ _ ⟨congrArg (fun z => some (Value.int z)) (rfl), Cs.S hr2 h⟩)
    · have e : fUndo (v, hv, d, iv, isd, ik, bg, bl, bs, nb, sd) (nI m) = (-1000000003, (v, hv, d, iv, isd, ik, bg, bl, bs, nb, sd)) := by unfold fUndo; dsimp only; rw [if_neg (fun q => q hz), if_pos (fun q => hm (i_le q (by omega) (by omega)))]
      rw [e] at hR
      refine g_iload_n hF dX9_undo_0 1 rfl rfl ?_
      refine g_iconst hF (1) dX9_undo_1 2 rfl rfl ?_
      refine g_bipush hF (20) dX9_undo_2 4 rfl rfl ?_
      refine g_callS hF cs_X9_157 (c_isWithin l E (nI m) (1) (20) (Sx E b v rv p d iv isd ik bg bl bs nb sd wf wx wy fa fb tl tn ts tr) 1 ((if_pos hz).symm)) dX9_undo_4 7 rfl (st := []) rfl rfl ⟨Nat.le_of_ble_eq_true rfl, Nat.le_of_ble_eq_true rfl⟩ ⟨Nat.le_of_ble_eq_true rfl, Nat.le_of_ble_eq_true rfl⟩ rfl (Nat.le_of_ble_eq_true rfl) (Pr' := _) (fun _ h => h) (fun q z => z.elim) (fun _ _ _ h _ => by exact h) (st1 := [_]) rfl (k1 := 0) (n1 := 0) rfl rfl ?_
      refine g_if_ne hF dX9_undo_7 10 rfl 13 (by decide) (fun _ => ?_) (fun c => absurd c ((by decide)))
      refine g_iload_n hF dX9_undo_13 14 rfl rfl ?_
      refine g_aload_n hF dX9_undo_14 15 rfl rfl ?_
      refine g_get hF fl_X9_19 dX9_undo_15 18 rfl (by intro H h; first | exact h.1 | exact h.2.1.nob | exact h.2.2.1.1 | exact h.2.2.2.1 | exact h.2.2.2.2.2.1.1 | exact h.2.2.2.2.2.2.1 | exact Nq.go hg4 h.2.1 | exact Nq.st hg4 h.2.1) rfl ?_
      refine g_get hF fl_X9_94 dX9_undo_18 21 rfl (by intro H h; first | exact h.1 | exact h.2.1.nob | exact h.2.2.1.1 | exact h.2.2.2.1 | exact h.2.2.2.2.2.1.1 | exact h.2.2.2.2.2.2.1 | exact Nq.go hg4 h.2.1 | exact Nq.st hg4 h.2.1) rfl ?_
      refine g_icmp_le hF dX9_undo_21 24 rfl 27 (by decide) (fun c => absurd c (fun q => hm (i_le q (by omega) (by omega)))) (fun _ => ?_)
      refine g_ldc hF kc_X9_178 dX9_undo_24 26 rfl ?_
      exact g_iret hF dX9_undo_26 (Nat.le_of_ble_eq_true rfl) (Nat.le_of_ble_eq_true rfl) (fun H h => hR _ _ ⟨congrArg (fun z => some (Value.int z)) (rfl), Cs.S hr h⟩)
  · rw [show fUndo (v, hv, d, iv, isd, ik, bg, bl, bs, nb, sd) z = (-1000000002, (v, hv, d, iv, isd, ik, bg, bl, bs, nb, sd)) from if_pos hz] at hR
    refine g_iload_n hF dX9_undo_0 1 rfl rfl ?_
    refine g_iconst hF (1) dX9_undo_1 2 rfl rfl ?_
    refine g_bipush hF (20) dX9_undo_2 4 rfl rfl ?_
    refine g_callS hF cs_X9_157 (c_isWithin l E (z) (1) (20) (Sx E b v rv p d iv isd ik bg bl bs nb sd wf wx wy fa fb tl tn ts tr) 0 ((if_neg hz).symm)) dX9_undo_4 7 rfl (st := []) rfl rfl ⟨Nat.le_of_ble_eq_true rfl, Nat.le_of_ble_eq_true rfl⟩ ⟨Nat.le_of_ble_eq_true rfl, Nat.le_of_ble_eq_true rfl⟩ rfl (Nat.le_of_ble_eq_true rfl) (Pr' := _) (fun _ h => h) (fun q z => z.elim) (fun _ _ _ h _ => by exact h) (st1 := [_]) rfl (k1 := 0) (n1 := 0) rfl rfl ?_
    refine g_if_ne hF dX9_undo_7 10 rfl 13 (by decide) (fun c => absurd (rfl) c) (fun _ => ?_)
    refine g_ldc hF kc_X9_95 dX9_undo_10 12 rfl ?_
    exact g_iret hF dX9_undo_12 (Nat.le_of_ble_eq_true rfl) (Nat.le_of_ble_eq_true rfl) (fun H h => hR _ _ ⟨congrArg (fun z => some (Value.int z)) (rfl), Cs.S hr h⟩)
