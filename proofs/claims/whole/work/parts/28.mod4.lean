/-! TrunkReserveModel: deeds -/
def mrel (pf im : Nat → Int32) (ss : Nat → Int64) (bk : Nat → Int32) (hv : Nat → NV) (d : Nat) (iv : Nat → NV) (isd : Nat → Nat) (ik bg bl bs : Nat → Int32) (nb : Nat) : Prop := d ≤ 20 ∧ nb ≤ 20 ∧ (∀ j, j < d → ∀ k, k < 139 → pf (139 * j + k) = flat (hv j) k) ∧ (∀ j, j < 2 → ¬ ik j = 0 → (∀ k, k < 139 → im (139 * j + k) = flat (iv j) k) ∧ ss j = lN (isd j)) ∧ ∀ j, j < nb → bk (3 * j) = bg j ∧ bk (3 * j + 1) = bl j ∧ bk (3 * j + 2) = bs j
def MS (E : Ev) (c : Nat) : AS → Heap → Prop
  | (v, hv, d, iv, isd, ik, bg, bl, bs, nb, sd) => fun H => ∃ (pf im : Nat → Int32) (ss : Nat → Int64) (bk : Nat → Int32) (ws : Nat → Int64) (cm ls nq : Nat → Int32) (wh : Int64) (ro : Int32), mrel pf im ss bk hv d iv isd ik bg bl bs nb ∧ Mm E c (flat v) pf im ss ik bk ws cm ls nq (nI d) (lN sd) (nI nb) wh ro H
theorem MS.mk {E : Ev} {c : Nat} {v : NV} {hv : Nat → NV} {d : Nat} {iv : Nat → NV} {isd : Nat → Nat} {ik bg bl bs : Nat → Int32} {nb sd : Nat} {pf im : Nat → Int32} {ss : Nat → Int64} {bk : Nat → Int32} {ws : Nat → Int64} {cm ls nq : Nat → Int32} {wh : Int64} {ro : Int32} {H : Heap} (hr : mrel pf im ss bk hv d iv isd ik bg bl bs nb) (h : Mm E c (flat v) pf im ss ik bk ws cm ls nq (nI d) (lN sd) (nI nb) wh ro H) : MS E c (v, hv, d, iv, isd, ik, bg, bl, bs, nb, sd) H := ⟨pf, im, ss, bk, ws, cm, ls, nq, wh, ro, hr, h⟩
theorem g_openM {l : Launch} {R : Room} {E : Ev} {x : Cx} {k n : Nat} {lo : List (Option Value)} {pc : Nat} {st : List Value} {c : Nat} {v : NV} {hv : Nat → NV} {d : Nat} {iv : Nat → NV} {isd : Nat → Nat} {ik bg bl bs : Nat → Int32} {nb sd : Nat}
    (h : ∀ pf im ss bk ws cm ls nq wh ro, mrel pf im ss bk hv d iv isd ik bg bl bs nb → go l R E x k n (Mm E c (flat v) pf im ss ik bk ws cm ls nq (nI d) (lN sd) (nI nb) wh ro) lo pc st) : go l R E x k n (MS E c (v, hv, d, iv, isd, ik, bg, bl, bs, nb, sd)) lo pc st := by
  refine g_pr (Pr' := fun H => ∃ pf im ss bk ws cm ls nq wh ro, mrel pf im ss bk hv d iv isd ik bg bl bs nb ∧ Mm E c (flat v) pf im ss ik bk ws cm ls nq (nI d) (lN sd) (nI nb) wh ro H) (fun H z => z) ?_
  refine g_ex (fun pf => ?_)
  refine g_ex (fun im => ?_)
  refine g_ex (fun ss => ?_)
  refine g_ex (fun bk => ?_)
  refine g_ex (fun ws => ?_)
  refine g_ex (fun cm => ?_)
  refine g_ex (fun ls => ?_)
  refine g_ex (fun nq => ?_)
  refine g_ex (fun wh => ?_)
  refine g_ex (fun ro => ?_)
  exact g_pure (fun H z => z.1) (fun hr => g_pr (fun H z => z.2) (h pf im ss bk ws cm ls nq wh ro hr))
theorem pushD_le {d : Nat} (h : d ≤ 20) : pushD d ≤ 20 := by unfold pushD; split <;> omega
theorem mrel.push {pf im : Nat → Int32} {ss : Nat → Int64} {bk : Nat → Int32} {hv : Nat → NV} {d : Nat} {iv : Nat → NV} {isd : Nat → Nat} {ik bg bl bs : Nat → Int32} {nb : Nat} {pf1 : Nat → Int32} {v : NV} (h : mrel pf im ss bk hv d iv isd ik bg bl bs nb) (hp : ∀ j, j < pushD d → ∀ k, k < 139 → pf1 (139 * j + k) = flat (pushH hv d v j) k) : mrel pf1 im ss bk (pushH hv d v) (pushD d) iv isd ik bg bl bs nb := ⟨pushD_le h.1, h.2.1, hp, h.2.2.2⟩
set_option maxRecDepth 100000 in
set_option maxHeartbeats 16000000 in
theorem c_E_build (l : Launch) (E : Ev) (c T : Nat) (σ : AS) (hv0 : okV T σ.1) (z : Int32) : Ct l E yX10_build cX10_build 3 (some .int) (rm 6) [.ref c, .int z] (MS E c σ) (rV (some (.int (fBuild σ z).1)) (MS E c (fBuild σ z).2)) (rg c 11) := by
  refine ct_start (by decide) [some (.ref c), some (.int z), none] rfl (Nat.le_of_ble_eq_true rfl) ?_
  intro x hF hN hA hR
  obtain ⟨v, hv, d, iv, isd, ik, bg, bl, bs, nb, sd⟩ := σ
  refine g_openM (fun pf im ss bk ws cm ls nq wh ro hr => ?_)
  dsimp only at hv0
  by_cases hz : 1 ≤ z ∧ z ≤ 4
  · obtain ⟨G, g1, g4, rfl⟩ := btw (a := 1) (b := 4) (by omega) (by omega) hz
    have e : fBuild (v, hv, d, iv, isd, ik, bg, bl, bs, nb, sd) (nI G) = (v.1, psh (v0 G) (v, hv, d, iv, isd, ik, bg, bl, bs, nb, sd)) := by unfold fBuild; rw [if_pos hz, nI_clamp (by omega)]
    rw [e] at hR
    refine g_iload_n hF dX10_build_0 1 rfl rfl ?_
    refine g_iconst hF (1) dX10_build_1 2 rfl rfl ?_
    refine g_iconst hF (4) dX10_build_2 3 rfl rfl ?_
    refine g_callS hF cs_X10_46 (c_M_in l E (nI G) (1) (4) (Mm E c (flat v) pf im ss ik bk ws cm ls nq (nI d) (lN sd) (nI nb) wh ro) 1 ((if_pos hz).symm)) dX10_build_3 6 rfl (st := []) rfl rfl ⟨Nat.le_of_ble_eq_true rfl, Nat.le_of_ble_eq_true rfl⟩ ⟨Nat.le_of_ble_eq_true rfl, Nat.le_of_ble_eq_true rfl⟩ rfl (Nat.le_of_ble_eq_true rfl) (Pr' := _) (fun _ h => h) (fun q z => z.elim) (fun _ _ _ h _ => by exact h) (st1 := [_]) rfl (k1 := 0) (n1 := 0) rfl rfl ?_
    refine g_if_ne hF dX10_build_6 9 rfl 12 (by decide) (fun _ => ?_) (fun c => absurd c ((by decide)))
    refine g_aload_n hF dX10_build_12 13 rfl rfl ?_
    refine g_callV hF cv_X10_122 (c_M_notes l E c v pf im ss ik bk ws cm ls nq (lN sd) (nI nb) wh ro hv d hr.1 hr.2.2.1) dX10_build_13 16 rfl (st := []) rfl rfl ⟨Nat.le_of_ble_eq_true rfl, Nat.le_of_ble_eq_true rfl⟩ ⟨Nat.le_of_ble_eq_true rfl, Nat.le_of_ble_eq_true rfl⟩ rfl (Nat.le_of_ble_eq_true rfl) 10 rfl (by intro H h; first | exact h.1 | exact h.2.1 | exact h.2.2.1 | exact h.2.2.2.1 | exact h.2.2.2.2.1 | exact h.2.2.2.2.2.1 | exact h.2.2.2.2.2.2.1 | exact h.2.2.2.2.2.2.2.1 | exact h.2.2.2.2.2.2.2.2.1 | exact h.2.2.2.2.2.2.2.2.2.1 | exact h.2.2.2.2.2.2.2.2.2.2) (Pr' := _) (fun _ h => h) (hA) (fun _ _ _ h _ => by exact h) (st1 := []) rfl (k1 := 0) (n1 := 0) rfl rfl ?_
    refine g_ex (fun pf1 => ?_)
    refine g_pure (fun H h => h.1) (fun hp1 => ?_)
    refine g_pr (fun H h => h.2) ?_
    refine g_aload_n hF dX10_build_16 17 rfl rfl ?_
    refine g_get hF fl_X10_7 dX10_build_17 20 rfl (by intro H h; first | exact h.1 | exact h.2.1 | exact h.2.2.1 | exact h.2.2.2.1 | exact h.2.2.2.2.1 | exact h.2.2.2.2.2.1 | exact h.2.2.2.2.2.2.1 | exact h.2.2.2.2.2.2.2.1 | exact h.2.2.2.2.2.2.2.2.1 | exact h.2.2.2.2.2.2.2.2.2.1 | exact h.2.2.2.2.2.2.2.2.2.2) rfl ?_
    refine g_iconst hF (0) dX10_build_20 21 rfl rfl ?_
    refine g_iald hF dX10_build_21 22 rfl (by intro H h; first | exact h.1 | exact h.2.1 | exact h.2.2.1 | exact h.2.2.2.1 | exact h.2.2.2.2.1 | exact h.2.2.2.2.2.1 | exact h.2.2.2.2.2.2.1 | exact h.2.2.2.2.2.2.2.1 | exact h.2.2.2.2.2.2.2.2.1 | exact h.2.2.2.2.2.2.2.2.2.1 | exact h.2.2.2.2.2.2.2.2.2.2) (vp_in_nI (show 0 < 139 by omega) (by omega)) ?_
    refine g_istore_n hF dX10_build_22 23 rfl (lo' := [_, _, _]) (Nat.le_of_ble_eq_true rfl) rfl ?_
    refine g_aload_n hF dX10_build_23 24 rfl rfl ?_
    refine g_iload_n hF dX10_build_24 25 rfl rfl ?_
    refine g_callV hF cv_X10_42 (c_M_builds l E c (flat v) pf1 im ss ik bk ws cm ls nq (nI (pushD d)) (lN sd) (nI nb) wh ro G) dX10_build_25 28 rfl (st := []) rfl rfl ⟨Nat.le_of_ble_eq_true rfl, Nat.le_of_ble_eq_true rfl⟩ ⟨Nat.le_of_ble_eq_true rfl, Nat.le_of_ble_eq_true rfl⟩ rfl (Nat.le_of_ble_eq_true rfl) 10 rfl (by intro H h; first | exact h.1 | exact h.2.1 | exact h.2.2.1 | exact h.2.2.2.1 | exact h.2.2.2.2.1 | exact h.2.2.2.2.2.1 | exact h.2.2.2.2.2.2.1 | exact h.2.2.2.2.2.2.2.1 | exact h.2.2.2.2.2.2.2.2.1 | exact h.2.2.2.2.2.2.2.2.2.1 | exact h.2.2.2.2.2.2.2.2.2.2) (Pr' := _) (fun _ h => h) (hA) (fun _ _ _ h _ => by exact h) (st1 := []) rfl (k1 := 0) (n1 := 0) rfl rfl ?_
    refine g_iload_n hF dX10_build_28 29 rfl rfl ?_
    exact g_iret hF dX10_build_29 (Nat.le_of_ble_eq_true rfl) (Nat.le_of_ble_eq_true rfl) (fun H h => hR _ _ ⟨congrArg (fun z => some (Value.int z)) (rfl), MS.mk (hr.push hp1) h⟩)
  · rw [show fBuild (v, hv, d, iv, isd, ik, bg, bl, bs, nb, sd) z = (-1000000002, (v, hv, d, iv, isd, ik, bg, bl, bs, nb, sd)) from if_neg hz] at hR
    refine g_iload_n hF dX10_build_0 1 rfl rfl ?_
    refine g_iconst hF (1) dX10_build_1 2 rfl rfl ?_
    refine g_iconst hF (4) dX10_build_2 3 rfl rfl ?_
    refine g_callS hF cs_X10_46 (c_M_in l E (z) (1) (4) (Mm E c (flat v) pf im ss ik bk ws cm ls nq (nI d) (lN sd) (nI nb) wh ro) 0 ((if_neg hz).symm)) dX10_build_3 6 rfl (st := []) rfl rfl ⟨Nat.le_of_ble_eq_true rfl, Nat.le_of_ble_eq_true rfl⟩ ⟨Nat.le_of_ble_eq_true rfl, Nat.le_of_ble_eq_true rfl⟩ rfl (Nat.le_of_ble_eq_true rfl) (Pr' := _) (fun _ h => h) (fun q z => z.elim) (fun _ _ _ h _ => by exact h) (st1 := [_]) rfl (k1 := 0) (n1 := 0) rfl rfl ?_
    refine g_if_ne hF dX10_build_6 9 rfl 12 (by decide) (fun c => absurd (rfl) c) (fun _ => ?_)
    refine g_ldc hF kc_X10_117 dX10_build_9 11 rfl ?_
    exact g_iret hF dX10_build_11 (Nat.le_of_ble_eq_true rfl) (Nat.le_of_ble_eq_true rfl) (fun H h => hR _ _ ⟨congrArg (fun z => some (Value.int z)) (rfl), MS.mk hr h⟩)
set_option maxRecDepth 100000 in
set_option maxHeartbeats 16000000 in
theorem c_E_call (l : Launch) (E : Ev) (c T : Nat) (σ : AS) (hv0 : okV T σ.1) (z : Int32) : Ct l E yX10_call cX10_call 2 (some .int) (rm 7) [.ref c, .int z] (MS E c σ) (rV (some (.int (fCall σ z).1)) (MS E c (fCall σ z).2)) (rg c 11) := by
  refine ct_start (by decide) [some (.ref c), some (.int z)] rfl (Nat.le_of_ble_eq_true rfl) ?_
  intro x hF hN hA hR
  obtain ⟨v, hv, d, iv, isd, ik, bg, bl, bs, nb, sd⟩ := σ
  refine g_openM (fun pf im ss bk ws cm ls nq wh ro hr => ?_)
  dsimp only at hv0
  obtain ⟨G, hG, G1, G4, hGc, ho, hn⟩ := okN hv0
  by_cases hz : z < 0 ∨ v.1 ≤ z
  · rw [show fCall (v, hv, d, iv, isd, ik, bg, bl, bs, nb, sd) z = (-1000000001, (v, hv, d, iv, isd, ik, bg, bl, bs, nb, sd)) from if_pos hz] at hR
    refine g_aload_n hF dX10_call_0 1 rfl rfl ?_
    refine g_iload_n hF dX10_call_1 2 rfl rfl ?_
    refine g_callV hF cv_X10_50 (c_M_isGroup l E c v pf im ss ik bk ws cm ls nq (nI d) (lN sd) (nI nb) wh ro G hG G1 G4 z) dX10_call_2 5 rfl (st := []) rfl rfl ⟨Nat.le_of_ble_eq_true rfl, Nat.le_of_ble_eq_true rfl⟩ ⟨Nat.le_of_ble_eq_true rfl, Nat.le_of_ble_eq_true rfl⟩ rfl (Nat.le_of_ble_eq_true rfl) 10 rfl (by intro H h; first | exact h.1 | exact h.2.1 | exact h.2.2.1 | exact h.2.2.2.1 | exact h.2.2.2.2.1 | exact h.2.2.2.2.2.1 | exact h.2.2.2.2.2.2.1 | exact h.2.2.2.2.2.2.2.1 | exact h.2.2.2.2.2.2.2.2.1 | exact h.2.2.2.2.2.2.2.2.2.1 | exact h.2.2.2.2.2.2.2.2.2.2) (Pr' := _) (fun _ h => h) (fun q z => z.elim) (fun _ _ _ h _ => by exact h) (st1 := [_]) rfl (k1 := 0) (n1 := 0) rfl rfl ?_
    refine g_if_ne hF dX10_call_5 8 rfl 11 (by decide) (fun c => absurd (iy0.mpr hz) c) (fun _ => ?_)
    refine g_ldc hF kc_X10_118 dX10_call_8 10 rfl ?_
    exact g_iret hF dX10_call_10 (Nat.le_of_ble_eq_true rfl) (Nat.le_of_ble_eq_true rfl) (fun H h => hR _ _ ⟨congrArg (fun z => some (Value.int z)) (rfl), MS.mk hr h⟩)
  · rcases pk_ix z (n := G) (by omega) with hz1 | hz1 | ⟨g, hg, rfl⟩
    · exact absurd (Or.inl hz1) hz
    · exact absurd (Or.inr (hG ▸ hz1)) hz
    · have e : fCall (v, hv, d, iv, isd, ik, bg, bl, bs, nb, sd) (nI g) = (sNext v.2.2.2 g, psh (sPlace v g) (v, hv, d, iv, isd, ik, bg, bl, bs, nb, sd)) := by unfold fCall; rw [if_neg hz, nI_clamp (by omega)]
      rw [e] at hR
      refine g_aload_n hF dX10_call_0 1 rfl rfl ?_
      refine g_iload_n hF dX10_call_1 2 rfl rfl ?_
      refine g_callV hF cv_X10_50 (c_M_isGroup l E c v pf im ss ik bk ws cm ls nq (nI d) (lN sd) (nI nb) wh ro G hG G1 G4 (nI g)) dX10_call_2 5 rfl (st := []) rfl rfl ⟨Nat.le_of_ble_eq_true rfl, Nat.le_of_ble_eq_true rfl⟩ ⟨Nat.le_of_ble_eq_true rfl, Nat.le_of_ble_eq_true rfl⟩ rfl (Nat.le_of_ble_eq_true rfl) 10 rfl (by intro H h; first | exact h.1 | exact h.2.1 | exact h.2.2.1 | exact h.2.2.2.1 | exact h.2.2.2.2.1 | exact h.2.2.2.2.2.1 | exact h.2.2.2.2.2.2.1 | exact h.2.2.2.2.2.2.2.1 | exact h.2.2.2.2.2.2.2.2.1 | exact h.2.2.2.2.2.2.2.2.2.1 | exact h.2.2.2.2.2.2.2.2.2.2) (Pr' := _) (fun _ h => h) (fun q z => z.elim) (fun _ _ _ h _ => by exact h) (st1 := [_]) rfl (k1 := 0) (n1 := 0) rfl rfl ?_
      refine g_if_ne hF dX10_call_5 8 rfl 11 (by decide) (fun _ => ?_) (fun c => absurd c (fun y => hz (iy0.mp y)))
      refine g_aload_n hF dX10_call_11 12 rfl rfl ?_
      refine g_callV hF cv_X10_122 (c_M_notes l E c v pf im ss ik bk ws cm ls nq (lN sd) (nI nb) wh ro hv d hr.1 hr.2.2.1) dX10_call_12 15 rfl (st := []) rfl rfl ⟨Nat.le_of_ble_eq_true rfl, Nat.le_of_ble_eq_true rfl⟩ ⟨Nat.le_of_ble_eq_true rfl, Nat.le_of_ble_eq_true rfl⟩ rfl (Nat.le_of_ble_eq_true rfl) 10 rfl (by intro H h; first | exact h.1 | exact h.2.1 | exact h.2.2.1 | exact h.2.2.2.1 | exact h.2.2.2.2.1 | exact h.2.2.2.2.2.1 | exact h.2.2.2.2.2.2.1 | exact h.2.2.2.2.2.2.2.1 | exact h.2.2.2.2.2.2.2.2.1 | exact h.2.2.2.2.2.2.2.2.2.1 | exact h.2.2.2.2.2.2.2.2.2.2) (Pr' := _) (fun _ h => h) (hA) (fun _ _ _ h _ => by exact h) (st1 := []) rfl (k1 := 0) (n1 := 0) rfl rfl ?_
      refine g_ex (fun pf1 => ?_)
      refine g_pure (fun H h => h.1) (fun hp1 => ?_)
      refine g_pr (fun H h => h.2) ?_
      refine g_aload_n hF dX10_call_15 16 rfl rfl ?_
      refine g_iload_n hF dX10_call_16 17 rfl rfl ?_
      refine g_callV hF cv_X10_125 (c_M_comes l E c v pf1 im ss ik bk ws cm ls nq (nI (pushD d)) (lN sd) (nI nb) wh ro T G g hv0 hG G4 hg) dX10_call_17 20 rfl (st := []) rfl rfl ⟨Nat.le_of_ble_eq_true rfl, Nat.le_of_ble_eq_true rfl⟩ ⟨Nat.le_of_ble_eq_true rfl, Nat.le_of_ble_eq_true rfl⟩ rfl (Nat.le_of_ble_eq_true rfl) 10 rfl (by intro H h; first | exact h.1 | exact h.2.1 | exact h.2.2.1 | exact h.2.2.2.1 | exact h.2.2.2.2.1 | exact h.2.2.2.2.2.1 | exact h.2.2.2.2.2.2.1 | exact h.2.2.2.2.2.2.2.1 | exact h.2.2.2.2.2.2.2.2.1 | exact h.2.2.2.2.2.2.2.2.2.1 | exact h.2.2.2.2.2.2.2.2.2.2) (Pr' := _) (fun _ h => h) (hA) (fun _ _ _ h _ => by exact h) (st1 := [_]) rfl (k1 := 0) (n1 := 0) rfl rfl ?_
      exact g_iret hF dX10_call_20 (Nat.le_of_ble_eq_true rfl) (Nat.le_of_ble_eq_true rfl) (fun H h => hR _ _ ⟨congrArg (fun z => some (Value.int z)) (rfl), MS.mk (hr.push hp1) h⟩)
set_option maxRecDepth 100000 in
set_option maxHeartbeats 16000000 in
theorem c_E_end (l : Launch) (E : Ev) (c T : Nat) (σ : AS) (hv0 : okV T σ.1) (z i : Int32) : Ct l E yX10_end cX10_end 3 (some .int) (rm 6) [.ref c, .int z, .int i] (MS E c σ) (rV (some (.int (fEnd σ z i).1)) (MS E c (fEnd σ z i).2)) (rg c 11) := by
  refine ct_start (by decide) [some (.ref c), some (.int z), some (.int i)] rfl (Nat.le_of_ble_eq_true rfl) ?_
  intro x hF hN hA hR
  obtain ⟨v, hv, d, iv, isd, ik, bg, bl, bs, nb, sd⟩ := σ
  refine g_openM (fun pf im ss bk ws cm ls nq wh ro hr => ?_)
  dsimp only at hv0
  rcases line_cases hv0 z i with ⟨h1, G, hG, G4, h2⟩ | ⟨G, g, N, t, hG, G4, hg, rfl, n0, n6, ht, rfl, hno⟩
  · rw [show fEnd (v, hv, d, iv, isd, ik, bg, bl, bs, nb, sd) z i = (-1000000001, (v, hv, d, iv, isd, ik, bg, bl, bs, nb, sd)) from if_pos h1] at hR
    refine g_aload_n hF dX10_end_0 1 rfl rfl ?_
    refine g_iload_n hF dX10_end_1 2 rfl rfl ?_
    refine g_iload_n hF dX10_end_2 3 rfl rfl ?_
    refine g_callV hF cv_X10_90 (c_M_isLine l E c v pf im ss ik bk ws cm ls nq (nI d) (lN sd) (nI nb) wh ro T hv0 z i) dX10_end_3 6 rfl (st := []) rfl rfl ⟨Nat.le_of_ble_eq_true rfl, Nat.le_of_ble_eq_true rfl⟩ ⟨Nat.le_of_ble_eq_true rfl, Nat.le_of_ble_eq_true rfl⟩ rfl (Nat.le_of_ble_eq_true rfl) 10 rfl (by intro H h; first | exact h.1 | exact h.2.1 | exact h.2.2.1 | exact h.2.2.2.1 | exact h.2.2.2.2.1 | exact h.2.2.2.2.2.1 | exact h.2.2.2.2.2.2.1 | exact h.2.2.2.2.2.2.2.1 | exact h.2.2.2.2.2.2.2.2.1 | exact h.2.2.2.2.2.2.2.2.2.1 | exact h.2.2.2.2.2.2.2.2.2.2) (Pr' := _) (fun _ h => h) (fun q z => z.elim) (fun _ _ _ h _ => by exact h) (st1 := [_]) rfl (k1 := 0) (n1 := 0) rfl rfl ?_
    refine g_if_ne hF dX10_end_6 9 rfl 12 (by decide) (fun c => absurd (iy0.mpr h1) c) (fun _ => ?_)
    refine g_ldc hF kc_X10_118 dX10_end_9 11 rfl ?_
    exact g_iret hF dX10_end_11 (Nat.le_of_ble_eq_true rfl) (Nat.le_of_ble_eq_true rfl) (fun H h => hR _ _ ⟨congrArg (fun z => some (Value.int z)) (rfl), MS.mk hr h⟩)
  · have hg4 : g < 4 := by omega
    have hct : (nI t).toNatClampNeg = t := nI_clamp (by omega)
    have hcg : (nI g).toNatClampNeg = g := nI_clamp (by omega)
    have e : fEnd (v, hv, d, iv, isd, ik, bg, bl, bs, nb, sd) (nI g) (nI t) = if ¬ v.2.2.2 g (10 + 4 * t) = 1 then (-1000000003, (v, hv, d, iv, isd, ik, bg, bl, bs, nb, sd)) else (v.2.2.2 g (11 + 4 * t), psh (sEnd v g t) (v, hv, d, iv, isd, ik, bg, bl, bs, nb, sd)) := by unfold fEnd; dsimp only; rw [if_neg hno, hct, hcg]
    by_cases hc : v.2.2.2 g (10 + 4 * t) = 1
    · rw [e, if_neg (fun q => q hc)] at hR
      refine g_aload_n hF dX10_end_0 1 rfl rfl ?_
      refine g_iload_n hF dX10_end_1 2 rfl rfl ?_
      refine g_iload_n hF dX10_end_2 3 rfl rfl ?_
      refine g_callV hF cv_X10_90 (c_M_isLine l E c v pf im ss ik bk ws cm ls nq (nI d) (lN sd) (nI nb) wh ro T hv0 (nI g) (nI t)) dX10_end_3 6 rfl (st := []) rfl rfl ⟨Nat.le_of_ble_eq_true rfl, Nat.le_of_ble_eq_true rfl⟩ ⟨Nat.le_of_ble_eq_true rfl, Nat.le_of_ble_eq_true rfl⟩ rfl (Nat.le_of_ble_eq_true rfl) 10 rfl (by intro H h; first | exact h.1 | exact h.2.1 | exact h.2.2.1 | exact h.2.2.2.1 | exact h.2.2.2.2.1 | exact h.2.2.2.2.2.1 | exact h.2.2.2.2.2.2.1 | exact h.2.2.2.2.2.2.2.1 | exact h.2.2.2.2.2.2.2.2.1 | exact h.2.2.2.2.2.2.2.2.2.1 | exact h.2.2.2.2.2.2.2.2.2.2) (Pr' := _) (fun _ h => h) (fun q z => z.elim) (fun _ _ _ h _ => by exact h) (st1 := [_]) rfl (k1 := 0) (n1 := 0) rfl rfl ?_
      refine g_if_ne hF dX10_end_6 9 rfl 12 (by decide) (fun _ => ?_) (fun c => absurd c (fun y => hno (iy0.mp y)))
      refine g_aload_n hF dX10_end_12 13 rfl rfl ?_
      refine g_iload_n hF dX10_end_13 14 rfl rfl ?_
      refine g_iload_n hF dX10_end_14 15 rfl rfl ?_
      refine g_iconst hF (0) dX10_end_15 16 rfl rfl ?_
      rw [show (0 : Int32) = nI 0 by decide]
      refine g_callV hF cv_X10_73 (c_M_ofL l E c v pf im ss ik bk ws cm ls nq (nI d) (lN sd) (nI nb) wh ro g t 0 hg4 (by omega) (by omega)) dX10_end_16 19 rfl (st := []) rfl rfl ⟨Nat.le_of_ble_eq_true rfl, Nat.le_of_ble_eq_true rfl⟩ ⟨Nat.le_of_ble_eq_true rfl, Nat.le_of_ble_eq_true rfl⟩ rfl (Nat.le_of_ble_eq_true rfl) 10 rfl (by intro H h; first | exact h.1 | exact h.2.1 | exact h.2.2.1 | exact h.2.2.2.1 | exact h.2.2.2.2.1 | exact h.2.2.2.2.2.1 | exact h.2.2.2.2.2.2.1 | exact h.2.2.2.2.2.2.2.1 | exact h.2.2.2.2.2.2.2.2.1 | exact h.2.2.2.2.2.2.2.2.2.1 | exact h.2.2.2.2.2.2.2.2.2.2) (Pr' := _) (fun _ h => h) (fun q z => z.elim) (fun _ _ _ h _ => by exact h) (st1 := [_]) rfl (k1 := 0) (n1 := 0) rfl rfl ?_
      refine g_iconst hF (1) dX10_end_19 20 rfl rfl ?_
      refine g_icmp_eq hF dX10_end_20 23 rfl 26 (by decide) (fun _ => ?_) (fun c => absurd (hc) c)
      refine g_aload_n hF dX10_end_26 27 rfl rfl ?_
      refine g_callV hF cv_X10_122 (c_M_notes l E c v pf im ss ik bk ws cm ls nq (lN sd) (nI nb) wh ro hv d hr.1 hr.2.2.1) dX10_end_27 30 rfl (st := []) rfl rfl ⟨Nat.le_of_ble_eq_true rfl, Nat.le_of_ble_eq_true rfl⟩ ⟨Nat.le_of_ble_eq_true rfl, Nat.le_of_ble_eq_true rfl⟩ rfl (Nat.le_of_ble_eq_true rfl) 10 rfl (by intro H h; first | exact h.1 | exact h.2.1 | exact h.2.2.1 | exact h.2.2.2.1 | exact h.2.2.2.2.1 | exact h.2.2.2.2.2.1 | exact h.2.2.2.2.2.2.1 | exact h.2.2.2.2.2.2.2.1 | exact h.2.2.2.2.2.2.2.2.1 | exact h.2.2.2.2.2.2.2.2.2.1 | exact h.2.2.2.2.2.2.2.2.2.2) (Pr' := _) (fun _ h => h) (hA) (fun _ _ _ h _ => by exact h) (st1 := []) rfl (k1 := 0) (n1 := 0) rfl rfl ?_
      refine g_ex (fun pf1 => ?_)
      refine g_pure (fun H h => h.1) (fun hp1 => ?_)
      refine g_pr (fun H h => h.2) ?_
      refine g_aload_n hF dX10_end_30 31 rfl rfl ?_
      refine g_iload_n hF dX10_end_31 32 rfl rfl ?_
      refine g_iload_n hF dX10_end_32 33 rfl rfl ?_
      refine g_callV hF cv_X10_129 (c_M_ends l E c v pf1 im ss ik bk ws cm ls nq (nI (pushD d)) (lN sd) (nI nb) wh ro g t hg4 (by omega)) dX10_end_33 36 rfl (st := []) rfl rfl ⟨Nat.le_of_ble_eq_true rfl, Nat.le_of_ble_eq_true rfl⟩ ⟨Nat.le_of_ble_eq_true rfl, Nat.le_of_ble_eq_true rfl⟩ rfl (Nat.le_of_ble_eq_true rfl) 10 rfl (by intro H h; first | exact h.1 | exact h.2.1 | exact h.2.2.1 | exact h.2.2.2.1 | exact h.2.2.2.2.1 | exact h.2.2.2.2.2.1 | exact h.2.2.2.2.2.2.1 | exact h.2.2.2.2.2.2.2.1 | exact h.2.2.2.2.2.2.2.2.1 | exact h.2.2.2.2.2.2.2.2.2.1 | exact h.2.2.2.2.2.2.2.2.2.2) (Pr' := _) (fun _ h => h) (hA) (fun _ _ _ h _ => by exact h) (st1 := [_]) rfl (k1 := 0) (n1 := 0) rfl rfl ?_
      exact g_iret hF dX10_end_36 (Nat.le_of_ble_eq_true rfl) (Nat.le_of_ble_eq_true rfl) (fun H h => hR _ _ ⟨congrArg (fun z => some (Value.int z)) (rfl), MS.mk (hr.push hp1) h⟩)
    · rw [e, if_pos hc] at hR
      refine g_aload_n hF dX10_end_0 1 rfl rfl ?_
      refine g_iload_n hF dX10_end_1 2 rfl rfl ?_
      refine g_iload_n hF dX10_end_2 3 rfl rfl ?_
      refine g_callV hF cv_X10_90 (c_M_isLine l E c v pf im ss ik bk ws cm ls nq (nI d) (lN sd) (nI nb) wh ro T hv0 (nI g) (nI t)) dX10_end_3 6 rfl (st := []) rfl rfl ⟨Nat.le_of_ble_eq_true rfl, Nat.le_of_ble_eq_true rfl⟩ ⟨Nat.le_of_ble_eq_true rfl, Nat.le_of_ble_eq_true rfl⟩ rfl (Nat.le_of_ble_eq_true rfl) 10 rfl (by intro H h; first | exact h.1 | exact h.2.1 | exact h.2.2.1 | exact h.2.2.2.1 | exact h.2.2.2.2.1 | exact h.2.2.2.2.2.1 | exact h.2.2.2.2.2.2.1 | exact h.2.2.2.2.2.2.2.1 | exact h.2.2.2.2.2.2.2.2.1 | exact h.2.2.2.2.2.2.2.2.2.1 | exact h.2.2.2.2.2.2.2.2.2.2) (Pr' := _) (fun _ h => h) (fun q z => z.elim) (fun _ _ _ h _ => by exact h) (st1 := [_]) rfl (k1 := 0) (n1 := 0) rfl rfl ?_
      refine g_if_ne hF dX10_end_6 9 rfl 12 (by decide) (fun _ => ?_) (fun c => absurd c (fun y => hno (iy0.mp y)))
      refine g_aload_n hF dX10_end_12 13 rfl rfl ?_
      refine g_iload_n hF dX10_end_13 14 rfl rfl ?_
      refine g_iload_n hF dX10_end_14 15 rfl rfl ?_
      refine g_iconst hF (0) dX10_end_15 16 rfl rfl ?_
      rw [show (0 : Int32) = nI 0 by decide]
      refine g_callV hF cv_X10_73 (c_M_ofL l E c v pf im ss ik bk ws cm ls nq (nI d) (lN sd) (nI nb) wh ro g t 0 hg4 (by omega) (by omega)) dX10_end_16 19 rfl (st := []) rfl rfl ⟨Nat.le_of_ble_eq_true rfl, Nat.le_of_ble_eq_true rfl⟩ ⟨Nat.le_of_ble_eq_true rfl, Nat.le_of_ble_eq_true rfl⟩ rfl (Nat.le_of_ble_eq_true rfl) 10 rfl (by intro H h; first | exact h.1 | exact h.2.1 | exact h.2.2.1 | exact h.2.2.2.1 | exact h.2.2.2.2.1 | exact h.2.2.2.2.2.1 | exact h.2.2.2.2.2.2.1 | exact h.2.2.2.2.2.2.2.1 | exact h.2.2.2.2.2.2.2.2.1 | exact h.2.2.2.2.2.2.2.2.2.1 | exact h.2.2.2.2.2.2.2.2.2.2) (Pr' := _) (fun _ h => h) (fun q z => z.elim) (fun _ _ _ h _ => by exact h) (st1 := [_]) rfl (k1 := 0) (n1 := 0) rfl rfl ?_
      refine g_iconst hF (1) dX10_end_19 20 rfl rfl ?_
      refine g_icmp_eq hF dX10_end_20 23 rfl 26 (by decide) (fun c => absurd c (hc)) (fun _ => ?_)
      refine g_ldc hF kc_X10_128 dX10_end_23 25 rfl ?_
      exact g_iret hF dX10_end_25 (Nat.le_of_ble_eq_true rfl) (Nat.le_of_ble_eq_true rfl) (fun H h => hR _ _ ⟨congrArg (fun z => some (Value.int z)) (rfl), MS.mk hr h⟩)
set_option maxRecDepth 100000 in
set_option maxHeartbeats 16000000 in
theorem c_E_damage (l : Launch) (E : Ev) (c T : Nat) (σ : AS) (hv0 : okV T σ.1) (z i : Int32) : Ct l E yX10_damage cX10_damage 5 (some .int) (rm 6) [.ref c, .int z, .int i] (MS E c σ) (rV (some (.int (fDam σ z i).1)) (MS E c (fDam σ z i).2)) (rg c 11) := by
  refine ct_start (by decide) [some (.ref c), some (.int z), some (.int i), none, none] rfl (Nat.le_of_ble_eq_true rfl) ?_
  intro x hF hN hA hR
  obtain ⟨v, hv, d, iv, isd, ik, bg, bl, bs, nb, sd⟩ := σ
  refine g_openM (fun pf im ss bk ws cm ls nq wh ro hr => ?_)
  dsimp only at hv0
  rcases line_cases hv0 z i with ⟨h1, G, hG, G4, h2⟩ | ⟨G, g, N, t, hG, G4, hg, rfl, n0, n6, ht, rfl, hno⟩
  · rw [show fDam (v, hv, d, iv, isd, ik, bg, bl, bs, nb, sd) z i = (-1000000001, (v, hv, d, iv, isd, ik, bg, bl, bs, nb, sd)) from if_pos h1] at hR
    refine g_aload_n hF dX10_damage_0 1 rfl rfl ?_
    refine g_iload_n hF dX10_damage_1 2 rfl rfl ?_
    refine g_iload_n hF dX10_damage_2 3 rfl rfl ?_
    refine g_callV hF cv_X10_90 (c_M_isLine l E c v pf im ss ik bk ws cm ls nq (nI d) (lN sd) (nI nb) wh ro T hv0 z i) dX10_damage_3 6 rfl (st := []) rfl rfl ⟨Nat.le_of_ble_eq_true rfl, Nat.le_of_ble_eq_true rfl⟩ ⟨Nat.le_of_ble_eq_true rfl, Nat.le_of_ble_eq_true rfl⟩ rfl (Nat.le_of_ble_eq_true rfl) 10 rfl (by intro H h; first | exact h.1 | exact h.2.1 | exact h.2.2.1 | exact h.2.2.2.1 | exact h.2.2.2.2.1 | exact h.2.2.2.2.2.1 | exact h.2.2.2.2.2.2.1 | exact h.2.2.2.2.2.2.2.1 | exact h.2.2.2.2.2.2.2.2.1 | exact h.2.2.2.2.2.2.2.2.2.1 | exact h.2.2.2.2.2.2.2.2.2.2) (Pr' := _) (fun _ h => h) (fun q z => z.elim) (fun _ _ _ h _ => by exact h) (st1 := [_]) rfl (k1 := 0) (n1 := 0) rfl rfl ?_
    refine g_if_ne hF dX10_damage_6 9 rfl 12 (by decide) (fun c => absurd (iy0.mpr h1) c) (fun _ => ?_)
    refine g_ldc hF kc_X10_118 dX10_damage_9 11 rfl ?_
    exact g_iret hF dX10_damage_11 (Nat.le_of_ble_eq_true rfl) (Nat.le_of_ble_eq_true rfl) (fun H h => hR _ _ ⟨congrArg (fun z => some (Value.int z)) (rfl), MS.mk hr h⟩)
  · have hg4 : g < 4 := by omega
    have hct : (nI t).toNatClampNeg = t := nI_clamp (by omega)
    have hcg : (nI g).toNatClampNeg = g := nI_clamp (by omega)
    have e : fDam (v, hv, d, iv, isd, ik, bg, bl, bs, nb, sd) (nI g) (nI t) = if v.2.2.2 g (10 + 4 * t) = 2 then (-1000000003, (v, hv, d, iv, isd, ik, bg, bl, bs, nb, sd)) else (v.2.2.2 g (11 + 4 * t), psh (sBrk v g t) (v, hv, d, iv, isd, ik, bg, bl, bs, nb, sd)) := by unfold fDam; dsimp only; rw [if_neg hno, hct, hcg]
    by_cases hc : v.2.2.2 g (10 + 4 * t) = 2
    · rw [e, if_pos hc] at hR
      refine g_aload_n hF dX10_damage_0 1 rfl rfl ?_
      refine g_iload_n hF dX10_damage_1 2 rfl rfl ?_
      refine g_iload_n hF dX10_damage_2 3 rfl rfl ?_
      refine g_callV hF cv_X10_90 (c_M_isLine l E c v pf im ss ik bk ws cm ls nq (nI d) (lN sd) (nI nb) wh ro T hv0 (nI g) (nI t)) dX10_damage_3 6 rfl (st := []) rfl rfl ⟨Nat.le_of_ble_eq_true rfl, Nat.le_of_ble_eq_true rfl⟩ ⟨Nat.le_of_ble_eq_true rfl, Nat.le_of_ble_eq_true rfl⟩ rfl (Nat.le_of_ble_eq_true rfl) 10 rfl (by intro H h; first | exact h.1 | exact h.2.1 | exact h.2.2.1 | exact h.2.2.2.1 | exact h.2.2.2.2.1 | exact h.2.2.2.2.2.1 | exact h.2.2.2.2.2.2.1 | exact h.2.2.2.2.2.2.2.1 | exact h.2.2.2.2.2.2.2.2.1 | exact h.2.2.2.2.2.2.2.2.2.1 | exact h.2.2.2.2.2.2.2.2.2.2) (Pr' := _) (fun _ h => h) (fun q z => z.elim) (fun _ _ _ h _ => by exact h) (st1 := [_]) rfl (k1 := 0) (n1 := 0) rfl rfl ?_
      refine g_if_ne hF dX10_damage_6 9 rfl 12 (by decide) (fun _ => ?_) (fun c => absurd c (fun y => hno (iy0.mp y)))
      refine g_aload_n hF dX10_damage_12 13 rfl rfl ?_
      refine g_iload_n hF dX10_damage_13 14 rfl rfl ?_
      refine g_iload_n hF dX10_damage_14 15 rfl rfl ?_
      refine g_iconst hF (0) dX10_damage_15 16 rfl rfl ?_
      rw [show (0 : Int32) = nI 0 by decide]
      refine g_callV hF cv_X10_73 (c_M_ofL l E c v pf im ss ik bk ws cm ls nq (nI d) (lN sd) (nI nb) wh ro g t 0 hg4 (by omega) (by omega)) dX10_damage_16 19 rfl (st := []) rfl rfl ⟨Nat.le_of_ble_eq_true rfl, Nat.le_of_ble_eq_true rfl⟩ ⟨Nat.le_of_ble_eq_true rfl, Nat.le_of_ble_eq_true rfl⟩ rfl (Nat.le_of_ble_eq_true rfl) 10 rfl (by intro H h; first | exact h.1 | exact h.2.1 | exact h.2.2.1 | exact h.2.2.2.1 | exact h.2.2.2.2.1 | exact h.2.2.2.2.2.1 | exact h.2.2.2.2.2.2.1 | exact h.2.2.2.2.2.2.2.1 | exact h.2.2.2.2.2.2.2.2.1 | exact h.2.2.2.2.2.2.2.2.2.1 | exact h.2.2.2.2.2.2.2.2.2.2) (Pr' := _) (fun _ h => h) (fun q z => z.elim) (fun _ _ _ h _ => by exact h) (st1 := [_]) rfl (k1 := 0) (n1 := 0) rfl rfl ?_
      refine g_iconst hF (2) dX10_damage_19 20 rfl rfl ?_
      refine g_icmp_ne hF dX10_damage_20 23 rfl 26 (by decide) (fun c => absurd (hc) c) (fun _ => ?_)
      refine g_ldc hF kc_X10_128 dX10_damage_23 25 rfl ?_
      exact g_iret hF dX10_damage_25 (Nat.le_of_ble_eq_true rfl) (Nat.le_of_ble_eq_true rfl) (fun H h => hR _ _ ⟨congrArg (fun z => some (Value.int z)) (rfl), MS.mk hr h⟩)
    · rw [e, if_neg hc] at hR
      obtain ⟨G', hG', G1', G4', hGc', ho, hn⟩ := okN hv0
      have hwh : v.2.2.2 g (12 + 4 * t) = -1 ∨ ∃ w, w < G' ∧ v.2.2.2 g (12 + 4 * t) = nI w := by
        rcases (ho g hg4).2.2.2.2.2 t (by omega) with ⟨-, y, -⟩ | ⟨-, y⟩ | ⟨-, y⟩
        · exact Or.inl y
        · exact Or.inr y
        · exact Or.inl y
      rcases hwh with hw | ⟨w, w4, hw⟩
      · have hv2 : sBrk v g t = (v.1, v.2.1 + 1, v.2.2.1, va_up v.2.2.2 g (upd (gLet (v.2.2.2 g) t 2) (13 + 4 * t) 0)) := by unfold sBrk; rw [if_pos hw]
        refine g_aload_n hF dX10_damage_0 1 rfl rfl ?_
        refine g_iload_n hF dX10_damage_1 2 rfl rfl ?_
        refine g_iload_n hF dX10_damage_2 3 rfl rfl ?_
        refine g_callV hF cv_X10_90 (c_M_isLine l E c v pf im ss ik bk ws cm ls nq (nI d) (lN sd) (nI nb) wh ro T hv0 (nI g) (nI t)) dX10_damage_3 6 rfl (st := []) rfl rfl ⟨Nat.le_of_ble_eq_true rfl, Nat.le_of_ble_eq_true rfl⟩ ⟨Nat.le_of_ble_eq_true rfl, Nat.le_of_ble_eq_true rfl⟩ rfl (Nat.le_of_ble_eq_true rfl) 10 rfl (by intro H h; first | exact h.1 | exact h.2.1 | exact h.2.2.1 | exact h.2.2.2.1 | exact h.2.2.2.2.1 | exact h.2.2.2.2.2.1 | exact h.2.2.2.2.2.2.1 | exact h.2.2.2.2.2.2.2.1 | exact h.2.2.2.2.2.2.2.2.1 | exact h.2.2.2.2.2.2.2.2.2.1 | exact h.2.2.2.2.2.2.2.2.2.2) (Pr' := _) (fun _ h => h) (fun q z => z.elim) (fun _ _ _ h _ => by exact h) (st1 := [_]) rfl (k1 := 0) (n1 := 0) rfl rfl ?_
        refine g_if_ne hF dX10_damage_6 9 rfl 12 (by decide) (fun _ => ?_) (fun c => absurd c (fun y => hno (iy0.mp y)))
        refine g_aload_n hF dX10_damage_12 13 rfl rfl ?_
        refine g_iload_n hF dX10_damage_13 14 rfl rfl ?_
        refine g_iload_n hF dX10_damage_14 15 rfl rfl ?_
        refine g_iconst hF (0) dX10_damage_15 16 rfl rfl ?_
        rw [show (0 : Int32) = nI 0 by decide]
        refine g_callV hF cv_X10_73 (c_M_ofL l E c v pf im ss ik bk ws cm ls nq (nI d) (lN sd) (nI nb) wh ro g t 0 hg4 (by omega) (by omega)) dX10_damage_16 19 rfl (st := []) rfl rfl ⟨Nat.le_of_ble_eq_true rfl, Nat.le_of_ble_eq_true rfl⟩ ⟨Nat.le_of_ble_eq_true rfl, Nat.le_of_ble_eq_true rfl⟩ rfl (Nat.le_of_ble_eq_true rfl) 10 rfl (by intro H h; first | exact h.1 | exact h.2.1 | exact h.2.2.1 | exact h.2.2.2.1 | exact h.2.2.2.2.1 | exact h.2.2.2.2.2.1 | exact h.2.2.2.2.2.2.1 | exact h.2.2.2.2.2.2.2.1 | exact h.2.2.2.2.2.2.2.2.1 | exact h.2.2.2.2.2.2.2.2.2.1 | exact h.2.2.2.2.2.2.2.2.2.2) (Pr' := _) (fun _ h => h) (fun q z => z.elim) (fun _ _ _ h _ => by exact h) (st1 := [_]) rfl (k1 := 0) (n1 := 0) rfl rfl ?_
        refine g_iconst hF (2) dX10_damage_19 20 rfl rfl ?_
        refine g_icmp_ne hF dX10_damage_20 23 rfl 26 (by decide) (fun _ => ?_) (fun c => absurd c (hc))
        refine g_aload_n hF dX10_damage_26 27 rfl rfl ?_
        refine g_callV hF cv_X10_122 (c_M_notes l E c v pf im ss ik bk ws cm ls nq (lN sd) (nI nb) wh ro hv d hr.1 hr.2.2.1) dX10_damage_27 30 rfl (st := []) rfl rfl ⟨Nat.le_of_ble_eq_true rfl, Nat.le_of_ble_eq_true rfl⟩ ⟨Nat.le_of_ble_eq_true rfl, Nat.le_of_ble_eq_true rfl⟩ rfl (Nat.le_of_ble_eq_true rfl) 10 rfl (by intro H h; first | exact h.1 | exact h.2.1 | exact h.2.2.1 | exact h.2.2.2.1 | exact h.2.2.2.2.1 | exact h.2.2.2.2.2.1 | exact h.2.2.2.2.2.2.1 | exact h.2.2.2.2.2.2.2.1 | exact h.2.2.2.2.2.2.2.2.1 | exact h.2.2.2.2.2.2.2.2.2.1 | exact h.2.2.2.2.2.2.2.2.2.2) (Pr' := _) (fun _ h => h) (hA) (fun _ _ _ h _ => by exact h) (st1 := []) rfl (k1 := 0) (n1 := 0) rfl rfl ?_
        refine g_ex (fun pf1 => ?_)
        refine g_pure (fun H h => h.1) (fun hp1 => ?_)
        refine g_pr (fun H h => h.2) ?_
        refine g_aload_n hF dX10_damage_30 31 rfl rfl ?_
        refine g_iload_n hF dX10_damage_31 32 rfl rfl ?_
        refine g_iload_n hF dX10_damage_32 33 rfl rfl ?_
        refine g_iconst hF (1) dX10_damage_33 34 rfl rfl ?_
        rw [show (1 : Int32) = nI 1 by decide]
        refine g_callV hF cv_X10_73 (c_M_ofL l E c v pf1 im ss ik bk ws cm ls nq (nI (pushD d)) (lN sd) (nI nb) wh ro g t 1 hg4 (by omega) (by omega)) dX10_damage_34 37 rfl (st := []) rfl rfl ⟨Nat.le_of_ble_eq_true rfl, Nat.le_of_ble_eq_true rfl⟩ ⟨Nat.le_of_ble_eq_true rfl, Nat.le_of_ble_eq_true rfl⟩ rfl (Nat.le_of_ble_eq_true rfl) 10 rfl (by intro H h; first | exact h.1 | exact h.2.1 | exact h.2.2.1 | exact h.2.2.2.1 | exact h.2.2.2.2.1 | exact h.2.2.2.2.2.1 | exact h.2.2.2.2.2.2.1 | exact h.2.2.2.2.2.2.2.1 | exact h.2.2.2.2.2.2.2.2.1 | exact h.2.2.2.2.2.2.2.2.2.1 | exact h.2.2.2.2.2.2.2.2.2.2) (Pr' := _) (fun _ h => h) (fun q z => z.elim) (fun _ _ _ h _ => by exact h) (st1 := [_]) rfl (k1 := 0) (n1 := 0) rfl rfl ?_
        rw [show 10 + 4 * t + 1 = 11 + 4 * t by omega]
        refine g_istore_n hF dX10_damage_37 38 rfl (lo' := [_, _, _, _, _]) (Nat.le_of_ble_eq_true rfl) rfl ?_
        refine g_aload_n hF dX10_damage_38 39 rfl rfl ?_
        refine g_iload_n hF dX10_damage_39 40 rfl rfl ?_
        refine g_iload_n hF dX10_damage_40 41 rfl rfl ?_
        refine g_iconst hF (2) dX10_damage_41 42 rfl rfl ?_
        rw [show (2 : Int32) = nI 2 by decide]
        refine g_callV hF cv_X10_73 (c_M_ofL l E c v pf1 im ss ik bk ws cm ls nq (nI (pushD d)) (lN sd) (nI nb) wh ro g t 2 hg4 (by omega) (by omega)) dX10_damage_42 45 rfl (st := []) rfl rfl ⟨Nat.le_of_ble_eq_true rfl, Nat.le_of_ble_eq_true rfl⟩ ⟨Nat.le_of_ble_eq_true rfl, Nat.le_of_ble_eq_true rfl⟩ rfl (Nat.le_of_ble_eq_true rfl) 10 rfl (by intro H h; first | exact h.1 | exact h.2.1 | exact h.2.2.1 | exact h.2.2.2.1 | exact h.2.2.2.2.1 | exact h.2.2.2.2.2.1 | exact h.2.2.2.2.2.2.1 | exact h.2.2.2.2.2.2.2.1 | exact h.2.2.2.2.2.2.2.2.1 | exact h.2.2.2.2.2.2.2.2.2.1 | exact h.2.2.2.2.2.2.2.2.2.2) (Pr' := _) (fun _ h => h) (fun q z => z.elim) (fun _ _ _ h _ => by exact h) (st1 := [_]) rfl (k1 := 0) (n1 := 0) rfl rfl ?_
        rw [show 10 + 4 * t + 2 = 12 + 4 * t by omega]
        refine g_istore hF dX10_damage_45 47 rfl (lo' := [_, _, _, _, _]) (Nat.le_of_ble_eq_true rfl) rfl ?_
        refine g_iload hF dX10_damage_47 49 rfl rfl ?_
        refine g_iconst hF (-1) dX10_damage_49 50 rfl rfl ?_
        refine g_icmp_eq hF dX10_damage_50 53 rfl 71 (by decide) (fun _ => ?_) (fun c => absurd (hw) c)
        refine g_aload_n hF dX10_damage_71 72 rfl rfl ?_
        refine g_get hF fl_X10_7 dX10_damage_72 75 rfl (by intro H h; first | exact h.1 | exact h.2.1 | exact h.2.2.1 | exact h.2.2.2.1 | exact h.2.2.2.2.1 | exact h.2.2.2.2.2.1 | exact h.2.2.2.2.2.2.1 | exact h.2.2.2.2.2.2.2.1 | exact h.2.2.2.2.2.2.2.2.1 | exact h.2.2.2.2.2.2.2.2.2.1 | exact h.2.2.2.2.2.2.2.2.2.2) rfl ?_
        refine g_iconst hF (1) dX10_damage_75 76 rfl rfl ?_
        refine g_dup2 hF dX10_damage_76 77 rfl rfl rfl ?_
        refine g_iald hF dX10_damage_77 78 rfl (by intro H h; first | exact h.1 | exact h.2.1 | exact h.2.2.1 | exact h.2.2.2.1 | exact h.2.2.2.2.1 | exact h.2.2.2.2.2.1 | exact h.2.2.2.2.2.2.1 | exact h.2.2.2.2.2.2.2.1 | exact h.2.2.2.2.2.2.2.2.1 | exact h.2.2.2.2.2.2.2.2.2.1 | exact h.2.2.2.2.2.2.2.2.2.2) (vp_in_nI (show 1 < 139 by omega) (by omega)) ?_
        rw [show flat v (1 : Int32).toNatClampNeg = v.2.1 from rfl]
        refine g_iconst hF (1) dX10_damage_78 79 rfl rfl ?_
        refine g_iadd hF dX10_damage_79 80 rfl ?_
        refine g_iast hF dX10_damage_80 81 rfl (by intro H h; first | exact h.1 | exact h.2.1 | exact h.2.2.1 | exact h.2.2.2.1 | exact h.2.2.2.2.1 | exact h.2.2.2.2.2.1 | exact h.2.2.2.2.2.2.1 | exact h.2.2.2.2.2.2.2.1 | exact h.2.2.2.2.2.2.2.2.1 | exact h.2.2.2.2.2.2.2.2.2.1 | exact h.2.2.2.2.2.2.2.2.2.2) (vp_in_nI (show 1 < 139 by omega) (by omega)) (hA _ ⟨by omega, by omega⟩) (Pr' := Mm E c (flat (v.1, v.2.1 + 1, v.2.2.1, v.2.2.2)) pf1 im ss ik bk ws cm ls nq (nI (pushD d)) (lN sd) (nI nb) wh ro) (fun H H' h h1 h2 => by rw [show (1 : Int32).toNatClampNeg = 1 by decide] at h1; exact (h.nw h1 h2).to (fun k _ => flat_1 v _ k)) ?_
        refine g_aload_n hF dX10_damage_81 82 rfl rfl ?_
        refine g_iload_n hF dX10_damage_82 83 rfl rfl ?_
        refine g_iload_n hF dX10_damage_83 84 rfl rfl ?_
        refine g_iconst hF (2) dX10_damage_84 85 rfl rfl ?_
        refine g_iconst hF (-1) dX10_damage_85 86 rfl rfl ?_
        refine g_iconst hF (-1) dX10_damage_86 87 rfl rfl ?_
        refine g_iconst hF (0) dX10_damage_87 88 rfl rfl ?_
        refine g_callV hF cv_X10_62 (c_M_putL l E c (v.1, v.2.1 + 1, v.2.2.1, v.2.2.2) pf1 im ss ik bk ws cm ls nq (nI (pushD d)) (lN sd) (nI nb) wh ro g t 2 (-1) (-1) 0 hg4 (by omega)) dX10_damage_88 91 rfl (st := []) rfl rfl ⟨Nat.le_of_ble_eq_true rfl, Nat.le_of_ble_eq_true rfl⟩ ⟨Nat.le_of_ble_eq_true rfl, Nat.le_of_ble_eq_true rfl⟩ rfl (Nat.le_of_ble_eq_true rfl) 10 rfl (by intro H h; first | exact h.1 | exact h.2.1 | exact h.2.2.1 | exact h.2.2.2.1 | exact h.2.2.2.2.1 | exact h.2.2.2.2.2.1 | exact h.2.2.2.2.2.2.1 | exact h.2.2.2.2.2.2.2.1 | exact h.2.2.2.2.2.2.2.2.1 | exact h.2.2.2.2.2.2.2.2.2.1 | exact h.2.2.2.2.2.2.2.2.2.2) (Pr' := Mm E c (flat (sBrk v g t)) pf1 im ss ik bk ws cm ls nq (nI (pushD d)) (lN sd) (nI nb) wh ro) (fun _ h => h) (hA) (fun H H' h h1 h2 => by rw [hv2]; exact h1) (st1 := []) rfl (k1 := 0) (n1 := 0) rfl rfl ?_
        refine g_iload_n hF dX10_damage_91 92 rfl rfl ?_
        exact g_iret hF dX10_damage_92 (Nat.le_of_ble_eq_true rfl) (Nat.le_of_ble_eq_true rfl) (fun H h => hR _ _ ⟨congrArg (fun z => some (Value.int z)) (rfl), MS.mk (hr.push hp1) h⟩)
      · have hw4 : w < 4 := by omega
        have hv2 : sBrk v g t = (v.1, v.2.1 + 1, v.2.2.1, va_up (va_up v.2.2.2 w (upd (v.2.2.2 w) 9 (v.2.2.2 w 9 + 1))) g (upd (gLet ((va_up v.2.2.2 w (upd (v.2.2.2 w) 9 (v.2.2.2 w 9 + 1))) g) t 2) (13 + 4 * t) 0)) := by unfold sBrk; rw [hw, if_neg (nI_nm1 (by omega)), nI_clamp (by omega)]
        refine g_aload_n hF dX10_damage_0 1 rfl rfl ?_
        refine g_iload_n hF dX10_damage_1 2 rfl rfl ?_
        refine g_iload_n hF dX10_damage_2 3 rfl rfl ?_
        refine g_callV hF cv_X10_90 (c_M_isLine l E c v pf im ss ik bk ws cm ls nq (nI d) (lN sd) (nI nb) wh ro T hv0 (nI g) (nI t)) dX10_damage_3 6 rfl (st := []) rfl rfl ⟨Nat.le_of_ble_eq_true rfl, Nat.le_of_ble_eq_true rfl⟩ ⟨Nat.le_of_ble_eq_true rfl, Nat.le_of_ble_eq_true rfl⟩ rfl (Nat.le_of_ble_eq_true rfl) 10 rfl (by intro H h; first | exact h.1 | exact h.2.1 | exact h.2.2.1 | exact h.2.2.2.1 | exact h.2.2.2.2.1 | exact h.2.2.2.2.2.1 | exact h.2.2.2.2.2.2.1 | exact h.2.2.2.2.2.2.2.1 | exact h.2.2.2.2.2.2.2.2.1 | exact h.2.2.2.2.2.2.2.2.2.1 | exact h.2.2.2.2.2.2.2.2.2.2) (Pr' := _) (fun _ h => h) (fun q z => z.elim) (fun _ _ _ h _ => by exact h) (st1 := [_]) rfl (k1 := 0) (n1 := 0) rfl rfl ?_
        refine g_if_ne hF dX10_damage_6 9 rfl 12 (by decide) (fun _ => ?_) (fun c => absurd c (fun y => hno (iy0.mp y)))
        refine g_aload_n hF dX10_damage_12 13 rfl rfl ?_
        refine g_iload_n hF dX10_damage_13 14 rfl rfl ?_
        refine g_iload_n hF dX10_damage_14 15 rfl rfl ?_
        refine g_iconst hF (0) dX10_damage_15 16 rfl rfl ?_
        rw [show (0 : Int32) = nI 0 by decide]
        refine g_callV hF cv_X10_73 (c_M_ofL l E c v pf im ss ik bk ws cm ls nq (nI d) (lN sd) (nI nb) wh ro g t 0 hg4 (by omega) (by omega)) dX10_damage_16 19 rfl (st := []) rfl rfl ⟨Nat.le_of_ble_eq_true rfl, Nat.le_of_ble_eq_true rfl⟩ ⟨Nat.le_of_ble_eq_true rfl, Nat.le_of_ble_eq_true rfl⟩ rfl (Nat.le_of_ble_eq_true rfl) 10 rfl (by intro H h; first | exact h.1 | exact h.2.1 | exact h.2.2.1 | exact h.2.2.2.1 | exact h.2.2.2.2.1 | exact h.2.2.2.2.2.1 | exact h.2.2.2.2.2.2.1 | exact h.2.2.2.2.2.2.2.1 | exact h.2.2.2.2.2.2.2.2.1 | exact h.2.2.2.2.2.2.2.2.2.1 | exact h.2.2.2.2.2.2.2.2.2.2) (Pr' := _) (fun _ h => h) (fun q z => z.elim) (fun _ _ _ h _ => by exact h) (st1 := [_]) rfl (k1 := 0) (n1 := 0) rfl rfl ?_
        refine g_iconst hF (2) dX10_damage_19 20 rfl rfl ?_
        refine g_icmp_ne hF dX10_damage_20 23 rfl 26 (by decide) (fun _ => ?_) (fun c => absurd c (hc))
        refine g_aload_n hF dX10_damage_26 27 rfl rfl ?_
        refine g_callV hF cv_X10_122 (c_M_notes l E c v pf im ss ik bk ws cm ls nq (lN sd) (nI nb) wh ro hv d hr.1 hr.2.2.1) dX10_damage_27 30 rfl (st := []) rfl rfl ⟨Nat.le_of_ble_eq_true rfl, Nat.le_of_ble_eq_true rfl⟩ ⟨Nat.le_of_ble_eq_true rfl, Nat.le_of_ble_eq_true rfl⟩ rfl (Nat.le_of_ble_eq_true rfl) 10 rfl (by intro H h; first | exact h.1 | exact h.2.1 | exact h.2.2.1 | exact h.2.2.2.1 | exact h.2.2.2.2.1 | exact h.2.2.2.2.2.1 | exact h.2.2.2.2.2.2.1 | exact h.2.2.2.2.2.2.2.1 | exact h.2.2.2.2.2.2.2.2.1 | exact h.2.2.2.2.2.2.2.2.2.1 | exact h.2.2.2.2.2.2.2.2.2.2) (Pr' := _) (fun _ h => h) (hA) (fun _ _ _ h _ => by exact h) (st1 := []) rfl (k1 := 0) (n1 := 0) rfl rfl ?_
        refine g_ex (fun pf1 => ?_)
        refine g_pure (fun H h => h.1) (fun hp1 => ?_)
        refine g_pr (fun H h => h.2) ?_
        refine g_aload_n hF dX10_damage_30 31 rfl rfl ?_
        refine g_iload_n hF dX10_damage_31 32 rfl rfl ?_
        refine g_iload_n hF dX10_damage_32 33 rfl rfl ?_
        refine g_iconst hF (1) dX10_damage_33 34 rfl rfl ?_
        rw [show (1 : Int32) = nI 1 by decide]
        refine g_callV hF cv_X10_73 (c_M_ofL l E c v pf1 im ss ik bk ws cm ls nq (nI (pushD d)) (lN sd) (nI nb) wh ro g t 1 hg4 (by omega) (by omega)) dX10_damage_34 37 rfl (st := []) rfl rfl ⟨Nat.le_of_ble_eq_true rfl, Nat.le_of_ble_eq_true rfl⟩ ⟨Nat.le_of_ble_eq_true rfl, Nat.le_of_ble_eq_true rfl⟩ rfl (Nat.le_of_ble_eq_true rfl) 10 rfl (by intro H h; first | exact h.1 | exact h.2.1 | exact h.2.2.1 | exact h.2.2.2.1 | exact h.2.2.2.2.1 | exact h.2.2.2.2.2.1 | exact h.2.2.2.2.2.2.1 | exact h.2.2.2.2.2.2.2.1 | exact h.2.2.2.2.2.2.2.2.1 | exact h.2.2.2.2.2.2.2.2.2.1 | exact h.2.2.2.2.2.2.2.2.2.2) (Pr' := _) (fun _ h => h) (fun q z => z.elim) (fun _ _ _ h _ => by exact h) (st1 := [_]) rfl (k1 := 0) (n1 := 0) rfl rfl ?_
        rw [show 10 + 4 * t + 1 = 11 + 4 * t by omega]
        refine g_istore_n hF dX10_damage_37 38 rfl (lo' := [_, _, _, _, _]) (Nat.le_of_ble_eq_true rfl) rfl ?_
        refine g_aload_n hF dX10_damage_38 39 rfl rfl ?_
        refine g_iload_n hF dX10_damage_39 40 rfl rfl ?_
        refine g_iload_n hF dX10_damage_40 41 rfl rfl ?_
        refine g_iconst hF (2) dX10_damage_41 42 rfl rfl ?_
        rw [show (2 : Int32) = nI 2 by decide]
        refine g_callV hF cv_X10_73 (c_M_ofL l E c v pf1 im ss ik bk ws cm ls nq (nI (pushD d)) (lN sd) (nI nb) wh ro g t 2 hg4 (by omega) (by omega)) dX10_damage_42 45 rfl (st := []) rfl rfl ⟨Nat.le_of_ble_eq_true rfl, Nat.le_of_ble_eq_true rfl⟩ ⟨Nat.le_of_ble_eq_true rfl, Nat.le_of_ble_eq_true rfl⟩ rfl (Nat.le_of_ble_eq_true rfl) 10 rfl (by intro H h; first | exact h.1 | exact h.2.1 | exact h.2.2.1 | exact h.2.2.2.1 | exact h.2.2.2.2.1 | exact h.2.2.2.2.2.1 | exact h.2.2.2.2.2.2.1 | exact h.2.2.2.2.2.2.2.1 | exact h.2.2.2.2.2.2.2.2.1 | exact h.2.2.2.2.2.2.2.2.2.1 | exact h.2.2.2.2.2.2.2.2.2.2) (Pr' := _) (fun _ h => h) (fun q z => z.elim) (fun _ _ _ h _ => by exact h) (st1 := [_]) rfl (k1 := 0) (n1 := 0) rfl rfl ?_
        rw [show 10 + 4 * t + 2 = 12 + 4 * t by omega]
        refine g_istore hF dX10_damage_45 47 rfl (lo' := [_, _, _, _, _]) (Nat.le_of_ble_eq_true rfl) rfl ?_
        refine g_iload hF dX10_damage_47 49 rfl rfl ?_
        refine g_iconst hF (-1) dX10_damage_49 50 rfl rfl ?_
        refine g_icmp_eq hF dX10_damage_50 53 rfl 71 (by decide) (fun c => absurd c (by rw [hw]; exact nI_nm1 (by omega))) (fun _ => ?_)
        refine g_aload_n hF dX10_damage_53 54 rfl rfl ?_
        refine g_iload hF dX10_damage_54 56 rfl rfl ?_
        refine g_bipush hF (9) dX10_damage_56 58 rfl rfl ?_
        refine g_aload_n hF dX10_damage_58 59 rfl rfl ?_
        refine g_iload hF dX10_damage_59 61 rfl rfl ?_
        refine g_bipush hF (9) dX10_damage_61 63 rfl rfl ?_
        rw [hw, show (9 : Int32) = nI 9 by decide]
        refine g_callV hF cv_X10_54 (c_M_of l E c v pf1 im ss ik bk ws cm ls nq (nI (pushD d)) (lN sd) (nI nb) wh ro w 9 hw4 (by omega)) dX10_damage_63 66 rfl (st := [_, _, _]) rfl rfl ⟨Nat.le_of_ble_eq_true rfl, Nat.le_of_ble_eq_true rfl⟩ ⟨Nat.le_of_ble_eq_true rfl, Nat.le_of_ble_eq_true rfl⟩ rfl (Nat.le_of_ble_eq_true rfl) 10 rfl (by intro H h; first | exact h.1 | exact h.2.1 | exact h.2.2.1 | exact h.2.2.2.1 | exact h.2.2.2.2.1 | exact h.2.2.2.2.2.1 | exact h.2.2.2.2.2.2.1 | exact h.2.2.2.2.2.2.2.1 | exact h.2.2.2.2.2.2.2.2.1 | exact h.2.2.2.2.2.2.2.2.2.1 | exact h.2.2.2.2.2.2.2.2.2.2) (Pr' := _) (fun _ h => h) (fun q z => z.elim) (fun _ _ _ h _ => by exact h) (st1 := [_, _, _, _]) rfl (k1 := 0) (n1 := 0) rfl rfl ?_
        refine g_iconst hF (1) dX10_damage_66 67 rfl rfl ?_
        refine g_iadd hF dX10_damage_67 68 rfl ?_
        refine g_callV hF cv_X10_58 (c_M_put l E c v pf1 im ss ik bk ws cm ls nq (nI (pushD d)) (lN sd) (nI nb) wh ro w 9 (v.2.2.2 w 9 + 1) hw4 (by omega)) dX10_damage_68 71 rfl (st := []) rfl rfl ⟨Nat.le_of_ble_eq_true rfl, Nat.le_of_ble_eq_true rfl⟩ ⟨Nat.le_of_ble_eq_true rfl, Nat.le_of_ble_eq_true rfl⟩ rfl (Nat.le_of_ble_eq_true rfl) 10 rfl (by intro H h; first | exact h.1 | exact h.2.1 | exact h.2.2.1 | exact h.2.2.2.1 | exact h.2.2.2.2.1 | exact h.2.2.2.2.2.1 | exact h.2.2.2.2.2.2.1 | exact h.2.2.2.2.2.2.2.1 | exact h.2.2.2.2.2.2.2.2.1 | exact h.2.2.2.2.2.2.2.2.2.1 | exact h.2.2.2.2.2.2.2.2.2.2) (Pr' := Mm E c (flat (v.1, v.2.1, v.2.2.1, (va_up v.2.2.2 w (upd (v.2.2.2 w) 9 (v.2.2.2 w 9 + 1))))) pf1 im ss ik bk ws cm ls nq (nI (pushD d)) (lN sd) (nI nb) wh ro) (fun _ h => h) (hA) (fun _ _ _ h _ => by exact h) (st1 := []) rfl (k1 := 0) (n1 := 0) rfl rfl ?_
        refine g_aload_n hF dX10_damage_71 72 rfl rfl ?_
        refine g_get hF fl_X10_7 dX10_damage_72 75 rfl (by intro H h; first | exact h.1 | exact h.2.1 | exact h.2.2.1 | exact h.2.2.2.1 | exact h.2.2.2.2.1 | exact h.2.2.2.2.2.1 | exact h.2.2.2.2.2.2.1 | exact h.2.2.2.2.2.2.2.1 | exact h.2.2.2.2.2.2.2.2.1 | exact h.2.2.2.2.2.2.2.2.2.1 | exact h.2.2.2.2.2.2.2.2.2.2) rfl ?_
        refine g_iconst hF (1) dX10_damage_75 76 rfl rfl ?_
        refine g_dup2 hF dX10_damage_76 77 rfl rfl rfl ?_
        refine g_iald hF dX10_damage_77 78 rfl (by intro H h; first | exact h.1 | exact h.2.1 | exact h.2.2.1 | exact h.2.2.2.1 | exact h.2.2.2.2.1 | exact h.2.2.2.2.2.1 | exact h.2.2.2.2.2.2.1 | exact h.2.2.2.2.2.2.2.1 | exact h.2.2.2.2.2.2.2.2.1 | exact h.2.2.2.2.2.2.2.2.2.1 | exact h.2.2.2.2.2.2.2.2.2.2) (vp_in_nI (show 1 < 139 by omega) (by omega)) ?_
        rw [show flat (v.1, v.2.1, v.2.2.1, (va_up v.2.2.2 w (upd (v.2.2.2 w) 9 (v.2.2.2 w 9 + 1)))) (1 : Int32).toNatClampNeg = v.2.1 from rfl]
        refine g_iconst hF (1) dX10_damage_78 79 rfl rfl ?_
        refine g_iadd hF dX10_damage_79 80 rfl ?_
        refine g_iast hF dX10_damage_80 81 rfl (by intro H h; first | exact h.1 | exact h.2.1 | exact h.2.2.1 | exact h.2.2.2.1 | exact h.2.2.2.2.1 | exact h.2.2.2.2.2.1 | exact h.2.2.2.2.2.2.1 | exact h.2.2.2.2.2.2.2.1 | exact h.2.2.2.2.2.2.2.2.1 | exact h.2.2.2.2.2.2.2.2.2.1 | exact h.2.2.2.2.2.2.2.2.2.2) (vp_in_nI (show 1 < 139 by omega) (by omega)) (hA _ ⟨by omega, by omega⟩) (Pr' := Mm E c (flat (v.1, v.2.1 + 1, v.2.2.1, (va_up v.2.2.2 w (upd (v.2.2.2 w) 9 (v.2.2.2 w 9 + 1))))) pf1 im ss ik bk ws cm ls nq (nI (pushD d)) (lN sd) (nI nb) wh ro) (fun H H' h h1 h2 => by rw [show (1 : Int32).toNatClampNeg = 1 by decide] at h1; exact (h.nw h1 h2).to (fun k _ => flat_1 (v.1, v.2.1, v.2.2.1, (va_up v.2.2.2 w (upd (v.2.2.2 w) 9 (v.2.2.2 w 9 + 1)))) _ k)) ?_
        refine g_aload_n hF dX10_damage_81 82 rfl rfl ?_
        refine g_iload_n hF dX10_damage_82 83 rfl rfl ?_
        refine g_iload_n hF dX10_damage_83 84 rfl rfl ?_
        refine g_iconst hF (2) dX10_damage_84 85 rfl rfl ?_
        refine g_iconst hF (-1) dX10_damage_85 86 rfl rfl ?_
        refine g_iconst hF (-1) dX10_damage_86 87 rfl rfl ?_
        refine g_iconst hF (0) dX10_damage_87 88 rfl rfl ?_
        refine g_callV hF cv_X10_62 (c_M_putL l E c (v.1, v.2.1 + 1, v.2.2.1, (va_up v.2.2.2 w (upd (v.2.2.2 w) 9 (v.2.2.2 w 9 + 1)))) pf1 im ss ik bk ws cm ls nq (nI (pushD d)) (lN sd) (nI nb) wh ro g t 2 (-1) (-1) 0 hg4 (by omega)) dX10_damage_88 91 rfl (st := []) rfl rfl ⟨Nat.le_of_ble_eq_true rfl, Nat.le_of_ble_eq_true rfl⟩ ⟨Nat.le_of_ble_eq_true rfl, Nat.le_of_ble_eq_true rfl⟩ rfl (Nat.le_of_ble_eq_true rfl) 10 rfl (by intro H h; first | exact h.1 | exact h.2.1 | exact h.2.2.1 | exact h.2.2.2.1 | exact h.2.2.2.2.1 | exact h.2.2.2.2.2.1 | exact h.2.2.2.2.2.2.1 | exact h.2.2.2.2.2.2.2.1 | exact h.2.2.2.2.2.2.2.2.1 | exact h.2.2.2.2.2.2.2.2.2.1 | exact h.2.2.2.2.2.2.2.2.2.2) (Pr' := Mm E c (flat (sBrk v g t)) pf1 im ss ik bk ws cm ls nq (nI (pushD d)) (lN sd) (nI nb) wh ro) (fun _ h => h) (hA) (fun H H' h h1 h2 => by rw [hv2]; exact h1) (st1 := []) rfl (k1 := 0) (n1 := 0) rfl rfl ?_
        refine g_iload_n hF dX10_damage_91 92 rfl rfl ?_
        exact g_iret hF dX10_damage_92 (Nat.le_of_ble_eq_true rfl) (Nat.le_of_ble_eq_true rfl) (fun H h => hR _ _ ⟨congrArg (fun z => some (Value.int z)) (rfl), MS.mk (hr.push hp1) h⟩)
set_option maxRecDepth 100000 in
set_option maxHeartbeats 16000000 in
theorem c_E_mend (l : Launch) (E : Ev) (c T : Nat) (σ : AS) (hv0 : okV T σ.1) (z i : Int32) : Ct l E yX10_mend cX10_mend 3 (some .int) (rm 6) [.ref c, .int z, .int i] (MS E c σ) (rV (some (.int (fMend σ z i).1)) (MS E c (fMend σ z i).2)) (rg c 11) := by
  refine ct_start (by decide) [some (.ref c), some (.int z), some (.int i)] rfl (Nat.le_of_ble_eq_true rfl) ?_
  intro x hF hN hA hR
  obtain ⟨v, hv, d, iv, isd, ik, bg, bl, bs, nb, sd⟩ := σ
  refine g_openM (fun pf im ss bk ws cm ls nq wh ro hr => ?_)
  dsimp only at hv0
  rcases line_cases hv0 z i with ⟨h1, G, hG, G4, h2⟩ | ⟨G, g, N, t, hG, G4, hg, rfl, n0, n6, ht, rfl, hno⟩
  · rw [show fMend (v, hv, d, iv, isd, ik, bg, bl, bs, nb, sd) z i = (-1000000001, (v, hv, d, iv, isd, ik, bg, bl, bs, nb, sd)) from if_pos h1] at hR
    refine g_aload_n hF dX10_mend_0 1 rfl rfl ?_
    refine g_iload_n hF dX10_mend_1 2 rfl rfl ?_
    refine g_iload_n hF dX10_mend_2 3 rfl rfl ?_
    refine g_callV hF cv_X10_90 (c_M_isLine l E c v pf im ss ik bk ws cm ls nq (nI d) (lN sd) (nI nb) wh ro T hv0 z i) dX10_mend_3 6 rfl (st := []) rfl rfl ⟨Nat.le_of_ble_eq_true rfl, Nat.le_of_ble_eq_true rfl⟩ ⟨Nat.le_of_ble_eq_true rfl, Nat.le_of_ble_eq_true rfl⟩ rfl (Nat.le_of_ble_eq_true rfl) 10 rfl (by intro H h; first | exact h.1 | exact h.2.1 | exact h.2.2.1 | exact h.2.2.2.1 | exact h.2.2.2.2.1 | exact h.2.2.2.2.2.1 | exact h.2.2.2.2.2.2.1 | exact h.2.2.2.2.2.2.2.1 | exact h.2.2.2.2.2.2.2.2.1 | exact h.2.2.2.2.2.2.2.2.2.1 | exact h.2.2.2.2.2.2.2.2.2.2) (Pr' := _) (fun _ h => h) (fun q z => z.elim) (fun _ _ _ h _ => by exact h) (st1 := [_]) rfl (k1 := 0) (n1 := 0) rfl rfl ?_
    refine g_if_ne hF dX10_mend_6 9 rfl 12 (by decide) (fun c => absurd (iy0.mpr h1) c) (fun _ => ?_)
    refine g_ldc hF kc_X10_118 dX10_mend_9 11 rfl ?_
    exact g_iret hF dX10_mend_11 (Nat.le_of_ble_eq_true rfl) (Nat.le_of_ble_eq_true rfl) (fun H h => hR _ _ ⟨congrArg (fun z => some (Value.int z)) (rfl), MS.mk hr h⟩)
  · have hg4 : g < 4 := by omega
    have hct : (nI t).toNatClampNeg = t := nI_clamp (by omega)
    have hcg : (nI g).toNatClampNeg = g := nI_clamp (by omega)
    have e : fMend (v, hv, d, iv, isd, ik, bg, bl, bs, nb, sd) (nI g) (nI t) = if ¬ v.2.2.2 g (10 + 4 * t) = 2 then (-1000000003, (v, hv, d, iv, isd, ik, bg, bl, bs, nb, sd)) else (cnt ((sEnd v g t).2.2.2 g) 0, psh (sEnd v g t) (v, hv, d, iv, isd, ik, bg, bl, bs, nb, sd)) := by unfold fMend; dsimp only; rw [if_neg hno, hct, hcg]
    by_cases hc : v.2.2.2 g (10 + 4 * t) = 2
    · rw [e, if_neg (fun q => q hc)] at hR
      have hn1 : (sEnd v g t).2.2.2 g 0 = nI N := by
        show va_up v.2.2.2 g (upd (gLet (v.2.2.2 g) t 0) (13 + 4 * t) (v.2.1 + 1)) g 0 = nI N
        rw [va_up_self]
        unfold gLet
        rw [pk_un (by omega), pk_un (by omega), pk_un (by omega), pk_un (by omega)]
        exact n0
      refine g_aload_n hF dX10_mend_0 1 rfl rfl ?_
      refine g_iload_n hF dX10_mend_1 2 rfl rfl ?_
      refine g_iload_n hF dX10_mend_2 3 rfl rfl ?_
      refine g_callV hF cv_X10_90 (c_M_isLine l E c v pf im ss ik bk ws cm ls nq (nI d) (lN sd) (nI nb) wh ro T hv0 (nI g) (nI t)) dX10_mend_3 6 rfl (st := []) rfl rfl ⟨Nat.le_of_ble_eq_true rfl, Nat.le_of_ble_eq_true rfl⟩ ⟨Nat.le_of_ble_eq_true rfl, Nat.le_of_ble_eq_true rfl⟩ rfl (Nat.le_of_ble_eq_true rfl) 10 rfl (by intro H h; first | exact h.1 | exact h.2.1 | exact h.2.2.1 | exact h.2.2.2.1 | exact h.2.2.2.2.1 | exact h.2.2.2.2.2.1 | exact h.2.2.2.2.2.2.1 | exact h.2.2.2.2.2.2.2.1 | exact h.2.2.2.2.2.2.2.2.1 | exact h.2.2.2.2.2.2.2.2.2.1 | exact h.2.2.2.2.2.2.2.2.2.2) (Pr' := _) (fun _ h => h) (fun q z => z.elim) (fun _ _ _ h _ => by exact h) (st1 := [_]) rfl (k1 := 0) (n1 := 0) rfl rfl ?_
      refine g_if_ne hF dX10_mend_6 9 rfl 12 (by decide) (fun _ => ?_) (fun c => absurd c (fun y => hno (iy0.mp y)))
      refine g_aload_n hF dX10_mend_12 13 rfl rfl ?_
      refine g_iload_n hF dX10_mend_13 14 rfl rfl ?_
      refine g_iload_n hF dX10_mend_14 15 rfl rfl ?_
      refine g_iconst hF (0) dX10_mend_15 16 rfl rfl ?_
      rw [show (0 : Int32) = nI 0 by decide]
      refine g_callV hF cv_X10_73 (c_M_ofL l E c v pf im ss ik bk ws cm ls nq (nI d) (lN sd) (nI nb) wh ro g t 0 hg4 (by omega) (by omega)) dX10_mend_16 19 rfl (st := []) rfl rfl ⟨Nat.le_of_ble_eq_true rfl, Nat.le_of_ble_eq_true rfl⟩ ⟨Nat.le_of_ble_eq_true rfl, Nat.le_of_ble_eq_true rfl⟩ rfl (Nat.le_of_ble_eq_true rfl) 10 rfl (by intro H h; first | exact h.1 | exact h.2.1 | exact h.2.2.1 | exact h.2.2.2.1 | exact h.2.2.2.2.1 | exact h.2.2.2.2.2.1 | exact h.2.2.2.2.2.2.1 | exact h.2.2.2.2.2.2.2.1 | exact h.2.2.2.2.2.2.2.2.1 | exact h.2.2.2.2.2.2.2.2.2.1 | exact h.2.2.2.2.2.2.2.2.2.2) (Pr' := _) (fun _ h => h) (fun q z => z.elim) (fun _ _ _ h _ => by exact h) (st1 := [_]) rfl (k1 := 0) (n1 := 0) rfl rfl ?_
      refine g_iconst hF (2) dX10_mend_19 20 rfl rfl ?_
      refine g_icmp_eq hF dX10_mend_20 23 rfl 26 (by decide) (fun _ => ?_) (fun c => absurd (hc) c)
      refine g_aload_n hF dX10_mend_26 27 rfl rfl ?_
      refine g_callV hF cv_X10_122 (c_M_notes l E c v pf im ss ik bk ws cm ls nq (lN sd) (nI nb) wh ro hv d hr.1 hr.2.2.1) dX10_mend_27 30 rfl (st := []) rfl rfl ⟨Nat.le_of_ble_eq_true rfl, Nat.le_of_ble_eq_true rfl⟩ ⟨Nat.le_of_ble_eq_true rfl, Nat.le_of_ble_eq_true rfl⟩ rfl (Nat.le_of_ble_eq_true rfl) 10 rfl (by intro H h; first | exact h.1 | exact h.2.1 | exact h.2.2.1 | exact h.2.2.2.1 | exact h.2.2.2.2.1 | exact h.2.2.2.2.2.1 | exact h.2.2.2.2.2.2.1 | exact h.2.2.2.2.2.2.2.1 | exact h.2.2.2.2.2.2.2.2.1 | exact h.2.2.2.2.2.2.2.2.2.1 | exact h.2.2.2.2.2.2.2.2.2.2) (Pr' := _) (fun _ h => h) (hA) (fun _ _ _ h _ => by exact h) (st1 := []) rfl (k1 := 0) (n1 := 0) rfl rfl ?_
      refine g_ex (fun pf1 => ?_)
      refine g_pure (fun H h => h.1) (fun hp1 => ?_)
      refine g_pr (fun H h => h.2) ?_
      refine g_aload_n hF dX10_mend_30 31 rfl rfl ?_
      refine g_get hF fl_X10_7 dX10_mend_31 34 rfl (by intro H h; first | exact h.1 | exact h.2.1 | exact h.2.2.1 | exact h.2.2.2.1 | exact h.2.2.2.2.1 | exact h.2.2.2.2.2.1 | exact h.2.2.2.2.2.2.1 | exact h.2.2.2.2.2.2.2.1 | exact h.2.2.2.2.2.2.2.2.1 | exact h.2.2.2.2.2.2.2.2.2.1 | exact h.2.2.2.2.2.2.2.2.2.2) rfl ?_
      refine g_iconst hF (1) dX10_mend_34 35 rfl rfl ?_
      refine g_dup2 hF dX10_mend_35 36 rfl rfl rfl ?_
      refine g_iald hF dX10_mend_36 37 rfl (by intro H h; first | exact h.1 | exact h.2.1 | exact h.2.2.1 | exact h.2.2.2.1 | exact h.2.2.2.2.1 | exact h.2.2.2.2.2.1 | exact h.2.2.2.2.2.2.1 | exact h.2.2.2.2.2.2.2.1 | exact h.2.2.2.2.2.2.2.2.1 | exact h.2.2.2.2.2.2.2.2.2.1 | exact h.2.2.2.2.2.2.2.2.2.2) (vp_in_nI (show 1 < 139 by omega) (by omega)) ?_
      rw [show flat v (1 : Int32).toNatClampNeg = v.2.1 from rfl]
      refine g_iconst hF (1) dX10_mend_37 38 rfl rfl ?_
      refine g_iadd hF dX10_mend_38 39 rfl ?_
      refine g_iast hF dX10_mend_39 40 rfl (by intro H h; first | exact h.1 | exact h.2.1 | exact h.2.2.1 | exact h.2.2.2.1 | exact h.2.2.2.2.1 | exact h.2.2.2.2.2.1 | exact h.2.2.2.2.2.2.1 | exact h.2.2.2.2.2.2.2.1 | exact h.2.2.2.2.2.2.2.2.1 | exact h.2.2.2.2.2.2.2.2.2.1 | exact h.2.2.2.2.2.2.2.2.2.2) (vp_in_nI (show 1 < 139 by omega) (by omega)) (hA _ ⟨by omega, by omega⟩) (Pr' := Mm E c (flat (v.1, v.2.1 + 1, v.2.2.1, v.2.2.2)) pf1 im ss ik bk ws cm ls nq (nI (pushD d)) (lN sd) (nI nb) wh ro) (fun H H' h h1 h2 => by rw [show (1 : Int32).toNatClampNeg = 1 by decide] at h1; exact (h.nw h1 h2).to (fun k _ => flat_1 v _ k)) ?_
      refine g_aload_n hF dX10_mend_40 41 rfl rfl ?_
      refine g_iload_n hF dX10_mend_41 42 rfl rfl ?_
      refine g_iload_n hF dX10_mend_42 43 rfl rfl ?_
      refine g_iconst hF (0) dX10_mend_43 44 rfl rfl ?_
      refine g_iconst hF (-1) dX10_mend_44 45 rfl rfl ?_
      refine g_iconst hF (-1) dX10_mend_45 46 rfl rfl ?_
      refine g_aload_n hF dX10_mend_46 47 rfl rfl ?_
      refine g_get hF fl_X10_7 dX10_mend_47 50 rfl (by intro H h; first | exact h.1 | exact h.2.1 | exact h.2.2.1 | exact h.2.2.2.1 | exact h.2.2.2.2.1 | exact h.2.2.2.2.2.1 | exact h.2.2.2.2.2.2.1 | exact h.2.2.2.2.2.2.2.1 | exact h.2.2.2.2.2.2.2.2.1 | exact h.2.2.2.2.2.2.2.2.2.1 | exact h.2.2.2.2.2.2.2.2.2.2) rfl ?_
      refine g_iconst hF (1) dX10_mend_50 51 rfl rfl ?_
      refine g_iald hF dX10_mend_51 52 rfl (by intro H h; first | exact h.1 | exact h.2.1 | exact h.2.2.1 | exact h.2.2.2.1 | exact h.2.2.2.2.1 | exact h.2.2.2.2.2.1 | exact h.2.2.2.2.2.2.1 | exact h.2.2.2.2.2.2.2.1 | exact h.2.2.2.2.2.2.2.2.1 | exact h.2.2.2.2.2.2.2.2.2.1 | exact h.2.2.2.2.2.2.2.2.2.2) (vp_in_nI (show 1 < 139 by omega) (by omega)) ?_
      rw [show flat (v.1, v.2.1 + 1, v.2.2.1, v.2.2.2) (1 : Int32).toNatClampNeg = v.2.1 + 1 from rfl]
      refine g_callV hF cv_X10_62 (c_M_putL l E c (v.1, v.2.1 + 1, v.2.2.1, v.2.2.2) pf1 im ss ik bk ws cm ls nq (nI (pushD d)) (lN sd) (nI nb) wh ro g t 0 (-1) (-1) (v.2.1 + 1) hg4 (by omega)) dX10_mend_52 55 rfl (st := []) rfl rfl ⟨Nat.le_of_ble_eq_true rfl, Nat.le_of_ble_eq_true rfl⟩ ⟨Nat.le_of_ble_eq_true rfl, Nat.le_of_ble_eq_true rfl⟩ rfl (Nat.le_of_ble_eq_true rfl) 10 rfl (by intro H h; first | exact h.1 | exact h.2.1 | exact h.2.2.1 | exact h.2.2.2.1 | exact h.2.2.2.2.1 | exact h.2.2.2.2.2.1 | exact h.2.2.2.2.2.2.1 | exact h.2.2.2.2.2.2.2.1 | exact h.2.2.2.2.2.2.2.2.1 | exact h.2.2.2.2.2.2.2.2.2.1 | exact h.2.2.2.2.2.2.2.2.2.2) (Pr' := Mm E c (flat (sEnd v g t)) pf1 im ss ik bk ws cm ls nq (nI (pushD d)) (lN sd) (nI nb) wh ro) (fun _ h => h) (hA) (fun _ _ _ h _ => by exact h) (st1 := []) rfl (k1 := 0) (n1 := 0) rfl rfl ?_
      refine g_aload_n hF dX10_mend_55 56 rfl rfl ?_
      refine g_iload_n hF dX10_mend_56 57 rfl rfl ?_
      refine g_iconst hF (0) dX10_mend_57 58 rfl rfl ?_
      refine g_callV hF cv_X10_77 (c_M_setOf l E c (sEnd v g t) pf1 im ss ik bk ws cm ls nq (nI (pushD d)) (lN sd) (nI nb) wh ro g N 0 hg4 hn1 n6) dX10_mend_58 61 rfl (st := []) rfl rfl ⟨Nat.le_of_ble_eq_true rfl, Nat.le_of_ble_eq_true rfl⟩ ⟨Nat.le_of_ble_eq_true rfl, Nat.le_of_ble_eq_true rfl⟩ rfl (Nat.le_of_ble_eq_true rfl) 10 rfl (by intro H h; first | exact h.1 | exact h.2.1 | exact h.2.2.1 | exact h.2.2.2.1 | exact h.2.2.2.2.1 | exact h.2.2.2.2.2.1 | exact h.2.2.2.2.2.2.1 | exact h.2.2.2.2.2.2.2.1 | exact h.2.2.2.2.2.2.2.2.1 | exact h.2.2.2.2.2.2.2.2.2.1 | exact h.2.2.2.2.2.2.2.2.2.2) (Pr' := _) (fun _ h => h) (fun q z => z.elim) (fun _ _ _ h _ => by exact h) (st1 := [_]) rfl (k1 := 0) (n1 := 0) rfl rfl ?_
      refine g_callS hF cs_X10_84 (c_M_ones l E (sSet ((sEnd v g t).2.2.2 g) 0 N) (Mm E c (flat (sEnd v g t)) pf1 im ss ik bk ws cm ls nq (nI (pushD d)) (lN sd) (nI nb) wh ro)) dX10_mend_61 64 rfl (st := []) rfl rfl ⟨Nat.le_of_ble_eq_true rfl, Nat.le_of_ble_eq_true rfl⟩ ⟨Nat.le_of_ble_eq_true rfl, Nat.le_of_ble_eq_true rfl⟩ rfl (Nat.le_of_ble_eq_true rfl) (Pr' := _) (fun _ h => h) (fun q z => z.elim) (fun _ _ _ h _ => by exact h) (st1 := [_]) rfl (k1 := 0) (n1 := 0) rfl rfl ?_
      rw [ones_cnt hn1 n6]
      exact g_iret hF dX10_mend_64 (Nat.le_of_ble_eq_true rfl) (Nat.le_of_ble_eq_true rfl) (fun H h => hR _ _ ⟨congrArg (fun z => some (Value.int z)) (rfl), MS.mk (hr.push hp1) h⟩)
    · rw [e, if_pos hc] at hR
      refine g_aload_n hF dX10_mend_0 1 rfl rfl ?_
      refine g_iload_n hF dX10_mend_1 2 rfl rfl ?_
      refine g_iload_n hF dX10_mend_2 3 rfl rfl ?_
      refine g_callV hF cv_X10_90 (c_M_isLine l E c v pf im ss ik bk ws cm ls nq (nI d) (lN sd) (nI nb) wh ro T hv0 (nI g) (nI t)) dX10_mend_3 6 rfl (st := []) rfl rfl ⟨Nat.le_of_ble_eq_true rfl, Nat.le_of_ble_eq_true rfl⟩ ⟨Nat.le_of_ble_eq_true rfl, Nat.le_of_ble_eq_true rfl⟩ rfl (Nat.le_of_ble_eq_true rfl) 10 rfl (by intro H h; first | exact h.1 | exact h.2.1 | exact h.2.2.1 | exact h.2.2.2.1 | exact h.2.2.2.2.1 | exact h.2.2.2.2.2.1 | exact h.2.2.2.2.2.2.1 | exact h.2.2.2.2.2.2.2.1 | exact h.2.2.2.2.2.2.2.2.1 | exact h.2.2.2.2.2.2.2.2.2.1 | exact h.2.2.2.2.2.2.2.2.2.2) (Pr' := _) (fun _ h => h) (fun q z => z.elim) (fun _ _ _ h _ => by exact h) (st1 := [_]) rfl (k1 := 0) (n1 := 0) rfl rfl ?_
      refine g_if_ne hF dX10_mend_6 9 rfl 12 (by decide) (fun _ => ?_) (fun c => absurd c (fun y => hno (iy0.mp y)))
      refine g_aload_n hF dX10_mend_12 13 rfl rfl ?_
      refine g_iload_n hF dX10_mend_13 14 rfl rfl ?_
      refine g_iload_n hF dX10_mend_14 15 rfl rfl ?_
      refine g_iconst hF (0) dX10_mend_15 16 rfl rfl ?_
      rw [show (0 : Int32) = nI 0 by decide]
      refine g_callV hF cv_X10_73 (c_M_ofL l E c v pf im ss ik bk ws cm ls nq (nI d) (lN sd) (nI nb) wh ro g t 0 hg4 (by omega) (by omega)) dX10_mend_16 19 rfl (st := []) rfl rfl ⟨Nat.le_of_ble_eq_true rfl, Nat.le_of_ble_eq_true rfl⟩ ⟨Nat.le_of_ble_eq_true rfl, Nat.le_of_ble_eq_true rfl⟩ rfl (Nat.le_of_ble_eq_true rfl) 10 rfl (by intro H h; first | exact h.1 | exact h.2.1 | exact h.2.2.1 | exact h.2.2.2.1 | exact h.2.2.2.2.1 | exact h.2.2.2.2.2.1 | exact h.2.2.2.2.2.2.1 | exact h.2.2.2.2.2.2.2.1 | exact h.2.2.2.2.2.2.2.2.1 | exact h.2.2.2.2.2.2.2.2.2.1 | exact h.2.2.2.2.2.2.2.2.2.2) (Pr' := _) (fun _ h => h) (fun q z => z.elim) (fun _ _ _ h _ => by exact h) (st1 := [_]) rfl (k1 := 0) (n1 := 0) rfl rfl ?_
      refine g_iconst hF (2) dX10_mend_19 20 rfl rfl ?_
      refine g_icmp_eq hF dX10_mend_20 23 rfl 26 (by decide) (fun c => absurd c (hc)) (fun _ => ?_)
      refine g_ldc hF kc_X10_128 dX10_mend_23 25 rfl ?_
      exact g_iret hF dX10_mend_25 (Nat.le_of_ble_eq_true rfl) (Nat.le_of_ble_eq_true rfl) (fun H h => hR _ _ ⟨congrArg (fun z => some (Value.int z)) (rfl), MS.mk hr h⟩)
set_option maxRecDepth 100000 in
set_option maxHeartbeats 16000000 in
theorem c_E_write (l : Launch) (E : Ev) (c T : Nat) (σ : AS) (hv0 : okV T σ.1) (z i s : Int32) : Ct l E yX10_write cX10_write 4 (some .int) (rm 6) [.ref c, .int z, .int i, .int s] (MS E c σ) (rV (some (.int (fWrite σ z i s).1)) (MS E c (fWrite σ z i s).2)) (rg c 11) := by
  refine ct_start (by decide) [some (.ref c), some (.int z), some (.int i), some (.int s)] rfl (Nat.le_of_ble_eq_true rfl) ?_
  intro x hF hN hA hR
  obtain ⟨v, hv, d, iv, isd, ik, bg, bl, bs, nb, sd⟩ := σ
  refine g_openM (fun pf im ss bk ws cm ls nq wh ro hr => ?_)
  dsimp only at hv0
  rcases line_cases hv0 z i with ⟨h1, G, hG, G4, h2⟩ | ⟨G, g, N, t, hG, G4, hg, rfl, n0, n6, ht, rfl, hno⟩
  · rw [show fWrite (v, hv, d, iv, isd, ik, bg, bl, bs, nb, sd) z i s = (-1000000001, (v, hv, d, iv, isd, ik, bg, bl, bs, nb, sd)) from if_pos h1] at hR
    refine g_aload_n hF dX10_write_0 1 rfl rfl ?_
    refine g_iload_n hF dX10_write_1 2 rfl rfl ?_
    refine g_iload_n hF dX10_write_2 3 rfl rfl ?_
    refine g_callV hF cv_X10_90 (c_M_isLine l E c v pf im ss ik bk ws cm ls nq (nI d) (lN sd) (nI nb) wh ro T hv0 z i) dX10_write_3 6 rfl (st := []) rfl rfl ⟨Nat.le_of_ble_eq_true rfl, Nat.le_of_ble_eq_true rfl⟩ ⟨Nat.le_of_ble_eq_true rfl, Nat.le_of_ble_eq_true rfl⟩ rfl (Nat.le_of_ble_eq_true rfl) 10 rfl (by intro H h; first | exact h.1 | exact h.2.1 | exact h.2.2.1 | exact h.2.2.2.1 | exact h.2.2.2.2.1 | exact h.2.2.2.2.2.1 | exact h.2.2.2.2.2.2.1 | exact h.2.2.2.2.2.2.2.1 | exact h.2.2.2.2.2.2.2.2.1 | exact h.2.2.2.2.2.2.2.2.2.1 | exact h.2.2.2.2.2.2.2.2.2.2) (Pr' := _) (fun _ h => h) (fun q z => z.elim) (fun _ _ _ h _ => by exact h) (st1 := [_]) rfl (k1 := 0) (n1 := 0) rfl rfl ?_
    refine g_if_ne hF dX10_write_6 9 rfl 12 (by decide) (fun c => absurd (iy0.mpr h1) c) (fun _ => ?_)
    refine g_ldc hF kc_X10_118 dX10_write_9 11 rfl ?_
    exact g_iret hF dX10_write_11 (Nat.le_of_ble_eq_true rfl) (Nat.le_of_ble_eq_true rfl) (fun H h => hR _ _ ⟨congrArg (fun z => some (Value.int z)) (rfl), MS.mk hr h⟩)
  · have hg4 : g < 4 := by omega
    have hct : (nI t).toNatClampNeg = t := nI_clamp (by omega)
    have hcg : (nI g).toNatClampNeg = g := nI_clamp (by omega)
    have hb0 := hr.2.1
    by_cases hs : 0 ≤ s ∧ s ≤ 2
    · by_cases hb : 20 ≤ nb
      · rw [show fWrite (v, hv, d, iv, isd, ik, bg, bl, bs, nb, sd) (nI g) (nI t) s = (-1000000004, (v, hv, d, iv, isd, ik, bg, bl, bs, nb, sd)) by unfold fWrite; rw [if_neg hno, if_neg (fun q => q hs), if_pos hb]] at hR
        refine g_aload_n hF dX10_write_0 1 rfl rfl ?_
        refine g_iload_n hF dX10_write_1 2 rfl rfl ?_
        refine g_iload_n hF dX10_write_2 3 rfl rfl ?_
        refine g_callV hF cv_X10_90 (c_M_isLine l E c v pf im ss ik bk ws cm ls nq (nI d) (lN sd) (nI nb) wh ro T hv0 (nI g) (nI t)) dX10_write_3 6 rfl (st := []) rfl rfl ⟨Nat.le_of_ble_eq_true rfl, Nat.le_of_ble_eq_true rfl⟩ ⟨Nat.le_of_ble_eq_true rfl, Nat.le_of_ble_eq_true rfl⟩ rfl (Nat.le_of_ble_eq_true rfl) 10 rfl (by intro H h; first | exact h.1 | exact h.2.1 | exact h.2.2.1 | exact h.2.2.2.1 | exact h.2.2.2.2.1 | exact h.2.2.2.2.2.1 | exact h.2.2.2.2.2.2.1 | exact h.2.2.2.2.2.2.2.1 | exact h.2.2.2.2.2.2.2.2.1 | exact h.2.2.2.2.2.2.2.2.2.1 | exact h.2.2.2.2.2.2.2.2.2.2) (Pr' := _) (fun _ h => h) (fun q z => z.elim) (fun _ _ _ h _ => by exact h) (st1 := [_]) rfl (k1 := 0) (n1 := 0) rfl rfl ?_
        refine g_if_ne hF dX10_write_6 9 rfl 12 (by decide) (fun _ => ?_) (fun c => absurd c (fun y => hno (iy0.mp y)))
        refine g_iload_n hF dX10_write_12 13 rfl rfl ?_
        refine g_iconst hF (0) dX10_write_13 14 rfl rfl ?_
        refine g_iconst hF (2) dX10_write_14 15 rfl rfl ?_
        refine g_callS hF cs_X10_46 (c_M_in l E (s) (0) (2) (Mm E c (flat v) pf im ss ik bk ws cm ls nq (nI d) (lN sd) (nI nb) wh ro) 1 ((if_pos hs).symm)) dX10_write_15 18 rfl (st := []) rfl rfl ⟨Nat.le_of_ble_eq_true rfl, Nat.le_of_ble_eq_true rfl⟩ ⟨Nat.le_of_ble_eq_true rfl, Nat.le_of_ble_eq_true rfl⟩ rfl (Nat.le_of_ble_eq_true rfl) (Pr' := _) (fun _ h => h) (fun q z => z.elim) (fun _ _ _ h _ => by exact h) (st1 := [_]) rfl (k1 := 0) (n1 := 0) rfl rfl ?_
        refine g_if_ne hF dX10_write_18 21 rfl 24 (by decide) (fun _ => ?_) (fun c => absurd c ((by decide)))
        refine g_aload_n hF dX10_write_24 25 rfl rfl ?_
        refine g_get hF fl_X10_87 dX10_write_25 28 rfl (by intro H h; first | exact h.1 | exact h.2.1 | exact h.2.2.1 | exact h.2.2.2.1 | exact h.2.2.2.2.1 | exact h.2.2.2.2.2.1 | exact h.2.2.2.2.2.2.1 | exact h.2.2.2.2.2.2.2.1 | exact h.2.2.2.2.2.2.2.2.1 | exact h.2.2.2.2.2.2.2.2.2.1 | exact h.2.2.2.2.2.2.2.2.2.2) rfl ?_
        refine g_bipush hF (20) dX10_write_28 30 rfl rfl ?_
        refine g_icmp_ne hF dX10_write_30 33 rfl 36 (by decide) (fun c => absurd (by rw [show nb = 20 by omega]; rfl) c) (fun _ => ?_)
        refine g_ldc hF kc_X10_166 dX10_write_33 35 rfl ?_
        exact g_iret hF dX10_write_35 (Nat.le_of_ble_eq_true rfl) (Nat.le_of_ble_eq_true rfl) (fun H h => hR _ _ ⟨congrArg (fun z => some (Value.int z)) (rfl), MS.mk hr h⟩)
      · rw [show fWrite (v, hv, d, iv, isd, ik, bg, bl, bs, nb, sd) (nI g) (nI t) s = (nI (nb + 1), (v, hv, d, iv, isd, ik, upd bg nb (nI g), upd bl nb (nI t), upd bs nb s, nb + 1, sd)) by unfold fWrite; rw [if_neg hno, if_neg (fun q => q hs), if_neg hb]] at hR
        have hbk : ∀ j, j < nb + 1 → (upd (upd (upd bk (3 * nb) (nI g)) (3 * nb + 1) (nI t)) (3 * nb + 2) s) (3 * j) = upd bg nb (nI g) j ∧ (upd (upd (upd bk (3 * nb) (nI g)) (3 * nb + 1) (nI t)) (3 * nb + 2) s) (3 * j + 1) = upd bl nb (nI t) j ∧ (upd (upd (upd bk (3 * nb) (nI g)) (3 * nb + 1) (nI t)) (3 * nb + 2) s) (3 * j + 2) = upd bs nb s j := fun j hj => by
          by_cases e : j = nb
          · subst e
            refine ⟨?_, ?_, ?_⟩
            · rw [pk_un (by omega), pk_un (by omega), pk_us, pk_us]
            · rw [pk_un (by omega), pk_us, pk_us]
            · rw [pk_us, pk_us]
          · obtain ⟨q1, q2, q3⟩ := hr.2.2.2.2 j (by omega)
            refine ⟨?_, ?_, ?_⟩
            · rw [pk_un (by omega), pk_un (by omega), pk_un (by omega), pk_un e]; exact q1
            · rw [pk_un (by omega), pk_un (by omega), pk_un (by omega), pk_un e]; exact q2
            · rw [pk_un (by omega), pk_un (by omega), pk_un (by omega), pk_un e]; exact q3
        refine g_aload_n hF dX10_write_0 1 rfl rfl ?_
        refine g_iload_n hF dX10_write_1 2 rfl rfl ?_
        refine g_iload_n hF dX10_write_2 3 rfl rfl ?_
        refine g_callV hF cv_X10_90 (c_M_isLine l E c v pf im ss ik bk ws cm ls nq (nI d) (lN sd) (nI nb) wh ro T hv0 (nI g) (nI t)) dX10_write_3 6 rfl (st := []) rfl rfl ⟨Nat.le_of_ble_eq_true rfl, Nat.le_of_ble_eq_true rfl⟩ ⟨Nat.le_of_ble_eq_true rfl, Nat.le_of_ble_eq_true rfl⟩ rfl (Nat.le_of_ble_eq_true rfl) 10 rfl (by intro H h; first | exact h.1 | exact h.2.1 | exact h.2.2.1 | exact h.2.2.2.1 | exact h.2.2.2.2.1 | exact h.2.2.2.2.2.1 | exact h.2.2.2.2.2.2.1 | exact h.2.2.2.2.2.2.2.1 | exact h.2.2.2.2.2.2.2.2.1 | exact h.2.2.2.2.2.2.2.2.2.1 | exact h.2.2.2.2.2.2.2.2.2.2) (Pr' := _) (fun _ h => h) (fun q z => z.elim) (fun _ _ _ h _ => by exact h) (st1 := [_]) rfl (k1 := 0) (n1 := 0) rfl rfl ?_
        refine g_if_ne hF dX10_write_6 9 rfl 12 (by decide) (fun _ => ?_) (fun c => absurd c (fun y => hno (iy0.mp y)))
        refine g_iload_n hF dX10_write_12 13 rfl rfl ?_
        refine g_iconst hF (0) dX10_write_13 14 rfl rfl ?_
        refine g_iconst hF (2) dX10_write_14 15 rfl rfl ?_
        refine g_callS hF cs_X10_46 (c_M_in l E (s) (0) (2) (Mm E c (flat v) pf im ss ik bk ws cm ls nq (nI d) (lN sd) (nI nb) wh ro) 1 ((if_pos hs).symm)) dX10_write_15 18 rfl (st := []) rfl rfl ⟨Nat.le_of_ble_eq_true rfl, Nat.le_of_ble_eq_true rfl⟩ ⟨Nat.le_of_ble_eq_true rfl, Nat.le_of_ble_eq_true rfl⟩ rfl (Nat.le_of_ble_eq_true rfl) (Pr' := _) (fun _ h => h) (fun q z => z.elim) (fun _ _ _ h _ => by exact h) (st1 := [_]) rfl (k1 := 0) (n1 := 0) rfl rfl ?_
        refine g_if_ne hF dX10_write_18 21 rfl 24 (by decide) (fun _ => ?_) (fun c => absurd c ((by decide)))
        refine g_aload_n hF dX10_write_24 25 rfl rfl ?_
        refine g_get hF fl_X10_87 dX10_write_25 28 rfl (by intro H h; first | exact h.1 | exact h.2.1 | exact h.2.2.1 | exact h.2.2.2.1 | exact h.2.2.2.2.1 | exact h.2.2.2.2.2.1 | exact h.2.2.2.2.2.2.1 | exact h.2.2.2.2.2.2.2.1 | exact h.2.2.2.2.2.2.2.2.1 | exact h.2.2.2.2.2.2.2.2.2.1 | exact h.2.2.2.2.2.2.2.2.2.2) rfl ?_
        refine g_bipush hF (20) dX10_write_28 30 rfl rfl ?_
        refine g_icmp_ne hF dX10_write_30 33 rfl 36 (by decide) (fun _ => ?_) (fun c => absurd c (fun y => hb (by have := (nI_eq (b := 20) (by omega) (by omega)).mp y; omega)))
        refine g_aload_n hF dX10_write_36 37 rfl rfl ?_
        refine g_get hF fl_X10_27 dX10_write_37 40 rfl (by intro H h; first | exact h.1 | exact h.2.1 | exact h.2.2.1 | exact h.2.2.2.1 | exact h.2.2.2.2.1 | exact h.2.2.2.2.2.1 | exact h.2.2.2.2.2.2.1 | exact h.2.2.2.2.2.2.2.1 | exact h.2.2.2.2.2.2.2.2.1 | exact h.2.2.2.2.2.2.2.2.2.1 | exact h.2.2.2.2.2.2.2.2.2.2) rfl ?_
        refine g_iconst hF (3) dX10_write_40 41 rfl rfl ?_
        refine g_aload_n hF dX10_write_41 42 rfl rfl ?_
        refine g_get hF fl_X10_87 dX10_write_42 45 rfl (by intro H h; first | exact h.1 | exact h.2.1 | exact h.2.2.1 | exact h.2.2.2.1 | exact h.2.2.2.2.1 | exact h.2.2.2.2.2.1 | exact h.2.2.2.2.2.2.1 | exact h.2.2.2.2.2.2.2.1 | exact h.2.2.2.2.2.2.2.2.1 | exact h.2.2.2.2.2.2.2.2.2.1 | exact h.2.2.2.2.2.2.2.2.2.2) rfl ?_
        refine g_imul hF dX10_write_45 46 rfl ?_
        rw [ix3z]
        refine g_iload_n hF dX10_write_46 47 rfl rfl ?_
        refine g_iast hF dX10_write_47 48 rfl (by intro H h; first | exact h.1 | exact h.2.1 | exact h.2.2.1 | exact h.2.2.2.1 | exact h.2.2.2.2.1 | exact h.2.2.2.2.2.1 | exact h.2.2.2.2.2.2.1 | exact h.2.2.2.2.2.2.2.1 | exact h.2.2.2.2.2.2.2.2.1 | exact h.2.2.2.2.2.2.2.2.2.1 | exact h.2.2.2.2.2.2.2.2.2.2) (vp_in_nI (show 3 * nb < 60 by omega) (by omega)) (hA _ ⟨by omega, by omega⟩) (Pr' := Mm E c (flat v) pf im ss ik (upd bk (3 * nb) (nI g)) ws cm ls nq (nI d) (lN sd) (nI nb) wh ro) (fun H H' h h1 h2 => by rw [nI_clamp (by omega)] at h1; exact h.bk h1 h2) ?_
        refine g_aload_n hF dX10_write_48 49 rfl rfl ?_
        refine g_get hF fl_X10_27 dX10_write_49 52 rfl (by intro H h; first | exact h.1 | exact h.2.1 | exact h.2.2.1 | exact h.2.2.2.1 | exact h.2.2.2.2.1 | exact h.2.2.2.2.2.1 | exact h.2.2.2.2.2.2.1 | exact h.2.2.2.2.2.2.2.1 | exact h.2.2.2.2.2.2.2.2.1 | exact h.2.2.2.2.2.2.2.2.2.1 | exact h.2.2.2.2.2.2.2.2.2.2) rfl ?_
        refine g_iconst hF (3) dX10_write_52 53 rfl rfl ?_
        refine g_aload_n hF dX10_write_53 54 rfl rfl ?_
        refine g_get hF fl_X10_87 dX10_write_54 57 rfl (by intro H h; first | exact h.1 | exact h.2.1 | exact h.2.2.1 | exact h.2.2.2.1 | exact h.2.2.2.2.1 | exact h.2.2.2.2.2.1 | exact h.2.2.2.2.2.2.1 | exact h.2.2.2.2.2.2.2.1 | exact h.2.2.2.2.2.2.2.2.1 | exact h.2.2.2.2.2.2.2.2.2.1 | exact h.2.2.2.2.2.2.2.2.2.2) rfl ?_
        refine g_imul hF dX10_write_57 58 rfl ?_
        rw [ix3z]
        refine g_iconst hF (1) dX10_write_58 59 rfl rfl ?_
        refine g_iadd hF dX10_write_59 60 rfl ?_
        rw [nI_1]
        refine g_iload_n hF dX10_write_60 61 rfl rfl ?_
        refine g_iast hF dX10_write_61 62 rfl (by intro H h; first | exact h.1 | exact h.2.1 | exact h.2.2.1 | exact h.2.2.2.1 | exact h.2.2.2.2.1 | exact h.2.2.2.2.2.1 | exact h.2.2.2.2.2.2.1 | exact h.2.2.2.2.2.2.2.1 | exact h.2.2.2.2.2.2.2.2.1 | exact h.2.2.2.2.2.2.2.2.2.1 | exact h.2.2.2.2.2.2.2.2.2.2) (vp_in_nI (show 3 * nb + 1 < 60 by omega) (by omega)) (hA _ ⟨by omega, by omega⟩) (Pr' := Mm E c (flat v) pf im ss ik (upd (upd bk (3 * nb) (nI g)) (3 * nb + 1) (nI t)) ws cm ls nq (nI d) (lN sd) (nI nb) wh ro) (fun H H' h h1 h2 => by rw [nI_clamp (by omega)] at h1; exact h.bk h1 h2) ?_
        refine g_aload_n hF dX10_write_62 63 rfl rfl ?_
        refine g_get hF fl_X10_27 dX10_write_63 66 rfl (by intro H h; first | exact h.1 | exact h.2.1 | exact h.2.2.1 | exact h.2.2.2.1 | exact h.2.2.2.2.1 | exact h.2.2.2.2.2.1 | exact h.2.2.2.2.2.2.1 | exact h.2.2.2.2.2.2.2.1 | exact h.2.2.2.2.2.2.2.2.1 | exact h.2.2.2.2.2.2.2.2.2.1 | exact h.2.2.2.2.2.2.2.2.2.2) rfl ?_
        refine g_iconst hF (3) dX10_write_66 67 rfl rfl ?_
        refine g_aload_n hF dX10_write_67 68 rfl rfl ?_
        refine g_get hF fl_X10_87 dX10_write_68 71 rfl (by intro H h; first | exact h.1 | exact h.2.1 | exact h.2.2.1 | exact h.2.2.2.1 | exact h.2.2.2.2.1 | exact h.2.2.2.2.2.1 | exact h.2.2.2.2.2.2.1 | exact h.2.2.2.2.2.2.2.1 | exact h.2.2.2.2.2.2.2.2.1 | exact h.2.2.2.2.2.2.2.2.2.1 | exact h.2.2.2.2.2.2.2.2.2.2) rfl ?_
        refine g_imul hF dX10_write_71 72 rfl ?_
        refine g_iconst hF (2) dX10_write_72 73 rfl rfl ?_
        refine g_iadd hF dX10_write_73 74 rfl ?_
        rw [show (2 : Int32) = nI 2 by decide, ix3]
        refine g_iload_n hF dX10_write_74 75 rfl rfl ?_
        refine g_iast hF dX10_write_75 76 rfl (by intro H h; first | exact h.1 | exact h.2.1 | exact h.2.2.1 | exact h.2.2.2.1 | exact h.2.2.2.2.1 | exact h.2.2.2.2.2.1 | exact h.2.2.2.2.2.2.1 | exact h.2.2.2.2.2.2.2.1 | exact h.2.2.2.2.2.2.2.2.1 | exact h.2.2.2.2.2.2.2.2.2.1 | exact h.2.2.2.2.2.2.2.2.2.2) (vp_in_nI (show 3 * nb + 2 < 60 by omega) (by omega)) (hA _ ⟨by omega, by omega⟩) (Pr' := Mm E c (flat v) pf im ss ik (upd (upd (upd bk (3 * nb) (nI g)) (3 * nb + 1) (nI t)) (3 * nb + 2) s) ws cm ls nq (nI d) (lN sd) (nI nb) wh ro) (fun H H' h h1 h2 => by rw [nI_clamp (by omega)] at h1; exact h.bk h1 h2) ?_
        refine g_aload_n hF dX10_write_76 77 rfl rfl ?_
        refine g_dup hF dX10_write_77 78 rfl rfl ?_
        refine g_get hF fl_X10_87 dX10_write_78 81 rfl (by intro H h; first | exact h.1 | exact h.2.1 | exact h.2.2.1 | exact h.2.2.2.1 | exact h.2.2.2.2.1 | exact h.2.2.2.2.2.1 | exact h.2.2.2.2.2.2.1 | exact h.2.2.2.2.2.2.2.1 | exact h.2.2.2.2.2.2.2.2.1 | exact h.2.2.2.2.2.2.2.2.2.1 | exact h.2.2.2.2.2.2.2.2.2.2) rfl ?_
        refine g_iconst hF (1) dX10_write_81 82 rfl rfl ?_
        refine g_iadd hF dX10_write_82 83 rfl ?_
        rw [nI_1]
        refine g_put hF pl_X10_87 dX10_write_83 86 rfl (by intro H h; first | exact h.1 | exact h.2.1 | exact h.2.2.1 | exact h.2.2.2.1 | exact h.2.2.2.2.1 | exact h.2.2.2.2.2.1 | exact h.2.2.2.2.2.2.1 | exact h.2.2.2.2.2.2.2.1 | exact h.2.2.2.2.2.2.2.2.1 | exact h.2.2.2.2.2.2.2.2.2.1 | exact h.2.2.2.2.2.2.2.2.2.2) (Nat.le_of_ble_eq_true rfl) rfl rfl (hA _ ⟨by omega, by omega⟩) (Pr' := Mm E c (flat v) pf im ss ik (upd (upd (upd bk (3 * nb) (nI g)) (3 * nb + 1) (nI t)) (3 * nb + 2) s) ws cm ls nq (nI d) (lN sd) (nI (nb + 1)) wh ro) (fun H H' h h1 h2 => by exact h.fld h1 h2) ?_
        refine g_aload_n hF dX10_write_86 87 rfl rfl ?_
        refine g_get hF fl_X10_87 dX10_write_87 90 rfl (by intro H h; first | exact h.1 | exact h.2.1 | exact h.2.2.1 | exact h.2.2.2.1 | exact h.2.2.2.2.1 | exact h.2.2.2.2.2.1 | exact h.2.2.2.2.2.2.1 | exact h.2.2.2.2.2.2.2.1 | exact h.2.2.2.2.2.2.2.2.1 | exact h.2.2.2.2.2.2.2.2.2.1 | exact h.2.2.2.2.2.2.2.2.2.2) rfl ?_
        exact g_iret hF dX10_write_90 (Nat.le_of_ble_eq_true rfl) (Nat.le_of_ble_eq_true rfl) (fun H h => hR _ _ ⟨congrArg (fun z => some (Value.int z)) (rfl), MS.mk ⟨hr.1, by omega, hr.2.2.1, hr.2.2.2.1, hbk⟩ h⟩)
    · rw [show fWrite (v, hv, d, iv, isd, ik, bg, bl, bs, nb, sd) (nI g) (nI t) s = (-1000000002, (v, hv, d, iv, isd, ik, bg, bl, bs, nb, sd)) by unfold fWrite; rw [if_neg hno, if_pos hs]] at hR
      refine g_aload_n hF dX10_write_0 1 rfl rfl ?_
      refine g_iload_n hF dX10_write_1 2 rfl rfl ?_
      refine g_iload_n hF dX10_write_2 3 rfl rfl ?_
      refine g_callV hF cv_X10_90 (c_M_isLine l E c v pf im ss ik bk ws cm ls nq (nI d) (lN sd) (nI nb) wh ro T hv0 (nI g) (nI t)) dX10_write_3 6 rfl (st := []) rfl rfl ⟨Nat.le_of_ble_eq_true rfl, Nat.le_of_ble_eq_true rfl⟩ ⟨Nat.le_of_ble_eq_true rfl, Nat.le_of_ble_eq_true rfl⟩ rfl (Nat.le_of_ble_eq_true rfl) 10 rfl (by intro H h; first | exact h.1 | exact h.2.1 | exact h.2.2.1 | exact h.2.2.2.1 | exact h.2.2.2.2.1 | exact h.2.2.2.2.2.1 | exact h.2.2.2.2.2.2.1 | exact h.2.2.2.2.2.2.2.1 | exact h.2.2.2.2.2.2.2.2.1 | exact h.2.2.2.2.2.2.2.2.2.1 | exact h.2.2.2.2.2.2.2.2.2.2) (Pr' := _) (fun _ h => h) (fun q z => z.elim) (fun _ _ _ h _ => by exact h) (st1 := [_]) rfl (k1 := 0) (n1 := 0) rfl rfl ?_
      refine g_if_ne hF dX10_write_6 9 rfl 12 (by decide) (fun _ => ?_) (fun c => absurd c (fun y => hno (iy0.mp y)))
      refine g_iload_n hF dX10_write_12 13 rfl rfl ?_
      refine g_iconst hF (0) dX10_write_13 14 rfl rfl ?_
      refine g_iconst hF (2) dX10_write_14 15 rfl rfl ?_
      refine g_callS hF cs_X10_46 (c_M_in l E (s) (0) (2) (Mm E c (flat v) pf im ss ik bk ws cm ls nq (nI d) (lN sd) (nI nb) wh ro) 0 ((if_neg hs).symm)) dX10_write_15 18 rfl (st := []) rfl rfl ⟨Nat.le_of_ble_eq_true rfl, Nat.le_of_ble_eq_true rfl⟩ ⟨Nat.le_of_ble_eq_true rfl, Nat.le_of_ble_eq_true rfl⟩ rfl (Nat.le_of_ble_eq_true rfl) (Pr' := _) (fun _ h => h) (fun q z => z.elim) (fun _ _ _ h _ => by exact h) (st1 := [_]) rfl (k1 := 0) (n1 := 0) rfl rfl ?_
      refine g_if_ne hF dX10_write_18 21 rfl 24 (by decide) (fun c => absurd (rfl) c) (fun _ => ?_)
      refine g_ldc hF kc_X10_117 dX10_write_21 23 rfl ?_
      exact g_iret hF dX10_write_23 (Nat.le_of_ble_eq_true rfl) (Nat.le_of_ble_eq_true rfl) (fun H h => hR _ _ ⟨congrArg (fun z => some (Value.int z)) (rfl), MS.mk hr h⟩)
set_option maxRecDepth 100000 in
set_option maxHeartbeats 16000000 in
theorem c_E_tear (l : Launch) (E : Ev) (c T : Nat) (σ : AS)  : Ct l E yX10_tear cX10_tear 2 (some .int) (rm 6) [.ref c] (MS E c σ) (rV (some (.int (fTear σ).1)) (MS E c (fTear σ).2)) (rg c 11) := by
  refine ct_start (by decide) [some (.ref c), none] rfl (Nat.le_of_ble_eq_true rfl) ?_
  intro x hF hN hA hR
  obtain ⟨v, hv, d, iv, isd, ik, bg, bl, bs, nb, sd⟩ := σ
  refine g_openM (fun pf im ss bk ws cm ls nq wh ro hr => ?_)
  refine g_aload_n hF dX10_tear_0 1 rfl rfl ?_
  refine g_get hF fl_X10_87 dX10_tear_1 4 rfl (by intro H h; first | exact h.1 | exact h.2.1 | exact h.2.2.1 | exact h.2.2.2.1 | exact h.2.2.2.2.1 | exact h.2.2.2.2.2.1 | exact h.2.2.2.2.2.2.1 | exact h.2.2.2.2.2.2.2.1 | exact h.2.2.2.2.2.2.2.2.1 | exact h.2.2.2.2.2.2.2.2.2.1 | exact h.2.2.2.2.2.2.2.2.2.2) rfl ?_
  refine g_istore_n hF dX10_tear_4 5 rfl (lo' := [_, _]) (Nat.le_of_ble_eq_true rfl) rfl ?_
  refine g_aload_n hF dX10_tear_5 6 rfl rfl ?_
  refine g_iconst hF (0) dX10_tear_6 7 rfl rfl ?_
  refine g_put hF pl_X10_87 dX10_tear_7 10 rfl (by intro H h; first | exact h.1 | exact h.2.1 | exact h.2.2.1 | exact h.2.2.2.1 | exact h.2.2.2.2.1 | exact h.2.2.2.2.2.1 | exact h.2.2.2.2.2.2.1 | exact h.2.2.2.2.2.2.2.1 | exact h.2.2.2.2.2.2.2.2.1 | exact h.2.2.2.2.2.2.2.2.2.1 | exact h.2.2.2.2.2.2.2.2.2.2) (Nat.le_of_ble_eq_true rfl) rfl rfl (hA _ ⟨by omega, by omega⟩) (Pr' := Mm E c (flat v) pf im ss ik bk ws cm ls nq (nI d) (lN sd) 0 wh ro) (fun H H' h h1 h2 => by exact h.fld h1 h2) ?_
  refine g_iload_n hF dX10_tear_10 11 rfl rfl ?_
  exact g_iret hF dX10_tear_11 (Nat.le_of_ble_eq_true rfl) (Nat.le_of_ble_eq_true rfl) (fun H h => hR _ _ ⟨congrArg (fun z => some (Value.int z)) (rfl), MS.mk ⟨hr.1, by omega, hr.2.2.1, hr.2.2.2.1, fun j hj => by omega⟩ h⟩)
set_option maxRecDepth 100000 in
set_option maxHeartbeats 16000000 in
theorem c_E_seed (l : Launch) (E : Ev) (c T : Nat) (σ : AS) (hs : σ.2.2.2.2.2.2.2.2.2.2 < 2 ^ 31) (z : Int32) : Ct l E yX10_seed cX10_seed 3 (some .int) (rm 6) [.ref c, .int z] (MS E c σ) (rV (some (.int (fSeed σ z).1)) (MS E c (fSeed σ z).2)) (rg c 11) := by
  refine ct_start (by decide) [some (.ref c), some (.int z), none] rfl (Nat.le_of_ble_eq_true rfl) ?_
  intro x hF hN hA hR
  obtain ⟨v, hv, d, iv, isd, ik, bg, bl, bs, nb, sd⟩ := σ
  refine g_openM (fun pf im ss bk ws cm ls nq wh ro hr => ?_)
  by_cases hz : z < 0
  · rw [show fSeed (v, hv, d, iv, isd, ik, bg, bl, bs, nb, sd) z = (-1000000002, (v, hv, d, iv, isd, ik, bg, bl, bs, nb, sd)) from if_pos hz] at hR
    refine g_iload_n hF dX10_seed_0 1 rfl rfl ?_
    refine g_if_ge hF dX10_seed_1 4 rfl 7 (by decide) (fun c => absurd c (Int32.not_le.mpr hz)) (fun _ => ?_)
    refine g_ldc hF kc_X10_117 dX10_seed_4 6 rfl ?_
    exact g_iret hF dX10_seed_6 (Nat.le_of_ble_eq_true rfl) (Nat.le_of_ble_eq_true rfl) (fun H h => hR _ _ ⟨congrArg (fun z => some (Value.int z)) (rfl), MS.mk hr h⟩)
  · obtain ⟨m, m1, m2, m3⟩ := nn_nI hz
    rw [show fSeed (v, hv, d, iv, isd, ik, bg, bl, bs, nb, sd) z = (nI sd, (v, hv, d, iv, isd, ik, bg, bl, bs, nb, z.toNatClampNeg)) from if_neg hz, m3] at hR
    subst m2
    refine g_iload_n hF dX10_seed_0 1 rfl rfl ?_
    refine g_if_ge hF dX10_seed_1 4 rfl 7 (by decide) (fun _ => ?_) (fun c => absurd (Int32.not_lt.mp hz) c)
    refine g_aload_n hF dX10_seed_7 8 rfl rfl ?_
    refine g_get hF fl_X10_132 dX10_seed_8 11 rfl (by intro H h; first | exact h.1 | exact h.2.1 | exact h.2.2.1 | exact h.2.2.2.1 | exact h.2.2.2.2.1 | exact h.2.2.2.2.2.1 | exact h.2.2.2.2.2.2.1 | exact h.2.2.2.2.2.2.2.1 | exact h.2.2.2.2.2.2.2.2.1 | exact h.2.2.2.2.2.2.2.2.2.1 | exact h.2.2.2.2.2.2.2.2.2.2) rfl ?_
    refine g_l2i hF dX10_seed_11 12 rfl ?_
    rw [lN_i]
    refine g_istore_n hF dX10_seed_12 13 rfl (lo' := [_, _, _]) (Nat.le_of_ble_eq_true rfl) rfl ?_
    refine g_aload_n hF dX10_seed_13 14 rfl rfl ?_
    refine g_iload_n hF dX10_seed_14 15 rfl rfl ?_
    refine g_i2l hF dX10_seed_15 16 rfl ?_
    rw [nI_l m1]
    refine g_put hF pl_X10_132 dX10_seed_16 19 rfl (by intro H h; first | exact h.1 | exact h.2.1 | exact h.2.2.1 | exact h.2.2.2.1 | exact h.2.2.2.2.1 | exact h.2.2.2.2.2.1 | exact h.2.2.2.2.2.2.1 | exact h.2.2.2.2.2.2.2.1 | exact h.2.2.2.2.2.2.2.2.1 | exact h.2.2.2.2.2.2.2.2.2.1 | exact h.2.2.2.2.2.2.2.2.2.2) (Nat.le_of_ble_eq_true rfl) rfl rfl (hA _ ⟨by omega, by omega⟩) (Pr' := Mm E c (flat v) pf im ss ik bk ws cm ls nq (nI d) (lN m) (nI nb) wh ro) (fun H H' h h1 h2 => by exact h.fld h1 h2) ?_
    refine g_iload_n hF dX10_seed_19 20 rfl rfl ?_
    exact g_iret hF dX10_seed_20 (Nat.le_of_ble_eq_true rfl) (Nat.le_of_ble_eq_true rfl) (fun H h => hR _ _ ⟨congrArg (fun z => some (Value.int z)) (rfl), MS.mk hr h⟩)
