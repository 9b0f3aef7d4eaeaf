/-! TrunkReserveModel: line, shape, draws, undoing, images -/
def qLine (σ : AS) (z i w : Int32) : Int32 := aLine σ.1 z i w
theorem nxL {s : Nat} (hs : s < 2 ^ 31) : lN s * 1103515245 + 12345 - (lN s * 1103515245 + 12345) / 2147483648 * 2147483648 = lN (nx s) := by
  rw [show (1103515245 : Int64) = lN 1103515245 by decide, show (12345 : Int64) = lN 12345 by decide, show (2147483648 : Int64) = lN 2147483648 by decide, lN_mul, lN_add, pk_lRem (by omega) (by omega) (by omega)]
  rfl
theorem dwL {s n : Nat} (hs : s < 2 ^ 31) (h1 : 1 ≤ n) (hn : n < 2 ^ 31) : (lN s / 65536 - lN s / 65536 / lN n * lN n).toInt32 = nI (dw s n) := by
  rw [show (65536 : Int64) = lN 65536 by decide, pk_lDiv (by omega) (by omega) (by omega), pk_lRem (by omega) (by omega) (by omega), lN_i]
  rfl
set_option maxRecDepth 100000 in
set_option maxHeartbeats 16000000 in
theorem c_E_line (l : Launch) (E : Ev) (c T : Nat) (σ : AS) (hv0 : okV T σ.1) (z i w : Int32) : Ct l E yX10_line cX10_line 4 (some .int) (rm 6) [.ref c, .int z, .int i, .int w] (MS E c σ) (rV (some (.int (qLine σ z i w))) (MS E c σ)) (rg c 11) := by
  refine ct_start (by decide) [some (.ref c), some (.int z), some (.int i), some (.int w)] rfl (Nat.le_of_ble_eq_true rfl) ?_
  intro x hF hN hA hR
  obtain ⟨v, hv, d, iv, isd, ik, bg, bl, bs, nb, sd⟩ := σ
  refine g_openM (fun pf im ss bk ws cm ls nq wh ro hr => ?_)
  dsimp only at hv0
  rcases line_cases hv0 z i with ⟨h1, G, hG, G4, h2⟩ | ⟨G, g, N, t, hG, G4, hg, rfl, n0, n6, ht, rfl, hno⟩
  · rw [show qLine (v, hv, d, iv, isd, ik, bg, bl, bs, nb, sd) z i w = -1000000001 from if_pos h1] at hR
    refine g_aload_n hF dX10_line_0 1 rfl rfl ?_
    refine g_iload_n hF dX10_line_1 2 rfl rfl ?_
    refine g_iload_n hF dX10_line_2 3 rfl rfl ?_
    refine g_callV hF cv_X10_90 (c_M_isLine l E c v pf im ss ik bk ws cm ls nq (nI d) (lN sd) (nI nb) wh ro T hv0 z i) dX10_line_3 6 rfl (st := []) rfl rfl ⟨Nat.le_of_ble_eq_true rfl, Nat.le_of_ble_eq_true rfl⟩ ⟨Nat.le_of_ble_eq_true rfl, Nat.le_of_ble_eq_true rfl⟩ rfl (Nat.le_of_ble_eq_true rfl) 10 rfl (by intro H h; first | exact h.1 | exact h.2.1 | exact h.2.2.1 | exact h.2.2.2.1 | exact h.2.2.2.2.1 | exact h.2.2.2.2.2.1 | exact h.2.2.2.2.2.2.1 | exact h.2.2.2.2.2.2.2.1 | exact h.2.2.2.2.2.2.2.2.1 | exact h.2.2.2.2.2.2.2.2.2.1 | exact h.2.2.2.2.2.2.2.2.2.2) (Pr' := _) (fun _ h => h) (fun q z => z.elim) (fun _ _ _ h _ => by exact h) (st1 := [_]) rfl (k1 := 0) (n1 := 0) rfl rfl ?_
    refine g_if_ne hF dX10_line_6 9 rfl 14 (by decide) (fun c => absurd (iy0.mpr h1) c) (fun _ => ?_)
    refine g_ldc hF kc_X10_118 dX10_line_9 11 rfl ?_
    refine g_goto hF dX10_line_11 35 (by decide) ?_
    exact g_iret hF dX10_line_35 (Nat.le_of_ble_eq_true rfl) (Nat.le_of_ble_eq_true rfl) (fun H h => hR _ _ ⟨congrArg (fun z => some (Value.int z)) (rfl), MS.mk hr h⟩)
  · have hg4 : g < 4 := by omega
    have e : qLine (v, hv, d, iv, isd, ik, bg, bl, bs, nb, sd) (nI g) (nI t) w = if w = 0 then v.2.2.2 g (10 + 4 * t) else if w = 1 then v.2.2.2 g (11 + 4 * t) else if w = 2 then v.2.2.2 g (12 + 4 * t) else -1000000002 := by unfold qLine aLine; dsimp only; rw [if_neg hno, nI_clamp (by omega), nI_clamp (by omega)]
    rw [e] at hR
    by_cases hw : 0 ≤ w ∧ w ≤ 2
    · obtain ⟨m, -, m2, rfl⟩ := btw (a := 0) (b := 2) (by omega) (by omega) hw
      have em : v.2.2.2 g (10 + 4 * t + m) = if nI m = 0 then v.2.2.2 g (10 + 4 * t) else if nI m = 1 then v.2.2.2 g (11 + 4 * t) else if nI m = 2 then v.2.2.2 g (12 + 4 * t) else -1000000002 := by
        rcases (show m = 0 ∨ m = 1 ∨ m = 2 by omega) with rfl | rfl | rfl
        · exact (if_pos rfl).symm
        · rw [if_neg (by decide), if_pos (by decide), show 10 + 4 * t + 1 = 11 + 4 * t by omega]
        · rw [if_neg (by decide), if_neg (by decide), if_pos (by decide), show 10 + 4 * t + 2 = 12 + 4 * t by omega]
      refine g_aload_n hF dX10_line_0 1 rfl rfl ?_
      refine g_iload_n hF dX10_line_1 2 rfl rfl ?_
      refine g_iload_n hF dX10_line_2 3 rfl rfl ?_
      refine g_callV hF cv_X10_90 (c_M_isLine l E c v pf im ss ik bk ws cm ls nq (nI d) (lN sd) (nI nb) wh ro T hv0 (nI g) (nI t)) dX10_line_3 6 rfl (st := []) rfl rfl ⟨Nat.le_of_ble_eq_true rfl, Nat.le_of_ble_eq_true rfl⟩ ⟨Nat.le_of_ble_eq_true rfl, Nat.le_of_ble_eq_true rfl⟩ rfl (Nat.le_of_ble_eq_true rfl) 10 rfl (by intro H h; first | exact h.1 | exact h.2.1 | exact h.2.2.1 | exact h.2.2.2.1 | exact h.2.2.2.2.1 | exact h.2.2.2.2.2.1 | exact h.2.2.2.2.2.2.1 | exact h.2.2.2.2.2.2.2.1 | exact h.2.2.2.2.2.2.2.2.1 | exact h.2.2.2.2.2.2.2.2.2.1 | exact h.2.2.2.2.2.2.2.2.2.2) (Pr' := _) (fun _ h => h) (fun q z => z.elim) (fun _ _ _ h _ => by exact h) (st1 := [_]) rfl (k1 := 0) (n1 := 0) rfl rfl ?_
      refine g_if_ne hF dX10_line_6 9 rfl 14 (by decide) (fun _ => ?_) (fun c => absurd c (fun y => hno (iy0.mp y)))
      refine g_iload_n hF dX10_line_14 15 rfl rfl ?_
      refine g_iconst hF (0) dX10_line_15 16 rfl rfl ?_
      refine g_iconst hF (2) dX10_line_16 17 rfl rfl ?_
      refine g_callS hF cs_X10_46 (c_M_in l E (nI m) (0) (2) (Mm E c (flat v) pf im ss ik bk ws cm ls nq (nI d) (lN sd) (nI nb) wh ro) 1 ((if_pos hw).symm)) dX10_line_17 20 rfl (st := []) rfl rfl ⟨Nat.le_of_ble_eq_true rfl, Nat.le_of_ble_eq_true rfl⟩ ⟨Nat.le_of_ble_eq_true rfl, Nat.le_of_ble_eq_true rfl⟩ rfl (Nat.le_of_ble_eq_true rfl) (Pr' := _) (fun _ h => h) (fun q z => z.elim) (fun _ _ _ h _ => by exact h) (st1 := [_]) rfl (k1 := 0) (n1 := 0) rfl rfl ?_
      refine g_if_eq hF dX10_line_20 23 rfl 33 (by decide) (fun c => absurd c ((by decide))) (fun _ => ?_)
      refine g_aload_n hF dX10_line_23 24 rfl rfl ?_
      refine g_iload_n hF dX10_line_24 25 rfl rfl ?_
      refine g_iload_n hF dX10_line_25 26 rfl rfl ?_
      refine g_iload_n hF dX10_line_26 27 rfl rfl ?_
      refine g_callV hF cv_X10_73 (c_M_ofL l E c v pf im ss ik bk ws cm ls nq (nI d) (lN sd) (nI nb) wh ro g t m hg4 (by omega) (by omega)) dX10_line_27 30 rfl (st := []) rfl rfl ⟨Nat.le_of_ble_eq_true rfl, Nat.le_of_ble_eq_true rfl⟩ ⟨Nat.le_of_ble_eq_true rfl, Nat.le_of_ble_eq_true rfl⟩ rfl (Nat.le_of_ble_eq_true rfl) 10 rfl (by intro H h; first | exact h.1 | exact h.2.1 | exact h.2.2.1 | exact h.2.2.2.1 | exact h.2.2.2.2.1 | exact h.2.2.2.2.2.1 | exact h.2.2.2.2.2.2.1 | exact h.2.2.2.2.2.2.2.1 | exact h.2.2.2.2.2.2.2.2.1 | exact h.2.2.2.2.2.2.2.2.2.1 | exact h.2.2.2.2.2.2.2.2.2.2) (Pr' := _) (fun _ h => h) (fun q z => z.elim) (fun _ _ _ h _ => by exact h) (st1 := [_]) rfl (k1 := 0) (n1 := 0) rfl rfl ?_
      refine g_goto hF dX10_line_30 35 (by decide) ?_
      exact g_iret hF dX10_line_35 (Nat.le_of_ble_eq_true rfl) (Nat.le_of_ble_eq_true rfl) (fun H h => hR _ _ ⟨congrArg (fun z => some (Value.int z)) (em), MS.mk hr h⟩)
    · have e2 : (if w = 0 then v.2.2.2 g (10 + 4 * t) else if w = 1 then v.2.2.2 g (11 + 4 * t) else if w = 2 then v.2.2.2 g (12 + 4 * t) else -1000000002) = -1000000002 := by
        rw [if_neg (fun y => hw (by rw [y]; decide)), if_neg (fun y => hw (by rw [y]; decide)), if_neg (fun y => hw (by rw [y]; decide))]
      rw [e2] at hR
      refine g_aload_n hF dX10_line_0 1 rfl rfl ?_
      refine g_iload_n hF dX10_line_1 2 rfl rfl ?_
      refine g_iload_n hF dX10_line_2 3 rfl rfl ?_
      refine g_callV hF cv_X10_90 (c_M_isLine l E c v pf im ss ik bk ws cm ls nq (nI d) (lN sd) (nI nb) wh ro T hv0 (nI g) (nI t)) dX10_line_3 6 rfl (st := []) rfl rfl ⟨Nat.le_of_ble_eq_true rfl, Nat.le_of_ble_eq_true rfl⟩ ⟨Nat.le_of_ble_eq_true rfl, Nat.le_of_ble_eq_true rfl⟩ rfl (Nat.le_of_ble_eq_true rfl) 10 rfl (by intro H h; first | exact h.1 | exact h.2.1 | exact h.2.2.1 | exact h.2.2.2.1 | exact h.2.2.2.2.1 | exact h.2.2.2.2.2.1 | exact h.2.2.2.2.2.2.1 | exact h.2.2.2.2.2.2.2.1 | exact h.2.2.2.2.2.2.2.2.1 | exact h.2.2.2.2.2.2.2.2.2.1 | exact h.2.2.2.2.2.2.2.2.2.2) (Pr' := _) (fun _ h => h) (fun q z => z.elim) (fun _ _ _ h _ => by exact h) (st1 := [_]) rfl (k1 := 0) (n1 := 0) rfl rfl ?_
      refine g_if_ne hF dX10_line_6 9 rfl 14 (by decide) (fun _ => ?_) (fun c => absurd c (fun y => hno (iy0.mp y)))
      refine g_iload_n hF dX10_line_14 15 rfl rfl ?_
      refine g_iconst hF (0) dX10_line_15 16 rfl rfl ?_
      refine g_iconst hF (2) dX10_line_16 17 rfl rfl ?_
      refine g_callS hF cs_X10_46 (c_M_in l E (w) (0) (2) (Mm E c (flat v) pf im ss ik bk ws cm ls nq (nI d) (lN sd) (nI nb) wh ro) 0 ((if_neg hw).symm)) dX10_line_17 20 rfl (st := []) rfl rfl ⟨Nat.le_of_ble_eq_true rfl, Nat.le_of_ble_eq_true rfl⟩ ⟨Nat.le_of_ble_eq_true rfl, Nat.le_of_ble_eq_true rfl⟩ rfl (Nat.le_of_ble_eq_true rfl) (Pr' := _) (fun _ h => h) (fun q z => z.elim) (fun _ _ _ h _ => by exact h) (st1 := [_]) rfl (k1 := 0) (n1 := 0) rfl rfl ?_
      refine g_if_eq hF dX10_line_20 23 rfl 33 (by decide) (fun _ => ?_) (fun c => absurd (rfl) c)
      refine g_ldc hF kc_X10_117 dX10_line_33 35 rfl ?_
      exact g_iret hF dX10_line_35 (Nat.le_of_ble_eq_true rfl) (Nat.le_of_ble_eq_true rfl) (fun H h => hR _ _ ⟨congrArg (fun z => some (Value.int z)) (rfl), MS.mk hr h⟩)
set_option maxRecDepth 100000 in
set_option maxHeartbeats 16000000 in
theorem c_E_shape (l : Launch) (E : Ev) (c T : Nat) (σ : AS) (hv0 : okV T σ.1) (z n a r w q : Int32) : Ct l E yX10_shape cX10_shape 8 (some .int) (rm 6) [.ref c, .int z, .int n, .int a, .int r, .int w, .int q] (MS E c σ) (rV (some (.int (fShape σ z n a r w q).1)) (MS E c (fShape σ z n a r w q).2)) (rg c 11) := by
  refine ct_start (by decide) [some (.ref c), some (.int z), some (.int n), some (.int a), some (.int r), some (.int w), some (.int q), none] rfl (Nat.le_of_ble_eq_true rfl) ?_
  intro x hF hN hA hR
  obtain ⟨v, hv, d, iv, isd, ik, bg, bl, bs, nb, sd⟩ := σ
  refine g_openM (fun pf im ss bk ws cm ls nq wh ro hr => ?_)
  dsimp only at hv0
  obtain ⟨G, hG, G1, G4, hGc, ho, hn⟩ := okN hv0
  have bad : ((z < 0 ∨ v.1 ≤ z) ∨ w = z ∨ (¬ w = -1 ∧ (w < 0 ∨ v.1 ≤ w))) → fShape (v, hv, d, iv, isd, ik, bg, bl, bs, nb, sd) z n a r w q = (-1000000001, (v, hv, d, iv, isd, ik, bg, bl, bs, nb, sd)) := fun y => if_pos y
  have rest : ¬ ((z < 0 ∨ v.1 ≤ z) ∨ w = z ∨ (¬ w = -1 ∧ (w < 0 ∨ v.1 ≤ w))) → go l (rm 6) E x 0 0 (Mm E c (flat v) pf im ss ik bk ws cm ls nq (nI d) (lN sd) (nI nb) wh ro) [some (.ref c), some (.int z), some (.int n), some (.int a), some (.int r), some (.int w), some (.int q), none] 32 [] := by
    intro hno
    have bad2 : ¬ (1 ≤ n ∧ n ≤ 6) ∨ ¬ (0 ≤ a ∧ a ≤ 6) ∨ ¬ (0 ≤ r ∧ r ≤ n) ∨ ¬ (0 ≤ q ∧ q ≤ 3) → fShape (v, hv, d, iv, isd, ik, bg, bl, bs, nb, sd) z n a r w q = (-1000000002, (v, hv, d, iv, isd, ik, bg, bl, bs, nb, sd)) := fun y => (if_neg hno).trans (if_pos y)
    rcases pk_ix z (n := G) (by omega) with hz1 | hz1 | ⟨g, hg, rfl⟩
    · exact absurd (Or.inl (Or.inl hz1)) hno
    · exact absurd (Or.inl (Or.inr (hG ▸ hz1))) hno
    · have hg4 : g < 4 := by omega
      obtain ⟨N0, n06, n00⟩ := hn g hg4
      refine g_iload_n hF dX10_shape_32 33 rfl rfl ?_
      refine g_iconst hF (1) dX10_shape_33 34 rfl rfl ?_
      refine g_bipush hF (6) dX10_shape_34 36 rfl rfl ?_
      refine g_callS hF cs_X10_46 (c_M_in l E n 1 6 (Mm E c (flat v) pf im ss ik bk ws cm ls nq (nI d) (lN sd) (nI nb) wh ro) _ rfl) dX10_shape_36 39 rfl (st := []) rfl rfl ⟨Nat.le_of_ble_eq_true rfl, Nat.le_of_ble_eq_true rfl⟩ ⟨Nat.le_of_ble_eq_true rfl, Nat.le_of_ble_eq_true rfl⟩ rfl (Nat.le_of_ble_eq_true rfl) (Pr' := _) (fun _ h => h) (fun q z => z.elim) (fun _ _ _ h _ => by exact h) (st1 := [_]) rfl (k1 := 0) (n1 := 0) rfl rfl ?_
      refine g_if_eq hF dX10_shape_39 42 rfl 72 (by decide) (fun c39 => ?_) (fun c39 => ?_)
      · rw [bad2 (Or.inl (iz0.mp c39))] at hR
        refine g_ldc hF kc_X10_117 dX10_shape_72 74 rfl ?_
        exact g_iret hF dX10_shape_74 (Nat.le_of_ble_eq_true rfl) (Nat.le_of_ble_eq_true rfl) (fun H h => hR _ _ ⟨congrArg (fun z => some (Value.int z)) (rfl), MS.mk hr h⟩)
      · refine g_iload_n hF dX10_shape_42 43 rfl rfl ?_
        refine g_iconst hF (0) dX10_shape_43 44 rfl rfl ?_
        refine g_bipush hF (6) dX10_shape_44 46 rfl rfl ?_
        refine g_callS hF cs_X10_46 (c_M_in l E a 0 6 (Mm E c (flat v) pf im ss ik bk ws cm ls nq (nI d) (lN sd) (nI nb) wh ro) _ rfl) dX10_shape_46 49 rfl (st := []) rfl rfl ⟨Nat.le_of_ble_eq_true rfl, Nat.le_of_ble_eq_true rfl⟩ ⟨Nat.le_of_ble_eq_true rfl, Nat.le_of_ble_eq_true rfl⟩ rfl (Nat.le_of_ble_eq_true rfl) (Pr' := _) (fun _ h => h) (fun q z => z.elim) (fun _ _ _ h _ => by exact h) (st1 := [_]) rfl (k1 := 0) (n1 := 0) rfl rfl ?_
        refine g_if_eq hF dX10_shape_49 52 rfl 72 (by decide) (fun c49 => ?_) (fun c49 => ?_)
        · rw [bad2 (Or.inr (Or.inl (iz0.mp c49)))] at hR
          refine g_ldc hF kc_X10_117 dX10_shape_72 74 rfl ?_
          exact g_iret hF dX10_shape_74 (Nat.le_of_ble_eq_true rfl) (Nat.le_of_ble_eq_true rfl) (fun H h => hR _ _ ⟨congrArg (fun z => some (Value.int z)) (rfl), MS.mk hr h⟩)
        · refine g_iload hF dX10_shape_52 54 rfl rfl ?_
          refine g_iconst hF (0) dX10_shape_54 55 rfl rfl ?_
          refine g_iload_n hF dX10_shape_55 56 rfl rfl ?_
          refine g_callS hF cs_X10_46 (c_M_in l E r 0 n (Mm E c (flat v) pf im ss ik bk ws cm ls nq (nI d) (lN sd) (nI nb) wh ro) _ rfl) dX10_shape_56 59 rfl (st := []) rfl rfl ⟨Nat.le_of_ble_eq_true rfl, Nat.le_of_ble_eq_true rfl⟩ ⟨Nat.le_of_ble_eq_true rfl, Nat.le_of_ble_eq_true rfl⟩ rfl (Nat.le_of_ble_eq_true rfl) (Pr' := _) (fun _ h => h) (fun q z => z.elim) (fun _ _ _ h _ => by exact h) (st1 := [_]) rfl (k1 := 0) (n1 := 0) rfl rfl ?_
          refine g_if_eq hF dX10_shape_59 62 rfl 72 (by decide) (fun c59 => ?_) (fun c59 => ?_)
          · rw [bad2 (Or.inr (Or.inr (Or.inl (iz0.mp c59))))] at hR
            refine g_ldc hF kc_X10_117 dX10_shape_72 74 rfl ?_
            exact g_iret hF dX10_shape_74 (Nat.le_of_ble_eq_true rfl) (Nat.le_of_ble_eq_true rfl) (fun H h => hR _ _ ⟨congrArg (fun z => some (Value.int z)) (rfl), MS.mk hr h⟩)
          · refine g_iload hF dX10_shape_62 64 rfl rfl ?_
            refine g_iconst hF (0) dX10_shape_64 65 rfl rfl ?_
            refine g_iconst hF (3) dX10_shape_65 66 rfl rfl ?_
            refine g_callS hF cs_X10_46 (c_M_in l E q 0 3 (Mm E c (flat v) pf im ss ik bk ws cm ls nq (nI d) (lN sd) (nI nb) wh ro) _ rfl) dX10_shape_66 69 rfl (st := []) rfl rfl ⟨Nat.le_of_ble_eq_true rfl, Nat.le_of_ble_eq_true rfl⟩ ⟨Nat.le_of_ble_eq_true rfl, Nat.le_of_ble_eq_true rfl⟩ rfl (Nat.le_of_ble_eq_true rfl) (Pr' := _) (fun _ h => h) (fun q z => z.elim) (fun _ _ _ h _ => by exact h) (st1 := [_]) rfl (k1 := 0) (n1 := 0) rfl rfl ?_
            refine g_if_ne hF dX10_shape_69 72 rfl 75 (by decide) (fun c69 => ?_) (fun c69 => ?_)
            · have good : fShape (v, hv, d, iv, isd, ik, bg, bl, bs, nb, sd) (nI g) n a r w q = (cnt (v.2.2.2 g) 1, psh (sShape v g n a r w q) (v, hv, d, iv, isd, ik, bg, bl, bs, nb, sd)) := by
                unfold fShape
                rw [if_neg hno, if_neg (fun y => y.elim (fun y => y (iz1 c39)) (fun y => y.elim (fun y => y (iz1 c49)) (fun y => y.elim (fun y => y (iz1 c59)) (fun y => y (iz1 c69))))), nI_clamp (by omega)]
              rw [good] at hR
              refine g_aload_n hF dX10_shape_75 76 rfl rfl ?_
              refine g_callV hF cv_X10_122 (c_M_notes l E c v pf im ss ik bk ws cm ls nq (lN sd) (nI nb) wh ro hv d hr.1 hr.2.2.1) dX10_shape_76 79 rfl (st := []) rfl rfl ⟨Nat.le_of_ble_eq_true rfl, Nat.le_of_ble_eq_true rfl⟩ ⟨Nat.le_of_ble_eq_true rfl, Nat.le_of_ble_eq_true rfl⟩ rfl (Nat.le_of_ble_eq_true rfl) 10 rfl (by intro H h; first | exact h.1 | exact h.2.1 | exact h.2.2.1 | exact h.2.2.2.1 | exact h.2.2.2.2.1 | exact h.2.2.2.2.2.1 | exact h.2.2.2.2.2.2.1 | exact h.2.2.2.2.2.2.2.1 | exact h.2.2.2.2.2.2.2.2.1 | exact h.2.2.2.2.2.2.2.2.2.1 | exact h.2.2.2.2.2.2.2.2.2.2) (Pr' := _) (fun _ h => h) (hA) (fun _ _ _ h _ => by exact h) (st1 := []) rfl (k1 := 0) (n1 := 0) rfl rfl ?_
              refine g_ex (fun pf1 => ?_)
              refine g_pure (fun H h => h.1) (fun hp1 => ?_)
              refine g_pr (fun H h => h.2) ?_
              refine g_aload_n hF dX10_shape_79 80 rfl rfl ?_
              refine g_iload_n hF dX10_shape_80 81 rfl rfl ?_
              refine g_iconst hF (1) dX10_shape_81 82 rfl rfl ?_
              refine g_callV hF cv_X10_77 (c_M_setOf l E c v pf1 im ss ik bk ws cm ls nq (nI (pushD d)) (lN sd) (nI nb) wh ro g N0 1 hg4 n00 n06) dX10_shape_82 85 rfl (st := []) rfl rfl ⟨Nat.le_of_ble_eq_true rfl, Nat.le_of_ble_eq_true rfl⟩ ⟨Nat.le_of_ble_eq_true rfl, Nat.le_of_ble_eq_true rfl⟩ rfl (Nat.le_of_ble_eq_true rfl) 10 rfl (by intro H h; first | exact h.1 | exact h.2.1 | exact h.2.2.1 | exact h.2.2.2.1 | exact h.2.2.2.2.1 | exact h.2.2.2.2.2.1 | exact h.2.2.2.2.2.2.1 | exact h.2.2.2.2.2.2.2.1 | exact h.2.2.2.2.2.2.2.2.1 | exact h.2.2.2.2.2.2.2.2.2.1 | exact h.2.2.2.2.2.2.2.2.2.2) (Pr' := _) (fun _ h => h) (fun q z => z.elim) (fun _ _ _ h _ => by exact h) (st1 := [_]) rfl (k1 := 0) (n1 := 0) rfl rfl ?_
              refine g_callS hF cs_X10_84 (c_M_ones l E (sSet (v.2.2.2 g) 1 N0) (Mm E c (flat v) pf1 im ss ik bk ws cm ls nq (nI (pushD d)) (lN sd) (nI nb) wh ro)) dX10_shape_85 88 rfl (st := []) rfl rfl ⟨Nat.le_of_ble_eq_true rfl, Nat.le_of_ble_eq_true rfl⟩ ⟨Nat.le_of_ble_eq_true rfl, Nat.le_of_ble_eq_true rfl⟩ rfl (Nat.le_of_ble_eq_true rfl) (Pr' := _) (fun _ h => h) (fun q z => z.elim) (fun _ _ _ h _ => by exact h) (st1 := [_]) rfl (k1 := 0) (n1 := 0) rfl rfl ?_
              rw [ones_cnt n00 n06]
              refine g_istore hF dX10_shape_88 90 rfl (lo' := [_, _, _, _, _, _, _, _]) (Nat.le_of_ble_eq_true rfl) rfl ?_
              refine g_aload_n hF dX10_shape_90 91 rfl rfl ?_
              refine g_iload_n hF dX10_shape_91 92 rfl rfl ?_
              refine g_iconst hF (0) dX10_shape_92 93 rfl rfl ?_
              refine g_iload_n hF dX10_shape_93 94 rfl rfl ?_
              rw [show (0 : Int32) = nI 0 by decide]
              refine g_callV hF cv_X10_58 (c_M_put l E c v pf1 im ss ik bk ws cm ls nq (nI (pushD d)) (lN sd) (nI nb) wh ro g 0 n hg4 (by omega)) dX10_shape_94 97 rfl (st := []) rfl rfl ⟨Nat.le_of_ble_eq_true rfl, Nat.le_of_ble_eq_true rfl⟩ ⟨Nat.le_of_ble_eq_true rfl, Nat.le_of_ble_eq_true rfl⟩ rfl (Nat.le_of_ble_eq_true rfl) 10 rfl (by intro H h; first | exact h.1 | exact h.2.1 | exact h.2.2.1 | exact h.2.2.2.1 | exact h.2.2.2.2.1 | exact h.2.2.2.2.2.1 | exact h.2.2.2.2.2.2.1 | exact h.2.2.2.2.2.2.2.1 | exact h.2.2.2.2.2.2.2.2.1 | exact h.2.2.2.2.2.2.2.2.2.1 | exact h.2.2.2.2.2.2.2.2.2.2) (Pr' := Mm E c (flat (v.1, v.2.1, v.2.2.1, va_up v.2.2.2 g (upd (v.2.2.2 g) 0 n))) pf1 im ss ik bk ws cm ls nq (nI (pushD d)) (lN sd) (nI nb) wh ro) (fun _ h => h) (hA) (fun _ _ _ h _ => by exact h) (st1 := []) rfl (k1 := 0) (n1 := 0) rfl rfl ?_
              refine g_aload_n hF dX10_shape_97 98 rfl rfl ?_
              refine g_iload_n hF dX10_shape_98 99 rfl rfl ?_
              refine g_iconst hF (1) dX10_shape_99 100 rfl rfl ?_
              refine g_iload_n hF dX10_shape_100 101 rfl rfl ?_
              rw [show (1 : Int32) = nI 1 by decide]
              refine g_callV hF cv_X10_58 (c_M_put l E c (v.1, v.2.1, v.2.2.1, va_up v.2.2.2 g (upd (v.2.2.2 g) 0 n)) pf1 im ss ik bk ws cm ls nq (nI (pushD d)) (lN sd) (nI nb) wh ro g 1 a hg4 (by omega)) dX10_shape_101 104 rfl (st := []) rfl rfl ⟨Nat.le_of_ble_eq_true rfl, Nat.le_of_ble_eq_true rfl⟩ ⟨Nat.le_of_ble_eq_true rfl, Nat.le_of_ble_eq_true rfl⟩ rfl (Nat.le_of_ble_eq_true rfl) 10 rfl (by intro H h; first | exact h.1 | exact h.2.1 | exact h.2.2.1 | exact h.2.2.2.1 | exact h.2.2.2.2.1 | exact h.2.2.2.2.2.1 | exact h.2.2.2.2.2.2.1 | exact h.2.2.2.2.2.2.2.1 | exact h.2.2.2.2.2.2.2.2.1 | exact h.2.2.2.2.2.2.2.2.2.1 | exact h.2.2.2.2.2.2.2.2.2.2) (Pr' := Mm E c (flat (v.1, v.2.1, v.2.2.1, va_up v.2.2.2 g (upd (upd (v.2.2.2 g) 0 n) 1 a))) pf1 im ss ik bk ws cm ls nq (nI (pushD d)) (lN sd) (nI nb) wh ro) (fun _ h => h) (hA) (fun H H' h h1 h2 => by rw [vput_up] at h1; exact h1) (st1 := []) rfl (k1 := 0) (n1 := 0) rfl rfl ?_
              refine g_aload_n hF dX10_shape_104 105 rfl rfl ?_
              refine g_iload_n hF dX10_shape_105 106 rfl rfl ?_
              refine g_iconst hF (2) dX10_shape_106 107 rfl rfl ?_
              refine g_iload hF dX10_shape_107 109 rfl rfl ?_
              rw [show (2 : Int32) = nI 2 by decide]
              refine g_callV hF cv_X10_58 (c_M_put l E c (v.1, v.2.1, v.2.2.1, va_up v.2.2.2 g (upd (upd (v.2.2.2 g) 0 n) 1 a)) pf1 im ss ik bk ws cm ls nq (nI (pushD d)) (lN sd) (nI nb) wh ro g 2 r hg4 (by omega)) dX10_shape_109 112 rfl (st := []) rfl rfl ⟨Nat.le_of_ble_eq_true rfl, Nat.le_of_ble_eq_true rfl⟩ ⟨Nat.le_of_ble_eq_true rfl, Nat.le_of_ble_eq_true rfl⟩ rfl (Nat.le_of_ble_eq_true rfl) 10 rfl (by intro H h; first | exact h.1 | exact h.2.1 | exact h.2.2.1 | exact h.2.2.2.1 | exact h.2.2.2.2.1 | exact h.2.2.2.2.2.1 | exact h.2.2.2.2.2.2.1 | exact h.2.2.2.2.2.2.2.1 | exact h.2.2.2.2.2.2.2.2.1 | exact h.2.2.2.2.2.2.2.2.2.1 | exact h.2.2.2.2.2.2.2.2.2.2) (Pr' := Mm E c (flat (v.1, v.2.1, v.2.2.1, va_up v.2.2.2 g (upd (upd (upd (v.2.2.2 g) 0 n) 1 a) 2 r))) pf1 im ss ik bk ws cm ls nq (nI (pushD d)) (lN sd) (nI nb) wh ro) (fun _ h => h) (hA) (fun H H' h h1 h2 => by rw [vput_up] at h1; exact h1) (st1 := []) rfl (k1 := 0) (n1 := 0) rfl rfl ?_
              refine g_aload_n hF dX10_shape_112 113 rfl rfl ?_
              refine g_iload_n hF dX10_shape_113 114 rfl rfl ?_
              refine g_iconst hF (3) dX10_shape_114 115 rfl rfl ?_
              refine g_iload hF dX10_shape_115 117 rfl rfl ?_
              rw [show (3 : Int32) = nI 3 by decide]
              refine g_callV hF cv_X10_58 (c_M_put l E c (v.1, v.2.1, v.2.2.1, va_up v.2.2.2 g (upd (upd (upd (v.2.2.2 g) 0 n) 1 a) 2 r)) pf1 im ss ik bk ws cm ls nq (nI (pushD d)) (lN sd) (nI nb) wh ro g 3 w hg4 (by omega)) dX10_shape_117 120 rfl (st := []) rfl rfl ⟨Nat.le_of_ble_eq_true rfl, Nat.le_of_ble_eq_true rfl⟩ ⟨Nat.le_of_ble_eq_true rfl, Nat.le_of_ble_eq_true rfl⟩ rfl (Nat.le_of_ble_eq_true rfl) 10 rfl (by intro H h; first | exact h.1 | exact h.2.1 | exact h.2.2.1 | exact h.2.2.2.1 | exact h.2.2.2.2.1 | exact h.2.2.2.2.2.1 | exact h.2.2.2.2.2.2.1 | exact h.2.2.2.2.2.2.2.1 | exact h.2.2.2.2.2.2.2.2.1 | exact h.2.2.2.2.2.2.2.2.2.1 | exact h.2.2.2.2.2.2.2.2.2.2) (Pr' := Mm E c (flat (v.1, v.2.1, v.2.2.1, va_up v.2.2.2 g (upd (upd (upd (upd (v.2.2.2 g) 0 n) 1 a) 2 r) 3 w))) pf1 im ss ik bk ws cm ls nq (nI (pushD d)) (lN sd) (nI nb) wh ro) (fun _ h => h) (hA) (fun H H' h h1 h2 => by rw [vput_up] at h1; exact h1) (st1 := []) rfl (k1 := 0) (n1 := 0) rfl rfl ?_
              refine g_aload_n hF dX10_shape_120 121 rfl rfl ?_
              refine g_iload_n hF dX10_shape_121 122 rfl rfl ?_
              refine g_iconst hF (4) dX10_shape_122 123 rfl rfl ?_
              refine g_iload hF dX10_shape_123 125 rfl rfl ?_
              rw [show (4 : Int32) = nI 4 by decide]
              refine g_callV hF cv_X10_58 (c_M_put l E c (v.1, v.2.1, v.2.2.1, va_up v.2.2.2 g (upd (upd (upd (upd (v.2.2.2 g) 0 n) 1 a) 2 r) 3 w)) pf1 im ss ik bk ws cm ls nq (nI (pushD d)) (lN sd) (nI nb) wh ro g 4 q hg4 (by omega)) dX10_shape_125 128 rfl (st := []) rfl rfl ⟨Nat.le_of_ble_eq_true rfl, Nat.le_of_ble_eq_true rfl⟩ ⟨Nat.le_of_ble_eq_true rfl, Nat.le_of_ble_eq_true rfl⟩ rfl (Nat.le_of_ble_eq_true rfl) 10 rfl (by intro H h; first | exact h.1 | exact h.2.1 | exact h.2.2.1 | exact h.2.2.2.1 | exact h.2.2.2.2.1 | exact h.2.2.2.2.2.1 | exact h.2.2.2.2.2.2.1 | exact h.2.2.2.2.2.2.2.1 | exact h.2.2.2.2.2.2.2.2.1 | exact h.2.2.2.2.2.2.2.2.2.1 | exact h.2.2.2.2.2.2.2.2.2.2) (Pr' := Mm E c (flat (v.1, v.2.1, v.2.2.1, va_up v.2.2.2 g (upd (upd (upd (upd (upd (v.2.2.2 g) 0 n) 1 a) 2 r) 3 w) 4 q))) pf1 im ss ik bk ws cm ls nq (nI (pushD d)) (lN sd) (nI nb) wh ro) (fun _ h => h) (hA) (fun H H' h h1 h2 => by rw [vput_up] at h1; exact h1) (st1 := []) rfl (k1 := 0) (n1 := 0) rfl rfl ?_
              refine g_aload_n hF dX10_shape_128 129 rfl rfl ?_
              refine g_iload_n hF dX10_shape_129 130 rfl rfl ?_
              refine g_callV hF cv_X10_66 (c_M_frees l E c (v.1, v.2.1, v.2.2.1, va_up v.2.2.2 g (upd (upd (upd (upd (upd (v.2.2.2 g) 0 n) 1 a) 2 r) 3 w) 4 q)) pf1 im ss ik bk ws cm ls nq (nI (pushD d)) (lN sd) (nI nb) wh ro g hg4) dX10_shape_130 133 rfl (st := []) rfl rfl ⟨Nat.le_of_ble_eq_true rfl, Nat.le_of_ble_eq_true rfl⟩ ⟨Nat.le_of_ble_eq_true rfl, Nat.le_of_ble_eq_true rfl⟩ rfl (Nat.le_of_ble_eq_true rfl) 10 rfl (by intro H h; first | exact h.1 | exact h.2.1 | exact h.2.2.1 | exact h.2.2.2.1 | exact h.2.2.2.2.1 | exact h.2.2.2.2.2.1 | exact h.2.2.2.2.2.2.1 | exact h.2.2.2.2.2.2.2.1 | exact h.2.2.2.2.2.2.2.2.1 | exact h.2.2.2.2.2.2.2.2.2.1 | exact h.2.2.2.2.2.2.2.2.2.2) (Pr' := Mm E c (flat (sShape v g n a r w q)) pf1 im ss ik bk ws cm ls nq (nI (pushD d)) (lN sd) (nI nb) wh ro) (fun _ h => h) (hA) (fun H H' h h1 h2 => by dsimp only at h1; rw [va_up_up, va_up_self] at h1; exact h1) (st1 := []) rfl (k1 := 0) (n1 := 0) rfl rfl ?_
              refine g_iload hF dX10_shape_133 135 rfl rfl ?_
              exact g_iret hF dX10_shape_135 (Nat.le_of_ble_eq_true rfl) (Nat.le_of_ble_eq_true rfl) (fun H h => hR _ _ ⟨congrArg (fun z => some (Value.int z)) (rfl), MS.mk (hr.push hp1) h⟩)
            · rw [bad2 (Or.inr (Or.inr (Or.inr (iz0.mp c69))))] at hR
              refine g_ldc hF kc_X10_117 dX10_shape_72 74 rfl ?_
              exact g_iret hF dX10_shape_74 (Nat.le_of_ble_eq_true rfl) (Nat.le_of_ble_eq_true rfl) (fun H h => hR _ _ ⟨congrArg (fun z => some (Value.int z)) (rfl), MS.mk hr h⟩)
  refine g_aload_n hF dX10_shape_0 1 rfl rfl ?_
  refine g_iload_n hF dX10_shape_1 2 rfl rfl ?_
  refine g_callV hF cv_X10_50 (c_M_isGroup l E c v pf im ss ik bk ws cm ls nq (nI d) (lN sd) (nI nb) wh ro G hG G1 G4 z) dX10_shape_2 5 rfl (st := []) rfl rfl ⟨Nat.le_of_ble_eq_true rfl, Nat.le_of_ble_eq_true rfl⟩ ⟨Nat.le_of_ble_eq_true rfl, Nat.le_of_ble_eq_true rfl⟩ rfl (Nat.le_of_ble_eq_true rfl) 10 rfl (by intro H h; first | exact h.1 | exact h.2.1 | exact h.2.2.1 | exact h.2.2.2.1 | exact h.2.2.2.2.1 | exact h.2.2.2.2.2.1 | exact h.2.2.2.2.2.2.1 | exact h.2.2.2.2.2.2.2.1 | exact h.2.2.2.2.2.2.2.2.1 | exact h.2.2.2.2.2.2.2.2.2.1 | exact h.2.2.2.2.2.2.2.2.2.2) (Pr' := _) (fun _ h => h) (fun q z => z.elim) (fun _ _ _ h _ => by exact h) (st1 := [_]) rfl (k1 := 0) (n1 := 0) rfl rfl ?_
  refine g_if_eq hF dX10_shape_5 8 rfl 29 (by decide) (fun c5 => ?_) (fun c5 => ?_)
  · rw [bad (Or.inl (iy0.mp c5))] at hR
    refine g_ldc hF kc_X10_118 dX10_shape_29 31 rfl ?_
    exact g_iret hF dX10_shape_31 (Nat.le_of_ble_eq_true rfl) (Nat.le_of_ble_eq_true rfl) (fun H h => hR _ _ ⟨congrArg (fun z => some (Value.int z)) (rfl), MS.mk hr h⟩)
  · refine g_iload hF dX10_shape_8 10 rfl rfl ?_
    refine g_iconst hF (-1) dX10_shape_10 11 rfl rfl ?_
    refine g_icmp_eq hF dX10_shape_11 14 rfl 23 (by decide) (fun c11 => ?_) (fun c11 => ?_)
    · refine g_iload hF dX10_shape_23 25 rfl rfl ?_
      refine g_iload_n hF dX10_shape_25 26 rfl rfl ?_
      refine g_icmp_ne hF dX10_shape_26 29 rfl 32 (by decide) (fun c26 => ?_) (fun c26 => ?_)
      · exact rest (fun y => y.elim (fun y => c5 (iy0.mpr y)) (fun y => y.elim c26 (fun y => y.1 c11)))
      · rw [bad (Or.inr (Or.inl c26))] at hR
        refine g_ldc hF kc_X10_118 dX10_shape_29 31 rfl ?_
        exact g_iret hF dX10_shape_31 (Nat.le_of_ble_eq_true rfl) (Nat.le_of_ble_eq_true rfl) (fun H h => hR _ _ ⟨congrArg (fun z => some (Value.int z)) (rfl), MS.mk hr h⟩)
    · refine g_aload_n hF dX10_shape_14 15 rfl rfl ?_
      refine g_iload hF dX10_shape_15 17 rfl rfl ?_
      refine g_callV hF cv_X10_50 (c_M_isGroup l E c v pf im ss ik bk ws cm ls nq (nI d) (lN sd) (nI nb) wh ro G hG G1 G4 w) dX10_shape_17 20 rfl (st := []) rfl rfl ⟨Nat.le_of_ble_eq_true rfl, Nat.le_of_ble_eq_true rfl⟩ ⟨Nat.le_of_ble_eq_true rfl, Nat.le_of_ble_eq_true rfl⟩ rfl (Nat.le_of_ble_eq_true rfl) 10 rfl (by intro H h; first | exact h.1 | exact h.2.1 | exact h.2.2.1 | exact h.2.2.2.1 | exact h.2.2.2.2.1 | exact h.2.2.2.2.2.1 | exact h.2.2.2.2.2.2.1 | exact h.2.2.2.2.2.2.2.1 | exact h.2.2.2.2.2.2.2.2.1 | exact h.2.2.2.2.2.2.2.2.2.1 | exact h.2.2.2.2.2.2.2.2.2.2) (Pr' := _) (fun _ h => h) (fun q z => z.elim) (fun _ _ _ h _ => by exact h) (st1 := [_]) rfl (k1 := 0) (n1 := 0) rfl rfl ?_
      refine g_if_eq hF dX10_shape_20 23 rfl 29 (by decide) (fun c20 => ?_) (fun c20 => ?_)
      · rw [bad (Or.inr (Or.inr ⟨c11, iy0.mp c20⟩))] at hR
        refine g_ldc hF kc_X10_118 dX10_shape_29 31 rfl ?_
        exact g_iret hF dX10_shape_31 (Nat.le_of_ble_eq_true rfl) (Nat.le_of_ble_eq_true rfl) (fun H h => hR _ _ ⟨congrArg (fun z => some (Value.int z)) (rfl), MS.mk hr h⟩)
      · refine g_iload hF dX10_shape_23 25 rfl rfl ?_
        refine g_iload_n hF dX10_shape_25 26 rfl rfl ?_
        refine g_icmp_ne hF dX10_shape_26 29 rfl 32 (by decide) (fun c26 => ?_) (fun c26 => ?_)
        · exact rest (fun y => y.elim (fun y => c5 (iy0.mpr y)) (fun y => y.elim c26 (fun y => c20 (iy0.mpr y.2))))
        · rw [bad (Or.inr (Or.inl c26))] at hR
          refine g_ldc hF kc_X10_118 dX10_shape_29 31 rfl ?_
          exact g_iret hF dX10_shape_31 (Nat.le_of_ble_eq_true rfl) (Nat.le_of_ble_eq_true rfl) (fun H h => hR _ _ ⟨congrArg (fun z => some (Value.int z)) (rfl), MS.mk hr h⟩)
section MV5
variable (l : Launch) (E : Ev) (c : Nat) (v : NV) (pf im : Nat → Int32) (ss : Nat → Int64) (kp bk : Nat → Int32) (ws : Nat → Int64) (cm ls nq : Nat → Int32) (dd : Int32) (sd : Int64) (en : Int32) (wh : Int64) (ro : Int32)
set_option maxRecDepth 100000 in
set_option maxHeartbeats 16000000 in
theorem c_M_drawOf (s n : Nat) (hs : s < 2 ^ 31) (h1 : 1 ≤ n) (hn : n < 2 ^ 31) : Ct l E yX10_drawOf cX10_drawOf 2 (some .int) (rm 1) [.ref c, .int (nI n)] (Mm E c (flat v) pf im ss kp bk ws cm ls nq dd (lN s) en wh ro) (rV (some (.int (nI (dw (nx s) n)))) (Mm E c (flat v) pf im ss kp bk ws cm ls nq dd (lN (nx s)) en wh ro)) (rg c 11) := by
  refine ct_start (by decide) [some (.ref c), some (.int (nI n))] rfl (Nat.le_of_ble_eq_true rfl) ?_
  intro x hF hN hA hR
  refine g_aload_n hF dX10_drawOf_0 1 rfl rfl ?_
  refine g_aload_n hF dX10_drawOf_1 2 rfl rfl ?_
  refine g_get hF fl_X10_132 dX10_drawOf_2 5 rfl (by intro H h; first | exact h.1 | exact h.2.1 | exact h.2.2.1 | exact h.2.2.2.1 | exact h.2.2.2.2.1 | exact h.2.2.2.2.2.1 | exact h.2.2.2.2.2.2.1 | exact h.2.2.2.2.2.2.2.1 | exact h.2.2.2.2.2.2.2.2.1 | exact h.2.2.2.2.2.2.2.2.2.1 | exact h.2.2.2.2.2.2.2.2.2.2) rfl ?_
  refine g_ldc2 hF kc_X10_136 dX10_drawOf_5 8 rfl ?_
  refine g_lmul hF dX10_drawOf_8 9 rfl ?_
  refine g_ldc2 hF kc_X10_138 dX10_drawOf_9 12 rfl ?_
  refine g_ladd hF dX10_drawOf_12 13 rfl ?_
  refine g_ldc2 hF kc_X10_140 dX10_drawOf_13 16 rfl ?_
  refine g_lrem hF dX10_drawOf_16 17 rfl (by decide) ?_
  rw [nxL hs]
  refine g_put hF pl_X10_132 dX10_drawOf_17 20 rfl (by intro H h; first | exact h.1 | exact h.2.1 | exact h.2.2.1 | exact h.2.2.2.1 | exact h.2.2.2.2.1 | exact h.2.2.2.2.2.1 | exact h.2.2.2.2.2.2.1 | exact h.2.2.2.2.2.2.2.1 | exact h.2.2.2.2.2.2.2.2.1 | exact h.2.2.2.2.2.2.2.2.2.1 | exact h.2.2.2.2.2.2.2.2.2.2) (Nat.le_of_ble_eq_true rfl) rfl rfl (hA _ ⟨by omega, by omega⟩) (Pr' := Mm E c (flat v) pf im ss kp bk ws cm ls nq dd (lN (nx s)) en wh ro) (fun H H' h h1 h2 => by exact h.fld h1 h2) ?_
  refine g_aload_n hF dX10_drawOf_20 21 rfl rfl ?_
  refine g_get hF fl_X10_132 dX10_drawOf_21 24 rfl (by intro H h; first | exact h.1 | exact h.2.1 | exact h.2.2.1 | exact h.2.2.2.1 | exact h.2.2.2.2.1 | exact h.2.2.2.2.2.1 | exact h.2.2.2.2.2.2.1 | exact h.2.2.2.2.2.2.2.1 | exact h.2.2.2.2.2.2.2.2.1 | exact h.2.2.2.2.2.2.2.2.2.1 | exact h.2.2.2.2.2.2.2.2.2.2) rfl ?_
  refine g_ldc2 hF kc_X10_142 dX10_drawOf_24 27 rfl ?_
  refine g_ldiv hF dX10_drawOf_27 28 rfl (by decide) ?_
  refine g_iload_n hF dX10_drawOf_28 29 rfl rfl ?_
  refine g_i2l hF dX10_drawOf_29 30 rfl ?_
  rw [nI_l hn]
  refine g_lrem hF dX10_drawOf_30 31 rfl (fun y => absurd ((pk_lEQ (b := 0) (by omega) (by omega)).mp y) (by omega)) ?_
  refine g_l2i hF dX10_drawOf_31 32 rfl ?_
  rw [dwL (nx_lt s) h1 hn]
  exact g_iret hF dX10_drawOf_32 (Nat.le_of_ble_eq_true rfl) (Nat.le_of_ble_eq_true rfl) (fun H h => hR _ _ ⟨congrArg (fun z => some (Value.int z)) (rfl), h⟩)
end MV5
set_option maxRecDepth 100000 in
set_option maxHeartbeats 16000000 in
theorem c_E_drift (l : Launch) (E : Ev) (c T : Nat) (σ : AS) (hT : T + 20 < 2 ^ 30) (hv0 : okV T σ.1) (hs : σ.2.2.2.2.2.2.2.2.2.2 < 2 ^ 31) (z : Int32) : Ct l E yX10_drift cX10_drift 6 (some .int) (rm 7) [.ref c, .int z] (MS E c σ) (rV (some (.int (fDrift σ z).1)) (MS E c (fDrift σ z).2)) (rg c 11) := by
  refine ct_start (by decide) [some (.ref c), some (.int z), none, none, none, none] rfl (Nat.le_of_ble_eq_true rfl) ?_
  intro x hF hN hA hR
  obtain ⟨v, hv, d, iv, isd, ik, bg, bl, bs, nb, sd⟩ := σ
  refine g_openM (fun pf im ss bk ws cm ls nq wh ro hr => ?_)
  dsimp only at hv0
  dsimp only at hs
  by_cases hz : 1 ≤ z ∧ z ≤ 20
  · obtain ⟨m, m1, m20, rfl⟩ := btw (a := 1) (b := 20) (by omega) (by omega) hz
    obtain ⟨σf, ef⟩ : ∃ q, q = drN (v, hv, d, iv, isd, ik, bg, bl, bs, nb, sd) m := ⟨_, rfl⟩
    rw [show fDrift (v, hv, d, iv, isd, ik, bg, bl, bs, nb, sd) (nI m) = (sHeld σf.1.2.2.2 σf.1.1.toNatClampNeg, σf) by unfold fDrift; rw [if_pos hz, nI_clamp (by omega), ← ef]] at hR
    have loop : ∀ (n j : Nat) (i : Int32) (v : NV) (hv : Nat → NV) (d sd : Nat) (pf : Nat → Int32), m - j < n → j ≤ m → i = nI j → mrel pf im ss bk hv d iv isd ik bg bl bs nb → okV (T + j) v → sd < 2 ^ 31 → σf = drN (v, hv, d, iv, isd, ik, bg, bl, bs, nb, sd) (m - j) → go l (rm 7) E x 0 0 (Mm E c (flat v) pf im ss ik bk ws cm ls nq (nI d) (lN sd) (nI nb) wh ro) [some (.ref c), some (.int (nI m)), some (.int i), none, none, none] 15 [] := by
      intro n
      induction n with
      | zero => intro j i v hv d sd pf h; omega
      | succ n ih =>
        intro j i v hv d sd pf hn0 hj hi hr hv0 hs hf
        subst hi
        by_cases hlt : j < m
        · rw [show m - j = (m - (j + 1)) + 1 by omega, drN_succ, show dr1 (v, hv, d, iv, isd, ik, bg, bl, bs, nb, sd) = ((sDr sd v).2, pushH hv d v, pushD d, iv, isd, ik, bg, bl, bs, nb, (sDr sd v).1) from rfl] at hf
          obtain ⟨G, hG, G1, G4, hGc, ho, hn⟩ := okN hv0
          have e0 : flat v (0 : Int32).toNatClampNeg = nI G := hG
          obtain ⟨g, eg⟩ : ∃ g, g = dw (nx (nx sd)) v.1.toNatClampNeg := ⟨_, rfl⟩
          have hgG : g < G := by rw [eg, hGc]; exact Nat.mod_lt _ (by omega)
          have eg2 : dw (nx (nx sd)) G = g := by rw [eg, hGc]
          obtain ⟨⟨N, n1, n6, n0, -⟩, -⟩ := ho g (by omega)
          obtain ⟨t, ei⟩ : ∃ t, t = dw (nx (nx (nx sd))) (v.2.2.2 g 0).toNatClampNeg := ⟨_, rfl⟩
          have ei2 : dw (nx (nx (nx sd))) N = t := by rw [ei, n0, nI_clamp (by omega)]
          have htN : t < N := by rw [← ei2]; exact Nat.mod_lt _ (by omega)
          have k5 : dw (nx sd) 5 < 5 := Nat.mod_lt _ (by omega)
          have es : sDr sd v = if dw (nx sd) 5 ≤ 2 then (nx (nx sd), sPlace v g) else (nx (nx (nx sd)), if v.2.2.2 g (10 + 4 * t) = 1 then sEnd v g t else v) := by
            unfold sDr
            rw [← eg, ← ei]
          have hok := hv0.sDr (s := sd) (by omega)
          have hlt2 := sDr_lt sd v
          rw [es] at hf hok hlt2
          by_cases hk : dw (nx sd) 5 ≤ 2
          · rw [if_pos hk] at hf hok hlt2
            refine g_iload_n hF dX10_drift_15 16 rfl rfl ?_
            refine g_iload_n hF dX10_drift_16 17 rfl rfl ?_
            refine g_icmp_ge hF dX10_drift_17 20 rfl 98 (by decide) (fun c => absurd c (fun y => absurd (i_le y (by omega) (by omega)) (by omega))) (fun _ => ?_)
            refine g_aload_n hF dX10_drift_20 21 rfl rfl ?_
            refine g_callV hF cv_X10_122 (c_M_notes l E c v pf im ss ik bk ws cm ls nq (lN sd) (nI nb) wh ro hv d hr.1 hr.2.2.1) dX10_drift_21 24 rfl (st := []) rfl rfl ⟨Nat.le_of_ble_eq_true rfl, Nat.le_of_ble_eq_true rfl⟩ ⟨Nat.le_of_ble_eq_true rfl, Nat.le_of_ble_eq_true rfl⟩ rfl (Nat.le_of_ble_eq_true rfl) 10 rfl (by intro H h; first | exact h.1 | exact h.2.1 | exact h.2.2.1 | exact h.2.2.2.1 | exact h.2.2.2.2.1 | exact h.2.2.2.2.2.1 | exact h.2.2.2.2.2.2.1 | exact h.2.2.2.2.2.2.2.1 | exact h.2.2.2.2.2.2.2.2.1 | exact h.2.2.2.2.2.2.2.2.2.1 | exact h.2.2.2.2.2.2.2.2.2.2) (Pr' := _) (fun _ h => h) (hA) (fun _ _ _ h _ => by exact h) (st1 := []) rfl (k1 := 0) (n1 := 0) rfl rfl ?_
            refine g_ex (fun pf1 => ?_)
            refine g_pure (fun H h => h.1) (fun hp1 => ?_)
            refine g_pr (fun H h => h.2) ?_
            refine g_aload_n hF dX10_drift_24 25 rfl rfl ?_
            refine g_iconst hF (5) dX10_drift_25 26 rfl rfl ?_
            rw [show (5 : Int32) = nI 5 by decide]
            refine g_callV hF cv_X10_144 (c_M_drawOf l E c v pf1 im ss ik bk ws cm ls nq (nI (pushD d)) (nI nb) wh ro sd 5 hs (by omega) (by omega)) dX10_drift_26 29 rfl (st := []) rfl rfl ⟨Nat.le_of_ble_eq_true rfl, Nat.le_of_ble_eq_true rfl⟩ ⟨Nat.le_of_ble_eq_true rfl, Nat.le_of_ble_eq_true rfl⟩ rfl (Nat.le_of_ble_eq_true rfl) 10 rfl (by intro H h; first | exact h.1 | exact h.2.1 | exact h.2.2.1 | exact h.2.2.2.1 | exact h.2.2.2.2.1 | exact h.2.2.2.2.2.1 | exact h.2.2.2.2.2.2.1 | exact h.2.2.2.2.2.2.2.1 | exact h.2.2.2.2.2.2.2.2.1 | exact h.2.2.2.2.2.2.2.2.2.1 | exact h.2.2.2.2.2.2.2.2.2.2) (Pr' := _) (fun _ h => h) (hA) (fun _ _ _ h _ => by exact h) (st1 := [_]) rfl (k1 := 0) (n1 := 0) rfl rfl ?_
            refine g_istore_n hF dX10_drift_29 30 rfl (lo' := [_, _, _, _, _, _]) (Nat.le_of_ble_eq_true rfl) rfl ?_
            refine g_aload_n hF dX10_drift_30 31 rfl rfl ?_
            refine g_aload_n hF dX10_drift_31 32 rfl rfl ?_
            refine g_get hF fl_X10_7 dX10_drift_32 35 rfl (by intro H h; first | exact h.1 | exact h.2.1 | exact h.2.2.1 | exact h.2.2.2.1 | exact h.2.2.2.2.1 | exact h.2.2.2.2.2.1 | exact h.2.2.2.2.2.2.1 | exact h.2.2.2.2.2.2.2.1 | exact h.2.2.2.2.2.2.2.2.1 | exact h.2.2.2.2.2.2.2.2.2.1 | exact h.2.2.2.2.2.2.2.2.2.2) rfl ?_
            refine g_iconst hF (0) dX10_drift_35 36 rfl rfl ?_
            refine g_iald hF dX10_drift_36 37 rfl (by intro H h; first | exact h.1 | exact h.2.1 | exact h.2.2.1 | exact h.2.2.2.1 | exact h.2.2.2.2.1 | exact h.2.2.2.2.2.1 | exact h.2.2.2.2.2.2.1 | exact h.2.2.2.2.2.2.2.1 | exact h.2.2.2.2.2.2.2.2.1 | exact h.2.2.2.2.2.2.2.2.2.1 | exact h.2.2.2.2.2.2.2.2.2.2) (vp_in_nI (show 0 < 139 by omega) (by omega)) ?_
            rw [e0]
            refine g_callV hF cv_X10_144 (c_M_drawOf l E c v pf1 im ss ik bk ws cm ls nq (nI (pushD d)) (nI nb) wh ro (nx sd) G (nx_lt _) G1 (by omega)) dX10_drift_37 40 rfl (st := []) rfl rfl ⟨Nat.le_of_ble_eq_true rfl, Nat.le_of_ble_eq_true rfl⟩ ⟨Nat.le_of_ble_eq_true rfl, Nat.le_of_ble_eq_true rfl⟩ rfl (Nat.le_of_ble_eq_true rfl) 10 rfl (by intro H h; first | exact h.1 | exact h.2.1 | exact h.2.2.1 | exact h.2.2.2.1 | exact h.2.2.2.2.1 | exact h.2.2.2.2.2.1 | exact h.2.2.2.2.2.2.1 | exact h.2.2.2.2.2.2.2.1 | exact h.2.2.2.2.2.2.2.2.1 | exact h.2.2.2.2.2.2.2.2.2.1 | exact h.2.2.2.2.2.2.2.2.2.2) (Pr' := _) (fun _ h => h) (hA) (fun _ _ _ h _ => by exact h) (st1 := [_]) rfl (k1 := 0) (n1 := 0) rfl rfl ?_
            rw [eg2]
            refine g_istore hF dX10_drift_40 42 rfl (lo' := [_, _, _, _, _, _]) (Nat.le_of_ble_eq_true rfl) rfl ?_
            refine g_iload_n hF dX10_drift_42 43 rfl rfl ?_
            refine g_iconst hF (3) dX10_drift_43 44 rfl rfl ?_
            refine g_icmp_ge hF dX10_drift_44 47 rfl 57 (by decide) (fun c => absurd c (fun y => absurd (i_le (a := 3) y (by omega) (by omega)) (by omega))) (fun _ => ?_)
            refine g_aload_n hF dX10_drift_47 48 rfl rfl ?_
            refine g_iload hF dX10_drift_48 50 rfl rfl ?_
            refine g_callV hF cv_X10_125 (c_M_comes l E c v pf1 im ss ik bk ws cm ls nq (nI (pushD d)) (lN (nx (nx sd))) (nI nb) wh ro (T + j) G g hv0 hG G4 hgG) dX10_drift_50 53 rfl (st := []) rfl rfl ⟨Nat.le_of_ble_eq_true rfl, Nat.le_of_ble_eq_true rfl⟩ ⟨Nat.le_of_ble_eq_true rfl, Nat.le_of_ble_eq_true rfl⟩ rfl (Nat.le_of_ble_eq_true rfl) 10 rfl (by intro H h; first | exact h.1 | exact h.2.1 | exact h.2.2.1 | exact h.2.2.2.1 | exact h.2.2.2.2.1 | exact h.2.2.2.2.2.1 | exact h.2.2.2.2.2.2.1 | exact h.2.2.2.2.2.2.2.1 | exact h.2.2.2.2.2.2.2.2.1 | exact h.2.2.2.2.2.2.2.2.2.1 | exact h.2.2.2.2.2.2.2.2.2.2) (Pr' := _) (fun _ h => h) (hA) (fun _ _ _ h _ => by exact h) (st1 := [_]) rfl (k1 := 0) (n1 := 0) rfl rfl ?_
            refine g_pop hF dX10_drift_53 54 rfl rfl ?_
            refine g_goto hF dX10_drift_54 92 (by decide) ?_
            refine g_iinc hF dX10_drift_92 95 rfl (1) rfl (lo' := [_, _, _, _, _, _]) rfl rfl ?_
            refine g_goto hF dX10_drift_95 15 (by decide) ?_
            refine g_cut [true, true, true, false, false, false] (lo' := [_, _, _, _, _, _]) rfl ?_
            exact ih (j + 1) _ _ _ _ _ _ (by omega) (by omega) (nI_succ j).symm (hr.push hp1) hok hlt2 hf
          · rw [if_neg hk] at hf hok hlt2
            by_cases hst : v.2.2.2 g (10 + 4 * t) = 1
            · rw [if_pos hst] at hf hok hlt2
              refine g_iload_n hF dX10_drift_15 16 rfl rfl ?_
              refine g_iload_n hF dX10_drift_16 17 rfl rfl ?_
              refine g_icmp_ge hF dX10_drift_17 20 rfl 98 (by decide) (fun c => absurd c (fun y => absurd (i_le y (by omega) (by omega)) (by omega))) (fun _ => ?_)
              refine g_aload_n hF dX10_drift_20 21 rfl rfl ?_
              refine g_callV hF cv_X10_122 (c_M_notes l E c v pf im ss ik bk ws cm ls nq (lN sd) (nI nb) wh ro hv d hr.1 hr.2.2.1) dX10_drift_21 24 rfl (st := []) rfl rfl ⟨Nat.le_of_ble_eq_true rfl, Nat.le_of_ble_eq_true rfl⟩ ⟨Nat.le_of_ble_eq_true rfl, Nat.le_of_ble_eq_true rfl⟩ rfl (Nat.le_of_ble_eq_true rfl) 10 rfl (by intro H h; first | exact h.1 | exact h.2.1 | exact h.2.2.1 | exact h.2.2.2.1 | exact h.2.2.2.2.1 | exact h.2.2.2.2.2.1 | exact h.2.2.2.2.2.2.1 | exact h.2.2.2.2.2.2.2.1 | exact h.2.2.2.2.2.2.2.2.1 | exact h.2.2.2.2.2.2.2.2.2.1 | exact h.2.2.2.2.2.2.2.2.2.2) (Pr' := _) (fun _ h => h) (hA) (fun _ _ _ h _ => by exact h) (st1 := []) rfl (k1 := 0) (n1 := 0) rfl rfl ?_
              refine g_ex (fun pf1 => ?_)
              refine g_pure (fun H h => h.1) (fun hp1 => ?_)
              refine g_pr (fun H h => h.2) ?_
              refine g_aload_n hF dX10_drift_24 25 rfl rfl ?_
              refine g_iconst hF (5) dX10_drift_25 26 rfl rfl ?_
              rw [show (5 : Int32) = nI 5 by decide]
              refine g_callV hF cv_X10_144 (c_M_drawOf l E c v pf1 im ss ik bk ws cm ls nq (nI (pushD d)) (nI nb) wh ro sd 5 hs (by omega) (by omega)) dX10_drift_26 29 rfl (st := []) rfl rfl ⟨Nat.le_of_ble_eq_true rfl, Nat.le_of_ble_eq_true rfl⟩ ⟨Nat.le_of_ble_eq_true rfl, Nat.le_of_ble_eq_true rfl⟩ rfl (Nat.le_of_ble_eq_true rfl) 10 rfl (by intro H h; first | exact h.1 | exact h.2.1 | exact h.2.2.1 | exact h.2.2.2.1 | exact h.2.2.2.2.1 | exact h.2.2.2.2.2.1 | exact h.2.2.2.2.2.2.1 | exact h.2.2.2.2.2.2.2.1 | exact h.2.2.2.2.2.2.2.2.1 | exact h.2.2.2.2.2.2.2.2.2.1 | exact h.2.2.2.2.2.2.2.2.2.2) (Pr' := _) (fun _ h => h) (hA) (fun _ _ _ h _ => by exact h) (st1 := [_]) rfl (k1 := 0) (n1 := 0) rfl rfl ?_
              refine g_istore_n hF dX10_drift_29 30 rfl (lo' := [_, _, _, _, _, _]) (Nat.le_of_ble_eq_true rfl) rfl ?_
              refine g_aload_n hF dX10_drift_30 31 rfl rfl ?_
              refine g_aload_n hF dX10_drift_31 32 rfl rfl ?_
              refine g_get hF fl_X10_7 dX10_drift_32 35 rfl (by intro H h; first | exact h.1 | exact h.2.1 | exact h.2.2.1 | exact h.2.2.2.1 | exact h.2.2.2.2.1 | exact h.2.2.2.2.2.1 | exact h.2.2.2.2.2.2.1 | exact h.2.2.2.2.2.2.2.1 | exact h.2.2.2.2.2.2.2.2.1 | exact h.2.2.2.2.2.2.2.2.2.1 | exact h.2.2.2.2.2.2.2.2.2.2) rfl ?_
              refine g_iconst hF (0) dX10_drift_35 36 rfl rfl ?_
              refine g_iald hF dX10_drift_36 37 rfl (by intro H h; first | exact h.1 | exact h.2.1 | exact h.2.2.1 | exact h.2.2.2.1 | exact h.2.2.2.2.1 | exact h.2.2.2.2.2.1 | exact h.2.2.2.2.2.2.1 | exact h.2.2.2.2.2.2.2.1 | exact h.2.2.2.2.2.2.2.2.1 | exact h.2.2.2.2.2.2.2.2.2.1 | exact h.2.2.2.2.2.2.2.2.2.2) (vp_in_nI (show 0 < 139 by omega) (by omega)) ?_
              rw [e0]
              refine g_callV hF cv_X10_144 (c_M_drawOf l E c v pf1 im ss ik bk ws cm ls nq (nI (pushD d)) (nI nb) wh ro (nx sd) G (nx_lt _) G1 (by omega)) dX10_drift_37 40 rfl (st := []) rfl rfl ⟨Nat.le_of_ble_eq_true rfl, Nat.le_of_ble_eq_true rfl⟩ ⟨Nat.le_of_ble_eq_true rfl, Nat.le_of_ble_eq_true rfl⟩ rfl (Nat.le_of_ble_eq_true rfl) 10 rfl (by intro H h; first | exact h.1 | exact h.2.1 | exact h.2.2.1 | exact h.2.2.2.1 | exact h.2.2.2.2.1 | exact h.2.2.2.2.2.1 | exact h.2.2.2.2.2.2.1 | exact h.2.2.2.2.2.2.2.1 | exact h.2.2.2.2.2.2.2.2.1 | exact h.2.2.2.2.2.2.2.2.2.1 | exact h.2.2.2.2.2.2.2.2.2.2) (Pr' := _) (fun _ h => h) (hA) (fun _ _ _ h _ => by exact h) (st1 := [_]) rfl (k1 := 0) (n1 := 0) rfl rfl ?_
              rw [eg2]
              refine g_istore hF dX10_drift_40 42 rfl (lo' := [_, _, _, _, _, _]) (Nat.le_of_ble_eq_true rfl) rfl ?_
              refine g_iload_n hF dX10_drift_42 43 rfl rfl ?_
              refine g_iconst hF (3) dX10_drift_43 44 rfl rfl ?_
              refine g_icmp_ge hF dX10_drift_44 47 rfl 57 (by decide) (fun _ => ?_) (fun c => absurd (nI_le (a := 3) (by omega) (by omega)) c)
              refine g_aload_n hF dX10_drift_57 58 rfl rfl ?_
              refine g_aload_n hF dX10_drift_58 59 rfl rfl ?_
              refine g_iload hF dX10_drift_59 61 rfl rfl ?_
              refine g_iconst hF (0) dX10_drift_61 62 rfl rfl ?_
              rw [show (0 : Int32) = nI 0 by decide]
              refine g_callV hF cv_X10_54 (c_M_of l E c v pf1 im ss ik bk ws cm ls nq (nI (pushD d)) (lN (nx (nx sd))) (nI nb) wh ro g 0 (by omega) (by omega)) dX10_drift_62 65 rfl (st := [_]) rfl rfl ⟨Nat.le_of_ble_eq_true rfl, Nat.le_of_ble_eq_true rfl⟩ ⟨Nat.le_of_ble_eq_true rfl, Nat.le_of_ble_eq_true rfl⟩ rfl (Nat.le_of_ble_eq_true rfl) 10 rfl (by intro H h; first | exact h.1 | exact h.2.1 | exact h.2.2.1 | exact h.2.2.2.1 | exact h.2.2.2.2.1 | exact h.2.2.2.2.2.1 | exact h.2.2.2.2.2.2.1 | exact h.2.2.2.2.2.2.2.1 | exact h.2.2.2.2.2.2.2.2.1 | exact h.2.2.2.2.2.2.2.2.2.1 | exact h.2.2.2.2.2.2.2.2.2.2) (Pr' := _) (fun _ h => h) (fun q z => z.elim) (fun _ _ _ h _ => by exact h) (st1 := [_, _]) rfl (k1 := 0) (n1 := 0) rfl rfl ?_
              rw [n0]
              refine g_callV hF cv_X10_144 (c_M_drawOf l E c v pf1 im ss ik bk ws cm ls nq (nI (pushD d)) (nI nb) wh ro (nx (nx sd)) N (nx_lt _) n1 (by omega)) dX10_drift_65 68 rfl (st := []) rfl rfl ⟨Nat.le_of_ble_eq_true rfl, Nat.le_of_ble_eq_true rfl⟩ ⟨Nat.le_of_ble_eq_true rfl, Nat.le_of_ble_eq_true rfl⟩ rfl (Nat.le_of_ble_eq_true rfl) 10 rfl (by intro H h; first | exact h.1 | exact h.2.1 | exact h.2.2.1 | exact h.2.2.2.1 | exact h.2.2.2.2.1 | exact h.2.2.2.2.2.1 | exact h.2.2.2.2.2.2.1 | exact h.2.2.2.2.2.2.2.1 | exact h.2.2.2.2.2.2.2.2.1 | exact h.2.2.2.2.2.2.2.2.2.1 | exact h.2.2.2.2.2.2.2.2.2.2) (Pr' := _) (fun _ h => h) (hA) (fun _ _ _ h _ => by exact h) (st1 := [_]) rfl (k1 := 0) (n1 := 0) rfl rfl ?_
              rw [ei2]
              refine g_istore hF dX10_drift_68 70 rfl (lo' := [_, _, _, _, _, _]) (Nat.le_of_ble_eq_true rfl) rfl ?_
              refine g_aload_n hF dX10_drift_70 71 rfl rfl ?_
              refine g_iload hF dX10_drift_71 73 rfl rfl ?_
              refine g_iload hF dX10_drift_73 75 rfl rfl ?_
              refine g_iconst hF (0) dX10_drift_75 76 rfl rfl ?_
              rw [show (0 : Int32) = nI 0 by decide]
              refine g_callV hF cv_X10_73 (c_M_ofL l E c v pf1 im ss ik bk ws cm ls nq (nI (pushD d)) (lN (nx (nx (nx sd)))) (nI nb) wh ro g t 0 (by omega) (by omega) (by omega)) dX10_drift_76 79 rfl (st := []) rfl rfl ⟨Nat.le_of_ble_eq_true rfl, Nat.le_of_ble_eq_true rfl⟩ ⟨Nat.le_of_ble_eq_true rfl, Nat.le_of_ble_eq_true rfl⟩ rfl (Nat.le_of_ble_eq_true rfl) 10 rfl (by intro H h; first | exact h.1 | exact h.2.1 | exact h.2.2.1 | exact h.2.2.2.1 | exact h.2.2.2.2.1 | exact h.2.2.2.2.2.1 | exact h.2.2.2.2.2.2.1 | exact h.2.2.2.2.2.2.2.1 | exact h.2.2.2.2.2.2.2.2.1 | exact h.2.2.2.2.2.2.2.2.2.1 | exact h.2.2.2.2.2.2.2.2.2.2) (Pr' := _) (fun _ h => h) (fun q z => z.elim) (fun _ _ _ h _ => by exact h) (st1 := [_]) rfl (k1 := 0) (n1 := 0) rfl rfl ?_
              refine g_iconst hF (1) dX10_drift_79 80 rfl rfl ?_
              refine g_icmp_ne hF dX10_drift_80 83 rfl 92 (by decide) (fun c => absurd (hst) c) (fun _ => ?_)
              refine g_aload_n hF dX10_drift_83 84 rfl rfl ?_
              refine g_iload hF dX10_drift_84 86 rfl rfl ?_
              refine g_iload hF dX10_drift_86 88 rfl rfl ?_
              refine g_callV hF cv_X10_129 (c_M_ends l E c v pf1 im ss ik bk ws cm ls nq (nI (pushD d)) (lN (nx (nx (nx sd)))) (nI nb) wh ro g t (by omega) (by omega)) dX10_drift_88 91 rfl (st := []) rfl rfl ⟨Nat.le_of_ble_eq_true rfl, Nat.le_of_ble_eq_true rfl⟩ ⟨Nat.le_of_ble_eq_true rfl, Nat.le_of_ble_eq_true rfl⟩ rfl (Nat.le_of_ble_eq_true rfl) 10 rfl (by intro H h; first | exact h.1 | exact h.2.1 | exact h.2.2.1 | exact h.2.2.2.1 | exact h.2.2.2.2.1 | exact h.2.2.2.2.2.1 | exact h.2.2.2.2.2.2.1 | exact h.2.2.2.2.2.2.2.1 | exact h.2.2.2.2.2.2.2.2.1 | exact h.2.2.2.2.2.2.2.2.2.1 | exact h.2.2.2.2.2.2.2.2.2.2) (Pr' := _) (fun _ h => h) (hA) (fun _ _ _ h _ => by exact h) (st1 := [_]) rfl (k1 := 0) (n1 := 0) rfl rfl ?_
              refine g_pop hF dX10_drift_91 92 rfl rfl ?_
              refine g_iinc hF dX10_drift_92 95 rfl (1) rfl (lo' := [_, _, _, _, _, _]) rfl rfl ?_
              refine g_goto hF dX10_drift_95 15 (by decide) ?_
              refine g_cut [true, true, true, false, false, false] (lo' := [_, _, _, _, _, _]) rfl ?_
              exact ih (j + 1) _ _ _ _ _ _ (by omega) (by omega) (nI_succ j).symm (hr.push hp1) hok hlt2 hf
            · rw [if_neg hst] at hf hok hlt2
              refine g_iload_n hF dX10_drift_15 16 rfl rfl ?_
              refine g_iload_n hF dX10_drift_16 17 rfl rfl ?_
              refine g_icmp_ge hF dX10_drift_17 20 rfl 98 (by decide) (fun c => absurd c (fun y => absurd (i_le y (by omega) (by omega)) (by omega))) (fun _ => ?_)
              refine g_aload_n hF dX10_drift_20 21 rfl rfl ?_
              refine g_callV hF cv_X10_122 (c_M_notes l E c v pf im ss ik bk ws cm ls nq (lN sd) (nI nb) wh ro hv d hr.1 hr.2.2.1) dX10_drift_21 24 rfl (st := []) rfl rfl ⟨Nat.le_of_ble_eq_true rfl, Nat.le_of_ble_eq_true rfl⟩ ⟨Nat.le_of_ble_eq_true rfl, Nat.le_of_ble_eq_true rfl⟩ rfl (Nat.le_of_ble_eq_true rfl) 10 rfl (by intro H h; first | exact h.1 | exact h.2.1 | exact h.2.2.1 | exact h.2.2.2.1 | exact h.2.2.2.2.1 | exact h.2.2.2.2.2.1 | exact h.2.2.2.2.2.2.1 | exact h.2.2.2.2.2.2.2.1 | exact h.2.2.2.2.2.2.2.2.1 | exact h.2.2.2.2.2.2.2.2.2.1 | exact h.2.2.2.2.2.2.2.2.2.2) (Pr' := _) (fun _ h => h) (hA) (fun _ _ _ h _ => by exact h) (st1 := []) rfl (k1 := 0) (n1 := 0) rfl rfl ?_
              refine g_ex (fun pf1 => ?_)
              refine g_pure (fun H h => h.1) (fun hp1 => ?_)
              refine g_pr (fun H h => h.2) ?_
              refine g_aload_n hF dX10_drift_24 25 rfl rfl ?_
              refine g_iconst hF (5) dX10_drift_25 26 rfl rfl ?_
              rw [show (5 : Int32) = nI 5 by decide]
              refine g_callV hF cv_X10_144 (c_M_drawOf l E c v pf1 im ss ik bk ws cm ls nq (nI (pushD d)) (nI nb) wh ro sd 5 hs (by omega) (by omega)) dX10_drift_26 29 rfl (st := []) rfl rfl ⟨Nat.le_of_ble_eq_true rfl, Nat.le_of_ble_eq_true rfl⟩ ⟨Nat.le_of_ble_eq_true rfl, Nat.le_of_ble_eq_true rfl⟩ rfl (Nat.le_of_ble_eq_true rfl) 10 rfl (by intro H h; first | exact h.1 | exact h.2.1 | exact h.2.2.1 | exact h.2.2.2.1 | exact h.2.2.2.2.1 | exact h.2.2.2.2.2.1 | exact h.2.2.2.2.2.2.1 | exact h.2.2.2.2.2.2.2.1 | exact h.2.2.2.2.2.2.2.2.1 | exact h.2.2.2.2.2.2.2.2.2.1 | exact h.2.2.2.2.2.2.2.2.2.2) (Pr' := _) (fun _ h => h) (hA) (fun _ _ _ h _ => by exact h) (st1 := [_]) rfl (k1 := 0) (n1 := 0) rfl rfl ?_
              refine g_istore_n hF dX10_drift_29 30 rfl (lo' := [_, _, _, _, _, _]) (Nat.le_of_ble_eq_true rfl) rfl ?_
              refine g_aload_n hF dX10_drift_30 31 rfl rfl ?_
              refine g_aload_n hF dX10_drift_31 32 rfl rfl ?_
              refine g_get hF fl_X10_7 dX10_drift_32 35 rfl (by intro H h; first | exact h.1 | exact h.2.1 | exact h.2.2.1 | exact h.2.2.2.1 | exact h.2.2.2.2.1 | exact h.2.2.2.2.2.1 | exact h.2.2.2.2.2.2.1 | exact h.2.2.2.2.2.2.2.1 | exact h.2.2.2.2.2.2.2.2.1 | exact h.2.2.2.2.2.2.2.2.2.1 | exact h.2.2.2.2.2.2.2.2.2.2) rfl ?_
              refine g_iconst hF (0) dX10_drift_35 36 rfl rfl ?_
              refine g_iald hF dX10_drift_36 37 rfl (by intro H h; first | exact h.1 | exact h.2.1 | exact h.2.2.1 | exact h.2.2.2.1 | exact h.2.2.2.2.1 | exact h.2.2.2.2.2.1 | exact h.2.2.2.2.2.2.1 | exact h.2.2.2.2.2.2.2.1 | exact h.2.2.2.2.2.2.2.2.1 | exact h.2.2.2.2.2.2.2.2.2.1 | exact h.2.2.2.2.2.2.2.2.2.2) (vp_in_nI (show 0 < 139 by omega) (by omega)) ?_
              rw [e0]
              refine g_callV hF cv_X10_144 (c_M_drawOf l E c v pf1 im ss ik bk ws cm ls nq (nI (pushD d)) (nI nb) wh ro (nx sd) G (nx_lt _) G1 (by omega)) dX10_drift_37 40 rfl (st := []) rfl rfl ⟨Nat.le_of_ble_eq_true rfl, Nat.le_of_ble_eq_true rfl⟩ ⟨Nat.le_of_ble_eq_true rfl, Nat.le_of_ble_eq_true rfl⟩ rfl (Nat.le_of_ble_eq_true rfl) 10 rfl (by intro H h; first | exact h.1 | exact h.2.1 | exact h.2.2.1 | exact h.2.2.2.1 | exact h.2.2.2.2.1 | exact h.2.2.2.2.2.1 | exact h.2.2.2.2.2.2.1 | exact h.2.2.2.2.2.2.2.1 | exact h.2.2.2.2.2.2.2.2.1 | exact h.2.2.2.2.2.2.2.2.2.1 | exact h.2.2.2.2.2.2.2.2.2.2) (Pr' := _) (fun _ h => h) (hA) (fun _ _ _ h _ => by exact h) (st1 := [_]) rfl (k1 := 0) (n1 := 0) rfl rfl ?_
              rw [eg2]
              refine g_istore hF dX10_drift_40 42 rfl (lo' := [_, _, _, _, _, _]) (Nat.le_of_ble_eq_true rfl) rfl ?_
              refine g_iload_n hF dX10_drift_42 43 rfl rfl ?_
              refine g_iconst hF (3) dX10_drift_43 44 rfl rfl ?_
              refine g_icmp_ge hF dX10_drift_44 47 rfl 57 (by decide) (fun _ => ?_) (fun c => absurd (nI_le (a := 3) (by omega) (by omega)) c)
              refine g_aload_n hF dX10_drift_57 58 rfl rfl ?_
              refine g_aload_n hF dX10_drift_58 59 rfl rfl ?_
              refine g_iload hF dX10_drift_59 61 rfl rfl ?_
              refine g_iconst hF (0) dX10_drift_61 62 rfl rfl ?_
              rw [show (0 : Int32) = nI 0 by decide]
              refine g_callV hF cv_X10_54 (c_M_of l E c v pf1 im ss ik bk ws cm ls nq (nI (pushD d)) (lN (nx (nx sd))) (nI nb) wh ro g 0 (by omega) (by omega)) dX10_drift_62 65 rfl (st := [_]) rfl rfl ⟨Nat.le_of_ble_eq_true rfl, Nat.le_of_ble_eq_true rfl⟩ ⟨Nat.le_of_ble_eq_true rfl, Nat.le_of_ble_eq_true rfl⟩ rfl (Nat.le_of_ble_eq_true rfl) 10 rfl (by intro H h; first | exact h.1 | exact h.2.1 | exact h.2.2.1 | exact h.2.2.2.1 | exact h.2.2.2.2.1 | exact h.2.2.2.2.2.1 | exact h.2.2.2.2.2.2.1 | exact h.2.2.2.2.2.2.2.1 | exact h.2.2.2.2.2.2.2.2.1 | exact h.2.2.2.2.2.2.2.2.2.1 | exact h.2.2.2.2.2.2.2.2.2.2) (Pr' := _) (fun _ h => h) (fun q z => z.elim) (fun _ _ _ h _ => by exact h) (st1 := [_, _]) rfl (k1 := 0) (n1 := 0) rfl rfl ?_
              rw [n0]
              refine g_callV hF cv_X10_144 (c_M_drawOf l E c v pf1 im ss ik bk ws cm ls nq (nI (pushD d)) (nI nb) wh ro (nx (nx sd)) N (nx_lt _) n1 (by omega)) dX10_drift_65 68 rfl (st := []) rfl rfl ⟨Nat.le_of_ble_eq_true rfl, Nat.le_of_ble_eq_true rfl⟩ ⟨Nat.le_of_ble_eq_true rfl, Nat.le_of_ble_eq_true rfl⟩ rfl (Nat.le_of_ble_eq_true rfl) 10 rfl (by intro H h; first | exact h.1 | exact h.2.1 | exact h.2.2.1 | exact h.2.2.2.1 | exact h.2.2.2.2.1 | exact h.2.2.2.2.2.1 | exact h.2.2.2.2.2.2.1 | exact h.2.2.2.2.2.2.2.1 | exact h.2.2.2.2.2.2.2.2.1 | exact h.2.2.2.2.2.2.2.2.2.1 | exact h.2.2.2.2.2.2.2.2.2.2) (Pr' := _) (fun _ h => h) (hA) (fun _ _ _ h _ => by exact h) (st1 := [_]) rfl (k1 := 0) (n1 := 0) rfl rfl ?_
              rw [ei2]
              refine g_istore hF dX10_drift_68 70 rfl (lo' := [_, _, _, _, _, _]) (Nat.le_of_ble_eq_true rfl) rfl ?_
              refine g_aload_n hF dX10_drift_70 71 rfl rfl ?_
              refine g_iload hF dX10_drift_71 73 rfl rfl ?_
              refine g_iload hF dX10_drift_73 75 rfl rfl ?_
              refine g_iconst hF (0) dX10_drift_75 76 rfl rfl ?_
              rw [show (0 : Int32) = nI 0 by decide]
              refine g_callV hF cv_X10_73 (c_M_ofL l E c v pf1 im ss ik bk ws cm ls nq (nI (pushD d)) (lN (nx (nx (nx sd)))) (nI nb) wh ro g t 0 (by omega) (by omega) (by omega)) dX10_drift_76 79 rfl (st := []) rfl rfl ⟨Nat.le_of_ble_eq_true rfl, Nat.le_of_ble_eq_true rfl⟩ ⟨Nat.le_of_ble_eq_true rfl, Nat.le_of_ble_eq_true rfl⟩ rfl (Nat.le_of_ble_eq_true rfl) 10 rfl (by intro H h; first | exact h.1 | exact h.2.1 | exact h.2.2.1 | exact h.2.2.2.1 | exact h.2.2.2.2.1 | exact h.2.2.2.2.2.1 | exact h.2.2.2.2.2.2.1 | exact h.2.2.2.2.2.2.2.1 | exact h.2.2.2.2.2.2.2.2.1 | exact h.2.2.2.2.2.2.2.2.2.1 | exact h.2.2.2.2.2.2.2.2.2.2) (Pr' := _) (fun _ h => h) (fun q z => z.elim) (fun _ _ _ h _ => by exact h) (st1 := [_]) rfl (k1 := 0) (n1 := 0) rfl rfl ?_
              refine g_iconst hF (1) dX10_drift_79 80 rfl rfl ?_
              refine g_icmp_ne hF dX10_drift_80 83 rfl 92 (by decide) (fun _ => ?_) (fun c => absurd c (hst))
              refine g_iinc hF dX10_drift_92 95 rfl (1) rfl (lo' := [_, _, _, _, _, _]) rfl rfl ?_
              refine g_goto hF dX10_drift_95 15 (by decide) ?_
              refine g_cut [true, true, true, false, false, false] (lo' := [_, _, _, _, _, _]) rfl ?_
              exact ih (j + 1) _ _ _ _ _ _ (by omega) (by omega) (nI_succ j).symm (hr.push hp1) hok hlt2 hf
        · have hm : m - j = 0 := by omega
          rw [hm, drN_zero] at hf
          subst hf
          refine g_iload_n hF dX10_drift_15 16 rfl rfl ?_
          refine g_iload_n hF dX10_drift_16 17 rfl rfl ?_
          refine g_icmp_ge hF dX10_drift_17 20 rfl 98 (by decide) (fun _ => ?_) (fun c => absurd (nI_le (by omega) (by omega)) c)
          refine g_aload_n hF dX10_drift_98 99 rfl rfl ?_
          refine g_callV hF cv_X10_104 (c_M_held l E c v pf im ss ik bk ws cm ls nq (nI d) (lN sd) (nI nb) wh ro (T + j) hv0) dX10_drift_99 102 rfl (st := []) rfl rfl ⟨Nat.le_of_ble_eq_true rfl, Nat.le_of_ble_eq_true rfl⟩ ⟨Nat.le_of_ble_eq_true rfl, Nat.le_of_ble_eq_true rfl⟩ rfl (Nat.le_of_ble_eq_true rfl) 10 rfl (by intro H h; first | exact h.1 | exact h.2.1 | exact h.2.2.1 | exact h.2.2.2.1 | exact h.2.2.2.2.1 | exact h.2.2.2.2.2.1 | exact h.2.2.2.2.2.2.1 | exact h.2.2.2.2.2.2.2.1 | exact h.2.2.2.2.2.2.2.2.1 | exact h.2.2.2.2.2.2.2.2.2.1 | exact h.2.2.2.2.2.2.2.2.2.2) (Pr' := _) (fun _ h => h) (fun q z => z.elim) (fun _ _ _ h _ => by exact h) (st1 := [_]) rfl (k1 := 0) (n1 := 0) rfl rfl ?_
          exact g_iret hF dX10_drift_102 (Nat.le_of_ble_eq_true rfl) (Nat.le_of_ble_eq_true rfl) (fun H h => hR _ _ ⟨congrArg (fun z => some (Value.int z)) (rfl), MS.mk hr h⟩)
    refine g_iload_n hF dX10_drift_0 1 rfl rfl ?_
    refine g_iconst hF (1) dX10_drift_1 2 rfl rfl ?_
    refine g_bipush hF (20) dX10_drift_2 4 rfl rfl ?_
    refine g_callS hF cs_X10_46 (c_M_in l E (nI m) (1) (20) (Mm E c (flat v) pf im ss ik bk ws cm ls nq (nI d) (lN sd) (nI nb) wh ro) 1 ((if_pos hz).symm)) dX10_drift_4 7 rfl (st := []) rfl rfl ⟨Nat.le_of_ble_eq_true rfl, Nat.le_of_ble_eq_true rfl⟩ ⟨Nat.le_of_ble_eq_true rfl, Nat.le_of_ble_eq_true rfl⟩ rfl (Nat.le_of_ble_eq_true rfl) (Pr' := _) (fun _ h => h) (fun q z => z.elim) (fun _ _ _ h _ => by exact h) (st1 := [_]) rfl (k1 := 0) (n1 := 0) rfl rfl ?_
    refine g_if_ne hF dX10_drift_7 10 rfl 13 (by decide) (fun _ => ?_) (fun c => absurd c ((by decide)))
    refine g_iconst hF (0) dX10_drift_13 14 rfl rfl ?_
    refine g_istore_n hF dX10_drift_14 15 rfl (lo' := [_, _, _, _, _, _]) (Nat.le_of_ble_eq_true rfl) rfl ?_
    exact loop (m + 1) 0 0 _ _ _ _ _ (by omega) (by omega) nI_0.symm hr hv0 hs ef
  · rw [show fDrift (v, hv, d, iv, isd, ik, bg, bl, bs, nb, sd) z = (-1000000002, (v, hv, d, iv, isd, ik, bg, bl, bs, nb, sd)) from if_neg hz] at hR
    refine g_iload_n hF dX10_drift_0 1 rfl rfl ?_
    refine g_iconst hF (1) dX10_drift_1 2 rfl rfl ?_
    refine g_bipush hF (20) dX10_drift_2 4 rfl rfl ?_
    refine g_callS hF cs_X10_46 (c_M_in l E (z) (1) (20) (Mm E c (flat v) pf im ss ik bk ws cm ls nq (nI d) (lN sd) (nI nb) wh ro) 0 ((if_neg hz).symm)) dX10_drift_4 7 rfl (st := []) rfl rfl ⟨Nat.le_of_ble_eq_true rfl, Nat.le_of_ble_eq_true rfl⟩ ⟨Nat.le_of_ble_eq_true rfl, Nat.le_of_ble_eq_true rfl⟩ rfl (Nat.le_of_ble_eq_true rfl) (Pr' := _) (fun _ h => h) (fun q z => z.elim) (fun _ _ _ h _ => by exact h) (st1 := [_]) rfl (k1 := 0) (n1 := 0) rfl rfl ?_
    refine g_if_ne hF dX10_drift_7 10 rfl 13 (by decide) (fun c => absurd (rfl) c) (fun _ => ?_)
    refine g_ldc hF kc_X10_117 dX10_drift_10 12 rfl ?_
    exact g_iret hF dX10_drift_12 (Nat.le_of_ble_eq_true rfl) (Nat.le_of_ble_eq_true rfl) (fun H h => hR _ _ ⟨congrArg (fun z => some (Value.int z)) (rfl), MS.mk hr h⟩)
