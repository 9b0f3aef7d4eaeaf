/-! TrunkReserveModel: what is asked of it -/
noncomputable def qTold : AS → Int32 → Int32
  | (v, hv, d, iv, isd, ik, bg, bl, bs, nb, sd) => fun z => aTold v d bg bl bs nb z
def qGroup (σ : AS) (z w : Int32) : Int32 := aGroup σ.1 z w
set_option maxRecDepth 100000 in
set_option maxHeartbeats 16000000 in
theorem c_E_told (l : Launch) (E : Ev) (c T : Nat) (σ : AS) (hv0 : okV T σ.1) (z : Int32) : Ct l E yX10_told cX10_told 2 (some .int) (rm 6) [.ref c, .int z] (MS E c σ) (rV (some (.int (qTold σ z))) (MS E c σ)) (rg c 11) := by
  refine ct_start (by decide) [some (.ref c), some (.int z)] rfl (Nat.le_of_ble_eq_true rfl) ?_
  intro x hF hN hA hR
  obtain ⟨v, hv, d, iv, isd, ik, bg, bl, bs, nb, sd⟩ := σ
  refine g_openM (fun pf im ss bk ws cm ls nq wh ro hr => ?_)
  dsimp only at hv0
  rcases sw8 z with rfl | rfl | rfl | rfl | rfl | rfl | rfl | rfl | rfl | hz
  · refine g_iload_n hF dX10_told_0 1 rfl rfl ?_
    refine g_tabIn hF dX10_told_1 (by decide) (by decide) (51) rfl 52 (by decide) ?_
    refine g_aload_n hF dX10_told_52 53 rfl rfl ?_
    refine g_get hF fl_X10_7 dX10_told_53 56 rfl (by intro H h; first | exact h.1 | exact h.2.1 | exact h.2.2.1 | exact h.2.2.2.1 | exact h.2.2.2.2.1 | exact h.2.2.2.2.2.1 | exact h.2.2.2.2.2.2.1 | exact h.2.2.2.2.2.2.2.1 | exact h.2.2.2.2.2.2.2.2.1 | exact h.2.2.2.2.2.2.2.2.2.1 | exact h.2.2.2.2.2.2.2.2.2.2) rfl ?_
    refine g_iload_n hF dX10_told_56 57 rfl rfl ?_
    refine g_iald hF dX10_told_57 58 rfl (by intro H h; first | exact h.1 | exact h.2.1 | exact h.2.2.1 | exact h.2.2.2.1 | exact h.2.2.2.2.1 | exact h.2.2.2.2.2.1 | exact h.2.2.2.2.2.2.1 | exact h.2.2.2.2.2.2.2.1 | exact h.2.2.2.2.2.2.2.2.1 | exact h.2.2.2.2.2.2.2.2.2.1 | exact h.2.2.2.2.2.2.2.2.2.2) (vp_in_nI (show 0 < 139 by omega) (by omega)) ?_
    exact g_iret hF dX10_told_58 (Nat.le_of_ble_eq_true rfl) (Nat.le_of_ble_eq_true rfl) (fun H h => hR _ _ ⟨congrArg (fun z => some (Value.int z)) (rfl), MS.mk hr h⟩)
  · refine g_iload_n hF dX10_told_0 1 rfl rfl ?_
    refine g_tabIn hF dX10_told_1 (by decide) (by decide) (51) rfl 52 (by decide) ?_
    refine g_aload_n hF dX10_told_52 53 rfl rfl ?_
    refine g_get hF fl_X10_7 dX10_told_53 56 rfl (by intro H h; first | exact h.1 | exact h.2.1 | exact h.2.2.1 | exact h.2.2.2.1 | exact h.2.2.2.2.1 | exact h.2.2.2.2.2.1 | exact h.2.2.2.2.2.2.1 | exact h.2.2.2.2.2.2.2.1 | exact h.2.2.2.2.2.2.2.2.1 | exact h.2.2.2.2.2.2.2.2.2.1 | exact h.2.2.2.2.2.2.2.2.2.2) rfl ?_
    refine g_iload_n hF dX10_told_56 57 rfl rfl ?_
    refine g_iald hF dX10_told_57 58 rfl (by intro H h; first | exact h.1 | exact h.2.1 | exact h.2.2.1 | exact h.2.2.2.1 | exact h.2.2.2.2.1 | exact h.2.2.2.2.2.1 | exact h.2.2.2.2.2.2.1 | exact h.2.2.2.2.2.2.2.1 | exact h.2.2.2.2.2.2.2.2.1 | exact h.2.2.2.2.2.2.2.2.2.1 | exact h.2.2.2.2.2.2.2.2.2.2) (vp_in_nI (show 1 < 139 by omega) (by omega)) ?_
    exact g_iret hF dX10_told_58 (Nat.le_of_ble_eq_true rfl) (Nat.le_of_ble_eq_true rfl) (fun H h => hR _ _ ⟨congrArg (fun z => some (Value.int z)) (rfl), MS.mk hr h⟩)
  · refine g_iload_n hF dX10_told_0 1 rfl rfl ?_
    refine g_tabIn hF dX10_told_1 (by decide) (by decide) (51) rfl 52 (by decide) ?_
    refine g_aload_n hF dX10_told_52 53 rfl rfl ?_
    refine g_get hF fl_X10_7 dX10_told_53 56 rfl (by intro H h; first | exact h.1 | exact h.2.1 | exact h.2.2.1 | exact h.2.2.2.1 | exact h.2.2.2.2.1 | exact h.2.2.2.2.2.1 | exact h.2.2.2.2.2.2.1 | exact h.2.2.2.2.2.2.2.1 | exact h.2.2.2.2.2.2.2.2.1 | exact h.2.2.2.2.2.2.2.2.2.1 | exact h.2.2.2.2.2.2.2.2.2.2) rfl ?_
    refine g_iload_n hF dX10_told_56 57 rfl rfl ?_
    refine g_iald hF dX10_told_57 58 rfl (by intro H h; first | exact h.1 | exact h.2.1 | exact h.2.2.1 | exact h.2.2.2.1 | exact h.2.2.2.2.1 | exact h.2.2.2.2.2.1 | exact h.2.2.2.2.2.2.1 | exact h.2.2.2.2.2.2.2.1 | exact h.2.2.2.2.2.2.2.2.1 | exact h.2.2.2.2.2.2.2.2.2.1 | exact h.2.2.2.2.2.2.2.2.2.2) (vp_in_nI (show 2 < 139 by omega) (by omega)) ?_
    exact g_iret hF dX10_told_58 (Nat.le_of_ble_eq_true rfl) (Nat.le_of_ble_eq_true rfl) (fun H h => hR _ _ ⟨congrArg (fun z => some (Value.int z)) (rfl), MS.mk hr h⟩)
  · refine g_iload_n hF dX10_told_0 1 rfl rfl ?_
    refine g_tabIn hF dX10_told_1 (by decide) (by decide) (58) rfl 59 (by decide) ?_
    refine g_aload_n hF dX10_told_59 60 rfl rfl ?_
    refine g_callV hF cv_X10_104 (c_M_held l E c v pf im ss ik bk ws cm ls nq (nI d) (lN sd) (nI nb) wh ro T hv0) dX10_told_60 63 rfl (st := []) rfl rfl ⟨Nat.le_of_ble_eq_true rfl, Nat.le_of_ble_eq_true rfl⟩ ⟨Nat.le_of_ble_eq_true rfl, Nat.le_of_ble_eq_true rfl⟩ rfl (Nat.le_of_ble_eq_true rfl) 10 rfl (by intro H h; first | exact h.1 | exact h.2.1 | exact h.2.2.1 | exact h.2.2.2.1 | exact h.2.2.2.2.1 | exact h.2.2.2.2.2.1 | exact h.2.2.2.2.2.2.1 | exact h.2.2.2.2.2.2.2.1 | exact h.2.2.2.2.2.2.2.2.1 | exact h.2.2.2.2.2.2.2.2.2.1 | exact h.2.2.2.2.2.2.2.2.2.2) (Pr' := _) (fun _ h => h) (fun q z => z.elim) (fun _ _ _ h _ => by exact h) (st1 := [_]) rfl (k1 := 0) (n1 := 0) rfl rfl ?_
    exact g_iret hF dX10_told_63 (Nat.le_of_ble_eq_true rfl) (Nat.le_of_ble_eq_true rfl) (fun H h => hR _ _ ⟨congrArg (fun z => some (Value.int z)) (rfl), MS.mk hr h⟩)
  · refine g_iload_n hF dX10_told_0 1 rfl rfl ?_
    refine g_tabIn hF dX10_told_1 (by decide) (by decide) (63) rfl 64 (by decide) ?_
    refine g_aload_n hF dX10_told_64 65 rfl rfl ?_
    refine g_callV hF cv_X10_108 (c_M_lost l E c v pf im ss ik bk ws cm ls nq (nI d) (lN sd) (nI nb) wh ro T hv0) dX10_told_65 68 rfl (st := []) rfl rfl ⟨Nat.le_of_ble_eq_true rfl, Nat.le_of_ble_eq_true rfl⟩ ⟨Nat.le_of_ble_eq_true rfl, Nat.le_of_ble_eq_true rfl⟩ rfl (Nat.le_of_ble_eq_true rfl) 10 rfl (by intro H h; first | exact h.1 | exact h.2.1 | exact h.2.2.1 | exact h.2.2.2.1 | exact h.2.2.2.2.1 | exact h.2.2.2.2.2.1 | exact h.2.2.2.2.2.2.1 | exact h.2.2.2.2.2.2.2.1 | exact h.2.2.2.2.2.2.2.2.1 | exact h.2.2.2.2.2.2.2.2.2.1 | exact h.2.2.2.2.2.2.2.2.2.2) (Pr' := _) (fun _ h => h) (fun q z => z.elim) (fun _ _ _ h _ => by exact h) (st1 := [_]) rfl (k1 := 0) (n1 := 0) rfl rfl ?_
    exact g_iret hF dX10_told_68 (Nat.le_of_ble_eq_true rfl) (Nat.le_of_ble_eq_true rfl) (fun H h => hR _ _ ⟨congrArg (fun z => some (Value.int z)) (rfl), MS.mk hr h⟩)
  · refine g_iload_n hF dX10_told_0 1 rfl rfl ?_
    refine g_tabIn hF dX10_told_1 (by decide) (by decide) (68) rfl 69 (by decide) ?_
    refine g_aload_n hF dX10_told_69 70 rfl rfl ?_
    refine g_callV hF cv_X10_111 (c_M_together l E c v pf im ss ik bk ws cm ls nq (nI d) (lN sd) (nI nb) wh ro T hv0) dX10_told_70 73 rfl (st := []) rfl rfl ⟨Nat.le_of_ble_eq_true rfl, Nat.le_of_ble_eq_true rfl⟩ ⟨Nat.le_of_ble_eq_true rfl, Nat.le_of_ble_eq_true rfl⟩ rfl (Nat.le_of_ble_eq_true rfl) 10 rfl (by intro H h; first | exact h.1 | exact h.2.1 | exact h.2.2.1 | exact h.2.2.2.1 | exact h.2.2.2.2.1 | exact h.2.2.2.2.2.1 | exact h.2.2.2.2.2.2.1 | exact h.2.2.2.2.2.2.2.1 | exact h.2.2.2.2.2.2.2.2.1 | exact h.2.2.2.2.2.2.2.2.2.1 | exact h.2.2.2.2.2.2.2.2.2.2) (Pr' := _) (fun _ h => h) (hA) (fun _ _ _ h _ => by exact h) (st1 := []) rfl (k1 := 0) (n1 := 0) rfl rfl ?_
    refine g_ex (fun cg1 => ?_)
    refine g_ex (fun ls1 => ?_)
    refine g_ex (fun nq1 => ?_)
    refine g_pure (fun H h => h.1) (fun hcg => ?_)
    refine g_pure (fun H h => h.2.1) (fun hls => ?_)
    refine g_pr (fun H h => h.2.2) ?_
    refine g_aload_n hF dX10_told_73 74 rfl rfl ?_
    refine g_get hF fl_X10_98 dX10_told_74 77 rfl (by intro H h; first | exact h.1 | exact h.2.1 | exact h.2.2.1 | exact h.2.2.2.1 | exact h.2.2.2.2.1 | exact h.2.2.2.2.2.1 | exact h.2.2.2.2.2.2.1 | exact h.2.2.2.2.2.2.2.1 | exact h.2.2.2.2.2.2.2.2.1 | exact h.2.2.2.2.2.2.2.2.2.1 | exact h.2.2.2.2.2.2.2.2.2.2) rfl ?_
    exact g_iret hF dX10_told_77 (Nat.le_of_ble_eq_true rfl) (Nat.le_of_ble_eq_true rfl) (fun H h => hR _ _ ⟨congrArg (fun z => some (Value.int z)) (rfl), MS.mk hr h⟩)
  · refine g_iload_n hF dX10_told_0 1 rfl rfl ?_
    refine g_tabIn hF dX10_told_1 (by decide) (by decide) (77) rfl 78 (by decide) ?_
    refine g_aload_n hF dX10_told_78 79 rfl rfl ?_
    refine g_get hF fl_X10_87 dX10_told_79 82 rfl (by intro H h; first | exact h.1 | exact h.2.1 | exact h.2.2.1 | exact h.2.2.2.1 | exact h.2.2.2.2.1 | exact h.2.2.2.2.2.1 | exact h.2.2.2.2.2.2.1 | exact h.2.2.2.2.2.2.2.1 | exact h.2.2.2.2.2.2.2.2.1 | exact h.2.2.2.2.2.2.2.2.2.1 | exact h.2.2.2.2.2.2.2.2.2.2) rfl ?_
    exact g_iret hF dX10_told_82 (Nat.le_of_ble_eq_true rfl) (Nat.le_of_ble_eq_true rfl) (fun H h => hR _ _ ⟨congrArg (fun z => some (Value.int z)) (rfl), MS.mk hr h⟩)
  · refine g_iload_n hF dX10_told_0 1 rfl rfl ?_
    refine g_tabIn hF dX10_told_1 (by decide) (by decide) (82) rfl 83 (by decide) ?_
    refine g_aload_n hF dX10_told_83 84 rfl rfl ?_
    refine g_callV hF cv_X10_114 (c_M_wrong l E c v pf im ss ik bk ws cm ls nq (nI d) (lN sd) wh ro T nb bg bl bs hv0 hr.2.1 hr.2.2.2.2) dX10_told_84 87 rfl (st := []) rfl rfl ⟨Nat.le_of_ble_eq_true rfl, Nat.le_of_ble_eq_true rfl⟩ ⟨Nat.le_of_ble_eq_true rfl, Nat.le_of_ble_eq_true rfl⟩ rfl (Nat.le_of_ble_eq_true rfl) 10 rfl (by intro H h; first | exact h.1 | exact h.2.1 | exact h.2.2.1 | exact h.2.2.2.1 | exact h.2.2.2.2.1 | exact h.2.2.2.2.2.1 | exact h.2.2.2.2.2.2.1 | exact h.2.2.2.2.2.2.2.1 | exact h.2.2.2.2.2.2.2.2.1 | exact h.2.2.2.2.2.2.2.2.2.1 | exact h.2.2.2.2.2.2.2.2.2.2) (Pr' := _) (fun _ h => h) (fun q z => z.elim) (fun _ _ _ h _ => by exact h) (st1 := [_]) rfl (k1 := 0) (n1 := 0) rfl rfl ?_
    exact g_iret hF dX10_told_87 (Nat.le_of_ble_eq_true rfl) (Nat.le_of_ble_eq_true rfl) (fun H h => hR _ _ ⟨congrArg (fun z => some (Value.int z)) (rfl), MS.mk hr h⟩)
  · refine g_iload_n hF dX10_told_0 1 rfl rfl ?_
    refine g_tabIn hF dX10_told_1 (by decide) (by decide) (87) rfl 88 (by decide) ?_
    refine g_aload_n hF dX10_told_88 89 rfl rfl ?_
    refine g_get hF fl_X10_69 dX10_told_89 92 rfl (by intro H h; first | exact h.1 | exact h.2.1 | exact h.2.2.1 | exact h.2.2.2.1 | exact h.2.2.2.2.1 | exact h.2.2.2.2.2.1 | exact h.2.2.2.2.2.2.1 | exact h.2.2.2.2.2.2.2.1 | exact h.2.2.2.2.2.2.2.2.1 | exact h.2.2.2.2.2.2.2.2.2.1 | exact h.2.2.2.2.2.2.2.2.2.2) rfl ?_
    exact g_iret hF dX10_told_92 (Nat.le_of_ble_eq_true rfl) (Nat.le_of_ble_eq_true rfl) (fun H h => hR _ _ ⟨congrArg (fun z => some (Value.int z)) (rfl), MS.mk hr h⟩)
  · have hne : ∀ k : Int32, (¬ k.toInt < 0 ∧ ¬ (8 : Int) < k.toInt) → ¬ z = k := fun k hk e => by subst e; exact hz.elim hk.1 hk.2
    have en : qTold (v, hv, d, iv, isd, ik, bg, bl, bs, nb, sd) z = -1000000002 := by
      show aTold v d bg bl bs nb z = _
      unfold aTold
      rw [if_neg (hne 0 (by decide)), if_neg (hne 1 (by decide)), if_neg (hne 2 (by decide)), if_neg (hne 3 (by decide)), if_neg (hne 4 (by decide)), if_neg (hne 5 (by decide)), if_neg (hne 6 (by decide)), if_neg (hne 7 (by decide)), if_neg (hne 8 (by decide))]
    rw [en] at hR
    refine g_iload_n hF dX10_told_0 1 rfl rfl ?_
    refine g_tabOut hF dX10_told_1 (hz) 93 (by decide) ?_
    refine g_ldc hF kc_X10_117 dX10_told_93 95 rfl ?_
    exact g_iret hF dX10_told_95 (Nat.le_of_ble_eq_true rfl) (Nat.le_of_ble_eq_true rfl) (fun H h => hR _ _ ⟨congrArg (fun z => some (Value.int z)) (rfl), MS.mk hr h⟩)
set_option maxRecDepth 100000 in
set_option maxHeartbeats 16000000 in
theorem c_E_group (l : Launch) (E : Ev) (c T : Nat) (σ : AS) (hv0 : okV T σ.1) (z w : Int32) : Ct l E yX10_group cX10_group 3 (some .int) (rm 6) [.ref c, .int z, .int w] (MS E c σ) (rV (some (.int (qGroup σ z w))) (MS E c σ)) (rg c 11) := by
  refine ct_start (by decide) [some (.ref c), some (.int z), some (.int w)] rfl (Nat.le_of_ble_eq_true rfl) ?_
  intro x hF hN hA hR
  obtain ⟨v, hv, d, iv, isd, ik, bg, bl, bs, nb, sd⟩ := σ
  refine g_openM (fun pf im ss bk ws cm ls nq wh ro hr => ?_)
  dsimp only at hv0
  obtain ⟨G, hG, G1, G4, hGc, ho, hn⟩ := okN hv0
  by_cases hz : z < 0 ∨ v.1 ≤ z
  · rw [show qGroup (v, hv, d, iv, isd, ik, bg, bl, bs, nb, sd) z w = -1000000001 from if_pos hz] at hR
    refine g_aload_n hF dX10_group_0 1 rfl rfl ?_
    refine g_iload_n hF dX10_group_1 2 rfl rfl ?_
    refine g_callV hF cv_X10_50 (c_M_isGroup l E c v pf im ss ik bk ws cm ls nq (nI d) (lN sd) (nI nb) wh ro G hG G1 G4 z) dX10_group_2 5 rfl (st := []) rfl rfl ⟨Nat.le_of_ble_eq_true rfl, Nat.le_of_ble_eq_true rfl⟩ ⟨Nat.le_of_ble_eq_true rfl, Nat.le_of_ble_eq_true rfl⟩ rfl (Nat.le_of_ble_eq_true rfl) 10 rfl (by intro H h; first | exact h.1 | exact h.2.1 | exact h.2.2.1 | exact h.2.2.2.1 | exact h.2.2.2.2.1 | exact h.2.2.2.2.2.1 | exact h.2.2.2.2.2.2.1 | exact h.2.2.2.2.2.2.2.1 | exact h.2.2.2.2.2.2.2.2.1 | exact h.2.2.2.2.2.2.2.2.2.1 | exact h.2.2.2.2.2.2.2.2.2.2) (Pr' := _) (fun _ h => h) (fun q z => z.elim) (fun _ _ _ h _ => by exact h) (st1 := [_]) rfl (k1 := 0) (n1 := 0) rfl rfl ?_
    refine g_if_ne hF dX10_group_5 8 rfl 11 (by decide) (fun c => absurd (iy0.mpr hz) c) (fun _ => ?_)
    refine g_ldc hF kc_X10_118 dX10_group_8 10 rfl ?_
    exact g_iret hF dX10_group_10 (Nat.le_of_ble_eq_true rfl) (Nat.le_of_ble_eq_true rfl) (fun H h => hR _ _ ⟨congrArg (fun z => some (Value.int z)) (rfl), MS.mk hr h⟩)
  · rcases pk_ix z (n := G) (by omega) with hz1 | hz1 | ⟨g, hg, rfl⟩
    · exact absurd (Or.inl hz1) hz
    · exact absurd (Or.inr (hG ▸ hz1)) hz
    · have hg4 : g < 4 := by omega
      obtain ⟨N, n6, n0⟩ := hn g hg4
      have hnN : nN (v.2.2.2 g) = N := by unfold nN; rw [n0, nI_clamp (by omega)]
      have eq0 : qGroup (v, hv, d, iv, isd, ik, bg, bl, bs, nb, sd) (nI g) w = aGroup v (nI g) w := rfl
      rw [eq0, aGroup_v hG G4 hg] at hR
      dsimp only at hR
      rw [hnN] at hR
      rcases sw14 w with rfl | rfl | rfl | rfl | rfl | rfl | rfl | rfl | rfl | rfl | rfl | rfl | rfl | rfl | rfl | hw
      · refine g_aload_n hF dX10_group_0 1 rfl rfl ?_
        refine g_iload_n hF dX10_group_1 2 rfl rfl ?_
        refine g_callV hF cv_X10_50 (c_M_isGroup l E c v pf im ss ik bk ws cm ls nq (nI d) (lN sd) (nI nb) wh ro G hG G1 G4 (nI g)) dX10_group_2 5 rfl (st := []) rfl rfl ⟨Nat.le_of_ble_eq_true rfl, Nat.le_of_ble_eq_true rfl⟩ ⟨Nat.le_of_ble_eq_true rfl, Nat.le_of_ble_eq_true rfl⟩ rfl (Nat.le_of_ble_eq_true rfl) 10 rfl (by intro H h; first | exact h.1 | exact h.2.1 | exact h.2.2.1 | exact h.2.2.2.1 | exact h.2.2.2.2.1 | exact h.2.2.2.2.2.1 | exact h.2.2.2.2.2.2.1 | exact h.2.2.2.2.2.2.2.1 | exact h.2.2.2.2.2.2.2.2.1 | exact h.2.2.2.2.2.2.2.2.2.1 | exact h.2.2.2.2.2.2.2.2.2.2) (Pr' := _) (fun _ h => h) (fun q z => z.elim) (fun _ _ _ h _ => by exact h) (st1 := [_]) rfl (k1 := 0) (n1 := 0) rfl rfl ?_
        refine g_if_ne hF dX10_group_5 8 rfl 11 (by decide) (fun _ => ?_) (fun c => absurd c (fun y => hz (iy0.mp y)))
        refine g_iload_n hF dX10_group_11 12 rfl rfl ?_
        refine g_tabIn hF dX10_group_12 (by decide) (by decide) (76) rfl 88 (by decide) ?_
        refine g_aload_n hF dX10_group_88 89 rfl rfl ?_
        refine g_iload_n hF dX10_group_89 90 rfl rfl ?_
        refine g_iload_n hF dX10_group_90 91 rfl rfl ?_
        rw [show (0 : Int32) = nI 0 by decide]
        refine g_callV hF cv_X10_54 (c_M_of l E c v pf im ss ik bk ws cm ls nq (nI d) (lN sd) (nI nb) wh ro g 0 hg4 (by omega)) dX10_group_91 94 rfl (st := []) rfl rfl ⟨Nat.le_of_ble_eq_true rfl, Nat.le_of_ble_eq_true rfl⟩ ⟨Nat.le_of_ble_eq_true rfl, Nat.le_of_ble_eq_true rfl⟩ rfl (Nat.le_of_ble_eq_true rfl) 10 rfl (by intro H h; first | exact h.1 | exact h.2.1 | exact h.2.2.1 | exact h.2.2.2.1 | exact h.2.2.2.2.1 | exact h.2.2.2.2.2.1 | exact h.2.2.2.2.2.2.1 | exact h.2.2.2.2.2.2.2.1 | exact h.2.2.2.2.2.2.2.2.1 | exact h.2.2.2.2.2.2.2.2.2.1 | exact h.2.2.2.2.2.2.2.2.2.2) (Pr' := _) (fun _ h => h) (fun q z => z.elim) (fun _ _ _ h _ => by exact h) (st1 := [_]) rfl (k1 := 0) (n1 := 0) rfl rfl ?_
        exact g_iret hF dX10_group_94 (Nat.le_of_ble_eq_true rfl) (Nat.le_of_ble_eq_true rfl) (fun H h => hR _ _ ⟨congrArg (fun z => some (Value.int z)) (rfl), MS.mk hr h⟩)
      · refine g_aload_n hF dX10_group_0 1 rfl rfl ?_
        refine g_iload_n hF dX10_group_1 2 rfl rfl ?_
        refine g_callV hF cv_X10_50 (c_M_isGroup l E c v pf im ss ik bk ws cm ls nq (nI d) (lN sd) (nI nb) wh ro G hG G1 G4 (nI g)) dX10_group_2 5 rfl (st := []) rfl rfl ⟨Nat.le_of_ble_eq_true rfl, Nat.le_of_ble_eq_true rfl⟩ ⟨Nat.le_of_ble_eq_true rfl, Nat.le_of_ble_eq_true rfl⟩ rfl (Nat.le_of_ble_eq_true rfl) 10 rfl (by intro H h; first | exact h.1 | exact h.2.1 | exact h.2.2.1 | exact h.2.2.2.1 | exact h.2.2.2.2.1 | exact h.2.2.2.2.2.1 | exact h.2.2.2.2.2.2.1 | exact h.2.2.2.2.2.2.2.1 | exact h.2.2.2.2.2.2.2.2.1 | exact h.2.2.2.2.2.2.2.2.2.1 | exact h.2.2.2.2.2.2.2.2.2.2) (Pr' := _) (fun _ h => h) (fun q z => z.elim) (fun _ _ _ h _ => by exact h) (st1 := [_]) rfl (k1 := 0) (n1 := 0) rfl rfl ?_
        refine g_if_ne hF dX10_group_5 8 rfl 11 (by decide) (fun _ => ?_) (fun c => absurd c (fun y => hz (iy0.mp y)))
        refine g_iload_n hF dX10_group_11 12 rfl rfl ?_
        refine g_tabIn hF dX10_group_12 (by decide) (by decide) (76) rfl 88 (by decide) ?_
        refine g_aload_n hF dX10_group_88 89 rfl rfl ?_
        refine g_iload_n hF dX10_group_89 90 rfl rfl ?_
        refine g_iload_n hF dX10_group_90 91 rfl rfl ?_
        rw [show (1 : Int32) = nI 1 by decide]
        refine g_callV hF cv_X10_54 (c_M_of l E c v pf im ss ik bk ws cm ls nq (nI d) (lN sd) (nI nb) wh ro g 1 hg4 (by omega)) dX10_group_91 94 rfl (st := []) rfl rfl ⟨Nat.le_of_ble_eq_true rfl, Nat.le_of_ble_eq_true rfl⟩ ⟨Nat.le_of_ble_eq_true rfl, Nat.le_of_ble_eq_true rfl⟩ rfl (Nat.le_of_ble_eq_true rfl) 10 rfl (by intro H h; first | exact h.1 | exact h.2.1 | exact h.2.2.1 | exact h.2.2.2.1 | exact h.2.2.2.2.1 | exact h.2.2.2.2.2.1 | exact h.2.2.2.2.2.2.1 | exact h.2.2.2.2.2.2.2.1 | exact h.2.2.2.2.2.2.2.2.1 | exact h.2.2.2.2.2.2.2.2.2.1 | exact h.2.2.2.2.2.2.2.2.2.2) (Pr' := _) (fun _ h => h) (fun q z => z.elim) (fun _ _ _ h _ => by exact h) (st1 := [_]) rfl (k1 := 0) (n1 := 0) rfl rfl ?_
        exact g_iret hF dX10_group_94 (Nat.le_of_ble_eq_true rfl) (Nat.le_of_ble_eq_true rfl) (fun H h => hR _ _ ⟨congrArg (fun z => some (Value.int z)) (rfl), MS.mk hr h⟩)
      · refine g_aload_n hF dX10_group_0 1 rfl rfl ?_
        refine g_iload_n hF dX10_group_1 2 rfl rfl ?_
        refine g_callV hF cv_X10_50 (c_M_isGroup l E c v pf im ss ik bk ws cm ls nq (nI d) (lN sd) (nI nb) wh ro G hG G1 G4 (nI g)) dX10_group_2 5 rfl (st := []) rfl rfl ⟨Nat.le_of_ble_eq_true rfl, Nat.le_of_ble_eq_true rfl⟩ ⟨Nat.le_of_ble_eq_true rfl, Nat.le_of_ble_eq_true rfl⟩ rfl (Nat.le_of_ble_eq_true rfl) 10 rfl (by intro H h; first | exact h.1 | exact h.2.1 | exact h.2.2.1 | exact h.2.2.2.1 | exact h.2.2.2.2.1 | exact h.2.2.2.2.2.1 | exact h.2.2.2.2.2.2.1 | exact h.2.2.2.2.2.2.2.1 | exact h.2.2.2.2.2.2.2.2.1 | exact h.2.2.2.2.2.2.2.2.2.1 | exact h.2.2.2.2.2.2.2.2.2.2) (Pr' := _) (fun _ h => h) (fun q z => z.elim) (fun _ _ _ h _ => by exact h) (st1 := [_]) rfl (k1 := 0) (n1 := 0) rfl rfl ?_
        refine g_if_ne hF dX10_group_5 8 rfl 11 (by decide) (fun _ => ?_) (fun c => absurd c (fun y => hz (iy0.mp y)))
        refine g_iload_n hF dX10_group_11 12 rfl rfl ?_
        refine g_tabIn hF dX10_group_12 (by decide) (by decide) (76) rfl 88 (by decide) ?_
        refine g_aload_n hF dX10_group_88 89 rfl rfl ?_
        refine g_iload_n hF dX10_group_89 90 rfl rfl ?_
        refine g_iload_n hF dX10_group_90 91 rfl rfl ?_
        rw [show (2 : Int32) = nI 2 by decide]
        refine g_callV hF cv_X10_54 (c_M_of l E c v pf im ss ik bk ws cm ls nq (nI d) (lN sd) (nI nb) wh ro g 2 hg4 (by omega)) dX10_group_91 94 rfl (st := []) rfl rfl ⟨Nat.le_of_ble_eq_true rfl, Nat.le_of_ble_eq_true rfl⟩ ⟨Nat.le_of_ble_eq_true rfl, Nat.le_of_ble_eq_true rfl⟩ rfl (Nat.le_of_ble_eq_true rfl) 10 rfl (by intro H h; first | exact h.1 | exact h.2.1 | exact h.2.2.1 | exact h.2.2.2.1 | exact h.2.2.2.2.1 | exact h.2.2.2.2.2.1 | exact h.2.2.2.2.2.2.1 | exact h.2.2.2.2.2.2.2.1 | exact h.2.2.2.2.2.2.2.2.1 | exact h.2.2.2.2.2.2.2.2.2.1 | exact h.2.2.2.2.2.2.2.2.2.2) (Pr' := _) (fun _ h => h) (fun q z => z.elim) (fun _ _ _ h _ => by exact h) (st1 := [_]) rfl (k1 := 0) (n1 := 0) rfl rfl ?_
        exact g_iret hF dX10_group_94 (Nat.le_of_ble_eq_true rfl) (Nat.le_of_ble_eq_true rfl) (fun H h => hR _ _ ⟨congrArg (fun z => some (Value.int z)) (rfl), MS.mk hr h⟩)
      · refine g_aload_n hF dX10_group_0 1 rfl rfl ?_
        refine g_iload_n hF dX10_group_1 2 rfl rfl ?_
        refine g_callV hF cv_X10_50 (c_M_isGroup l E c v pf im ss ik bk ws cm ls nq (nI d) (lN sd) (nI nb) wh ro G hG G1 G4 (nI g)) dX10_group_2 5 rfl (st := []) rfl rfl ⟨Nat.le_of_ble_eq_true rfl, Nat.le_of_ble_eq_true rfl⟩ ⟨Nat.le_of_ble_eq_true rfl, Nat.le_of_ble_eq_true rfl⟩ rfl (Nat.le_of_ble_eq_true rfl) 10 rfl (by intro H h; first | exact h.1 | exact h.2.1 | exact h.2.2.1 | exact h.2.2.2.1 | exact h.2.2.2.2.1 | exact h.2.2.2.2.2.1 | exact h.2.2.2.2.2.2.1 | exact h.2.2.2.2.2.2.2.1 | exact h.2.2.2.2.2.2.2.2.1 | exact h.2.2.2.2.2.2.2.2.2.1 | exact h.2.2.2.2.2.2.2.2.2.2) (Pr' := _) (fun _ h => h) (fun q z => z.elim) (fun _ _ _ h _ => by exact h) (st1 := [_]) rfl (k1 := 0) (n1 := 0) rfl rfl ?_
        refine g_if_ne hF dX10_group_5 8 rfl 11 (by decide) (fun _ => ?_) (fun c => absurd c (fun y => hz (iy0.mp y)))
        refine g_iload_n hF dX10_group_11 12 rfl rfl ?_
        refine g_tabIn hF dX10_group_12 (by decide) (by decide) (76) rfl 88 (by decide) ?_
        refine g_aload_n hF dX10_group_88 89 rfl rfl ?_
        refine g_iload_n hF dX10_group_89 90 rfl rfl ?_
        refine g_iload_n hF dX10_group_90 91 rfl rfl ?_
        rw [show (3 : Int32) = nI 3 by decide]
        refine g_callV hF cv_X10_54 (c_M_of l E c v pf im ss ik bk ws cm ls nq (nI d) (lN sd) (nI nb) wh ro g 3 hg4 (by omega)) dX10_group_91 94 rfl (st := []) rfl rfl ⟨Nat.le_of_ble_eq_true rfl, Nat.le_of_ble_eq_true rfl⟩ ⟨Nat.le_of_ble_eq_true rfl, Nat.le_of_ble_eq_true rfl⟩ rfl (Nat.le_of_ble_eq_true rfl) 10 rfl (by intro H h; first | exact h.1 | exact h.2.1 | exact h.2.2.1 | exact h.2.2.2.1 | exact h.2.2.2.2.1 | exact h.2.2.2.2.2.1 | exact h.2.2.2.2.2.2.1 | exact h.2.2.2.2.2.2.2.1 | exact h.2.2.2.2.2.2.2.2.1 | exact h.2.2.2.2.2.2.2.2.2.1 | exact h.2.2.2.2.2.2.2.2.2.2) (Pr' := _) (fun _ h => h) (fun q z => z.elim) (fun _ _ _ h _ => by exact h) (st1 := [_]) rfl (k1 := 0) (n1 := 0) rfl rfl ?_
        exact g_iret hF dX10_group_94 (Nat.le_of_ble_eq_true rfl) (Nat.le_of_ble_eq_true rfl) (fun H h => hR _ _ ⟨congrArg (fun z => some (Value.int z)) (rfl), MS.mk hr h⟩)
      · refine g_aload_n hF dX10_group_0 1 rfl rfl ?_
        refine g_iload_n hF dX10_group_1 2 rfl rfl ?_
        refine g_callV hF cv_X10_50 (c_M_isGroup l E c v pf im ss ik bk ws cm ls nq (nI d) (lN sd) (nI nb) wh ro G hG G1 G4 (nI g)) dX10_group_2 5 rfl (st := []) rfl rfl ⟨Nat.le_of_ble_eq_true rfl, Nat.le_of_ble_eq_true rfl⟩ ⟨Nat.le_of_ble_eq_true rfl, Nat.le_of_ble_eq_true rfl⟩ rfl (Nat.le_of_ble_eq_true rfl) 10 rfl (by intro H h; first | exact h.1 | exact h.2.1 | exact h.2.2.1 | exact h.2.2.2.1 | exact h.2.2.2.2.1 | exact h.2.2.2.2.2.1 | exact h.2.2.2.2.2.2.1 | exact h.2.2.2.2.2.2.2.1 | exact h.2.2.2.2.2.2.2.2.1 | exact h.2.2.2.2.2.2.2.2.2.1 | exact h.2.2.2.2.2.2.2.2.2.2) (Pr' := _) (fun _ h => h) (fun q z => z.elim) (fun _ _ _ h _ => by exact h) (st1 := [_]) rfl (k1 := 0) (n1 := 0) rfl rfl ?_
        refine g_if_ne hF dX10_group_5 8 rfl 11 (by decide) (fun _ => ?_) (fun c => absurd c (fun y => hz (iy0.mp y)))
        refine g_iload_n hF dX10_group_11 12 rfl rfl ?_
        refine g_tabIn hF dX10_group_12 (by decide) (by decide) (76) rfl 88 (by decide) ?_
        refine g_aload_n hF dX10_group_88 89 rfl rfl ?_
        refine g_iload_n hF dX10_group_89 90 rfl rfl ?_
        refine g_iload_n hF dX10_group_90 91 rfl rfl ?_
        rw [show (4 : Int32) = nI 4 by decide]
        refine g_callV hF cv_X10_54 (c_M_of l E c v pf im ss ik bk ws cm ls nq (nI d) (lN sd) (nI nb) wh ro g 4 hg4 (by omega)) dX10_group_91 94 rfl (st := []) rfl rfl ⟨Nat.le_of_ble_eq_true rfl, Nat.le_of_ble_eq_true rfl⟩ ⟨Nat.le_of_ble_eq_true rfl, Nat.le_of_ble_eq_true rfl⟩ rfl (Nat.le_of_ble_eq_true rfl) 10 rfl (by intro H h; first | exact h.1 | exact h.2.1 | exact h.2.2.1 | exact h.2.2.2.1 | exact h.2.2.2.2.1 | exact h.2.2.2.2.2.1 | exact h.2.2.2.2.2.2.1 | exact h.2.2.2.2.2.2.2.1 | exact h.2.2.2.2.2.2.2.2.1 | exact h.2.2.2.2.2.2.2.2.2.1 | exact h.2.2.2.2.2.2.2.2.2.2) (Pr' := _) (fun _ h => h) (fun q z => z.elim) (fun _ _ _ h _ => by exact h) (st1 := [_]) rfl (k1 := 0) (n1 := 0) rfl rfl ?_
        exact g_iret hF dX10_group_94 (Nat.le_of_ble_eq_true rfl) (Nat.le_of_ble_eq_true rfl) (fun H h => hR _ _ ⟨congrArg (fun z => some (Value.int z)) (rfl), MS.mk hr h⟩)
      · refine g_aload_n hF dX10_group_0 1 rfl rfl ?_
        refine g_iload_n hF dX10_group_1 2 rfl rfl ?_
        refine g_callV hF cv_X10_50 (c_M_isGroup l E c v pf im ss ik bk ws cm ls nq (nI d) (lN sd) (nI nb) wh ro G hG G1 G4 (nI g)) dX10_group_2 5 rfl (st := []) rfl rfl ⟨Nat.le_of_ble_eq_true rfl, Nat.le_of_ble_eq_true rfl⟩ ⟨Nat.le_of_ble_eq_true rfl, Nat.le_of_ble_eq_true rfl⟩ rfl (Nat.le_of_ble_eq_true rfl) 10 rfl (by intro H h; first | exact h.1 | exact h.2.1 | exact h.2.2.1 | exact h.2.2.2.1 | exact h.2.2.2.2.1 | exact h.2.2.2.2.2.1 | exact h.2.2.2.2.2.2.1 | exact h.2.2.2.2.2.2.2.1 | exact h.2.2.2.2.2.2.2.2.1 | exact h.2.2.2.2.2.2.2.2.2.1 | exact h.2.2.2.2.2.2.2.2.2.2) (Pr' := _) (fun _ h => h) (fun q z => z.elim) (fun _ _ _ h _ => by exact h) (st1 := [_]) rfl (k1 := 0) (n1 := 0) rfl rfl ?_
        refine g_if_ne hF dX10_group_5 8 rfl 11 (by decide) (fun _ => ?_) (fun c => absurd c (fun y => hz (iy0.mp y)))
        refine g_iload_n hF dX10_group_11 12 rfl rfl ?_
        refine g_tabIn hF dX10_group_12 (by decide) (by decide) (83) rfl 95 (by decide) ?_
        refine g_aload_n hF dX10_group_95 96 rfl rfl ?_
        refine g_iload_n hF dX10_group_96 97 rfl rfl ?_
        refine g_iload_n hF dX10_group_97 98 rfl rfl ?_
        refine g_iconst hF (5) dX10_group_98 99 rfl rfl ?_
        refine g_isub hF dX10_group_99 100 rfl ?_
        rw [show (5 : Int32) - 5 = 0 by decide]
        refine g_callV hF cv_X10_77 (c_M_setOf l E c v pf im ss ik bk ws cm ls nq (nI d) (lN sd) (nI nb) wh ro g N 0 hg4 n0 n6) dX10_group_100 103 rfl (st := []) rfl rfl ⟨Nat.le_of_ble_eq_true rfl, Nat.le_of_ble_eq_true rfl⟩ ⟨Nat.le_of_ble_eq_true rfl, Nat.le_of_ble_eq_true rfl⟩ rfl (Nat.le_of_ble_eq_true rfl) 10 rfl (by intro H h; first | exact h.1 | exact h.2.1 | exact h.2.2.1 | exact h.2.2.2.1 | exact h.2.2.2.2.1 | exact h.2.2.2.2.2.1 | exact h.2.2.2.2.2.2.1 | exact h.2.2.2.2.2.2.2.1 | exact h.2.2.2.2.2.2.2.2.1 | exact h.2.2.2.2.2.2.2.2.2.1 | exact h.2.2.2.2.2.2.2.2.2.2) (Pr' := _) (fun _ h => h) (fun q z => z.elim) (fun _ _ _ h _ => by exact h) (st1 := [_]) rfl (k1 := 0) (n1 := 0) rfl rfl ?_
        exact g_iret hF dX10_group_103 (Nat.le_of_ble_eq_true rfl) (Nat.le_of_ble_eq_true rfl) (fun H h => hR _ _ ⟨congrArg (fun z => some (Value.int z)) (rfl), MS.mk hr h⟩)
      · refine g_aload_n hF dX10_group_0 1 rfl rfl ?_
        refine g_iload_n hF dX10_group_1 2 rfl rfl ?_
        refine g_callV hF cv_X10_50 (c_M_isGroup l E c v pf im ss ik bk ws cm ls nq (nI d) (lN sd) (nI nb) wh ro G hG G1 G4 (nI g)) dX10_group_2 5 rfl (st := []) rfl rfl ⟨Nat.le_of_ble_eq_true rfl, Nat.le_of_ble_eq_true rfl⟩ ⟨Nat.le_of_ble_eq_true rfl, Nat.le_of_ble_eq_true rfl⟩ rfl (Nat.le_of_ble_eq_true rfl) 10 rfl (by intro H h; first | exact h.1 | exact h.2.1 | exact h.2.2.1 | exact h.2.2.2.1 | exact h.2.2.2.2.1 | exact h.2.2.2.2.2.1 | exact h.2.2.2.2.2.2.1 | exact h.2.2.2.2.2.2.2.1 | exact h.2.2.2.2.2.2.2.2.1 | exact h.2.2.2.2.2.2.2.2.2.1 | exact h.2.2.2.2.2.2.2.2.2.2) (Pr' := _) (fun _ h => h) (fun q z => z.elim) (fun _ _ _ h _ => by exact h) (st1 := [_]) rfl (k1 := 0) (n1 := 0) rfl rfl ?_
        refine g_if_ne hF dX10_group_5 8 rfl 11 (by decide) (fun _ => ?_) (fun c => absurd c (fun y => hz (iy0.mp y)))
        refine g_iload_n hF dX10_group_11 12 rfl rfl ?_
        refine g_tabIn hF dX10_group_12 (by decide) (by decide) (83) rfl 95 (by decide) ?_
        refine g_aload_n hF dX10_group_95 96 rfl rfl ?_
        refine g_iload_n hF dX10_group_96 97 rfl rfl ?_
        refine g_iload_n hF dX10_group_97 98 rfl rfl ?_
        refine g_iconst hF (5) dX10_group_98 99 rfl rfl ?_
        refine g_isub hF dX10_group_99 100 rfl ?_
        rw [show (6 : Int32) - 5 = 1 by decide]
        refine g_callV hF cv_X10_77 (c_M_setOf l E c v pf im ss ik bk ws cm ls nq (nI d) (lN sd) (nI nb) wh ro g N 1 hg4 n0 n6) dX10_group_100 103 rfl (st := []) rfl rfl ⟨Nat.le_of_ble_eq_true rfl, Nat.le_of_ble_eq_true rfl⟩ ⟨Nat.le_of_ble_eq_true rfl, Nat.le_of_ble_eq_true rfl⟩ rfl (Nat.le_of_ble_eq_true rfl) 10 rfl (by intro H h; first | exact h.1 | exact h.2.1 | exact h.2.2.1 | exact h.2.2.2.1 | exact h.2.2.2.2.1 | exact h.2.2.2.2.2.1 | exact h.2.2.2.2.2.2.1 | exact h.2.2.2.2.2.2.2.1 | exact h.2.2.2.2.2.2.2.2.1 | exact h.2.2.2.2.2.2.2.2.2.1 | exact h.2.2.2.2.2.2.2.2.2.2) (Pr' := _) (fun _ h => h) (fun q z => z.elim) (fun _ _ _ h _ => by exact h) (st1 := [_]) rfl (k1 := 0) (n1 := 0) rfl rfl ?_
        exact g_iret hF dX10_group_103 (Nat.le_of_ble_eq_true rfl) (Nat.le_of_ble_eq_true rfl) (fun H h => hR _ _ ⟨congrArg (fun z => some (Value.int z)) (rfl), MS.mk hr h⟩)
      · refine g_aload_n hF dX10_group_0 1 rfl rfl ?_
        refine g_iload_n hF dX10_group_1 2 rfl rfl ?_
        refine g_callV hF cv_X10_50 (c_M_isGroup l E c v pf im ss ik bk ws cm ls nq (nI d) (lN sd) (nI nb) wh ro G hG G1 G4 (nI g)) dX10_group_2 5 rfl (st := []) rfl rfl ⟨Nat.le_of_ble_eq_true rfl, Nat.le_of_ble_eq_true rfl⟩ ⟨Nat.le_of_ble_eq_true rfl, Nat.le_of_ble_eq_true rfl⟩ rfl (Nat.le_of_ble_eq_true rfl) 10 rfl (by intro H h; first | exact h.1 | exact h.2.1 | exact h.2.2.1 | exact h.2.2.2.1 | exact h.2.2.2.2.1 | exact h.2.2.2.2.2.1 | exact h.2.2.2.2.2.2.1 | exact h.2.2.2.2.2.2.2.1 | exact h.2.2.2.2.2.2.2.2.1 | exact h.2.2.2.2.2.2.2.2.2.1 | exact h.2.2.2.2.2.2.2.2.2.2) (Pr' := _) (fun _ h => h) (fun q z => z.elim) (fun _ _ _ h _ => by exact h) (st1 := [_]) rfl (k1 := 0) (n1 := 0) rfl rfl ?_
        refine g_if_ne hF dX10_group_5 8 rfl 11 (by decide) (fun _ => ?_) (fun c => absurd c (fun y => hz (iy0.mp y)))
        refine g_iload_n hF dX10_group_11 12 rfl rfl ?_
        refine g_tabIn hF dX10_group_12 (by decide) (by decide) (83) rfl 95 (by decide) ?_
        refine g_aload_n hF dX10_group_95 96 rfl rfl ?_
        refine g_iload_n hF dX10_group_96 97 rfl rfl ?_
        refine g_iload_n hF dX10_group_97 98 rfl rfl ?_
        refine g_iconst hF (5) dX10_group_98 99 rfl rfl ?_
        refine g_isub hF dX10_group_99 100 rfl ?_
        rw [show (7 : Int32) - 5 = 2 by decide]
        refine g_callV hF cv_X10_77 (c_M_setOf l E c v pf im ss ik bk ws cm ls nq (nI d) (lN sd) (nI nb) wh ro g N 2 hg4 n0 n6) dX10_group_100 103 rfl (st := []) rfl rfl ⟨Nat.le_of_ble_eq_true rfl, Nat.le_of_ble_eq_true rfl⟩ ⟨Nat.le_of_ble_eq_true rfl, Nat.le_of_ble_eq_true rfl⟩ rfl (Nat.le_of_ble_eq_true rfl) 10 rfl (by intro H h; first | exact h.1 | exact h.2.1 | exact h.2.2.1 | exact h.2.2.2.1 | exact h.2.2.2.2.1 | exact h.2.2.2.2.2.1 | exact h.2.2.2.2.2.2.1 | exact h.2.2.2.2.2.2.2.1 | exact h.2.2.2.2.2.2.2.2.1 | exact h.2.2.2.2.2.2.2.2.2.1 | exact h.2.2.2.2.2.2.2.2.2.2) (Pr' := _) (fun _ h => h) (fun q z => z.elim) (fun _ _ _ h _ => by exact h) (st1 := [_]) rfl (k1 := 0) (n1 := 0) rfl rfl ?_
        exact g_iret hF dX10_group_103 (Nat.le_of_ble_eq_true rfl) (Nat.le_of_ble_eq_true rfl) (fun H h => hR _ _ ⟨congrArg (fun z => some (Value.int z)) (rfl), MS.mk hr h⟩)
      · refine g_aload_n hF dX10_group_0 1 rfl rfl ?_
        refine g_iload_n hF dX10_group_1 2 rfl rfl ?_
        refine g_callV hF cv_X10_50 (c_M_isGroup l E c v pf im ss ik bk ws cm ls nq (nI d) (lN sd) (nI nb) wh ro G hG G1 G4 (nI g)) dX10_group_2 5 rfl (st := []) rfl rfl ⟨Nat.le_of_ble_eq_true rfl, Nat.le_of_ble_eq_true rfl⟩ ⟨Nat.le_of_ble_eq_true rfl, Nat.le_of_ble_eq_true rfl⟩ rfl (Nat.le_of_ble_eq_true rfl) 10 rfl (by intro H h; first | exact h.1 | exact h.2.1 | exact h.2.2.1 | exact h.2.2.2.1 | exact h.2.2.2.2.1 | exact h.2.2.2.2.2.1 | exact h.2.2.2.2.2.2.1 | exact h.2.2.2.2.2.2.2.1 | exact h.2.2.2.2.2.2.2.2.1 | exact h.2.2.2.2.2.2.2.2.2.1 | exact h.2.2.2.2.2.2.2.2.2.2) (Pr' := _) (fun _ h => h) (fun q z => z.elim) (fun _ _ _ h _ => by exact h) (st1 := [_]) rfl (k1 := 0) (n1 := 0) rfl rfl ?_
        refine g_if_ne hF dX10_group_5 8 rfl 11 (by decide) (fun _ => ?_) (fun c => absurd c (fun y => hz (iy0.mp y)))
        refine g_iload_n hF dX10_group_11 12 rfl rfl ?_
        refine g_tabIn hF dX10_group_12 (by decide) (by decide) (92) rfl 104 (by decide) ?_
        refine g_aload_n hF dX10_group_104 105 rfl rfl ?_
        refine g_iload_n hF dX10_group_105 106 rfl rfl ?_
        refine g_bipush hF (6) dX10_group_106 108 rfl rfl ?_
        refine g_iload_n hF dX10_group_108 109 rfl rfl ?_
        refine g_iadd hF dX10_group_109 110 rfl ?_
        refine g_bipush hF (8) dX10_group_110 112 rfl rfl ?_
        refine g_isub hF dX10_group_112 113 rfl ?_
        rw [show (6 : Int32) + 8 - 8 = nI 6 by decide]
        refine g_callV hF cv_X10_54 (c_M_of l E c v pf im ss ik bk ws cm ls nq (nI d) (lN sd) (nI nb) wh ro g 6 hg4 (by omega)) dX10_group_113 116 rfl (st := []) rfl rfl ⟨Nat.le_of_ble_eq_true rfl, Nat.le_of_ble_eq_true rfl⟩ ⟨Nat.le_of_ble_eq_true rfl, Nat.le_of_ble_eq_true rfl⟩ rfl (Nat.le_of_ble_eq_true rfl) 10 rfl (by intro H h; first | exact h.1 | exact h.2.1 | exact h.2.2.1 | exact h.2.2.2.1 | exact h.2.2.2.2.1 | exact h.2.2.2.2.2.1 | exact h.2.2.2.2.2.2.1 | exact h.2.2.2.2.2.2.2.1 | exact h.2.2.2.2.2.2.2.2.1 | exact h.2.2.2.2.2.2.2.2.2.1 | exact h.2.2.2.2.2.2.2.2.2.2) (Pr' := _) (fun _ h => h) (fun q z => z.elim) (fun _ _ _ h _ => by exact h) (st1 := [_]) rfl (k1 := 0) (n1 := 0) rfl rfl ?_
        exact g_iret hF dX10_group_116 (Nat.le_of_ble_eq_true rfl) (Nat.le_of_ble_eq_true rfl) (fun H h => hR _ _ ⟨congrArg (fun z => some (Value.int z)) (rfl), MS.mk hr h⟩)
      · refine g_aload_n hF dX10_group_0 1 rfl rfl ?_
        refine g_iload_n hF dX10_group_1 2 rfl rfl ?_
        refine g_callV hF cv_X10_50 (c_M_isGroup l E c v pf im ss ik bk ws cm ls nq (nI d) (lN sd) (nI nb) wh ro G hG G1 G4 (nI g)) dX10_group_2 5 rfl (st := []) rfl rfl ⟨Nat.le_of_ble_eq_true rfl, Nat.le_of_ble_eq_true rfl⟩ ⟨Nat.le_of_ble_eq_true rfl, Nat.le_of_ble_eq_true rfl⟩ rfl (Nat.le_of_ble_eq_true rfl) 10 rfl (by intro H h; first | exact h.1 | exact h.2.1 | exact h.2.2.1 | exact h.2.2.2.1 | exact h.2.2.2.2.1 | exact h.2.2.2.2.2.1 | exact h.2.2.2.2.2.2.1 | exact h.2.2.2.2.2.2.2.1 | exact h.2.2.2.2.2.2.2.2.1 | exact h.2.2.2.2.2.2.2.2.2.1 | exact h.2.2.2.2.2.2.2.2.2.2) (Pr' := _) (fun _ h => h) (fun q z => z.elim) (fun _ _ _ h _ => by exact h) (st1 := [_]) rfl (k1 := 0) (n1 := 0) rfl rfl ?_
        refine g_if_ne hF dX10_group_5 8 rfl 11 (by decide) (fun _ => ?_) (fun c => absurd c (fun y => hz (iy0.mp y)))
        refine g_iload_n hF dX10_group_11 12 rfl rfl ?_
        refine g_tabIn hF dX10_group_12 (by decide) (by decide) (92) rfl 104 (by decide) ?_
        refine g_aload_n hF dX10_group_104 105 rfl rfl ?_
        refine g_iload_n hF dX10_group_105 106 rfl rfl ?_
        refine g_bipush hF (6) dX10_group_106 108 rfl rfl ?_
        refine g_iload_n hF dX10_group_108 109 rfl rfl ?_
        refine g_iadd hF dX10_group_109 110 rfl ?_
        refine g_bipush hF (8) dX10_group_110 112 rfl rfl ?_
        refine g_isub hF dX10_group_112 113 rfl ?_
        rw [show (6 : Int32) + 9 - 8 = nI 7 by decide]
        refine g_callV hF cv_X10_54 (c_M_of l E c v pf im ss ik bk ws cm ls nq (nI d) (lN sd) (nI nb) wh ro g 7 hg4 (by omega)) dX10_group_113 116 rfl (st := []) rfl rfl ⟨Nat.le_of_ble_eq_true rfl, Nat.le_of_ble_eq_true rfl⟩ ⟨Nat.le_of_ble_eq_true rfl, Nat.le_of_ble_eq_true rfl⟩ rfl (Nat.le_of_ble_eq_true rfl) 10 rfl (by intro H h; first | exact h.1 | exact h.2.1 | exact h.2.2.1 | exact h.2.2.2.1 | exact h.2.2.2.2.1 | exact h.2.2.2.2.2.1 | exact h.2.2.2.2.2.2.1 | exact h.2.2.2.2.2.2.2.1 | exact h.2.2.2.2.2.2.2.2.1 | exact h.2.2.2.2.2.2.2.2.2.1 | exact h.2.2.2.2.2.2.2.2.2.2) (Pr' := _) (fun _ h => h) (fun q z => z.elim) (fun _ _ _ h _ => by exact h) (st1 := [_]) rfl (k1 := 0) (n1 := 0) rfl rfl ?_
        exact g_iret hF dX10_group_116 (Nat.le_of_ble_eq_true rfl) (Nat.le_of_ble_eq_true rfl) (fun H h => hR _ _ ⟨congrArg (fun z => some (Value.int z)) (rfl), MS.mk hr h⟩)
      · refine g_aload_n hF dX10_group_0 1 rfl rfl ?_
        refine g_iload_n hF dX10_group_1 2 rfl rfl ?_
        refine g_callV hF cv_X10_50 (c_M_isGroup l E c v pf im ss ik bk ws cm ls nq (nI d) (lN sd) (nI nb) wh ro G hG G1 G4 (nI g)) dX10_group_2 5 rfl (st := []) rfl rfl ⟨Nat.le_of_ble_eq_true rfl, Nat.le_of_ble_eq_true rfl⟩ ⟨Nat.le_of_ble_eq_true rfl, Nat.le_of_ble_eq_true rfl⟩ rfl (Nat.le_of_ble_eq_true rfl) 10 rfl (by intro H h; first | exact h.1 | exact h.2.1 | exact h.2.2.1 | exact h.2.2.2.1 | exact h.2.2.2.2.1 | exact h.2.2.2.2.2.1 | exact h.2.2.2.2.2.2.1 | exact h.2.2.2.2.2.2.2.1 | exact h.2.2.2.2.2.2.2.2.1 | exact h.2.2.2.2.2.2.2.2.2.1 | exact h.2.2.2.2.2.2.2.2.2.2) (Pr' := _) (fun _ h => h) (fun q z => z.elim) (fun _ _ _ h _ => by exact h) (st1 := [_]) rfl (k1 := 0) (n1 := 0) rfl rfl ?_
        refine g_if_ne hF dX10_group_5 8 rfl 11 (by decide) (fun _ => ?_) (fun c => absurd c (fun y => hz (iy0.mp y)))
        refine g_iload_n hF dX10_group_11 12 rfl rfl ?_
        refine g_tabIn hF dX10_group_12 (by decide) (by decide) (92) rfl 104 (by decide) ?_
        refine g_aload_n hF dX10_group_104 105 rfl rfl ?_
        refine g_iload_n hF dX10_group_105 106 rfl rfl ?_
        refine g_bipush hF (6) dX10_group_106 108 rfl rfl ?_
        refine g_iload_n hF dX10_group_108 109 rfl rfl ?_
        refine g_iadd hF dX10_group_109 110 rfl ?_
        refine g_bipush hF (8) dX10_group_110 112 rfl rfl ?_
        refine g_isub hF dX10_group_112 113 rfl ?_
        rw [show (6 : Int32) + 10 - 8 = nI 8 by decide]
        refine g_callV hF cv_X10_54 (c_M_of l E c v pf im ss ik bk ws cm ls nq (nI d) (lN sd) (nI nb) wh ro g 8 hg4 (by omega)) dX10_group_113 116 rfl (st := []) rfl rfl ⟨Nat.le_of_ble_eq_true rfl, Nat.le_of_ble_eq_true rfl⟩ ⟨Nat.le_of_ble_eq_true rfl, Nat.le_of_ble_eq_true rfl⟩ rfl (Nat.le_of_ble_eq_true rfl) 10 rfl (by intro H h; first | exact h.1 | exact h.2.1 | exact h.2.2.1 | exact h.2.2.2.1 | exact h.2.2.2.2.1 | exact h.2.2.2.2.2.1 | exact h.2.2.2.2.2.2.1 | exact h.2.2.2.2.2.2.2.1 | exact h.2.2.2.2.2.2.2.2.1 | exact h.2.2.2.2.2.2.2.2.2.1 | exact h.2.2.2.2.2.2.2.2.2.2) (Pr' := _) (fun _ h => h) (fun q z => z.elim) (fun _ _ _ h _ => by exact h) (st1 := [_]) rfl (k1 := 0) (n1 := 0) rfl rfl ?_
        exact g_iret hF dX10_group_116 (Nat.le_of_ble_eq_true rfl) (Nat.le_of_ble_eq_true rfl) (fun H h => hR _ _ ⟨congrArg (fun z => some (Value.int z)) (rfl), MS.mk hr h⟩)
      · refine g_aload_n hF dX10_group_0 1 rfl rfl ?_
        refine g_iload_n hF dX10_group_1 2 rfl rfl ?_
        refine g_callV hF cv_X10_50 (c_M_isGroup l E c v pf im ss ik bk ws cm ls nq (nI d) (lN sd) (nI nb) wh ro G hG G1 G4 (nI g)) dX10_group_2 5 rfl (st := []) rfl rfl ⟨Nat.le_of_ble_eq_true rfl, Nat.le_of_ble_eq_true rfl⟩ ⟨Nat.le_of_ble_eq_true rfl, Nat.le_of_ble_eq_true rfl⟩ rfl (Nat.le_of_ble_eq_true rfl) 10 rfl (by intro H h; first | exact h.1 | exact h.2.1 | exact h.2.2.1 | exact h.2.2.2.1 | exact h.2.2.2.2.1 | exact h.2.2.2.2.2.1 | exact h.2.2.2.2.2.2.1 | exact h.2.2.2.2.2.2.2.1 | exact h.2.2.2.2.2.2.2.2.1 | exact h.2.2.2.2.2.2.2.2.2.1 | exact h.2.2.2.2.2.2.2.2.2.2) (Pr' := _) (fun _ h => h) (fun q z => z.elim) (fun _ _ _ h _ => by exact h) (st1 := [_]) rfl (k1 := 0) (n1 := 0) rfl rfl ?_
        refine g_if_ne hF dX10_group_5 8 rfl 11 (by decide) (fun _ => ?_) (fun c => absurd c (fun y => hz (iy0.mp y)))
        refine g_iload_n hF dX10_group_11 12 rfl rfl ?_
        refine g_tabIn hF dX10_group_12 (by decide) (by decide) (92) rfl 104 (by decide) ?_
        refine g_aload_n hF dX10_group_104 105 rfl rfl ?_
        refine g_iload_n hF dX10_group_105 106 rfl rfl ?_
        refine g_bipush hF (6) dX10_group_106 108 rfl rfl ?_
        refine g_iload_n hF dX10_group_108 109 rfl rfl ?_
        refine g_iadd hF dX10_group_109 110 rfl ?_
        refine g_bipush hF (8) dX10_group_110 112 rfl rfl ?_
        refine g_isub hF dX10_group_112 113 rfl ?_
        rw [show (6 : Int32) + 11 - 8 = nI 9 by decide]
        refine g_callV hF cv_X10_54 (c_M_of l E c v pf im ss ik bk ws cm ls nq (nI d) (lN sd) (nI nb) wh ro g 9 hg4 (by omega)) dX10_group_113 116 rfl (st := []) rfl rfl ⟨Nat.le_of_ble_eq_true rfl, Nat.le_of_ble_eq_true rfl⟩ ⟨Nat.le_of_ble_eq_true rfl, Nat.le_of_ble_eq_true rfl⟩ rfl (Nat.le_of_ble_eq_true rfl) 10 rfl (by intro H h; first | exact h.1 | exact h.2.1 | exact h.2.2.1 | exact h.2.2.2.1 | exact h.2.2.2.2.1 | exact h.2.2.2.2.2.1 | exact h.2.2.2.2.2.2.1 | exact h.2.2.2.2.2.2.2.1 | exact h.2.2.2.2.2.2.2.2.1 | exact h.2.2.2.2.2.2.2.2.2.1 | exact h.2.2.2.2.2.2.2.2.2.2) (Pr' := _) (fun _ h => h) (fun q z => z.elim) (fun _ _ _ h _ => by exact h) (st1 := [_]) rfl (k1 := 0) (n1 := 0) rfl rfl ?_
        exact g_iret hF dX10_group_116 (Nat.le_of_ble_eq_true rfl) (Nat.le_of_ble_eq_true rfl) (fun H h => hR _ _ ⟨congrArg (fun z => some (Value.int z)) (rfl), MS.mk hr h⟩)
      · refine g_aload_n hF dX10_group_0 1 rfl rfl ?_
        refine g_iload_n hF dX10_group_1 2 rfl rfl ?_
        refine g_callV hF cv_X10_50 (c_M_isGroup l E c v pf im ss ik bk ws cm ls nq (nI d) (lN sd) (nI nb) wh ro G hG G1 G4 (nI g)) dX10_group_2 5 rfl (st := []) rfl rfl ⟨Nat.le_of_ble_eq_true rfl, Nat.le_of_ble_eq_true rfl⟩ ⟨Nat.le_of_ble_eq_true rfl, Nat.le_of_ble_eq_true rfl⟩ rfl (Nat.le_of_ble_eq_true rfl) 10 rfl (by intro H h; first | exact h.1 | exact h.2.1 | exact h.2.2.1 | exact h.2.2.2.1 | exact h.2.2.2.2.1 | exact h.2.2.2.2.2.1 | exact h.2.2.2.2.2.2.1 | exact h.2.2.2.2.2.2.2.1 | exact h.2.2.2.2.2.2.2.2.1 | exact h.2.2.2.2.2.2.2.2.2.1 | exact h.2.2.2.2.2.2.2.2.2.2) (Pr' := _) (fun _ h => h) (fun q z => z.elim) (fun _ _ _ h _ => by exact h) (st1 := [_]) rfl (k1 := 0) (n1 := 0) rfl rfl ?_
        refine g_if_ne hF dX10_group_5 8 rfl 11 (by decide) (fun _ => ?_) (fun c => absurd c (fun y => hz (iy0.mp y)))
        refine g_iload_n hF dX10_group_11 12 rfl rfl ?_
        refine g_tabIn hF dX10_group_12 (by decide) (by decide) (105) rfl 117 (by decide) ?_
        refine g_aload_n hF dX10_group_117 118 rfl rfl ?_
        refine g_iload_n hF dX10_group_118 119 rfl rfl ?_
        refine g_callV hF cv_X10_119 (c_M_goesTo l E c v pf im ss ik bk ws cm ls nq (nI d) (lN sd) (nI nb) wh ro T G g hv0 hG G4 hg) dX10_group_119 122 rfl (st := []) rfl rfl ⟨Nat.le_of_ble_eq_true rfl, Nat.le_of_ble_eq_true rfl⟩ ⟨Nat.le_of_ble_eq_true rfl, Nat.le_of_ble_eq_true rfl⟩ rfl (Nat.le_of_ble_eq_true rfl) 10 rfl (by intro H h; first | exact h.1 | exact h.2.1 | exact h.2.2.1 | exact h.2.2.2.1 | exact h.2.2.2.2.1 | exact h.2.2.2.2.2.1 | exact h.2.2.2.2.2.2.1 | exact h.2.2.2.2.2.2.2.1 | exact h.2.2.2.2.2.2.2.2.1 | exact h.2.2.2.2.2.2.2.2.2.1 | exact h.2.2.2.2.2.2.2.2.2.2) (Pr' := _) (fun _ h => h) (fun q z => z.elim) (fun _ _ _ h _ => by exact h) (st1 := [_]) rfl (k1 := 0) (n1 := 0) rfl rfl ?_
        exact g_iret hF dX10_group_122 (Nat.le_of_ble_eq_true rfl) (Nat.le_of_ble_eq_true rfl) (fun H h => hR _ _ ⟨congrArg (fun z => some (Value.int z)) (rfl), MS.mk hr h⟩)
      · refine g_aload_n hF dX10_group_0 1 rfl rfl ?_
        refine g_iload_n hF dX10_group_1 2 rfl rfl ?_
        refine g_callV hF cv_X10_50 (c_M_isGroup l E c v pf im ss ik bk ws cm ls nq (nI d) (lN sd) (nI nb) wh ro G hG G1 G4 (nI g)) dX10_group_2 5 rfl (st := []) rfl rfl ⟨Nat.le_of_ble_eq_true rfl, Nat.le_of_ble_eq_true rfl⟩ ⟨Nat.le_of_ble_eq_true rfl, Nat.le_of_ble_eq_true rfl⟩ rfl (Nat.le_of_ble_eq_true rfl) 10 rfl (by intro H h; first | exact h.1 | exact h.2.1 | exact h.2.2.1 | exact h.2.2.2.1 | exact h.2.2.2.2.1 | exact h.2.2.2.2.2.1 | exact h.2.2.2.2.2.2.1 | exact h.2.2.2.2.2.2.2.1 | exact h.2.2.2.2.2.2.2.2.1 | exact h.2.2.2.2.2.2.2.2.2.1 | exact h.2.2.2.2.2.2.2.2.2.2) (Pr' := _) (fun _ h => h) (fun q z => z.elim) (fun _ _ _ h _ => by exact h) (st1 := [_]) rfl (k1 := 0) (n1 := 0) rfl rfl ?_
        refine g_if_ne hF dX10_group_5 8 rfl 11 (by decide) (fun _ => ?_) (fun c => absurd c (fun y => hz (iy0.mp y)))
        refine g_iload_n hF dX10_group_11 12 rfl rfl ?_
        refine g_tabIn hF dX10_group_12 (by decide) (by decide) (111) rfl 123 (by decide) ?_
        refine g_aload_n hF dX10_group_123 124 rfl rfl ?_
        refine g_callV hF cv_X10_111 (c_M_together l E c v pf im ss ik bk ws cm ls nq (nI d) (lN sd) (nI nb) wh ro T hv0) dX10_group_124 127 rfl (st := []) rfl rfl ⟨Nat.le_of_ble_eq_true rfl, Nat.le_of_ble_eq_true rfl⟩ ⟨Nat.le_of_ble_eq_true rfl, Nat.le_of_ble_eq_true rfl⟩ rfl (Nat.le_of_ble_eq_true rfl) 10 rfl (by intro H h; first | exact h.1 | exact h.2.1 | exact h.2.2.1 | exact h.2.2.2.1 | exact h.2.2.2.2.1 | exact h.2.2.2.2.2.1 | exact h.2.2.2.2.2.2.1 | exact h.2.2.2.2.2.2.2.1 | exact h.2.2.2.2.2.2.2.2.1 | exact h.2.2.2.2.2.2.2.2.2.1 | exact h.2.2.2.2.2.2.2.2.2.2) (Pr' := _) (fun _ h => h) (hA) (fun _ _ _ h _ => by exact h) (st1 := []) rfl (k1 := 0) (n1 := 0) rfl rfl ?_
        refine g_ex (fun cg1 => ?_)
        refine g_ex (fun ls1 => ?_)
        refine g_ex (fun nq1 => ?_)
        refine g_pure (fun H h => h.1) (fun hcg => ?_)
        refine g_pure (fun H h => h.2.1) (fun hls => ?_)
        refine g_pr (fun H h => h.2.2) ?_
        refine g_aload_n hF dX10_group_127 128 rfl rfl ?_
        refine g_get hF fl_X10_33 dX10_group_128 131 rfl (by intro H h; first | exact h.1 | exact h.2.1 | exact h.2.2.1 | exact h.2.2.2.1 | exact h.2.2.2.2.1 | exact h.2.2.2.2.2.1 | exact h.2.2.2.2.2.2.1 | exact h.2.2.2.2.2.2.2.1 | exact h.2.2.2.2.2.2.2.2.1 | exact h.2.2.2.2.2.2.2.2.2.1 | exact h.2.2.2.2.2.2.2.2.2.2) rfl ?_
        refine g_iload_n hF dX10_group_131 132 rfl rfl ?_
        refine g_iald hF dX10_group_132 133 rfl (by intro H h; first | exact h.1 | exact h.2.1 | exact h.2.2.1 | exact h.2.2.2.1 | exact h.2.2.2.2.1 | exact h.2.2.2.2.2.1 | exact h.2.2.2.2.2.2.1 | exact h.2.2.2.2.2.2.2.1 | exact h.2.2.2.2.2.2.2.2.1 | exact h.2.2.2.2.2.2.2.2.2.1 | exact h.2.2.2.2.2.2.2.2.2.2) (vp_in_nI hg4 (by omega)) ?_
        rw [nI_clamp (by omega), hcg g (by omega)]
        exact g_iret hF dX10_group_133 (Nat.le_of_ble_eq_true rfl) (Nat.le_of_ble_eq_true rfl) (fun H h => hR _ _ ⟨congrArg (fun z => some (Value.int z)) (rfl), MS.mk hr h⟩)
      · refine g_aload_n hF dX10_group_0 1 rfl rfl ?_
        refine g_iload_n hF dX10_group_1 2 rfl rfl ?_
        refine g_callV hF cv_X10_50 (c_M_isGroup l E c v pf im ss ik bk ws cm ls nq (nI d) (lN sd) (nI nb) wh ro G hG G1 G4 (nI g)) dX10_group_2 5 rfl (st := []) rfl rfl ⟨Nat.le_of_ble_eq_true rfl, Nat.le_of_ble_eq_true rfl⟩ ⟨Nat.le_of_ble_eq_true rfl, Nat.le_of_ble_eq_true rfl⟩ rfl (Nat.le_of_ble_eq_true rfl) 10 rfl (by intro H h; first | exact h.1 | exact h.2.1 | exact h.2.2.1 | exact h.2.2.2.1 | exact h.2.2.2.2.1 | exact h.2.2.2.2.2.1 | exact h.2.2.2.2.2.2.1 | exact h.2.2.2.2.2.2.2.1 | exact h.2.2.2.2.2.2.2.2.1 | exact h.2.2.2.2.2.2.2.2.2.1 | exact h.2.2.2.2.2.2.2.2.2.2) (Pr' := _) (fun _ h => h) (fun q z => z.elim) (fun _ _ _ h _ => by exact h) (st1 := [_]) rfl (k1 := 0) (n1 := 0) rfl rfl ?_
        refine g_if_ne hF dX10_group_5 8 rfl 11 (by decide) (fun _ => ?_) (fun c => absurd c (fun y => hz (iy0.mp y)))
        refine g_iload_n hF dX10_group_11 12 rfl rfl ?_
        refine g_tabIn hF dX10_group_12 (by decide) (by decide) (122) rfl 134 (by decide) ?_
        refine g_aload_n hF dX10_group_134 135 rfl rfl ?_
        refine g_callV hF cv_X10_111 (c_M_together l E c v pf im ss ik bk ws cm ls nq (nI d) (lN sd) (nI nb) wh ro T hv0) dX10_group_135 138 rfl (st := []) rfl rfl ⟨Nat.le_of_ble_eq_true rfl, Nat.le_of_ble_eq_true rfl⟩ ⟨Nat.le_of_ble_eq_true rfl, Nat.le_of_ble_eq_true rfl⟩ rfl (Nat.le_of_ble_eq_true rfl) 10 rfl (by intro H h; first | exact h.1 | exact h.2.1 | exact h.2.2.1 | exact h.2.2.2.1 | exact h.2.2.2.2.1 | exact h.2.2.2.2.2.1 | exact h.2.2.2.2.2.2.1 | exact h.2.2.2.2.2.2.2.1 | exact h.2.2.2.2.2.2.2.2.1 | exact h.2.2.2.2.2.2.2.2.2.1 | exact h.2.2.2.2.2.2.2.2.2.2) (Pr' := _) (fun _ h => h) (hA) (fun _ _ _ h _ => by exact h) (st1 := []) rfl (k1 := 0) (n1 := 0) rfl rfl ?_
        refine g_ex (fun cg1 => ?_)
        refine g_ex (fun ls1 => ?_)
        refine g_ex (fun nq1 => ?_)
        refine g_pure (fun H h => h.1) (fun hcg => ?_)
        refine g_pure (fun H h => h.2.1) (fun hls => ?_)
        refine g_pr (fun H h => h.2.2) ?_
        refine g_aload_n hF dX10_group_138 139 rfl rfl ?_
        refine g_get hF fl_X10_36 dX10_group_139 142 rfl (by intro H h; first | exact h.1 | exact h.2.1 | exact h.2.2.1 | exact h.2.2.2.1 | exact h.2.2.2.2.1 | exact h.2.2.2.2.2.1 | exact h.2.2.2.2.2.2.1 | exact h.2.2.2.2.2.2.2.1 | exact h.2.2.2.2.2.2.2.2.1 | exact h.2.2.2.2.2.2.2.2.2.1 | exact h.2.2.2.2.2.2.2.2.2.2) rfl ?_
        refine g_iload_n hF dX10_group_142 143 rfl rfl ?_
        refine g_iald hF dX10_group_143 144 rfl (by intro H h; first | exact h.1 | exact h.2.1 | exact h.2.2.1 | exact h.2.2.2.1 | exact h.2.2.2.2.1 | exact h.2.2.2.2.2.1 | exact h.2.2.2.2.2.2.1 | exact h.2.2.2.2.2.2.2.1 | exact h.2.2.2.2.2.2.2.2.1 | exact h.2.2.2.2.2.2.2.2.2.1 | exact h.2.2.2.2.2.2.2.2.2.2) (vp_in_nI hg4 (by omega)) ?_
        rw [nI_clamp (by omega), hls g (by omega)]
        exact g_iret hF dX10_group_144 (Nat.le_of_ble_eq_true rfl) (Nat.le_of_ble_eq_true rfl) (fun H h => hR _ _ ⟨congrArg (fun z => some (Value.int z)) (rfl), MS.mk hr h⟩)
      · have hne : ∀ k : Int32, (¬ k.toInt < 0 ∧ ¬ (14 : Int) < k.toInt) → ¬ w = k := fun k hk e => by subst e; exact hw.elim hk.1 hk.2
        rw [if_neg (hne 0 (by decide)), if_neg (hne 1 (by decide)), if_neg (hne 2 (by decide)), if_neg (hne 3 (by decide)), if_neg (hne 4 (by decide)), if_neg (hne 5 (by decide)), if_neg (hne 6 (by decide)), if_neg (hne 7 (by decide)), if_neg (hne 8 (by decide)), if_neg (hne 9 (by decide)), if_neg (hne 10 (by decide)), if_neg (hne 11 (by decide)), if_neg (hne 12 (by decide)), if_neg (hne 13 (by decide)), if_neg (hne 14 (by decide))] at hR
        refine g_aload_n hF dX10_group_0 1 rfl rfl ?_
        refine g_iload_n hF dX10_group_1 2 rfl rfl ?_
        refine g_callV hF cv_X10_50 (c_M_isGroup l E c v pf im ss ik bk ws cm ls nq (nI d) (lN sd) (nI nb) wh ro G hG G1 G4 (nI g)) dX10_group_2 5 rfl (st := []) rfl rfl ⟨Nat.le_of_ble_eq_true rfl, Nat.le_of_ble_eq_true rfl⟩ ⟨Nat.le_of_ble_eq_true rfl, Nat.le_of_ble_eq_true rfl⟩ rfl (Nat.le_of_ble_eq_true rfl) 10 rfl (by intro H h; first | exact h.1 | exact h.2.1 | exact h.2.2.1 | exact h.2.2.2.1 | exact h.2.2.2.2.1 | exact h.2.2.2.2.2.1 | exact h.2.2.2.2.2.2.1 | exact h.2.2.2.2.2.2.2.1 | exact h.2.2.2.2.2.2.2.2.1 | exact h.2.2.2.2.2.2.2.2.2.1 | exact h.2.2.2.2.2.2.2.2.2.2) (Pr' := _) (fun _ h => h) (fun q z => z.elim) (fun _ _ _ h _ => by exact h) (st1 := [_]) rfl (k1 := 0) (n1 := 0) rfl rfl ?_
        refine g_if_ne hF dX10_group_5 8 rfl 11 (by decide) (fun _ => ?_) (fun c => absurd c (fun y => hz (iy0.mp y)))
        refine g_iload_n hF dX10_group_11 12 rfl rfl ?_
        refine g_tabOut hF dX10_group_12 (hw) 145 (by decide) ?_
        refine g_ldc hF kc_X10_117 dX10_group_145 147 rfl ?_
        exact g_iret hF dX10_group_147 (Nat.le_of_ble_eq_true rfl) (Nat.le_of_ble_eq_true rfl) (fun H h => hR _ _ ⟨congrArg (fun z => some (Value.int z)) (rfl), MS.mk hr h⟩)
