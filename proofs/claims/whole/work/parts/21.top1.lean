/-! TrunkReserve: what is asked of groups -/
theorem sw2 (z : Int32) : z = 0 ∨ z = 1 ∨ z = 2 ∨ (z.toInt < 0 ∨ (2 : Int) < z.toInt) := by
  have h0 : (0 : Int32).toInt = 0 := by decide
  rcases pk_ix z (n := 3) (by omega) with h | h | ⟨k, hk, rfl⟩
  · rw [Int32.lt_iff_toInt_lt, h0] at h
    exact Or.inr (Or.inr (Or.inr (Or.inl h)))
  · rw [Int32.le_iff_toInt_le, nI_toInt (by omega)] at h
    exact Or.inr (Or.inr (Or.inr (Or.inr (by omega))))
  · rcases (show k = 0 ∨ k = 1 ∨ k = 2 by omega) with rfl | rfl | rfl
    · exact Or.inl (by decide)
    · exact Or.inr (Or.inl (by decide))
    · exact Or.inr (Or.inr (Or.inl (by decide)))
theorem sw3 (z : Int32) : z = 0 ∨ z = 1 ∨ z = 2 ∨ z = 3 ∨ (z.toInt < 0 ∨ (3 : Int) < z.toInt) := by
  have h0 : (0 : Int32).toInt = 0 := by decide
  rcases pk_ix z (n := 4) (by omega) with h | h | ⟨k, hk, rfl⟩
  · rw [Int32.lt_iff_toInt_lt, h0] at h
    exact Or.inr (Or.inr (Or.inr (Or.inr (Or.inl h))))
  · rw [Int32.le_iff_toInt_le, nI_toInt (by omega)] at h
    exact Or.inr (Or.inr (Or.inr (Or.inr (Or.inr (by omega)))))
  · rcases (show k = 0 ∨ k = 1 ∨ k = 2 ∨ k = 3 by omega) with rfl | rfl | rfl | rfl
    · exact Or.inl (by decide)
    · exact Or.inr (Or.inl (by decide))
    · exact Or.inr (Or.inr (Or.inl (by decide)))
    · exact Or.inr (Or.inr (Or.inr (Or.inl (by decide))))
theorem sw5 (z : Int32) : z = 0 ∨ z = 1 ∨ z = 2 ∨ z = 3 ∨ z = 4 ∨ z = 5 ∨ (z.toInt < 0 ∨ (5 : Int) < z.toInt) := by
  have h0 : (0 : Int32).toInt = 0 := by decide
  rcases pk_ix z (n := 6) (by omega) with h | h | ⟨k, hk, rfl⟩
  · rw [Int32.lt_iff_toInt_lt, h0] at h
    exact Or.inr (Or.inr (Or.inr (Or.inr (Or.inr (Or.inr (Or.inl h))))))
  · rw [Int32.le_iff_toInt_le, nI_toInt (by omega)] at h
    exact Or.inr (Or.inr (Or.inr (Or.inr (Or.inr (Or.inr (Or.inr (by omega)))))))
  · rcases (show k = 0 ∨ k = 1 ∨ k = 2 ∨ k = 3 ∨ k = 4 ∨ k = 5 by omega) with rfl | rfl | rfl | rfl | rfl | rfl
    · exact Or.inl (by decide)
    · exact Or.inr (Or.inl (by decide))
    · exact Or.inr (Or.inr (Or.inl (by decide)))
    · exact Or.inr (Or.inr (Or.inr (Or.inl (by decide))))
    · exact Or.inr (Or.inr (Or.inr (Or.inr (Or.inl (by decide)))))
    · exact Or.inr (Or.inr (Or.inr (Or.inr (Or.inr (Or.inl (by decide))))))
theorem sw8 (z : Int32) : z = 0 ∨ z = 1 ∨ z = 2 ∨ z = 3 ∨ z = 4 ∨ z = 5 ∨ z = 6 ∨ z = 7 ∨ z = 8 ∨ (z.toInt < 0 ∨ (8 : Int) < z.toInt) := by
  have h0 : (0 : Int32).toInt = 0 := by decide
  rcases pk_ix z (n := 9) (by omega) with h | h | ⟨k, hk, rfl⟩
  · rw [Int32.lt_iff_toInt_lt, h0] at h
    exact Or.inr (Or.inr (Or.inr (Or.inr (Or.inr (Or.inr (Or.inr (Or.inr (Or.inr (Or.inl h)))))))))
  · rw [Int32.le_iff_toInt_le, nI_toInt (by omega)] at h
    exact Or.inr (Or.inr (Or.inr (Or.inr (Or.inr (Or.inr (Or.inr (Or.inr (Or.inr (Or.inr (by omega))))))))))
  · rcases (show k = 0 ∨ k = 1 ∨ k = 2 ∨ k = 3 ∨ k = 4 ∨ k = 5 ∨ k = 6 ∨ k = 7 ∨ k = 8 by omega) with rfl | rfl | rfl | rfl | rfl | rfl | rfl | rfl | rfl
    · exact Or.inl (by decide)
    · exact Or.inr (Or.inl (by decide))
    · exact Or.inr (Or.inr (Or.inl (by decide)))
    · exact Or.inr (Or.inr (Or.inr (Or.inl (by decide))))
    · exact Or.inr (Or.inr (Or.inr (Or.inr (Or.inl (by decide)))))
    · exact Or.inr (Or.inr (Or.inr (Or.inr (Or.inr (Or.inl (by decide))))))
    · exact Or.inr (Or.inr (Or.inr (Or.inr (Or.inr (Or.inr (Or.inl (by decide)))))))
    · exact Or.inr (Or.inr (Or.inr (Or.inr (Or.inr (Or.inr (Or.inr (Or.inl (by decide))))))))
    · exact Or.inr (Or.inr (Or.inr (Or.inr (Or.inr (Or.inr (Or.inr (Or.inr (Or.inl (by decide)))))))))
theorem sw14 (z : Int32) : z = 0 ∨ z = 1 ∨ z = 2 ∨ z = 3 ∨ z = 4 ∨ z = 5 ∨ z = 6 ∨ z = 7 ∨ z = 8 ∨ z = 9 ∨ z = 10 ∨ z = 11 ∨ z = 12 ∨ z = 13 ∨ z = 14 ∨ (z.toInt < 0 ∨ (14 : Int) < z.toInt) := by
  have h0 : (0 : Int32).toInt = 0 := by decide
  rcases pk_ix z (n := 15) (by omega) with h | h | ⟨k, hk, rfl⟩
  · rw [Int32.lt_iff_toInt_lt, h0] at h
    exact Or.inr (Or.inr (Or.inr (Or.inr (Or.inr (Or.inr (Or.inr (Or.inr (Or.inr (Or.inr (Or.inr (Or.inr (Or.inr (Or.inr (Or.inr (Or.inl h)))))))))))))))
  · rw [Int32.le_iff_toInt_le, nI_toInt (by omega)] at h
    exact Or.inr (Or.inr (Or.inr (Or.inr (Or.inr (Or.inr (Or.inr (Or.inr (Or.inr (Or.inr (Or.inr (Or.inr (Or.inr (Or.inr (Or.inr (Or.inr (by omega))))))))))))))))
  · rcases (show k = 0 ∨ k = 1 ∨ k = 2 ∨ k = 3 ∨ k = 4 ∨ k = 5 ∨ k = 6 ∨ k = 7 ∨ k = 8 ∨ k = 9 ∨ k = 10 ∨ k = 11 ∨ k = 12 ∨ k = 13 ∨ k = 14 by omega) with rfl | rfl | rfl | rfl | rfl | rfl | rfl | rfl | rfl | rfl | rfl | rfl | rfl | rfl | rfl
    · exact Or.inl (by decide)
    · exact Or.inr (Or.inl (by decide))
    · exact Or.inr (Or.inr (Or.inl (by decide)))
    · exact Or.inr (Or.inr (Or.inr (Or.inl (by decide))))
    · exact Or.inr (Or.inr (Or.inr (Or.inr (Or.inl (by decide)))))
    · exact Or.inr (Or.inr (Or.inr (Or.inr (Or.inr (Or.inl (by decide))))))
    · exact Or.inr (Or.inr (Or.inr (Or.inr (Or.inr (Or.inr (Or.inl (by decide)))))))
    · exact Or.inr (Or.inr (Or.inr (Or.inr (Or.inr (Or.inr (Or.inr (Or.inl (by decide))))))))
    · exact Or.inr (Or.inr (Or.inr (Or.inr (Or.inr (Or.inr (Or.inr (Or.inr (Or.inl (by decide)))))))))
    · exact Or.inr (Or.inr (Or.inr (Or.inr (Or.inr (Or.inr (Or.inr (Or.inr (Or.inr (Or.inl (by decide))))))))))
    · exact Or.inr (Or.inr (Or.inr (Or.inr (Or.inr (Or.inr (Or.inr (Or.inr (Or.inr (Or.inr (Or.inl (by decide)))))))))))
    · exact Or.inr (Or.inr (Or.inr (Or.inr (Or.inr (Or.inr (Or.inr (Or.inr (Or.inr (Or.inr (Or.inr (Or.inl (by decide))))))))))))
    · exact Or.inr (Or.inr (Or.inr (Or.inr (Or.inr (Or.inr (Or.inr (Or.inr (Or.inr (Or.inr (Or.inr (Or.inr (Or.inl (by decide)))))))))))))
    · exact Or.inr (Or.inr (Or.inr (Or.inr (Or.inr (Or.inr (Or.inr (Or.inr (Or.inr (Or.inr (Or.inr (Or.inr (Or.inr (Or.inl (by decide))))))))))))))
    · exact Or.inr (Or.inr (Or.inr (Or.inr (Or.inr (Or.inr (Or.inr (Or.inr (Or.inr (Or.inr (Or.inr (Or.inr (Or.inr (Or.inr (Or.inl (by decide)))))))))))))))
noncomputable def aTold (v : NV) (d : Nat) (bg bl bs : Nat → Int32) (nb : Nat) (z : Int32) : Int32 := if z = 0 then v.1 else if z = 1 then v.2.1 else if z = 2 then v.2.2.1 else if z = 3 then sHeld v.2.2.2 v.1.toNatClampNeg else if z = 4 then sLost v.2.2.2 v.1.toNatClampNeg else if z = 5 then nI (sRd v) else if z = 6 then nI nb else if z = 7 then fWr v bg bl bs nb 0 else if z = 8 then nI d else -1000000002
set_option maxRecDepth 100000 in
set_option maxHeartbeats 16000000 in
theorem c_C_told (l : Launch) (E : Ev) (b : Nat) (v : NV) (hv : Nat → NV) (d : Nat) (iv : Nat → NV) (isd : Nat → Nat) (ik bg bl bs : Nat → Int32) (nb sd T : Nat) (hv0 : okV T v) (hst : still v) (hb : nb ≤ 20) (z : Int32) : Ct l E yX9_told cX9_told 2 (some .int) (rm 6) [.ref b, .int z] (Cs E b v hv d iv isd ik bg bl bs nb sd) (rV (some (.int (aTold v d bg bl bs nb z))) (Cs E b v hv d iv isd ik bg bl bs nb sd)) (rg b 524) := by
  refine ct_start (by decide) [some (.ref b), some (.int z)] rfl (Nat.le_of_ble_eq_true rfl) ?_
  intro x hF hN hA hR
  refine g_open (fun rv p wf wx wy fa fb tl tn ts tr hr => ?_)
  rcases sw8 z with rfl | rfl | rfl | rfl | rfl | rfl | rfl | rfl | rfl | hz
  · refine g_iload_n hF dX9_told_0 1 rfl rfl ?_
    refine g_tabIn hF dX9_told_1 (by decide) (by decide) (51) rfl 52 (by decide) ?_
    refine g_aload_n hF dX9_told_52 53 rfl rfl ?_
    refine g_get hF fl_X9_10 dX9_told_53 56 rfl (by intro H h; first | exact h.1 | exact h.2.1.nob | exact h.2.2.1.1 | exact h.2.2.2.2.2.1.1 | exact h.2.2.2.2.2.2.1 | exact h.2.2.2.2.2.2.2.1.1 | exact h.2.2.2.2.2.2.2.2.2.1) rfl ?_
    refine g_get hF fl_X9_65 dX9_told_56 59 rfl (by intro H h; first | exact h.1 | exact h.2.1.nob | exact h.2.2.1.1 | exact h.2.2.2.2.2.1.1 | exact h.2.2.2.2.2.2.1 | exact h.2.2.2.2.2.2.2.1.1 | exact h.2.2.2.2.2.2.2.2.2.1) rfl ?_
    exact g_iret hF dX9_told_59 (Nat.le_of_ble_eq_true rfl) (Nat.le_of_ble_eq_true rfl) (fun H h => hR _ _ ⟨congrArg (fun z => some (Value.int z)) (rfl), Cs.mk hr h⟩)
  · refine g_iload_n hF dX9_told_0 1 rfl rfl ?_
    refine g_tabIn hF dX9_told_1 (by decide) (by decide) (59) rfl 60 (by decide) ?_
    refine g_aload_n hF dX9_told_60 61 rfl rfl ?_
    refine g_get hF fl_X9_10 dX9_told_61 64 rfl (by intro H h; first | exact h.1 | exact h.2.1.nob | exact h.2.2.1.1 | exact h.2.2.2.2.2.1.1 | exact h.2.2.2.2.2.2.1 | exact h.2.2.2.2.2.2.2.1.1 | exact h.2.2.2.2.2.2.2.2.2.1) rfl ?_
    refine g_get hF fl_X9_69 dX9_told_64 67 rfl (by intro H h; first | exact h.1 | exact h.2.1.nob | exact h.2.2.1.1 | exact h.2.2.2.2.2.1.1 | exact h.2.2.2.2.2.2.1 | exact h.2.2.2.2.2.2.2.1.1 | exact h.2.2.2.2.2.2.2.2.2.1) rfl ?_
    exact g_iret hF dX9_told_67 (Nat.le_of_ble_eq_true rfl) (Nat.le_of_ble_eq_true rfl) (fun H h => hR _ _ ⟨congrArg (fun z => some (Value.int z)) (rfl), Cs.mk hr h⟩)
  · refine g_iload_n hF dX9_told_0 1 rfl rfl ?_
    refine g_tabIn hF dX9_told_1 (by decide) (by decide) (67) rfl 68 (by decide) ?_
    refine g_aload_n hF dX9_told_68 69 rfl rfl ?_
    refine g_get hF fl_X9_10 dX9_told_69 72 rfl (by intro H h; first | exact h.1 | exact h.2.1.nob | exact h.2.2.1.1 | exact h.2.2.2.2.2.1.1 | exact h.2.2.2.2.2.2.1 | exact h.2.2.2.2.2.2.2.1.1 | exact h.2.2.2.2.2.2.2.2.2.1) rfl ?_
    refine g_get hF fl_X9_72 dX9_told_72 75 rfl (by intro H h; first | exact h.1 | exact h.2.1.nob | exact h.2.2.1.1 | exact h.2.2.2.2.2.1.1 | exact h.2.2.2.2.2.2.1 | exact h.2.2.2.2.2.2.2.1.1 | exact h.2.2.2.2.2.2.2.2.2.1) rfl ?_
    exact g_iret hF dX9_told_75 (Nat.le_of_ble_eq_true rfl) (Nat.le_of_ble_eq_true rfl) (fun H h => hR _ _ ⟨congrArg (fun z => some (Value.int z)) (rfl), Cs.mk hr h⟩)
  · refine g_iload_n hF dX9_told_0 1 rfl rfl ?_
    refine g_tabIn hF dX9_told_1 (by decide) (by decide) (75) rfl 76 (by decide) ?_
    refine g_aload_n hF dX9_told_76 77 rfl rfl ?_
    refine g_get hF fl_X9_10 dX9_told_77 80 rfl (by intro H h; first | exact h.1 | exact h.2.1.nob | exact h.2.2.1.1 | exact h.2.2.2.2.2.1.1 | exact h.2.2.2.2.2.2.1 | exact h.2.2.2.2.2.2.2.1.1 | exact h.2.2.2.2.2.2.2.2.2.1) rfl ?_
    refine g_callV hF cv_X9_75 (q_heldLines l E (b + 1) v T hv0) dX9_told_80 83 rfl (st := []) rfl rfl ⟨Nat.le_of_ble_eq_true rfl, Nat.le_of_ble_eq_true rfl⟩ ⟨Nat.le_of_ble_eq_true rfl, Nat.le_of_ble_eq_true rfl⟩ rfl (Nat.le_of_ble_eq_true rfl) 6 rfl (by intro H h; first | exact h.1 | exact h.2.1.nob | exact h.2.2.1.1 | exact h.2.2.2.2.2.1.1 | exact h.2.2.2.2.2.2.1 | exact h.2.2.2.2.2.2.2.1.1 | exact h.2.2.2.2.2.2.2.2.2.1) (Pr' := Sx E b v rv p d iv isd ik bg bl bs nb sd wf wx wy fa fb tl tn ts tr) (fun H h => h.2.1) (fun q z => z.elim) (fun H H' h h1 h2 => by exact h.no h2 (fun q z => z.elim)) (st1 := [_]) rfl (k1 := 0) (n1 := 0) rfl rfl ?_
    exact g_iret hF dX9_told_83 (Nat.le_of_ble_eq_true rfl) (Nat.le_of_ble_eq_true rfl) (fun H h => hR _ _ ⟨congrArg (fun z => some (Value.int z)) (rfl), Cs.mk hr h⟩)
  · refine g_iload_n hF dX9_told_0 1 rfl rfl ?_
    refine g_tabIn hF dX9_told_1 (by decide) (by decide) (83) rfl 84 (by decide) ?_
    refine g_aload_n hF dX9_told_84 85 rfl rfl ?_
    refine g_get hF fl_X9_10 dX9_told_85 88 rfl (by intro H h; first | exact h.1 | exact h.2.1.nob | exact h.2.2.1.1 | exact h.2.2.2.2.2.1.1 | exact h.2.2.2.2.2.2.1 | exact h.2.2.2.2.2.2.2.1.1 | exact h.2.2.2.2.2.2.2.2.2.1) rfl ?_
    refine g_callV hF cv_X9_79 (q_lostCalls l E (b + 1) v T hv0) dX9_told_88 91 rfl (st := []) rfl rfl ⟨Nat.le_of_ble_eq_true rfl, Nat.le_of_ble_eq_true rfl⟩ ⟨Nat.le_of_ble_eq_true rfl, Nat.le_of_ble_eq_true rfl⟩ rfl (Nat.le_of_ble_eq_true rfl) 6 rfl (by intro H h; first | exact h.1 | exact h.2.1.nob | exact h.2.2.1.1 | exact h.2.2.2.2.2.1.1 | exact h.2.2.2.2.2.2.1 | exact h.2.2.2.2.2.2.2.1.1 | exact h.2.2.2.2.2.2.2.2.2.1) (Pr' := Sx E b v rv p d iv isd ik bg bl bs nb sd wf wx wy fa fb tl tn ts tr) (fun H h => h.2.1) (fun q z => z.elim) (fun H H' h h1 h2 => by exact h.no h2 (fun q z => z.elim)) (st1 := [_]) rfl (k1 := 0) (n1 := 0) rfl rfl ?_
    exact g_iret hF dX9_told_91 (Nat.le_of_ble_eq_true rfl) (Nat.le_of_ble_eq_true rfl) (fun H h => hR _ _ ⟨congrArg (fun z => some (Value.int z)) (rfl), Cs.mk hr h⟩)
  · refine g_iload_n hF dX9_told_0 1 rfl rfl ?_
    refine g_tabIn hF dX9_told_1 (by decide) (by decide) (91) rfl 92 (by decide) ?_
    refine g_aload_n hF dX9_told_92 93 rfl rfl ?_
    refine g_get hF fl_X9_61 dX9_told_93 96 rfl (by intro H h; first | exact h.1 | exact h.2.1.nob | exact h.2.2.1.1 | exact h.2.2.2.2.2.1.1 | exact h.2.2.2.2.2.2.1 | exact h.2.2.2.2.2.2.2.1.1 | exact h.2.2.2.2.2.2.2.2.2.1) rfl ?_
    refine g_aload_n hF dX9_told_96 97 rfl rfl ?_
    refine g_get hF fl_X9_10 dX9_told_97 100 rfl (by intro H h; first | exact h.1 | exact h.2.1.nob | exact h.2.2.1.1 | exact h.2.2.2.2.2.1.1 | exact h.2.2.2.2.2.2.1 | exact h.2.2.2.2.2.2.2.1.1 | exact h.2.2.2.2.2.2.2.2.2.1) rfl ?_
    refine g_aload_n hF dX9_told_100 101 rfl rfl ?_
    refine g_get hF fl_X9_47 dX9_told_101 104 rfl (by intro H h; first | exact h.1 | exact h.2.1.nob | exact h.2.2.1.1 | exact h.2.2.2.2.2.1.1 | exact h.2.2.2.2.2.2.1 | exact h.2.2.2.2.2.2.2.1.1 | exact h.2.2.2.2.2.2.2.2.2.1) rfl ?_
    refine g_callV hF cv_X9_82 (q_settle l E (b + 1) v (b + 520) (b + 517) tl tn ts tr wf wx wy T hv0 hst (by omega) (by omega) (by omega)) dX9_told_104 107 rfl (st := []) rfl rfl ⟨Nat.le_of_ble_eq_true rfl, Nat.le_of_ble_eq_true rfl⟩ ⟨Nat.le_of_ble_eq_true rfl, Nat.le_of_ble_eq_true rfl⟩ rfl (Nat.le_of_ble_eq_true rfl) 7 rfl (fun H h => h.2.2.2.2.2.2.2.2.2.1) (Pr' := fun H => ∃ tl tn ts wf wx wy, ((∀ g, g < 4 → tl g = nI (sB v g)) ∧ (∀ g, g < v.1.toNatClampNeg → ts g = nI (sP v g))) ∧ Sx E b v rv p d iv isd ik bg bl bs nb sd wf wx wy fa fb tl tn ts (nI (sRd v)) H) (fun H h => ⟨h.2.2.2.2.2.2.2.2.2, h.2.1, h.2.2.2.2.2.2.2.1⟩) (fun q hq => hA q (by rcases hq with y | y <;> exact ⟨by have := y.1; omega, by have := y.2; omega⟩)) (fun H H' h h1 h2 => by obtain ⟨tl', tn', ts', wf', x', y', q0, q1, q2, q3⟩ := h1; exact ⟨tl', tn', ts', wf', x', y', q0, h.tw h2 (fun q hq => hq.elim (fun y => Or.inr ⟨by have := y.1; omega, by have := y.2; omega⟩) (fun y => Or.inl ⟨by have := y.1; omega, by have := y.2; omega⟩)) q3 q1⟩) (st1 := []) rfl (k1 := 0) (n1 := 0) rfl rfl ?_
    refine g_ex (fun tl' => ?_)
    refine g_ex (fun tn' => ?_)
    refine g_ex (fun ts' => ?_)
    refine g_ex (fun wf' => ?_)
    refine g_ex (fun wx' => ?_)
    refine g_ex (fun wy' => ?_)
    refine g_pure (fun H h => h.1) (fun hq => ?_)
    refine g_pr (fun H h => h.2) ?_
    refine g_aload_n hF dX9_told_107 108 rfl rfl ?_
    refine g_get hF fl_X9_61 dX9_told_108 111 rfl (by intro H h; first | exact h.1 | exact h.2.1.nob | exact h.2.2.1.1 | exact h.2.2.2.2.2.1.1 | exact h.2.2.2.2.2.2.1 | exact h.2.2.2.2.2.2.2.1.1 | exact h.2.2.2.2.2.2.2.2.2.1) rfl ?_
    refine g_get hF fl_X9_86 dX9_told_111 114 rfl (by intro H h; first | exact h.1 | exact h.2.1.nob | exact h.2.2.1.1 | exact h.2.2.2.2.2.1.1 | exact h.2.2.2.2.2.2.1 | exact h.2.2.2.2.2.2.2.1.1 | exact h.2.2.2.2.2.2.2.2.2.1) rfl ?_
    exact g_iret hF dX9_told_114 (Nat.le_of_ble_eq_true rfl) (Nat.le_of_ble_eq_true rfl) (fun H h => hR _ _ ⟨congrArg (fun z => some (Value.int z)) (rfl), Cs.mk hr h⟩)
  · refine g_iload_n hF dX9_told_0 1 rfl rfl ?_
    refine g_tabIn hF dX9_told_1 (by decide) (by decide) (114) rfl 115 (by decide) ?_
    refine g_aload_n hF dX9_told_115 116 rfl rfl ?_
    refine g_get hF fl_X9_33 dX9_told_116 119 rfl (by intro H h; first | exact h.1 | exact h.2.1.nob | exact h.2.2.1.1 | exact h.2.2.2.2.2.1.1 | exact h.2.2.2.2.2.2.1 | exact h.2.2.2.2.2.2.2.1.1 | exact h.2.2.2.2.2.2.2.2.2.1) rfl ?_
    refine g_get hF fl_X9_89 dX9_told_119 122 rfl (by intro H h; first | exact h.1 | exact h.2.1.nob | exact h.2.2.1.1 | exact h.2.2.2.2.2.1.1 | exact h.2.2.2.2.2.2.1 | exact h.2.2.2.2.2.2.2.1.1 | exact h.2.2.2.2.2.2.2.2.2.1) rfl ?_
    exact g_iret hF dX9_told_122 (Nat.le_of_ble_eq_true rfl) (Nat.le_of_ble_eq_true rfl) (fun H h => hR _ _ ⟨congrArg (fun z => some (Value.int z)) (rfl), Cs.mk hr h⟩)
  · refine g_iload_n hF dX9_told_0 1 rfl rfl ?_
    refine g_tabIn hF dX9_told_1 (by decide) (by decide) (122) rfl 123 (by decide) ?_
    refine g_aload_n hF dX9_told_123 124 rfl rfl ?_
    refine g_get hF fl_X9_33 dX9_told_124 127 rfl (by intro H h; first | exact h.1 | exact h.2.1.nob | exact h.2.2.1.1 | exact h.2.2.2.2.2.1.1 | exact h.2.2.2.2.2.2.1 | exact h.2.2.2.2.2.2.2.1.1 | exact h.2.2.2.2.2.2.2.2.2.1) rfl ?_
    refine g_aload_n hF dX9_told_127 128 rfl rfl ?_
    refine g_get hF fl_X9_10 dX9_told_128 131 rfl (by intro H h; first | exact h.1 | exact h.2.1.nob | exact h.2.2.1.1 | exact h.2.2.2.2.2.1.1 | exact h.2.2.2.2.2.2.1 | exact h.2.2.2.2.2.2.2.1.1 | exact h.2.2.2.2.2.2.2.2.2.1) rfl ?_
    refine g_callV hF cv_X9_90 (q_firstWrong l E (b + 1) v (b + 512) T nb bg bl bs hv0 hb) dX9_told_131 134 rfl (st := []) rfl rfl ⟨Nat.le_of_ble_eq_true rfl, Nat.le_of_ble_eq_true rfl⟩ ⟨Nat.le_of_ble_eq_true rfl, Nat.le_of_ble_eq_true rfl⟩ rfl (Nat.le_of_ble_eq_true rfl) 0 rfl (by intro H h; first | exact h.1 | exact h.2.1.nob | exact h.2.2.1.1 | exact h.2.2.2.2.2.1.1 | exact h.2.2.2.2.2.2.1 | exact h.2.2.2.2.2.2.2.1.1 | exact h.2.2.2.2.2.2.2.2.2.1) (Pr' := Sx E b v rv p d iv isd ik bg bl bs nb sd wf wx wy fa fb tl tn ts tr) (fun H h => ⟨h.2.2.2.2.2.1, h.2.1⟩) (fun q z => z.elim) (fun H H' h h1 h2 => by exact h.no h2 (fun q z => z.elim)) (st1 := [_]) rfl (k1 := 0) (n1 := 0) rfl rfl ?_
    exact g_iret hF dX9_told_134 (Nat.le_of_ble_eq_true rfl) (Nat.le_of_ble_eq_true rfl) (fun H h => hR _ _ ⟨congrArg (fun z => some (Value.int z)) (rfl), Cs.mk hr h⟩)
  · refine g_iload_n hF dX9_told_0 1 rfl rfl ?_
    refine g_tabIn hF dX9_told_1 (by decide) (by decide) (134) rfl 135 (by decide) ?_
    refine g_aload_n hF dX9_told_135 136 rfl rfl ?_
    refine g_get hF fl_X9_19 dX9_told_136 139 rfl (by intro H h; first | exact h.1 | exact h.2.1.nob | exact h.2.2.1.1 | exact h.2.2.2.2.2.1.1 | exact h.2.2.2.2.2.2.1 | exact h.2.2.2.2.2.2.2.1.1 | exact h.2.2.2.2.2.2.2.2.2.1) rfl ?_
    refine g_get hF fl_X9_94 dX9_told_139 142 rfl (by intro H h; first | exact h.1 | exact h.2.1.nob | exact h.2.2.1.1 | exact h.2.2.2.2.2.1.1 | exact h.2.2.2.2.2.2.1 | exact h.2.2.2.2.2.2.2.1.1 | exact h.2.2.2.2.2.2.2.2.2.1) rfl ?_
    exact g_iret hF dX9_told_142 (Nat.le_of_ble_eq_true rfl) (Nat.le_of_ble_eq_true rfl) (fun H h => hR _ _ ⟨congrArg (fun z => some (Value.int z)) (rfl), Cs.mk hr h⟩)
  · have hne : ∀ k : Int32, (¬ k.toInt < 0 ∧ ¬ (8 : Int) < k.toInt) → ¬ z = k := fun k hk e => by subst e; exact hz.elim hk.1 hk.2
    refine g_iload_n hF dX9_told_0 1 rfl rfl ?_
    refine g_tabOut hF dX9_told_1 (hz) 143 (by decide) ?_
    refine g_ldc hF kc_X9_95 dX9_told_143 145 rfl ?_
    exact g_iret hF dX9_told_145 (Nat.le_of_ble_eq_true rfl) (Nat.le_of_ble_eq_true rfl) (fun H h => hR _ _ ⟨congrArg (fun z => some (Value.int z)) (by unfold aTold; rw [if_neg (hne 0 (by decide)), if_neg (hne 1 (by decide)), if_neg (hne 2 (by decide)), if_neg (hne 3 (by decide)), if_neg (hne 4 (by decide)), if_neg (hne 5 (by decide)), if_neg (hne 6 (by decide)), if_neg (hne 7 (by decide)), if_neg (hne 8 (by decide))]), Cs.mk hr h⟩)
def aGroup (v : NV) (z w : Int32) : Int32 := if z < 0 ∨ v.1 ≤ z then -1000000001 else (fun g : Nat => (fun gv : Nat → Int32 => if w = 0 then gv 0 else if w = 1 then gv 1 else if w = 2 then gv 2 else if w = 3 then gv 3 else if w = 4 then gv 4 else if w = 5 then sSet gv 0 (nN gv) else if w = 6 then sSet gv 1 (nN gv) else if w = 7 then sSet gv 2 (nN gv) else if w = 8 then gv 6 else if w = 9 then gv 7 else if w = 10 then gv 8 else if w = 11 then gv 9 else if w = 12 then sNext v.2.2.2 g else if w = 13 then nI (sB v g) else if w = 14 then nI (sP v g) else -1000000002) (v.2.2.2 g)) z.toNatClampNeg
theorem aGroup_v {v : NV} {G g : Nat} (hG : v.1 = nI G) (hG4 : G ≤ 4) (hg : g < G) (w : Int32) : aGroup v (nI g) w = (fun gv : Nat → Int32 => if w = 0 then gv 0 else if w = 1 then gv 1 else if w = 2 then gv 2 else if w = 3 then gv 3 else if w = 4 then gv 4 else if w = 5 then sSet gv 0 (nN gv) else if w = 6 then sSet gv 1 (nN gv) else if w = 7 then sSet gv 2 (nN gv) else if w = 8 then gv 6 else if w = 9 then gv 7 else if w = 10 then gv 8 else if w = 11 then gv 9 else if w = 12 then sNext v.2.2.2 g else if w = 13 then nI (sB v g) else if w = 14 then nI (sP v g) else -1000000002) (v.2.2.2 g) := by
  unfold aGroup
  rw [if_neg (fun h => h.elim (nI_pos (by omega)) (fun q => absurd (i_le (hG ▸ q) (by omega) (by omega)) (by omega))), nI_clamp (by omega)]
set_option maxRecDepth 100000 in
set_option maxHeartbeats 16000000 in
theorem c_C_group (l : Launch) (E : Ev) (b : Nat) (v : NV) (hv : Nat → NV) (d : Nat) (iv : Nat → NV) (isd : Nat → Nat) (ik bg bl bs : Nat → Int32) (nb sd T : Nat) (hv0 : okV T v) (hst : still v) (z w : Int32) : Ct l E yX9_group cX9_group 4 (some .int) (rm 6) [.ref b, .int z, .int w] (Cs E b v hv d iv isd ik bg bl bs nb sd) (rV (some (.int (aGroup v z w))) (Cs E b v hv d iv isd ik bg bl bs nb sd)) (rg b 524) := by
  refine ct_start (by decide) [some (.ref b), some (.int z), some (.int w), none] rfl (Nat.le_of_ble_eq_true rfl) ?_
  intro x hF hN hA hR
  refine g_open (fun rv p wf wx wy fa fb tl tn ts tr hr => ?_)
  obtain ⟨G, hG, G1, G4, hGc, ho, hn⟩ := okN hv0
  rcases pk_ix z (n := G) (by omega) with hz | hz | ⟨g, hg, rfl⟩
  · refine g_aload_n hF dX9_group_0 1 rfl rfl ?_
    refine g_get hF fl_X9_10 dX9_group_1 4 rfl (by intro H h; first | exact h.1 | exact h.2.1.nob | exact h.2.2.1.1 | exact h.2.2.2.2.2.1.1 | exact h.2.2.2.2.2.2.1 | exact h.2.2.2.2.2.2.2.1.1 | exact h.2.2.2.2.2.2.2.2.2.1 | exact Nq.go hg4 h.2.1 | exact Nq.st hg4 h.2.1 | exact Nq.ho hg4 h.2.1 | exact Nq.cf hg4 h.2.1) rfl ?_
    refine g_iload_n hF dX9_group_4 5 rfl rfl ?_
    refine g_callV hF cv_X9_96 (q_groupAtN l E (b + 1) v z (Or.inl hz)) dX9_group_5 8 rfl (st := []) rfl rfl ⟨Nat.le_of_ble_eq_true rfl, Nat.le_of_ble_eq_true rfl⟩ ⟨Nat.le_of_ble_eq_true rfl, Nat.le_of_ble_eq_true rfl⟩ rfl (Nat.le_of_ble_eq_true rfl) 6 rfl (by intro H h; first | exact h.1 | exact h.2.1.nob | exact h.2.2.1.1 | exact h.2.2.2.2.2.1.1 | exact h.2.2.2.2.2.2.1 | exact h.2.2.2.2.2.2.2.1.1 | exact h.2.2.2.2.2.2.2.2.2.1 | exact Nq.go hg4 h.2.1 | exact Nq.st hg4 h.2.1 | exact Nq.ho hg4 h.2.1 | exact Nq.cf hg4 h.2.1) (Pr' := Sx E b v rv p d iv isd ik bg bl bs nb sd wf wx wy fa fb tl tn ts tr) (fun H h => h.2.1) (fun q z => z.elim) (fun H H' h h1 h2 => by exact h.no h2 (fun q z => z.elim)) (st1 := [_]) rfl (k1 := 0) (n1 := 0) rfl rfl ?_
    refine g_astore_nN hF dX9_group_8 9 rfl (lo' := [_, _, _, _]) (Nat.le_of_ble_eq_true rfl) rfl ?_
    refine g_aload_nN hF dX9_group_9 10 rfl rfl ?_
    refine g_ifnonnullN hF dX9_group_10 13 rfl ?_
    refine g_ldc hF kc_X9_100 dX9_group_13 15 rfl ?_
    exact g_iret hF dX9_group_15 (Nat.le_of_ble_eq_true rfl) (Nat.le_of_ble_eq_true rfl) (fun H h => hR _ _ ⟨congrArg (fun z => some (Value.int z)) ((if_pos (Or.inl hz)).symm), Cs.mk hr h⟩)
  · refine g_aload_n hF dX9_group_0 1 rfl rfl ?_
    refine g_get hF fl_X9_10 dX9_group_1 4 rfl (by intro H h; first | exact h.1 | exact h.2.1.nob | exact h.2.2.1.1 | exact h.2.2.2.2.2.1.1 | exact h.2.2.2.2.2.2.1 | exact h.2.2.2.2.2.2.2.1.1 | exact h.2.2.2.2.2.2.2.2.2.1 | exact Nq.go hg4 h.2.1 | exact Nq.st hg4 h.2.1 | exact Nq.ho hg4 h.2.1 | exact Nq.cf hg4 h.2.1) rfl ?_
    refine g_iload_n hF dX9_group_4 5 rfl rfl ?_
    refine g_callV hF cv_X9_96 (q_groupAtN l E (b + 1) v z (Or.inr (hG ▸ hz))) dX9_group_5 8 rfl (st := []) rfl rfl ⟨Nat.le_of_ble_eq_true rfl, Nat.le_of_ble_eq_true rfl⟩ ⟨Nat.le_of_ble_eq_true rfl, Nat.le_of_ble_eq_true rfl⟩ rfl (Nat.le_of_ble_eq_true rfl) 6 rfl (by intro H h; first | exact h.1 | exact h.2.1.nob | exact h.2.2.1.1 | exact h.2.2.2.2.2.1.1 | exact h.2.2.2.2.2.2.1 | exact h.2.2.2.2.2.2.2.1.1 | exact h.2.2.2.2.2.2.2.2.2.1 | exact Nq.go hg4 h.2.1 | exact Nq.st hg4 h.2.1 | exact Nq.ho hg4 h.2.1 | exact Nq.cf hg4 h.2.1) (Pr' := Sx E b v rv p d iv isd ik bg bl bs nb sd wf wx wy fa fb tl tn ts tr) (fun H h => h.2.1) (fun q z => z.elim) (fun H H' h h1 h2 => by exact h.no h2 (fun q z => z.elim)) (st1 := [_]) rfl (k1 := 0) (n1 := 0) rfl rfl ?_
    refine g_astore_nN hF dX9_group_8 9 rfl (lo' := [_, _, _, _]) (Nat.le_of_ble_eq_true rfl) rfl ?_
    refine g_aload_nN hF dX9_group_9 10 rfl rfl ?_
    refine g_ifnonnullN hF dX9_group_10 13 rfl ?_
    refine g_ldc hF kc_X9_100 dX9_group_13 15 rfl ?_
    exact g_iret hF dX9_group_15 (Nat.le_of_ble_eq_true rfl) (Nat.le_of_ble_eq_true rfl) (fun H h => hR _ _ ⟨congrArg (fun z => some (Value.int z)) ((if_pos (Or.inr (hG ▸ hz))).symm), Cs.mk hr h⟩)
  · have hg4 : g < 4 := by omega
    obtain ⟨N, n6, n0⟩ := hn g hg4
    have hnN : nN (v.2.2.2 g) = N := by unfold nN; rw [n0, nI_clamp (by omega)]
    rw [aGroup_v hG G4 hg] at hR
    dsimp only at hR
    rw [hnN] at hR
    rcases sw14 w with rfl | rfl | rfl | rfl | rfl | rfl | rfl | rfl | rfl | rfl | rfl | rfl | rfl | rfl | rfl | hw
    · refine g_aload_n hF dX9_group_0 1 rfl rfl ?_
      refine g_get hF fl_X9_10 dX9_group_1 4 rfl (by intro H h; first | exact h.1 | exact h.2.1.nob | exact h.2.2.1.1 | exact h.2.2.2.2.2.1.1 | exact h.2.2.2.2.2.2.1 | exact h.2.2.2.2.2.2.2.1.1 | exact h.2.2.2.2.2.2.2.2.2.1 | exact Nq.go hg4 h.2.1 | exact Nq.st hg4 h.2.1 | exact Nq.ho hg4 h.2.1 | exact Nq.cf hg4 h.2.1) rfl ?_
      refine g_iload_n hF dX9_group_4 5 rfl rfl ?_
      refine g_callV hF cv_X9_96 (q_groupAt l E (b + 1) v G g hG G4 hg) dX9_group_5 8 rfl (st := []) rfl rfl ⟨Nat.le_of_ble_eq_true rfl, Nat.le_of_ble_eq_true rfl⟩ ⟨Nat.le_of_ble_eq_true rfl, Nat.le_of_ble_eq_true rfl⟩ rfl (Nat.le_of_ble_eq_true rfl) 6 rfl (by intro H h; first | exact h.1 | exact h.2.1.nob | exact h.2.2.1.1 | exact h.2.2.2.2.2.1.1 | exact h.2.2.2.2.2.2.1 | exact h.2.2.2.2.2.2.2.1.1 | exact h.2.2.2.2.2.2.2.2.2.1 | exact Nq.go hg4 h.2.1 | exact Nq.st hg4 h.2.1 | exact Nq.ho hg4 h.2.1 | exact Nq.cf hg4 h.2.1) (Pr' := Sx E b v rv p d iv isd ik bg bl bs nb sd wf wx wy fa fb tl tn ts tr) (fun H h => h.2.1) (fun q z => z.elim) (fun H H' h h1 h2 => by exact h.no h2 (fun q z => z.elim)) (st1 := [_]) rfl (k1 := 0) (n1 := 0) rfl rfl ?_
      refine g_astore_n hF dX9_group_8 9 rfl (lo' := [_, _, _, _]) (Nat.le_of_ble_eq_true rfl) rfl ?_
      refine g_aload_n hF dX9_group_9 10 rfl rfl ?_
      refine g_ifnonnull hF dX9_group_10 16 (by decide) ?_
      refine g_iload_n hF dX9_group_16 17 rfl rfl ?_
      refine g_tabIn hF dX9_group_17 (by decide) (by decide) (75) rfl 92 (by decide) ?_
      refine g_aload_n hF dX9_group_92 93 rfl rfl ?_
      refine g_get hF fl_X9_101 dX9_group_93 96 rfl (by intro H h; first | exact h.1 | exact h.2.1.nob | exact h.2.2.1.1 | exact h.2.2.2.2.2.1.1 | exact h.2.2.2.2.2.2.1 | exact h.2.2.2.2.2.2.2.1.1 | exact h.2.2.2.2.2.2.2.2.2.1 | exact Nq.go hg4 h.2.1 | exact Nq.st hg4 h.2.1 | exact Nq.ho hg4 h.2.1 | exact Nq.cf hg4 h.2.1) rfl ?_
      exact g_iret hF dX9_group_96 (Nat.le_of_ble_eq_true rfl) (Nat.le_of_ble_eq_true rfl) (fun H h => hR _ _ ⟨congrArg (fun z => some (Value.int z)) (rfl), Cs.mk hr h⟩)
    · refine g_aload_n hF dX9_group_0 1 rfl rfl ?_
      refine g_get hF fl_X9_10 dX9_group_1 4 rfl (by intro H h; first | exact h.1 | exact h.2.1.nob | exact h.2.2.1.1 | exact h.2.2.2.2.2.1.1 | exact h.2.2.2.2.2.2.1 | exact h.2.2.2.2.2.2.2.1.1 | exact h.2.2.2.2.2.2.2.2.2.1 | exact Nq.go hg4 h.2.1 | exact Nq.st hg4 h.2.1 | exact Nq.ho hg4 h.2.1 | exact Nq.cf hg4 h.2.1) rfl ?_
      refine g_iload_n hF dX9_group_4 5 rfl rfl ?_
      refine g_callV hF cv_X9_96 (q_groupAt l E (b + 1) v G g hG G4 hg) dX9_group_5 8 rfl (st := []) rfl rfl ⟨Nat.le_of_ble_eq_true rfl, Nat.le_of_ble_eq_true rfl⟩ ⟨Nat.le_of_ble_eq_true rfl, Nat.le_of_ble_eq_true rfl⟩ rfl (Nat.le_of_ble_eq_true rfl) 6 rfl (by intro H h; first | exact h.1 | exact h.2.1.nob | exact h.2.2.1.1 | exact h.2.2.2.2.2.1.1 | exact h.2.2.2.2.2.2.1 | exact h.2.2.2.2.2.2.2.1.1 | exact h.2.2.2.2.2.2.2.2.2.1 | exact Nq.go hg4 h.2.1 | exact Nq.st hg4 h.2.1 | exact Nq.ho hg4 h.2.1 | exact Nq.cf hg4 h.2.1) (Pr' := Sx E b v rv p d iv isd ik bg bl bs nb sd wf wx wy fa fb tl tn ts tr) (fun H h => h.2.1) (fun q z => z.elim) (fun H H' h h1 h2 => by exact h.no h2 (fun q z => z.elim)) (st1 := [_]) rfl (k1 := 0) (n1 := 0) rfl rfl ?_
      refine g_astore_n hF dX9_group_8 9 rfl (lo' := [_, _, _, _]) (Nat.le_of_ble_eq_true rfl) rfl ?_
      refine g_aload_n hF dX9_group_9 10 rfl rfl ?_
      refine g_ifnonnull hF dX9_group_10 16 (by decide) ?_
      refine g_iload_n hF dX9_group_16 17 rfl rfl ?_
      refine g_tabIn hF dX9_group_17 (by decide) (by decide) (80) rfl 97 (by decide) ?_
      refine g_aload_n hF dX9_group_97 98 rfl rfl ?_
      refine g_get hF fl_X9_106 dX9_group_98 101 rfl (by intro H h; first | exact h.1 | exact h.2.1.nob | exact h.2.2.1.1 | exact h.2.2.2.2.2.1.1 | exact h.2.2.2.2.2.2.1 | exact h.2.2.2.2.2.2.2.1.1 | exact h.2.2.2.2.2.2.2.2.2.1 | exact Nq.go hg4 h.2.1 | exact Nq.st hg4 h.2.1 | exact Nq.ho hg4 h.2.1 | exact Nq.cf hg4 h.2.1) rfl ?_
      exact g_iret hF dX9_group_101 (Nat.le_of_ble_eq_true rfl) (Nat.le_of_ble_eq_true rfl) (fun H h => hR _ _ ⟨congrArg (fun z => some (Value.int z)) (rfl), Cs.mk hr h⟩)
    · refine g_aload_n hF dX9_group_0 1 rfl rfl ?_
      refine g_get hF fl_X9_10 dX9_group_1 4 rfl (by intro H h; first | exact h.1 | exact h.2.1.nob | exact h.2.2.1.1 | exact h.2.2.2.2.2.1.1 | exact h.2.2.2.2.2.2.1 | exact h.2.2.2.2.2.2.2.1.1 | exact h.2.2.2.2.2.2.2.2.2.1 | exact Nq.go hg4 h.2.1 | exact Nq.st hg4 h.2.1 | exact Nq.ho hg4 h.2.1 | exact Nq.cf hg4 h.2.1) rfl ?_
      refine g_iload_n hF dX9_group_4 5 rfl rfl ?_
      refine g_callV hF cv_X9_96 (q_groupAt l E (b + 1) v G g hG G4 hg) dX9_group_5 8 rfl (st := []) rfl rfl ⟨Nat.le_of_ble_eq_true rfl, Nat.le_of_ble_eq_true rfl⟩ ⟨Nat.le_of_ble_eq_true rfl, Nat.le_of_ble_eq_true rfl⟩ rfl (Nat.le_of_ble_eq_true rfl) 6 rfl (by intro H h; first | exact h.1 | exact h.2.1.nob | exact h.2.2.1.1 | exact h.2.2.2.2.2.1.1 | exact h.2.2.2.2.2.2.1 | exact h.2.2.2.2.2.2.2.1.1 | exact h.2.2.2.2.2.2.2.2.2.1 | exact Nq.go hg4 h.2.1 | exact Nq.st hg4 h.2.1 | exact Nq.ho hg4 h.2.1 | exact Nq.cf hg4 h.2.1) (Pr' := Sx E b v rv p d iv isd ik bg bl bs nb sd wf wx wy fa fb tl tn ts tr) (fun H h => h.2.1) (fun q z => z.elim) (fun H H' h h1 h2 => by exact h.no h2 (fun q z => z.elim)) (st1 := [_]) rfl (k1 := 0) (n1 := 0) rfl rfl ?_
      refine g_astore_n hF dX9_group_8 9 rfl (lo' := [_, _, _, _]) (Nat.le_of_ble_eq_true rfl) rfl ?_
      refine g_aload_n hF dX9_group_9 10 rfl rfl ?_
      refine g_ifnonnull hF dX9_group_10 16 (by decide) ?_
      refine g_iload_n hF dX9_group_16 17 rfl rfl ?_
      refine g_tabIn hF dX9_group_17 (by decide) (by decide) (85) rfl 102 (by decide) ?_
      refine g_aload_n hF dX9_group_102 103 rfl rfl ?_
      refine g_get hF fl_X9_109 dX9_group_103 106 rfl (by intro H h; first | exact h.1 | exact h.2.1.nob | exact h.2.2.1.1 | exact h.2.2.2.2.2.1.1 | exact h.2.2.2.2.2.2.1 | exact h.2.2.2.2.2.2.2.1.1 | exact h.2.2.2.2.2.2.2.2.2.1 | exact Nq.go hg4 h.2.1 | exact Nq.st hg4 h.2.1 | exact Nq.ho hg4 h.2.1 | exact Nq.cf hg4 h.2.1) rfl ?_
      exact g_iret hF dX9_group_106 (Nat.le_of_ble_eq_true rfl) (Nat.le_of_ble_eq_true rfl) (fun H h => hR _ _ ⟨congrArg (fun z => some (Value.int z)) (rfl), Cs.mk hr h⟩)
    · refine g_aload_n hF dX9_group_0 1 rfl rfl ?_
      refine g_get hF fl_X9_10 dX9_group_1 4 rfl (by intro H h; first | exact h.1 | exact h.2.1.nob | exact h.2.2.1.1 | exact h.2.2.2.2.2.1.1 | exact h.2.2.2.2.2.2.1 | exact h.2.2.2.2.2.2.2.1.1 | exact h.2.2.2.2.2.2.2.2.2.1 | exact Nq.go hg4 h.2.1 | exact Nq.st hg4 h.2.1 | exact Nq.ho hg4 h.2.1 | exact Nq.cf hg4 h.2.1) rfl ?_
      refine g_iload_n hF dX9_group_4 5 rfl rfl ?_
      refine g_callV hF cv_X9_96 (q_groupAt l E (b + 1) v G g hG G4 hg) dX9_group_5 8 rfl (st := []) rfl rfl ⟨Nat.le_of_ble_eq_true rfl, Nat.le_of_ble_eq_true rfl⟩ ⟨Nat.le_of_ble_eq_true rfl, Nat.le_of_ble_eq_true rfl⟩ rfl (Nat.le_of_ble_eq_true rfl) 6 rfl (by intro H h; first | exact h.1 | exact h.2.1.nob | exact h.2.2.1.1 | exact h.2.2.2.2.2.1.1 | exact h.2.2.2.2.2.2.1 | exact h.2.2.2.2.2.2.2.1.1 | exact h.2.2.2.2.2.2.2.2.2.1 | exact Nq.go hg4 h.2.1 | exact Nq.st hg4 h.2.1 | exact Nq.ho hg4 h.2.1 | exact Nq.cf hg4 h.2.1) (Pr' := Sx E b v rv p d iv isd ik bg bl bs nb sd wf wx wy fa fb tl tn ts tr) (fun H h => h.2.1) (fun q z => z.elim) (fun H H' h h1 h2 => by exact h.no h2 (fun q z => z.elim)) (st1 := [_]) rfl (k1 := 0) (n1 := 0) rfl rfl ?_
      refine g_astore_n hF dX9_group_8 9 rfl (lo' := [_, _, _, _]) (Nat.le_of_ble_eq_true rfl) rfl ?_
      refine g_aload_n hF dX9_group_9 10 rfl rfl ?_
      refine g_ifnonnull hF dX9_group_10 16 (by decide) ?_
      refine g_iload_n hF dX9_group_16 17 rfl rfl ?_
      refine g_tabIn hF dX9_group_17 (by decide) (by decide) (90) rfl 107 (by decide) ?_
      refine g_aload_n hF dX9_group_107 108 rfl rfl ?_
      refine g_get hF fl_X9_112 dX9_group_108 111 rfl (by intro H h; first | exact h.1 | exact h.2.1.nob | exact h.2.2.1.1 | exact h.2.2.2.2.2.1.1 | exact h.2.2.2.2.2.2.1 | exact h.2.2.2.2.2.2.2.1.1 | exact h.2.2.2.2.2.2.2.2.2.1 | exact Nq.go hg4 h.2.1 | exact Nq.st hg4 h.2.1 | exact Nq.ho hg4 h.2.1 | exact Nq.cf hg4 h.2.1) rfl ?_
      exact g_iret hF dX9_group_111 (Nat.le_of_ble_eq_true rfl) (Nat.le_of_ble_eq_true rfl) (fun H h => hR _ _ ⟨congrArg (fun z => some (Value.int z)) (rfl), Cs.mk hr h⟩)
    · refine g_aload_n hF dX9_group_0 1 rfl rfl ?_
      refine g_get hF fl_X9_10 dX9_group_1 4 rfl (by intro H h; first | exact h.1 | exact h.2.1.nob | exact h.2.2.1.1 | exact h.2.2.2.2.2.1.1 | exact h.2.2.2.2.2.2.1 | exact h.2.2.2.2.2.2.2.1.1 | exact h.2.2.2.2.2.2.2.2.2.1 | exact Nq.go hg4 h.2.1 | exact Nq.st hg4 h.2.1 | exact Nq.ho hg4 h.2.1 | exact Nq.cf hg4 h.2.1) rfl ?_
      refine g_iload_n hF dX9_group_4 5 rfl rfl ?_
      refine g_callV hF cv_X9_96 (q_groupAt l E (b + 1) v G g hG G4 hg) dX9_group_5 8 rfl (st := []) rfl rfl ⟨Nat.le_of_ble_eq_true rfl, Nat.le_of_ble_eq_true rfl⟩ ⟨Nat.le_of_ble_eq_true rfl, Nat.le_of_ble_eq_true rfl⟩ rfl (Nat.le_of_ble_eq_true rfl) 6 rfl (by intro H h; first | exact h.1 | exact h.2.1.nob | exact h.2.2.1.1 | exact h.2.2.2.2.2.1.1 | exact h.2.2.2.2.2.2.1 | exact h.2.2.2.2.2.2.2.1.1 | exact h.2.2.2.2.2.2.2.2.2.1 | exact Nq.go hg4 h.2.1 | exact Nq.st hg4 h.2.1 | exact Nq.ho hg4 h.2.1 | exact Nq.cf hg4 h.2.1) (Pr' := Sx E b v rv p d iv isd ik bg bl bs nb sd wf wx wy fa fb tl tn ts tr) (fun H h => h.2.1) (fun q z => z.elim) (fun H H' h h1 h2 => by exact h.no h2 (fun q z => z.elim)) (st1 := [_]) rfl (k1 := 0) (n1 := 0) rfl rfl ?_
      refine g_astore_n hF dX9_group_8 9 rfl (lo' := [_, _, _, _]) (Nat.le_of_ble_eq_true rfl) rfl ?_
      refine g_aload_n hF dX9_group_9 10 rfl rfl ?_
      refine g_ifnonnull hF dX9_group_10 16 (by decide) ?_
      refine g_iload_n hF dX9_group_16 17 rfl rfl ?_
      refine g_tabIn hF dX9_group_17 (by decide) (by decide) (95) rfl 112 (by decide) ?_
      refine g_aload_n hF dX9_group_112 113 rfl rfl ?_
      refine g_get hF fl_X9_115 dX9_group_113 116 rfl (by intro H h; first | exact h.1 | exact h.2.1.nob | exact h.2.2.1.1 | exact h.2.2.2.2.2.1.1 | exact h.2.2.2.2.2.2.1 | exact h.2.2.2.2.2.2.2.1.1 | exact h.2.2.2.2.2.2.2.2.2.1 | exact Nq.go hg4 h.2.1 | exact Nq.st hg4 h.2.1 | exact Nq.ho hg4 h.2.1 | exact Nq.cf hg4 h.2.1) rfl ?_
      exact g_iret hF dX9_group_116 (Nat.le_of_ble_eq_true rfl) (Nat.le_of_ble_eq_true rfl) (fun H h => hR _ _ ⟨congrArg (fun z => some (Value.int z)) (rfl), Cs.mk hr h⟩)
    · refine g_aload_n hF dX9_group_0 1 rfl rfl ?_
      refine g_get hF fl_X9_10 dX9_group_1 4 rfl (by intro H h; first | exact h.1 | exact h.2.1.nob | exact h.2.2.1.1 | exact h.2.2.2.2.2.1.1 | exact h.2.2.2.2.2.2.1 | exact h.2.2.2.2.2.2.2.1.1 | exact h.2.2.2.2.2.2.2.2.2.1 | exact Nq.go hg4 h.2.1 | exact Nq.st hg4 h.2.1 | exact Nq.ho hg4 h.2.1 | exact Nq.cf hg4 h.2.1) rfl ?_
      refine g_iload_n hF dX9_group_4 5 rfl rfl ?_
      refine g_callV hF cv_X9_96 (q_groupAt l E (b + 1) v G g hG G4 hg) dX9_group_5 8 rfl (st := []) rfl rfl ⟨Nat.le_of_ble_eq_true rfl, Nat.le_of_ble_eq_true rfl⟩ ⟨Nat.le_of_ble_eq_true rfl, Nat.le_of_ble_eq_true rfl⟩ rfl (Nat.le_of_ble_eq_true rfl) 6 rfl (by intro H h; first | exact h.1 | exact h.2.1.nob | exact h.2.2.1.1 | exact h.2.2.2.2.2.1.1 | exact h.2.2.2.2.2.2.1 | exact h.2.2.2.2.2.2.2.1.1 | exact h.2.2.2.2.2.2.2.2.2.1 | exact Nq.go hg4 h.2.1 | exact Nq.st hg4 h.2.1 | exact Nq.ho hg4 h.2.1 | exact Nq.cf hg4 h.2.1) (Pr' := Sx E b v rv p d iv isd ik bg bl bs nb sd wf wx wy fa fb tl tn ts tr) (fun H h => h.2.1) (fun q z => z.elim) (fun H H' h h1 h2 => by exact h.no h2 (fun q z => z.elim)) (st1 := [_]) rfl (k1 := 0) (n1 := 0) rfl rfl ?_
      refine g_astore_n hF dX9_group_8 9 rfl (lo' := [_, _, _, _]) (Nat.le_of_ble_eq_true rfl) rfl ?_
      refine g_aload_n hF dX9_group_9 10 rfl rfl ?_
      refine g_ifnonnull hF dX9_group_10 16 (by decide) ?_
      refine g_iload_n hF dX9_group_16 17 rfl rfl ?_
      refine g_tabIn hF dX9_group_17 (by decide) (by decide) (100) rfl 117 (by decide) ?_
      refine g_aload_n hF dX9_group_117 118 rfl rfl ?_
      refine g_iconst hF (0) dX9_group_118 119 rfl rfl ?_
      refine g_callV hF cv_X9_118 (q_setOf l E (b + 1) v 0 g N hg4 n0 n6) dX9_group_119 122 rfl (st := []) rfl rfl ⟨Nat.le_of_ble_eq_true rfl, Nat.le_of_ble_eq_true rfl⟩ ⟨Nat.le_of_ble_eq_true rfl, Nat.le_of_ble_eq_true rfl⟩ rfl (Nat.le_of_ble_eq_true rfl) 3 rfl (by intro H h; first | exact h.1 | exact h.2.1.nob | exact h.2.2.1.1 | exact h.2.2.2.2.2.1.1 | exact h.2.2.2.2.2.2.1 | exact h.2.2.2.2.2.2.2.1.1 | exact h.2.2.2.2.2.2.2.2.2.1 | exact Nq.go hg4 h.2.1 | exact Nq.st hg4 h.2.1 | exact Nq.ho hg4 h.2.1 | exact Nq.cf hg4 h.2.1) (Pr' := Sx E b v rv p d iv isd ik bg bl bs nb sd wf wx wy fa fb tl tn ts tr) (fun H h => h.2.1) (fun q z => z.elim) (fun H H' h h1 h2 => by exact h.no h2 (fun q z => z.elim)) (st1 := [_]) rfl (k1 := 0) (n1 := 0) rfl rfl ?_
      exact g_iret hF dX9_group_122 (Nat.le_of_ble_eq_true rfl) (Nat.le_of_ble_eq_true rfl) (fun H h => hR _ _ ⟨congrArg (fun z => some (Value.int z)) (rfl), Cs.mk hr h⟩)
    · refine g_aload_n hF dX9_group_0 1 rfl rfl ?_
      refine g_get hF fl_X9_10 dX9_group_1 4 rfl (by intro H h; first | exact h.1 | exact h.2.1.nob | exact h.2.2.1.1 | exact h.2.2.2.2.2.1.1 | exact h.2.2.2.2.2.2.1 | exact h.2.2.2.2.2.2.2.1.1 | exact h.2.2.2.2.2.2.2.2.2.1 | exact Nq.go hg4 h.2.1 | exact Nq.st hg4 h.2.1 | exact Nq.ho hg4 h.2.1 | exact Nq.cf hg4 h.2.1) rfl ?_
      refine g_iload_n hF dX9_group_4 5 rfl rfl ?_
      refine g_callV hF cv_X9_96 (q_groupAt l E (b + 1) v G g hG G4 hg) dX9_group_5 8 rfl (st := []) rfl rfl ⟨Nat.le_of_ble_eq_true rfl, Nat.le_of_ble_eq_true rfl⟩ ⟨Nat.le_of_ble_eq_true rfl, Nat.le_of_ble_eq_true rfl⟩ rfl (Nat.le_of_ble_eq_true rfl) 6 rfl (by intro H h; first | exact h.1 | exact h.2.1.nob | exact h.2.2.1.1 | exact h.2.2.2.2.2.1.1 | exact h.2.2.2.2.2.2.1 | exact h.2.2.2.2.2.2.2.1.1 | exact h.2.2.2.2.2.2.2.2.2.1 | exact Nq.go hg4 h.2.1 | exact Nq.st hg4 h.2.1 | exact Nq.ho hg4 h.2.1 | exact Nq.cf hg4 h.2.1) (Pr' := Sx E b v rv p d iv isd ik bg bl bs nb sd wf wx wy fa fb tl tn ts tr) (fun H h => h.2.1) (fun q z => z.elim) (fun H H' h h1 h2 => by exact h.no h2 (fun q z => z.elim)) (st1 := [_]) rfl (k1 := 0) (n1 := 0) rfl rfl ?_
      refine g_astore_n hF dX9_group_8 9 rfl (lo' := [_, _, _, _]) (Nat.le_of_ble_eq_true rfl) rfl ?_
      refine g_aload_n hF dX9_group_9 10 rfl rfl ?_
      refine g_ifnonnull hF dX9_group_10 16 (by decide) ?_
      refine g_iload_n hF dX9_group_16 17 rfl rfl ?_
      refine g_tabIn hF dX9_group_17 (by decide) (by decide) (106) rfl 123 (by decide) ?_
      refine g_aload_n hF dX9_group_123 124 rfl rfl ?_
      refine g_iconst hF (1) dX9_group_124 125 rfl rfl ?_
      refine g_callV hF cv_X9_118 (q_setOf l E (b + 1) v 1 g N hg4 n0 n6) dX9_group_125 128 rfl (st := []) rfl rfl ⟨Nat.le_of_ble_eq_true rfl, Nat.le_of_ble_eq_true rfl⟩ ⟨Nat.le_of_ble_eq_true rfl, Nat.le_of_ble_eq_true rfl⟩ rfl (Nat.le_of_ble_eq_true rfl) 3 rfl (by intro H h; first | exact h.1 | exact h.2.1.nob | exact h.2.2.1.1 | exact h.2.2.2.2.2.1.1 | exact h.2.2.2.2.2.2.1 | exact h.2.2.2.2.2.2.2.1.1 | exact h.2.2.2.2.2.2.2.2.2.1 | exact Nq.go hg4 h.2.1 | exact Nq.st hg4 h.2.1 | exact Nq.ho hg4 h.2.1 | exact Nq.cf hg4 h.2.1) (Pr' := Sx E b v rv p d iv isd ik bg bl bs nb sd wf wx wy fa fb tl tn ts tr) (fun H h => h.2.1) (fun q z => z.elim) (fun H H' h h1 h2 => by exact h.no h2 (fun q z => z.elim)) (st1 := [_]) rfl (k1 := 0) (n1 := 0) rfl rfl ?_
      exact g_iret hF dX9_group_128 (Nat.le_of_ble_eq_true rfl) (Nat.le_of_ble_eq_true rfl) (fun H h => hR _ _ ⟨congrArg (fun z => some (Value.int z)) (rfl), Cs.mk hr h⟩)
    · refine g_aload_n hF dX9_group_0 1 rfl rfl ?_
      refine g_get hF fl_X9_10 dX9_group_1 4 rfl (by intro H h; first | exact h.1 | exact h.2.1.nob | exact h.2.2.1.1 | exact h.2.2.2.2.2.1.1 | exact h.2.2.2.2.2.2.1 | exact h.2.2.2.2.2.2.2.1.1 | exact h.2.2.2.2.2.2.2.2.2.1 | exact Nq.go hg4 h.2.1 | exact Nq.st hg4 h.2.1 | exact Nq.ho hg4 h.2.1 | exact Nq.cf hg4 h.2.1) rfl ?_
      refine g_iload_n hF dX9_group_4 5 rfl rfl ?_
      refine g_callV hF cv_X9_96 (q_groupAt l E (b + 1) v G g hG G4 hg) dX9_group_5 8 rfl (st := []) rfl rfl ⟨Nat.le_of_ble_eq_true rfl, Nat.le_of_ble_eq_true rfl⟩ ⟨Nat.le_of_ble_eq_true rfl, Nat.le_of_ble_eq_true rfl⟩ rfl (Nat.le_of_ble_eq_true rfl) 6 rfl (by intro H h; first | exact h.1 | exact h.2.1.nob | exact h.2.2.1.1 | exact h.2.2.2.2.2.1.1 | exact h.2.2.2.2.2.2.1 | exact h.2.2.2.2.2.2.2.1.1 | exact h.2.2.2.2.2.2.2.2.2.1 | exact Nq.go hg4 h.2.1 | exact Nq.st hg4 h.2.1 | exact Nq.ho hg4 h.2.1 | exact Nq.cf hg4 h.2.1) (Pr' := Sx E b v rv p d iv isd ik bg bl bs nb sd wf wx wy fa fb tl tn ts tr) (fun H h => h.2.1) (fun q z => z.elim) (fun H H' h h1 h2 => by exact h.no h2 (fun q z => z.elim)) (st1 := [_]) rfl (k1 := 0) (n1 := 0) rfl rfl ?_
      refine g_astore_n hF dX9_group_8 9 rfl (lo' := [_, _, _, _]) (Nat.le_of_ble_eq_true rfl) rfl ?_
      refine g_aload_n hF dX9_group_9 10 rfl rfl ?_
      refine g_ifnonnull hF dX9_group_10 16 (by decide) ?_
      refine g_iload_n hF dX9_group_16 17 rfl rfl ?_
      refine g_tabIn hF dX9_group_17 (by decide) (by decide) (112) rfl 129 (by decide) ?_
      refine g_aload_n hF dX9_group_129 130 rfl rfl ?_
      refine g_iconst hF (2) dX9_group_130 131 rfl rfl ?_
      refine g_callV hF cv_X9_118 (q_setOf l E (b + 1) v 2 g N hg4 n0 n6) dX9_group_131 134 rfl (st := []) rfl rfl ⟨Nat.le_of_ble_eq_true rfl, Nat.le_of_ble_eq_true rfl⟩ ⟨Nat.le_of_ble_eq_true rfl, Nat.le_of_ble_eq_true rfl⟩ rfl (Nat.le_of_ble_eq_true rfl) 3 rfl (by intro H h; first | exact h.1 | exact h.2.1.nob | exact h.2.2.1.1 | exact h.2.2.2.2.2.1.1 | exact h.2.2.2.2.2.2.1 | exact h.2.2.2.2.2.2.2.1.1 | exact h.2.2.2.2.2.2.2.2.2.1 | exact Nq.go hg4 h.2.1 | exact Nq.st hg4 h.2.1 | exact Nq.ho hg4 h.2.1 | exact Nq.cf hg4 h.2.1) (Pr' := Sx E b v rv p d iv isd ik bg bl bs nb sd wf wx wy fa fb tl tn ts tr) (fun H h => h.2.1) (fun q z => z.elim) (fun H H' h h1 h2 => by exact h.no h2 (fun q z => z.elim)) (st1 := [_]) rfl (k1 := 0) (n1 := 0) rfl rfl ?_
      exact g_iret hF dX9_group_134 (Nat.le_of_ble_eq_true rfl) (Nat.le_of_ble_eq_true rfl) (fun H h => hR _ _ ⟨congrArg (fun z => some (Value.int z)) (rfl), Cs.mk hr h⟩)
    · refine g_aload_n hF dX9_group_0 1 rfl rfl ?_
      refine g_get hF fl_X9_10 dX9_group_1 4 rfl (by intro H h; first | exact h.1 | exact h.2.1.nob | exact h.2.2.1.1 | exact h.2.2.2.2.2.1.1 | exact h.2.2.2.2.2.2.1 | exact h.2.2.2.2.2.2.2.1.1 | exact h.2.2.2.2.2.2.2.2.2.1 | exact Nq.go hg4 h.2.1 | exact Nq.st hg4 h.2.1 | exact Nq.ho hg4 h.2.1 | exact Nq.cf hg4 h.2.1) rfl ?_
      refine g_iload_n hF dX9_group_4 5 rfl rfl ?_
      refine g_callV hF cv_X9_96 (q_groupAt l E (b + 1) v G g hG G4 hg) dX9_group_5 8 rfl (st := []) rfl rfl ⟨Nat.le_of_ble_eq_true rfl, Nat.le_of_ble_eq_true rfl⟩ ⟨Nat.le_of_ble_eq_true rfl, Nat.le_of_ble_eq_true rfl⟩ rfl (Nat.le_of_ble_eq_true rfl) 6 rfl (by intro H h; first | exact h.1 | exact h.2.1.nob | exact h.2.2.1.1 | exact h.2.2.2.2.2.1.1 | exact h.2.2.2.2.2.2.1 | exact h.2.2.2.2.2.2.2.1.1 | exact h.2.2.2.2.2.2.2.2.2.1 | exact Nq.go hg4 h.2.1 | exact Nq.st hg4 h.2.1 | exact Nq.ho hg4 h.2.1 | exact Nq.cf hg4 h.2.1) (Pr' := Sx E b v rv p d iv isd ik bg bl bs nb sd wf wx wy fa fb tl tn ts tr) (fun H h => h.2.1) (fun q z => z.elim) (fun H H' h h1 h2 => by exact h.no h2 (fun q z => z.elim)) (st1 := [_]) rfl (k1 := 0) (n1 := 0) rfl rfl ?_
      refine g_astore_n hF dX9_group_8 9 rfl (lo' := [_, _, _, _]) (Nat.le_of_ble_eq_true rfl) rfl ?_
      refine g_aload_n hF dX9_group_9 10 rfl rfl ?_
      refine g_ifnonnull hF dX9_group_10 16 (by decide) ?_
      refine g_iload_n hF dX9_group_16 17 rfl rfl ?_
      refine g_tabIn hF dX9_group_17 (by decide) (by decide) (118) rfl 135 (by decide) ?_
      refine g_aload_n hF dX9_group_135 136 rfl rfl ?_
      refine g_get hF fl_X9_122 dX9_group_136 139 rfl (by intro H h; first | exact h.1 | exact h.2.1.nob | exact h.2.2.1.1 | exact h.2.2.2.2.2.1.1 | exact h.2.2.2.2.2.2.1 | exact h.2.2.2.2.2.2.2.1.1 | exact h.2.2.2.2.2.2.2.2.2.1 | exact Nq.go hg4 h.2.1 | exact Nq.st hg4 h.2.1 | exact Nq.ho hg4 h.2.1 | exact Nq.cf hg4 h.2.1) rfl ?_
      exact g_iret hF dX9_group_139 (Nat.le_of_ble_eq_true rfl) (Nat.le_of_ble_eq_true rfl) (fun H h => hR _ _ ⟨congrArg (fun z => some (Value.int z)) (rfl), Cs.mk hr h⟩)
    · refine g_aload_n hF dX9_group_0 1 rfl rfl ?_
      refine g_get hF fl_X9_10 dX9_group_1 4 rfl (by intro H h; first | exact h.1 | exact h.2.1.nob | exact h.2.2.1.1 | exact h.2.2.2.2.2.1.1 | exact h.2.2.2.2.2.2.1 | exact h.2.2.2.2.2.2.2.1.1 | exact h.2.2.2.2.2.2.2.2.2.1 | exact Nq.go hg4 h.2.1 | exact Nq.st hg4 h.2.1 | exact Nq.ho hg4 h.2.1 | exact Nq.cf hg4 h.2.1) rfl ?_
      refine g_iload_n hF dX9_group_4 5 rfl rfl ?_
      refine g_callV hF cv_X9_96 (q_groupAt l E (b + 1) v G g hG G4 hg) dX9_group_5 8 rfl (st := []) rfl rfl ⟨Nat.le_of_ble_eq_true rfl, Nat.le_of_ble_eq_true rfl⟩ ⟨Nat.le_of_ble_eq_true rfl, Nat.le_of_ble_eq_true rfl⟩ rfl (Nat.le_of_ble_eq_true rfl) 6 rfl (by intro H h; first | exact h.1 | exact h.2.1.nob | exact h.2.2.1.1 | exact h.2.2.2.2.2.1.1 | exact h.2.2.2.2.2.2.1 | exact h.2.2.2.2.2.2.2.1.1 | exact h.2.2.2.2.2.2.2.2.2.1 | exact Nq.go hg4 h.2.1 | exact Nq.st hg4 h.2.1 | exact Nq.ho hg4 h.2.1 | exact Nq.cf hg4 h.2.1) (Pr' := Sx E b v rv p d iv isd ik bg bl bs nb sd wf wx wy fa fb tl tn ts tr) (fun H h => h.2.1) (fun q z => z.elim) (fun H H' h h1 h2 => by exact h.no h2 (fun q z => z.elim)) (st1 := [_]) rfl (k1 := 0) (n1 := 0) rfl rfl ?_
      refine g_astore_n hF dX9_group_8 9 rfl (lo' := [_, _, _, _]) (Nat.le_of_ble_eq_true rfl) rfl ?_
      refine g_aload_n hF dX9_group_9 10 rfl rfl ?_
      refine g_ifnonnull hF dX9_group_10 16 (by decide) ?_
      refine g_iload_n hF dX9_group_16 17 rfl rfl ?_
      refine g_tabIn hF dX9_group_17 (by decide) (by decide) (123) rfl 140 (by decide) ?_
      refine g_aload_n hF dX9_group_140 141 rfl rfl ?_
      refine g_get hF fl_X9_125 dX9_group_141 144 rfl (by intro H h; first | exact h.1 | exact h.2.1.nob | exact h.2.2.1.1 | exact h.2.2.2.2.2.1.1 | exact h.2.2.2.2.2.2.1 | exact h.2.2.2.2.2.2.2.1.1 | exact h.2.2.2.2.2.2.2.2.2.1 | exact Nq.go hg4 h.2.1 | exact Nq.st hg4 h.2.1 | exact Nq.ho hg4 h.2.1 | exact Nq.cf hg4 h.2.1) rfl ?_
      exact g_iret hF dX9_group_144 (Nat.le_of_ble_eq_true rfl) (Nat.le_of_ble_eq_true rfl) (fun H h => hR _ _ ⟨congrArg (fun z => some (Value.int z)) (rfl), Cs.mk hr h⟩)
    · refine g_aload_n hF dX9_group_0 1 rfl rfl ?_
      refine g_get hF fl_X9_10 dX9_group_1 4 rfl (by intro H h; first | exact h.1 | exact h.2.1.nob | exact h.2.2.1.1 | exact h.2.2.2.2.2.1.1 | exact h.2.2.2.2.2.2.1 | exact h.2.2.2.2.2.2.2.1.1 | exact h.2.2.2.2.2.2.2.2.2.1 | exact Nq.go hg4 h.2.1 | exact Nq.st hg4 h.2.1 | exact Nq.ho hg4 h.2.1 | exact Nq.cf hg4 h.2.1) rfl ?_
      refine g_iload_n hF dX9_group_4 5 rfl rfl ?_
      refine g_callV hF cv_X9_96 (q_groupAt l E (b + 1) v G g hG G4 hg) dX9_group_5 8 rfl (st := []) rfl rfl ⟨Nat.le_of_ble_eq_true rfl, Nat.le_of_ble_eq_true rfl⟩ ⟨Nat.le_of_ble_eq_true rfl, Nat.le_of_ble_eq_true rfl⟩ rfl (Nat.le_of_ble_eq_true rfl) 6 rfl (by intro H h; first | exact h.1 | exact h.2.1.nob | exact h.2.2.1.1 | exact h.2.2.2.2.2.1.1 | exact h.2.2.2.2.2.2.1 | exact h.2.2.2.2.2.2.2.1.1 | exact h.2.2.2.2.2.2.2.2.2.1 | exact Nq.go hg4 h.2.1 | exact Nq.st hg4 h.2.1 | exact Nq.ho hg4 h.2.1 | exact Nq.cf hg4 h.2.1) (Pr' := Sx E b v rv p d iv isd ik bg bl bs nb sd wf wx wy fa fb tl tn ts tr) (fun H h => h.2.1) (fun q z => z.elim) (fun H H' h h1 h2 => by exact h.no h2 (fun q z => z.elim)) (st1 := [_]) rfl (k1 := 0) (n1 := 0) rfl rfl ?_
      refine g_astore_n hF dX9_group_8 9 rfl (lo' := [_, _, _, _]) (Nat.le_of_ble_eq_true rfl) rfl ?_
      refine g_aload_n hF dX9_group_9 10 rfl rfl ?_
      refine g_ifnonnull hF dX9_group_10 16 (by decide) ?_
      refine g_iload_n hF dX9_group_16 17 rfl rfl ?_
      refine g_tabIn hF dX9_group_17 (by decide) (by decide) (128) rfl 145 (by decide) ?_
      refine g_aload_n hF dX9_group_145 146 rfl rfl ?_
      refine g_get hF fl_X9_128 dX9_group_146 149 rfl (by intro H h; first | exact h.1 | exact h.2.1.nob | exact h.2.2.1.1 | exact h.2.2.2.2.2.1.1 | exact h.2.2.2.2.2.2.1 | exact h.2.2.2.2.2.2.2.1.1 | exact h.2.2.2.2.2.2.2.2.2.1 | exact Nq.go hg4 h.2.1 | exact Nq.st hg4 h.2.1 | exact Nq.ho hg4 h.2.1 | exact Nq.cf hg4 h.2.1) rfl ?_
      exact g_iret hF dX9_group_149 (Nat.le_of_ble_eq_true rfl) (Nat.le_of_ble_eq_true rfl) (fun H h => hR _ _ ⟨congrArg (fun z => some (Value.int z)) (rfl), Cs.mk hr h⟩)
    · refine g_aload_n hF dX9_group_0 1 rfl rfl ?_
      refine g_get hF fl_X9_10 dX9_group_1 4 rfl (by intro H h; first | exact h.1 | exact h.2.1.nob | exact h.2.2.1.1 | exact h.2.2.2.2.2.1.1 | exact h.2.2.2.2.2.2.1 | exact h.2.2.2.2.2.2.2.1.1 | exact h.2.2.2.2.2.2.2.2.2.1 | exact Nq.go hg4 h.2.1 | exact Nq.st hg4 h.2.1 | exact Nq.ho hg4 h.2.1 | exact Nq.cf hg4 h.2.1) rfl ?_
      refine g_iload_n hF dX9_group_4 5 rfl rfl ?_
      refine g_callV hF cv_X9_96 (q_groupAt l E (b + 1) v G g hG G4 hg) dX9_group_5 8 rfl (st := []) rfl rfl ⟨Nat.le_of_ble_eq_true rfl, Nat.le_of_ble_eq_true rfl⟩ ⟨Nat.le_of_ble_eq_true rfl, Nat.le_of_ble_eq_true rfl⟩ rfl (Nat.le_of_ble_eq_true rfl) 6 rfl (by intro H h; first | exact h.1 | exact h.2.1.nob | exact h.2.2.1.1 | exact h.2.2.2.2.2.1.1 | exact h.2.2.2.2.2.2.1 | exact h.2.2.2.2.2.2.2.1.1 | exact h.2.2.2.2.2.2.2.2.2.1 | exact Nq.go hg4 h.2.1 | exact Nq.st hg4 h.2.1 | exact Nq.ho hg4 h.2.1 | exact Nq.cf hg4 h.2.1) (Pr' := Sx E b v rv p d iv isd ik bg bl bs nb sd wf wx wy fa fb tl tn ts tr) (fun H h => h.2.1) (fun q z => z.elim) (fun H H' h h1 h2 => by exact h.no h2 (fun q z => z.elim)) (st1 := [_]) rfl (k1 := 0) (n1 := 0) rfl rfl ?_
      refine g_astore_n hF dX9_group_8 9 rfl (lo' := [_, _, _, _]) (Nat.le_of_ble_eq_true rfl) rfl ?_
      refine g_aload_n hF dX9_group_9 10 rfl rfl ?_
      refine g_ifnonnull hF dX9_group_10 16 (by decide) ?_
      refine g_iload_n hF dX9_group_16 17 rfl rfl ?_
      refine g_tabIn hF dX9_group_17 (by decide) (by decide) (133) rfl 150 (by decide) ?_
      refine g_aload_n hF dX9_group_150 151 rfl rfl ?_
      refine g_get hF fl_X9_131 dX9_group_151 154 rfl (by intro H h; first | exact h.1 | exact h.2.1.nob | exact h.2.2.1.1 | exact h.2.2.2.2.2.1.1 | exact h.2.2.2.2.2.2.1 | exact h.2.2.2.2.2.2.2.1.1 | exact h.2.2.2.2.2.2.2.2.2.1 | exact Nq.go hg4 h.2.1 | exact Nq.st hg4 h.2.1 | exact Nq.ho hg4 h.2.1 | exact Nq.cf hg4 h.2.1) rfl ?_
      exact g_iret hF dX9_group_154 (Nat.le_of_ble_eq_true rfl) (Nat.le_of_ble_eq_true rfl) (fun H h => hR _ _ ⟨congrArg (fun z => some (Value.int z)) (rfl), Cs.mk hr h⟩)
    · refine g_aload_n hF dX9_group_0 1 rfl rfl ?_
      refine g_get hF fl_X9_10 dX9_group_1 4 rfl (by intro H h; first | exact h.1 | exact h.2.1.nob | exact h.2.2.1.1 | exact h.2.2.2.2.2.1.1 | exact h.2.2.2.2.2.2.1 | exact h.2.2.2.2.2.2.2.1.1 | exact h.2.2.2.2.2.2.2.2.2.1 | exact Nq.go hg4 h.2.1 | exact Nq.st hg4 h.2.1 | exact Nq.ho hg4 h.2.1 | exact Nq.cf hg4 h.2.1) rfl ?_
      refine g_iload_n hF dX9_group_4 5 rfl rfl ?_
      refine g_callV hF cv_X9_96 (q_groupAt l E (b + 1) v G g hG G4 hg) dX9_group_5 8 rfl (st := []) rfl rfl ⟨Nat.le_of_ble_eq_true rfl, Nat.le_of_ble_eq_true rfl⟩ ⟨Nat.le_of_ble_eq_true rfl, Nat.le_of_ble_eq_true rfl⟩ rfl (Nat.le_of_ble_eq_true rfl) 6 rfl (by intro H h; first | exact h.1 | exact h.2.1.nob | exact h.2.2.1.1 | exact h.2.2.2.2.2.1.1 | exact h.2.2.2.2.2.2.1 | exact h.2.2.2.2.2.2.2.1.1 | exact h.2.2.2.2.2.2.2.2.2.1 | exact Nq.go hg4 h.2.1 | exact Nq.st hg4 h.2.1 | exact Nq.ho hg4 h.2.1 | exact Nq.cf hg4 h.2.1) (Pr' := Sx E b v rv p d iv isd ik bg bl bs nb sd wf wx wy fa fb tl tn ts tr) (fun H h => h.2.1) (fun q z => z.elim) (fun H H' h h1 h2 => by exact h.no h2 (fun q z => z.elim)) (st1 := [_]) rfl (k1 := 0) (n1 := 0) rfl rfl ?_
      refine g_astore_n hF dX9_group_8 9 rfl (lo' := [_, _, _, _]) (Nat.le_of_ble_eq_true rfl) rfl ?_
      refine g_aload_n hF dX9_group_9 10 rfl rfl ?_
      refine g_ifnonnull hF dX9_group_10 16 (by decide) ?_
      refine g_iload_n hF dX9_group_16 17 rfl rfl ?_
      refine g_tabIn hF dX9_group_17 (by decide) (by decide) (138) rfl 155 (by decide) ?_
      refine g_aload_n hF dX9_group_155 156 rfl rfl ?_
      refine g_get hF fl_X9_10 dX9_group_156 159 rfl (by intro H h; first | exact h.1 | exact h.2.1.nob | exact h.2.2.1.1 | exact h.2.2.2.2.2.1.1 | exact h.2.2.2.2.2.2.1 | exact h.2.2.2.2.2.2.2.1.1 | exact h.2.2.2.2.2.2.2.2.2.1 | exact Nq.go hg4 h.2.1 | exact Nq.st hg4 h.2.1 | exact Nq.ho hg4 h.2.1 | exact Nq.cf hg4 h.2.1) rfl ?_
      refine g_iload_n hF dX9_group_159 160 rfl rfl ?_
      refine g_callV hF cv_X9_134 (q_nextPlace l E (b + 1) v T G g hv0 hG G4 hg) dX9_group_160 163 rfl (st := []) rfl rfl ⟨Nat.le_of_ble_eq_true rfl, Nat.le_of_ble_eq_true rfl⟩ ⟨Nat.le_of_ble_eq_true rfl, Nat.le_of_ble_eq_true rfl⟩ rfl (Nat.le_of_ble_eq_true rfl) 6 rfl (by intro H h; first | exact h.1 | exact h.2.1.nob | exact h.2.2.1.1 | exact h.2.2.2.2.2.1.1 | exact h.2.2.2.2.2.2.1 | exact h.2.2.2.2.2.2.2.1.1 | exact h.2.2.2.2.2.2.2.2.2.1 | exact Nq.go hg4 h.2.1 | exact Nq.st hg4 h.2.1 | exact Nq.ho hg4 h.2.1 | exact Nq.cf hg4 h.2.1) (Pr' := Sx E b v rv p d iv isd ik bg bl bs nb sd wf wx wy fa fb tl tn ts tr) (fun H h => h.2.1) (fun q z => z.elim) (fun H H' h h1 h2 => by exact h.no h2 (fun q z => z.elim)) (st1 := [_]) rfl (k1 := 0) (n1 := 0) rfl rfl ?_
      exact g_iret hF dX9_group_163 (Nat.le_of_ble_eq_true rfl) (Nat.le_of_ble_eq_true rfl) (fun H h => hR _ _ ⟨congrArg (fun z => some (Value.int z)) (rfl), Cs.mk hr h⟩)
    · refine g_aload_n hF dX9_group_0 1 rfl rfl ?_
      refine g_get hF fl_X9_10 dX9_group_1 4 rfl (by intro H h; first | exact h.1 | exact h.2.1.nob | exact h.2.2.1.1 | exact h.2.2.2.2.2.1.1 | exact h.2.2.2.2.2.2.1 | exact h.2.2.2.2.2.2.2.1.1 | exact h.2.2.2.2.2.2.2.2.2.1 | exact Nq.go hg4 h.2.1 | exact Nq.st hg4 h.2.1 | exact Nq.ho hg4 h.2.1 | exact Nq.cf hg4 h.2.1) rfl ?_
      refine g_iload_n hF dX9_group_4 5 rfl rfl ?_
      refine g_callV hF cv_X9_96 (q_groupAt l E (b + 1) v G g hG G4 hg) dX9_group_5 8 rfl (st := []) rfl rfl ⟨Nat.le_of_ble_eq_true rfl, Nat.le_of_ble_eq_true rfl⟩ ⟨Nat.le_of_ble_eq_true rfl, Nat.le_of_ble_eq_true rfl⟩ rfl (Nat.le_of_ble_eq_true rfl) 6 rfl (by intro H h; first | exact h.1 | exact h.2.1.nob | exact h.2.2.1.1 | exact h.2.2.2.2.2.1.1 | exact h.2.2.2.2.2.2.1 | exact h.2.2.2.2.2.2.2.1.1 | exact h.2.2.2.2.2.2.2.2.2.1 | exact Nq.go hg4 h.2.1 | exact Nq.st hg4 h.2.1 | exact Nq.ho hg4 h.2.1 | exact Nq.cf hg4 h.2.1) (Pr' := Sx E b v rv p d iv isd ik bg bl bs nb sd wf wx wy fa fb tl tn ts tr) (fun H h => h.2.1) (fun q z => z.elim) (fun H H' h h1 h2 => by exact h.no h2 (fun q z => z.elim)) (st1 := [_]) rfl (k1 := 0) (n1 := 0) rfl rfl ?_
      refine g_astore_n hF dX9_group_8 9 rfl (lo' := [_, _, _, _]) (Nat.le_of_ble_eq_true rfl) rfl ?_
      refine g_aload_n hF dX9_group_9 10 rfl rfl ?_
      refine g_ifnonnull hF dX9_group_10 16 (by decide) ?_
      refine g_iload_n hF dX9_group_16 17 rfl rfl ?_
      refine g_tabIn hF dX9_group_17 (by decide) (by decide) (147) rfl 164 (by decide) ?_
      refine g_aload_n hF dX9_group_164 165 rfl rfl ?_
      refine g_get hF fl_X9_61 dX9_group_165 168 rfl (by intro H h; first | exact h.1 | exact h.2.1.nob | exact h.2.2.1.1 | exact h.2.2.2.2.2.1.1 | exact h.2.2.2.2.2.2.1 | exact h.2.2.2.2.2.2.2.1.1 | exact h.2.2.2.2.2.2.2.2.2.1 | exact Nq.go hg4 h.2.1 | exact Nq.st hg4 h.2.1 | exact Nq.ho hg4 h.2.1 | exact Nq.cf hg4 h.2.1) rfl ?_
      refine g_aload_n hF dX9_group_168 169 rfl rfl ?_
      refine g_get hF fl_X9_10 dX9_group_169 172 rfl (by intro H h; first | exact h.1 | exact h.2.1.nob | exact h.2.2.1.1 | exact h.2.2.2.2.2.1.1 | exact h.2.2.2.2.2.2.1 | exact h.2.2.2.2.2.2.2.1.1 | exact h.2.2.2.2.2.2.2.2.2.1 | exact Nq.go hg4 h.2.1 | exact Nq.st hg4 h.2.1 | exact Nq.ho hg4 h.2.1 | exact Nq.cf hg4 h.2.1) rfl ?_
      refine g_aload_n hF dX9_group_172 173 rfl rfl ?_
      refine g_get hF fl_X9_47 dX9_group_173 176 rfl (by intro H h; first | exact h.1 | exact h.2.1.nob | exact h.2.2.1.1 | exact h.2.2.2.2.2.1.1 | exact h.2.2.2.2.2.2.1 | exact h.2.2.2.2.2.2.2.1.1 | exact h.2.2.2.2.2.2.2.2.2.1 | exact Nq.go hg4 h.2.1 | exact Nq.st hg4 h.2.1 | exact Nq.ho hg4 h.2.1 | exact Nq.cf hg4 h.2.1) rfl ?_
      refine g_callV hF cv_X9_82 (q_settle l E (b + 1) v (b + 520) (b + 517) tl tn ts tr wf wx wy T hv0 hst (by omega) (by omega) (by omega)) dX9_group_176 179 rfl (st := []) rfl rfl ⟨Nat.le_of_ble_eq_true rfl, Nat.le_of_ble_eq_true rfl⟩ ⟨Nat.le_of_ble_eq_true rfl, Nat.le_of_ble_eq_true rfl⟩ rfl (Nat.le_of_ble_eq_true rfl) 7 rfl (fun H h => h.2.2.2.2.2.2.2.2.2.1) (Pr' := fun H => ∃ tl tn ts wf wx wy, ((∀ g, g < 4 → tl g = nI (sB v g)) ∧ (∀ g, g < v.1.toNatClampNeg → ts g = nI (sP v g))) ∧ Sx E b v rv p d iv isd ik bg bl bs nb sd wf wx wy fa fb tl tn ts (nI (sRd v)) H) (fun H h => ⟨h.2.2.2.2.2.2.2.2.2, h.2.1, h.2.2.2.2.2.2.2.1⟩) (fun q hq => hA q (by rcases hq with y | y <;> exact ⟨by have := y.1; omega, by have := y.2; omega⟩)) (fun H H' h h1 h2 => by obtain ⟨tl', tn', ts', wf', x', y', q0, q1, q2, q3⟩ := h1; exact ⟨tl', tn', ts', wf', x', y', q0, h.tw h2 (fun q hq => hq.elim (fun y => Or.inr ⟨by have := y.1; omega, by have := y.2; omega⟩) (fun y => Or.inl ⟨by have := y.1; omega, by have := y.2; omega⟩)) q3 q1⟩) (st1 := []) rfl (k1 := 0) (n1 := 0) rfl rfl ?_
      refine g_ex (fun tl' => ?_)
      refine g_ex (fun tn' => ?_)
      refine g_ex (fun ts' => ?_)
      refine g_ex (fun wf' => ?_)
      refine g_ex (fun wx' => ?_)
      refine g_ex (fun wy' => ?_)
      refine g_pure (fun H h => h.1) (fun hq => ?_)
      refine g_pr (fun H h => h.2) ?_
      refine g_aload_n hF dX9_group_179 180 rfl rfl ?_
      refine g_get hF fl_X9_61 dX9_group_180 183 rfl (by intro H h; first | exact h.1 | exact h.2.1.nob | exact h.2.2.1.1 | exact h.2.2.2.2.2.1.1 | exact h.2.2.2.2.2.2.1 | exact h.2.2.2.2.2.2.2.1.1 | exact h.2.2.2.2.2.2.2.2.2.1 | exact Nq.go hg4 h.2.1 | exact Nq.st hg4 h.2.1 | exact Nq.ho hg4 h.2.1 | exact Nq.cf hg4 h.2.1) rfl ?_
      refine g_iload_n hF dX9_group_183 184 rfl rfl ?_
      refine g_callV hF cv_X9_137 (c_T_loadOver l E (b + 520) g tl' tn' ts' (nI (sRd v)) hg4) dX9_group_184 187 rfl (st := []) rfl rfl ⟨Nat.le_of_ble_eq_true rfl, Nat.le_of_ble_eq_true rfl⟩ ⟨Nat.le_of_ble_eq_true rfl, Nat.le_of_ble_eq_true rfl⟩ rfl (Nat.le_of_ble_eq_true rfl) 7 rfl (by intro H h; first | exact h.1 | exact h.2.1.nob | exact h.2.2.1.1 | exact h.2.2.2.2.2.1.1 | exact h.2.2.2.2.2.2.1 | exact h.2.2.2.2.2.2.2.1.1 | exact h.2.2.2.2.2.2.2.2.2.1 | exact Nq.go hg4 h.2.1 | exact Nq.st hg4 h.2.1 | exact Nq.ho hg4 h.2.1 | exact Nq.cf hg4 h.2.1) (Pr' := Sx E b v rv p d iv isd ik bg bl bs nb sd wf' wx' wy' fa fb tl' tn' ts' (nI (sRd v))) (fun H h => h.2.2.2.2.2.2.2.2.2) (fun q z => z.elim) (fun H H' h h1 h2 => by exact h.no h2 (fun q z => z.elim)) (st1 := [_]) rfl (k1 := 0) (n1 := 0) rfl rfl ?_
      rw [hq.1 g hg4]
      exact g_iret hF dX9_group_187 (Nat.le_of_ble_eq_true rfl) (Nat.le_of_ble_eq_true rfl) (fun H h => hR _ _ ⟨congrArg (fun z => some (Value.int z)) (rfl), Cs.mk hr h⟩)
    · refine g_aload_n hF dX9_group_0 1 rfl rfl ?_
      refine g_get hF fl_X9_10 dX9_group_1 4 rfl (by intro H h; first | exact h.1 | exact h.2.1.nob | exact h.2.2.1.1 | exact h.2.2.2.2.2.1.1 | exact h.2.2.2.2.2.2.1 | exact h.2.2.2.2.2.2.2.1.1 | exact h.2.2.2.2.2.2.2.2.2.1 | exact Nq.go hg4 h.2.1 | exact Nq.st hg4 h.2.1 | exact Nq.ho hg4 h.2.1 | exact Nq.cf hg4 h.2.1) rfl ?_
      refine g_iload_n hF dX9_group_4 5 rfl rfl ?_
      refine g_callV hF cv_X9_96 (q_groupAt l E (b + 1) v G g hG G4 hg) dX9_group_5 8 rfl (st := []) rfl rfl ⟨Nat.le_of_ble_eq_true rfl, Nat.le_of_ble_eq_true rfl⟩ ⟨Nat.le_of_ble_eq_true rfl, Nat.le_of_ble_eq_true rfl⟩ rfl (Nat.le_of_ble_eq_true rfl) 6 rfl (by intro H h; first | exact h.1 | exact h.2.1.nob | exact h.2.2.1.1 | exact h.2.2.2.2.2.1.1 | exact h.2.2.2.2.2.2.1 | exact h.2.2.2.2.2.2.2.1.1 | exact h.2.2.2.2.2.2.2.2.2.1 | exact Nq.go hg4 h.2.1 | exact Nq.st hg4 h.2.1 | exact Nq.ho hg4 h.2.1 | exact Nq.cf hg4 h.2.1) (Pr' := Sx E b v rv p d iv isd ik bg bl bs nb sd wf wx wy fa fb tl tn ts tr) (fun H h => h.2.1) (fun q z => z.elim) (fun H H' h h1 h2 => by exact h.no h2 (fun q z => z.elim)) (st1 := [_]) rfl (k1 := 0) (n1 := 0) rfl rfl ?_
      refine g_astore_n hF dX9_group_8 9 rfl (lo' := [_, _, _, _]) (Nat.le_of_ble_eq_true rfl) rfl ?_
      refine g_aload_n hF dX9_group_9 10 rfl rfl ?_
      refine g_ifnonnull hF dX9_group_10 16 (by decide) ?_
      refine g_iload_n hF dX9_group_16 17 rfl rfl ?_
      refine g_tabIn hF dX9_group_17 (by decide) (by decide) (171) rfl 188 (by decide) ?_
      refine g_aload_n hF dX9_group_188 189 rfl rfl ?_
      refine g_get hF fl_X9_61 dX9_group_189 192 rfl (by intro H h; first | exact h.1 | exact h.2.1.nob | exact h.2.2.1.1 | exact h.2.2.2.2.2.1.1 | exact h.2.2.2.2.2.2.1 | exact h.2.2.2.2.2.2.2.1.1 | exact h.2.2.2.2.2.2.2.2.2.1 | exact Nq.go hg4 h.2.1 | exact Nq.st hg4 h.2.1 | exact Nq.ho hg4 h.2.1 | exact Nq.cf hg4 h.2.1) rfl ?_
      refine g_aload_n hF dX9_group_192 193 rfl rfl ?_
      refine g_get hF fl_X9_10 dX9_group_193 196 rfl (by intro H h; first | exact h.1 | exact h.2.1.nob | exact h.2.2.1.1 | exact h.2.2.2.2.2.1.1 | exact h.2.2.2.2.2.2.1 | exact h.2.2.2.2.2.2.2.1.1 | exact h.2.2.2.2.2.2.2.2.2.1 | exact Nq.go hg4 h.2.1 | exact Nq.st hg4 h.2.1 | exact Nq.ho hg4 h.2.1 | exact Nq.cf hg4 h.2.1) rfl ?_
      refine g_aload_n hF dX9_group_196 197 rfl rfl ?_
      refine g_get hF fl_X9_47 dX9_group_197 200 rfl (by intro H h; first | exact h.1 | exact h.2.1.nob | exact h.2.2.1.1 | exact h.2.2.2.2.2.1.1 | exact h.2.2.2.2.2.2.1 | exact h.2.2.2.2.2.2.2.1.1 | exact h.2.2.2.2.2.2.2.2.2.1 | exact Nq.go hg4 h.2.1 | exact Nq.st hg4 h.2.1 | exact Nq.ho hg4 h.2.1 | exact Nq.cf hg4 h.2.1) rfl ?_
      refine g_callV hF cv_X9_82 (q_settle l E (b + 1) v (b + 520) (b + 517) tl tn ts tr wf wx wy T hv0 hst (by omega) (by omega) (by omega)) dX9_group_200 203 rfl (st := []) rfl rfl ⟨Nat.le_of_ble_eq_true rfl, Nat.le_of_ble_eq_true rfl⟩ ⟨Nat.le_of_ble_eq_true rfl, Nat.le_of_ble_eq_true rfl⟩ rfl (Nat.le_of_ble_eq_true rfl) 7 rfl (fun H h => h.2.2.2.2.2.2.2.2.2.1) (Pr' := fun H => ∃ tl tn ts wf wx wy, ((∀ g, g < 4 → tl g = nI (sB v g)) ∧ (∀ g, g < v.1.toNatClampNeg → ts g = nI (sP v g))) ∧ Sx E b v rv p d iv isd ik bg bl bs nb sd wf wx wy fa fb tl tn ts (nI (sRd v)) H) (fun H h => ⟨h.2.2.2.2.2.2.2.2.2, h.2.1, h.2.2.2.2.2.2.2.1⟩) (fun q hq => hA q (by rcases hq with y | y <;> exact ⟨by have := y.1; omega, by have := y.2; omega⟩)) (fun H H' h h1 h2 => by obtain ⟨tl', tn', ts', wf', x', y', q0, q1, q2, q3⟩ := h1; exact ⟨tl', tn', ts', wf', x', y', q0, h.tw h2 (fun q hq => hq.elim (fun y => Or.inr ⟨by have := y.1; omega, by have := y.2; omega⟩) (fun y => Or.inl ⟨by have := y.1; omega, by have := y.2; omega⟩)) q3 q1⟩) (st1 := []) rfl (k1 := 0) (n1 := 0) rfl rfl ?_
      refine g_ex (fun tl' => ?_)
      refine g_ex (fun tn' => ?_)
      refine g_ex (fun ts' => ?_)
      refine g_ex (fun wf' => ?_)
      refine g_ex (fun wx' => ?_)
      refine g_ex (fun wy' => ?_)
      refine g_pure (fun H h => h.1) (fun hq => ?_)
      refine g_pr (fun H h => h.2) ?_
      refine g_aload_n hF dX9_group_203 204 rfl rfl ?_
      refine g_get hF fl_X9_61 dX9_group_204 207 rfl (by intro H h; first | exact h.1 | exact h.2.1.nob | exact h.2.2.1.1 | exact h.2.2.2.2.2.1.1 | exact h.2.2.2.2.2.2.1 | exact h.2.2.2.2.2.2.2.1.1 | exact h.2.2.2.2.2.2.2.2.2.1 | exact Nq.go hg4 h.2.1 | exact Nq.st hg4 h.2.1 | exact Nq.ho hg4 h.2.1 | exact Nq.cf hg4 h.2.1) rfl ?_
      refine g_iload_n hF dX9_group_207 208 rfl rfl ?_
      refine g_callV hF cv_X9_140 (c_T_lossOf l E (b + 520) g tl' tn' ts' (nI (sRd v)) hg4) dX9_group_208 211 rfl (st := []) rfl rfl ⟨Nat.le_of_ble_eq_true rfl, Nat.le_of_ble_eq_true rfl⟩ ⟨Nat.le_of_ble_eq_true rfl, Nat.le_of_ble_eq_true rfl⟩ rfl (Nat.le_of_ble_eq_true rfl) 7 rfl (by intro H h; first | exact h.1 | exact h.2.1.nob | exact h.2.2.1.1 | exact h.2.2.2.2.2.1.1 | exact h.2.2.2.2.2.2.1 | exact h.2.2.2.2.2.2.2.1.1 | exact h.2.2.2.2.2.2.2.2.2.1 | exact Nq.go hg4 h.2.1 | exact Nq.st hg4 h.2.1 | exact Nq.ho hg4 h.2.1 | exact Nq.cf hg4 h.2.1) (Pr' := Sx E b v rv p d iv isd ik bg bl bs nb sd wf' wx' wy' fa fb tl' tn' ts' (nI (sRd v))) (fun H h => h.2.2.2.2.2.2.2.2.2) (fun q z => z.elim) (fun H H' h h1 h2 => by exact h.no h2 (fun q z => z.elim)) (st1 := [_]) rfl (k1 := 0) (n1 := 0) rfl rfl ?_
      rw [hq.2 g (by rw [hGc]; exact hg)]
      exact g_iret hF dX9_group_211 (Nat.le_of_ble_eq_true rfl) (Nat.le_of_ble_eq_true rfl) (fun H h => hR _ _ ⟨congrArg (fun z => some (Value.int z)) (rfl), Cs.mk hr h⟩)
    · have hne : ∀ k : Int32, (¬ k.toInt < 0 ∧ ¬ (14 : Int) < k.toInt) → ¬ w = k := fun k hk e => by subst e; exact hw.elim hk.1 hk.2
      rw [if_neg (hne 0 (by decide)), if_neg (hne 1 (by decide)), if_neg (hne 2 (by decide)), if_neg (hne 3 (by decide)), if_neg (hne 4 (by decide)), if_neg (hne 5 (by decide)), if_neg (hne 6 (by decide)), if_neg (hne 7 (by decide)), if_neg (hne 8 (by decide)), if_neg (hne 9 (by decide)), if_neg (hne 10 (by decide)), if_neg (hne 11 (by decide)), if_neg (hne 12 (by decide)), if_neg (hne 13 (by decide)), if_neg (hne 14 (by decide))] at hR
      refine g_aload_n hF dX9_group_0 1 rfl rfl ?_
      refine g_get hF fl_X9_10 dX9_group_1 4 rfl (by intro H h; first | exact h.1 | exact h.2.1.nob | exact h.2.2.1.1 | exact h.2.2.2.2.2.1.1 | exact h.2.2.2.2.2.2.1 | exact h.2.2.2.2.2.2.2.1.1 | exact h.2.2.2.2.2.2.2.2.2.1 | exact Nq.go hg4 h.2.1 | exact Nq.st hg4 h.2.1 | exact Nq.ho hg4 h.2.1 | exact Nq.cf hg4 h.2.1) rfl ?_
      refine g_iload_n hF dX9_group_4 5 rfl rfl ?_
      refine g_callV hF cv_X9_96 (q_groupAt l E (b + 1) v G g hG G4 hg) dX9_group_5 8 rfl (st := []) rfl rfl ⟨Nat.le_of_ble_eq_true rfl, Nat.le_of_ble_eq_true rfl⟩ ⟨Nat.le_of_ble_eq_true rfl, Nat.le_of_ble_eq_true rfl⟩ rfl (Nat.le_of_ble_eq_true rfl) 6 rfl (by intro H h; first | exact h.1 | exact h.2.1.nob | exact h.2.2.1.1 | exact h.2.2.2.2.2.1.1 | exact h.2.2.2.2.2.2.1 | exact h.2.2.2.2.2.2.2.1.1 | exact h.2.2.2.2.2.2.2.2.2.1 | exact Nq.go hg4 h.2.1 | exact Nq.st hg4 h.2.1 | exact Nq.ho hg4 h.2.1 | exact Nq.cf hg4 h.2.1) (Pr' := Sx E b v rv p d iv isd ik bg bl bs nb sd wf wx wy fa fb tl tn ts tr) (fun H h => h.2.1) (fun q z => z.elim) (fun H H' h h1 h2 => by exact h.no h2 (fun q z => z.elim)) (st1 := [_]) rfl (k1 := 0) (n1 := 0) rfl rfl ?_
      refine g_astore_n hF dX9_group_8 9 rfl (lo' := [_, _, _, _]) (Nat.le_of_ble_eq_true rfl) rfl ?_
      refine g_aload_n hF dX9_group_9 10 rfl rfl ?_
      refine g_ifnonnull hF dX9_group_10 16 (by decide) ?_
      refine g_iload_n hF dX9_group_16 17 rfl rfl ?_
      refine g_tabOut hF dX9_group_17 (hw) 212 (by decide) ?_
      refine g_ldc hF kc_X9_95 dX9_group_212 214 rfl ?_
      exact g_iret hF dX9_group_214 (Nat.le_of_ble_eq_true rfl) (Nat.le_of_ble_eq_true rfl) (fun H h => hR _ _ ⟨congrArg (fun z => some (Value.int z)) (rfl), Cs.mk hr h⟩)
/-- the line i of the group z: what is asked of it -/
def aLine (v : NV) (z i w : Int32) : Int32 := if (z < 0 ∨ v.1 ≤ z) ∨ (i < 0 ∨ v.2.2.2 z.toNatClampNeg 0 ≤ i) then -1000000001 else (fun (gv : Nat → Int32) (t : Nat) => if w = 0 then gv (10 + 4 * t) else if w = 1 then gv (11 + 4 * t) else if w = 2 then gv (12 + 4 * t) else -1000000002) (v.2.2.2 z.toNatClampNeg) i.toNatClampNeg
/-- whether there is such a line -/
theorem line_cases {T : Nat} {v : NV} (hv : okV T v) (z i : Int32) : (((z < 0 ∨ v.1 ≤ z) ∨ (i < 0 ∨ v.2.2.2 z.toNatClampNeg 0 ≤ i)) ∧ ∃ G, v.1 = nI G ∧ G ≤ 4 ∧ ((z < 0 ∨ v.1 ≤ z) ∨ ∃ g, g < G ∧ z = nI g ∧ (i < 0 ∨ v.2.2.2 g 0 ≤ i))) ∨ ∃ G g N t, v.1 = nI G ∧ G ≤ 4 ∧ g < G ∧ z = nI g ∧ v.2.2.2 g 0 = nI N ∧ N ≤ 6 ∧ t < N ∧ i = nI t ∧ ¬ ((z < 0 ∨ v.1 ≤ z) ∨ (i < 0 ∨ v.2.2.2 z.toNatClampNeg 0 ≤ i)) := by
  obtain ⟨G, hG, G1, G4, hGc, ho, hn⟩ := okN hv
  rcases pk_ix z (n := G) (by omega) with hz | hz | ⟨g, hg, rfl⟩
  · exact Or.inl ⟨Or.inl (Or.inl hz), G, hG, G4, Or.inl (Or.inl hz)⟩
  · exact Or.inl ⟨Or.inl (Or.inr (hG ▸ hz)), G, hG, G4, Or.inl (Or.inr (hG ▸ hz))⟩
  · obtain ⟨N, n6, n0⟩ := hn g (by omega)
    rw [nI_clamp (by omega)]
    rcases pk_ix i (n := N) (by omega) with hi | hi | ⟨t, ht, rfl⟩
    · exact Or.inl ⟨Or.inr (Or.inl hi), G, hG, G4, Or.inr ⟨g, hg, rfl, Or.inl hi⟩⟩
    · exact Or.inl ⟨Or.inr (Or.inr (n0 ▸ hi)), G, hG, G4, Or.inr ⟨g, hg, rfl, Or.inr (n0 ▸ hi)⟩⟩
    · refine Or.inr ⟨G, g, N, t, hG, G4, hg, rfl, n0, n6, ht, rfl, ?_⟩
      rintro ((q | q) | (q | q))
      · exact nI_pos (by omega) q
      · exact absurd (i_le (hG ▸ q) (by omega) (by omega)) (by omega)
      · exact nI_pos (by omega) q
      · exact absurd (i_le (n0 ▸ q) (by omega) (by omega)) (by omega)
set_option maxRecDepth 100000 in
set_option maxHeartbeats 16000000 in
theorem c_C_line (l : Launch) (E : Ev) (b : Nat) (v : NV) (hv : Nat → NV) (d : Nat) (iv : Nat → NV) (isd : Nat → Nat) (ik bg bl bs : Nat → Int32) (nb sd T : Nat) (hv0 : okV T v) (z i w : Int32) : Ct l E yX9_line cX9_line 5 (some .int) (rm 6) [.ref b, .int z, .int i, .int w] (Cs E b v hv d iv isd ik bg bl bs nb sd) (rV (some (.int (aLine v z i w))) (Cs E b v hv d iv isd ik bg bl bs nb sd)) (rg b 524) := by
  refine ct_start (by decide) [some (.ref b), some (.int z), some (.int i), some (.int w), none] rfl (Nat.le_of_ble_eq_true rfl) ?_
  intro x hF hN hA hR
  refine g_open (fun rv p wf wx wy fa fb tl tn ts tr hr => ?_)
  rcases line_cases hv0 z i with ⟨h1, G, hG, G4, h2⟩ | ⟨G, g, N, t, hG, G4, hg, rfl, n0, n6, ht, rfl, hno⟩
  · refine g_aload_n hF dX9_line_0 1 rfl rfl ?_
    refine g_get hF fl_X9_10 dX9_line_1 4 rfl (by intro H h; first | exact h.1 | exact h.2.1.nob | exact h.2.2.1.1 | exact h.2.2.2.2.2.1.1 | exact h.2.2.2.2.2.2.1 | exact h.2.2.2.2.2.2.2.1.1 | exact h.2.2.2.2.2.2.2.2.2.1 | exact Nq.go hg4 h.2.1 | exact Nq.st hg4 h.2.1 | exact Nq.ho hg4 h.2.1 | exact Nq.cf hg4 h.2.1) rfl ?_
    refine g_iload_n hF dX9_line_4 5 rfl rfl ?_
    refine g_iload_n hF dX9_line_5 6 rfl rfl ?_
    refine g_callV hF cv_X9_143 (q_gwlN l E (b + 1) v G z i hG G4 h2) dX9_line_6 9 rfl (st := []) rfl rfl ⟨Nat.le_of_ble_eq_true rfl, Nat.le_of_ble_eq_true rfl⟩ ⟨Nat.le_of_ble_eq_true rfl, Nat.le_of_ble_eq_true rfl⟩ rfl (Nat.le_of_ble_eq_true rfl) 6 rfl (by intro H h; first | exact h.1 | exact h.2.1.nob | exact h.2.2.1.1 | exact h.2.2.2.2.2.1.1 | exact h.2.2.2.2.2.2.1 | exact h.2.2.2.2.2.2.2.1.1 | exact h.2.2.2.2.2.2.2.2.2.1 | exact Nq.go hg4 h.2.1 | exact Nq.st hg4 h.2.1 | exact Nq.ho hg4 h.2.1 | exact Nq.cf hg4 h.2.1) (Pr' := Sx E b v rv p d iv isd ik bg bl bs nb sd wf wx wy fa fb tl tn ts tr) (fun H h => h.2.1) (fun q z => z.elim) (fun H H' h h1 h2 => by exact h.no h2 (fun q z => z.elim)) (st1 := [_]) rfl (k1 := 0) (n1 := 0) rfl rfl ?_
    refine g_astoreN hF dX9_line_9 11 rfl (lo' := [_, _, _, _, _]) (Nat.le_of_ble_eq_true rfl) rfl ?_
    refine g_aloadN hF dX9_line_11 13 rfl rfl ?_
    refine g_ifnonnullN hF dX9_line_13 16 rfl ?_
    refine g_ldc hF kc_X9_100 dX9_line_16 18 rfl ?_
    exact g_iret hF dX9_line_18 (Nat.le_of_ble_eq_true rfl) (Nat.le_of_ble_eq_true rfl) (fun H h => hR _ _ ⟨congrArg (fun z => some (Value.int z)) ((if_pos h1).symm), Cs.mk hr h⟩)
  · have hg4 : g < 4 := by omega
    have hct : (nI t).toNatClampNeg = t := nI_clamp (by omega)
    have ev : aLine v (nI g) (nI t) w = if w = 0 then v.2.2.2 g (10 + 4 * t) else if w = 1 then v.2.2.2 g (11 + 4 * t) else if w = 2 then v.2.2.2 g (12 + 4 * t) else -1000000002 := by unfold aLine; rw [if_neg hno, hct, nI_clamp (by omega)]
    rw [ev] at hR
    rcases sw2 w with rfl | rfl | rfl | hw
    · refine g_aload_n hF dX9_line_0 1 rfl rfl ?_
      refine g_get hF fl_X9_10 dX9_line_1 4 rfl (by intro H h; first | exact h.1 | exact h.2.1.nob | exact h.2.2.1.1 | exact h.2.2.2.2.2.1.1 | exact h.2.2.2.2.2.2.1 | exact h.2.2.2.2.2.2.2.1.1 | exact h.2.2.2.2.2.2.2.2.2.1 | exact Nq.go hg4 h.2.1 | exact Nq.st hg4 h.2.1 | exact Nq.ho hg4 h.2.1 | exact Nq.cf hg4 h.2.1) rfl ?_
      refine g_iload_n hF dX9_line_4 5 rfl rfl ?_
      refine g_iload_n hF dX9_line_5 6 rfl rfl ?_
      refine g_callV hF cv_X9_143 (q_gwl l E (b + 1) v G g N t hG G4 hg n0 n6 ht) dX9_line_6 9 rfl (st := []) rfl rfl ⟨Nat.le_of_ble_eq_true rfl, Nat.le_of_ble_eq_true rfl⟩ ⟨Nat.le_of_ble_eq_true rfl, Nat.le_of_ble_eq_true rfl⟩ rfl (Nat.le_of_ble_eq_true rfl) 6 rfl (by intro H h; first | exact h.1 | exact h.2.1.nob | exact h.2.2.1.1 | exact h.2.2.2.2.2.1.1 | exact h.2.2.2.2.2.2.1 | exact h.2.2.2.2.2.2.2.1.1 | exact h.2.2.2.2.2.2.2.2.2.1 | exact Nq.go hg4 h.2.1 | exact Nq.st hg4 h.2.1 | exact Nq.ho hg4 h.2.1 | exact Nq.cf hg4 h.2.1) (Pr' := Sx E b v rv p d iv isd ik bg bl bs nb sd wf wx wy fa fb tl tn ts tr) (fun H h => h.2.1) (fun q z => z.elim) (fun H H' h h1 h2 => by exact h.no h2 (fun q z => z.elim)) (st1 := [_]) rfl (k1 := 0) (n1 := 0) rfl rfl ?_
      refine g_astore hF dX9_line_9 11 rfl (lo' := [_, _, _, _, _]) (Nat.le_of_ble_eq_true rfl) rfl ?_
      refine g_aload hF dX9_line_11 13 rfl rfl ?_
      refine g_ifnonnull hF dX9_line_13 19 (by decide) ?_
      refine g_iload_n hF dX9_line_19 20 rfl rfl ?_
      refine g_tabIn hF dX9_line_20 (by decide) (by decide) (28) rfl 48 (by decide) ?_
      refine g_aload hF dX9_line_48 50 rfl rfl ?_
      refine g_get hF fl_X9_147 dX9_line_50 53 rfl (by intro H h; first | exact h.1 | exact h.2.1.nob | exact h.2.2.1.1 | exact h.2.2.2.2.2.1.1 | exact h.2.2.2.2.2.2.1 | exact h.2.2.2.2.2.2.2.1.1 | exact h.2.2.2.2.2.2.2.2.2.1 | exact Nq.go hg4 h.2.1 | exact Nq.st hg4 h.2.1 | exact Nq.ho hg4 h.2.1 | exact Nq.cf hg4 h.2.1) rfl ?_
      refine g_iload_n hF dX9_line_53 54 rfl rfl ?_
      refine g_iald hF dX9_line_54 55 rfl (by intro H h; first | exact h.1 | exact h.2.1.nob | exact h.2.2.1.1 | exact h.2.2.2.2.2.1.1 | exact h.2.2.2.2.2.2.1 | exact h.2.2.2.2.2.2.2.1.1 | exact h.2.2.2.2.2.2.2.2.2.1 | exact Nq.go hg4 h.2.1 | exact Nq.st hg4 h.2.1 | exact Nq.ho hg4 h.2.1 | exact Nq.cf hg4 h.2.1) (vp_in_nI (show t < 6 by omega) (by omega)) ?_
      rw [hct]
      exact g_iret hF dX9_line_55 (Nat.le_of_ble_eq_true rfl) (Nat.le_of_ble_eq_true rfl) (fun H h => hR _ _ ⟨congrArg (fun z => some (Value.int z)) (rfl), Cs.mk hr h⟩)
    · refine g_aload_n hF dX9_line_0 1 rfl rfl ?_
      refine g_get hF fl_X9_10 dX9_line_1 4 rfl (by intro H h; first | exact h.1 | exact h.2.1.nob | exact h.2.2.1.1 | exact h.2.2.2.2.2.1.1 | exact h.2.2.2.2.2.2.1 | exact h.2.2.2.2.2.2.2.1.1 | exact h.2.2.2.2.2.2.2.2.2.1 | exact Nq.go hg4 h.2.1 | exact Nq.st hg4 h.2.1 | exact Nq.ho hg4 h.2.1 | exact Nq.cf hg4 h.2.1) rfl ?_
      refine g_iload_n hF dX9_line_4 5 rfl rfl ?_
      refine g_iload_n hF dX9_line_5 6 rfl rfl ?_
      refine g_callV hF cv_X9_143 (q_gwl l E (b + 1) v G g N t hG G4 hg n0 n6 ht) dX9_line_6 9 rfl (st := []) rfl rfl ⟨Nat.le_of_ble_eq_true rfl, Nat.le_of_ble_eq_true rfl⟩ ⟨Nat.le_of_ble_eq_true rfl, Nat.le_of_ble_eq_true rfl⟩ rfl (Nat.le_of_ble_eq_true rfl) 6 rfl (by intro H h; first | exact h.1 | exact h.2.1.nob | exact h.2.2.1.1 | exact h.2.2.2.2.2.1.1 | exact h.2.2.2.2.2.2.1 | exact h.2.2.2.2.2.2.2.1.1 | exact h.2.2.2.2.2.2.2.2.2.1 | exact Nq.go hg4 h.2.1 | exact Nq.st hg4 h.2.1 | exact Nq.ho hg4 h.2.1 | exact Nq.cf hg4 h.2.1) (Pr' := Sx E b v rv p d iv isd ik bg bl bs nb sd wf wx wy fa fb tl tn ts tr) (fun H h => h.2.1) (fun q z => z.elim) (fun H H' h h1 h2 => by exact h.no h2 (fun q z => z.elim)) (st1 := [_]) rfl (k1 := 0) (n1 := 0) rfl rfl ?_
      refine g_astore hF dX9_line_9 11 rfl (lo' := [_, _, _, _, _]) (Nat.le_of_ble_eq_true rfl) rfl ?_
      refine g_aload hF dX9_line_11 13 rfl rfl ?_
      refine g_ifnonnull hF dX9_line_13 19 (by decide) ?_
      refine g_iload_n hF dX9_line_19 20 rfl rfl ?_
      refine g_tabIn hF dX9_line_20 (by decide) (by decide) (36) rfl 56 (by decide) ?_
      refine g_aload hF dX9_line_56 58 rfl rfl ?_
      refine g_get hF fl_X9_151 dX9_line_58 61 rfl (by intro H h; first | exact h.1 | exact h.2.1.nob | exact h.2.2.1.1 | exact h.2.2.2.2.2.1.1 | exact h.2.2.2.2.2.2.1 | exact h.2.2.2.2.2.2.2.1.1 | exact h.2.2.2.2.2.2.2.2.2.1 | exact Nq.go hg4 h.2.1 | exact Nq.st hg4 h.2.1 | exact Nq.ho hg4 h.2.1 | exact Nq.cf hg4 h.2.1) rfl ?_
      refine g_iload_n hF dX9_line_61 62 rfl rfl ?_
      refine g_iald hF dX9_line_62 63 rfl (by intro H h; first | exact h.1 | exact h.2.1.nob | exact h.2.2.1.1 | exact h.2.2.2.2.2.1.1 | exact h.2.2.2.2.2.2.1 | exact h.2.2.2.2.2.2.2.1.1 | exact h.2.2.2.2.2.2.2.2.2.1 | exact Nq.go hg4 h.2.1 | exact Nq.st hg4 h.2.1 | exact Nq.ho hg4 h.2.1 | exact Nq.cf hg4 h.2.1) (vp_in_nI (show t < 6 by omega) (by omega)) ?_
      rw [hct]
      exact g_iret hF dX9_line_63 (Nat.le_of_ble_eq_true rfl) (Nat.le_of_ble_eq_true rfl) (fun H h => hR _ _ ⟨congrArg (fun z => some (Value.int z)) (rfl), Cs.mk hr h⟩)
    · refine g_aload_n hF dX9_line_0 1 rfl rfl ?_
      refine g_get hF fl_X9_10 dX9_line_1 4 rfl (by intro H h; first | exact h.1 | exact h.2.1.nob | exact h.2.2.1.1 | exact h.2.2.2.2.2.1.1 | exact h.2.2.2.2.2.2.1 | exact h.2.2.2.2.2.2.2.1.1 | exact h.2.2.2.2.2.2.2.2.2.1 | exact Nq.go hg4 h.2.1 | exact Nq.st hg4 h.2.1 | exact Nq.ho hg4 h.2.1 | exact Nq.cf hg4 h.2.1) rfl ?_
      refine g_iload_n hF dX9_line_4 5 rfl rfl ?_
      refine g_iload_n hF dX9_line_5 6 rfl rfl ?_
      refine g_callV hF cv_X9_143 (q_gwl l E (b + 1) v G g N t hG G4 hg n0 n6 ht) dX9_line_6 9 rfl (st := []) rfl rfl ⟨Nat.le_of_ble_eq_true rfl, Nat.le_of_ble_eq_true rfl⟩ ⟨Nat.le_of_ble_eq_true rfl, Nat.le_of_ble_eq_true rfl⟩ rfl (Nat.le_of_ble_eq_true rfl) 6 rfl (by intro H h; first | exact h.1 | exact h.2.1.nob | exact h.2.2.1.1 | exact h.2.2.2.2.2.1.1 | exact h.2.2.2.2.2.2.1 | exact h.2.2.2.2.2.2.2.1.1 | exact h.2.2.2.2.2.2.2.2.2.1 | exact Nq.go hg4 h.2.1 | exact Nq.st hg4 h.2.1 | exact Nq.ho hg4 h.2.1 | exact Nq.cf hg4 h.2.1) (Pr' := Sx E b v rv p d iv isd ik bg bl bs nb sd wf wx wy fa fb tl tn ts tr) (fun H h => h.2.1) (fun q z => z.elim) (fun H H' h h1 h2 => by exact h.no h2 (fun q z => z.elim)) (st1 := [_]) rfl (k1 := 0) (n1 := 0) rfl rfl ?_
      refine g_astore hF dX9_line_9 11 rfl (lo' := [_, _, _, _, _]) (Nat.le_of_ble_eq_true rfl) rfl ?_
      refine g_aload hF dX9_line_11 13 rfl rfl ?_
      refine g_ifnonnull hF dX9_line_13 19 (by decide) ?_
      refine g_iload_n hF dX9_line_19 20 rfl rfl ?_
      refine g_tabIn hF dX9_line_20 (by decide) (by decide) (44) rfl 64 (by decide) ?_
      refine g_aload hF dX9_line_64 66 rfl rfl ?_
      refine g_get hF fl_X9_154 dX9_line_66 69 rfl (by intro H h; first | exact h.1 | exact h.2.1.nob | exact h.2.2.1.1 | exact h.2.2.2.2.2.1.1 | exact h.2.2.2.2.2.2.1 | exact h.2.2.2.2.2.2.2.1.1 | exact h.2.2.2.2.2.2.2.2.2.1 | exact Nq.go hg4 h.2.1 | exact Nq.st hg4 h.2.1 | exact Nq.ho hg4 h.2.1 | exact Nq.cf hg4 h.2.1) rfl ?_
      refine g_iload_n hF dX9_line_69 70 rfl rfl ?_
      refine g_iald hF dX9_line_70 71 rfl (by intro H h; first | exact h.1 | exact h.2.1.nob | exact h.2.2.1.1 | exact h.2.2.2.2.2.1.1 | exact h.2.2.2.2.2.2.1 | exact h.2.2.2.2.2.2.2.1.1 | exact h.2.2.2.2.2.2.2.2.2.1 | exact Nq.go hg4 h.2.1 | exact Nq.st hg4 h.2.1 | exact Nq.ho hg4 h.2.1 | exact Nq.cf hg4 h.2.1) (vp_in_nI (show t < 6 by omega) (by omega)) ?_
      rw [hct]
      exact g_iret hF dX9_line_71 (Nat.le_of_ble_eq_true rfl) (Nat.le_of_ble_eq_true rfl) (fun H h => hR _ _ ⟨congrArg (fun z => some (Value.int z)) (rfl), Cs.mk hr h⟩)
    · have hne : ∀ k : Int32, (¬ k.toInt < 0 ∧ ¬ (2 : Int) < k.toInt) → ¬ w = k := fun k hk e => by subst e; exact hw.elim hk.1 hk.2
      rw [if_neg (hne 0 (by decide)), if_neg (hne 1 (by decide)), if_neg (hne 2 (by decide))] at hR
      refine g_aload_n hF dX9_line_0 1 rfl rfl ?_
      refine g_get hF fl_X9_10 dX9_line_1 4 rfl (by intro H h; first | exact h.1 | exact h.2.1.nob | exact h.2.2.1.1 | exact h.2.2.2.2.2.1.1 | exact h.2.2.2.2.2.2.1 | exact h.2.2.2.2.2.2.2.1.1 | exact h.2.2.2.2.2.2.2.2.2.1 | exact Nq.go hg4 h.2.1 | exact Nq.st hg4 h.2.1 | exact Nq.ho hg4 h.2.1 | exact Nq.cf hg4 h.2.1) rfl ?_
      refine g_iload_n hF dX9_line_4 5 rfl rfl ?_
      refine g_iload_n hF dX9_line_5 6 rfl rfl ?_
      refine g_callV hF cv_X9_143 (q_gwl l E (b + 1) v G g N t hG G4 hg n0 n6 ht) dX9_line_6 9 rfl (st := []) rfl rfl ⟨Nat.le_of_ble_eq_true rfl, Nat.le_of_ble_eq_true rfl⟩ ⟨Nat.le_of_ble_eq_true rfl, Nat.le_of_ble_eq_true rfl⟩ rfl (Nat.le_of_ble_eq_true rfl) 6 rfl (by intro H h; first | exact h.1 | exact h.2.1.nob | exact h.2.2.1.1 | exact h.2.2.2.2.2.1.1 | exact h.2.2.2.2.2.2.1 | exact h.2.2.2.2.2.2.2.1.1 | exact h.2.2.2.2.2.2.2.2.2.1 | exact Nq.go hg4 h.2.1 | exact Nq.st hg4 h.2.1 | exact Nq.ho hg4 h.2.1 | exact Nq.cf hg4 h.2.1) (Pr' := Sx E b v rv p d iv isd ik bg bl bs nb sd wf wx wy fa fb tl tn ts tr) (fun H h => h.2.1) (fun q z => z.elim) (fun H H' h h1 h2 => by exact h.no h2 (fun q z => z.elim)) (st1 := [_]) rfl (k1 := 0) (n1 := 0) rfl rfl ?_
      refine g_astore hF dX9_line_9 11 rfl (lo' := [_, _, _, _, _]) (Nat.le_of_ble_eq_true rfl) rfl ?_
      refine g_aload hF dX9_line_11 13 rfl rfl ?_
      refine g_ifnonnull hF dX9_line_13 19 (by decide) ?_
      refine g_iload_n hF dX9_line_19 20 rfl rfl ?_
      refine g_tabOut hF dX9_line_20 (hw) 72 (by decide) ?_
      refine g_ldc hF kc_X9_95 dX9_line_72 74 rfl ?_
      exact g_iret hF dX9_line_74 (Nat.le_of_ble_eq_true rfl) (Nat.le_of_ble_eq_true rfl) (fun H h => hR _ _ ⟨congrArg (fun z => some (Value.int z)) (rfl), Cs.mk hr h⟩)
