/-! The law: its loop -/
theorem k_told (l : Launch) (E : Ev) (b T : Nat) (σ : AS) (hs : okS T σ) (z : Int32) : Ct l E yX9_told cX9_told 2 (some .int) (rm 6) [.ref b, .int z] (CS E b σ) (rV (some (.int (qTold σ z))) (CS E b σ)) (rg b 524) := by
  obtain ⟨v, hv, d, iv, isd, ik, bg, bl, bs, nb, sd⟩ := σ
  exact c_C_told l E b v hv d iv isd ik bg bl bs nb sd T hs.1 (still_of hs.1) hs.2.2.2.2.2.1 z
theorem k_group (l : Launch) (E : Ev) (b T : Nat) (σ : AS) (hs : okS T σ) (z w : Int32) : Ct l E yX9_group cX9_group 4 (some .int) (rm 6) [.ref b, .int z, .int w] (CS E b σ) (rV (some (.int (qGroup σ z w))) (CS E b σ)) (rg b 524) := by
  obtain ⟨v, hv, d, iv, isd, ik, bg, bl, bs, nb, sd⟩ := σ
  exact c_C_group l E b v hv d iv isd ik bg bl bs nb sd T hs.1 (still_of hs.1) z w
theorem k_line (l : Launch) (E : Ev) (b T : Nat) (σ : AS) (hs : okS T σ) (z i w : Int32) : Ct l E yX9_line cX9_line 5 (some .int) (rm 6) [.ref b, .int z, .int i, .int w] (CS E b σ) (rV (some (.int (qLine σ z i w))) (CS E b σ)) (rg b 524) := by
  obtain ⟨v, hv, d, iv, isd, ik, bg, bl, bs, nb, sd⟩ := σ
  exact c_C_line l E b v hv d iv isd ik bg bl bs nb sd T hs.1 z i w
set_option maxRecDepth 100000 in
set_option maxHeartbeats 8000000 in
theorem law_loop {l : Launch} {E : Ev} {x : Cx} {z b L : Nat} {xs : Nat → Int32} (hF : fx E x RL cL_law (some .boolean) 4) (hX : va_X b L xs x.2.2.1 x.2.2.1.heap) (hbl : b < x.2.2.1.heap.size) (hbA : ¬ arx x b) (hA : ∀ q, z ≤ q → arx x q) (hL : L ≤ 3584) (hR : ∀ v H, rV (some (.int 1)) (fun _ => True) v H → rtx x v H) : ∀ (n j T : Nat) (i : Int32) (σ : AS), L - 7 * j < n → 7 * j ≤ L → i = nI (7 * j) → T ≤ 20 * j → okS T σ → go l room_1 E x 535 7107 (fun H => CS E z σ H ∧ MS E (z + 524) σ H) [some (.ref b), some (.ref z), some (.ref (z + 524)), some (.int i)] 18 [] := by
  intro n
  induction n with
  | zero => intro j T i σ h; omega
  | succ n ih =>
    intro j T i σ hn hj hi hT hs
    have next : ∀ (σ' : AS) (T' : Nat), T' ≤ 20 * (j + 1) → okS T' σ' → 7 * j + 7 ≤ L → go l room_1 E x 535 7107 (fun H => CS E z σ' H ∧ MS E (z + 524) σ' H) [some (.ref b), some (.ref z), some (.ref (z + 524)), some (.int i)] 782 [] := by
      intro σ' T' h1 h2 h3
      refine g_iinc hF dL_law_782 785 rfl (7) rfl (lo' := [_, _, _, _]) rfl rfl ?_
      refine g_goto hF dL_law_785 18 (by decide) ?_
      exact ih (j + 1) T' _ σ' (by omega) (by omega) (by rw [hi, show 7 * (j + 1) = 7 * j + 7 by omega]; exact nI_add (7 * j) 7) h1 h2
    by_cases hend : L < 7 * j + 7
    · refine g_iload_n hF dL_law_18 19 rfl rfl ?_
      refine g_aload_n hF dL_law_19 20 rfl rfl ?_
      refine g_slen hF hX hbl hbA dL_law_20 21 rfl ?_
      refine g_bipush hF (7) dL_law_21 23 rfl rfl ?_
      refine g_isub hF dL_law_23 24 rfl ?_
      refine g_icmp_gt hF dL_law_24 27 rfl 788 (by decide) (fun _ => ?_) (fun c => absurd ((by rw [hi]; exact (scr_end hL hj).mpr hend)) c)
      refine g_iconst hF (1) dL_law_788 789 rfl rfl ?_
      exact g_zret hF (rfl) dL_law_789 (Nat.le_of_ble_eq_true rfl) (Nat.le_of_ble_eq_true rfl) (fun H h => hR _ _ ⟨congrArg (fun z => some (Value.int z)) (rfl), trivial⟩)
    · have hq : 7 * j + 7 ≤ L := by omega
      have hv : ∀ k, k < 7 → vp_in (i + nI k) L := fun k hk => scr_in hi hk hq hL
      have sw : ∀ w : Int32, go l room_1 E x 535 7107 (fun H => CS E z σ H ∧ MS E (z + 524) σ H) [some (.ref b), some (.ref z), some (.ref (z + 524)), some (.int i)] 33 [.int w] := by
        intro w
        rcases pk_ix w (n := 20) (by omega) with h | h | ⟨v, hv20, rfl⟩
        · exact g_tabOut hF dL_law_33 (sw_out (Or.inl h)) 782 (by decide) (next σ T (by omega) hs hq)
        · exact g_tabOut hF dL_law_33 (sw_out (Or.inr h)) 782 (by decide) (next σ T (by omega) hs hq)
        · rcases (show v = 0 ∨ v = 1 ∨ v = 2 ∨ v = 3 ∨ v = 4 ∨ v = 5 ∨ v = 6 ∨ v = 7 ∨ v = 8 ∨ v = 9 ∨ v = 10 ∨ v = 11 ∨ v = 12 ∨ v = 13 ∨ v = 14 ∨ v = 15 ∨ v = 16 ∨ v = 17 ∨ v = 18 ∨ v = 19 by omega) with rfl | rfl | rfl | rfl | rfl | rfl | rfl | rfl | rfl | rfl | rfl | rfl | rfl | rfl | rfl | rfl | rfl | rfl | rfl | rfl
          · refine g_tabIn hF dL_law_33 (by decide) (by decide) (95) rfl 128 (by decide) ?_
            exact lc_told hF hX hbl hbA hA hv (k_told l E z T σ hs (xs (i + nI 1).toNatClampNeg)) (c_E_told l E (z + 524) T σ hs.1 (xs (i + nI 1).toNatClampNeg)) (next σ T (by omega) hs hq)
          · refine g_tabIn hF dL_law_33 (by decide) (by decide) (118) rfl 151 (by decide) ?_
            exact lc_group hF hX hbl hbA hA hv (k_group l E z T σ hs (xs (i + nI 1).toNatClampNeg) (xs (i + nI 2).toNatClampNeg)) (c_E_group l E (z + 524) T σ hs.1 (xs (i + nI 1).toNatClampNeg) (xs (i + nI 2).toNatClampNeg)) (next σ T (by omega) hs hq)
          · refine g_tabIn hF dL_law_33 (by decide) (by decide) (151) rfl 184 (by decide) ?_
            exact lc_line hF hX hbl hbA hA hv (k_line l E z T σ hs (xs (i + nI 1).toNatClampNeg) (xs (i + nI 2).toNatClampNeg) (xs (i + nI 3).toNatClampNeg)) (c_E_line l E (z + 524) T σ hs.1 (xs (i + nI 1).toNatClampNeg) (xs (i + nI 2).toNatClampNeg) (xs (i + nI 3).toNatClampNeg)) (next σ T (by omega) hs hq)
          · refine g_tabIn hF dL_law_33 (by decide) (by decide) (194) rfl 227 (by decide) ?_
            exact lc_build hF hX hbl hbA hA hv (c_C_build l E z T σ hs.1 (xs (i + nI 1).toNatClampNeg)) (c_E_build l E (z + 524) T σ hs.1 (xs (i + nI 1).toNatClampNeg)) (next _ T (by omega) (okS.build hs (xs (i + nI 1).toNatClampNeg)) hq)
          · refine g_tabIn hF dL_law_33 (by decide) (by decide) (217) rfl 250 (by decide) ?_
            exact lc_shape hF hX hbl hbA hA hv (c_C_shape l E z T σ hs.1 (xs (i + nI 1).toNatClampNeg) (xs (i + nI 2).toNatClampNeg) (xs (i + nI 3).toNatClampNeg) (xs (i + nI 4).toNatClampNeg) (xs (i + nI 5).toNatClampNeg) (xs (i + nI 6).toNatClampNeg)) (c_E_shape l E (z + 524) T σ hs.1 (xs (i + nI 1).toNatClampNeg) (xs (i + nI 2).toNatClampNeg) (xs (i + nI 3).toNatClampNeg) (xs (i + nI 4).toNatClampNeg) (xs (i + nI 5).toNatClampNeg) (xs (i + nI 6).toNatClampNeg)) (next _ T (by omega) (okS.shape hs (xs (i + nI 1).toNatClampNeg) (xs (i + nI 2).toNatClampNeg) (xs (i + nI 3).toNatClampNeg) (xs (i + nI 4).toNatClampNeg) (xs (i + nI 5).toNatClampNeg) (xs (i + nI 6).toNatClampNeg)) hq)
          · refine g_tabIn hF dL_law_33 (by decide) (by decide) (292) rfl 325 (by decide) ?_
            exact lc_call hF hX hbl hbA hA hv (c_C_call l E z T σ hs.1 (xs (i + nI 1).toNatClampNeg)) (c_E_call l E (z + 524) T σ hs.1 (xs (i + nI 1).toNatClampNeg)) (next _ (T + 1) (by omega) (okS.call hs (by omega) (xs (i + nI 1).toNatClampNeg)) hq)
          · refine g_tabIn hF dL_law_33 (by decide) (by decide) (315) rfl 348 (by decide) ?_
            exact lc_end hF hX hbl hbA hA hv (c_C_end l E z T σ hs.1 (xs (i + nI 1).toNatClampNeg) (xs (i + nI 2).toNatClampNeg)) (c_E_end l E (z + 524) T σ hs.1 (xs (i + nI 1).toNatClampNeg) (xs (i + nI 2).toNatClampNeg)) (next _ (T + 1) (by omega) (okS.fin hs (by omega) (xs (i + nI 1).toNatClampNeg) (xs (i + nI 2).toNatClampNeg)) hq)
          · refine g_tabIn hF dL_law_33 (by decide) (by decide) (348) rfl 381 (by decide) ?_
            exact lc_damage hF hX hbl hbA hA hv (c_C_damage l E z T σ hs.1 (xs (i + nI 1).toNatClampNeg) (xs (i + nI 2).toNatClampNeg)) (c_E_damage l E (z + 524) T σ hs.1 (xs (i + nI 1).toNatClampNeg) (xs (i + nI 2).toNatClampNeg)) (next _ (T + 1) (by omega) (okS.damage hs (by omega) (xs (i + nI 1).toNatClampNeg) (xs (i + nI 2).toNatClampNeg)) hq)
          · refine g_tabIn hF dL_law_33 (by decide) (by decide) (381) rfl 414 (by decide) ?_
            exact lc_mend hF hX hbl hbA hA hv (c_C_mend l E z T σ hs.1 (xs (i + nI 1).toNatClampNeg) (xs (i + nI 2).toNatClampNeg)) (c_E_mend l E (z + 524) T σ hs.1 (xs (i + nI 1).toNatClampNeg) (xs (i + nI 2).toNatClampNeg)) (next _ (T + 1) (by omega) (okS.mend hs (by omega) (xs (i + nI 1).toNatClampNeg) (xs (i + nI 2).toNatClampNeg)) hq)
          · refine g_tabIn hF dL_law_33 (by decide) (by decide) (414) rfl 447 (by decide) ?_
            exact lc_drift hF hX hbl hbA hA hv (c_C_drift l E z T σ (by omega) hs.1 hs.2.2.2.2.2.2 (xs (i + nI 1).toNatClampNeg)) (c_E_drift l E (z + 524) T σ (by omega) hs.1 hs.2.2.2.2.2.2 (xs (i + nI 1).toNatClampNeg)) (next _ (T + 20) (by omega) (okS.drift hs (by omega) (xs (i + nI 1).toNatClampNeg)) hq)
          · refine g_tabIn hF dL_law_33 (by decide) (by decide) (437) rfl 470 (by decide) ?_
            exact lc_undo hF hX hbl hbA hA hv (c_C_undo l E z T σ hs.1 (xs (i + nI 1).toNatClampNeg)) (c_E_undo l E (z + 524) T σ (xs (i + nI 1).toNatClampNeg)) (next _ T (by omega) (okS.undo hs (xs (i + nI 1).toNatClampNeg)) hq)
          · refine g_tabIn hF dL_law_33 (by decide) (by decide) (460) rfl 493 (by decide) ?_
            exact lc_run hF hX hbl hbA hA hv (c_C_run l E z T σ hs.1 (xs (i + nI 1).toNatClampNeg) (xs (i + nI 2).toNatClampNeg) (xs (i + nI 3).toNatClampNeg)) (c_E_run l E (z + 524) T σ hs.1 (xs (i + nI 1).toNatClampNeg) (xs (i + nI 2).toNatClampNeg) (xs (i + nI 3).toNatClampNeg)) (next σ T (by omega) hs hq)
          · refine g_tabIn hF dL_law_33 (by decide) (by decide) (504) rfl 537 (by decide) ?_
            exact lc_over hF hX hbl hbA hA hv (c_C_over l E z T σ hs.1 (xs (i + nI 1).toNatClampNeg) (xs (i + nI 2).toNatClampNeg)) (c_E_over l E (z + 524) T σ hs.1 (xs (i + nI 1).toNatClampNeg) (xs (i + nI 2).toNatClampNeg)) (next σ T (by omega) hs hq)
          · refine g_tabIn hF dL_law_33 (by decide) (by decide) (538) rfl 571 (by decide) ?_
            exact lc_linesFor hF hX hbl hbA hA hv (c_C_linesFor l E z T σ hs.1 (xs (i + nI 1).toNatClampNeg) (xs (i + nI 2).toNatClampNeg) (xs (i + nI 3).toNatClampNeg)) (c_E_linesFor l E (z + 524) T σ hs.1 (xs (i + nI 1).toNatClampNeg) (xs (i + nI 2).toNatClampNeg) (xs (i + nI 3).toNatClampNeg)) (next σ T (by omega) hs hq)
          · refine g_tabIn hF dL_law_33 (by decide) (by decide) (581) rfl 614 (by decide) ?_
            exact lc_bestReserve hF hX hbl hbA hA hv (c_C_bestReserve l E z T σ hs.1 (xs (i + nI 1).toNatClampNeg) (xs (i + nI 2).toNatClampNeg) (xs (i + nI 3).toNatClampNeg)) (c_E_bestReserve l E (z + 524) T σ hs.1 (xs (i + nI 1).toNatClampNeg) (xs (i + nI 2).toNatClampNeg) (xs (i + nI 3).toNatClampNeg)) (next σ T (by omega) hs hq)
          · refine g_tabIn hF dL_law_33 (by decide) (by decide) (624) rfl 657 (by decide) ?_
            exact lc_write hF hX hbl hbA hA hv (c_C_write l E z T σ hs.1 hs.2.2.2.2.2.1 (xs (i + nI 1).toNatClampNeg) (xs (i + nI 2).toNatClampNeg) (xs (i + nI 3).toNatClampNeg)) (c_E_write l E (z + 524) T σ hs.1 (xs (i + nI 1).toNatClampNeg) (xs (i + nI 2).toNatClampNeg) (xs (i + nI 3).toNatClampNeg)) (next _ T (by omega) (okS.write hs (xs (i + nI 1).toNatClampNeg) (xs (i + nI 2).toNatClampNeg) (xs (i + nI 3).toNatClampNeg)) hq)
          · refine g_tabIn hF dL_law_33 (by decide) (by decide) (667) rfl 700 (by decide) ?_
            exact lc_tear hF hX hbl hbA hA hv (c_C_tear l E z T σ) (c_E_tear l E (z + 524) T σ) (next _ T (by omega) (okS.tear hs) hq)
          · refine g_tabIn hF dL_law_33 (by decide) (by decide) (680) rfl 713 (by decide) ?_
            exact lc_seed hF hX hbl hbA hA hv (c_C_seed l E z T σ (xs (i + nI 1).toNatClampNeg)) (c_E_seed l E (z + 524) T σ hs.2.2.2.2.2.2 (xs (i + nI 1).toNatClampNeg)) (next _ T (by omega) (okS.seed hs (xs (i + nI 1).toNatClampNeg)) hq)
          · refine g_tabIn hF dL_law_33 (by decide) (by decide) (703) rfl 736 (by decide) ?_
            exact lc_keep hF hX hbl hbA hA hv (c_C_keep l E z T σ (xs (i + nI 1).toNatClampNeg)) (c_E_keep l E (z + 524) T σ (xs (i + nI 1).toNatClampNeg)) (next _ T (by omega) (okS.keep hs (xs (i + nI 1).toNatClampNeg)) hq)
          · refine g_tabIn hF dL_law_33 (by decide) (by decide) (726) rfl 759 (by decide) ?_
            exact lc_goBack hF hX hbl hbA hA hv (c_C_goBack l E z T σ (xs (i + nI 1).toNatClampNeg)) (c_E_goBack l E (z + 524) T σ (xs (i + nI 1).toNatClampNeg)) (next _ T (by omega) (okS.goBack hs (xs (i + nI 1).toNatClampNeg)) hq)
      refine g_iload_n hF dL_law_18 19 rfl rfl ?_
      refine g_aload_n hF dL_law_19 20 rfl rfl ?_
      refine g_slen hF hX hbl hbA dL_law_20 21 rfl ?_
      refine g_bipush hF (7) dL_law_21 23 rfl rfl ?_
      refine g_isub hF dL_law_23 24 rfl ?_
      refine g_icmp_gt hF dL_law_24 27 rfl 788 (by decide) (fun c => absurd c ((by rw [hi]; exact fun h => hend ((scr_end hL hj).mp h)))) (fun _ => ?_)
      refine g_aload_n hF dL_law_27 28 rfl rfl ?_
      refine g_iload_n hF dL_law_28 29 rfl rfl ?_
      refine g_sld hF hX hbl hbA (scr_in0 hi hq hL) dL_law_29 30 rfl ?_
      refine g_bipush hF (31) dL_law_30 32 rfl rfl ?_
      refine g_iand hF dL_law_32 33 rfl ?_
      exact sw _
set_option maxRecDepth 100000 in
set_option maxHeartbeats 8000000 in
theorem law_start {l : Launch} {E : Ev} {x : Cx} {z b L : Nat} {xs : Nat → Int32} (hF : fx E x RL cL_law (some .boolean) 4) (hX : va_X b L xs x.2.2.1 x.2.2.1.heap) (hbl : b < x.2.2.1.heap.size) (hbA : ¬ arx x b) (hA : ∀ q, z ≤ q → arx x q) (hL : L ≤ 3584) (hR : ∀ v H, rV (some (.int 1)) (fun _ => True) v H → rtx x v H) : go l room_1 E x 0 0 (fun H => H.size = z ∧ True) [some (.ref b), none, none, none] 0 [] := by
  refine g_new hF nw_L_7 dL_law_0 3 rfl (fun H h => h.1) ⟨Nat.le_of_ble_eq_true rfl, Nat.le_of_ble_eq_true rfl⟩ (Pr' := fun H => H.size = z + 1 ∧ ob E 9 z [.null, .null, .null, .null, .null, .null, .null, .null] H) (fun H H' h h1 h2 => by exact ⟨h2.1, h1⟩) rfl rfl ?_
  refine g_dup hF dL_law_3 4 rfl rfl ?_
  refine g_callI hF ci_L_9 (c_C_init l E z) dL_law_4 7 rfl (st := [_]) rfl rfl ⟨Nat.le_of_ble_eq_true rfl, Nat.le_of_ble_eq_true rfl⟩ ⟨Nat.le_of_ble_eq_true rfl, Nat.le_of_ble_eq_true rfl⟩ rfl (Nat.le_of_ble_eq_true rfl) (Pr' := fun H => H.size = z + 524 ∧ CS E z σ0 H) (fun H h => h) (fun q y => hA q y) (fun H H' h h1 h2 => by exact h1) (st1 := [_]) rfl (k1 := _) (n1 := _) rfl rfl ?_
  refine g_astore_n hF dL_law_7 8 rfl (lo' := [_, _, _, _]) (Nat.le_of_ble_eq_true rfl) rfl ?_
  refine g_new hF nw_L_10 dL_law_8 11 rfl (fun H h => h.1) ⟨Nat.le_of_ble_eq_true rfl, Nat.le_of_ble_eq_true rfl⟩ (Pr' := fun H => H.size = z + 524 + 1 ∧ CS E z σ0 H ∧ ob E 10 (z + 524) [.null, .null, .int 0, .null, .null, .null, .long 0, .null, .int 0, .null, .long 0, .null, .null, .null, .int 0] H) (fun H H' h h1 h2 => by exact ⟨h2.1, h.2.out (h2.out h.1) (fun _ y => y.elim), h1⟩) rfl rfl ?_
  refine g_dup hF dL_law_11 12 rfl rfl ?_
  refine g_callI hF ci_L_12 (c_E_init l E (z + 524)) dL_law_12 15 rfl (st := [_]) rfl rfl ⟨Nat.le_of_ble_eq_true rfl, Nat.le_of_ble_eq_true rfl⟩ ⟨Nat.le_of_ble_eq_true rfl, Nat.le_of_ble_eq_true rfl⟩ rfl (Nat.le_of_ble_eq_true rfl) (Pr' := fun H => H.size = z + 535 ∧ CS E z σ0 H ∧ MS E (z + 524) σ0 H) (fun H h => ⟨h.1, h.2.2⟩) (fun q y => hA q (Nat.le_trans (Nat.le_add_right _ _) y)) (fun H H' h h1 h2 => by exact ⟨h1.1, h.2.1.out h2 (fun q y => Or.inr y), h1.2⟩) (st1 := [_]) rfl (k1 := _) (n1 := _) rfl rfl ?_
  refine g_astore_n hF dL_law_15 16 rfl (lo' := [_, _, _, _]) (Nat.le_of_ble_eq_true rfl) rfl ?_
  refine g_iconst hF (0) dL_law_16 17 rfl rfl ?_
  refine g_istore_n hF dL_law_17 18 rfl (lo' := [_, _, _, _]) (Nat.le_of_ble_eq_true rfl) rfl ?_
  refine g_pr (fun H h => h.2) ?_
  refine g_wid (k1 := 535) (n1 := 7107) (Nat.le_of_ble_eq_true rfl) (Nat.le_of_ble_eq_true rfl) ?_
  exact law_loop hF hX hbl hbA hA hL hR (L + 1) 0 0 _ σ0 (by omega) (by omega) nI_0.symm (by omega) okS_0
