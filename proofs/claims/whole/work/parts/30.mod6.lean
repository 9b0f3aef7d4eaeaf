/-! TrunkReserveModel: undoing, images, weights -/
theorem upd_va (f : Nat → Int32) (k : Nat) (z : Int32) : upd f k z = va_up f k z := by
  funext j
  by_cases e : j = k
  · subst e; rw [pk_us, va_up_self]
  · rw [pk_un e, va_up_ne _ _ e]
set_option maxRecDepth 100000 in
set_option maxHeartbeats 16000000 in
theorem c_E_undo (l : Launch) (E : Ev) (c T : Nat) (σ : AS)  (z : Int32) : Ct l E yX10_undo cX10_undo 3 (some .int) (rm 6) [.ref c, .int z] (MS E c σ) (rV (some (.int (fUndo σ z).1)) (MS E c (fUndo σ z).2)) (rg c 11) := by
  refine ct_start (by decide) [some (.ref c), some (.int z), none] rfl (Nat.le_of_ble_eq_true rfl) ?_
  intro x hF hN hA hR
  obtain ⟨v, hv, d, iv, isd, ik, bg, bl, bs, nb, sd⟩ := σ
  refine g_openM (fun pf im ss bk ws cm ls nq wh ro hr => ?_)
  have hd := hr.1
  by_cases hz : 1 ≤ z ∧ z ≤ 20
  · obtain ⟨m, m1, m20, rfl⟩ := btw (a := 1) (b := 20) (by omega) (by omega) hz
    by_cases hm : m ≤ d
    · have e : fUndo (v, hv, d, iv, isd, ik, bg, bl, bs, nb, sd) (nI m) = ((hv (d - m)).2.1, (hv (d - m), hv, d - m, iv, isd, ik, bg, bl, bs, nb, sd)) := by unfold fUndo; dsimp only; rw [if_neg (fun q => q hz), if_neg (fun q => q (nI_le hm (by omega))), nI_clamp (by omega)]
      rw [e] at hR
      obtain ⟨u, eu⟩ : ∃ u, u = d - m := ⟨_, rfl⟩
      rw [← eu] at hR
      have es : nI d - nI m = nI u := by rw [show nI d = nI u + nI m by rw [nI_add]; congr 1; omega, Int32.add_sub_cancel]
      have loop : ∀ (n j : Nat) (i : Int32), 139 - j < n → j ≤ 139 → i = nI j → go l (rm 6) E x 0 0 (Mm E c (fun k => if k < j then pf (139 * u + k) else flat v k) pf im ss ik bk ws cm ls nq (nI u) (lN sd) (nI nb) wh ro) [some (.ref c), some (.int (nI m)), some (.int i)] 36 [] := by
        intro n
        induction n with
        | zero => intro j i h; omega
        | succ n ih =>
          intro j i hn hj hi
          subst hi
          by_cases hlt : j < 139
          · refine g_iload_n hF dX10_undo_36 37 rfl rfl ?_
            refine g_sipush hF (139) dX10_undo_37 40 rfl rfl ?_
            refine g_icmp_ge hF dX10_undo_40 43 rfl 70 (by decide) (fun c => absurd c (fun y => absurd (i_le (a := 139) y (by omega) (by omega)) (by omega))) (fun _ => ?_)
            refine g_aload_n hF dX10_undo_43 44 rfl rfl ?_
            refine g_get hF fl_X10_7 dX10_undo_44 47 rfl (by intro H h; first | exact h.1 | exact h.2.1 | exact h.2.2.1 | exact h.2.2.2.1 | exact h.2.2.2.2.1 | exact h.2.2.2.2.2.1 | exact h.2.2.2.2.2.2.1 | exact h.2.2.2.2.2.2.2.1 | exact h.2.2.2.2.2.2.2.2.1 | exact h.2.2.2.2.2.2.2.2.2.1 | exact h.2.2.2.2.2.2.2.2.2.2) rfl ?_
            refine g_iload_n hF dX10_undo_47 48 rfl rfl ?_
            refine g_aload_n hF dX10_undo_48 49 rfl rfl ?_
            refine g_get hF fl_X10_13 dX10_undo_49 52 rfl (by intro H h; first | exact h.1 | exact h.2.1 | exact h.2.2.1 | exact h.2.2.2.1 | exact h.2.2.2.2.1 | exact h.2.2.2.2.2.1 | exact h.2.2.2.2.2.2.1 | exact h.2.2.2.2.2.2.2.1 | exact h.2.2.2.2.2.2.2.2.1 | exact h.2.2.2.2.2.2.2.2.2.1 | exact h.2.2.2.2.2.2.2.2.2.2) rfl ?_
            refine g_sipush hF (139) dX10_undo_52 55 rfl rfl ?_
            refine g_aload_n hF dX10_undo_55 56 rfl rfl ?_
            refine g_get hF fl_X10_69 dX10_undo_56 59 rfl (by intro H h; first | exact h.1 | exact h.2.1 | exact h.2.2.1 | exact h.2.2.2.1 | exact h.2.2.2.2.1 | exact h.2.2.2.2.2.1 | exact h.2.2.2.2.2.2.1 | exact h.2.2.2.2.2.2.2.1 | exact h.2.2.2.2.2.2.2.2.1 | exact h.2.2.2.2.2.2.2.2.2.1 | exact h.2.2.2.2.2.2.2.2.2.2) rfl ?_
            refine g_imul hF dX10_undo_59 60 rfl ?_
            refine g_iload_n hF dX10_undo_60 61 rfl rfl ?_
            refine g_iadd hF dX10_undo_61 62 rfl ?_
            rw [ix139]
            refine g_iald hF dX10_undo_62 63 rfl (by intro H h; first | exact h.1 | exact h.2.1 | exact h.2.2.1 | exact h.2.2.2.1 | exact h.2.2.2.2.1 | exact h.2.2.2.2.2.1 | exact h.2.2.2.2.2.2.1 | exact h.2.2.2.2.2.2.2.1 | exact h.2.2.2.2.2.2.2.2.1 | exact h.2.2.2.2.2.2.2.2.2.1 | exact h.2.2.2.2.2.2.2.2.2.2) (vp_in_nI (show 139 * u + j < 2780 by omega) (by omega)) ?_
            rw [nI_clamp (by omega)]
            refine g_iast hF dX10_undo_63 64 rfl (by intro H h; first | exact h.1 | exact h.2.1 | exact h.2.2.1 | exact h.2.2.2.1 | exact h.2.2.2.2.1 | exact h.2.2.2.2.2.1 | exact h.2.2.2.2.2.2.1 | exact h.2.2.2.2.2.2.2.1 | exact h.2.2.2.2.2.2.2.2.1 | exact h.2.2.2.2.2.2.2.2.2.1 | exact h.2.2.2.2.2.2.2.2.2.2) (vp_in_nI hlt (by omega)) (hA _ ⟨by omega, by omega⟩) (Pr' := Mm E c (fun k => if k < j + 1 then pf (139 * u + k) else flat v k) pf im ss ik bk ws cm ls nq (nI u) (lN sd) (nI nb) wh ro) (fun H H' h h1 h2 => by rw [nI_clamp (by omega)] at h1; exact (h.nw h1 h2).to (fun k _ => by by_cases e : k = j; subst e; rw [pk_us, if_pos (by omega)]; rw [pk_un e]; by_cases q : k < j; rw [if_pos q, if_pos (by omega)]; rw [if_neg q, if_neg (by omega)])) ?_
            refine g_iinc hF dX10_undo_64 67 rfl (1) rfl (lo' := [_, _, _]) rfl rfl ?_
            refine g_goto hF dX10_undo_67 36 (by decide) ?_
            exact ih (j + 1) _ (by omega) (by omega) (nI_succ j).symm
          · obtain rfl : j = 139 := by omega
            refine g_pr (Pr' := Mm E c (flat (hv u)) pf im ss ik bk ws cm ls nq (nI u) (lN sd) (nI nb) wh ro) (fun H h => h.to (fun k hk => (if_pos hk).trans (hr.2.2.1 u (by omega) k hk))) ?_
            refine g_iload_n hF dX10_undo_36 37 rfl rfl ?_
            refine g_sipush hF (139) dX10_undo_37 40 rfl rfl ?_
            refine g_icmp_ge hF dX10_undo_40 43 rfl 70 (by decide) (fun _ => ?_) (fun c => absurd (nI_le (a := 139) (by omega) (by omega)) c)
            refine g_aload_n hF dX10_undo_70 71 rfl rfl ?_
            refine g_get hF fl_X10_7 dX10_undo_71 74 rfl (by intro H h; first | exact h.1 | exact h.2.1 | exact h.2.2.1 | exact h.2.2.2.1 | exact h.2.2.2.2.1 | exact h.2.2.2.2.2.1 | exact h.2.2.2.2.2.2.1 | exact h.2.2.2.2.2.2.2.1 | exact h.2.2.2.2.2.2.2.2.1 | exact h.2.2.2.2.2.2.2.2.2.1 | exact h.2.2.2.2.2.2.2.2.2.2) rfl ?_
            refine g_iconst hF (1) dX10_undo_74 75 rfl rfl ?_
            refine g_iald hF dX10_undo_75 76 rfl (by intro H h; first | exact h.1 | exact h.2.1 | exact h.2.2.1 | exact h.2.2.2.1 | exact h.2.2.2.2.1 | exact h.2.2.2.2.2.1 | exact h.2.2.2.2.2.2.1 | exact h.2.2.2.2.2.2.2.1 | exact h.2.2.2.2.2.2.2.2.1 | exact h.2.2.2.2.2.2.2.2.2.1 | exact h.2.2.2.2.2.2.2.2.2.2) (vp_in_nI (show 1 < 139 by omega) (by omega)) ?_
            exact g_iret hF dX10_undo_76 (Nat.le_of_ble_eq_true rfl) (Nat.le_of_ble_eq_true rfl) (fun H h => hR _ _ ⟨congrArg (fun z => some (Value.int z)) (rfl), MS.mk ⟨by omega, hr.2.1, fun j hj => hr.2.2.1 j (by omega), hr.2.2.2⟩ h⟩)
      refine g_iload_n hF dX10_undo_0 1 rfl rfl ?_
      refine g_iconst hF (1) dX10_undo_1 2 rfl rfl ?_
      refine g_bipush hF (20) dX10_undo_2 4 rfl rfl ?_
      refine g_callS hF cs_X10_46 (c_M_in l E (nI m) (1) (20) (Mm E c (flat v) pf im ss ik bk ws cm ls nq (nI d) (lN sd) (nI nb) wh ro) 1 ((if_pos hz).symm)) dX10_undo_4 7 rfl (st := []) rfl rfl ⟨Nat.le_of_ble_eq_true rfl, Nat.le_of_ble_eq_true rfl⟩ ⟨Nat.le_of_ble_eq_true rfl, Nat.le_of_ble_eq_true rfl⟩ rfl (Nat.le_of_ble_eq_true rfl) (Pr' := _) (fun _ h => h) (fun q z => z.elim) (fun _ _ _ h _ => by exact h) (st1 := [_]) rfl (k1 := 0) (n1 := 0) rfl rfl ?_
      refine g_if_ne hF dX10_undo_7 10 rfl 13 (by decide) (fun _ => ?_) (fun c => absurd c ((by decide)))
      refine g_iload_n hF dX10_undo_13 14 rfl rfl ?_
      refine g_aload_n hF dX10_undo_14 15 rfl rfl ?_
      refine g_get hF fl_X10_69 dX10_undo_15 18 rfl (by intro H h; first | exact h.1 | exact h.2.1 | exact h.2.2.1 | exact h.2.2.2.1 | exact h.2.2.2.2.1 | exact h.2.2.2.2.2.1 | exact h.2.2.2.2.2.2.1 | exact h.2.2.2.2.2.2.2.1 | exact h.2.2.2.2.2.2.2.2.1 | exact h.2.2.2.2.2.2.2.2.2.1 | exact h.2.2.2.2.2.2.2.2.2.2) rfl ?_
      refine g_icmp_le hF dX10_undo_18 21 rfl 24 (by decide) (fun _ => ?_) (fun c => absurd (nI_le hm (by omega)) c)
      refine g_aload_n hF dX10_undo_24 25 rfl rfl ?_
      refine g_dup hF dX10_undo_25 26 rfl rfl ?_
      refine g_get hF fl_X10_69 dX10_undo_26 29 rfl (by intro H h; first | exact h.1 | exact h.2.1 | exact h.2.2.1 | exact h.2.2.2.1 | exact h.2.2.2.2.1 | exact h.2.2.2.2.2.1 | exact h.2.2.2.2.2.2.1 | exact h.2.2.2.2.2.2.2.1 | exact h.2.2.2.2.2.2.2.2.1 | exact h.2.2.2.2.2.2.2.2.2.1 | exact h.2.2.2.2.2.2.2.2.2.2) rfl ?_
      refine g_iload_n hF dX10_undo_29 30 rfl rfl ?_
      refine g_isub hF dX10_undo_30 31 rfl ?_
      rw [es]
      refine g_put hF pl_X10_69 dX10_undo_31 34 rfl (by intro H h; first | exact h.1 | exact h.2.1 | exact h.2.2.1 | exact h.2.2.2.1 | exact h.2.2.2.2.1 | exact h.2.2.2.2.2.1 | exact h.2.2.2.2.2.2.1 | exact h.2.2.2.2.2.2.2.1 | exact h.2.2.2.2.2.2.2.2.1 | exact h.2.2.2.2.2.2.2.2.2.1 | exact h.2.2.2.2.2.2.2.2.2.2) (Nat.le_of_ble_eq_true rfl) rfl rfl (hA _ ⟨by omega, by omega⟩) (Pr' := Mm E c (flat v) pf im ss ik bk ws cm ls nq (nI u) (lN sd) (nI nb) wh ro) (fun H H' h h1 h2 => by exact h.fld h1 h2) ?_
      refine g_iconst hF (0) dX10_undo_34 35 rfl rfl ?_
      refine g_istore_n hF dX10_undo_35 36 rfl (lo' := [_, _, _]) (Nat.le_of_ble_eq_true rfl) rfl ?_
      refine g_pr (fun H h => ?_) (loop 140 0 0 (by omega) (by omega) nI_0.symm)
      exact Mm.to h (fun k _ => (if_neg (by omega)).symm)
    · have e : fUndo (v, hv, d, iv, isd, ik, bg, bl, bs, nb, sd) (nI m) = (-1000000003, (v, hv, d, iv, isd, ik, bg, bl, bs, nb, sd)) := by unfold fUndo; dsimp only; rw [if_neg (fun q => q hz), if_pos (fun q => hm (i_le q (by omega) (by omega)))]
      rw [e] at hR
      refine g_iload_n hF dX10_undo_0 1 rfl rfl ?_
      refine g_iconst hF (1) dX10_undo_1 2 rfl rfl ?_
      refine g_bipush hF (20) dX10_undo_2 4 rfl rfl ?_
      refine g_callS hF cs_X10_46 (c_M_in l E (nI m) (1) (20) (Mm E c (flat v) pf im ss ik bk ws cm ls nq (nI d) (lN sd) (nI nb) wh ro) 1 ((if_pos hz).symm)) dX10_undo_4 7 rfl (st := []) rfl rfl ⟨Nat.le_of_ble_eq_true rfl, Nat.le_of_ble_eq_true rfl⟩ ⟨Nat.le_of_ble_eq_true rfl, Nat.le_of_ble_eq_true rfl⟩ rfl (Nat.le_of_ble_eq_true rfl) (Pr' := _) (fun _ h => h) (fun q z => z.elim) (fun _ _ _ h _ => by exact h) (st1 := [_]) rfl (k1 := 0) (n1 := 0) rfl rfl ?_
      refine g_if_ne hF dX10_undo_7 10 rfl 13 (by decide) (fun _ => ?_) (fun c => absurd c ((by decide)))
      refine g_iload_n hF dX10_undo_13 14 rfl rfl ?_
      refine g_aload_n hF dX10_undo_14 15 rfl rfl ?_
      refine g_get hF fl_X10_69 dX10_undo_15 18 rfl (by intro H h; first | exact h.1 | exact h.2.1 | exact h.2.2.1 | exact h.2.2.2.1 | exact h.2.2.2.2.1 | exact h.2.2.2.2.2.1 | exact h.2.2.2.2.2.2.1 | exact h.2.2.2.2.2.2.2.1 | exact h.2.2.2.2.2.2.2.2.1 | exact h.2.2.2.2.2.2.2.2.2.1 | exact h.2.2.2.2.2.2.2.2.2.2) rfl ?_
      refine g_icmp_le hF dX10_undo_18 21 rfl 24 (by decide) (fun c => absurd c (fun q => hm (i_le q (by omega) (by omega)))) (fun _ => ?_)
      refine g_ldc hF kc_X10_128 dX10_undo_21 23 rfl ?_
      exact g_iret hF dX10_undo_23 (Nat.le_of_ble_eq_true rfl) (Nat.le_of_ble_eq_true rfl) (fun H h => hR _ _ ⟨congrArg (fun z => some (Value.int z)) (rfl), MS.mk hr h⟩)
  · rw [show fUndo (v, hv, d, iv, isd, ik, bg, bl, bs, nb, sd) z = (-1000000002, (v, hv, d, iv, isd, ik, bg, bl, bs, nb, sd)) from if_pos hz] at hR
    refine g_iload_n hF dX10_undo_0 1 rfl rfl ?_
    refine g_iconst hF (1) dX10_undo_1 2 rfl rfl ?_
    refine g_bipush hF (20) dX10_undo_2 4 rfl rfl ?_
    refine g_callS hF cs_X10_46 (c_M_in l E (z) (1) (20) (Mm E c (flat v) pf im ss ik bk ws cm ls nq (nI d) (lN sd) (nI nb) wh ro) 0 ((if_neg hz).symm)) dX10_undo_4 7 rfl (st := []) rfl rfl ⟨Nat.le_of_ble_eq_true rfl, Nat.le_of_ble_eq_true rfl⟩ ⟨Nat.le_of_ble_eq_true rfl, Nat.le_of_ble_eq_true rfl⟩ rfl (Nat.le_of_ble_eq_true rfl) (Pr' := _) (fun _ h => h) (fun q z => z.elim) (fun _ _ _ h _ => by exact h) (st1 := [_]) rfl (k1 := 0) (n1 := 0) rfl rfl ?_
    refine g_if_ne hF dX10_undo_7 10 rfl 13 (by decide) (fun c => absurd (rfl) c) (fun _ => ?_)
    refine g_ldc hF kc_X10_117 dX10_undo_10 12 rfl ?_
    exact g_iret hF dX10_undo_12 (Nat.le_of_ble_eq_true rfl) (Nat.le_of_ble_eq_true rfl) (fun H h => hR _ _ ⟨congrArg (fun z => some (Value.int z)) (rfl), MS.mk hr h⟩)
set_option maxRecDepth 100000 in
set_option maxHeartbeats 16000000 in
theorem c_E_keep (l : Launch) (E : Ev) (c T : Nat) (σ : AS)  (z : Int32) : Ct l E yX10_keep cX10_keep 3 (some .int) (rm 6) [.ref c, .int z] (MS E c σ) (rV (some (.int (fKeep σ z).1)) (MS E c (fKeep σ z).2)) (rg c 11) := by
  refine ct_start (by decide) [some (.ref c), some (.int z), none] rfl (Nat.le_of_ble_eq_true rfl) ?_
  intro x hF hN hA hR
  obtain ⟨v, hv, d, iv, isd, ik, bg, bl, bs, nb, sd⟩ := σ
  refine g_openM (fun pf im ss bk ws cm ls nq wh ro hr => ?_)
  by_cases hz : 0 ≤ z ∧ z ≤ 1
  · obtain ⟨u, u0, u1, rfl⟩ := btw (a := 0) (b := 1) (by omega) (by omega) hz
    have hu2 : u < 2 := by omega
    rw [show fKeep (v, hv, d, iv, isd, ik, bg, bl, bs, nb, sd) (nI u) = (1, (v, hv, 0, va_up iv u v, va_up isd u sd, va_up ik u 1, bg, bl, bs, nb, sd)) by unfold fKeep; rw [if_neg (fun q => q hz), nI_clamp (by omega)]] at hR
    have hr2 : mrel pf (cpF im u (flat v) 139) (vp_updL ss u (lN sd)) bk hv 0 (va_up iv u v) (va_up isd u sd) (va_up ik u 1) bg bl bs nb := by
      refine ⟨by omega, hr.2.1, fun j hj => by omega, fun j hj hk => ?_, hr.2.2.2.2⟩
      by_cases e : j = u
      · subst e
        rw [va_up_self, va_up_self, pk_uLs]
        refine ⟨fun k hk2 => ?_, rfl⟩
        unfold cpF
        rw [if_pos (by omega), show 139 * j + k - 139 * j = k by omega]
      · rw [va_up_ne _ _ e] at hk
        rw [va_up_ne _ _ e, va_up_ne _ _ e, pk_uLn e]
        obtain ⟨q1, q2⟩ := hr.2.2.2.1 j hj hk
        refine ⟨fun k hk2 => ?_, q2⟩
        unfold cpF
        rw [if_neg (by omega)]
        exact q1 k hk2
    have loop : ∀ (n j : Nat) (i : Int32), 139 - j < n → j ≤ 139 → i = nI j → go l (rm 6) E x 0 0 (Mm E c (flat v) pf (cpF im u (flat v) j) ss ik bk ws cm ls nq (nI d) (lN sd) (nI nb) wh ro) [some (.ref c), some (.int (nI u)), some (.int i)] 14 [] := by
      intro n
      induction n with
      | zero => intro j i h; omega
      | succ n ih =>
        intro j i hn hj hi
        subst hi
        by_cases hlt : j < 139
        · refine g_iload_n hF dX10_keep_14 15 rfl rfl ?_
          refine g_sipush hF (139) dX10_keep_15 18 rfl rfl ?_
          refine g_icmp_ge hF dX10_keep_18 21 rfl 45 (by decide) (fun c => absurd c (fun y => absurd (i_le (a := 139) y (by omega) (by omega)) (by omega))) (fun _ => ?_)
          refine g_aload_n hF dX10_keep_21 22 rfl rfl ?_
          refine g_get hF fl_X10_16 dX10_keep_22 25 rfl (by intro H h; first | exact h.1 | exact h.2.1 | exact h.2.2.1 | exact h.2.2.2.1 | exact h.2.2.2.2.1 | exact h.2.2.2.2.2.1 | exact h.2.2.2.2.2.2.1 | exact h.2.2.2.2.2.2.2.1 | exact h.2.2.2.2.2.2.2.2.1 | exact h.2.2.2.2.2.2.2.2.2.1 | exact h.2.2.2.2.2.2.2.2.2.2) rfl ?_
          refine g_sipush hF (139) dX10_keep_25 28 rfl rfl ?_
          refine g_iload_n hF dX10_keep_28 29 rfl rfl ?_
          refine g_imul hF dX10_keep_29 30 rfl ?_
          refine g_iload_n hF dX10_keep_30 31 rfl rfl ?_
          refine g_iadd hF dX10_keep_31 32 rfl ?_
          rw [ix139]
          refine g_aload_n hF dX10_keep_32 33 rfl rfl ?_
          refine g_get hF fl_X10_7 dX10_keep_33 36 rfl (by intro H h; first | exact h.1 | exact h.2.1 | exact h.2.2.1 | exact h.2.2.2.1 | exact h.2.2.2.2.1 | exact h.2.2.2.2.2.1 | exact h.2.2.2.2.2.2.1 | exact h.2.2.2.2.2.2.2.1 | exact h.2.2.2.2.2.2.2.2.1 | exact h.2.2.2.2.2.2.2.2.2.1 | exact h.2.2.2.2.2.2.2.2.2.2) rfl ?_
          refine g_iload_n hF dX10_keep_36 37 rfl rfl ?_
          refine g_iald hF dX10_keep_37 38 rfl (by intro H h; first | exact h.1 | exact h.2.1 | exact h.2.2.1 | exact h.2.2.2.1 | exact h.2.2.2.2.1 | exact h.2.2.2.2.2.1 | exact h.2.2.2.2.2.2.1 | exact h.2.2.2.2.2.2.2.1 | exact h.2.2.2.2.2.2.2.2.1 | exact h.2.2.2.2.2.2.2.2.2.1 | exact h.2.2.2.2.2.2.2.2.2.2) (vp_in_nI hlt (by omega)) ?_
          rw [nI_clamp (by omega)]
          refine g_iast hF dX10_keep_38 39 rfl (by intro H h; first | exact h.1 | exact h.2.1 | exact h.2.2.1 | exact h.2.2.2.1 | exact h.2.2.2.2.1 | exact h.2.2.2.2.2.1 | exact h.2.2.2.2.2.2.1 | exact h.2.2.2.2.2.2.2.1 | exact h.2.2.2.2.2.2.2.2.1 | exact h.2.2.2.2.2.2.2.2.2.1 | exact h.2.2.2.2.2.2.2.2.2.2) (vp_in_nI (show 139 * u + j < 278 by omega) (by omega)) (hA _ ⟨by omega, by omega⟩) (Pr' := Mm E c (flat v) pf (cpF im u (flat v) (j + 1)) ss ik bk ws cm ls nq (nI d) (lN sd) (nI nb) wh ro) (fun H H' h h1 h2 => by rw [nI_clamp (by omega)] at h1; exact h.im (ai_congr (fun k _ => cpF_s im u (flat v) j k) h1) h2) ?_
          refine g_iinc hF dX10_keep_39 42 rfl (1) rfl (lo' := [_, _, _]) rfl rfl ?_
          refine g_goto hF dX10_keep_42 14 (by decide) ?_
          exact ih (j + 1) _ (by omega) (by omega) (nI_succ j).symm
        · obtain rfl : j = 139 := by omega
          refine g_iload_n hF dX10_keep_14 15 rfl rfl ?_
          refine g_sipush hF (139) dX10_keep_15 18 rfl rfl ?_
          refine g_icmp_ge hF dX10_keep_18 21 rfl 45 (by decide) (fun _ => ?_) (fun c => absurd (nI_le (a := 139) (by omega) (by omega)) c)
          refine g_aload_n hF dX10_keep_45 46 rfl rfl ?_
          refine g_get hF fl_X10_19 dX10_keep_46 49 rfl (by intro H h; first | exact h.1 | exact h.2.1 | exact h.2.2.1 | exact h.2.2.2.1 | exact h.2.2.2.2.1 | exact h.2.2.2.2.2.1 | exact h.2.2.2.2.2.2.1 | exact h.2.2.2.2.2.2.2.1 | exact h.2.2.2.2.2.2.2.2.1 | exact h.2.2.2.2.2.2.2.2.2.1 | exact h.2.2.2.2.2.2.2.2.2.2) rfl ?_
          refine g_iload_n hF dX10_keep_49 50 rfl rfl ?_
          refine g_aload_n hF dX10_keep_50 51 rfl rfl ?_
          refine g_get hF fl_X10_132 dX10_keep_51 54 rfl (by intro H h; first | exact h.1 | exact h.2.1 | exact h.2.2.1 | exact h.2.2.2.1 | exact h.2.2.2.2.1 | exact h.2.2.2.2.2.1 | exact h.2.2.2.2.2.2.1 | exact h.2.2.2.2.2.2.2.1 | exact h.2.2.2.2.2.2.2.2.1 | exact h.2.2.2.2.2.2.2.2.2.1 | exact h.2.2.2.2.2.2.2.2.2.2) rfl ?_
          refine g_last hF dX10_keep_54 55 rfl (by intro H h; first | exact h.1 | exact h.2.1 | exact h.2.2.1 | exact h.2.2.2.1 | exact h.2.2.2.2.1 | exact h.2.2.2.2.2.1 | exact h.2.2.2.2.2.2.1 | exact h.2.2.2.2.2.2.2.1 | exact h.2.2.2.2.2.2.2.2.1 | exact h.2.2.2.2.2.2.2.2.2.1 | exact h.2.2.2.2.2.2.2.2.2.2) (vp_in_nI hu2 (by omega)) (hA _ ⟨by omega, by omega⟩) (Pr' := Mm E c (flat v) pf (cpF im u (flat v) 139) (vp_updL ss u (lN sd)) ik bk ws cm ls nq (nI d) (lN sd) (nI nb) wh ro) (fun H H' h h1 h2 => by rw [nI_clamp (by omega)] at h1; exact h.ss h1 h2) ?_
          refine g_aload_n hF dX10_keep_55 56 rfl rfl ?_
          refine g_get hF fl_X10_23 dX10_keep_56 59 rfl (by intro H h; first | exact h.1 | exact h.2.1 | exact h.2.2.1 | exact h.2.2.2.1 | exact h.2.2.2.2.1 | exact h.2.2.2.2.2.1 | exact h.2.2.2.2.2.2.1 | exact h.2.2.2.2.2.2.2.1 | exact h.2.2.2.2.2.2.2.2.1 | exact h.2.2.2.2.2.2.2.2.2.1 | exact h.2.2.2.2.2.2.2.2.2.2) rfl ?_
          refine g_iload_n hF dX10_keep_59 60 rfl rfl ?_
          refine g_iconst hF (1) dX10_keep_60 61 rfl rfl ?_
          refine g_zast hF dX10_keep_61 62 rfl (by intro H h; first | exact h.1 | exact h.2.1 | exact h.2.2.1 | exact h.2.2.2.1 | exact h.2.2.2.2.1 | exact h.2.2.2.2.2.1 | exact h.2.2.2.2.2.2.1 | exact h.2.2.2.2.2.2.2.1 | exact h.2.2.2.2.2.2.2.2.1 | exact h.2.2.2.2.2.2.2.2.2.1 | exact h.2.2.2.2.2.2.2.2.2.2) (vp_in_nI hu2 (by omega)) rfl (hA _ ⟨by omega, by omega⟩) (Pr' := Mm E c (flat v) pf (cpF im u (flat v) 139) (vp_updL ss u (lN sd)) (va_up ik u 1) bk ws cm ls nq (nI d) (lN sd) (nI nb) wh ro) (fun H H' h h1 h2 => by rw [nI_clamp (by omega), upd_va] at h1; exact h.kp h1 h2) ?_
          refine g_aload_n hF dX10_keep_62 63 rfl rfl ?_
          refine g_iconst hF (0) dX10_keep_63 64 rfl rfl ?_
          refine g_put hF pl_X10_69 dX10_keep_64 67 rfl (by intro H h; first | exact h.1 | exact h.2.1 | exact h.2.2.1 | exact h.2.2.2.1 | exact h.2.2.2.2.1 | exact h.2.2.2.2.2.1 | exact h.2.2.2.2.2.2.1 | exact h.2.2.2.2.2.2.2.1 | exact h.2.2.2.2.2.2.2.2.1 | exact h.2.2.2.2.2.2.2.2.2.1 | exact h.2.2.2.2.2.2.2.2.2.2) (Nat.le_of_ble_eq_true rfl) rfl rfl (hA _ ⟨by omega, by omega⟩) (Pr' := Mm E c (flat v) pf (cpF im u (flat v) 139) (vp_updL ss u (lN sd)) (va_up ik u 1) bk ws cm ls nq 0 (lN sd) (nI nb) wh ro) (fun H H' h h1 h2 => by exact h.fld h1 h2) ?_
          refine g_iconst hF (1) dX10_keep_67 68 rfl rfl ?_
          exact g_iret hF dX10_keep_68 (Nat.le_of_ble_eq_true rfl) (Nat.le_of_ble_eq_true rfl) (fun H h => hR _ _ ⟨congrArg (fun z => some (Value.int z)) (rfl), MS.mk hr2 h⟩)
    refine g_iload_n hF dX10_keep_0 1 rfl rfl ?_
    refine g_iconst hF (0) dX10_keep_1 2 rfl rfl ?_
    refine g_iconst hF (1) dX10_keep_2 3 rfl rfl ?_
    refine g_callS hF cs_X10_46 (c_M_in l E (nI u) (0) (1) (Mm E c (flat v) pf im ss ik bk ws cm ls nq (nI d) (lN sd) (nI nb) wh ro) 1 ((if_pos hz).symm)) dX10_keep_3 6 rfl (st := []) rfl rfl ⟨Nat.le_of_ble_eq_true rfl, Nat.le_of_ble_eq_true rfl⟩ ⟨Nat.le_of_ble_eq_true rfl, Nat.le_of_ble_eq_true rfl⟩ rfl (Nat.le_of_ble_eq_true rfl) (Pr' := _) (fun _ h => h) (fun q z => z.elim) (fun _ _ _ h _ => by exact h) (st1 := [_]) rfl (k1 := 0) (n1 := 0) rfl rfl ?_
    refine g_if_ne hF dX10_keep_6 9 rfl 12 (by decide) (fun _ => ?_) (fun c => absurd c ((by decide)))
    refine g_iconst hF (0) dX10_keep_12 13 rfl rfl ?_
    refine g_istore_n hF dX10_keep_13 14 rfl (lo' := [_, _, _]) (Nat.le_of_ble_eq_true rfl) rfl ?_
    refine g_pr (fun H h => ?_) (loop 140 0 0 (by omega) (by omega) nI_0.symm)
    exact ⟨h.1, h.2.1, h.2.2.1, ai_congr (fun k _ => (if_neg (by omega)).symm) h.2.2.2.1, h.2.2.2.2⟩
  · rw [show fKeep (v, hv, d, iv, isd, ik, bg, bl, bs, nb, sd) z = (-1000000001, (v, hv, d, iv, isd, ik, bg, bl, bs, nb, sd)) from if_pos hz] at hR
    refine g_iload_n hF dX10_keep_0 1 rfl rfl ?_
    refine g_iconst hF (0) dX10_keep_1 2 rfl rfl ?_
    refine g_iconst hF (1) dX10_keep_2 3 rfl rfl ?_
    refine g_callS hF cs_X10_46 (c_M_in l E (z) (0) (1) (Mm E c (flat v) pf im ss ik bk ws cm ls nq (nI d) (lN sd) (nI nb) wh ro) 0 ((if_neg hz).symm)) dX10_keep_3 6 rfl (st := []) rfl rfl ⟨Nat.le_of_ble_eq_true rfl, Nat.le_of_ble_eq_true rfl⟩ ⟨Nat.le_of_ble_eq_true rfl, Nat.le_of_ble_eq_true rfl⟩ rfl (Nat.le_of_ble_eq_true rfl) (Pr' := _) (fun _ h => h) (fun q z => z.elim) (fun _ _ _ h _ => by exact h) (st1 := [_]) rfl (k1 := 0) (n1 := 0) rfl rfl ?_
    refine g_if_ne hF dX10_keep_6 9 rfl 12 (by decide) (fun c => absurd (rfl) c) (fun _ => ?_)
    refine g_ldc hF kc_X10_118 dX10_keep_9 11 rfl ?_
    exact g_iret hF dX10_keep_11 (Nat.le_of_ble_eq_true rfl) (Nat.le_of_ble_eq_true rfl) (fun H h => hR _ _ ⟨congrArg (fun z => some (Value.int z)) (rfl), MS.mk hr h⟩)
set_option maxRecDepth 100000 in
set_option maxHeartbeats 16000000 in
theorem c_E_goBack (l : Launch) (E : Ev) (c T : Nat) (σ : AS)  (z : Int32) : Ct l E yX10_goBack cX10_goBack 3 (some .int) (rm 6) [.ref c, .int z] (MS E c σ) (rV (some (.int (fGoBack σ z).1)) (MS E c (fGoBack σ z).2)) (rg c 11) := by
  refine ct_start (by decide) [some (.ref c), some (.int z), none] rfl (Nat.le_of_ble_eq_true rfl) ?_
  intro x hF hN hA hR
  obtain ⟨v, hv, d, iv, isd, ik, bg, bl, bs, nb, sd⟩ := σ
  refine g_openM (fun pf im ss bk ws cm ls nq wh ro hr => ?_)
  by_cases hz : 0 ≤ z ∧ z ≤ 1
  · obtain ⟨u, u0, u1, rfl⟩ := btw (a := 0) (b := 1) (by omega) (by omega) hz
    have hu2 : u < 2 := by omega
    by_cases hk : ik u = 0
    · rw [show fGoBack (v, hv, d, iv, isd, ik, bg, bl, bs, nb, sd) (nI u) = (-1000000003, (v, hv, d, iv, isd, ik, bg, bl, bs, nb, sd)) by unfold fGoBack; rw [if_neg (fun q => q hz), nI_clamp (by omega), if_pos hk]] at hR
      refine g_iload_n hF dX10_goBack_0 1 rfl rfl ?_
      refine g_iconst hF (0) dX10_goBack_1 2 rfl rfl ?_
      refine g_iconst hF (1) dX10_goBack_2 3 rfl rfl ?_
      refine g_callS hF cs_X10_46 (c_M_in l E (nI u) (0) (1) (Mm E c (flat v) pf im ss ik bk ws cm ls nq (nI d) (lN sd) (nI nb) wh ro) 1 ((if_pos hz).symm)) dX10_goBack_3 6 rfl (st := []) rfl rfl ⟨Nat.le_of_ble_eq_true rfl, Nat.le_of_ble_eq_true rfl⟩ ⟨Nat.le_of_ble_eq_true rfl, Nat.le_of_ble_eq_true rfl⟩ rfl (Nat.le_of_ble_eq_true rfl) (Pr' := _) (fun _ h => h) (fun q z => z.elim) (fun _ _ _ h _ => by exact h) (st1 := [_]) rfl (k1 := 0) (n1 := 0) rfl rfl ?_
      refine g_if_ne hF dX10_goBack_6 9 rfl 12 (by decide) (fun _ => ?_) (fun c => absurd c ((by decide)))
      refine g_aload_n hF dX10_goBack_12 13 rfl rfl ?_
      refine g_get hF fl_X10_23 dX10_goBack_13 16 rfl (by intro H h; first | exact h.1 | exact h.2.1 | exact h.2.2.1 | exact h.2.2.2.1 | exact h.2.2.2.2.1 | exact h.2.2.2.2.2.1 | exact h.2.2.2.2.2.2.1 | exact h.2.2.2.2.2.2.2.1 | exact h.2.2.2.2.2.2.2.2.1 | exact h.2.2.2.2.2.2.2.2.2.1 | exact h.2.2.2.2.2.2.2.2.2.2) rfl ?_
      refine g_iload_n hF dX10_goBack_16 17 rfl rfl ?_
      refine g_zald hF dX10_goBack_17 18 rfl (by intro H h; first | exact h.1 | exact h.2.1 | exact h.2.2.1 | exact h.2.2.2.1 | exact h.2.2.2.2.1 | exact h.2.2.2.2.2.1 | exact h.2.2.2.2.2.2.1 | exact h.2.2.2.2.2.2.2.1 | exact h.2.2.2.2.2.2.2.2.1 | exact h.2.2.2.2.2.2.2.2.2.1 | exact h.2.2.2.2.2.2.2.2.2.2) (vp_in_nI hu2 (by omega)) ?_
      rw [nI_clamp (by omega)]
      refine g_if_ne hF dX10_goBack_18 21 rfl 24 (by decide) (fun c => absurd (hk) c) (fun _ => ?_)
      refine g_ldc hF kc_X10_128 dX10_goBack_21 23 rfl ?_
      exact g_iret hF dX10_goBack_23 (Nat.le_of_ble_eq_true rfl) (Nat.le_of_ble_eq_true rfl) (fun H h => hR _ _ ⟨congrArg (fun z => some (Value.int z)) (rfl), MS.mk hr h⟩)
    · rw [show fGoBack (v, hv, d, iv, isd, ik, bg, bl, bs, nb, sd) (nI u) = (1, (iv u, hv, 0, iv, isd, ik, bg, bl, bs, nb, isd u)) by unfold fGoBack; rw [if_neg (fun q => q hz), nI_clamp (by omega), if_neg hk]] at hR
      obtain ⟨hi1, hi2⟩ := hr.2.2.2.1 u hu2 hk
      have loop : ∀ (n j : Nat) (i : Int32), 139 - j < n → j ≤ 139 → i = nI j → go l (rm 6) E x 0 0 (Mm E c (fun k => if k < j then im (139 * u + k) else flat v k) pf im ss ik bk ws cm ls nq (nI d) (lN sd) (nI nb) wh ro) [some (.ref c), some (.int (nI u)), some (.int i)] 26 [] := by
        intro n
        induction n with
        | zero => intro j i h; omega
        | succ n ih =>
          intro j i hn hj hi
          subst hi
          by_cases hlt : j < 139
          · refine g_iload_n hF dX10_goBack_26 27 rfl rfl ?_
            refine g_sipush hF (139) dX10_goBack_27 30 rfl rfl ?_
            refine g_icmp_ge hF dX10_goBack_30 33 rfl 57 (by decide) (fun c => absurd c (fun y => absurd (i_le (a := 139) y (by omega) (by omega)) (by omega))) (fun _ => ?_)
            refine g_aload_n hF dX10_goBack_33 34 rfl rfl ?_
            refine g_get hF fl_X10_7 dX10_goBack_34 37 rfl (by intro H h; first | exact h.1 | exact h.2.1 | exact h.2.2.1 | exact h.2.2.2.1 | exact h.2.2.2.2.1 | exact h.2.2.2.2.2.1 | exact h.2.2.2.2.2.2.1 | exact h.2.2.2.2.2.2.2.1 | exact h.2.2.2.2.2.2.2.2.1 | exact h.2.2.2.2.2.2.2.2.2.1 | exact h.2.2.2.2.2.2.2.2.2.2) rfl ?_
            refine g_iload_n hF dX10_goBack_37 38 rfl rfl ?_
            refine g_aload_n hF dX10_goBack_38 39 rfl rfl ?_
            refine g_get hF fl_X10_16 dX10_goBack_39 42 rfl (by intro H h; first | exact h.1 | exact h.2.1 | exact h.2.2.1 | exact h.2.2.2.1 | exact h.2.2.2.2.1 | exact h.2.2.2.2.2.1 | exact h.2.2.2.2.2.2.1 | exact h.2.2.2.2.2.2.2.1 | exact h.2.2.2.2.2.2.2.2.1 | exact h.2.2.2.2.2.2.2.2.2.1 | exact h.2.2.2.2.2.2.2.2.2.2) rfl ?_
            refine g_sipush hF (139) dX10_goBack_42 45 rfl rfl ?_
            refine g_iload_n hF dX10_goBack_45 46 rfl rfl ?_
            refine g_imul hF dX10_goBack_46 47 rfl ?_
            refine g_iload_n hF dX10_goBack_47 48 rfl rfl ?_
            refine g_iadd hF dX10_goBack_48 49 rfl ?_
            rw [ix139]
            refine g_iald hF dX10_goBack_49 50 rfl (by intro H h; first | exact h.1 | exact h.2.1 | exact h.2.2.1 | exact h.2.2.2.1 | exact h.2.2.2.2.1 | exact h.2.2.2.2.2.1 | exact h.2.2.2.2.2.2.1 | exact h.2.2.2.2.2.2.2.1 | exact h.2.2.2.2.2.2.2.2.1 | exact h.2.2.2.2.2.2.2.2.2.1 | exact h.2.2.2.2.2.2.2.2.2.2) (vp_in_nI (show 139 * u + j < 278 by omega) (by omega)) ?_
            rw [nI_clamp (by omega)]
            refine g_iast hF dX10_goBack_50 51 rfl (by intro H h; first | exact h.1 | exact h.2.1 | exact h.2.2.1 | exact h.2.2.2.1 | exact h.2.2.2.2.1 | exact h.2.2.2.2.2.1 | exact h.2.2.2.2.2.2.1 | exact h.2.2.2.2.2.2.2.1 | exact h.2.2.2.2.2.2.2.2.1 | exact h.2.2.2.2.2.2.2.2.2.1 | exact h.2.2.2.2.2.2.2.2.2.2) (vp_in_nI hlt (by omega)) (hA _ ⟨by omega, by omega⟩) (Pr' := Mm E c (fun k => if k < j + 1 then im (139 * u + k) else flat v k) pf im ss ik bk ws cm ls nq (nI d) (lN sd) (nI nb) wh ro) (fun H H' h h1 h2 => by rw [nI_clamp (by omega)] at h1; exact (h.nw h1 h2).to (fun k _ => by by_cases e : k = j; subst e; rw [pk_us, if_pos (by omega)]; rw [pk_un e]; by_cases q : k < j; rw [if_pos q, if_pos (by omega)]; rw [if_neg q, if_neg (by omega)])) ?_
            refine g_iinc hF dX10_goBack_51 54 rfl (1) rfl (lo' := [_, _, _]) rfl rfl ?_
            refine g_goto hF dX10_goBack_54 26 (by decide) ?_
            exact ih (j + 1) _ (by omega) (by omega) (nI_succ j).symm
          · obtain rfl : j = 139 := by omega
            refine g_pr (Pr' := Mm E c (flat (iv u)) pf im ss ik bk ws cm ls nq (nI d) (lN sd) (nI nb) wh ro) (fun H h => h.to (fun k hk => (if_pos hk).trans (hi1 k hk))) ?_
            refine g_iload_n hF dX10_goBack_26 27 rfl rfl ?_
            refine g_sipush hF (139) dX10_goBack_27 30 rfl rfl ?_
            refine g_icmp_ge hF dX10_goBack_30 33 rfl 57 (by decide) (fun _ => ?_) (fun c => absurd (nI_le (a := 139) (by omega) (by omega)) c)
            refine g_aload_n hF dX10_goBack_57 58 rfl rfl ?_
            refine g_aload_n hF dX10_goBack_58 59 rfl rfl ?_
            refine g_get hF fl_X10_19 dX10_goBack_59 62 rfl (by intro H h; first | exact h.1 | exact h.2.1 | exact h.2.2.1 | exact h.2.2.2.1 | exact h.2.2.2.2.1 | exact h.2.2.2.2.2.1 | exact h.2.2.2.2.2.2.1 | exact h.2.2.2.2.2.2.2.1 | exact h.2.2.2.2.2.2.2.2.1 | exact h.2.2.2.2.2.2.2.2.2.1 | exact h.2.2.2.2.2.2.2.2.2.2) rfl ?_
            refine g_iload_n hF dX10_goBack_62 63 rfl rfl ?_
            refine g_lald hF dX10_goBack_63 64 rfl (by intro H h; first | exact h.1 | exact h.2.1 | exact h.2.2.1 | exact h.2.2.2.1 | exact h.2.2.2.2.1 | exact h.2.2.2.2.2.1 | exact h.2.2.2.2.2.2.1 | exact h.2.2.2.2.2.2.2.1 | exact h.2.2.2.2.2.2.2.2.1 | exact h.2.2.2.2.2.2.2.2.2.1 | exact h.2.2.2.2.2.2.2.2.2.2) (vp_in_nI hu2 (by omega)) ?_
            rw [nI_clamp (by omega), hi2]
            refine g_put hF pl_X10_132 dX10_goBack_64 67 rfl (by intro H h; first | exact h.1 | exact h.2.1 | exact h.2.2.1 | exact h.2.2.2.1 | exact h.2.2.2.2.1 | exact h.2.2.2.2.2.1 | exact h.2.2.2.2.2.2.1 | exact h.2.2.2.2.2.2.2.1 | exact h.2.2.2.2.2.2.2.2.1 | exact h.2.2.2.2.2.2.2.2.2.1 | exact h.2.2.2.2.2.2.2.2.2.2) (Nat.le_of_ble_eq_true rfl) rfl rfl (hA _ ⟨by omega, by omega⟩) (Pr' := Mm E c (flat (iv u)) pf im ss ik bk ws cm ls nq (nI d) (lN (isd u)) (nI nb) wh ro) (fun H H' h h1 h2 => by exact h.fld h1 h2) ?_
            refine g_aload_n hF dX10_goBack_67 68 rfl rfl ?_
            refine g_iconst hF (0) dX10_goBack_68 69 rfl rfl ?_
            refine g_put hF pl_X10_69 dX10_goBack_69 72 rfl (by intro H h; first | exact h.1 | exact h.2.1 | exact h.2.2.1 | exact h.2.2.2.1 | exact h.2.2.2.2.1 | exact h.2.2.2.2.2.1 | exact h.2.2.2.2.2.2.1 | exact h.2.2.2.2.2.2.2.1 | exact h.2.2.2.2.2.2.2.2.1 | exact h.2.2.2.2.2.2.2.2.2.1 | exact h.2.2.2.2.2.2.2.2.2.2) (Nat.le_of_ble_eq_true rfl) rfl rfl (hA _ ⟨by omega, by omega⟩) (Pr' := Mm E c (flat (iv u)) pf im ss ik bk ws cm ls nq 0 (lN (isd u)) (nI nb) wh ro) (fun H H' h h1 h2 => by exact h.fld h1 h2) ?_
            refine g_iconst hF (1) dX10_goBack_72 73 rfl rfl ?_
            exact g_iret hF dX10_goBack_73 (Nat.le_of_ble_eq_true rfl) (Nat.le_of_ble_eq_true rfl) (fun H h => hR _ _ ⟨congrArg (fun z => some (Value.int z)) (rfl), MS.mk ⟨by omega, hr.2.1, fun j hj => by omega, hr.2.2.2⟩ h⟩)
      refine g_iload_n hF dX10_goBack_0 1 rfl rfl ?_
      refine g_iconst hF (0) dX10_goBack_1 2 rfl rfl ?_
      refine g_iconst hF (1) dX10_goBack_2 3 rfl rfl ?_
      refine g_callS hF cs_X10_46 (c_M_in l E (nI u) (0) (1) (Mm E c (flat v) pf im ss ik bk ws cm ls nq (nI d) (lN sd) (nI nb) wh ro) 1 ((if_pos hz).symm)) dX10_goBack_3 6 rfl (st := []) rfl rfl ⟨Nat.le_of_ble_eq_true rfl, Nat.le_of_ble_eq_true rfl⟩ ⟨Nat.le_of_ble_eq_true rfl, Nat.le_of_ble_eq_true rfl⟩ rfl (Nat.le_of_ble_eq_true rfl) (Pr' := _) (fun _ h => h) (fun q z => z.elim) (fun _ _ _ h _ => by exact h) (st1 := [_]) rfl (k1 := 0) (n1 := 0) rfl rfl ?_
      refine g_if_ne hF dX10_goBack_6 9 rfl 12 (by decide) (fun _ => ?_) (fun c => absurd c ((by decide)))
      refine g_aload_n hF dX10_goBack_12 13 rfl rfl ?_
      refine g_get hF fl_X10_23 dX10_goBack_13 16 rfl (by intro H h; first | exact h.1 | exact h.2.1 | exact h.2.2.1 | exact h.2.2.2.1 | exact h.2.2.2.2.1 | exact h.2.2.2.2.2.1 | exact h.2.2.2.2.2.2.1 | exact h.2.2.2.2.2.2.2.1 | exact h.2.2.2.2.2.2.2.2.1 | exact h.2.2.2.2.2.2.2.2.2.1 | exact h.2.2.2.2.2.2.2.2.2.2) rfl ?_
      refine g_iload_n hF dX10_goBack_16 17 rfl rfl ?_
      refine g_zald hF dX10_goBack_17 18 rfl (by intro H h; first | exact h.1 | exact h.2.1 | exact h.2.2.1 | exact h.2.2.2.1 | exact h.2.2.2.2.1 | exact h.2.2.2.2.2.1 | exact h.2.2.2.2.2.2.1 | exact h.2.2.2.2.2.2.2.1 | exact h.2.2.2.2.2.2.2.2.1 | exact h.2.2.2.2.2.2.2.2.2.1 | exact h.2.2.2.2.2.2.2.2.2.2) (vp_in_nI hu2 (by omega)) ?_
      rw [nI_clamp (by omega)]
      refine g_if_ne hF dX10_goBack_18 21 rfl 24 (by decide) (fun _ => ?_) (fun c => absurd c (hk))
      refine g_iconst hF (0) dX10_goBack_24 25 rfl rfl ?_
      refine g_istore_n hF dX10_goBack_25 26 rfl (lo' := [_, _, _]) (Nat.le_of_ble_eq_true rfl) rfl ?_
      refine g_pr (fun H h => ?_) (loop 140 0 0 (by omega) (by omega) nI_0.symm)
      exact Mm.to h (fun k _ => (if_neg (by omega)).symm)
  · rw [show fGoBack (v, hv, d, iv, isd, ik, bg, bl, bs, nb, sd) z = (-1000000001, (v, hv, d, iv, isd, ik, bg, bl, bs, nb, sd)) from if_pos hz] at hR
    refine g_iload_n hF dX10_goBack_0 1 rfl rfl ?_
    refine g_iconst hF (0) dX10_goBack_1 2 rfl rfl ?_
    refine g_iconst hF (1) dX10_goBack_2 3 rfl rfl ?_
    refine g_callS hF cs_X10_46 (c_M_in l E (z) (0) (1) (Mm E c (flat v) pf im ss ik bk ws cm ls nq (nI d) (lN sd) (nI nb) wh ro) 0 ((if_neg hz).symm)) dX10_goBack_3 6 rfl (st := []) rfl rfl ⟨Nat.le_of_ble_eq_true rfl, Nat.le_of_ble_eq_true rfl⟩ ⟨Nat.le_of_ble_eq_true rfl, Nat.le_of_ble_eq_true rfl⟩ rfl (Nat.le_of_ble_eq_true rfl) (Pr' := _) (fun _ h => h) (fun q z => z.elim) (fun _ _ _ h _ => by exact h) (st1 := [_]) rfl (k1 := 0) (n1 := 0) rfl rfl ?_
    refine g_if_ne hF dX10_goBack_6 9 rfl 12 (by decide) (fun c => absurd (rfl) c) (fun _ => ?_)
    refine g_ldc hF kc_X10_118 dX10_goBack_9 11 rfl ?_
    exact g_iret hF dX10_goBack_11 (Nat.le_of_ble_eq_true rfl) (Nat.le_of_ble_eq_true rfl) (fun H h => hR _ _ ⟨congrArg (fun z => some (Value.int z)) (rfl), MS.mk hr h⟩)
section MV6
variable (l : Launch) (E : Ev) (c : Nat) (v : NV) (pf im : Nat → Int32) (ss : Nat → Int64) (kp bk : Nat → Int32) (ws : Nat → Int64) (cg ls nq : Nat → Int32) (dd : Int32) (sd : Int64) (en : Int32) (wh : Int64) (ro : Int32)
set_option maxRecDepth 100000 in
set_option maxHeartbeats 16000000 in
theorem c_M_weighs (N A R B : Nat) (hN1 : 1 ≤ N) (hN6 : N ≤ 6) (hA6 : A ≤ 6) (hR6 : R ≤ 6) (hB : B ≤ 6) : Ct l E yX10_weighs cX10_weighs 8 none (rm 1) [.ref c, .int (nI N), .int (nI A), .int (nI R), .int (nI B)] (Mm E c (flat v) pf im ss kp bk ws cg ls nq dd sd en wh ro) (rV none (fun H => ∃ ws', (∀ k, k ≤ N → ws' k = lN (wt (fct N) 1 N A R B k)) ∧ Mm E c (flat v) pf im ss kp bk ws' cg ls nq dd sd en (lN (sW (wt (fct N) 1 N A R B) (N + 1))) ro H)) (rg c 11) := by
  refine ct_start (by decide) [some (.ref c), some (.int (nI N)), some (.int (nI A)), some (.int (nI R)), some (.int (nI B)), none, none, none] rfl (Nat.le_of_ble_eq_true rfl) ?_
  intro x hF hN hA hR
  have hf1 : fct N ≤ 1000000 := Nat.le_trans (fct_le N (by omega)) (by omega)
  have loop2 : ∀ (n j : Nat) (i : Int32) (f : Int64) (ws : Nat → Int64), N + 1 - j < n → j ≤ N + 1 → i = nI j → (j ≤ N → f = lN (wt (fct N) 1 N A R B j)) → (∀ k, k < j → ws k = lN (wt (fct N) 1 N A R B k)) → go l (rm 1) E x 0 0 (Mm E c (flat v) pf im ss kp bk ws cg ls nq dd sd en (lN (sW (wt (fct N) 1 N A R B) j)) ro) [some (.ref c), some (.int (nI N)), some (.int (nI A)), some (.int (nI R)), some (.int (nI B)), some (.long f), none, some (.int i)] 34 [] := by
    intro n
    induction n with
    | zero => intro j i f ws h; omega
    | succ n ih =>
      intro j i f ws hn0 hj hi hf hw
      subst hi
      by_cases hlt : j ≤ N
      · have hf := hf hlt
        subst hf
        have hwj := wt_lt (first := fct N) (parts := 1) (N := N) (R := R) (B := B) (k := j) hf1 (by omega) hA6 (by omega) (by omega)
        have hmul : wt (fct N) 1 N A R B j * cm 1 N A R B j < 2 ^ 63 := by
          have h1 : wt (fct N) 1 N A R B j * cm 1 N A R B j ≤ 191102976000000 * 12 := Nat.mul_le_mul hwj (by unfold cm; split <;> omega)
          omega
        have hws2 : ∀ k, k < j + 1 → vp_updL ws j (lN (wt (fct N) 1 N A R B j)) k = lN (wt (fct N) 1 N A R B k) := fun k hk => by
          by_cases e : k = j
          · subst e; rw [pk_uLs]
          · rw [pk_uLn e]; exact hw k (by omega)
        have esub : nI N - nI j = nI (N - j) := by rw [show nI N = nI (N - j) + nI j by rw [nI_add]; congr 1; omega, Int32.add_sub_cancel]
        have ecm1 : R < N - j → A + B = cm 1 N A R B j := fun y => by unfold cm; rw [if_pos y]; omega
        have ecm0 : ¬ R < N - j → A = cm 1 N A R B j := fun y => by unfold cm; rw [if_neg y]; omega
        have ewt : wt (fct N) 1 N A R B (j + 1) = wt (fct N) 1 N A R B j * cm 1 N A R B j / (j + 1) := by
          conv => lhs; unfold wt
          rw [Nat.one_mul]
        refine g_iload hF dX10_weighs_34 36 rfl rfl ?_
        refine g_iload_n hF dX10_weighs_36 37 rfl rfl ?_
        refine g_icmp_gt hF dX10_weighs_37 40 rfl 94 (by decide) (fun c => absurd c (fun y => absurd (i_lt y (by omega) (by omega)) (by omega))) (fun _ => ?_)
        refine g_aload_n hF dX10_weighs_40 41 rfl rfl ?_
        refine g_get hF fl_X10_30 dX10_weighs_41 44 rfl (by intro H h; first | exact h.1 | exact h.2.1 | exact h.2.2.1 | exact h.2.2.2.1 | exact h.2.2.2.2.1 | exact h.2.2.2.2.2.1 | exact h.2.2.2.2.2.2.1 | exact h.2.2.2.2.2.2.2.1 | exact h.2.2.2.2.2.2.2.2.1 | exact h.2.2.2.2.2.2.2.2.2.1 | exact h.2.2.2.2.2.2.2.2.2.2) rfl ?_
        refine g_iload hF dX10_weighs_44 46 rfl rfl ?_
        refine g_lload hF dX10_weighs_46 48 rfl rfl ?_
        refine g_last hF dX10_weighs_48 49 rfl (by intro H h; first | exact h.1 | exact h.2.1 | exact h.2.2.1 | exact h.2.2.2.1 | exact h.2.2.2.2.1 | exact h.2.2.2.2.2.1 | exact h.2.2.2.2.2.2.1 | exact h.2.2.2.2.2.2.2.1 | exact h.2.2.2.2.2.2.2.2.1 | exact h.2.2.2.2.2.2.2.2.2.1 | exact h.2.2.2.2.2.2.2.2.2.2) (vp_in_nI (show j < 7 by omega) (by omega)) (hA _ ⟨by omega, by omega⟩) (Pr' := Mm E c (flat v) pf im ss kp bk (vp_updL ws j (lN (wt (fct N) 1 N A R B j))) cg ls nq dd sd en (lN (sW (wt (fct N) 1 N A R B) j)) ro) (fun H H' h h1 h2 => by rw [nI_clamp (by omega)] at h1; exact h.ws h1 h2) ?_
        refine g_aload_n hF dX10_weighs_49 50 rfl rfl ?_
        refine g_dup hF dX10_weighs_50 51 rfl rfl ?_
        refine g_get hF fl_X10_147 dX10_weighs_51 54 rfl (by intro H h; first | exact h.1 | exact h.2.1 | exact h.2.2.1 | exact h.2.2.2.1 | exact h.2.2.2.2.1 | exact h.2.2.2.2.2.1 | exact h.2.2.2.2.2.2.1 | exact h.2.2.2.2.2.2.2.1 | exact h.2.2.2.2.2.2.2.2.1 | exact h.2.2.2.2.2.2.2.2.2.1 | exact h.2.2.2.2.2.2.2.2.2.2) rfl ?_
        refine g_lload hF dX10_weighs_54 56 rfl rfl ?_
        refine g_ladd hF dX10_weighs_56 57 rfl ?_
        rw [lN_add]
        refine g_put hF pl_X10_147 dX10_weighs_57 60 rfl (by intro H h; first | exact h.1 | exact h.2.1 | exact h.2.2.1 | exact h.2.2.2.1 | exact h.2.2.2.2.1 | exact h.2.2.2.2.2.1 | exact h.2.2.2.2.2.2.1 | exact h.2.2.2.2.2.2.2.1 | exact h.2.2.2.2.2.2.2.2.1 | exact h.2.2.2.2.2.2.2.2.2.1 | exact h.2.2.2.2.2.2.2.2.2.2) (Nat.le_of_ble_eq_true rfl) rfl rfl (hA _ ⟨by omega, by omega⟩) (Pr' := Mm E c (flat v) pf im ss kp bk (vp_updL ws j (lN (wt (fct N) 1 N A R B j))) cg ls nq dd sd en (lN (sW (wt (fct N) 1 N A R B) (j + 1))) ro) (fun H H' h h1 h2 => by exact h.fld h1 h2) ?_
        refine g_lload hF dX10_weighs_60 62 rfl rfl ?_
        refine g_iload_n hF dX10_weighs_62 63 rfl rfl ?_
        refine g_iload_n hF dX10_weighs_63 64 rfl rfl ?_
        refine g_iload hF dX10_weighs_64 66 rfl rfl ?_
        refine g_isub hF dX10_weighs_66 67 rfl ?_
        rw [esub]
        refine g_iload_n hF dX10_weighs_67 68 rfl rfl ?_
        refine g_icmp_le hF dX10_weighs_68 71 rfl 76 (by decide) (fun c68 => ?_) (fun c68 => ?_)
        · have hto : ¬ R < N - j := Nat.not_lt.mpr (i_le c68 (by omega) (by omega))
          refine g_iconst hF (0) dX10_weighs_76 77 rfl rfl ?_
          refine g_iadd hF dX10_weighs_77 78 rfl ?_
          rw [show nI A + 0 = nI (cm 1 N A R B j) from (Int32.add_zero _).trans (congrArg nI (ecm0 hto))]
          refine g_i2l hF dX10_weighs_78 79 rfl ?_
          rw [nI_l (by unfold cm; split <;> omega)]
          refine g_lmul hF dX10_weighs_79 80 rfl ?_
          rw [lN_mul]
          refine g_iload hF dX10_weighs_80 82 rfl rfl ?_
          refine g_iconst hF (1) dX10_weighs_82 83 rfl rfl ?_
          refine g_iadd hF dX10_weighs_83 84 rfl ?_
          rw [nI_1]
          refine g_i2l hF dX10_weighs_84 85 rfl ?_
          rw [nI_l (by omega)]
          refine g_ldiv hF dX10_weighs_85 86 rfl (fun y => absurd ((pk_lEQ (b := 0) (by omega) (by omega)).mp y) (by omega)) ?_
          rw [pk_lDiv hmul (by omega) (by omega), ← ewt]
          refine g_lstore hF dX10_weighs_86 88 rfl (lo' := [_, _, _, _, _, _, _, _]) (Nat.le_of_ble_eq_true rfl) rfl ?_
          refine g_iinc hF dX10_weighs_88 91 rfl (1) rfl (lo' := [_, _, _, _, _, _, _, _]) rfl rfl ?_
          refine g_goto hF dX10_weighs_91 34 (by decide) ?_
          exact ih (j + 1) _ _ _ (by omega) (by omega) (nI_succ j).symm (fun _ => rfl) hws2
        · have hto : R < N - j := i_nle c68 (by omega) (by omega)
          refine g_iload hF dX10_weighs_71 73 rfl rfl ?_
          refine g_goto hF dX10_weighs_73 77 (by decide) ?_
          refine g_iadd hF dX10_weighs_77 78 rfl ?_
          rw [nI_add, ecm1 hto]
          refine g_i2l hF dX10_weighs_78 79 rfl ?_
          rw [nI_l (by unfold cm; split <;> omega)]
          refine g_lmul hF dX10_weighs_79 80 rfl ?_
          rw [lN_mul]
          refine g_iload hF dX10_weighs_80 82 rfl rfl ?_
          refine g_iconst hF (1) dX10_weighs_82 83 rfl rfl ?_
          refine g_iadd hF dX10_weighs_83 84 rfl ?_
          rw [nI_1]
          refine g_i2l hF dX10_weighs_84 85 rfl ?_
          rw [nI_l (by omega)]
          refine g_ldiv hF dX10_weighs_85 86 rfl (fun y => absurd ((pk_lEQ (b := 0) (by omega) (by omega)).mp y) (by omega)) ?_
          rw [pk_lDiv hmul (by omega) (by omega), ← ewt]
          refine g_lstore hF dX10_weighs_86 88 rfl (lo' := [_, _, _, _, _, _, _, _]) (Nat.le_of_ble_eq_true rfl) rfl ?_
          refine g_iinc hF dX10_weighs_88 91 rfl (1) rfl (lo' := [_, _, _, _, _, _, _, _]) rfl rfl ?_
          refine g_goto hF dX10_weighs_91 34 (by decide) ?_
          exact ih (j + 1) _ _ _ (by omega) (by omega) (nI_succ j).symm (fun _ => rfl) hws2
      · obtain rfl : j = N + 1 := by omega
        refine g_iload hF dX10_weighs_34 36 rfl rfl ?_
        refine g_iload_n hF dX10_weighs_36 37 rfl rfl ?_
        refine g_icmp_gt hF dX10_weighs_37 40 rfl 94 (by decide) (fun _ => ?_) (fun c => absurd (nI_lt (by omega) (by omega)) c)
        exact g_vret hF dX10_weighs_94 (Nat.le_of_ble_eq_true rfl) (Nat.le_of_ble_eq_true rfl) (fun H h => hR _ _ ⟨rfl, ⟨ws, fun k hk => hw k (by omega), h⟩⟩)
  have loop1 : ∀ (n j : Nat) (i : Int32) (f : Int64), N + 1 - j < n → 1 ≤ j → j ≤ N → i = nI (j + 1) → f = lN (fct j) → go l (rm 1) E x 0 0 (Mm E c (flat v) pf im ss kp bk ws cg ls nq dd sd en wh ro) [some (.ref c), some (.int (nI N)), some (.int (nI A)), some (.int (nI R)), some (.int (nI B)), some (.long f), none, some (.int i)] 6 [] := by
    intro n
    induction n with
    | zero => intro j i f h; omega
    | succ n ih =>
      intro j i f hn0 j1 hj hi hf
      subst hi
      by_cases hlt : j + 1 ≤ N
      · refine g_iload hF dX10_weighs_6 8 rfl rfl ?_
        refine g_iload_n hF dX10_weighs_8 9 rfl rfl ?_
        refine g_icmp_gt hF dX10_weighs_9 12 rfl 26 (by decide) (fun c => absurd c (fun y => absurd (i_lt y (by omega) (by omega)) (by omega))) (fun _ => ?_)
        refine g_lload hF dX10_weighs_12 14 rfl rfl ?_
        refine g_iload hF dX10_weighs_14 16 rfl rfl ?_
        refine g_i2l hF dX10_weighs_16 17 rfl ?_
        rw [nI_l (by omega)]
        refine g_lmul hF dX10_weighs_17 18 rfl ?_
        rw [hf, lN_mul]
        refine g_lstore hF dX10_weighs_18 20 rfl (lo' := [_, _, _, _, _, _, _, _]) (Nat.le_of_ble_eq_true rfl) rfl ?_
        refine g_iinc hF dX10_weighs_20 23 rfl (1) rfl (lo' := [_, _, _, _, _, _, _, _]) rfl rfl ?_
        refine g_goto hF dX10_weighs_23 6 (by decide) ?_
        exact ih (j + 1) _ _ (by omega) (by omega) (by omega) (nI_succ (j + 1)).symm rfl
      · have hjN : j = N := by omega
        refine g_iload hF dX10_weighs_6 8 rfl rfl ?_
        refine g_iload_n hF dX10_weighs_8 9 rfl rfl ?_
        refine g_icmp_gt hF dX10_weighs_9 12 rfl 26 (by decide) (fun _ => ?_) (fun c => absurd (nI_lt (by omega) (by omega)) c)
        refine g_aload_n hF dX10_weighs_26 27 rfl rfl ?_
        refine g_lconst hF (0) dX10_weighs_27 28 rfl rfl ?_
        refine g_put hF pl_X10_147 dX10_weighs_28 31 rfl (by intro H h; first | exact h.1 | exact h.2.1 | exact h.2.2.1 | exact h.2.2.2.1 | exact h.2.2.2.2.1 | exact h.2.2.2.2.2.1 | exact h.2.2.2.2.2.2.1 | exact h.2.2.2.2.2.2.2.1 | exact h.2.2.2.2.2.2.2.2.1 | exact h.2.2.2.2.2.2.2.2.2.1 | exact h.2.2.2.2.2.2.2.2.2.2) (Nat.le_of_ble_eq_true rfl) rfl rfl (hA _ ⟨by omega, by omega⟩) (Pr' := Mm E c (flat v) pf im ss kp bk ws cg ls nq dd sd en (lN (sW (wt (fct N) 1 N A R B) 0)) ro) (fun H H' h h1 h2 => by exact h.fld h1 h2) ?_
        refine g_iconst hF (0) dX10_weighs_31 32 rfl rfl ?_
        refine g_istore hF dX10_weighs_32 34 rfl (lo' := [_, _, _, _, _, _, _, _]) (Nat.le_of_ble_eq_true rfl) rfl ?_
        exact loop2 (N + 2) 0 0 _ _ (by omega) (by omega) nI_0.symm (fun _ => by rw [hf, hjN]; rfl) (fun k hk => by omega)
  refine g_lconst hF (1) dX10_weighs_0 1 rfl rfl ?_
  refine g_lstore hF dX10_weighs_1 3 rfl (lo' := [_, _, _, _, _, _, _, _]) (Nat.le_of_ble_eq_true rfl) rfl ?_
  refine g_iconst hF (2) dX10_weighs_3 4 rfl rfl ?_
  refine g_istore hF dX10_weighs_4 6 rfl (lo' := [_, _, _, _, _, _, _, _]) (Nat.le_of_ble_eq_true rfl) rfl ?_
  exact loop1 (N + 2) 1 2 1 (by omega) (by omega) (by omega) (by decide) (by decide)
end MV6
def cdE : Nat → Int64 → Int64 → Prop
  | 0, _, y => y = 0
  | n + 1, x, y => y = 0 ∨ cdE n y (x - x / y * y)
theorem cd_z (n : Nat) (x : Int64) : cd64 n x 0 = x := by
  cases n with
  | zero => rfl
  | succ n => exact if_pos rfl
set_option maxRecDepth 100000 in
set_option maxHeartbeats 16000000 in
theorem c_M_gcd (l : Launch) (E : Ev) (x0 y0 : Int64) (P : Heap → Prop) (hE : cdE 100 x0 y0) : Ct l E yX10_gcd cX10_gcd 10 (some .long) (rm 1) [.long x0, .long y0] P (rV (some (.long (cd64 100 x0 y0))) P) (fun _ => False) := by
  refine ct_start (by decide) [some (.long x0), none, some (.long y0), none, none, none, none, none, none, none] rfl (Nat.le_of_ble_eq_true rfl) ?_
  intro x hF hN0 hA hR
  have loop : ∀ (n : Nat) (p q : Int64), cdE n p q → cd64 100 x0 y0 = cd64 n p q → go l (rm 1) E x 0 0 P [some (.long x0), none, some (.long y0), none, some (.long p), none, some (.long q), none, none, none] 6 [] := by
    intro n
    induction n with
    | zero =>
      intro p q hq hv
      refine g_lload hF dX10_gcd_6 8 rfl rfl ?_
      refine g_lconst hF (0) dX10_gcd_8 9 rfl rfl ?_
      refine g_lcmp hF dX10_gcd_9 10 rfl ?_
      refine g_if_eq hF dX10_gcd_10 13 rfl 31 (by decide) (fun _ => ?_) (fun c => absurd (lc_eq.mpr hq) c)
      refine g_lload hF dX10_gcd_31 33 rfl rfl ?_
      exact g_lret hF dX10_gcd_33 (Nat.le_of_ble_eq_true rfl) (Nat.le_of_ble_eq_true rfl) (fun H h => hR _ _ ⟨congrArg (fun z => some (Value.long z)) (by rw [hv, show q = 0 from hq]; rfl), h⟩)
    | succ n ih =>
      intro p q hq hv
      by_cases hz : q = 0
      · refine g_lload hF dX10_gcd_6 8 rfl rfl ?_
        refine g_lconst hF (0) dX10_gcd_8 9 rfl rfl ?_
        refine g_lcmp hF dX10_gcd_9 10 rfl ?_
        refine g_if_eq hF dX10_gcd_10 13 rfl 31 (by decide) (fun _ => ?_) (fun c => absurd (lc_eq.mpr hz) c)
        refine g_lload hF dX10_gcd_31 33 rfl rfl ?_
        exact g_lret hF dX10_gcd_33 (Nat.le_of_ble_eq_true rfl) (Nat.le_of_ble_eq_true rfl) (fun H h => hR _ _ ⟨congrArg (fun z => some (Value.long z)) (by rw [hv, hz, cd_z]), h⟩)
      · refine g_lload hF dX10_gcd_6 8 rfl rfl ?_
        refine g_lconst hF (0) dX10_gcd_8 9 rfl rfl ?_
        refine g_lcmp hF dX10_gcd_9 10 rfl ?_
        refine g_if_eq hF dX10_gcd_10 13 rfl 31 (by decide) (fun c => absurd c (fun y => hz (lc_eq.mp y))) (fun _ => ?_)
        refine g_lload hF dX10_gcd_13 15 rfl rfl ?_
        refine g_lload hF dX10_gcd_15 17 rfl rfl ?_
        refine g_lrem hF dX10_gcd_17 18 rfl (hz) ?_
        refine g_lstore hF dX10_gcd_18 20 rfl (lo' := [_, _, _, _, _, _, _, _, _, _]) (Nat.le_of_ble_eq_true rfl) rfl ?_
        refine g_lload hF dX10_gcd_20 22 rfl rfl ?_
        refine g_lstore hF dX10_gcd_22 24 rfl (lo' := [_, _, _, _, _, _, _, _, _, _]) (Nat.le_of_ble_eq_true rfl) rfl ?_
        refine g_lload hF dX10_gcd_24 26 rfl rfl ?_
        refine g_lstore hF dX10_gcd_26 28 rfl (lo' := [_, _, _, _, _, _, _, _, _, _]) (Nat.le_of_ble_eq_true rfl) rfl ?_
        refine g_goto hF dX10_gcd_28 6 (by decide) ?_
        refine g_cut [true, true, true, true, true, true, true, true, false, false] (lo' := [_, _, _, _, _, _, _, _, _, _]) rfl ?_
        exact ih _ _ (hq.resolve_left hz) (hv.trans (if_neg hz))
  refine g_lload_n hF dX10_gcd_0 1 rfl rfl ?_
  refine g_lstore hF dX10_gcd_1 3 rfl (lo' := [_, _, _, _, _, _, _, _, _, _]) (Nat.le_of_ble_eq_true rfl) rfl ?_
  refine g_lload_n hF dX10_gcd_3 4 rfl rfl ?_
  refine g_lstore hF dX10_gcd_4 6 rfl (lo' := [_, _, _, _, _, _, _, _, _, _]) (Nat.le_of_ble_eq_true rfl) rfl ?_
  exact loop 100 _ _ hE rfl
set_option maxRecDepth 100000 in
set_option maxHeartbeats 16000000 in
theorem c_M_part (l : Launch) (E : Ev) (x0 y0 : Int64) (z : Int32) (P : Heap → Prop) (hE : cdE 100 x0 y0) (hz : ¬ cd64 100 x0 y0 = 0) : Ct l E yX10_part cX10_part 5 (some .long) (rm 2) [.long x0, .long y0, .int z] P (rV (some (.long ((if z = 0 then x0 else y0) / cd64 100 x0 y0))) P) (fun _ => False) := by
  refine ct_start (by decide) [some (.long x0), none, some (.long y0), none, some (.int z)] rfl (Nat.le_of_ble_eq_true rfl) ?_
  intro x hF hN0 hA hR
  by_cases h0 : z = 0
  · rw [if_pos h0] at hR
    refine g_iload hF dX10_part_0 2 rfl rfl ?_
    refine g_if_ne hF dX10_part_2 5 rfl 9 (by decide) (fun c => absurd (h0) c) (fun _ => ?_)
    refine g_lload_n hF dX10_part_5 6 rfl rfl ?_
    refine g_goto hF dX10_part_6 10 (by decide) ?_
    refine g_lload_n hF dX10_part_10 11 rfl rfl ?_
    refine g_lload_n hF dX10_part_11 12 rfl rfl ?_
    refine g_callS hF cs_X10_150 (c_M_gcd l E x0 y0 P hE) dX10_part_12 15 rfl (st := [_]) rfl rfl ⟨Nat.le_of_ble_eq_true rfl, Nat.le_of_ble_eq_true rfl⟩ ⟨Nat.le_of_ble_eq_true rfl, Nat.le_of_ble_eq_true rfl⟩ rfl (Nat.le_of_ble_eq_true rfl) (Pr' := _) (fun _ h => h) (fun q z => z.elim) (fun _ _ _ h _ => by exact h) (st1 := [_, _]) rfl (k1 := 0) (n1 := 0) rfl rfl ?_
    refine g_ldiv hF dX10_part_15 16 rfl (hz) ?_
    exact g_lret hF dX10_part_16 (Nat.le_of_ble_eq_true rfl) (Nat.le_of_ble_eq_true rfl) (fun H h => hR _ _ ⟨congrArg (fun z => some (Value.long z)) (rfl), h⟩)
  · rw [if_neg h0] at hR
    refine g_iload hF dX10_part_0 2 rfl rfl ?_
    refine g_if_ne hF dX10_part_2 5 rfl 9 (by decide) (fun _ => ?_) (fun c => absurd c (h0))
    refine g_lload_n hF dX10_part_9 10 rfl rfl ?_
    refine g_lload_n hF dX10_part_10 11 rfl rfl ?_
    refine g_lload_n hF dX10_part_11 12 rfl rfl ?_
    refine g_callS hF cs_X10_150 (c_M_gcd l E x0 y0 P hE) dX10_part_12 15 rfl (st := [_]) rfl rfl ⟨Nat.le_of_ble_eq_true rfl, Nat.le_of_ble_eq_true rfl⟩ ⟨Nat.le_of_ble_eq_true rfl, Nat.le_of_ble_eq_true rfl⟩ rfl (Nat.le_of_ble_eq_true rfl) (Pr' := _) (fun _ h => h) (fun q z => z.elim) (fun _ _ _ h _ => by exact h) (st1 := [_, _]) rfl (k1 := 0) (n1 := 0) rfl rfl ?_
    refine g_ldiv hF dX10_part_15 16 rfl (hz) ?_
    exact g_lret hF dX10_part_16 (Nat.le_of_ble_eq_true rfl) (Nat.le_of_ble_eq_true rfl) (fun H h => hR _ _ ⟨congrArg (fun z => some (Value.long z)) (rfl), h⟩)
