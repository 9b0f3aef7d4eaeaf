/-! TrunkReserveModel: all groups at once -/
theorem sn_0 {gs : Nat → Nat → Int32} {ls : Nat → Nat} {G T : Nat} (hG : G ≤ 4) (ho : ∀ g, g < 4 → okG G T g (gs g)) {h : Nat} (h1 : G ≤ h) (h2 : h < 4) : ∀ k, k ≤ 4 → sn gs ls k h = 0
  | 0, _ => rfl
  | k + 1, hk => by
    unfold sn
    rw [sn_0 hG ho h1 h2 k (by omega), if_neg (fun y => ?_)]
    rcases (ho k (by omega)).2.2.1 with q | ⟨w, w1, w2, w3⟩
    · exact nI_nm1 (t := h) (by omega) (y.symm.trans q)
    · have := (nI_eq (by omega) (by omega)).mp (y.symm.trans w3)
      omega
section MV7
variable (l : Launch) (E : Ev) (c : Nat) (v : NV) (pf im : Nat → Int32) (ss : Nat → Int64) (kp bk : Nat → Int32) (ws : Nat → Int64) (cg ls nq : Nat → Int32) (dd : Int32) (sd : Int64) (en : Int32) (wh : Int64) (ro : Int32)
set_option maxRecDepth 100000 in
set_option maxHeartbeats 16000000 in
theorem c_M_loses (G T : Nat) (b : Nat → Nat) (hG : v.1 = nI G) (hG4 : G ≤ 4) (ho : ∀ g, g < 4 → okG G T g (v.2.2.2 g)) (hb : ∀ g, g < 4 → cg g = nI (b g) ∧ b g ≤ 18000) : Ct l E yX10_loses cX10_loses 8 none (rm 2) [.ref c] (Mm E c (flat v) pf im ss kp bk ws cg ls nq dd sd en wh ro) (rV none (fun H => ∃ ls' nq', (∀ g, g < G → ls' g = nI (pP (v.2.2.2 g) (b g))) ∧ (∀ g, g < G → nq' g = 0) ∧ Mm E c (flat v) pf im ss kp bk ws cg ls' nq' dd sd en wh ro H)) (rg c 11) := by
  refine ct_start (by decide) [some (.ref c), none, none, none, none, none, none, none] rfl (Nat.le_of_ble_eq_true rfl) ?_
  intro x hF hN0 hA hR
  have e0 : flat v (0 : Int32).toNatClampNeg = nI G := hG
  have e3 : (1000 : Int32) = nI 1000 := by decide
  have e3l : (1000 : Int64) = lN 1000 := by decide
  have loop : ∀ (n j : Nat) (i : Int32) (ls nq : Nat → Int32), G - j < n → j ≤ G → i = nI j → (∀ g, g < j → ls g = nI (pP (v.2.2.2 g) (b g))) → (∀ g, g < j → nq g = 0) → go l (rm 2) E x 0 0 (Mm E c (flat v) pf im ss kp bk ws cg ls nq dd sd en wh ro) [some (.ref c), some (.int i), none, none, none, none, none, none] 2 [] := by
    intro n
    induction n with
    | zero => intro j i ls nq h; omega
    | succ n ih =>
      intro j i ls nq hn1 hj hi hls hnq
      subst hi
      by_cases hlt : j < G
      · have hj4 : j < 4 := by omega
        obtain ⟨⟨N, n1, n6, n0, R, rN, r0⟩, ⟨A, a6, ha⟩, -⟩ := ho j hj4
        obtain ⟨hb1, hb2⟩ := hb j hj4
        have ep : pP (v.2.2.2 j) (b j) = 1000 * wt 1000000 1000 N A R (b j) N / sW (wt 1000000 1000 N A R (b j)) (N + 1) := by unfold pP pPn nN nA nR; rw [n0, ha, r0, nI_clamp (by omega), nI_clamp (by omega), nI_clamp (by omega)]
        have hs0 : 1000000 ≤ sW (wt 1000000 1000 N A R (b j)) (N + 1) := sW_ge (wt 1000000 1000 N A R (b j)) (N + 1) 0 (by omega)
        have hs1 := sW_le7 (w := wt 1000000 1000 N A R (b j)) (B := 191102976000000) (fun k hk => wt_lt (by omega) (by omega) a6 (show b j ≤ 18 * 1000 by omega) (show k ≤ 6 by omega)) (N + 1) (show N + 1 ≤ 7 by omega)
        have hs2 : (N + 1) * 191102976000000 ≤ 7 * 191102976000000 := Nat.mul_le_mul_right _ (by omega)
        have hwN := wt_lt (first := 1000000) (parts := 1000) (N := N) (R := R) (k := N) (by omega) (by omega) a6 (show b j ≤ 18 * 1000 by omega) n6
        have inner : ∀ (m k : Nat) (i : Int32) (s1 s2 : Int64), N - k < m → k ≤ N → i = nI k → s1 = lN (wt 1000000 1000 N A R (b j) k) → s2 = lN (sW (wt 1000000 1000 N A R (b j)) (k + 1)) → go l (rm 2) E x 0 0 (Mm E c (flat v) pf im ss kp bk ws cg ls nq dd sd en wh ro) [some (.ref c), some (.int (nI j)), some (.long s1), none, some (.long s2), none, some (.int i), none] 22 [] := by
          intro m
          induction m with
          | zero => intro k i s1 s2 h; omega
          | succ m ihm =>
            intro k i s1 s2 hm hk hi h1 h2
            subst hi
            by_cases hlk : k < N
            · have esub : nI N - nI k = nI (N - k) := by rw [show nI N = nI (N - k) + nI k by rw [nI_add]; congr 1; omega, Int32.add_sub_cancel]
              have hwk := wt_lt (first := 1000000) (parts := 1000) (N := N) (R := R) (k := k) (by omega) (by omega) a6 (show b j ≤ 18 * 1000 by omega) (by omega)
              have hc24 : cm 1000 N A R (b j) k ≤ 24000 := by unfold cm; split <;> omega
              have hmul : wt 1000000 1000 N A R (b j) k * cm 1000 N A R (b j) k < 2 ^ 63 := by
                have q1 : wt 1000000 1000 N A R (b j) k * cm 1000 N A R (b j) k ≤ 191102976000000 * 24000 := Nat.mul_le_mul hwk hc24
                omega
              have ecm1 : R < N - k → 1000 * A + b j = cm 1000 N A R (b j) k := fun y => by unfold cm; rw [if_pos y]
              have ecm0 : ¬ R < N - k → 1000 * A = cm 1000 N A R (b j) k := fun y => by unfold cm; rw [if_neg y]; omega
              refine g_iload hF dX10_loses_22 24 rfl rfl ?_
              refine g_aload_n hF dX10_loses_24 25 rfl rfl ?_
              refine g_iload_n hF dX10_loses_25 26 rfl rfl ?_
              refine g_iconst hF (0) dX10_loses_26 27 rfl rfl ?_
              rw [show (0 : Int32) = nI 0 by decide]
              refine g_callV hF cv_X10_54 (c_M_of l E c v pf im ss kp bk ws cg ls nq dd sd en wh ro j 0 hj4 (by omega)) dX10_loses_27 30 rfl (st := [_]) rfl rfl ⟨Nat.le_of_ble_eq_true rfl, Nat.le_of_ble_eq_true rfl⟩ ⟨Nat.le_of_ble_eq_true rfl, Nat.le_of_ble_eq_true rfl⟩ rfl (Nat.le_of_ble_eq_true rfl) 10 rfl (by intro H h; first | exact h.1 | exact h.2.1 | exact h.2.2.1 | exact h.2.2.2.1 | exact h.2.2.2.2.1 | exact h.2.2.2.2.2.1 | exact h.2.2.2.2.2.2.1 | exact h.2.2.2.2.2.2.2.1 | exact h.2.2.2.2.2.2.2.2.1 | exact h.2.2.2.2.2.2.2.2.2.1 | exact h.2.2.2.2.2.2.2.2.2.2) (Pr' := _) (fun _ h => h) (fun q z => z.elim) (fun _ _ _ h _ => by exact h) (st1 := [_, _]) rfl (k1 := 0) (n1 := 0) rfl rfl ?_
              rw [n0]
              refine g_icmp_ge hF dX10_loses_30 33 rfl 102 (by decide) (fun c => absurd c (fun y => absurd (i_le y (by omega) (by omega)) (by omega))) (fun _ => ?_)
              refine g_sipush hF (1000) dX10_loses_33 36 rfl rfl ?_
              refine g_aload_n hF dX10_loses_36 37 rfl rfl ?_
              refine g_iload_n hF dX10_loses_37 38 rfl rfl ?_
              refine g_iconst hF (1) dX10_loses_38 39 rfl rfl ?_
              rw [show (1 : Int32) = nI 1 by decide]
              refine g_callV hF cv_X10_54 (c_M_of l E c v pf im ss kp bk ws cg ls nq dd sd en wh ro j 1 hj4 (by omega)) dX10_loses_39 42 rfl (st := [_]) rfl rfl ⟨Nat.le_of_ble_eq_true rfl, Nat.le_of_ble_eq_true rfl⟩ ⟨Nat.le_of_ble_eq_true rfl, Nat.le_of_ble_eq_true rfl⟩ rfl (Nat.le_of_ble_eq_true rfl) 10 rfl (by intro H h; first | exact h.1 | exact h.2.1 | exact h.2.2.1 | exact h.2.2.2.1 | exact h.2.2.2.2.1 | exact h.2.2.2.2.2.1 | exact h.2.2.2.2.2.2.1 | exact h.2.2.2.2.2.2.2.1 | exact h.2.2.2.2.2.2.2.2.1 | exact h.2.2.2.2.2.2.2.2.2.1 | exact h.2.2.2.2.2.2.2.2.2.2) (Pr' := _) (fun _ h => h) (fun q z => z.elim) (fun _ _ _ h _ => by exact h) (st1 := [_, _]) rfl (k1 := 0) (n1 := 0) rfl rfl ?_
              rw [ha]
              refine g_imul hF dX10_loses_42 43 rfl ?_
              rw [e3, pk_mul]
              refine g_aload_n hF dX10_loses_43 44 rfl rfl ?_
              refine g_iload_n hF dX10_loses_44 45 rfl rfl ?_
              refine g_iconst hF (0) dX10_loses_45 46 rfl rfl ?_
              rw [show (0 : Int32) = nI 0 by decide]
              refine g_callV hF cv_X10_54 (c_M_of l E c v pf im ss kp bk ws cg ls nq dd sd en wh ro j 0 hj4 (by omega)) dX10_loses_46 49 rfl (st := [_]) rfl rfl ⟨Nat.le_of_ble_eq_true rfl, Nat.le_of_ble_eq_true rfl⟩ ⟨Nat.le_of_ble_eq_true rfl, Nat.le_of_ble_eq_true rfl⟩ rfl (Nat.le_of_ble_eq_true rfl) 10 rfl (by intro H h; first | exact h.1 | exact h.2.1 | exact h.2.2.1 | exact h.2.2.2.1 | exact h.2.2.2.2.1 | exact h.2.2.2.2.2.1 | exact h.2.2.2.2.2.2.1 | exact h.2.2.2.2.2.2.2.1 | exact h.2.2.2.2.2.2.2.2.1 | exact h.2.2.2.2.2.2.2.2.2.1 | exact h.2.2.2.2.2.2.2.2.2.2) (Pr' := _) (fun _ h => h) (fun q z => z.elim) (fun _ _ _ h _ => by exact h) (st1 := [_, _]) rfl (k1 := 0) (n1 := 0) rfl rfl ?_
              rw [n0]
              refine g_iload hF dX10_loses_49 51 rfl rfl ?_
              refine g_isub hF dX10_loses_51 52 rfl ?_
              rw [esub]
              refine g_aload_n hF dX10_loses_52 53 rfl rfl ?_
              refine g_iload_n hF dX10_loses_53 54 rfl rfl ?_
              refine g_iconst hF (2) dX10_loses_54 55 rfl rfl ?_
              rw [show (2 : Int32) = nI 2 by decide]
              refine g_callV hF cv_X10_54 (c_M_of l E c v pf im ss kp bk ws cg ls nq dd sd en wh ro j 2 hj4 (by omega)) dX10_loses_55 58 rfl (st := [_, _]) rfl rfl ⟨Nat.le_of_ble_eq_true rfl, Nat.le_of_ble_eq_true rfl⟩ ⟨Nat.le_of_ble_eq_true rfl, Nat.le_of_ble_eq_true rfl⟩ rfl (Nat.le_of_ble_eq_true rfl) 10 rfl (by intro H h; first | exact h.1 | exact h.2.1 | exact h.2.2.1 | exact h.2.2.2.1 | exact h.2.2.2.2.1 | exact h.2.2.2.2.2.1 | exact h.2.2.2.2.2.2.1 | exact h.2.2.2.2.2.2.2.1 | exact h.2.2.2.2.2.2.2.2.1 | exact h.2.2.2.2.2.2.2.2.2.1 | exact h.2.2.2.2.2.2.2.2.2.2) (Pr' := _) (fun _ h => h) (fun q z => z.elim) (fun _ _ _ h _ => by exact h) (st1 := [_, _, _]) rfl (k1 := 0) (n1 := 0) rfl rfl ?_
              rw [r0]
              refine g_icmp_le hF dX10_loses_58 61 rfl 70 (by decide) (fun c58 => ?_) (fun c58 => ?_)
              · refine g_iconst hF (0) dX10_loses_70 71 rfl rfl ?_
                refine g_iadd hF dX10_loses_71 72 rfl ?_
                rw [show nI (1000 * A) + 0 = nI (cm 1000 N A R (b j) k) from (Int32.add_zero _).trans (congrArg nI (ecm0 (Nat.not_lt.mpr (i_le c58 (by omega) (by omega)))))]
                refine g_istore hF dX10_loses_72 74 rfl (lo' := [_, _, _, _, _, _, _, _]) (Nat.le_of_ble_eq_true rfl) rfl ?_
                refine g_lload_n hF dX10_loses_74 75 rfl rfl ?_
                refine g_iload hF dX10_loses_75 77 rfl rfl ?_
                refine g_i2l hF dX10_loses_77 78 rfl ?_
                rw [nI_l (by omega)]
                refine g_lmul hF dX10_loses_78 79 rfl ?_
                rw [h1, lN_mul]
                refine g_ldc2 hF kc_X10_96 dX10_loses_79 82 rfl ?_
                refine g_iload hF dX10_loses_82 84 rfl rfl ?_
                refine g_iconst hF (1) dX10_loses_84 85 rfl rfl ?_
                refine g_iadd hF dX10_loses_85 86 rfl ?_
                rw [nI_1]
                refine g_i2l hF dX10_loses_86 87 rfl ?_
                rw [nI_l (by omega)]
                refine g_lmul hF dX10_loses_87 88 rfl ?_
                rw [e3l, lN_mul]
                refine g_ldiv hF dX10_loses_88 89 rfl (fun y => absurd ((pk_lEQ (b := 0) (by omega) (by omega)).mp y) (by omega)) ?_
                rw [pk_lDiv hmul (by omega) (by omega), show wt 1000000 1000 N A R (b j) k * cm 1000 N A R (b j) k / (1000 * (k + 1)) = wt 1000000 1000 N A R (b j) (k + 1) from rfl]
                refine g_lstore_n hF dX10_loses_89 90 rfl (lo' := [_, _, _, _, _, _, _, _]) (Nat.le_of_ble_eq_true rfl) rfl ?_
                refine g_lload hF dX10_loses_90 92 rfl rfl ?_
                refine g_lload_n hF dX10_loses_92 93 rfl rfl ?_
                refine g_ladd hF dX10_loses_93 94 rfl ?_
                rw [h2, lN_add]
                refine g_lstore hF dX10_loses_94 96 rfl (lo' := [_, _, _, _, _, _, _, _]) (Nat.le_of_ble_eq_true rfl) rfl ?_
                refine g_iinc hF dX10_loses_96 99 rfl (1) rfl (lo' := [_, _, _, _, _, _, _, _]) rfl rfl ?_
                refine g_goto hF dX10_loses_99 22 (by decide) ?_
                refine g_cut [true, true, true, true, true, true, true, false] (lo' := [_, _, _, _, _, _, _, _]) rfl ?_
                exact ihm (k + 1) _ _ _ (by omega) (by omega) (nI_succ k).symm rfl rfl
              · refine g_aload_n hF dX10_loses_61 62 rfl rfl ?_
                refine g_get hF fl_X10_33 dX10_loses_62 65 rfl (by intro H h; first | exact h.1 | exact h.2.1 | exact h.2.2.1 | exact h.2.2.2.1 | exact h.2.2.2.2.1 | exact h.2.2.2.2.2.1 | exact h.2.2.2.2.2.2.1 | exact h.2.2.2.2.2.2.2.1 | exact h.2.2.2.2.2.2.2.2.1 | exact h.2.2.2.2.2.2.2.2.2.1 | exact h.2.2.2.2.2.2.2.2.2.2) rfl ?_
                refine g_iload_n hF dX10_loses_65 66 rfl rfl ?_
                refine g_iald hF dX10_loses_66 67 rfl (by intro H h; first | exact h.1 | exact h.2.1 | exact h.2.2.1 | exact h.2.2.2.1 | exact h.2.2.2.2.1 | exact h.2.2.2.2.2.1 | exact h.2.2.2.2.2.2.1 | exact h.2.2.2.2.2.2.2.1 | exact h.2.2.2.2.2.2.2.2.1 | exact h.2.2.2.2.2.2.2.2.2.1 | exact h.2.2.2.2.2.2.2.2.2.2) (vp_in_nI hj4 (by omega)) ?_
                rw [nI_clamp (by omega), hb1]
                refine g_goto hF dX10_loses_67 71 (by decide) ?_
                refine g_iadd hF dX10_loses_71 72 rfl ?_
                rw [nI_add, ecm1 (i_nle c58 (by omega) (by omega))]
                refine g_istore hF dX10_loses_72 74 rfl (lo' := [_, _, _, _, _, _, _, _]) (Nat.le_of_ble_eq_true rfl) rfl ?_
                refine g_lload_n hF dX10_loses_74 75 rfl rfl ?_
                refine g_iload hF dX10_loses_75 77 rfl rfl ?_
                refine g_i2l hF dX10_loses_77 78 rfl ?_
                rw [nI_l (by omega)]
                refine g_lmul hF dX10_loses_78 79 rfl ?_
                rw [h1, lN_mul]
                refine g_ldc2 hF kc_X10_96 dX10_loses_79 82 rfl ?_
                refine g_iload hF dX10_loses_82 84 rfl rfl ?_
                refine g_iconst hF (1) dX10_loses_84 85 rfl rfl ?_
                refine g_iadd hF dX10_loses_85 86 rfl ?_
                rw [nI_1]
                refine g_i2l hF dX10_loses_86 87 rfl ?_
                rw [nI_l (by omega)]
                refine g_lmul hF dX10_loses_87 88 rfl ?_
                rw [e3l, lN_mul]
                refine g_ldiv hF dX10_loses_88 89 rfl (fun y => absurd ((pk_lEQ (b := 0) (by omega) (by omega)).mp y) (by omega)) ?_
                rw [pk_lDiv hmul (by omega) (by omega), show wt 1000000 1000 N A R (b j) k * cm 1000 N A R (b j) k / (1000 * (k + 1)) = wt 1000000 1000 N A R (b j) (k + 1) from rfl]
                refine g_lstore_n hF dX10_loses_89 90 rfl (lo' := [_, _, _, _, _, _, _, _]) (Nat.le_of_ble_eq_true rfl) rfl ?_
                refine g_lload hF dX10_loses_90 92 rfl rfl ?_
                refine g_lload_n hF dX10_loses_92 93 rfl rfl ?_
                refine g_ladd hF dX10_loses_93 94 rfl ?_
                rw [h2, lN_add]
                refine g_lstore hF dX10_loses_94 96 rfl (lo' := [_, _, _, _, _, _, _, _]) (Nat.le_of_ble_eq_true rfl) rfl ?_
                refine g_iinc hF dX10_loses_96 99 rfl (1) rfl (lo' := [_, _, _, _, _, _, _, _]) rfl rfl ?_
                refine g_goto hF dX10_loses_99 22 (by decide) ?_
                refine g_cut [true, true, true, true, true, true, true, false] (lo' := [_, _, _, _, _, _, _, _]) rfl ?_
                exact ihm (k + 1) _ _ _ (by omega) (by omega) (nI_succ k).symm rfl rfl
            · obtain rfl : N = k := by omega
              refine g_iload hF dX10_loses_22 24 rfl rfl ?_
              refine g_aload_n hF dX10_loses_24 25 rfl rfl ?_
              refine g_iload_n hF dX10_loses_25 26 rfl rfl ?_
              refine g_iconst hF (0) dX10_loses_26 27 rfl rfl ?_
              rw [show (0 : Int32) = nI 0 by decide]
              refine g_callV hF cv_X10_54 (c_M_of l E c v pf im ss kp bk ws cg ls nq dd sd en wh ro j 0 hj4 (by omega)) dX10_loses_27 30 rfl (st := [_]) rfl rfl ⟨Nat.le_of_ble_eq_true rfl, Nat.le_of_ble_eq_true rfl⟩ ⟨Nat.le_of_ble_eq_true rfl, Nat.le_of_ble_eq_true rfl⟩ rfl (Nat.le_of_ble_eq_true rfl) 10 rfl (by intro H h; first | exact h.1 | exact h.2.1 | exact h.2.2.1 | exact h.2.2.2.1 | exact h.2.2.2.2.1 | exact h.2.2.2.2.2.1 | exact h.2.2.2.2.2.2.1 | exact h.2.2.2.2.2.2.2.1 | exact h.2.2.2.2.2.2.2.2.1 | exact h.2.2.2.2.2.2.2.2.2.1 | exact h.2.2.2.2.2.2.2.2.2.2) (Pr' := _) (fun _ h => h) (fun q z => z.elim) (fun _ _ _ h _ => by exact h) (st1 := [_, _]) rfl (k1 := 0) (n1 := 0) rfl rfl ?_
              rw [n0]
              refine g_icmp_ge hF dX10_loses_30 33 rfl 102 (by decide) (fun _ => ?_) (fun c => absurd (nI_le (by omega) (by omega)) c)
              refine g_aload_n hF dX10_loses_102 103 rfl rfl ?_
              refine g_get hF fl_X10_36 dX10_loses_103 106 rfl (by intro H h; first | exact h.1 | exact h.2.1 | exact h.2.2.1 | exact h.2.2.2.1 | exact h.2.2.2.2.1 | exact h.2.2.2.2.2.1 | exact h.2.2.2.2.2.2.1 | exact h.2.2.2.2.2.2.2.1 | exact h.2.2.2.2.2.2.2.2.1 | exact h.2.2.2.2.2.2.2.2.2.1 | exact h.2.2.2.2.2.2.2.2.2.2) rfl ?_
              refine g_iload_n hF dX10_loses_106 107 rfl rfl ?_
              refine g_ldc2 hF kc_X10_96 dX10_loses_107 110 rfl ?_
              refine g_lload_n hF dX10_loses_110 111 rfl rfl ?_
              refine g_lmul hF dX10_loses_111 112 rfl ?_
              rw [e3l, h1, lN_mul]
              refine g_lload hF dX10_loses_112 114 rfl rfl ?_
              rw [h2]
              refine g_ldiv hF dX10_loses_114 115 rfl (fun y => absurd ((pk_lEQ (b := 0) (by omega) (by omega)).mp y) (by omega)) ?_
              rw [pk_lDiv (by omega) (by omega) (by omega)]
              refine g_l2i hF dX10_loses_115 116 rfl ?_
              rw [lN_i, ← ep]
              refine g_iast hF dX10_loses_116 117 rfl (by intro H h; first | exact h.1 | exact h.2.1 | exact h.2.2.1 | exact h.2.2.2.1 | exact h.2.2.2.2.1 | exact h.2.2.2.2.2.1 | exact h.2.2.2.2.2.2.1 | exact h.2.2.2.2.2.2.2.1 | exact h.2.2.2.2.2.2.2.2.1 | exact h.2.2.2.2.2.2.2.2.2.1 | exact h.2.2.2.2.2.2.2.2.2.2) (vp_in_nI hj4 (by omega)) (hA _ ⟨by omega, by omega⟩) (Pr' := Mm E c (flat v) pf im ss kp bk ws cg (upd ls j (nI (pP (v.2.2.2 j) (b j)))) nq dd sd en wh ro) (fun H H' h h1 h2 => by rw [nI_clamp (by omega)] at h1; exact h.ls h1 h2) ?_
              refine g_aload_n hF dX10_loses_117 118 rfl rfl ?_
              refine g_get hF fl_X10_39 dX10_loses_118 121 rfl (by intro H h; first | exact h.1 | exact h.2.1 | exact h.2.2.1 | exact h.2.2.2.1 | exact h.2.2.2.2.1 | exact h.2.2.2.2.2.1 | exact h.2.2.2.2.2.2.1 | exact h.2.2.2.2.2.2.2.1 | exact h.2.2.2.2.2.2.2.2.1 | exact h.2.2.2.2.2.2.2.2.2.1 | exact h.2.2.2.2.2.2.2.2.2.2) rfl ?_
              refine g_iload_n hF dX10_loses_121 122 rfl rfl ?_
              refine g_iconst hF (0) dX10_loses_122 123 rfl rfl ?_
              refine g_iast hF dX10_loses_123 124 rfl (by intro H h; first | exact h.1 | exact h.2.1 | exact h.2.2.1 | exact h.2.2.2.1 | exact h.2.2.2.2.1 | exact h.2.2.2.2.2.1 | exact h.2.2.2.2.2.2.1 | exact h.2.2.2.2.2.2.2.1 | exact h.2.2.2.2.2.2.2.2.1 | exact h.2.2.2.2.2.2.2.2.2.1 | exact h.2.2.2.2.2.2.2.2.2.2) (vp_in_nI hj4 (by omega)) (hA _ ⟨by omega, by omega⟩) (Pr' := Mm E c (flat v) pf im ss kp bk ws cg (upd ls j (nI (pP (v.2.2.2 j) (b j)))) (upd nq j 0) dd sd en wh ro) (fun H H' h h1 h2 => by rw [nI_clamp (by omega)] at h1; exact h.nq h1 h2) ?_
              refine g_iinc hF dX10_loses_124 127 rfl (1) rfl (lo' := [_, _, _, _, _, _, _, _]) rfl rfl ?_
              refine g_goto hF dX10_loses_127 2 (by decide) ?_
              refine g_cut [true, true, false, false, false, false, false, false] (lo' := [_, _, _, _, _, _, _, _]) rfl ?_
              exact ih (j + 1) _ _ _ (by omega) (by omega) (nI_succ j).symm (fun g hg => if e : g = j then by rw [e, pk_us] else by rw [pk_un e]; exact hls g (by omega)) (fun g hg => if e : g = j then by rw [e, pk_us] else by rw [pk_un e]; exact hnq g (by omega))
        refine g_iload_n hF dX10_loses_2 3 rfl rfl ?_
        refine g_aload_n hF dX10_loses_3 4 rfl rfl ?_
        refine g_get hF fl_X10_7 dX10_loses_4 7 rfl (by intro H h; first | exact h.1 | exact h.2.1 | exact h.2.2.1 | exact h.2.2.2.1 | exact h.2.2.2.2.1 | exact h.2.2.2.2.2.1 | exact h.2.2.2.2.2.2.1 | exact h.2.2.2.2.2.2.2.1 | exact h.2.2.2.2.2.2.2.2.1 | exact h.2.2.2.2.2.2.2.2.2.1 | exact h.2.2.2.2.2.2.2.2.2.2) rfl ?_
        refine g_iconst hF (0) dX10_loses_7 8 rfl rfl ?_
        refine g_iald hF dX10_loses_8 9 rfl (by intro H h; first | exact h.1 | exact h.2.1 | exact h.2.2.1 | exact h.2.2.2.1 | exact h.2.2.2.2.1 | exact h.2.2.2.2.2.1 | exact h.2.2.2.2.2.2.1 | exact h.2.2.2.2.2.2.2.1 | exact h.2.2.2.2.2.2.2.2.1 | exact h.2.2.2.2.2.2.2.2.2.1 | exact h.2.2.2.2.2.2.2.2.2.2) (vp_in_nI (show 0 < 139 by omega) (by omega)) ?_
        rw [e0]
        refine g_icmp_ge hF dX10_loses_9 12 rfl 130 (by decide) (fun c => absurd c (fun y => absurd (i_le y (by omega) (by omega)) (by omega))) (fun _ => ?_)
        refine g_ldc2 hF kc_X10_94 dX10_loses_12 15 rfl ?_
        refine g_lstore_n hF dX10_loses_15 16 rfl (lo' := [_, _, _, _, _, _, _, _]) (Nat.le_of_ble_eq_true rfl) rfl ?_
        refine g_lload_n hF dX10_loses_16 17 rfl rfl ?_
        refine g_lstore hF dX10_loses_17 19 rfl (lo' := [_, _, _, _, _, _, _, _]) (Nat.le_of_ble_eq_true rfl) rfl ?_
        refine g_iconst hF (0) dX10_loses_19 20 rfl rfl ?_
        refine g_istore hF dX10_loses_20 22 rfl (lo' := [_, _, _, _, _, _, _, _]) (Nat.le_of_ble_eq_true rfl) rfl ?_
        exact inner (N + 1) 0 0 _ _ (by omega) (by omega) nI_0.symm (show (1000000 : Int64) = lN 1000000 by decide) (show (1000000 : Int64) = lN (0 + 1000000) by decide)
      · refine g_iload_n hF dX10_loses_2 3 rfl rfl ?_
        refine g_aload_n hF dX10_loses_3 4 rfl rfl ?_
        refine g_get hF fl_X10_7 dX10_loses_4 7 rfl (by intro H h; first | exact h.1 | exact h.2.1 | exact h.2.2.1 | exact h.2.2.2.1 | exact h.2.2.2.2.1 | exact h.2.2.2.2.2.1 | exact h.2.2.2.2.2.2.1 | exact h.2.2.2.2.2.2.2.1 | exact h.2.2.2.2.2.2.2.2.1 | exact h.2.2.2.2.2.2.2.2.2.1 | exact h.2.2.2.2.2.2.2.2.2.2) rfl ?_
        refine g_iconst hF (0) dX10_loses_7 8 rfl rfl ?_
        refine g_iald hF dX10_loses_8 9 rfl (by intro H h; first | exact h.1 | exact h.2.1 | exact h.2.2.1 | exact h.2.2.2.1 | exact h.2.2.2.2.1 | exact h.2.2.2.2.2.1 | exact h.2.2.2.2.2.2.1 | exact h.2.2.2.2.2.2.2.1 | exact h.2.2.2.2.2.2.2.2.1 | exact h.2.2.2.2.2.2.2.2.2.1 | exact h.2.2.2.2.2.2.2.2.2.2) (vp_in_nI (show 0 < 139 by omega) (by omega)) ?_
        rw [e0]
        refine g_icmp_ge hF dX10_loses_9 12 rfl 130 (by decide) (fun _ => ?_) (fun c => absurd (nI_le (by omega) (by omega)) c)
        exact g_vret hF dX10_loses_130 (Nat.le_of_ble_eq_true rfl) (Nat.le_of_ble_eq_true rfl) (fun H h => hR _ _ ⟨rfl, ⟨ls, nq, fun g hg => hls g (by omega), fun g hg => hnq g (by omega), h⟩⟩)
  refine g_iconst hF (0) dX10_loses_0 1 rfl rfl ?_
  refine g_istore_n hF dX10_loses_1 2 rfl (lo' := [_, _, _, _, _, _, _, _]) (Nat.le_of_ble_eq_true rfl) rfl ?_
  exact loop (G + 1) 0 0 _ _ (by omega) (by omega) nI_0.symm (fun g hg => by omega) (fun g hg => by omega)
end MV7
