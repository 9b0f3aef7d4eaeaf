/-! TrunkReserveModel: what goes over, and its spread -/
def ovM (N A : Nat) : Int64 × Int64 := bcm (lN (A * wt (fct N) 1 N A 0 0 N)) (lN (sW (wt (fct N) 1 N A 0 0) (N + 1)))
def cdB : Nat → Int64 → Int64 → Bool
  | 0, _, y => decide (y = 0)
  | n + 1, x, y => decide (y = 0) || cdB n y (x - x / y * y)
theorem cdB_E : ∀ (n : Nat) (x y : Int64), cdB n x y = true → cdE n x y
  | 0, _, y, h => of_decide_eq_true (p := y = 0) h
  | n + 1, x, y, h => by
    unfold cdB at h
    rw [Bool.or_eq_true] at h
    exact h.imp of_decide_eq_true (cdB_E n _ _)
def ovC (N A : Nat) (m d : Int64) : Bool :=
  (fun u => (fun ab => (fun one two => (fun X Y => cdB 100 m u && (cdB 100 ab d && (decide (¬ one = 0) && (decide (¬ two = 0) && (cdB 100 X Y && (decide (¬ cd64 100 X Y = 0) && decide (spr m d (nI N) (nI A) = (X / cd64 100 X Y, Y / cd64 100 X Y))))))))
    (m / one * (ab / two)) (d * (d / two) * (u / one))) (cd64 100 m u) (cd64 100 ab d)) ((d - m) * u + (nI A).toInt64 * d * d)) ((nI N + 1 - nI A).toInt64 * d + m)
theorem ov_all : ∀ N, N < 7 → ∀ A, A < 7 → N = 0 ∨ ovC N A (ovM N A).1 (ovM N A).2 = true := by decide +kernel
theorem ov_ok {N A : Nat} (n1 : 1 ≤ N) (n6 : N ≤ 6) (a6 : A ≤ 6) {m d u ab one two X Y : Int64} (hm : m = (ovM N A).1) (hd : d = (ovM N A).2) (hu : u = (nI N + 1 - nI A).toInt64 * d + m) (hab : ab = (d - m) * u + (nI A).toInt64 * d * d) (h1 : one = cd64 100 m u) (h2 : two = cd64 100 ab d) (hX : X = m / one * (ab / two)) (hY : Y = d * (d / two) * (u / one)) : cdE 100 m u ∧ cdE 100 ab d ∧ ¬ one = 0 ∧ ¬ two = 0 ∧ cdE 100 X Y ∧ ¬ cd64 100 X Y = 0 ∧ spr m d (nI N) (nI A) = (X / cd64 100 X Y, Y / cd64 100 X Y) := by
  have h := (ov_all N (by omega) A (by omega)).resolve_left (by omega)
  rw [← hm, ← hd] at h
  unfold ovC at h
  dsimp only at h
  rw [← hu, ← hab, ← h1, ← h2, ← hX, ← hY] at h
  simp only [Bool.and_eq_true] at h
  obtain ⟨q1, q2, q3, q4, q5, q6, q7⟩ := h
  exact ⟨cdB_E _ _ _ q1, cdB_E _ _ _ q2, of_decide_eq_true q3, of_decide_eq_true q4, cdB_E _ _ _ q5, of_decide_eq_true q6, of_decide_eq_true q7⟩
theorem bcm_N {p q : Nat} (hp : p < 2 ^ 43) (hq : q < 2 ^ 43) (q0 : 0 < q) : bcm (lN p) (lN q) = (lN p / cd64 100 (lN p) (lN q), lN q / cd64 100 (lN p) (lN q)) := by
  unfold bcm
  rw [lN_ab (by omega), lN_ab (by omega), if_neg (fun y => y.elim (lN_ne (by omega) (by omega)) (part_ok hp hq q0).2), if_neg (show ¬ lN q < 0 from fun y => absurd ((pk_lLT (a := q) (b := 0) (by omega) (by omega)).mp y) (by omega))]
set_option maxRecDepth 100000 in
set_option maxHeartbeats 16000000 in
theorem c_E_over (l : Launch) (E : Ev) (c T : Nat) (σ : AS) (hv0 : okV T σ.1) (z w : Int32) : Ct l E yX10_over cX10_over 17 (some .long) (rm 6) [.ref c, .int z, .int w] (MS E c σ) (rV (some (.long (fOver σ z w))) (MS E c σ)) (rg c 11) := by
  refine ct_start (by decide) [some (.ref c), some (.int z), some (.int w), none, none, none, none, none, none, none, none, none, none, none, none, none, none] rfl (Nat.le_of_ble_eq_true rfl) ?_
  intro x hF hN hA hR
  obtain ⟨v, hv, d, iv, isd, ik, bg, bl, bs, nb, sd⟩ := σ
  refine g_openM (fun pf im ss bk ws cm ls nq wh ro hr => ?_)
  dsimp only at hv0
  obtain ⟨G, hG, G1, G4, hGc, ho, hn⟩ := okN hv0
  by_cases hz : z < 0 ∨ v.1 ≤ z
  · rw [show fOver (v, hv, d, iv, isd, ik, bg, bl, bs, nb, sd) z w = -1000000001 from if_pos hz] at hR
    refine g_aload_n hF dX10_over_0 1 rfl rfl ?_
    refine g_iload_n hF dX10_over_1 2 rfl rfl ?_
    refine g_callV hF cv_X10_50 (c_M_isGroup l E c v pf im ss ik bk ws cm ls nq (nI d) (lN sd) (nI nb) wh ro G hG G1 G4 z) dX10_over_2 5 rfl (st := []) rfl rfl ⟨Nat.le_of_ble_eq_true rfl, Nat.le_of_ble_eq_true rfl⟩ ⟨Nat.le_of_ble_eq_true rfl, Nat.le_of_ble_eq_true rfl⟩ rfl (Nat.le_of_ble_eq_true rfl) 10 rfl (by intro H h; first | exact h.1 | exact h.2.1 | exact h.2.2.1 | exact h.2.2.2.1 | exact h.2.2.2.2.1 | exact h.2.2.2.2.2.1 | exact h.2.2.2.2.2.2.1 | exact h.2.2.2.2.2.2.2.1 | exact h.2.2.2.2.2.2.2.2.1 | exact h.2.2.2.2.2.2.2.2.2.1 | exact h.2.2.2.2.2.2.2.2.2.2) (Pr' := _) (fun _ h => h) (fun q z => z.elim) (fun _ _ _ h _ => by exact h) (st1 := [_]) rfl (k1 := 0) (n1 := 0) rfl rfl ?_
    refine g_if_ne hF dX10_over_5 8 rfl 12 (by decide) (fun c => absurd (iy0.mpr hz) c) (fun _ => ?_)
    refine g_ldc2 hF kc_X10_154 dX10_over_8 11 rfl ?_
    exact g_lret hF dX10_over_11 (Nat.le_of_ble_eq_true rfl) (Nat.le_of_ble_eq_true rfl) (fun H h => hR _ _ ⟨congrArg (fun z => some (Value.long z)) (rfl), MS.mk hr h⟩)
  · rcases pk_ix z (n := G) (by omega) with hz1 | hz1 | ⟨g, hg, rfl⟩
    · exact absurd (Or.inl hz1) hz
    · exact absurd (Or.inr (hG ▸ hz1)) hz
    · have hg4 : g < 4 := by omega
      obtain ⟨⟨N, n1, n6, n0, R, rN, r0⟩, ⟨A, a6, ha⟩, -⟩ := ho g hg4
      have eN : nN (v.2.2.2 g) = N := by unfold nN; rw [n0, nI_clamp (by omega)]
      have eA : nA (v.2.2.2 g) = A := by unfold nA; rw [ha, nI_clamp (by omega)]
      have eR : nR (v.2.2.2 g) = R := by unfold nR; rw [r0, nI_clamp (by omega)]
      by_cases hq : 0 ≤ w ∧ w ≤ 3
      · obtain ⟨m, -, m5, rfl⟩ := btw (a := 0) (b := 3) (by omega) (by omega) hq
        rw [show fOver (v, hv, d, iv, isd, ik, bg, bl, bs, nb, sd) (nI g) (nI m) = prt (frO (v.2.2.2 g) m) m by unfold fOver; rw [if_neg hz, if_neg (fun y => y hq), nI_clamp (by omega), nI_clamp (by omega)]] at hR
        obtain ⟨sb1, sb2⟩ := sW_b (N := N) (A := A) (R := 0) (B := 0) n6 a6 (by omega)
        have b1 : wt (fct N) 1 N A 0 0 N ≤ sW (wt (fct N) 1 N A 0 0) (N + 1) := sW_ge _ (N + 1) N (by omega)
        have b2 : A * wt (fct N) 1 N A 0 0 N ≤ 6 * sW (wt (fct N) 1 N A 0 0) (N + 1) := Nat.mul_le_mul a6 b1
        have pk := part_ok (p := A * wt (fct N) 1 N A 0 0 N) (q := sW (wt (fct N) 1 N A 0 0) (N + 1)) (by omega) (by omega) sb1
        have eM : frM (v.2.2.2 g) = ovM N A := by unfold frM wE ovM; rw [eN, eA]
        have eB := bcm_N (p := A * wt (fct N) 1 N A 0 0 N) (q := sW (wt (fct N) 1 N A 0 0) (N + 1)) (by omega) (by omega) sb1
        obtain ⟨m0, hm0⟩ : ∃ q, q = (ovM N A).1 := ⟨_, rfl⟩
        obtain ⟨d0, hd0⟩ : ∃ q, q = (ovM N A).2 := ⟨_, rfl⟩
        have em : (lN (A * wt (fct N) 1 N A 0 0 N)) / cd64 100 (lN (A * wt (fct N) 1 N A 0 0 N)) (lN (sW (wt (fct N) 1 N A 0 0) (N + 1))) = m0 := by rw [hm0]; unfold ovM; rw [eB]
        have ed : (lN (sW (wt (fct N) 1 N A 0 0) (N + 1))) / cd64 100 (lN (A * wt (fct N) 1 N A 0 0 N)) (lN (sW (wt (fct N) 1 N A 0 0) (N + 1))) = d0 := by rw [hd0]; unfold ovM; rw [eB]
        by_cases h2 : m < 2
        · have er : prt (frO (v.2.2.2 g) m) m = if m = 0 then m0 else d0 := by
            unfold frO
            rw [if_pos h2, eM, hm0, hd0]
            unfold prt
            rcases (show m = 0 ∨ m = 1 by omega) with rfl | rfl <;> rfl
          rw [er] at hR
          rcases (show m = 0 ∨ m = 1 by omega) with rfl | rfl
          · refine g_aload_n hF dX10_over_0 1 rfl rfl ?_
            refine g_iload_n hF dX10_over_1 2 rfl rfl ?_
            refine g_callV hF cv_X10_50 (c_M_isGroup l E c v pf im ss ik bk ws cm ls nq (nI d) (lN sd) (nI nb) wh ro G hG G1 G4 (nI g)) dX10_over_2 5 rfl (st := []) rfl rfl ⟨Nat.le_of_ble_eq_true rfl, Nat.le_of_ble_eq_true rfl⟩ ⟨Nat.le_of_ble_eq_true rfl, Nat.le_of_ble_eq_true rfl⟩ rfl (Nat.le_of_ble_eq_true rfl) 10 rfl (by intro H h; first | exact h.1 | exact h.2.1 | exact h.2.2.1 | exact h.2.2.2.1 | exact h.2.2.2.2.1 | exact h.2.2.2.2.2.1 | exact h.2.2.2.2.2.2.1 | exact h.2.2.2.2.2.2.2.1 | exact h.2.2.2.2.2.2.2.2.1 | exact h.2.2.2.2.2.2.2.2.2.1 | exact h.2.2.2.2.2.2.2.2.2.2) (Pr' := _) (fun _ h => h) (fun q z => z.elim) (fun _ _ _ h _ => by exact h) (st1 := [_]) rfl (k1 := 0) (n1 := 0) rfl rfl ?_
            refine g_if_ne hF dX10_over_5 8 rfl 12 (by decide) (fun _ => ?_) (fun c => absurd c (fun y => hz (iy0.mp y)))
            refine g_iload_n hF dX10_over_12 13 rfl rfl ?_
            refine g_iconst hF (0) dX10_over_13 14 rfl rfl ?_
            refine g_iconst hF (3) dX10_over_14 15 rfl rfl ?_
            refine g_callS hF cs_X10_46 (c_M_in l E (nI 0) (0) (3) (Mm E c (flat v) pf im ss ik bk ws cm ls nq (nI d) (lN sd) (nI nb) wh ro) 1 ((if_pos hq).symm)) dX10_over_15 18 rfl (st := []) rfl rfl ⟨Nat.le_of_ble_eq_true rfl, Nat.le_of_ble_eq_true rfl⟩ ⟨Nat.le_of_ble_eq_true rfl, Nat.le_of_ble_eq_true rfl⟩ rfl (Nat.le_of_ble_eq_true rfl) (Pr' := _) (fun _ h => h) (fun q z => z.elim) (fun _ _ _ h _ => by exact h) (st1 := [_]) rfl (k1 := 0) (n1 := 0) rfl rfl ?_
            refine g_if_ne hF dX10_over_18 21 rfl 25 (by decide) (fun _ => ?_) (fun c => absurd c ((by decide)))
            refine g_aload_n hF dX10_over_25 26 rfl rfl ?_
            refine g_iload_n hF dX10_over_26 27 rfl rfl ?_
            refine g_iconst hF (0) dX10_over_27 28 rfl rfl ?_
            rw [show (0 : Int32) = nI 0 by decide]
            refine g_callV hF cv_X10_54 (c_M_of l E c v pf im ss ik bk ws cm ls nq (nI d) (lN sd) (nI nb) wh ro g 0 hg4 (by omega)) dX10_over_28 31 rfl (st := []) rfl rfl ⟨Nat.le_of_ble_eq_true rfl, Nat.le_of_ble_eq_true rfl⟩ ⟨Nat.le_of_ble_eq_true rfl, Nat.le_of_ble_eq_true rfl⟩ rfl (Nat.le_of_ble_eq_true rfl) 10 rfl (by intro H h; first | exact h.1 | exact h.2.1 | exact h.2.2.1 | exact h.2.2.2.1 | exact h.2.2.2.2.1 | exact h.2.2.2.2.2.1 | exact h.2.2.2.2.2.2.1 | exact h.2.2.2.2.2.2.2.1 | exact h.2.2.2.2.2.2.2.2.1 | exact h.2.2.2.2.2.2.2.2.2.1 | exact h.2.2.2.2.2.2.2.2.2.2) (Pr' := _) (fun _ h => h) (fun q z => z.elim) (fun _ _ _ h _ => by exact h) (st1 := [_]) rfl (k1 := 0) (n1 := 0) rfl rfl ?_
            rw [n0]
            refine g_istore_n hF dX10_over_31 32 rfl (lo' := [_, _, _, _, _, _, _, _, _, _, _, _, _, _, _, _, _]) (Nat.le_of_ble_eq_true rfl) rfl ?_
            refine g_aload_n hF dX10_over_32 33 rfl rfl ?_
            refine g_iload_n hF dX10_over_33 34 rfl rfl ?_
            refine g_iconst hF (1) dX10_over_34 35 rfl rfl ?_
            rw [show (1 : Int32) = nI 1 by decide]
            refine g_callV hF cv_X10_54 (c_M_of l E c v pf im ss ik bk ws cm ls nq (nI d) (lN sd) (nI nb) wh ro g 1 hg4 (by omega)) dX10_over_35 38 rfl (st := []) rfl rfl ⟨Nat.le_of_ble_eq_true rfl, Nat.le_of_ble_eq_true rfl⟩ ⟨Nat.le_of_ble_eq_true rfl, Nat.le_of_ble_eq_true rfl⟩ rfl (Nat.le_of_ble_eq_true rfl) 10 rfl (by intro H h; first | exact h.1 | exact h.2.1 | exact h.2.2.1 | exact h.2.2.2.1 | exact h.2.2.2.2.1 | exact h.2.2.2.2.2.1 | exact h.2.2.2.2.2.2.1 | exact h.2.2.2.2.2.2.2.1 | exact h.2.2.2.2.2.2.2.2.1 | exact h.2.2.2.2.2.2.2.2.2.1 | exact h.2.2.2.2.2.2.2.2.2.2) (Pr' := _) (fun _ h => h) (fun q z => z.elim) (fun _ _ _ h _ => by exact h) (st1 := [_]) rfl (k1 := 0) (n1 := 0) rfl rfl ?_
            rw [ha]
            refine g_istore hF dX10_over_38 40 rfl (lo' := [_, _, _, _, _, _, _, _, _, _, _, _, _, _, _, _, _]) (Nat.le_of_ble_eq_true rfl) rfl ?_
            refine g_aload_n hF dX10_over_40 41 rfl rfl ?_
            refine g_iload_n hF dX10_over_41 42 rfl rfl ?_
            refine g_iload hF dX10_over_42 44 rfl rfl ?_
            refine g_iconst hF (0) dX10_over_44 45 rfl rfl ?_
            refine g_iconst hF (0) dX10_over_45 46 rfl rfl ?_
            refine g_callV hF cv_X10_158 (c_M_weighs l E c v pf im ss ik bk ws cm ls nq (nI d) (lN sd) (nI nb) wh ro N A 0 0 n1 n6 a6 (by omega) (by omega)) dX10_over_46 49 rfl (st := []) rfl rfl ⟨Nat.le_of_ble_eq_true rfl, Nat.le_of_ble_eq_true rfl⟩ ⟨Nat.le_of_ble_eq_true rfl, Nat.le_of_ble_eq_true rfl⟩ rfl (Nat.le_of_ble_eq_true rfl) 10 rfl (by intro H h; first | exact h.1 | exact h.2.1 | exact h.2.2.1 | exact h.2.2.2.1 | exact h.2.2.2.2.1 | exact h.2.2.2.2.2.1 | exact h.2.2.2.2.2.2.1 | exact h.2.2.2.2.2.2.2.1 | exact h.2.2.2.2.2.2.2.2.1 | exact h.2.2.2.2.2.2.2.2.2.1 | exact h.2.2.2.2.2.2.2.2.2.2) (Pr' := _) (fun _ h => h) (hA) (fun _ _ _ h _ => by exact h) (st1 := []) rfl (k1 := 0) (n1 := 0) rfl rfl ?_
            refine g_ex (fun ws1 => ?_)
            refine g_pure (fun H h => h.1) (fun hw => ?_)
            refine g_pr (fun H h => h.2) ?_
            refine g_iload hF dX10_over_49 51 rfl rfl ?_
            refine g_i2l hF dX10_over_51 52 rfl ?_
            rw [nI_l (by omega)]
            refine g_aload_n hF dX10_over_52 53 rfl rfl ?_
            refine g_get hF fl_X10_30 dX10_over_53 56 rfl (by intro H h; first | exact h.1 | exact h.2.1 | exact h.2.2.1 | exact h.2.2.2.1 | exact h.2.2.2.2.1 | exact h.2.2.2.2.2.1 | exact h.2.2.2.2.2.2.1 | exact h.2.2.2.2.2.2.2.1 | exact h.2.2.2.2.2.2.2.2.1 | exact h.2.2.2.2.2.2.2.2.2.1 | exact h.2.2.2.2.2.2.2.2.2.2) rfl ?_
            refine g_iload_n hF dX10_over_56 57 rfl rfl ?_
            refine g_lald hF dX10_over_57 58 rfl (by intro H h; first | exact h.1 | exact h.2.1 | exact h.2.2.1 | exact h.2.2.2.1 | exact h.2.2.2.2.1 | exact h.2.2.2.2.2.1 | exact h.2.2.2.2.2.2.1 | exact h.2.2.2.2.2.2.2.1 | exact h.2.2.2.2.2.2.2.2.1 | exact h.2.2.2.2.2.2.2.2.2.1 | exact h.2.2.2.2.2.2.2.2.2.2) (vp_in_nI (show N < 7 by omega) (by omega)) ?_
            rw [nI_clamp (by omega), hw N (by omega)]
            refine g_lmul hF dX10_over_58 59 rfl ?_
            rw [lN_mul]
            refine g_aload_n hF dX10_over_59 60 rfl rfl ?_
            refine g_get hF fl_X10_147 dX10_over_60 63 rfl (by intro H h; first | exact h.1 | exact h.2.1 | exact h.2.2.1 | exact h.2.2.2.1 | exact h.2.2.2.2.1 | exact h.2.2.2.2.2.1 | exact h.2.2.2.2.2.2.1 | exact h.2.2.2.2.2.2.2.1 | exact h.2.2.2.2.2.2.2.2.1 | exact h.2.2.2.2.2.2.2.2.2.1 | exact h.2.2.2.2.2.2.2.2.2.2) rfl ?_
            refine g_iconst hF (0) dX10_over_63 64 rfl rfl ?_
            refine g_callS hF cs_X10_162 (c_M_part l E (lN (A * wt (fct N) 1 N A 0 0 N)) (lN (sW (wt (fct N) 1 N A 0 0) (N + 1))) 0 (Mm E c (flat v) pf im ss ik bk ws1 cm ls nq (nI d) (lN sd) (nI nb) (lN (sW (wt (fct N) 1 N A 0 0) (N + 1))) ro) pk.1 pk.2) dX10_over_64 67 rfl (st := []) rfl rfl ⟨Nat.le_of_ble_eq_true rfl, Nat.le_of_ble_eq_true rfl⟩ ⟨Nat.le_of_ble_eq_true rfl, Nat.le_of_ble_eq_true rfl⟩ rfl (Nat.le_of_ble_eq_true rfl) (Pr' := _) (fun _ h => h) (fun q z => z.elim) (fun _ _ _ h _ => by exact h) (st1 := [_]) rfl (k1 := 0) (n1 := 0) rfl rfl ?_
            rw [show (if (0 : Int32) = 0 then (lN (A * wt (fct N) 1 N A 0 0 N)) else (lN (sW (wt (fct N) 1 N A 0 0) (N + 1)))) = (lN (A * wt (fct N) 1 N A 0 0 N)) from if_pos rfl, em]
            refine g_lstore hF dX10_over_67 69 rfl (lo' := [_, _, _, _, _, _, _, _, _, _, _, _, _, _, _, _, _]) (Nat.le_of_ble_eq_true rfl) rfl ?_
            refine g_iload hF dX10_over_69 71 rfl rfl ?_
            refine g_i2l hF dX10_over_71 72 rfl ?_
            rw [nI_l (by omega)]
            refine g_aload_n hF dX10_over_72 73 rfl rfl ?_
            refine g_get hF fl_X10_30 dX10_over_73 76 rfl (by intro H h; first | exact h.1 | exact h.2.1 | exact h.2.2.1 | exact h.2.2.2.1 | exact h.2.2.2.2.1 | exact h.2.2.2.2.2.1 | exact h.2.2.2.2.2.2.1 | exact h.2.2.2.2.2.2.2.1 | exact h.2.2.2.2.2.2.2.2.1 | exact h.2.2.2.2.2.2.2.2.2.1 | exact h.2.2.2.2.2.2.2.2.2.2) rfl ?_
            refine g_iload_n hF dX10_over_76 77 rfl rfl ?_
            refine g_lald hF dX10_over_77 78 rfl (by intro H h; first | exact h.1 | exact h.2.1 | exact h.2.2.1 | exact h.2.2.2.1 | exact h.2.2.2.2.1 | exact h.2.2.2.2.2.1 | exact h.2.2.2.2.2.2.1 | exact h.2.2.2.2.2.2.2.1 | exact h.2.2.2.2.2.2.2.2.1 | exact h.2.2.2.2.2.2.2.2.2.1 | exact h.2.2.2.2.2.2.2.2.2.2) (vp_in_nI (show N < 7 by omega) (by omega)) ?_
            rw [nI_clamp (by omega), hw N (by omega)]
            refine g_lmul hF dX10_over_78 79 rfl ?_
            rw [lN_mul]
            refine g_aload_n hF dX10_over_79 80 rfl rfl ?_
            refine g_get hF fl_X10_147 dX10_over_80 83 rfl (by intro H h; first | exact h.1 | exact h.2.1 | exact h.2.2.1 | exact h.2.2.2.1 | exact h.2.2.2.2.1 | exact h.2.2.2.2.2.1 | exact h.2.2.2.2.2.2.1 | exact h.2.2.2.2.2.2.2.1 | exact h.2.2.2.2.2.2.2.2.1 | exact h.2.2.2.2.2.2.2.2.2.1 | exact h.2.2.2.2.2.2.2.2.2.2) rfl ?_
            refine g_iconst hF (1) dX10_over_83 84 rfl rfl ?_
            refine g_callS hF cs_X10_162 (c_M_part l E (lN (A * wt (fct N) 1 N A 0 0 N)) (lN (sW (wt (fct N) 1 N A 0 0) (N + 1))) 1 (Mm E c (flat v) pf im ss ik bk ws1 cm ls nq (nI d) (lN sd) (nI nb) (lN (sW (wt (fct N) 1 N A 0 0) (N + 1))) ro) pk.1 pk.2) dX10_over_84 87 rfl (st := []) rfl rfl ⟨Nat.le_of_ble_eq_true rfl, Nat.le_of_ble_eq_true rfl⟩ ⟨Nat.le_of_ble_eq_true rfl, Nat.le_of_ble_eq_true rfl⟩ rfl (Nat.le_of_ble_eq_true rfl) (Pr' := _) (fun _ h => h) (fun q z => z.elim) (fun _ _ _ h _ => by exact h) (st1 := [_]) rfl (k1 := 0) (n1 := 0) rfl rfl ?_
            rw [show (if (1 : Int32) = 0 then (lN (A * wt (fct N) 1 N A 0 0 N)) else (lN (sW (wt (fct N) 1 N A 0 0) (N + 1)))) = (lN (sW (wt (fct N) 1 N A 0 0) (N + 1))) from if_neg (by decide), ed]
            refine g_lstore hF dX10_over_87 89 rfl (lo' := [_, _, _, _, _, _, _, _, _, _, _, _, _, _, _, _, _]) (Nat.le_of_ble_eq_true rfl) rfl ?_
            refine g_iload_n hF dX10_over_89 90 rfl rfl ?_
            refine g_iconst hF (2) dX10_over_90 91 rfl rfl ?_
            refine g_icmp_ge hF dX10_over_91 94 rfl 106 (by decide) (fun c => absurd c (by decide)) (fun _ => ?_)
            refine g_iload_n hF dX10_over_94 95 rfl rfl ?_
            refine g_if_ne hF dX10_over_95 98 rfl 103 (by decide) (fun c => absurd (rfl) c) (fun _ => ?_)
            refine g_lload hF dX10_over_98 100 rfl rfl ?_
            refine g_goto hF dX10_over_100 105 (by decide) ?_
            exact g_lret hF dX10_over_105 (Nat.le_of_ble_eq_true rfl) (Nat.le_of_ble_eq_true rfl) (fun H h => hR _ _ ⟨congrArg (fun z => some (Value.long z)) (rfl), MS.mk hr h⟩)
          · refine g_aload_n hF dX10_over_0 1 rfl rfl ?_
            refine g_iload_n hF dX10_over_1 2 rfl rfl ?_
            refine g_callV hF cv_X10_50 (c_M_isGroup l E c v pf im ss ik bk ws cm ls nq (nI d) (lN sd) (nI nb) wh ro G hG G1 G4 (nI g)) dX10_over_2 5 rfl (st := []) rfl rfl ⟨Nat.le_of_ble_eq_true rfl, Nat.le_of_ble_eq_true rfl⟩ ⟨Nat.le_of_ble_eq_true rfl, Nat.le_of_ble_eq_true rfl⟩ rfl (Nat.le_of_ble_eq_true rfl) 10 rfl (by intro H h; first | exact h.1 | exact h.2.1 | exact h.2.2.1 | exact h.2.2.2.1 | exact h.2.2.2.2.1 | exact h.2.2.2.2.2.1 | exact h.2.2.2.2.2.2.1 | exact h.2.2.2.2.2.2.2.1 | exact h.2.2.2.2.2.2.2.2.1 | exact h.2.2.2.2.2.2.2.2.2.1 | exact h.2.2.2.2.2.2.2.2.2.2) (Pr' := _) (fun _ h => h) (fun q z => z.elim) (fun _ _ _ h _ => by exact h) (st1 := [_]) rfl (k1 := 0) (n1 := 0) rfl rfl ?_
            refine g_if_ne hF dX10_over_5 8 rfl 12 (by decide) (fun _ => ?_) (fun c => absurd c (fun y => hz (iy0.mp y)))
            refine g_iload_n hF dX10_over_12 13 rfl rfl ?_
            refine g_iconst hF (0) dX10_over_13 14 rfl rfl ?_
            refine g_iconst hF (3) dX10_over_14 15 rfl rfl ?_
            refine g_callS hF cs_X10_46 (c_M_in l E (nI 1) (0) (3) (Mm E c (flat v) pf im ss ik bk ws cm ls nq (nI d) (lN sd) (nI nb) wh ro) 1 ((if_pos hq).symm)) dX10_over_15 18 rfl (st := []) rfl rfl ⟨Nat.le_of_ble_eq_true rfl, Nat.le_of_ble_eq_true rfl⟩ ⟨Nat.le_of_ble_eq_true rfl, Nat.le_of_ble_eq_true rfl⟩ rfl (Nat.le_of_ble_eq_true rfl) (Pr' := _) (fun _ h => h) (fun q z => z.elim) (fun _ _ _ h _ => by exact h) (st1 := [_]) rfl (k1 := 0) (n1 := 0) rfl rfl ?_
            refine g_if_ne hF dX10_over_18 21 rfl 25 (by decide) (fun _ => ?_) (fun c => absurd c ((by decide)))
            refine g_aload_n hF dX10_over_25 26 rfl rfl ?_
            refine g_iload_n hF dX10_over_26 27 rfl rfl ?_
            refine g_iconst hF (0) dX10_over_27 28 rfl rfl ?_
            rw [show (0 : Int32) = nI 0 by decide]
            refine g_callV hF cv_X10_54 (c_M_of l E c v pf im ss ik bk ws cm ls nq (nI d) (lN sd) (nI nb) wh ro g 0 hg4 (by omega)) dX10_over_28 31 rfl (st := []) rfl rfl ⟨Nat.le_of_ble_eq_true rfl, Nat.le_of_ble_eq_true rfl⟩ ⟨Nat.le_of_ble_eq_true rfl, Nat.le_of_ble_eq_true rfl⟩ rfl (Nat.le_of_ble_eq_true rfl) 10 rfl (by intro H h; first | exact h.1 | exact h.2.1 | exact h.2.2.1 | exact h.2.2.2.1 | exact h.2.2.2.2.1 | exact h.2.2.2.2.2.1 | exact h.2.2.2.2.2.2.1 | exact h.2.2.2.2.2.2.2.1 | exact h.2.2.2.2.2.2.2.2.1 | exact h.2.2.2.2.2.2.2.2.2.1 | exact h.2.2.2.2.2.2.2.2.2.2) (Pr' := _) (fun _ h => h) (fun q z => z.elim) (fun _ _ _ h _ => by exact h) (st1 := [_]) rfl (k1 := 0) (n1 := 0) rfl rfl ?_
            rw [n0]
            refine g_istore_n hF dX10_over_31 32 rfl (lo' := [_, _, _, _, _, _, _, _, _, _, _, _, _, _, _, _, _]) (Nat.le_of_ble_eq_true rfl) rfl ?_
            refine g_aload_n hF dX10_over_32 33 rfl rfl ?_
            refine g_iload_n hF dX10_over_33 34 rfl rfl ?_
            refine g_iconst hF (1) dX10_over_34 35 rfl rfl ?_
            rw [show (1 : Int32) = nI 1 by decide]
            refine g_callV hF cv_X10_54 (c_M_of l E c v pf im ss ik bk ws cm ls nq (nI d) (lN sd) (nI nb) wh ro g 1 hg4 (by omega)) dX10_over_35 38 rfl (st := []) rfl rfl ⟨Nat.le_of_ble_eq_true rfl, Nat.le_of_ble_eq_true rfl⟩ ⟨Nat.le_of_ble_eq_true rfl, Nat.le_of_ble_eq_true rfl⟩ rfl (Nat.le_of_ble_eq_true rfl) 10 rfl (by intro H h; first | exact h.1 | exact h.2.1 | exact h.2.2.1 | exact h.2.2.2.1 | exact h.2.2.2.2.1 | exact h.2.2.2.2.2.1 | exact h.2.2.2.2.2.2.1 | exact h.2.2.2.2.2.2.2.1 | exact h.2.2.2.2.2.2.2.2.1 | exact h.2.2.2.2.2.2.2.2.2.1 | exact h.2.2.2.2.2.2.2.2.2.2) (Pr' := _) (fun _ h => h) (fun q z => z.elim) (fun _ _ _ h _ => by exact h) (st1 := [_]) rfl (k1 := 0) (n1 := 0) rfl rfl ?_
            rw [ha]
            refine g_istore hF dX10_over_38 40 rfl (lo' := [_, _, _, _, _, _, _, _, _, _, _, _, _, _, _, _, _]) (Nat.le_of_ble_eq_true rfl) rfl ?_
            refine g_aload_n hF dX10_over_40 41 rfl rfl ?_
            refine g_iload_n hF dX10_over_41 42 rfl rfl ?_
            refine g_iload hF dX10_over_42 44 rfl rfl ?_
            refine g_iconst hF (0) dX10_over_44 45 rfl rfl ?_
            refine g_iconst hF (0) dX10_over_45 46 rfl rfl ?_
            refine g_callV hF cv_X10_158 (c_M_weighs l E c v pf im ss ik bk ws cm ls nq (nI d) (lN sd) (nI nb) wh ro N A 0 0 n1 n6 a6 (by omega) (by omega)) dX10_over_46 49 rfl (st := []) rfl rfl ⟨Nat.le_of_ble_eq_true rfl, Nat.le_of_ble_eq_true rfl⟩ ⟨Nat.le_of_ble_eq_true rfl, Nat.le_of_ble_eq_true rfl⟩ rfl (Nat.le_of_ble_eq_true rfl) 10 rfl (by intro H h; first | exact h.1 | exact h.2.1 | exact h.2.2.1 | exact h.2.2.2.1 | exact h.2.2.2.2.1 | exact h.2.2.2.2.2.1 | exact h.2.2.2.2.2.2.1 | exact h.2.2.2.2.2.2.2.1 | exact h.2.2.2.2.2.2.2.2.1 | exact h.2.2.2.2.2.2.2.2.2.1 | exact h.2.2.2.2.2.2.2.2.2.2) (Pr' := _) (fun _ h => h) (hA) (fun _ _ _ h _ => by exact h) (st1 := []) rfl (k1 := 0) (n1 := 0) rfl rfl ?_
            refine g_ex (fun ws1 => ?_)
            refine g_pure (fun H h => h.1) (fun hw => ?_)
            refine g_pr (fun H h => h.2) ?_
            refine g_iload hF dX10_over_49 51 rfl rfl ?_
            refine g_i2l hF dX10_over_51 52 rfl ?_
            rw [nI_l (by omega)]
            refine g_aload_n hF dX10_over_52 53 rfl rfl ?_
            refine g_get hF fl_X10_30 dX10_over_53 56 rfl (by intro H h; first | exact h.1 | exact h.2.1 | exact h.2.2.1 | exact h.2.2.2.1 | exact h.2.2.2.2.1 | exact h.2.2.2.2.2.1 | exact h.2.2.2.2.2.2.1 | exact h.2.2.2.2.2.2.2.1 | exact h.2.2.2.2.2.2.2.2.1 | exact h.2.2.2.2.2.2.2.2.2.1 | exact h.2.2.2.2.2.2.2.2.2.2) rfl ?_
            refine g_iload_n hF dX10_over_56 57 rfl rfl ?_
            refine g_lald hF dX10_over_57 58 rfl (by intro H h; first | exact h.1 | exact h.2.1 | exact h.2.2.1 | exact h.2.2.2.1 | exact h.2.2.2.2.1 | exact h.2.2.2.2.2.1 | exact h.2.2.2.2.2.2.1 | exact h.2.2.2.2.2.2.2.1 | exact h.2.2.2.2.2.2.2.2.1 | exact h.2.2.2.2.2.2.2.2.2.1 | exact h.2.2.2.2.2.2.2.2.2.2) (vp_in_nI (show N < 7 by omega) (by omega)) ?_
            rw [nI_clamp (by omega), hw N (by omega)]
            refine g_lmul hF dX10_over_58 59 rfl ?_
            rw [lN_mul]
            refine g_aload_n hF dX10_over_59 60 rfl rfl ?_
            refine g_get hF fl_X10_147 dX10_over_60 63 rfl (by intro H h; first | exact h.1 | exact h.2.1 | exact h.2.2.1 | exact h.2.2.2.1 | exact h.2.2.2.2.1 | exact h.2.2.2.2.2.1 | exact h.2.2.2.2.2.2.1 | exact h.2.2.2.2.2.2.2.1 | exact h.2.2.2.2.2.2.2.2.1 | exact h.2.2.2.2.2.2.2.2.2.1 | exact h.2.2.2.2.2.2.2.2.2.2) rfl ?_
            refine g_iconst hF (0) dX10_over_63 64 rfl rfl ?_
            refine g_callS hF cs_X10_162 (c_M_part l E (lN (A * wt (fct N) 1 N A 0 0 N)) (lN (sW (wt (fct N) 1 N A 0 0) (N + 1))) 0 (Mm E c (flat v) pf im ss ik bk ws1 cm ls nq (nI d) (lN sd) (nI nb) (lN (sW (wt (fct N) 1 N A 0 0) (N + 1))) ro) pk.1 pk.2) dX10_over_64 67 rfl (st := []) rfl rfl ⟨Nat.le_of_ble_eq_true rfl, Nat.le_of_ble_eq_true rfl⟩ ⟨Nat.le_of_ble_eq_true rfl, Nat.le_of_ble_eq_true rfl⟩ rfl (Nat.le_of_ble_eq_true rfl) (Pr' := _) (fun _ h => h) (fun q z => z.elim) (fun _ _ _ h _ => by exact h) (st1 := [_]) rfl (k1 := 0) (n1 := 0) rfl rfl ?_
            rw [show (if (0 : Int32) = 0 then (lN (A * wt (fct N) 1 N A 0 0 N)) else (lN (sW (wt (fct N) 1 N A 0 0) (N + 1)))) = (lN (A * wt (fct N) 1 N A 0 0 N)) from if_pos rfl, em]
            refine g_lstore hF dX10_over_67 69 rfl (lo' := [_, _, _, _, _, _, _, _, _, _, _, _, _, _, _, _, _]) (Nat.le_of_ble_eq_true rfl) rfl ?_
            refine g_iload hF dX10_over_69 71 rfl rfl ?_
            refine g_i2l hF dX10_over_71 72 rfl ?_
            rw [nI_l (by omega)]
            refine g_aload_n hF dX10_over_72 73 rfl rfl ?_
            refine g_get hF fl_X10_30 dX10_over_73 76 rfl (by intro H h; first | exact h.1 | exact h.2.1 | exact h.2.2.1 | exact h.2.2.2.1 | exact h.2.2.2.2.1 | exact h.2.2.2.2.2.1 | exact h.2.2.2.2.2.2.1 | exact h.2.2.2.2.2.2.2.1 | exact h.2.2.2.2.2.2.2.2.1 | exact h.2.2.2.2.2.2.2.2.2.1 | exact h.2.2.2.2.2.2.2.2.2.2) rfl ?_
            refine g_iload_n hF dX10_over_76 77 rfl rfl ?_
            refine g_lald hF dX10_over_77 78 rfl (by intro H h; first | exact h.1 | exact h.2.1 | exact h.2.2.1 | exact h.2.2.2.1 | exact h.2.2.2.2.1 | exact h.2.2.2.2.2.1 | exact h.2.2.2.2.2.2.1 | exact h.2.2.2.2.2.2.2.1 | exact h.2.2.2.2.2.2.2.2.1 | exact h.2.2.2.2.2.2.2.2.2.1 | exact h.2.2.2.2.2.2.2.2.2.2) (vp_in_nI (show N < 7 by omega) (by omega)) ?_
            rw [nI_clamp (by omega), hw N (by omega)]
            refine g_lmul hF dX10_over_78 79 rfl ?_
            rw [lN_mul]
            refine g_aload_n hF dX10_over_79 80 rfl rfl ?_
            refine g_get hF fl_X10_147 dX10_over_80 83 rfl (by intro H h; first | exact h.1 | exact h.2.1 | exact h.2.2.1 | exact h.2.2.2.1 | exact h.2.2.2.2.1 | exact h.2.2.2.2.2.1 | exact h.2.2.2.2.2.2.1 | exact h.2.2.2.2.2.2.2.1 | exact h.2.2.2.2.2.2.2.2.1 | exact h.2.2.2.2.2.2.2.2.2.1 | exact h.2.2.2.2.2.2.2.2.2.2) rfl ?_
            refine g_iconst hF (1) dX10_over_83 84 rfl rfl ?_
            refine g_callS hF cs_X10_162 (c_M_part l E (lN (A * wt (fct N) 1 N A 0 0 N)) (lN (sW (wt (fct N) 1 N A 0 0) (N + 1))) 1 (Mm E c (flat v) pf im ss ik bk ws1 cm ls nq (nI d) (lN sd) (nI nb) (lN (sW (wt (fct N) 1 N A 0 0) (N + 1))) ro) pk.1 pk.2) dX10_over_84 87 rfl (st := []) rfl rfl ⟨Nat.le_of_ble_eq_true rfl, Nat.le_of_ble_eq_true rfl⟩ ⟨Nat.le_of_ble_eq_true rfl, Nat.le_of_ble_eq_true rfl⟩ rfl (Nat.le_of_ble_eq_true rfl) (Pr' := _) (fun _ h => h) (fun q z => z.elim) (fun _ _ _ h _ => by exact h) (st1 := [_]) rfl (k1 := 0) (n1 := 0) rfl rfl ?_
            rw [show (if (1 : Int32) = 0 then (lN (A * wt (fct N) 1 N A 0 0 N)) else (lN (sW (wt (fct N) 1 N A 0 0) (N + 1)))) = (lN (sW (wt (fct N) 1 N A 0 0) (N + 1))) from if_neg (by decide), ed]
            refine g_lstore hF dX10_over_87 89 rfl (lo' := [_, _, _, _, _, _, _, _, _, _, _, _, _, _, _, _, _]) (Nat.le_of_ble_eq_true rfl) rfl ?_
            refine g_iload_n hF dX10_over_89 90 rfl rfl ?_
            refine g_iconst hF (2) dX10_over_90 91 rfl rfl ?_
            refine g_icmp_ge hF dX10_over_91 94 rfl 106 (by decide) (fun c => absurd c (by decide)) (fun _ => ?_)
            refine g_iload_n hF dX10_over_94 95 rfl rfl ?_
            refine g_if_ne hF dX10_over_95 98 rfl 103 (by decide) (fun _ => ?_) (fun c => absurd c (by decide))
            refine g_lload hF dX10_over_103 105 rfl rfl ?_
            exact g_lret hF dX10_over_105 (Nat.le_of_ble_eq_true rfl) (Nat.le_of_ble_eq_true rfl) (fun H h => hR _ _ ⟨congrArg (fun z => some (Value.long z)) (rfl), MS.mk hr h⟩)
        · obtain ⟨u, hu⟩ : ∃ q, q = (nI N + 1 - nI A).toInt64 * d0 + m0 := ⟨_, rfl⟩
          obtain ⟨ab, hab⟩ : ∃ q, q = (d0 - m0) * u + (nI A).toInt64 * d0 * d0 := ⟨_, rfl⟩
          obtain ⟨one, h1⟩ : ∃ q, q = cd64 100 m0 u := ⟨_, rfl⟩
          obtain ⟨two, ht⟩ : ∃ q, q = cd64 100 ab d0 := ⟨_, rfl⟩
          obtain ⟨X, hX⟩ : ∃ q, q = m0 / one * (ab / two) := ⟨_, rfl⟩
          obtain ⟨Y, hY⟩ : ∃ q, q = d0 * (d0 / two) * (u / one) := ⟨_, rfl⟩
          obtain ⟨q1, q2, q3, q4, q5, q6, q7⟩ := ov_ok n1 n6 a6 hm0 hd0 hu hab h1 ht hX hY
          have er : prt (frO (v.2.2.2 g) m) m = (if nI (m % 2) = 0 then X else Y) / cd64 100 X Y := by
            unfold frO
            rw [if_neg h2, eM, ← hm0, ← hd0, n0, ha, q7, ← prt_eq]
            split <;> rfl
          rw [er] at hR
          refine g_aload_n hF dX10_over_0 1 rfl rfl ?_
          refine g_iload_n hF dX10_over_1 2 rfl rfl ?_
          refine g_callV hF cv_X10_50 (c_M_isGroup l E c v pf im ss ik bk ws cm ls nq (nI d) (lN sd) (nI nb) wh ro G hG G1 G4 (nI g)) dX10_over_2 5 rfl (st := []) rfl rfl ⟨Nat.le_of_ble_eq_true rfl, Nat.le_of_ble_eq_true rfl⟩ ⟨Nat.le_of_ble_eq_true rfl, Nat.le_of_ble_eq_true rfl⟩ rfl (Nat.le_of_ble_eq_true rfl) 10 rfl (by intro H h; first | exact h.1 | exact h.2.1 | exact h.2.2.1 | exact h.2.2.2.1 | exact h.2.2.2.2.1 | exact h.2.2.2.2.2.1 | exact h.2.2.2.2.2.2.1 | exact h.2.2.2.2.2.2.2.1 | exact h.2.2.2.2.2.2.2.2.1 | exact h.2.2.2.2.2.2.2.2.2.1 | exact h.2.2.2.2.2.2.2.2.2.2) (Pr' := _) (fun _ h => h) (fun q z => z.elim) (fun _ _ _ h _ => by exact h) (st1 := [_]) rfl (k1 := 0) (n1 := 0) rfl rfl ?_
          refine g_if_ne hF dX10_over_5 8 rfl 12 (by decide) (fun _ => ?_) (fun c => absurd c (fun y => hz (iy0.mp y)))
          refine g_iload_n hF dX10_over_12 13 rfl rfl ?_
          refine g_iconst hF (0) dX10_over_13 14 rfl rfl ?_
          refine g_iconst hF (3) dX10_over_14 15 rfl rfl ?_
          refine g_callS hF cs_X10_46 (c_M_in l E (nI m) (0) (3) (Mm E c (flat v) pf im ss ik bk ws cm ls nq (nI d) (lN sd) (nI nb) wh ro) 1 ((if_pos hq).symm)) dX10_over_15 18 rfl (st := []) rfl rfl ⟨Nat.le_of_ble_eq_true rfl, Nat.le_of_ble_eq_true rfl⟩ ⟨Nat.le_of_ble_eq_true rfl, Nat.le_of_ble_eq_true rfl⟩ rfl (Nat.le_of_ble_eq_true rfl) (Pr' := _) (fun _ h => h) (fun q z => z.elim) (fun _ _ _ h _ => by exact h) (st1 := [_]) rfl (k1 := 0) (n1 := 0) rfl rfl ?_
          refine g_if_ne hF dX10_over_18 21 rfl 25 (by decide) (fun _ => ?_) (fun c => absurd c ((by decide)))
          refine g_aload_n hF dX10_over_25 26 rfl rfl ?_
          refine g_iload_n hF dX10_over_26 27 rfl rfl ?_
          refine g_iconst hF (0) dX10_over_27 28 rfl rfl ?_
          rw [show (0 : Int32) = nI 0 by decide]
          refine g_callV hF cv_X10_54 (c_M_of l E c v pf im ss ik bk ws cm ls nq (nI d) (lN sd) (nI nb) wh ro g 0 hg4 (by omega)) dX10_over_28 31 rfl (st := []) rfl rfl ⟨Nat.le_of_ble_eq_true rfl, Nat.le_of_ble_eq_true rfl⟩ ⟨Nat.le_of_ble_eq_true rfl, Nat.le_of_ble_eq_true rfl⟩ rfl (Nat.le_of_ble_eq_true rfl) 10 rfl (by intro H h; first | exact h.1 | exact h.2.1 | exact h.2.2.1 | exact h.2.2.2.1 | exact h.2.2.2.2.1 | exact h.2.2.2.2.2.1 | exact h.2.2.2.2.2.2.1 | exact h.2.2.2.2.2.2.2.1 | exact h.2.2.2.2.2.2.2.2.1 | exact h.2.2.2.2.2.2.2.2.2.1 | exact h.2.2.2.2.2.2.2.2.2.2) (Pr' := _) (fun _ h => h) (fun q z => z.elim) (fun _ _ _ h _ => by exact h) (st1 := [_]) rfl (k1 := 0) (n1 := 0) rfl rfl ?_
          rw [n0]
          refine g_istore_n hF dX10_over_31 32 rfl (lo' := [_, _, _, _, _, _, _, _, _, _, _, _, _, _, _, _, _]) (Nat.le_of_ble_eq_true rfl) rfl ?_
          refine g_aload_n hF dX10_over_32 33 rfl rfl ?_
          refine g_iload_n hF dX10_over_33 34 rfl rfl ?_
          refine g_iconst hF (1) dX10_over_34 35 rfl rfl ?_
          rw [show (1 : Int32) = nI 1 by decide]
          refine g_callV hF cv_X10_54 (c_M_of l E c v pf im ss ik bk ws cm ls nq (nI d) (lN sd) (nI nb) wh ro g 1 hg4 (by omega)) dX10_over_35 38 rfl (st := []) rfl rfl ⟨Nat.le_of_ble_eq_true rfl, Nat.le_of_ble_eq_true rfl⟩ ⟨Nat.le_of_ble_eq_true rfl, Nat.le_of_ble_eq_true rfl⟩ rfl (Nat.le_of_ble_eq_true rfl) 10 rfl (by intro H h; first | exact h.1 | exact h.2.1 | exact h.2.2.1 | exact h.2.2.2.1 | exact h.2.2.2.2.1 | exact h.2.2.2.2.2.1 | exact h.2.2.2.2.2.2.1 | exact h.2.2.2.2.2.2.2.1 | exact h.2.2.2.2.2.2.2.2.1 | exact h.2.2.2.2.2.2.2.2.2.1 | exact h.2.2.2.2.2.2.2.2.2.2) (Pr' := _) (fun _ h => h) (fun q z => z.elim) (fun _ _ _ h _ => by exact h) (st1 := [_]) rfl (k1 := 0) (n1 := 0) rfl rfl ?_
          rw [ha]
          refine g_istore hF dX10_over_38 40 rfl (lo' := [_, _, _, _, _, _, _, _, _, _, _, _, _, _, _, _, _]) (Nat.le_of_ble_eq_true rfl) rfl ?_
          refine g_aload_n hF dX10_over_40 41 rfl rfl ?_
          refine g_iload_n hF dX10_over_41 42 rfl rfl ?_
          refine g_iload hF dX10_over_42 44 rfl rfl ?_
          refine g_iconst hF (0) dX10_over_44 45 rfl rfl ?_
          refine g_iconst hF (0) dX10_over_45 46 rfl rfl ?_
          refine g_callV hF cv_X10_158 (c_M_weighs l E c v pf im ss ik bk ws cm ls nq (nI d) (lN sd) (nI nb) wh ro N A 0 0 n1 n6 a6 (by omega) (by omega)) dX10_over_46 49 rfl (st := []) rfl rfl ⟨Nat.le_of_ble_eq_true rfl, Nat.le_of_ble_eq_true rfl⟩ ⟨Nat.le_of_ble_eq_true rfl, Nat.le_of_ble_eq_true rfl⟩ rfl (Nat.le_of_ble_eq_true rfl) 10 rfl (by intro H h; first | exact h.1 | exact h.2.1 | exact h.2.2.1 | exact h.2.2.2.1 | exact h.2.2.2.2.1 | exact h.2.2.2.2.2.1 | exact h.2.2.2.2.2.2.1 | exact h.2.2.2.2.2.2.2.1 | exact h.2.2.2.2.2.2.2.2.1 | exact h.2.2.2.2.2.2.2.2.2.1 | exact h.2.2.2.2.2.2.2.2.2.2) (Pr' := _) (fun _ h => h) (hA) (fun _ _ _ h _ => by exact h) (st1 := []) rfl (k1 := 0) (n1 := 0) rfl rfl ?_
          refine g_ex (fun ws1 => ?_)
          refine g_pure (fun H h => h.1) (fun hw => ?_)
          refine g_pr (fun H h => h.2) ?_
          refine g_iload hF dX10_over_49 51 rfl rfl ?_
          refine g_i2l hF dX10_over_51 52 rfl ?_
          rw [nI_l (by omega)]
          refine g_aload_n hF dX10_over_52 53 rfl rfl ?_
          refine g_get hF fl_X10_30 dX10_over_53 56 rfl (by intro H h; first | exact h.1 | exact h.2.1 | exact h.2.2.1 | exact h.2.2.2.1 | exact h.2.2.2.2.1 | exact h.2.2.2.2.2.1 | exact h.2.2.2.2.2.2.1 | exact h.2.2.2.2.2.2.2.1 | exact h.2.2.2.2.2.2.2.2.1 | exact h.2.2.2.2.2.2.2.2.2.1 | exact h.2.2.2.2.2.2.2.2.2.2) rfl ?_
          refine g_iload_n hF dX10_over_56 57 rfl rfl ?_
          refine g_lald hF dX10_over_57 58 rfl (by intro H h; first | exact h.1 | exact h.2.1 | exact h.2.2.1 | exact h.2.2.2.1 | exact h.2.2.2.2.1 | exact h.2.2.2.2.2.1 | exact h.2.2.2.2.2.2.1 | exact h.2.2.2.2.2.2.2.1 | exact h.2.2.2.2.2.2.2.2.1 | exact h.2.2.2.2.2.2.2.2.2.1 | exact h.2.2.2.2.2.2.2.2.2.2) (vp_in_nI (show N < 7 by omega) (by omega)) ?_
          rw [nI_clamp (by omega), hw N (by omega)]
          refine g_lmul hF dX10_over_58 59 rfl ?_
          rw [lN_mul]
          refine g_aload_n hF dX10_over_59 60 rfl rfl ?_
          refine g_get hF fl_X10_147 dX10_over_60 63 rfl (by intro H h; first | exact h.1 | exact h.2.1 | exact h.2.2.1 | exact h.2.2.2.1 | exact h.2.2.2.2.1 | exact h.2.2.2.2.2.1 | exact h.2.2.2.2.2.2.1 | exact h.2.2.2.2.2.2.2.1 | exact h.2.2.2.2.2.2.2.2.1 | exact h.2.2.2.2.2.2.2.2.2.1 | exact h.2.2.2.2.2.2.2.2.2.2) rfl ?_
          refine g_iconst hF (0) dX10_over_63 64 rfl rfl ?_
          refine g_callS hF cs_X10_162 (c_M_part l E (lN (A * wt (fct N) 1 N A 0 0 N)) (lN (sW (wt (fct N) 1 N A 0 0) (N + 1))) 0 (Mm E c (flat v) pf im ss ik bk ws1 cm ls nq (nI d) (lN sd) (nI nb) (lN (sW (wt (fct N) 1 N A 0 0) (N + 1))) ro) pk.1 pk.2) dX10_over_64 67 rfl (st := []) rfl rfl ⟨Nat.le_of_ble_eq_true rfl, Nat.le_of_ble_eq_true rfl⟩ ⟨Nat.le_of_ble_eq_true rfl, Nat.le_of_ble_eq_true rfl⟩ rfl (Nat.le_of_ble_eq_true rfl) (Pr' := _) (fun _ h => h) (fun q z => z.elim) (fun _ _ _ h _ => by exact h) (st1 := [_]) rfl (k1 := 0) (n1 := 0) rfl rfl ?_
          rw [show (if (0 : Int32) = 0 then (lN (A * wt (fct N) 1 N A 0 0 N)) else (lN (sW (wt (fct N) 1 N A 0 0) (N + 1)))) = (lN (A * wt (fct N) 1 N A 0 0 N)) from if_pos rfl, em]
          refine g_lstore hF dX10_over_67 69 rfl (lo' := [_, _, _, _, _, _, _, _, _, _, _, _, _, _, _, _, _]) (Nat.le_of_ble_eq_true rfl) rfl ?_
          refine g_iload hF dX10_over_69 71 rfl rfl ?_
          refine g_i2l hF dX10_over_71 72 rfl ?_
          rw [nI_l (by omega)]
          refine g_aload_n hF dX10_over_72 73 rfl rfl ?_
          refine g_get hF fl_X10_30 dX10_over_73 76 rfl (by intro H h; first | exact h.1 | exact h.2.1 | exact h.2.2.1 | exact h.2.2.2.1 | exact h.2.2.2.2.1 | exact h.2.2.2.2.2.1 | exact h.2.2.2.2.2.2.1 | exact h.2.2.2.2.2.2.2.1 | exact h.2.2.2.2.2.2.2.2.1 | exact h.2.2.2.2.2.2.2.2.2.1 | exact h.2.2.2.2.2.2.2.2.2.2) rfl ?_
          refine g_iload_n hF dX10_over_76 77 rfl rfl ?_
          refine g_lald hF dX10_over_77 78 rfl (by intro H h; first | exact h.1 | exact h.2.1 | exact h.2.2.1 | exact h.2.2.2.1 | exact h.2.2.2.2.1 | exact h.2.2.2.2.2.1 | exact h.2.2.2.2.2.2.1 | exact h.2.2.2.2.2.2.2.1 | exact h.2.2.2.2.2.2.2.2.1 | exact h.2.2.2.2.2.2.2.2.2.1 | exact h.2.2.2.2.2.2.2.2.2.2) (vp_in_nI (show N < 7 by omega) (by omega)) ?_
          rw [nI_clamp (by omega), hw N (by omega)]
          refine g_lmul hF dX10_over_78 79 rfl ?_
          rw [lN_mul]
          refine g_aload_n hF dX10_over_79 80 rfl rfl ?_
          refine g_get hF fl_X10_147 dX10_over_80 83 rfl (by intro H h; first | exact h.1 | exact h.2.1 | exact h.2.2.1 | exact h.2.2.2.1 | exact h.2.2.2.2.1 | exact h.2.2.2.2.2.1 | exact h.2.2.2.2.2.2.1 | exact h.2.2.2.2.2.2.2.1 | exact h.2.2.2.2.2.2.2.2.1 | exact h.2.2.2.2.2.2.2.2.2.1 | exact h.2.2.2.2.2.2.2.2.2.2) rfl ?_
          refine g_iconst hF (1) dX10_over_83 84 rfl rfl ?_
          refine g_callS hF cs_X10_162 (c_M_part l E (lN (A * wt (fct N) 1 N A 0 0 N)) (lN (sW (wt (fct N) 1 N A 0 0) (N + 1))) 1 (Mm E c (flat v) pf im ss ik bk ws1 cm ls nq (nI d) (lN sd) (nI nb) (lN (sW (wt (fct N) 1 N A 0 0) (N + 1))) ro) pk.1 pk.2) dX10_over_84 87 rfl (st := []) rfl rfl ⟨Nat.le_of_ble_eq_true rfl, Nat.le_of_ble_eq_true rfl⟩ ⟨Nat.le_of_ble_eq_true rfl, Nat.le_of_ble_eq_true rfl⟩ rfl (Nat.le_of_ble_eq_true rfl) (Pr' := _) (fun _ h => h) (fun q z => z.elim) (fun _ _ _ h _ => by exact h) (st1 := [_]) rfl (k1 := 0) (n1 := 0) rfl rfl ?_
          rw [show (if (1 : Int32) = 0 then (lN (A * wt (fct N) 1 N A 0 0 N)) else (lN (sW (wt (fct N) 1 N A 0 0) (N + 1)))) = (lN (sW (wt (fct N) 1 N A 0 0) (N + 1))) from if_neg (by decide), ed]
          refine g_lstore hF dX10_over_87 89 rfl (lo' := [_, _, _, _, _, _, _, _, _, _, _, _, _, _, _, _, _]) (Nat.le_of_ble_eq_true rfl) rfl ?_
          refine g_iload_n hF dX10_over_89 90 rfl rfl ?_
          refine g_iconst hF (2) dX10_over_90 91 rfl rfl ?_
          refine g_icmp_ge hF dX10_over_91 94 rfl 106 (by decide) (fun _ => ?_) (fun c => absurd (nI_le (a := 2) (by omega) (by omega)) c)
          refine g_iload_n hF dX10_over_106 107 rfl rfl ?_
          refine g_iconst hF (1) dX10_over_107 108 rfl rfl ?_
          refine g_iadd hF dX10_over_108 109 rfl ?_
          refine g_iload hF dX10_over_109 111 rfl rfl ?_
          refine g_isub hF dX10_over_111 112 rfl ?_
          refine g_i2l hF dX10_over_112 113 rfl ?_
          refine g_lload hF dX10_over_113 115 rfl rfl ?_
          refine g_lmul hF dX10_over_115 116 rfl ?_
          refine g_lload hF dX10_over_116 118 rfl rfl ?_
          refine g_ladd hF dX10_over_118 119 rfl ?_
          rw [← hu]
          refine g_lstore hF dX10_over_119 121 rfl (lo' := [_, _, _, _, _, _, _, _, _, _, _, _, _, _, _, _, _]) (Nat.le_of_ble_eq_true rfl) rfl ?_
          refine g_lload hF dX10_over_121 123 rfl rfl ?_
          refine g_lload hF dX10_over_123 125 rfl rfl ?_
          refine g_lsub hF dX10_over_125 126 rfl ?_
          refine g_lload hF dX10_over_126 128 rfl rfl ?_
          refine g_lmul hF dX10_over_128 129 rfl ?_
          refine g_iload hF dX10_over_129 131 rfl rfl ?_
          refine g_i2l hF dX10_over_131 132 rfl ?_
          refine g_lload hF dX10_over_132 134 rfl rfl ?_
          refine g_lmul hF dX10_over_134 135 rfl ?_
          refine g_lload hF dX10_over_135 137 rfl rfl ?_
          refine g_lmul hF dX10_over_137 138 rfl ?_
          refine g_ladd hF dX10_over_138 139 rfl ?_
          rw [← hab]
          refine g_lstore hF dX10_over_139 141 rfl (lo' := [_, _, _, _, _, _, _, _, _, _, _, _, _, _, _, _, _]) (Nat.le_of_ble_eq_true rfl) rfl ?_
          refine g_lload hF dX10_over_141 143 rfl rfl ?_
          refine g_lload hF dX10_over_143 145 rfl rfl ?_
          refine g_callS hF cs_X10_150 (c_M_gcd l E m0 u (Mm E c (flat v) pf im ss ik bk ws1 cm ls nq (nI d) (lN sd) (nI nb) (lN (sW (wt (fct N) 1 N A 0 0) (N + 1))) ro) q1) dX10_over_145 148 rfl (st := []) rfl rfl ⟨Nat.le_of_ble_eq_true rfl, Nat.le_of_ble_eq_true rfl⟩ ⟨Nat.le_of_ble_eq_true rfl, Nat.le_of_ble_eq_true rfl⟩ rfl (Nat.le_of_ble_eq_true rfl) (Pr' := _) (fun _ h => h) (fun q z => z.elim) (fun _ _ _ h _ => by exact h) (st1 := [_]) rfl (k1 := 0) (n1 := 0) rfl rfl ?_
          rw [← h1]
          refine g_lstore hF dX10_over_148 150 rfl (lo' := [_, _, _, _, _, _, _, _, _, _, _, _, _, _, _, _, _]) (Nat.le_of_ble_eq_true rfl) rfl ?_
          refine g_lload hF dX10_over_150 152 rfl rfl ?_
          refine g_lload hF dX10_over_152 154 rfl rfl ?_
          refine g_callS hF cs_X10_150 (c_M_gcd l E ab d0 (Mm E c (flat v) pf im ss ik bk ws1 cm ls nq (nI d) (lN sd) (nI nb) (lN (sW (wt (fct N) 1 N A 0 0) (N + 1))) ro) q2) dX10_over_154 157 rfl (st := []) rfl rfl ⟨Nat.le_of_ble_eq_true rfl, Nat.le_of_ble_eq_true rfl⟩ ⟨Nat.le_of_ble_eq_true rfl, Nat.le_of_ble_eq_true rfl⟩ rfl (Nat.le_of_ble_eq_true rfl) (Pr' := _) (fun _ h => h) (fun q z => z.elim) (fun _ _ _ h _ => by exact h) (st1 := [_]) rfl (k1 := 0) (n1 := 0) rfl rfl ?_
          rw [← ht]
          refine g_lstore hF dX10_over_157 159 rfl (lo' := [_, _, _, _, _, _, _, _, _, _, _, _, _, _, _, _, _]) (Nat.le_of_ble_eq_true rfl) rfl ?_
          refine g_lload hF dX10_over_159 161 rfl rfl ?_
          refine g_lload hF dX10_over_161 163 rfl rfl ?_
          refine g_ldiv hF dX10_over_163 164 rfl (q3) ?_
          refine g_lload hF dX10_over_164 166 rfl rfl ?_
          refine g_lload hF dX10_over_166 168 rfl rfl ?_
          refine g_ldiv hF dX10_over_168 169 rfl (q4) ?_
          refine g_lmul hF dX10_over_169 170 rfl ?_
          rw [← hX]
          refine g_lload hF dX10_over_170 172 rfl rfl ?_
          refine g_lload hF dX10_over_172 174 rfl rfl ?_
          refine g_lload hF dX10_over_174 176 rfl rfl ?_
          refine g_ldiv hF dX10_over_176 177 rfl (q4) ?_
          refine g_lmul hF dX10_over_177 178 rfl ?_
          refine g_lload hF dX10_over_178 180 rfl rfl ?_
          refine g_lload hF dX10_over_180 182 rfl rfl ?_
          refine g_ldiv hF dX10_over_182 183 rfl (q3) ?_
          refine g_lmul hF dX10_over_183 184 rfl ?_
          rw [← hY]
          refine g_iload_n hF dX10_over_184 185 rfl rfl ?_
          refine g_iconst hF (2) dX10_over_185 186 rfl rfl ?_
          refine g_irem hF dX10_over_186 187 rfl (by decide) ?_
          rw [rem2 (by omega)]
          refine g_callS hF cs_X10_162 (c_M_part l E X Y (nI (m % 2)) (Mm E c (flat v) pf im ss ik bk ws1 cm ls nq (nI d) (lN sd) (nI nb) (lN (sW (wt (fct N) 1 N A 0 0) (N + 1))) ro) q5 q6) dX10_over_187 190 rfl (st := []) rfl rfl ⟨Nat.le_of_ble_eq_true rfl, Nat.le_of_ble_eq_true rfl⟩ ⟨Nat.le_of_ble_eq_true rfl, Nat.le_of_ble_eq_true rfl⟩ rfl (Nat.le_of_ble_eq_true rfl) (Pr' := _) (fun _ h => h) (fun q z => z.elim) (fun _ _ _ h _ => by exact h) (st1 := [_]) rfl (k1 := 0) (n1 := 0) rfl rfl ?_
          exact g_lret hF dX10_over_190 (Nat.le_of_ble_eq_true rfl) (Nat.le_of_ble_eq_true rfl) (fun H h => hR _ _ ⟨congrArg (fun z => some (Value.long z)) (rfl), MS.mk hr h⟩)
      · rw [show fOver (v, hv, d, iv, isd, ik, bg, bl, bs, nb, sd) (nI g) w = -1000000002 from (if_neg hz).trans (if_pos hq)] at hR
        refine g_aload_n hF dX10_over_0 1 rfl rfl ?_
        refine g_iload_n hF dX10_over_1 2 rfl rfl ?_
        refine g_callV hF cv_X10_50 (c_M_isGroup l E c v pf im ss ik bk ws cm ls nq (nI d) (lN sd) (nI nb) wh ro G hG G1 G4 (nI g)) dX10_over_2 5 rfl (st := []) rfl rfl ⟨Nat.le_of_ble_eq_true rfl, Nat.le_of_ble_eq_true rfl⟩ ⟨Nat.le_of_ble_eq_true rfl, Nat.le_of_ble_eq_true rfl⟩ rfl (Nat.le_of_ble_eq_true rfl) 10 rfl (by intro H h; first | exact h.1 | exact h.2.1 | exact h.2.2.1 | exact h.2.2.2.1 | exact h.2.2.2.2.1 | exact h.2.2.2.2.2.1 | exact h.2.2.2.2.2.2.1 | exact h.2.2.2.2.2.2.2.1 | exact h.2.2.2.2.2.2.2.2.1 | exact h.2.2.2.2.2.2.2.2.2.1 | exact h.2.2.2.2.2.2.2.2.2.2) (Pr' := _) (fun _ h => h) (fun q z => z.elim) (fun _ _ _ h _ => by exact h) (st1 := [_]) rfl (k1 := 0) (n1 := 0) rfl rfl ?_
        refine g_if_ne hF dX10_over_5 8 rfl 12 (by decide) (fun _ => ?_) (fun c => absurd c (fun y => hz (iy0.mp y)))
        refine g_iload_n hF dX10_over_12 13 rfl rfl ?_
        refine g_iconst hF (0) dX10_over_13 14 rfl rfl ?_
        refine g_iconst hF (3) dX10_over_14 15 rfl rfl ?_
        refine g_callS hF cs_X10_46 (c_M_in l E (w) (0) (3) (Mm E c (flat v) pf im ss ik bk ws cm ls nq (nI d) (lN sd) (nI nb) wh ro) 0 ((if_neg hq).symm)) dX10_over_15 18 rfl (st := []) rfl rfl ⟨Nat.le_of_ble_eq_true rfl, Nat.le_of_ble_eq_true rfl⟩ ⟨Nat.le_of_ble_eq_true rfl, Nat.le_of_ble_eq_true rfl⟩ rfl (Nat.le_of_ble_eq_true rfl) (Pr' := _) (fun _ h => h) (fun q z => z.elim) (fun _ _ _ h _ => by exact h) (st1 := [_]) rfl (k1 := 0) (n1 := 0) rfl rfl ?_
        refine g_if_ne hF dX10_over_18 21 rfl 25 (by decide) (fun c => absurd (rfl) c) (fun _ => ?_)
        refine g_ldc2 hF kc_X10_156 dX10_over_21 24 rfl ?_
        exact g_lret hF dX10_over_24 (Nat.le_of_ble_eq_true rfl) (Nat.le_of_ble_eq_true rfl) (fun H h => hR _ _ ⟨congrArg (fun z => some (Value.long z)) (rfl), MS.mk hr h⟩)
