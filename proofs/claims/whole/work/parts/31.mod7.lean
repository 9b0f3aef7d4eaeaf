/-! TrunkReserveModel: in the long run -/
theorem lN_ab {p : Nat} (h : p < 2 ^ 63) : ab64 (lN p) = lN p := if_neg (fun y => absurd ((pk_lLT (b := 0) h (by omega)).mp y) (by omega))
theorem lN_ne {p : Nat} (h0 : ¬ p = 0) (h : p < 2 ^ 63) : ¬ lN p = 0 := fun y => h0 ((pk_lEQ (b := 0) h (by omega)).mp y)
theorem cdE_s : ∀ (n : Nat) (x y : Int64), cdE n x y → cdE (n + 1) x y
  | 0, _, _, h => Or.inl h
  | n + 1, _, _, h => h.imp id (cdE_s n _ _)
theorem cdE_m {n : Nat} {x y : Int64} (h : cdE n x y) : ∀ k, cdE (n + k) x y
  | 0 => h
  | k + 1 => cdE_s _ _ _ (cdE_m h k)
theorem cd_end : ∀ (k x y : Nat), y < 2 ^ k → x < 2 ^ 63 → y < 2 ^ 63 → cdE (2 * k + 1) (lN x) (lN y)
  | 0, x, y, h, _, _ => Or.inl (by rw [show y = 0 by have : 2 ^ 0 = 1 := rfl; omega]; rfl)
  | k + 1, x, y, h, hx, hy => by
    by_cases y0 : y = 0
    · exact Or.inl (by rw [y0]; rfl)
    · refine Or.inr ?_
      rw [pk_lRem hx (by omega) hy]
      have r1 : x % y < y := Nat.mod_lt _ (by omega)
      by_cases r0 : x % y = 0
      · exact Or.inl (by rw [r0]; rfl)
      · refine Or.inr ?_
        rw [pk_lRem hy (by omega) (by omega)]
        have q1 : y % (x % y) < x % y := Nat.mod_lt _ (by omega)
        have q2 := Nat.div_add_mod y (x % y)
        have q3 : 1 ≤ y / (x % y) := Nat.div_pos (by omega) (by omega)
        have q4 : (x % y) * 1 ≤ (x % y) * (y / (x % y)) := Nat.mul_le_mul_left _ q3
        have q5 : 2 ^ (k + 1) = 2 ^ k * 2 := Nat.pow_succ 2 k
        exact cd_end k (x % y) (y % (x % y)) (by omega) (by omega) (by omega)
theorem cd_nz1 : ∀ (n x y : Nat), ¬ x = 0 → x < 2 ^ 63 → y < 2 ^ 63 → ¬ cd64 n (lN x) (lN y) = 0
  | 0, _, _, h, hx, _ => lN_ne h hx
  | n + 1, x, y, h, hx, hy => by
    unfold cd64
    by_cases y0 : y = 0
    · rw [if_pos (by rw [y0]; rfl)]; exact lN_ne h hx
    · rw [if_neg (lN_ne y0 hy), pk_lRem hx (by omega) hy]
      exact cd_nz1 n y (x % y) y0 hy (by have := Nat.mod_lt x (show 0 < y by omega); omega)
theorem cd_nz {n x y : Nat} (y0 : ¬ y = 0) (hx : x < 2 ^ 63) (hy : y < 2 ^ 63) : ¬ cd64 (n + 1) (lN x) (lN y) = 0 := by
  unfold cd64
  rw [if_neg (lN_ne y0 hy), pk_lRem hx (by omega) hy]
  exact cd_nz1 n y (x % y) y0 hy (by have := Nat.mod_lt x (show 0 < y by omega); omega)
theorem part_ok {p q : Nat} (hp : p < 2 ^ 43) (hq : q < 2 ^ 43) (q0 : 0 < q) : cdE 100 (lN p) (lN q) ∧ ¬ cd64 100 (lN p) (lN q) = 0 :=
  ⟨cdE_m (n := 87) (cd_end 43 p q hq (by omega) (by omega)) 13, cd_nz (n := 99) (by omega) (by omega) (by omega)⟩
theorem part_eq {p q m : Nat} (hp : p < 2 ^ 43) (hq : q < 2 ^ 43) (q0 : 0 < q) : (if nI (m % 2) = 0 then lN p else lN q) / cd64 100 (lN p) (lN q) = prt (bcm (lN p) (lN q)) m := by
  have e : bcm (lN p) (lN q) = (lN p / cd64 100 (lN p) (lN q), lN q / cd64 100 (lN p) (lN q)) := by
    unfold bcm
    rw [lN_ab (by omega), lN_ab (by omega), if_neg (fun y => y.elim (lN_ne (by omega) (by omega)) (part_ok hp hq q0).2), if_neg (show ¬ lN q < 0 from fun y => absurd ((pk_lLT (a := q) (b := 0) (by omega) (by omega)).mp y) (by omega))]
  rw [e, ← prt_eq]
  split <;> rfl
theorem wx_le {N A R B k : Nat} (hN : N ≤ 6) (hA : A ≤ 6) (hB : B ≤ 6) (hk : k < 7) : wt (fct N) 1 N A R B k ≤ 137594142720 := by
  have h1 := wt_le (first := fct N) (parts := 1) (N := N) (R := R) (B := B) (by omega) hA (by omega) k
  have h2 : 24 ^ k ≤ 24 ^ 6 := Nat.pow_le_pow_right (by omega) (by omega)
  have h3 : fct N * 24 ^ k ≤ 720 * 24 ^ 6 := Nat.mul_le_mul (fct_le N (by omega)) h2
  have h4 : 720 * 24 ^ 6 = 137594142720 := by decide
  omega
theorem sRf_le (w : Nat → Nat) (N R : Nat) : ∀ k, sRf w N R k ≤ sW w k
  | 0 => Nat.le_refl _
  | k + 1 => by
    have := sRf_le w N R k
    unfold sRf sW
    split <;> omega
theorem sTm_le (w : Nat → Nat) : ∀ k, k ≤ 7 → sTm w k ≤ 6 * sW w k
  | 0, _ => Nat.le_refl _
  | k + 1, h => by
    have := sTm_le w k (by omega)
    unfold sTm sW
    have h2 : k * w k ≤ 6 * w k := Nat.mul_le_mul_right _ (by omega)
    omega
theorem fct_pos : ∀ n, n < 7 → 1 ≤ fct n := by decide
theorem sW_b {N A R B : Nat} (hN : N ≤ 6) (hA : A ≤ 6) (hB : B ≤ 6) : 0 < sW (wt (fct N) 1 N A R B) (N + 1) ∧ 6 * sW (wt (fct N) 1 N A R B) (N + 1) < 2 ^ 43 := by
  have h1 : wt (fct N) 1 N A R B 0 ≤ sW (wt (fct N) 1 N A R B) (N + 1) := sW_ge _ (N + 1) 0 (by omega)
  have h2 : 1 ≤ fct N := fct_pos N (by omega)
  have h3 := sW_le7 (w := wt (fct N) 1 N A R B) (B := 137594142720) (fun k hk => wx_le hN hA hB hk) (N + 1) (by omega)
  have h4 : (N + 1) * 137594142720 ≤ 7 * 137594142720 := Nat.mul_le_mul_right _ (by omega)
  have h5 : wt (fct N) 1 N A R B 0 = fct N := rfl
  omega
set_option maxRecDepth 100000 in
set_option maxHeartbeats 16000000 in
theorem c_E_run (l : Launch) (E : Ev) (c T : Nat) (σ : AS) (hv0 : okV T σ.1) (z q w : Int32) : Ct l E yX10_run cX10_run 10 (some .long) (rm 6) [.ref c, .int z, .int q, .int w] (MS E c σ) (rV (some (.long (fRun σ z q w))) (MS E c σ)) (rg c 11) := by
  refine ct_start (by decide) [some (.ref c), some (.int z), some (.int q), some (.int w), none, none, none, none, none, none] rfl (Nat.le_of_ble_eq_true rfl) ?_
  intro x hF hN hA hR
  obtain ⟨v, hv, d, iv, isd, ik, bg, bl, bs, nb, sd⟩ := σ
  refine g_openM (fun pf im ss bk ws cm ls nq wh ro hr => ?_)
  dsimp only at hv0
  obtain ⟨G, hG, G1, G4, hGc, ho, hn⟩ := okN hv0
  by_cases hz : z < 0 ∨ v.1 ≤ z
  · rw [show fRun (v, hv, d, iv, isd, ik, bg, bl, bs, nb, sd) z q w = -1000000001 from if_pos hz] at hR
    refine g_aload_n hF dX10_run_0 1 rfl rfl ?_
    refine g_iload_n hF dX10_run_1 2 rfl rfl ?_
    refine g_callV hF cv_X10_50 (c_M_isGroup l E c v pf im ss ik bk ws cm ls nq (nI d) (lN sd) (nI nb) wh ro G hG G1 G4 z) dX10_run_2 5 rfl (st := []) rfl rfl ⟨Nat.le_of_ble_eq_true rfl, Nat.le_of_ble_eq_true rfl⟩ ⟨Nat.le_of_ble_eq_true rfl, Nat.le_of_ble_eq_true rfl⟩ rfl (Nat.le_of_ble_eq_true rfl) 10 rfl (by intro H h; first | exact h.1 | exact h.2.1 | exact h.2.2.1 | exact h.2.2.2.1 | exact h.2.2.2.2.1 | exact h.2.2.2.2.2.1 | exact h.2.2.2.2.2.2.1 | exact h.2.2.2.2.2.2.2.1 | exact h.2.2.2.2.2.2.2.2.1 | exact h.2.2.2.2.2.2.2.2.2.1 | exact h.2.2.2.2.2.2.2.2.2.2) (Pr' := _) (fun _ h => h) (fun q z => z.elim) (fun _ _ _ h _ => by exact h) (st1 := [_]) rfl (k1 := 0) (n1 := 0) rfl rfl ?_
    refine g_if_ne hF dX10_run_5 8 rfl 12 (by decide) (fun c => absurd (iy0.mpr hz) c) (fun _ => ?_)
    refine g_ldc2 hF kc_X10_154 dX10_run_8 11 rfl ?_
    exact g_lret hF dX10_run_11 (Nat.le_of_ble_eq_true rfl) (Nat.le_of_ble_eq_true rfl) (fun H h => hR _ _ ⟨congrArg (fun z => some (Value.long z)) (rfl), MS.mk hr h⟩)
  · rcases pk_ix z (n := G) (by omega) with hz1 | hz1 | ⟨g, hg, rfl⟩
    · exact absurd (Or.inl hz1) hz
    · exact absurd (Or.inr (hG ▸ hz1)) hz
    · have hg4 : g < 4 := by omega
      obtain ⟨⟨N, n1, n6, n0, R, rN, r0⟩, ⟨A, a6, ha⟩, -⟩ := ho g hg4
      have eN : nN (v.2.2.2 g) = N := by unfold nN; rw [n0, nI_clamp (by omega)]
      have eA : nA (v.2.2.2 g) = A := by unfold nA; rw [ha, nI_clamp (by omega)]
      have eR : nR (v.2.2.2 g) = R := by unfold nR; rw [r0, nI_clamp (by omega)]
      by_cases hq : (0 ≤ q ∧ q ≤ 6) ∧ (0 ≤ w ∧ w ≤ 5)
      · obtain ⟨B, -, B6, rfl⟩ := btw (a := 0) (b := 6) (by omega) (by omega) hq.1
        obtain ⟨m, -, m5, rfl⟩ := btw (a := 0) (b := 5) (by omega) (by omega) hq.2
        rw [show fRun (v, hv, d, iv, isd, ik, bg, bl, bs, nb, sd) (nI g) (nI B) (nI m) = prt (frR (v.2.2.2 g) B m) m by unfold fRun; rw [if_neg hz, if_neg (fun y => y.elim (fun y => y hq.1) (fun y => y hq.2)), nI_clamp (by omega), nI_clamp (by omega), nI_clamp (by omega)]] at hR
        obtain ⟨sb1, sb2⟩ := sW_b (N := N) (A := A) (R := R) (B := B) n6 a6 B6
        have b1 : wt (fct N) 1 N A R B N ≤ sW (wt (fct N) 1 N A R B) (N + 1) := sW_ge _ (N + 1) N (by omega)
        have b2 := sRf_le (wt (fct N) 1 N A R B) N R (N + 1)
        have b3 := sTm_le (wt (fct N) 1 N A R B) (N + 1) (by omega)
        have loop : ∀ (ws1 : Nat → Int64), (∀ k, k ≤ N → ws1 k = lN (wt (fct N) 1 N A R B k)) → ∀ (n j : Nat) (i : Int32) (s1 s2 : Int64), N + 1 - j < n → j ≤ N + 1 → i = nI j → s1 = lN (sRf (wt (fct N) 1 N A R B) N R j) → s2 = lN (sTm (wt (fct N) 1 N A R B) j) → go l (rm 6) E x 0 0 (Mm E c (flat v) pf im ss ik bk ws1 cm ls nq (nI d) (lN sd) (nI nb) (lN (sW (wt (fct N) 1 N A R B) (N + 1))) ro) [some (.ref c), some (.int (nI g)), some (.int (nI B)), some (.int (nI m)), some (.int (nI N)), some (.long s1), none, some (.long s2), none, some (.int i)] 71 [] := by
          intro ws1 hw n
          induction n with
          | zero => intro j i s1 s2 h; omega
          | succ n ih =>
            intro j i s1 s2 hn0 hj hi h1 h2
            subst hi
            by_cases hlt : j ≤ N
            · have esub : nI N - nI j = nI (N - j) := by rw [show nI N = nI (N - j) + nI j by rw [nI_add]; congr 1; omega, Int32.add_sub_cancel]
              refine g_iload hF dX10_run_71 73 rfl rfl ?_
              refine g_iload hF dX10_run_73 75 rfl rfl ?_
              refine g_icmp_gt hF dX10_run_75 78 rfl 130 (by decide) (fun c => absurd c (fun y => absurd (i_lt y (by omega) (by omega)) (by omega))) (fun _ => ?_)
              refine g_lload hF dX10_run_78 80 rfl rfl ?_
              refine g_iload hF dX10_run_80 82 rfl rfl ?_
              refine g_iload hF dX10_run_82 84 rfl rfl ?_
              refine g_isub hF dX10_run_84 85 rfl ?_
              rw [esub]
              refine g_aload_n hF dX10_run_85 86 rfl rfl ?_
              refine g_iload_n hF dX10_run_86 87 rfl rfl ?_
              refine g_iconst hF (2) dX10_run_87 88 rfl rfl ?_
              rw [show (2 : Int32) = nI 2 by decide]
              refine g_callV hF cv_X10_54 (c_M_of l E c v pf im ss ik bk ws1 cm ls nq (nI d) (lN sd) (nI nb) (lN (sW (wt (fct N) 1 N A R B) (N + 1))) ro g 2 hg4 (by omega)) dX10_run_88 91 rfl (st := [_, _]) rfl rfl ⟨Nat.le_of_ble_eq_true rfl, Nat.le_of_ble_eq_true rfl⟩ ⟨Nat.le_of_ble_eq_true rfl, Nat.le_of_ble_eq_true rfl⟩ rfl (Nat.le_of_ble_eq_true rfl) 10 rfl (by intro H h; first | exact h.1 | exact h.2.1 | exact h.2.2.1 | exact h.2.2.2.1 | exact h.2.2.2.2.1 | exact h.2.2.2.2.2.1 | exact h.2.2.2.2.2.2.1 | exact h.2.2.2.2.2.2.2.1 | exact h.2.2.2.2.2.2.2.2.1 | exact h.2.2.2.2.2.2.2.2.2.1 | exact h.2.2.2.2.2.2.2.2.2.2) (Pr' := _) (fun _ h => h) (fun q z => z.elim) (fun _ _ _ h _ => by exact h) (st1 := [_, _, _]) rfl (k1 := 0) (n1 := 0) rfl rfl ?_
              rw [r0]
              refine g_icmp_gt hF dX10_run_91 94 rfl 104 (by decide) (fun c91 => ?_) (fun c91 => ?_)
              · refine g_lconst hF (0) dX10_run_104 105 rfl rfl ?_
                refine g_ladd hF dX10_run_105 106 rfl ?_
                rw [h1, show lN (sRf (wt (fct N) 1 N A R B) N R j) + 0 = lN (sRf (wt (fct N) 1 N A R B) N R j) from Int64.add_zero _]
                refine g_lstore hF dX10_run_106 108 rfl (lo' := [_, _, _, _, _, _, _, _, _, _]) (Nat.le_of_ble_eq_true rfl) rfl ?_
                refine g_lload hF dX10_run_108 110 rfl rfl ?_
                refine g_iload hF dX10_run_110 112 rfl rfl ?_
                refine g_i2l hF dX10_run_112 113 rfl ?_
                rw [nI_l (by omega)]
                refine g_aload_n hF dX10_run_113 114 rfl rfl ?_
                refine g_get hF fl_X10_30 dX10_run_114 117 rfl (by intro H h; first | exact h.1 | exact h.2.1 | exact h.2.2.1 | exact h.2.2.2.1 | exact h.2.2.2.2.1 | exact h.2.2.2.2.2.1 | exact h.2.2.2.2.2.2.1 | exact h.2.2.2.2.2.2.2.1 | exact h.2.2.2.2.2.2.2.2.1 | exact h.2.2.2.2.2.2.2.2.2.1 | exact h.2.2.2.2.2.2.2.2.2.2) rfl ?_
                refine g_iload hF dX10_run_117 119 rfl rfl ?_
                refine g_lald hF dX10_run_119 120 rfl (by intro H h; first | exact h.1 | exact h.2.1 | exact h.2.2.1 | exact h.2.2.2.1 | exact h.2.2.2.2.1 | exact h.2.2.2.2.2.1 | exact h.2.2.2.2.2.2.1 | exact h.2.2.2.2.2.2.2.1 | exact h.2.2.2.2.2.2.2.2.1 | exact h.2.2.2.2.2.2.2.2.2.1 | exact h.2.2.2.2.2.2.2.2.2.2) (vp_in_nI (show j < 7 by omega) (by omega)) ?_
                rw [nI_clamp (by omega), hw j hlt]
                refine g_lmul hF dX10_run_120 121 rfl ?_
                rw [lN_mul]
                refine g_ladd hF dX10_run_121 122 rfl ?_
                rw [h2, lN_add]
                refine g_lstore hF dX10_run_122 124 rfl (lo' := [_, _, _, _, _, _, _, _, _, _]) (Nat.le_of_ble_eq_true rfl) rfl ?_
                refine g_iinc hF dX10_run_124 127 rfl (1) rfl (lo' := [_, _, _, _, _, _, _, _, _, _]) rfl rfl ?_
                refine g_goto hF dX10_run_127 71 (by decide) ?_
                exact ih (j + 1) _ _ _ (by omega) (by omega) (nI_succ j).symm (by conv => rhs; unfold sRf; rw [if_pos (i_lt c91 (by omega) (by omega))]) rfl
              · refine g_aload_n hF dX10_run_94 95 rfl rfl ?_
                refine g_get hF fl_X10_30 dX10_run_95 98 rfl (by intro H h; first | exact h.1 | exact h.2.1 | exact h.2.2.1 | exact h.2.2.2.1 | exact h.2.2.2.2.1 | exact h.2.2.2.2.2.1 | exact h.2.2.2.2.2.2.1 | exact h.2.2.2.2.2.2.2.1 | exact h.2.2.2.2.2.2.2.2.1 | exact h.2.2.2.2.2.2.2.2.2.1 | exact h.2.2.2.2.2.2.2.2.2.2) rfl ?_
                refine g_iload hF dX10_run_98 100 rfl rfl ?_
                refine g_lald hF dX10_run_100 101 rfl (by intro H h; first | exact h.1 | exact h.2.1 | exact h.2.2.1 | exact h.2.2.2.1 | exact h.2.2.2.2.1 | exact h.2.2.2.2.2.1 | exact h.2.2.2.2.2.2.1 | exact h.2.2.2.2.2.2.2.1 | exact h.2.2.2.2.2.2.2.2.1 | exact h.2.2.2.2.2.2.2.2.2.1 | exact h.2.2.2.2.2.2.2.2.2.2) (vp_in_nI (show j < 7 by omega) (by omega)) ?_
                rw [nI_clamp (by omega), hw j hlt]
                refine g_goto hF dX10_run_101 105 (by decide) ?_
                refine g_ladd hF dX10_run_105 106 rfl ?_
                rw [h1, lN_add]
                refine g_lstore hF dX10_run_106 108 rfl (lo' := [_, _, _, _, _, _, _, _, _, _]) (Nat.le_of_ble_eq_true rfl) rfl ?_
                refine g_lload hF dX10_run_108 110 rfl rfl ?_
                refine g_iload hF dX10_run_110 112 rfl rfl ?_
                refine g_i2l hF dX10_run_112 113 rfl ?_
                rw [nI_l (by omega)]
                refine g_aload_n hF dX10_run_113 114 rfl rfl ?_
                refine g_get hF fl_X10_30 dX10_run_114 117 rfl (by intro H h; first | exact h.1 | exact h.2.1 | exact h.2.2.1 | exact h.2.2.2.1 | exact h.2.2.2.2.1 | exact h.2.2.2.2.2.1 | exact h.2.2.2.2.2.2.1 | exact h.2.2.2.2.2.2.2.1 | exact h.2.2.2.2.2.2.2.2.1 | exact h.2.2.2.2.2.2.2.2.2.1 | exact h.2.2.2.2.2.2.2.2.2.2) rfl ?_
                refine g_iload hF dX10_run_117 119 rfl rfl ?_
                refine g_lald hF dX10_run_119 120 rfl (by intro H h; first | exact h.1 | exact h.2.1 | exact h.2.2.1 | exact h.2.2.2.1 | exact h.2.2.2.2.1 | exact h.2.2.2.2.2.1 | exact h.2.2.2.2.2.2.1 | exact h.2.2.2.2.2.2.2.1 | exact h.2.2.2.2.2.2.2.2.1 | exact h.2.2.2.2.2.2.2.2.2.1 | exact h.2.2.2.2.2.2.2.2.2.2) (vp_in_nI (show j < 7 by omega) (by omega)) ?_
                rw [nI_clamp (by omega), hw j hlt]
                refine g_lmul hF dX10_run_120 121 rfl ?_
                rw [lN_mul]
                refine g_ladd hF dX10_run_121 122 rfl ?_
                rw [h2, lN_add]
                refine g_lstore hF dX10_run_122 124 rfl (lo' := [_, _, _, _, _, _, _, _, _, _]) (Nat.le_of_ble_eq_true rfl) rfl ?_
                refine g_iinc hF dX10_run_124 127 rfl (1) rfl (lo' := [_, _, _, _, _, _, _, _, _, _]) rfl rfl ?_
                refine g_goto hF dX10_run_127 71 (by decide) ?_
                exact ih (j + 1) _ _ _ (by omega) (by omega) (nI_succ j).symm (by conv => rhs; unfold sRf; rw [if_neg (Nat.not_lt.mpr (i_nlt c91 (by omega) (by omega)))]) rfl
            · obtain rfl : N + 1 = j := by omega
              rw [h1, h2]
              refine g_iload hF dX10_run_71 73 rfl rfl ?_
              refine g_iload hF dX10_run_73 75 rfl rfl ?_
              refine g_icmp_gt hF dX10_run_75 78 rfl 130 (by decide) (fun _ => ?_) (fun c => absurd (nI_lt (by omega) (by omega)) c)
              refine g_iload_n hF dX10_run_130 131 rfl rfl ?_
              refine g_iconst hF (2) dX10_run_131 132 rfl rfl ?_
              refine g_icmp_ge hF dX10_run_132 135 rfl 145 (by decide) (fun c132 => ?_) (fun c132 => ?_)
              · refine g_iload_n hF dX10_run_145 146 rfl rfl ?_
                refine g_iconst hF (4) dX10_run_146 147 rfl rfl ?_
                refine g_icmp_ge hF dX10_run_147 150 rfl 155 (by decide) (fun c147 => ?_) (fun c147 => ?_)
                · refine g_lload hF dX10_run_155 157 rfl rfl ?_
                  refine g_aload_n hF dX10_run_157 158 rfl rfl ?_
                  refine g_get hF fl_X10_147 dX10_run_158 161 rfl (by intro H h; first | exact h.1 | exact h.2.1 | exact h.2.2.1 | exact h.2.2.2.1 | exact h.2.2.2.2.1 | exact h.2.2.2.2.2.1 | exact h.2.2.2.2.2.2.1 | exact h.2.2.2.2.2.2.2.1 | exact h.2.2.2.2.2.2.2.2.1 | exact h.2.2.2.2.2.2.2.2.2.1 | exact h.2.2.2.2.2.2.2.2.2.2) rfl ?_
                  refine g_iload_n hF dX10_run_161 162 rfl rfl ?_
                  refine g_iconst hF (2) dX10_run_162 163 rfl rfl ?_
                  refine g_irem hF dX10_run_163 164 rfl (by decide) ?_
                  rw [rem2 (by omega)]
                  refine g_callS hF cs_X10_162 (c_M_part l E (lN (sTm (wt (fct N) 1 N A R B) (N + 1))) (lN (sW (wt (fct N) 1 N A R B) (N + 1))) (nI (m % 2)) (Mm E c (flat v) pf im ss ik bk ws1 cm ls nq (nI d) (lN sd) (nI nb) (lN (sW (wt (fct N) 1 N A R B) (N + 1))) ro) (part_ok (by omega) (by omega) sb1).1 (part_ok (by omega) (by omega) sb1).2) dX10_run_164 167 rfl (st := []) rfl rfl ⟨Nat.le_of_ble_eq_true rfl, Nat.le_of_ble_eq_true rfl⟩ ⟨Nat.le_of_ble_eq_true rfl, Nat.le_of_ble_eq_true rfl⟩ rfl (Nat.le_of_ble_eq_true rfl) (Pr' := _) (fun _ h => h) (fun q z => z.elim) (fun _ _ _ h _ => by exact h) (st1 := [_]) rfl (k1 := 0) (n1 := 0) rfl rfl ?_
                  exact g_lret hF dX10_run_167 (Nat.le_of_ble_eq_true rfl) (Nat.le_of_ble_eq_true rfl) (fun H h => hR _ _ ⟨congrArg (fun z => some (Value.long z)) (by rw [part_eq (by omega) (by omega) sb1]; unfold frR wE; rw [eN, eA, eR, if_neg (Nat.not_lt.mpr (i_le (a := 2) c132 (by omega) (by omega))), if_neg (Nat.not_lt.mpr (i_le (a := 4) c147 (by omega) (by omega)))]), MS.mk hr h⟩)
                · refine g_lload hF dX10_run_150 152 rfl rfl ?_
                  refine g_goto hF dX10_run_152 157 (by decide) ?_
                  refine g_aload_n hF dX10_run_157 158 rfl rfl ?_
                  refine g_get hF fl_X10_147 dX10_run_158 161 rfl (by intro H h; first | exact h.1 | exact h.2.1 | exact h.2.2.1 | exact h.2.2.2.1 | exact h.2.2.2.2.1 | exact h.2.2.2.2.2.1 | exact h.2.2.2.2.2.2.1 | exact h.2.2.2.2.2.2.2.1 | exact h.2.2.2.2.2.2.2.2.1 | exact h.2.2.2.2.2.2.2.2.2.1 | exact h.2.2.2.2.2.2.2.2.2.2) rfl ?_
                  refine g_iload_n hF dX10_run_161 162 rfl rfl ?_
                  refine g_iconst hF (2) dX10_run_162 163 rfl rfl ?_
                  refine g_irem hF dX10_run_163 164 rfl (by decide) ?_
                  rw [rem2 (by omega)]
                  refine g_callS hF cs_X10_162 (c_M_part l E (lN (sRf (wt (fct N) 1 N A R B) N R (N + 1))) (lN (sW (wt (fct N) 1 N A R B) (N + 1))) (nI (m % 2)) (Mm E c (flat v) pf im ss ik bk ws1 cm ls nq (nI d) (lN sd) (nI nb) (lN (sW (wt (fct N) 1 N A R B) (N + 1))) ro) (part_ok (by omega) (by omega) sb1).1 (part_ok (by omega) (by omega) sb1).2) dX10_run_164 167 rfl (st := []) rfl rfl ⟨Nat.le_of_ble_eq_true rfl, Nat.le_of_ble_eq_true rfl⟩ ⟨Nat.le_of_ble_eq_true rfl, Nat.le_of_ble_eq_true rfl⟩ rfl (Nat.le_of_ble_eq_true rfl) (Pr' := _) (fun _ h => h) (fun q z => z.elim) (fun _ _ _ h _ => by exact h) (st1 := [_]) rfl (k1 := 0) (n1 := 0) rfl rfl ?_
                  exact g_lret hF dX10_run_167 (Nat.le_of_ble_eq_true rfl) (Nat.le_of_ble_eq_true rfl) (fun H h => hR _ _ ⟨congrArg (fun z => some (Value.long z)) (by rw [part_eq (by omega) (by omega) sb1]; unfold frR wE; rw [eN, eA, eR, if_neg (Nat.not_lt.mpr (i_le (a := 2) c132 (by omega) (by omega))), if_pos (i_nle (a := 4) c147 (by omega) (by omega))]), MS.mk hr h⟩)
              · refine g_aload_n hF dX10_run_135 136 rfl rfl ?_
                refine g_get hF fl_X10_30 dX10_run_136 139 rfl (by intro H h; first | exact h.1 | exact h.2.1 | exact h.2.2.1 | exact h.2.2.2.1 | exact h.2.2.2.2.1 | exact h.2.2.2.2.2.1 | exact h.2.2.2.2.2.2.1 | exact h.2.2.2.2.2.2.2.1 | exact h.2.2.2.2.2.2.2.2.1 | exact h.2.2.2.2.2.2.2.2.2.1 | exact h.2.2.2.2.2.2.2.2.2.2) rfl ?_
                refine g_iload hF dX10_run_139 141 rfl rfl ?_
                refine g_lald hF dX10_run_141 142 rfl (by intro H h; first | exact h.1 | exact h.2.1 | exact h.2.2.1 | exact h.2.2.2.1 | exact h.2.2.2.2.1 | exact h.2.2.2.2.2.1 | exact h.2.2.2.2.2.2.1 | exact h.2.2.2.2.2.2.2.1 | exact h.2.2.2.2.2.2.2.2.1 | exact h.2.2.2.2.2.2.2.2.2.1 | exact h.2.2.2.2.2.2.2.2.2.2) (vp_in_nI (show N < 7 by omega) (by omega)) ?_
                rw [nI_clamp (by omega), hw N (by omega)]
                refine g_goto hF dX10_run_142 157 (by decide) ?_
                refine g_aload_n hF dX10_run_157 158 rfl rfl ?_
                refine g_get hF fl_X10_147 dX10_run_158 161 rfl (by intro H h; first | exact h.1 | exact h.2.1 | exact h.2.2.1 | exact h.2.2.2.1 | exact h.2.2.2.2.1 | exact h.2.2.2.2.2.1 | exact h.2.2.2.2.2.2.1 | exact h.2.2.2.2.2.2.2.1 | exact h.2.2.2.2.2.2.2.2.1 | exact h.2.2.2.2.2.2.2.2.2.1 | exact h.2.2.2.2.2.2.2.2.2.2) rfl ?_
                refine g_iload_n hF dX10_run_161 162 rfl rfl ?_
                refine g_iconst hF (2) dX10_run_162 163 rfl rfl ?_
                refine g_irem hF dX10_run_163 164 rfl (by decide) ?_
                rw [rem2 (by omega)]
                refine g_callS hF cs_X10_162 (c_M_part l E (lN (wt (fct N) 1 N A R B N)) (lN (sW (wt (fct N) 1 N A R B) (N + 1))) (nI (m % 2)) (Mm E c (flat v) pf im ss ik bk ws1 cm ls nq (nI d) (lN sd) (nI nb) (lN (sW (wt (fct N) 1 N A R B) (N + 1))) ro) (part_ok (by omega) (by omega) sb1).1 (part_ok (by omega) (by omega) sb1).2) dX10_run_164 167 rfl (st := []) rfl rfl ⟨Nat.le_of_ble_eq_true rfl, Nat.le_of_ble_eq_true rfl⟩ ⟨Nat.le_of_ble_eq_true rfl, Nat.le_of_ble_eq_true rfl⟩ rfl (Nat.le_of_ble_eq_true rfl) (Pr' := _) (fun _ h => h) (fun q z => z.elim) (fun _ _ _ h _ => by exact h) (st1 := [_]) rfl (k1 := 0) (n1 := 0) rfl rfl ?_
                exact g_lret hF dX10_run_167 (Nat.le_of_ble_eq_true rfl) (Nat.le_of_ble_eq_true rfl) (fun H h => hR _ _ ⟨congrArg (fun z => some (Value.long z)) (by rw [part_eq (by omega) (by omega) sb1]; unfold frR wE; rw [eN, eA, eR, if_pos (i_nle (a := 2) c132 (by omega) (by omega))]), MS.mk hr h⟩)
        refine g_aload_n hF dX10_run_0 1 rfl rfl ?_
        refine g_iload_n hF dX10_run_1 2 rfl rfl ?_
        refine g_callV hF cv_X10_50 (c_M_isGroup l E c v pf im ss ik bk ws cm ls nq (nI d) (lN sd) (nI nb) wh ro G hG G1 G4 (nI g)) dX10_run_2 5 rfl (st := []) rfl rfl ⟨Nat.le_of_ble_eq_true rfl, Nat.le_of_ble_eq_true rfl⟩ ⟨Nat.le_of_ble_eq_true rfl, Nat.le_of_ble_eq_true rfl⟩ rfl (Nat.le_of_ble_eq_true rfl) 10 rfl (by intro H h; first | exact h.1 | exact h.2.1 | exact h.2.2.1 | exact h.2.2.2.1 | exact h.2.2.2.2.1 | exact h.2.2.2.2.2.1 | exact h.2.2.2.2.2.2.1 | exact h.2.2.2.2.2.2.2.1 | exact h.2.2.2.2.2.2.2.2.1 | exact h.2.2.2.2.2.2.2.2.2.1 | exact h.2.2.2.2.2.2.2.2.2.2) (Pr' := _) (fun _ h => h) (fun q z => z.elim) (fun _ _ _ h _ => by exact h) (st1 := [_]) rfl (k1 := 0) (n1 := 0) rfl rfl ?_
        refine g_if_ne hF dX10_run_5 8 rfl 12 (by decide) (fun _ => ?_) (fun c => absurd c (fun y => hz (iy0.mp y)))
        refine g_iload_n hF dX10_run_12 13 rfl rfl ?_
        refine g_iconst hF (0) dX10_run_13 14 rfl rfl ?_
        refine g_bipush hF (6) dX10_run_14 16 rfl rfl ?_
        refine g_callS hF cs_X10_46 (c_M_in l E (nI B) (0) (6) (Mm E c (flat v) pf im ss ik bk ws cm ls nq (nI d) (lN sd) (nI nb) wh ro) 1 ((if_pos hq.1).symm)) dX10_run_16 19 rfl (st := []) rfl rfl ⟨Nat.le_of_ble_eq_true rfl, Nat.le_of_ble_eq_true rfl⟩ ⟨Nat.le_of_ble_eq_true rfl, Nat.le_of_ble_eq_true rfl⟩ rfl (Nat.le_of_ble_eq_true rfl) (Pr' := _) (fun _ h => h) (fun q z => z.elim) (fun _ _ _ h _ => by exact h) (st1 := [_]) rfl (k1 := 0) (n1 := 0) rfl rfl ?_
        refine g_if_eq hF dX10_run_19 22 rfl 31 (by decide) (fun c => absurd c ((by decide))) (fun _ => ?_)
        refine g_iload_n hF dX10_run_22 23 rfl rfl ?_
        refine g_iconst hF (0) dX10_run_23 24 rfl rfl ?_
        refine g_iconst hF (5) dX10_run_24 25 rfl rfl ?_
        refine g_callS hF cs_X10_46 (c_M_in l E (nI m) (0) (5) (Mm E c (flat v) pf im ss ik bk ws cm ls nq (nI d) (lN sd) (nI nb) wh ro) 1 ((if_pos hq.2).symm)) dX10_run_25 28 rfl (st := []) rfl rfl ⟨Nat.le_of_ble_eq_true rfl, Nat.le_of_ble_eq_true rfl⟩ ⟨Nat.le_of_ble_eq_true rfl, Nat.le_of_ble_eq_true rfl⟩ rfl (Nat.le_of_ble_eq_true rfl) (Pr' := _) (fun _ h => h) (fun q z => z.elim) (fun _ _ _ h _ => by exact h) (st1 := [_]) rfl (k1 := 0) (n1 := 0) rfl rfl ?_
        refine g_if_ne hF dX10_run_28 31 rfl 35 (by decide) (fun _ => ?_) (fun c => absurd c ((by decide)))
        refine g_aload_n hF dX10_run_35 36 rfl rfl ?_
        refine g_iload_n hF dX10_run_36 37 rfl rfl ?_
        refine g_iconst hF (0) dX10_run_37 38 rfl rfl ?_
        rw [show (0 : Int32) = nI 0 by decide]
        refine g_callV hF cv_X10_54 (c_M_of l E c v pf im ss ik bk ws cm ls nq (nI d) (lN sd) (nI nb) wh ro g 0 hg4 (by omega)) dX10_run_38 41 rfl (st := []) rfl rfl ⟨Nat.le_of_ble_eq_true rfl, Nat.le_of_ble_eq_true rfl⟩ ⟨Nat.le_of_ble_eq_true rfl, Nat.le_of_ble_eq_true rfl⟩ rfl (Nat.le_of_ble_eq_true rfl) 10 rfl (by intro H h; first | exact h.1 | exact h.2.1 | exact h.2.2.1 | exact h.2.2.2.1 | exact h.2.2.2.2.1 | exact h.2.2.2.2.2.1 | exact h.2.2.2.2.2.2.1 | exact h.2.2.2.2.2.2.2.1 | exact h.2.2.2.2.2.2.2.2.1 | exact h.2.2.2.2.2.2.2.2.2.1 | exact h.2.2.2.2.2.2.2.2.2.2) (Pr' := _) (fun _ h => h) (fun q z => z.elim) (fun _ _ _ h _ => by exact h) (st1 := [_]) rfl (k1 := 0) (n1 := 0) rfl rfl ?_
        rw [n0]
        refine g_istore hF dX10_run_41 43 rfl (lo' := [_, _, _, _, _, _, _, _, _, _]) (Nat.le_of_ble_eq_true rfl) rfl ?_
        refine g_aload_n hF dX10_run_43 44 rfl rfl ?_
        refine g_iload hF dX10_run_44 46 rfl rfl ?_
        refine g_aload_n hF dX10_run_46 47 rfl rfl ?_
        refine g_iload_n hF dX10_run_47 48 rfl rfl ?_
        refine g_iconst hF (1) dX10_run_48 49 rfl rfl ?_
        rw [show (1 : Int32) = nI 1 by decide]
        refine g_callV hF cv_X10_54 (c_M_of l E c v pf im ss ik bk ws cm ls nq (nI d) (lN sd) (nI nb) wh ro g 1 hg4 (by omega)) dX10_run_49 52 rfl (st := [_, _]) rfl rfl ⟨Nat.le_of_ble_eq_true rfl, Nat.le_of_ble_eq_true rfl⟩ ⟨Nat.le_of_ble_eq_true rfl, Nat.le_of_ble_eq_true rfl⟩ rfl (Nat.le_of_ble_eq_true rfl) 10 rfl (by intro H h; first | exact h.1 | exact h.2.1 | exact h.2.2.1 | exact h.2.2.2.1 | exact h.2.2.2.2.1 | exact h.2.2.2.2.2.1 | exact h.2.2.2.2.2.2.1 | exact h.2.2.2.2.2.2.2.1 | exact h.2.2.2.2.2.2.2.2.1 | exact h.2.2.2.2.2.2.2.2.2.1 | exact h.2.2.2.2.2.2.2.2.2.2) (Pr' := _) (fun _ h => h) (fun q z => z.elim) (fun _ _ _ h _ => by exact h) (st1 := [_, _, _]) rfl (k1 := 0) (n1 := 0) rfl rfl ?_
        rw [ha]
        refine g_aload_n hF dX10_run_52 53 rfl rfl ?_
        refine g_iload_n hF dX10_run_53 54 rfl rfl ?_
        refine g_iconst hF (2) dX10_run_54 55 rfl rfl ?_
        rw [show (2 : Int32) = nI 2 by decide]
        refine g_callV hF cv_X10_54 (c_M_of l E c v pf im ss ik bk ws cm ls nq (nI d) (lN sd) (nI nb) wh ro g 2 hg4 (by omega)) dX10_run_55 58 rfl (st := [_, _, _]) rfl rfl ⟨Nat.le_of_ble_eq_true rfl, Nat.le_of_ble_eq_true rfl⟩ ⟨Nat.le_of_ble_eq_true rfl, Nat.le_of_ble_eq_true rfl⟩ rfl (Nat.le_of_ble_eq_true rfl) 10 rfl (by intro H h; first | exact h.1 | exact h.2.1 | exact h.2.2.1 | exact h.2.2.2.1 | exact h.2.2.2.2.1 | exact h.2.2.2.2.2.1 | exact h.2.2.2.2.2.2.1 | exact h.2.2.2.2.2.2.2.1 | exact h.2.2.2.2.2.2.2.2.1 | exact h.2.2.2.2.2.2.2.2.2.1 | exact h.2.2.2.2.2.2.2.2.2.2) (Pr' := _) (fun _ h => h) (fun q z => z.elim) (fun _ _ _ h _ => by exact h) (st1 := [_, _, _, _]) rfl (k1 := 0) (n1 := 0) rfl rfl ?_
        rw [r0]
        refine g_iload_n hF dX10_run_58 59 rfl rfl ?_
        refine g_callV hF cv_X10_158 (c_M_weighs l E c v pf im ss ik bk ws cm ls nq (nI d) (lN sd) (nI nb) wh ro N A R B n1 n6 a6 (by omega) B6) dX10_run_59 62 rfl (st := []) rfl rfl ⟨Nat.le_of_ble_eq_true rfl, Nat.le_of_ble_eq_true rfl⟩ ⟨Nat.le_of_ble_eq_true rfl, Nat.le_of_ble_eq_true rfl⟩ rfl (Nat.le_of_ble_eq_true rfl) 10 rfl (by intro H h; first | exact h.1 | exact h.2.1 | exact h.2.2.1 | exact h.2.2.2.1 | exact h.2.2.2.2.1 | exact h.2.2.2.2.2.1 | exact h.2.2.2.2.2.2.1 | exact h.2.2.2.2.2.2.2.1 | exact h.2.2.2.2.2.2.2.2.1 | exact h.2.2.2.2.2.2.2.2.2.1 | exact h.2.2.2.2.2.2.2.2.2.2) (Pr' := _) (fun _ h => h) (hA) (fun _ _ _ h _ => by exact h) (st1 := []) rfl (k1 := 0) (n1 := 0) rfl rfl ?_
        refine g_ex (fun ws1 => ?_)
        refine g_pure (fun H h => h.1) (fun hw => ?_)
        refine g_pr (fun H h => h.2) ?_
        refine g_lconst hF (0) dX10_run_62 63 rfl rfl ?_
        refine g_lstore hF dX10_run_63 65 rfl (lo' := [_, _, _, _, _, _, _, _, _, _]) (Nat.le_of_ble_eq_true rfl) rfl ?_
        refine g_lconst hF (0) dX10_run_65 66 rfl rfl ?_
        refine g_lstore hF dX10_run_66 68 rfl (lo' := [_, _, _, _, _, _, _, _, _, _]) (Nat.le_of_ble_eq_true rfl) rfl ?_
        refine g_iconst hF (0) dX10_run_68 69 rfl rfl ?_
        refine g_istore hF dX10_run_69 71 rfl (lo' := [_, _, _, _, _, _, _, _, _, _]) (Nat.le_of_ble_eq_true rfl) rfl ?_
        exact loop ws1 hw (N + 2) 0 0 0 0 (by omega) (by omega) nI_0.symm (show (0 : Int64) = lN 0 by decide) (show (0 : Int64) = lN 0 by decide)
      · rw [show fRun (v, hv, d, iv, isd, ik, bg, bl, bs, nb, sd) (nI g) q w = -1000000002 from (if_neg hz).trans (if_pos (Classical.byContradiction fun y => hq ⟨Classical.byContradiction fun y1 => y (Or.inl y1), Classical.byContradiction fun y1 => y (Or.inr y1)⟩))] at hR
        refine g_aload_n hF dX10_run_0 1 rfl rfl ?_
        refine g_iload_n hF dX10_run_1 2 rfl rfl ?_
        refine g_callV hF cv_X10_50 (c_M_isGroup l E c v pf im ss ik bk ws cm ls nq (nI d) (lN sd) (nI nb) wh ro G hG G1 G4 (nI g)) dX10_run_2 5 rfl (st := []) rfl rfl ⟨Nat.le_of_ble_eq_true rfl, Nat.le_of_ble_eq_true rfl⟩ ⟨Nat.le_of_ble_eq_true rfl, Nat.le_of_ble_eq_true rfl⟩ rfl (Nat.le_of_ble_eq_true rfl) 10 rfl (by intro H h; first | exact h.1 | exact h.2.1 | exact h.2.2.1 | exact h.2.2.2.1 | exact h.2.2.2.2.1 | exact h.2.2.2.2.2.1 | exact h.2.2.2.2.2.2.1 | exact h.2.2.2.2.2.2.2.1 | exact h.2.2.2.2.2.2.2.2.1 | exact h.2.2.2.2.2.2.2.2.2.1 | exact h.2.2.2.2.2.2.2.2.2.2) (Pr' := _) (fun _ h => h) (fun q z => z.elim) (fun _ _ _ h _ => by exact h) (st1 := [_]) rfl (k1 := 0) (n1 := 0) rfl rfl ?_
        refine g_if_ne hF dX10_run_5 8 rfl 12 (by decide) (fun _ => ?_) (fun c => absurd c (fun y => hz (iy0.mp y)))
        refine g_iload_n hF dX10_run_12 13 rfl rfl ?_
        refine g_iconst hF (0) dX10_run_13 14 rfl rfl ?_
        refine g_bipush hF (6) dX10_run_14 16 rfl rfl ?_
        refine g_callS hF cs_X10_46 (c_M_in l E q 0 6 (Mm E c (flat v) pf im ss ik bk ws cm ls nq (nI d) (lN sd) (nI nb) wh ro) _ rfl) dX10_run_16 19 rfl (st := []) rfl rfl ⟨Nat.le_of_ble_eq_true rfl, Nat.le_of_ble_eq_true rfl⟩ ⟨Nat.le_of_ble_eq_true rfl, Nat.le_of_ble_eq_true rfl⟩ rfl (Nat.le_of_ble_eq_true rfl) (Pr' := _) (fun _ h => h) (fun q z => z.elim) (fun _ _ _ h _ => by exact h) (st1 := [_]) rfl (k1 := 0) (n1 := 0) rfl rfl ?_
        refine g_if_eq hF dX10_run_19 22 rfl 31 (by decide) (fun c19 => ?_) (fun c19 => ?_)
        · refine g_ldc2 hF kc_X10_156 dX10_run_31 34 rfl ?_
          exact g_lret hF dX10_run_34 (Nat.le_of_ble_eq_true rfl) (Nat.le_of_ble_eq_true rfl) (fun H h => hR _ _ ⟨congrArg (fun z => some (Value.long z)) (rfl), MS.mk hr h⟩)
        · refine g_iload_n hF dX10_run_22 23 rfl rfl ?_
          refine g_iconst hF (0) dX10_run_23 24 rfl rfl ?_
          refine g_iconst hF (5) dX10_run_24 25 rfl rfl ?_
          refine g_callS hF cs_X10_46 (c_M_in l E w 0 5 (Mm E c (flat v) pf im ss ik bk ws cm ls nq (nI d) (lN sd) (nI nb) wh ro) _ rfl) dX10_run_25 28 rfl (st := []) rfl rfl ⟨Nat.le_of_ble_eq_true rfl, Nat.le_of_ble_eq_true rfl⟩ ⟨Nat.le_of_ble_eq_true rfl, Nat.le_of_ble_eq_true rfl⟩ rfl (Nat.le_of_ble_eq_true rfl) (Pr' := _) (fun _ h => h) (fun q z => z.elim) (fun _ _ _ h _ => by exact h) (st1 := [_]) rfl (k1 := 0) (n1 := 0) rfl rfl ?_
          refine g_if_ne hF dX10_run_28 31 rfl 35 (by decide) (fun c => absurd (iz0.mpr (fun y => hq ⟨iz1 c19, y⟩)) c) (fun _ => ?_)
          refine g_ldc2 hF kc_X10_156 dX10_run_31 34 rfl ?_
          exact g_lret hF dX10_run_34 (Nat.le_of_ble_eq_true rfl) (Nat.le_of_ble_eq_true rfl) (fun H h => hR _ _ ⟨congrArg (fun z => some (Value.long z)) (rfl), MS.mk hr h⟩)
set_option maxRecDepth 100000 in
set_option maxHeartbeats 16000000 in
theorem c_E_linesFor (l : Launch) (E : Ev) (c T : Nat) (σ : AS) (hv0 : okV T σ.1) (z q w : Int32) : Ct l E yX10_linesFor cX10_linesFor 5 (some .int) (rm 6) [.ref c, .int z, .int q, .int w] (MS E c σ) (rV (some (.int (fLf σ z q w))) (MS E c σ)) (rg c 11) := by
  refine ct_start (by decide) [some (.ref c), some (.int z), some (.int q), some (.int w), none] rfl (Nat.le_of_ble_eq_true rfl) ?_
  intro x hF hN hA hR
  obtain ⟨v, hv, d, iv, isd, ik, bg, bl, bs, nb, sd⟩ := σ
  refine g_openM (fun pf im ss bk ws cm ls nq wh ro hr => ?_)
  dsimp only at hv0
  obtain ⟨G, hG, G1, G4, hGc, ho, hn⟩ := okN hv0
  by_cases hz : z < 0 ∨ v.1 ≤ z
  · rw [show fLf (v, hv, d, iv, isd, ik, bg, bl, bs, nb, sd) z q w = -1000000001 from if_pos hz] at hR
    refine g_aload_n hF dX10_linesFor_0 1 rfl rfl ?_
    refine g_iload_n hF dX10_linesFor_1 2 rfl rfl ?_
    refine g_callV hF cv_X10_50 (c_M_isGroup l E c v pf im ss ik bk ws cm ls nq (nI d) (lN sd) (nI nb) wh ro G hG G1 G4 z) dX10_linesFor_2 5 rfl (st := []) rfl rfl ⟨Nat.le_of_ble_eq_true rfl, Nat.le_of_ble_eq_true rfl⟩ ⟨Nat.le_of_ble_eq_true rfl, Nat.le_of_ble_eq_true rfl⟩ rfl (Nat.le_of_ble_eq_true rfl) 10 rfl (by intro H h; first | exact h.1 | exact h.2.1 | exact h.2.2.1 | exact h.2.2.2.1 | exact h.2.2.2.2.1 | exact h.2.2.2.2.2.1 | exact h.2.2.2.2.2.2.1 | exact h.2.2.2.2.2.2.2.1 | exact h.2.2.2.2.2.2.2.2.1 | exact h.2.2.2.2.2.2.2.2.2.1 | exact h.2.2.2.2.2.2.2.2.2.2) (Pr' := _) (fun _ h => h) (fun q z => z.elim) (fun _ _ _ h _ => by exact h) (st1 := [_]) rfl (k1 := 0) (n1 := 0) rfl rfl ?_
    refine g_if_ne hF dX10_linesFor_5 8 rfl 11 (by decide) (fun c => absurd (iy0.mpr hz) c) (fun _ => ?_)
    refine g_ldc hF kc_X10_118 dX10_linesFor_8 10 rfl ?_
    exact g_iret hF dX10_linesFor_10 (Nat.le_of_ble_eq_true rfl) (Nat.le_of_ble_eq_true rfl) (fun H h => hR _ _ ⟨congrArg (fun z => some (Value.int z)) (rfl), MS.mk hr h⟩)
  · rcases pk_ix z (n := G) (by omega) with hz1 | hz1 | ⟨g, hg, rfl⟩
    · exact absurd (Or.inl hz1) hz
    · exact absurd (Or.inr (hG ▸ hz1)) hz
    · have hg4 : g < 4 := by omega
      obtain ⟨⟨N, n1, n6, n0, R, rN, r0⟩, ⟨A, a6, ha⟩, -⟩ := ho g hg4
      have eN : nN (v.2.2.2 g) = N := by unfold nN; rw [n0, nI_clamp (by omega)]
      have eA : nA (v.2.2.2 g) = A := by unfold nA; rw [ha, nI_clamp (by omega)]
      have eR : nR (v.2.2.2 g) = R := by unfold nR; rw [r0, nI_clamp (by omega)]
      by_cases hq : (0 ≤ q ∧ q ≤ 6) ∧ (1 ≤ w ∧ w ≤ 999)
      · obtain ⟨B, -, B6, rfl⟩ := btw (a := 0) (b := 6) (by omega) (by omega) hq.1
        obtain ⟨p6, p1, p9, rfl⟩ := btw (a := 1) (b := 999) (by omega) (by omega) hq.2
        have e1000 : (1000 : Int64) = lN 1000 := by decide
        rw [show fLf (v, hv, d, iv, isd, ik, bg, bl, bs, nb, sd) (nI g) (nI B) (nI p6) = lfS A B p6 6 1 by unfold fLf; rw [if_neg hz, if_neg (fun y => y.elim (fun y => y hq.1) (fun y => y hq.2)), nI_clamp (by omega), nI_clamp (by omega), nI_clamp (by omega), eA]] at hR
        have loop : ∀ (n j : Nat) (i : Int32) (ws : Nat → Int64) (wh : Int64), 6 + 1 - j < n → 1 ≤ j → j ≤ 6 + 1 → i = nI j → lfS A B p6 6 1 = lfS A B p6 (6 + 1 - j) j → go l (rm 6) E x 0 0 (Mm E c (flat v) pf im ss ik bk ws cm ls nq (nI d) (lN sd) (nI nb) wh ro) [some (.ref c), some (.int (nI g)), some (.int (nI B)), some (.int (nI p6)), some (.int i)] 38 [] := by
          intro n
          induction n with
          | zero => intro j i ws wh h; omega
          | succ n ih =>
            intro j i ws wh hn0 j1 hj hi hf
            subst hi
            by_cases hlt : j ≤ 6
            · rw [show 6 + 1 - j = (6 - j) + 1 by omega] at hf
              have hl1 := los_b (N := j) (A := A) (R := 0) (B := B) (p := p6) (by omega) a6 B6 p9
              refine g_iload hF dX10_linesFor_38 40 rfl rfl ?_
              refine g_bipush hF (7) dX10_linesFor_40 42 rfl rfl ?_
              refine g_icmp_ge hF dX10_linesFor_42 45 rfl 90 (by decide) (fun c => absurd c (fun y => absurd (i_le (a := 7) y (by omega) (by omega)) (by omega))) (fun _ => ?_)
              refine g_aload_n hF dX10_linesFor_45 46 rfl rfl ?_
              refine g_iload hF dX10_linesFor_46 48 rfl rfl ?_
              refine g_aload_n hF dX10_linesFor_48 49 rfl rfl ?_
              refine g_iload_n hF dX10_linesFor_49 50 rfl rfl ?_
              refine g_iconst hF (1) dX10_linesFor_50 51 rfl rfl ?_
              rw [show (1 : Int32) = nI 1 by decide]
              refine g_callV hF cv_X10_54 (c_M_of l E c v pf im ss ik bk ws cm ls nq (nI d) (lN sd) (nI nb) wh ro g 1 hg4 (by omega)) dX10_linesFor_51 54 rfl (st := [_, _]) rfl rfl ⟨Nat.le_of_ble_eq_true rfl, Nat.le_of_ble_eq_true rfl⟩ ⟨Nat.le_of_ble_eq_true rfl, Nat.le_of_ble_eq_true rfl⟩ rfl (Nat.le_of_ble_eq_true rfl) 10 rfl (by intro H h; first | exact h.1 | exact h.2.1 | exact h.2.2.1 | exact h.2.2.2.1 | exact h.2.2.2.2.1 | exact h.2.2.2.2.2.1 | exact h.2.2.2.2.2.2.1 | exact h.2.2.2.2.2.2.2.1 | exact h.2.2.2.2.2.2.2.2.1 | exact h.2.2.2.2.2.2.2.2.2.1 | exact h.2.2.2.2.2.2.2.2.2.2) (Pr' := _) (fun _ h => h) (fun q z => z.elim) (fun _ _ _ h _ => by exact h) (st1 := [_, _, _]) rfl (k1 := 0) (n1 := 0) rfl rfl ?_
              rw [ha]
              refine g_iconst hF (0) dX10_linesFor_54 55 rfl rfl ?_
              refine g_iload_n hF dX10_linesFor_55 56 rfl rfl ?_
              refine g_callV hF cv_X10_158 (c_M_weighs l E c v pf im ss ik bk ws cm ls nq (nI d) (lN sd) (nI nb) wh ro j A 0 B (by omega) (by omega) a6 (by omega) B6) dX10_linesFor_56 59 rfl (st := []) rfl rfl ⟨Nat.le_of_ble_eq_true rfl, Nat.le_of_ble_eq_true rfl⟩ ⟨Nat.le_of_ble_eq_true rfl, Nat.le_of_ble_eq_true rfl⟩ rfl (Nat.le_of_ble_eq_true rfl) 10 rfl (by intro H h; first | exact h.1 | exact h.2.1 | exact h.2.2.1 | exact h.2.2.2.1 | exact h.2.2.2.2.1 | exact h.2.2.2.2.2.1 | exact h.2.2.2.2.2.2.1 | exact h.2.2.2.2.2.2.2.1 | exact h.2.2.2.2.2.2.2.2.1 | exact h.2.2.2.2.2.2.2.2.2.1 | exact h.2.2.2.2.2.2.2.2.2.2) (Pr' := _) (fun _ h => h) (hA) (fun _ _ _ h _ => by exact h) (st1 := []) rfl (k1 := 0) (n1 := 0) rfl rfl ?_
              refine g_ex (fun ws1 => ?_)
              refine g_pure (fun H h => h.1) (fun hw => ?_)
              refine g_pr (fun H h => h.2) ?_
              refine g_ldc2 hF kc_X10_96 dX10_linesFor_59 62 rfl ?_
              refine g_aload_n hF dX10_linesFor_62 63 rfl rfl ?_
              refine g_get hF fl_X10_30 dX10_linesFor_63 66 rfl (by intro H h; first | exact h.1 | exact h.2.1 | exact h.2.2.1 | exact h.2.2.2.1 | exact h.2.2.2.2.1 | exact h.2.2.2.2.2.1 | exact h.2.2.2.2.2.2.1 | exact h.2.2.2.2.2.2.2.1 | exact h.2.2.2.2.2.2.2.2.1 | exact h.2.2.2.2.2.2.2.2.2.1 | exact h.2.2.2.2.2.2.2.2.2.2) rfl ?_
              refine g_iload hF dX10_linesFor_66 68 rfl rfl ?_
              refine g_lald hF dX10_linesFor_68 69 rfl (by intro H h; first | exact h.1 | exact h.2.1 | exact h.2.2.1 | exact h.2.2.2.1 | exact h.2.2.2.2.1 | exact h.2.2.2.2.2.1 | exact h.2.2.2.2.2.2.1 | exact h.2.2.2.2.2.2.2.1 | exact h.2.2.2.2.2.2.2.2.1 | exact h.2.2.2.2.2.2.2.2.2.1 | exact h.2.2.2.2.2.2.2.2.2.2) (vp_in_nI (show j < 7 by omega) (by omega)) ?_
              rw [nI_clamp (by omega), hw j (by omega)]
              refine g_lmul hF dX10_linesFor_69 70 rfl ?_
              rw [e1000, lN_mul]
              refine g_iload_n hF dX10_linesFor_70 71 rfl rfl ?_
              refine g_i2l hF dX10_linesFor_71 72 rfl ?_
              rw [nI_l (by omega)]
              refine g_aload_n hF dX10_linesFor_72 73 rfl rfl ?_
              refine g_get hF fl_X10_147 dX10_linesFor_73 76 rfl (by intro H h; first | exact h.1 | exact h.2.1 | exact h.2.2.1 | exact h.2.2.2.1 | exact h.2.2.2.2.1 | exact h.2.2.2.2.2.1 | exact h.2.2.2.2.2.2.1 | exact h.2.2.2.2.2.2.2.1 | exact h.2.2.2.2.2.2.2.2.1 | exact h.2.2.2.2.2.2.2.2.2.1 | exact h.2.2.2.2.2.2.2.2.2.2) rfl ?_
              refine g_lmul hF dX10_linesFor_76 77 rfl ?_
              rw [lN_mul]
              refine g_lcmp hF dX10_linesFor_77 78 rfl ?_
              refine g_if_gt hF dX10_linesFor_78 81 rfl 84 (by decide) (fun c78 => ?_) (fun c78 => ?_)
              · refine g_iinc hF dX10_linesFor_84 87 rfl (1) rfl (lo' := [_, _, _, _, _]) rfl rfl ?_
                refine g_goto hF dX10_linesFor_87 38 (by decide) ?_
                exact ih (j + 1) _ _ _ (by omega) (by omega) (by omega) (nI_succ j).symm (by rw [hf, show 6 + 1 - (j + 1) = 6 - j by omega]; exact if_neg (fun y => absurd ((pk_lLT hl1.2 hl1.1).mp (lc_gt.mp c78)) (Nat.not_lt.mpr y)))
              · refine g_iload hF dX10_linesFor_81 83 rfl rfl ?_
                exact g_iret hF dX10_linesFor_83 (Nat.le_of_ble_eq_true rfl) (Nat.le_of_ble_eq_true rfl) (fun H h => hR _ _ ⟨congrArg (fun z => some (Value.int z)) (by rw [hf]; exact (if_pos (Nat.not_lt.mp (fun y => c78 (lc_gt.mpr ((pk_lLT hl1.2 hl1.1).mpr y))))).symm), MS.mk hr h⟩)
            · have hj7 : j = 6 + 1 := by omega
              subst hj7
              rw [Nat.sub_self] at hf
              refine g_iload hF dX10_linesFor_38 40 rfl rfl ?_
              refine g_bipush hF (7) dX10_linesFor_40 42 rfl rfl ?_
              refine g_icmp_ge hF dX10_linesFor_42 45 rfl 90 (by decide) (fun _ => ?_) (fun c => absurd (nI_le (a := 7) (by omega) (by omega)) c)
              refine g_iconst hF (-1) dX10_linesFor_90 91 rfl rfl ?_
              exact g_iret hF dX10_linesFor_91 (Nat.le_of_ble_eq_true rfl) (Nat.le_of_ble_eq_true rfl) (fun H h => hR _ _ ⟨congrArg (fun z => some (Value.int z)) (hf.symm), MS.mk hr h⟩)
        refine g_aload_n hF dX10_linesFor_0 1 rfl rfl ?_
        refine g_iload_n hF dX10_linesFor_1 2 rfl rfl ?_
        refine g_callV hF cv_X10_50 (c_M_isGroup l E c v pf im ss ik bk ws cm ls nq (nI d) (lN sd) (nI nb) wh ro G hG G1 G4 (nI g)) dX10_linesFor_2 5 rfl (st := []) rfl rfl ⟨Nat.le_of_ble_eq_true rfl, Nat.le_of_ble_eq_true rfl⟩ ⟨Nat.le_of_ble_eq_true rfl, Nat.le_of_ble_eq_true rfl⟩ rfl (Nat.le_of_ble_eq_true rfl) 10 rfl (by intro H h; first | exact h.1 | exact h.2.1 | exact h.2.2.1 | exact h.2.2.2.1 | exact h.2.2.2.2.1 | exact h.2.2.2.2.2.1 | exact h.2.2.2.2.2.2.1 | exact h.2.2.2.2.2.2.2.1 | exact h.2.2.2.2.2.2.2.2.1 | exact h.2.2.2.2.2.2.2.2.2.1 | exact h.2.2.2.2.2.2.2.2.2.2) (Pr' := _) (fun _ h => h) (fun q z => z.elim) (fun _ _ _ h _ => by exact h) (st1 := [_]) rfl (k1 := 0) (n1 := 0) rfl rfl ?_
        refine g_if_ne hF dX10_linesFor_5 8 rfl 11 (by decide) (fun _ => ?_) (fun c => absurd c (fun y => hz (iy0.mp y)))
        refine g_iload_n hF dX10_linesFor_11 12 rfl rfl ?_
        refine g_iconst hF (0) dX10_linesFor_12 13 rfl rfl ?_
        refine g_bipush hF (6) dX10_linesFor_13 15 rfl rfl ?_
        refine g_callS hF cs_X10_46 (c_M_in l E (nI B) (0) (6) (Mm E c (flat v) pf im ss ik bk ws cm ls nq (nI d) (lN sd) (nI nb) wh ro) 1 ((if_pos hq.1).symm)) dX10_linesFor_15 18 rfl (st := []) rfl rfl ⟨Nat.le_of_ble_eq_true rfl, Nat.le_of_ble_eq_true rfl⟩ ⟨Nat.le_of_ble_eq_true rfl, Nat.le_of_ble_eq_true rfl⟩ rfl (Nat.le_of_ble_eq_true rfl) (Pr' := _) (fun _ h => h) (fun q z => z.elim) (fun _ _ _ h _ => by exact h) (st1 := [_]) rfl (k1 := 0) (n1 := 0) rfl rfl ?_
        refine g_if_eq hF dX10_linesFor_18 21 rfl 32 (by decide) (fun c => absurd c ((by decide))) (fun _ => ?_)
        refine g_iload_n hF dX10_linesFor_21 22 rfl rfl ?_
        refine g_iconst hF (1) dX10_linesFor_22 23 rfl rfl ?_
        refine g_sipush hF (999) dX10_linesFor_23 26 rfl rfl ?_
        refine g_callS hF cs_X10_46 (c_M_in l E (nI p6) (1) (999) (Mm E c (flat v) pf im ss ik bk ws cm ls nq (nI d) (lN sd) (nI nb) wh ro) 1 ((if_pos hq.2).symm)) dX10_linesFor_26 29 rfl (st := []) rfl rfl ⟨Nat.le_of_ble_eq_true rfl, Nat.le_of_ble_eq_true rfl⟩ ⟨Nat.le_of_ble_eq_true rfl, Nat.le_of_ble_eq_true rfl⟩ rfl (Nat.le_of_ble_eq_true rfl) (Pr' := _) (fun _ h => h) (fun q z => z.elim) (fun _ _ _ h _ => by exact h) (st1 := [_]) rfl (k1 := 0) (n1 := 0) rfl rfl ?_
        refine g_if_ne hF dX10_linesFor_29 32 rfl 35 (by decide) (fun _ => ?_) (fun c => absurd c ((by decide)))
        refine g_iconst hF (1) dX10_linesFor_35 36 rfl rfl ?_
        refine g_istore hF dX10_linesFor_36 38 rfl (lo' := [_, _, _, _, _]) (Nat.le_of_ble_eq_true rfl) rfl ?_
        exact loop (6 + 2) 1 _ _ _ (by omega) (by omega) (by omega) rfl rfl
      · rw [show fLf (v, hv, d, iv, isd, ik, bg, bl, bs, nb, sd) (nI g) q w = -1000000002 from (if_neg hz).trans (if_pos (Classical.byContradiction fun y => hq ⟨Classical.byContradiction fun y1 => y (Or.inl y1), Classical.byContradiction fun y1 => y (Or.inr y1)⟩))] at hR
        refine g_aload_n hF dX10_linesFor_0 1 rfl rfl ?_
        refine g_iload_n hF dX10_linesFor_1 2 rfl rfl ?_
        refine g_callV hF cv_X10_50 (c_M_isGroup l E c v pf im ss ik bk ws cm ls nq (nI d) (lN sd) (nI nb) wh ro G hG G1 G4 (nI g)) dX10_linesFor_2 5 rfl (st := []) rfl rfl ⟨Nat.le_of_ble_eq_true rfl, Nat.le_of_ble_eq_true rfl⟩ ⟨Nat.le_of_ble_eq_true rfl, Nat.le_of_ble_eq_true rfl⟩ rfl (Nat.le_of_ble_eq_true rfl) 10 rfl (by intro H h; first | exact h.1 | exact h.2.1 | exact h.2.2.1 | exact h.2.2.2.1 | exact h.2.2.2.2.1 | exact h.2.2.2.2.2.1 | exact h.2.2.2.2.2.2.1 | exact h.2.2.2.2.2.2.2.1 | exact h.2.2.2.2.2.2.2.2.1 | exact h.2.2.2.2.2.2.2.2.2.1 | exact h.2.2.2.2.2.2.2.2.2.2) (Pr' := _) (fun _ h => h) (fun q z => z.elim) (fun _ _ _ h _ => by exact h) (st1 := [_]) rfl (k1 := 0) (n1 := 0) rfl rfl ?_
        refine g_if_ne hF dX10_linesFor_5 8 rfl 11 (by decide) (fun _ => ?_) (fun c => absurd c (fun y => hz (iy0.mp y)))
        refine g_iload_n hF dX10_linesFor_11 12 rfl rfl ?_
        refine g_iconst hF (0) dX10_linesFor_12 13 rfl rfl ?_
        refine g_bipush hF (6) dX10_linesFor_13 15 rfl rfl ?_
        refine g_callS hF cs_X10_46 (c_M_in l E q 0 6 (Mm E c (flat v) pf im ss ik bk ws cm ls nq (nI d) (lN sd) (nI nb) wh ro) _ rfl) dX10_linesFor_15 18 rfl (st := []) rfl rfl ⟨Nat.le_of_ble_eq_true rfl, Nat.le_of_ble_eq_true rfl⟩ ⟨Nat.le_of_ble_eq_true rfl, Nat.le_of_ble_eq_true rfl⟩ rfl (Nat.le_of_ble_eq_true rfl) (Pr' := _) (fun _ h => h) (fun q z => z.elim) (fun _ _ _ h _ => by exact h) (st1 := [_]) rfl (k1 := 0) (n1 := 0) rfl rfl ?_
        refine g_if_eq hF dX10_linesFor_18 21 rfl 32 (by decide) (fun c18 => ?_) (fun c18 => ?_)
        · refine g_ldc hF kc_X10_117 dX10_linesFor_32 34 rfl ?_
          exact g_iret hF dX10_linesFor_34 (Nat.le_of_ble_eq_true rfl) (Nat.le_of_ble_eq_true rfl) (fun H h => hR _ _ ⟨congrArg (fun z => some (Value.int z)) (rfl), MS.mk hr h⟩)
        · refine g_iload_n hF dX10_linesFor_21 22 rfl rfl ?_
          refine g_iconst hF (1) dX10_linesFor_22 23 rfl rfl ?_
          refine g_sipush hF (999) dX10_linesFor_23 26 rfl rfl ?_
          refine g_callS hF cs_X10_46 (c_M_in l E w 1 999 (Mm E c (flat v) pf im ss ik bk ws cm ls nq (nI d) (lN sd) (nI nb) wh ro) _ rfl) dX10_linesFor_26 29 rfl (st := []) rfl rfl ⟨Nat.le_of_ble_eq_true rfl, Nat.le_of_ble_eq_true rfl⟩ ⟨Nat.le_of_ble_eq_true rfl, Nat.le_of_ble_eq_true rfl⟩ rfl (Nat.le_of_ble_eq_true rfl) (Pr' := _) (fun _ h => h) (fun q z => z.elim) (fun _ _ _ h _ => by exact h) (st1 := [_]) rfl (k1 := 0) (n1 := 0) rfl rfl ?_
          refine g_if_ne hF dX10_linesFor_29 32 rfl 35 (by decide) (fun c => absurd (iz0.mpr (fun y => hq ⟨iz1 c18, y⟩)) c) (fun _ => ?_)
          refine g_ldc hF kc_X10_117 dX10_linesFor_32 34 rfl ?_
          exact g_iret hF dX10_linesFor_34 (Nat.le_of_ble_eq_true rfl) (Nat.le_of_ble_eq_true rfl) (fun H h => hR _ _ ⟨congrArg (fun z => some (Value.int z)) (rfl), MS.mk hr h⟩)
set_option maxRecDepth 100000 in
set_option maxHeartbeats 16000000 in
theorem c_E_bestReserve (l : Launch) (E : Ev) (c T : Nat) (σ : AS) (hv0 : okV T σ.1) (z q w : Int32) : Ct l E yX10_bestReserve cX10_bestReserve 5 (some .int) (rm 6) [.ref c, .int z, .int q, .int w] (MS E c σ) (rV (some (.int (fBr σ z q w))) (MS E c σ)) (rg c 11) := by
  refine ct_start (by decide) [some (.ref c), some (.int z), some (.int q), some (.int w), none] rfl (Nat.le_of_ble_eq_true rfl) ?_
  intro x hF hN hA hR
  obtain ⟨v, hv, d, iv, isd, ik, bg, bl, bs, nb, sd⟩ := σ
  refine g_openM (fun pf im ss bk ws cm ls nq wh ro hr => ?_)
  dsimp only at hv0
  obtain ⟨G, hG, G1, G4, hGc, ho, hn⟩ := okN hv0
  by_cases hz : z < 0 ∨ v.1 ≤ z
  · rw [show fBr (v, hv, d, iv, isd, ik, bg, bl, bs, nb, sd) z q w = -1000000001 from if_pos hz] at hR
    refine g_aload_n hF dX10_bestReserve_0 1 rfl rfl ?_
    refine g_iload_n hF dX10_bestReserve_1 2 rfl rfl ?_
    refine g_callV hF cv_X10_50 (c_M_isGroup l E c v pf im ss ik bk ws cm ls nq (nI d) (lN sd) (nI nb) wh ro G hG G1 G4 z) dX10_bestReserve_2 5 rfl (st := []) rfl rfl ⟨Nat.le_of_ble_eq_true rfl, Nat.le_of_ble_eq_true rfl⟩ ⟨Nat.le_of_ble_eq_true rfl, Nat.le_of_ble_eq_true rfl⟩ rfl (Nat.le_of_ble_eq_true rfl) 10 rfl (by intro H h; first | exact h.1 | exact h.2.1 | exact h.2.2.1 | exact h.2.2.2.1 | exact h.2.2.2.2.1 | exact h.2.2.2.2.2.1 | exact h.2.2.2.2.2.2.1 | exact h.2.2.2.2.2.2.2.1 | exact h.2.2.2.2.2.2.2.2.1 | exact h.2.2.2.2.2.2.2.2.2.1 | exact h.2.2.2.2.2.2.2.2.2.2) (Pr' := _) (fun _ h => h) (fun q z => z.elim) (fun _ _ _ h _ => by exact h) (st1 := [_]) rfl (k1 := 0) (n1 := 0) rfl rfl ?_
    refine g_if_ne hF dX10_bestReserve_5 8 rfl 11 (by decide) (fun c => absurd (iy0.mpr hz) c) (fun _ => ?_)
    refine g_ldc hF kc_X10_118 dX10_bestReserve_8 10 rfl ?_
    exact g_iret hF dX10_bestReserve_10 (Nat.le_of_ble_eq_true rfl) (Nat.le_of_ble_eq_true rfl) (fun H h => hR _ _ ⟨congrArg (fun z => some (Value.int z)) (rfl), MS.mk hr h⟩)
  · rcases pk_ix z (n := G) (by omega) with hz1 | hz1 | ⟨g, hg, rfl⟩
    · exact absurd (Or.inl hz1) hz
    · exact absurd (Or.inr (hG ▸ hz1)) hz
    · have hg4 : g < 4 := by omega
      obtain ⟨⟨N, n1, n6, n0, R, rN, r0⟩, ⟨A, a6, ha⟩, -⟩ := ho g hg4
      have eN : nN (v.2.2.2 g) = N := by unfold nN; rw [n0, nI_clamp (by omega)]
      have eA : nA (v.2.2.2 g) = A := by unfold nA; rw [ha, nI_clamp (by omega)]
      have eR : nR (v.2.2.2 g) = R := by unfold nR; rw [r0, nI_clamp (by omega)]
      by_cases hq : (0 ≤ q ∧ q ≤ 6) ∧ (1 ≤ w ∧ w ≤ 999)
      · obtain ⟨B, -, B6, rfl⟩ := btw (a := 0) (b := 6) (by omega) (by omega) hq.1
        obtain ⟨p6, p1, p9, rfl⟩ := btw (a := 1) (b := 999) (by omega) (by omega) hq.2
        have e1000 : (1000 : Int64) = lN 1000 := by decide
        rw [show fBr (v, hv, d, iv, isd, ik, bg, bl, bs, nb, sd) (nI g) (nI B) (nI p6) = brS N A B p6 (N + 1) 0 by unfold fBr; rw [if_neg hz, if_neg (fun y => y.elim (fun y => y hq.1) (fun y => y hq.2)), nI_clamp (by omega), nI_clamp (by omega), nI_clamp (by omega), eA, eN]] at hR
        have loop : ∀ (n j : Nat) (i : Int32) (ws : Nat → Int64) (wh : Int64), N + 1 - j < n → 0 ≤ j → j ≤ N + 1 → i = nI j → brS N A B p6 (N + 1) 0 = brS N A B p6 (N + 1 - j) j → go l (rm 6) E x 0 0 (Mm E c (flat v) pf im ss ik bk ws cm ls nq (nI d) (lN sd) (nI nb) wh ro) [some (.ref c), some (.int (nI g)), some (.int (nI B)), some (.int (nI p6)), some (.int i)] 38 [] := by
          intro n
          induction n with
          | zero => intro j i ws wh h; omega
          | succ n ih =>
            intro j i ws wh hn0 j1 hj hi hf
            subst hi
            by_cases hlt : j ≤ N
            · rw [show N + 1 - j = (N - j) + 1 by omega] at hf
              have hl1 := los_b (N := N) (A := A) (R := j) (B := B) (p := p6) (by omega) a6 B6 p9
              refine g_iload hF dX10_bestReserve_38 40 rfl rfl ?_
              refine g_aload_n hF dX10_bestReserve_40 41 rfl rfl ?_
              refine g_iload_n hF dX10_bestReserve_41 42 rfl rfl ?_
              refine g_iconst hF (0) dX10_bestReserve_42 43 rfl rfl ?_
              rw [show (0 : Int32) = nI 0 by decide]
              refine g_callV hF cv_X10_54 (c_M_of l E c v pf im ss ik bk ws cm ls nq (nI d) (lN sd) (nI nb) wh ro g 0 hg4 (by omega)) dX10_bestReserve_43 46 rfl (st := [_]) rfl rfl ⟨Nat.le_of_ble_eq_true rfl, Nat.le_of_ble_eq_true rfl⟩ ⟨Nat.le_of_ble_eq_true rfl, Nat.le_of_ble_eq_true rfl⟩ rfl (Nat.le_of_ble_eq_true rfl) 10 rfl (by intro H h; first | exact h.1 | exact h.2.1 | exact h.2.2.1 | exact h.2.2.2.1 | exact h.2.2.2.2.1 | exact h.2.2.2.2.2.1 | exact h.2.2.2.2.2.2.1 | exact h.2.2.2.2.2.2.2.1 | exact h.2.2.2.2.2.2.2.2.1 | exact h.2.2.2.2.2.2.2.2.2.1 | exact h.2.2.2.2.2.2.2.2.2.2) (Pr' := _) (fun _ h => h) (fun q z => z.elim) (fun _ _ _ h _ => by exact h) (st1 := [_, _]) rfl (k1 := 0) (n1 := 0) rfl rfl ?_
              rw [n0]
              refine g_icmp_gt hF dX10_bestReserve_46 49 rfl 103 (by decide) (fun c => absurd c (fun y => absurd (i_lt y (by omega) (by omega)) (by omega))) (fun _ => ?_)
              refine g_aload_n hF dX10_bestReserve_49 50 rfl rfl ?_
              refine g_aload_n hF dX10_bestReserve_50 51 rfl rfl ?_
              refine g_iload_n hF dX10_bestReserve_51 52 rfl rfl ?_
              refine g_iconst hF (0) dX10_bestReserve_52 53 rfl rfl ?_
              rw [show (0 : Int32) = nI 0 by decide]
              refine g_callV hF cv_X10_54 (c_M_of l E c v pf im ss ik bk ws cm ls nq (nI d) (lN sd) (nI nb) wh ro g 0 hg4 (by omega)) dX10_bestReserve_53 56 rfl (st := [_]) rfl rfl ⟨Nat.le_of_ble_eq_true rfl, Nat.le_of_ble_eq_true rfl⟩ ⟨Nat.le_of_ble_eq_true rfl, Nat.le_of_ble_eq_true rfl⟩ rfl (Nat.le_of_ble_eq_true rfl) 10 rfl (by intro H h; first | exact h.1 | exact h.2.1 | exact h.2.2.1 | exact h.2.2.2.1 | exact h.2.2.2.2.1 | exact h.2.2.2.2.2.1 | exact h.2.2.2.2.2.2.1 | exact h.2.2.2.2.2.2.2.1 | exact h.2.2.2.2.2.2.2.2.1 | exact h.2.2.2.2.2.2.2.2.2.1 | exact h.2.2.2.2.2.2.2.2.2.2) (Pr' := _) (fun _ h => h) (fun q z => z.elim) (fun _ _ _ h _ => by exact h) (st1 := [_, _]) rfl (k1 := 0) (n1 := 0) rfl rfl ?_
              rw [n0]
              refine g_aload_n hF dX10_bestReserve_56 57 rfl rfl ?_
              refine g_iload_n hF dX10_bestReserve_57 58 rfl rfl ?_
              refine g_iconst hF (1) dX10_bestReserve_58 59 rfl rfl ?_
              rw [show (1 : Int32) = nI 1 by decide]
              refine g_callV hF cv_X10_54 (c_M_of l E c v pf im ss ik bk ws cm ls nq (nI d) (lN sd) (nI nb) wh ro g 1 hg4 (by omega)) dX10_bestReserve_59 62 rfl (st := [_, _]) rfl rfl ⟨Nat.le_of_ble_eq_true rfl, Nat.le_of_ble_eq_true rfl⟩ ⟨Nat.le_of_ble_eq_true rfl, Nat.le_of_ble_eq_true rfl⟩ rfl (Nat.le_of_ble_eq_true rfl) 10 rfl (by intro H h; first | exact h.1 | exact h.2.1 | exact h.2.2.1 | exact h.2.2.2.1 | exact h.2.2.2.2.1 | exact h.2.2.2.2.2.1 | exact h.2.2.2.2.2.2.1 | exact h.2.2.2.2.2.2.2.1 | exact h.2.2.2.2.2.2.2.2.1 | exact h.2.2.2.2.2.2.2.2.2.1 | exact h.2.2.2.2.2.2.2.2.2.2) (Pr' := _) (fun _ h => h) (fun q z => z.elim) (fun _ _ _ h _ => by exact h) (st1 := [_, _, _]) rfl (k1 := 0) (n1 := 0) rfl rfl ?_
              rw [ha]
              refine g_iload hF dX10_bestReserve_62 64 rfl rfl ?_
              refine g_iload_n hF dX10_bestReserve_64 65 rfl rfl ?_
              refine g_callV hF cv_X10_158 (c_M_weighs l E c v pf im ss ik bk ws cm ls nq (nI d) (lN sd) (nI nb) wh ro N A j B n1 n6 a6 (by omega) B6) dX10_bestReserve_65 68 rfl (st := []) rfl rfl ⟨Nat.le_of_ble_eq_true rfl, Nat.le_of_ble_eq_true rfl⟩ ⟨Nat.le_of_ble_eq_true rfl, Nat.le_of_ble_eq_true rfl⟩ rfl (Nat.le_of_ble_eq_true rfl) 10 rfl (by intro H h; first | exact h.1 | exact h.2.1 | exact h.2.2.1 | exact h.2.2.2.1 | exact h.2.2.2.2.1 | exact h.2.2.2.2.2.1 | exact h.2.2.2.2.2.2.1 | exact h.2.2.2.2.2.2.2.1 | exact h.2.2.2.2.2.2.2.2.1 | exact h.2.2.2.2.2.2.2.2.2.1 | exact h.2.2.2.2.2.2.2.2.2.2) (Pr' := _) (fun _ h => h) (hA) (fun _ _ _ h _ => by exact h) (st1 := []) rfl (k1 := 0) (n1 := 0) rfl rfl ?_
              refine g_ex (fun ws1 => ?_)
              refine g_pure (fun H h => h.1) (fun hw => ?_)
              refine g_pr (fun H h => h.2) ?_
              refine g_ldc2 hF kc_X10_96 dX10_bestReserve_68 71 rfl ?_
              refine g_aload_n hF dX10_bestReserve_71 72 rfl rfl ?_
              refine g_get hF fl_X10_30 dX10_bestReserve_72 75 rfl (by intro H h; first | exact h.1 | exact h.2.1 | exact h.2.2.1 | exact h.2.2.2.1 | exact h.2.2.2.2.1 | exact h.2.2.2.2.2.1 | exact h.2.2.2.2.2.2.1 | exact h.2.2.2.2.2.2.2.1 | exact h.2.2.2.2.2.2.2.2.1 | exact h.2.2.2.2.2.2.2.2.2.1 | exact h.2.2.2.2.2.2.2.2.2.2) rfl ?_
              refine g_aload_n hF dX10_bestReserve_75 76 rfl rfl ?_
              refine g_iload_n hF dX10_bestReserve_76 77 rfl rfl ?_
              refine g_iconst hF (0) dX10_bestReserve_77 78 rfl rfl ?_
              rw [show (0 : Int32) = nI 0 by decide]
              refine g_callV hF cv_X10_54 (c_M_of l E c v pf im ss ik bk ws1 cm ls nq (nI d) (lN sd) (nI nb) (lN (sW (wt (fct N) 1 N A j B) (N + 1))) ro g 0 hg4 (by omega)) dX10_bestReserve_78 81 rfl (st := [_, _]) rfl rfl ⟨Nat.le_of_ble_eq_true rfl, Nat.le_of_ble_eq_true rfl⟩ ⟨Nat.le_of_ble_eq_true rfl, Nat.le_of_ble_eq_true rfl⟩ rfl (Nat.le_of_ble_eq_true rfl) 10 rfl (by intro H h; first | exact h.1 | exact h.2.1 | exact h.2.2.1 | exact h.2.2.2.1 | exact h.2.2.2.2.1 | exact h.2.2.2.2.2.1 | exact h.2.2.2.2.2.2.1 | exact h.2.2.2.2.2.2.2.1 | exact h.2.2.2.2.2.2.2.2.1 | exact h.2.2.2.2.2.2.2.2.2.1 | exact h.2.2.2.2.2.2.2.2.2.2) (Pr' := _) (fun _ h => h) (fun q z => z.elim) (fun _ _ _ h _ => by exact h) (st1 := [_, _, _]) rfl (k1 := 0) (n1 := 0) rfl rfl ?_
              rw [n0]
              refine g_lald hF dX10_bestReserve_81 82 rfl (by intro H h; first | exact h.1 | exact h.2.1 | exact h.2.2.1 | exact h.2.2.2.1 | exact h.2.2.2.2.1 | exact h.2.2.2.2.2.1 | exact h.2.2.2.2.2.2.1 | exact h.2.2.2.2.2.2.2.1 | exact h.2.2.2.2.2.2.2.2.1 | exact h.2.2.2.2.2.2.2.2.2.1 | exact h.2.2.2.2.2.2.2.2.2.2) (vp_in_nI (show N < 7 by omega) (by omega)) ?_
              rw [nI_clamp (by omega), hw N (by omega)]
              refine g_lmul hF dX10_bestReserve_82 83 rfl ?_
              rw [e1000, lN_mul]
              refine g_iload_n hF dX10_bestReserve_83 84 rfl rfl ?_
              refine g_i2l hF dX10_bestReserve_84 85 rfl ?_
              rw [nI_l (by omega)]
              refine g_aload_n hF dX10_bestReserve_85 86 rfl rfl ?_
              refine g_get hF fl_X10_147 dX10_bestReserve_86 89 rfl (by intro H h; first | exact h.1 | exact h.2.1 | exact h.2.2.1 | exact h.2.2.2.1 | exact h.2.2.2.2.1 | exact h.2.2.2.2.2.1 | exact h.2.2.2.2.2.2.1 | exact h.2.2.2.2.2.2.2.1 | exact h.2.2.2.2.2.2.2.2.1 | exact h.2.2.2.2.2.2.2.2.2.1 | exact h.2.2.2.2.2.2.2.2.2.2) rfl ?_
              refine g_lmul hF dX10_bestReserve_89 90 rfl ?_
              rw [lN_mul]
              refine g_lcmp hF dX10_bestReserve_90 91 rfl ?_
              refine g_if_gt hF dX10_bestReserve_91 94 rfl 97 (by decide) (fun c91 => ?_) (fun c91 => ?_)
              · refine g_iinc hF dX10_bestReserve_97 100 rfl (1) rfl (lo' := [_, _, _, _, _]) rfl rfl ?_
                refine g_goto hF dX10_bestReserve_100 38 (by decide) ?_
                exact ih (j + 1) _ _ _ (by omega) (by omega) (by omega) (nI_succ j).symm (by rw [hf, show N + 1 - (j + 1) = N - j by omega]; exact if_neg (fun y => absurd ((pk_lLT hl1.2 hl1.1).mp (lc_gt.mp c91)) (Nat.not_lt.mpr y)))
              · refine g_iload hF dX10_bestReserve_94 96 rfl rfl ?_
                exact g_iret hF dX10_bestReserve_96 (Nat.le_of_ble_eq_true rfl) (Nat.le_of_ble_eq_true rfl) (fun H h => hR _ _ ⟨congrArg (fun z => some (Value.int z)) (by rw [hf]; exact (if_pos (Nat.not_lt.mp (fun y => c91 (lc_gt.mpr ((pk_lLT hl1.2 hl1.1).mpr y))))).symm), MS.mk hr h⟩)
            · have hj7 : j = N + 1 := by omega
              subst hj7
              rw [Nat.sub_self] at hf
              refine g_iload hF dX10_bestReserve_38 40 rfl rfl ?_
              refine g_aload_n hF dX10_bestReserve_40 41 rfl rfl ?_
              refine g_iload_n hF dX10_bestReserve_41 42 rfl rfl ?_
              refine g_iconst hF (0) dX10_bestReserve_42 43 rfl rfl ?_
              rw [show (0 : Int32) = nI 0 by decide]
              refine g_callV hF cv_X10_54 (c_M_of l E c v pf im ss ik bk ws cm ls nq (nI d) (lN sd) (nI nb) wh ro g 0 hg4 (by omega)) dX10_bestReserve_43 46 rfl (st := [_]) rfl rfl ⟨Nat.le_of_ble_eq_true rfl, Nat.le_of_ble_eq_true rfl⟩ ⟨Nat.le_of_ble_eq_true rfl, Nat.le_of_ble_eq_true rfl⟩ rfl (Nat.le_of_ble_eq_true rfl) 10 rfl (by intro H h; first | exact h.1 | exact h.2.1 | exact h.2.2.1 | exact h.2.2.2.1 | exact h.2.2.2.2.1 | exact h.2.2.2.2.2.1 | exact h.2.2.2.2.2.2.1 | exact h.2.2.2.2.2.2.2.1 | exact h.2.2.2.2.2.2.2.2.1 | exact h.2.2.2.2.2.2.2.2.2.1 | exact h.2.2.2.2.2.2.2.2.2.2) (Pr' := _) (fun _ h => h) (fun q z => z.elim) (fun _ _ _ h _ => by exact h) (st1 := [_, _]) rfl (k1 := 0) (n1 := 0) rfl rfl ?_
              rw [n0]
              refine g_icmp_gt hF dX10_bestReserve_46 49 rfl 103 (by decide) (fun _ => ?_) (fun c => absurd (nI_lt (by omega) (by omega)) c)
              refine g_iconst hF (-1) dX10_bestReserve_103 104 rfl rfl ?_
              exact g_iret hF dX10_bestReserve_104 (Nat.le_of_ble_eq_true rfl) (Nat.le_of_ble_eq_true rfl) (fun H h => hR _ _ ⟨congrArg (fun z => some (Value.int z)) (hf.symm), MS.mk hr h⟩)
        refine g_aload_n hF dX10_bestReserve_0 1 rfl rfl ?_
        refine g_iload_n hF dX10_bestReserve_1 2 rfl rfl ?_
        refine g_callV hF cv_X10_50 (c_M_isGroup l E c v pf im ss ik bk ws cm ls nq (nI d) (lN sd) (nI nb) wh ro G hG G1 G4 (nI g)) dX10_bestReserve_2 5 rfl (st := []) rfl rfl ⟨Nat.le_of_ble_eq_true rfl, Nat.le_of_ble_eq_true rfl⟩ ⟨Nat.le_of_ble_eq_true rfl, Nat.le_of_ble_eq_true rfl⟩ rfl (Nat.le_of_ble_eq_true rfl) 10 rfl (by intro H h; first | exact h.1 | exact h.2.1 | exact h.2.2.1 | exact h.2.2.2.1 | exact h.2.2.2.2.1 | exact h.2.2.2.2.2.1 | exact h.2.2.2.2.2.2.1 | exact h.2.2.2.2.2.2.2.1 | exact h.2.2.2.2.2.2.2.2.1 | exact h.2.2.2.2.2.2.2.2.2.1 | exact h.2.2.2.2.2.2.2.2.2.2) (Pr' := _) (fun _ h => h) (fun q z => z.elim) (fun _ _ _ h _ => by exact h) (st1 := [_]) rfl (k1 := 0) (n1 := 0) rfl rfl ?_
        refine g_if_ne hF dX10_bestReserve_5 8 rfl 11 (by decide) (fun _ => ?_) (fun c => absurd c (fun y => hz (iy0.mp y)))
        refine g_iload_n hF dX10_bestReserve_11 12 rfl rfl ?_
        refine g_iconst hF (0) dX10_bestReserve_12 13 rfl rfl ?_
        refine g_bipush hF (6) dX10_bestReserve_13 15 rfl rfl ?_
        refine g_callS hF cs_X10_46 (c_M_in l E (nI B) (0) (6) (Mm E c (flat v) pf im ss ik bk ws cm ls nq (nI d) (lN sd) (nI nb) wh ro) 1 ((if_pos hq.1).symm)) dX10_bestReserve_15 18 rfl (st := []) rfl rfl ⟨Nat.le_of_ble_eq_true rfl, Nat.le_of_ble_eq_true rfl⟩ ⟨Nat.le_of_ble_eq_true rfl, Nat.le_of_ble_eq_true rfl⟩ rfl (Nat.le_of_ble_eq_true rfl) (Pr' := _) (fun _ h => h) (fun q z => z.elim) (fun _ _ _ h _ => by exact h) (st1 := [_]) rfl (k1 := 0) (n1 := 0) rfl rfl ?_
        refine g_if_eq hF dX10_bestReserve_18 21 rfl 32 (by decide) (fun c => absurd c ((by decide))) (fun _ => ?_)
        refine g_iload_n hF dX10_bestReserve_21 22 rfl rfl ?_
        refine g_iconst hF (1) dX10_bestReserve_22 23 rfl rfl ?_
        refine g_sipush hF (999) dX10_bestReserve_23 26 rfl rfl ?_
        refine g_callS hF cs_X10_46 (c_M_in l E (nI p6) (1) (999) (Mm E c (flat v) pf im ss ik bk ws cm ls nq (nI d) (lN sd) (nI nb) wh ro) 1 ((if_pos hq.2).symm)) dX10_bestReserve_26 29 rfl (st := []) rfl rfl ⟨Nat.le_of_ble_eq_true rfl, Nat.le_of_ble_eq_true rfl⟩ ⟨Nat.le_of_ble_eq_true rfl, Nat.le_of_ble_eq_true rfl⟩ rfl (Nat.le_of_ble_eq_true rfl) (Pr' := _) (fun _ h => h) (fun q z => z.elim) (fun _ _ _ h _ => by exact h) (st1 := [_]) rfl (k1 := 0) (n1 := 0) rfl rfl ?_
        refine g_if_ne hF dX10_bestReserve_29 32 rfl 35 (by decide) (fun _ => ?_) (fun c => absurd c ((by decide)))
        refine g_iconst hF (0) dX10_bestReserve_35 36 rfl rfl ?_
        refine g_istore hF dX10_bestReserve_36 38 rfl (lo' := [_, _, _, _, _]) (Nat.le_of_ble_eq_true rfl) rfl ?_
        exact loop (N + 2) 0 _ _ _ (by omega) (by omega) (by omega) rfl rfl
      · rw [show fBr (v, hv, d, iv, isd, ik, bg, bl, bs, nb, sd) (nI g) q w = -1000000002 from (if_neg hz).trans (if_pos (Classical.byContradiction fun y => hq ⟨Classical.byContradiction fun y1 => y (Or.inl y1), Classical.byContradiction fun y1 => y (Or.inr y1)⟩))] at hR
        refine g_aload_n hF dX10_bestReserve_0 1 rfl rfl ?_
        refine g_iload_n hF dX10_bestReserve_1 2 rfl rfl ?_
        refine g_callV hF cv_X10_50 (c_M_isGroup l E c v pf im ss ik bk ws cm ls nq (nI d) (lN sd) (nI nb) wh ro G hG G1 G4 (nI g)) dX10_bestReserve_2 5 rfl (st := []) rfl rfl ⟨Nat.le_of_ble_eq_true rfl, Nat.le_of_ble_eq_true rfl⟩ ⟨Nat.le_of_ble_eq_true rfl, Nat.le_of_ble_eq_true rfl⟩ rfl (Nat.le_of_ble_eq_true rfl) 10 rfl (by intro H h; first | exact h.1 | exact h.2.1 | exact h.2.2.1 | exact h.2.2.2.1 | exact h.2.2.2.2.1 | exact h.2.2.2.2.2.1 | exact h.2.2.2.2.2.2.1 | exact h.2.2.2.2.2.2.2.1 | exact h.2.2.2.2.2.2.2.2.1 | exact h.2.2.2.2.2.2.2.2.2.1 | exact h.2.2.2.2.2.2.2.2.2.2) (Pr' := _) (fun _ h => h) (fun q z => z.elim) (fun _ _ _ h _ => by exact h) (st1 := [_]) rfl (k1 := 0) (n1 := 0) rfl rfl ?_
        refine g_if_ne hF dX10_bestReserve_5 8 rfl 11 (by decide) (fun _ => ?_) (fun c => absurd c (fun y => hz (iy0.mp y)))
        refine g_iload_n hF dX10_bestReserve_11 12 rfl rfl ?_
        refine g_iconst hF (0) dX10_bestReserve_12 13 rfl rfl ?_
        refine g_bipush hF (6) dX10_bestReserve_13 15 rfl rfl ?_
        refine g_callS hF cs_X10_46 (c_M_in l E q 0 6 (Mm E c (flat v) pf im ss ik bk ws cm ls nq (nI d) (lN sd) (nI nb) wh ro) _ rfl) dX10_bestReserve_15 18 rfl (st := []) rfl rfl ⟨Nat.le_of_ble_eq_true rfl, Nat.le_of_ble_eq_true rfl⟩ ⟨Nat.le_of_ble_eq_true rfl, Nat.le_of_ble_eq_true rfl⟩ rfl (Nat.le_of_ble_eq_true rfl) (Pr' := _) (fun _ h => h) (fun q z => z.elim) (fun _ _ _ h _ => by exact h) (st1 := [_]) rfl (k1 := 0) (n1 := 0) rfl rfl ?_
        refine g_if_eq hF dX10_bestReserve_18 21 rfl 32 (by decide) (fun c18 => ?_) (fun c18 => ?_)
        · refine g_ldc hF kc_X10_117 dX10_bestReserve_32 34 rfl ?_
          exact g_iret hF dX10_bestReserve_34 (Nat.le_of_ble_eq_true rfl) (Nat.le_of_ble_eq_true rfl) (fun H h => hR _ _ ⟨congrArg (fun z => some (Value.int z)) (rfl), MS.mk hr h⟩)
        · refine g_iload_n hF dX10_bestReserve_21 22 rfl rfl ?_
          refine g_iconst hF (1) dX10_bestReserve_22 23 rfl rfl ?_
          refine g_sipush hF (999) dX10_bestReserve_23 26 rfl rfl ?_
          refine g_callS hF cs_X10_46 (c_M_in l E w 1 999 (Mm E c (flat v) pf im ss ik bk ws cm ls nq (nI d) (lN sd) (nI nb) wh ro) _ rfl) dX10_bestReserve_26 29 rfl (st := []) rfl rfl ⟨Nat.le_of_ble_eq_true rfl, Nat.le_of_ble_eq_true rfl⟩ ⟨Nat.le_of_ble_eq_true rfl, Nat.le_of_ble_eq_true rfl⟩ rfl (Nat.le_of_ble_eq_true rfl) (Pr' := _) (fun _ h => h) (fun q z => z.elim) (fun _ _ _ h _ => by exact h) (st1 := [_]) rfl (k1 := 0) (n1 := 0) rfl rfl ?_
          refine g_if_ne hF dX10_bestReserve_29 32 rfl 35 (by decide) (fun c => absurd (iz0.mpr (fun y => hq ⟨iz1 c18, y⟩)) c) (fun _ => ?_)
          refine g_ldc hF kc_X10_117 dX10_bestReserve_32 34 rfl ?_
          exact g_iret hF dX10_bestReserve_34 (Nat.le_of_ble_eq_true rfl) (Nat.le_of_ble_eq_true rfl) (fun H h => hR _ _ ⟨congrArg (fun z => some (Value.int z)) (rfl), MS.mk hr h⟩)
