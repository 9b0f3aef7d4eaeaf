/-! TrunkReserve: in the long run -/
def wE (gv : Nat → Int32) (R B : Nat) : Nat → Nat := wt (fct (nN gv)) 1 (nN gv) (nA gv) R B
def frR (gv : Nat → Int32) (b w : Nat) : Int64 × Int64 := if w < 2 then bcm (lN (wE gv (nR gv) b (nN gv))) (lN (sW (wE gv (nR gv) b) (nN gv + 1))) else if w < 4 then bcm (lN (sRf (wE gv (nR gv) b) (nN gv) (nR gv) (nN gv + 1))) (lN (sW (wE gv (nR gv) b) (nN gv + 1))) else bcm (lN (sTm (wE gv (nR gv) b) (nN gv + 1))) (lN (sW (wE gv (nR gv) b) (nN gv + 1)))
def prt (p : Int64 × Int64) (w : Nat) : Int64 := if w % 2 = 0 then p.1 else p.2
def fRun (σ : AS) (z b w : Int32) : Int64 := if z < 0 ∨ σ.1.1 ≤ z then -1000000001 else if ¬ (0 ≤ b ∧ b ≤ 6) ∨ ¬ (0 ≤ w ∧ w ≤ 5) then -1000000002 else prt (frR (σ.1.2.2.2 z.toNatClampNeg) b.toNatClampNeg w.toNatClampNeg) w.toNatClampNeg
def frM (gv : Nat → Int32) : Int64 × Int64 := bcm (lN (nA gv * wE gv 0 0 (nN gv))) (lN (sW (wE gv 0 0) (nN gv + 1)))
def frO (gv : Nat → Int32) (w : Nat) : Int64 × Int64 := if w < 2 then frM gv else spr (frM gv).1 (frM gv).2 (gv 0) (gv 1)
def fOver (σ : AS) (z w : Int32) : Int64 := if z < 0 ∨ σ.1.1 ≤ z then -1000000001 else if ¬ (0 ≤ w ∧ w ≤ 3) then -1000000002 else prt (frO (σ.1.2.2.2 z.toNatClampNeg) w.toNatClampNeg) w.toNatClampNeg
abbrev losM (N A R B p : Nat) : Prop := 1000 * wt (fct N) 1 N A R B N ≤ p * sW (wt (fct N) 1 N A R B) (N + 1)
def lfS (A B p : Nat) : Nat → Nat → Int32
  | 0, _ => -1
  | k + 1, n => if losM n A 0 B p then nI n else lfS A B p k (n + 1)
def brS (N A B p : Nat) : Nat → Nat → Int32
  | 0, _ => -1
  | k + 1, r => if losM N A r B p then nI r else brS N A B p k (r + 1)
def fLf (σ : AS) (z b p : Int32) : Int32 := if z < 0 ∨ σ.1.1 ≤ z then -1000000001 else if ¬ (0 ≤ b ∧ b ≤ 6) ∨ ¬ (1 ≤ p ∧ p ≤ 999) then -1000000002 else lfS (nA (σ.1.2.2.2 z.toNatClampNeg)) b.toNatClampNeg p.toNatClampNeg 6 1
def fBr (σ : AS) (z b p : Int32) : Int32 := if z < 0 ∨ σ.1.1 ≤ z then -1000000001 else if ¬ (0 ≤ b ∧ b ≤ 6) ∨ ¬ (1 ≤ p ∧ p ≤ 999) then -1000000002 else brS (nN (σ.1.2.2.2 z.toNatClampNeg)) (nA (σ.1.2.2.2 z.toNatClampNeg)) b.toNatClampNeg p.toNatClampNeg (nN (σ.1.2.2.2 z.toNatClampNeg) + 1) 0
theorem rem2 {m : Nat} (h : m < 6) : nI m - nI m / 2 * 2 = nI (m % 2) := by
  rcases (show m = 0 ∨ m = 1 ∨ m = 2 ∨ m = 3 ∨ m = 4 ∨ m = 5 by omega) with rfl | rfl | rfl | rfl | rfl | rfl <;> decide
theorem prt_eq {m : Nat} {f g : Int64} : (if nI (m % 2) = 0 then f else g) = prt (f, g) m := by
  unfold prt
  rcases (show m % 2 = 0 ∨ m % 2 = 1 by omega) with h | h <;> rw [h] <;> rfl
theorem los_b {N A R B p : Nat} (hN : N ≤ 6) (hA : A ≤ 6) (hB : B ≤ 6) (hp : p ≤ 999) : 1000 * wt (fct N) 1 N A R B N < 2 ^ 63 ∧ p * sW (wt (fct N) 1 N A R B) (N + 1) < 2 ^ 63 := by
  have f1 : fct N ≤ 1000000 := Nat.le_trans (fct_le N (by omega)) (by omega)
  have hwN := wt_lt (first := fct N) (parts := 1) (N := N) (R := R) (B := B) (k := N) f1 (by omega) hA (by omega) hN
  have hs1 := sW_le7 (w := wt (fct N) 1 N A R B) (B := 191102976000000) (fun k hk => wt_lt f1 (by omega) hA (by omega) (show k ≤ 6 by omega)) (N + 1) (show N + 1 ≤ 7 by omega)
  have hs2 : (N + 1) * 191102976000000 ≤ 7 * 191102976000000 := Nat.mul_le_mul_right _ (by omega)
  have hs3 : p * sW (wt (fct N) 1 N A R B) (N + 1) ≤ 999 * (7 * 191102976000000) := Nat.mul_le_mul hp (Nat.le_trans hs1 hs2)
  omega
set_option maxRecDepth 100000 in
set_option maxHeartbeats 16000000 in
theorem c_C_run (l : Launch) (E : Ev) (b T : Nat) (σ : AS) (hv0 : okV T σ.1) (z q w : Int32) : Ct l E yX9_run cX9_run 5 (some .long) (rm 6) [.ref b, .int z, .int q, .int w] (CS E b σ) (rV (some (.long (fRun σ z q w))) (CS E b σ)) (rg b 524) := by
  refine ct_start (by decide) [some (.ref b), some (.int z), some (.int q), some (.int w), none] rfl (Nat.le_of_ble_eq_true rfl) ?_
  intro x hF hN hA hR
  obtain ⟨v, hv, d, iv, isd, ik, bg, bl, bs, nb, sd⟩ := σ
  refine g_open (fun rv p wf wx wy fa fb tl tn ts tr hr => ?_)
  dsimp only at hv0
  obtain ⟨G, hG, G1, G4, hGc, ho, hn⟩ := okN hv0
  rcases pk_ix z (n := G) (by omega) with hz | hz | ⟨g, hg, rfl⟩
  · rw [show fRun (v, hv, d, iv, isd, ik, bg, bl, bs, nb, sd) z q w = -1000000001 from if_pos (Or.inl hz)] at hR
    refine g_aload_n hF dX9_run_0 1 rfl rfl ?_
    refine g_get hF fl_X9_10 dX9_run_1 4 rfl (by intro H h; first | exact h.1 | exact h.2.1.nob | exact h.2.2.1.1 | exact h.2.2.2.1 | exact h.2.2.2.2.2.1.1 | exact h.2.2.2.2.2.2.1 | exact Nq.go hg4 h.2.1 | exact Nq.st hg4 h.2.1 | exact h.2.2.2.2.2.2.2.1.1 | exact h.2.2.2.2.2.2.2.2.1) rfl ?_
    refine g_iload_n hF dX9_run_4 5 rfl rfl ?_
    refine g_callV hF cv_X9_96 (q_groupAtN l E (b + 1) v z (Or.inl hz)) dX9_run_5 8 rfl (st := []) rfl rfl ⟨Nat.le_of_ble_eq_true rfl, Nat.le_of_ble_eq_true rfl⟩ ⟨Nat.le_of_ble_eq_true rfl, Nat.le_of_ble_eq_true rfl⟩ rfl (Nat.le_of_ble_eq_true rfl) 6 rfl (by intro H h; first | exact h.1 | exact h.2.1.nob | exact h.2.2.1.1 | exact h.2.2.2.1 | exact h.2.2.2.2.2.1.1 | exact h.2.2.2.2.2.2.1 | exact Nq.go hg4 h.2.1 | exact Nq.st hg4 h.2.1 | exact h.2.2.2.2.2.2.2.1.1 | exact h.2.2.2.2.2.2.2.2.1) (Pr' := Sx E b v rv p d iv isd ik bg bl bs nb sd wf wx wy fa fb tl tn ts tr) (fun H h => h.2.1) (fun q z => z.elim) (fun H H' h h1 h2 => by exact h.no h2 (fun q z => z.elim)) (st1 := [_]) rfl (k1 := 0) (n1 := 0) rfl rfl ?_
    refine g_astoreN hF dX9_run_8 10 rfl (lo' := [_, _, _, _, _]) (Nat.le_of_ble_eq_true rfl) rfl ?_
    refine g_aloadN hF dX9_run_10 12 rfl rfl ?_
    refine g_ifnonnullN hF dX9_run_12 15 rfl ?_
    refine g_ldc2 hF kc_X9_197 dX9_run_15 18 rfl ?_
    exact g_lret hF dX9_run_18 (Nat.le_of_ble_eq_true rfl) (Nat.le_of_ble_eq_true rfl) (fun H h => hR _ _ ⟨congrArg (fun z => some (Value.long z)) (rfl), Cs.S hr h⟩)
  · rw [show fRun (v, hv, d, iv, isd, ik, bg, bl, bs, nb, sd) z q w = -1000000001 from if_pos (Or.inr (hG ▸ hz))] at hR
    refine g_aload_n hF dX9_run_0 1 rfl rfl ?_
    refine g_get hF fl_X9_10 dX9_run_1 4 rfl (by intro H h; first | exact h.1 | exact h.2.1.nob | exact h.2.2.1.1 | exact h.2.2.2.1 | exact h.2.2.2.2.2.1.1 | exact h.2.2.2.2.2.2.1 | exact Nq.go hg4 h.2.1 | exact Nq.st hg4 h.2.1 | exact h.2.2.2.2.2.2.2.1.1 | exact h.2.2.2.2.2.2.2.2.1) rfl ?_
    refine g_iload_n hF dX9_run_4 5 rfl rfl ?_
    refine g_callV hF cv_X9_96 (q_groupAtN l E (b + 1) v z (Or.inr (hG ▸ hz))) dX9_run_5 8 rfl (st := []) rfl rfl ⟨Nat.le_of_ble_eq_true rfl, Nat.le_of_ble_eq_true rfl⟩ ⟨Nat.le_of_ble_eq_true rfl, Nat.le_of_ble_eq_true rfl⟩ rfl (Nat.le_of_ble_eq_true rfl) 6 rfl (by intro H h; first | exact h.1 | exact h.2.1.nob | exact h.2.2.1.1 | exact h.2.2.2.1 | exact h.2.2.2.2.2.1.1 | exact h.2.2.2.2.2.2.1 | exact Nq.go hg4 h.2.1 | exact Nq.st hg4 h.2.1 | exact h.2.2.2.2.2.2.2.1.1 | exact h.2.2.2.2.2.2.2.2.1) (Pr' := Sx E b v rv p d iv isd ik bg bl bs nb sd wf wx wy fa fb tl tn ts tr) (fun H h => h.2.1) (fun q z => z.elim) (fun H H' h h1 h2 => by exact h.no h2 (fun q z => z.elim)) (st1 := [_]) rfl (k1 := 0) (n1 := 0) rfl rfl ?_
    refine g_astoreN hF dX9_run_8 10 rfl (lo' := [_, _, _, _, _]) (Nat.le_of_ble_eq_true rfl) rfl ?_
    refine g_aloadN hF dX9_run_10 12 rfl rfl ?_
    refine g_ifnonnullN hF dX9_run_12 15 rfl ?_
    refine g_ldc2 hF kc_X9_197 dX9_run_15 18 rfl ?_
    exact g_lret hF dX9_run_18 (Nat.le_of_ble_eq_true rfl) (Nat.le_of_ble_eq_true rfl) (fun H h => hR _ _ ⟨congrArg (fun z => some (Value.long z)) (rfl), Cs.S hr h⟩)
  · have hg4 : g < 4 := by omega
    obtain ⟨⟨N, n1, n6, n0, R, rN, r0⟩, ⟨A, a6, ha⟩, -⟩ := ho g hg4
    have eN : nN (v.2.2.2 g) = N := by unfold nN; rw [n0, nI_clamp (by omega)]
    have eA : nA (v.2.2.2 g) = A := by unfold nA; rw [ha, nI_clamp (by omega)]
    have eR : nR (v.2.2.2 g) = R := by unfold nR; rw [r0, nI_clamp (by omega)]
    have hgG : ¬ (nI g < 0 ∨ v.1 ≤ nI g) := (fun h => h.elim (nI_pos (by omega)) (fun q => absurd (i_le (hG ▸ q) (by omega) (by omega)) (by omega)))
    by_cases hq : (0 ≤ q ∧ q ≤ 6) ∧ (0 ≤ w ∧ w ≤ 5)
    · obtain ⟨B, -, B6, rfl⟩ := btw (a := 0) (b := 6) (by omega) (by omega) hq.1
      obtain ⟨m, -, m5, rfl⟩ := btw (a := 0) (b := 5) (by omega) (by omega) hq.2
      rw [show fRun (v, hv, d, iv, isd, ik, bg, bl, bs, nb, sd) (nI g) (nI B) (nI m) = prt (frR (v.2.2.2 g) B m) m by unfold fRun; rw [if_neg hgG, if_neg (fun y => y.elim (fun y => y hq.1) (fun y => y hq.2)), nI_clamp (by omega), nI_clamp (by omega), nI_clamp (by omega)]] at hR
      have fin : ∀ (wf1 : Nat → Int64) (pf : Int64 × Int64), pf = frR (v.2.2.2 g) B m → go l (rm 6) E x 0 0 (Sx E b v rv p d iv isd ik bg bl bs nb sd wf1 (nI N) (nI R) pf.1 pf.2 tl tn ts tr) [some (.ref b), some (.int (nI g)), some (.int (nI B)), some (.int (nI m)), some (.ref (b + 1 + 2 + 5 * g))] 144 [] := by
        intro wf1 pf hp
        refine g_aload_n hF dX9_run_144 145 rfl rfl ?_
        refine g_get hF fl_X9_54 dX9_run_145 148 rfl (by intro H h; first | exact h.1 | exact h.2.1.nob | exact h.2.2.1.1 | exact h.2.2.2.1 | exact h.2.2.2.2.2.1.1 | exact h.2.2.2.2.2.2.1 | exact Nq.go hg4 h.2.1 | exact Nq.st hg4 h.2.1 | exact h.2.2.2.2.2.2.2.1.1 | exact h.2.2.2.2.2.2.2.2.1) rfl ?_
        refine g_iload_n hF dX9_run_148 149 rfl rfl ?_
        refine g_iconst hF (2) dX9_run_149 150 rfl rfl ?_
        refine g_irem hF dX9_run_150 151 rfl (by decide) ?_
        rw [rem2 (by omega)]
        refine g_callV hF cv_X9_222 (c_F_part l E (b + 519) pf.1 pf.2 (nI (m % 2))) dX9_run_151 154 rfl (st := []) rfl rfl ⟨Nat.le_of_ble_eq_true rfl, Nat.le_of_ble_eq_true rfl⟩ ⟨Nat.le_of_ble_eq_true rfl, Nat.le_of_ble_eq_true rfl⟩ rfl (Nat.le_of_ble_eq_true rfl) 2 rfl (by intro H h; first | exact h.1 | exact h.2.1.nob | exact h.2.2.1.1 | exact h.2.2.2.1 | exact h.2.2.2.2.2.1.1 | exact h.2.2.2.2.2.2.1 | exact Nq.go hg4 h.2.1 | exact Nq.st hg4 h.2.1 | exact h.2.2.2.2.2.2.2.1.1 | exact h.2.2.2.2.2.2.2.2.1) (Pr' := Sx E b v rv p d iv isd ik bg bl bs nb sd wf1 (nI N) (nI R) pf.1 pf.2 tl tn ts tr) (fun H h => h.2.2.2.2.2.2.2.2.1) (fun q z => z.elim) (fun H H' h h1 h2 => by exact h.no h2 (fun q z => z.elim)) (st1 := [_]) rfl (k1 := 0) (n1 := 0) rfl rfl ?_
        exact g_lret hF dX9_run_154 (Nat.le_of_ble_eq_true rfl) (Nat.le_of_ble_eq_true rfl) (fun H h => hR _ _ ⟨congrArg (fun z => some (Value.long z)) (by rw [prt_eq, ← hp]), Cs.S hr h⟩)
      refine g_aload_n hF dX9_run_0 1 rfl rfl ?_
      refine g_get hF fl_X9_10 dX9_run_1 4 rfl (by intro H h; first | exact h.1 | exact h.2.1.nob | exact h.2.2.1.1 | exact h.2.2.2.1 | exact h.2.2.2.2.2.1.1 | exact h.2.2.2.2.2.2.1 | exact Nq.go hg4 h.2.1 | exact Nq.st hg4 h.2.1 | exact h.2.2.2.2.2.2.2.1.1 | exact h.2.2.2.2.2.2.2.2.1) rfl ?_
      refine g_iload_n hF dX9_run_4 5 rfl rfl ?_
      refine g_callV hF cv_X9_96 (q_groupAt l E (b + 1) v G g hG G4 hg) dX9_run_5 8 rfl (st := []) rfl rfl ⟨Nat.le_of_ble_eq_true rfl, Nat.le_of_ble_eq_true rfl⟩ ⟨Nat.le_of_ble_eq_true rfl, Nat.le_of_ble_eq_true rfl⟩ rfl (Nat.le_of_ble_eq_true rfl) 6 rfl (by intro H h; first | exact h.1 | exact h.2.1.nob | exact h.2.2.1.1 | exact h.2.2.2.1 | exact h.2.2.2.2.2.1.1 | exact h.2.2.2.2.2.2.1 | exact Nq.go hg4 h.2.1 | exact Nq.st hg4 h.2.1 | exact h.2.2.2.2.2.2.2.1.1 | exact h.2.2.2.2.2.2.2.2.1) (Pr' := Sx E b v rv p d iv isd ik bg bl bs nb sd wf wx wy fa fb tl tn ts tr) (fun H h => h.2.1) (fun q z => z.elim) (fun H H' h h1 h2 => by exact h.no h2 (fun q z => z.elim)) (st1 := [_]) rfl (k1 := 0) (n1 := 0) rfl rfl ?_
      refine g_astore hF dX9_run_8 10 rfl (lo' := [_, _, _, _, _]) (Nat.le_of_ble_eq_true rfl) rfl ?_
      refine g_aload hF dX9_run_10 12 rfl rfl ?_
      refine g_ifnonnull hF dX9_run_12 19 (by decide) ?_
      refine g_iload_n hF dX9_run_19 20 rfl rfl ?_
      refine g_iconst hF (0) dX9_run_20 21 rfl rfl ?_
      refine g_bipush hF (6) dX9_run_21 23 rfl rfl ?_
      refine g_callS hF cs_X9_157 (c_isWithin l E (nI B) (0) (6) (Sx E b v rv p d iv isd ik bg bl bs nb sd wf wx wy fa fb tl tn ts tr) 1 ((if_pos hq.1).symm)) dX9_run_23 26 rfl (st := []) rfl rfl ⟨Nat.le_of_ble_eq_true rfl, Nat.le_of_ble_eq_true rfl⟩ ⟨Nat.le_of_ble_eq_true rfl, Nat.le_of_ble_eq_true rfl⟩ rfl (Nat.le_of_ble_eq_true rfl) (Pr' := _) (fun _ h => h) (fun q z => z.elim) (fun _ _ _ h _ => by exact h) (st1 := [_]) rfl (k1 := 0) (n1 := 0) rfl rfl ?_
      refine g_if_eq hF dX9_run_26 29 rfl 38 (by decide) (fun c => absurd c ((by decide))) (fun _ => ?_)
      refine g_iload_n hF dX9_run_29 30 rfl rfl ?_
      refine g_iconst hF (0) dX9_run_30 31 rfl rfl ?_
      refine g_iconst hF (5) dX9_run_31 32 rfl rfl ?_
      refine g_callS hF cs_X9_157 (c_isWithin l E (nI m) (0) (5) (Sx E b v rv p d iv isd ik bg bl bs nb sd wf wx wy fa fb tl tn ts tr) 1 ((if_pos hq.2).symm)) dX9_run_32 35 rfl (st := []) rfl rfl ⟨Nat.le_of_ble_eq_true rfl, Nat.le_of_ble_eq_true rfl⟩ ⟨Nat.le_of_ble_eq_true rfl, Nat.le_of_ble_eq_true rfl⟩ rfl (Nat.le_of_ble_eq_true rfl) (Pr' := _) (fun _ h => h) (fun q z => z.elim) (fun _ _ _ h _ => by exact h) (st1 := [_]) rfl (k1 := 0) (n1 := 0) rfl rfl ?_
      refine g_if_ne hF dX9_run_35 38 rfl 42 (by decide) (fun _ => ?_) (fun c => absurd c ((by decide)))
      refine g_aload_n hF dX9_run_42 43 rfl rfl ?_
      refine g_get hF fl_X9_47 dX9_run_43 46 rfl (by intro H h; first | exact h.1 | exact h.2.1.nob | exact h.2.2.1.1 | exact h.2.2.2.1 | exact h.2.2.2.2.2.1.1 | exact h.2.2.2.2.2.2.1 | exact Nq.go hg4 h.2.1 | exact Nq.st hg4 h.2.1 | exact h.2.2.2.2.2.2.2.1.1 | exact h.2.2.2.2.2.2.2.2.1) rfl ?_
      refine g_aload hF dX9_run_46 48 rfl rfl ?_
      refine g_get hF fl_X9_101 dX9_run_48 51 rfl (by intro H h; first | exact h.1 | exact h.2.1.nob | exact h.2.2.1.1 | exact h.2.2.2.1 | exact h.2.2.2.2.2.1.1 | exact h.2.2.2.2.2.2.1 | exact Nq.go hg4 h.2.1 | exact Nq.st hg4 h.2.1 | exact h.2.2.2.2.2.2.2.1.1 | exact h.2.2.2.2.2.2.2.2.1) rfl ?_
      refine g_aload hF dX9_run_51 53 rfl rfl ?_
      refine g_get hF fl_X9_106 dX9_run_53 56 rfl (by intro H h; first | exact h.1 | exact h.2.1.nob | exact h.2.2.1.1 | exact h.2.2.2.1 | exact h.2.2.2.2.2.1.1 | exact h.2.2.2.2.2.2.1 | exact Nq.go hg4 h.2.1 | exact Nq.st hg4 h.2.1 | exact h.2.2.2.2.2.2.2.1.1 | exact h.2.2.2.2.2.2.2.2.1) rfl ?_
      refine g_aload hF dX9_run_56 58 rfl rfl ?_
      refine g_get hF fl_X9_109 dX9_run_58 61 rfl (by intro H h; first | exact h.1 | exact h.2.1.nob | exact h.2.2.1.1 | exact h.2.2.2.1 | exact h.2.2.2.2.2.1.1 | exact h.2.2.2.2.2.2.1 | exact Nq.go hg4 h.2.1 | exact Nq.st hg4 h.2.1 | exact h.2.2.2.2.2.2.2.1.1 | exact h.2.2.2.2.2.2.2.2.1) rfl ?_
      refine g_iload_n hF dX9_run_61 62 rfl rfl ?_
      rw [n0, ha, r0]
      refine g_callV hF cv_X9_201 (c_W_weighExactly l E (b + 517) N A R B wf wx wy n1 n6 a6 (by omega) (by omega)) dX9_run_62 65 rfl (st := []) rfl rfl ⟨Nat.le_of_ble_eq_true rfl, Nat.le_of_ble_eq_true rfl⟩ ⟨Nat.le_of_ble_eq_true rfl, Nat.le_of_ble_eq_true rfl⟩ rfl (Nat.le_of_ble_eq_true rfl) 8 rfl (by intro H h; first | exact h.1 | exact h.2.1.nob | exact h.2.2.1.1 | exact h.2.2.2.1 | exact h.2.2.2.2.2.1.1 | exact h.2.2.2.2.2.2.1 | exact Nq.go hg4 h.2.1 | exact Nq.st hg4 h.2.1 | exact h.2.2.2.2.2.2.2.1.1 | exact h.2.2.2.2.2.2.2.2.1) (Pr' := fun H => ∃ wf1, (∀ k, k ≤ N → wf1 k = lN (wt (fct N) 1 N A R B k)) ∧ (Sx E b v rv p d iv isd ik bg bl bs nb sd wf1 (nI N) (nI R) fa fb tl tn ts tr) H) (fun H h => h.2.2.2.2.2.2.2.1) (fun q y => hA q ⟨by have := y.1; omega, by have := y.2; omega⟩) (fun H H' h h1 h2 => by obtain ⟨wf1, q1, q2⟩ := h1; exact ⟨wf1, q1, h.w h2 (fun q y => Or.inl ⟨by have := y.1; omega, by have := y.2; omega⟩) q2⟩) (st1 := []) rfl (k1 := 0) (n1 := 0) rfl rfl ?_
      refine g_ex (fun wf1 => ?_)
      refine g_pure (fun H h => h.1) (fun hw => ?_)
      refine g_pr (fun H h => h.2) ?_
      refine g_iload_n hF dX9_run_65 66 rfl rfl ?_
      refine g_iconst hF (2) dX9_run_66 67 rfl rfl ?_
      refine g_icmp_ge hF dX9_run_67 70 rfl 94 (by decide) (fun c67 => ?_) (fun c67 => ?_)
      · refine g_iload_n hF dX9_run_94 95 rfl rfl ?_
        refine g_iconst hF (4) dX9_run_95 96 rfl rfl ?_
        refine g_icmp_ge hF dX9_run_96 99 rfl 123 (by decide) (fun c96 => ?_) (fun c96 => ?_)
        · refine g_aload_n hF dX9_run_123 124 rfl rfl ?_
          refine g_get hF fl_X9_54 dX9_run_124 127 rfl (by intro H h; first | exact h.1 | exact h.2.1.nob | exact h.2.2.1.1 | exact h.2.2.2.1 | exact h.2.2.2.2.2.1.1 | exact h.2.2.2.2.2.2.1 | exact Nq.go hg4 h.2.1 | exact Nq.st hg4 h.2.1 | exact h.2.2.2.2.2.2.2.1.1 | exact h.2.2.2.2.2.2.2.2.1) rfl ?_
          refine g_aload_n hF dX9_run_127 128 rfl rfl ?_
          refine g_get hF fl_X9_47 dX9_run_128 131 rfl (by intro H h; first | exact h.1 | exact h.2.1.nob | exact h.2.2.1.1 | exact h.2.2.2.1 | exact h.2.2.2.2.2.1.1 | exact h.2.2.2.2.2.2.1 | exact Nq.go hg4 h.2.1 | exact Nq.st hg4 h.2.1 | exact h.2.2.2.2.2.2.2.1.1 | exact h.2.2.2.2.2.2.2.2.1) rfl ?_
          refine g_callV hF cv_X9_219 (c_W_timesHeld l E (b + 517) N R (wt (fct N) 1 N A R B) wf1 n6 hw) dX9_run_131 134 rfl (st := [_]) rfl rfl ⟨Nat.le_of_ble_eq_true rfl, Nat.le_of_ble_eq_true rfl⟩ ⟨Nat.le_of_ble_eq_true rfl, Nat.le_of_ble_eq_true rfl⟩ rfl (Nat.le_of_ble_eq_true rfl) 8 rfl (by intro H h; first | exact h.1 | exact h.2.1.nob | exact h.2.2.1.1 | exact h.2.2.2.1 | exact h.2.2.2.2.2.1.1 | exact h.2.2.2.2.2.2.1 | exact Nq.go hg4 h.2.1 | exact Nq.st hg4 h.2.1 | exact h.2.2.2.2.2.2.2.1.1 | exact h.2.2.2.2.2.2.2.2.1) (Pr' := Sx E b v rv p d iv isd ik bg bl bs nb sd wf1 (nI N) (nI R) fa fb tl tn ts tr) (fun H h => h.2.2.2.2.2.2.2.1) (fun q z => z.elim) (fun H H' h h1 h2 => by exact h.no h2 (fun q z => z.elim)) (st1 := [_, _]) rfl (k1 := 0) (n1 := 0) rfl rfl ?_
          refine g_aload_n hF dX9_run_134 135 rfl rfl ?_
          refine g_get hF fl_X9_47 dX9_run_135 138 rfl (by intro H h; first | exact h.1 | exact h.2.1.nob | exact h.2.2.1.1 | exact h.2.2.2.1 | exact h.2.2.2.2.2.1.1 | exact h.2.2.2.2.2.2.1 | exact Nq.go hg4 h.2.1 | exact Nq.st hg4 h.2.1 | exact h.2.2.2.2.2.2.2.1.1 | exact h.2.2.2.2.2.2.2.2.1) rfl ?_
          refine g_callV hF cv_X9_209 (c_W_all l E (b + 517) N R (wt (fct N) 1 N A R B) wf1 n6 hw) dX9_run_138 141 rfl (st := [_, _]) rfl rfl ⟨Nat.le_of_ble_eq_true rfl, Nat.le_of_ble_eq_true rfl⟩ ⟨Nat.le_of_ble_eq_true rfl, Nat.le_of_ble_eq_true rfl⟩ rfl (Nat.le_of_ble_eq_true rfl) 8 rfl (by intro H h; first | exact h.1 | exact h.2.1.nob | exact h.2.2.1.1 | exact h.2.2.2.1 | exact h.2.2.2.2.2.1.1 | exact h.2.2.2.2.2.2.1 | exact Nq.go hg4 h.2.1 | exact Nq.st hg4 h.2.1 | exact h.2.2.2.2.2.2.2.1.1 | exact h.2.2.2.2.2.2.2.2.1) (Pr' := Sx E b v rv p d iv isd ik bg bl bs nb sd wf1 (nI N) (nI R) fa fb tl tn ts tr) (fun H h => h.2.2.2.2.2.2.2.1) (fun q z => z.elim) (fun H H' h h1 h2 => by exact h.no h2 (fun q z => z.elim)) (st1 := [_, _, _]) rfl (k1 := 0) (n1 := 0) rfl rfl ?_
          refine g_callV hF cv_X9_212 (c_F_become l E (b + 519) fa fb (lN (sTm (wt (fct N) 1 N A R B) (N + 1))) (lN (sW (wt (fct N) 1 N A R B) (N + 1)))) dX9_run_141 144 rfl (st := []) rfl rfl ⟨Nat.le_of_ble_eq_true rfl, Nat.le_of_ble_eq_true rfl⟩ ⟨Nat.le_of_ble_eq_true rfl, Nat.le_of_ble_eq_true rfl⟩ rfl (Nat.le_of_ble_eq_true rfl) 2 rfl (by intro H h; first | exact h.1 | exact h.2.1.nob | exact h.2.2.1.1 | exact h.2.2.2.1 | exact h.2.2.2.2.2.1.1 | exact h.2.2.2.2.2.2.1 | exact Nq.go hg4 h.2.1 | exact Nq.st hg4 h.2.1 | exact h.2.2.2.2.2.2.2.1.1 | exact h.2.2.2.2.2.2.2.2.1) (Pr' := Sx E b v rv p d iv isd ik bg bl bs nb sd wf1 (nI N) (nI R) (bcm (lN (sTm (wt (fct N) 1 N A R B) (N + 1))) (lN (sW (wt (fct N) 1 N A R B) (N + 1)))).1 (bcm (lN (sTm (wt (fct N) 1 N A R B) (N + 1))) (lN (sW (wt (fct N) 1 N A R B) (N + 1)))).2 tl tn ts tr) (fun H h => h.2.2.2.2.2.2.2.2.1) (fun q y => by subst y; exact hA _ ⟨by omega, by omega⟩) (fun H H' h h1 h2 => by exact h.f h2 (fun q y => by subst y; exact Or.inl ⟨by omega, by omega⟩) h1) (st1 := []) rfl (k1 := 0) (n1 := 0) rfl rfl ?_
          exact fin wf1 (bcm _ _) (by unfold frR wE; rw [eN, eA, eR, if_neg (Nat.not_lt.mpr (i_le (a := 2) c67 (by omega) (by omega))), if_neg (Nat.not_lt.mpr (i_le (a := 4) c96 (by omega) (by omega)))])
        · refine g_aload_n hF dX9_run_99 100 rfl rfl ?_
          refine g_get hF fl_X9_54 dX9_run_100 103 rfl (by intro H h; first | exact h.1 | exact h.2.1.nob | exact h.2.2.1.1 | exact h.2.2.2.1 | exact h.2.2.2.2.2.1.1 | exact h.2.2.2.2.2.2.1 | exact Nq.go hg4 h.2.1 | exact Nq.st hg4 h.2.1 | exact h.2.2.2.2.2.2.2.1.1 | exact h.2.2.2.2.2.2.2.2.1) rfl ?_
          refine g_aload_n hF dX9_run_103 104 rfl rfl ?_
          refine g_get hF fl_X9_47 dX9_run_104 107 rfl (by intro H h; first | exact h.1 | exact h.2.1.nob | exact h.2.2.1.1 | exact h.2.2.2.1 | exact h.2.2.2.2.2.1.1 | exact h.2.2.2.2.2.2.1 | exact Nq.go hg4 h.2.1 | exact Nq.st hg4 h.2.1 | exact h.2.2.2.2.2.2.2.1.1 | exact h.2.2.2.2.2.2.2.2.1) rfl ?_
          refine g_callV hF cv_X9_216 (c_W_ofRefusing l E (b + 517) N R (wt (fct N) 1 N A R B) wf1 n6 (by omega) hw) dX9_run_107 110 rfl (st := [_]) rfl rfl ⟨Nat.le_of_ble_eq_true rfl, Nat.le_of_ble_eq_true rfl⟩ ⟨Nat.le_of_ble_eq_true rfl, Nat.le_of_ble_eq_true rfl⟩ rfl (Nat.le_of_ble_eq_true rfl) 8 rfl (by intro H h; first | exact h.1 | exact h.2.1.nob | exact h.2.2.1.1 | exact h.2.2.2.1 | exact h.2.2.2.2.2.1.1 | exact h.2.2.2.2.2.2.1 | exact Nq.go hg4 h.2.1 | exact Nq.st hg4 h.2.1 | exact h.2.2.2.2.2.2.2.1.1 | exact h.2.2.2.2.2.2.2.2.1) (Pr' := Sx E b v rv p d iv isd ik bg bl bs nb sd wf1 (nI N) (nI R) fa fb tl tn ts tr) (fun H h => h.2.2.2.2.2.2.2.1) (fun q z => z.elim) (fun H H' h h1 h2 => by exact h.no h2 (fun q z => z.elim)) (st1 := [_, _]) rfl (k1 := 0) (n1 := 0) rfl rfl ?_
          refine g_aload_n hF dX9_run_110 111 rfl rfl ?_
          refine g_get hF fl_X9_47 dX9_run_111 114 rfl (by intro H h; first | exact h.1 | exact h.2.1.nob | exact h.2.2.1.1 | exact h.2.2.2.1 | exact h.2.2.2.2.2.1.1 | exact h.2.2.2.2.2.2.1 | exact Nq.go hg4 h.2.1 | exact Nq.st hg4 h.2.1 | exact h.2.2.2.2.2.2.2.1.1 | exact h.2.2.2.2.2.2.2.2.1) rfl ?_
          refine g_callV hF cv_X9_209 (c_W_all l E (b + 517) N R (wt (fct N) 1 N A R B) wf1 n6 hw) dX9_run_114 117 rfl (st := [_, _]) rfl rfl ⟨Nat.le_of_ble_eq_true rfl, Nat.le_of_ble_eq_true rfl⟩ ⟨Nat.le_of_ble_eq_true rfl, Nat.le_of_ble_eq_true rfl⟩ rfl (Nat.le_of_ble_eq_true rfl) 8 rfl (by intro H h; first | exact h.1 | exact h.2.1.nob | exact h.2.2.1.1 | exact h.2.2.2.1 | exact h.2.2.2.2.2.1.1 | exact h.2.2.2.2.2.2.1 | exact Nq.go hg4 h.2.1 | exact Nq.st hg4 h.2.1 | exact h.2.2.2.2.2.2.2.1.1 | exact h.2.2.2.2.2.2.2.2.1) (Pr' := Sx E b v rv p d iv isd ik bg bl bs nb sd wf1 (nI N) (nI R) fa fb tl tn ts tr) (fun H h => h.2.2.2.2.2.2.2.1) (fun q z => z.elim) (fun H H' h h1 h2 => by exact h.no h2 (fun q z => z.elim)) (st1 := [_, _, _]) rfl (k1 := 0) (n1 := 0) rfl rfl ?_
          refine g_callV hF cv_X9_212 (c_F_become l E (b + 519) fa fb (lN (sRf (wt (fct N) 1 N A R B) N R (N + 1))) (lN (sW (wt (fct N) 1 N A R B) (N + 1)))) dX9_run_117 120 rfl (st := []) rfl rfl ⟨Nat.le_of_ble_eq_true rfl, Nat.le_of_ble_eq_true rfl⟩ ⟨Nat.le_of_ble_eq_true rfl, Nat.le_of_ble_eq_true rfl⟩ rfl (Nat.le_of_ble_eq_true rfl) 2 rfl (by intro H h; first | exact h.1 | exact h.2.1.nob | exact h.2.2.1.1 | exact h.2.2.2.1 | exact h.2.2.2.2.2.1.1 | exact h.2.2.2.2.2.2.1 | exact Nq.go hg4 h.2.1 | exact Nq.st hg4 h.2.1 | exact h.2.2.2.2.2.2.2.1.1 | exact h.2.2.2.2.2.2.2.2.1) (Pr' := Sx E b v rv p d iv isd ik bg bl bs nb sd wf1 (nI N) (nI R) (bcm (lN (sRf (wt (fct N) 1 N A R B) N R (N + 1))) (lN (sW (wt (fct N) 1 N A R B) (N + 1)))).1 (bcm (lN (sRf (wt (fct N) 1 N A R B) N R (N + 1))) (lN (sW (wt (fct N) 1 N A R B) (N + 1)))).2 tl tn ts tr) (fun H h => h.2.2.2.2.2.2.2.2.1) (fun q y => by subst y; exact hA _ ⟨by omega, by omega⟩) (fun H H' h h1 h2 => by exact h.f h2 (fun q y => by subst y; exact Or.inl ⟨by omega, by omega⟩) h1) (st1 := []) rfl (k1 := 0) (n1 := 0) rfl rfl ?_
          refine g_goto hF dX9_run_120 144 (by decide) ?_
          exact fin wf1 (bcm _ _) (by unfold frR wE; rw [eN, eA, eR, if_neg (Nat.not_lt.mpr (i_le (a := 2) c67 (by omega) (by omega))), if_pos (i_nle (a := 4) c96 (by omega) (by omega))])
      · refine g_aload_n hF dX9_run_70 71 rfl rfl ?_
        refine g_get hF fl_X9_54 dX9_run_71 74 rfl (by intro H h; first | exact h.1 | exact h.2.1.nob | exact h.2.2.1.1 | exact h.2.2.2.1 | exact h.2.2.2.2.2.1.1 | exact h.2.2.2.2.2.2.1 | exact Nq.go hg4 h.2.1 | exact Nq.st hg4 h.2.1 | exact h.2.2.2.2.2.2.2.1.1 | exact h.2.2.2.2.2.2.2.2.1) rfl ?_
        refine g_aload_n hF dX9_run_74 75 rfl rfl ?_
        refine g_get hF fl_X9_47 dX9_run_75 78 rfl (by intro H h; first | exact h.1 | exact h.2.1.nob | exact h.2.2.1.1 | exact h.2.2.2.1 | exact h.2.2.2.2.2.1.1 | exact h.2.2.2.2.2.2.1 | exact Nq.go hg4 h.2.1 | exact Nq.st hg4 h.2.1 | exact h.2.2.2.2.2.2.2.1.1 | exact h.2.2.2.2.2.2.2.2.1) rfl ?_
        refine g_callV hF cv_X9_205 (c_W_ofAllHeld l E (b + 517) N R (wt (fct N) 1 N A R B) wf1 n6 hw) dX9_run_78 81 rfl (st := [_]) rfl rfl ⟨Nat.le_of_ble_eq_true rfl, Nat.le_of_ble_eq_true rfl⟩ ⟨Nat.le_of_ble_eq_true rfl, Nat.le_of_ble_eq_true rfl⟩ rfl (Nat.le_of_ble_eq_true rfl) 8 rfl (by intro H h; first | exact h.1 | exact h.2.1.nob | exact h.2.2.1.1 | exact h.2.2.2.1 | exact h.2.2.2.2.2.1.1 | exact h.2.2.2.2.2.2.1 | exact Nq.go hg4 h.2.1 | exact Nq.st hg4 h.2.1 | exact h.2.2.2.2.2.2.2.1.1 | exact h.2.2.2.2.2.2.2.2.1) (Pr' := Sx E b v rv p d iv isd ik bg bl bs nb sd wf1 (nI N) (nI R) fa fb tl tn ts tr) (fun H h => h.2.2.2.2.2.2.2.1) (fun q z => z.elim) (fun H H' h h1 h2 => by exact h.no h2 (fun q z => z.elim)) (st1 := [_, _]) rfl (k1 := 0) (n1 := 0) rfl rfl ?_
        refine g_aload_n hF dX9_run_81 82 rfl rfl ?_
        refine g_get hF fl_X9_47 dX9_run_82 85 rfl (by intro H h; first | exact h.1 | exact h.2.1.nob | exact h.2.2.1.1 | exact h.2.2.2.1 | exact h.2.2.2.2.2.1.1 | exact h.2.2.2.2.2.2.1 | exact Nq.go hg4 h.2.1 | exact Nq.st hg4 h.2.1 | exact h.2.2.2.2.2.2.2.1.1 | exact h.2.2.2.2.2.2.2.2.1) rfl ?_
        refine g_callV hF cv_X9_209 (c_W_all l E (b + 517) N R (wt (fct N) 1 N A R B) wf1 n6 hw) dX9_run_85 88 rfl (st := [_, _]) rfl rfl ⟨Nat.le_of_ble_eq_true rfl, Nat.le_of_ble_eq_true rfl⟩ ⟨Nat.le_of_ble_eq_true rfl, Nat.le_of_ble_eq_true rfl⟩ rfl (Nat.le_of_ble_eq_true rfl) 8 rfl (by intro H h; first | exact h.1 | exact h.2.1.nob | exact h.2.2.1.1 | exact h.2.2.2.1 | exact h.2.2.2.2.2.1.1 | exact h.2.2.2.2.2.2.1 | exact Nq.go hg4 h.2.1 | exact Nq.st hg4 h.2.1 | exact h.2.2.2.2.2.2.2.1.1 | exact h.2.2.2.2.2.2.2.2.1) (Pr' := Sx E b v rv p d iv isd ik bg bl bs nb sd wf1 (nI N) (nI R) fa fb tl tn ts tr) (fun H h => h.2.2.2.2.2.2.2.1) (fun q z => z.elim) (fun H H' h h1 h2 => by exact h.no h2 (fun q z => z.elim)) (st1 := [_, _, _]) rfl (k1 := 0) (n1 := 0) rfl rfl ?_
        refine g_callV hF cv_X9_212 (c_F_become l E (b + 519) fa fb (lN (wt (fct N) 1 N A R B N)) (lN (sW (wt (fct N) 1 N A R B) (N + 1)))) dX9_run_88 91 rfl (st := []) rfl rfl ⟨Nat.le_of_ble_eq_true rfl, Nat.le_of_ble_eq_true rfl⟩ ⟨Nat.le_of_ble_eq_true rfl, Nat.le_of_ble_eq_true rfl⟩ rfl (Nat.le_of_ble_eq_true rfl) 2 rfl (by intro H h; first | exact h.1 | exact h.2.1.nob | exact h.2.2.1.1 | exact h.2.2.2.1 | exact h.2.2.2.2.2.1.1 | exact h.2.2.2.2.2.2.1 | exact Nq.go hg4 h.2.1 | exact Nq.st hg4 h.2.1 | exact h.2.2.2.2.2.2.2.1.1 | exact h.2.2.2.2.2.2.2.2.1) (Pr' := Sx E b v rv p d iv isd ik bg bl bs nb sd wf1 (nI N) (nI R) (bcm (lN (wt (fct N) 1 N A R B N)) (lN (sW (wt (fct N) 1 N A R B) (N + 1)))).1 (bcm (lN (wt (fct N) 1 N A R B N)) (lN (sW (wt (fct N) 1 N A R B) (N + 1)))).2 tl tn ts tr) (fun H h => h.2.2.2.2.2.2.2.2.1) (fun q y => by subst y; exact hA _ ⟨by omega, by omega⟩) (fun H H' h h1 h2 => by exact h.f h2 (fun q y => by subst y; exact Or.inl ⟨by omega, by omega⟩) h1) (st1 := []) rfl (k1 := 0) (n1 := 0) rfl rfl ?_
        refine g_goto hF dX9_run_91 144 (by decide) ?_
        exact fin wf1 (bcm _ _) (by unfold frR wE; rw [eN, eA, eR, if_pos (i_nle (a := 2) c67 (by omega) (by omega))])
    · rw [show fRun (v, hv, d, iv, isd, ik, bg, bl, bs, nb, sd) (nI g) q w = -1000000002 from (if_neg hgG).trans (if_pos (Classical.byContradiction fun y => hq ⟨Classical.byContradiction fun y1 => y (Or.inl y1), Classical.byContradiction fun y1 => y (Or.inr y1)⟩))] at hR
      refine g_aload_n hF dX9_run_0 1 rfl rfl ?_
      refine g_get hF fl_X9_10 dX9_run_1 4 rfl (by intro H h; first | exact h.1 | exact h.2.1.nob | exact h.2.2.1.1 | exact h.2.2.2.1 | exact h.2.2.2.2.2.1.1 | exact h.2.2.2.2.2.2.1 | exact Nq.go hg4 h.2.1 | exact Nq.st hg4 h.2.1 | exact h.2.2.2.2.2.2.2.1.1 | exact h.2.2.2.2.2.2.2.2.1) rfl ?_
      refine g_iload_n hF dX9_run_4 5 rfl rfl ?_
      refine g_callV hF cv_X9_96 (q_groupAt l E (b + 1) v G g hG G4 hg) dX9_run_5 8 rfl (st := []) rfl rfl ⟨Nat.le_of_ble_eq_true rfl, Nat.le_of_ble_eq_true rfl⟩ ⟨Nat.le_of_ble_eq_true rfl, Nat.le_of_ble_eq_true rfl⟩ rfl (Nat.le_of_ble_eq_true rfl) 6 rfl (by intro H h; first | exact h.1 | exact h.2.1.nob | exact h.2.2.1.1 | exact h.2.2.2.1 | exact h.2.2.2.2.2.1.1 | exact h.2.2.2.2.2.2.1 | exact Nq.go hg4 h.2.1 | exact Nq.st hg4 h.2.1 | exact h.2.2.2.2.2.2.2.1.1 | exact h.2.2.2.2.2.2.2.2.1) (Pr' := Sx E b v rv p d iv isd ik bg bl bs nb sd wf wx wy fa fb tl tn ts tr) (fun H h => h.2.1) (fun q z => z.elim) (fun H H' h h1 h2 => by exact h.no h2 (fun q z => z.elim)) (st1 := [_]) rfl (k1 := 0) (n1 := 0) rfl rfl ?_
      refine g_astore hF dX9_run_8 10 rfl (lo' := [_, _, _, _, _]) (Nat.le_of_ble_eq_true rfl) rfl ?_
      refine g_aload hF dX9_run_10 12 rfl rfl ?_
      refine g_ifnonnull hF dX9_run_12 19 (by decide) ?_
      refine g_iload_n hF dX9_run_19 20 rfl rfl ?_
      refine g_iconst hF (0) dX9_run_20 21 rfl rfl ?_
      refine g_bipush hF (6) dX9_run_21 23 rfl rfl ?_
      refine g_callS hF cs_X9_157 (c_isWithin l E q 0 6 (Sx E b v rv p d iv isd ik bg bl bs nb sd wf wx wy fa fb tl tn ts tr) _ rfl) dX9_run_23 26 rfl (st := []) rfl rfl ⟨Nat.le_of_ble_eq_true rfl, Nat.le_of_ble_eq_true rfl⟩ ⟨Nat.le_of_ble_eq_true rfl, Nat.le_of_ble_eq_true rfl⟩ rfl (Nat.le_of_ble_eq_true rfl) (Pr' := _) (fun _ h => h) (fun q z => z.elim) (fun _ _ _ h _ => by exact h) (st1 := [_]) rfl (k1 := 0) (n1 := 0) rfl rfl ?_
      refine g_if_eq hF dX9_run_26 29 rfl 38 (by decide) (fun c26 => ?_) (fun c26 => ?_)
      · refine g_ldc2 hF kc_X9_199 dX9_run_38 41 rfl ?_
        exact g_lret hF dX9_run_41 (Nat.le_of_ble_eq_true rfl) (Nat.le_of_ble_eq_true rfl) (fun H h => hR _ _ ⟨congrArg (fun z => some (Value.long z)) (rfl), Cs.S hr h⟩)
      · refine g_iload_n hF dX9_run_29 30 rfl rfl ?_
        refine g_iconst hF (0) dX9_run_30 31 rfl rfl ?_
        refine g_iconst hF (5) dX9_run_31 32 rfl rfl ?_
        refine g_callS hF cs_X9_157 (c_isWithin l E w 0 5 (Sx E b v rv p d iv isd ik bg bl bs nb sd wf wx wy fa fb tl tn ts tr) _ rfl) dX9_run_32 35 rfl (st := []) rfl rfl ⟨Nat.le_of_ble_eq_true rfl, Nat.le_of_ble_eq_true rfl⟩ ⟨Nat.le_of_ble_eq_true rfl, Nat.le_of_ble_eq_true rfl⟩ rfl (Nat.le_of_ble_eq_true rfl) (Pr' := _) (fun _ h => h) (fun q z => z.elim) (fun _ _ _ h _ => by exact h) (st1 := [_]) rfl (k1 := 0) (n1 := 0) rfl rfl ?_
        refine g_if_ne hF dX9_run_35 38 rfl 42 (by decide) (fun c => absurd (iz0.mpr (fun y => hq ⟨iz1 c26, y⟩)) c) (fun _ => ?_)
        refine g_ldc2 hF kc_X9_199 dX9_run_38 41 rfl ?_
        exact g_lret hF dX9_run_41 (Nat.le_of_ble_eq_true rfl) (Nat.le_of_ble_eq_true rfl) (fun H h => hR _ _ ⟨congrArg (fun z => some (Value.long z)) (rfl), Cs.S hr h⟩)
set_option maxRecDepth 100000 in
set_option maxHeartbeats 16000000 in
theorem c_C_over (l : Launch) (E : Ev) (b T : Nat) (σ : AS) (hv0 : okV T σ.1) (z w : Int32) : Ct l E yX9_over cX9_over 4 (some .long) (rm 6) [.ref b, .int z, .int w] (CS E b σ) (rV (some (.long (fOver σ z w))) (CS E b σ)) (rg b 524) := by
  refine ct_start (by decide) [some (.ref b), some (.int z), some (.int w), none] rfl (Nat.le_of_ble_eq_true rfl) ?_
  intro x hF hN hA hR
  obtain ⟨v, hv, d, iv, isd, ik, bg, bl, bs, nb, sd⟩ := σ
  refine g_open (fun rv p wf wx wy fa fb tl tn ts tr hr => ?_)
  dsimp only at hv0
  obtain ⟨G, hG, G1, G4, hGc, ho, hn⟩ := okN hv0
  rcases pk_ix z (n := G) (by omega) with hz | hz | ⟨g, hg, rfl⟩
  · rw [show fOver (v, hv, d, iv, isd, ik, bg, bl, bs, nb, sd) z w = -1000000001 from if_pos (Or.inl hz)] at hR
    refine g_aload_n hF dX9_over_0 1 rfl rfl ?_
    refine g_get hF fl_X9_10 dX9_over_1 4 rfl (by intro H h; first | exact h.1 | exact h.2.1.nob | exact h.2.2.1.1 | exact h.2.2.2.1 | exact h.2.2.2.2.2.1.1 | exact h.2.2.2.2.2.2.1 | exact Nq.go hg4 h.2.1 | exact Nq.st hg4 h.2.1 | exact h.2.2.2.2.2.2.2.1.1 | exact h.2.2.2.2.2.2.2.2.1) rfl ?_
    refine g_iload_n hF dX9_over_4 5 rfl rfl ?_
    refine g_callV hF cv_X9_96 (q_groupAtN l E (b + 1) v z (Or.inl hz)) dX9_over_5 8 rfl (st := []) rfl rfl ⟨Nat.le_of_ble_eq_true rfl, Nat.le_of_ble_eq_true rfl⟩ ⟨Nat.le_of_ble_eq_true rfl, Nat.le_of_ble_eq_true rfl⟩ rfl (Nat.le_of_ble_eq_true rfl) 6 rfl (by intro H h; first | exact h.1 | exact h.2.1.nob | exact h.2.2.1.1 | exact h.2.2.2.1 | exact h.2.2.2.2.2.1.1 | exact h.2.2.2.2.2.2.1 | exact Nq.go hg4 h.2.1 | exact Nq.st hg4 h.2.1 | exact h.2.2.2.2.2.2.2.1.1 | exact h.2.2.2.2.2.2.2.2.1) (Pr' := Sx E b v rv p d iv isd ik bg bl bs nb sd wf wx wy fa fb tl tn ts tr) (fun H h => h.2.1) (fun q z => z.elim) (fun H H' h h1 h2 => by exact h.no h2 (fun q z => z.elim)) (st1 := [_]) rfl (k1 := 0) (n1 := 0) rfl rfl ?_
    refine g_astore_nN hF dX9_over_8 9 rfl (lo' := [_, _, _, _]) (Nat.le_of_ble_eq_true rfl) rfl ?_
    refine g_aload_nN hF dX9_over_9 10 rfl rfl ?_
    refine g_ifnonnullN hF dX9_over_10 13 rfl ?_
    refine g_ldc2 hF kc_X9_197 dX9_over_13 16 rfl ?_
    exact g_lret hF dX9_over_16 (Nat.le_of_ble_eq_true rfl) (Nat.le_of_ble_eq_true rfl) (fun H h => hR _ _ ⟨congrArg (fun z => some (Value.long z)) (rfl), Cs.S hr h⟩)
  · rw [show fOver (v, hv, d, iv, isd, ik, bg, bl, bs, nb, sd) z w = -1000000001 from if_pos (Or.inr (hG ▸ hz))] at hR
    refine g_aload_n hF dX9_over_0 1 rfl rfl ?_
    refine g_get hF fl_X9_10 dX9_over_1 4 rfl (by intro H h; first | exact h.1 | exact h.2.1.nob | exact h.2.2.1.1 | exact h.2.2.2.1 | exact h.2.2.2.2.2.1.1 | exact h.2.2.2.2.2.2.1 | exact Nq.go hg4 h.2.1 | exact Nq.st hg4 h.2.1 | exact h.2.2.2.2.2.2.2.1.1 | exact h.2.2.2.2.2.2.2.2.1) rfl ?_
    refine g_iload_n hF dX9_over_4 5 rfl rfl ?_
    refine g_callV hF cv_X9_96 (q_groupAtN l E (b + 1) v z (Or.inr (hG ▸ hz))) dX9_over_5 8 rfl (st := []) rfl rfl ⟨Nat.le_of_ble_eq_true rfl, Nat.le_of_ble_eq_true rfl⟩ ⟨Nat.le_of_ble_eq_true rfl, Nat.le_of_ble_eq_true rfl⟩ rfl (Nat.le_of_ble_eq_true rfl) 6 rfl (by intro H h; first | exact h.1 | exact h.2.1.nob | exact h.2.2.1.1 | exact h.2.2.2.1 | exact h.2.2.2.2.2.1.1 | exact h.2.2.2.2.2.2.1 | exact Nq.go hg4 h.2.1 | exact Nq.st hg4 h.2.1 | exact h.2.2.2.2.2.2.2.1.1 | exact h.2.2.2.2.2.2.2.2.1) (Pr' := Sx E b v rv p d iv isd ik bg bl bs nb sd wf wx wy fa fb tl tn ts tr) (fun H h => h.2.1) (fun q z => z.elim) (fun H H' h h1 h2 => by exact h.no h2 (fun q z => z.elim)) (st1 := [_]) rfl (k1 := 0) (n1 := 0) rfl rfl ?_
    refine g_astore_nN hF dX9_over_8 9 rfl (lo' := [_, _, _, _]) (Nat.le_of_ble_eq_true rfl) rfl ?_
    refine g_aload_nN hF dX9_over_9 10 rfl rfl ?_
    refine g_ifnonnullN hF dX9_over_10 13 rfl ?_
    refine g_ldc2 hF kc_X9_197 dX9_over_13 16 rfl ?_
    exact g_lret hF dX9_over_16 (Nat.le_of_ble_eq_true rfl) (Nat.le_of_ble_eq_true rfl) (fun H h => hR _ _ ⟨congrArg (fun z => some (Value.long z)) (rfl), Cs.S hr h⟩)
  · have hg4 : g < 4 := by omega
    obtain ⟨⟨N, n1, n6, n0, R, rN, r0⟩, ⟨A, a6, ha⟩, -⟩ := ho g hg4
    have eN : nN (v.2.2.2 g) = N := by unfold nN; rw [n0, nI_clamp (by omega)]
    have eA : nA (v.2.2.2 g) = A := by unfold nA; rw [ha, nI_clamp (by omega)]
    have eR : nR (v.2.2.2 g) = R := by unfold nR; rw [r0, nI_clamp (by omega)]
    have hgG : ¬ (nI g < 0 ∨ v.1 ≤ nI g) := (fun h => h.elim (nI_pos (by omega)) (fun q => absurd (i_le (hG ▸ q) (by omega) (by omega)) (by omega)))
    by_cases hq : 0 ≤ w ∧ w ≤ 3
    · obtain ⟨m, -, m5, rfl⟩ := btw (a := 0) (b := 3) (by omega) (by omega) hq
      rw [show fOver (v, hv, d, iv, isd, ik, bg, bl, bs, nb, sd) (nI g) (nI m) = prt (frO (v.2.2.2 g) m) m by unfold fOver; rw [if_neg hgG, if_neg (fun y => y hq), nI_clamp (by omega), nI_clamp (by omega)]] at hR
      have em : frM (v.2.2.2 g) = (bcm (lN (A * wt (fct N) 1 N A 0 0 N)) (lN (sW (wt (fct N) 1 N A 0 0) (N + 1)))) := by unfold frM wE; rw [eN, eA]
      have fin : ∀ (wf1 : Nat → Int64) (pf : Int64 × Int64), pf = frO (v.2.2.2 g) m → go l (rm 6) E x 0 0 (Sx E b v rv p d iv isd ik bg bl bs nb sd wf1 (nI N) (nI 0) pf.1 pf.2 tl tn ts tr) [some (.ref b), some (.int (nI g)), some (.int (nI m)), some (.ref (b + 1 + 2 + 5 * g))] 94 [] := by
        intro wf1 pf hp
        refine g_aload_n hF dX9_over_94 95 rfl rfl ?_
        refine g_get hF fl_X9_54 dX9_over_95 98 rfl (by intro H h; first | exact h.1 | exact h.2.1.nob | exact h.2.2.1.1 | exact h.2.2.2.1 | exact h.2.2.2.2.2.1.1 | exact h.2.2.2.2.2.2.1 | exact Nq.go hg4 h.2.1 | exact Nq.st hg4 h.2.1 | exact h.2.2.2.2.2.2.2.1.1 | exact h.2.2.2.2.2.2.2.2.1) rfl ?_
        refine g_iload_n hF dX9_over_98 99 rfl rfl ?_
        refine g_iconst hF (2) dX9_over_99 100 rfl rfl ?_
        refine g_irem hF dX9_over_100 101 rfl (by decide) ?_
        rw [rem2 (by omega)]
        refine g_callV hF cv_X9_222 (c_F_part l E (b + 519) pf.1 pf.2 (nI (m % 2))) dX9_over_101 104 rfl (st := []) rfl rfl ⟨Nat.le_of_ble_eq_true rfl, Nat.le_of_ble_eq_true rfl⟩ ⟨Nat.le_of_ble_eq_true rfl, Nat.le_of_ble_eq_true rfl⟩ rfl (Nat.le_of_ble_eq_true rfl) 2 rfl (by intro H h; first | exact h.1 | exact h.2.1.nob | exact h.2.2.1.1 | exact h.2.2.2.1 | exact h.2.2.2.2.2.1.1 | exact h.2.2.2.2.2.2.1 | exact Nq.go hg4 h.2.1 | exact Nq.st hg4 h.2.1 | exact h.2.2.2.2.2.2.2.1.1 | exact h.2.2.2.2.2.2.2.2.1) (Pr' := Sx E b v rv p d iv isd ik bg bl bs nb sd wf1 (nI N) (nI 0) pf.1 pf.2 tl tn ts tr) (fun H h => h.2.2.2.2.2.2.2.2.1) (fun q z => z.elim) (fun H H' h h1 h2 => by exact h.no h2 (fun q z => z.elim)) (st1 := [_]) rfl (k1 := 0) (n1 := 0) rfl rfl ?_
        exact g_lret hF dX9_over_104 (Nat.le_of_ble_eq_true rfl) (Nat.le_of_ble_eq_true rfl) (fun H h => hR _ _ ⟨congrArg (fun z => some (Value.long z)) (by rw [prt_eq, ← hp]), Cs.S hr h⟩)
      refine g_aload_n hF dX9_over_0 1 rfl rfl ?_
      refine g_get hF fl_X9_10 dX9_over_1 4 rfl (by intro H h; first | exact h.1 | exact h.2.1.nob | exact h.2.2.1.1 | exact h.2.2.2.1 | exact h.2.2.2.2.2.1.1 | exact h.2.2.2.2.2.2.1 | exact Nq.go hg4 h.2.1 | exact Nq.st hg4 h.2.1 | exact h.2.2.2.2.2.2.2.1.1 | exact h.2.2.2.2.2.2.2.2.1) rfl ?_
      refine g_iload_n hF dX9_over_4 5 rfl rfl ?_
      refine g_callV hF cv_X9_96 (q_groupAt l E (b + 1) v G g hG G4 hg) dX9_over_5 8 rfl (st := []) rfl rfl ⟨Nat.le_of_ble_eq_true rfl, Nat.le_of_ble_eq_true rfl⟩ ⟨Nat.le_of_ble_eq_true rfl, Nat.le_of_ble_eq_true rfl⟩ rfl (Nat.le_of_ble_eq_true rfl) 6 rfl (by intro H h; first | exact h.1 | exact h.2.1.nob | exact h.2.2.1.1 | exact h.2.2.2.1 | exact h.2.2.2.2.2.1.1 | exact h.2.2.2.2.2.2.1 | exact Nq.go hg4 h.2.1 | exact Nq.st hg4 h.2.1 | exact h.2.2.2.2.2.2.2.1.1 | exact h.2.2.2.2.2.2.2.2.1) (Pr' := Sx E b v rv p d iv isd ik bg bl bs nb sd wf wx wy fa fb tl tn ts tr) (fun H h => h.2.1) (fun q z => z.elim) (fun H H' h h1 h2 => by exact h.no h2 (fun q z => z.elim)) (st1 := [_]) rfl (k1 := 0) (n1 := 0) rfl rfl ?_
      refine g_astore_n hF dX9_over_8 9 rfl (lo' := [_, _, _, _]) (Nat.le_of_ble_eq_true rfl) rfl ?_
      refine g_aload_n hF dX9_over_9 10 rfl rfl ?_
      refine g_ifnonnull hF dX9_over_10 17 (by decide) ?_
      refine g_iload_n hF dX9_over_17 18 rfl rfl ?_
      refine g_iconst hF (0) dX9_over_18 19 rfl rfl ?_
      refine g_iconst hF (3) dX9_over_19 20 rfl rfl ?_
      refine g_callS hF cs_X9_157 (c_isWithin l E (nI m) (0) (3) (Sx E b v rv p d iv isd ik bg bl bs nb sd wf wx wy fa fb tl tn ts tr) 1 ((if_pos hq).symm)) dX9_over_20 23 rfl (st := []) rfl rfl ⟨Nat.le_of_ble_eq_true rfl, Nat.le_of_ble_eq_true rfl⟩ ⟨Nat.le_of_ble_eq_true rfl, Nat.le_of_ble_eq_true rfl⟩ rfl (Nat.le_of_ble_eq_true rfl) (Pr' := _) (fun _ h => h) (fun q z => z.elim) (fun _ _ _ h _ => by exact h) (st1 := [_]) rfl (k1 := 0) (n1 := 0) rfl rfl ?_
      refine g_if_ne hF dX9_over_23 26 rfl 30 (by decide) (fun _ => ?_) (fun c => absurd c ((by decide)))
      refine g_aload_n hF dX9_over_30 31 rfl rfl ?_
      refine g_get hF fl_X9_47 dX9_over_31 34 rfl (by intro H h; first | exact h.1 | exact h.2.1.nob | exact h.2.2.1.1 | exact h.2.2.2.1 | exact h.2.2.2.2.2.1.1 | exact h.2.2.2.2.2.2.1 | exact Nq.go hg4 h.2.1 | exact Nq.st hg4 h.2.1 | exact h.2.2.2.2.2.2.2.1.1 | exact h.2.2.2.2.2.2.2.2.1) rfl ?_
      refine g_aload_n hF dX9_over_34 35 rfl rfl ?_
      refine g_get hF fl_X9_101 dX9_over_35 38 rfl (by intro H h; first | exact h.1 | exact h.2.1.nob | exact h.2.2.1.1 | exact h.2.2.2.1 | exact h.2.2.2.2.2.1.1 | exact h.2.2.2.2.2.2.1 | exact Nq.go hg4 h.2.1 | exact Nq.st hg4 h.2.1 | exact h.2.2.2.2.2.2.2.1.1 | exact h.2.2.2.2.2.2.2.2.1) rfl ?_
      refine g_aload_n hF dX9_over_38 39 rfl rfl ?_
      refine g_get hF fl_X9_106 dX9_over_39 42 rfl (by intro H h; first | exact h.1 | exact h.2.1.nob | exact h.2.2.1.1 | exact h.2.2.2.1 | exact h.2.2.2.2.2.1.1 | exact h.2.2.2.2.2.2.1 | exact Nq.go hg4 h.2.1 | exact Nq.st hg4 h.2.1 | exact h.2.2.2.2.2.2.2.1.1 | exact h.2.2.2.2.2.2.2.2.1) rfl ?_
      refine g_iconst hF (0) dX9_over_42 43 rfl rfl ?_
      refine g_iconst hF (0) dX9_over_43 44 rfl rfl ?_
      rw [n0, ha]
      refine g_callV hF cv_X9_201 (c_W_weighExactly l E (b + 517) N A 0 0 wf wx wy n1 n6 a6 (by omega) (by omega)) dX9_over_44 47 rfl (st := []) rfl rfl ⟨Nat.le_of_ble_eq_true rfl, Nat.le_of_ble_eq_true rfl⟩ ⟨Nat.le_of_ble_eq_true rfl, Nat.le_of_ble_eq_true rfl⟩ rfl (Nat.le_of_ble_eq_true rfl) 8 rfl (by intro H h; first | exact h.1 | exact h.2.1.nob | exact h.2.2.1.1 | exact h.2.2.2.1 | exact h.2.2.2.2.2.1.1 | exact h.2.2.2.2.2.2.1 | exact Nq.go hg4 h.2.1 | exact Nq.st hg4 h.2.1 | exact h.2.2.2.2.2.2.2.1.1 | exact h.2.2.2.2.2.2.2.2.1) (Pr' := fun H => ∃ wf1, (∀ k, k ≤ N → wf1 k = lN (wt (fct N) 1 N A 0 0 k)) ∧ (Sx E b v rv p d iv isd ik bg bl bs nb sd wf1 (nI N) (nI 0) fa fb tl tn ts tr) H) (fun H h => h.2.2.2.2.2.2.2.1) (fun q y => hA q ⟨by have := y.1; omega, by have := y.2; omega⟩) (fun H H' h h1 h2 => by obtain ⟨wf1, q1, q2⟩ := h1; exact ⟨wf1, q1, h.w h2 (fun q y => Or.inl ⟨by have := y.1; omega, by have := y.2; omega⟩) q2⟩) (st1 := []) rfl (k1 := 0) (n1 := 0) rfl rfl ?_
      refine g_ex (fun wf1 => ?_)
      refine g_pure (fun H h => h.1) (fun hw => ?_)
      refine g_pr (fun H h => h.2) ?_
      refine g_aload_n hF dX9_over_47 48 rfl rfl ?_
      refine g_get hF fl_X9_54 dX9_over_48 51 rfl (by intro H h; first | exact h.1 | exact h.2.1.nob | exact h.2.2.1.1 | exact h.2.2.2.1 | exact h.2.2.2.2.2.1.1 | exact h.2.2.2.2.2.2.1 | exact Nq.go hg4 h.2.1 | exact Nq.st hg4 h.2.1 | exact h.2.2.2.2.2.2.2.1.1 | exact h.2.2.2.2.2.2.2.2.1) rfl ?_
      refine g_aload_n hF dX9_over_51 52 rfl rfl ?_
      refine g_get hF fl_X9_106 dX9_over_52 55 rfl (by intro H h; first | exact h.1 | exact h.2.1.nob | exact h.2.2.1.1 | exact h.2.2.2.1 | exact h.2.2.2.2.2.1.1 | exact h.2.2.2.2.2.2.1 | exact Nq.go hg4 h.2.1 | exact Nq.st hg4 h.2.1 | exact h.2.2.2.2.2.2.2.1.1 | exact h.2.2.2.2.2.2.2.2.1) rfl ?_
      rw [ha]
      refine g_i2l hF dX9_over_55 56 rfl ?_
      rw [nI_l (by omega)]
      refine g_aload_n hF dX9_over_56 57 rfl rfl ?_
      refine g_get hF fl_X9_47 dX9_over_57 60 rfl (by intro H h; first | exact h.1 | exact h.2.1.nob | exact h.2.2.1.1 | exact h.2.2.2.1 | exact h.2.2.2.2.2.1.1 | exact h.2.2.2.2.2.2.1 | exact Nq.go hg4 h.2.1 | exact Nq.st hg4 h.2.1 | exact h.2.2.2.2.2.2.2.1.1 | exact h.2.2.2.2.2.2.2.2.1) rfl ?_
      refine g_callV hF cv_X9_205 (c_W_ofAllHeld l E (b + 517) N 0 (wt (fct N) 1 N A 0 0) wf1 n6 hw) dX9_over_60 63 rfl (st := [_, _]) rfl rfl ⟨Nat.le_of_ble_eq_true rfl, Nat.le_of_ble_eq_true rfl⟩ ⟨Nat.le_of_ble_eq_true rfl, Nat.le_of_ble_eq_true rfl⟩ rfl (Nat.le_of_ble_eq_true rfl) 8 rfl (by intro H h; first | exact h.1 | exact h.2.1.nob | exact h.2.2.1.1 | exact h.2.2.2.1 | exact h.2.2.2.2.2.1.1 | exact h.2.2.2.2.2.2.1 | exact Nq.go hg4 h.2.1 | exact Nq.st hg4 h.2.1 | exact h.2.2.2.2.2.2.2.1.1 | exact h.2.2.2.2.2.2.2.2.1) (Pr' := Sx E b v rv p d iv isd ik bg bl bs nb sd wf1 (nI N) (nI 0) fa fb tl tn ts tr) (fun H h => h.2.2.2.2.2.2.2.1) (fun q z => z.elim) (fun H H' h h1 h2 => by exact h.no h2 (fun q z => z.elim)) (st1 := [_, _, _]) rfl (k1 := 0) (n1 := 0) rfl rfl ?_
      refine g_lmul hF dX9_over_63 64 rfl ?_
      rw [lN_mul]
      refine g_aload_n hF dX9_over_64 65 rfl rfl ?_
      refine g_get hF fl_X9_47 dX9_over_65 68 rfl (by intro H h; first | exact h.1 | exact h.2.1.nob | exact h.2.2.1.1 | exact h.2.2.2.1 | exact h.2.2.2.2.2.1.1 | exact h.2.2.2.2.2.2.1 | exact Nq.go hg4 h.2.1 | exact Nq.st hg4 h.2.1 | exact h.2.2.2.2.2.2.2.1.1 | exact h.2.2.2.2.2.2.2.2.1) rfl ?_
      refine g_callV hF cv_X9_209 (c_W_all l E (b + 517) N 0 (wt (fct N) 1 N A 0 0) wf1 n6 hw) dX9_over_68 71 rfl (st := [_, _]) rfl rfl ⟨Nat.le_of_ble_eq_true rfl, Nat.le_of_ble_eq_true rfl⟩ ⟨Nat.le_of_ble_eq_true rfl, Nat.le_of_ble_eq_true rfl⟩ rfl (Nat.le_of_ble_eq_true rfl) 8 rfl (by intro H h; first | exact h.1 | exact h.2.1.nob | exact h.2.2.1.1 | exact h.2.2.2.1 | exact h.2.2.2.2.2.1.1 | exact h.2.2.2.2.2.2.1 | exact Nq.go hg4 h.2.1 | exact Nq.st hg4 h.2.1 | exact h.2.2.2.2.2.2.2.1.1 | exact h.2.2.2.2.2.2.2.2.1) (Pr' := Sx E b v rv p d iv isd ik bg bl bs nb sd wf1 (nI N) (nI 0) fa fb tl tn ts tr) (fun H h => h.2.2.2.2.2.2.2.1) (fun q z => z.elim) (fun H H' h h1 h2 => by exact h.no h2 (fun q z => z.elim)) (st1 := [_, _, _]) rfl (k1 := 0) (n1 := 0) rfl rfl ?_
      refine g_callV hF cv_X9_212 (c_F_become l E (b + 519) fa fb (lN (A * wt (fct N) 1 N A 0 0 N)) (lN (sW (wt (fct N) 1 N A 0 0) (N + 1)))) dX9_over_71 74 rfl (st := []) rfl rfl ⟨Nat.le_of_ble_eq_true rfl, Nat.le_of_ble_eq_true rfl⟩ ⟨Nat.le_of_ble_eq_true rfl, Nat.le_of_ble_eq_true rfl⟩ rfl (Nat.le_of_ble_eq_true rfl) 2 rfl (by intro H h; first | exact h.1 | exact h.2.1.nob | exact h.2.2.1.1 | exact h.2.2.2.1 | exact h.2.2.2.2.2.1.1 | exact h.2.2.2.2.2.2.1 | exact Nq.go hg4 h.2.1 | exact Nq.st hg4 h.2.1 | exact h.2.2.2.2.2.2.2.1.1 | exact h.2.2.2.2.2.2.2.2.1) (Pr' := Sx E b v rv p d iv isd ik bg bl bs nb sd wf1 (nI N) (nI 0) (bcm (lN (A * wt (fct N) 1 N A 0 0 N)) (lN (sW (wt (fct N) 1 N A 0 0) (N + 1)))).1 (bcm (lN (A * wt (fct N) 1 N A 0 0 N)) (lN (sW (wt (fct N) 1 N A 0 0) (N + 1)))).2 tl tn ts tr) (fun H h => h.2.2.2.2.2.2.2.2.1) (fun q y => by subst y; exact hA _ ⟨by omega, by omega⟩) (fun H H' h h1 h2 => by exact h.f h2 (fun q y => by subst y; exact Or.inl ⟨by omega, by omega⟩) h1) (st1 := []) rfl (k1 := 0) (n1 := 0) rfl rfl ?_
      refine g_iload_n hF dX9_over_74 75 rfl rfl ?_
      refine g_iconst hF (2) dX9_over_75 76 rfl rfl ?_
      refine g_icmp_lt hF dX9_over_76 79 rfl 94 (by decide) (fun c76 => ?_) (fun c76 => ?_)
      · exact fin wf1 (bcm (lN (A * wt (fct N) 1 N A 0 0 N)) (lN (sW (wt (fct N) 1 N A 0 0) (N + 1)))) (by unfold frO; rw [if_pos (i_lt (b := 2) c76 (by omega) (by omega)), em])
      · refine g_aload_n hF dX9_over_79 80 rfl rfl ?_
        refine g_get hF fl_X9_54 dX9_over_80 83 rfl (by intro H h; first | exact h.1 | exact h.2.1.nob | exact h.2.2.1.1 | exact h.2.2.2.1 | exact h.2.2.2.2.2.1.1 | exact h.2.2.2.2.2.2.1 | exact Nq.go hg4 h.2.1 | exact Nq.st hg4 h.2.1 | exact h.2.2.2.2.2.2.2.1.1 | exact h.2.2.2.2.2.2.2.2.1) rfl ?_
        refine g_aload_n hF dX9_over_83 84 rfl rfl ?_
        refine g_get hF fl_X9_101 dX9_over_84 87 rfl (by intro H h; first | exact h.1 | exact h.2.1.nob | exact h.2.2.1.1 | exact h.2.2.2.1 | exact h.2.2.2.2.2.1.1 | exact h.2.2.2.2.2.2.1 | exact Nq.go hg4 h.2.1 | exact Nq.st hg4 h.2.1 | exact h.2.2.2.2.2.2.2.1.1 | exact h.2.2.2.2.2.2.2.2.1) rfl ?_
        refine g_aload_n hF dX9_over_87 88 rfl rfl ?_
        refine g_get hF fl_X9_106 dX9_over_88 91 rfl (by intro H h; first | exact h.1 | exact h.2.1.nob | exact h.2.2.1.1 | exact h.2.2.2.1 | exact h.2.2.2.2.2.1.1 | exact h.2.2.2.2.2.2.1 | exact Nq.go hg4 h.2.1 | exact Nq.st hg4 h.2.1 | exact h.2.2.2.2.2.2.2.1.1 | exact h.2.2.2.2.2.2.2.2.1) rfl ?_
        rw [n0, ha]
        refine g_callV hF cv_X9_226 (c_F_spreadFromMean l E (b + 519) (bcm (lN (A * wt (fct N) 1 N A 0 0 N)) (lN (sW (wt (fct N) 1 N A 0 0) (N + 1)))).1 (bcm (lN (A * wt (fct N) 1 N A 0 0 N)) (lN (sW (wt (fct N) 1 N A 0 0) (N + 1)))).2 (nI N) (nI A)) dX9_over_91 94 rfl (st := []) rfl rfl ⟨Nat.le_of_ble_eq_true rfl, Nat.le_of_ble_eq_true rfl⟩ ⟨Nat.le_of_ble_eq_true rfl, Nat.le_of_ble_eq_true rfl⟩ rfl (Nat.le_of_ble_eq_true rfl) 2 rfl (by intro H h; first | exact h.1 | exact h.2.1.nob | exact h.2.2.1.1 | exact h.2.2.2.1 | exact h.2.2.2.2.2.1.1 | exact h.2.2.2.2.2.2.1 | exact Nq.go hg4 h.2.1 | exact Nq.st hg4 h.2.1 | exact h.2.2.2.2.2.2.2.1.1 | exact h.2.2.2.2.2.2.2.2.1) (Pr' := Sx E b v rv p d iv isd ik bg bl bs nb sd wf1 (nI N) (nI 0) (spr (bcm (lN (A * wt (fct N) 1 N A 0 0 N)) (lN (sW (wt (fct N) 1 N A 0 0) (N + 1)))).1 (bcm (lN (A * wt (fct N) 1 N A 0 0 N)) (lN (sW (wt (fct N) 1 N A 0 0) (N + 1)))).2 (nI N) (nI A)).1 (spr (bcm (lN (A * wt (fct N) 1 N A 0 0 N)) (lN (sW (wt (fct N) 1 N A 0 0) (N + 1)))).1 (bcm (lN (A * wt (fct N) 1 N A 0 0 N)) (lN (sW (wt (fct N) 1 N A 0 0) (N + 1)))).2 (nI N) (nI A)).2 tl tn ts tr) (fun H h => h.2.2.2.2.2.2.2.2.1) (fun q y => by subst y; exact hA _ ⟨by omega, by omega⟩) (fun H H' h h1 h2 => by exact h.f h2 (fun q y => by subst y; exact Or.inl ⟨by omega, by omega⟩) h1) (st1 := []) rfl (k1 := 0) (n1 := 0) rfl rfl ?_
        exact fin wf1 (spr _ _ _ _) (by unfold frO; rw [if_neg (fun y => c76 (nI_lt (b := 2) y (by omega))), em, n0, ha])
    · rw [show fOver (v, hv, d, iv, isd, ik, bg, bl, bs, nb, sd) (nI g) w = -1000000002 from (if_neg hgG).trans (if_pos hq)] at hR
      refine g_aload_n hF dX9_over_0 1 rfl rfl ?_
      refine g_get hF fl_X9_10 dX9_over_1 4 rfl (by intro H h; first | exact h.1 | exact h.2.1.nob | exact h.2.2.1.1 | exact h.2.2.2.1 | exact h.2.2.2.2.2.1.1 | exact h.2.2.2.2.2.2.1 | exact Nq.go hg4 h.2.1 | exact Nq.st hg4 h.2.1 | exact h.2.2.2.2.2.2.2.1.1 | exact h.2.2.2.2.2.2.2.2.1) rfl ?_
      refine g_iload_n hF dX9_over_4 5 rfl rfl ?_
      refine g_callV hF cv_X9_96 (q_groupAt l E (b + 1) v G g hG G4 hg) dX9_over_5 8 rfl (st := []) rfl rfl ⟨Nat.le_of_ble_eq_true rfl, Nat.le_of_ble_eq_true rfl⟩ ⟨Nat.le_of_ble_eq_true rfl, Nat.le_of_ble_eq_true rfl⟩ rfl (Nat.le_of_ble_eq_true rfl) 6 rfl (by intro H h; first | exact h.1 | exact h.2.1.nob | exact h.2.2.1.1 | exact h.2.2.2.1 | exact h.2.2.2.2.2.1.1 | exact h.2.2.2.2.2.2.1 | exact Nq.go hg4 h.2.1 | exact Nq.st hg4 h.2.1 | exact h.2.2.2.2.2.2.2.1.1 | exact h.2.2.2.2.2.2.2.2.1) (Pr' := Sx E b v rv p d iv isd ik bg bl bs nb sd wf wx wy fa fb tl tn ts tr) (fun H h => h.2.1) (fun q z => z.elim) (fun H H' h h1 h2 => by exact h.no h2 (fun q z => z.elim)) (st1 := [_]) rfl (k1 := 0) (n1 := 0) rfl rfl ?_
      refine g_astore_n hF dX9_over_8 9 rfl (lo' := [_, _, _, _]) (Nat.le_of_ble_eq_true rfl) rfl ?_
      refine g_aload_n hF dX9_over_9 10 rfl rfl ?_
      refine g_ifnonnull hF dX9_over_10 17 (by decide) ?_
      refine g_iload_n hF dX9_over_17 18 rfl rfl ?_
      refine g_iconst hF (0) dX9_over_18 19 rfl rfl ?_
      refine g_iconst hF (3) dX9_over_19 20 rfl rfl ?_
      refine g_callS hF cs_X9_157 (c_isWithin l E (w) (0) (3) (Sx E b v rv p d iv isd ik bg bl bs nb sd wf wx wy fa fb tl tn ts tr) 0 ((if_neg hq).symm)) dX9_over_20 23 rfl (st := []) rfl rfl ⟨Nat.le_of_ble_eq_true rfl, Nat.le_of_ble_eq_true rfl⟩ ⟨Nat.le_of_ble_eq_true rfl, Nat.le_of_ble_eq_true rfl⟩ rfl (Nat.le_of_ble_eq_true rfl) (Pr' := _) (fun _ h => h) (fun q z => z.elim) (fun _ _ _ h _ => by exact h) (st1 := [_]) rfl (k1 := 0) (n1 := 0) rfl rfl ?_
      refine g_if_ne hF dX9_over_23 26 rfl 30 (by decide) (fun c => absurd (rfl) c) (fun _ => ?_)
      refine g_ldc2 hF kc_X9_199 dX9_over_26 29 rfl ?_
      exact g_lret hF dX9_over_29 (Nat.le_of_ble_eq_true rfl) (Nat.le_of_ble_eq_true rfl) (fun H h => hR _ _ ⟨congrArg (fun z => some (Value.long z)) (rfl), Cs.S hr h⟩)
set_option maxRecDepth 100000 in
set_option maxHeartbeats 16000000 in
theorem c_C_linesFor (l : Launch) (E : Ev) (b T : Nat) (σ : AS) (hv0 : okV T σ.1) (z q w : Int32) : Ct l E yX9_linesFor cX9_linesFor 6 (some .int) (rm 6) [.ref b, .int z, .int q, .int w] (CS E b σ) (rV (some (.int (fLf σ z q w))) (CS E b σ)) (rg b 524) := by
  refine ct_start (by decide) [some (.ref b), some (.int z), some (.int q), some (.int w), none, none] rfl (Nat.le_of_ble_eq_true rfl) ?_
  intro x hF hN hA hR
  obtain ⟨v, hv, d, iv, isd, ik, bg, bl, bs, nb, sd⟩ := σ
  refine g_open (fun rv p wf wx wy fa fb tl tn ts tr hr => ?_)
  dsimp only at hv0
  obtain ⟨G, hG, G1, G4, hGc, ho, hn⟩ := okN hv0
  rcases pk_ix z (n := G) (by omega) with hz | hz | ⟨g, hg, rfl⟩
  · rw [show fLf (v, hv, d, iv, isd, ik, bg, bl, bs, nb, sd) z q w = -1000000001 from if_pos (Or.inl hz)] at hR
    refine g_aload_n hF dX9_linesFor_0 1 rfl rfl ?_
    refine g_get hF fl_X9_10 dX9_linesFor_1 4 rfl (by intro H h; first | exact h.1 | exact h.2.1.nob | exact h.2.2.1.1 | exact h.2.2.2.1 | exact h.2.2.2.2.2.1.1 | exact h.2.2.2.2.2.2.1 | exact Nq.go hg4 h.2.1 | exact Nq.st hg4 h.2.1 | exact h.2.2.2.2.2.2.2.1.1 | exact h.2.2.2.2.2.2.2.2.1) rfl ?_
    refine g_iload_n hF dX9_linesFor_4 5 rfl rfl ?_
    refine g_callV hF cv_X9_96 (q_groupAtN l E (b + 1) v z (Or.inl hz)) dX9_linesFor_5 8 rfl (st := []) rfl rfl ⟨Nat.le_of_ble_eq_true rfl, Nat.le_of_ble_eq_true rfl⟩ ⟨Nat.le_of_ble_eq_true rfl, Nat.le_of_ble_eq_true rfl⟩ rfl (Nat.le_of_ble_eq_true rfl) 6 rfl (by intro H h; first | exact h.1 | exact h.2.1.nob | exact h.2.2.1.1 | exact h.2.2.2.1 | exact h.2.2.2.2.2.1.1 | exact h.2.2.2.2.2.2.1 | exact Nq.go hg4 h.2.1 | exact Nq.st hg4 h.2.1 | exact h.2.2.2.2.2.2.2.1.1 | exact h.2.2.2.2.2.2.2.2.1) (Pr' := Sx E b v rv p d iv isd ik bg bl bs nb sd wf wx wy fa fb tl tn ts tr) (fun H h => h.2.1) (fun q z => z.elim) (fun H H' h h1 h2 => by exact h.no h2 (fun q z => z.elim)) (st1 := [_]) rfl (k1 := 0) (n1 := 0) rfl rfl ?_
    refine g_astoreN hF dX9_linesFor_8 10 rfl (lo' := [_, _, _, _, _, _]) (Nat.le_of_ble_eq_true rfl) rfl ?_
    refine g_aloadN hF dX9_linesFor_10 12 rfl rfl ?_
    refine g_ifnonnullN hF dX9_linesFor_12 15 rfl ?_
    refine g_ldc hF kc_X9_100 dX9_linesFor_15 17 rfl ?_
    exact g_iret hF dX9_linesFor_17 (Nat.le_of_ble_eq_true rfl) (Nat.le_of_ble_eq_true rfl) (fun H h => hR _ _ ⟨congrArg (fun z => some (Value.int z)) (rfl), Cs.S hr h⟩)
  · rw [show fLf (v, hv, d, iv, isd, ik, bg, bl, bs, nb, sd) z q w = -1000000001 from if_pos (Or.inr (hG ▸ hz))] at hR
    refine g_aload_n hF dX9_linesFor_0 1 rfl rfl ?_
    refine g_get hF fl_X9_10 dX9_linesFor_1 4 rfl (by intro H h; first | exact h.1 | exact h.2.1.nob | exact h.2.2.1.1 | exact h.2.2.2.1 | exact h.2.2.2.2.2.1.1 | exact h.2.2.2.2.2.2.1 | exact Nq.go hg4 h.2.1 | exact Nq.st hg4 h.2.1 | exact h.2.2.2.2.2.2.2.1.1 | exact h.2.2.2.2.2.2.2.2.1) rfl ?_
    refine g_iload_n hF dX9_linesFor_4 5 rfl rfl ?_
    refine g_callV hF cv_X9_96 (q_groupAtN l E (b + 1) v z (Or.inr (hG ▸ hz))) dX9_linesFor_5 8 rfl (st := []) rfl rfl ⟨Nat.le_of_ble_eq_true rfl, Nat.le_of_ble_eq_true rfl⟩ ⟨Nat.le_of_ble_eq_true rfl, Nat.le_of_ble_eq_true rfl⟩ rfl (Nat.le_of_ble_eq_true rfl) 6 rfl (by intro H h; first | exact h.1 | exact h.2.1.nob | exact h.2.2.1.1 | exact h.2.2.2.1 | exact h.2.2.2.2.2.1.1 | exact h.2.2.2.2.2.2.1 | exact Nq.go hg4 h.2.1 | exact Nq.st hg4 h.2.1 | exact h.2.2.2.2.2.2.2.1.1 | exact h.2.2.2.2.2.2.2.2.1) (Pr' := Sx E b v rv p d iv isd ik bg bl bs nb sd wf wx wy fa fb tl tn ts tr) (fun H h => h.2.1) (fun q z => z.elim) (fun H H' h h1 h2 => by exact h.no h2 (fun q z => z.elim)) (st1 := [_]) rfl (k1 := 0) (n1 := 0) rfl rfl ?_
    refine g_astoreN hF dX9_linesFor_8 10 rfl (lo' := [_, _, _, _, _, _]) (Nat.le_of_ble_eq_true rfl) rfl ?_
    refine g_aloadN hF dX9_linesFor_10 12 rfl rfl ?_
    refine g_ifnonnullN hF dX9_linesFor_12 15 rfl ?_
    refine g_ldc hF kc_X9_100 dX9_linesFor_15 17 rfl ?_
    exact g_iret hF dX9_linesFor_17 (Nat.le_of_ble_eq_true rfl) (Nat.le_of_ble_eq_true rfl) (fun H h => hR _ _ ⟨congrArg (fun z => some (Value.int z)) (rfl), Cs.S hr h⟩)
  · have hg4 : g < 4 := by omega
    obtain ⟨⟨N, n1, n6, n0, R, rN, r0⟩, ⟨A, a6, ha⟩, -⟩ := ho g hg4
    have eN : nN (v.2.2.2 g) = N := by unfold nN; rw [n0, nI_clamp (by omega)]
    have eA : nA (v.2.2.2 g) = A := by unfold nA; rw [ha, nI_clamp (by omega)]
    have eR : nR (v.2.2.2 g) = R := by unfold nR; rw [r0, nI_clamp (by omega)]
    have hgG : ¬ (nI g < 0 ∨ v.1 ≤ nI g) := (fun h => h.elim (nI_pos (by omega)) (fun q => absurd (i_le (hG ▸ q) (by omega) (by omega)) (by omega)))
    by_cases hq : (0 ≤ q ∧ q ≤ 6) ∧ (1 ≤ w ∧ w ≤ 999)
    · obtain ⟨B, -, B6, rfl⟩ := btw (a := 0) (b := 6) (by omega) (by omega) hq.1
      obtain ⟨p6, p1, p9, rfl⟩ := btw (a := 1) (b := 999) (by omega) (by omega) hq.2
      rw [show fLf (v, hv, d, iv, isd, ik, bg, bl, bs, nb, sd) (nI g) (nI B) (nI p6) = lfS A B p6 6 1 by unfold fLf; rw [if_neg hgG, if_neg (fun y => y.elim (fun y => y hq.1) (fun y => y hq.2)), nI_clamp (by omega), nI_clamp (by omega), nI_clamp (by omega), eA]] at hR
      have loop : ∀ (n j : Nat) (i : Int32) (wf : Nat → Int64) (wx wy : Int32), 6 + 1 - j < n → 1 ≤ j → j ≤ 6 + 1 → i = nI j → lfS A B p6 6 1 = lfS A B p6 (6 + 1 - j) j → go l (rm 6) E x 0 0 (Sx E b v rv p d iv isd ik bg bl bs nb sd wf wx wy fa fb tl tn ts tr) [some (.ref b), some (.int (nI g)), some (.int (nI B)), some (.int (nI p6)), some (.ref (b + 1 + 2 + 5 * g)), some (.int i)] 45 [] := by
        intro n
        induction n with
        | zero => intro j i wf wx wy h; omega
        | succ n ih =>
          intro j i wf wx wy hn0 j1 hj hi hf
          subst hi
          by_cases hlt : j ≤ 6
          · rw [show 6 + 1 - j = (6 - j) + 1 by omega] at hf
            have hl1 := los_b (N := j) (A := A) (R := 0) (B := B) (p := p6) (by omega) a6 B6 p9
            refine g_iload hF dX9_linesFor_45 47 rfl rfl ?_
            refine g_bipush hF (6) dX9_linesFor_47 49 rfl rfl ?_
            refine g_icmp_gt hF dX9_linesFor_49 52 rfl 88 (by decide) (fun c => absurd c (fun y => absurd (i_lt (a := 6) (y) (by omega) (by omega)) (by omega))) (fun _ => ?_)
            refine g_aload_n hF dX9_linesFor_52 53 rfl rfl ?_
            refine g_get hF fl_X9_47 dX9_linesFor_53 56 rfl (by intro H h; first | exact h.1 | exact h.2.1.nob | exact h.2.2.1.1 | exact h.2.2.2.1 | exact h.2.2.2.2.2.1.1 | exact h.2.2.2.2.2.2.1 | exact Nq.go hg4 h.2.1 | exact Nq.st hg4 h.2.1 | exact h.2.2.2.2.2.2.2.1.1 | exact h.2.2.2.2.2.2.2.2.1) rfl ?_
            refine g_iload hF dX9_linesFor_56 58 rfl rfl ?_
            refine g_aload hF dX9_linesFor_58 60 rfl rfl ?_
            refine g_get hF fl_X9_106 dX9_linesFor_60 63 rfl (by intro H h; first | exact h.1 | exact h.2.1.nob | exact h.2.2.1.1 | exact h.2.2.2.1 | exact h.2.2.2.2.2.1.1 | exact h.2.2.2.2.2.2.1 | exact Nq.go hg4 h.2.1 | exact Nq.st hg4 h.2.1 | exact h.2.2.2.2.2.2.2.1.1 | exact h.2.2.2.2.2.2.2.2.1) rfl ?_
            refine g_iconst hF (0) dX9_linesFor_63 64 rfl rfl ?_
            refine g_iload_n hF dX9_linesFor_64 65 rfl rfl ?_
            rw [ha]
            refine g_callV hF cv_X9_201 (c_W_weighExactly l E (b + 517) j A 0 B wf wx wy (by omega) (by omega) a6 (by omega) (by omega)) dX9_linesFor_65 68 rfl (st := []) rfl rfl ⟨Nat.le_of_ble_eq_true rfl, Nat.le_of_ble_eq_true rfl⟩ ⟨Nat.le_of_ble_eq_true rfl, Nat.le_of_ble_eq_true rfl⟩ rfl (Nat.le_of_ble_eq_true rfl) 8 rfl (by intro H h; first | exact h.1 | exact h.2.1.nob | exact h.2.2.1.1 | exact h.2.2.2.1 | exact h.2.2.2.2.2.1.1 | exact h.2.2.2.2.2.2.1 | exact Nq.go hg4 h.2.1 | exact Nq.st hg4 h.2.1 | exact h.2.2.2.2.2.2.2.1.1 | exact h.2.2.2.2.2.2.2.2.1) (Pr' := fun H => ∃ wf1, (∀ k, k ≤ j → wf1 k = lN (wt (fct j) 1 j A 0 B k)) ∧ (Sx E b v rv p d iv isd ik bg bl bs nb sd wf1 (nI j) (nI 0) fa fb tl tn ts tr) H) (fun H h => h.2.2.2.2.2.2.2.1) (fun q y => hA q ⟨by have := y.1; omega, by have := y.2; omega⟩) (fun H H' h h1 h2 => by obtain ⟨wf1, q1, q2⟩ := h1; exact ⟨wf1, q1, h.w h2 (fun q y => Or.inl ⟨by have := y.1; omega, by have := y.2; omega⟩) q2⟩) (st1 := []) rfl (k1 := 0) (n1 := 0) rfl rfl ?_
            refine g_ex (fun wf1 => ?_)
            refine g_pure (fun H h => h.1) (fun hw => ?_)
            refine g_pr (fun H h => h.2) ?_
            refine g_aload_n hF dX9_linesFor_68 69 rfl rfl ?_
            refine g_get hF fl_X9_47 dX9_linesFor_69 72 rfl (by intro H h; first | exact h.1 | exact h.2.1.nob | exact h.2.2.1.1 | exact h.2.2.2.1 | exact h.2.2.2.2.2.1.1 | exact h.2.2.2.2.2.2.1 | exact Nq.go hg4 h.2.1 | exact Nq.st hg4 h.2.1 | exact h.2.2.2.2.2.2.2.1.1 | exact h.2.2.2.2.2.2.2.2.1) rfl ?_
            refine g_iload_n hF dX9_linesFor_72 73 rfl rfl ?_
            refine g_callV hF cv_X9_230 (c_W_losesAtMost l E (b + 517) j 0 p6 (wt (fct j) 1 j A 0 B) wf1 (by omega) hw (by omega) hl1.1 hl1.2 _ rfl) dX9_linesFor_73 76 rfl (st := []) rfl rfl ⟨Nat.le_of_ble_eq_true rfl, Nat.le_of_ble_eq_true rfl⟩ ⟨Nat.le_of_ble_eq_true rfl, Nat.le_of_ble_eq_true rfl⟩ rfl (Nat.le_of_ble_eq_true rfl) 8 rfl (by intro H h; first | exact h.1 | exact h.2.1.nob | exact h.2.2.1.1 | exact h.2.2.2.1 | exact h.2.2.2.2.2.1.1 | exact h.2.2.2.2.2.2.1 | exact Nq.go hg4 h.2.1 | exact Nq.st hg4 h.2.1 | exact h.2.2.2.2.2.2.2.1.1 | exact h.2.2.2.2.2.2.2.2.1) (Pr' := Sx E b v rv p d iv isd ik bg bl bs nb sd wf1 (nI j) (nI 0) fa fb tl tn ts tr) (fun H h => h.2.2.2.2.2.2.2.1) (fun q z => z.elim) (fun H H' h h1 h2 => by exact h.no h2 (fun q z => z.elim)) (st1 := [_]) rfl (k1 := 0) (n1 := 0) rfl rfl ?_
            refine g_if_eq hF dX9_linesFor_76 79 rfl 82 (by decide) (fun c76 => ?_) (fun c76 => ?_)
            · refine g_iinc hF dX9_linesFor_82 85 rfl (1) rfl (lo' := [_, _, _, _, _, _]) rfl rfl ?_
              refine g_goto hF dX9_linesFor_85 45 (by decide) ?_
              exact ih (j + 1) _ _ _ _ (by omega) (by omega) (by omega) (nI_succ j).symm (by rw [hf, show 6 + 1 - (j + 1) = 6 - j by omega]; exact if_neg (iz0.mp c76))
            · refine g_iload hF dX9_linesFor_79 81 rfl rfl ?_
              exact g_iret hF dX9_linesFor_81 (Nat.le_of_ble_eq_true rfl) (Nat.le_of_ble_eq_true rfl) (fun H h => hR _ _ ⟨congrArg (fun z => some (Value.int z)) (by rw [hf]; exact (if_pos (iz1 c76)).symm), Cs.S hr h⟩)
          · have hj7 : j = 6 + 1 := by omega
            subst hj7
            rw [Nat.sub_self] at hf
            refine g_iload hF dX9_linesFor_45 47 rfl rfl ?_
            refine g_bipush hF (6) dX9_linesFor_47 49 rfl rfl ?_
            refine g_icmp_gt hF dX9_linesFor_49 52 rfl 88 (by decide) (fun _ => ?_) (fun c => absurd (nI_lt (a := 6) (by omega) (by omega)) c)
            refine g_iconst hF (-1) dX9_linesFor_88 89 rfl rfl ?_
            exact g_iret hF dX9_linesFor_89 (Nat.le_of_ble_eq_true rfl) (Nat.le_of_ble_eq_true rfl) (fun H h => hR _ _ ⟨congrArg (fun z => some (Value.int z)) (hf.symm), Cs.S hr h⟩)
      refine g_aload_n hF dX9_linesFor_0 1 rfl rfl ?_
      refine g_get hF fl_X9_10 dX9_linesFor_1 4 rfl (by intro H h; first | exact h.1 | exact h.2.1.nob | exact h.2.2.1.1 | exact h.2.2.2.1 | exact h.2.2.2.2.2.1.1 | exact h.2.2.2.2.2.2.1 | exact Nq.go hg4 h.2.1 | exact Nq.st hg4 h.2.1 | exact h.2.2.2.2.2.2.2.1.1 | exact h.2.2.2.2.2.2.2.2.1) rfl ?_
      refine g_iload_n hF dX9_linesFor_4 5 rfl rfl ?_
      refine g_callV hF cv_X9_96 (q_groupAt l E (b + 1) v G g hG G4 hg) dX9_linesFor_5 8 rfl (st := []) rfl rfl ⟨Nat.le_of_ble_eq_true rfl, Nat.le_of_ble_eq_true rfl⟩ ⟨Nat.le_of_ble_eq_true rfl, Nat.le_of_ble_eq_true rfl⟩ rfl (Nat.le_of_ble_eq_true rfl) 6 rfl (by intro H h; first | exact h.1 | exact h.2.1.nob | exact h.2.2.1.1 | exact h.2.2.2.1 | exact h.2.2.2.2.2.1.1 | exact h.2.2.2.2.2.2.1 | exact Nq.go hg4 h.2.1 | exact Nq.st hg4 h.2.1 | exact h.2.2.2.2.2.2.2.1.1 | exact h.2.2.2.2.2.2.2.2.1) (Pr' := Sx E b v rv p d iv isd ik bg bl bs nb sd wf wx wy fa fb tl tn ts tr) (fun H h => h.2.1) (fun q z => z.elim) (fun H H' h h1 h2 => by exact h.no h2 (fun q z => z.elim)) (st1 := [_]) rfl (k1 := 0) (n1 := 0) rfl rfl ?_
      refine g_astore hF dX9_linesFor_8 10 rfl (lo' := [_, _, _, _, _, _]) (Nat.le_of_ble_eq_true rfl) rfl ?_
      refine g_aload hF dX9_linesFor_10 12 rfl rfl ?_
      refine g_ifnonnull hF dX9_linesFor_12 18 (by decide) ?_
      refine g_iload_n hF dX9_linesFor_18 19 rfl rfl ?_
      refine g_iconst hF (0) dX9_linesFor_19 20 rfl rfl ?_
      refine g_bipush hF (6) dX9_linesFor_20 22 rfl rfl ?_
      refine g_callS hF cs_X9_157 (c_isWithin l E (nI B) (0) (6) (Sx E b v rv p d iv isd ik bg bl bs nb sd wf wx wy fa fb tl tn ts tr) 1 ((if_pos hq.1).symm)) dX9_linesFor_22 25 rfl (st := []) rfl rfl ⟨Nat.le_of_ble_eq_true rfl, Nat.le_of_ble_eq_true rfl⟩ ⟨Nat.le_of_ble_eq_true rfl, Nat.le_of_ble_eq_true rfl⟩ rfl (Nat.le_of_ble_eq_true rfl) (Pr' := _) (fun _ h => h) (fun q z => z.elim) (fun _ _ _ h _ => by exact h) (st1 := [_]) rfl (k1 := 0) (n1 := 0) rfl rfl ?_
      refine g_if_eq hF dX9_linesFor_25 28 rfl 39 (by decide) (fun c => absurd c ((by decide))) (fun _ => ?_)
      refine g_iload_n hF dX9_linesFor_28 29 rfl rfl ?_
      refine g_iconst hF (1) dX9_linesFor_29 30 rfl rfl ?_
      refine g_sipush hF (999) dX9_linesFor_30 33 rfl rfl ?_
      refine g_callS hF cs_X9_157 (c_isWithin l E (nI p6) (1) (999) (Sx E b v rv p d iv isd ik bg bl bs nb sd wf wx wy fa fb tl tn ts tr) 1 ((if_pos hq.2).symm)) dX9_linesFor_33 36 rfl (st := []) rfl rfl ⟨Nat.le_of_ble_eq_true rfl, Nat.le_of_ble_eq_true rfl⟩ ⟨Nat.le_of_ble_eq_true rfl, Nat.le_of_ble_eq_true rfl⟩ rfl (Nat.le_of_ble_eq_true rfl) (Pr' := _) (fun _ h => h) (fun q z => z.elim) (fun _ _ _ h _ => by exact h) (st1 := [_]) rfl (k1 := 0) (n1 := 0) rfl rfl ?_
      refine g_if_ne hF dX9_linesFor_36 39 rfl 42 (by decide) (fun _ => ?_) (fun c => absurd c ((by decide)))
      refine g_iconst hF (1) dX9_linesFor_42 43 rfl rfl ?_
      refine g_istore hF dX9_linesFor_43 45 rfl (lo' := [_, _, _, _, _, _]) (Nat.le_of_ble_eq_true rfl) rfl ?_
      exact loop (6 + 2) 1 _ _ _ _ (by omega) (by omega) (by omega) rfl rfl
    · rw [show fLf (v, hv, d, iv, isd, ik, bg, bl, bs, nb, sd) (nI g) q w = -1000000002 from (if_neg hgG).trans (if_pos (Classical.byContradiction fun y => hq ⟨Classical.byContradiction fun y1 => y (Or.inl y1), Classical.byContradiction fun y1 => y (Or.inr y1)⟩))] at hR
      refine g_aload_n hF dX9_linesFor_0 1 rfl rfl ?_
      refine g_get hF fl_X9_10 dX9_linesFor_1 4 rfl (by intro H h; first | exact h.1 | exact h.2.1.nob | exact h.2.2.1.1 | exact h.2.2.2.1 | exact h.2.2.2.2.2.1.1 | exact h.2.2.2.2.2.2.1 | exact Nq.go hg4 h.2.1 | exact Nq.st hg4 h.2.1 | exact h.2.2.2.2.2.2.2.1.1 | exact h.2.2.2.2.2.2.2.2.1) rfl ?_
      refine g_iload_n hF dX9_linesFor_4 5 rfl rfl ?_
      refine g_callV hF cv_X9_96 (q_groupAt l E (b + 1) v G g hG G4 hg) dX9_linesFor_5 8 rfl (st := []) rfl rfl ⟨Nat.le_of_ble_eq_true rfl, Nat.le_of_ble_eq_true rfl⟩ ⟨Nat.le_of_ble_eq_true rfl, Nat.le_of_ble_eq_true rfl⟩ rfl (Nat.le_of_ble_eq_true rfl) 6 rfl (by intro H h; first | exact h.1 | exact h.2.1.nob | exact h.2.2.1.1 | exact h.2.2.2.1 | exact h.2.2.2.2.2.1.1 | exact h.2.2.2.2.2.2.1 | exact Nq.go hg4 h.2.1 | exact Nq.st hg4 h.2.1 | exact h.2.2.2.2.2.2.2.1.1 | exact h.2.2.2.2.2.2.2.2.1) (Pr' := Sx E b v rv p d iv isd ik bg bl bs nb sd wf wx wy fa fb tl tn ts tr) (fun H h => h.2.1) (fun q z => z.elim) (fun H H' h h1 h2 => by exact h.no h2 (fun q z => z.elim)) (st1 := [_]) rfl (k1 := 0) (n1 := 0) rfl rfl ?_
      refine g_astore hF dX9_linesFor_8 10 rfl (lo' := [_, _, _, _, _, _]) (Nat.le_of_ble_eq_true rfl) rfl ?_
      refine g_aload hF dX9_linesFor_10 12 rfl rfl ?_
      refine g_ifnonnull hF dX9_linesFor_12 18 (by decide) ?_
      refine g_iload_n hF dX9_linesFor_18 19 rfl rfl ?_
      refine g_iconst hF (0) dX9_linesFor_19 20 rfl rfl ?_
      refine g_bipush hF (6) dX9_linesFor_20 22 rfl rfl ?_
      refine g_callS hF cs_X9_157 (c_isWithin l E q 0 6 (Sx E b v rv p d iv isd ik bg bl bs nb sd wf wx wy fa fb tl tn ts tr) _ rfl) dX9_linesFor_22 25 rfl (st := []) rfl rfl ⟨Nat.le_of_ble_eq_true rfl, Nat.le_of_ble_eq_true rfl⟩ ⟨Nat.le_of_ble_eq_true rfl, Nat.le_of_ble_eq_true rfl⟩ rfl (Nat.le_of_ble_eq_true rfl) (Pr' := _) (fun _ h => h) (fun q z => z.elim) (fun _ _ _ h _ => by exact h) (st1 := [_]) rfl (k1 := 0) (n1 := 0) rfl rfl ?_
      refine g_if_eq hF dX9_linesFor_25 28 rfl 39 (by decide) (fun c25 => ?_) (fun c25 => ?_)
      · refine g_ldc hF kc_X9_95 dX9_linesFor_39 41 rfl ?_
        exact g_iret hF dX9_linesFor_41 (Nat.le_of_ble_eq_true rfl) (Nat.le_of_ble_eq_true rfl) (fun H h => hR _ _ ⟨congrArg (fun z => some (Value.int z)) (rfl), Cs.S hr h⟩)
      · refine g_iload_n hF dX9_linesFor_28 29 rfl rfl ?_
        refine g_iconst hF (1) dX9_linesFor_29 30 rfl rfl ?_
        refine g_sipush hF (999) dX9_linesFor_30 33 rfl rfl ?_
        refine g_callS hF cs_X9_157 (c_isWithin l E w 1 999 (Sx E b v rv p d iv isd ik bg bl bs nb sd wf wx wy fa fb tl tn ts tr) _ rfl) dX9_linesFor_33 36 rfl (st := []) rfl rfl ⟨Nat.le_of_ble_eq_true rfl, Nat.le_of_ble_eq_true rfl⟩ ⟨Nat.le_of_ble_eq_true rfl, Nat.le_of_ble_eq_true rfl⟩ rfl (Nat.le_of_ble_eq_true rfl) (Pr' := _) (fun _ h => h) (fun q z => z.elim) (fun _ _ _ h _ => by exact h) (st1 := [_]) rfl (k1 := 0) (n1 := 0) rfl rfl ?_
        refine g_if_ne hF dX9_linesFor_36 39 rfl 42 (by decide) (fun c => absurd (iz0.mpr (fun y => hq ⟨iz1 c25, y⟩)) c) (fun _ => ?_)
        refine g_ldc hF kc_X9_95 dX9_linesFor_39 41 rfl ?_
        exact g_iret hF dX9_linesFor_41 (Nat.le_of_ble_eq_true rfl) (Nat.le_of_ble_eq_true rfl) (fun H h => hR _ _ ⟨congrArg (fun z => some (Value.int z)) (rfl), Cs.S hr h⟩)
set_option maxRecDepth 100000 in
set_option maxHeartbeats 16000000 in
theorem c_C_bestReserve (l : Launch) (E : Ev) (b T : Nat) (σ : AS) (hv0 : okV T σ.1) (z q w : Int32) : Ct l E yX9_bestReserve cX9_bestReserve 6 (some .int) (rm 6) [.ref b, .int z, .int q, .int w] (CS E b σ) (rV (some (.int (fBr σ z q w))) (CS E b σ)) (rg b 524) := by
  refine ct_start (by decide) [some (.ref b), some (.int z), some (.int q), some (.int w), none, none] rfl (Nat.le_of_ble_eq_true rfl) ?_
  intro x hF hN hA hR
  obtain ⟨v, hv, d, iv, isd, ik, bg, bl, bs, nb, sd⟩ := σ
  refine g_open (fun rv p wf wx wy fa fb tl tn ts tr hr => ?_)
  dsimp only at hv0
  obtain ⟨G, hG, G1, G4, hGc, ho, hn⟩ := okN hv0
  rcases pk_ix z (n := G) (by omega) with hz | hz | ⟨g, hg, rfl⟩
  · rw [show fBr (v, hv, d, iv, isd, ik, bg, bl, bs, nb, sd) z q w = -1000000001 from if_pos (Or.inl hz)] at hR
    refine g_aload_n hF dX9_bestReserve_0 1 rfl rfl ?_
    refine g_get hF fl_X9_10 dX9_bestReserve_1 4 rfl (by intro H h; first | exact h.1 | exact h.2.1.nob | exact h.2.2.1.1 | exact h.2.2.2.1 | exact h.2.2.2.2.2.1.1 | exact h.2.2.2.2.2.2.1 | exact Nq.go hg4 h.2.1 | exact Nq.st hg4 h.2.1 | exact h.2.2.2.2.2.2.2.1.1 | exact h.2.2.2.2.2.2.2.2.1) rfl ?_
    refine g_iload_n hF dX9_bestReserve_4 5 rfl rfl ?_
    refine g_callV hF cv_X9_96 (q_groupAtN l E (b + 1) v z (Or.inl hz)) dX9_bestReserve_5 8 rfl (st := []) rfl rfl ⟨Nat.le_of_ble_eq_true rfl, Nat.le_of_ble_eq_true rfl⟩ ⟨Nat.le_of_ble_eq_true rfl, Nat.le_of_ble_eq_true rfl⟩ rfl (Nat.le_of_ble_eq_true rfl) 6 rfl (by intro H h; first | exact h.1 | exact h.2.1.nob | exact h.2.2.1.1 | exact h.2.2.2.1 | exact h.2.2.2.2.2.1.1 | exact h.2.2.2.2.2.2.1 | exact Nq.go hg4 h.2.1 | exact Nq.st hg4 h.2.1 | exact h.2.2.2.2.2.2.2.1.1 | exact h.2.2.2.2.2.2.2.2.1) (Pr' := Sx E b v rv p d iv isd ik bg bl bs nb sd wf wx wy fa fb tl tn ts tr) (fun H h => h.2.1) (fun q z => z.elim) (fun H H' h h1 h2 => by exact h.no h2 (fun q z => z.elim)) (st1 := [_]) rfl (k1 := 0) (n1 := 0) rfl rfl ?_
    refine g_astoreN hF dX9_bestReserve_8 10 rfl (lo' := [_, _, _, _, _, _]) (Nat.le_of_ble_eq_true rfl) rfl ?_
    refine g_aloadN hF dX9_bestReserve_10 12 rfl rfl ?_
    refine g_ifnonnullN hF dX9_bestReserve_12 15 rfl ?_
    refine g_ldc hF kc_X9_100 dX9_bestReserve_15 17 rfl ?_
    exact g_iret hF dX9_bestReserve_17 (Nat.le_of_ble_eq_true rfl) (Nat.le_of_ble_eq_true rfl) (fun H h => hR _ _ ⟨congrArg (fun z => some (Value.int z)) (rfl), Cs.S hr h⟩)
  · rw [show fBr (v, hv, d, iv, isd, ik, bg, bl, bs, nb, sd) z q w = -1000000001 from if_pos (Or.inr (hG ▸ hz))] at hR
    refine g_aload_n hF dX9_bestReserve_0 1 rfl rfl ?_
    refine g_get hF fl_X9_10 dX9_bestReserve_1 4 rfl (by intro H h; first | exact h.1 | exact h.2.1.nob | exact h.2.2.1.1 | exact h.2.2.2.1 | exact h.2.2.2.2.2.1.1 | exact h.2.2.2.2.2.2.1 | exact Nq.go hg4 h.2.1 | exact Nq.st hg4 h.2.1 | exact h.2.2.2.2.2.2.2.1.1 | exact h.2.2.2.2.2.2.2.2.1) rfl ?_
    refine g_iload_n hF dX9_bestReserve_4 5 rfl rfl ?_
    refine g_callV hF cv_X9_96 (q_groupAtN l E (b + 1) v z (Or.inr (hG ▸ hz))) dX9_bestReserve_5 8 rfl (st := []) rfl rfl ⟨Nat.le_of_ble_eq_true rfl, Nat.le_of_ble_eq_true rfl⟩ ⟨Nat.le_of_ble_eq_true rfl, Nat.le_of_ble_eq_true rfl⟩ rfl (Nat.le_of_ble_eq_true rfl) 6 rfl (by intro H h; first | exact h.1 | exact h.2.1.nob | exact h.2.2.1.1 | exact h.2.2.2.1 | exact h.2.2.2.2.2.1.1 | exact h.2.2.2.2.2.2.1 | exact Nq.go hg4 h.2.1 | exact Nq.st hg4 h.2.1 | exact h.2.2.2.2.2.2.2.1.1 | exact h.2.2.2.2.2.2.2.2.1) (Pr' := Sx E b v rv p d iv isd ik bg bl bs nb sd wf wx wy fa fb tl tn ts tr) (fun H h => h.2.1) (fun q z => z.elim) (fun H H' h h1 h2 => by exact h.no h2 (fun q z => z.elim)) (st1 := [_]) rfl (k1 := 0) (n1 := 0) rfl rfl ?_
    refine g_astoreN hF dX9_bestReserve_8 10 rfl (lo' := [_, _, _, _, _, _]) (Nat.le_of_ble_eq_true rfl) rfl ?_
    refine g_aloadN hF dX9_bestReserve_10 12 rfl rfl ?_
    refine g_ifnonnullN hF dX9_bestReserve_12 15 rfl ?_
    refine g_ldc hF kc_X9_100 dX9_bestReserve_15 17 rfl ?_
    exact g_iret hF dX9_bestReserve_17 (Nat.le_of_ble_eq_true rfl) (Nat.le_of_ble_eq_true rfl) (fun H h => hR _ _ ⟨congrArg (fun z => some (Value.int z)) (rfl), Cs.S hr h⟩)
  · have hg4 : g < 4 := by omega
    obtain ⟨⟨N, n1, n6, n0, R, rN, r0⟩, ⟨A, a6, ha⟩, -⟩ := ho g hg4
    have eN : nN (v.2.2.2 g) = N := by unfold nN; rw [n0, nI_clamp (by omega)]
    have eA : nA (v.2.2.2 g) = A := by unfold nA; rw [ha, nI_clamp (by omega)]
    have eR : nR (v.2.2.2 g) = R := by unfold nR; rw [r0, nI_clamp (by omega)]
    have hgG : ¬ (nI g < 0 ∨ v.1 ≤ nI g) := (fun h => h.elim (nI_pos (by omega)) (fun q => absurd (i_le (hG ▸ q) (by omega) (by omega)) (by omega)))
    by_cases hq : (0 ≤ q ∧ q ≤ 6) ∧ (1 ≤ w ∧ w ≤ 999)
    · obtain ⟨B, -, B6, rfl⟩ := btw (a := 0) (b := 6) (by omega) (by omega) hq.1
      obtain ⟨p6, p1, p9, rfl⟩ := btw (a := 1) (b := 999) (by omega) (by omega) hq.2
      rw [show fBr (v, hv, d, iv, isd, ik, bg, bl, bs, nb, sd) (nI g) (nI B) (nI p6) = brS N A B p6 (N + 1) 0 by unfold fBr; rw [if_neg hgG, if_neg (fun y => y.elim (fun y => y hq.1) (fun y => y hq.2)), nI_clamp (by omega), nI_clamp (by omega), nI_clamp (by omega), eA, eN]] at hR
      have loop : ∀ (n j : Nat) (i : Int32) (wf : Nat → Int64) (wx wy : Int32), N + 1 - j < n → 0 ≤ j → j ≤ N + 1 → i = nI j → brS N A B p6 (N + 1) 0 = brS N A B p6 (N + 1 - j) j → go l (rm 6) E x 0 0 (Sx E b v rv p d iv isd ik bg bl bs nb sd wf wx wy fa fb tl tn ts tr) [some (.ref b), some (.int (nI g)), some (.int (nI B)), some (.int (nI p6)), some (.ref (b + 1 + 2 + 5 * g)), some (.int i)] 45 [] := by
        intro n
        induction n with
        | zero => intro j i wf wx wy h; omega
        | succ n ih =>
          intro j i wf wx wy hn0 j1 hj hi hf
          subst hi
          by_cases hlt : j ≤ N
          · rw [show N + 1 - j = (N - j) + 1 by omega] at hf
            have hl1 := los_b (N := N) (A := A) (R := j) (B := B) (p := p6) (by omega) a6 B6 p9
            refine g_iload hF dX9_bestReserve_45 47 rfl rfl ?_
            refine g_aload hF dX9_bestReserve_47 49 rfl rfl ?_
            refine g_get hF fl_X9_101 dX9_bestReserve_49 52 rfl (by intro H h; first | exact h.1 | exact h.2.1.nob | exact h.2.2.1.1 | exact h.2.2.2.1 | exact h.2.2.2.2.2.1.1 | exact h.2.2.2.2.2.2.1 | exact Nq.go hg4 h.2.1 | exact Nq.st hg4 h.2.1 | exact h.2.2.2.2.2.2.2.1.1 | exact h.2.2.2.2.2.2.2.2.1) rfl ?_
            refine g_icmp_gt hF dX9_bestReserve_52 55 rfl 95 (by decide) (fun c => absurd c (fun y => absurd (i_lt (a := N) (n0 ▸ y) (by omega) (by omega)) (by omega))) (fun _ => ?_)
            refine g_aload_n hF dX9_bestReserve_55 56 rfl rfl ?_
            refine g_get hF fl_X9_47 dX9_bestReserve_56 59 rfl (by intro H h; first | exact h.1 | exact h.2.1.nob | exact h.2.2.1.1 | exact h.2.2.2.1 | exact h.2.2.2.2.2.1.1 | exact h.2.2.2.2.2.2.1 | exact Nq.go hg4 h.2.1 | exact Nq.st hg4 h.2.1 | exact h.2.2.2.2.2.2.2.1.1 | exact h.2.2.2.2.2.2.2.2.1) rfl ?_
            refine g_aload hF dX9_bestReserve_59 61 rfl rfl ?_
            refine g_get hF fl_X9_101 dX9_bestReserve_61 64 rfl (by intro H h; first | exact h.1 | exact h.2.1.nob | exact h.2.2.1.1 | exact h.2.2.2.1 | exact h.2.2.2.2.2.1.1 | exact h.2.2.2.2.2.2.1 | exact Nq.go hg4 h.2.1 | exact Nq.st hg4 h.2.1 | exact h.2.2.2.2.2.2.2.1.1 | exact h.2.2.2.2.2.2.2.2.1) rfl ?_
            refine g_aload hF dX9_bestReserve_64 66 rfl rfl ?_
            refine g_get hF fl_X9_106 dX9_bestReserve_66 69 rfl (by intro H h; first | exact h.1 | exact h.2.1.nob | exact h.2.2.1.1 | exact h.2.2.2.1 | exact h.2.2.2.2.2.1.1 | exact h.2.2.2.2.2.2.1 | exact Nq.go hg4 h.2.1 | exact Nq.st hg4 h.2.1 | exact h.2.2.2.2.2.2.2.1.1 | exact h.2.2.2.2.2.2.2.2.1) rfl ?_
            refine g_iload hF dX9_bestReserve_69 71 rfl rfl ?_
            refine g_iload_n hF dX9_bestReserve_71 72 rfl rfl ?_
            rw [n0, ha]
            refine g_callV hF cv_X9_201 (c_W_weighExactly l E (b + 517) N A j B wf wx wy (by omega) (by omega) a6 (by omega) (by omega)) dX9_bestReserve_72 75 rfl (st := []) rfl rfl ⟨Nat.le_of_ble_eq_true rfl, Nat.le_of_ble_eq_true rfl⟩ ⟨Nat.le_of_ble_eq_true rfl, Nat.le_of_ble_eq_true rfl⟩ rfl (Nat.le_of_ble_eq_true rfl) 8 rfl (by intro H h; first | exact h.1 | exact h.2.1.nob | exact h.2.2.1.1 | exact h.2.2.2.1 | exact h.2.2.2.2.2.1.1 | exact h.2.2.2.2.2.2.1 | exact Nq.go hg4 h.2.1 | exact Nq.st hg4 h.2.1 | exact h.2.2.2.2.2.2.2.1.1 | exact h.2.2.2.2.2.2.2.2.1) (Pr' := fun H => ∃ wf1, (∀ k, k ≤ N → wf1 k = lN (wt (fct N) 1 N A j B k)) ∧ (Sx E b v rv p d iv isd ik bg bl bs nb sd wf1 (nI N) (nI j) fa fb tl tn ts tr) H) (fun H h => h.2.2.2.2.2.2.2.1) (fun q y => hA q ⟨by have := y.1; omega, by have := y.2; omega⟩) (fun H H' h h1 h2 => by obtain ⟨wf1, q1, q2⟩ := h1; exact ⟨wf1, q1, h.w h2 (fun q y => Or.inl ⟨by have := y.1; omega, by have := y.2; omega⟩) q2⟩) (st1 := []) rfl (k1 := 0) (n1 := 0) rfl rfl ?_
            refine g_ex (fun wf1 => ?_)
            refine g_pure (fun H h => h.1) (fun hw => ?_)
            refine g_pr (fun H h => h.2) ?_
            refine g_aload_n hF dX9_bestReserve_75 76 rfl rfl ?_
            refine g_get hF fl_X9_47 dX9_bestReserve_76 79 rfl (by intro H h; first | exact h.1 | exact h.2.1.nob | exact h.2.2.1.1 | exact h.2.2.2.1 | exact h.2.2.2.2.2.1.1 | exact h.2.2.2.2.2.2.1 | exact Nq.go hg4 h.2.1 | exact Nq.st hg4 h.2.1 | exact h.2.2.2.2.2.2.2.1.1 | exact h.2.2.2.2.2.2.2.2.1) rfl ?_
            refine g_iload_n hF dX9_bestReserve_79 80 rfl rfl ?_
            refine g_callV hF cv_X9_230 (c_W_losesAtMost l E (b + 517) N j p6 (wt (fct N) 1 N A j B) wf1 (by omega) hw (by omega) hl1.1 hl1.2 _ rfl) dX9_bestReserve_80 83 rfl (st := []) rfl rfl ⟨Nat.le_of_ble_eq_true rfl, Nat.le_of_ble_eq_true rfl⟩ ⟨Nat.le_of_ble_eq_true rfl, Nat.le_of_ble_eq_true rfl⟩ rfl (Nat.le_of_ble_eq_true rfl) 8 rfl (by intro H h; first | exact h.1 | exact h.2.1.nob | exact h.2.2.1.1 | exact h.2.2.2.1 | exact h.2.2.2.2.2.1.1 | exact h.2.2.2.2.2.2.1 | exact Nq.go hg4 h.2.1 | exact Nq.st hg4 h.2.1 | exact h.2.2.2.2.2.2.2.1.1 | exact h.2.2.2.2.2.2.2.2.1) (Pr' := Sx E b v rv p d iv isd ik bg bl bs nb sd wf1 (nI N) (nI j) fa fb tl tn ts tr) (fun H h => h.2.2.2.2.2.2.2.1) (fun q z => z.elim) (fun H H' h h1 h2 => by exact h.no h2 (fun q z => z.elim)) (st1 := [_]) rfl (k1 := 0) (n1 := 0) rfl rfl ?_
            refine g_if_eq hF dX9_bestReserve_83 86 rfl 89 (by decide) (fun c83 => ?_) (fun c83 => ?_)
            · refine g_iinc hF dX9_bestReserve_89 92 rfl (1) rfl (lo' := [_, _, _, _, _, _]) rfl rfl ?_
              refine g_goto hF dX9_bestReserve_92 45 (by decide) ?_
              exact ih (j + 1) _ _ _ _ (by omega) (by omega) (by omega) (nI_succ j).symm (by rw [hf, show N + 1 - (j + 1) = N - j by omega]; exact if_neg (iz0.mp c83))
            · refine g_iload hF dX9_bestReserve_86 88 rfl rfl ?_
              exact g_iret hF dX9_bestReserve_88 (Nat.le_of_ble_eq_true rfl) (Nat.le_of_ble_eq_true rfl) (fun H h => hR _ _ ⟨congrArg (fun z => some (Value.int z)) (by rw [hf]; exact (if_pos (iz1 c83)).symm), Cs.S hr h⟩)
          · have hj7 : j = N + 1 := by omega
            subst hj7
            rw [Nat.sub_self] at hf
            refine g_iload hF dX9_bestReserve_45 47 rfl rfl ?_
            refine g_aload hF dX9_bestReserve_47 49 rfl rfl ?_
            refine g_get hF fl_X9_101 dX9_bestReserve_49 52 rfl (by intro H h; first | exact h.1 | exact h.2.1.nob | exact h.2.2.1.1 | exact h.2.2.2.1 | exact h.2.2.2.2.2.1.1 | exact h.2.2.2.2.2.2.1 | exact Nq.go hg4 h.2.1 | exact Nq.st hg4 h.2.1 | exact h.2.2.2.2.2.2.2.1.1 | exact h.2.2.2.2.2.2.2.2.1) rfl ?_
            refine g_icmp_gt hF dX9_bestReserve_52 55 rfl 95 (by decide) (fun _ => ?_) (fun c => absurd (by rw [n0]; exact nI_lt (by omega) (by omega)) c)
            refine g_iconst hF (-1) dX9_bestReserve_95 96 rfl rfl ?_
            exact g_iret hF dX9_bestReserve_96 (Nat.le_of_ble_eq_true rfl) (Nat.le_of_ble_eq_true rfl) (fun H h => hR _ _ ⟨congrArg (fun z => some (Value.int z)) (hf.symm), Cs.S hr h⟩)
      refine g_aload_n hF dX9_bestReserve_0 1 rfl rfl ?_
      refine g_get hF fl_X9_10 dX9_bestReserve_1 4 rfl (by intro H h; first | exact h.1 | exact h.2.1.nob | exact h.2.2.1.1 | exact h.2.2.2.1 | exact h.2.2.2.2.2.1.1 | exact h.2.2.2.2.2.2.1 | exact Nq.go hg4 h.2.1 | exact Nq.st hg4 h.2.1 | exact h.2.2.2.2.2.2.2.1.1 | exact h.2.2.2.2.2.2.2.2.1) rfl ?_
      refine g_iload_n hF dX9_bestReserve_4 5 rfl rfl ?_
      refine g_callV hF cv_X9_96 (q_groupAt l E (b + 1) v G g hG G4 hg) dX9_bestReserve_5 8 rfl (st := []) rfl rfl ⟨Nat.le_of_ble_eq_true rfl, Nat.le_of_ble_eq_true rfl⟩ ⟨Nat.le_of_ble_eq_true rfl, Nat.le_of_ble_eq_true rfl⟩ rfl (Nat.le_of_ble_eq_true rfl) 6 rfl (by intro H h; first | exact h.1 | exact h.2.1.nob | exact h.2.2.1.1 | exact h.2.2.2.1 | exact h.2.2.2.2.2.1.1 | exact h.2.2.2.2.2.2.1 | exact Nq.go hg4 h.2.1 | exact Nq.st hg4 h.2.1 | exact h.2.2.2.2.2.2.2.1.1 | exact h.2.2.2.2.2.2.2.2.1) (Pr' := Sx E b v rv p d iv isd ik bg bl bs nb sd wf wx wy fa fb tl tn ts tr) (fun H h => h.2.1) (fun q z => z.elim) (fun H H' h h1 h2 => by exact h.no h2 (fun q z => z.elim)) (st1 := [_]) rfl (k1 := 0) (n1 := 0) rfl rfl ?_
      refine g_astore hF dX9_bestReserve_8 10 rfl (lo' := [_, _, _, _, _, _]) (Nat.le_of_ble_eq_true rfl) rfl ?_
      refine g_aload hF dX9_bestReserve_10 12 rfl rfl ?_
      refine g_ifnonnull hF dX9_bestReserve_12 18 (by decide) ?_
      refine g_iload_n hF dX9_bestReserve_18 19 rfl rfl ?_
      refine g_iconst hF (0) dX9_bestReserve_19 20 rfl rfl ?_
      refine g_bipush hF (6) dX9_bestReserve_20 22 rfl rfl ?_
      refine g_callS hF cs_X9_157 (c_isWithin l E (nI B) (0) (6) (Sx E b v rv p d iv isd ik bg bl bs nb sd wf wx wy fa fb tl tn ts tr) 1 ((if_pos hq.1).symm)) dX9_bestReserve_22 25 rfl (st := []) rfl rfl ⟨Nat.le_of_ble_eq_true rfl, Nat.le_of_ble_eq_true rfl⟩ ⟨Nat.le_of_ble_eq_true rfl, Nat.le_of_ble_eq_true rfl⟩ rfl (Nat.le_of_ble_eq_true rfl) (Pr' := _) (fun _ h => h) (fun q z => z.elim) (fun _ _ _ h _ => by exact h) (st1 := [_]) rfl (k1 := 0) (n1 := 0) rfl rfl ?_
      refine g_if_eq hF dX9_bestReserve_25 28 rfl 39 (by decide) (fun c => absurd c ((by decide))) (fun _ => ?_)
      refine g_iload_n hF dX9_bestReserve_28 29 rfl rfl ?_
      refine g_iconst hF (1) dX9_bestReserve_29 30 rfl rfl ?_
      refine g_sipush hF (999) dX9_bestReserve_30 33 rfl rfl ?_
      refine g_callS hF cs_X9_157 (c_isWithin l E (nI p6) (1) (999) (Sx E b v rv p d iv isd ik bg bl bs nb sd wf wx wy fa fb tl tn ts tr) 1 ((if_pos hq.2).symm)) dX9_bestReserve_33 36 rfl (st := []) rfl rfl ⟨Nat.le_of_ble_eq_true rfl, Nat.le_of_ble_eq_true rfl⟩ ⟨Nat.le_of_ble_eq_true rfl, Nat.le_of_ble_eq_true rfl⟩ rfl (Nat.le_of_ble_eq_true rfl) (Pr' := _) (fun _ h => h) (fun q z => z.elim) (fun _ _ _ h _ => by exact h) (st1 := [_]) rfl (k1 := 0) (n1 := 0) rfl rfl ?_
      refine g_if_ne hF dX9_bestReserve_36 39 rfl 42 (by decide) (fun _ => ?_) (fun c => absurd c ((by decide)))
      refine g_iconst hF (0) dX9_bestReserve_42 43 rfl rfl ?_
      refine g_istore hF dX9_bestReserve_43 45 rfl (lo' := [_, _, _, _, _, _]) (Nat.le_of_ble_eq_true rfl) rfl ?_
      exact loop (N + 2) 0 _ _ _ _ (by omega) (by omega) (by omega) rfl rfl
    · rw [show fBr (v, hv, d, iv, isd, ik, bg, bl, bs, nb, sd) (nI g) q w = -1000000002 from (if_neg hgG).trans (if_pos (Classical.byContradiction fun y => hq ⟨Classical.byContradiction fun y1 => y (Or.inl y1), Classical.byContradiction fun y1 => y (Or.inr y1)⟩))] at hR
      refine g_aload_n hF dX9_bestReserve_0 1 rfl rfl ?_
      refine g_get hF fl_X9_10 dX9_bestReserve_1 4 rfl (by intro H h; first | exact h.1 | exact h.2.1.nob | exact h.2.2.1.1 | exact h.2.2.2.1 | exact h.2.2.2.2.2.1.1 | exact h.2.2.2.2.2.2.1 | exact Nq.go hg4 h.2.1 | exact Nq.st hg4 h.2.1 | exact h.2.2.2.2.2.2.2.1.1 | exact h.2.2.2.2.2.2.2.2.1) rfl ?_
      refine g_iload_n hF dX9_bestReserve_4 5 rfl rfl ?_
      refine g_callV hF cv_X9_96 (q_groupAt l E (b + 1) v G g hG G4 hg) dX9_bestReserve_5 8 rfl (st := []) rfl rfl ⟨Nat.le_of_ble_eq_true rfl, Nat.le_of_ble_eq_true rfl⟩ ⟨Nat.le_of_ble_eq_true rfl, Nat.le_of_ble_eq_true rfl⟩ rfl (Nat.le_of_ble_eq_true rfl) 6 rfl (by intro H h; first | exact h.1 | exact h.2.1.nob | exact h.2.2.1.1 | exact h.2.2.2.1 | exact h.2.2.2.2.2.1.1 | exact h.2.2.2.2.2.2.1 | exact Nq.go hg4 h.2.1 | exact Nq.st hg4 h.2.1 | exact h.2.2.2.2.2.2.2.1.1 | exact h.2.2.2.2.2.2.2.2.1) (Pr' := Sx E b v rv p d iv isd ik bg bl bs nb sd wf wx wy fa fb tl tn ts tr) (fun H h => h.2.1) (fun q z => z.elim) (fun H H' h h1 h2 => by exact h.no h2 (fun q z => z.elim)) (st1 := [_]) rfl (k1 := 0) (n1 := 0) rfl rfl ?_
      refine g_astore hF dX9_bestReserve_8 10 rfl (lo' := [_, _, _, _, _, _]) (Nat.le_of_ble_eq_true rfl) rfl ?_
      refine g_aload hF dX9_bestReserve_10 12 rfl rfl ?_
      refine g_ifnonnull hF dX9_bestReserve_12 18 (by decide) ?_
      refine g_iload_n hF dX9_bestReserve_18 19 rfl rfl ?_
      refine g_iconst hF (0) dX9_bestReserve_19 20 rfl rfl ?_
      refine g_bipush hF (6) dX9_bestReserve_20 22 rfl rfl ?_
      refine g_callS hF cs_X9_157 (c_isWithin l E q 0 6 (Sx E b v rv p d iv isd ik bg bl bs nb sd wf wx wy fa fb tl tn ts tr) _ rfl) dX9_bestReserve_22 25 rfl (st := []) rfl rfl ⟨Nat.le_of_ble_eq_true rfl, Nat.le_of_ble_eq_true rfl⟩ ⟨Nat.le_of_ble_eq_true rfl, Nat.le_of_ble_eq_true rfl⟩ rfl (Nat.le_of_ble_eq_true rfl) (Pr' := _) (fun _ h => h) (fun q z => z.elim) (fun _ _ _ h _ => by exact h) (st1 := [_]) rfl (k1 := 0) (n1 := 0) rfl rfl ?_
      refine g_if_eq hF dX9_bestReserve_25 28 rfl 39 (by decide) (fun c25 => ?_) (fun c25 => ?_)
      · refine g_ldc hF kc_X9_95 dX9_bestReserve_39 41 rfl ?_
        exact g_iret hF dX9_bestReserve_41 (Nat.le_of_ble_eq_true rfl) (Nat.le_of_ble_eq_true rfl) (fun H h => hR _ _ ⟨congrArg (fun z => some (Value.int z)) (rfl), Cs.S hr h⟩)
      · refine g_iload_n hF dX9_bestReserve_28 29 rfl rfl ?_
        refine g_iconst hF (1) dX9_bestReserve_29 30 rfl rfl ?_
        refine g_sipush hF (999) dX9_bestReserve_30 33 rfl rfl ?_
        refine g_callS hF cs_X9_157 (c_isWithin l E w 1 999 (Sx E b v rv p d iv isd ik bg bl bs nb sd wf wx wy fa fb tl tn ts tr) _ rfl) dX9_bestReserve_33 36 rfl (st := []) rfl rfl ⟨Nat.le_of_ble_eq_true rfl, Nat.le_of_ble_eq_true rfl⟩ ⟨Nat.le_of_ble_eq_true rfl, Nat.le_of_ble_eq_true rfl⟩ rfl (Nat.le_of_ble_eq_true rfl) (Pr' := _) (fun _ h => h) (fun q z => z.elim) (fun _ _ _ h _ => by exact h) (st1 := [_]) rfl (k1 := 0) (n1 := 0) rfl rfl ?_
        refine g_if_ne hF dX9_bestReserve_36 39 rfl 42 (by decide) (fun c => absurd (iz0.mpr (fun y => hq ⟨iz1 c25, y⟩)) c) (fun _ => ?_)
        refine g_ldc hF kc_X9_95 dX9_bestReserve_39 41 rfl ?_
        exact g_iret hF dX9_bestReserve_41 (Nat.le_of_ble_eq_true rfl) (Nat.le_of_ble_eq_true rfl) (fun H h => hR _ _ ⟨congrArg (fun z => some (Value.int z)) (rfl), Cs.S hr h⟩)
