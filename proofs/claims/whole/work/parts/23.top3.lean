/-! TrunkReserve: shape, book, seed, images -/
def fWrite (σ : AS) (z i s : Int32) : Int32 × AS := if (z < 0 ∨ σ.1.1 ≤ z) ∨ (i < 0 ∨ σ.1.2.2.2 z.toNatClampNeg 0 ≤ i) then (-1000000001, σ) else if ¬ (0 ≤ s ∧ s ≤ 2) then (-1000000002, σ) else if 20 ≤ σ.2.2.2.2.2.2.2.2.2.1 then (-1000000004, σ) else match σ with
  | (v, hv, d, iv, isd, ik, bg, bl, bs, nb, sd) => (nI (nb + 1), (v, hv, d, iv, isd, ik, upd bg nb z, upd bl nb i, upd bs nb s, nb + 1, sd))
def fTear : AS → Int32 × AS
  | (v, hv, d, iv, isd, ik, bg, bl, bs, nb, sd) => (nI nb, (v, hv, d, iv, isd, ik, bg, bl, bs, 0, sd))
def fSeed (σ : AS) (z : Int32) : Int32 × AS := if z < 0 then (-1000000002, σ) else match σ with
  | (v, hv, d, iv, isd, ik, bg, bl, bs, nb, sd) => (nI sd, (v, hv, d, iv, isd, ik, bg, bl, bs, nb, z.toNatClampNeg))
def fKeep (σ : AS) (z : Int32) : Int32 × AS := if ¬ (0 ≤ z ∧ z ≤ 1) then (-1000000001, σ) else match σ with
  | (v, hv, _, iv, isd, ik, bg, bl, bs, nb, sd) => (1, (v, hv, 0, va_up iv z.toNatClampNeg v, va_up isd z.toNatClampNeg sd, va_up ik z.toNatClampNeg 1, bg, bl, bs, nb, sd))
def fGoBack (σ : AS) (z : Int32) : Int32 × AS := if ¬ (0 ≤ z ∧ z ≤ 1) then (-1000000001, σ) else if σ.2.2.2.2.2.1 z.toNatClampNeg = 0 then (-1000000003, σ) else match σ with
  | (_, hv, _, iv, isd, ik, bg, bl, bs, nb, _) => (1, (iv z.toNatClampNeg, hv, 0, iv, isd, ik, bg, bl, bs, nb, isd z.toNatClampNeg))
theorem nn_nI {z : Int32} (h : ¬ z < 0) : ∃ n, n < 2 ^ 31 ∧ z = nI n ∧ z.toNatClampNeg = n := by
  rcases pk_ix z (n := 2147483647) (by omega) with q | q | ⟨k, hk, rfl⟩
  · exact absurd q h
  · have h1 : z = nI 2147483647 := by
      refine Int32.le_antisymm ?_ q
      rw [Int32.le_iff_toInt_le]
      have := Int32.toInt_lt z
      have e : (nI 2147483647).toInt = 2147483647 := by decide
      omega
    exact ⟨2147483647, by omega, h1, by rw [h1]; exact nI_clamp (by omega)⟩
  · exact ⟨k, by omega, rfl, nI_clamp (by omega)⟩
theorem i_aa {a j : Nat} (hj : j < 2) : (fun j => some (a + 23 * j)) (nI j).toNatClampNeg = some (a + 23 * j) := by
  show some (a + 23 * (nI j).toNatClampNeg) = _
  rw [nI_clamp (by omega)]
theorem iz0 {p : Prop} [Decidable p] : (if p then (1 : Int32) else 0) = 0 ↔ ¬ p := by
  by_cases h : p
  · rw [if_pos h]; exact ⟨fun z => absurd z (by decide), fun z => absurd h z⟩
  · rw [if_neg h]; exact ⟨fun _ => h, fun _ => rfl⟩
theorem iz1 {p : Prop} [Decidable p] (h : ¬ (if p then (1 : Int32) else 0) = 0) : p := Classical.byContradiction (fun z => h (iz0.mpr z))
theorem va_up_up {α : Type} (f : Nat → α) (g : Nat) (x y : α) : va_up (va_up f g x) g y = va_up f g y := by
  funext j
  by_cases e : j = g
  · subst e; rw [va_up_self, va_up_self]
  · rw [va_up_ne _ _ e, va_up_ne _ _ e, va_up_ne _ _ e]
theorem Nq_wo2 {E : Ev} {a g : Nat} {p q r : Int32} {f : Nat → Nat → Int32} {X : Nat → Int32} {H H' : Heap} {w : Nat} {z : Int32} (hg : g < 4) (hw : w < 10) {vs : List Value} (hv : vs = gfs (upd X w z) (a + 2 + 5 * g)) (h : Nq E a (p, q, r, va_up f g X) H) (h1 : ob E 3 (a + 2 + 5 * g) vs H') (h2 : but (a + 2 + 5 * g) H H') : Nq E a (p, q, r, va_up f g (upd X w z)) H' := by
  have e : (p, q, r, va_up f g (upd X w z)) = ((p, q, r, va_up (va_up f g X) g (upd (va_up f g X g) w z)) : NV) := by rw [va_up_up, va_up_self]
  rw [e]
  exact Nq_wo (v := (p, q, r, va_up f g X)) hg hw (by dsimp only; rw [va_up_self]; exact hv) h h1 h2
theorem Nq_go2 {E : Ev} {a g : Nat} {p q r : Int32} {f : Nat → Nat → Int32} {X : Nat → Int32} {H : Heap} (hg : g < 4) (h : Nq E a (p, q, r, va_up f g X) H) : ob E 3 (a + 2 + 5 * g) (gfs X (a + 2 + 5 * g)) H := by
  have := Nq.go hg h
  dsimp only at this
  rw [va_up_self] at this
  exact this
theorem q_free2 (l : Launch) (E : Ev) (a g : Nat) (p q r : Int32) (f : Nat → Nat → Int32) (X : Nat → Int32) (hg : g < 4) : Ct l E yX3_freeAllLines cX3_freeAllLines 1 none (rm 2) [.ref (a + 2 + 5 * g)] (Nq E a (p, q, r, va_up f g X)) (rV none (Nq E a (p, q, r, va_up f g (gFree X)))) (rg (a + 2 + 5 * g) 5) := by
  have := q_freeAllLines l E a (p, q, r, va_up f g X) g hg
  dsimp only at this
  rw [va_up_up, va_up_self] at this
  exact this
set_option maxRecDepth 100000 in
set_option maxHeartbeats 16000000 in
theorem c_C_tear (l : Launch) (E : Ev) (b T : Nat) (σ : AS)  : Ct l E yX9_tear cX9_tear 2 (some .int) (rm 6) [.ref b] (CS E b σ) (rV (some (.int (fTear σ).1)) (CS E b (fTear σ).2)) (rg b 524) := by
  refine ct_start (by decide) [some (.ref b), none] rfl (Nat.le_of_ble_eq_true rfl) ?_
  intro x hF hN hA hR
  obtain ⟨v, hv, d, iv, isd, ik, bg, bl, bs, nb, sd⟩ := σ
  refine g_open (fun rv p wf wx wy fa fb tl tn ts tr hr => ?_)
  skip
  refine g_aload_n hF dX9_tear_0 1 rfl rfl ?_
  refine g_get hF fl_X9_33 dX9_tear_1 4 rfl (by intro H h; first | exact h.1 | exact h.2.1.nob | exact h.2.2.1.1 | exact h.2.2.2.1 | exact h.2.2.2.2.2.1.1 | exact h.2.2.2.2.2.2.1 | exact Nq.go hg4 h.2.1 | exact Nq.st hg4 h.2.1) rfl ?_
  refine g_get hF fl_X9_89 dX9_tear_4 7 rfl (by intro H h; first | exact h.1 | exact h.2.1.nob | exact h.2.2.1.1 | exact h.2.2.2.1 | exact h.2.2.2.2.2.1.1 | exact h.2.2.2.2.2.2.1 | exact Nq.go hg4 h.2.1 | exact Nq.st hg4 h.2.1) rfl ?_
  refine g_istore_n hF dX9_tear_7 8 rfl (lo' := [_, _]) (Nat.le_of_ble_eq_true rfl) rfl ?_
  refine g_aload_n hF dX9_tear_8 9 rfl rfl ?_
  refine g_get hF fl_X9_33 dX9_tear_9 12 rfl (by intro H h; first | exact h.1 | exact h.2.1.nob | exact h.2.2.1.1 | exact h.2.2.2.1 | exact h.2.2.2.2.2.1.1 | exact h.2.2.2.2.2.2.1 | exact Nq.go hg4 h.2.1 | exact Nq.st hg4 h.2.1) rfl ?_
  refine g_callV hF cv_X9_239 (c_B_clear l E (b + 512) bg bl bs nb) dX9_tear_12 15 rfl (st := []) rfl rfl ⟨Nat.le_of_ble_eq_true rfl, Nat.le_of_ble_eq_true rfl⟩ ⟨Nat.le_of_ble_eq_true rfl, Nat.le_of_ble_eq_true rfl⟩ rfl (Nat.le_of_ble_eq_true rfl) 0 rfl (by intro H h; first | exact h.1 | exact h.2.1.nob | exact h.2.2.1.1 | exact h.2.2.2.1 | exact h.2.2.2.2.2.1.1 | exact h.2.2.2.2.2.2.1 | exact Nq.go hg4 h.2.1 | exact Nq.st hg4 h.2.1) (Pr' := Sx E b v rv p d iv isd ik bg bl bs 0 sd wf wx wy fa fb tl tn ts tr) (fun H h => h.2.2.2.2.2.1) (fun q y => hA q ⟨by have := y.1; omega, by have := y.2; omega⟩) (fun H H' h h1 h2 => by exact h.b h2 (fun q y => Or.inl ⟨by have := y.1; omega, by have := y.2; omega⟩) h1) (st1 := []) rfl (k1 := 0) (n1 := 0) rfl rfl ?_
  refine g_iload_n hF dX9_tear_15 16 rfl rfl ?_
  exact g_iret hF dX9_tear_16 (Nat.le_of_ble_eq_true rfl) (Nat.le_of_ble_eq_true rfl) (fun H h => hR _ _ ⟨congrArg (fun z => some (Value.int z)) (rfl), Cs.S hr h⟩)
set_option maxRecDepth 100000 in
set_option maxHeartbeats 16000000 in
theorem c_C_seed (l : Launch) (E : Ev) (b T : Nat) (σ : AS)  (z : Int32) : Ct l E yX9_seed cX9_seed 3 (some .int) (rm 6) [.ref b, .int z] (CS E b σ) (rV (some (.int (fSeed σ z).1)) (CS E b (fSeed σ z).2)) (rg b 524) := by
  refine ct_start (by decide) [some (.ref b), some (.int z), none] rfl (Nat.le_of_ble_eq_true rfl) ?_
  intro x hF hN hA hR
  obtain ⟨v, hv, d, iv, isd, ik, bg, bl, bs, nb, sd⟩ := σ
  refine g_open (fun rv p wf wx wy fa fb tl tn ts tr hr => ?_)
  skip
  by_cases hz : z < 0
  · rw [show fSeed (v, hv, d, iv, isd, ik, bg, bl, bs, nb, sd) z = (-1000000002, (v, hv, d, iv, isd, ik, bg, bl, bs, nb, sd)) from if_pos hz] at hR
    refine g_iload_n hF dX9_seed_0 1 rfl rfl ?_
    refine g_if_ge hF dX9_seed_1 4 rfl 7 (by decide) (fun c => absurd c (Int32.not_le.mpr hz)) (fun _ => ?_)
    refine g_ldc hF kc_X9_95 dX9_seed_4 6 rfl ?_
    exact g_iret hF dX9_seed_6 (Nat.le_of_ble_eq_true rfl) (Nat.le_of_ble_eq_true rfl) (fun H h => hR _ _ ⟨congrArg (fun z => some (Value.int z)) (rfl), Cs.S hr h⟩)
  · rw [show fSeed (v, hv, d, iv, isd, ik, bg, bl, bs, nb, sd) z = (nI sd, (v, hv, d, iv, isd, ik, bg, bl, bs, nb, z.toNatClampNeg)) from if_neg hz] at hR
    refine g_iload_n hF dX9_seed_0 1 rfl rfl ?_
    refine g_if_ge hF dX9_seed_1 4 rfl 7 (by decide) (fun _ => ?_) (fun c => absurd (Int32.not_lt.mp hz) c)
    refine g_aload_n hF dX9_seed_7 8 rfl rfl ?_
    refine g_get hF fl_X9_40 dX9_seed_8 11 rfl (by intro H h; first | exact h.1 | exact h.2.1.nob | exact h.2.2.1.1 | exact h.2.2.2.1 | exact h.2.2.2.2.2.1.1 | exact h.2.2.2.2.2.2.1 | exact Nq.go hg4 h.2.1 | exact Nq.st hg4 h.2.1) rfl ?_
    refine g_get hF fl_X9_242 dX9_seed_11 14 rfl (by intro H h; first | exact h.1 | exact h.2.1.nob | exact h.2.2.1.1 | exact h.2.2.2.1 | exact h.2.2.2.2.2.1.1 | exact h.2.2.2.2.2.2.1 | exact Nq.go hg4 h.2.1 | exact Nq.st hg4 h.2.1) rfl ?_
    refine g_istore_n hF dX9_seed_14 15 rfl (lo' := [_, _, _]) (Nat.le_of_ble_eq_true rfl) rfl ?_
    refine g_aload_n hF dX9_seed_15 16 rfl rfl ?_
    refine g_get hF fl_X9_40 dX9_seed_16 19 rfl (by intro H h; first | exact h.1 | exact h.2.1.nob | exact h.2.2.1.1 | exact h.2.2.2.1 | exact h.2.2.2.2.2.1.1 | exact h.2.2.2.2.2.2.1 | exact Nq.go hg4 h.2.1 | exact Nq.st hg4 h.2.1) rfl ?_
    refine g_iload_n hF dX9_seed_19 20 rfl rfl ?_
    refine g_put hF pl_X9_242 dX9_seed_20 23 rfl (by intro H h; first | exact h.1 | exact h.2.1.nob | exact h.2.2.1.1 | exact h.2.2.2.1 | exact h.2.2.2.2.2.1.1 | exact h.2.2.2.2.2.2.1 | exact Nq.go hg4 h.2.1 | exact Nq.st hg4 h.2.1) (Nat.le_of_ble_eq_true rfl) rfl rfl (hA _ ⟨by omega, by omega⟩) (Pr' := Sx E b v rv p d iv isd ik bg bl bs nb z.toNatClampNeg wf wx wy fa fb tl tn ts tr) (fun H H' h h1 h2 => by obtain ⟨n, -, e1, e2⟩ := nn_nI hz; rw [e2]; rw [e1] at h1; exact h.d (out_but rfl h2) (fun q y => by subst y; exact Or.inl ⟨by omega, by omega⟩) h1) ?_
    refine g_iload_n hF dX9_seed_23 24 rfl rfl ?_
    exact g_iret hF dX9_seed_24 (Nat.le_of_ble_eq_true rfl) (Nat.le_of_ble_eq_true rfl) (fun H h => hR _ _ ⟨congrArg (fun z => some (Value.int z)) (rfl), Cs.S hr h⟩)
set_option maxRecDepth 100000 in
set_option maxHeartbeats 16000000 in
theorem c_C_write (l : Launch) (E : Ev) (b T : Nat) (σ : AS) (hv0 : okV T σ.1) (hb0 : σ.2.2.2.2.2.2.2.2.2.1 ≤ 20) (z i s : Int32) : Ct l E yX9_write cX9_write 5 (some .int) (rm 6) [.ref b, .int z, .int i, .int s] (CS E b σ) (rV (some (.int (fWrite σ z i s).1)) (CS E b (fWrite σ z i s).2)) (rg b 524) := by
  refine ct_start (by decide) [some (.ref b), some (.int z), some (.int i), some (.int s), none] rfl (Nat.le_of_ble_eq_true rfl) ?_
  intro x hF hN hA hR
  obtain ⟨v, hv, d, iv, isd, ik, bg, bl, bs, nb, sd⟩ := σ
  refine g_open (fun rv p wf wx wy fa fb tl tn ts tr hr => ?_)
  dsimp only at hv0
  dsimp only at hb0
  rcases line_cases hv0 z i with ⟨h1, G, hG, G4, h2⟩ | ⟨G, g, N, t, hG, G4, hg, rfl, n0, n6, ht, rfl, hno⟩
  · rw [show fWrite (v, hv, d, iv, isd, ik, bg, bl, bs, nb, sd) z i s = (-1000000001, (v, hv, d, iv, isd, ik, bg, bl, bs, nb, sd)) from if_pos h1] at hR
    refine g_aload_n hF dX9_write_0 1 rfl rfl ?_
    refine g_get hF fl_X9_10 dX9_write_1 4 rfl (by intro H h; first | exact h.1 | exact h.2.1.nob | exact h.2.2.1.1 | exact h.2.2.2.1 | exact h.2.2.2.2.2.1.1 | exact h.2.2.2.2.2.2.1 | exact Nq.go hg4 h.2.1 | exact Nq.st hg4 h.2.1) rfl ?_
    refine g_iload_n hF dX9_write_4 5 rfl rfl ?_
    refine g_iload_n hF dX9_write_5 6 rfl rfl ?_
    refine g_callV hF cv_X9_143 (q_gwlN l E (b + 1) v G z i hG G4 h2) dX9_write_6 9 rfl (st := []) rfl rfl ⟨Nat.le_of_ble_eq_true rfl, Nat.le_of_ble_eq_true rfl⟩ ⟨Nat.le_of_ble_eq_true rfl, Nat.le_of_ble_eq_true rfl⟩ rfl (Nat.le_of_ble_eq_true rfl) 6 rfl (by intro H h; first | exact h.1 | exact h.2.1.nob | exact h.2.2.1.1 | exact h.2.2.2.1 | exact h.2.2.2.2.2.1.1 | exact h.2.2.2.2.2.2.1 | exact Nq.go hg4 h.2.1 | exact Nq.st hg4 h.2.1) (Pr' := Sx E b v rv p d iv isd ik bg bl bs nb sd wf wx wy fa fb tl tn ts tr) (fun H h => h.2.1) (fun q z => z.elim) (fun H H' h h1 h2 => by exact h.no h2 (fun q z => z.elim)) (st1 := [_]) rfl (k1 := 0) (n1 := 0) rfl rfl ?_
    refine g_astoreN hF dX9_write_9 11 rfl (lo' := [_, _, _, _, _]) (Nat.le_of_ble_eq_true rfl) rfl ?_
    refine g_aloadN hF dX9_write_11 13 rfl rfl ?_
    refine g_ifnonnullN hF dX9_write_13 16 rfl ?_
    refine g_ldc hF kc_X9_100 dX9_write_16 18 rfl ?_
    exact g_iret hF dX9_write_18 (Nat.le_of_ble_eq_true rfl) (Nat.le_of_ble_eq_true rfl) (fun H h => hR _ _ ⟨congrArg (fun z => some (Value.int z)) (rfl), Cs.S hr h⟩)
  · by_cases hs : 0 ≤ s ∧ s ≤ 2
    · by_cases hb : 20 ≤ nb
      · rw [show fWrite (v, hv, d, iv, isd, ik, bg, bl, bs, nb, sd) (nI g) (nI t) s = (-1000000004, (v, hv, d, iv, isd, ik, bg, bl, bs, nb, sd)) by unfold fWrite; rw [if_neg hno, if_neg (fun q => q hs), if_pos hb]] at hR
        refine g_aload_n hF dX9_write_0 1 rfl rfl ?_
        refine g_get hF fl_X9_10 dX9_write_1 4 rfl (by intro H h; first | exact h.1 | exact h.2.1.nob | exact h.2.2.1.1 | exact h.2.2.2.1 | exact h.2.2.2.2.2.1.1 | exact h.2.2.2.2.2.2.1 | exact Nq.go hg4 h.2.1 | exact Nq.st hg4 h.2.1) rfl ?_
        refine g_iload_n hF dX9_write_4 5 rfl rfl ?_
        refine g_iload_n hF dX9_write_5 6 rfl rfl ?_
        refine g_callV hF cv_X9_143 (q_gwl l E (b + 1) v G g N t hG G4 hg n0 n6 ht) dX9_write_6 9 rfl (st := []) rfl rfl ⟨Nat.le_of_ble_eq_true rfl, Nat.le_of_ble_eq_true rfl⟩ ⟨Nat.le_of_ble_eq_true rfl, Nat.le_of_ble_eq_true rfl⟩ rfl (Nat.le_of_ble_eq_true rfl) 6 rfl (by intro H h; first | exact h.1 | exact h.2.1.nob | exact h.2.2.1.1 | exact h.2.2.2.1 | exact h.2.2.2.2.2.1.1 | exact h.2.2.2.2.2.2.1 | exact Nq.go hg4 h.2.1 | exact Nq.st hg4 h.2.1) (Pr' := Sx E b v rv p d iv isd ik bg bl bs nb sd wf wx wy fa fb tl tn ts tr) (fun H h => h.2.1) (fun q z => z.elim) (fun H H' h h1 h2 => by exact h.no h2 (fun q z => z.elim)) (st1 := [_]) rfl (k1 := 0) (n1 := 0) rfl rfl ?_
        refine g_astore hF dX9_write_9 11 rfl (lo' := [_, _, _, _, _]) (Nat.le_of_ble_eq_true rfl) rfl ?_
        refine g_aload hF dX9_write_11 13 rfl rfl ?_
        refine g_ifnonnull hF dX9_write_13 19 (by decide) ?_
        refine g_iload_n hF dX9_write_19 20 rfl rfl ?_
        refine g_iconst hF (0) dX9_write_20 21 rfl rfl ?_
        refine g_iconst hF (2) dX9_write_21 22 rfl rfl ?_
        refine g_callS hF cs_X9_157 (c_isWithin l E (s) (0) (2) (Sx E b v rv p d iv isd ik bg bl bs nb sd wf wx wy fa fb tl tn ts tr) 1 ((if_pos hs).symm)) dX9_write_22 25 rfl (st := []) rfl rfl ⟨Nat.le_of_ble_eq_true rfl, Nat.le_of_ble_eq_true rfl⟩ ⟨Nat.le_of_ble_eq_true rfl, Nat.le_of_ble_eq_true rfl⟩ rfl (Nat.le_of_ble_eq_true rfl) (Pr' := _) (fun _ h => h) (fun q z => z.elim) (fun _ _ _ h _ => by exact h) (st1 := [_]) rfl (k1 := 0) (n1 := 0) rfl rfl ?_
        refine g_if_ne hF dX9_write_25 28 rfl 31 (by decide) (fun _ => ?_) (fun c => absurd c ((by decide)))
        refine g_aload_n hF dX9_write_31 32 rfl rfl ?_
        refine g_get hF fl_X9_33 dX9_write_32 35 rfl (by intro H h; first | exact h.1 | exact h.2.1.nob | exact h.2.2.1.1 | exact h.2.2.2.1 | exact h.2.2.2.2.2.1.1 | exact h.2.2.2.2.2.2.1 | exact Nq.go hg4 h.2.1 | exact Nq.st hg4 h.2.1) rfl ?_
        refine g_get hF fl_X9_89 dX9_write_35 38 rfl (by intro H h; first | exact h.1 | exact h.2.1.nob | exact h.2.2.1.1 | exact h.2.2.2.1 | exact h.2.2.2.2.2.1.1 | exact h.2.2.2.2.2.2.1 | exact Nq.go hg4 h.2.1 | exact Nq.st hg4 h.2.1) rfl ?_
        refine g_bipush hF (20) dX9_write_38 40 rfl rfl ?_
        refine g_icmp_lt hF dX9_write_40 43 rfl 46 (by decide) (fun c => absurd c (fun q => absurd (i_lt (b := 20) q (by omega) (by omega)) (by omega))) (fun _ => ?_)
        refine g_ldc hF kc_X9_234 dX9_write_43 45 rfl ?_
        exact g_iret hF dX9_write_45 (Nat.le_of_ble_eq_true rfl) (Nat.le_of_ble_eq_true rfl) (fun H h => hR _ _ ⟨congrArg (fun z => some (Value.int z)) (rfl), Cs.S hr h⟩)
      · rw [show fWrite (v, hv, d, iv, isd, ik, bg, bl, bs, nb, sd) (nI g) (nI t) s = (nI (nb + 1), (v, hv, d, iv, isd, ik, upd bg nb (nI g), upd bl nb (nI t), upd bs nb s, nb + 1, sd)) by unfold fWrite; rw [if_neg hno, if_neg (fun q => q hs), if_neg hb]] at hR
        refine g_aload_n hF dX9_write_0 1 rfl rfl ?_
        refine g_get hF fl_X9_10 dX9_write_1 4 rfl (by intro H h; first | exact h.1 | exact h.2.1.nob | exact h.2.2.1.1 | exact h.2.2.2.1 | exact h.2.2.2.2.2.1.1 | exact h.2.2.2.2.2.2.1 | exact Nq.go hg4 h.2.1 | exact Nq.st hg4 h.2.1) rfl ?_
        refine g_iload_n hF dX9_write_4 5 rfl rfl ?_
        refine g_iload_n hF dX9_write_5 6 rfl rfl ?_
        refine g_callV hF cv_X9_143 (q_gwl l E (b + 1) v G g N t hG G4 hg n0 n6 ht) dX9_write_6 9 rfl (st := []) rfl rfl ⟨Nat.le_of_ble_eq_true rfl, Nat.le_of_ble_eq_true rfl⟩ ⟨Nat.le_of_ble_eq_true rfl, Nat.le_of_ble_eq_true rfl⟩ rfl (Nat.le_of_ble_eq_true rfl) 6 rfl (by intro H h; first | exact h.1 | exact h.2.1.nob | exact h.2.2.1.1 | exact h.2.2.2.1 | exact h.2.2.2.2.2.1.1 | exact h.2.2.2.2.2.2.1 | exact Nq.go hg4 h.2.1 | exact Nq.st hg4 h.2.1) (Pr' := Sx E b v rv p d iv isd ik bg bl bs nb sd wf wx wy fa fb tl tn ts tr) (fun H h => h.2.1) (fun q z => z.elim) (fun H H' h h1 h2 => by exact h.no h2 (fun q z => z.elim)) (st1 := [_]) rfl (k1 := 0) (n1 := 0) rfl rfl ?_
        refine g_astore hF dX9_write_9 11 rfl (lo' := [_, _, _, _, _]) (Nat.le_of_ble_eq_true rfl) rfl ?_
        refine g_aload hF dX9_write_11 13 rfl rfl ?_
        refine g_ifnonnull hF dX9_write_13 19 (by decide) ?_
        refine g_iload_n hF dX9_write_19 20 rfl rfl ?_
        refine g_iconst hF (0) dX9_write_20 21 rfl rfl ?_
        refine g_iconst hF (2) dX9_write_21 22 rfl rfl ?_
        refine g_callS hF cs_X9_157 (c_isWithin l E (s) (0) (2) (Sx E b v rv p d iv isd ik bg bl bs nb sd wf wx wy fa fb tl tn ts tr) 1 ((if_pos hs).symm)) dX9_write_22 25 rfl (st := []) rfl rfl ⟨Nat.le_of_ble_eq_true rfl, Nat.le_of_ble_eq_true rfl⟩ ⟨Nat.le_of_ble_eq_true rfl, Nat.le_of_ble_eq_true rfl⟩ rfl (Nat.le_of_ble_eq_true rfl) (Pr' := _) (fun _ h => h) (fun q z => z.elim) (fun _ _ _ h _ => by exact h) (st1 := [_]) rfl (k1 := 0) (n1 := 0) rfl rfl ?_
        refine g_if_ne hF dX9_write_25 28 rfl 31 (by decide) (fun _ => ?_) (fun c => absurd c ((by decide)))
        refine g_aload_n hF dX9_write_31 32 rfl rfl ?_
        refine g_get hF fl_X9_33 dX9_write_32 35 rfl (by intro H h; first | exact h.1 | exact h.2.1.nob | exact h.2.2.1.1 | exact h.2.2.2.1 | exact h.2.2.2.2.2.1.1 | exact h.2.2.2.2.2.2.1 | exact Nq.go hg4 h.2.1 | exact Nq.st hg4 h.2.1) rfl ?_
        refine g_get hF fl_X9_89 dX9_write_35 38 rfl (by intro H h; first | exact h.1 | exact h.2.1.nob | exact h.2.2.1.1 | exact h.2.2.2.1 | exact h.2.2.2.2.2.1.1 | exact h.2.2.2.2.2.2.1 | exact Nq.go hg4 h.2.1 | exact Nq.st hg4 h.2.1) rfl ?_
        refine g_bipush hF (20) dX9_write_38 40 rfl rfl ?_
        refine g_icmp_lt hF dX9_write_40 43 rfl 46 (by decide) (fun _ => ?_) (fun c => absurd (nI_lt (b := 20) (by omega) (by omega)) c)
        refine g_aload_n hF dX9_write_46 47 rfl rfl ?_
        refine g_get hF fl_X9_33 dX9_write_47 50 rfl (by intro H h; first | exact h.1 | exact h.2.1.nob | exact h.2.2.1.1 | exact h.2.2.2.1 | exact h.2.2.2.2.2.1.1 | exact h.2.2.2.2.2.2.1 | exact Nq.go hg4 h.2.1 | exact Nq.st hg4 h.2.1) rfl ?_
        refine g_iload_n hF dX9_write_50 51 rfl rfl ?_
        refine g_iload_n hF dX9_write_51 52 rfl rfl ?_
        refine g_iload_n hF dX9_write_52 53 rfl rfl ?_
        refine g_callV hF cv_X9_235 (c_B_enter l E (b + 512) bg bl bs nb (nI g) (nI t) s (by omega)) dX9_write_53 56 rfl (st := []) rfl rfl ⟨Nat.le_of_ble_eq_true rfl, Nat.le_of_ble_eq_true rfl⟩ ⟨Nat.le_of_ble_eq_true rfl, Nat.le_of_ble_eq_true rfl⟩ rfl (Nat.le_of_ble_eq_true rfl) 0 rfl (by intro H h; first | exact h.1 | exact h.2.1.nob | exact h.2.2.1.1 | exact h.2.2.2.1 | exact h.2.2.2.2.2.1.1 | exact h.2.2.2.2.2.2.1 | exact Nq.go hg4 h.2.1 | exact Nq.st hg4 h.2.1) (Pr' := Sx E b v rv p d iv isd ik (upd bg nb (nI g)) (upd bl nb (nI t)) (upd bs nb s) (nb + 1) sd wf wx wy fa fb tl tn ts tr) (fun H h => h.2.2.2.2.2.1) (fun q y => hA q ⟨by have := y.1; omega, by have := y.2; omega⟩) (fun H H' h h1 h2 => by exact h.b h2 (fun q y => Or.inl ⟨by have := y.1; omega, by have := y.2; omega⟩) h1) (st1 := []) rfl (k1 := 0) (n1 := 0) rfl rfl ?_
        refine g_aload_n hF dX9_write_56 57 rfl rfl ?_
        refine g_get hF fl_X9_33 dX9_write_57 60 rfl (by intro H h; first | exact h.1 | exact h.2.1.nob | exact h.2.2.1.1 | exact h.2.2.2.1 | exact h.2.2.2.2.2.1.1 | exact h.2.2.2.2.2.2.1 | exact Nq.go hg4 h.2.1 | exact Nq.st hg4 h.2.1) rfl ?_
        refine g_get hF fl_X9_89 dX9_write_60 63 rfl (by intro H h; first | exact h.1 | exact h.2.1.nob | exact h.2.2.1.1 | exact h.2.2.2.1 | exact h.2.2.2.2.2.1.1 | exact h.2.2.2.2.2.2.1 | exact Nq.go hg4 h.2.1 | exact Nq.st hg4 h.2.1) rfl ?_
        exact g_iret hF dX9_write_63 (Nat.le_of_ble_eq_true rfl) (Nat.le_of_ble_eq_true rfl) (fun H h => hR _ _ ⟨congrArg (fun z => some (Value.int z)) (rfl), Cs.S hr h⟩)
    · rw [show fWrite (v, hv, d, iv, isd, ik, bg, bl, bs, nb, sd) (nI g) (nI t) s = (-1000000002, (v, hv, d, iv, isd, ik, bg, bl, bs, nb, sd)) by unfold fWrite; rw [if_neg hno, if_pos hs]] at hR
      refine g_aload_n hF dX9_write_0 1 rfl rfl ?_
      refine g_get hF fl_X9_10 dX9_write_1 4 rfl (by intro H h; first | exact h.1 | exact h.2.1.nob | exact h.2.2.1.1 | exact h.2.2.2.1 | exact h.2.2.2.2.2.1.1 | exact h.2.2.2.2.2.2.1 | exact Nq.go hg4 h.2.1 | exact Nq.st hg4 h.2.1) rfl ?_
      refine g_iload_n hF dX9_write_4 5 rfl rfl ?_
      refine g_iload_n hF dX9_write_5 6 rfl rfl ?_
      refine g_callV hF cv_X9_143 (q_gwl l E (b + 1) v G g N t hG G4 hg n0 n6 ht) dX9_write_6 9 rfl (st := []) rfl rfl ⟨Nat.le_of_ble_eq_true rfl, Nat.le_of_ble_eq_true rfl⟩ ⟨Nat.le_of_ble_eq_true rfl, Nat.le_of_ble_eq_true rfl⟩ rfl (Nat.le_of_ble_eq_true rfl) 6 rfl (by intro H h; first | exact h.1 | exact h.2.1.nob | exact h.2.2.1.1 | exact h.2.2.2.1 | exact h.2.2.2.2.2.1.1 | exact h.2.2.2.2.2.2.1 | exact Nq.go hg4 h.2.1 | exact Nq.st hg4 h.2.1) (Pr' := Sx E b v rv p d iv isd ik bg bl bs nb sd wf wx wy fa fb tl tn ts tr) (fun H h => h.2.1) (fun q z => z.elim) (fun H H' h h1 h2 => by exact h.no h2 (fun q z => z.elim)) (st1 := [_]) rfl (k1 := 0) (n1 := 0) rfl rfl ?_
      refine g_astore hF dX9_write_9 11 rfl (lo' := [_, _, _, _, _]) (Nat.le_of_ble_eq_true rfl) rfl ?_
      refine g_aload hF dX9_write_11 13 rfl rfl ?_
      refine g_ifnonnull hF dX9_write_13 19 (by decide) ?_
      refine g_iload_n hF dX9_write_19 20 rfl rfl ?_
      refine g_iconst hF (0) dX9_write_20 21 rfl rfl ?_
      refine g_iconst hF (2) dX9_write_21 22 rfl rfl ?_
      refine g_callS hF cs_X9_157 (c_isWithin l E (s) (0) (2) (Sx E b v rv p d iv isd ik bg bl bs nb sd wf wx wy fa fb tl tn ts tr) 0 ((if_neg hs).symm)) dX9_write_22 25 rfl (st := []) rfl rfl ⟨Nat.le_of_ble_eq_true rfl, Nat.le_of_ble_eq_true rfl⟩ ⟨Nat.le_of_ble_eq_true rfl, Nat.le_of_ble_eq_true rfl⟩ rfl (Nat.le_of_ble_eq_true rfl) (Pr' := _) (fun _ h => h) (fun q z => z.elim) (fun _ _ _ h _ => by exact h) (st1 := [_]) rfl (k1 := 0) (n1 := 0) rfl rfl ?_
      refine g_if_ne hF dX9_write_25 28 rfl 31 (by decide) (fun c => absurd (rfl) c) (fun _ => ?_)
      refine g_ldc hF kc_X9_95 dX9_write_28 30 rfl ?_
      exact g_iret hF dX9_write_30 (Nat.le_of_ble_eq_true rfl) (Nat.le_of_ble_eq_true rfl) (fun H h => hR _ _ ⟨congrArg (fun z => some (Value.int z)) (rfl), Cs.S hr h⟩)
set_option maxRecDepth 100000 in
set_option maxHeartbeats 16000000 in
theorem c_C_keep (l : Launch) (E : Ev) (b T : Nat) (σ : AS)  (z : Int32) : Ct l E yX9_keep cX9_keep 2 (some .int) (rm 6) [.ref b, .int z] (CS E b σ) (rV (some (.int (fKeep σ z).1)) (CS E b (fKeep σ z).2)) (rg b 524) := by
  refine ct_start (by decide) [some (.ref b), some (.int z)] rfl (Nat.le_of_ble_eq_true rfl) ?_
  intro x hF hN hA hR
  obtain ⟨v, hv, d, iv, isd, ik, bg, bl, bs, nb, sd⟩ := σ
  refine g_open (fun rv p wf wx wy fa fb tl tn ts tr hr => ?_)
  skip
  by_cases hz : 0 ≤ z ∧ z ≤ 1
  · obtain ⟨j, j0, j1, rfl⟩ := btw (a := 0) (b := 1) (by omega) (by omega) hz
    have hj2 : j < 2 := by omega
    rw [show fKeep (v, hv, d, iv, isd, ik, bg, bl, bs, nb, sd) (nI j) = (1, (v, hv, 0, va_up iv j v, va_up isd j sd, va_up ik j 1, bg, bl, bs, nb, sd)) by unfold fKeep; rw [if_neg (fun q => q hz), nI_clamp (by omega)]] at hR
    refine g_iload_n hF dX9_keep_0 1 rfl rfl ?_
    refine g_iconst hF (0) dX9_keep_1 2 rfl rfl ?_
    refine g_iconst hF (1) dX9_keep_2 3 rfl rfl ?_
    refine g_callS hF cs_X9_157 (c_isWithin l E (nI j) (0) (1) (Sx E b v rv p d iv isd ik bg bl bs nb sd wf wx wy fa fb tl tn ts tr) 1 ((if_pos hz).symm)) dX9_keep_3 6 rfl (st := []) rfl rfl ⟨Nat.le_of_ble_eq_true rfl, Nat.le_of_ble_eq_true rfl⟩ ⟨Nat.le_of_ble_eq_true rfl, Nat.le_of_ble_eq_true rfl⟩ rfl (Nat.le_of_ble_eq_true rfl) (Pr' := _) (fun _ h => h) (fun q z => z.elim) (fun _ _ _ h _ => by exact h) (st1 := [_]) rfl (k1 := 0) (n1 := 0) rfl rfl ?_
    refine g_if_ne hF dX9_keep_6 9 rfl 12 (by decide) (fun _ => ?_) (fun c => absurd c ((by decide)))
    refine g_aload_n hF dX9_keep_12 13 rfl rfl ?_
    refine g_get hF fl_X9_25 dX9_keep_13 16 rfl (by intro H h; first | exact h.1 | exact h.2.1.nob | exact h.2.2.1.1 | exact h.2.2.2.1 | exact h.2.2.2.2.2.1.1 | exact h.2.2.2.2.2.2.1 | exact Nq.go hg4 h.2.1 | exact Nq.st hg4 h.2.1 | exact (h.2.2.2.2.1 j hj2).1) rfl ?_
    refine g_iload_n hF dX9_keep_16 17 rfl rfl ?_
    refine g_aald hF 5 dX9_keep_17 18 rfl rfl (by intro H h; first | exact h.1 | exact h.2.1.nob | exact h.2.2.1.1 | exact h.2.2.2.1 | exact h.2.2.2.2.2.1.1 | exact h.2.2.2.2.2.2.1 | exact Nq.go hg4 h.2.1 | exact Nq.st hg4 h.2.1 | exact (h.2.2.2.2.1 j hj2).1) (vp_in_nI (show j < 2 by omega) (by omega)) (i_aa hj2) ?_
    refine g_aload_n hF dX9_keep_18 19 rfl rfl ?_
    refine g_get hF fl_X9_10 dX9_keep_19 22 rfl (by intro H h; first | exact h.1 | exact h.2.1.nob | exact h.2.2.1.1 | exact h.2.2.2.1 | exact h.2.2.2.2.2.1.1 | exact h.2.2.2.2.2.2.1 | exact Nq.go hg4 h.2.1 | exact Nq.st hg4 h.2.1 | exact (h.2.2.2.2.1 j hj2).1) rfl ?_
    refine g_aload_n hF dX9_keep_22 23 rfl rfl ?_
    refine g_get hF fl_X9_40 dX9_keep_23 26 rfl (by intro H h; first | exact h.1 | exact h.2.1.nob | exact h.2.2.1.1 | exact h.2.2.2.1 | exact h.2.2.2.2.2.1.1 | exact h.2.2.2.2.2.2.1 | exact Nq.go hg4 h.2.1 | exact Nq.st hg4 h.2.1 | exact (h.2.2.2.2.1 j hj2).1) rfl ?_
    refine g_callV hF cv_X9_245 (c_I_take l E (b + 466 + 23 * j) (b + 1) (b + 516) (iv j) v (isd j) sd (ik j) (by omega) (by omega)) dX9_keep_26 29 rfl (st := []) rfl rfl ⟨Nat.le_of_ble_eq_true rfl, Nat.le_of_ble_eq_true rfl⟩ ⟨Nat.le_of_ble_eq_true rfl, Nat.le_of_ble_eq_true rfl⟩ rfl (Nat.le_of_ble_eq_true rfl) 5 rfl (by intro H h; first | exact h.1 | exact h.2.1.nob | exact h.2.2.1.1 | exact h.2.2.2.1 | exact h.2.2.2.2.2.1.1 | exact h.2.2.2.2.2.2.1 | exact Nq.go hg4 h.2.1 | exact Nq.st hg4 h.2.1 | exact (h.2.2.2.2.1 j hj2).1) (Pr' := Sx E b v rv p d (va_up iv j v) (va_up isd j sd) (va_up ik j 1) bg bl bs nb sd wf wx wy fa fb tl tn ts tr) (fun H h => ⟨h.2.2.2.2.1 j hj2, h.2.1, h.2.2.2.2.2.2.1⟩) (fun q y => hA q ⟨by have := y.1; omega, by have := y.2; omega⟩) (fun H H' h h1 h2 => by exact Sx.i hj2 h h2 (fun q y => ⟨by have := y.1; omega, by have := y.2; omega⟩) h1.1) (st1 := []) rfl (k1 := 0) (n1 := 0) rfl rfl ?_
    refine g_aload_n hF dX9_keep_29 30 rfl rfl ?_
    refine g_get hF fl_X9_19 dX9_keep_30 33 rfl (by intro H h; first | exact h.1 | exact h.2.1.nob | exact h.2.2.1.1 | exact h.2.2.2.1 | exact h.2.2.2.2.2.1.1 | exact h.2.2.2.2.2.2.1 | exact Nq.go hg4 h.2.1 | exact Nq.st hg4 h.2.1 | exact (h.2.2.2.2.1 j hj2).1) rfl ?_
    refine g_callV hF cv_X9_249 (c_H_forget l E (b + 23) rv p d) dX9_keep_33 36 rfl (st := []) rfl rfl ⟨Nat.le_of_ble_eq_true rfl, Nat.le_of_ble_eq_true rfl⟩ ⟨Nat.le_of_ble_eq_true rfl, Nat.le_of_ble_eq_true rfl⟩ rfl (Nat.le_of_ble_eq_true rfl) 4 rfl (by intro H h; first | exact h.1 | exact h.2.1.nob | exact h.2.2.1.1 | exact h.2.2.2.1 | exact h.2.2.2.2.2.1.1 | exact h.2.2.2.2.2.2.1 | exact Nq.go hg4 h.2.1 | exact Nq.st hg4 h.2.1 | exact (h.2.2.2.2.1 j hj2).1) (Pr' := Sx E b v rv p 0 (va_up iv j v) (va_up isd j sd) (va_up ik j 1) bg bl bs nb sd wf wx wy fa fb tl tn ts tr) (fun H h => h.2.2.1) (fun q y => hA q ⟨by have := y.1; omega, by have := y.2; omega⟩) (fun H H' h h1 h2 => by exact h.h h2 (fun q y => Or.inl ⟨by have := y.1; omega, by have := y.2; omega⟩) h1) (st1 := []) rfl (k1 := 0) (n1 := 0) rfl rfl ?_
    refine g_iconst hF (1) dX9_keep_36 37 rfl rfl ?_
    exact g_iret hF dX9_keep_37 (Nat.le_of_ble_eq_true rfl) (Nat.le_of_ble_eq_true rfl) (fun H h => hR _ _ ⟨congrArg (fun z => some (Value.int z)) (rfl), Cs.S hr.zero h⟩)
  · rw [show fKeep (v, hv, d, iv, isd, ik, bg, bl, bs, nb, sd) z = (-1000000001, (v, hv, d, iv, isd, ik, bg, bl, bs, nb, sd)) from if_pos hz] at hR
    refine g_iload_n hF dX9_keep_0 1 rfl rfl ?_
    refine g_iconst hF (0) dX9_keep_1 2 rfl rfl ?_
    refine g_iconst hF (1) dX9_keep_2 3 rfl rfl ?_
    refine g_callS hF cs_X9_157 (c_isWithin l E (z) (0) (1) (Sx E b v rv p d iv isd ik bg bl bs nb sd wf wx wy fa fb tl tn ts tr) 0 ((if_neg hz).symm)) dX9_keep_3 6 rfl (st := []) rfl rfl ⟨Nat.le_of_ble_eq_true rfl, Nat.le_of_ble_eq_true rfl⟩ ⟨Nat.le_of_ble_eq_true rfl, Nat.le_of_ble_eq_true rfl⟩ rfl (Nat.le_of_ble_eq_true rfl) (Pr' := _) (fun _ h => h) (fun q z => z.elim) (fun _ _ _ h _ => by exact h) (st1 := [_]) rfl (k1 := 0) (n1 := 0) rfl rfl ?_
    refine g_if_ne hF dX9_keep_6 9 rfl 12 (by decide) (fun c => absurd (rfl) c) (fun _ => ?_)
    refine g_ldc hF kc_X9_100 dX9_keep_9 11 rfl ?_
    exact g_iret hF dX9_keep_11 (Nat.le_of_ble_eq_true rfl) (Nat.le_of_ble_eq_true rfl) (fun H h => hR _ _ ⟨congrArg (fun z => some (Value.int z)) (rfl), Cs.S hr h⟩)
set_option maxRecDepth 100000 in
set_option maxHeartbeats 16000000 in
theorem c_C_goBack (l : Launch) (E : Ev) (b T : Nat) (σ : AS)  (z : Int32) : Ct l E yX9_goBack cX9_goBack 2 (some .int) (rm 6) [.ref b, .int z] (CS E b σ) (rV (some (.int (fGoBack σ z).1)) (CS E b (fGoBack σ z).2)) (rg b 524) := by
  refine ct_start (by decide) [some (.ref b), some (.int z)] rfl (Nat.le_of_ble_eq_true rfl) ?_
  intro x hF hN hA hR
  obtain ⟨v, hv, d, iv, isd, ik, bg, bl, bs, nb, sd⟩ := σ
  refine g_open (fun rv p wf wx wy fa fb tl tn ts tr hr => ?_)
  skip
  by_cases hz : 0 ≤ z ∧ z ≤ 1
  · obtain ⟨j, j0, j1, rfl⟩ := btw (a := 0) (b := 1) (by omega) (by omega) hz
    have hj2 : j < 2 := by omega
    by_cases hk : ik j = 0
    · rw [show fGoBack (v, hv, d, iv, isd, ik, bg, bl, bs, nb, sd) (nI j) = (-1000000003, (v, hv, d, iv, isd, ik, bg, bl, bs, nb, sd)) by unfold fGoBack; rw [if_neg (fun q => q hz), nI_clamp (by omega), if_pos hk]] at hR
      refine g_iload_n hF dX9_goBack_0 1 rfl rfl ?_
      refine g_iconst hF (0) dX9_goBack_1 2 rfl rfl ?_
      refine g_iconst hF (1) dX9_goBack_2 3 rfl rfl ?_
      refine g_callS hF cs_X9_157 (c_isWithin l E (nI j) (0) (1) (Sx E b v rv p d iv isd ik bg bl bs nb sd wf wx wy fa fb tl tn ts tr) 1 ((if_pos hz).symm)) dX9_goBack_3 6 rfl (st := []) rfl rfl ⟨Nat.le_of_ble_eq_true rfl, Nat.le_of_ble_eq_true rfl⟩ ⟨Nat.le_of_ble_eq_true rfl, Nat.le_of_ble_eq_true rfl⟩ rfl (Nat.le_of_ble_eq_true rfl) (Pr' := _) (fun _ h => h) (fun q z => z.elim) (fun _ _ _ h _ => by exact h) (st1 := [_]) rfl (k1 := 0) (n1 := 0) rfl rfl ?_
      refine g_if_ne hF dX9_goBack_6 9 rfl 12 (by decide) (fun _ => ?_) (fun c => absurd c ((by decide)))
      refine g_aload_n hF dX9_goBack_12 13 rfl rfl ?_
      refine g_get hF fl_X9_25 dX9_goBack_13 16 rfl (by intro H h; first | exact h.1 | exact h.2.1.nob | exact h.2.2.1.1 | exact h.2.2.2.1 | exact h.2.2.2.2.2.1.1 | exact h.2.2.2.2.2.2.1 | exact Nq.go hg4 h.2.1 | exact Nq.st hg4 h.2.1 | exact (h.2.2.2.2.1 j hj2).1) rfl ?_
      refine g_iload_n hF dX9_goBack_16 17 rfl rfl ?_
      refine g_aald hF 5 dX9_goBack_17 18 rfl rfl (by intro H h; first | exact h.1 | exact h.2.1.nob | exact h.2.2.1.1 | exact h.2.2.2.1 | exact h.2.2.2.2.2.1.1 | exact h.2.2.2.2.2.2.1 | exact Nq.go hg4 h.2.1 | exact Nq.st hg4 h.2.1 | exact (h.2.2.2.2.1 j hj2).1) (vp_in_nI (show j < 2 by omega) (by omega)) (i_aa hj2) ?_
      refine g_get hF fl_X9_252 dX9_goBack_18 21 rfl (by intro H h; first | exact h.1 | exact h.2.1.nob | exact h.2.2.1.1 | exact h.2.2.2.1 | exact h.2.2.2.2.2.1.1 | exact h.2.2.2.2.2.2.1 | exact Nq.go hg4 h.2.1 | exact Nq.st hg4 h.2.1 | exact (h.2.2.2.2.1 j hj2).1) rfl ?_
      refine g_if_ne hF dX9_goBack_21 24 rfl 27 (by decide) (fun c => absurd (hk) c) (fun _ => ?_)
      refine g_ldc hF kc_X9_178 dX9_goBack_24 26 rfl ?_
      exact g_iret hF dX9_goBack_26 (Nat.le_of_ble_eq_true rfl) (Nat.le_of_ble_eq_true rfl) (fun H h => hR _ _ ⟨congrArg (fun z => some (Value.int z)) (rfl), Cs.S hr h⟩)
    · rw [show fGoBack (v, hv, d, iv, isd, ik, bg, bl, bs, nb, sd) (nI j) = (1, (iv j, hv, 0, iv, isd, ik, bg, bl, bs, nb, isd j)) by unfold fGoBack; rw [if_neg (fun q => q hz), nI_clamp (by omega), if_neg hk]] at hR
      refine g_iload_n hF dX9_goBack_0 1 rfl rfl ?_
      refine g_iconst hF (0) dX9_goBack_1 2 rfl rfl ?_
      refine g_iconst hF (1) dX9_goBack_2 3 rfl rfl ?_
      refine g_callS hF cs_X9_157 (c_isWithin l E (nI j) (0) (1) (Sx E b v rv p d iv isd ik bg bl bs nb sd wf wx wy fa fb tl tn ts tr) 1 ((if_pos hz).symm)) dX9_goBack_3 6 rfl (st := []) rfl rfl ⟨Nat.le_of_ble_eq_true rfl, Nat.le_of_ble_eq_true rfl⟩ ⟨Nat.le_of_ble_eq_true rfl, Nat.le_of_ble_eq_true rfl⟩ rfl (Nat.le_of_ble_eq_true rfl) (Pr' := _) (fun _ h => h) (fun q z => z.elim) (fun _ _ _ h _ => by exact h) (st1 := [_]) rfl (k1 := 0) (n1 := 0) rfl rfl ?_
      refine g_if_ne hF dX9_goBack_6 9 rfl 12 (by decide) (fun _ => ?_) (fun c => absurd c ((by decide)))
      refine g_aload_n hF dX9_goBack_12 13 rfl rfl ?_
      refine g_get hF fl_X9_25 dX9_goBack_13 16 rfl (by intro H h; first | exact h.1 | exact h.2.1.nob | exact h.2.2.1.1 | exact h.2.2.2.1 | exact h.2.2.2.2.2.1.1 | exact h.2.2.2.2.2.2.1 | exact Nq.go hg4 h.2.1 | exact Nq.st hg4 h.2.1 | exact (h.2.2.2.2.1 j hj2).1) rfl ?_
      refine g_iload_n hF dX9_goBack_16 17 rfl rfl ?_
      refine g_aald hF 5 dX9_goBack_17 18 rfl rfl (by intro H h; first | exact h.1 | exact h.2.1.nob | exact h.2.2.1.1 | exact h.2.2.2.1 | exact h.2.2.2.2.2.1.1 | exact h.2.2.2.2.2.2.1 | exact Nq.go hg4 h.2.1 | exact Nq.st hg4 h.2.1 | exact (h.2.2.2.2.1 j hj2).1) (vp_in_nI (show j < 2 by omega) (by omega)) (i_aa hj2) ?_
      refine g_get hF fl_X9_252 dX9_goBack_18 21 rfl (by intro H h; first | exact h.1 | exact h.2.1.nob | exact h.2.2.1.1 | exact h.2.2.2.1 | exact h.2.2.2.2.2.1.1 | exact h.2.2.2.2.2.2.1 | exact Nq.go hg4 h.2.1 | exact Nq.st hg4 h.2.1 | exact (h.2.2.2.2.1 j hj2).1) rfl ?_
      refine g_if_ne hF dX9_goBack_21 24 rfl 27 (by decide) (fun _ => ?_) (fun c => absurd c (hk))
      refine g_aload_n hF dX9_goBack_27 28 rfl rfl ?_
      refine g_get hF fl_X9_25 dX9_goBack_28 31 rfl (by intro H h; first | exact h.1 | exact h.2.1.nob | exact h.2.2.1.1 | exact h.2.2.2.1 | exact h.2.2.2.2.2.1.1 | exact h.2.2.2.2.2.2.1 | exact Nq.go hg4 h.2.1 | exact Nq.st hg4 h.2.1 | exact (h.2.2.2.2.1 j hj2).1) rfl ?_
      refine g_iload_n hF dX9_goBack_31 32 rfl rfl ?_
      refine g_aald hF 5 dX9_goBack_32 33 rfl rfl (by intro H h; first | exact h.1 | exact h.2.1.nob | exact h.2.2.1.1 | exact h.2.2.2.1 | exact h.2.2.2.2.2.1.1 | exact h.2.2.2.2.2.2.1 | exact Nq.go hg4 h.2.1 | exact Nq.st hg4 h.2.1 | exact (h.2.2.2.2.1 j hj2).1) (vp_in_nI (show j < 2 by omega) (by omega)) (i_aa hj2) ?_
      refine g_aload_n hF dX9_goBack_33 34 rfl rfl ?_
      refine g_get hF fl_X9_10 dX9_goBack_34 37 rfl (by intro H h; first | exact h.1 | exact h.2.1.nob | exact h.2.2.1.1 | exact h.2.2.2.1 | exact h.2.2.2.2.2.1.1 | exact h.2.2.2.2.2.2.1 | exact Nq.go hg4 h.2.1 | exact Nq.st hg4 h.2.1 | exact (h.2.2.2.2.1 j hj2).1) rfl ?_
      refine g_aload_n hF dX9_goBack_37 38 rfl rfl ?_
      refine g_get hF fl_X9_40 dX9_goBack_38 41 rfl (by intro H h; first | exact h.1 | exact h.2.1.nob | exact h.2.2.1.1 | exact h.2.2.2.1 | exact h.2.2.2.2.2.1.1 | exact h.2.2.2.2.2.2.1 | exact Nq.go hg4 h.2.1 | exact Nq.st hg4 h.2.1 | exact (h.2.2.2.2.1 j hj2).1) rfl ?_
      refine g_callV hF cv_X9_256 (c_I_give l E (b + 466 + 23 * j) (b + 1) (b + 516) (iv j) v (isd j) sd (ik j) (by omega) (by omega) (fun y => by have := y.1; have := y.2; omega)) dX9_goBack_41 44 rfl (st := []) rfl rfl ⟨Nat.le_of_ble_eq_true rfl, Nat.le_of_ble_eq_true rfl⟩ ⟨Nat.le_of_ble_eq_true rfl, Nat.le_of_ble_eq_true rfl⟩ rfl (Nat.le_of_ble_eq_true rfl) 5 rfl (by intro H h; first | exact h.1 | exact h.2.1.nob | exact h.2.2.1.1 | exact h.2.2.2.1 | exact h.2.2.2.2.2.1.1 | exact h.2.2.2.2.2.2.1 | exact Nq.go hg4 h.2.1 | exact Nq.st hg4 h.2.1 | exact (h.2.2.2.2.1 j hj2).1) (Pr' := Sx E b (iv j) rv p d iv isd ik bg bl bs nb (isd j) wf wx wy fa fb tl tn ts tr) (fun H h => ⟨h.2.2.2.2.1 j hj2, h.2.1, h.2.2.2.2.2.2.1⟩) (fun q y => hA q (y.elim (fun y => ⟨by have := y.1; omega, by have := y.2; omega⟩) (fun e => ⟨by omega, by omega⟩))) (fun H H' h h1 h2 => by exact h.nd h2 (fun q y => y.elim (fun y => Or.inl ⟨by have := y.1; omega, by have := y.2; omega⟩) (fun e => Or.inr ⟨by omega, by omega⟩)) h1.2.1 h1.2.2) (st1 := []) rfl (k1 := 0) (n1 := 0) rfl rfl ?_
      refine g_aload_n hF dX9_goBack_44 45 rfl rfl ?_
      refine g_get hF fl_X9_19 dX9_goBack_45 48 rfl (by intro H h; first | exact h.1 | exact h.2.1.nob | exact h.2.2.1.1 | exact h.2.2.2.1 | exact h.2.2.2.2.2.1.1 | exact h.2.2.2.2.2.2.1 | exact Nq.go hg4 h.2.1 | exact Nq.st hg4 h.2.1 | exact (h.2.2.2.2.1 j hj2).1) rfl ?_
      refine g_callV hF cv_X9_249 (c_H_forget l E (b + 23) rv p d) dX9_goBack_48 51 rfl (st := []) rfl rfl ⟨Nat.le_of_ble_eq_true rfl, Nat.le_of_ble_eq_true rfl⟩ ⟨Nat.le_of_ble_eq_true rfl, Nat.le_of_ble_eq_true rfl⟩ rfl (Nat.le_of_ble_eq_true rfl) 4 rfl (by intro H h; first | exact h.1 | exact h.2.1.nob | exact h.2.2.1.1 | exact h.2.2.2.1 | exact h.2.2.2.2.2.1.1 | exact h.2.2.2.2.2.2.1 | exact Nq.go hg4 h.2.1 | exact Nq.st hg4 h.2.1 | exact (h.2.2.2.2.1 j hj2).1) (Pr' := Sx E b (iv j) rv p 0 iv isd ik bg bl bs nb (isd j) wf wx wy fa fb tl tn ts tr) (fun H h => h.2.2.1) (fun q y => hA q ⟨by have := y.1; omega, by have := y.2; omega⟩) (fun H H' h h1 h2 => by exact h.h h2 (fun q y => Or.inl ⟨by have := y.1; omega, by have := y.2; omega⟩) h1) (st1 := []) rfl (k1 := 0) (n1 := 0) rfl rfl ?_
      refine g_iconst hF (1) dX9_goBack_51 52 rfl rfl ?_
      exact g_iret hF dX9_goBack_52 (Nat.le_of_ble_eq_true rfl) (Nat.le_of_ble_eq_true rfl) (fun H h => hR _ _ ⟨congrArg (fun z => some (Value.int z)) (rfl), Cs.S hr.zero h⟩)
  · rw [show fGoBack (v, hv, d, iv, isd, ik, bg, bl, bs, nb, sd) z = (-1000000001, (v, hv, d, iv, isd, ik, bg, bl, bs, nb, sd)) from if_pos hz] at hR
    refine g_iload_n hF dX9_goBack_0 1 rfl rfl ?_
    refine g_iconst hF (0) dX9_goBack_1 2 rfl rfl ?_
    refine g_iconst hF (1) dX9_goBack_2 3 rfl rfl ?_
    refine g_callS hF cs_X9_157 (c_isWithin l E (z) (0) (1) (Sx E b v rv p d iv isd ik bg bl bs nb sd wf wx wy fa fb tl tn ts tr) 0 ((if_neg hz).symm)) dX9_goBack_3 6 rfl (st := []) rfl rfl ⟨Nat.le_of_ble_eq_true rfl, Nat.le_of_ble_eq_true rfl⟩ ⟨Nat.le_of_ble_eq_true rfl, Nat.le_of_ble_eq_true rfl⟩ rfl (Nat.le_of_ble_eq_true rfl) (Pr' := _) (fun _ h => h) (fun q z => z.elim) (fun _ _ _ h _ => by exact h) (st1 := [_]) rfl (k1 := 0) (n1 := 0) rfl rfl ?_
    refine g_if_ne hF dX9_goBack_6 9 rfl 12 (by decide) (fun c => absurd (rfl) c) (fun _ => ?_)
    refine g_ldc hF kc_X9_100 dX9_goBack_9 11 rfl ?_
    exact g_iret hF dX9_goBack_11 (Nat.le_of_ble_eq_true rfl) (Nat.le_of_ble_eq_true rfl) (fun H h => hR _ _ ⟨congrArg (fun z => some (Value.int z)) (rfl), Cs.S hr h⟩)
set_option maxRecDepth 100000 in
set_option maxHeartbeats 16000000 in
theorem c_C_shape (l : Launch) (E : Ev) (b T : Nat) (σ : AS) (hv0 : okV T σ.1) (z n a r w c : Int32) : Ct l E yX9_shape cX9_shape 9 (some .int) (rm 6) [.ref b, .int z, .int n, .int a, .int r, .int w, .int c] (CS E b σ) (rV (some (.int (fShape σ z n a r w c).1)) (CS E b (fShape σ z n a r w c).2)) (rg b 524) := by
  refine ct_start (by decide) [some (.ref b), some (.int z), some (.int n), some (.int a), some (.int r), some (.int w), some (.int c), none, none] rfl (Nat.le_of_ble_eq_true rfl) ?_
  intro x hF hN hA hR
  obtain ⟨v, hv, d, iv, isd, ik, bg, bl, bs, nb, sd⟩ := σ
  refine g_open (fun rv p wf wx wy fa fb tl tn ts tr hr => ?_)
  dsimp only at hv0
  obtain ⟨G, hG, G1, G4, hGc, ho, hn⟩ := okN hv0
  have bad : ((z < 0 ∨ v.1 ≤ z) ∨ w = z ∨ (¬ w = -1 ∧ (w < 0 ∨ v.1 ≤ w))) → fShape (v, hv, d, iv, isd, ik, bg, bl, bs, nb, sd) z n a r w c = (-1000000001, (v, hv, d, iv, isd, ik, bg, bl, bs, nb, sd)) := fun q => if_pos q
  rcases pk_ix z (n := G) (by omega) with hz | hz | ⟨g, hg, rfl⟩
  · rw [bad (Or.inl (Or.inl hz))] at hR
    refine g_aload_n hF dX9_shape_0 1 rfl rfl ?_
    refine g_get hF fl_X9_10 dX9_shape_1 4 rfl (by intro H h; first | exact h.1 | exact h.2.1.nob | exact h.2.2.1.1 | exact h.2.2.2.1 | exact h.2.2.2.2.2.1.1 | exact h.2.2.2.2.2.2.1 | exact Nq.go hg4 h.2.1 | exact Nq.st hg4 h.2.1 | exact Nq_go2 hg4 h.2.1) rfl ?_
    refine g_iload_n hF dX9_shape_4 5 rfl rfl ?_
    refine g_callV hF cv_X9_96 (q_groupAtN l E (b + 1) v z (Or.inl hz)) dX9_shape_5 8 rfl (st := []) rfl rfl ⟨Nat.le_of_ble_eq_true rfl, Nat.le_of_ble_eq_true rfl⟩ ⟨Nat.le_of_ble_eq_true rfl, Nat.le_of_ble_eq_true rfl⟩ rfl (Nat.le_of_ble_eq_true rfl) 6 rfl (by intro H h; first | exact h.1 | exact h.2.1.nob | exact h.2.2.1.1 | exact h.2.2.2.1 | exact h.2.2.2.2.2.1.1 | exact h.2.2.2.2.2.2.1 | exact Nq.go hg4 h.2.1 | exact Nq.st hg4 h.2.1 | exact Nq_go2 hg4 h.2.1) (Pr' := Sx E b v rv p d iv isd ik bg bl bs nb sd wf wx wy fa fb tl tn ts tr) (fun H h => h.2.1) (fun q z => z.elim) (fun H H' h h1 h2 => by exact h.no h2 (fun q z => z.elim)) (st1 := [_]) rfl (k1 := 0) (n1 := 0) rfl rfl ?_
    refine g_astoreN hF dX9_shape_8 10 rfl (lo' := [_, _, _, _, _, _, _, _, _]) (Nat.le_of_ble_eq_true rfl) rfl ?_
    refine g_aloadN hF dX9_shape_10 12 rfl rfl ?_
    refine g_ifnullN hF dX9_shape_12 39 (by decide) ?_
    refine g_ldc hF kc_X9_100 dX9_shape_39 41 rfl ?_
    exact g_iret hF dX9_shape_41 (Nat.le_of_ble_eq_true rfl) (Nat.le_of_ble_eq_true rfl) (fun H h => hR _ _ ⟨congrArg (fun z => some (Value.int z)) (rfl), Cs.S hr h⟩)
  · rw [bad (Or.inl (Or.inr (hG ▸ hz)))] at hR
    refine g_aload_n hF dX9_shape_0 1 rfl rfl ?_
    refine g_get hF fl_X9_10 dX9_shape_1 4 rfl (by intro H h; first | exact h.1 | exact h.2.1.nob | exact h.2.2.1.1 | exact h.2.2.2.1 | exact h.2.2.2.2.2.1.1 | exact h.2.2.2.2.2.2.1 | exact Nq.go hg4 h.2.1 | exact Nq.st hg4 h.2.1 | exact Nq_go2 hg4 h.2.1) rfl ?_
    refine g_iload_n hF dX9_shape_4 5 rfl rfl ?_
    refine g_callV hF cv_X9_96 (q_groupAtN l E (b + 1) v z (Or.inr (hG ▸ hz))) dX9_shape_5 8 rfl (st := []) rfl rfl ⟨Nat.le_of_ble_eq_true rfl, Nat.le_of_ble_eq_true rfl⟩ ⟨Nat.le_of_ble_eq_true rfl, Nat.le_of_ble_eq_true rfl⟩ rfl (Nat.le_of_ble_eq_true rfl) 6 rfl (by intro H h; first | exact h.1 | exact h.2.1.nob | exact h.2.2.1.1 | exact h.2.2.2.1 | exact h.2.2.2.2.2.1.1 | exact h.2.2.2.2.2.2.1 | exact Nq.go hg4 h.2.1 | exact Nq.st hg4 h.2.1 | exact Nq_go2 hg4 h.2.1) (Pr' := Sx E b v rv p d iv isd ik bg bl bs nb sd wf wx wy fa fb tl tn ts tr) (fun H h => h.2.1) (fun q z => z.elim) (fun H H' h h1 h2 => by exact h.no h2 (fun q z => z.elim)) (st1 := [_]) rfl (k1 := 0) (n1 := 0) rfl rfl ?_
    refine g_astoreN hF dX9_shape_8 10 rfl (lo' := [_, _, _, _, _, _, _, _, _]) (Nat.le_of_ble_eq_true rfl) rfl ?_
    refine g_aloadN hF dX9_shape_10 12 rfl rfl ?_
    refine g_ifnullN hF dX9_shape_12 39 (by decide) ?_
    refine g_ldc hF kc_X9_100 dX9_shape_39 41 rfl ?_
    exact g_iret hF dX9_shape_41 (Nat.le_of_ble_eq_true rfl) (Nat.le_of_ble_eq_true rfl) (fun H h => hR _ _ ⟨congrArg (fun z => some (Value.int z)) (rfl), Cs.S hr h⟩)
  · have hg4 : g < 4 := by omega
    obtain ⟨N0, n06, n00⟩ := hn g hg4
    have rest : ¬ ((nI g < 0 ∨ v.1 ≤ nI g) ∨ w = nI g ∨ (¬ w = -1 ∧ (w < 0 ∨ v.1 ≤ w))) → go l (rm 6) E x 0 0 (Sx E b v rv p d iv isd ik bg bl bs nb sd wf wx wy fa fb tl tn ts tr) [some (.ref b), some (.int (nI g)), some (.int n), some (.int a), some (.int r), some (.int w), some (.int c), some (.ref (b + 1 + 2 + 5 * g)), none] 42 [] := by
      intro hno
      have bad2 : ¬ (1 ≤ n ∧ n ≤ 6) ∨ ¬ (0 ≤ a ∧ a ≤ 6) ∨ ¬ (0 ≤ r ∧ r ≤ n) ∨ ¬ (0 ≤ c ∧ c ≤ 3) → fShape (v, hv, d, iv, isd, ik, bg, bl, bs, nb, sd) (nI g) n a r w c = (-1000000002, (v, hv, d, iv, isd, ik, bg, bl, bs, nb, sd)) := fun q => (if_neg hno).trans (if_pos q)
      refine g_iload_n hF dX9_shape_42 43 rfl rfl ?_
      refine g_iconst hF (1) dX9_shape_43 44 rfl rfl ?_
      refine g_bipush hF (6) dX9_shape_44 46 rfl rfl ?_
      refine g_callS hF cs_X9_157 (c_isWithin l E n 1 6 (Sx E b v rv p d iv isd ik bg bl bs nb sd wf wx wy fa fb tl tn ts tr) _ rfl) dX9_shape_46 49 rfl (st := []) rfl rfl ⟨Nat.le_of_ble_eq_true rfl, Nat.le_of_ble_eq_true rfl⟩ ⟨Nat.le_of_ble_eq_true rfl, Nat.le_of_ble_eq_true rfl⟩ rfl (Nat.le_of_ble_eq_true rfl) (Pr' := _) (fun _ h => h) (fun q z => z.elim) (fun _ _ _ h _ => by exact h) (st1 := [_]) rfl (k1 := 0) (n1 := 0) rfl rfl ?_
      refine g_if_eq hF dX9_shape_49 52 rfl 82 (by decide) (fun c49 => ?_) (fun c49 => ?_)
      · rw [bad2 (Or.inl (iz0.mp c49))] at hR
        refine g_ldc hF kc_X9_95 dX9_shape_82 84 rfl ?_
        exact g_iret hF dX9_shape_84 (Nat.le_of_ble_eq_true rfl) (Nat.le_of_ble_eq_true rfl) (fun H h => hR _ _ ⟨congrArg (fun z => some (Value.int z)) (rfl), Cs.S hr h⟩)
      · refine g_iload_n hF dX9_shape_52 53 rfl rfl ?_
        refine g_iconst hF (0) dX9_shape_53 54 rfl rfl ?_
        refine g_bipush hF (6) dX9_shape_54 56 rfl rfl ?_
        refine g_callS hF cs_X9_157 (c_isWithin l E a 0 6 (Sx E b v rv p d iv isd ik bg bl bs nb sd wf wx wy fa fb tl tn ts tr) _ rfl) dX9_shape_56 59 rfl (st := []) rfl rfl ⟨Nat.le_of_ble_eq_true rfl, Nat.le_of_ble_eq_true rfl⟩ ⟨Nat.le_of_ble_eq_true rfl, Nat.le_of_ble_eq_true rfl⟩ rfl (Nat.le_of_ble_eq_true rfl) (Pr' := _) (fun _ h => h) (fun q z => z.elim) (fun _ _ _ h _ => by exact h) (st1 := [_]) rfl (k1 := 0) (n1 := 0) rfl rfl ?_
        refine g_if_eq hF dX9_shape_59 62 rfl 82 (by decide) (fun c59 => ?_) (fun c59 => ?_)
        · rw [bad2 (Or.inr (Or.inl (iz0.mp c59)))] at hR
          refine g_ldc hF kc_X9_95 dX9_shape_82 84 rfl ?_
          exact g_iret hF dX9_shape_84 (Nat.le_of_ble_eq_true rfl) (Nat.le_of_ble_eq_true rfl) (fun H h => hR _ _ ⟨congrArg (fun z => some (Value.int z)) (rfl), Cs.S hr h⟩)
        · refine g_iload hF dX9_shape_62 64 rfl rfl ?_
          refine g_iconst hF (0) dX9_shape_64 65 rfl rfl ?_
          refine g_iload_n hF dX9_shape_65 66 rfl rfl ?_
          refine g_callS hF cs_X9_157 (c_isWithin l E r 0 n (Sx E b v rv p d iv isd ik bg bl bs nb sd wf wx wy fa fb tl tn ts tr) _ rfl) dX9_shape_66 69 rfl (st := []) rfl rfl ⟨Nat.le_of_ble_eq_true rfl, Nat.le_of_ble_eq_true rfl⟩ ⟨Nat.le_of_ble_eq_true rfl, Nat.le_of_ble_eq_true rfl⟩ rfl (Nat.le_of_ble_eq_true rfl) (Pr' := _) (fun _ h => h) (fun q z => z.elim) (fun _ _ _ h _ => by exact h) (st1 := [_]) rfl (k1 := 0) (n1 := 0) rfl rfl ?_
          refine g_if_eq hF dX9_shape_69 72 rfl 82 (by decide) (fun c69 => ?_) (fun c69 => ?_)
          · rw [bad2 (Or.inr (Or.inr (Or.inl (iz0.mp c69))))] at hR
            refine g_ldc hF kc_X9_95 dX9_shape_82 84 rfl ?_
            exact g_iret hF dX9_shape_84 (Nat.le_of_ble_eq_true rfl) (Nat.le_of_ble_eq_true rfl) (fun H h => hR _ _ ⟨congrArg (fun z => some (Value.int z)) (rfl), Cs.S hr h⟩)
          · refine g_iload hF dX9_shape_72 74 rfl rfl ?_
            refine g_iconst hF (0) dX9_shape_74 75 rfl rfl ?_
            refine g_iconst hF (3) dX9_shape_75 76 rfl rfl ?_
            refine g_callS hF cs_X9_157 (c_isWithin l E c 0 3 (Sx E b v rv p d iv isd ik bg bl bs nb sd wf wx wy fa fb tl tn ts tr) _ rfl) dX9_shape_76 79 rfl (st := []) rfl rfl ⟨Nat.le_of_ble_eq_true rfl, Nat.le_of_ble_eq_true rfl⟩ ⟨Nat.le_of_ble_eq_true rfl, Nat.le_of_ble_eq_true rfl⟩ rfl (Nat.le_of_ble_eq_true rfl) (Pr' := _) (fun _ h => h) (fun q z => z.elim) (fun _ _ _ h _ => by exact h) (st1 := [_]) rfl (k1 := 0) (n1 := 0) rfl rfl ?_
            refine g_if_ne hF dX9_shape_79 82 rfl 85 (by decide) (fun c79 => ?_) (fun c79 => ?_)
            · have good : fShape (v, hv, d, iv, isd, ik, bg, bl, bs, nb, sd) (nI g) n a r w c = (cnt (v.2.2.2 g) 1, psh (sShape v g n a r w c) (v, hv, d, iv, isd, ik, bg, bl, bs, nb, sd)) := by
                unfold fShape
                rw [if_neg hno, if_neg (fun q => q.elim (fun q => q (iz1 c49)) (fun q => q.elim (fun q => q (iz1 c59)) (fun q => q.elim (fun q => q (iz1 c69)) (fun q => q (iz1 c79))))), nI_clamp (by omega)]
              rw [good] at hR
              refine g_aload_n hF dX9_shape_85 86 rfl rfl ?_
              refine g_get hF fl_X9_19 dX9_shape_86 89 rfl (by intro H h; first | exact h.1 | exact h.2.1.nob | exact h.2.2.1.1 | exact h.2.2.2.1 | exact h.2.2.2.2.2.1.1 | exact h.2.2.2.2.2.2.1 | exact Nq.go hg4 h.2.1 | exact Nq.st hg4 h.2.1 | exact Nq_go2 hg4 h.2.1) rfl ?_
              refine g_aload_n hF dX9_shape_89 90 rfl rfl ?_
              refine g_get hF fl_X9_10 dX9_shape_90 93 rfl (by intro H h; first | exact h.1 | exact h.2.1.nob | exact h.2.2.1.1 | exact h.2.2.2.1 | exact h.2.2.2.2.2.1.1 | exact h.2.2.2.2.2.2.1 | exact Nq.go hg4 h.2.1 | exact Nq.st hg4 h.2.1 | exact Nq_go2 hg4 h.2.1) rfl ?_
              refine g_callV hF cv_X9_161 (c_H_remember l E (b + 23) (b + 1) rv p d v hr.1 hr.2.1 (by omega)) dX9_shape_93 96 rfl (st := []) rfl rfl ⟨Nat.le_of_ble_eq_true rfl, Nat.le_of_ble_eq_true rfl⟩ ⟨Nat.le_of_ble_eq_true rfl, Nat.le_of_ble_eq_true rfl⟩ rfl (Nat.le_of_ble_eq_true rfl) 4 rfl (by intro H h; first | exact h.1 | exact h.2.1.nob | exact h.2.2.1.1 | exact h.2.2.2.1 | exact h.2.2.2.2.2.1.1 | exact h.2.2.2.2.2.2.1 | exact Nq.go hg4 h.2.1 | exact Nq.st hg4 h.2.1 | exact Nq_go2 hg4 h.2.1) (Pr' := Sx E b v (va_up rv p v) ((p + 1) % 20) (pushD d) iv isd ik bg bl bs nb sd wf wx wy fa fb tl tn ts tr) (fun H h => ⟨h.2.2.1, h.2.1⟩) (fun q y => hA q ⟨by have := y.1; omega, by have := y.2; omega⟩) (fun H H' h h1 h2 => by exact h.h h2 (fun q y => Or.inl ⟨by have := y.1; omega, by have := y.2; omega⟩) h1.1) (st1 := []) rfl (k1 := 0) (n1 := 0) rfl rfl ?_
              refine g_aload hF dX9_shape_96 98 rfl rfl ?_
              refine g_iconst hF (1) dX9_shape_98 99 rfl rfl ?_
              refine g_callV hF cv_X9_169 (q_count l E (b + 1) v 1 g N0 hg4 n00 n06) dX9_shape_99 102 rfl (st := []) rfl rfl ⟨Nat.le_of_ble_eq_true rfl, Nat.le_of_ble_eq_true rfl⟩ ⟨Nat.le_of_ble_eq_true rfl, Nat.le_of_ble_eq_true rfl⟩ rfl (Nat.le_of_ble_eq_true rfl) 3 rfl (by intro H h; first | exact h.1 | exact h.2.1.nob | exact h.2.2.1.1 | exact h.2.2.2.1 | exact h.2.2.2.2.2.1.1 | exact h.2.2.2.2.2.2.1 | exact Nq.go hg4 h.2.1 | exact Nq.st hg4 h.2.1 | exact Nq_go2 hg4 h.2.1) (Pr' := Sx E b v (va_up rv p v) ((p + 1) % 20) (pushD d) iv isd ik bg bl bs nb sd wf wx wy fa fb tl tn ts tr) (fun H h => h.2.1) (fun q z => z.elim) (fun H H' h h1 h2 => by exact h.no h2 (fun q z => z.elim)) (st1 := [_]) rfl (k1 := 0) (n1 := 0) rfl rfl ?_
              refine g_istore hF dX9_shape_102 104 rfl (lo' := [_, _, _, _, _, _, _, _, _]) (Nat.le_of_ble_eq_true rfl) rfl ?_
              refine g_aload hF dX9_shape_104 106 rfl rfl ?_
              refine g_iload_n hF dX9_shape_106 107 rfl rfl ?_
              refine g_put hF pl_X9_101 dX9_shape_107 110 rfl (by intro H h; first | exact h.1 | exact h.2.1.nob | exact h.2.2.1.1 | exact h.2.2.2.1 | exact h.2.2.2.2.2.1.1 | exact h.2.2.2.2.2.2.1 | exact Nq.go hg4 h.2.1 | exact Nq.st hg4 h.2.1 | exact Nq_go2 hg4 h.2.1) (Nat.le_of_ble_eq_true rfl) rfl rfl (hA _ ⟨by omega, by omega⟩) (Pr' := Sx E b (v.1, v.2.1, v.2.2.1, va_up v.2.2.2 g (upd (v.2.2.2 g) 0 n)) (va_up rv p v) ((p + 1) % 20) (pushD d) iv isd ik bg bl bs nb sd wf wx wy fa fb tl tn ts tr) (fun H H' h h1 h2 => by exact h.n (out_but (A := fun q => q = b + 1 + 2 + 5 * g) rfl h2) (fun q y => by subst y; exact Or.inl ⟨by omega, by omega⟩) (Nq_wo hg4 (by omega) rfl h.2.1 h1 h2)) ?_
              refine g_aload hF dX9_shape_110 112 rfl rfl ?_
              refine g_iload_n hF dX9_shape_112 113 rfl rfl ?_
              refine g_put hF pl_X9_106 dX9_shape_113 116 rfl (by intro H h; first | exact h.1 | exact h.2.1.nob | exact h.2.2.1.1 | exact h.2.2.2.1 | exact h.2.2.2.2.2.1.1 | exact h.2.2.2.2.2.2.1 | exact Nq.go hg4 h.2.1 | exact Nq.st hg4 h.2.1 | exact Nq_go2 hg4 h.2.1) (Nat.le_of_ble_eq_true rfl) rfl rfl (hA _ ⟨by omega, by omega⟩) (Pr' := Sx E b (v.1, v.2.1, v.2.2.1, va_up v.2.2.2 g (upd (upd (v.2.2.2 g) 0 n) 1 a)) (va_up rv p v) ((p + 1) % 20) (pushD d) iv isd ik bg bl bs nb sd wf wx wy fa fb tl tn ts tr) (fun H H' h h1 h2 => by exact h.n (out_but (A := fun q => q = b + 1 + 2 + 5 * g) rfl h2) (fun q y => by subst y; exact Or.inl ⟨by omega, by omega⟩) (Nq_wo2 hg4 (by omega) (by dsimp only; rw [va_up_self]; rfl) h.2.1 h1 h2)) ?_
              refine g_aload hF dX9_shape_116 118 rfl rfl ?_
              refine g_iload hF dX9_shape_118 120 rfl rfl ?_
              refine g_put hF pl_X9_109 dX9_shape_120 123 rfl (by intro H h; first | exact h.1 | exact h.2.1.nob | exact h.2.2.1.1 | exact h.2.2.2.1 | exact h.2.2.2.2.2.1.1 | exact h.2.2.2.2.2.2.1 | exact Nq.go hg4 h.2.1 | exact Nq.st hg4 h.2.1 | exact Nq_go2 hg4 h.2.1) (Nat.le_of_ble_eq_true rfl) rfl rfl (hA _ ⟨by omega, by omega⟩) (Pr' := Sx E b (v.1, v.2.1, v.2.2.1, va_up v.2.2.2 g (upd (upd (upd (v.2.2.2 g) 0 n) 1 a) 2 r)) (va_up rv p v) ((p + 1) % 20) (pushD d) iv isd ik bg bl bs nb sd wf wx wy fa fb tl tn ts tr) (fun H H' h h1 h2 => by exact h.n (out_but (A := fun q => q = b + 1 + 2 + 5 * g) rfl h2) (fun q y => by subst y; exact Or.inl ⟨by omega, by omega⟩) (Nq_wo2 hg4 (by omega) (by dsimp only; rw [va_up_self]; rfl) h.2.1 h1 h2)) ?_
              refine g_aload hF dX9_shape_123 125 rfl rfl ?_
              refine g_iload hF dX9_shape_125 127 rfl rfl ?_
              refine g_put hF pl_X9_112 dX9_shape_127 130 rfl (by intro H h; first | exact h.1 | exact h.2.1.nob | exact h.2.2.1.1 | exact h.2.2.2.1 | exact h.2.2.2.2.2.1.1 | exact h.2.2.2.2.2.2.1 | exact Nq.go hg4 h.2.1 | exact Nq.st hg4 h.2.1 | exact Nq_go2 hg4 h.2.1) (Nat.le_of_ble_eq_true rfl) rfl rfl (hA _ ⟨by omega, by omega⟩) (Pr' := Sx E b (v.1, v.2.1, v.2.2.1, va_up v.2.2.2 g (upd (upd (upd (upd (v.2.2.2 g) 0 n) 1 a) 2 r) 3 w)) (va_up rv p v) ((p + 1) % 20) (pushD d) iv isd ik bg bl bs nb sd wf wx wy fa fb tl tn ts tr) (fun H H' h h1 h2 => by exact h.n (out_but (A := fun q => q = b + 1 + 2 + 5 * g) rfl h2) (fun q y => by subst y; exact Or.inl ⟨by omega, by omega⟩) (Nq_wo2 hg4 (by omega) (by dsimp only; rw [va_up_self]; rfl) h.2.1 h1 h2)) ?_
              refine g_aload hF dX9_shape_130 132 rfl rfl ?_
              refine g_iload hF dX9_shape_132 134 rfl rfl ?_
              refine g_put hF pl_X9_115 dX9_shape_134 137 rfl (by intro H h; first | exact h.1 | exact h.2.1.nob | exact h.2.2.1.1 | exact h.2.2.2.1 | exact h.2.2.2.2.2.1.1 | exact h.2.2.2.2.2.2.1 | exact Nq.go hg4 h.2.1 | exact Nq.st hg4 h.2.1 | exact Nq_go2 hg4 h.2.1) (Nat.le_of_ble_eq_true rfl) rfl rfl (hA _ ⟨by omega, by omega⟩) (Pr' := Sx E b (v.1, v.2.1, v.2.2.1, va_up v.2.2.2 g (upd (upd (upd (upd (upd (v.2.2.2 g) 0 n) 1 a) 2 r) 3 w) 4 c)) (va_up rv p v) ((p + 1) % 20) (pushD d) iv isd ik bg bl bs nb sd wf wx wy fa fb tl tn ts tr) (fun H H' h h1 h2 => by exact h.n (out_but (A := fun q => q = b + 1 + 2 + 5 * g) rfl h2) (fun q y => by subst y; exact Or.inl ⟨by omega, by omega⟩) (Nq_wo2 hg4 (by omega) (by dsimp only; rw [va_up_self]; rfl) h.2.1 h1 h2)) ?_
              refine g_aload hF dX9_shape_137 139 rfl rfl ?_
              refine g_callV hF cv_X9_172 (q_free2 l E (b + 1) g v.1 v.2.1 v.2.2.1 v.2.2.2 (upd (upd (upd (upd (upd (v.2.2.2 g) 0 n) 1 a) 2 r) 3 w) 4 c) hg4) dX9_shape_139 142 rfl (st := []) rfl rfl ⟨Nat.le_of_ble_eq_true rfl, Nat.le_of_ble_eq_true rfl⟩ ⟨Nat.le_of_ble_eq_true rfl, Nat.le_of_ble_eq_true rfl⟩ rfl (Nat.le_of_ble_eq_true rfl) 3 rfl (by intro H h; first | exact h.1 | exact h.2.1.nob | exact h.2.2.1.1 | exact h.2.2.2.1 | exact h.2.2.2.2.2.1.1 | exact h.2.2.2.2.2.2.1 | exact Nq.go hg4 h.2.1 | exact Nq.st hg4 h.2.1 | exact Nq_go2 hg4 h.2.1) (Pr' := Sx E b (sShape v g n a r w c) (va_up rv p v) ((p + 1) % 20) (pushD d) iv isd ik bg bl bs nb sd wf wx wy fa fb tl tn ts tr) (fun H h => h.2.1) (fun q y => hA q ⟨by have := y.1; omega, by have := y.2; omega⟩) (fun H H' h h1 h2 => by exact h.n h2 (fun q y => Or.inl ⟨by have := y.1; omega, by have := y.2; omega⟩) h1) (st1 := []) rfl (k1 := 0) (n1 := 0) rfl rfl ?_
              refine g_iload hF dX9_shape_142 144 rfl rfl ?_
              exact g_iret hF dX9_shape_144 (Nat.le_of_ble_eq_true rfl) (Nat.le_of_ble_eq_true rfl) (fun H h => hR _ _ ⟨congrArg (fun z => some (Value.int z)) (rfl), Cs.S (hr.push v) h⟩)
            · rw [bad2 (Or.inr (Or.inr (Or.inr (iz0.mp c79))))] at hR
              refine g_ldc hF kc_X9_95 dX9_shape_82 84 rfl ?_
              exact g_iret hF dX9_shape_84 (Nat.le_of_ble_eq_true rfl) (Nat.le_of_ble_eq_true rfl) (fun H h => hR _ _ ⟨congrArg (fun z => some (Value.int z)) (rfl), Cs.S hr h⟩)
    have hgG : ¬ (nI g < 0 ∨ v.1 ≤ nI g) := (fun h => h.elim (nI_pos (by omega)) (fun q => absurd (i_le (hG ▸ q) (by omega) (by omega)) (by omega)))
    by_cases hw : w = nI g
    · rw [bad (Or.inr (Or.inl hw))] at hR
      refine g_aload_n hF dX9_shape_0 1 rfl rfl ?_
      refine g_get hF fl_X9_10 dX9_shape_1 4 rfl (by intro H h; first | exact h.1 | exact h.2.1.nob | exact h.2.2.1.1 | exact h.2.2.2.1 | exact h.2.2.2.2.2.1.1 | exact h.2.2.2.2.2.2.1 | exact Nq.go hg4 h.2.1 | exact Nq.st hg4 h.2.1 | exact Nq_go2 hg4 h.2.1) rfl ?_
      refine g_iload_n hF dX9_shape_4 5 rfl rfl ?_
      refine g_callV hF cv_X9_96 (q_groupAt l E (b + 1) v G g hG G4 hg) dX9_shape_5 8 rfl (st := []) rfl rfl ⟨Nat.le_of_ble_eq_true rfl, Nat.le_of_ble_eq_true rfl⟩ ⟨Nat.le_of_ble_eq_true rfl, Nat.le_of_ble_eq_true rfl⟩ rfl (Nat.le_of_ble_eq_true rfl) 6 rfl (by intro H h; first | exact h.1 | exact h.2.1.nob | exact h.2.2.1.1 | exact h.2.2.2.1 | exact h.2.2.2.2.2.1.1 | exact h.2.2.2.2.2.2.1 | exact Nq.go hg4 h.2.1 | exact Nq.st hg4 h.2.1 | exact Nq_go2 hg4 h.2.1) (Pr' := Sx E b v rv p d iv isd ik bg bl bs nb sd wf wx wy fa fb tl tn ts tr) (fun H h => h.2.1) (fun q z => z.elim) (fun H H' h h1 h2 => by exact h.no h2 (fun q z => z.elim)) (st1 := [_]) rfl (k1 := 0) (n1 := 0) rfl rfl ?_
      refine g_astore hF dX9_shape_8 10 rfl (lo' := [_, _, _, _, _, _, _, _, _]) (Nat.le_of_ble_eq_true rfl) rfl ?_
      refine g_aload hF dX9_shape_10 12 rfl rfl ?_
      refine g_ifnull hF dX9_shape_12 15 rfl ?_
      refine g_iload hF dX9_shape_15 17 rfl rfl ?_
      refine g_iload_n hF dX9_shape_17 18 rfl rfl ?_
      refine g_icmp_eq hF dX9_shape_18 21 rfl 39 (by decide) (fun _ => ?_) (fun c => absurd (hw) c)
      refine g_ldc hF kc_X9_100 dX9_shape_39 41 rfl ?_
      exact g_iret hF dX9_shape_41 (Nat.le_of_ble_eq_true rfl) (Nat.le_of_ble_eq_true rfl) (fun H h => hR _ _ ⟨congrArg (fun z => some (Value.int z)) (rfl), Cs.S hr h⟩)
    · by_cases hw1 : w = -1
      · refine g_aload_n hF dX9_shape_0 1 rfl rfl ?_
        refine g_get hF fl_X9_10 dX9_shape_1 4 rfl (by intro H h; first | exact h.1 | exact h.2.1.nob | exact h.2.2.1.1 | exact h.2.2.2.1 | exact h.2.2.2.2.2.1.1 | exact h.2.2.2.2.2.2.1 | exact Nq.go hg4 h.2.1 | exact Nq.st hg4 h.2.1 | exact Nq_go2 hg4 h.2.1) rfl ?_
        refine g_iload_n hF dX9_shape_4 5 rfl rfl ?_
        refine g_callV hF cv_X9_96 (q_groupAt l E (b + 1) v G g hG G4 hg) dX9_shape_5 8 rfl (st := []) rfl rfl ⟨Nat.le_of_ble_eq_true rfl, Nat.le_of_ble_eq_true rfl⟩ ⟨Nat.le_of_ble_eq_true rfl, Nat.le_of_ble_eq_true rfl⟩ rfl (Nat.le_of_ble_eq_true rfl) 6 rfl (by intro H h; first | exact h.1 | exact h.2.1.nob | exact h.2.2.1.1 | exact h.2.2.2.1 | exact h.2.2.2.2.2.1.1 | exact h.2.2.2.2.2.2.1 | exact Nq.go hg4 h.2.1 | exact Nq.st hg4 h.2.1 | exact Nq_go2 hg4 h.2.1) (Pr' := Sx E b v rv p d iv isd ik bg bl bs nb sd wf wx wy fa fb tl tn ts tr) (fun H h => h.2.1) (fun q z => z.elim) (fun H H' h h1 h2 => by exact h.no h2 (fun q z => z.elim)) (st1 := [_]) rfl (k1 := 0) (n1 := 0) rfl rfl ?_
        refine g_astore hF dX9_shape_8 10 rfl (lo' := [_, _, _, _, _, _, _, _, _]) (Nat.le_of_ble_eq_true rfl) rfl ?_
        refine g_aload hF dX9_shape_10 12 rfl rfl ?_
        refine g_ifnull hF dX9_shape_12 15 rfl ?_
        refine g_iload hF dX9_shape_15 17 rfl rfl ?_
        refine g_iload_n hF dX9_shape_17 18 rfl rfl ?_
        refine g_icmp_eq hF dX9_shape_18 21 rfl 39 (by decide) (fun c => absurd c (hw)) (fun _ => ?_)
        refine g_iload hF dX9_shape_21 23 rfl rfl ?_
        refine g_iconst hF (-1) dX9_shape_23 24 rfl rfl ?_
        refine g_icmp_eq hF dX9_shape_24 27 rfl 42 (by decide) (fun _ => ?_) (fun c => absurd (hw1) c)
        exact rest (fun q => q.elim hgG (fun q => q.elim hw (fun q => q.1 hw1)))
      · rcases pk_ix w (n := G) (by omega) with hz | hz | ⟨k, hk, rfl⟩
        · rw [bad (Or.inr (Or.inr ⟨hw1, Or.inl hz⟩))] at hR
          refine g_aload_n hF dX9_shape_0 1 rfl rfl ?_
          refine g_get hF fl_X9_10 dX9_shape_1 4 rfl (by intro H h; first | exact h.1 | exact h.2.1.nob | exact h.2.2.1.1 | exact h.2.2.2.1 | exact h.2.2.2.2.2.1.1 | exact h.2.2.2.2.2.2.1 | exact Nq.go hg4 h.2.1 | exact Nq.st hg4 h.2.1 | exact Nq_go2 hg4 h.2.1) rfl ?_
          refine g_iload_n hF dX9_shape_4 5 rfl rfl ?_
          refine g_callV hF cv_X9_96 (q_groupAt l E (b + 1) v G g hG G4 hg) dX9_shape_5 8 rfl (st := []) rfl rfl ⟨Nat.le_of_ble_eq_true rfl, Nat.le_of_ble_eq_true rfl⟩ ⟨Nat.le_of_ble_eq_true rfl, Nat.le_of_ble_eq_true rfl⟩ rfl (Nat.le_of_ble_eq_true rfl) 6 rfl (by intro H h; first | exact h.1 | exact h.2.1.nob | exact h.2.2.1.1 | exact h.2.2.2.1 | exact h.2.2.2.2.2.1.1 | exact h.2.2.2.2.2.2.1 | exact Nq.go hg4 h.2.1 | exact Nq.st hg4 h.2.1 | exact Nq_go2 hg4 h.2.1) (Pr' := Sx E b v rv p d iv isd ik bg bl bs nb sd wf wx wy fa fb tl tn ts tr) (fun H h => h.2.1) (fun q z => z.elim) (fun H H' h h1 h2 => by exact h.no h2 (fun q z => z.elim)) (st1 := [_]) rfl (k1 := 0) (n1 := 0) rfl rfl ?_
          refine g_astore hF dX9_shape_8 10 rfl (lo' := [_, _, _, _, _, _, _, _, _]) (Nat.le_of_ble_eq_true rfl) rfl ?_
          refine g_aload hF dX9_shape_10 12 rfl rfl ?_
          refine g_ifnull hF dX9_shape_12 15 rfl ?_
          refine g_iload hF dX9_shape_15 17 rfl rfl ?_
          refine g_iload_n hF dX9_shape_17 18 rfl rfl ?_
          refine g_icmp_eq hF dX9_shape_18 21 rfl 39 (by decide) (fun c => absurd c (hw)) (fun _ => ?_)
          refine g_iload hF dX9_shape_21 23 rfl rfl ?_
          refine g_iconst hF (-1) dX9_shape_23 24 rfl rfl ?_
          refine g_icmp_eq hF dX9_shape_24 27 rfl 42 (by decide) (fun c => absurd c (hw1)) (fun _ => ?_)
          refine g_aload_n hF dX9_shape_27 28 rfl rfl ?_
          refine g_get hF fl_X9_10 dX9_shape_28 31 rfl (by intro H h; first | exact h.1 | exact h.2.1.nob | exact h.2.2.1.1 | exact h.2.2.2.1 | exact h.2.2.2.2.2.1.1 | exact h.2.2.2.2.2.2.1 | exact Nq.go hg4 h.2.1 | exact Nq.st hg4 h.2.1 | exact Nq_go2 hg4 h.2.1) rfl ?_
          refine g_iload hF dX9_shape_31 33 rfl rfl ?_
          refine g_callV hF cv_X9_96 (q_groupAtN l E (b + 1) v w (Or.inl hz)) dX9_shape_33 36 rfl (st := []) rfl rfl ⟨Nat.le_of_ble_eq_true rfl, Nat.le_of_ble_eq_true rfl⟩ ⟨Nat.le_of_ble_eq_true rfl, Nat.le_of_ble_eq_true rfl⟩ rfl (Nat.le_of_ble_eq_true rfl) 6 rfl (by intro H h; first | exact h.1 | exact h.2.1.nob | exact h.2.2.1.1 | exact h.2.2.2.1 | exact h.2.2.2.2.2.1.1 | exact h.2.2.2.2.2.2.1 | exact Nq.go hg4 h.2.1 | exact Nq.st hg4 h.2.1 | exact Nq_go2 hg4 h.2.1) (Pr' := Sx E b v rv p d iv isd ik bg bl bs nb sd wf wx wy fa fb tl tn ts tr) (fun H h => h.2.1) (fun q z => z.elim) (fun H H' h h1 h2 => by exact h.no h2 (fun q z => z.elim)) (st1 := [_]) rfl (k1 := 0) (n1 := 0) rfl rfl ?_
          refine g_ifnonnullN hF dX9_shape_36 39 rfl ?_
          refine g_ldc hF kc_X9_100 dX9_shape_39 41 rfl ?_
          exact g_iret hF dX9_shape_41 (Nat.le_of_ble_eq_true rfl) (Nat.le_of_ble_eq_true rfl) (fun H h => hR _ _ ⟨congrArg (fun z => some (Value.int z)) (rfl), Cs.S hr h⟩)
        · rw [bad (Or.inr (Or.inr ⟨hw1, Or.inr (hG ▸ hz)⟩))] at hR
          refine g_aload_n hF dX9_shape_0 1 rfl rfl ?_
          refine g_get hF fl_X9_10 dX9_shape_1 4 rfl (by intro H h; first | exact h.1 | exact h.2.1.nob | exact h.2.2.1.1 | exact h.2.2.2.1 | exact h.2.2.2.2.2.1.1 | exact h.2.2.2.2.2.2.1 | exact Nq.go hg4 h.2.1 | exact Nq.st hg4 h.2.1 | exact Nq_go2 hg4 h.2.1) rfl ?_
          refine g_iload_n hF dX9_shape_4 5 rfl rfl ?_
          refine g_callV hF cv_X9_96 (q_groupAt l E (b + 1) v G g hG G4 hg) dX9_shape_5 8 rfl (st := []) rfl rfl ⟨Nat.le_of_ble_eq_true rfl, Nat.le_of_ble_eq_true rfl⟩ ⟨Nat.le_of_ble_eq_true rfl, Nat.le_of_ble_eq_true rfl⟩ rfl (Nat.le_of_ble_eq_true rfl) 6 rfl (by intro H h; first | exact h.1 | exact h.2.1.nob | exact h.2.2.1.1 | exact h.2.2.2.1 | exact h.2.2.2.2.2.1.1 | exact h.2.2.2.2.2.2.1 | exact Nq.go hg4 h.2.1 | exact Nq.st hg4 h.2.1 | exact Nq_go2 hg4 h.2.1) (Pr' := Sx E b v rv p d iv isd ik bg bl bs nb sd wf wx wy fa fb tl tn ts tr) (fun H h => h.2.1) (fun q z => z.elim) (fun H H' h h1 h2 => by exact h.no h2 (fun q z => z.elim)) (st1 := [_]) rfl (k1 := 0) (n1 := 0) rfl rfl ?_
          refine g_astore hF dX9_shape_8 10 rfl (lo' := [_, _, _, _, _, _, _, _, _]) (Nat.le_of_ble_eq_true rfl) rfl ?_
          refine g_aload hF dX9_shape_10 12 rfl rfl ?_
          refine g_ifnull hF dX9_shape_12 15 rfl ?_
          refine g_iload hF dX9_shape_15 17 rfl rfl ?_
          refine g_iload_n hF dX9_shape_17 18 rfl rfl ?_
          refine g_icmp_eq hF dX9_shape_18 21 rfl 39 (by decide) (fun c => absurd c (hw)) (fun _ => ?_)
          refine g_iload hF dX9_shape_21 23 rfl rfl ?_
          refine g_iconst hF (-1) dX9_shape_23 24 rfl rfl ?_
          refine g_icmp_eq hF dX9_shape_24 27 rfl 42 (by decide) (fun c => absurd c (hw1)) (fun _ => ?_)
          refine g_aload_n hF dX9_shape_27 28 rfl rfl ?_
          refine g_get hF fl_X9_10 dX9_shape_28 31 rfl (by intro H h; first | exact h.1 | exact h.2.1.nob | exact h.2.2.1.1 | exact h.2.2.2.1 | exact h.2.2.2.2.2.1.1 | exact h.2.2.2.2.2.2.1 | exact Nq.go hg4 h.2.1 | exact Nq.st hg4 h.2.1 | exact Nq_go2 hg4 h.2.1) rfl ?_
          refine g_iload hF dX9_shape_31 33 rfl rfl ?_
          refine g_callV hF cv_X9_96 (q_groupAtN l E (b + 1) v w (Or.inr (hG ▸ hz))) dX9_shape_33 36 rfl (st := []) rfl rfl ⟨Nat.le_of_ble_eq_true rfl, Nat.le_of_ble_eq_true rfl⟩ ⟨Nat.le_of_ble_eq_true rfl, Nat.le_of_ble_eq_true rfl⟩ rfl (Nat.le_of_ble_eq_true rfl) 6 rfl (by intro H h; first | exact h.1 | exact h.2.1.nob | exact h.2.2.1.1 | exact h.2.2.2.1 | exact h.2.2.2.2.2.1.1 | exact h.2.2.2.2.2.2.1 | exact Nq.go hg4 h.2.1 | exact Nq.st hg4 h.2.1 | exact Nq_go2 hg4 h.2.1) (Pr' := Sx E b v rv p d iv isd ik bg bl bs nb sd wf wx wy fa fb tl tn ts tr) (fun H h => h.2.1) (fun q z => z.elim) (fun H H' h h1 h2 => by exact h.no h2 (fun q z => z.elim)) (st1 := [_]) rfl (k1 := 0) (n1 := 0) rfl rfl ?_
          refine g_ifnonnullN hF dX9_shape_36 39 rfl ?_
          refine g_ldc hF kc_X9_100 dX9_shape_39 41 rfl ?_
          exact g_iret hF dX9_shape_41 (Nat.le_of_ble_eq_true rfl) (Nat.le_of_ble_eq_true rfl) (fun H h => hR _ _ ⟨congrArg (fun z => some (Value.int z)) (rfl), Cs.S hr h⟩)
        · refine g_aload_n hF dX9_shape_0 1 rfl rfl ?_
          refine g_get hF fl_X9_10 dX9_shape_1 4 rfl (by intro H h; first | exact h.1 | exact h.2.1.nob | exact h.2.2.1.1 | exact h.2.2.2.1 | exact h.2.2.2.2.2.1.1 | exact h.2.2.2.2.2.2.1 | exact Nq.go hg4 h.2.1 | exact Nq.st hg4 h.2.1 | exact Nq_go2 hg4 h.2.1) rfl ?_
          refine g_iload_n hF dX9_shape_4 5 rfl rfl ?_
          refine g_callV hF cv_X9_96 (q_groupAt l E (b + 1) v G g hG G4 hg) dX9_shape_5 8 rfl (st := []) rfl rfl ⟨Nat.le_of_ble_eq_true rfl, Nat.le_of_ble_eq_true rfl⟩ ⟨Nat.le_of_ble_eq_true rfl, Nat.le_of_ble_eq_true rfl⟩ rfl (Nat.le_of_ble_eq_true rfl) 6 rfl (by intro H h; first | exact h.1 | exact h.2.1.nob | exact h.2.2.1.1 | exact h.2.2.2.1 | exact h.2.2.2.2.2.1.1 | exact h.2.2.2.2.2.2.1 | exact Nq.go hg4 h.2.1 | exact Nq.st hg4 h.2.1 | exact Nq_go2 hg4 h.2.1) (Pr' := Sx E b v rv p d iv isd ik bg bl bs nb sd wf wx wy fa fb tl tn ts tr) (fun H h => h.2.1) (fun q z => z.elim) (fun H H' h h1 h2 => by exact h.no h2 (fun q z => z.elim)) (st1 := [_]) rfl (k1 := 0) (n1 := 0) rfl rfl ?_
          refine g_astore hF dX9_shape_8 10 rfl (lo' := [_, _, _, _, _, _, _, _, _]) (Nat.le_of_ble_eq_true rfl) rfl ?_
          refine g_aload hF dX9_shape_10 12 rfl rfl ?_
          refine g_ifnull hF dX9_shape_12 15 rfl ?_
          refine g_iload hF dX9_shape_15 17 rfl rfl ?_
          refine g_iload_n hF dX9_shape_17 18 rfl rfl ?_
          refine g_icmp_eq hF dX9_shape_18 21 rfl 39 (by decide) (fun c => absurd c (hw)) (fun _ => ?_)
          refine g_iload hF dX9_shape_21 23 rfl rfl ?_
          refine g_iconst hF (-1) dX9_shape_23 24 rfl rfl ?_
          refine g_icmp_eq hF dX9_shape_24 27 rfl 42 (by decide) (fun c => absurd c (hw1)) (fun _ => ?_)
          refine g_aload_n hF dX9_shape_27 28 rfl rfl ?_
          refine g_get hF fl_X9_10 dX9_shape_28 31 rfl (by intro H h; first | exact h.1 | exact h.2.1.nob | exact h.2.2.1.1 | exact h.2.2.2.1 | exact h.2.2.2.2.2.1.1 | exact h.2.2.2.2.2.2.1 | exact Nq.go hg4 h.2.1 | exact Nq.st hg4 h.2.1 | exact Nq_go2 hg4 h.2.1) rfl ?_
          refine g_iload hF dX9_shape_31 33 rfl rfl ?_
          refine g_callV hF cv_X9_96 (q_groupAt l E (b + 1) v G k hG G4 hk) dX9_shape_33 36 rfl (st := []) rfl rfl ⟨Nat.le_of_ble_eq_true rfl, Nat.le_of_ble_eq_true rfl⟩ ⟨Nat.le_of_ble_eq_true rfl, Nat.le_of_ble_eq_true rfl⟩ rfl (Nat.le_of_ble_eq_true rfl) 6 rfl (by intro H h; first | exact h.1 | exact h.2.1.nob | exact h.2.2.1.1 | exact h.2.2.2.1 | exact h.2.2.2.2.2.1.1 | exact h.2.2.2.2.2.2.1 | exact Nq.go hg4 h.2.1 | exact Nq.st hg4 h.2.1 | exact Nq_go2 hg4 h.2.1) (Pr' := Sx E b v rv p d iv isd ik bg bl bs nb sd wf wx wy fa fb tl tn ts tr) (fun H h => h.2.1) (fun q z => z.elim) (fun H H' h h1 h2 => by exact h.no h2 (fun q z => z.elim)) (st1 := [_]) rfl (k1 := 0) (n1 := 0) rfl rfl ?_
          refine g_ifnonnull hF dX9_shape_36 42 (by decide) ?_
          exact rest (fun q => q.elim hgG (fun q => q.elim hw (fun q => q.2.elim (nI_pos (by omega)) (fun q => absurd (i_le (hG ▸ q) (by omega) (by omega)) (by omega)))))
