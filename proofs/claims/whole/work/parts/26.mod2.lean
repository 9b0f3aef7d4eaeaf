/-! TrunkReserveModel: lines, building, notes, counts, the book -/
theorem iy0 {p : Prop} [Decidable p] : (if p then (0 : Int32) else 1) = 0 ↔ p := by
  by_cases h : p
  · rw [if_pos h]; exact ⟨fun _ => h, fun _ => rfl⟩
  · rw [if_neg h]; exact ⟨fun z => absurd z (by decide), fun z => absurd z h⟩
theorem flat_congr {v w : NV} (h1 : v.1 = w.1) (h2 : v.2.1 = w.2.1) (h3 : v.2.2.1 = w.2.2.1) (h : ∀ g, g < 4 → ∀ k, k < 34 → v.2.2.2 g k = w.2.2.2 g k) : ∀ k, k < 139 → flat v k = flat w k := fun k hk => by
  by_cases k3 : k < 3
  · unfold flat
    rcases (show k = 0 ∨ k = 1 ∨ k = 2 by omega) with rfl | rfl | rfl
    · exact h1
    · exact h2
    · exact h3
  · obtain ⟨g', w', hw', rfl⟩ : ∃ g' w', w' < 34 ∧ k = 3 + 34 * g' + w' := ⟨(k - 3) / 34, (k - 3) % 34, Nat.mod_lt _ (by omega), by omega⟩
    rw [flat_g _ hw', flat_g _ hw']
    exact h _ (by omega) _ hw'
def frX (f : Nat → Int32) (j : Nat) : Nat → Int32 := fun w => if w = 5 then -1 else if 10 ≤ w ∧ w < 10 + 4 * j then (if (w - 10) % 4 = 0 then 0 else -1) else f w
theorem frX_0 (f : Nat → Int32) : upd f 5 (-1) = frX f 0 := by
  funext w
  unfold frX
  by_cases h : w = 5
  · subst h; rw [pk_us, if_pos rfl]
  · rw [pk_un h, if_neg h, if_neg (by omega)]
theorem frX_s (f : Nat → Int32) (j : Nat) : upd (upd (upd (upd (frX f j) (10 + 4 * j) 0) (11 + 4 * j) (-1)) (12 + 4 * j) (-1)) (13 + 4 * j) (-1) = frX f (j + 1) := by
  funext w
  by_cases h3 : w = 13 + 4 * j
  · subst h3; rw [pk_us]; unfold frX; rw [if_neg (by omega), if_pos (by omega), if_neg (by omega)]
  · rw [pk_un h3]
    by_cases h2 : w = 12 + 4 * j
    · subst h2; rw [pk_us]; unfold frX; rw [if_neg (by omega), if_pos (by omega), if_neg (by omega)]
    · rw [pk_un h2]
      by_cases h1 : w = 11 + 4 * j
      · subst h1; rw [pk_us]; unfold frX; rw [if_neg (by omega), if_pos (by omega), if_neg (by omega)]
      · rw [pk_un h1]
        by_cases h0 : w = 10 + 4 * j
        · subst h0; rw [pk_us]; unfold frX; rw [if_neg (by omega), if_pos (by omega), if_pos (by omega)]
        · rw [pk_un h0]
          unfold frX
          by_cases h5 : w = 5
          · rw [if_pos h5, if_pos h5]
          · rw [if_neg h5, if_neg h5]
            by_cases hq : 10 ≤ w ∧ w < 10 + 4 * j
            · rw [if_pos hq, if_pos (show 10 ≤ w ∧ w < 10 + 4 * (j + 1) by omega)]
            · rw [if_neg hq, if_neg (show ¬ (10 ≤ w ∧ w < 10 + 4 * (j + 1)) by omega)]
theorem frX_6 (f : Nat → Int32) {w : Nat} (hw : w < 34) : frX f 6 w = gFree f w := by
  unfold frX gFree
  by_cases h5 : w = 5
  · rw [if_pos h5, if_pos h5]
  · rw [if_neg h5, if_neg h5]
    by_cases hq : w < 10
    · rw [if_neg (by omega), if_pos hq]
    · rw [if_pos (by omega), if_neg hq]
theorem up_flat {p q r : Int32} {f : Nat → Nat → Int32} {g : Nat} {X Y : Nat → Int32} (h : ∀ w, w < 34 → X w = Y w) : ∀ k, k < 139 → flat (p, q, r, va_up f g X) k = flat (p, q, r, va_up f g Y) k :=
  flat_congr rfl rfl rfl (fun j _ k hk => by
    show va_up f g X j k = va_up f g Y j k
    by_cases e : j = g
    · subst e; rw [va_up_self, va_up_self]; exact h k hk
    · rw [va_up_ne _ _ e, va_up_ne _ _ e])
section MV2
variable (l : Launch) (E : Ev) (c : Nat) (v : NV) (pf im : Nat → Int32) (ss : Nat → Int64) (kp bk : Nat → Int32) (ws : Nat → Int64) (cm ls nq : Nat → Int32) (dd : Int32) (sd : Int64) (en : Int32) (wh : Int64) (ro : Int32)
set_option maxRecDepth 100000 in
set_option maxHeartbeats 16000000 in
theorem c_M_isLine (T : Nat) (hv0 : okV T v) (z i : Int32) : Ct l E yX10_isLine cX10_isLine 3 (some .boolean) (rm 3) [.ref c, .int z, .int i] (Mm E c (flat v) pf im ss kp bk ws cm ls nq dd sd en wh ro) (rV (some (.int (if (z < 0 ∨ v.1 ≤ z) ∨ (i < 0 ∨ v.2.2.2 z.toNatClampNeg 0 ≤ i) then 0 else 1))) (Mm E c (flat v) pf im ss kp bk ws cm ls nq dd sd en wh ro)) (fun _ => False) := by
  refine ct_start (by decide) [some (.ref c), some (.int z), some (.int i)] rfl (Nat.le_of_ble_eq_true rfl) ?_
  intro x hF hN hA hR
  obtain ⟨G, hG, G1, G4, hGc, ho, hn⟩ := okN hv0
  rcases pk_ix z (n := G) (by omega) with hz | hz | ⟨g, hg, rfl⟩
  · refine g_aload_n hF dX10_isLine_0 1 rfl rfl ?_
    refine g_iload_n hF dX10_isLine_1 2 rfl rfl ?_
    refine g_callV hF cv_X10_50 (c_M_isGroup l E c v pf im ss kp bk ws cm ls nq dd sd en wh ro G hG G1 G4 z) dX10_isLine_2 5 rfl (st := []) rfl rfl ⟨Nat.le_of_ble_eq_true rfl, Nat.le_of_ble_eq_true rfl⟩ ⟨Nat.le_of_ble_eq_true rfl, Nat.le_of_ble_eq_true rfl⟩ rfl (Nat.le_of_ble_eq_true rfl) 10 rfl (by intro H h; first | exact h.1 | exact h.2.1 | exact h.2.2.1 | exact h.2.2.2.1 | exact h.2.2.2.2.1 | exact h.2.2.2.2.2.1 | exact h.2.2.2.2.2.2.1 | exact h.2.2.2.2.2.2.2.1 | exact h.2.2.2.2.2.2.2.2.1 | exact h.2.2.2.2.2.2.2.2.2.1 | exact h.2.2.2.2.2.2.2.2.2.2) (Pr' := _) (fun _ h => h) (fun q z => z.elim) (fun _ _ _ h _ => by exact h) (st1 := [_]) rfl (k1 := 0) (n1 := 0) rfl rfl ?_
    refine g_if_eq hF dX10_isLine_5 8 rfl 28 (by decide) (fun _ => ?_) (fun c => absurd (iy0.mpr (Or.inl hz)) c)
    refine g_iconst hF (0) dX10_isLine_28 29 rfl rfl ?_
    exact g_zret hF (rfl) dX10_isLine_29 (Nat.le_of_ble_eq_true rfl) (Nat.le_of_ble_eq_true rfl) (fun H h => hR _ _ ⟨congrArg (fun z => some (Value.int z)) ((if_pos (Or.inl (Or.inl hz))).symm), h⟩)
  · refine g_aload_n hF dX10_isLine_0 1 rfl rfl ?_
    refine g_iload_n hF dX10_isLine_1 2 rfl rfl ?_
    refine g_callV hF cv_X10_50 (c_M_isGroup l E c v pf im ss kp bk ws cm ls nq dd sd en wh ro G hG G1 G4 z) dX10_isLine_2 5 rfl (st := []) rfl rfl ⟨Nat.le_of_ble_eq_true rfl, Nat.le_of_ble_eq_true rfl⟩ ⟨Nat.le_of_ble_eq_true rfl, Nat.le_of_ble_eq_true rfl⟩ rfl (Nat.le_of_ble_eq_true rfl) 10 rfl (by intro H h; first | exact h.1 | exact h.2.1 | exact h.2.2.1 | exact h.2.2.2.1 | exact h.2.2.2.2.1 | exact h.2.2.2.2.2.1 | exact h.2.2.2.2.2.2.1 | exact h.2.2.2.2.2.2.2.1 | exact h.2.2.2.2.2.2.2.2.1 | exact h.2.2.2.2.2.2.2.2.2.1 | exact h.2.2.2.2.2.2.2.2.2.2) (Pr' := _) (fun _ h => h) (fun q z => z.elim) (fun _ _ _ h _ => by exact h) (st1 := [_]) rfl (k1 := 0) (n1 := 0) rfl rfl ?_
    refine g_if_eq hF dX10_isLine_5 8 rfl 28 (by decide) (fun _ => ?_) (fun c => absurd (iy0.mpr (Or.inr (hG ▸ hz))) c)
    refine g_iconst hF (0) dX10_isLine_28 29 rfl rfl ?_
    exact g_zret hF (rfl) dX10_isLine_29 (Nat.le_of_ble_eq_true rfl) (Nat.le_of_ble_eq_true rfl) (fun H h => hR _ _ ⟨congrArg (fun z => some (Value.int z)) ((if_pos (Or.inl (Or.inr (hG ▸ hz)))).symm), h⟩)
  · obtain ⟨⟨N, n1, n6, n0, -⟩, -⟩ := ho g (by omega)
    have hgG : ¬ (nI g < 0 ∨ v.1 ≤ nI g) := (fun h => h.elim (nI_pos (by omega)) (fun q => absurd (i_le (hG ▸ q) (by omega) (by omega)) (by omega)))
    have hc : (nI g).toNatClampNeg = g := nI_clamp (by omega)
    rw [hc] at hR
    refine g_aload_n hF dX10_isLine_0 1 rfl rfl ?_
    refine g_iload_n hF dX10_isLine_1 2 rfl rfl ?_
    refine g_callV hF cv_X10_50 (c_M_isGroup l E c v pf im ss kp bk ws cm ls nq dd sd en wh ro G hG G1 G4 (nI g)) dX10_isLine_2 5 rfl (st := []) rfl rfl ⟨Nat.le_of_ble_eq_true rfl, Nat.le_of_ble_eq_true rfl⟩ ⟨Nat.le_of_ble_eq_true rfl, Nat.le_of_ble_eq_true rfl⟩ rfl (Nat.le_of_ble_eq_true rfl) 10 rfl (by intro H h; first | exact h.1 | exact h.2.1 | exact h.2.2.1 | exact h.2.2.2.1 | exact h.2.2.2.2.1 | exact h.2.2.2.2.2.1 | exact h.2.2.2.2.2.2.1 | exact h.2.2.2.2.2.2.2.1 | exact h.2.2.2.2.2.2.2.2.1 | exact h.2.2.2.2.2.2.2.2.2.1 | exact h.2.2.2.2.2.2.2.2.2.2) (Pr' := _) (fun _ h => h) (fun q z => z.elim) (fun _ _ _ h _ => by exact h) (st1 := [_]) rfl (k1 := 0) (n1 := 0) rfl rfl ?_
    refine g_if_eq hF dX10_isLine_5 8 rfl 28 (by decide) (fun c => absurd c (fun y => hgG (iy0.mp y))) (fun _ => ?_)
    refine g_iload_n hF dX10_isLine_8 9 rfl rfl ?_
    refine g_iconst hF (0) dX10_isLine_9 10 rfl rfl ?_
    refine g_aload_n hF dX10_isLine_10 11 rfl rfl ?_
    refine g_iload_n hF dX10_isLine_11 12 rfl rfl ?_
    refine g_iconst hF (0) dX10_isLine_12 13 rfl rfl ?_
    rw [show (0 : Int32) = nI 0 by decide]
    refine g_callV hF cv_X10_54 (c_M_of l E c v pf im ss kp bk ws cm ls nq dd sd en wh ro g 0 (by omega) (by omega)) dX10_isLine_13 16 rfl (st := [_, _]) rfl rfl ⟨Nat.le_of_ble_eq_true rfl, Nat.le_of_ble_eq_true rfl⟩ ⟨Nat.le_of_ble_eq_true rfl, Nat.le_of_ble_eq_true rfl⟩ rfl (Nat.le_of_ble_eq_true rfl) 10 rfl (by intro H h; first | exact h.1 | exact h.2.1 | exact h.2.2.1 | exact h.2.2.2.1 | exact h.2.2.2.2.1 | exact h.2.2.2.2.2.1 | exact h.2.2.2.2.2.2.1 | exact h.2.2.2.2.2.2.2.1 | exact h.2.2.2.2.2.2.2.2.1 | exact h.2.2.2.2.2.2.2.2.2.1 | exact h.2.2.2.2.2.2.2.2.2.2) (Pr' := _) (fun _ h => h) (fun q z => z.elim) (fun _ _ _ h _ => by exact h) (st1 := [_, _, _]) rfl (k1 := 0) (n1 := 0) rfl rfl ?_
    rw [n0]
    refine g_iconst hF (1) dX10_isLine_16 17 rfl rfl ?_
    refine g_isub hF dX10_isLine_17 18 rfl ?_
    refine g_callS hF cs_X10_46 (c_M_in l E i 0 (nI N - 1) (Mm E c (flat v) pf im ss kp bk ws cm ls nq dd sd en wh ro) _ rfl) dX10_isLine_18 21 rfl (st := []) rfl rfl ⟨Nat.le_of_ble_eq_true rfl, Nat.le_of_ble_eq_true rfl⟩ ⟨Nat.le_of_ble_eq_true rfl, Nat.le_of_ble_eq_true rfl⟩ rfl (Nat.le_of_ble_eq_true rfl) (Pr' := _) (fun _ h => h) (fun q z => z.elim) (fun _ _ _ h _ => by exact h) (st1 := [_]) rfl (k1 := 0) (n1 := 0) rfl rfl ?_
    refine g_if_eq hF dX10_isLine_21 24 rfl 28 (by decide) (fun c21 => ?_) (fun c21 => ?_)
    · refine g_iconst hF (0) dX10_isLine_28 29 rfl rfl ?_
      exact g_zret hF (rfl) dX10_isLine_29 (Nat.le_of_ble_eq_true rfl) (Nat.le_of_ble_eq_true rfl) (fun H h => hR _ _ ⟨congrArg (fun z => some (Value.int z)) ((if_pos (Or.inr (Classical.byContradiction fun y => iz0.mp c21 ((in_gr n1 (by omega)).mpr (by rw [← n0]; exact y))))).symm), h⟩)
    · refine g_iconst hF (1) dX10_isLine_24 25 rfl rfl ?_
      refine g_goto hF dX10_isLine_25 29 (by decide) ?_
      exact g_zret hF (rfl) dX10_isLine_29 (Nat.le_of_ble_eq_true rfl) (Nat.le_of_ble_eq_true rfl) (fun H h => hR _ _ ⟨congrArg (fun z => some (Value.int z)) ((if_neg (fun y => y.elim hgG (fun y => (in_gr n1 (by omega)).mp (iz1 c21) (by rw [← n0]; exact y)))).symm), h⟩)
set_option maxRecDepth 100000 in
set_option maxHeartbeats 16000000 in
theorem c_M_frees (g : Nat) (hg : g < 4) : Ct l E yX10_frees cX10_frees 3 (none) (rm 3) [.ref c, .int (nI g)] (Mm E c (flat v) pf im ss kp bk ws cm ls nq dd sd en wh ro) (rV none (Mm E c (flat (v.1, v.2.1, v.2.2.1, va_up v.2.2.2 g (gFree (v.2.2.2 g)))) pf im ss kp bk ws cm ls nq dd sd en wh ro)) (rg c 11) := by
  refine ct_start (by decide) [some (.ref c), some (.int (nI g)), none] rfl (Nat.le_of_ble_eq_true rfl) ?_
  intro x hF hN hA hR
  have loop : ∀ (n j : Nat) (i : Int32), 6 - j < n → j ≤ 6 → i = nI j → go l (rm 3) E x 0 0 (Mm E c (flat (v.1, v.2.1, v.2.2.1, va_up v.2.2.2 g (frX (v.2.2.2 g) j))) pf im ss kp bk ws cm ls nq dd sd en wh ro) [some (.ref c), some (.int (nI g)), some (.int i)] 9 [] := by
    intro n
    induction n with
    | zero => intro j i h; omega
    | succ n ih =>
      intro j i hn hj hi
      subst hi
      by_cases hlt : j < 6
      · refine g_iload_n hF dX10_frees_9 10 rfl rfl ?_
        refine g_bipush hF (6) dX10_frees_10 12 rfl rfl ?_
        refine g_icmp_ge hF dX10_frees_12 15 rfl 31 (by decide) (fun c => absurd c (fun y => absurd (i_le (a := 6) y (by omega) (by omega)) (by omega))) (fun _ => ?_)
        refine g_aload_n hF dX10_frees_15 16 rfl rfl ?_
        refine g_iload_n hF dX10_frees_16 17 rfl rfl ?_
        refine g_iload_n hF dX10_frees_17 18 rfl rfl ?_
        refine g_iconst hF (0) dX10_frees_18 19 rfl rfl ?_
        refine g_iconst hF (-1) dX10_frees_19 20 rfl rfl ?_
        refine g_iconst hF (-1) dX10_frees_20 21 rfl rfl ?_
        refine g_iconst hF (-1) dX10_frees_21 22 rfl rfl ?_
        refine g_callV hF cv_X10_62 (c_M_putL l E c (v.1, v.2.1, v.2.2.1, va_up v.2.2.2 g (frX (v.2.2.2 g) j)) pf im ss kp bk ws cm ls nq dd sd en wh ro g j 0 (-1) (-1) (-1) hg (by omega)) dX10_frees_22 25 rfl (st := []) rfl rfl ⟨Nat.le_of_ble_eq_true rfl, Nat.le_of_ble_eq_true rfl⟩ ⟨Nat.le_of_ble_eq_true rfl, Nat.le_of_ble_eq_true rfl⟩ rfl (Nat.le_of_ble_eq_true rfl) 10 rfl (by intro H h; first | exact h.1 | exact h.2.1 | exact h.2.2.1 | exact h.2.2.2.1 | exact h.2.2.2.2.1 | exact h.2.2.2.2.2.1 | exact h.2.2.2.2.2.2.1 | exact h.2.2.2.2.2.2.2.1 | exact h.2.2.2.2.2.2.2.2.1 | exact h.2.2.2.2.2.2.2.2.2.1 | exact h.2.2.2.2.2.2.2.2.2.2) (Pr' := Mm E c (flat (v.1, v.2.1, v.2.2.1, va_up v.2.2.2 g (frX (v.2.2.2 g) (j + 1)))) pf im ss kp bk ws cm ls nq dd sd en wh ro) (fun _ h => h) (hA) (fun H H' h h1 h2 => by dsimp only at h1; rw [va_up_up, va_up_self, frX_s] at h1; exact h1) (st1 := []) rfl (k1 := 0) (n1 := 0) rfl rfl ?_
        refine g_iinc hF dX10_frees_25 28 rfl (1) rfl (lo' := [_, _, _]) rfl rfl ?_
        refine g_goto hF dX10_frees_28 9 (by decide) ?_
        exact ih (j + 1) _ (by omega) (by omega) (nI_succ j).symm
      · obtain rfl : j = 6 := by omega
        refine g_iload_n hF dX10_frees_9 10 rfl rfl ?_
        refine g_bipush hF (6) dX10_frees_10 12 rfl rfl ?_
        refine g_icmp_ge hF dX10_frees_12 15 rfl 31 (by decide) (fun _ => ?_) (fun c => absurd (nI_le (a := 6) (by omega) (by omega)) c)
        exact g_vret hF dX10_frees_31 (Nat.le_of_ble_eq_true rfl) (Nat.le_of_ble_eq_true rfl) (fun H h => hR _ _ ⟨rfl, h.to (up_flat (fun w hw => frX_6 _ hw))⟩)
  refine g_aload_n hF dX10_frees_0 1 rfl rfl ?_
  refine g_iload_n hF dX10_frees_1 2 rfl rfl ?_
  refine g_iconst hF (5) dX10_frees_2 3 rfl rfl ?_
  refine g_iconst hF (-1) dX10_frees_3 4 rfl rfl ?_
  rw [show (5 : Int32) = nI 5 by decide]
  refine g_callV hF cv_X10_58 (c_M_put l E c v pf im ss kp bk ws cm ls nq dd sd en wh ro g 5 (-1) hg (by omega)) dX10_frees_4 7 rfl (st := []) rfl rfl ⟨Nat.le_of_ble_eq_true rfl, Nat.le_of_ble_eq_true rfl⟩ ⟨Nat.le_of_ble_eq_true rfl, Nat.le_of_ble_eq_true rfl⟩ rfl (Nat.le_of_ble_eq_true rfl) 10 rfl (by intro H h; first | exact h.1 | exact h.2.1 | exact h.2.2.1 | exact h.2.2.2.1 | exact h.2.2.2.2.1 | exact h.2.2.2.2.2.1 | exact h.2.2.2.2.2.2.1 | exact h.2.2.2.2.2.2.2.1 | exact h.2.2.2.2.2.2.2.2.1 | exact h.2.2.2.2.2.2.2.2.2.1 | exact h.2.2.2.2.2.2.2.2.2.2) (Pr' := Mm E c (flat (v.1, v.2.1, v.2.2.1, va_up v.2.2.2 g (frX (v.2.2.2 g) 0))) pf im ss kp bk ws cm ls nq dd sd en wh ro) (fun _ h => h) (hA) (fun H H' h h1 h2 => by unfold vput at h1; rw [frX_0] at h1; exact h1) (st1 := []) rfl (k1 := 0) (n1 := 0) rfl rfl ?_
  refine g_iconst hF (0) dX10_frees_7 8 rfl rfl ?_
  refine g_istore_n hF dX10_frees_8 9 rfl (lo' := [_, _, _]) (Nat.le_of_ble_eq_true rfl) rfl ?_
  exact loop 7 0 0 (by omega) (by omega) nI_0.symm
end MV2
def bdV (n : Int32) (g : Nat) : NV := (n, 0, 0, fun j => if j < g then g0 else fun _ => 0)
theorem g0_X : gFree (upd (upd (upd (fun _ => 0) 0 3) 1 2) 3 (-1)) = g0 := by
  unfold g0
  congr 1
  funext w
  by_cases h3 : w = 3
  · subst h3; rw [pk_us]; rfl
  · rw [pk_un h3]
    by_cases h1 : w = 1
    · subst h1; rw [pk_us]; rfl
    · rw [pk_un h1]
      by_cases h0 : w = 0
      · subst h0; rw [pk_us]; rfl
      · rw [pk_un h0, if_neg h0, if_neg h1, if_neg h3]
theorem bdV_s (n : Int32) (g : Nat) : ((n, 0, 0, va_up (bdV n g).2.2.2 g g0) : NV) = bdV n (g + 1) := by
  unfold bdV
  dsimp only
  congr 3
  funext j
  by_cases e : j = g
  · subst e; rw [va_up_self, if_pos (by omega)]
  · rw [va_up_ne _ _ e]
    by_cases h : j < g
    · rw [if_pos h, if_pos (by omega)]
    · rw [if_neg h, if_neg (by omega)]
set_option maxRecDepth 100000 in
set_option maxHeartbeats 16000000 in
theorem c_M_builds (l : Launch) (E : Ev) (c : Nat) (nw pf im : Nat → Int32) (ss : Nat → Int64) (kp bk : Nat → Int32) (ws : Nat → Int64) (cm ls nq : Nat → Int32) (dd : Int32) (sd : Int64) (en : Int32) (wh : Int64) (ro : Int32) (G : Nat) : Ct l E yX10_builds cX10_builds 3 none (rm 4) [.ref c, .int (nI G)] (Mm E c nw pf im ss kp bk ws cm ls nq dd sd en wh ro) (rV none (Mm E c (flat (v0 G)) pf im ss kp bk ws cm ls nq dd sd en wh ro)) (rg c 11) := by
  refine ct_start (by decide) [some (.ref c), some (.int (nI G)), none] rfl (Nat.le_of_ble_eq_true rfl) ?_
  intro x hF hN hA hR
  have loop2 : ∀ (n g : Nat) (i : Int32), 4 - g < n → g ≤ 4 → i = nI g → go l (rm 4) E x 0 0 (Mm E c (flat (bdV (nI G) g)) pf im ss kp bk ws cm ls nq dd sd en wh ro) [some (.ref c), some (.int (nI G)), some (.int i)] 31 [] := by
    intro n
    induction n with
    | zero => intro g i h; omega
    | succ n ih =>
      intro g i hn hg hi
      subst hi
      by_cases hlt : g < 4
      · have eg : (bdV (nI G) g).2.2.2 g = fun _ => 0 := if_neg (by omega)
        refine g_iload_n hF dX10_builds_31 32 rfl rfl ?_
        refine g_iconst hF (4) dX10_builds_32 33 rfl rfl ?_
        refine g_icmp_ge hF dX10_builds_33 36 rfl 68 (by decide) (fun c => absurd c (fun y => absurd (i_le (a := 4) y (by omega) (by omega)) (by omega))) (fun _ => ?_)
        refine g_aload_n hF dX10_builds_36 37 rfl rfl ?_
        refine g_iload_n hF dX10_builds_37 38 rfl rfl ?_
        refine g_iconst hF (0) dX10_builds_38 39 rfl rfl ?_
        refine g_iconst hF (3) dX10_builds_39 40 rfl rfl ?_
        rw [show (0 : Int32) = nI 0 by decide]
        refine g_callV hF cv_X10_58 (c_M_put l E c (bdV (nI G) g) pf im ss kp bk ws cm ls nq dd sd en wh ro g 0 3 hlt (by omega)) dX10_builds_40 43 rfl (st := []) rfl rfl ⟨Nat.le_of_ble_eq_true rfl, Nat.le_of_ble_eq_true rfl⟩ ⟨Nat.le_of_ble_eq_true rfl, Nat.le_of_ble_eq_true rfl⟩ rfl (Nat.le_of_ble_eq_true rfl) 10 rfl (by intro H h; first | exact h.1 | exact h.2.1 | exact h.2.2.1 | exact h.2.2.2.1 | exact h.2.2.2.2.1 | exact h.2.2.2.2.2.1 | exact h.2.2.2.2.2.2.1 | exact h.2.2.2.2.2.2.2.1 | exact h.2.2.2.2.2.2.2.2.1 | exact h.2.2.2.2.2.2.2.2.2.1 | exact h.2.2.2.2.2.2.2.2.2.2) (Pr' := Mm E c (flat ((bdV (nI G) g).1, (bdV (nI G) g).2.1, (bdV (nI G) g).2.2.1, va_up (bdV (nI G) g).2.2.2 g (upd ((bdV (nI G) g).2.2.2 g) 0 3))) pf im ss kp bk ws cm ls nq dd sd en wh ro) (fun _ h => h) (hA) (fun _ _ _ h _ => by exact h) (st1 := []) rfl (k1 := 0) (n1 := 0) rfl rfl ?_
        refine g_aload_n hF dX10_builds_43 44 rfl rfl ?_
        refine g_iload_n hF dX10_builds_44 45 rfl rfl ?_
        refine g_iconst hF (1) dX10_builds_45 46 rfl rfl ?_
        refine g_iconst hF (2) dX10_builds_46 47 rfl rfl ?_
        rw [show (1 : Int32) = nI 1 by decide]
        refine g_callV hF cv_X10_58 (c_M_put l E c ((bdV (nI G) g).1, (bdV (nI G) g).2.1, (bdV (nI G) g).2.2.1, va_up (bdV (nI G) g).2.2.2 g (upd ((bdV (nI G) g).2.2.2 g) 0 3)) pf im ss kp bk ws cm ls nq dd sd en wh ro g 1 2 hlt (by omega)) dX10_builds_47 50 rfl (st := []) rfl rfl ⟨Nat.le_of_ble_eq_true rfl, Nat.le_of_ble_eq_true rfl⟩ ⟨Nat.le_of_ble_eq_true rfl, Nat.le_of_ble_eq_true rfl⟩ rfl (Nat.le_of_ble_eq_true rfl) 10 rfl (by intro H h; first | exact h.1 | exact h.2.1 | exact h.2.2.1 | exact h.2.2.2.1 | exact h.2.2.2.2.1 | exact h.2.2.2.2.2.1 | exact h.2.2.2.2.2.2.1 | exact h.2.2.2.2.2.2.2.1 | exact h.2.2.2.2.2.2.2.2.1 | exact h.2.2.2.2.2.2.2.2.2.1 | exact h.2.2.2.2.2.2.2.2.2.2) (Pr' := Mm E c (flat ((bdV (nI G) g).1, (bdV (nI G) g).2.1, (bdV (nI G) g).2.2.1, va_up (bdV (nI G) g).2.2.2 g (upd (upd ((bdV (nI G) g).2.2.2 g) 0 3) 1 2))) pf im ss kp bk ws cm ls nq dd sd en wh ro) (fun _ h => h) (hA) (fun H H' h h1 h2 => by rw [vput_up] at h1; exact h1) (st1 := []) rfl (k1 := 0) (n1 := 0) rfl rfl ?_
        refine g_aload_n hF dX10_builds_50 51 rfl rfl ?_
        refine g_iload_n hF dX10_builds_51 52 rfl rfl ?_
        refine g_iconst hF (3) dX10_builds_52 53 rfl rfl ?_
        refine g_iconst hF (-1) dX10_builds_53 54 rfl rfl ?_
        rw [show (3 : Int32) = nI 3 by decide]
        refine g_callV hF cv_X10_58 (c_M_put l E c ((bdV (nI G) g).1, (bdV (nI G) g).2.1, (bdV (nI G) g).2.2.1, va_up (bdV (nI G) g).2.2.2 g (upd (upd ((bdV (nI G) g).2.2.2 g) 0 3) 1 2)) pf im ss kp bk ws cm ls nq dd sd en wh ro g 3 (-1) hlt (by omega)) dX10_builds_54 57 rfl (st := []) rfl rfl ⟨Nat.le_of_ble_eq_true rfl, Nat.le_of_ble_eq_true rfl⟩ ⟨Nat.le_of_ble_eq_true rfl, Nat.le_of_ble_eq_true rfl⟩ rfl (Nat.le_of_ble_eq_true rfl) 10 rfl (by intro H h; first | exact h.1 | exact h.2.1 | exact h.2.2.1 | exact h.2.2.2.1 | exact h.2.2.2.2.1 | exact h.2.2.2.2.2.1 | exact h.2.2.2.2.2.2.1 | exact h.2.2.2.2.2.2.2.1 | exact h.2.2.2.2.2.2.2.2.1 | exact h.2.2.2.2.2.2.2.2.2.1 | exact h.2.2.2.2.2.2.2.2.2.2) (Pr' := Mm E c (flat ((bdV (nI G) g).1, (bdV (nI G) g).2.1, (bdV (nI G) g).2.2.1, va_up (bdV (nI G) g).2.2.2 g (upd (upd (upd ((bdV (nI G) g).2.2.2 g) 0 3) 1 2) 3 (-1)))) pf im ss kp bk ws cm ls nq dd sd en wh ro) (fun _ h => h) (hA) (fun H H' h h1 h2 => by rw [vput_up] at h1; exact h1) (st1 := []) rfl (k1 := 0) (n1 := 0) rfl rfl ?_
        refine g_aload_n hF dX10_builds_57 58 rfl rfl ?_
        refine g_iload_n hF dX10_builds_58 59 rfl rfl ?_
        refine g_callV hF cv_X10_66 (c_M_frees l E c ((bdV (nI G) g).1, (bdV (nI G) g).2.1, (bdV (nI G) g).2.2.1, va_up (bdV (nI G) g).2.2.2 g (upd (upd (upd ((bdV (nI G) g).2.2.2 g) 0 3) 1 2) 3 (-1))) pf im ss kp bk ws cm ls nq dd sd en wh ro g hlt) dX10_builds_59 62 rfl (st := []) rfl rfl ⟨Nat.le_of_ble_eq_true rfl, Nat.le_of_ble_eq_true rfl⟩ ⟨Nat.le_of_ble_eq_true rfl, Nat.le_of_ble_eq_true rfl⟩ rfl (Nat.le_of_ble_eq_true rfl) 10 rfl (by intro H h; first | exact h.1 | exact h.2.1 | exact h.2.2.1 | exact h.2.2.2.1 | exact h.2.2.2.2.1 | exact h.2.2.2.2.2.1 | exact h.2.2.2.2.2.2.1 | exact h.2.2.2.2.2.2.2.1 | exact h.2.2.2.2.2.2.2.2.1 | exact h.2.2.2.2.2.2.2.2.2.1 | exact h.2.2.2.2.2.2.2.2.2.2) (Pr' := Mm E c (flat (bdV (nI G) (g + 1))) pf im ss kp bk ws cm ls nq dd sd en wh ro) (fun _ h => h) (hA) (fun H H' h h1 h2 => by dsimp only at h1; rw [va_up_up, va_up_self, eg, g0_X] at h1; rw [← bdV_s]; exact h1) (st1 := []) rfl (k1 := 0) (n1 := 0) rfl rfl ?_
        refine g_iinc hF dX10_builds_62 65 rfl (1) rfl (lo' := [_, _, _]) rfl rfl ?_
        refine g_goto hF dX10_builds_65 31 (by decide) ?_
        exact ih (g + 1) _ (by omega) (by omega) (nI_succ g).symm
      · obtain rfl : g = 4 := by omega
        refine g_iload_n hF dX10_builds_31 32 rfl rfl ?_
        refine g_iconst hF (4) dX10_builds_32 33 rfl rfl ?_
        refine g_icmp_ge hF dX10_builds_33 36 rfl 68 (by decide) (fun _ => ?_) (fun c => absurd (nI_le (a := 4) (by omega) (by omega)) c)
        exact g_vret hF dX10_builds_68 (Nat.le_of_ble_eq_true rfl) (Nat.le_of_ble_eq_true rfl) (fun H h => hR _ _ ⟨rfl, h.to (flat_congr rfl rfl rfl (fun j hj k _ => congrFun (if_pos hj) k))⟩)
  have loop1 : ∀ (n j : Nat) (i : Int32), 139 - j < n → j ≤ 139 → i = nI j → go l (rm 4) E x 0 0 (Mm E c (fun k => if k < j then 0 else nw k) pf im ss kp bk ws cm ls nq dd sd en wh ro) [some (.ref c), some (.int (nI G)), some (.int i)] 2 [] := by
    intro n
    induction n with
    | zero => intro j i h; omega
    | succ n ih =>
      intro j i hn hj hi
      subst hi
      by_cases hlt : j < 139
      · refine g_iload_n hF dX10_builds_2 3 rfl rfl ?_
        refine g_sipush hF (139) dX10_builds_3 6 rfl rfl ?_
        refine g_icmp_ge hF dX10_builds_6 9 rfl 22 (by decide) (fun c => absurd c (fun y => absurd (i_le (a := 139) y (by omega) (by omega)) (by omega))) (fun _ => ?_)
        refine g_aload_n hF dX10_builds_9 10 rfl rfl ?_
        refine g_get hF fl_X10_7 dX10_builds_10 13 rfl (by intro H h; first | exact h.1 | exact h.2.1 | exact h.2.2.1 | exact h.2.2.2.1 | exact h.2.2.2.2.1 | exact h.2.2.2.2.2.1 | exact h.2.2.2.2.2.2.1 | exact h.2.2.2.2.2.2.2.1 | exact h.2.2.2.2.2.2.2.2.1 | exact h.2.2.2.2.2.2.2.2.2.1 | exact h.2.2.2.2.2.2.2.2.2.2) rfl ?_
        refine g_iload_n hF dX10_builds_13 14 rfl rfl ?_
        refine g_iconst hF (0) dX10_builds_14 15 rfl rfl ?_
        refine g_iast hF dX10_builds_15 16 rfl (by intro H h; first | exact h.1 | exact h.2.1 | exact h.2.2.1 | exact h.2.2.2.1 | exact h.2.2.2.2.1 | exact h.2.2.2.2.2.1 | exact h.2.2.2.2.2.2.1 | exact h.2.2.2.2.2.2.2.1 | exact h.2.2.2.2.2.2.2.2.1 | exact h.2.2.2.2.2.2.2.2.2.1 | exact h.2.2.2.2.2.2.2.2.2.2) (vp_in_nI hlt (by omega)) (hA _ ⟨by omega, by omega⟩) (Pr' := Mm E c (fun k => if k < j + 1 then 0 else nw k) pf im ss kp bk ws cm ls nq dd sd en wh ro) (fun H H' h h1 h2 => by rw [nI_clamp (by omega)] at h1; exact (h.nw h1 h2).to (fun k _ => by by_cases e : k = j; subst e; rw [pk_us, if_pos (by omega)]; rw [pk_un e]; by_cases q : k < j; rw [if_pos q, if_pos (by omega)]; rw [if_neg q, if_neg (by omega)])) ?_
        refine g_iinc hF dX10_builds_16 19 rfl (1) rfl (lo' := [_, _, _]) rfl rfl ?_
        refine g_goto hF dX10_builds_19 2 (by decide) ?_
        exact ih (j + 1) _ (by omega) (by omega) (nI_succ j).symm
      · obtain rfl : j = 139 := by omega
        refine g_iload_n hF dX10_builds_2 3 rfl rfl ?_
        refine g_sipush hF (139) dX10_builds_3 6 rfl rfl ?_
        refine g_icmp_ge hF dX10_builds_6 9 rfl 22 (by decide) (fun _ => ?_) (fun c => absurd (nI_le (a := 139) (by omega) (by omega)) c)
        refine g_aload_n hF dX10_builds_22 23 rfl rfl ?_
        refine g_get hF fl_X10_7 dX10_builds_23 26 rfl (by intro H h; first | exact h.1 | exact h.2.1 | exact h.2.2.1 | exact h.2.2.2.1 | exact h.2.2.2.2.1 | exact h.2.2.2.2.2.1 | exact h.2.2.2.2.2.2.1 | exact h.2.2.2.2.2.2.2.1 | exact h.2.2.2.2.2.2.2.2.1 | exact h.2.2.2.2.2.2.2.2.2.1 | exact h.2.2.2.2.2.2.2.2.2.2) rfl ?_
        refine g_iconst hF (0) dX10_builds_26 27 rfl rfl ?_
        refine g_iload_n hF dX10_builds_27 28 rfl rfl ?_
        refine g_iast hF dX10_builds_28 29 rfl (by intro H h; first | exact h.1 | exact h.2.1 | exact h.2.2.1 | exact h.2.2.2.1 | exact h.2.2.2.2.1 | exact h.2.2.2.2.2.1 | exact h.2.2.2.2.2.2.1 | exact h.2.2.2.2.2.2.2.1 | exact h.2.2.2.2.2.2.2.2.1 | exact h.2.2.2.2.2.2.2.2.2.1 | exact h.2.2.2.2.2.2.2.2.2.2) (vp_in_nI (show 0 < 139 by omega) (by omega)) (hA _ ⟨by omega, by omega⟩) (Pr' := Mm E c (flat (bdV (nI G) 0)) pf im ss kp bk ws cm ls nq dd sd en wh ro) (fun H H' h h1 h2 => by rw [show (0 : Int32).toNatClampNeg = 0 by decide] at h1; exact (h.nw h1 h2).to (fun k hk => by by_cases e : k = 0; subst e; rw [pk_us]; rfl; rw [pk_un e, if_pos hk]; unfold flat bdV; rw [if_neg e]; dsimp only; split; rfl; split; rfl; rw [if_neg (by omega)])) ?_
        refine g_iconst hF (0) dX10_builds_29 30 rfl rfl ?_
        refine g_istore_n hF dX10_builds_30 31 rfl (lo' := [_, _, _]) (Nat.le_of_ble_eq_true rfl) rfl ?_
        exact loop2 5 0 0 (by omega) (by omega) nI_0.symm
  refine g_iconst hF (0) dX10_builds_0 1 rfl rfl ?_
  refine g_istore_n hF dX10_builds_1 2 rfl (lo' := [_, _, _]) (Nat.le_of_ble_eq_true rfl) rfl ?_
  refine g_pr (fun H h => ?_) (loop1 140 0 0 (by omega) (by omega) nI_0.symm)
  exact Mm.to h (fun k _ => (if_neg (by omega)).symm)
section MV3
variable (l : Launch) (E : Ev) (c : Nat) (v : NV) (pf im : Nat → Int32) (ss : Nat → Int64) (kp bk : Nat → Int32) (ws : Nat → Int64) (cm ls nq : Nat → Int32) (dd : Int32) (sd : Int64) (en : Int32) (wh : Int64) (ro : Int32)
theorem ix139 {g w : Nat} : 139 * nI g + nI w = nI (139 * g + w) := by
  rw [show (139 : Int32) = nI 139 by decide, pk_mul, nI_add]
def cpF (pf : Nat → Int32) (d : Nat) (f : Nat → Int32) (i : Nat) : Nat → Int32 := fun k => if 139 * d ≤ k ∧ k < 139 * d + i then f (k - 139 * d) else pf k
theorem cpF_s (pf : Nat → Int32) (d : Nat) (f : Nat → Int32) (i k : Nat) : upd (cpF pf d f i) (139 * d + i) (f i) k = cpF pf d f (i + 1) k := by
  unfold cpF
  by_cases e : k = 139 * d + i
  · subst e; rw [pk_us, if_pos (by omega), show 139 * d + i - 139 * d = i by omega]
  · rw [pk_un e]
    by_cases q : 139 * d ≤ k ∧ k < 139 * d + i
    · rw [if_pos q, if_pos (by omega)]
    · rw [if_neg q, if_neg (by omega)]
theorem Mm.pt {E : Ev} {c : Nat} {nw pf im : Nat → Int32} {ss : Nat → Int64} {kp bk : Nat → Int32} {ws : Nat → Int64} {cm ls nq : Nat → Int32} {dd : Int32} {sd : Int64} {en : Int32} {wh : Int64} {ro : Int32} {w' : Nat → Int32} {H : Heap} (h : Mm E c nw pf im ss kp bk ws cm ls nq dd sd en wh ro H) (e : ∀ k, k < 2780 → pf k = w' k) : Mm E c nw w' im ss kp bk ws cm ls nq dd sd en wh ro H := ⟨h.1, h.2.1, ai_congr e h.2.2.1, h.2.2.2⟩
set_option maxRecDepth 100000 in
set_option maxHeartbeats 16000000 in
theorem c_M_notes (hv : Nat → NV) (d : Nat) (hd : d ≤ 20) (hp : (∀ j, j < d → ∀ k, k < 139 → pf (139 * j + k) = flat (hv j) k)) : Ct l E yX10_notes cX10_notes 2 none (rm 1) [.ref c] (Mm E c (flat v) pf im ss kp bk ws cm ls nq (nI d) sd en wh ro) (rV none (fun H => ∃ pf', (∀ j, j < pushD d → ∀ k, k < 139 → pf' (139 * j + k) = flat (pushH hv d v j) k) ∧ Mm E c (flat v) pf' im ss kp bk ws cm ls nq (nI (pushD d)) sd en wh ro H)) (rg c 11) := by
  refine ct_start (by decide) [some (.ref c), none] rfl (Nat.le_of_ble_eq_true rfl) ?_
  intro x hF hN hA hR
  have copy : ∀ (pf : Nat → Int32) (e : Nat), e < 20 → e + 1 = pushD d → (∀ j, j < pushD d → ∀ k, k < 139 → cpF pf e (flat v) 139 (139 * j + k) = flat (pushH hv d v j) k) → ∀ (n j : Nat) (i : Int32), 139 - j < n → j ≤ 139 → i = nI j → go l (rm 1) E x 0 0 (Mm E c (flat v) (cpF pf e (flat v) j) im ss kp bk ws cm ls nq (nI e) sd en wh ro) [some (.ref c), some (.int i)] 52 [] := by
    intro pf e he hed hq n
    induction n with
    | zero => intro j i h; omega
    | succ n ih =>
      intro j i hn hj hi
      subst hi
      by_cases hlt : j < 139
      · refine g_iload_n hF dX10_notes_52 53 rfl rfl ?_
        refine g_sipush hF (139) dX10_notes_53 56 rfl rfl ?_
        refine g_icmp_ge hF dX10_notes_56 59 rfl 86 (by decide) (fun c => absurd c (fun y => absurd (i_le (a := 139) y (by omega) (by omega)) (by omega))) (fun _ => ?_)
        refine g_aload_n hF dX10_notes_59 60 rfl rfl ?_
        refine g_get hF fl_X10_13 dX10_notes_60 63 rfl (by intro H h; first | exact h.1 | exact h.2.1 | exact h.2.2.1 | exact h.2.2.2.1 | exact h.2.2.2.2.1 | exact h.2.2.2.2.2.1 | exact h.2.2.2.2.2.2.1 | exact h.2.2.2.2.2.2.2.1 | exact h.2.2.2.2.2.2.2.2.1 | exact h.2.2.2.2.2.2.2.2.2.1 | exact h.2.2.2.2.2.2.2.2.2.2) rfl ?_
        refine g_sipush hF (139) dX10_notes_63 66 rfl rfl ?_
        refine g_aload_n hF dX10_notes_66 67 rfl rfl ?_
        refine g_get hF fl_X10_69 dX10_notes_67 70 rfl (by intro H h; first | exact h.1 | exact h.2.1 | exact h.2.2.1 | exact h.2.2.2.1 | exact h.2.2.2.2.1 | exact h.2.2.2.2.2.1 | exact h.2.2.2.2.2.2.1 | exact h.2.2.2.2.2.2.2.1 | exact h.2.2.2.2.2.2.2.2.1 | exact h.2.2.2.2.2.2.2.2.2.1 | exact h.2.2.2.2.2.2.2.2.2.2) rfl ?_
        refine g_imul hF dX10_notes_70 71 rfl ?_
        refine g_iload_n hF dX10_notes_71 72 rfl rfl ?_
        refine g_iadd hF dX10_notes_72 73 rfl ?_
        rw [ix139]
        refine g_aload_n hF dX10_notes_73 74 rfl rfl ?_
        refine g_get hF fl_X10_7 dX10_notes_74 77 rfl (by intro H h; first | exact h.1 | exact h.2.1 | exact h.2.2.1 | exact h.2.2.2.1 | exact h.2.2.2.2.1 | exact h.2.2.2.2.2.1 | exact h.2.2.2.2.2.2.1 | exact h.2.2.2.2.2.2.2.1 | exact h.2.2.2.2.2.2.2.2.1 | exact h.2.2.2.2.2.2.2.2.2.1 | exact h.2.2.2.2.2.2.2.2.2.2) rfl ?_
        refine g_iload_n hF dX10_notes_77 78 rfl rfl ?_
        refine g_iald hF dX10_notes_78 79 rfl (by intro H h; first | exact h.1 | exact h.2.1 | exact h.2.2.1 | exact h.2.2.2.1 | exact h.2.2.2.2.1 | exact h.2.2.2.2.2.1 | exact h.2.2.2.2.2.2.1 | exact h.2.2.2.2.2.2.2.1 | exact h.2.2.2.2.2.2.2.2.1 | exact h.2.2.2.2.2.2.2.2.2.1 | exact h.2.2.2.2.2.2.2.2.2.2) (vp_in_nI hlt (by omega)) ?_
        rw [nI_clamp (by omega)]
        refine g_iast hF dX10_notes_79 80 rfl (by intro H h; first | exact h.1 | exact h.2.1 | exact h.2.2.1 | exact h.2.2.2.1 | exact h.2.2.2.2.1 | exact h.2.2.2.2.2.1 | exact h.2.2.2.2.2.2.1 | exact h.2.2.2.2.2.2.2.1 | exact h.2.2.2.2.2.2.2.2.1 | exact h.2.2.2.2.2.2.2.2.2.1 | exact h.2.2.2.2.2.2.2.2.2.2) (vp_in_nI (show 139 * e + j < 2780 by omega) (by omega)) (hA _ ⟨by omega, by omega⟩) (Pr' := Mm E c (flat v) (cpF pf e (flat v) (j + 1)) im ss kp bk ws cm ls nq (nI e) sd en wh ro) (fun H H' h h1 h2 => by rw [nI_clamp (by omega)] at h1; exact (h.pf h1 h2).pt (fun k _ => cpF_s pf e (flat v) j k)) ?_
        refine g_iinc hF dX10_notes_80 83 rfl (1) rfl (lo' := [_, _]) rfl rfl ?_
        refine g_goto hF dX10_notes_83 52 (by decide) ?_
        exact ih (j + 1) _ (by omega) (by omega) (nI_succ j).symm
      · obtain rfl : j = 139 := by omega
        refine g_iload_n hF dX10_notes_52 53 rfl rfl ?_
        refine g_sipush hF (139) dX10_notes_53 56 rfl rfl ?_
        refine g_icmp_ge hF dX10_notes_56 59 rfl 86 (by decide) (fun _ => ?_) (fun c => absurd (nI_le (a := 139) (by omega) (by omega)) c)
        refine g_aload_n hF dX10_notes_86 87 rfl rfl ?_
        refine g_dup hF dX10_notes_87 88 rfl rfl ?_
        refine g_get hF fl_X10_69 dX10_notes_88 91 rfl (by intro H h; first | exact h.1 | exact h.2.1 | exact h.2.2.1 | exact h.2.2.2.1 | exact h.2.2.2.2.1 | exact h.2.2.2.2.2.1 | exact h.2.2.2.2.2.2.1 | exact h.2.2.2.2.2.2.2.1 | exact h.2.2.2.2.2.2.2.2.1 | exact h.2.2.2.2.2.2.2.2.2.1 | exact h.2.2.2.2.2.2.2.2.2.2) rfl ?_
        refine g_iconst hF (1) dX10_notes_91 92 rfl rfl ?_
        refine g_iadd hF dX10_notes_92 93 rfl ?_
        rw [nI_1, hed]
        refine g_put hF pl_X10_69 dX10_notes_93 96 rfl (by intro H h; first | exact h.1 | exact h.2.1 | exact h.2.2.1 | exact h.2.2.2.1 | exact h.2.2.2.2.1 | exact h.2.2.2.2.2.1 | exact h.2.2.2.2.2.2.1 | exact h.2.2.2.2.2.2.2.1 | exact h.2.2.2.2.2.2.2.2.1 | exact h.2.2.2.2.2.2.2.2.2.1 | exact h.2.2.2.2.2.2.2.2.2.2) (Nat.le_of_ble_eq_true rfl) rfl rfl (hA _ ⟨by omega, by omega⟩) (Pr' := Mm E c (flat v) (cpF pf e (flat v) 139) im ss kp bk ws cm ls nq (nI (pushD d)) sd en wh ro) (fun H H' h h1 h2 => by exact h.fld h1 h2) ?_
        exact g_vret hF dX10_notes_96 (Nat.le_of_ble_eq_true rfl) (Nat.le_of_ble_eq_true rfl) (fun H h => hR _ _ ⟨rfl, ⟨_, hq, h⟩⟩)
  by_cases h20 : d = 20
  · subst h20
    have shift : ∀ (n j : Nat) (i : Int32), 2641 - j < n → j ≤ 2641 → i = nI j → go l (rm 1) E x 0 0 (Mm E c (flat v) (fun k => if k < j then pf (k + 139) else pf k) im ss kp bk ws cm ls nq (nI 20) sd en wh ro) [some (.ref c), some (.int i)] 11 [] := by
      intro n
      induction n with
      | zero => intro j i h; omega
      | succ n ih =>
        intro j i hn hj hi
        subst hi
        by_cases hlt : j < 2641
        · refine g_iload_n hF dX10_notes_11 12 rfl rfl ?_
          refine g_sipush hF (2641) dX10_notes_12 15 rfl rfl ?_
          refine g_icmp_ge hF dX10_notes_15 18 rfl 40 (by decide) (fun c => absurd c (fun y => absurd (i_le (a := 2641) y (by omega) (by omega)) (by omega))) (fun _ => ?_)
          refine g_aload_n hF dX10_notes_18 19 rfl rfl ?_
          refine g_get hF fl_X10_13 dX10_notes_19 22 rfl (by intro H h; first | exact h.1 | exact h.2.1 | exact h.2.2.1 | exact h.2.2.2.1 | exact h.2.2.2.2.1 | exact h.2.2.2.2.2.1 | exact h.2.2.2.2.2.2.1 | exact h.2.2.2.2.2.2.2.1 | exact h.2.2.2.2.2.2.2.2.1 | exact h.2.2.2.2.2.2.2.2.2.1 | exact h.2.2.2.2.2.2.2.2.2.2) rfl ?_
          refine g_iload_n hF dX10_notes_22 23 rfl rfl ?_
          refine g_aload_n hF dX10_notes_23 24 rfl rfl ?_
          refine g_get hF fl_X10_13 dX10_notes_24 27 rfl (by intro H h; first | exact h.1 | exact h.2.1 | exact h.2.2.1 | exact h.2.2.2.1 | exact h.2.2.2.2.1 | exact h.2.2.2.2.2.1 | exact h.2.2.2.2.2.2.1 | exact h.2.2.2.2.2.2.2.1 | exact h.2.2.2.2.2.2.2.2.1 | exact h.2.2.2.2.2.2.2.2.2.1 | exact h.2.2.2.2.2.2.2.2.2.2) rfl ?_
          refine g_iload_n hF dX10_notes_27 28 rfl rfl ?_
          refine g_sipush hF (139) dX10_notes_28 31 rfl rfl ?_
          refine g_iadd hF dX10_notes_31 32 rfl ?_
          rw [show (139 : Int32) = nI 139 by decide, nI_add]
          refine g_iald hF dX10_notes_32 33 rfl (by intro H h; first | exact h.1 | exact h.2.1 | exact h.2.2.1 | exact h.2.2.2.1 | exact h.2.2.2.2.1 | exact h.2.2.2.2.2.1 | exact h.2.2.2.2.2.2.1 | exact h.2.2.2.2.2.2.2.1 | exact h.2.2.2.2.2.2.2.2.1 | exact h.2.2.2.2.2.2.2.2.2.1 | exact h.2.2.2.2.2.2.2.2.2.2) (vp_in_nI (show j + 139 < 2780 by omega) (by omega)) ?_
          rw [nI_clamp (by omega), if_neg (show ¬ j + 139 < j by omega)]
          refine g_iast hF dX10_notes_33 34 rfl (by intro H h; first | exact h.1 | exact h.2.1 | exact h.2.2.1 | exact h.2.2.2.1 | exact h.2.2.2.2.1 | exact h.2.2.2.2.2.1 | exact h.2.2.2.2.2.2.1 | exact h.2.2.2.2.2.2.2.1 | exact h.2.2.2.2.2.2.2.2.1 | exact h.2.2.2.2.2.2.2.2.2.1 | exact h.2.2.2.2.2.2.2.2.2.2) (vp_in_nI (show j < 2780 by omega) (by omega)) (hA _ ⟨by omega, by omega⟩) (Pr' := Mm E c (flat v) (fun k => if k < j + 1 then pf (k + 139) else pf k) im ss kp bk ws cm ls nq (nI 20) sd en wh ro) (fun H H' h h1 h2 => by rw [nI_clamp (by omega)] at h1; exact (h.pf h1 h2).pt (fun k _ => by by_cases e : k = j; subst e; rw [pk_us, if_pos (by omega)]; rw [pk_un e]; by_cases q : k < j; rw [if_pos q, if_pos (by omega)]; rw [if_neg q, if_neg (by omega)])) ?_
          refine g_iinc hF dX10_notes_34 37 rfl (1) rfl (lo' := [_, _]) rfl rfl ?_
          refine g_goto hF dX10_notes_37 11 (by decide) ?_
          exact ih (j + 1) _ (by omega) (by omega) (nI_succ j).symm
        · obtain rfl : j = 2641 := by omega
          refine g_iload_n hF dX10_notes_11 12 rfl rfl ?_
          refine g_sipush hF (2641) dX10_notes_12 15 rfl rfl ?_
          refine g_icmp_ge hF dX10_notes_15 18 rfl 40 (by decide) (fun _ => ?_) (fun c => absurd (nI_le (a := 2641) (by omega) (by omega)) c)
          refine g_aload_n hF dX10_notes_40 41 rfl rfl ?_
          refine g_dup hF dX10_notes_41 42 rfl rfl ?_
          refine g_get hF fl_X10_69 dX10_notes_42 45 rfl (by intro H h; first | exact h.1 | exact h.2.1 | exact h.2.2.1 | exact h.2.2.2.1 | exact h.2.2.2.2.1 | exact h.2.2.2.2.2.1 | exact h.2.2.2.2.2.2.1 | exact h.2.2.2.2.2.2.2.1 | exact h.2.2.2.2.2.2.2.2.1 | exact h.2.2.2.2.2.2.2.2.2.1 | exact h.2.2.2.2.2.2.2.2.2.2) rfl ?_
          refine g_iconst hF (1) dX10_notes_45 46 rfl rfl ?_
          refine g_isub hF dX10_notes_46 47 rfl ?_
          rw [nI_pred 19]
          refine g_put hF pl_X10_69 dX10_notes_47 50 rfl (by intro H h; first | exact h.1 | exact h.2.1 | exact h.2.2.1 | exact h.2.2.2.1 | exact h.2.2.2.2.1 | exact h.2.2.2.2.2.1 | exact h.2.2.2.2.2.2.1 | exact h.2.2.2.2.2.2.2.1 | exact h.2.2.2.2.2.2.2.2.1 | exact h.2.2.2.2.2.2.2.2.2.1 | exact h.2.2.2.2.2.2.2.2.2.2) (Nat.le_of_ble_eq_true rfl) rfl rfl (hA _ ⟨by omega, by omega⟩) (Pr' := Mm E c (flat v) (fun k => if k < 2641 then pf (k + 139) else pf k) im ss kp bk ws cm ls nq (nI 19) sd en wh ro) (fun H H' h h1 h2 => by exact h.fld h1 h2) ?_
          refine g_iconst hF (0) dX10_notes_50 51 rfl rfl ?_
          refine g_istore_n hF dX10_notes_51 52 rfl (lo' := [_, _]) (Nat.le_of_ble_eq_true rfl) rfl ?_
          refine g_pr (fun H h => ?_) (copy (fun k => if k < 2641 then pf (k + 139) else pf k) 19 (by omega) rfl ?_ 140 0 0 (by omega) (by omega) nI_0.symm)
          · exact h.pt (fun k _ => (if_neg (by omega)).symm)
          · intro j hj k hk
            have hj20 : j < 20 := hj
            rw [show pushH hv 20 v = (fun j => if j = 19 then v else hv (j + 1)) from if_neg (by omega)]
            show cpF _ 19 (flat v) 139 (139 * j + k) = flat (if j = 19 then v else hv (j + 1)) k
            unfold cpF
            by_cases e : j = 19
            · subst e; rw [if_pos (show 139 * 19 ≤ 139 * 19 + k ∧ 139 * 19 + k < 139 * 19 + 139 by omega), if_pos rfl, show 139 * 19 + k - 139 * 19 = k by omega]
            · rw [if_neg (show ¬ (139 * 19 ≤ 139 * j + k ∧ 139 * j + k < 139 * 19 + 139) by omega), if_neg e]
              show (if 139 * j + k < 2641 then pf (139 * j + k + 139) else pf (139 * j + k)) = _
              rw [if_pos (show 139 * j + k < 2641 by omega), show 139 * j + k + 139 = 139 * (j + 1) + k by omega]
              exact hp (j + 1) (by omega) k hk
    refine g_aload_n hF dX10_notes_0 1 rfl rfl ?_
    refine g_get hF fl_X10_69 dX10_notes_1 4 rfl (by intro H h; first | exact h.1 | exact h.2.1 | exact h.2.2.1 | exact h.2.2.2.1 | exact h.2.2.2.2.1 | exact h.2.2.2.2.2.1 | exact h.2.2.2.2.2.2.1 | exact h.2.2.2.2.2.2.2.1 | exact h.2.2.2.2.2.2.2.2.1 | exact h.2.2.2.2.2.2.2.2.2.1 | exact h.2.2.2.2.2.2.2.2.2.2) rfl ?_
    refine g_bipush hF (20) dX10_notes_4 6 rfl rfl ?_
    refine g_icmp_ne hF dX10_notes_6 9 rfl 50 (by decide) (fun c => absurd (rfl) c) (fun _ => ?_)
    refine g_iconst hF (0) dX10_notes_9 10 rfl rfl ?_
    refine g_istore_n hF dX10_notes_10 11 rfl (lo' := [_, _]) (Nat.le_of_ble_eq_true rfl) rfl ?_
    refine g_pr (fun H h => ?_) (shift 2642 0 0 (by omega) (by omega) nI_0.symm)
    exact Mm.pt h (fun k _ => (if_neg (by omega)).symm)
  · refine g_aload_n hF dX10_notes_0 1 rfl rfl ?_
    refine g_get hF fl_X10_69 dX10_notes_1 4 rfl (by intro H h; first | exact h.1 | exact h.2.1 | exact h.2.2.1 | exact h.2.2.2.1 | exact h.2.2.2.2.1 | exact h.2.2.2.2.2.1 | exact h.2.2.2.2.2.2.1 | exact h.2.2.2.2.2.2.2.1 | exact h.2.2.2.2.2.2.2.2.1 | exact h.2.2.2.2.2.2.2.2.2.1 | exact h.2.2.2.2.2.2.2.2.2.2) rfl ?_
    refine g_bipush hF (20) dX10_notes_4 6 rfl rfl ?_
    refine g_icmp_ne hF dX10_notes_6 9 rfl 50 (by decide) (fun _ => ?_) (fun c => absurd c (fun y => h20 ((nI_eq (b := 20) (by omega) (by omega)).mp y)))
    refine g_iconst hF (0) dX10_notes_50 51 rfl rfl ?_
    refine g_istore_n hF dX10_notes_51 52 rfl (lo' := [_, _]) (Nat.le_of_ble_eq_true rfl) rfl ?_
    refine g_pr (fun H h => ?_) (copy pf d (by omega) (if_pos (show d < 20 by omega)).symm ?_ 140 0 0 (by omega) (by omega) nI_0.symm)
    · exact Mm.pt h (fun k _ => (if_neg (by omega)).symm)
    · intro j hj k hk
      unfold pushD at hj
      rw [if_pos (by omega)] at hj
      unfold cpF pushH
      rw [if_pos (show d < 20 by omega)]
      by_cases e : j = d
      · subst e; rw [if_pos (by omega), va_up_self, show 139 * j + k - 139 * j = k by omega]
      · rw [if_neg (by omega), va_up_ne _ _ e]
        exact hp j (by omega) k hk
set_option maxRecDepth 100000 in
set_option maxHeartbeats 16000000 in
theorem c_M_held (T : Nat) (hv0 : okV T v) : Ct l E yX10_held cX10_held 3 (some .int) (rm 4) [.ref c] (Mm E c (flat v) pf im ss kp bk ws cm ls nq dd sd en wh ro) (rV (some (.int (sHeld v.2.2.2 v.1.toNatClampNeg))) (Mm E c (flat v) pf im ss kp bk ws cm ls nq dd sd en wh ro)) (fun _ => False) := by
  refine ct_start (by decide) [some (.ref c), none, none] rfl (Nat.le_of_ble_eq_true rfl) ?_
  intro x hF hN hA hR
  obtain ⟨G, hG, G1, G4, hGc, ho, hn⟩ := okN hv0
  rw [hGc] at hR
  have e0 : flat v (0 : Int32).toNatClampNeg = nI G := hG
  have loop : ∀ (n j : Nat) (s i : Int32), G - j < n → j ≤ G → s = sHeld v.2.2.2 j → i = nI j → go l (rm 4) E x 0 0 (Mm E c (flat v) pf im ss kp bk ws cm ls nq dd sd en wh ro) [some (.ref c), some (.int s), some (.int i)] 4 [] := by
    intro n
    induction n with
    | zero => intro j s i h; omega
    | succ n ih =>
      intro j s i hn1 hj hs hi
      subst hi
      by_cases hlt : j < G
      · obtain ⟨N, n6, n0⟩ := hn j (by omega)
        refine g_iload_n hF dX10_held_4 5 rfl rfl ?_
        refine g_aload_n hF dX10_held_5 6 rfl rfl ?_
        refine g_get hF fl_X10_7 dX10_held_6 9 rfl (by intro H h; first | exact h.1 | exact h.2.1 | exact h.2.2.1 | exact h.2.2.2.1 | exact h.2.2.2.2.1 | exact h.2.2.2.2.2.1 | exact h.2.2.2.2.2.2.1 | exact h.2.2.2.2.2.2.2.1 | exact h.2.2.2.2.2.2.2.2.1 | exact h.2.2.2.2.2.2.2.2.2.1 | exact h.2.2.2.2.2.2.2.2.2.2) rfl ?_
        refine g_iconst hF (0) dX10_held_9 10 rfl rfl ?_
        refine g_iald hF dX10_held_10 11 rfl (by intro H h; first | exact h.1 | exact h.2.1 | exact h.2.2.1 | exact h.2.2.2.1 | exact h.2.2.2.2.1 | exact h.2.2.2.2.2.1 | exact h.2.2.2.2.2.2.1 | exact h.2.2.2.2.2.2.2.1 | exact h.2.2.2.2.2.2.2.2.1 | exact h.2.2.2.2.2.2.2.2.2.1 | exact h.2.2.2.2.2.2.2.2.2.2) (vp_in_nI (show 0 < 139 by omega) (by omega)) ?_
        rw [e0]
        refine g_icmp_ge hF dX10_held_11 14 rfl 32 (by decide) (fun c => absurd c (fun y => absurd (i_le y (by omega) (by omega)) (by omega))) (fun _ => ?_)
        refine g_iload_n hF dX10_held_14 15 rfl rfl ?_
        refine g_aload_n hF dX10_held_15 16 rfl rfl ?_
        refine g_iload_n hF dX10_held_16 17 rfl rfl ?_
        refine g_iconst hF (1) dX10_held_17 18 rfl rfl ?_
        refine g_callV hF cv_X10_77 (c_M_setOf l E c v pf im ss kp bk ws cm ls nq dd sd en wh ro j N 1 (by omega) n0 n6) dX10_held_18 21 rfl (st := [_]) rfl rfl ⟨Nat.le_of_ble_eq_true rfl, Nat.le_of_ble_eq_true rfl⟩ ⟨Nat.le_of_ble_eq_true rfl, Nat.le_of_ble_eq_true rfl⟩ rfl (Nat.le_of_ble_eq_true rfl) 10 rfl (by intro H h; first | exact h.1 | exact h.2.1 | exact h.2.2.1 | exact h.2.2.2.1 | exact h.2.2.2.2.1 | exact h.2.2.2.2.2.1 | exact h.2.2.2.2.2.2.1 | exact h.2.2.2.2.2.2.2.1 | exact h.2.2.2.2.2.2.2.2.1 | exact h.2.2.2.2.2.2.2.2.2.1 | exact h.2.2.2.2.2.2.2.2.2.2) (Pr' := _) (fun _ h => h) (fun q z => z.elim) (fun _ _ _ h _ => by exact h) (st1 := [_, _]) rfl (k1 := 0) (n1 := 0) rfl rfl ?_
        refine g_callS hF cs_X10_84 (c_M_ones l E (sSet (v.2.2.2 j) 1 N) (Mm E c (flat v) pf im ss kp bk ws cm ls nq dd sd en wh ro)) dX10_held_21 24 rfl (st := [_]) rfl rfl ⟨Nat.le_of_ble_eq_true rfl, Nat.le_of_ble_eq_true rfl⟩ ⟨Nat.le_of_ble_eq_true rfl, Nat.le_of_ble_eq_true rfl⟩ rfl (Nat.le_of_ble_eq_true rfl) (Pr' := _) (fun _ h => h) (fun q z => z.elim) (fun _ _ _ h _ => by exact h) (st1 := [_, _]) rfl (k1 := 0) (n1 := 0) rfl rfl ?_
        rw [ones_cnt n0 n6]
        refine g_iadd hF dX10_held_24 25 rfl ?_
        refine g_istore_n hF dX10_held_25 26 rfl (lo' := [_, _, _]) (Nat.le_of_ble_eq_true rfl) rfl ?_
        refine g_iinc hF dX10_held_26 29 rfl (1) rfl (lo' := [_, _, _]) rfl rfl ?_
        refine g_goto hF dX10_held_29 4 (by decide) ?_
        exact ih (j + 1) _ _ (by omega) (by omega) (by rw [hs]; rfl) (nI_succ j).symm
      · refine g_iload_n hF dX10_held_4 5 rfl rfl ?_
        refine g_aload_n hF dX10_held_5 6 rfl rfl ?_
        refine g_get hF fl_X10_7 dX10_held_6 9 rfl (by intro H h; first | exact h.1 | exact h.2.1 | exact h.2.2.1 | exact h.2.2.2.1 | exact h.2.2.2.2.1 | exact h.2.2.2.2.2.1 | exact h.2.2.2.2.2.2.1 | exact h.2.2.2.2.2.2.2.1 | exact h.2.2.2.2.2.2.2.2.1 | exact h.2.2.2.2.2.2.2.2.2.1 | exact h.2.2.2.2.2.2.2.2.2.2) rfl ?_
        refine g_iconst hF (0) dX10_held_9 10 rfl rfl ?_
        refine g_iald hF dX10_held_10 11 rfl (by intro H h; first | exact h.1 | exact h.2.1 | exact h.2.2.1 | exact h.2.2.2.1 | exact h.2.2.2.2.1 | exact h.2.2.2.2.2.1 | exact h.2.2.2.2.2.2.1 | exact h.2.2.2.2.2.2.2.1 | exact h.2.2.2.2.2.2.2.2.1 | exact h.2.2.2.2.2.2.2.2.2.1 | exact h.2.2.2.2.2.2.2.2.2.2) (vp_in_nI (show 0 < 139 by omega) (by omega)) ?_
        rw [e0]
        refine g_icmp_ge hF dX10_held_11 14 rfl 32 (by decide) (fun _ => ?_) (fun c => absurd (nI_le (by omega) (by omega)) c)
        refine g_iload_n hF dX10_held_32 33 rfl rfl ?_
        exact g_iret hF dX10_held_33 (Nat.le_of_ble_eq_true rfl) (Nat.le_of_ble_eq_true rfl) (fun H h => hR _ _ ⟨congrArg (fun z => some (Value.int z)) (by rw [hs, show j = G by omega]), h⟩)
  refine g_iconst hF (0) dX10_held_0 1 rfl rfl ?_
  refine g_istore_n hF dX10_held_1 2 rfl (lo' := [_, _, _]) (Nat.le_of_ble_eq_true rfl) rfl ?_
  refine g_iconst hF (0) dX10_held_2 3 rfl rfl ?_
  refine g_istore_n hF dX10_held_3 4 rfl (lo' := [_, _, _]) (Nat.le_of_ble_eq_true rfl) rfl ?_
  exact loop (G + 1) 0 0 0 (by omega) (by omega) rfl nI_0.symm
set_option maxRecDepth 100000 in
set_option maxHeartbeats 16000000 in
theorem c_M_lost (T : Nat) (hv0 : okV T v) : Ct l E yX10_lost cX10_lost 3 (some .int) (rm 4) [.ref c] (Mm E c (flat v) pf im ss kp bk ws cm ls nq dd sd en wh ro) (rV (some (.int (sLost v.2.2.2 v.1.toNatClampNeg))) (Mm E c (flat v) pf im ss kp bk ws cm ls nq dd sd en wh ro)) (fun _ => False) := by
  refine ct_start (by decide) [some (.ref c), none, none] rfl (Nat.le_of_ble_eq_true rfl) ?_
  intro x hF hN hA hR
  obtain ⟨G, hG, G1, G4, hGc, ho, hn⟩ := okN hv0
  rw [hGc] at hR
  have e0 : flat v (0 : Int32).toNatClampNeg = nI G := hG
  have loop : ∀ (n j : Nat) (s i : Int32), G - j < n → j ≤ G → s = sLost v.2.2.2 j → i = nI j → go l (rm 4) E x 0 0 (Mm E c (flat v) pf im ss kp bk ws cm ls nq dd sd en wh ro) [some (.ref c), some (.int s), some (.int i)] 4 [] := by
    intro n
    induction n with
    | zero => intro j s i h; omega
    | succ n ih =>
      intro j s i hn1 hj hs hi
      subst hi
      by_cases hlt : j < G
      · obtain ⟨N, n6, n0⟩ := hn j (by omega)
        refine g_iload_n hF dX10_lost_4 5 rfl rfl ?_
        refine g_aload_n hF dX10_lost_5 6 rfl rfl ?_
        refine g_get hF fl_X10_7 dX10_lost_6 9 rfl (by intro H h; first | exact h.1 | exact h.2.1 | exact h.2.2.1 | exact h.2.2.2.1 | exact h.2.2.2.2.1 | exact h.2.2.2.2.2.1 | exact h.2.2.2.2.2.2.1 | exact h.2.2.2.2.2.2.2.1 | exact h.2.2.2.2.2.2.2.2.1 | exact h.2.2.2.2.2.2.2.2.2.1 | exact h.2.2.2.2.2.2.2.2.2.2) rfl ?_
        refine g_iconst hF (0) dX10_lost_9 10 rfl rfl ?_
        refine g_iald hF dX10_lost_10 11 rfl (by intro H h; first | exact h.1 | exact h.2.1 | exact h.2.2.1 | exact h.2.2.2.1 | exact h.2.2.2.2.1 | exact h.2.2.2.2.2.1 | exact h.2.2.2.2.2.2.1 | exact h.2.2.2.2.2.2.2.1 | exact h.2.2.2.2.2.2.2.2.1 | exact h.2.2.2.2.2.2.2.2.2.1 | exact h.2.2.2.2.2.2.2.2.2.2) (vp_in_nI (show 0 < 139 by omega) (by omega)) ?_
        rw [e0]
        refine g_icmp_ge hF dX10_lost_11 14 rfl 30 (by decide) (fun c => absurd c (fun y => absurd (i_le y (by omega) (by omega)) (by omega))) (fun _ => ?_)
        refine g_iload_n hF dX10_lost_14 15 rfl rfl ?_
        refine g_aload_n hF dX10_lost_15 16 rfl rfl ?_
        refine g_iload_n hF dX10_lost_16 17 rfl rfl ?_
        refine g_bipush hF (9) dX10_lost_17 19 rfl rfl ?_
        rw [show (9 : Int32) = nI 9 by decide]
        refine g_callV hF cv_X10_54 (c_M_of l E c v pf im ss kp bk ws cm ls nq dd sd en wh ro j 9 (by omega) (by omega)) dX10_lost_19 22 rfl (st := [_]) rfl rfl ⟨Nat.le_of_ble_eq_true rfl, Nat.le_of_ble_eq_true rfl⟩ ⟨Nat.le_of_ble_eq_true rfl, Nat.le_of_ble_eq_true rfl⟩ rfl (Nat.le_of_ble_eq_true rfl) 10 rfl (by intro H h; first | exact h.1 | exact h.2.1 | exact h.2.2.1 | exact h.2.2.2.1 | exact h.2.2.2.2.1 | exact h.2.2.2.2.2.1 | exact h.2.2.2.2.2.2.1 | exact h.2.2.2.2.2.2.2.1 | exact h.2.2.2.2.2.2.2.2.1 | exact h.2.2.2.2.2.2.2.2.2.1 | exact h.2.2.2.2.2.2.2.2.2.2) (Pr' := _) (fun _ h => h) (fun q z => z.elim) (fun _ _ _ h _ => by exact h) (st1 := [_, _]) rfl (k1 := 0) (n1 := 0) rfl rfl ?_
        refine g_iadd hF dX10_lost_22 23 rfl ?_
        refine g_istore_n hF dX10_lost_23 24 rfl (lo' := [_, _, _]) (Nat.le_of_ble_eq_true rfl) rfl ?_
        refine g_iinc hF dX10_lost_24 27 rfl (1) rfl (lo' := [_, _, _]) rfl rfl ?_
        refine g_goto hF dX10_lost_27 4 (by decide) ?_
        exact ih (j + 1) _ _ (by omega) (by omega) (by rw [hs]; rfl) (nI_succ j).symm
      · refine g_iload_n hF dX10_lost_4 5 rfl rfl ?_
        refine g_aload_n hF dX10_lost_5 6 rfl rfl ?_
        refine g_get hF fl_X10_7 dX10_lost_6 9 rfl (by intro H h; first | exact h.1 | exact h.2.1 | exact h.2.2.1 | exact h.2.2.2.1 | exact h.2.2.2.2.1 | exact h.2.2.2.2.2.1 | exact h.2.2.2.2.2.2.1 | exact h.2.2.2.2.2.2.2.1 | exact h.2.2.2.2.2.2.2.2.1 | exact h.2.2.2.2.2.2.2.2.2.1 | exact h.2.2.2.2.2.2.2.2.2.2) rfl ?_
        refine g_iconst hF (0) dX10_lost_9 10 rfl rfl ?_
        refine g_iald hF dX10_lost_10 11 rfl (by intro H h; first | exact h.1 | exact h.2.1 | exact h.2.2.1 | exact h.2.2.2.1 | exact h.2.2.2.2.1 | exact h.2.2.2.2.2.1 | exact h.2.2.2.2.2.2.1 | exact h.2.2.2.2.2.2.2.1 | exact h.2.2.2.2.2.2.2.2.1 | exact h.2.2.2.2.2.2.2.2.2.1 | exact h.2.2.2.2.2.2.2.2.2.2) (vp_in_nI (show 0 < 139 by omega) (by omega)) ?_
        rw [e0]
        refine g_icmp_ge hF dX10_lost_11 14 rfl 30 (by decide) (fun _ => ?_) (fun c => absurd (nI_le (by omega) (by omega)) c)
        refine g_iload_n hF dX10_lost_30 31 rfl rfl ?_
        exact g_iret hF dX10_lost_31 (Nat.le_of_ble_eq_true rfl) (Nat.le_of_ble_eq_true rfl) (fun H h => hR _ _ ⟨congrArg (fun z => some (Value.int z)) (by rw [hs, show j = G by omega]), h⟩)
  refine g_iconst hF (0) dX10_lost_0 1 rfl rfl ?_
  refine g_istore_n hF dX10_lost_1 2 rfl (lo' := [_, _, _]) (Nat.le_of_ble_eq_true rfl) rfl ?_
  refine g_iconst hF (0) dX10_lost_2 3 rfl rfl ?_
  refine g_istore_n hF dX10_lost_3 4 rfl (lo' := [_, _, _]) (Nat.le_of_ble_eq_true rfl) rfl ?_
  exact loop (G + 1) 0 0 0 (by omega) (by omega) rfl nI_0.symm
theorem ix3 {g w : Nat} : 3 * nI g + nI w = nI (3 * g + w) := by
  rw [show (3 : Int32) = nI 3 by decide, pk_mul, nI_add]
theorem ix3z {g : Nat} : 3 * nI g = nI (3 * g) := by
  rw [show (3 : Int32) = nI 3 by decide, pk_mul]
set_option maxRecDepth 100000 in
set_option maxHeartbeats 16000000 in
theorem c_M_wrong (T nb : Nat) (bg bl bs : Nat → Int32) (hv0 : okV T v) (hb : nb ≤ 20) (hbk : (∀ j, j < nb → bk (3 * j) = bg j ∧ bk (3 * j + 1) = bl j ∧ bk (3 * j + 2) = bs j)) : Ct l E yX10_wrong cX10_wrong 4 (some .int) (rm 4) [.ref c] (Mm E c (flat v) pf im ss kp bk ws cm ls nq dd sd (nI nb) wh ro) (rV (some (.int (fWr v bg bl bs nb 0))) (Mm E c (flat v) pf im ss kp bk ws cm ls nq dd sd (nI nb) wh ro)) (fun _ => False) := by
  refine ct_start (by decide) [some (.ref c), none, none, none] rfl (Nat.le_of_ble_eq_true rfl) ?_
  intro x hF hN hA hR
  obtain ⟨G, hG, G1, G4, hGc, ho, hn⟩ := okN hv0
  have loop : ∀ (n j : Nat) (i : Int32), nb - j < n → j ≤ nb → i = nI j → fWr v bg bl bs nb 0 = fWr v bg bl bs (nb - j) j → go l (rm 4) E x 0 0 (Mm E c (flat v) pf im ss kp bk ws cm ls nq dd sd (nI nb) wh ro) [some (.ref c), some (.int i), none, none] 2 [] := by
    intro n
    induction n with
    | zero => intro j i h; omega
    | succ n ih =>
      intro j i hn1 hj hi hf
      subst hi
      by_cases hlt : j < nb
      · obtain ⟨b1, b2, b3⟩ := hbk j hlt
        rw [show nb - j = (nb - (j + 1)) + 1 by omega] at hf
        rcases isR_cases hG G4 hn (bg j) (bl j) (bs j) with ⟨h1, h2⟩ | ⟨h, N, t, h1, h2, n0, n6, t1, h3, h4⟩
        · have hbad : (bg j < 0 ∨ v.1 ≤ bg j) ∨ (bl j < 0 ∨ v.2.2.2 (bg j).toNatClampNeg 0 ≤ bl j) := h2.imp id (fun ⟨h, q1, q2, q3⟩ => by rw [q2, nI_clamp (by omega)]; exact q3)
          refine g_iload_n hF dX10_wrong_2 3 rfl rfl ?_
          refine g_aload_n hF dX10_wrong_3 4 rfl rfl ?_
          refine g_get hF fl_X10_87 dX10_wrong_4 7 rfl (by intro H h; first | exact h.1 | exact h.2.1 | exact h.2.2.1 | exact h.2.2.2.1 | exact h.2.2.2.2.1 | exact h.2.2.2.2.2.1 | exact h.2.2.2.2.2.2.1 | exact h.2.2.2.2.2.2.2.1 | exact h.2.2.2.2.2.2.2.2.1 | exact h.2.2.2.2.2.2.2.2.2.1 | exact h.2.2.2.2.2.2.2.2.2.2) rfl ?_
          refine g_icmp_ge hF dX10_wrong_7 10 rfl 67 (by decide) (fun c => absurd c (fun y => absurd (i_le y (by omega) (by omega)) (by omega))) (fun _ => ?_)
          refine g_aload_n hF dX10_wrong_10 11 rfl rfl ?_
          refine g_get hF fl_X10_27 dX10_wrong_11 14 rfl (by intro H h; first | exact h.1 | exact h.2.1 | exact h.2.2.1 | exact h.2.2.2.1 | exact h.2.2.2.2.1 | exact h.2.2.2.2.2.1 | exact h.2.2.2.2.2.2.1 | exact h.2.2.2.2.2.2.2.1 | exact h.2.2.2.2.2.2.2.2.1 | exact h.2.2.2.2.2.2.2.2.2.1 | exact h.2.2.2.2.2.2.2.2.2.2) rfl ?_
          refine g_iconst hF (3) dX10_wrong_14 15 rfl rfl ?_
          refine g_iload_n hF dX10_wrong_15 16 rfl rfl ?_
          refine g_imul hF dX10_wrong_16 17 rfl ?_
          rw [ix3z]
          refine g_iald hF dX10_wrong_17 18 rfl (by intro H h; first | exact h.1 | exact h.2.1 | exact h.2.2.1 | exact h.2.2.2.1 | exact h.2.2.2.2.1 | exact h.2.2.2.2.2.1 | exact h.2.2.2.2.2.2.1 | exact h.2.2.2.2.2.2.2.1 | exact h.2.2.2.2.2.2.2.2.1 | exact h.2.2.2.2.2.2.2.2.2.1 | exact h.2.2.2.2.2.2.2.2.2.2) (vp_in_nI (show 3 * j < 60 by omega) (by omega)) ?_
          rw [nI_clamp (by omega), b1]
          refine g_istore_n hF dX10_wrong_18 19 rfl (lo' := [_, _, _, _]) (Nat.le_of_ble_eq_true rfl) rfl ?_
          refine g_aload_n hF dX10_wrong_19 20 rfl rfl ?_
          refine g_get hF fl_X10_27 dX10_wrong_20 23 rfl (by intro H h; first | exact h.1 | exact h.2.1 | exact h.2.2.1 | exact h.2.2.2.1 | exact h.2.2.2.2.1 | exact h.2.2.2.2.2.1 | exact h.2.2.2.2.2.2.1 | exact h.2.2.2.2.2.2.2.1 | exact h.2.2.2.2.2.2.2.2.1 | exact h.2.2.2.2.2.2.2.2.2.1 | exact h.2.2.2.2.2.2.2.2.2.2) rfl ?_
          refine g_iconst hF (3) dX10_wrong_23 24 rfl rfl ?_
          refine g_iload_n hF dX10_wrong_24 25 rfl rfl ?_
          refine g_imul hF dX10_wrong_25 26 rfl ?_
          refine g_iconst hF (1) dX10_wrong_26 27 rfl rfl ?_
          refine g_iadd hF dX10_wrong_27 28 rfl ?_
          rw [ix3z, nI_1]
          refine g_iald hF dX10_wrong_28 29 rfl (by intro H h; first | exact h.1 | exact h.2.1 | exact h.2.2.1 | exact h.2.2.2.1 | exact h.2.2.2.2.1 | exact h.2.2.2.2.2.1 | exact h.2.2.2.2.2.2.1 | exact h.2.2.2.2.2.2.2.1 | exact h.2.2.2.2.2.2.2.2.1 | exact h.2.2.2.2.2.2.2.2.2.1 | exact h.2.2.2.2.2.2.2.2.2.2) (vp_in_nI (show 3 * j + 1 < 60 by omega) (by omega)) ?_
          rw [nI_clamp (by omega), b2]
          refine g_istore_n hF dX10_wrong_29 30 rfl (lo' := [_, _, _, _]) (Nat.le_of_ble_eq_true rfl) rfl ?_
          refine g_aload_n hF dX10_wrong_30 31 rfl rfl ?_
          refine g_iload_n hF dX10_wrong_31 32 rfl rfl ?_
          refine g_iload_n hF dX10_wrong_32 33 rfl rfl ?_
          refine g_callV hF cv_X10_90 (c_M_isLine l E c v pf im ss kp bk ws cm ls nq dd sd (nI nb) wh ro T hv0 (bg j) (bl j)) dX10_wrong_33 36 rfl (st := []) rfl rfl ⟨Nat.le_of_ble_eq_true rfl, Nat.le_of_ble_eq_true rfl⟩ ⟨Nat.le_of_ble_eq_true rfl, Nat.le_of_ble_eq_true rfl⟩ rfl (Nat.le_of_ble_eq_true rfl) 10 rfl (by intro H h; first | exact h.1 | exact h.2.1 | exact h.2.2.1 | exact h.2.2.2.1 | exact h.2.2.2.2.1 | exact h.2.2.2.2.2.1 | exact h.2.2.2.2.2.2.1 | exact h.2.2.2.2.2.2.2.1 | exact h.2.2.2.2.2.2.2.2.1 | exact h.2.2.2.2.2.2.2.2.2.1 | exact h.2.2.2.2.2.2.2.2.2.2) (Pr' := _) (fun _ h => h) (fun q z => z.elim) (fun _ _ _ h _ => by exact h) (st1 := [_]) rfl (k1 := 0) (n1 := 0) rfl rfl ?_
          refine g_if_eq hF dX10_wrong_36 39 rfl 59 (by decide) (fun _ => ?_) (fun c => absurd (iy0.mpr hbad) c)
          refine g_iload_n hF dX10_wrong_59 60 rfl rfl ?_
          exact g_iret hF dX10_wrong_60 (Nat.le_of_ble_eq_true rfl) (Nat.le_of_ble_eq_true rfl) (fun H h => hR _ _ ⟨congrArg (fun z => some (Value.int z)) (by rw [hf, fWr_f h1]), h⟩)
        · have hgood : ¬ ((bg j < 0 ∨ v.1 ≤ bg j) ∨ (bl j < 0 ∨ v.2.2.2 (bg j).toNatClampNeg 0 ≤ bl j)) := by
            rw [h2, h3, nI_clamp (by omega), hG, n0]
            exact fun y => y.elim (fun y => y.elim (nI_pos (by omega)) (fun q => absurd (i_le q (by omega) (by omega)) (by omega))) (fun y => y.elim (nI_pos (by omega)) (fun q => absurd (i_le q (by omega) (by omega)) (by omega)))
          refine g_iload_n hF dX10_wrong_2 3 rfl rfl ?_
          refine g_aload_n hF dX10_wrong_3 4 rfl rfl ?_
          refine g_get hF fl_X10_87 dX10_wrong_4 7 rfl (by intro H h; first | exact h.1 | exact h.2.1 | exact h.2.2.1 | exact h.2.2.2.1 | exact h.2.2.2.2.1 | exact h.2.2.2.2.2.1 | exact h.2.2.2.2.2.2.1 | exact h.2.2.2.2.2.2.2.1 | exact h.2.2.2.2.2.2.2.2.1 | exact h.2.2.2.2.2.2.2.2.2.1 | exact h.2.2.2.2.2.2.2.2.2.2) rfl ?_
          refine g_icmp_ge hF dX10_wrong_7 10 rfl 67 (by decide) (fun c => absurd c (fun y => absurd (i_le y (by omega) (by omega)) (by omega))) (fun _ => ?_)
          refine g_aload_n hF dX10_wrong_10 11 rfl rfl ?_
          refine g_get hF fl_X10_27 dX10_wrong_11 14 rfl (by intro H h; first | exact h.1 | exact h.2.1 | exact h.2.2.1 | exact h.2.2.2.1 | exact h.2.2.2.2.1 | exact h.2.2.2.2.2.1 | exact h.2.2.2.2.2.2.1 | exact h.2.2.2.2.2.2.2.1 | exact h.2.2.2.2.2.2.2.2.1 | exact h.2.2.2.2.2.2.2.2.2.1 | exact h.2.2.2.2.2.2.2.2.2.2) rfl ?_
          refine g_iconst hF (3) dX10_wrong_14 15 rfl rfl ?_
          refine g_iload_n hF dX10_wrong_15 16 rfl rfl ?_
          refine g_imul hF dX10_wrong_16 17 rfl ?_
          rw [ix3z]
          refine g_iald hF dX10_wrong_17 18 rfl (by intro H h; first | exact h.1 | exact h.2.1 | exact h.2.2.1 | exact h.2.2.2.1 | exact h.2.2.2.2.1 | exact h.2.2.2.2.2.1 | exact h.2.2.2.2.2.2.1 | exact h.2.2.2.2.2.2.2.1 | exact h.2.2.2.2.2.2.2.2.1 | exact h.2.2.2.2.2.2.2.2.2.1 | exact h.2.2.2.2.2.2.2.2.2.2) (vp_in_nI (show 3 * j < 60 by omega) (by omega)) ?_
          rw [nI_clamp (by omega), b1]
          refine g_istore_n hF dX10_wrong_18 19 rfl (lo' := [_, _, _, _]) (Nat.le_of_ble_eq_true rfl) rfl ?_
          refine g_aload_n hF dX10_wrong_19 20 rfl rfl ?_
          refine g_get hF fl_X10_27 dX10_wrong_20 23 rfl (by intro H h; first | exact h.1 | exact h.2.1 | exact h.2.2.1 | exact h.2.2.2.1 | exact h.2.2.2.2.1 | exact h.2.2.2.2.2.1 | exact h.2.2.2.2.2.2.1 | exact h.2.2.2.2.2.2.2.1 | exact h.2.2.2.2.2.2.2.2.1 | exact h.2.2.2.2.2.2.2.2.2.1 | exact h.2.2.2.2.2.2.2.2.2.2) rfl ?_
          refine g_iconst hF (3) dX10_wrong_23 24 rfl rfl ?_
          refine g_iload_n hF dX10_wrong_24 25 rfl rfl ?_
          refine g_imul hF dX10_wrong_25 26 rfl ?_
          refine g_iconst hF (1) dX10_wrong_26 27 rfl rfl ?_
          refine g_iadd hF dX10_wrong_27 28 rfl ?_
          rw [ix3z, nI_1]
          refine g_iald hF dX10_wrong_28 29 rfl (by intro H h; first | exact h.1 | exact h.2.1 | exact h.2.2.1 | exact h.2.2.2.1 | exact h.2.2.2.2.1 | exact h.2.2.2.2.2.1 | exact h.2.2.2.2.2.2.1 | exact h.2.2.2.2.2.2.2.1 | exact h.2.2.2.2.2.2.2.2.1 | exact h.2.2.2.2.2.2.2.2.2.1 | exact h.2.2.2.2.2.2.2.2.2.2) (vp_in_nI (show 3 * j + 1 < 60 by omega) (by omega)) ?_
          rw [nI_clamp (by omega), b2]
          refine g_istore_n hF dX10_wrong_29 30 rfl (lo' := [_, _, _, _]) (Nat.le_of_ble_eq_true rfl) rfl ?_
          refine g_aload_n hF dX10_wrong_30 31 rfl rfl ?_
          refine g_iload_n hF dX10_wrong_31 32 rfl rfl ?_
          refine g_iload_n hF dX10_wrong_32 33 rfl rfl ?_
          refine g_callV hF cv_X10_90 (c_M_isLine l E c v pf im ss kp bk ws cm ls nq dd sd (nI nb) wh ro T hv0 (bg j) (bl j)) dX10_wrong_33 36 rfl (st := []) rfl rfl ⟨Nat.le_of_ble_eq_true rfl, Nat.le_of_ble_eq_true rfl⟩ ⟨Nat.le_of_ble_eq_true rfl, Nat.le_of_ble_eq_true rfl⟩ rfl (Nat.le_of_ble_eq_true rfl) 10 rfl (by intro H h; first | exact h.1 | exact h.2.1 | exact h.2.2.1 | exact h.2.2.2.1 | exact h.2.2.2.2.1 | exact h.2.2.2.2.2.1 | exact h.2.2.2.2.2.2.1 | exact h.2.2.2.2.2.2.2.1 | exact h.2.2.2.2.2.2.2.2.1 | exact h.2.2.2.2.2.2.2.2.2.1 | exact h.2.2.2.2.2.2.2.2.2.2) (Pr' := _) (fun _ h => h) (fun q z => z.elim) (fun _ _ _ h _ => by exact h) (st1 := [_]) rfl (k1 := 0) (n1 := 0) rfl rfl ?_
          refine g_if_eq hF dX10_wrong_36 39 rfl 59 (by decide) (fun c => absurd c (fun y => hgood (iy0.mp y))) (fun _ => ?_)
          refine g_aload_n hF dX10_wrong_39 40 rfl rfl ?_
          refine g_iload_n hF dX10_wrong_40 41 rfl rfl ?_
          refine g_iload_n hF dX10_wrong_41 42 rfl rfl ?_
          refine g_iconst hF (0) dX10_wrong_42 43 rfl rfl ?_
          rw [h2, h3, show (0 : Int32) = nI 0 by decide]
          refine g_callV hF cv_X10_73 (c_M_ofL l E c v pf im ss kp bk ws cm ls nq dd sd (nI nb) wh ro h t 0 (by omega) (by omega) (by omega)) dX10_wrong_43 46 rfl (st := []) rfl rfl ⟨Nat.le_of_ble_eq_true rfl, Nat.le_of_ble_eq_true rfl⟩ ⟨Nat.le_of_ble_eq_true rfl, Nat.le_of_ble_eq_true rfl⟩ rfl (Nat.le_of_ble_eq_true rfl) 10 rfl (by intro H h; first | exact h.1 | exact h.2.1 | exact h.2.2.1 | exact h.2.2.2.1 | exact h.2.2.2.2.1 | exact h.2.2.2.2.2.1 | exact h.2.2.2.2.2.2.1 | exact h.2.2.2.2.2.2.2.1 | exact h.2.2.2.2.2.2.2.2.1 | exact h.2.2.2.2.2.2.2.2.2.1 | exact h.2.2.2.2.2.2.2.2.2.2) (Pr' := _) (fun _ h => h) (fun q z => z.elim) (fun _ _ _ h _ => by exact h) (st1 := [_]) rfl (k1 := 0) (n1 := 0) rfl rfl ?_
          refine g_aload_n hF dX10_wrong_46 47 rfl rfl ?_
          refine g_get hF fl_X10_27 dX10_wrong_47 50 rfl (by intro H h; first | exact h.1 | exact h.2.1 | exact h.2.2.1 | exact h.2.2.2.1 | exact h.2.2.2.2.1 | exact h.2.2.2.2.2.1 | exact h.2.2.2.2.2.2.1 | exact h.2.2.2.2.2.2.2.1 | exact h.2.2.2.2.2.2.2.2.1 | exact h.2.2.2.2.2.2.2.2.2.1 | exact h.2.2.2.2.2.2.2.2.2.2) rfl ?_
          refine g_iconst hF (3) dX10_wrong_50 51 rfl rfl ?_
          refine g_iload_n hF dX10_wrong_51 52 rfl rfl ?_
          refine g_imul hF dX10_wrong_52 53 rfl ?_
          refine g_iconst hF (2) dX10_wrong_53 54 rfl rfl ?_
          refine g_iadd hF dX10_wrong_54 55 rfl ?_
          rw [show (2 : Int32) = nI 2 by decide, ix3]
          refine g_iald hF dX10_wrong_55 56 rfl (by intro H h; first | exact h.1 | exact h.2.1 | exact h.2.2.1 | exact h.2.2.2.1 | exact h.2.2.2.2.1 | exact h.2.2.2.2.2.1 | exact h.2.2.2.2.2.2.1 | exact h.2.2.2.2.2.2.2.1 | exact h.2.2.2.2.2.2.2.2.1 | exact h.2.2.2.2.2.2.2.2.2.1 | exact h.2.2.2.2.2.2.2.2.2.2) (vp_in_nI (show 3 * j + 2 < 60 by omega) (by omega)) ?_
          rw [nI_clamp (by omega), b3]
          refine g_icmp_eq hF dX10_wrong_56 59 rfl 61 (by decide) (fun c56 => ?_) (fun c56 => ?_)
          · refine g_iinc hF dX10_wrong_61 64 rfl (1) rfl (lo' := [_, _, _, _]) rfl rfl ?_
            refine g_goto hF dX10_wrong_64 2 (by decide) ?_
            refine g_cut [true, true, false, false] (lo' := [_, _, _, _]) rfl ?_
            exact ih (j + 1) _ (by omega) (by omega) (nI_succ j).symm (by rw [hf, fWr_t (h4.mpr c56)])
          · refine g_iload_n hF dX10_wrong_59 60 rfl rfl ?_
            exact g_iret hF dX10_wrong_60 (Nat.le_of_ble_eq_true rfl) (Nat.le_of_ble_eq_true rfl) (fun H h => hR _ _ ⟨congrArg (fun z => some (Value.int z)) (by rw [hf, fWr_f (fun y => c56 (h4.mp y))]), h⟩)
      · refine g_iload_n hF dX10_wrong_2 3 rfl rfl ?_
        refine g_aload_n hF dX10_wrong_3 4 rfl rfl ?_
        refine g_get hF fl_X10_87 dX10_wrong_4 7 rfl (by intro H h; first | exact h.1 | exact h.2.1 | exact h.2.2.1 | exact h.2.2.2.1 | exact h.2.2.2.2.1 | exact h.2.2.2.2.2.1 | exact h.2.2.2.2.2.2.1 | exact h.2.2.2.2.2.2.2.1 | exact h.2.2.2.2.2.2.2.2.1 | exact h.2.2.2.2.2.2.2.2.2.1 | exact h.2.2.2.2.2.2.2.2.2.2) rfl ?_
        refine g_icmp_ge hF dX10_wrong_7 10 rfl 67 (by decide) (fun _ => ?_) (fun c => absurd (nI_le (by omega) (by omega)) c)
        refine g_iconst hF (-1) dX10_wrong_67 68 rfl rfl ?_
        exact g_iret hF dX10_wrong_68 (Nat.le_of_ble_eq_true rfl) (Nat.le_of_ble_eq_true rfl) (fun H h => hR _ _ ⟨congrArg (fun z => some (Value.int z)) (by rw [hf, show nb - j = 0 by omega]; rfl), h⟩)
  refine g_iconst hF (0) dX10_wrong_0 1 rfl rfl ?_
  refine g_istore_n hF dX10_wrong_1 2 rfl (lo' := [_, _, _, _]) (Nat.le_of_ble_eq_true rfl) rfl ?_
  exact loop (nb + 1) 0 0 (by omega) (by omega) nI_0.symm rfl
end MV3
