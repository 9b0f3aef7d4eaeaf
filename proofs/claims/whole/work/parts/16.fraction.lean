/-! Weights: sums; Fraction -/
def fct : Nat → Nat
  | 0 => 1
  | n + 1 => fct n * (n + 1)
def sW (w : Nat → Nat) : Nat → Nat
  | 0 => 0
  | k + 1 => sW w k + w k
def sRf (w : Nat → Nat) (N R : Nat) : Nat → Nat
  | 0 => 0
  | k + 1 => if R < N - k then sRf w N R k else sRf w N R k + w k
def sTm (w : Nat → Nat) : Nat → Nat
  | 0 => 0
  | k + 1 => sTm w k + k * w k
theorem fct_le : ∀ n, n < 7 → fct n ≤ 720 := by decide
def Wq (E : Ev) (a N R : Nat) (w : Nat → Nat) (H : Heap) : Prop := ∃ wf, (∀ k, k ≤ N → wf k = lN (w k)) ∧ Wp E a wf (nI N) (nI R) H
set_option maxRecDepth 100000 in
set_option maxHeartbeats 8000000 in
theorem c_W_weighExactly (l : Launch) (E : Ev) (a N A R B : Nat) (wf0 : Nat → Int64) (x0 y0 : Int32) (hN1 : 1 ≤ N) (hN : N ≤ 6) (hA6 : A ≤ 6) (hR6 : R ≤ 6) (hB : B ≤ 6) : Ct l E yX8_weighExactly cX8_weighExactly 8 none (rm 3) [.ref a, .int (nI N), .int (nI A), .int (nI R), .int (nI B)] (Wp E a wf0 x0 y0) (rV none (Wq E a N R (wt (fct N) 1 N A R B))) (rg a 2) := by
  refine ct_start (by decide) [some (.ref a), some (.int (nI N)), some (.int (nI A)), some (.int (nI R)), some (.int (nI B)), none, none, none] rfl (Nat.le_of_ble_eq_true rfl) ?_
  intro x hF hN0 hA hR
  have e1 : (1 : Int32) = nI 1 := by decide
  have loop : ∀ (n j : Nat) (i : Int32) (f : Int64), N + 1 - j < n → j ≤ N → i = nI (j + 1) → f = lN (fct j) → go l (rm 3) E x 0 0 (Wp E a wf0 x0 y0) [some (.ref a), some (.int (nI N)), some (.int (nI A)), some (.int (nI R)), some (.int (nI B)), some (.long f), none, some (.int i)] 6 [] := by
    intro n
    induction n with
    | zero => intro j i f h; omega
    | succ n ih =>
      intro j i f hn0 hj hi hf
      subst hi
      refine g_iload hF dX8_weighExactly_6 8 rfl rfl ?_
      refine g_iload_n hF dX8_weighExactly_8 9 rfl rfl ?_
      refine g_icmp_gt hF dX8_weighExactly_9 12 rfl 26 (by decide) (fun c9 => ?_) (fun c9 => ?_)
      · have hgt : N < j + 1 := i_lt c9 (by omega) (by omega)
        obtain rfl : j = N := by omega
        rw [hf]
        refine g_aload_n hF dX8_weighExactly_26 27 rfl rfl ?_
        refine g_lload hF dX8_weighExactly_27 29 rfl rfl ?_
        refine g_iconst hF (1) dX8_weighExactly_29 30 rfl rfl ?_
        refine g_iload_n hF dX8_weighExactly_30 31 rfl rfl ?_
        refine g_iload_n hF dX8_weighExactly_31 32 rfl rfl ?_
        refine g_iload_n hF dX8_weighExactly_32 33 rfl rfl ?_
        refine g_iload hF dX8_weighExactly_33 35 rfl rfl ?_
        rw [e1]
        refine g_callV hF cv_X8_15 (c_W_weigh l E a (fct j) 1 j A R B wf0 x0 y0 (Nat.le_trans (fct_le j (by omega)) (by omega)) (by omega) (by omega) hN hA6 hR6 (by omega)) dX8_weighExactly_35 38 rfl (st := []) rfl rfl ⟨Nat.le_of_ble_eq_true rfl, Nat.le_of_ble_eq_true rfl⟩ ⟨Nat.le_of_ble_eq_true rfl, Nat.le_of_ble_eq_true rfl⟩ rfl (Nat.le_of_ble_eq_true rfl) 8 rfl (by intro H h; first | exact h.1 | exact h.2) (Pr' := _) (fun _ h => h) (hA) (fun _ _ _ h _ => by exact h) (st1 := []) rfl (k1 := 0) (n1 := 0) rfl rfl ?_
        exact g_vret hF dX8_weighExactly_38 (Nat.le_of_ble_eq_true rfl) (Nat.le_of_ble_eq_true rfl) (fun H h => hR _ _ ⟨rfl, h⟩)
      · have hlt : j + 1 ≤ N := i_nlt c9 (by omega) (by omega)
        refine g_lload hF dX8_weighExactly_12 14 rfl rfl ?_
        refine g_iload hF dX8_weighExactly_14 16 rfl rfl ?_
        refine g_i2l hF dX8_weighExactly_16 17 rfl ?_
        rw [nI_l (by omega)]
        refine g_lmul hF dX8_weighExactly_17 18 rfl ?_
        rw [hf, lN_mul]
        refine g_lstore hF dX8_weighExactly_18 20 rfl (lo' := [_, _, _, _, _, _, _, _]) (Nat.le_of_ble_eq_true rfl) rfl ?_
        refine g_iinc hF dX8_weighExactly_20 23 rfl (1) rfl (lo' := [_, _, _, _, _, _, _, _]) rfl rfl ?_
        refine g_goto hF dX8_weighExactly_23 6 (by decide) ?_
        exact ih (j + 1) _ _ (by omega) (by omega) (nI_succ (j + 1)).symm rfl
  refine g_lconst hF (1) dX8_weighExactly_0 1 rfl rfl ?_
  refine g_lstore hF dX8_weighExactly_1 3 rfl (lo' := [_, _, _, _, _, _, _, _]) (Nat.le_of_ble_eq_true rfl) rfl ?_
  refine g_iconst hF (2) dX8_weighExactly_3 4 rfl rfl ?_
  refine g_istore hF dX8_weighExactly_4 6 rfl (lo' := [_, _, _, _, _, _, _, _]) (Nat.le_of_ble_eq_true rfl) rfl ?_
  exact loop (N + 2) 1 2 1 (by omega) (by omega) (by decide) (by decide)
set_option maxRecDepth 100000 in
set_option maxHeartbeats 8000000 in
theorem c_W_all (l : Launch) (E : Ev) (a N R : Nat) (w : Nat → Nat) (wf : Nat → Int64) (hN : N ≤ 6) (hw : ∀ k, k ≤ N → wf k = lN (w k)) : Ct l E yX8_all cX8_all 4 (some .long) (rm 1) [.ref a] (Wp E a wf (nI N) (nI R)) (rV (some (.long (lN (sW w (N + 1))))) (Wp E a wf (nI N) (nI R))) (fun _ => False) := by
  refine ct_start (by decide) [some (.ref a), none, none, none] rfl (Nat.le_of_ble_eq_true rfl) ?_
  intro x hF hN0 hA hR
  have loop : ∀ (n j : Nat) (i : Int32) (s : Int64), N + 1 - j < n → j ≤ N + 1 → i = nI j → s = lN (sW w j) → go l (rm 1) E x 0 0 (Wp E a wf (nI N) (nI R)) [some (.ref a), some (.long s), none, some (.int i)] 4 [] := by
    intro n
    induction n with
    | zero => intro j i s h; omega
    | succ n ih =>
      intro j i s hn0 hj hi hs
      subst hi
      refine g_iload_n hF dX8_all_4 5 rfl rfl ?_
      refine g_aload_n hF dX8_all_5 6 rfl rfl ?_
      refine g_get hF fl_X8_28 dX8_all_6 9 rfl (by intro H h; first | exact h.1 | exact h.2) rfl ?_
      refine g_icmp_gt hF dX8_all_9 12 rfl 27 (by decide) (fun c9 => ?_) (fun c9 => ?_)
      · refine g_lload_n hF dX8_all_27 28 rfl rfl ?_
        exact g_lret hF dX8_all_28 (Nat.le_of_ble_eq_true rfl) (Nat.le_of_ble_eq_true rfl) (fun H h => hR _ _ ⟨congrArg (fun z => some (Value.long z)) (by have := i_lt c9 (by omega) (by omega); rw [hs, show j = N + 1 by omega]), h⟩)
      · have hlt : j ≤ N := i_nlt c9 (by omega) (by omega)
        refine g_lload_n hF dX8_all_12 13 rfl rfl ?_
        refine g_aload_n hF dX8_all_13 14 rfl rfl ?_
        refine g_get hF fl_X8_9 dX8_all_14 17 rfl (by intro H h; first | exact h.1 | exact h.2) rfl ?_
        refine g_iload_n hF dX8_all_17 18 rfl rfl ?_
        refine g_lald hF dX8_all_18 19 rfl (by intro H h; first | exact h.1 | exact h.2) (vp_in_nI (show j < 7 by omega) (by omega)) ?_
        rw [nI_clamp (by omega), hw j hlt]
        refine g_ladd hF dX8_all_19 20 rfl ?_
        rw [hs, lN_add]
        refine g_lstore_n hF dX8_all_20 21 rfl (lo' := [_, _, _, _]) (Nat.le_of_ble_eq_true rfl) rfl ?_
        refine g_iinc hF dX8_all_21 24 rfl (1) rfl (lo' := [_, _, _, _]) rfl rfl ?_
        refine g_goto hF dX8_all_24 4 (by decide) ?_
        exact ih (j + 1) _ _ (by omega) (by omega) (nI_succ j).symm rfl
  refine g_lconst hF (0) dX8_all_0 1 rfl rfl ?_
  refine g_lstore_n hF dX8_all_1 2 rfl (lo' := [_, _, _, _]) (Nat.le_of_ble_eq_true rfl) rfl ?_
  refine g_iconst hF (0) dX8_all_2 3 rfl rfl ?_
  refine g_istore_n hF dX8_all_3 4 rfl (lo' := [_, _, _, _]) (Nat.le_of_ble_eq_true rfl) rfl ?_
  exact loop (N + 2) 0 0 0 (by omega) (by omega) nI_0.symm (show (0 : Int64) = lN 0 by decide)
set_option maxRecDepth 100000 in
set_option maxHeartbeats 8000000 in
theorem c_W_ofAllHeld (l : Launch) (E : Ev) (a N R : Nat) (w : Nat → Nat) (wf : Nat → Int64) (hN : N ≤ 6) (hw : ∀ k, k ≤ N → wf k = lN (w k)) : Ct l E yX8_ofAllHeld cX8_ofAllHeld 1 (some .long) (rm 1) [.ref a] (Wp E a wf (nI N) (nI R)) (rV (some (.long (lN (w N)))) (Wp E a wf (nI N) (nI R))) (fun _ => False) := by
  refine ct_start (by decide) [some (.ref a)] rfl (Nat.le_of_ble_eq_true rfl) ?_
  intro x hF hN0 hA hR
  refine g_aload_n hF dX8_ofAllHeld_0 1 rfl rfl ?_
  refine g_get hF fl_X8_9 dX8_ofAllHeld_1 4 rfl (by intro H h; first | exact h.1 | exact h.2) rfl ?_
  refine g_aload_n hF dX8_ofAllHeld_4 5 rfl rfl ?_
  refine g_get hF fl_X8_28 dX8_ofAllHeld_5 8 rfl (by intro H h; first | exact h.1 | exact h.2) rfl ?_
  refine g_lald hF dX8_ofAllHeld_8 9 rfl (by intro H h; first | exact h.1 | exact h.2) (vp_in_nI (show N < 7 by omega) (by omega)) ?_
  rw [nI_clamp (by omega), hw N (by omega)]
  exact g_lret hF dX8_ofAllHeld_9 (Nat.le_of_ble_eq_true rfl) (Nat.le_of_ble_eq_true rfl) (fun H h => hR _ _ ⟨congrArg (fun z => some (Value.long z)) (rfl), h⟩)
set_option maxRecDepth 100000 in
set_option maxHeartbeats 8000000 in
theorem c_W_ofRefusing (l : Launch) (E : Ev) (a N R : Nat) (w : Nat → Nat) (wf : Nat → Int64) (hN : N ≤ 6) (hR6 : R ≤ 6) (hw : ∀ k, k ≤ N → wf k = lN (w k)) : Ct l E yX8_ofRefusing cX8_ofRefusing 4 (some .long) (rm 2) [.ref a] (Wp E a wf (nI N) (nI R)) (rV (some (.long (lN (sRf w N R (N + 1))))) (Wp E a wf (nI N) (nI R))) (fun _ => False) := by
  refine ct_start (by decide) [some (.ref a), none, none, none] rfl (Nat.le_of_ble_eq_true rfl) ?_
  intro x hF hN0 hA hR
  have loop : ∀ (n j : Nat) (i : Int32) (s : Int64), N + 1 - j < n → j ≤ N + 1 → i = nI j → s = lN (sRf w N R j) → go l (rm 2) E x 0 0 (Wp E a wf (nI N) (nI R)) [some (.ref a), some (.long s), none, some (.int i)] 4 [] := by
    intro n
    induction n with
    | zero => intro j i s h; omega
    | succ n ih =>
      intro j i s hn0 hj hi hs
      subst hi
      by_cases hto : R < N - j
      · refine g_iload_n hF dX8_ofRefusing_4 5 rfl rfl ?_
        refine g_aload_n hF dX8_ofRefusing_5 6 rfl rfl ?_
        refine g_get hF fl_X8_28 dX8_ofRefusing_6 9 rfl (by intro H h; first | exact h.1 | exact h.2) rfl ?_
        refine g_icmp_gt hF dX8_ofRefusing_9 12 rfl 35 (by decide) (fun c9 => ?_) (fun c9 => ?_)
        · refine g_lload_n hF dX8_ofRefusing_35 36 rfl rfl ?_
          exact g_lret hF dX8_ofRefusing_36 (Nat.le_of_ble_eq_true rfl) (Nat.le_of_ble_eq_true rfl) (fun H h => hR _ _ ⟨congrArg (fun z => some (Value.long z)) (by have := i_lt c9 (by omega) (by omega); rw [hs, show j = N + 1 by omega]), h⟩)
        · have hlt : j ≤ N := i_nlt c9 (by omega) (by omega)
          refine g_aload_n hF dX8_ofRefusing_12 13 rfl rfl ?_
          refine g_iload_n hF dX8_ofRefusing_13 14 rfl rfl ?_
          refine g_callV hF cv_X8_35 (c_W_takesOver l E a wf N R j hN hR6 (by omega) 1 (if_pos hto).symm) dX8_ofRefusing_14 17 rfl (st := []) rfl rfl ⟨Nat.le_of_ble_eq_true rfl, Nat.le_of_ble_eq_true rfl⟩ ⟨Nat.le_of_ble_eq_true rfl, Nat.le_of_ble_eq_true rfl⟩ rfl (Nat.le_of_ble_eq_true rfl) 8 rfl (by intro H h; first | exact h.1 | exact h.2) (Pr' := _) (fun _ h => h) (fun q z => z.elim) (fun _ _ _ h _ => by exact h) (st1 := [_]) rfl (k1 := 0) (n1 := 0) rfl rfl ?_
          refine g_if_ne hF dX8_ofRefusing_17 20 rfl 29 (by decide) (fun _ => ?_) (fun c => absurd c ((by decide)))
          refine g_iinc hF dX8_ofRefusing_29 32 rfl (1) rfl (lo' := [_, _, _, _]) rfl rfl ?_
          refine g_goto hF dX8_ofRefusing_32 4 (by decide) ?_
          exact ih (j + 1) _ _ (by omega) (by omega) (nI_succ j).symm (by rw [hs]; conv => rhs; unfold sRf; rw [if_pos hto])
      · refine g_iload_n hF dX8_ofRefusing_4 5 rfl rfl ?_
        refine g_aload_n hF dX8_ofRefusing_5 6 rfl rfl ?_
        refine g_get hF fl_X8_28 dX8_ofRefusing_6 9 rfl (by intro H h; first | exact h.1 | exact h.2) rfl ?_
        refine g_icmp_gt hF dX8_ofRefusing_9 12 rfl 35 (by decide) (fun c9 => ?_) (fun c9 => ?_)
        · refine g_lload_n hF dX8_ofRefusing_35 36 rfl rfl ?_
          exact g_lret hF dX8_ofRefusing_36 (Nat.le_of_ble_eq_true rfl) (Nat.le_of_ble_eq_true rfl) (fun H h => hR _ _ ⟨congrArg (fun z => some (Value.long z)) (by have := i_lt c9 (by omega) (by omega); rw [hs, show j = N + 1 by omega]), h⟩)
        · have hlt : j ≤ N := i_nlt c9 (by omega) (by omega)
          refine g_aload_n hF dX8_ofRefusing_12 13 rfl rfl ?_
          refine g_iload_n hF dX8_ofRefusing_13 14 rfl rfl ?_
          refine g_callV hF cv_X8_35 (c_W_takesOver l E a wf N R j hN hR6 (by omega) 0 (if_neg hto).symm) dX8_ofRefusing_14 17 rfl (st := []) rfl rfl ⟨Nat.le_of_ble_eq_true rfl, Nat.le_of_ble_eq_true rfl⟩ ⟨Nat.le_of_ble_eq_true rfl, Nat.le_of_ble_eq_true rfl⟩ rfl (Nat.le_of_ble_eq_true rfl) 8 rfl (by intro H h; first | exact h.1 | exact h.2) (Pr' := _) (fun _ h => h) (fun q z => z.elim) (fun _ _ _ h _ => by exact h) (st1 := [_]) rfl (k1 := 0) (n1 := 0) rfl rfl ?_
          refine g_if_ne hF dX8_ofRefusing_17 20 rfl 29 (by decide) (fun c => absurd (rfl) c) (fun _ => ?_)
          refine g_lload_n hF dX8_ofRefusing_20 21 rfl rfl ?_
          refine g_aload_n hF dX8_ofRefusing_21 22 rfl rfl ?_
          refine g_get hF fl_X8_9 dX8_ofRefusing_22 25 rfl (by intro H h; first | exact h.1 | exact h.2) rfl ?_
          refine g_iload_n hF dX8_ofRefusing_25 26 rfl rfl ?_
          refine g_lald hF dX8_ofRefusing_26 27 rfl (by intro H h; first | exact h.1 | exact h.2) (vp_in_nI (show j < 7 by omega) (by omega)) ?_
          rw [nI_clamp (by omega), hw j hlt]
          refine g_ladd hF dX8_ofRefusing_27 28 rfl ?_
          rw [hs, lN_add]
          refine g_lstore_n hF dX8_ofRefusing_28 29 rfl (lo' := [_, _, _, _]) (Nat.le_of_ble_eq_true rfl) rfl ?_
          refine g_iinc hF dX8_ofRefusing_29 32 rfl (1) rfl (lo' := [_, _, _, _]) rfl rfl ?_
          refine g_goto hF dX8_ofRefusing_32 4 (by decide) ?_
          exact ih (j + 1) _ _ (by omega) (by omega) (nI_succ j).symm (by conv => rhs; unfold sRf; rw [if_neg hto])
  refine g_lconst hF (0) dX8_ofRefusing_0 1 rfl rfl ?_
  refine g_lstore_n hF dX8_ofRefusing_1 2 rfl (lo' := [_, _, _, _]) (Nat.le_of_ble_eq_true rfl) rfl ?_
  refine g_iconst hF (0) dX8_ofRefusing_2 3 rfl rfl ?_
  refine g_istore_n hF dX8_ofRefusing_3 4 rfl (lo' := [_, _, _, _]) (Nat.le_of_ble_eq_true rfl) rfl ?_
  exact loop (N + 2) 0 0 0 (by omega) (by omega) nI_0.symm (show (0 : Int64) = lN 0 by decide)
set_option maxRecDepth 100000 in
set_option maxHeartbeats 8000000 in
theorem c_W_timesHeld (l : Launch) (E : Ev) (a N R : Nat) (w : Nat → Nat) (wf : Nat → Int64) (hN : N ≤ 6) (hw : ∀ k, k ≤ N → wf k = lN (w k)) : Ct l E yX8_timesHeld cX8_timesHeld 4 (some .long) (rm 1) [.ref a] (Wp E a wf (nI N) (nI R)) (rV (some (.long (lN (sTm w (N + 1))))) (Wp E a wf (nI N) (nI R))) (fun _ => False) := by
  refine ct_start (by decide) [some (.ref a), none, none, none] rfl (Nat.le_of_ble_eq_true rfl) ?_
  intro x hF hN0 hA hR
  have loop : ∀ (n j : Nat) (i : Int32) (s : Int64), N + 1 - j < n → j ≤ N + 1 → i = nI j → s = lN (sTm w j) → go l (rm 1) E x 0 0 (Wp E a wf (nI N) (nI R)) [some (.ref a), some (.long s), none, some (.int i)] 4 [] := by
    intro n
    induction n with
    | zero => intro j i s h; omega
    | succ n ih =>
      intro j i s hn0 hj hi hs
      subst hi
      refine g_iload_n hF dX8_timesHeld_4 5 rfl rfl ?_
      refine g_aload_n hF dX8_timesHeld_5 6 rfl rfl ?_
      refine g_get hF fl_X8_28 dX8_timesHeld_6 9 rfl (by intro H h; first | exact h.1 | exact h.2) rfl ?_
      refine g_icmp_gt hF dX8_timesHeld_9 12 rfl 30 (by decide) (fun c9 => ?_) (fun c9 => ?_)
      · refine g_lload_n hF dX8_timesHeld_30 31 rfl rfl ?_
        exact g_lret hF dX8_timesHeld_31 (Nat.le_of_ble_eq_true rfl) (Nat.le_of_ble_eq_true rfl) (fun H h => hR _ _ ⟨congrArg (fun z => some (Value.long z)) (by have := i_lt c9 (by omega) (by omega); rw [hs, show j = N + 1 by omega]), h⟩)
      · have hlt : j ≤ N := i_nlt c9 (by omega) (by omega)
        refine g_lload_n hF dX8_timesHeld_12 13 rfl rfl ?_
        refine g_iload_n hF dX8_timesHeld_13 14 rfl rfl ?_
        refine g_i2l hF dX8_timesHeld_14 15 rfl ?_
        rw [nI_l (by omega)]
        refine g_aload_n hF dX8_timesHeld_15 16 rfl rfl ?_
        refine g_get hF fl_X8_9 dX8_timesHeld_16 19 rfl (by intro H h; first | exact h.1 | exact h.2) rfl ?_
        refine g_iload_n hF dX8_timesHeld_19 20 rfl rfl ?_
        refine g_lald hF dX8_timesHeld_20 21 rfl (by intro H h; first | exact h.1 | exact h.2) (vp_in_nI (show j < 7 by omega) (by omega)) ?_
        rw [nI_clamp (by omega), hw j hlt]
        refine g_lmul hF dX8_timesHeld_21 22 rfl ?_
        rw [lN_mul]
        refine g_ladd hF dX8_timesHeld_22 23 rfl ?_
        rw [hs, lN_add]
        refine g_lstore_n hF dX8_timesHeld_23 24 rfl (lo' := [_, _, _, _]) (Nat.le_of_ble_eq_true rfl) rfl ?_
        refine g_iinc hF dX8_timesHeld_24 27 rfl (1) rfl (lo' := [_, _, _, _]) rfl rfl ?_
        refine g_goto hF dX8_timesHeld_27 4 (by decide) ?_
        exact ih (j + 1) _ _ (by omega) (by omega) (nI_succ j).symm rfl
  refine g_lconst hF (0) dX8_timesHeld_0 1 rfl rfl ?_
  refine g_lstore_n hF dX8_timesHeld_1 2 rfl (lo' := [_, _, _, _]) (Nat.le_of_ble_eq_true rfl) rfl ?_
  refine g_iconst hF (0) dX8_timesHeld_2 3 rfl rfl ?_
  refine g_istore_n hF dX8_timesHeld_3 4 rfl (lo' := [_, _, _, _]) (Nat.le_of_ble_eq_true rfl) rfl ?_
  exact loop (N + 2) 0 0 0 (by omega) (by omega) nI_0.symm (show (0 : Int64) = lN 0 by decide)
set_option maxRecDepth 100000 in
set_option maxHeartbeats 8000000 in
theorem c_W_losesAtMost (l : Launch) (E : Ev) (a N R p : Nat) (w : Nat → Nat) (wf : Nat → Int64) (hN : N ≤ 6) (hw : ∀ k, k ≤ N → wf k = lN (w k)) (hp : p < 2 ^ 31) (hb1 : 1000 * w N < 2 ^ 63) (hb2 : p * sW w (N + 1) < 2 ^ 63) (r : Int32) (hr : r = if 1000 * w N ≤ p * sW w (N + 1) then 1 else 0) : Ct l E yX8_losesAtMost cX8_losesAtMost 2 (some .boolean) (rm 2) [.ref a, .int (nI p)] (Wp E a wf (nI N) (nI R)) (rV (some (.int r)) (Wp E a wf (nI N) (nI R))) (fun _ => False) := by
  refine ct_start (by decide) [some (.ref a), some (.int (nI p))] rfl (Nat.le_of_ble_eq_true rfl) ?_
  intro x hF hN0 hA hR
  subst hr
  have e1000 : (1000 : Int64) = lN 1000 := by decide
  refine g_ldc2 hF kc_X8_42 dX8_losesAtMost_0 3 rfl ?_
  refine g_aload_n hF dX8_losesAtMost_3 4 rfl rfl ?_
  refine g_callV hF cv_X8_44 (c_W_ofAllHeld l E a N R w wf hN hw) dX8_losesAtMost_4 7 rfl (st := [_]) rfl rfl ⟨Nat.le_of_ble_eq_true rfl, Nat.le_of_ble_eq_true rfl⟩ ⟨Nat.le_of_ble_eq_true rfl, Nat.le_of_ble_eq_true rfl⟩ rfl (Nat.le_of_ble_eq_true rfl) 8 rfl (by intro H h; first | exact h.1 | exact h.2) (Pr' := _) (fun _ h => h) (fun q z => z.elim) (fun _ _ _ h _ => by exact h) (st1 := [_, _]) rfl (k1 := 0) (n1 := 0) rfl rfl ?_
  refine g_lmul hF dX8_losesAtMost_7 8 rfl ?_
  rw [e1000, lN_mul]
  refine g_iload_n hF dX8_losesAtMost_8 9 rfl rfl ?_
  refine g_i2l hF dX8_losesAtMost_9 10 rfl ?_
  rw [nI_l hp]
  refine g_aload_n hF dX8_losesAtMost_10 11 rfl rfl ?_
  refine g_callV hF cv_X8_48 (c_W_all l E a N R w wf hN hw) dX8_losesAtMost_11 14 rfl (st := [_, _]) rfl rfl ⟨Nat.le_of_ble_eq_true rfl, Nat.le_of_ble_eq_true rfl⟩ ⟨Nat.le_of_ble_eq_true rfl, Nat.le_of_ble_eq_true rfl⟩ rfl (Nat.le_of_ble_eq_true rfl) 8 rfl (by intro H h; first | exact h.1 | exact h.2) (Pr' := _) (fun _ h => h) (fun q z => z.elim) (fun _ _ _ h _ => by exact h) (st1 := [_, _, _]) rfl (k1 := 0) (n1 := 0) rfl rfl ?_
  refine g_lmul hF dX8_losesAtMost_14 15 rfl ?_
  rw [lN_mul]
  refine g_lcmp hF dX8_losesAtMost_15 16 rfl ?_
  refine g_if_gt hF dX8_losesAtMost_16 19 rfl 23 (by decide) (fun c16 => ?_) (fun c16 => ?_)
  · refine g_iconst hF (0) dX8_losesAtMost_23 24 rfl rfl ?_
    exact g_zret hF (rfl) dX8_losesAtMost_24 (Nat.le_of_ble_eq_true rfl) (Nat.le_of_ble_eq_true rfl) (fun H h => hR _ _ ⟨congrArg (fun z => some (Value.int z)) ((if_neg (fun z => by have := (pk_lLT hb2 hb1).mp (lc_gt.mp c16); omega)).symm), h⟩)
  · refine g_iconst hF (1) dX8_losesAtMost_19 20 rfl rfl ?_
    refine g_goto hF dX8_losesAtMost_20 24 (by decide) ?_
    exact g_zret hF (rfl) dX8_losesAtMost_24 (Nat.le_of_ble_eq_true rfl) (Nat.le_of_ble_eq_true rfl) (fun H h => hR _ _ ⟨congrArg (fun z => some (Value.int z)) ((if_pos (by have := fun z => c16 (lc_gt.mpr ((pk_lLT hb2 hb1).mpr z)); exact Nat.not_lt.mp this)).symm), h⟩)
/-! Fraction -/
def cd64 : Nat → Int64 → Int64 → Int64
  | 0, x, _ => x
  | n + 1, x, y => if y = 0 then x else cd64 n y (x - x / y * y)
set_option maxRecDepth 100000 in
set_option maxHeartbeats 8000000 in
theorem c_F_commonDivisor (l : Launch) (E : Ev) (x0 y0 : Int64) (P : Heap → Prop) : Ct l E yX2_commonDivisor cX2_commonDivisor 11 (some .long) (rm 1) [.long x0, .long y0] P (rV (some (.long (cd64 100 x0 y0))) P) (fun _ => False) := by
  refine ct_start (by decide) [some (.long x0), none, some (.long y0), none, none, none, none, none, none, none, none] rfl (Nat.le_of_ble_eq_true rfl) ?_
  intro x hF hN0 hA hR
  have loop : ∀ (n j : Nat) (i : Int32) (p q : Int64), 100 - j < n → j ≤ 100 → i = nI j → cd64 100 x0 y0 = cd64 (100 - j) p q → go l (rm 1) E x 0 0 P [some (.long x0), none, some (.long y0), none, some (.long p), none, some (.long q), none, some (.int i), none, none] 9 [] := by
    intro n
    induction n with
    | zero => intro j i p q h; omega
    | succ n ih =>
      intro j i p q hn0 hj hi hv
      subst hi
      refine g_iload hF dX2_commonDivisor_9 11 rfl rfl ?_
      refine g_bipush hF (100) dX2_commonDivisor_11 13 rfl rfl ?_
      refine g_icmp_ge hF dX2_commonDivisor_13 16 rfl 44 (by decide) (fun c13 => ?_) (fun c13 => ?_)
      · refine g_lload hF dX2_commonDivisor_44 46 rfl rfl ?_
        exact g_lret hF dX2_commonDivisor_46 (Nat.le_of_ble_eq_true rfl) (Nat.le_of_ble_eq_true rfl) (fun H h => hR _ _ ⟨congrArg (fun z => some (Value.long z)) (by have := i_le (a := 100) c13 (by omega) (by omega); rw [hv, show 100 - j = 0 by omega]; rfl), h⟩)
      · have hlt : j < 100 := i_nle (a := 100) c13 (by omega) (by omega)
        rw [show 100 - j = (100 - (j + 1)) + 1 by omega] at hv
        refine g_lload hF dX2_commonDivisor_16 18 rfl rfl ?_
        refine g_lconst hF (0) dX2_commonDivisor_18 19 rfl rfl ?_
        refine g_lcmp hF dX2_commonDivisor_19 20 rfl ?_
        refine g_if_eq hF dX2_commonDivisor_20 23 rfl 44 (by decide) (fun c20 => ?_) (fun c20 => ?_)
        · refine g_lload hF dX2_commonDivisor_44 46 rfl rfl ?_
          exact g_lret hF dX2_commonDivisor_46 (Nat.le_of_ble_eq_true rfl) (Nat.le_of_ble_eq_true rfl) (fun H h => hR _ _ ⟨congrArg (fun z => some (Value.long z)) (by rw [hv]; exact (if_pos (lc_eq.mp c20)).symm), h⟩)
        · have hq : ¬ q = 0 := fun z => c20 (lc_eq.mpr z)
          refine g_lload hF dX2_commonDivisor_23 25 rfl rfl ?_
          refine g_lload hF dX2_commonDivisor_25 27 rfl rfl ?_
          refine g_lrem hF dX2_commonDivisor_27 28 rfl (hq) ?_
          refine g_lstore hF dX2_commonDivisor_28 30 rfl (lo' := [_, _, _, _, _, _, _, _, _, _, _]) (Nat.le_of_ble_eq_true rfl) rfl ?_
          refine g_lload hF dX2_commonDivisor_30 32 rfl rfl ?_
          refine g_lstore hF dX2_commonDivisor_32 34 rfl (lo' := [_, _, _, _, _, _, _, _, _, _, _]) (Nat.le_of_ble_eq_true rfl) rfl ?_
          refine g_lload hF dX2_commonDivisor_34 36 rfl rfl ?_
          refine g_lstore hF dX2_commonDivisor_36 38 rfl (lo' := [_, _, _, _, _, _, _, _, _, _, _]) (Nat.le_of_ble_eq_true rfl) rfl ?_
          refine g_iinc hF dX2_commonDivisor_38 41 rfl (1) rfl (lo' := [_, _, _, _, _, _, _, _, _, _, _]) rfl rfl ?_
          refine g_goto hF dX2_commonDivisor_41 9 (by decide) ?_
          refine g_cut [true, true, true, true, true, true, true, true, true, false, false] (lo' := [_, _, _, _, _, _, _, _, _, _, _]) rfl ?_
          exact ih (j + 1) _ _ _ (by omega) (by omega) (nI_succ j).symm (hv.trans (if_neg hq))
  refine g_lload_n hF dX2_commonDivisor_0 1 rfl rfl ?_
  refine g_lstore hF dX2_commonDivisor_1 3 rfl (lo' := [_, _, _, _, _, _, _, _, _, _, _]) (Nat.le_of_ble_eq_true rfl) rfl ?_
  refine g_lload_n hF dX2_commonDivisor_3 4 rfl rfl ?_
  refine g_lstore hF dX2_commonDivisor_4 6 rfl (lo' := [_, _, _, _, _, _, _, _, _, _, _]) (Nat.le_of_ble_eq_true rfl) rfl ?_
  refine g_iconst hF (0) dX2_commonDivisor_6 7 rfl rfl ?_
  refine g_istore hF dX2_commonDivisor_7 9 rfl (lo' := [_, _, _, _, _, _, _, _, _, _, _]) (Nat.le_of_ble_eq_true rfl) rfl ?_
  exact loop 101 0 0 _ _ (by omega) (by omega) nI_0.symm rfl
def bcm (x y : Int64) : Int64 × Int64 := if y = 0 ∨ cd64 100 (ab64 x) (ab64 y) = 0 then (0, 1) else if y < 0 then (x / -cd64 100 (ab64 x) (ab64 y), y / -cd64 100 (ab64 x) (ab64 y)) else (x / cd64 100 (ab64 x) (ab64 y), y / cd64 100 (ab64 x) (ab64 y))
def Fp (E : Ev) (a : Nat) (x y : Int64) (H : Heap) : Prop := ob E 2 a [.long x, .long y] H
theorem neg64_ne {z : Int64} (h : ¬ z = 0) : ¬ -z = 0 := fun e => h (by have := congrArg (fun w => -w) e; simpa using this)
set_option maxRecDepth 100000 in
set_option maxHeartbeats 8000000 in
theorem c_F_become (l : Launch) (E : Ev) (a : Nat) (f g x0 y0 : Int64) : Ct l E yX2_become cX2_become 9 none (rm 2) [.ref a, .long x0, .long y0] (Fp E a f g) (rV none (Fp E a (bcm x0 y0).1 (bcm x0 y0).2)) (fun q => q = a) := by
  refine ct_start (by decide) [some (.ref a), some (.long x0), none, some (.long y0), none, none, none, none, none] rfl (Nat.le_of_ble_eq_true rfl) ?_
  intro x hF hN0 hA hR
  obtain ⟨dv, ed⟩ : ∃ d, d = cd64 100 (ab64 x0) (ab64 y0) := ⟨_, rfl⟩
  unfold bcm at hR
  rw [← ed] at hR
  refine g_lload_n hF dX2_become_0 1 rfl rfl ?_
  refine g_callS hF cs_X2_13 (c_absL l E x0 (Fp E a f g)) dX2_become_1 4 rfl (st := []) rfl rfl ⟨Nat.le_of_ble_eq_true rfl, Nat.le_of_ble_eq_true rfl⟩ ⟨Nat.le_of_ble_eq_true rfl, Nat.le_of_ble_eq_true rfl⟩ rfl (Nat.le_of_ble_eq_true rfl) (Pr' := _) (fun _ h => h) (fun q z => z.elim) (fun _ _ _ h _ => by exact h) (st1 := [_]) rfl (k1 := 0) (n1 := 0) rfl rfl ?_
  refine g_lload_n hF dX2_become_4 5 rfl rfl ?_
  refine g_callS hF cs_X2_13 (c_absL l E y0 (Fp E a f g)) dX2_become_5 8 rfl (st := [_]) rfl rfl ⟨Nat.le_of_ble_eq_true rfl, Nat.le_of_ble_eq_true rfl⟩ ⟨Nat.le_of_ble_eq_true rfl, Nat.le_of_ble_eq_true rfl⟩ rfl (Nat.le_of_ble_eq_true rfl) (Pr' := _) (fun _ h => h) (fun q z => z.elim) (fun _ _ _ h _ => by exact h) (st1 := [_, _]) rfl (k1 := 0) (n1 := 0) rfl rfl ?_
  refine g_callS hF cs_X2_19 (c_F_commonDivisor l E (ab64 x0) (ab64 y0) (Fp E a f g)) dX2_become_8 11 rfl (st := []) rfl rfl ⟨Nat.le_of_ble_eq_true rfl, Nat.le_of_ble_eq_true rfl⟩ ⟨Nat.le_of_ble_eq_true rfl, Nat.le_of_ble_eq_true rfl⟩ rfl (Nat.le_of_ble_eq_true rfl) (Pr' := _) (fun _ h => h) (fun q z => z.elim) (fun _ _ _ h _ => by exact h) (st1 := [_]) rfl (k1 := 0) (n1 := 0) rfl rfl ?_
  rw [← ed]
  refine g_lstore hF dX2_become_11 13 rfl (lo' := [_, _, _, _, _, _, _, _, _]) (Nat.le_of_ble_eq_true rfl) rfl ?_
  refine g_lload_n hF dX2_become_13 14 rfl rfl ?_
  refine g_lconst hF (0) dX2_become_14 15 rfl rfl ?_
  refine g_lcmp hF dX2_become_15 16 rfl ?_
  refine g_if_eq hF dX2_become_16 19 rfl 26 (by decide) (fun c16 => ?_) (fun c16 => ?_)
  · refine g_aload_n hF dX2_become_26 27 rfl rfl ?_
    refine g_lconst hF (0) dX2_become_27 28 rfl rfl ?_
    refine g_put hF pl_X2_23 dX2_become_28 31 rfl (by intro H h; exact h) (Nat.le_of_ble_eq_true rfl) rfl rfl (hA _ rfl) (Pr' := Fp E a 0 g) (fun H H' h h1 h2 => by exact h1) ?_
    refine g_aload_n hF dX2_become_31 32 rfl rfl ?_
    refine g_lconst hF (1) dX2_become_32 33 rfl rfl ?_
    refine g_put hF pl_X2_7 dX2_become_33 36 rfl (by intro H h; exact h) (Nat.le_of_ble_eq_true rfl) rfl rfl (hA _ rfl) (Pr' := Fp E a 0 1) (fun H H' h h1 h2 => by exact h1) ?_
    exact g_vret hF dX2_become_36 (Nat.le_of_ble_eq_true rfl) (Nat.le_of_ble_eq_true rfl) (fun H h => hR _ _ ⟨rfl, by rw [if_pos (Or.inl (lc_eq.mp c16))]; exact h⟩)
  · refine g_lload hF dX2_become_19 21 rfl rfl ?_
    refine g_lconst hF (0) dX2_become_21 22 rfl rfl ?_
    refine g_lcmp hF dX2_become_22 23 rfl ?_
    refine g_if_ne hF dX2_become_23 26 rfl 37 (by decide) (fun c23 => ?_) (fun c23 => ?_)
    · have hd : ¬ dv = 0 := fun z => c23 (lc_eq.mpr z)
      rw [if_neg (fun z => z.elim (fun q => c16 (lc_eq.mpr q)) hd)] at hR
      refine g_lload_n hF dX2_become_37 38 rfl rfl ?_
      refine g_lconst hF (0) dX2_become_38 39 rfl rfl ?_
      refine g_lcmp hF dX2_become_39 40 rfl ?_
      refine g_if_ge hF dX2_become_40 43 rfl 49 (by decide) (fun c40 => ?_) (fun c40 => ?_)
      · refine g_lload hF dX2_become_49 51 rfl rfl ?_
        refine g_lstore hF dX2_become_51 53 rfl (lo' := [_, _, _, _, _, _, _, _, _]) (Nat.le_of_ble_eq_true rfl) rfl ?_
        refine g_aload_n hF dX2_become_53 54 rfl rfl ?_
        refine g_lload_n hF dX2_become_54 55 rfl rfl ?_
        refine g_lload hF dX2_become_55 57 rfl rfl ?_
        refine g_ldiv hF dX2_become_57 58 rfl (hd) ?_
        refine g_put hF pl_X2_23 dX2_become_58 61 rfl (by intro H h; exact h) (Nat.le_of_ble_eq_true rfl) rfl rfl (hA _ rfl) (Pr' := Fp E a (x0 / dv) g) (fun H H' h h1 h2 => by exact h1) ?_
        refine g_aload_n hF dX2_become_61 62 rfl rfl ?_
        refine g_lload_n hF dX2_become_62 63 rfl rfl ?_
        refine g_lload hF dX2_become_63 65 rfl rfl ?_
        refine g_ldiv hF dX2_become_65 66 rfl (hd) ?_
        refine g_put hF pl_X2_7 dX2_become_66 69 rfl (by intro H h; exact h) (Nat.le_of_ble_eq_true rfl) rfl rfl (hA _ rfl) (Pr' := Fp E a (x0 / dv) (y0 / dv)) (fun H H' h h1 h2 => by exact h1) ?_
        exact g_vret hF dX2_become_69 (Nat.le_of_ble_eq_true rfl) (Nat.le_of_ble_eq_true rfl) (fun H h => hR _ _ ⟨rfl, by rw [if_neg (lc_ge.mp c40)]; exact h⟩)
      · refine g_lload hF dX2_become_43 45 rfl rfl ?_
        refine g_lneg hF dX2_become_45 46 rfl ?_
        refine g_goto hF dX2_become_46 51 (by decide) ?_
        refine g_lstore hF dX2_become_51 53 rfl (lo' := [_, _, _, _, _, _, _, _, _]) (Nat.le_of_ble_eq_true rfl) rfl ?_
        refine g_aload_n hF dX2_become_53 54 rfl rfl ?_
        refine g_lload_n hF dX2_become_54 55 rfl rfl ?_
        refine g_lload hF dX2_become_55 57 rfl rfl ?_
        refine g_ldiv hF dX2_become_57 58 rfl (neg64_ne hd) ?_
        refine g_put hF pl_X2_23 dX2_become_58 61 rfl (by intro H h; exact h) (Nat.le_of_ble_eq_true rfl) rfl rfl (hA _ rfl) (Pr' := Fp E a (x0 / -dv) g) (fun H H' h h1 h2 => by exact h1) ?_
        refine g_aload_n hF dX2_become_61 62 rfl rfl ?_
        refine g_lload_n hF dX2_become_62 63 rfl rfl ?_
        refine g_lload hF dX2_become_63 65 rfl rfl ?_
        refine g_ldiv hF dX2_become_65 66 rfl (neg64_ne hd) ?_
        refine g_put hF pl_X2_7 dX2_become_66 69 rfl (by intro H h; exact h) (Nat.le_of_ble_eq_true rfl) rfl rfl (hA _ rfl) (Pr' := Fp E a (x0 / -dv) (y0 / -dv)) (fun H H' h h1 h2 => by exact h1) ?_
        exact g_vret hF dX2_become_69 (Nat.le_of_ble_eq_true rfl) (Nat.le_of_ble_eq_true rfl) (fun H h => hR _ _ ⟨rfl, by rw [if_pos (Classical.byContradiction fun z => c40 (lc_ge.mpr z))]; exact h⟩)
    · refine g_aload_n hF dX2_become_26 27 rfl rfl ?_
      refine g_lconst hF (0) dX2_become_27 28 rfl rfl ?_
      refine g_put hF pl_X2_23 dX2_become_28 31 rfl (by intro H h; exact h) (Nat.le_of_ble_eq_true rfl) rfl rfl (hA _ rfl) (Pr' := Fp E a 0 g) (fun H H' h h1 h2 => by exact h1) ?_
      refine g_aload_n hF dX2_become_31 32 rfl rfl ?_
      refine g_lconst hF (1) dX2_become_32 33 rfl rfl ?_
      refine g_put hF pl_X2_7 dX2_become_33 36 rfl (by intro H h; exact h) (Nat.le_of_ble_eq_true rfl) rfl rfl (hA _ rfl) (Pr' := Fp E a 0 1) (fun H H' h h1 h2 => by exact h1) ?_
      exact g_vret hF dX2_become_36 (Nat.le_of_ble_eq_true rfl) (Nat.le_of_ble_eq_true rfl) (fun H h => hR _ _ ⟨rfl, by rw [if_pos (Or.inr (lc_eq.mp c23))]; exact h⟩)
set_option maxRecDepth 100000 in
set_option maxHeartbeats 8000000 in
theorem c_F_part (l : Launch) (E : Ev) (a : Nat) (f g : Int64) (z : Int32) : Ct l E yX2_part cX2_part 2 (some .long) (rm 1) [.ref a, .int z] (Fp E a f g) (rV (some (.long (if z = 0 then f else g))) (Fp E a f g)) (fun _ => False) := by
  refine ct_start (by decide) [some (.ref a), some (.int z)] rfl (Nat.le_of_ble_eq_true rfl) ?_
  intro x hF hN0 hA hR
  refine g_iload_n hF dX2_part_0 1 rfl rfl ?_
  refine g_if_ne hF dX2_part_1 4 rfl 11 (by decide) (fun c1 => ?_) (fun c1 => ?_)
  · refine g_aload_n hF dX2_part_11 12 rfl rfl ?_
    refine g_get hF fl_X2_7 dX2_part_12 15 rfl (by intro H h; exact h) rfl ?_
    exact g_lret hF dX2_part_15 (Nat.le_of_ble_eq_true rfl) (Nat.le_of_ble_eq_true rfl) (fun H h => hR _ _ ⟨congrArg (fun z => some (Value.long z)) ((if_neg c1).symm), h⟩)
  · refine g_aload_n hF dX2_part_4 5 rfl rfl ?_
    refine g_get hF fl_X2_23 dX2_part_5 8 rfl (by intro H h; exact h) rfl ?_
    refine g_goto hF dX2_part_8 15 (by decide) ?_
    exact g_lret hF dX2_part_15 (Nat.le_of_ble_eq_true rfl) (Nat.le_of_ble_eq_true rfl) (fun H h => hR _ _ ⟨congrArg (fun z => some (Value.long z)) ((if_pos c1).symm), h⟩)
/-- the spread's fraction out of the mean's -/
def spr (m q : Int64) (n a : Int32) : Int64 × Int64 := bcm (m * ((q - m) * ((n + 1 - a).toInt64 * q + m) + a.toInt64 * q * q)) (q * q * ((n + 1 - a).toInt64 * q + m))
set_option maxRecDepth 100000 in
set_option maxHeartbeats 8000000 in
theorem c_F_spreadFromMean (l : Launch) (E : Ev) (a : Nat) (f g : Int64) (n c : Int32) : Ct l E yX2_spreadFromMean cX2_spreadFromMean 9 none (rm 3) [.ref a, .int n, .int c] (Fp E a f g) (rV none (Fp E a (spr f g n c).1 (spr f g n c).2)) (fun q => q = a) := by
  refine ct_start (by decide) [some (.ref a), some (.int n), some (.int c), none, none, none, none, none, none] rfl (Nat.le_of_ble_eq_true rfl) ?_
  intro x hF hN0 hA hR
  refine g_aload_n hF dX2_spreadFromMean_0 1 rfl rfl ?_
  refine g_get hF fl_X2_23 dX2_spreadFromMean_1 4 rfl (by intro H h; exact h) rfl ?_
  refine g_lstore_n hF dX2_spreadFromMean_4 5 rfl (lo' := [_, _, _, _, _, _, _, _, _]) (Nat.le_of_ble_eq_true rfl) rfl ?_
  refine g_aload_n hF dX2_spreadFromMean_5 6 rfl rfl ?_
  refine g_get hF fl_X2_7 dX2_spreadFromMean_6 9 rfl (by intro H h; exact h) rfl ?_
  refine g_lstore hF dX2_spreadFromMean_9 11 rfl (lo' := [_, _, _, _, _, _, _, _, _]) (Nat.le_of_ble_eq_true rfl) rfl ?_
  refine g_iload_n hF dX2_spreadFromMean_11 12 rfl rfl ?_
  refine g_iconst hF (1) dX2_spreadFromMean_12 13 rfl rfl ?_
  refine g_iadd hF dX2_spreadFromMean_13 14 rfl ?_
  refine g_iload_n hF dX2_spreadFromMean_14 15 rfl rfl ?_
  refine g_isub hF dX2_spreadFromMean_15 16 rfl ?_
  refine g_i2l hF dX2_spreadFromMean_16 17 rfl ?_
  refine g_lload hF dX2_spreadFromMean_17 19 rfl rfl ?_
  refine g_lmul hF dX2_spreadFromMean_19 20 rfl ?_
  refine g_lload_n hF dX2_spreadFromMean_20 21 rfl rfl ?_
  refine g_ladd hF dX2_spreadFromMean_21 22 rfl ?_
  refine g_lstore hF dX2_spreadFromMean_22 24 rfl (lo' := [_, _, _, _, _, _, _, _, _]) (Nat.le_of_ble_eq_true rfl) rfl ?_
  refine g_aload_n hF dX2_spreadFromMean_24 25 rfl rfl ?_
  refine g_lload_n hF dX2_spreadFromMean_25 26 rfl rfl ?_
  refine g_lload hF dX2_spreadFromMean_26 28 rfl rfl ?_
  refine g_lload_n hF dX2_spreadFromMean_28 29 rfl rfl ?_
  refine g_lsub hF dX2_spreadFromMean_29 30 rfl ?_
  refine g_lload hF dX2_spreadFromMean_30 32 rfl rfl ?_
  refine g_lmul hF dX2_spreadFromMean_32 33 rfl ?_
  refine g_iload_n hF dX2_spreadFromMean_33 34 rfl rfl ?_
  refine g_i2l hF dX2_spreadFromMean_34 35 rfl ?_
  refine g_lload hF dX2_spreadFromMean_35 37 rfl rfl ?_
  refine g_lmul hF dX2_spreadFromMean_37 38 rfl ?_
  refine g_lload hF dX2_spreadFromMean_38 40 rfl rfl ?_
  refine g_lmul hF dX2_spreadFromMean_40 41 rfl ?_
  refine g_ladd hF dX2_spreadFromMean_41 42 rfl ?_
  refine g_lmul hF dX2_spreadFromMean_42 43 rfl ?_
  refine g_lload hF dX2_spreadFromMean_43 45 rfl rfl ?_
  refine g_lload hF dX2_spreadFromMean_45 47 rfl rfl ?_
  refine g_lmul hF dX2_spreadFromMean_47 48 rfl ?_
  refine g_lload hF dX2_spreadFromMean_48 50 rfl rfl ?_
  refine g_lmul hF dX2_spreadFromMean_50 51 rfl ?_
  refine g_callV hF cv_X2_26 (c_F_become l E a f g _ _) dX2_spreadFromMean_51 54 rfl (st := []) rfl rfl ⟨Nat.le_of_ble_eq_true rfl, Nat.le_of_ble_eq_true rfl⟩ ⟨Nat.le_of_ble_eq_true rfl, Nat.le_of_ble_eq_true rfl⟩ rfl (Nat.le_of_ble_eq_true rfl) 2 rfl (by intro H h; exact h) (Pr' := _) (fun _ h => h) (hA) (fun _ _ _ h _ => by exact h) (st1 := []) rfl (k1 := 0) (n1 := 0) rfl rfl ?_
  exact g_vret hF dX2_spreadFromMean_54 (Nat.le_of_ble_eq_true rfl) (Nat.le_of_ble_eq_true rfl) (fun H h => hR _ _ ⟨rfl, h⟩)
