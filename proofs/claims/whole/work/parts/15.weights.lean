/-! Weights: the numbers of the long run; Math -/
theorem lc_eq {x y : Int64} : lg_cmp x y = 0 ↔ x = y := lg_cmp_eq x y
theorem lc_gt {x y : Int64} : 0 < lg_cmp x y ↔ y < x := lg_cmp_gt x y
theorem lc_le {x y : Int64} : lg_cmp x y ≤ 0 ↔ ¬ y < x := by rw [lg_cmp_le, Int64.not_lt]
theorem lc_lt {x y : Int64} : lg_cmp x y < 0 ↔ x < y := lg_cmp_lt x y
theorem lc_ge {x y : Int64} : 0 ≤ lg_cmp x y ↔ ¬ x < y := by rw [lg_cmp_ge, Int64.not_lt]
set_option maxRecDepth 100000 in
set_option maxHeartbeats 8000000 in
theorem c_max (l : Launch) (E : Ev) (x y : Int32) (P : Heap → Prop) : Ct l E yJ9_max_7cf53 cJ9_max_7cf53 2 (some .int) (rm 1) [.int x, .int y] P (rV (some (.int (if x < y then y else x))) P) (fun _ => False) := by
  refine ct_startF (by decide +kernel) [some (.int x), some (.int y)] rfl (Nat.le_of_ble_eq_true rfl) ?_
  intro z hF hN hA hR
  refine g_iload_n hF dJ9_max_7cf53_0 1 rfl rfl ?_
  refine g_iload_n hF dJ9_max_7cf53_1 2 rfl rfl ?_
  refine g_icmp_lt hF dJ9_max_7cf53_2 5 rfl 9 (by decide) (fun c2 => ?_) (fun c2 => ?_)
  · refine g_iload_n hF dJ9_max_7cf53_9 10 rfl rfl ?_
    exact g_iret hF dJ9_max_7cf53_10 (Nat.le_of_ble_eq_true rfl) (Nat.le_of_ble_eq_true rfl) (fun H h => hR _ _ ⟨congrArg (fun z => some (Value.int z)) ((if_pos c2).symm), h⟩)
  · refine g_iload_n hF dJ9_max_7cf53_5 6 rfl rfl ?_
    refine g_goto hF dJ9_max_7cf53_6 10 (by decide) ?_
    exact g_iret hF dJ9_max_7cf53_10 (Nat.le_of_ble_eq_true rfl) (Nat.le_of_ble_eq_true rfl) (fun H h => hR _ _ ⟨congrArg (fun z => some (Value.int z)) ((if_neg c2).symm), h⟩)
set_option maxRecDepth 100000 in
set_option maxHeartbeats 8000000 in
theorem c_min (l : Launch) (E : Ev) (x y : Int32) (P : Heap → Prop) : Ct l E yJ9_min_7cf53 cJ9_min_7cf53 2 (some .int) (rm 1) [.int x, .int y] P (rV (some (.int (if y < x then y else x))) P) (fun _ => False) := by
  refine ct_startF (by decide +kernel) [some (.int x), some (.int y)] rfl (Nat.le_of_ble_eq_true rfl) ?_
  intro z hF hN hA hR
  refine g_iload_n hF dJ9_min_7cf53_0 1 rfl rfl ?_
  refine g_iload_n hF dJ9_min_7cf53_1 2 rfl rfl ?_
  refine g_icmp_gt hF dJ9_min_7cf53_2 5 rfl 9 (by decide) (fun c2 => ?_) (fun c2 => ?_)
  · refine g_iload_n hF dJ9_min_7cf53_9 10 rfl rfl ?_
    exact g_iret hF dJ9_min_7cf53_10 (Nat.le_of_ble_eq_true rfl) (Nat.le_of_ble_eq_true rfl) (fun H h => hR _ _ ⟨congrArg (fun z => some (Value.int z)) ((if_pos c2).symm), h⟩)
  · refine g_iload_n hF dJ9_min_7cf53_5 6 rfl rfl ?_
    refine g_goto hF dJ9_min_7cf53_6 10 (by decide) ?_
    exact g_iret hF dJ9_min_7cf53_10 (Nat.le_of_ble_eq_true rfl) (Nat.le_of_ble_eq_true rfl) (fun H h => hR _ _ ⟨congrArg (fun z => some (Value.int z)) ((if_neg c2).symm), h⟩)
set_option maxRecDepth 100000 in
set_option maxHeartbeats 8000000 in
theorem c_maxL (l : Launch) (E : Ev) (x y : Int64) (P : Heap → Prop) : Ct l E yJ9_max_f86c9 cJ9_max_f86c9 4 (some .long) (rm 1) [.long x, .long y] P (rV (some (.long (if x < y then y else x))) P) (fun _ => False) := by
  refine ct_startF (by decide +kernel) [some (.long x), none, some (.long y), none] rfl (Nat.le_of_ble_eq_true rfl) ?_
  intro z hF hN hA hR
  refine g_lload_n hF dJ9_max_f86c9_0 1 rfl rfl ?_
  refine g_lload_n hF dJ9_max_f86c9_1 2 rfl rfl ?_
  refine g_lcmp hF dJ9_max_f86c9_2 3 rfl ?_
  refine g_if_lt hF dJ9_max_f86c9_3 6 rfl 10 (by decide) (fun c3 => ?_) (fun c3 => ?_)
  · refine g_lload_n hF dJ9_max_f86c9_10 11 rfl rfl ?_
    exact g_lret hF dJ9_max_f86c9_11 (Nat.le_of_ble_eq_true rfl) (Nat.le_of_ble_eq_true rfl) (fun H h => hR _ _ ⟨congrArg (fun z => some (Value.long z)) ((if_pos (lc_lt.mp c3)).symm), h⟩)
  · refine g_lload_n hF dJ9_max_f86c9_6 7 rfl rfl ?_
    refine g_goto hF dJ9_max_f86c9_7 11 (by decide) ?_
    exact g_lret hF dJ9_max_f86c9_11 (Nat.le_of_ble_eq_true rfl) (Nat.le_of_ble_eq_true rfl) (fun H h => hR _ _ ⟨congrArg (fun z => some (Value.long z)) ((if_neg (fun q => c3 (lc_lt.mpr q))).symm), h⟩)
def ab64 (x : Int64) : Int64 := if x < 0 then -x else x
set_option maxRecDepth 100000 in
set_option maxHeartbeats 8000000 in
theorem c_absL (l : Launch) (E : Ev) (x : Int64) (P : Heap → Prop) : Ct l E yJ9_abs_067f4 cJ9_abs_067f4 2 (some .long) (rm 1) [.long x] P (rV (some (.long (ab64 x))) P) (fun _ => False) := by
  refine ct_startF (by decide +kernel) [some (.long x), none] rfl (Nat.le_of_ble_eq_true rfl) ?_
  intro z hF hN hA hR
  refine g_lload_n hF dJ9_abs_067f4_0 1 rfl rfl ?_
  refine g_lconst hF (0) dJ9_abs_067f4_1 2 rfl rfl ?_
  refine g_lcmp hF dJ9_abs_067f4_2 3 rfl ?_
  refine g_if_ge hF dJ9_abs_067f4_3 6 rfl 11 (by decide) (fun c3 => ?_) (fun c3 => ?_)
  · refine g_lload_n hF dJ9_abs_067f4_11 12 rfl rfl ?_
    exact g_lret hF dJ9_abs_067f4_12 (Nat.le_of_ble_eq_true rfl) (Nat.le_of_ble_eq_true rfl) (fun H h => hR _ _ ⟨congrArg (fun z => some (Value.long z)) ((if_neg (lc_ge.mp c3)).symm), h⟩)
  · refine g_lload_n hF dJ9_abs_067f4_6 7 rfl rfl ?_
    refine g_lneg hF dJ9_abs_067f4_7 8 rfl ?_
    refine g_goto hF dJ9_abs_067f4_8 12 (by decide) ?_
    exact g_lret hF dJ9_abs_067f4_12 (Nat.le_of_ble_eq_true rfl) (Nat.le_of_ble_eq_true rfl) (fun H h => hR _ _ ⟨congrArg (fun z => some (Value.long z)) ((if_pos (Classical.byContradiction fun q => c3 (lc_ge.mpr q))).symm), h⟩)
/-! the weights -/
def cm (parts N A R B k : Nat) : Nat := parts * A + if R < N - k then B else 0
def wt (first parts N A R B : Nat) : Nat → Nat
  | 0 => first
  | k + 1 => wt first parts N A R B k * cm parts N A R B k / (parts * (k + 1))
theorem wt_le {first parts N A R B : Nat} (hp : 1 ≤ parts) (hA : A ≤ 6) (hB : B ≤ 18 * parts) : ∀ k, wt first parts N A R B k ≤ first * 24 ^ k
  | 0 => by simp [wt]
  | k + 1 => by
    have ih := wt_le (first := first) (N := N) (R := R) hp hA hB k
    have hc : cm parts N A R B k ≤ parts * 24 := by
      unfold cm
      have : parts * A ≤ parts * 6 := Nat.mul_le_mul_left _ hA
      split <;> omega
    unfold wt
    calc wt first parts N A R B k * cm parts N A R B k / (parts * (k + 1))
        ≤ (first * 24 ^ k) * (parts * 24) / (parts * (k + 1)) := Nat.div_le_div_right (Nat.mul_le_mul ih hc)
      _ ≤ (first * 24 ^ k) * (parts * 24) / parts := Nat.div_le_div_left (Nat.le_mul_of_pos_right _ (by omega)) (by omega)
      _ = first * 24 ^ (k + 1) := by
        rw [show first * 24 ^ k * (parts * 24) = (first * 24 ^ (k + 1)) * parts by rw [Nat.pow_succ]; simp only [Nat.mul_assoc, Nat.mul_comm, Nat.mul_left_comm], Nat.mul_div_cancel _ (by omega)]
theorem wt_lt {first parts N A R B k : Nat} (hf : first ≤ 1000000) (hp : 1 ≤ parts) (hA : A ≤ 6) (hB : B ≤ 18 * parts) (hk : k ≤ 6) : wt first parts N A R B k ≤ 191102976000000 := by
  have h1 := wt_le (first := first) (N := N) (R := R) hp hA hB k
  have h2 : 24 ^ k ≤ 24 ^ 6 := Nat.pow_le_pow_right (by omega) hk
  have h3 : first * 24 ^ k ≤ 1000000 * 24 ^ 6 := Nat.mul_le_mul hf h2
  have h4 : 1000000 * 24 ^ 6 = 191102976000000 := by decide
  omega
def Wp (E : Ev) (a : Nat) (wf : Nat → Int64) (x y : Int32) (H : Heap) : Prop := ob E 8 a [.ref (a + 1), .int x, .int y] H ∧ aj E (a + 1) 7 wf H
theorem aj_kept {E : Ev} {a n : Nat} {f : Nat → Int64} {H H' : Heap} (h : aj E a n f H) (hq : H'[a]? = H[a]?) : aj E a n f H' := va_at.kept h hq
theorem Wp.kept {E : Ev} {a : Nat} {wf : Nat → Int64} {x y : Int32} {H H' : Heap} (h : Wp E a wf x y H) (hq : ∀ q, rg a 2 q → H'[q]? = H[q]?) : Wp E a wf x y H' := ⟨ob_kept h.1 (hq _ ⟨by omega, by omega⟩), aj_kept h.2 (hq _ ⟨by omega, by omega⟩)⟩
theorem Wp.le {E : Ev} {a : Nat} {wf : Nat → Int64} {x y : Int32} {H : Heap} (h : Wp E a wf x y H) : a + 2 ≤ H.size := va_at.lt h.2
set_option maxRecDepth 100000 in
set_option maxHeartbeats 8000000 in
theorem c_W_takesOver (l : Launch) (E : Ev) (a : Nat) (wf : Nat → Int64) (N R j : Nat) (hN : N ≤ 6) (hR6 : R ≤ 6) (hj : j ≤ N) (r : Int32) (hr : r = if R < N - j then 1 else 0) : Ct l E yX8_takesOver cX8_takesOver 2 (some .boolean) (rm 1) [.ref a, .int (nI j)] (Wp E a wf (nI N) (nI R)) (rV (some (.int r)) (Wp E a wf (nI N) (nI R))) (fun _ => False) := by
  refine ct_start (by decide) [some (.ref a), some (.int (nI j))] rfl (Nat.le_of_ble_eq_true rfl) ?_
  intro x hF hN0 hA hR
  by_cases hc : R < N - j
  · rw [if_pos hc] at hr
    subst hr
    refine g_aload_n hF dX8_takesOver_0 1 rfl rfl ?_
    refine g_get hF fl_X8_28 dX8_takesOver_1 4 rfl (by intro H h; first | exact h.1 | exact h.2) rfl ?_
    refine g_iload_n hF dX8_takesOver_4 5 rfl rfl ?_
    refine g_isub hF dX8_takesOver_5 6 rfl ?_
    rw [pk_sub hj]
    refine g_aload_n hF dX8_takesOver_6 7 rfl rfl ?_
    refine g_get hF fl_X8_32 dX8_takesOver_7 10 rfl (by intro H h; first | exact h.1 | exact h.2) rfl ?_
    refine g_icmp_le hF dX8_takesOver_10 13 rfl 17 (by decide) (fun c => absurd c (fun z => absurd (i_le z (by omega) (by omega)) (by omega))) (fun _ => ?_)
    refine g_iconst hF (1) dX8_takesOver_13 14 rfl rfl ?_
    refine g_goto hF dX8_takesOver_14 18 (by decide) ?_
    exact g_zret hF (rfl) dX8_takesOver_18 (Nat.le_of_ble_eq_true rfl) (Nat.le_of_ble_eq_true rfl) (fun H h => hR _ _ ⟨congrArg (fun z => some (Value.int z)) (rfl), h⟩)
  · rw [if_neg hc] at hr
    subst hr
    refine g_aload_n hF dX8_takesOver_0 1 rfl rfl ?_
    refine g_get hF fl_X8_28 dX8_takesOver_1 4 rfl (by intro H h; first | exact h.1 | exact h.2) rfl ?_
    refine g_iload_n hF dX8_takesOver_4 5 rfl rfl ?_
    refine g_isub hF dX8_takesOver_5 6 rfl ?_
    rw [pk_sub hj]
    refine g_aload_n hF dX8_takesOver_6 7 rfl rfl ?_
    refine g_get hF fl_X8_32 dX8_takesOver_7 10 rfl (by intro H h; first | exact h.1 | exact h.2) rfl ?_
    refine g_icmp_le hF dX8_takesOver_10 13 rfl 17 (by decide) (fun _ => ?_) (fun c => absurd (nI_le (by omega) (by omega)) c)
    refine g_iconst hF (0) dX8_takesOver_17 18 rfl rfl ?_
    exact g_zret hF (rfl) dX8_takesOver_18 (Nat.le_of_ble_eq_true rfl) (Nat.le_of_ble_eq_true rfl) (fun H h => hR _ _ ⟨congrArg (fun z => some (Value.int z)) (rfl), h⟩)
set_option maxRecDepth 100000 in
set_option maxHeartbeats 8000000 in
theorem c_W_weigh (l : Launch) (E : Ev) (a first parts N A R B : Nat) (wf0 : Nat → Int64) (x0 y0 : Int32) (hf : first ≤ 1000000) (hp : 1 ≤ parts) (hp2 : parts ≤ 1000) (hN : N ≤ 6) (hA6 : A ≤ 6) (hR6 : R ≤ 6) (hB : B ≤ 18 * parts) : Ct l E yX8_weigh cX8_weigh 13 none (rm 2) [.ref a, .long (lN first), .int (nI parts), .int (nI N), .int (nI A), .int (nI R), .int (nI B)] (Wp E a wf0 x0 y0) (rV none (fun H => ∃ wf, (∀ k, k ≤ N → wf k = lN (wt first parts N A R B k)) ∧ Wp E a wf (nI N) (nI R) H)) (rg a 2) := by
  refine ct_start (by decide) [some (.ref a), some (.long (lN first)), none, some (.int (nI parts)), some (.int (nI N)), some (.int (nI A)), some (.int (nI R)), some (.int (nI B)), none, none, none, none, none] rfl (Nat.le_of_ble_eq_true rfl) ?_
  intro x hF hN0 hA hR
  have i2 : ∀ {n : Nat}, n < 2 ^ 31 → (nI n).toInt64 = lN n := fun h => nI_l h
  have loop : ∀ (n j : Nat) (i : Int32) (wf : Nat → Int64), N - j < n → j ≤ N → i = nI j → (∀ k, k ≤ j → wf k = lN (wt first parts N A R B k)) → go l (rm 2) E x 0 0 (Wp E a wf (nI N) (nI R)) [some (.ref a), some (.long (lN first)), none, some (.int (nI parts)), some (.int (nI N)), some (.int (nI A)), some (.int (nI R)), some (.int (nI B)), some (.int i), none, none, none, none] 31 [] := by
    intro n
    induction n with
    | zero => intro j i wf h; omega
    | succ n ih =>
      intro j i wf hn0 hj hi hw
      subst hi
      have hcl : (nI j).toNatClampNeg = j := nI_clamp (by omega)
      have hcl1 : (nI (j + 1)).toNatClampNeg = j + 1 := nI_clamp (by omega)
      have hpk : parts * (j + 1) ≤ 7000 := Nat.le_trans (Nat.mul_le_mul hp2 (show j + 1 ≤ 7 by omega)) (by decide)
      have hpk1 : 1 ≤ parts * (j + 1) := Nat.mul_pos hp (by omega)
      have hc24 : cm parts N A R B j ≤ parts * 24 := by
        unfold cm
        have : parts * A ≤ parts * 6 := Nat.mul_le_mul_left _ hA6
        split <;> omega
      have hwj := wt_lt (N := N) (R := R) (k := j) hf hp hA6 hB (by omega)
      have hmul : wt first parts N A R B j * cm parts N A R B j < 2 ^ 63 := by
        have h1 : wt first parts N A R B j * cm parts N A R B j ≤ 191102976000000 * 24000 := Nat.mul_le_mul hwj (by omega)
        have h2 : 191102976000000 * 24000 < 2 ^ 63 := by decide
        omega
      have emax : (if lN 1 < lN (parts * (j + 1)) then lN (parts * (j + 1)) else lN 1) = lN (parts * (j + 1)) := by
        by_cases q : 1 < parts * (j + 1)
        · rw [if_pos ((pk_lLT (by omega) (by omega)).mpr q)]
        · rw [if_neg (fun z => q ((pk_lLT (by omega) (by omega)).mp z)), show parts * (j + 1) = 1 by omega]
      have e1 : (1 : Int64) = lN 1 := by decide
      have hwd : ∀ k, k ≤ j + 1 → vp_updL wf (j + 1) (lN (wt first parts N A R B j * cm parts N A R B j / (parts * (j + 1)))) k = lN (wt first parts N A R B k) := fun k hk => by
        by_cases e : k = j + 1
        · subst e; rw [pk_uLs]; rfl
        · rw [pk_uLn e]; exact hw k (by omega)
      by_cases hto : R < N - j
      · have ecm : parts * A + B = cm parts N A R B j := by unfold cm; rw [if_pos hto]
        refine g_iload hF dX8_weigh_31 33 rfl rfl ?_
        refine g_aload_n hF dX8_weigh_33 34 rfl rfl ?_
        refine g_get hF fl_X8_28 dX8_weigh_34 37 rfl (by intro H h; first | exact h.1 | exact h.2) rfl ?_
        refine g_icmp_ge hF dX8_weigh_37 40 rfl 107 (by decide) (fun c37 => ?_) (fun c37 => ?_)
        · exact g_vret hF dX8_weigh_107 (Nat.le_of_ble_eq_true rfl) (Nat.le_of_ble_eq_true rfl) (fun H h => hR _ _ ⟨rfl, ⟨wf, fun k hk => hw k (by have := i_le c37 (by omega) (by omega); omega), h⟩⟩)
        · have hlt : j < N := i_nle c37 (by omega) (by omega)
          refine g_iload_n hF dX8_weigh_40 41 rfl rfl ?_
          refine g_i2l hF dX8_weigh_41 42 rfl ?_
          rw [i2 (by omega)]
          refine g_iload hF dX8_weigh_42 44 rfl rfl ?_
          refine g_i2l hF dX8_weigh_44 45 rfl ?_
          rw [i2 (by omega)]
          refine g_lmul hF dX8_weigh_45 46 rfl ?_
          rw [lN_mul]
          refine g_aload_n hF dX8_weigh_46 47 rfl rfl ?_
          refine g_iload hF dX8_weigh_47 49 rfl rfl ?_
          refine g_callV hF cv_X8_35 (c_W_takesOver l E a wf N R j hN hR6 (by omega) 1 (if_pos hto).symm) dX8_weigh_49 52 rfl (st := [_]) rfl rfl ⟨Nat.le_of_ble_eq_true rfl, Nat.le_of_ble_eq_true rfl⟩ ⟨Nat.le_of_ble_eq_true rfl, Nat.le_of_ble_eq_true rfl⟩ rfl (Nat.le_of_ble_eq_true rfl) 8 rfl (by intro H h; first | exact h.1 | exact h.2) (Pr' := _) (fun _ h => h) (fun q z => z.elim) (fun _ _ _ h _ => by exact h) (st1 := [_, _]) rfl (k1 := 0) (n1 := 0) rfl rfl ?_
          refine g_if_eq hF dX8_weigh_52 55 rfl 60 (by decide) (fun c => absurd c ((by decide))) (fun _ => ?_)
          refine g_iload hF dX8_weigh_55 57 rfl rfl ?_
          refine g_goto hF dX8_weigh_57 61 (by decide) ?_
          refine g_i2l hF dX8_weigh_61 62 rfl ?_
          rw [i2 (by omega)]
          refine g_ladd hF dX8_weigh_62 63 rfl ?_
          rw [lN_add, ecm]
          refine g_lstore hF dX8_weigh_63 65 rfl (lo' := [_, _, _, _, _, _, _, _, _, _, _, _, _]) (Nat.le_of_ble_eq_true rfl) rfl ?_
          refine g_lconst hF (1) dX8_weigh_65 66 rfl rfl ?_
          rw [e1]
          refine g_iload_n hF dX8_weigh_66 67 rfl rfl ?_
          refine g_i2l hF dX8_weigh_67 68 rfl ?_
          rw [i2 (by omega)]
          refine g_iload hF dX8_weigh_68 70 rfl rfl ?_
          refine g_iconst hF (1) dX8_weigh_70 71 rfl rfl ?_
          refine g_iadd hF dX8_weigh_71 72 rfl ?_
          rw [nI_1]
          refine g_i2l hF dX8_weigh_72 73 rfl ?_
          rw [i2 (by omega)]
          refine g_lmul hF dX8_weigh_73 74 rfl ?_
          rw [lN_mul]
          refine g_callS hF cs_X8_39 (c_maxL l E (lN 1) (lN (parts * (j + 1))) (Wp E a wf (nI N) (nI R))) dX8_weigh_74 77 rfl (st := []) rfl rfl ⟨Nat.le_of_ble_eq_true rfl, Nat.le_of_ble_eq_true rfl⟩ ⟨Nat.le_of_ble_eq_true rfl, Nat.le_of_ble_eq_true rfl⟩ rfl (Nat.le_of_ble_eq_true rfl) (Pr' := _) (fun _ h => h) (fun q z => z.elim) (fun _ _ _ h _ => by exact h) (st1 := [_]) rfl (k1 := 0) (n1 := 0) rfl rfl ?_
          rw [emax]
          refine g_lstore hF dX8_weigh_77 79 rfl (lo' := [_, _, _, _, _, _, _, _, _, _, _, _, _]) (Nat.le_of_ble_eq_true rfl) rfl ?_
          refine g_aload_n hF dX8_weigh_79 80 rfl rfl ?_
          refine g_get hF fl_X8_9 dX8_weigh_80 83 rfl (by intro H h; first | exact h.1 | exact h.2) rfl ?_
          refine g_iload hF dX8_weigh_83 85 rfl rfl ?_
          refine g_iconst hF (1) dX8_weigh_85 86 rfl rfl ?_
          refine g_iadd hF dX8_weigh_86 87 rfl ?_
          rw [nI_1]
          refine g_aload_n hF dX8_weigh_87 88 rfl rfl ?_
          refine g_get hF fl_X8_9 dX8_weigh_88 91 rfl (by intro H h; first | exact h.1 | exact h.2) rfl ?_
          refine g_iload hF dX8_weigh_91 93 rfl rfl ?_
          refine g_lald hF dX8_weigh_93 94 rfl (by intro H h; first | exact h.1 | exact h.2) (vp_in_nI (show j < 7 by omega) (by omega)) ?_
          rw [hcl, hw j (by omega)]
          refine g_lload hF dX8_weigh_94 96 rfl rfl ?_
          refine g_lmul hF dX8_weigh_96 97 rfl ?_
          rw [lN_mul]
          refine g_lload hF dX8_weigh_97 99 rfl rfl ?_
          refine g_ldiv hF dX8_weigh_99 100 rfl (fun z => absurd ((pk_lEQ (a := parts * (j + 1)) (b := 0) (by omega) (by omega)).mp z) (by omega)) ?_
          rw [pk_lDiv hmul (by omega) (by omega)]
          refine g_last hF dX8_weigh_100 101 rfl (by intro H h; first | exact h.1 | exact h.2) (vp_in_nI (show j + 1 < 7 by omega) (by omega)) (hA _ ⟨by omega, by omega⟩) (Pr' := Wp E a (vp_updL wf (j + 1) (lN (wt first parts N A R B j * cm parts N A R B j / (parts * (j + 1))))) (nI N) (nI R)) (fun H H' h h1 h2 => by rw [hcl1] at h1; exact ⟨ob_kept h.1 (h2.2 _ (by omega)), h1⟩) ?_
          refine g_iinc hF dX8_weigh_101 104 rfl (1) rfl (lo' := [_, _, _, _, _, _, _, _, _, _, _, _, _]) rfl rfl ?_
          refine g_goto hF dX8_weigh_104 31 (by decide) ?_
          refine g_cut [true, true, true, true, true, true, true, true, true, false, false, false, false] (lo' := [_, _, _, _, _, _, _, _, _, _, _, _, _]) rfl ?_
          exact ih (j + 1) _ _ (by omega) (by omega) (nI_succ j).symm hwd
      · have ecm : parts * A + 0 = cm parts N A R B j := by unfold cm; rw [if_neg hto]
        have e0 : (0 : Int32).toInt64 = lN 0 := by decide
        refine g_iload hF dX8_weigh_31 33 rfl rfl ?_
        refine g_aload_n hF dX8_weigh_33 34 rfl rfl ?_
        refine g_get hF fl_X8_28 dX8_weigh_34 37 rfl (by intro H h; first | exact h.1 | exact h.2) rfl ?_
        refine g_icmp_ge hF dX8_weigh_37 40 rfl 107 (by decide) (fun c37 => ?_) (fun c37 => ?_)
        · exact g_vret hF dX8_weigh_107 (Nat.le_of_ble_eq_true rfl) (Nat.le_of_ble_eq_true rfl) (fun H h => hR _ _ ⟨rfl, ⟨wf, fun k hk => hw k (by have := i_le c37 (by omega) (by omega); omega), h⟩⟩)
        · have hlt : j < N := i_nle c37 (by omega) (by omega)
          refine g_iload_n hF dX8_weigh_40 41 rfl rfl ?_
          refine g_i2l hF dX8_weigh_41 42 rfl ?_
          rw [i2 (by omega)]
          refine g_iload hF dX8_weigh_42 44 rfl rfl ?_
          refine g_i2l hF dX8_weigh_44 45 rfl ?_
          rw [i2 (by omega)]
          refine g_lmul hF dX8_weigh_45 46 rfl ?_
          rw [lN_mul]
          refine g_aload_n hF dX8_weigh_46 47 rfl rfl ?_
          refine g_iload hF dX8_weigh_47 49 rfl rfl ?_
          refine g_callV hF cv_X8_35 (c_W_takesOver l E a wf N R j hN hR6 (by omega) 0 (if_neg hto).symm) dX8_weigh_49 52 rfl (st := [_]) rfl rfl ⟨Nat.le_of_ble_eq_true rfl, Nat.le_of_ble_eq_true rfl⟩ ⟨Nat.le_of_ble_eq_true rfl, Nat.le_of_ble_eq_true rfl⟩ rfl (Nat.le_of_ble_eq_true rfl) 8 rfl (by intro H h; first | exact h.1 | exact h.2) (Pr' := _) (fun _ h => h) (fun q z => z.elim) (fun _ _ _ h _ => by exact h) (st1 := [_, _]) rfl (k1 := 0) (n1 := 0) rfl rfl ?_
          refine g_if_eq hF dX8_weigh_52 55 rfl 60 (by decide) (fun _ => ?_) (fun c => absurd (rfl) c)
          refine g_iconst hF (0) dX8_weigh_60 61 rfl rfl ?_
          refine g_i2l hF dX8_weigh_61 62 rfl ?_
          rw [e0]
          refine g_ladd hF dX8_weigh_62 63 rfl ?_
          rw [lN_add, ecm]
          refine g_lstore hF dX8_weigh_63 65 rfl (lo' := [_, _, _, _, _, _, _, _, _, _, _, _, _]) (Nat.le_of_ble_eq_true rfl) rfl ?_
          refine g_lconst hF (1) dX8_weigh_65 66 rfl rfl ?_
          rw [e1]
          refine g_iload_n hF dX8_weigh_66 67 rfl rfl ?_
          refine g_i2l hF dX8_weigh_67 68 rfl ?_
          rw [i2 (by omega)]
          refine g_iload hF dX8_weigh_68 70 rfl rfl ?_
          refine g_iconst hF (1) dX8_weigh_70 71 rfl rfl ?_
          refine g_iadd hF dX8_weigh_71 72 rfl ?_
          rw [nI_1]
          refine g_i2l hF dX8_weigh_72 73 rfl ?_
          rw [i2 (by omega)]
          refine g_lmul hF dX8_weigh_73 74 rfl ?_
          rw [lN_mul]
          refine g_callS hF cs_X8_39 (c_maxL l E (lN 1) (lN (parts * (j + 1))) (Wp E a wf (nI N) (nI R))) dX8_weigh_74 77 rfl (st := []) rfl rfl ⟨Nat.le_of_ble_eq_true rfl, Nat.le_of_ble_eq_true rfl⟩ ⟨Nat.le_of_ble_eq_true rfl, Nat.le_of_ble_eq_true rfl⟩ rfl (Nat.le_of_ble_eq_true rfl) (Pr' := _) (fun _ h => h) (fun q z => z.elim) (fun _ _ _ h _ => by exact h) (st1 := [_]) rfl (k1 := 0) (n1 := 0) rfl rfl ?_
          rw [emax]
          refine g_lstore hF dX8_weigh_77 79 rfl (lo' := [_, _, _, _, _, _, _, _, _, _, _, _, _]) (Nat.le_of_ble_eq_true rfl) rfl ?_
          refine g_aload_n hF dX8_weigh_79 80 rfl rfl ?_
          refine g_get hF fl_X8_9 dX8_weigh_80 83 rfl (by intro H h; first | exact h.1 | exact h.2) rfl ?_
          refine g_iload hF dX8_weigh_83 85 rfl rfl ?_
          refine g_iconst hF (1) dX8_weigh_85 86 rfl rfl ?_
          refine g_iadd hF dX8_weigh_86 87 rfl ?_
          rw [nI_1]
          refine g_aload_n hF dX8_weigh_87 88 rfl rfl ?_
          refine g_get hF fl_X8_9 dX8_weigh_88 91 rfl (by intro H h; first | exact h.1 | exact h.2) rfl ?_
          refine g_iload hF dX8_weigh_91 93 rfl rfl ?_
          refine g_lald hF dX8_weigh_93 94 rfl (by intro H h; first | exact h.1 | exact h.2) (vp_in_nI (show j < 7 by omega) (by omega)) ?_
          rw [hcl, hw j (by omega)]
          refine g_lload hF dX8_weigh_94 96 rfl rfl ?_
          refine g_lmul hF dX8_weigh_96 97 rfl ?_
          rw [lN_mul]
          refine g_lload hF dX8_weigh_97 99 rfl rfl ?_
          refine g_ldiv hF dX8_weigh_99 100 rfl (fun z => absurd ((pk_lEQ (a := parts * (j + 1)) (b := 0) (by omega) (by omega)).mp z) (by omega)) ?_
          rw [pk_lDiv hmul (by omega) (by omega)]
          refine g_last hF dX8_weigh_100 101 rfl (by intro H h; first | exact h.1 | exact h.2) (vp_in_nI (show j + 1 < 7 by omega) (by omega)) (hA _ ⟨by omega, by omega⟩) (Pr' := Wp E a (vp_updL wf (j + 1) (lN (wt first parts N A R B j * cm parts N A R B j / (parts * (j + 1))))) (nI N) (nI R)) (fun H H' h h1 h2 => by rw [hcl1] at h1; exact ⟨ob_kept h.1 (h2.2 _ (by omega)), h1⟩) ?_
          refine g_iinc hF dX8_weigh_101 104 rfl (1) rfl (lo' := [_, _, _, _, _, _, _, _, _, _, _, _, _]) rfl rfl ?_
          refine g_goto hF dX8_weigh_104 31 (by decide) ?_
          refine g_cut [true, true, true, true, true, true, true, true, true, false, false, false, false] (lo' := [_, _, _, _, _, _, _, _, _, _, _, _, _]) rfl ?_
          exact ih (j + 1) _ _ (by omega) (by omega) (nI_succ j).symm hwd
  have emin : (if (6 : Int32) < nI N then (6 : Int32) else nI N) = nI N := if_neg (fun z => absurd (i_lt (a := 6) z (by omega) (by omega)) (by omega))
  have emx : (if (0 : Int32) < nI N then nI N else (0 : Int32)) = nI N := by
    rw [show (0 : Int32) = nI 0 from nI_0.symm]
    by_cases q : 0 < N
    · rw [if_pos ((nI_ltI (a := 0) (by omega) (by omega)).mpr q)]
    · rw [if_neg (fun z => q ((nI_ltI (a := 0) (by omega) (by omega)).mp z)), show N = 0 by omega]
  refine g_aload_n hF dX8_weigh_0 1 rfl rfl ?_
  refine g_iconst hF (0) dX8_weigh_1 2 rfl rfl ?_
  refine g_iload hF dX8_weigh_2 4 rfl rfl ?_
  refine g_bipush hF (6) dX8_weigh_4 6 rfl rfl ?_
  refine g_callS hF cs_X8_19 (c_min l E (nI N) 6 (Wp E a wf0 x0 y0)) dX8_weigh_6 9 rfl (st := [_, _]) rfl rfl ⟨Nat.le_of_ble_eq_true rfl, Nat.le_of_ble_eq_true rfl⟩ ⟨Nat.le_of_ble_eq_true rfl, Nat.le_of_ble_eq_true rfl⟩ rfl (Nat.le_of_ble_eq_true rfl) (Pr' := _) (fun _ h => h) (fun q z => z.elim) (fun _ _ _ h _ => by exact h) (st1 := [_, _, _]) rfl (k1 := 0) (n1 := 0) rfl rfl ?_
  rw [emin]
  refine g_callS hF cs_X8_25 (c_max l E 0 (nI N) (Wp E a wf0 x0 y0)) dX8_weigh_9 12 rfl (st := [_]) rfl rfl ⟨Nat.le_of_ble_eq_true rfl, Nat.le_of_ble_eq_true rfl⟩ ⟨Nat.le_of_ble_eq_true rfl, Nat.le_of_ble_eq_true rfl⟩ rfl (Nat.le_of_ble_eq_true rfl) (Pr' := _) (fun _ h => h) (fun q z => z.elim) (fun _ _ _ h _ => by exact h) (st1 := [_, _]) rfl (k1 := 0) (n1 := 0) rfl rfl ?_
  rw [emx]
  refine g_put hF pl_X8_28 dX8_weigh_12 15 rfl (by intro H h; first | exact h.1 | exact h.2) (Nat.le_of_ble_eq_true rfl) rfl rfl (hA _ ⟨by omega, by omega⟩) (Pr' := Wp E a wf0 (nI N) y0) (fun H H' h h1 h2 => by exact ⟨h1, aj_kept h.2 (h2.2 _ (by omega))⟩) ?_
  refine g_aload_n hF dX8_weigh_15 16 rfl rfl ?_
  refine g_iload hF dX8_weigh_16 18 rfl rfl ?_
  refine g_put hF pl_X8_32 dX8_weigh_18 21 rfl (by intro H h; first | exact h.1 | exact h.2) (Nat.le_of_ble_eq_true rfl) rfl rfl (hA _ ⟨by omega, by omega⟩) (Pr' := Wp E a wf0 (nI N) (nI R)) (fun H H' h h1 h2 => by exact ⟨h1, aj_kept h.2 (h2.2 _ (by omega))⟩) ?_
  refine g_aload_n hF dX8_weigh_21 22 rfl rfl ?_
  refine g_get hF fl_X8_9 dX8_weigh_22 25 rfl (by intro H h; first | exact h.1 | exact h.2) rfl ?_
  refine g_iconst hF (0) dX8_weigh_25 26 rfl rfl ?_
  refine g_lload_n hF dX8_weigh_26 27 rfl rfl ?_
  refine g_last hF dX8_weigh_27 28 rfl (by intro H h; first | exact h.1 | exact h.2) (vp_in_nI (n := 0) (show 0 < 7 by omega) (by omega)) (hA _ ⟨by omega, by omega⟩) (Pr' := Wp E a (vp_updL wf0 0 (lN first)) (nI N) (nI R)) (fun H H' h h1 h2 => by exact ⟨ob_kept h.1 (h2.2 _ (by omega)), h1⟩) ?_
  refine g_iconst hF (0) dX8_weigh_28 29 rfl rfl ?_
  refine g_istore hF dX8_weigh_29 31 rfl (lo' := [_, _, _, _, _, _, _, _, _, _, _, _, _]) (Nat.le_of_ble_eq_true rfl) rfl ?_
  exact loop (N + 1) 0 0 _ (by omega) (by omega) nI_0.symm (fun k hk => by have : k = 0 := (by omega); subst this; exact pk_uLs)
