/-! Together: a round, all rounds -/
def TNW (E : Ev) (a c w : Nat) (tl tn ts : Nat → Int32) (r : Int32) (v : NV) (fss : Nat → Nat → Int32) (wf : Nat → Int64) (x y : Int32) (H : Heap) : Prop := Tp E a tl tn ts r H ∧ Np E c v fss H ∧ Wp E w wf x y H
theorem sW_le7 {w : Nat → Nat} {B : Nat} (h : ∀ k, k < 7 → w k ≤ B) : ∀ k, k ≤ 7 → sW w k ≤ k * B
  | 0, _ => Nat.zero_le _
  | k + 1, hk => by
    have := sW_le7 h k (by omega)
    have := h k (by omega)
    unfold sW
    rw [Nat.succ_mul]
    omega
theorem TNW.no {E : Ev} {a c w : Nat} {tl tn ts : Nat → Int32} {r : Int32} {v : NV} {fss : Nat → Nat → Int32} {wf : Nat → Int64} {x y : Int32} {H H' : Heap} (h : TNW E a c w tl tn ts r v fss wf x y H) (ho : out (fun _ => False) H H') : TNW E a c w tl tn ts r v fss wf x y H' :=
  ⟨h.1.out ho (fun _ _ z => z), h.2.1.out ho (fun _ _ z => z), h.2.2.out ho (fun _ _ z => z)⟩
theorem TNW.ts {E : Ev} {a c w : Nat} {tl tn ts ts' : Nat → Int32} {r : Int32} {v : NV} {fss : Nat → Nat → Int32} {wf : Nat → Int64} {x y : Int32} {H H' : Heap} (hac : a + 4 ≤ c ∨ c + 22 ≤ a) (haw : a + 4 ≤ w ∨ w + 2 ≤ a) (h : TNW E a c w tl tn ts r v fss wf x y H) (h1 : ai E (a + 3) 4 ts' H') (h2 : but (a + 3) H H') : TNW E a c w tl tn ts' r v fss wf x y H' :=
  ⟨⟨ob_kept h.1.1 (h2.2 _ (by omega)), ai_kept h.1.2.1 (h2.2 _ (by omega)), ai_kept h.1.2.2.1 (h2.2 _ (by omega)), h1⟩, h.2.1.kept (fun q hq => h2.2 q (by have := hq.1; have := hq.2; omega)), h.2.2.kept (fun q hq => h2.2 q (by have := hq.1; have := hq.2; omega))⟩
set_option maxRecDepth 100000 in
set_option maxHeartbeats 8000000 in
theorem c_T_loseEach (l : Launch) (E : Ev) (a c w : Nat) (tl tn ts0 : Nat → Int32) (r : Int32) (v : NV) (fss : Nat → Nat → Int32) (wf0 : Nat → Int64) (x0 y0 : Int32) (G T : Nat) (b : Nat → Nat) (hG : v.1 = nI G) (hG4 : G ≤ 4) (ho : ∀ g, g < 4 → okG G T g (v.2.2.2 g)) (hb : ∀ g, g < 4 → tl g = nI (b g) ∧ b g ≤ 18000) (hac : a + 4 ≤ c ∨ c + 22 ≤ a) (haw : a + 4 ≤ w ∨ w + 2 ≤ a) (hcw : c + 22 ≤ w ∨ w + 2 ≤ c) : Ct l E yX7_loseEach cX7_loseEach 7 none (rm 3) [.ref a, .ref c, .ref w] (TNW E a c w tl tn ts0 r v fss wf0 x0 y0) (rV none (fun H => ∃ ts wf x y, (∀ g, g < G → ts g = nI (pP (v.2.2.2 g) (b g))) ∧ TNW E a c w tl tn ts r v fss wf x y H)) (fun q => rg a 4 q ∨ rg w 2 q) := by
  refine ct_start (by decide) [some (.ref a), some (.ref c), some (.ref w), none, none, none, none] rfl (Nat.le_of_ble_eq_true rfl) ?_
  intro x hF hN0 hA hR
  have e6 : (1000000 : Int64) = lN 1000000 := by decide
  have e3 : (1000 : Int32) = nI 1000 := by decide
  have e3l : (1000 : Int64) = lN 1000 := by decide
  have loop : ∀ (n j : Nat) (i : Int32) (ts : Nat → Int32) (wf : Nat → Int64) (x1 y1 : Int32), G - j < n → j ≤ G → i = nI j → (∀ g, g < j → ts g = nI (pP (v.2.2.2 g) (b g))) → go l (rm 3) E x 0 0 (TNW E a c w tl tn ts r v fss wf x1 y1) [some (.ref a), some (.ref c), some (.ref w), some (.int i), none, none, none] 2 [] := by
    intro n
    induction n with
    | zero => intro j i ts wf x1 y1 h; omega
    | succ n ih =>
      intro j i ts wf x1 y1 hn0 hj hi hts
      subst hi
      have hcl : j < 4 → (nI j).toNatClampNeg = j := fun h => nI_clamp (by omega)
      refine g_iload_n hF dX7_loseEach_2 3 rfl rfl ?_
      refine g_aload_n hF dX7_loseEach_3 4 rfl rfl ?_
      refine g_get hF fl_X7_43 dX7_loseEach_4 7 rfl (by intro H h; first | exact h.1.1 | exact h.1.2.1 | exact h.1.2.2.1 | exact h.1.2.2.2 | exact h.2.1.1 | exact h.2.1.2.1 | exact h.2.2.1 | exact h.2.2.2 | exact (h.2.1.2.2 j hj4).1) rfl ?_
      refine g_icmp_ge hF dX7_loseEach_7 10 rfl 90 (by decide) (fun c7 => ?_) (fun c7 => ?_)
      · exact g_vret hF dX7_loseEach_90 (Nat.le_of_ble_eq_true rfl) (Nat.le_of_ble_eq_true rfl) (fun H h => hR _ _ ⟨rfl, ⟨ts, wf, x1, y1, fun g hg => hts g (by have := i_le (hG ▸ c7) (by omega) (by omega); omega), h⟩⟩)
      · have hlt : j < G := i_nle (hG ▸ c7) (by omega) (by omega)
        have hj4 : j < 4 := by omega
        obtain ⟨⟨N, n1, n6, n0, R, rN, r0⟩, ⟨A, a6, ha⟩, -⟩ := ho j hj4
        obtain ⟨hb1, hb2⟩ := hb j hj4
        have ep : pP (v.2.2.2 j) (b j) = 1000 * wt 1000000 1000 N A R (b j) N / sW (wt 1000000 1000 N A R (b j)) (N + 1) := by unfold pP pPn nN nA nR; rw [n0, ha, r0, nI_clamp (by omega), nI_clamp (by omega), nI_clamp (by omega)]
        have hwN := wt_lt (first := 1000000) (parts := 1000) (N := N) (R := R) (k := N) (by omega) (by omega) a6 (show b j ≤ 18 * 1000 by omega) n6
        have hs0 : 1000000 ≤ sW (wt 1000000 1000 N A R (b j)) (N + 1) := sW_ge (wt 1000000 1000 N A R (b j)) (N + 1) 0 (by omega)
        have hs1 := sW_le7 (w := wt 1000000 1000 N A R (b j)) (B := 191102976000000) (fun k hk => wt_lt (by omega) (by omega) a6 (show b j ≤ 18 * 1000 by omega) (show k ≤ 6 by omega)) (N + 1) (show N + 1 ≤ 7 by omega)
        have hs2 : (N + 1) * 191102976000000 ≤ 7 * 191102976000000 := Nat.mul_le_mul_right _ (by omega)
        refine g_aload_n hF dX7_loseEach_10 11 rfl rfl ?_
        refine g_get hF fl_X7_48 dX7_loseEach_11 14 rfl (by intro H h; first | exact h.1.1 | exact h.1.2.1 | exact h.1.2.2.1 | exact h.1.2.2.2 | exact h.2.1.1 | exact h.2.1.2.1 | exact h.2.2.1 | exact h.2.2.2 | exact (h.2.1.2.2 j hj4).1) rfl ?_
        refine g_iload_n hF dX7_loseEach_14 15 rfl rfl ?_
        refine g_aald hF 3 dX7_loseEach_15 16 rfl rfl (by intro H h; first | exact h.1.1 | exact h.1.2.1 | exact h.1.2.2.1 | exact h.1.2.2.2 | exact h.2.1.1 | exact h.2.1.2.1 | exact h.2.2.1 | exact h.2.2.2 | exact (h.2.1.2.2 j hj4).1) (vp_in_nI hj4 (by omega)) (n_aa hj4) ?_
        refine g_astore hF dX7_loseEach_16 18 rfl (lo' := [_, _, _, _, _, _, _]) (Nat.le_of_ble_eq_true rfl) rfl ?_
        refine g_aload_n hF dX7_loseEach_18 19 rfl rfl ?_
        refine g_ldc2 hF kc_X7_52 dX7_loseEach_19 22 rfl ?_
        refine g_sipush hF (1000) dX7_loseEach_22 25 rfl rfl ?_
        refine g_aload hF dX7_loseEach_25 27 rfl rfl ?_
        refine g_get hF fl_X7_54 dX7_loseEach_27 30 rfl (by intro H h; first | exact h.1.1 | exact h.1.2.1 | exact h.1.2.2.1 | exact h.1.2.2.2 | exact h.2.1.1 | exact h.2.1.2.1 | exact h.2.2.1 | exact h.2.2.2 | exact (h.2.1.2.2 j hj4).1) rfl ?_
        refine g_aload hF dX7_loseEach_30 32 rfl rfl ?_
        refine g_get hF fl_X7_59 dX7_loseEach_32 35 rfl (by intro H h; first | exact h.1.1 | exact h.1.2.1 | exact h.1.2.2.1 | exact h.1.2.2.2 | exact h.2.1.1 | exact h.2.1.2.1 | exact h.2.2.1 | exact h.2.2.2 | exact (h.2.1.2.2 j hj4).1) rfl ?_
        refine g_aload hF dX7_loseEach_35 37 rfl rfl ?_
        refine g_get hF fl_X7_62 dX7_loseEach_37 40 rfl (by intro H h; first | exact h.1.1 | exact h.1.2.1 | exact h.1.2.2.1 | exact h.1.2.2.2 | exact h.2.1.1 | exact h.2.1.2.1 | exact h.2.2.1 | exact h.2.2.2 | exact (h.2.1.2.2 j hj4).1) rfl ?_
        refine g_aload_n hF dX7_loseEach_40 41 rfl rfl ?_
        refine g_get hF fl_X7_9 dX7_loseEach_41 44 rfl (by intro H h; first | exact h.1.1 | exact h.1.2.1 | exact h.1.2.2.1 | exact h.1.2.2.2 | exact h.2.1.1 | exact h.2.1.2.1 | exact h.2.2.1 | exact h.2.2.2 | exact (h.2.1.2.2 j hj4).1) rfl ?_
        refine g_iload_n hF dX7_loseEach_44 45 rfl rfl ?_
        refine g_iald hF dX7_loseEach_45 46 rfl (by intro H h; first | exact h.1.1 | exact h.1.2.1 | exact h.1.2.2.1 | exact h.1.2.2.2 | exact h.2.1.1 | exact h.2.1.2.1 | exact h.2.2.1 | exact h.2.2.2 | exact (h.2.1.2.2 j hj4).1) (vp_in_nI hj4 (by omega)) ?_
        rw [hcl hj4, hb1, n0, ha, r0, e3, e6]
        refine g_callV hF cv_X7_65 (c_W_weigh l E w 1000000 1000 N A R (b j) wf x1 y1 (by omega) (by omega) (by omega) n6 a6 (by omega) (by omega)) dX7_loseEach_46 49 rfl (st := []) rfl rfl ⟨Nat.le_of_ble_eq_true rfl, Nat.le_of_ble_eq_true rfl⟩ ⟨Nat.le_of_ble_eq_true rfl, Nat.le_of_ble_eq_true rfl⟩ rfl (Nat.le_of_ble_eq_true rfl) 8 rfl (by intro H h; first | exact h.1.1 | exact h.1.2.1 | exact h.1.2.2.1 | exact h.1.2.2.2 | exact h.2.1.1 | exact h.2.1.2.1 | exact h.2.2.1 | exact h.2.2.2 | exact (h.2.1.2.2 j hj4).1) (Pr' := fun H => ∃ wf', (∀ k, k ≤ N → wf' k = lN (wt 1000000 1000 N A R (b j) k)) ∧ TNW E a c w tl tn ts r v fss wf' (nI N) (nI R) H) (fun H h => h.2.2) (fun q hq => hA q (Or.inr hq)) (fun H H' h h1 h2 => by obtain ⟨wf', q1, q2⟩ := h1; exact ⟨wf', q1, h.1.out h2 (fun q z y => by have := z.1; have := z.2; have := y.1; have := y.2; omega), h.2.1.out h2 (fun q z y => by have := z.1; have := z.2; have := y.1; have := y.2; omega), q2⟩) (st1 := []) rfl (k1 := 0) (n1 := 0) rfl rfl ?_
        refine g_ex (fun wf' => ?_)
        refine g_pure (fun H h => h.1) (fun hw => ?_)
        refine g_pr (fun H h => h.2) ?_
        refine g_aload_n hF dX7_loseEach_49 50 rfl rfl ?_
        refine g_callV hF cv_X7_71 (c_W_all l E w N R (wt 1000000 1000 N A R (b j)) wf' n6 hw) dX7_loseEach_50 53 rfl (st := []) rfl rfl ⟨Nat.le_of_ble_eq_true rfl, Nat.le_of_ble_eq_true rfl⟩ ⟨Nat.le_of_ble_eq_true rfl, Nat.le_of_ble_eq_true rfl⟩ rfl (Nat.le_of_ble_eq_true rfl) 8 rfl (by intro H h; first | exact h.1.1 | exact h.1.2.1 | exact h.1.2.2.1 | exact h.1.2.2.2 | exact h.2.1.1 | exact h.2.1.2.1 | exact h.2.2.1 | exact h.2.2.2 | exact (h.2.1.2.2 j hj4).1) (Pr' := TNW E a c w tl tn ts r v fss wf' (nI N) (nI R)) (fun H h => h.2.2) (fun q z => z.elim) (fun H H' h h1 h2 => by exact h.no h2) (st1 := [_]) rfl (k1 := 0) (n1 := 0) rfl rfl ?_
        refine g_lstore hF dX7_loseEach_53 55 rfl (lo' := [_, _, _, _, _, _, _]) (Nat.le_of_ble_eq_true rfl) rfl ?_
        refine g_aload_n hF dX7_loseEach_55 56 rfl rfl ?_
        refine g_get hF fl_X7_18 dX7_loseEach_56 59 rfl (by intro H h; first | exact h.1.1 | exact h.1.2.1 | exact h.1.2.2.1 | exact h.1.2.2.2 | exact h.2.1.1 | exact h.2.1.2.1 | exact h.2.2.1 | exact h.2.2.2 | exact (h.2.1.2.2 j hj4).1) rfl ?_
        refine g_iload_n hF dX7_loseEach_59 60 rfl rfl ?_
        refine g_lload hF dX7_loseEach_60 62 rfl rfl ?_
        refine g_lconst hF (0) dX7_loseEach_62 63 rfl rfl ?_
        refine g_lcmp hF dX7_loseEach_63 64 rfl ?_
        refine g_if_le hF dX7_loseEach_64 67 rfl 82 (by decide) (fun c => absurd c (fun z => lc_le.mp z ((pk_lLT (a := 0) (by omega) (by omega)).mpr (by omega)))) (fun _ => ?_)
        refine g_ldc2 hF kc_X7_75 dX7_loseEach_67 70 rfl ?_
        refine g_aload_n hF dX7_loseEach_70 71 rfl rfl ?_
        refine g_callV hF cv_X7_77 (c_W_ofAllHeld l E w N R (wt 1000000 1000 N A R (b j)) wf' n6 hw) dX7_loseEach_71 74 rfl (st := [_, _, _]) rfl rfl ⟨Nat.le_of_ble_eq_true rfl, Nat.le_of_ble_eq_true rfl⟩ ⟨Nat.le_of_ble_eq_true rfl, Nat.le_of_ble_eq_true rfl⟩ rfl (Nat.le_of_ble_eq_true rfl) 8 rfl (by intro H h; first | exact h.1.1 | exact h.1.2.1 | exact h.1.2.2.1 | exact h.1.2.2.2 | exact h.2.1.1 | exact h.2.1.2.1 | exact h.2.2.1 | exact h.2.2.2 | exact (h.2.1.2.2 j hj4).1) (Pr' := TNW E a c w tl tn ts r v fss wf' (nI N) (nI R)) (fun H h => h.2.2) (fun q z => z.elim) (fun H H' h h1 h2 => by exact h.no h2) (st1 := [_, _, _, _]) rfl (k1 := 0) (n1 := 0) rfl rfl ?_
        refine g_lmul hF dX7_loseEach_74 75 rfl ?_
        rw [e3l, lN_mul]
        refine g_lload hF dX7_loseEach_75 77 rfl rfl ?_
        refine g_ldiv hF dX7_loseEach_77 78 rfl (fun z => absurd ((pk_lEQ (b := 0) (by omega) (by omega)).mp z) (by omega)) ?_
        rw [pk_lDiv (by omega) (by omega) (by omega)]
        refine g_l2i hF dX7_loseEach_78 79 rfl ?_
        rw [lN_i, ← ep]
        refine g_goto hF dX7_loseEach_79 83 (by decide) ?_
        refine g_iast hF dX7_loseEach_83 84 rfl (by intro H h; first | exact h.1.1 | exact h.1.2.1 | exact h.1.2.2.1 | exact h.1.2.2.2 | exact h.2.1.1 | exact h.2.1.2.1 | exact h.2.2.1 | exact h.2.2.2 | exact (h.2.1.2.2 j hj4).1) (vp_in_nI hj4 (by omega)) (hA _ (Or.inl ⟨by omega, by omega⟩)) (Pr' := TNW E a c w tl tn (upd ts j (nI (pP (v.2.2.2 j) (b j)))) r v fss wf' (nI N) (nI R)) (fun H H' h h1 h2 => by rw [hcl hj4] at h1; exact TNW.ts hac haw h h1 h2) ?_
        refine g_iinc hF dX7_loseEach_84 87 rfl (1) rfl (lo' := [_, _, _, _, _, _, _]) rfl rfl ?_
        refine g_goto hF dX7_loseEach_87 2 (by decide) ?_
        refine g_cut [true, true, true, true, false, false, false] (lo' := [_, _, _, _, _, _, _]) rfl ?_
        exact ih (j + 1) _ _ _ _ _ (by omega) (by omega) (nI_succ j).symm (fun g hg => if e : g = j then by rw [e, pk_us] else by rw [pk_un e]; exact hts g (by omega))
  refine g_iconst hF (0) dX7_loseEach_0 1 rfl rfl ?_
  refine g_istore_n hF dX7_loseEach_1 2 rfl (lo' := [_, _, _, _, _, _, _]) (Nat.le_of_ble_eq_true rfl) rfl ?_
  exact loop (G + 1) 0 0 _ _ _ _ (by omega) (by omega) nI_0.symm (fun g hg => by omega)
def TN (E : Ev) (a c : Nat) (tl tn ts : Nat → Int32) (r : Int32) (v : NV) (fss : Nat → Nat → Int32) (H : Heap) : Prop := Tp E a tl tn ts r H ∧ Np E c v fss H
set_option maxRecDepth 100000 in
set_option maxHeartbeats 8000000 in
theorem c_T_sendOver (l : Launch) (E : Ev) (a c : Nat) (tl tn0 ts : Nat → Int32) (r : Int32) (v : NV) (fss : Nat → Nat → Int32) (G T : Nat) (ls : Nat → Nat) (hG : v.1 = nI G) (hG4 : G ≤ 4) (ho : ∀ g, g < 4 → okG G T g (v.2.2.2 g)) (hl : ∀ g, g < G → ts g = nI (ls g)) (hac : a + 4 ≤ c ∨ c + 22 ≤ a) : Ct l E yX7_sendOver cX7_sendOver 4 none (rm 2) [.ref a, .ref c] (TN E a c tl tn0 ts r v fss) (rV none (fun H => ∃ tn, (∀ h, h < 4 → tn h = nI (sn v.2.2.2 ls G h)) ∧ TN E a c tl tn ts r v fss H)) (rg a 4) := by
  refine ct_start (by decide) [some (.ref a), some (.ref c), none, none] rfl (Nat.le_of_ble_eq_true rfl) ?_
  intro x hF hN0 hA hR
  have loop : ∀ (n j : Nat) (i : Int32) (tn : Nat → Int32), G - j < n → j ≤ G → i = nI j → (∀ h, h < 4 → tn h = nI (sn v.2.2.2 ls j h)) → go l (rm 2) E x 0 0 (TN E a c tl tn ts r v fss) [some (.ref a), some (.ref c), some (.int i), none] 10 [] := by
    intro n
    induction n with
    | zero => intro j i tn h; omega
    | succ n ih =>
      intro j i tn hn0 hj hi htn
      subst hi
      have hcl : j < 4 → (nI j).toNatClampNeg = j := fun h => nI_clamp (by omega)
      by_cases hlt : j < G
      · have hj4 : j < 4 := by omega
        obtain ⟨-, ⟨A, a6, ha⟩, hov, -⟩ := ho j hj4
        rcases hov with ho3 | ⟨o, o1, o2, o3⟩
        · refine g_iload_n hF dX7_sendOver_10 11 rfl rfl ?_
          refine g_aload_n hF dX7_sendOver_11 12 rfl rfl ?_
          refine g_get hF fl_X7_43 dX7_sendOver_12 15 rfl (by intro H h; first | exact h.1.1 | exact h.1.2.1 | exact h.1.2.2.1 | exact h.1.2.2.2 | exact h.2.1 | exact h.2.2.1 | exact (h.2.2.2 j hj4).1) rfl ?_
          refine g_icmp_ge hF dX7_sendOver_15 18 rfl 65 (by decide) (fun c => absurd c (fun z => absurd (i_le (hG ▸ z) (by omega) (by omega)) (by omega))) (fun _ => ?_)
          refine g_aload_n hF dX7_sendOver_18 19 rfl rfl ?_
          refine g_get hF fl_X7_48 dX7_sendOver_19 22 rfl (by intro H h; first | exact h.1.1 | exact h.1.2.1 | exact h.1.2.2.1 | exact h.1.2.2.2 | exact h.2.1 | exact h.2.2.1 | exact (h.2.2.2 j hj4).1) rfl ?_
          refine g_iload_n hF dX7_sendOver_22 23 rfl rfl ?_
          refine g_aald hF 3 dX7_sendOver_23 24 rfl rfl (by intro H h; first | exact h.1.1 | exact h.1.2.1 | exact h.1.2.2.1 | exact h.1.2.2.2 | exact h.2.1 | exact h.2.2.1 | exact (h.2.2.2 j hj4).1) (vp_in_nI hj4 (by omega)) (n_aa hj4) ?_
          refine g_astore_n hF dX7_sendOver_24 25 rfl (lo' := [_, _, _, _]) (Nat.le_of_ble_eq_true rfl) rfl ?_
          refine g_aload_n hF dX7_sendOver_25 26 rfl rfl ?_
          refine g_aload_n hF dX7_sendOver_26 27 rfl rfl ?_
          refine g_get hF fl_X7_80 dX7_sendOver_27 30 rfl (by intro H h; first | exact h.1.1 | exact h.1.2.1 | exact h.1.2.2.1 | exact h.1.2.2.2 | exact h.2.1 | exact h.2.2.1 | exact (h.2.2.2 j hj4).1) rfl ?_
          rw [ho3]
          refine g_callV hF cv_X7_83 (c_N_groupAtN l E c v fss (-1) (Or.inl (by decide))) dX7_sendOver_30 33 rfl (st := []) rfl rfl ⟨Nat.le_of_ble_eq_true rfl, Nat.le_of_ble_eq_true rfl⟩ ⟨Nat.le_of_ble_eq_true rfl, Nat.le_of_ble_eq_true rfl⟩ rfl (Nat.le_of_ble_eq_true rfl) 6 rfl (by intro H h; first | exact h.1.1 | exact h.1.2.1 | exact h.1.2.2.1 | exact h.1.2.2.2 | exact h.2.1 | exact h.2.2.1 | exact (h.2.2.2 j hj4).1) (Pr' := TN E a c tl tn ts r v fss) (fun H h => h.2) (fun q z => z.elim) (fun H H' h h1 h2 => by exact ⟨h.1.out h2 (fun _ _ z => z), h1⟩) (st1 := [_]) rfl (k1 := 0) (n1 := 0) rfl rfl ?_
          refine g_ifnullN hF dX7_sendOver_33 59 (by decide) ?_
          refine g_iinc hF dX7_sendOver_59 62 rfl (1) rfl (lo' := [_, _, _, _]) rfl rfl ?_
          refine g_goto hF dX7_sendOver_62 10 (by decide) ?_
          refine g_cut [true, true, true, false] (lo' := [_, _, _, _]) rfl ?_
          exact ih (j + 1) _ _ (by omega) (by omega) (nI_succ j).symm (fun h hh => by rw [htn h hh]; show _ = nI (sn v.2.2.2 ls j h + _); rw [if_neg (fun q => nI_nm1 (by omega) (q.symm.trans ho3)), Nat.add_zero])
        · have ho4 : o < 4 := by omega
          have hco : (nI o).toNatClampNeg = o := nI_clamp (by omega)
          have hna : nA (v.2.2.2 j) = A := by unfold nA; rw [ha, nI_clamp (by omega)]
          refine g_iload_n hF dX7_sendOver_10 11 rfl rfl ?_
          refine g_aload_n hF dX7_sendOver_11 12 rfl rfl ?_
          refine g_get hF fl_X7_43 dX7_sendOver_12 15 rfl (by intro H h; first | exact h.1.1 | exact h.1.2.1 | exact h.1.2.2.1 | exact h.1.2.2.2 | exact h.2.1 | exact h.2.2.1 | exact (h.2.2.2 j hj4).1) rfl ?_
          refine g_icmp_ge hF dX7_sendOver_15 18 rfl 65 (by decide) (fun c => absurd c (fun z => absurd (i_le (hG ▸ z) (by omega) (by omega)) (by omega))) (fun _ => ?_)
          refine g_aload_n hF dX7_sendOver_18 19 rfl rfl ?_
          refine g_get hF fl_X7_48 dX7_sendOver_19 22 rfl (by intro H h; first | exact h.1.1 | exact h.1.2.1 | exact h.1.2.2.1 | exact h.1.2.2.2 | exact h.2.1 | exact h.2.2.1 | exact (h.2.2.2 j hj4).1) rfl ?_
          refine g_iload_n hF dX7_sendOver_22 23 rfl rfl ?_
          refine g_aald hF 3 dX7_sendOver_23 24 rfl rfl (by intro H h; first | exact h.1.1 | exact h.1.2.1 | exact h.1.2.2.1 | exact h.1.2.2.2 | exact h.2.1 | exact h.2.2.1 | exact (h.2.2.2 j hj4).1) (vp_in_nI hj4 (by omega)) (n_aa hj4) ?_
          refine g_astore_n hF dX7_sendOver_24 25 rfl (lo' := [_, _, _, _]) (Nat.le_of_ble_eq_true rfl) rfl ?_
          refine g_aload_n hF dX7_sendOver_25 26 rfl rfl ?_
          refine g_aload_n hF dX7_sendOver_26 27 rfl rfl ?_
          refine g_get hF fl_X7_80 dX7_sendOver_27 30 rfl (by intro H h; first | exact h.1.1 | exact h.1.2.1 | exact h.1.2.2.1 | exact h.1.2.2.2 | exact h.2.1 | exact h.2.2.1 | exact (h.2.2.2 j hj4).1) rfl ?_
          rw [o3]
          refine g_callV hF cv_X7_83 (c_N_groupAt l E c v fss G o hG hG4 o1) dX7_sendOver_30 33 rfl (st := []) rfl rfl ⟨Nat.le_of_ble_eq_true rfl, Nat.le_of_ble_eq_true rfl⟩ ⟨Nat.le_of_ble_eq_true rfl, Nat.le_of_ble_eq_true rfl⟩ rfl (Nat.le_of_ble_eq_true rfl) 6 rfl (by intro H h; first | exact h.1.1 | exact h.1.2.1 | exact h.1.2.2.1 | exact h.1.2.2.2 | exact h.2.1 | exact h.2.2.1 | exact (h.2.2.2 j hj4).1) (Pr' := TN E a c tl tn ts r v fss) (fun H h => h.2) (fun q z => z.elim) (fun H H' h h1 h2 => by exact ⟨h.1.out h2 (fun _ _ z => z), h1⟩) (st1 := [_]) rfl (k1 := 0) (n1 := 0) rfl rfl ?_
          refine g_ifnull hF dX7_sendOver_33 36 rfl ?_
          refine g_aload_n hF dX7_sendOver_36 37 rfl rfl ?_
          refine g_get hF fl_X7_15 dX7_sendOver_37 40 rfl (by intro H h; first | exact h.1.1 | exact h.1.2.1 | exact h.1.2.2.1 | exact h.1.2.2.2 | exact h.2.1 | exact h.2.2.1 | exact (h.2.2.2 j hj4).1) rfl ?_
          refine g_aload_n hF dX7_sendOver_40 41 rfl rfl ?_
          refine g_get hF fl_X7_80 dX7_sendOver_41 44 rfl (by intro H h; first | exact h.1.1 | exact h.1.2.1 | exact h.1.2.2.1 | exact h.1.2.2.2 | exact h.2.1 | exact h.2.2.1 | exact (h.2.2.2 j hj4).1) rfl ?_
          rw [o3]
          refine g_dup2 hF dX7_sendOver_44 45 rfl rfl rfl ?_
          refine g_iald hF dX7_sendOver_45 46 rfl (by intro H h; first | exact h.1.1 | exact h.1.2.1 | exact h.1.2.2.1 | exact h.1.2.2.2 | exact h.2.1 | exact h.2.2.1 | exact (h.2.2.2 j hj4).1) (vp_in_nI ho4 (by omega)) ?_
          refine g_aload_n hF dX7_sendOver_46 47 rfl rfl ?_
          refine g_get hF fl_X7_59 dX7_sendOver_47 50 rfl (by intro H h; first | exact h.1.1 | exact h.1.2.1 | exact h.1.2.2.1 | exact h.1.2.2.2 | exact h.2.1 | exact h.2.2.1 | exact (h.2.2.2 j hj4).1) rfl ?_
          refine g_aload_n hF dX7_sendOver_50 51 rfl rfl ?_
          refine g_get hF fl_X7_18 dX7_sendOver_51 54 rfl (by intro H h; first | exact h.1.1 | exact h.1.2.1 | exact h.1.2.2.1 | exact h.1.2.2.2 | exact h.2.1 | exact h.2.2.1 | exact (h.2.2.2 j hj4).1) rfl ?_
          refine g_iload_n hF dX7_sendOver_54 55 rfl rfl ?_
          refine g_iald hF dX7_sendOver_55 56 rfl (by intro H h; first | exact h.1.1 | exact h.1.2.1 | exact h.1.2.2.1 | exact h.1.2.2.2 | exact h.2.1 | exact h.2.2.1 | exact (h.2.2.2 j hj4).1) (vp_in_nI hj4 (by omega)) ?_
          rw [hcl hj4, hco, hl j hlt, ha, htn o ho4]
          refine g_imul hF dX7_sendOver_56 57 rfl ?_
          rw [pk_mul]
          refine g_iadd hF dX7_sendOver_57 58 rfl ?_
          rw [nI_add]
          refine g_iast hF dX7_sendOver_58 59 rfl (by intro H h; first | exact h.1.1 | exact h.1.2.1 | exact h.1.2.2.1 | exact h.1.2.2.2 | exact h.2.1 | exact h.2.2.1 | exact (h.2.2.2 j hj4).1) (vp_in_nI ho4 (by omega)) (hA _ ⟨by omega, by omega⟩) (Pr' := TN E a c tl (upd tn o (nI (sn v.2.2.2 ls j o + A * ls j))) ts r v fss) (fun H H' h h1 h2 => by rw [hco] at h1; exact ⟨⟨ob_kept h.1.1 (h2.2 _ (by omega)), ai_kept h.1.2.1 (h2.2 _ (by omega)), h1, ai_kept h.1.2.2.2 (h2.2 _ (by omega))⟩, h.2.kept (fun q hq => h2.2 q (by have := hq.1; have := hq.2; omega))⟩) ?_
          refine g_iinc hF dX7_sendOver_59 62 rfl (1) rfl (lo' := [_, _, _, _]) rfl rfl ?_
          refine g_goto hF dX7_sendOver_62 10 (by decide) ?_
          refine g_cut [true, true, true, false] (lo' := [_, _, _, _]) rfl ?_
          refine ih (j + 1) _ _ (by omega) (by omega) (nI_succ j).symm (fun h hh => ?_)
          show _ = nI (sn v.2.2.2 ls j h + _)
          by_cases e : h = o
          · rw [e, pk_us, if_pos o3, hna]
          · rw [pk_un e, htn h hh, if_neg (fun q => e ((nI_eq (by omega) (by omega)).mp (q.symm.trans o3))), Nat.add_zero]
      · refine g_iload_n hF dX7_sendOver_10 11 rfl rfl ?_
        refine g_aload_n hF dX7_sendOver_11 12 rfl rfl ?_
        refine g_get hF fl_X7_43 dX7_sendOver_12 15 rfl (by intro H h; first | exact h.1.1 | exact h.1.2.1 | exact h.1.2.2.1 | exact h.1.2.2.2 | exact h.2.1 | exact h.2.2.1 | exact (h.2.2.2 j hj4).1) rfl ?_
        refine g_icmp_ge hF dX7_sendOver_15 18 rfl 65 (by decide) (fun _ => ?_) (fun c => absurd (hG ▸ nI_le (by omega) (by omega)) c)
        exact g_vret hF dX7_sendOver_65 (Nat.le_of_ble_eq_true rfl) (Nat.le_of_ble_eq_true rfl) (fun H h => hR _ _ ⟨rfl, ⟨tn, fun h hh => by rw [htn h hh, show j = G by omega], h⟩⟩)
  refine g_aload_n hF dX7_sendOver_0 1 rfl rfl ?_
  refine g_get hF fl_X7_15 dX7_sendOver_1 4 rfl (by intro H h; first | exact h.1.1 | exact h.1.2.1 | exact h.1.2.2.1 | exact h.1.2.2.2 | exact h.2.1 | exact h.2.2.1 | exact (h.2.2.2 j hj4).1) rfl ?_
  refine g_iconst hF (0) dX7_sendOver_4 5 rfl rfl ?_
  refine g_callS hF cs_X7_21 (c_fill l E (a + 2) 4 tn0 0 (by decide)) dX7_sendOver_5 8 rfl (st := []) rfl rfl ⟨Nat.le_of_ble_eq_true rfl, Nat.le_of_ble_eq_true rfl⟩ ⟨Nat.le_of_ble_eq_true rfl, Nat.le_of_ble_eq_true rfl⟩ rfl (Nat.le_of_ble_eq_true rfl) (Pr' := TN E a c tl (fun _ => 0) ts r v fss) (fun H h => h.1.2.2.1) (fun q hq => hA q (by subst hq; exact ⟨by omega, by omega⟩)) (fun H H' h h1 h2 => by exact ⟨⟨ob_kept h.1.1 (out_at h2 h.1.1 (by show ¬ a = a + 2; omega)), ai_kept h.1.2.1 (out_at h2 h.1.2.1 (by show ¬ a + 1 = a + 2; omega)), h1, ai_kept h.1.2.2.2 (out_at h2 h.1.2.2.2 (by show ¬ a + 3 = a + 2; omega))⟩, h.2.out h2 (fun q z y => by have := z.1; have := z.2; omega)⟩) (st1 := []) rfl (k1 := 0) (n1 := 0) rfl rfl ?_
  refine g_iconst hF (0) dX7_sendOver_8 9 rfl rfl ?_
  refine g_istore_n hF dX7_sendOver_9 10 rfl (lo' := [_, _, _, _]) (Nat.le_of_ble_eq_true rfl) rfl ?_
  exact loop (G + 1) 0 0 _ (by omega) (by omega) nI_0.symm (fun h _ => nI_0.symm)
/-- the rounds of TOGETHER -/
def sRd (v : NV) : Nat := stl v.2.2.2 v.1.toNatClampNeg 30 0
def sB (v : NV) (g : Nat) : Nat := Bt v.2.2.2 v.1.toNatClampNeg (sRd v) g
def sP (v : NV) (g : Nat) : Nat := pP (v.2.2.2 g) (sB v g)
/-- it stands still within 30 rounds -/
def still (v : NV) : Prop := ∀ g, g < 4 → Bt v.2.2.2 v.1.toNatClampNeg (sRd v - 1) g = sB v g
set_option maxRecDepth 100000 in
set_option maxHeartbeats 8000000 in
theorem c_T_settle (l : Launch) (E : Ev) (a c w : Nat) (tl0 tn0 ts0 : Nat → Int32) (r0 : Int32) (v : NV) (fss : Nat → Nat → Int32) (wf0 : Nat → Int64) (x0 y0 : Int32) (T : Nat) (hv : okV T v) (hst : still v) (hac : a + 4 ≤ c ∨ c + 22 ≤ a) (haw : a + 4 ≤ w ∨ w + 2 ≤ a) (hcw : c + 22 ≤ w ∨ w + 2 ≤ c) : Ct l E yX7_settle cX7_settle 5 none (rm 4) [.ref a, .ref c, .ref w] (TNW E a c w tl0 tn0 ts0 r0 v fss wf0 x0 y0) (rV none (fun H => ∃ tl tn ts wf x y, (∀ g, g < 4 → tl g = nI (sB v g)) ∧ (∀ g, g < v.1.toNatClampNeg → ts g = nI (sP v g)) ∧ TNW E a c w tl tn ts (nI (sRd v)) v fss wf x y H)) (fun q => rg a 4 q ∨ rg w 2 q) := by
  refine ct_start (by decide) [some (.ref a), some (.ref c), some (.ref w), none, none] rfl (Nat.le_of_ble_eq_true rfl) ?_
  intro x hF hN0 hA hR
  obtain ⟨hT, G, G1, hG4, hG, -, ho⟩ := id hv
  have hGc : v.1.toNatClampNeg = G := by rw [hG]; exact nI_clamp (by omega)
  unfold still sB sRd at hst
  unfold sP sB sRd at hR
  rw [hGc] at hst hR
  obtain ⟨tR, eR⟩ : ∃ t, t = stl v.2.2.2 G 30 0 := ⟨_, rfl⟩
  rw [← eR] at hst hR
  have fin : ∀ (t : Nat) (tl tn ts : Nat → Int32) (wf : Nat → Int64) (x1 y1 i ch : Int32), t = tR → 1 ≤ t → (∀ g, g < 4 → tl g = nI (Bt v.2.2.2 G t g)) → (∀ g, g < G → ts g = nI (pP (v.2.2.2 g) (Bt v.2.2.2 G (t - 1) g))) → go l (rm 4) E x 0 0 (TNW E a c w tl tn ts (nI t) v fss wf x1 y1) [some (.ref a), some (.ref c), some (.ref w), some (.int ch), some (.int i)] 52 [] := by
    intro t tl tn ts wf x1 y1 i ch ht h1 h2 h3
    subst ht
    exact g_vret hF dX7_settle_52 (Nat.le_of_ble_eq_true rfl) (Nat.le_of_ble_eq_true rfl) (fun H h => hR _ _ ⟨rfl, ⟨tl, tn, ts, wf, x1, y1, h2, fun g hg => by rw [h3 g hg, hst g (by omega)], h⟩⟩)
  have stop : ∀ (t : Nat) (tl tn ts : Nat → Int32) (wf : Nat → Int64) (x1 y1 : Int32), t = tR → 1 ≤ t → t ≤ 30 → (∀ g, g < 4 → tl g = nI (Bt v.2.2.2 G t g)) → (∀ g, g < G → ts g = nI (pP (v.2.2.2 g) (Bt v.2.2.2 G (t - 1) g))) → go l (rm 4) E x 0 0 (TNW E a c w tl tn ts (nI t) v fss wf x1 y1) [some (.ref a), some (.ref c), some (.ref w), some (.int 0), some (.int (nI t + 1))] 13 [] := by
    intro t tl tn ts wf x1 y1 ht h1 h30 h2 h3
    refine g_iload hF dX7_settle_13 15 rfl rfl ?_
    refine g_bipush hF (30) dX7_settle_15 17 rfl rfl ?_
    refine g_icmp_gt hF dX7_settle_17 20 rfl 52 (by decide) (fun c17 => ?_) (fun c17 => ?_)
    · exact fin t tl tn ts wf x1 y1 _ _ ht h1 h2 h3
    · refine g_iload_n hF dX7_settle_20 21 rfl rfl ?_
      refine g_if_eq hF dX7_settle_21 24 rfl 52 (by decide) (fun _ => ?_) (fun c => absurd (rfl) c)
      exact fin t tl tn ts wf x1 y1 _ _ ht h1 h2 h3
  have loop : ∀ (n t : Nat) (tl tn ts : Nat → Int32) (r : Int32) (wf : Nat → Int64) (x1 y1 i : Int32), 30 - t < n → t ≤ 30 → i = nI (t + 1) → (∀ g, g < 4 → tl g = nI (Bt v.2.2.2 G t g)) → (1 ≤ t → r = nI t ∧ ∀ g, g < G → ts g = nI (pP (v.2.2.2 g) (Bt v.2.2.2 G (t - 1) g))) → tR = stl v.2.2.2 G (30 - t) t → go l (rm 4) E x 0 0 (TNW E a c w tl tn ts r v fss wf x1 y1) [some (.ref a), some (.ref c), some (.ref w), some (.int 1), some (.int i)] 13 [] := by
    intro n
    induction n with
    | zero => intro t tl tn ts r wf x1 y1 i h; omega
    | succ n ih =>
      intro t tl tn ts r wf x1 y1 i hn0 ht hi htl hts htR
      subst hi
      by_cases h30 : t = 30
      · subst h30
        obtain ⟨rfl, hts2⟩ := hts (by omega)
        refine g_iload hF dX7_settle_13 15 rfl rfl ?_
        refine g_bipush hF (30) dX7_settle_15 17 rfl rfl ?_
        refine g_icmp_gt hF dX7_settle_17 20 rfl 52 (by decide) (fun _ => ?_) (fun c => absurd ((by decide)) c)
        exact fin 30 tl tn ts wf x1 y1 _ _ htR.symm (by omega) htl hts2
      · have hd : 30 - t = (30 - (t + 1)) + 1 := by omega
        rw [hd] at htR
        by_cases hch : ∀ g, g < 4 → Bt v.2.2.2 G (t + 1) g = Bt v.2.2.2 G t g
        · have htR : tR = t + 1 := htR.trans (if_pos hch)
          refine g_iload hF dX7_settle_13 15 rfl rfl ?_
          refine g_bipush hF (30) dX7_settle_15 17 rfl rfl ?_
          refine g_icmp_gt hF dX7_settle_17 20 rfl 52 (by decide) (fun c => absurd c (fun z => absurd (i_lt (a := 30) z (by omega) (by omega)) (by omega))) (fun _ => ?_)
          refine g_iload_n hF dX7_settle_20 21 rfl rfl ?_
          refine g_if_eq hF dX7_settle_21 24 rfl 52 (by decide) (fun c => absurd c ((by decide))) (fun _ => ?_)
          refine g_aload_n hF dX7_settle_24 25 rfl rfl ?_
          refine g_iload hF dX7_settle_25 27 rfl rfl ?_
          refine g_put hF pl_X7_27 dX7_settle_27 30 rfl (by intro H h; first | exact h.1.1 | exact h.1.2.1) (Nat.le_of_ble_eq_true rfl) rfl rfl (hA _ (Or.inl ⟨by omega, by omega⟩)) (Pr' := TNW E a c w tl tn ts (nI (t + 1)) v fss wf x1 y1) (fun H H' h h1 h2 => by exact ⟨⟨h1, ai_kept h.1.2.1 (h2.2 _ (by omega)), ai_kept h.1.2.2.1 (h2.2 _ (by omega)), ai_kept h.1.2.2.2 (h2.2 _ (by omega))⟩, h.2.1.kept (fun q hq => h2.2 q (by have := hq.1; have := hq.2; omega)), h.2.2.kept (fun q hq => h2.2 q (by have := hq.1; have := hq.2; omega))⟩) ?_
          refine g_aload_n hF dX7_settle_30 31 rfl rfl ?_
          refine g_aload_n hF dX7_settle_31 32 rfl rfl ?_
          refine g_aload_n hF dX7_settle_32 33 rfl rfl ?_
          refine g_callV hF cv_X7_31 (c_T_loseEach l E a c w tl tn ts (nI (t + 1)) v fss wf x1 y1 G T (Bt v.2.2.2 G t) hG hG4 ho (fun g hg => ⟨htl g hg, Bt_le hG4 ho t g hg⟩) hac haw hcw) dX7_settle_33 36 rfl (st := []) rfl rfl ⟨Nat.le_of_ble_eq_true rfl, Nat.le_of_ble_eq_true rfl⟩ ⟨Nat.le_of_ble_eq_true rfl, Nat.le_of_ble_eq_true rfl⟩ rfl (Nat.le_of_ble_eq_true rfl) 7 rfl (by intro H h; first | exact h.1.1 | exact h.1.2.1) (Pr' := fun H => ∃ ts2 wf2 x2 y2, (∀ g, g < G → ts2 g = nI (pP (v.2.2.2 g) (Bt v.2.2.2 G t g))) ∧ TNW E a c w tl tn ts2 (nI (t + 1)) v fss wf2 x2 y2 H) (fun _ h => h) (hA) (fun _ _ _ h _ => by exact h) (st1 := []) rfl (k1 := 0) (n1 := 0) rfl rfl ?_
          refine g_ex (fun ts2 => ?_)
          refine g_ex (fun wf2 => ?_)
          refine g_ex (fun x2 => ?_)
          refine g_ex (fun y2 => ?_)
          refine g_pure (fun H h => h.1) (fun hts2 => ?_)
          refine g_pr (fun H h => h.2) ?_
          refine g_aload_n hF dX7_settle_36 37 rfl rfl ?_
          refine g_aload_n hF dX7_settle_37 38 rfl rfl ?_
          refine g_callV hF cv_X7_35 (c_T_sendOver l E a c tl tn ts2 (nI (t + 1)) v fss G T (fun g => pP (v.2.2.2 g) (Bt v.2.2.2 G t g)) hG hG4 ho hts2 hac) dX7_settle_38 41 rfl (st := []) rfl rfl ⟨Nat.le_of_ble_eq_true rfl, Nat.le_of_ble_eq_true rfl⟩ ⟨Nat.le_of_ble_eq_true rfl, Nat.le_of_ble_eq_true rfl⟩ rfl (Nat.le_of_ble_eq_true rfl) 7 rfl (by intro H h; first | exact h.1.1 | exact h.1.2.1) (Pr' := fun H => ∃ tn2, (∀ h, h < 4 → tn2 h = nI (Bt v.2.2.2 G (t + 1) h)) ∧ TNW E a c w tl tn2 ts2 (nI (t + 1)) v fss wf2 x2 y2 H) (fun H h => ⟨h.1, h.2.1⟩) (fun q hq => hA q (Or.inl hq)) (fun H H' h h1 h2 => by obtain ⟨tn2, q1, q2⟩ := h1; exact ⟨tn2, q1, q2.1, q2.2, h.2.2.out h2 (fun q z y => by have := z.1; have := z.2; have := y.1; have := y.2; omega)⟩) (st1 := []) rfl (k1 := 0) (n1 := 0) rfl rfl ?_
          refine g_ex (fun tn2 => ?_)
          refine g_pure (fun H h => h.1) (fun htn2 => ?_)
          refine g_pr (fun H h => h.2) ?_
          refine g_aload_n hF dX7_settle_41 42 rfl rfl ?_
          refine g_callV hF cv_X7_39 (c_T_takeNewLoads l E a tl tn2 ts2 (nI (t + 1)) 0 (Or.inl ⟨rfl, fun g hg => by rw [htl g hg, htn2 g hg, hch g hg]⟩)) dX7_settle_42 45 rfl (st := []) rfl rfl ⟨Nat.le_of_ble_eq_true rfl, Nat.le_of_ble_eq_true rfl⟩ ⟨Nat.le_of_ble_eq_true rfl, Nat.le_of_ble_eq_true rfl⟩ rfl (Nat.le_of_ble_eq_true rfl) 7 rfl (by intro H h; first | exact h.1.1 | exact h.1.2.1) (Pr' := TNW E a c w tn2 tn2 ts2 (nI (t + 1)) v fss wf2 x2 y2) (fun H h => h.1) (fun q hq => hA q (Or.inl hq)) (fun H H' h h1 h2 => by exact ⟨h1, h.2.1.out h2 (fun q z y => by have := z.1; have := z.2; have := y.1; have := y.2; omega), h.2.2.out h2 (fun q z y => by have := z.1; have := z.2; have := y.1; have := y.2; omega)⟩) (st1 := [_]) rfl (k1 := 0) (n1 := 0) rfl rfl ?_
          refine g_istore_n hF dX7_settle_45 46 rfl (lo' := [_, _, _, _, _]) (Nat.le_of_ble_eq_true rfl) rfl ?_
          refine g_iinc hF dX7_settle_46 49 rfl (1) rfl (lo' := [_, _, _, _, _]) rfl rfl ?_
          refine g_goto hF dX7_settle_49 13 (by decide) ?_
          exact stop (t + 1) _ _ _ _ _ _ htR.symm (by omega) (by omega) htn2 (fun g hg => hts2 g hg)
        · have htR2 : tR = stl v.2.2.2 G (30 - (t + 1)) (t + 1) := htR.trans (if_neg hch)
          obtain ⟨g0', q1, q2⟩ : ∃ g, g < 4 ∧ ¬ Bt v.2.2.2 G (t + 1) g = Bt v.2.2.2 G t g := Classical.byContradiction fun z => hch (fun g hg => Classical.byContradiction fun y => z ⟨g, hg, y⟩)
          refine g_iload hF dX7_settle_13 15 rfl rfl ?_
          refine g_bipush hF (30) dX7_settle_15 17 rfl rfl ?_
          refine g_icmp_gt hF dX7_settle_17 20 rfl 52 (by decide) (fun c => absurd c (fun z => absurd (i_lt (a := 30) z (by omega) (by omega)) (by omega))) (fun _ => ?_)
          refine g_iload_n hF dX7_settle_20 21 rfl rfl ?_
          refine g_if_eq hF dX7_settle_21 24 rfl 52 (by decide) (fun c => absurd c ((by decide))) (fun _ => ?_)
          refine g_aload_n hF dX7_settle_24 25 rfl rfl ?_
          refine g_iload hF dX7_settle_25 27 rfl rfl ?_
          refine g_put hF pl_X7_27 dX7_settle_27 30 rfl (by intro H h; first | exact h.1.1 | exact h.1.2.1) (Nat.le_of_ble_eq_true rfl) rfl rfl (hA _ (Or.inl ⟨by omega, by omega⟩)) (Pr' := TNW E a c w tl tn ts (nI (t + 1)) v fss wf x1 y1) (fun H H' h h1 h2 => by exact ⟨⟨h1, ai_kept h.1.2.1 (h2.2 _ (by omega)), ai_kept h.1.2.2.1 (h2.2 _ (by omega)), ai_kept h.1.2.2.2 (h2.2 _ (by omega))⟩, h.2.1.kept (fun q hq => h2.2 q (by have := hq.1; have := hq.2; omega)), h.2.2.kept (fun q hq => h2.2 q (by have := hq.1; have := hq.2; omega))⟩) ?_
          refine g_aload_n hF dX7_settle_30 31 rfl rfl ?_
          refine g_aload_n hF dX7_settle_31 32 rfl rfl ?_
          refine g_aload_n hF dX7_settle_32 33 rfl rfl ?_
          refine g_callV hF cv_X7_31 (c_T_loseEach l E a c w tl tn ts (nI (t + 1)) v fss wf x1 y1 G T (Bt v.2.2.2 G t) hG hG4 ho (fun g hg => ⟨htl g hg, Bt_le hG4 ho t g hg⟩) hac haw hcw) dX7_settle_33 36 rfl (st := []) rfl rfl ⟨Nat.le_of_ble_eq_true rfl, Nat.le_of_ble_eq_true rfl⟩ ⟨Nat.le_of_ble_eq_true rfl, Nat.le_of_ble_eq_true rfl⟩ rfl (Nat.le_of_ble_eq_true rfl) 7 rfl (by intro H h; first | exact h.1.1 | exact h.1.2.1) (Pr' := fun H => ∃ ts2 wf2 x2 y2, (∀ g, g < G → ts2 g = nI (pP (v.2.2.2 g) (Bt v.2.2.2 G t g))) ∧ TNW E a c w tl tn ts2 (nI (t + 1)) v fss wf2 x2 y2 H) (fun _ h => h) (hA) (fun _ _ _ h _ => by exact h) (st1 := []) rfl (k1 := 0) (n1 := 0) rfl rfl ?_
          refine g_ex (fun ts2 => ?_)
          refine g_ex (fun wf2 => ?_)
          refine g_ex (fun x2 => ?_)
          refine g_ex (fun y2 => ?_)
          refine g_pure (fun H h => h.1) (fun hts2 => ?_)
          refine g_pr (fun H h => h.2) ?_
          refine g_aload_n hF dX7_settle_36 37 rfl rfl ?_
          refine g_aload_n hF dX7_settle_37 38 rfl rfl ?_
          refine g_callV hF cv_X7_35 (c_T_sendOver l E a c tl tn ts2 (nI (t + 1)) v fss G T (fun g => pP (v.2.2.2 g) (Bt v.2.2.2 G t g)) hG hG4 ho hts2 hac) dX7_settle_38 41 rfl (st := []) rfl rfl ⟨Nat.le_of_ble_eq_true rfl, Nat.le_of_ble_eq_true rfl⟩ ⟨Nat.le_of_ble_eq_true rfl, Nat.le_of_ble_eq_true rfl⟩ rfl (Nat.le_of_ble_eq_true rfl) 7 rfl (by intro H h; first | exact h.1.1 | exact h.1.2.1) (Pr' := fun H => ∃ tn2, (∀ h, h < 4 → tn2 h = nI (Bt v.2.2.2 G (t + 1) h)) ∧ TNW E a c w tl tn2 ts2 (nI (t + 1)) v fss wf2 x2 y2 H) (fun H h => ⟨h.1, h.2.1⟩) (fun q hq => hA q (Or.inl hq)) (fun H H' h h1 h2 => by obtain ⟨tn2, q1, q2⟩ := h1; exact ⟨tn2, q1, q2.1, q2.2, h.2.2.out h2 (fun q z y => by have := z.1; have := z.2; have := y.1; have := y.2; omega)⟩) (st1 := []) rfl (k1 := 0) (n1 := 0) rfl rfl ?_
          refine g_ex (fun tn2 => ?_)
          refine g_pure (fun H h => h.1) (fun htn2 => ?_)
          refine g_pr (fun H h => h.2) ?_
          refine g_aload_n hF dX7_settle_41 42 rfl rfl ?_
          refine g_callV hF cv_X7_39 (c_T_takeNewLoads l E a tl tn2 ts2 (nI (t + 1)) 1 (Or.inr ⟨rfl, g0', q1, fun z => q2 ((nI_eq (by have := Bt_le hG4 ho (t + 1) g0' q1; omega) (by have := Bt_le hG4 ho t g0' q1; omega)).mp (by rw [← htn2 g0' q1, ← htl g0' q1, z]))⟩)) dX7_settle_42 45 rfl (st := []) rfl rfl ⟨Nat.le_of_ble_eq_true rfl, Nat.le_of_ble_eq_true rfl⟩ ⟨Nat.le_of_ble_eq_true rfl, Nat.le_of_ble_eq_true rfl⟩ rfl (Nat.le_of_ble_eq_true rfl) 7 rfl (by intro H h; first | exact h.1.1 | exact h.1.2.1) (Pr' := TNW E a c w tn2 tn2 ts2 (nI (t + 1)) v fss wf2 x2 y2) (fun H h => h.1) (fun q hq => hA q (Or.inl hq)) (fun H H' h h1 h2 => by exact ⟨h1, h.2.1.out h2 (fun q z y => by have := z.1; have := z.2; have := y.1; have := y.2; omega), h.2.2.out h2 (fun q z y => by have := z.1; have := z.2; have := y.1; have := y.2; omega)⟩) (st1 := [_]) rfl (k1 := 0) (n1 := 0) rfl rfl ?_
          refine g_istore_n hF dX7_settle_45 46 rfl (lo' := [_, _, _, _, _]) (Nat.le_of_ble_eq_true rfl) rfl ?_
          refine g_iinc hF dX7_settle_46 49 rfl (1) rfl (lo' := [_, _, _, _, _]) rfl rfl ?_
          refine g_goto hF dX7_settle_49 13 (by decide) ?_
          exact ih (t + 1) _ _ _ _ _ _ _ _ (by omega) (by omega) (nI_succ (t + 1)).symm htn2 (fun _ => ⟨rfl, fun g hg => hts2 g hg⟩) htR2
  refine g_aload_n hF dX7_settle_0 1 rfl rfl ?_
  refine g_get hF fl_X7_9 dX7_settle_1 4 rfl (by intro H h; first | exact h.1.1 | exact h.1.2.1) rfl ?_
  refine g_iconst hF (0) dX7_settle_4 5 rfl rfl ?_
  refine g_callS hF cs_X7_21 (c_fill l E (a + 1) 4 tl0 0 (by decide)) dX7_settle_5 8 rfl (st := []) rfl rfl ⟨Nat.le_of_ble_eq_true rfl, Nat.le_of_ble_eq_true rfl⟩ ⟨Nat.le_of_ble_eq_true rfl, Nat.le_of_ble_eq_true rfl⟩ rfl (Nat.le_of_ble_eq_true rfl) (Pr' := TNW E a c w (fun _ => 0) tn0 ts0 r0 v fss wf0 x0 y0) (fun H h => h.1.2.1) (fun q hq => hA q (Or.inl (by subst hq; exact ⟨by omega, by omega⟩))) (fun H H' h h1 h2 => by exact ⟨⟨ob_kept h.1.1 (out_at h2 h.1.1 (by show ¬ a = a + 1; omega)), h1, ai_kept h.1.2.2.1 (out_at h2 h.1.2.2.1 (by show ¬ a + 2 = a + 1; omega)), ai_kept h.1.2.2.2 (out_at h2 h.1.2.2.2 (by show ¬ a + 3 = a + 1; omega))⟩, h.2.1.out h2 (fun q z y => by have := z.1; have := z.2; omega), h.2.2.out h2 (fun q z y => by have := z.1; have := z.2; omega)⟩) (st1 := []) rfl (k1 := 0) (n1 := 0) rfl rfl ?_
  refine g_iconst hF (1) dX7_settle_8 9 rfl rfl ?_
  refine g_istore_n hF dX7_settle_9 10 rfl (lo' := [_, _, _, _, _]) (Nat.le_of_ble_eq_true rfl) rfl ?_
  refine g_iconst hF (1) dX7_settle_10 11 rfl rfl ?_
  refine g_istore hF dX7_settle_11 13 rfl (lo' := [_, _, _, _, _]) (Nat.le_of_ble_eq_true rfl) rfl ?_
  exact loop 31 0 _ _ _ _ _ _ _ _ (by omega) (by omega) (by decide) (fun g _ => nI_0.symm) (fun z => absurd z (by omega)) eR
