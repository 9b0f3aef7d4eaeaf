/-! Constructors: Net, History, Image -/
theorem but.out {a : Nat} {H H' : Heap} (h : but a H H') : out (fun q => q = a) H H' := ⟨Nat.le_of_eq h.1.symm, fun b _ hb => h.2 b hb⟩
theorem grw.out {sz : Nat} {H H' : Heap} (h : grw sz H H') (hz : H.size = sz) : out (fun _ => False) H H' := ⟨by rw [h.1, hz]; exact Nat.le_succ _, fun b hb _ => h.2 b (by rw [← hz]; exact hb)⟩
/-- a net of which j groups are made -/
def nZ (E : Ev) (a j : Nat) (H : Heap) : Prop := ob E 6 a [.int 0, .int 0, .int 0, .ref (a + 1)] H ∧ aq E E.2.2.2.2.1 (a + 1) 4 (fun i => if i < j then some (a + 2 + 5 * i) else none) H ∧ ∀ i, i < j → Gp E (a + 2 + 5 * i) gz (fun _ => 0) H
theorem nZ.out {E : Ev} {a j : Nat} {A : Nat → Prop} {H H' : Heap} (h : nZ E a j H) (ho : out A H H') (hA : ∀ q, A q → a + 2 + 5 * j ≤ q) : nZ E a j H' :=
  ⟨ob_kept h.1 (out_at ho h.1 (fun z => by have := hA _ z; dsimp only at this; omega)), aq_kept h.2.1 (out_at ho h.2.1 (fun z => by have := hA _ z; dsimp only at this; omega)), fun i hi => (h.2.2 i hi).kept (fun q hq => ho.2 q ((h.2.2 i hi).lt q hq) (fun z => by have := hA _ z; have := hq.2; omega))⟩
set_option maxRecDepth 100000 in
set_option maxHeartbeats 4000000 in
theorem c_N_init (l : Launch) (E : Ev) (a : Nat) : Ct l E yX6_init cX6_init 2 none (rc 5 21 156) [.ref a] (fun H => H.size = a + 1 ∧ ob E 6 a [.int 0, .int 0, .int 0, .null] H) (rV none (fun H => H.size = a + 22 ∧ Nq E a (v0 2) H)) (fun q => a ≤ q) := by
  refine ct_start (by decide) [some (.ref a), none] rfl (Nat.le_of_ble_eq_true rfl) ?_
  intro x hF hN hA hR
  have hI : ini x := hN
  have loop : ∀ (n j : Nat) (i : Int32), 4 - j < n → j ≤ 4 → i = nI j → go l (rc 5 21 156) E x (1 + 5 * j) (4 + 38 * j) (fun H => H.size = a + 2 + 5 * j ∧ nZ E a j H) [some (.ref a), some (.int i)] 14 [] := by
    intro n
    induction n with
    | zero => intro j i h; omega
    | succ n ih =>
      intro j i hn hj hi
      subst hi
      by_cases h4 : j = 4
      · subst h4
        refine g_iload_n hF dX6_init_14 15 rfl rfl ?_
        refine g_iconst hF (4) dX6_init_15 16 rfl rfl ?_
        refine g_icmp_ge hF dX6_init_16 19 rfl 38 (by decide) (fun _ => ?_) (fun c => absurd ((by decide)) c)
        refine g_aload_n hF dX6_init_38 39 rfl rfl ?_
        refine g_iconst hF (2) dX6_init_39 40 rfl rfl ?_
        refine g_pr (Pr' := fun H => H.size = a + 22 ∧ Np E a (0, 0, 0, fun _ => gz) (fun _ _ => 0) H) (fun H h => ⟨h.1, h.2.1, aq_congr (fun i hi => if_pos hi) h.2.2.1, fun g hg => h.2.2.2 g hg⟩) ?_
        refine g_callV hF cv_X6_18 ((c_N_begin l E a (0, 0, 0, fun _ => gz) (fun _ _ => 0) 2).sz0 (a + 22)) dX6_init_40 43 rfl (st := []) rfl rfl ⟨Nat.le_of_ble_eq_true rfl, Nat.le_of_ble_eq_true rfl⟩ ⟨by dsimp only [rc, rm]; omega, by dsimp only [rc, rm]; omega⟩ rfl (Nat.le_of_ble_eq_true rfl) 6 rfl (by intro H h; first | exact h.2 | exact h.2.1 | exact h.2.2.1) (Pr' := fun H => H.size = a + 22 ∧ Nq E a (v0 2) H) (fun H h => h) (fun q y => hA q (by have := y.1; omega)) (fun H H' h h1 h2 => by exact ⟨h1.1, _, fOK_v0 2, h1.2⟩) (st1 := []) rfl (k1 := _) (n1 := _) rfl rfl ?_
        exact g_vret hF dX6_init_43 (by dsimp only [rc, rm]; omega) (by dsimp only [rc, rm]; omega) (fun H h => hR _ _ ⟨rfl, h⟩)
      · refine g_iload_n hF dX6_init_14 15 rfl rfl ?_
        refine g_iconst hF (4) dX6_init_15 16 rfl rfl ?_
        refine g_icmp_ge hF dX6_init_16 19 rfl 38 (by decide) (fun c => absurd c (fun z => absurd (i_le (a := 4) z (by omega) (by omega)) (by omega))) (fun _ => ?_)
        refine g_aload_n hF dX6_init_19 20 rfl rfl ?_
        refine g_get hF fl_X6_11 dX6_init_20 23 rfl (by intro H h; first | exact h.2 | exact h.2.1 | exact h.2.2.1) rfl ?_
        refine g_iload_n hF dX6_init_23 24 rfl rfl ?_
        refine g_new hF nw_X6_9 dX6_init_24 27 rfl (fun H h => h.1) ⟨by dsimp only [rc, rm]; omega, by dsimp only [rc, rm]; omega⟩ (Pr' := fun H => H.size = a + 2 + 5 * j + 1 ∧ nZ E a j H ∧ ob E 3 (a + 2 + 5 * j) [.int 0, .int 0, .int 0, .int 0, .int 0, .int 0, .int 0, .int 0, .int 0, .int 0, .null, .null, .null, .null] H) (fun H H' h h1 h2 => by exact ⟨h2.1, h.2.out (h2.out h.1) (fun _ z => z.elim), h1⟩) rfl rfl ?_
        refine g_dup hF dX6_init_27 28 rfl rfl ?_
        refine g_callI hF ci_X6_17 (c_G_init l E (a + 2 + 5 * j)) dX6_init_28 31 rfl (st := [_, _, _]) rfl rfl ⟨Nat.le_of_ble_eq_true rfl, Nat.le_of_ble_eq_true rfl⟩ ⟨by dsimp only [rc, rm]; omega, by dsimp only [rc, rm]; omega⟩ rfl (Nat.le_of_ble_eq_true rfl) (Pr' := fun H => H.size = a + 2 + 5 * j + 5 ∧ nZ E a j H ∧ Gp E (a + 2 + 5 * j) gz (fun _ => 0) H) (fun H h => ⟨h.1, h.2.2⟩) (fun q y => hA q (by omega)) (fun H H' h h1 h2 => by exact ⟨h1.1, h.2.1.out h2 (fun _ z => z), h1.2⟩) (st1 := [_, _, _]) rfl (k1 := _) (n1 := _) rfl rfl ?_
        refine g_aast hF (ci := 3) 3 dX6_init_31 32 rfl rfl rfl (fun H h => h.2.1.2.1) (fun H h => h.2.2.1) (vp_in_nI (show j < 4 by omega) (by omega)) (hA _ (by omega)) (Pr' := fun H => H.size = a + 2 + 5 * (j + 1) ∧ nZ E a (j + 1) H) (fun H H' h h1 h2 => by exact ⟨by rw [h2.1, h.1]; omega, ob_kept h.2.1.1 (h2.2 _ (by omega)), aq_congr (fun i hi => by rw [nI_clamp (by omega)]; by_cases e : i = j; subst e; rw [va_up_self, if_pos (by omega)]; rw [va_up_ne _ _ e]; by_cases e2 : i < j; rw [if_pos e2, if_pos (by omega)]; rw [if_neg e2, if_neg (by omega)]) h1, fun i hi => by by_cases e : i = j; subst e; exact h.2.2.kept (fun q hq => h2.2 q (by have := hq.1; omega)); exact (h.2.1.2.2 i (by omega)).kept (fun q hq => h2.2 q (by have := hq.1; omega))⟩) ?_
        refine g_iinc hF dX6_init_32 35 rfl (1) rfl (lo' := [_, _]) rfl rfl ?_
        refine g_goto hF dX6_init_35 14 (by decide) ?_
        refine g_wid (k1 := 1 + 5 * (j + 1)) (n1 := 4 + 38 * (j + 1)) (by dsimp only [rc, rm]; omega) (by dsimp only [rc, rm]; omega) ?_
        exact ih (j + 1) _ (by omega) (by omega) (nI_succ j).symm
  refine g_aload_n hF dX6_init_0 1 rfl rfl ?_
  refine g_oinit hF oi_X6_3 dX6_init_1 4 rfl ⟨Nat.le_of_ble_eq_true rfl, Nat.le_of_ble_eq_true rfl⟩ rfl (Nat.le_of_ble_eq_true rfl) ?_
  refine g_aload_n hF dX6_init_4 5 rfl rfl ?_
  refine g_iconst hF (4) dX6_init_5 6 rfl rfl ?_
  refine g_anew hF (N := 4) 3 rfl (fun _ h => h.2.1) cl_X6_9 dX6_init_6 9 rfl (by decide +kernel) (by decide +kernel) (Nat.le_of_ble_eq_true rfl) (fun H h => h.1) ⟨by dsimp only [rc, rm]; omega, by dsimp only [rc, rm]; omega⟩ (Pr' := fun H => H.size = a + 2 ∧ ob E 6 a [.int 0, .int 0, .int 0, .null] H ∧ aq E E.2.2.2.2.1 (a + 1) 4 (fun _ => none) H) (fun H H' h h1 h2 => by exact ⟨h2.1, ob_kept h.2 (h2.2 _ (by omega)), h1⟩) rfl rfl ?_
  refine g_putF hF hI pl_X6_11 dX6_init_9 12 rfl (by intro H h; first | exact h.2 | exact h.2.1 | exact h.2.2.1) (Nat.le_of_ble_eq_true rfl) rfl rfl (hA _ (by omega)) (Pr' := fun H => H.size = a + 2 ∧ nZ E a 0 H) (fun H H' h h1 h2 => by exact ⟨h2.1.trans h.1, h1, aq_kept h.2.2 (h2.2 _ (by omega)), fun i hi => absurd hi (Nat.not_lt_zero i)⟩) ?_
  refine g_iconst hF (0) dX6_init_12 13 rfl rfl ?_
  refine g_istore_n hF dX6_init_13 14 rfl (lo' := [_, _]) (Nat.le_of_ble_eq_true rfl) rfl ?_
  exact loop 5 0 _ (by omega) (by omega) nI_0.symm
/-- a history of which j rows are made -/
def hZ (E : Ev) (a j : Nat) (H : Heap) : Prop := ob E 4 a [.ref (a + 1), .int 0, .int 0] H ∧ aq E E.2.2.2.2.2.1 (a + 1) 20 (fun i => if i < j then some (a + 2 + 22 * i) else none) H ∧ ∀ i, i < j → Nq E (a + 2 + 22 * i) (v0 2) H
theorem hZ.out {E : Ev} {a j : Nat} {A : Nat → Prop} {H H' : Heap} (h : hZ E a j H) (ho : out A H H') (hA : ∀ q, A q → a + 2 + 22 * j ≤ q) : hZ E a j H' :=
  ⟨ob_kept h.1 (out_at ho h.1 (fun z => by have := hA _ z; dsimp only at this; omega)), aq_kept h.2.1 (out_at ho h.2.1 (fun z => by have := hA _ z; dsimp only at this; omega)), fun i hi => (h.2.2 i hi).out ho (fun q hq z => by have := hA _ z; have := hq.2; omega)⟩
set_option maxRecDepth 100000 in
set_option maxHeartbeats 4000000 in
theorem c_H_init (l : Launch) (E : Ev) (a : Nat) : Ct l E yX4_init cX4_init 2 none (rc 6 441 3220) [.ref a] (fun H => H.size = a + 1 ∧ ob E 4 a [.null, .int 0, .int 0] H) (rV none (fun H => H.size = a + 442 ∧ Hq E a (fun _ => v0 2) 0 0 H)) (fun q => a ≤ q) := by
  refine ct_start (by decide) [some (.ref a), none] rfl (Nat.le_of_ble_eq_true rfl) ?_
  intro x hF hN hA hR
  have hI : ini x := hN
  have loop : ∀ (n j : Nat) (i : Int32), 20 - j < n → j ≤ 20 → i = nI j → go l (rc 6 441 3220) E x (1 + 22 * j) (20 + 160 * j) (fun H => H.size = a + 2 + 22 * j ∧ hZ E a j H) [some (.ref a), some (.int i)] 15 [] := by
    intro n
    induction n with
    | zero => intro j i h; omega
    | succ n ih =>
      intro j i hn hj hi
      subst hi
      by_cases h4 : j = 20
      · subst h4
        refine g_iload_n hF dX4_init_15 16 rfl rfl ?_
        refine g_bipush hF (20) dX4_init_16 18 rfl rfl ?_
        refine g_icmp_ge hF dX4_init_18 21 rfl 40 (by decide) (fun _ => ?_) (fun c => absurd ((by decide)) c)
        exact g_vret hF dX4_init_40 (by dsimp only [rc, rm]; omega) (by dsimp only [rc, rm]; omega) (fun H h => hR _ _ ⟨rfl, ⟨h.1, h.2.1, aq_congr (fun i hi => if_pos hi) h.2.2.1, fun g hg => h.2.2.2 g hg⟩⟩)
      · refine g_iload_n hF dX4_init_15 16 rfl rfl ?_
        refine g_bipush hF (20) dX4_init_16 18 rfl rfl ?_
        refine g_icmp_ge hF dX4_init_18 21 rfl 40 (by decide) (fun c => absurd c (fun z => absurd (i_le (a := 20) z (by omega) (by omega)) (by omega))) (fun _ => ?_)
        refine g_aload_n hF dX4_init_21 22 rfl rfl ?_
        refine g_get hF fl_X4_11 dX4_init_22 25 rfl (by intro H h; first | exact h.2 | exact h.2.1 | exact h.2.2.1) rfl ?_
        refine g_iload_n hF dX4_init_25 26 rfl rfl ?_
        refine g_new hF nw_X4_9 dX4_init_26 29 rfl (fun H h => h.1) ⟨by dsimp only [rc, rm]; omega, by dsimp only [rc, rm]; omega⟩ (Pr' := fun H => H.size = a + 2 + 22 * j + 1 ∧ hZ E a j H ∧ ob E 6 (a + 2 + 22 * j) [.int 0, .int 0, .int 0, .null] H) (fun H H' h h1 h2 => by exact ⟨h2.1, h.2.out (h2.out h.1) (fun _ z => z.elim), h1⟩) rfl rfl ?_
        refine g_dup hF dX4_init_29 30 rfl rfl ?_
        refine g_callI hF ci_X4_17 (c_N_init l E (a + 2 + 22 * j)) dX4_init_30 33 rfl (st := [_, _, _]) rfl rfl ⟨Nat.le_of_ble_eq_true rfl, Nat.le_of_ble_eq_true rfl⟩ ⟨by dsimp only [rc, rm]; omega, by dsimp only [rc, rm]; omega⟩ rfl (Nat.le_of_ble_eq_true rfl) (Pr' := fun H => H.size = a + 2 + 22 * j + 22 ∧ hZ E a j H ∧ Nq E (a + 2 + 22 * j) (v0 2) H) (fun H h => ⟨h.1, h.2.2⟩) (fun q y => hA q (by omega)) (fun H H' h h1 h2 => by exact ⟨h1.1, h.2.1.out h2 (fun _ z => z), h1.2⟩) (st1 := [_, _, _]) rfl (k1 := _) (n1 := _) rfl rfl ?_
        refine g_aast hF (ci := 6) 4 dX4_init_33 34 rfl rfl rfl (fun H h => h.2.1.2.1) (fun H h => h.2.2.nob) (vp_in_nI (show j < 20 by omega) (by omega)) (hA _ (by omega)) (Pr' := fun H => H.size = a + 2 + 22 * (j + 1) ∧ hZ E a (j + 1) H) (fun H H' h h1 h2 => by exact ⟨by rw [h2.1, h.1]; omega, ob_kept h.2.1.1 (h2.2 _ (by omega)), aq_congr (fun i hi => by rw [nI_clamp (by omega)]; by_cases e : i = j; subst e; rw [va_up_self, if_pos (by omega)]; rw [va_up_ne _ _ e]; by_cases e2 : i < j; rw [if_pos e2, if_pos (by omega)]; rw [if_neg e2, if_neg (by omega)]) h1, fun i hi => by by_cases e : i = j; subst e; exact h.2.2.kept (fun q hq => h2.2 q (by have := hq.1; omega)); exact (h.2.1.2.2 i (by omega)).kept (fun q hq => h2.2 q (by have := hq.1; omega))⟩) ?_
        refine g_iinc hF dX4_init_34 37 rfl (1) rfl (lo' := [_, _]) rfl rfl ?_
        refine g_goto hF dX4_init_37 15 (by decide) ?_
        refine g_wid (k1 := 1 + 22 * (j + 1)) (n1 := 20 + 160 * (j + 1)) (by dsimp only [rc, rm]; omega) (by dsimp only [rc, rm]; omega) ?_
        exact ih (j + 1) _ (by omega) (by omega) (nI_succ j).symm
  refine g_aload_n hF dX4_init_0 1 rfl rfl ?_
  refine g_oinit hF oi_X4_3 dX4_init_1 4 rfl ⟨Nat.le_of_ble_eq_true rfl, Nat.le_of_ble_eq_true rfl⟩ rfl (Nat.le_of_ble_eq_true rfl) ?_
  refine g_aload_n hF dX4_init_4 5 rfl rfl ?_
  refine g_bipush hF (20) dX4_init_5 7 rfl rfl ?_
  refine g_anew hF (N := 20) 4 rfl (fun _ h => h.2.2.1) cl_X4_9 dX4_init_7 10 rfl (by decide +kernel) (by decide +kernel) (Nat.le_of_ble_eq_true rfl) (fun H h => h.1) ⟨by dsimp only [rc, rm]; omega, by dsimp only [rc, rm]; omega⟩ (Pr' := fun H => H.size = a + 2 ∧ ob E 4 a [.null, .int 0, .int 0] H ∧ aq E E.2.2.2.2.2.1 (a + 1) 20 (fun _ => none) H) (fun H H' h h1 h2 => by exact ⟨h2.1, ob_kept h.2 (h2.2 _ (by omega)), h1⟩) rfl rfl ?_
  refine g_putF hF hI pl_X4_11 dX4_init_10 13 rfl (by intro H h; first | exact h.2 | exact h.2.1 | exact h.2.2.1) (Nat.le_of_ble_eq_true rfl) rfl rfl (hA _ (by omega)) (Pr' := fun H => H.size = a + 2 ∧ hZ E a 0 H) (fun H H' h h1 h2 => by exact ⟨h2.1.trans h.1, h1, aq_kept h.2.2 (h2.2 _ (by omega)), fun i hi => absurd hi (Nat.not_lt_zero i)⟩) ?_
  refine g_iconst hF (0) dX4_init_13 14 rfl rfl ?_
  refine g_istore_n hF dX4_init_14 15 rfl (lo' := [_, _]) (Nat.le_of_ble_eq_true rfl) rfl ?_
  exact loop 21 0 _ (by omega) (by omega) nI_0.symm
set_option maxRecDepth 100000 in
set_option maxHeartbeats 4000000 in
theorem c_I_init (l : Launch) (E : Ev) (a : Nat) : Ct l E yX5_init cX5_init 1 none (rc 6 22 160) [.ref a] (fun H => H.size = a + 1 ∧ ob E 5 a [.null, .int 0, .int 0] H) (rV none (fun H => H.size = a + 23 ∧ Iq E a (v0 2) 0 0 H)) (fun q => a ≤ q) := by
  refine ct_start (by decide) [some (.ref a)] rfl (Nat.le_of_ble_eq_true rfl) ?_
  intro x hF hN hA hR
  have hI : ini x := hN
  refine g_aload_n hF dX5_init_0 1 rfl rfl ?_
  refine g_oinit hF oi_X5_1 dX5_init_1 4 rfl ⟨Nat.le_of_ble_eq_true rfl, Nat.le_of_ble_eq_true rfl⟩ rfl (Nat.le_of_ble_eq_true rfl) ?_
  refine g_aload_n hF dX5_init_4 5 rfl rfl ?_
  refine g_new hF nw_X5_7 dX5_init_5 8 rfl (fun H h => h.1) ⟨by dsimp only [rc, rm]; omega, by dsimp only [rc, rm]; omega⟩ (Pr' := fun H => H.size = a + 2 ∧ ob E 5 a [.null, .int 0, .int 0] H ∧ ob E 6 (a + 1) [.int 0, .int 0, .int 0, .null] H) (fun H H' h h1 h2 => by exact ⟨h2.1, ob_kept h.2 (h2.2 _ (by omega)), h1⟩) rfl rfl ?_
  refine g_dup hF dX5_init_8 9 rfl rfl ?_
  refine g_callI hF ci_X5_9 (c_N_init l E (a + 1)) dX5_init_9 12 rfl (st := [_, _]) rfl rfl ⟨Nat.le_of_ble_eq_true rfl, Nat.le_of_ble_eq_true rfl⟩ ⟨by dsimp only [rc, rm]; omega, by dsimp only [rc, rm]; omega⟩ rfl (Nat.le_of_ble_eq_true rfl) (Pr' := fun H => H.size = a + 23 ∧ ob E 5 a [.null, .int 0, .int 0] H ∧ Nq E (a + 1) (v0 2) H) (fun H h => ⟨h.1, h.2.2⟩) (fun q y => hA q (by omega)) (fun H H' h h1 h2 => by exact ⟨h1.1.trans (by omega), ob_kept h.2.1 (out_at h2 h.2.1 (by show ¬ a + 1 ≤ a; omega)), h1.2⟩) (st1 := [_, _]) rfl (k1 := _) (n1 := _) rfl rfl ?_
  refine g_putF hF hI pl_X5_10 dX5_init_12 15 rfl (by intro H h; first | exact h.2 | exact h.2.1) (Nat.le_of_ble_eq_true rfl) rfl rfl (hA _ (by omega)) (Pr' := fun H => H.size = a + 23 ∧ Iq E a (v0 2) 0 0 H) (fun H H' h h1 h2 => by exact ⟨h2.1.trans h.1, h1, h.2.2.but h2 (fun y => by have := y.1; omega)⟩) ?_
  exact g_vret hF dX5_init_15 (by dsimp only [rc, rm]; omega) (by dsimp only [rc, rm]; omega) (fun H h => hR _ _ ⟨rfl, h⟩)
