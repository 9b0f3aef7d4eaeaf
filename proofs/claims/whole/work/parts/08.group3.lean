/-! Group: holding, letting go, beginning, copying -/
theorem Gp.ring0 {E : Ev} {a : Nat} {gv fs : Nat → Int32} {H H' : Heap} (h : Gp E a gv fs H) (h1 : ob E 3 a ((gfs gv a).set 9 (.int 0)) H') (h2 : but a H H') : Gp E a (upd gv 5 (-1)) fs H' :=
  Gp.wo (by omega) (by rw [show (0 : Int32) = -1 + 1 by decide]; rfl) h h1 h2
def gset (k : Nat) (z : Int32) (gv : Nat → Int32) : Nat → Int32 := fun w => if 10 ≤ w ∧ (w - 10) % 4 = k then z else gv w
def gcp (k : Nat) (ov gv : Nat → Int32) : Nat → Int32 := fun w => if 10 ≤ w ∧ (w - 10) % 4 = k then ov w else gv w
theorem gset_at {k : Nat} {z : Int32} {gv : Nat → Int32} {w : Nat} (h1 : 10 ≤ w) (h2 : (w - 10) % 4 = k) : gset k z gv w = z := if_pos ⟨h1, h2⟩
theorem gset_ne {k : Nat} {z : Int32} {gv : Nat → Int32} {w : Nat} (h : w < 10 ∨ (w - 10) % 4 ≠ k) : gset k z gv w = gv w := if_neg (by omega)
theorem gcp_at {k : Nat} {ov gv : Nat → Int32} {w : Nat} (h1 : 10 ≤ w) (h2 : (w - 10) % 4 = k) : gcp k ov gv w = ov w := if_pos ⟨h1, h2⟩
theorem gcp_ne {k : Nat} {ov gv : Nat → Int32} {w : Nat} (h : w < 10 ∨ (w - 10) % 4 ≠ k) : gcp k ov gv w = gv w := if_neg (by omega)
theorem Gp.mk {E : Ev} {a : Nat} {gv gv' fs fs' : Nat → Int32} {H H' : Heap} (h : Gp E a gv fs H) (he : ∀ w, w < 10 → gv w = gv' w) (h0 : H'[a]? = H[a]?) (h1 : ai E (a + 1) 6 (fun l => gv' (10 + 4 * l)) H') (h2 : ai E (a + 2) 6 (fun l => gv' (11 + 4 * l)) H') (h3 : ai E (a + 3) 6 (fun l => gv' (12 + 4 * l)) H') (h4 : ai E (a + 4) 6 fs' H') : Gp E a gv' fs' H' := by
  refine ⟨?_, h1, h2, h3, h4⟩
  have e : gfs gv' a = gfs gv a := by
    unfold gfs
    rw [he 0 (by omega), he 1 (by omega), he 2 (by omega), he 3 (by omega), he 4 (by omega), he 5 (by omega), he 6 (by omega), he 7 (by omega), he 8 (by omega), he 9 (by omega)]
  rw [e]
  exact ob_kept h.1 h0
theorem out_at {A : Nat → Prop} {H H' : Heap} {E : Ev} {q : Nat × va_E} (h : out A H H') (h1 : va_at E.1 clE q H) (h2 : ¬ A q.1) : H'[q.1]? = H[q.1]? := h.2 _ h1.lt h2
theorem Gp.f1 {E : Ev} {a : Nat} {gv fs : Nat → Int32} {z : Int32} {H H' : Heap} (h : Gp E a gv fs H) (h1 : ai E (a + 1) 6 (fun _ => z) H') (h2 : out (fun q => q = a + 1) H H') : Gp E a (gset 0 z gv) fs H' :=
  Gp.mk h (fun w hw => (gset_ne (by omega)).symm) (out_at h2 h.1 (by show ¬ a = a + 1; omega)) (ai_congr (fun j _ => (gset_at (by omega) (by omega)).symm) h1) (ai_congr (fun j _ => (gset_ne (by omega)).symm) (ai_kept h.2.2.1 (out_at h2 h.2.2.1 (by show ¬ a + 2 = a + 1; omega)))) (ai_congr (fun j _ => (gset_ne (by omega)).symm) (ai_kept h.2.2.2.1 (out_at h2 h.2.2.2.1 (by show ¬ a + 3 = a + 1; omega)))) (ai_kept h.2.2.2.2 (out_at h2 h.2.2.2.2 (by show ¬ a + 4 = a + 1; omega)))
theorem Gp.f2 {E : Ev} {a : Nat} {gv fs : Nat → Int32} {z : Int32} {H H' : Heap} (h : Gp E a gv fs H) (h1 : ai E (a + 2) 6 (fun _ => z) H') (h2 : out (fun q => q = a + 2) H H') : Gp E a (gset 1 z gv) fs H' :=
  Gp.mk h (fun w hw => (gset_ne (by omega)).symm) (out_at h2 h.1 (by show ¬ a = a + 2; omega)) (ai_congr (fun j _ => (gset_ne (by omega)).symm) (ai_kept h.2.1 (out_at h2 h.2.1 (by show ¬ a + 1 = a + 2; omega)))) (ai_congr (fun j _ => (gset_at (by omega) (by omega)).symm) h1) (ai_congr (fun j _ => (gset_ne (by omega)).symm) (ai_kept h.2.2.2.1 (out_at h2 h.2.2.2.1 (by show ¬ a + 3 = a + 2; omega)))) (ai_kept h.2.2.2.2 (out_at h2 h.2.2.2.2 (by show ¬ a + 4 = a + 2; omega)))
theorem Gp.f3 {E : Ev} {a : Nat} {gv fs : Nat → Int32} {z : Int32} {H H' : Heap} (h : Gp E a gv fs H) (h1 : ai E (a + 3) 6 (fun _ => z) H') (h2 : out (fun q => q = a + 3) H H') : Gp E a (gset 2 z gv) fs H' :=
  Gp.mk h (fun w hw => (gset_ne (by omega)).symm) (out_at h2 h.1 (by show ¬ a = a + 3; omega)) (ai_congr (fun j _ => (gset_ne (by omega)).symm) (ai_kept h.2.1 (out_at h2 h.2.1 (by show ¬ a + 1 = a + 3; omega)))) (ai_congr (fun j _ => (gset_ne (by omega)).symm) (ai_kept h.2.2.1 (out_at h2 h.2.2.1 (by show ¬ a + 2 = a + 3; omega)))) (ai_congr (fun j _ => (gset_at (by omega) (by omega)).symm) h1) (ai_kept h.2.2.2.2 (out_at h2 h.2.2.2.2 (by show ¬ a + 4 = a + 3; omega)))
theorem Gp.f4 {E : Ev} {a : Nat} {gv fs fs' : Nat → Int32} {H H' : Heap} (h : Gp E a gv fs H) (h1 : ai E (a + 4) 6 fs' H') (h2 : out (fun q => q = a + 4) H H') : Gp E a gv fs' H' :=
  Gp.mk h (fun w hw => rfl) (out_at h2 h.1 (by show ¬ a = a + 4; omega)) (ai_kept h.2.1 (out_at h2 h.2.1 (by show ¬ a + 1 = a + 4; omega))) (ai_kept h.2.2.1 (out_at h2 h.2.2.1 (by show ¬ a + 2 = a + 4; omega))) (ai_kept h.2.2.2.1 (out_at h2 h.2.2.2.1 (by show ¬ a + 3 = a + 4; omega))) h1
theorem Gp.c1 {E : Ev} {a : Nat} {gv ov fs : Nat → Int32} {H H' : Heap} (h : Gp E a gv fs H) (h1 : ai E (a + 1) 6 (fun l => ov (10 + 4 * l)) H') (h2 : but (a + 1) H H') : Gp E a (gcp 0 ov gv) fs H' :=
  Gp.mk h (fun w hw => (gcp_ne (by omega)).symm) (h2.2 _ (by omega)) (ai_congr (fun j _ => (gcp_at (by omega) (by omega)).symm) h1) (ai_congr (fun j _ => (gcp_ne (by omega)).symm) (ai_kept h.2.2.1 (h2.2 _ (by omega)))) (ai_congr (fun j _ => (gcp_ne (by omega)).symm) (ai_kept h.2.2.2.1 (h2.2 _ (by omega)))) (ai_kept h.2.2.2.2 (h2.2 _ (by omega)))
theorem Gp.c2 {E : Ev} {a : Nat} {gv ov fs : Nat → Int32} {H H' : Heap} (h : Gp E a gv fs H) (h1 : ai E (a + 2) 6 (fun l => ov (11 + 4 * l)) H') (h2 : but (a + 2) H H') : Gp E a (gcp 1 ov gv) fs H' :=
  Gp.mk h (fun w hw => (gcp_ne (by omega)).symm) (h2.2 _ (by omega)) (ai_congr (fun j _ => (gcp_ne (by omega)).symm) (ai_kept h.2.1 (h2.2 _ (by omega)))) (ai_congr (fun j _ => (gcp_at (by omega) (by omega)).symm) h1) (ai_congr (fun j _ => (gcp_ne (by omega)).symm) (ai_kept h.2.2.2.1 (h2.2 _ (by omega)))) (ai_kept h.2.2.2.2 (h2.2 _ (by omega)))
theorem Gp.c3 {E : Ev} {a : Nat} {gv ov fs : Nat → Int32} {H H' : Heap} (h : Gp E a gv fs H) (h1 : ai E (a + 3) 6 (fun l => ov (12 + 4 * l)) H') (h2 : but (a + 3) H H') : Gp E a (gcp 2 ov gv) fs H' :=
  Gp.mk h (fun w hw => (gcp_ne (by omega)).symm) (h2.2 _ (by omega)) (ai_congr (fun j _ => (gcp_ne (by omega)).symm) (ai_kept h.2.1 (h2.2 _ (by omega)))) (ai_congr (fun j _ => (gcp_ne (by omega)).symm) (ai_kept h.2.2.1 (h2.2 _ (by omega)))) (ai_congr (fun j _ => (gcp_at (by omega) (by omega)).symm) h1) (ai_kept h.2.2.2.2 (h2.2 _ (by omega)))
theorem Gp.c4 {E : Ev} {a : Nat} {gv fs fs' : Nat → Int32} {H H' : Heap} (h : Gp E a gv fs H) (h1 : ai E (a + 4) 6 fs' H') (h2 : but (a + 4) H H') : Gp E a gv fs' H' :=
  Gp.mk h (fun w hw => rfl) (h2.2 _ (by omega)) (ai_kept h.2.1 (h2.2 _ (by omega))) (ai_kept h.2.2.1 (h2.2 _ (by omega))) (ai_kept h.2.2.2.1 (h2.2 _ (by omega))) h1
def gHold (gv : Nat → Int32) (i : Nat) (call g : Int32) : Nat → Int32 := upd (upd (upd (upd gv (10 + 4 * i) 1) (11 + 4 * i) call) (12 + 4 * i) g) 5 (nI i)
def gLet (gv : Nat → Int32) (i : Nat) (b : Int32) : Nat → Int32 := upd (upd (upd gv (10 + 4 * i) b) (11 + 4 * i) (-1)) (12 + 4 * i) (-1)
set_option maxRecDepth 100000 in
set_option maxHeartbeats 4000000 in
theorem c_G_hold (l : Launch) (E : Ev) (a : Nat) (gv fs : Nat → Int32) (i : Nat) (call g : Int32) (hi : i < 6) : Ct l E yX3_hold cX3_hold 4 none (rm 1) [.ref a, .int (nI i), .int call, .int g] (Gp E a gv fs) (rV none (Gp E a (gHold gv i call g) fs)) (rg a 5) := by
  refine ct_start (by decide) [some (.ref a), some (.int (nI i)), some (.int call), some (.int g)] rfl (Nat.le_of_ble_eq_true rfl) ?_
  intro x hF hN hA hR
  have hin : vp_in (nI i) 6 := vp_in_nI hi (by omega)
  refine g_aload_n hF dX3_hold_0 1 rfl rfl ?_
  refine g_get hF fl_X3_9 dX3_hold_1 4 rfl (by intro H h; first | exact h.1 | exact h.2.1 | exact h.2.2.1 | exact h.2.2.2.1 | exact h.2.2.2.2) rfl ?_
  refine g_iload_n hF dX3_hold_4 5 rfl rfl ?_
  refine g_iconst hF (1) dX3_hold_5 6 rfl rfl ?_
  refine g_iast hF dX3_hold_6 7 rfl (by intro H h; first | exact h.1 | exact h.2.1 | exact h.2.2.1 | exact h.2.2.2.1 | exact h.2.2.2.2) (hin) (hA _ ⟨by omega, by omega⟩) (Pr' := Gp E a (upd gv (10 + 4 * i) 1) fs) (fun H H' h h1 h2 => by exact Gp.w1 hi h h1 h2) ?_
  refine g_aload_n hF dX3_hold_7 8 rfl rfl ?_
  refine g_get hF fl_X3_15 dX3_hold_8 11 rfl (by intro H h; first | exact h.1 | exact h.2.1 | exact h.2.2.1 | exact h.2.2.2.1 | exact h.2.2.2.2) rfl ?_
  refine g_iload_n hF dX3_hold_11 12 rfl rfl ?_
  refine g_iload_n hF dX3_hold_12 13 rfl rfl ?_
  refine g_iast hF dX3_hold_13 14 rfl (by intro H h; first | exact h.1 | exact h.2.1 | exact h.2.2.1 | exact h.2.2.2.1 | exact h.2.2.2.2) (hin) (hA _ ⟨by omega, by omega⟩) (Pr' := Gp E a (upd (upd gv (10 + 4 * i) 1) (11 + 4 * i) call) fs) (fun H H' h h1 h2 => by exact Gp.w2 hi h h1 h2) ?_
  refine g_aload_n hF dX3_hold_14 15 rfl rfl ?_
  refine g_get hF fl_X3_18 dX3_hold_15 18 rfl (by intro H h; first | exact h.1 | exact h.2.1 | exact h.2.2.1 | exact h.2.2.2.1 | exact h.2.2.2.2) rfl ?_
  refine g_iload_n hF dX3_hold_18 19 rfl rfl ?_
  refine g_iload_n hF dX3_hold_19 20 rfl rfl ?_
  refine g_iast hF dX3_hold_20 21 rfl (by intro H h; first | exact h.1 | exact h.2.1 | exact h.2.2.1 | exact h.2.2.2.1 | exact h.2.2.2.2) (hin) (hA _ ⟨by omega, by omega⟩) (Pr' := Gp E a (upd (upd (upd gv (10 + 4 * i) 1) (11 + 4 * i) call) (12 + 4 * i) g) fs) (fun H H' h h1 h2 => by exact Gp.w3 hi h h1 h2) ?_
  refine g_aload_n hF dX3_hold_21 22 rfl rfl ?_
  refine g_iload_n hF dX3_hold_22 23 rfl rfl ?_
  refine g_iconst hF (1) dX3_hold_23 24 rfl rfl ?_
  refine g_iadd hF dX3_hold_24 25 rfl ?_
  refine g_put hF pl_X3_55 dX3_hold_25 28 rfl (by intro H h; first | exact h.1 | exact h.2.1 | exact h.2.2.1 | exact h.2.2.2.1 | exact h.2.2.2.2) (Nat.le_of_ble_eq_true rfl) rfl rfl (hA _ ⟨by omega, by omega⟩) (Pr' := Gp E a (gHold gv i call g) fs) (fun H H' h h1 h2 => by exact Gp.wo (by omega) rfl h h1 h2) ?_
  exact g_vret hF dX3_hold_28 (Nat.le_of_ble_eq_true rfl) (Nat.le_of_ble_eq_true rfl) (fun H h => hR _ _ ⟨rfl, h⟩)
set_option maxRecDepth 100000 in
set_option maxHeartbeats 4000000 in
theorem c_G_letGo (l : Launch) (E : Ev) (a : Nat) (gv fs : Nat → Int32) (i : Nat) (b t : Int32) (hi : i < 6) : Ct l E yX3_letGo cX3_letGo 4 none (rm 1) [.ref a, .int (nI i), .int b, .int t] (Gp E a gv fs) (rV none (Gp E a (gLet gv i b) (upd fs i t))) (rg a 5) := by
  refine ct_start (by decide) [some (.ref a), some (.int (nI i)), some (.int b), some (.int t)] rfl (Nat.le_of_ble_eq_true rfl) ?_
  intro x hF hN hA hR
  have hin : vp_in (nI i) 6 := vp_in_nI hi (by omega)
  refine g_aload_n hF dX3_letGo_0 1 rfl rfl ?_
  refine g_get hF fl_X3_9 dX3_letGo_1 4 rfl (by intro H h; first | exact h.1 | exact h.2.1 | exact h.2.2.1 | exact h.2.2.2.1 | exact h.2.2.2.2) rfl ?_
  refine g_iload_n hF dX3_letGo_4 5 rfl rfl ?_
  refine g_iload_n hF dX3_letGo_5 6 rfl rfl ?_
  refine g_iast hF dX3_letGo_6 7 rfl (by intro H h; first | exact h.1 | exact h.2.1 | exact h.2.2.1 | exact h.2.2.2.1 | exact h.2.2.2.2) (hin) (hA _ ⟨by omega, by omega⟩) (Pr' := Gp E a (upd gv (10 + 4 * i) b) fs) (fun H H' h h1 h2 => by exact Gp.w1 hi h h1 h2) ?_
  refine g_aload_n hF dX3_letGo_7 8 rfl rfl ?_
  refine g_get hF fl_X3_15 dX3_letGo_8 11 rfl (by intro H h; first | exact h.1 | exact h.2.1 | exact h.2.2.1 | exact h.2.2.2.1 | exact h.2.2.2.2) rfl ?_
  refine g_iload_n hF dX3_letGo_11 12 rfl rfl ?_
  refine g_iconst hF (-1) dX3_letGo_12 13 rfl rfl ?_
  refine g_iast hF dX3_letGo_13 14 rfl (by intro H h; first | exact h.1 | exact h.2.1 | exact h.2.2.1 | exact h.2.2.2.1 | exact h.2.2.2.2) (hin) (hA _ ⟨by omega, by omega⟩) (Pr' := Gp E a (upd (upd gv (10 + 4 * i) b) (11 + 4 * i) (-1)) fs) (fun H H' h h1 h2 => by exact Gp.w2 hi h h1 h2) ?_
  refine g_aload_n hF dX3_letGo_14 15 rfl rfl ?_
  refine g_get hF fl_X3_18 dX3_letGo_15 18 rfl (by intro H h; first | exact h.1 | exact h.2.1 | exact h.2.2.1 | exact h.2.2.2.1 | exact h.2.2.2.2) rfl ?_
  refine g_iload_n hF dX3_letGo_18 19 rfl rfl ?_
  refine g_iconst hF (-1) dX3_letGo_19 20 rfl rfl ?_
  refine g_iast hF dX3_letGo_20 21 rfl (by intro H h; first | exact h.1 | exact h.2.1 | exact h.2.2.1 | exact h.2.2.2.1 | exact h.2.2.2.2) (hin) (hA _ ⟨by omega, by omega⟩) (Pr' := Gp E a (gLet gv i b) fs) (fun H H' h h1 h2 => by exact Gp.w3 hi h h1 h2) ?_
  refine g_aload_n hF dX3_letGo_21 22 rfl rfl ?_
  refine g_get hF fl_X3_21 dX3_letGo_22 25 rfl (by intro H h; first | exact h.1 | exact h.2.1 | exact h.2.2.1 | exact h.2.2.2.1 | exact h.2.2.2.2) rfl ?_
  refine g_iload_n hF dX3_letGo_25 26 rfl rfl ?_
  refine g_iload_n hF dX3_letGo_26 27 rfl rfl ?_
  refine g_iast hF dX3_letGo_27 28 rfl (by intro H h; first | exact h.1 | exact h.2.1 | exact h.2.2.1 | exact h.2.2.2.1 | exact h.2.2.2.2) (hin) (hA _ ⟨by omega, by omega⟩) (Pr' := Gp E a (gLet gv i b) (upd fs i t)) (fun H H' h h1 h2 => by exact Gp.w4 hi h h1 h2) ?_
  exact g_vret hF dX3_letGo_28 (Nat.le_of_ble_eq_true rfl) (Nat.le_of_ble_eq_true rfl) (fun H h => hR _ _ ⟨rfl, h⟩)
/-- all lines free, as at the beginning -/
def gFree (gv : Nat → Int32) : Nat → Int32 := fun w => if w = 5 then -1 else if w < 10 then gv w else if (w - 10) % 4 = 0 then 0 else -1
theorem gFree_ok (gv : Nat → Int32) {w : Nat} (hw : w < 10 ∨ (w - 10) % 4 < 3) : gset 2 (-1) (gset 1 (-1) (gset 0 0 (upd gv 5 (-1)))) w = gFree gv w := by
  unfold gset gFree upd
  by_cases h5 : w = 5
  · subst h5; simp
  · by_cases h10 : w < 10
    · have : ¬ 10 ≤ w := by omega
      simp [h5, h10, this]
    · have h11 : 10 ≤ w := by omega
      rcases (show (w - 10) % 4 = 0 ∨ (w - 10) % 4 = 1 ∨ (w - 10) % 4 = 2 by omega) with h | h | h <;> simp [h5, h10, h11, h]
theorem gFree_hi {gv gv' : Nat → Int32} {w : Nat} (hw : 10 ≤ w) : gFree gv w = gFree gv' w := by
  have h5 : ¬ w = 5 := by omega
  have h6 : ¬ w < 10 := by omega
  simp only [gFree, h5, h6, if_false]
set_option maxRecDepth 100000 in
set_option maxHeartbeats 4000000 in
theorem c_G_freeAllLines (l : Launch) (E : Ev) (a : Nat) (gv fs : Nat → Int32) : Ct l E yX3_freeAllLines cX3_freeAllLines 1 none (rm 2) [.ref a] (Gp E a gv fs) (rV none (Gp E a (gFree gv) (fun _ => 0))) (rg a 5) := by
  refine ct_start (by decide) [some (.ref a)] rfl (Nat.le_of_ble_eq_true rfl) ?_
  intro x hF hN hA hR
  refine g_aload_n hF dX3_freeAllLines_0 1 rfl rfl ?_
  refine g_iconst hF (0) dX3_freeAllLines_1 2 rfl rfl ?_
  refine g_put hF pl_X3_55 dX3_freeAllLines_2 5 rfl (by intro H h; first | exact h.1 | exact h.2.1 | exact h.2.2.1 | exact h.2.2.2.1 | exact h.2.2.2.2) (Nat.le_of_ble_eq_true rfl) rfl rfl (hA _ ⟨by omega, by omega⟩) (Pr' := Gp E a (upd gv 5 (-1)) fs) (fun H H' h h1 h2 => by exact Gp.ring0 h h1 h2) ?_
  refine g_aload_n hF dX3_freeAllLines_5 6 rfl rfl ?_
  refine g_get hF fl_X3_9 dX3_freeAllLines_6 9 rfl (by intro H h; first | exact h.1 | exact h.2.1 | exact h.2.2.1 | exact h.2.2.2.1 | exact h.2.2.2.2) rfl ?_
  refine g_iconst hF (0) dX3_freeAllLines_9 10 rfl rfl ?_
  refine g_callS hF cs_X3_58 (c_fill l E (a + 1) 6 _ 0 (by decide)) dX3_freeAllLines_10 13 rfl (st := []) rfl rfl ⟨Nat.le_of_ble_eq_true rfl, Nat.le_of_ble_eq_true rfl⟩ ⟨Nat.le_of_ble_eq_true rfl, Nat.le_of_ble_eq_true rfl⟩ rfl (Nat.le_of_ble_eq_true rfl) (Pr' := Gp E a (gset 0 0 (upd gv 5 (-1))) fs) (fun H h => h.2.1) (fun q hq => hA q (by subst hq; exact ⟨by omega, by omega⟩)) (fun H H' h h1 h2 => by exact Gp.f1 h h1 h2) (st1 := []) rfl (k1 := 0) (n1 := 0) rfl rfl ?_
  refine g_aload_n hF dX3_freeAllLines_13 14 rfl rfl ?_
  refine g_get hF fl_X3_15 dX3_freeAllLines_14 17 rfl (by intro H h; first | exact h.1 | exact h.2.1 | exact h.2.2.1 | exact h.2.2.2.1 | exact h.2.2.2.2) rfl ?_
  refine g_iconst hF (-1) dX3_freeAllLines_17 18 rfl rfl ?_
  refine g_callS hF cs_X3_58 (c_fill l E (a + 2) 6 _ (-1) (by decide)) dX3_freeAllLines_18 21 rfl (st := []) rfl rfl ⟨Nat.le_of_ble_eq_true rfl, Nat.le_of_ble_eq_true rfl⟩ ⟨Nat.le_of_ble_eq_true rfl, Nat.le_of_ble_eq_true rfl⟩ rfl (Nat.le_of_ble_eq_true rfl) (Pr' := Gp E a (gset 1 (-1) (gset 0 0 (upd gv 5 (-1)))) fs) (fun H h => h.2.2.1) (fun q hq => hA q (by subst hq; exact ⟨by omega, by omega⟩)) (fun H H' h h1 h2 => by exact Gp.f2 h h1 h2) (st1 := []) rfl (k1 := 0) (n1 := 0) rfl rfl ?_
  refine g_aload_n hF dX3_freeAllLines_21 22 rfl rfl ?_
  refine g_get hF fl_X3_18 dX3_freeAllLines_22 25 rfl (by intro H h; first | exact h.1 | exact h.2.1 | exact h.2.2.1 | exact h.2.2.2.1 | exact h.2.2.2.2) rfl ?_
  refine g_iconst hF (-1) dX3_freeAllLines_25 26 rfl rfl ?_
  refine g_callS hF cs_X3_58 (c_fill l E (a + 3) 6 _ (-1) (by decide)) dX3_freeAllLines_26 29 rfl (st := []) rfl rfl ⟨Nat.le_of_ble_eq_true rfl, Nat.le_of_ble_eq_true rfl⟩ ⟨Nat.le_of_ble_eq_true rfl, Nat.le_of_ble_eq_true rfl⟩ rfl (Nat.le_of_ble_eq_true rfl) (Pr' := Gp E a (gset 2 (-1) (gset 1 (-1) (gset 0 0 (upd gv 5 (-1))))) fs) (fun H h => h.2.2.2.1) (fun q hq => hA q (by subst hq; exact ⟨by omega, by omega⟩)) (fun H H' h h1 h2 => by exact Gp.f3 h h1 h2) (st1 := []) rfl (k1 := 0) (n1 := 0) rfl rfl ?_
  refine g_aload_n hF dX3_freeAllLines_29 30 rfl rfl ?_
  refine g_get hF fl_X3_21 dX3_freeAllLines_30 33 rfl (by intro H h; first | exact h.1 | exact h.2.1 | exact h.2.2.1 | exact h.2.2.2.1 | exact h.2.2.2.2) rfl ?_
  refine g_iconst hF (0) dX3_freeAllLines_33 34 rfl rfl ?_
  refine g_callS hF cs_X3_58 (c_fill l E (a + 4) 6 _ 0 (by decide)) dX3_freeAllLines_34 37 rfl (st := []) rfl rfl ⟨Nat.le_of_ble_eq_true rfl, Nat.le_of_ble_eq_true rfl⟩ ⟨Nat.le_of_ble_eq_true rfl, Nat.le_of_ble_eq_true rfl⟩ rfl (Nat.le_of_ble_eq_true rfl) (Pr' := Gp E a (gset 2 (-1) (gset 1 (-1) (gset 0 0 (upd gv 5 (-1))))) (fun _ => 0)) (fun H h => h.2.2.2.2) (fun q hq => hA q (by subst hq; exact ⟨by omega, by omega⟩)) (fun H H' h h1 h2 => by exact Gp.f4 h h1 h2) (st1 := []) rfl (k1 := 0) (n1 := 0) rfl rfl ?_
  exact g_vret hF dX3_freeAllLines_37 (Nat.le_of_ble_eq_true rfl) (Nat.le_of_ble_eq_true rfl) (fun H h => hR _ _ ⟨rfl, Gp.to h (fun w hw => gFree_ok gv (Or.inl hw)) (fun l hl => ⟨gFree_ok gv (by omega), gFree_ok gv (by omega), gFree_ok gv (by omega)⟩)⟩)
/-- a group as at first -/
def g0 : Nat → Int32 := gFree (fun w => if w = 0 then 3 else if w = 1 then 2 else if w = 3 then -1 else 0)
set_option maxRecDepth 100000 in
set_option maxHeartbeats 4000000 in
theorem c_G_begin (l : Launch) (E : Ev) (a : Nat) (gv fs : Nat → Int32) : Ct l E yX3_begin cX3_begin 1 none (rm 3) [.ref a] (Gp E a gv fs) (rV none (Gp E a g0 (fun _ => 0))) (rg a 5) := by
  refine ct_start (by decide) [some (.ref a)] rfl (Nat.le_of_ble_eq_true rfl) ?_
  intro x hF hN hA hR
  refine g_aload_n hF dX3_begin_0 1 rfl rfl ?_
  refine g_iconst hF (3) dX3_begin_1 2 rfl rfl ?_
  refine g_put hF pl_X3_24 dX3_begin_2 5 rfl (by intro H h; first | exact h.1 | exact h.2.1 | exact h.2.2.1 | exact h.2.2.2.1 | exact h.2.2.2.2) (Nat.le_of_ble_eq_true rfl) rfl rfl (hA _ ⟨by omega, by omega⟩) (Pr' := Gp E a (upd gv 0 3) fs) (fun H H' h h1 h2 => by exact Gp.wo (by omega) rfl h h1 h2) ?_
  refine g_aload_n hF dX3_begin_5 6 rfl rfl ?_
  refine g_iconst hF (2) dX3_begin_6 7 rfl rfl ?_
  refine g_put hF pl_X3_28 dX3_begin_7 10 rfl (by intro H h; first | exact h.1 | exact h.2.1 | exact h.2.2.1 | exact h.2.2.2.1 | exact h.2.2.2.2) (Nat.le_of_ble_eq_true rfl) rfl rfl (hA _ ⟨by omega, by omega⟩) (Pr' := Gp E a (upd (upd gv 0 3) 1 2) fs) (fun H H' h h1 h2 => by exact Gp.wo (by omega) rfl h h1 h2) ?_
  refine g_aload_n hF dX3_begin_10 11 rfl rfl ?_
  refine g_iconst hF (0) dX3_begin_11 12 rfl rfl ?_
  refine g_put hF pl_X3_31 dX3_begin_12 15 rfl (by intro H h; first | exact h.1 | exact h.2.1 | exact h.2.2.1 | exact h.2.2.2.1 | exact h.2.2.2.2) (Nat.le_of_ble_eq_true rfl) rfl rfl (hA _ ⟨by omega, by omega⟩) (Pr' := Gp E a (upd (upd (upd gv 0 3) 1 2) 2 0) fs) (fun H H' h h1 h2 => by exact Gp.wo (by omega) rfl h h1 h2) ?_
  refine g_aload_n hF dX3_begin_15 16 rfl rfl ?_
  refine g_iconst hF (-1) dX3_begin_16 17 rfl rfl ?_
  refine g_put hF pl_X3_34 dX3_begin_17 20 rfl (by intro H h; first | exact h.1 | exact h.2.1 | exact h.2.2.1 | exact h.2.2.2.1 | exact h.2.2.2.2) (Nat.le_of_ble_eq_true rfl) rfl rfl (hA _ ⟨by omega, by omega⟩) (Pr' := Gp E a (upd (upd (upd (upd gv 0 3) 1 2) 2 0) 3 (-1)) fs) (fun H H' h h1 h2 => by exact Gp.wo (by omega) rfl h h1 h2) ?_
  refine g_aload_n hF dX3_begin_20 21 rfl rfl ?_
  refine g_iconst hF (0) dX3_begin_21 22 rfl rfl ?_
  refine g_put hF pl_X3_37 dX3_begin_22 25 rfl (by intro H h; first | exact h.1 | exact h.2.1 | exact h.2.2.1 | exact h.2.2.2.1 | exact h.2.2.2.2) (Nat.le_of_ble_eq_true rfl) rfl rfl (hA _ ⟨by omega, by omega⟩) (Pr' := Gp E a (upd (upd (upd (upd (upd gv 0 3) 1 2) 2 0) 3 (-1)) 4 0) fs) (fun H H' h h1 h2 => by exact Gp.wo (by omega) rfl h h1 h2) ?_
  refine g_aload_n hF dX3_begin_25 26 rfl rfl ?_
  refine g_iconst hF (0) dX3_begin_26 27 rfl rfl ?_
  refine g_put hF pl_X3_40 dX3_begin_27 30 rfl (by intro H h; first | exact h.1 | exact h.2.1 | exact h.2.2.1 | exact h.2.2.2.1 | exact h.2.2.2.2) (Nat.le_of_ble_eq_true rfl) rfl rfl (hA _ ⟨by omega, by omega⟩) (Pr' := Gp E a (upd (upd (upd (upd (upd (upd gv 0 3) 1 2) 2 0) 3 (-1)) 4 0) 6 0) fs) (fun H H' h h1 h2 => by exact Gp.wo (by omega) rfl h h1 h2) ?_
  refine g_aload_n hF dX3_begin_30 31 rfl rfl ?_
  refine g_iconst hF (0) dX3_begin_31 32 rfl rfl ?_
  refine g_put hF pl_X3_43 dX3_begin_32 35 rfl (by intro H h; first | exact h.1 | exact h.2.1 | exact h.2.2.1 | exact h.2.2.2.1 | exact h.2.2.2.2) (Nat.le_of_ble_eq_true rfl) rfl rfl (hA _ ⟨by omega, by omega⟩) (Pr' := Gp E a (upd (upd (upd (upd (upd (upd (upd gv 0 3) 1 2) 2 0) 3 (-1)) 4 0) 6 0) 7 0) fs) (fun H H' h h1 h2 => by exact Gp.wo (by omega) rfl h h1 h2) ?_
  refine g_aload_n hF dX3_begin_35 36 rfl rfl ?_
  refine g_iconst hF (0) dX3_begin_36 37 rfl rfl ?_
  refine g_put hF pl_X3_46 dX3_begin_37 40 rfl (by intro H h; first | exact h.1 | exact h.2.1 | exact h.2.2.1 | exact h.2.2.2.1 | exact h.2.2.2.2) (Nat.le_of_ble_eq_true rfl) rfl rfl (hA _ ⟨by omega, by omega⟩) (Pr' := Gp E a (upd (upd (upd (upd (upd (upd (upd (upd gv 0 3) 1 2) 2 0) 3 (-1)) 4 0) 6 0) 7 0) 8 0) fs) (fun H H' h h1 h2 => by exact Gp.wo (by omega) rfl h h1 h2) ?_
  refine g_aload_n hF dX3_begin_40 41 rfl rfl ?_
  refine g_iconst hF (0) dX3_begin_41 42 rfl rfl ?_
  refine g_put hF pl_X3_49 dX3_begin_42 45 rfl (by intro H h; first | exact h.1 | exact h.2.1 | exact h.2.2.1 | exact h.2.2.2.1 | exact h.2.2.2.2) (Nat.le_of_ble_eq_true rfl) rfl rfl (hA _ ⟨by omega, by omega⟩) (Pr' := Gp E a (upd (upd (upd (upd (upd (upd (upd (upd (upd gv 0 3) 1 2) 2 0) 3 (-1)) 4 0) 6 0) 7 0) 8 0) 9 0) fs) (fun H H' h h1 h2 => by exact Gp.wo (by omega) rfl h h1 h2) ?_
  refine g_aload_n hF dX3_begin_45 46 rfl rfl ?_
  refine g_callV hF cv_X3_52 (c_G_freeAllLines l E a _ fs) dX3_begin_46 49 rfl (st := []) rfl rfl ⟨Nat.le_of_ble_eq_true rfl, Nat.le_of_ble_eq_true rfl⟩ ⟨Nat.le_of_ble_eq_true rfl, Nat.le_of_ble_eq_true rfl⟩ rfl (Nat.le_of_ble_eq_true rfl) 3 rfl (by intro H h; first | exact h.1 | exact h.2.1 | exact h.2.2.1 | exact h.2.2.2.1 | exact h.2.2.2.2) (Pr' := _) (fun _ h => h) (hA) (fun _ _ _ h _ => by exact h) (st1 := []) rfl (k1 := 0) (n1 := 0) rfl rfl ?_
  exact g_vret hF dX3_begin_49 (Nat.le_of_ble_eq_true rfl) (Nat.le_of_ble_eq_true rfl) (fun H h => hR _ _ ⟨rfl, Gp.to h (fun w hw => by rcases (show w = 0 ∨ w = 1 ∨ w = 2 ∨ w = 3 ∨ w = 4 ∨ w = 5 ∨ w = 6 ∨ w = 7 ∨ w = 8 ∨ w = 9 by omega) with rfl | rfl | rfl | rfl | rfl | rfl | rfl | rfl | rfl | rfl <;> rfl) (fun l hl => ⟨gFree_hi (by omega), gFree_hi (by omega), gFree_hi (by omega)⟩)⟩)
set_option maxRecDepth 100000 in
set_option maxHeartbeats 4000000 in
theorem c_G_copyFrom (l : Launch) (E : Ev) (a b : Nat) (gv fs ov os : Nat → Int32) (hd : a + 5 ≤ b ∨ b + 5 ≤ a) : Ct l E yX3_copyFrom cX3_copyFrom 2 none (rm 2) [.ref a, .ref b] (fun H => Gp E a gv fs H ∧ Gp E b ov os H) (rV none (fun H => Gp E a ov os H ∧ Gp E b ov os H)) (rg a 5) := by
  refine ct_start (by decide) [some (.ref a), some (.ref b)] rfl (Nat.le_of_ble_eq_true rfl) ?_
  intro x hF hN hA hR
  have kb : ∀ {q : Nat} {H H' : Heap}, rg a 5 q → but q H H' → Gp E b ov os H → Gp E b ov os H' := fun {q H H'} hq h2 h => h.kept (fun z hz => h2.2 z (by have := hz.1; have := hz.2; have := hq.1; have := hq.2; omega))
  refine g_aload_n hF dX3_copyFrom_0 1 rfl rfl ?_
  refine g_aload_n hF dX3_copyFrom_1 2 rfl rfl ?_
  refine g_get hF fl_X3_24 dX3_copyFrom_2 5 rfl (by intro H h; first | exact h.1.1 | exact h.2.1) rfl ?_
  refine g_put hF pl_X3_24 dX3_copyFrom_5 8 rfl (by intro H h; first | exact h.1.1 | exact h.2.1) (Nat.le_of_ble_eq_true rfl) rfl rfl (hA _ ⟨by omega, by omega⟩) (Pr' := fun H => Gp E a (upd gv 0 (ov 0)) fs H ∧ Gp E b ov os H) (fun H H' h h1 h2 => by exact ⟨Gp.wo (by omega) rfl h.1 h1 h2, kb ⟨by omega, by omega⟩ h2 h.2⟩) ?_
  refine g_aload_n hF dX3_copyFrom_8 9 rfl rfl ?_
  refine g_aload_n hF dX3_copyFrom_9 10 rfl rfl ?_
  refine g_get hF fl_X3_28 dX3_copyFrom_10 13 rfl (by intro H h; first | exact h.1.1 | exact h.2.1) rfl ?_
  refine g_put hF pl_X3_28 dX3_copyFrom_13 16 rfl (by intro H h; first | exact h.1.1 | exact h.2.1) (Nat.le_of_ble_eq_true rfl) rfl rfl (hA _ ⟨by omega, by omega⟩) (Pr' := fun H => Gp E a (upd (upd gv 0 (ov 0)) 1 (ov 1)) fs H ∧ Gp E b ov os H) (fun H H' h h1 h2 => by exact ⟨Gp.wo (by omega) rfl h.1 h1 h2, kb ⟨by omega, by omega⟩ h2 h.2⟩) ?_
  refine g_aload_n hF dX3_copyFrom_16 17 rfl rfl ?_
  refine g_aload_n hF dX3_copyFrom_17 18 rfl rfl ?_
  refine g_get hF fl_X3_31 dX3_copyFrom_18 21 rfl (by intro H h; first | exact h.1.1 | exact h.2.1) rfl ?_
  refine g_put hF pl_X3_31 dX3_copyFrom_21 24 rfl (by intro H h; first | exact h.1.1 | exact h.2.1) (Nat.le_of_ble_eq_true rfl) rfl rfl (hA _ ⟨by omega, by omega⟩) (Pr' := fun H => Gp E a (upd (upd (upd gv 0 (ov 0)) 1 (ov 1)) 2 (ov 2)) fs H ∧ Gp E b ov os H) (fun H H' h h1 h2 => by exact ⟨Gp.wo (by omega) rfl h.1 h1 h2, kb ⟨by omega, by omega⟩ h2 h.2⟩) ?_
  refine g_aload_n hF dX3_copyFrom_24 25 rfl rfl ?_
  refine g_aload_n hF dX3_copyFrom_25 26 rfl rfl ?_
  refine g_get hF fl_X3_34 dX3_copyFrom_26 29 rfl (by intro H h; first | exact h.1.1 | exact h.2.1) rfl ?_
  refine g_put hF pl_X3_34 dX3_copyFrom_29 32 rfl (by intro H h; first | exact h.1.1 | exact h.2.1) (Nat.le_of_ble_eq_true rfl) rfl rfl (hA _ ⟨by omega, by omega⟩) (Pr' := fun H => Gp E a (upd (upd (upd (upd gv 0 (ov 0)) 1 (ov 1)) 2 (ov 2)) 3 (ov 3)) fs H ∧ Gp E b ov os H) (fun H H' h h1 h2 => by exact ⟨Gp.wo (by omega) rfl h.1 h1 h2, kb ⟨by omega, by omega⟩ h2 h.2⟩) ?_
  refine g_aload_n hF dX3_copyFrom_32 33 rfl rfl ?_
  refine g_aload_n hF dX3_copyFrom_33 34 rfl rfl ?_
  refine g_get hF fl_X3_37 dX3_copyFrom_34 37 rfl (by intro H h; first | exact h.1.1 | exact h.2.1) rfl ?_
  refine g_put hF pl_X3_37 dX3_copyFrom_37 40 rfl (by intro H h; first | exact h.1.1 | exact h.2.1) (Nat.le_of_ble_eq_true rfl) rfl rfl (hA _ ⟨by omega, by omega⟩) (Pr' := fun H => Gp E a (upd (upd (upd (upd (upd gv 0 (ov 0)) 1 (ov 1)) 2 (ov 2)) 3 (ov 3)) 4 (ov 4)) fs H ∧ Gp E b ov os H) (fun H H' h h1 h2 => by exact ⟨Gp.wo (by omega) rfl h.1 h1 h2, kb ⟨by omega, by omega⟩ h2 h.2⟩) ?_
  refine g_aload_n hF dX3_copyFrom_40 41 rfl rfl ?_
  refine g_aload_n hF dX3_copyFrom_41 42 rfl rfl ?_
  refine g_get hF fl_X3_40 dX3_copyFrom_42 45 rfl (by intro H h; first | exact h.1.1 | exact h.2.1) rfl ?_
  refine g_put hF pl_X3_40 dX3_copyFrom_45 48 rfl (by intro H h; first | exact h.1.1 | exact h.2.1) (Nat.le_of_ble_eq_true rfl) rfl rfl (hA _ ⟨by omega, by omega⟩) (Pr' := fun H => Gp E a (upd (upd (upd (upd (upd (upd gv 0 (ov 0)) 1 (ov 1)) 2 (ov 2)) 3 (ov 3)) 4 (ov 4)) 6 (ov 6)) fs H ∧ Gp E b ov os H) (fun H H' h h1 h2 => by exact ⟨Gp.wo (by omega) rfl h.1 h1 h2, kb ⟨by omega, by omega⟩ h2 h.2⟩) ?_
  refine g_aload_n hF dX3_copyFrom_48 49 rfl rfl ?_
  refine g_aload_n hF dX3_copyFrom_49 50 rfl rfl ?_
  refine g_get hF fl_X3_43 dX3_copyFrom_50 53 rfl (by intro H h; first | exact h.1.1 | exact h.2.1) rfl ?_
  refine g_put hF pl_X3_43 dX3_copyFrom_53 56 rfl (by intro H h; first | exact h.1.1 | exact h.2.1) (Nat.le_of_ble_eq_true rfl) rfl rfl (hA _ ⟨by omega, by omega⟩) (Pr' := fun H => Gp E a (upd (upd (upd (upd (upd (upd (upd gv 0 (ov 0)) 1 (ov 1)) 2 (ov 2)) 3 (ov 3)) 4 (ov 4)) 6 (ov 6)) 7 (ov 7)) fs H ∧ Gp E b ov os H) (fun H H' h h1 h2 => by exact ⟨Gp.wo (by omega) rfl h.1 h1 h2, kb ⟨by omega, by omega⟩ h2 h.2⟩) ?_
  refine g_aload_n hF dX3_copyFrom_56 57 rfl rfl ?_
  refine g_aload_n hF dX3_copyFrom_57 58 rfl rfl ?_
  refine g_get hF fl_X3_46 dX3_copyFrom_58 61 rfl (by intro H h; first | exact h.1.1 | exact h.2.1) rfl ?_
  refine g_put hF pl_X3_46 dX3_copyFrom_61 64 rfl (by intro H h; first | exact h.1.1 | exact h.2.1) (Nat.le_of_ble_eq_true rfl) rfl rfl (hA _ ⟨by omega, by omega⟩) (Pr' := fun H => Gp E a (upd (upd (upd (upd (upd (upd (upd (upd gv 0 (ov 0)) 1 (ov 1)) 2 (ov 2)) 3 (ov 3)) 4 (ov 4)) 6 (ov 6)) 7 (ov 7)) 8 (ov 8)) fs H ∧ Gp E b ov os H) (fun H H' h h1 h2 => by exact ⟨Gp.wo (by omega) rfl h.1 h1 h2, kb ⟨by omega, by omega⟩ h2 h.2⟩) ?_
  refine g_aload_n hF dX3_copyFrom_64 65 rfl rfl ?_
  refine g_aload_n hF dX3_copyFrom_65 66 rfl rfl ?_
  refine g_get hF fl_X3_49 dX3_copyFrom_66 69 rfl (by intro H h; first | exact h.1.1 | exact h.2.1) rfl ?_
  refine g_put hF pl_X3_49 dX3_copyFrom_69 72 rfl (by intro H h; first | exact h.1.1 | exact h.2.1) (Nat.le_of_ble_eq_true rfl) rfl rfl (hA _ ⟨by omega, by omega⟩) (Pr' := fun H => Gp E a (upd (upd (upd (upd (upd (upd (upd (upd (upd gv 0 (ov 0)) 1 (ov 1)) 2 (ov 2)) 3 (ov 3)) 4 (ov 4)) 6 (ov 6)) 7 (ov 7)) 8 (ov 8)) 9 (ov 9)) fs H ∧ Gp E b ov os H) (fun H H' h h1 h2 => by exact ⟨Gp.wo (by omega) rfl h.1 h1 h2, kb ⟨by omega, by omega⟩ h2 h.2⟩) ?_
  refine g_aload_n hF dX3_copyFrom_72 73 rfl rfl ?_
  refine g_aload_n hF dX3_copyFrom_73 74 rfl rfl ?_
  refine g_get hF fl_X3_55 dX3_copyFrom_74 77 rfl (by intro H h; first | exact h.1.1 | exact h.2.1) rfl ?_
  refine g_put hF pl_X3_55 dX3_copyFrom_77 80 rfl (by intro H h; first | exact h.1.1 | exact h.2.1) (Nat.le_of_ble_eq_true rfl) rfl rfl (hA _ ⟨by omega, by omega⟩) (Pr' := fun H => Gp E a (upd (upd (upd (upd (upd (upd (upd (upd (upd (upd gv 0 (ov 0)) 1 (ov 1)) 2 (ov 2)) 3 (ov 3)) 4 (ov 4)) 6 (ov 6)) 7 (ov 7)) 8 (ov 8)) 9 (ov 9)) 5 (ov 5)) fs H ∧ Gp E b ov os H) (fun H H' h h1 h2 => by exact ⟨Gp.wo (by omega) rfl h.1 h1 h2, kb ⟨by omega, by omega⟩ h2 h.2⟩) ?_
  refine g_aload_n hF dX3_copyFrom_80 81 rfl rfl ?_
  refine g_get hF fl_X3_9 dX3_copyFrom_81 84 rfl (by intro H h; first | exact h.1.1 | exact h.2.1) rfl ?_
  refine g_iconst hF (0) dX3_copyFrom_84 85 rfl rfl ?_
  refine g_aload_n hF dX3_copyFrom_85 86 rfl rfl ?_
  refine g_get hF fl_X3_9 dX3_copyFrom_86 89 rfl (by intro H h; first | exact h.1.1 | exact h.2.1) rfl ?_
  refine g_iconst hF (0) dX3_copyFrom_89 90 rfl rfl ?_
  refine g_bipush hF (6) dX3_copyFrom_90 92 rfl rfl ?_
  refine g_copy6 hF dX3_copyFrom_92 95 rfl (fun H h => h.2.2.1) (fun H h => h.1.2.1) (hA _ ⟨by omega, by omega⟩) (Nat.le_of_ble_eq_true rfl) (Nat.le_of_ble_eq_true rfl) rfl (Pr' := fun H => Gp E a (gcp 0 ov (upd (upd (upd (upd (upd (upd (upd (upd (upd (upd gv 0 (ov 0)) 1 (ov 1)) 2 (ov 2)) 3 (ov 3)) 4 (ov 4)) 6 (ov 6)) 7 (ov 7)) 8 (ov 8)) 9 (ov 9)) 5 (ov 5))) fs H ∧ Gp E b ov os H) (fun H H' h h1 h2 => by exact ⟨Gp.c1 h.1 h1 h2, kb ⟨by omega, by omega⟩ h2 h.2⟩) ?_
  refine g_aload_n hF dX3_copyFrom_95 96 rfl rfl ?_
  refine g_get hF fl_X3_15 dX3_copyFrom_96 99 rfl (by intro H h; first | exact h.1.1 | exact h.2.1) rfl ?_
  refine g_iconst hF (0) dX3_copyFrom_99 100 rfl rfl ?_
  refine g_aload_n hF dX3_copyFrom_100 101 rfl rfl ?_
  refine g_get hF fl_X3_15 dX3_copyFrom_101 104 rfl (by intro H h; first | exact h.1.1 | exact h.2.1) rfl ?_
  refine g_iconst hF (0) dX3_copyFrom_104 105 rfl rfl ?_
  refine g_bipush hF (6) dX3_copyFrom_105 107 rfl rfl ?_
  refine g_copy6 hF dX3_copyFrom_107 110 rfl (fun H h => h.2.2.2.1) (fun H h => h.1.2.2.1) (hA _ ⟨by omega, by omega⟩) (Nat.le_of_ble_eq_true rfl) (Nat.le_of_ble_eq_true rfl) rfl (Pr' := fun H => Gp E a (gcp 1 ov (gcp 0 ov (upd (upd (upd (upd (upd (upd (upd (upd (upd (upd gv 0 (ov 0)) 1 (ov 1)) 2 (ov 2)) 3 (ov 3)) 4 (ov 4)) 6 (ov 6)) 7 (ov 7)) 8 (ov 8)) 9 (ov 9)) 5 (ov 5)))) fs H ∧ Gp E b ov os H) (fun H H' h h1 h2 => by exact ⟨Gp.c2 h.1 h1 h2, kb ⟨by omega, by omega⟩ h2 h.2⟩) ?_
  refine g_aload_n hF dX3_copyFrom_110 111 rfl rfl ?_
  refine g_get hF fl_X3_18 dX3_copyFrom_111 114 rfl (by intro H h; first | exact h.1.1 | exact h.2.1) rfl ?_
  refine g_iconst hF (0) dX3_copyFrom_114 115 rfl rfl ?_
  refine g_aload_n hF dX3_copyFrom_115 116 rfl rfl ?_
  refine g_get hF fl_X3_18 dX3_copyFrom_116 119 rfl (by intro H h; first | exact h.1.1 | exact h.2.1) rfl ?_
  refine g_iconst hF (0) dX3_copyFrom_119 120 rfl rfl ?_
  refine g_bipush hF (6) dX3_copyFrom_120 122 rfl rfl ?_
  refine g_copy6 hF dX3_copyFrom_122 125 rfl (fun H h => h.2.2.2.2.1) (fun H h => h.1.2.2.2.1) (hA _ ⟨by omega, by omega⟩) (Nat.le_of_ble_eq_true rfl) (Nat.le_of_ble_eq_true rfl) rfl (Pr' := fun H => Gp E a (gcp 2 ov (gcp 1 ov (gcp 0 ov (upd (upd (upd (upd (upd (upd (upd (upd (upd (upd gv 0 (ov 0)) 1 (ov 1)) 2 (ov 2)) 3 (ov 3)) 4 (ov 4)) 6 (ov 6)) 7 (ov 7)) 8 (ov 8)) 9 (ov 9)) 5 (ov 5))))) fs H ∧ Gp E b ov os H) (fun H H' h h1 h2 => by exact ⟨Gp.c3 h.1 h1 h2, kb ⟨by omega, by omega⟩ h2 h.2⟩) ?_
  refine g_aload_n hF dX3_copyFrom_125 126 rfl rfl ?_
  refine g_get hF fl_X3_21 dX3_copyFrom_126 129 rfl (by intro H h; first | exact h.1.1 | exact h.2.1) rfl ?_
  refine g_iconst hF (0) dX3_copyFrom_129 130 rfl rfl ?_
  refine g_aload_n hF dX3_copyFrom_130 131 rfl rfl ?_
  refine g_get hF fl_X3_21 dX3_copyFrom_131 134 rfl (by intro H h; first | exact h.1.1 | exact h.2.1) rfl ?_
  refine g_iconst hF (0) dX3_copyFrom_134 135 rfl rfl ?_
  refine g_bipush hF (6) dX3_copyFrom_135 137 rfl rfl ?_
  refine g_copy6 hF dX3_copyFrom_137 140 rfl (fun H h => h.2.2.2.2.2) (fun H h => h.1.2.2.2.2) (hA _ ⟨by omega, by omega⟩) (Nat.le_of_ble_eq_true rfl) (Nat.le_of_ble_eq_true rfl) rfl (Pr' := fun H => Gp E a (gcp 2 ov (gcp 1 ov (gcp 0 ov (upd (upd (upd (upd (upd (upd (upd (upd (upd (upd gv 0 (ov 0)) 1 (ov 1)) 2 (ov 2)) 3 (ov 3)) 4 (ov 4)) 6 (ov 6)) 7 (ov 7)) 8 (ov 8)) 9 (ov 9)) 5 (ov 5))))) os H ∧ Gp E b ov os H) (fun H H' h h1 h2 => by exact ⟨Gp.c4 h.1 h1 h2, kb ⟨by omega, by omega⟩ h2 h.2⟩) ?_
  exact g_vret hF dX3_copyFrom_140 (Nat.le_of_ble_eq_true rfl) (Nat.le_of_ble_eq_true rfl) (fun H h => hR _ _ ⟨rfl, ⟨Gp.to h.1 (fun w hw => by rcases (show w = 0 ∨ w = 1 ∨ w = 2 ∨ w = 3 ∨ w = 4 ∨ w = 5 ∨ w = 6 ∨ w = 7 ∨ w = 8 ∨ w = 9 by omega) with rfl | rfl | rfl | rfl | rfl | rfl | rfl | rfl | rfl | rfl <;> rfl) (fun l hl => ⟨(gcp_ne (by omega)).trans ((gcp_ne (by omega)).trans (gcp_at (by omega) (by omega))), (gcp_ne (by omega)).trans (gcp_at (by omega) (by omega)), gcp_at (by omega) (by omega)⟩), h.2⟩⟩)
