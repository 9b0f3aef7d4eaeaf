/-! Together: all groups at once -/
def nN (gv : Nat → Int32) : Nat := (gv 0).toNatClampNeg
def nA (gv : Nat → Int32) : Nat := (gv 1).toNatClampNeg
def nR (gv : Nat → Int32) : Nat := (gv 2).toNatClampNeg
/-- P of a group with so much over, in thousandths -/
def pPn (N A R b : Nat) : Nat := 1000 * wt 1000000 1000 N A R b N / sW (wt 1000000 1000 N A R b) (N + 1)
def pP (gv : Nat → Int32) (b : Nat) : Nat := pPn (nN gv) (nA gv) (nR gv) b
/-- what the first k groups send over h -/
def sn (gs : Nat → Nat → Int32) (ls : Nat → Nat) : Nat → Nat → Nat
  | 0, _ => 0
  | k + 1, h => sn gs ls k h + if gs k 3 = nI h then nA (gs k) * ls k else 0
/-- B round by round -/
def Bt (gs : Nat → Nat → Int32) (G : Nat) : Nat → Nat → Nat
  | 0, _ => 0
  | t + 1, h => sn gs (fun g => pP (gs g) (Bt gs G t g)) G h
def stl (gs : Nat → Nat → Int32) (G : Nat) : Nat → Nat → Nat
  | 0, t => t
  | d + 1, t => if ∀ g, g < 4 → Bt gs G (t + 1) g = Bt gs G t g then t + 1 else stl gs G d (t + 1)
theorem sW_ge (w : Nat → Nat) : ∀ k j, j < k → w j ≤ sW w k
  | k + 1, j, h => by
    unfold sW
    by_cases e : j = k
    · subst e; omega
    · have := sW_ge w k j (by omega)
      omega
theorem pPn_le (N A R b : Nat) : pPn N A R b ≤ 1000 := by
  unfold pPn
  have h := sW_ge (wt 1000000 1000 N A R b) (N + 1) N (by omega)
  have h0 := sW_ge (wt 1000000 1000 N A R b) (N + 1) 0 (by omega)
  have h1 : wt 1000000 1000 N A R b 0 = 1000000 := rfl
  rw [h1] at h0
  calc 1000 * wt 1000000 1000 N A R b N / sW (wt 1000000 1000 N A R b) (N + 1) ≤ 1000 * sW (wt 1000000 1000 N A R b) (N + 1) / sW (wt 1000000 1000 N A R b) (N + 1) := Nat.div_le_div_right (Nat.mul_le_mul_left _ h)
    _ = 1000 := Nat.mul_div_cancel _ (by omega)
theorem sn_le {gs : Nat → Nat → Int32} {ls : Nat → Nat} {G T : Nat} (hG : G ≤ 4) (ho : ∀ g, g < 4 → okG G T g (gs g)) (hl : ∀ g, ls g ≤ 1000) (h : Nat) (hh : h < 2 ^ 31) : ∀ k, k ≤ 4 → sn gs ls k h ≤ 6000 * k ∧ (h < k → sn gs ls k h + 6000 ≤ 6000 * k)
  | 0, _ => ⟨Nat.le_refl 0, fun z => absurd z (by omega)⟩
  | k + 1, hk => by
    obtain ⟨h1, h2⟩ := sn_le hG ho hl h hh k (by omega)
    obtain ⟨-, ⟨A, a6, ha⟩, hov, -⟩ := ho k (by omega)
    have ht : nA (gs k) * ls k ≤ 6 * 1000 := Nat.mul_le_mul (by unfold nA; rw [ha, nI_clamp (by omega)]; exact a6) (hl k)
    unfold sn
    refine ⟨by split <;> omega, fun z => ?_⟩
    by_cases e : h = k
    · subst e
      have : ¬ gs h 3 = nI h := fun q => by
        rcases hov with q2 | ⟨o, o1, o2, q2⟩
        · exact nI_nm1 hh (q.symm.trans q2)
        · exact o2 ((nI_eq (by omega) (by omega)).mp (q2.symm.trans q))
      rw [if_neg this]
      omega
    · have := h2 (by omega)
      split <;> omega
theorem Bt_le {gs : Nat → Nat → Int32} {G T : Nat} (hG : G ≤ 4) (ho : ∀ g, g < 4 → okG G T g (gs g)) (t h : Nat) (hh : h < 4) : Bt gs G t h ≤ 18000 := by
  cases t with
  | zero => exact Nat.zero_le _
  | succ t =>
    unfold Bt
    have hs := sn_le hG ho (ls := fun g => pP (gs g) (Bt gs G t g)) (fun g => pPn_le _ _ _ _) h (by omega)
    rcases Nat.lt_or_ge G 4 with q | q
    · have := (hs G hG).1; omega
    · have := (hs G hG).2 (by omega); omega
def Tp (E : Ev) (a : Nat) (tl tn ts : Nat → Int32) (r : Int32) (H : Heap) : Prop := ob E 7 a [.ref (a + 1), .ref (a + 2), .ref (a + 3), .int r] H ∧ ai E (a + 1) 4 tl H ∧ ai E (a + 2) 4 tn H ∧ ai E (a + 3) 4 ts H
theorem Tp.kept {E : Ev} {a : Nat} {tl tn ts : Nat → Int32} {r : Int32} {H H' : Heap} (h : Tp E a tl tn ts r H) (hq : ∀ q, rg a 4 q → H'[q]? = H[q]?) : Tp E a tl tn ts r H' :=
  ⟨ob_kept h.1 (hq _ ⟨by omega, by omega⟩), ai_kept h.2.1 (hq _ ⟨by omega, by omega⟩), ai_kept h.2.2.1 (hq _ ⟨by omega, by omega⟩), ai_kept h.2.2.2 (hq _ ⟨by omega, by omega⟩)⟩
theorem Tp.le {E : Ev} {a : Nat} {tl tn ts : Nat → Int32} {r : Int32} {H : Heap} (h : Tp E a tl tn ts r H) : a + 4 ≤ H.size := va_at.lt h.2.2.2
theorem Tp.out {E : Ev} {a : Nat} {tl tn ts : Nat → Int32} {r : Int32} {A : Nat → Prop} {H H' : Heap} (h : Tp E a tl tn ts r H) (ho : out A H H') (hA : ∀ q, rg a 4 q → ¬ A q) : Tp E a tl tn ts r H' := h.kept (fun q hq => ho.2 q (Nat.lt_of_lt_of_le hq.2 h.le) (hA q hq))
theorem Wp.out {E : Ev} {a : Nat} {wf : Nat → Int64} {x y : Int32} {A : Nat → Prop} {H H' : Heap} (h : Wp E a wf x y H) (ho : out A H H') (hA : ∀ q, rg a 2 q → ¬ A q) : Wp E a wf x y H' := h.kept (fun q hq => ho.2 q (Nat.lt_of_lt_of_le hq.2 h.le) (hA q hq))
theorem Np.out {E : Ev} {a : Nat} {v : NV} {fss : Nat → Nat → Int32} {A : Nat → Prop} {H H' : Heap} (h : Np E a v fss H) (ho : out A H H') (hA : ∀ q, rg a 22 q → ¬ A q) : Np E a v fss H' := h.kept (fun q hq => ho.2 q (Nat.lt_of_lt_of_le hq.2 (np_le h)) (hA q hq))
theorem out_no {H H' : Heap} (h : out (fun _ => False) H H') {b : Nat} (hb : b < H.size) : H'[b]? = H[b]? := h.2 b hb (fun z => z)
set_option maxRecDepth 100000 in
set_option maxHeartbeats 8000000 in
theorem c_T_loadOver (l : Launch) (E : Ev) (a g : Nat) (tl tn ts : Nat → Int32) (r : Int32) (hg : g < 4) : Ct l E yX7_loadOver cX7_loadOver 2 (some .int) (rm 1) [.ref a, .int (nI g)] (Tp E a tl tn ts r) (rV (some (.int (tl g))) (Tp E a tl tn ts r)) (fun _ => False) := by
  refine ct_start (by decide) [some (.ref a), some (.int (nI g))] rfl (Nat.le_of_ble_eq_true rfl) ?_
  intro x hF hN0 hA hR
  refine g_iload_n hF dX7_loadOver_0 1 rfl rfl ?_
  refine g_if_lt hF dX7_loadOver_1 4 rfl 18 (by decide) (fun c => absurd c (nI_pos (by omega))) (fun _ => ?_)
  refine g_iload_n hF dX7_loadOver_4 5 rfl rfl ?_
  refine g_iconst hF (4) dX7_loadOver_5 6 rfl rfl ?_
  refine g_icmp_ge hF dX7_loadOver_6 9 rfl 18 (by decide) (fun c => absurd c (fun z => absurd (i_le (a := 4) z (by omega) (by omega)) (by omega))) (fun _ => ?_)
  refine g_aload_n hF dX7_loadOver_9 10 rfl rfl ?_
  refine g_get hF fl_X7_9 dX7_loadOver_10 13 rfl (by intro H h; first | exact h.1 | exact h.2.1 | exact h.2.2.1 | exact h.2.2.2) rfl ?_
  refine g_iload_n hF dX7_loadOver_13 14 rfl rfl ?_
  refine g_iald hF dX7_loadOver_14 15 rfl (by intro H h; first | exact h.1 | exact h.2.1 | exact h.2.2.1 | exact h.2.2.2) (vp_in_nI hg (by omega)) ?_
  rw [nI_clamp (by omega)]
  refine g_goto hF dX7_loadOver_15 19 (by decide) ?_
  exact g_iret hF dX7_loadOver_19 (Nat.le_of_ble_eq_true rfl) (Nat.le_of_ble_eq_true rfl) (fun H h => hR _ _ ⟨congrArg (fun z => some (Value.int z)) (rfl), h⟩)
set_option maxRecDepth 100000 in
set_option maxHeartbeats 8000000 in
theorem c_T_lossOf (l : Launch) (E : Ev) (a g : Nat) (tl tn ts : Nat → Int32) (r : Int32) (hg : g < 4) : Ct l E yX7_lossOf cX7_lossOf 2 (some .int) (rm 1) [.ref a, .int (nI g)] (Tp E a tl tn ts r) (rV (some (.int (ts g))) (Tp E a tl tn ts r)) (fun _ => False) := by
  refine ct_start (by decide) [some (.ref a), some (.int (nI g))] rfl (Nat.le_of_ble_eq_true rfl) ?_
  intro x hF hN0 hA hR
  refine g_iload_n hF dX7_lossOf_0 1 rfl rfl ?_
  refine g_if_lt hF dX7_lossOf_1 4 rfl 18 (by decide) (fun c => absurd c (nI_pos (by omega))) (fun _ => ?_)
  refine g_iload_n hF dX7_lossOf_4 5 rfl rfl ?_
  refine g_iconst hF (4) dX7_lossOf_5 6 rfl rfl ?_
  refine g_icmp_ge hF dX7_lossOf_6 9 rfl 18 (by decide) (fun c => absurd c (fun z => absurd (i_le (a := 4) z (by omega) (by omega)) (by omega))) (fun _ => ?_)
  refine g_aload_n hF dX7_lossOf_9 10 rfl rfl ?_
  refine g_get hF fl_X7_18 dX7_lossOf_10 13 rfl (by intro H h; first | exact h.1 | exact h.2.1 | exact h.2.2.1 | exact h.2.2.2) rfl ?_
  refine g_iload_n hF dX7_lossOf_13 14 rfl rfl ?_
  refine g_iald hF dX7_lossOf_14 15 rfl (by intro H h; first | exact h.1 | exact h.2.1 | exact h.2.2.1 | exact h.2.2.2) (vp_in_nI hg (by omega)) ?_
  rw [nI_clamp (by omega)]
  refine g_goto hF dX7_lossOf_15 19 (by decide) ?_
  exact g_iret hF dX7_lossOf_19 (Nat.le_of_ble_eq_true rfl) (Nat.le_of_ble_eq_true rfl) (fun H h => hR _ _ ⟨congrArg (fun z => some (Value.int z)) (rfl), h⟩)
set_option maxRecDepth 100000 in
set_option maxHeartbeats 8000000 in
theorem c_T_takeNewLoads (l : Launch) (E : Ev) (a : Nat) (tl tn ts : Nat → Int32) (r z : Int32) (hz : (z = 0 ∧ ∀ g, g < 4 → tl g = tn g) ∨ (z = 1 ∧ ∃ g, g < 4 ∧ ¬ tl g = tn g)) : Ct l E yX7_takeNewLoads cX7_takeNewLoads 3 (some .boolean) (rm 1) [.ref a] (Tp E a tl tn ts r) (rV (some (.int z)) (Tp E a tn tn ts r)) (rg a 4) := by
  refine ct_start (by decide) [some (.ref a), none, none] rfl (Nat.le_of_ble_eq_true rfl) ?_
  intro x hF hN0 hA hR
  have loop : ∀ (n j : Nat) (i ch : Int32) (tl' : Nat → Int32), 4 - j < n → j ≤ 4 → i = nI j → (∀ g, g < j → tl' g = tn g) → (∀ g, j ≤ g → tl' g = tl g) → ((ch = 0 ∧ ∀ g, g < j → tl g = tn g) ∨ (ch = 1 ∧ ∃ g, g < j ∧ ¬ tl g = tn g)) → go l (rm 1) E x 0 0 (Tp E a tl' tn ts r) [some (.ref a), some (.int ch), some (.int i)] 4 [] := by
    intro n
    induction n with
    | zero => intro j i ch tl' h; omega
    | succ n ih =>
      intro j i ch tl' hn0 hj hi h1 h2 hch
      subst hi
      have hcl : (nI j).toNatClampNeg = j := nI_clamp (by omega)
      have hup : ∀ g, g < j + 1 → upd tl' j (tn j) g = tn g := fun g hg => if e : g = j then by rw [e, pk_us] else by rw [pk_un e]; exact h1 g (by omega)
      have hup2 : ∀ g, j + 1 ≤ g → upd tl' j (tn j) g = tl g := fun g hg => by rw [pk_un (by omega)]; exact h2 g (by omega)
      refine g_iload_n hF dX7_takeNewLoads_4 5 rfl rfl ?_
      refine g_iconst hF (4) dX7_takeNewLoads_5 6 rfl rfl ?_
      refine g_icmp_ge hF dX7_takeNewLoads_6 9 rfl 50 (by decide) (fun c6 => ?_) (fun c6 => ?_)
      · have e4 := i_le (a := 4) c6 (by omega) (by omega)
        have hzz : ch = z := by
          rcases hch with ⟨q1, q2⟩ | ⟨q1, g, q2, q3⟩
          · exact q1.trans (hz.elim (fun q => q.1) (fun ⟨_, g, g1, g2⟩ => absurd (q2 g (by omega)) g2)).symm
          · exact q1.trans (hz.elim (fun q => absurd (q.2 g (by omega)) q3) (fun q => q.1)).symm
        refine g_iload_n hF dX7_takeNewLoads_50 51 rfl rfl ?_
        exact g_zret hF (by rcases hch with ⟨q1, -⟩ | ⟨q1, -⟩ <;> subst q1 <;> rfl) dX7_takeNewLoads_51 (Nat.le_of_ble_eq_true rfl) (Nat.le_of_ble_eq_true rfl) (fun H h => hR _ _ ⟨congrArg (fun z => some (Value.int z)) (hzz), ⟨h.1, ai_congr (fun g hg => h1 g (by omega)) h.2.1, h.2.2⟩⟩)
      · have hlt : j < 4 := i_nle (a := 4) c6 (by omega) (by omega)
        refine g_iload_n hF dX7_takeNewLoads_9 10 rfl rfl ?_
        refine g_aload_n hF dX7_takeNewLoads_10 11 rfl rfl ?_
        refine g_get hF fl_X7_9 dX7_takeNewLoads_11 14 rfl (by intro H h; first | exact h.1 | exact h.2.1 | exact h.2.2.1 | exact h.2.2.2) rfl ?_
        refine g_iload_n hF dX7_takeNewLoads_14 15 rfl rfl ?_
        refine g_iald hF dX7_takeNewLoads_15 16 rfl (by intro H h; first | exact h.1 | exact h.2.1 | exact h.2.2.1 | exact h.2.2.2) (vp_in_nI hlt (by omega)) ?_
        refine g_aload_n hF dX7_takeNewLoads_16 17 rfl rfl ?_
        refine g_get hF fl_X7_15 dX7_takeNewLoads_17 20 rfl (by intro H h; first | exact h.1 | exact h.2.1 | exact h.2.2.1 | exact h.2.2.2) rfl ?_
        refine g_iload_n hF dX7_takeNewLoads_20 21 rfl rfl ?_
        refine g_iald hF dX7_takeNewLoads_21 22 rfl (by intro H h; first | exact h.1 | exact h.2.1 | exact h.2.2.1 | exact h.2.2.2) (vp_in_nI hlt (by omega)) ?_
        rw [hcl, h2 j (by omega)]
        refine g_icmp_eq hF dX7_takeNewLoads_22 25 rfl 29 (by decide) (fun c22 => ?_) (fun c22 => ?_)
        · refine g_iconst hF (0) dX7_takeNewLoads_29 30 rfl rfl ?_
          refine g_ior hF dX7_takeNewLoads_30 31 rfl ?_
          refine g_istore_n hF dX7_takeNewLoads_31 32 rfl (lo' := [_, _, _]) (Nat.le_of_ble_eq_true rfl) rfl ?_
          refine g_aload_n hF dX7_takeNewLoads_32 33 rfl rfl ?_
          refine g_get hF fl_X7_9 dX7_takeNewLoads_33 36 rfl (by intro H h; first | exact h.1 | exact h.2.1 | exact h.2.2.1 | exact h.2.2.2) rfl ?_
          refine g_iload_n hF dX7_takeNewLoads_36 37 rfl rfl ?_
          refine g_aload_n hF dX7_takeNewLoads_37 38 rfl rfl ?_
          refine g_get hF fl_X7_15 dX7_takeNewLoads_38 41 rfl (by intro H h; first | exact h.1 | exact h.2.1 | exact h.2.2.1 | exact h.2.2.2) rfl ?_
          refine g_iload_n hF dX7_takeNewLoads_41 42 rfl rfl ?_
          refine g_iald hF dX7_takeNewLoads_42 43 rfl (by intro H h; first | exact h.1 | exact h.2.1 | exact h.2.2.1 | exact h.2.2.2) (vp_in_nI hlt (by omega)) ?_
          rw [hcl]
          refine g_iast hF dX7_takeNewLoads_43 44 rfl (by intro H h; first | exact h.1 | exact h.2.1 | exact h.2.2.1 | exact h.2.2.2) (vp_in_nI hlt (by omega)) (hA _ ⟨by omega, by omega⟩) (Pr' := Tp E a (upd tl' j (tn j)) tn ts r) (fun H H' h h1 h2 => by rw [hcl] at h1; exact ⟨ob_kept h.1 (h2.2 _ (by omega)), h1, ai_kept h.2.2.1 (h2.2 _ (by omega)), ai_kept h.2.2.2 (h2.2 _ (by omega))⟩) ?_
          refine g_iinc hF dX7_takeNewLoads_44 47 rfl (1) rfl (lo' := [_, _, _]) rfl rfl ?_
          refine g_goto hF dX7_takeNewLoads_47 4 (by decide) ?_
          refine ih (j + 1) _ _ _ (by omega) (by omega) (nI_succ j).symm hup hup2 ?_
          rcases hch with ⟨q1, q2⟩ | ⟨q1, g, q2, q3⟩
          · subst q1
            exact Or.inl ⟨by decide, fun g hg => if e : g = j then e ▸ c22 else q2 g (by omega)⟩
          · subst q1
            exact Or.inr ⟨by decide, g, by omega, q3⟩
        · refine g_iconst hF (1) dX7_takeNewLoads_25 26 rfl rfl ?_
          refine g_goto hF dX7_takeNewLoads_26 30 (by decide) ?_
          refine g_ior hF dX7_takeNewLoads_30 31 rfl ?_
          refine g_istore_n hF dX7_takeNewLoads_31 32 rfl (lo' := [_, _, _]) (Nat.le_of_ble_eq_true rfl) rfl ?_
          refine g_aload_n hF dX7_takeNewLoads_32 33 rfl rfl ?_
          refine g_get hF fl_X7_9 dX7_takeNewLoads_33 36 rfl (by intro H h; first | exact h.1 | exact h.2.1 | exact h.2.2.1 | exact h.2.2.2) rfl ?_
          refine g_iload_n hF dX7_takeNewLoads_36 37 rfl rfl ?_
          refine g_aload_n hF dX7_takeNewLoads_37 38 rfl rfl ?_
          refine g_get hF fl_X7_15 dX7_takeNewLoads_38 41 rfl (by intro H h; first | exact h.1 | exact h.2.1 | exact h.2.2.1 | exact h.2.2.2) rfl ?_
          refine g_iload_n hF dX7_takeNewLoads_41 42 rfl rfl ?_
          refine g_iald hF dX7_takeNewLoads_42 43 rfl (by intro H h; first | exact h.1 | exact h.2.1 | exact h.2.2.1 | exact h.2.2.2) (vp_in_nI hlt (by omega)) ?_
          rw [hcl]
          refine g_iast hF dX7_takeNewLoads_43 44 rfl (by intro H h; first | exact h.1 | exact h.2.1 | exact h.2.2.1 | exact h.2.2.2) (vp_in_nI hlt (by omega)) (hA _ ⟨by omega, by omega⟩) (Pr' := Tp E a (upd tl' j (tn j)) tn ts r) (fun H H' h h1 h2 => by rw [hcl] at h1; exact ⟨ob_kept h.1 (h2.2 _ (by omega)), h1, ai_kept h.2.2.1 (h2.2 _ (by omega)), ai_kept h.2.2.2 (h2.2 _ (by omega))⟩) ?_
          refine g_iinc hF dX7_takeNewLoads_44 47 rfl (1) rfl (lo' := [_, _, _]) rfl rfl ?_
          refine g_goto hF dX7_takeNewLoads_47 4 (by decide) ?_
          refine ih (j + 1) _ _ _ (by omega) (by omega) (nI_succ j).symm hup hup2 ?_
          refine Or.inr ⟨?_, j, by omega, c22⟩
          rcases hch with ⟨q1, -⟩ | ⟨q1, -⟩ <;> subst q1 <;> decide
  refine g_iconst hF (0) dX7_takeNewLoads_0 1 rfl rfl ?_
  refine g_istore_n hF dX7_takeNewLoads_1 2 rfl (lo' := [_, _, _]) (Nat.le_of_ble_eq_true rfl) rfl ?_
  refine g_iconst hF (0) dX7_takeNewLoads_2 3 rfl rfl ?_
  refine g_istore_n hF dX7_takeNewLoads_3 4 rfl (lo' := [_, _, _]) (Nat.le_of_ble_eq_true rfl) rfl ?_
  exact loop 5 0 0 0 tl (by omega) (by omega) nI_0.symm (fun g hg => by omega) (fun g _ => rfl) (Or.inl ⟨rfl, fun g hg => by omega⟩)
