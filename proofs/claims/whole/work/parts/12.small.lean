/-! Nets with what the class keeps hidden; Book, Draws, History, Image -/
section CX
variable {l : Launch} {E : Ev} {y : MethodName} {cc : ByteArray} {nL : Nat} {rt : Option FieldType} {R : Room} {av : List Value} {Rt : Option Value → Heap → Prop} {A : Nat → Prop}
theorem Ct.ex {α : Sort _} {P : α → Heap → Prop} (h : ∀ z, Ct l E y cc nL rt R av (P z) Rt A) : Ct l E y cc nL rt R av (fun H => ∃ z, P z H) Rt A := by
  intro p e ha hc hk s m args below hf happ hP ht
  obtain ⟨h1, h2, z, h3⟩ := hP
  exact h z p e ha hc hk s m args below hf happ ⟨h1, h2, h3⟩ ht
theorem Ct.pure {p : Prop} {P : Heap → Prop} (h : p → Ct l E y cc nL rt R av P Rt A) : Ct l E y cc nL rt R av (fun H => p ∧ P H) Rt A := by
  intro p e ha hc hk s m args below hf happ hP ht
  obtain ⟨h1, h2, z, h3⟩ := hP
  exact h z p e ha hc hk s m args below hf happ ⟨h1, h2, h3⟩ ht
theorem Ct.pre {P P2 : Heap → Prop} (h : Ct l E y cc nL rt R av P Rt A) (to : ∀ H, P2 H → P H) : Ct l E y cc nL rt R av P2 Rt A := h.lift to (fun _ z => z) (fun _ _ _ _ z _ => z)
end CX
def fOK (v : NV) (fss : Nat → Nat → Int32) : Prop := ∀ g, g < 4 → fsOK (v.2.2.2 g) (fss g)
def Nq (E : Ev) (a : Nat) (v : NV) (H : Heap) : Prop := ∃ fss, fOK v fss ∧ Np E a v fss H
theorem Nq.kept {E : Ev} {a : Nat} {v : NV} {H H' : Heap} (h : Nq E a v H) (hq : ∀ q, rg a 22 q → H'[q]? = H[q]?) : Nq E a v H' := by
  obtain ⟨fss, h1, h2⟩ := h
  exact ⟨fss, h1, h2.kept hq⟩
theorem Nq.le {E : Ev} {a : Nat} {v : NV} {H : Heap} (h : Nq E a v H) : a + 22 ≤ H.size := by
  obtain ⟨fss, h1, h2⟩ := h
  exact np_le h2
theorem Nq.out {E : Ev} {a : Nat} {v : NV} {A : Nat → Prop} {H H' : Heap} (h : Nq E a v H) (ho : out A H H') (hA : ∀ q, rg a 22 q → ¬ A q) : Nq E a v H' :=
  h.kept (fun q hq => ho.2 q (Nat.lt_of_lt_of_le hq.2 h.le) (hA q hq))
theorem Nq.but {E : Ev} {a q : Nat} {v : NV} {H H' : Heap} (h : Nq E a v H) (ho : but q H H') (hA : ¬ rg a 22 q) : Nq E a v H' :=
  h.kept (fun z hz => ho.2 z (fun e => hA (e ▸ hz)))
theorem c_N_copyQ (l : Launch) (E : Ev) (a b : Nat) (v w : NV) (hd : a + 22 ≤ b ∨ b + 22 ≤ a) : Ct l E yX6_copyFrom cX6_copyFrom 3 none (rm 3) [.ref a, .ref b] (fun H => Nq E a v H ∧ Nq E b w H) (rV none (fun H => Nq E a w H ∧ Nq E b w H)) (rg a 22) := by
  refine Ct.pre (Ct.ex (fun fss => Ct.ex (fun oss => Ct.pure (p := fOK w oss) (fun hf => (c_N_copyFrom l E a b v w fss oss hd).lift (fun _ z => z) (fun _ z => z) (fun _ _ _ _ z _ => ⟨z.1, ⟨oss, hf, z.2.1⟩, ⟨oss, hf, z.2.2⟩⟩))))) ?_
  rintro H ⟨⟨fss, h1, h2⟩, ⟨oss, h3, h4⟩⟩
  exact ⟨fss, oss, h3, h2, h4⟩
/-! Book -/
def Bp (E : Ev) (a : Nat) (bg bl bs : Nat → Int32) (k : Nat) (H : Heap) : Prop := ob E 0 a [.ref (a + 1), .ref (a + 2), .ref (a + 3), .int (nI k)] H ∧ ai E (a + 1) 20 bg H ∧ ai E (a + 2) 20 bl H ∧ ai E (a + 3) 20 bs H
theorem Bp.kept {E : Ev} {a : Nat} {bg bl bs : Nat → Int32} {k : Nat} {H H' : Heap} (h : Bp E a bg bl bs k H) (hq : ∀ q, rg a 4 q → H'[q]? = H[q]?) : Bp E a bg bl bs k H' :=
  ⟨ob_kept h.1 (hq _ ⟨by omega, by omega⟩), ai_kept h.2.1 (hq _ ⟨by omega, by omega⟩), ai_kept h.2.2.1 (hq _ ⟨by omega, by omega⟩), ai_kept h.2.2.2 (hq _ ⟨by omega, by omega⟩)⟩
theorem Bp.le {E : Ev} {a : Nat} {bg bl bs : Nat → Int32} {k : Nat} {H : Heap} (h : Bp E a bg bl bs k H) : a + 4 ≤ H.size := va_at.lt h.2.2.2
set_option maxRecDepth 100000 in
set_option maxHeartbeats 8000000 in
theorem c_B_enter (l : Launch) (E : Ev) (a : Nat) (bg bl bs : Nat → Int32) (k : Nat) (g i s : Int32) (hk : k < 20) : Ct l E yX0_enter cX0_enter 4 none (rm 1) [.ref a, .int g, .int i, .int s] (Bp E a bg bl bs k) (rV none (Bp E a (upd bg k g) (upd bl k i) (upd bs k s) (k + 1))) (rg a 4) := by
  refine ct_start (by decide) [some (.ref a), some (.int g), some (.int i), some (.int s)] rfl (Nat.le_of_ble_eq_true rfl) ?_
  intro x hF hN hA hR
  have hin : vp_in (nI k) 20 := vp_in_nI hk (by omega)
  have hcl : (nI k).toNatClampNeg = k := nI_clamp (by omega)
  refine g_aload_n hF dX0_enter_0 1 rfl rfl ?_
  refine g_get hF fl_X0_21 dX0_enter_1 4 rfl (by intro H h; first | exact h.1 | exact h.2.1 | exact h.2.2.1 | exact h.2.2.2) rfl ?_
  refine g_bipush hF (20) dX0_enter_4 6 rfl rfl ?_
  refine g_icmp_ge hF dX0_enter_6 9 rfl 49 (by decide) (fun c => absurd c (fun z => absurd (i_le (a := 20) z (by omega) (by omega)) (by omega))) (fun _ => ?_)
  refine g_aload_n hF dX0_enter_9 10 rfl rfl ?_
  refine g_get hF fl_X0_9 dX0_enter_10 13 rfl (by intro H h; first | exact h.1 | exact h.2.1 | exact h.2.2.1 | exact h.2.2.2) rfl ?_
  refine g_aload_n hF dX0_enter_13 14 rfl rfl ?_
  refine g_get hF fl_X0_21 dX0_enter_14 17 rfl (by intro H h; first | exact h.1 | exact h.2.1 | exact h.2.2.1 | exact h.2.2.2) rfl ?_
  refine g_iload_n hF dX0_enter_17 18 rfl rfl ?_
  refine g_iast hF dX0_enter_18 19 rfl (by intro H h; first | exact h.1 | exact h.2.1 | exact h.2.2.1 | exact h.2.2.2) (hin) (hA _ ⟨by omega, by omega⟩) (Pr' := Bp E a (upd bg k g) bl bs k) (fun H H' h h1 h2 => by exact ⟨ob_kept h.1 (h2.2 _ (by omega)), hcl ▸ h1, ai_kept h.2.2.1 (h2.2 _ (by omega)), ai_kept h.2.2.2 (h2.2 _ (by omega))⟩) ?_
  refine g_aload_n hF dX0_enter_19 20 rfl rfl ?_
  refine g_get hF fl_X0_15 dX0_enter_20 23 rfl (by intro H h; first | exact h.1 | exact h.2.1 | exact h.2.2.1 | exact h.2.2.2) rfl ?_
  refine g_aload_n hF dX0_enter_23 24 rfl rfl ?_
  refine g_get hF fl_X0_21 dX0_enter_24 27 rfl (by intro H h; first | exact h.1 | exact h.2.1 | exact h.2.2.1 | exact h.2.2.2) rfl ?_
  refine g_iload_n hF dX0_enter_27 28 rfl rfl ?_
  refine g_iast hF dX0_enter_28 29 rfl (by intro H h; first | exact h.1 | exact h.2.1 | exact h.2.2.1 | exact h.2.2.2) (hin) (hA _ ⟨by omega, by omega⟩) (Pr' := Bp E a (upd bg k g) (upd bl k i) bs k) (fun H H' h h1 h2 => by exact ⟨ob_kept h.1 (h2.2 _ (by omega)), ai_kept h.2.1 (h2.2 _ (by omega)), hcl ▸ h1, ai_kept h.2.2.2 (h2.2 _ (by omega))⟩) ?_
  refine g_aload_n hF dX0_enter_29 30 rfl rfl ?_
  refine g_get hF fl_X0_18 dX0_enter_30 33 rfl (by intro H h; first | exact h.1 | exact h.2.1 | exact h.2.2.1 | exact h.2.2.2) rfl ?_
  refine g_aload_n hF dX0_enter_33 34 rfl rfl ?_
  refine g_get hF fl_X0_21 dX0_enter_34 37 rfl (by intro H h; first | exact h.1 | exact h.2.1 | exact h.2.2.1 | exact h.2.2.2) rfl ?_
  refine g_iload_n hF dX0_enter_37 38 rfl rfl ?_
  refine g_iast hF dX0_enter_38 39 rfl (by intro H h; first | exact h.1 | exact h.2.1 | exact h.2.2.1 | exact h.2.2.2) (hin) (hA _ ⟨by omega, by omega⟩) (Pr' := Bp E a (upd bg k g) (upd bl k i) (upd bs k s) k) (fun H H' h h1 h2 => by exact ⟨ob_kept h.1 (h2.2 _ (by omega)), ai_kept h.2.1 (h2.2 _ (by omega)), ai_kept h.2.2.1 (h2.2 _ (by omega)), hcl ▸ h1⟩) ?_
  refine g_aload_n hF dX0_enter_39 40 rfl rfl ?_
  refine g_dup hF dX0_enter_40 41 rfl rfl ?_
  refine g_get hF fl_X0_21 dX0_enter_41 44 rfl (by intro H h; first | exact h.1 | exact h.2.1 | exact h.2.2.1 | exact h.2.2.2) rfl ?_
  refine g_iconst hF (1) dX0_enter_44 45 rfl rfl ?_
  refine g_iadd hF dX0_enter_45 46 rfl ?_
  rw [nI_1]
  refine g_put hF pl_X0_21 dX0_enter_46 49 rfl (by intro H h; first | exact h.1 | exact h.2.1 | exact h.2.2.1 | exact h.2.2.2) (Nat.le_of_ble_eq_true rfl) rfl rfl (hA _ ⟨by omega, by omega⟩) (Pr' := Bp E a (upd bg k g) (upd bl k i) (upd bs k s) (k + 1)) (fun H H' h h1 h2 => by exact ⟨h1, ai_kept h.2.1 (h2.2 _ (by omega)), ai_kept h.2.2.1 (h2.2 _ (by omega)), ai_kept h.2.2.2 (h2.2 _ (by omega))⟩) ?_
  exact g_vret hF dX0_enter_49 (Nat.le_of_ble_eq_true rfl) (Nat.le_of_ble_eq_true rfl) (fun H h => hR _ _ ⟨rfl, h⟩)
set_option maxRecDepth 100000 in
set_option maxHeartbeats 8000000 in
theorem c_B_clear (l : Launch) (E : Ev) (a : Nat) (bg bl bs : Nat → Int32) (k : Nat) : Ct l E yX0_clear cX0_clear 1 none (rm 1) [.ref a] (Bp E a bg bl bs k) (rV none (Bp E a bg bl bs 0)) (rg a 4) := by
  refine ct_start (by decide) [some (.ref a)] rfl (Nat.le_of_ble_eq_true rfl) ?_
  intro x hF hN hA hR
  refine g_aload_n hF dX0_clear_0 1 rfl rfl ?_
  refine g_iconst hF (0) dX0_clear_1 2 rfl rfl ?_
  refine g_put hF pl_X0_21 dX0_clear_2 5 rfl (by intro H h; first | exact h.1 | exact h.2.1 | exact h.2.2.1 | exact h.2.2.2) (Nat.le_of_ble_eq_true rfl) rfl rfl (hA _ ⟨by omega, by omega⟩) (Pr' := Bp E a bg bl bs 0) (fun H H' h h1 h2 => by exact ⟨h1, ai_kept h.2.1 (h2.2 _ (by omega)), ai_kept h.2.2.1 (h2.2 _ (by omega)), ai_kept h.2.2.2 (h2.2 _ (by omega))⟩) ?_
  exact g_vret hF dX0_clear_5 (Nat.le_of_ble_eq_true rfl) (Nat.le_of_ble_eq_true rfl) (fun H h => hR _ _ ⟨rfl, h⟩)
/-- an entry is right -/
def isR (v : NV) (g i s : Int32) : Prop := ∃ G h N t, v.1 = nI G ∧ G ≤ 4 ∧ h < G ∧ g = nI h ∧ v.2.2.2 h 0 = nI N ∧ N ≤ 6 ∧ t < N ∧ i = nI t ∧ v.2.2.2 h (10 + 4 * t) = s
/-- the first entry that is wrong, from j on, with d left -/
noncomputable def fWr (v : NV) (bg bl bs : Nat → Int32) : Nat → Nat → Int32
  | 0, _ => -1
  | d + 1, j => (fun _ : Decidable (isR v (bg j) (bl j) (bs j)) => if isR v (bg j) (bl j) (bs j) then fWr v bg bl bs d (j + 1) else nI j) (Classical.propDecidable _)
theorem fWr_t {v : NV} {bg bl bs : Nat → Int32} {d j : Nat} (h : isR v (bg j) (bl j) (bs j)) : fWr v bg bl bs (d + 1) j = fWr v bg bl bs d (j + 1) := @if_pos _ (Classical.propDecidable _) h _ _ _
theorem fWr_f {v : NV} {bg bl bs : Nat → Int32} {d j : Nat} (h : ¬ isR v (bg j) (bl j) (bs j)) : fWr v bg bl bs (d + 1) j = nI j := @if_neg _ (Classical.propDecidable _) h _ _ _
/-- what an entry may be -/
theorem isR_cases {v : NV} {G : Nat} (hG : v.1 = nI G) (hG4 : G ≤ 4) (hn : ∀ g, g < 4 → ∃ N, N ≤ 6 ∧ v.2.2.2 g 0 = nI N) (g i s : Int32) : (¬ isR v g i s ∧ ((g < 0 ∨ v.1 ≤ g) ∨ ∃ h, h < G ∧ g = nI h ∧ (i < 0 ∨ v.2.2.2 h 0 ≤ i))) ∨ ∃ h N t, h < G ∧ g = nI h ∧ v.2.2.2 h 0 = nI N ∧ N ≤ 6 ∧ t < N ∧ i = nI t ∧ (isR v g i s ↔ v.2.2.2 h (10 + 4 * t) = s) := by
  have nG : ∀ {G' h : Nat}, v.1 = nI G' → G' ≤ 4 → h < G' → h < G := fun h1 h2 h3 => by
    have := (nI_eq (by omega) (by omega)).mp (h1.symm.trans hG)
    omega
  rcases pk_ix g (n := G) (by omega) with h | h | ⟨h, h1, rfl⟩
  · refine Or.inl ⟨?_, Or.inl (Or.inl h)⟩
    rintro ⟨G', h', N, t, a1, a2, a3, rfl, -⟩
    exact nI_pos (by omega) h
  · refine Or.inl ⟨?_, Or.inl (Or.inr (hG ▸ h))⟩
    rintro ⟨G', h', N, t, a1, a2, a3, rfl, -⟩
    have := nG a1 a2 a3
    exact absurd (i_le h (by omega) (by omega)) (by omega)
  · obtain ⟨N, n6, n0⟩ := hn h (by omega)
    have nN : ∀ {G' h' N' t : Nat}, v.1 = nI G' → G' ≤ 4 → h' < G' → nI h = nI h' → v.2.2.2 h' 0 = nI N' → N' ≤ 6 → h' = h ∧ N' = N := fun {G' h' N' t} b1 b2 b3 b4 b5 b6 => by
      have := nG b1 b2 b3
      have e := (nI_eq (by omega) (by omega)).mp b4
      subst e
      exact ⟨rfl, (nI_eq (by omega) (by omega)).mp (b5.symm.trans n0)⟩
    rcases pk_ix i (n := N) (by omega) with q | q | ⟨t, t1, rfl⟩
    · refine Or.inl ⟨?_, Or.inr ⟨h, h1, rfl, Or.inl q⟩⟩
      rintro ⟨G', h', N', t, a1, a2, a3, a4, a5, a6, a7, rfl, -⟩
      exact nI_pos (by omega) q
    · refine Or.inl ⟨?_, Or.inr ⟨h, h1, rfl, Or.inr (n0 ▸ q)⟩⟩
      rintro ⟨G', h', N', t, a1, a2, a3, a4, a5, a6, a7, rfl, -⟩
      obtain ⟨-, e⟩ := nN (t := 0) a1 a2 a3 a4 a5 a6
      exact absurd (i_le q (by omega) (by omega)) (by omega)
    · refine Or.inr ⟨h, N, t, h1, rfl, n0, n6, t1, rfl, ⟨?_, fun e => ⟨G, h, N, t, hG, hG4, h1, rfl, n0, n6, t1, rfl, e⟩⟩⟩
      rintro ⟨G', h', N', t', a1, a2, a3, a4, a5, a6, a7, a8, a9⟩
      obtain ⟨e1, e2⟩ := nN (t := 0) a1 a2 a3 a4 a5 a6
      subst e1
      have := (nI_eq (by omega) (by omega)).mp a8
      subst this
      exact a9

set_option maxRecDepth 100000 in
set_option maxHeartbeats 8000000 in
theorem c_B_isWrong (l : Launch) (E : Ev) (a c : Nat) (bg bl bs : Nat → Int32) (k j : Nat) (v : NV) (fss : Nat → Nat → Int32) (G : Nat) (hG : v.1 = nI G) (hG4 : G ≤ 4) (hn : ∀ g, g < 4 → ∃ N, N ≤ 6 ∧ v.2.2.2 g 0 = nI N) (hj : j < 20) (r : Int32) (hr : (r = 1 ∧ ¬ isR v (bg j) (bl j) (bs j)) ∨ (r = 0 ∧ isR v (bg j) (bl j) (bs j))) : Ct l E yX0_isWrong cX0_isWrong 4 (some .boolean) (rm 3) [.ref a, .int (nI j), .ref c] (fun H => Bp E a bg bl bs k H ∧ Np E c v fss H) (rV (some (.int r)) (fun H => Bp E a bg bl bs k H ∧ Np E c v fss H)) (fun _ => False) := by
  refine ct_start (by decide) [some (.ref a), some (.int (nI j)), some (.ref c), none] rfl (Nat.le_of_ble_eq_true rfl) ?_
  intro x hF hN hA hR
  have hin : vp_in (nI j) 20 := vp_in_nI hj (by omega)
  have hcl : (nI j).toNatClampNeg = j := nI_clamp (by omega)
  rcases isR_cases hG hG4 hn (bg j) (bl j) (bs j) with ⟨h1, h2⟩ | ⟨h, N, t, h1, h2, n0, n6, t1, h3, h4⟩
  · have hr1 : r = 1 := hr.elim (fun z => z.1) (fun z => absurd z.2 h1)
    subst hr1
    refine g_aload_n hF dX0_isWrong_0 1 rfl rfl ?_
    refine g_aload_n hF dX0_isWrong_1 2 rfl rfl ?_
    refine g_get hF fl_X0_9 dX0_isWrong_2 5 rfl (by intro H h; first | exact h.1.1 | exact h.1.2.1 | exact h.1.2.2.1 | exact h.1.2.2.2 | exact h.2.1) rfl ?_
    refine g_iload_n hF dX0_isWrong_5 6 rfl rfl ?_
    refine g_iald hF dX0_isWrong_6 7 rfl (by intro H h; first | exact h.1.1 | exact h.1.2.1 | exact h.1.2.2.1 | exact h.1.2.2.2 | exact h.2.1) (hin) ?_
    rw [hcl]
    refine g_aload_n hF dX0_isWrong_7 8 rfl rfl ?_
    refine g_get hF fl_X0_15 dX0_isWrong_8 11 rfl (by intro H h; first | exact h.1.1 | exact h.1.2.1 | exact h.1.2.2.1 | exact h.1.2.2.2 | exact h.2.1) rfl ?_
    refine g_iload_n hF dX0_isWrong_11 12 rfl rfl ?_
    refine g_iald hF dX0_isWrong_12 13 rfl (by intro H h; first | exact h.1.1 | exact h.1.2.1 | exact h.1.2.2.1 | exact h.1.2.2.2 | exact h.2.1) (hin) ?_
    rw [hcl]
    refine g_callV hF cv_X0_29 (c_N_gwlN l E c v fss G (bg j) (bl j) hG hG4 h2) dX0_isWrong_13 16 rfl (st := []) rfl rfl ⟨Nat.le_of_ble_eq_true rfl, Nat.le_of_ble_eq_true rfl⟩ ⟨Nat.le_of_ble_eq_true rfl, Nat.le_of_ble_eq_true rfl⟩ rfl (Nat.le_of_ble_eq_true rfl) 6 rfl (by intro H h; first | exact h.1.1 | exact h.1.2.1 | exact h.1.2.2.1 | exact h.1.2.2.2 | exact h.2.1) (Pr' := fun H => Bp E a bg bl bs k H ∧ Np E c v fss H) (fun H h => h.2) (fun q z => z.elim) (fun H H' h h1 h2 => by exact ⟨h.1.kept (fun q hq => h2.2 q (Nat.lt_of_lt_of_le hq.2 h.1.le) (fun z => z)), h1⟩) (st1 := [_]) rfl (k1 := 0) (n1 := 0) rfl rfl ?_
    refine g_astore_nN hF dX0_isWrong_16 17 rfl (lo' := [_, _, _, _]) (Nat.le_of_ble_eq_true rfl) rfl ?_
    refine g_aload_nN hF dX0_isWrong_17 18 rfl rfl ?_
    refine g_ifnullN hF dX0_isWrong_18 41 (by decide) ?_
    refine g_iconst hF (1) dX0_isWrong_41 42 rfl rfl ?_
    refine g_goto hF dX0_isWrong_42 46 (by decide) ?_
    exact g_zret hF (rfl) dX0_isWrong_46 (Nat.le_of_ble_eq_true rfl) (Nat.le_of_ble_eq_true rfl) (fun H h => hR _ _ ⟨congrArg (fun z => some (Value.int z)) (rfl), h⟩)
  · have h4' : h < 4 := by omega
    have ht6 : vp_in (nI t) 6 := vp_in_nI (by omega) (by omega)
    have hct : (nI t).toNatClampNeg = t := nI_clamp (by omega)
    refine g_aload_n hF dX0_isWrong_0 1 rfl rfl ?_
    refine g_aload_n hF dX0_isWrong_1 2 rfl rfl ?_
    refine g_get hF fl_X0_9 dX0_isWrong_2 5 rfl (by intro H z; first | exact z.1.1 | exact z.1.2.1 | exact z.1.2.2.1 | exact z.1.2.2.2 | exact z.2.1 | exact (z.2.2.2 h h4').1 | exact (z.2.2.2 h h4').2.1) rfl ?_
    refine g_iload_n hF dX0_isWrong_5 6 rfl rfl ?_
    refine g_iald hF dX0_isWrong_6 7 rfl (by intro H z; first | exact z.1.1 | exact z.1.2.1 | exact z.1.2.2.1 | exact z.1.2.2.2 | exact z.2.1 | exact (z.2.2.2 h h4').1 | exact (z.2.2.2 h h4').2.1) (hin) ?_
    rw [hcl, h2]
    refine g_aload_n hF dX0_isWrong_7 8 rfl rfl ?_
    refine g_get hF fl_X0_15 dX0_isWrong_8 11 rfl (by intro H z; first | exact z.1.1 | exact z.1.2.1 | exact z.1.2.2.1 | exact z.1.2.2.2 | exact z.2.1 | exact (z.2.2.2 h h4').1 | exact (z.2.2.2 h h4').2.1) rfl ?_
    refine g_iload_n hF dX0_isWrong_11 12 rfl rfl ?_
    refine g_iald hF dX0_isWrong_12 13 rfl (by intro H z; first | exact z.1.1 | exact z.1.2.1 | exact z.1.2.2.1 | exact z.1.2.2.2 | exact z.2.1 | exact (z.2.2.2 h h4').1 | exact (z.2.2.2 h h4').2.1) (hin) ?_
    rw [hcl, h3]
    refine g_callV hF cv_X0_29 (c_N_gwl l E c v fss G h N t hG hG4 h1 n0 n6 t1) dX0_isWrong_13 16 rfl (st := []) rfl rfl ⟨Nat.le_of_ble_eq_true rfl, Nat.le_of_ble_eq_true rfl⟩ ⟨Nat.le_of_ble_eq_true rfl, Nat.le_of_ble_eq_true rfl⟩ rfl (Nat.le_of_ble_eq_true rfl) 6 rfl (by intro H z; first | exact z.1.1 | exact z.1.2.1 | exact z.1.2.2.1 | exact z.1.2.2.2 | exact z.2.1 | exact (z.2.2.2 h h4').1 | exact (z.2.2.2 h h4').2.1) (Pr' := fun H => Bp E a bg bl bs k H ∧ Np E c v fss H) (fun H h => h.2) (fun q z => z.elim) (fun H H' h h1 h2 => by exact ⟨h.1.kept (fun q hq => h2.2 q (Nat.lt_of_lt_of_le hq.2 h.1.le) (fun z => z)), h1⟩) (st1 := [_]) rfl (k1 := 0) (n1 := 0) rfl rfl ?_
    refine g_astore_n hF dX0_isWrong_16 17 rfl (lo' := [_, _, _, _]) (Nat.le_of_ble_eq_true rfl) rfl ?_
    refine g_aload_n hF dX0_isWrong_17 18 rfl rfl ?_
    refine g_ifnull hF dX0_isWrong_18 21 rfl ?_
    refine g_aload_n hF dX0_isWrong_21 22 rfl rfl ?_
    refine g_get hF fl_X0_35 dX0_isWrong_22 25 rfl (by intro H z; first | exact z.1.1 | exact z.1.2.1 | exact z.1.2.2.1 | exact z.1.2.2.2 | exact z.2.1 | exact (z.2.2.2 h h4').1 | exact (z.2.2.2 h h4').2.1) rfl ?_
    refine g_aload_n hF dX0_isWrong_25 26 rfl rfl ?_
    refine g_get hF fl_X0_15 dX0_isWrong_26 29 rfl (by intro H z; first | exact z.1.1 | exact z.1.2.1 | exact z.1.2.2.1 | exact z.1.2.2.2 | exact z.2.1 | exact (z.2.2.2 h h4').1 | exact (z.2.2.2 h h4').2.1) rfl ?_
    refine g_iload_n hF dX0_isWrong_29 30 rfl rfl ?_
    refine g_iald hF dX0_isWrong_30 31 rfl (by intro H z; first | exact z.1.1 | exact z.1.2.1 | exact z.1.2.2.1 | exact z.1.2.2.2 | exact z.2.1 | exact (z.2.2.2 h h4').1 | exact (z.2.2.2 h h4').2.1) (hin) ?_
    rw [hcl, h3]
    refine g_iald hF dX0_isWrong_31 32 rfl (by intro H z; first | exact z.1.1 | exact z.1.2.1 | exact z.1.2.2.1 | exact z.1.2.2.2 | exact z.2.1 | exact (z.2.2.2 h h4').1 | exact (z.2.2.2 h h4').2.1) (ht6) ?_
    rw [hct]
    refine g_aload_n hF dX0_isWrong_32 33 rfl rfl ?_
    refine g_get hF fl_X0_18 dX0_isWrong_33 36 rfl (by intro H z; first | exact z.1.1 | exact z.1.2.1 | exact z.1.2.2.1 | exact z.1.2.2.2 | exact z.2.1 | exact (z.2.2.2 h h4').1 | exact (z.2.2.2 h h4').2.1) rfl ?_
    refine g_iload_n hF dX0_isWrong_36 37 rfl rfl ?_
    refine g_iald hF dX0_isWrong_37 38 rfl (by intro H z; first | exact z.1.1 | exact z.1.2.1 | exact z.1.2.2.1 | exact z.1.2.2.2 | exact z.2.1 | exact (z.2.2.2 h h4').1 | exact (z.2.2.2 h h4').2.1) (hin) ?_
    rw [hcl]
    refine g_icmp_eq hF dX0_isWrong_38 41 rfl 45 (by decide) (fun c38 => ?_) (fun c38 => ?_)
    · refine g_iconst hF (0) dX0_isWrong_45 46 rfl rfl ?_
      exact g_zret hF (rfl) dX0_isWrong_46 (Nat.le_of_ble_eq_true rfl) (Nat.le_of_ble_eq_true rfl) (fun H h => hR _ _ ⟨congrArg (fun z => some (Value.int z)) ((hr.elim (fun z => absurd (h4.mpr c38) z.2) (fun z => z.1)).symm), h⟩)
    · refine g_iconst hF (1) dX0_isWrong_41 42 rfl rfl ?_
      refine g_goto hF dX0_isWrong_42 46 (by decide) ?_
      exact g_zret hF (rfl) dX0_isWrong_46 (Nat.le_of_ble_eq_true rfl) (Nat.le_of_ble_eq_true rfl) (fun H h => hR _ _ ⟨congrArg (fun z => some (Value.int z)) ((hr.elim (fun z => z.1) (fun z => absurd (h4.mp z.2) c38)).symm), h⟩)
set_option maxRecDepth 100000 in
set_option maxHeartbeats 8000000 in
theorem c_B_firstWrong (l : Launch) (E : Ev) (a c : Nat) (bg bl bs : Nat → Int32) (k : Nat) (v : NV) (fss : Nat → Nat → Int32) (G : Nat) (hG : v.1 = nI G) (hG4 : G ≤ 4) (hn : ∀ g, g < 4 → ∃ N, N ≤ 6 ∧ v.2.2.2 g 0 = nI N) (hk : k ≤ 20) : Ct l E yX0_firstWrong cX0_firstWrong 3 (some .int) (rm 4) [.ref a, .ref c] (fun H => Bp E a bg bl bs k H ∧ Np E c v fss H) (rV (some (.int (fWr v bg bl bs k 0))) (fun H => Bp E a bg bl bs k H ∧ Np E c v fss H)) (fun _ => False) := by
  refine ct_start (by decide) [some (.ref a), some (.ref c), none] rfl (Nat.le_of_ble_eq_true rfl) ?_
  intro x hF hN hA hR
  have loop : ∀ (n j : Nat) (i : Int32), k - j < n → j ≤ k → i = nI j → fWr v bg bl bs k 0 = fWr v bg bl bs (k - j) j → go l (rm 4) E x 0 0 (fun H => Bp E a bg bl bs k H ∧ Np E c v fss H) [some (.ref a), some (.ref c), some (.int i)] 2 [] := by
    intro n
    induction n with
    | zero => intro j i h; omega
    | succ n ih =>
      intro j i hn0 hj hi hv
      subst hi
      by_cases hw : isR v (bg j) (bl j) (bs j)
      · refine g_iload_n hF dX0_firstWrong_2 3 rfl rfl ?_
        refine g_aload_n hF dX0_firstWrong_3 4 rfl rfl ?_
        refine g_get hF fl_X0_21 dX0_firstWrong_4 7 rfl (by intro H h; first | exact h.1.1 | exact h.1.2.1) rfl ?_
        refine g_icmp_ge hF dX0_firstWrong_7 10 rfl 27 (by decide) (fun c7 => ?_) (fun c7 => ?_)
        · refine g_iconst hF (-1) dX0_firstWrong_27 28 rfl rfl ?_
          exact g_iret hF dX0_firstWrong_28 (Nat.le_of_ble_eq_true rfl) (Nat.le_of_ble_eq_true rfl) (fun H h => hR _ _ ⟨congrArg (fun z => some (Value.int z)) (by have := i_le c7 (by omega) (by omega); rw [hv, show k - j = 0 by omega]; rfl), h⟩)
        · have hlt : j < k := i_nle c7 (by omega) (by omega)
          refine g_aload_n hF dX0_firstWrong_10 11 rfl rfl ?_
          refine g_iload_n hF dX0_firstWrong_11 12 rfl rfl ?_
          refine g_aload_n hF dX0_firstWrong_12 13 rfl rfl ?_
          refine g_callV hF cv_X0_25 (c_B_isWrong l E a c bg bl bs k j v fss G hG hG4 hn (by omega) 0 (Or.inr ⟨rfl, hw⟩)) dX0_firstWrong_13 16 rfl (st := []) rfl rfl ⟨Nat.le_of_ble_eq_true rfl, Nat.le_of_ble_eq_true rfl⟩ ⟨Nat.le_of_ble_eq_true rfl, Nat.le_of_ble_eq_true rfl⟩ rfl (Nat.le_of_ble_eq_true rfl) 0 rfl (by intro H h; first | exact h.1.1 | exact h.1.2.1) (Pr' := _) (fun _ h => h) (hA) (fun _ _ _ h _ => by exact h) (st1 := [_]) rfl (k1 := 0) (n1 := 0) rfl rfl ?_
          refine g_if_eq hF dX0_firstWrong_16 19 rfl 21 (by decide) (fun _ => ?_) (fun c => absurd (rfl) c)
          refine g_iinc hF dX0_firstWrong_21 24 rfl (1) rfl (lo' := [_, _, _]) rfl rfl ?_
          refine g_goto hF dX0_firstWrong_24 2 (by decide) ?_
          exact ih (j + 1) _ (by omega) (by omega) (nI_succ j).symm (by rw [hv, show k - j = (k - (j + 1)) + 1 by omega]; exact fWr_t hw)
      · refine g_iload_n hF dX0_firstWrong_2 3 rfl rfl ?_
        refine g_aload_n hF dX0_firstWrong_3 4 rfl rfl ?_
        refine g_get hF fl_X0_21 dX0_firstWrong_4 7 rfl (by intro H h; first | exact h.1.1 | exact h.1.2.1) rfl ?_
        refine g_icmp_ge hF dX0_firstWrong_7 10 rfl 27 (by decide) (fun c7 => ?_) (fun c7 => ?_)
        · refine g_iconst hF (-1) dX0_firstWrong_27 28 rfl rfl ?_
          exact g_iret hF dX0_firstWrong_28 (Nat.le_of_ble_eq_true rfl) (Nat.le_of_ble_eq_true rfl) (fun H h => hR _ _ ⟨congrArg (fun z => some (Value.int z)) (by have := i_le c7 (by omega) (by omega); rw [hv, show k - j = 0 by omega]; rfl), h⟩)
        · have hlt : j < k := i_nle c7 (by omega) (by omega)
          refine g_aload_n hF dX0_firstWrong_10 11 rfl rfl ?_
          refine g_iload_n hF dX0_firstWrong_11 12 rfl rfl ?_
          refine g_aload_n hF dX0_firstWrong_12 13 rfl rfl ?_
          refine g_callV hF cv_X0_25 (c_B_isWrong l E a c bg bl bs k j v fss G hG hG4 hn (by omega) 1 (Or.inl ⟨rfl, hw⟩)) dX0_firstWrong_13 16 rfl (st := []) rfl rfl ⟨Nat.le_of_ble_eq_true rfl, Nat.le_of_ble_eq_true rfl⟩ ⟨Nat.le_of_ble_eq_true rfl, Nat.le_of_ble_eq_true rfl⟩ rfl (Nat.le_of_ble_eq_true rfl) 0 rfl (by intro H h; first | exact h.1.1 | exact h.1.2.1) (Pr' := _) (fun _ h => h) (hA) (fun _ _ _ h _ => by exact h) (st1 := [_]) rfl (k1 := 0) (n1 := 0) rfl rfl ?_
          refine g_if_eq hF dX0_firstWrong_16 19 rfl 21 (by decide) (fun c => absurd c ((by decide))) (fun _ => ?_)
          refine g_iload_n hF dX0_firstWrong_19 20 rfl rfl ?_
          exact g_iret hF dX0_firstWrong_20 (Nat.le_of_ble_eq_true rfl) (Nat.le_of_ble_eq_true rfl) (fun H h => hR _ _ ⟨congrArg (fun z => some (Value.int z)) (by rw [hv, show k - j = (k - (j + 1)) + 1 by omega]; exact (fWr_f hw).symm), h⟩)
  refine g_iconst hF (0) dX0_firstWrong_0 1 rfl rfl ?_
  refine g_istore_n hF dX0_firstWrong_1 2 rfl (lo' := [_, _, _]) (Nat.le_of_ble_eq_true rfl) rfl ?_
  exact loop (k + 1) 0 0 (by omega) (by omega) nI_0.symm rfl
