/-! The contracts of Net, Book, Draws, Together over pictures with the hidden rows -/
section CQ
variable {l : Launch} {E : Ev} {y : MethodName} {cc : ByteArray} {nL : Nat} {rt : Option FieldType} {R : Room} {av : List Value} {A : Nat → Prop} {a : Nat} {v v' : NV} {r : Option Value}
theorem Ct.q (h : ∀ fss, fOK v fss → ∃ fss', fOK v' fss' ∧ Ct l E y cc nL rt R av (Np E a v fss) (rV r (Np E a v' fss')) A) : Ct l E y cc nL rt R av (Nq E a v) (rV r (Nq E a v')) A :=
  Ct.ex (fun fss => Ct.pure (fun hf => by
    obtain ⟨fss', h1, h2⟩ := h fss hf
    exact h2.lift (fun _ z => z) (fun _ z => z) (fun _ _ _ _ z _ => ⟨z.1, fss', h1, z.2⟩)))
theorem Ct.g {g : Nat} {gv' : Nat → Int32} (hg : g < 4) (hA : ∀ q, A q → rg (a + 2 + 5 * g) 5 q) (h : ∀ fs, fsOK (v.2.2.2 g) fs → ∃ fs', fsOK gv' fs' ∧ Ct l E y cc nL rt R av (Gp E (a + 2 + 5 * g) (v.2.2.2 g) fs) (rV r (Gp E (a + 2 + 5 * g) gv' fs')) A) : Ct l E y cc nL rt R av (Nq E a v) (rV r (Nq E a (v.1, v.2.1, v.2.2.1, va_up v.2.2.2 g gv'))) A :=
  Ct.ex (fun fss => Ct.pure (fun hf => by
    obtain ⟨fs', h1, h2⟩ := h (fss g) (hf g hg)
    exact h2.lift (fun _ z => z.2.2 g hg) (fun _ z => z) (fun _ H H' hp z ho => ⟨z.1, va_up fss g fs', up2_all hf h1, Np.grp hg hp z.2 ⟨ho.1, fun b hb hn => ho.2 b hb (fun q => hn (hA b q))⟩⟩)))
end CQ
theorem Nq.same {E : Ev} {a g : Nat} {v : NV} {H : Heap} (h : Nq E a (v.1, v.2.1, v.2.2.1, va_up v.2.2.2 g (v.2.2.2 g)) H) : Nq E a v H := by
  obtain ⟨fss, h1, h2⟩ := h
  refine ⟨fss, fun j hj => ?_, Np.to h2 rfl rfl rfl (fun j _ => ⟨va_up_same _ _ _, rfl⟩)⟩
  have := h1 j hj
  rw [show ((v.1, v.2.1, v.2.2.1, va_up v.2.2.2 g (v.2.2.2 g)) : NV).2.2.2 j = v.2.2.2 j from va_up_same _ _ _] at this
  exact this
section NQ
variable {E : Ev} {a g : Nat} {v : NV} {H : Heap}
theorem Nq.nob (h : Nq E a v H) : ob E 6 a [.int v.1, .int v.2.1, .int v.2.2.1, .ref (a + 1)] H := by
  obtain ⟨fss, -, h2⟩ := h
  exact h2.1
theorem Nq.go (hg : g < 4) (h : Nq E a v H) : ob E 3 (a + 2 + 5 * g) (gfs (v.2.2.2 g) (a + 2 + 5 * g)) H := by
  obtain ⟨fss, -, h2⟩ := h
  exact (h2.2.2 g hg).1
theorem Nq.st (hg : g < 4) (h : Nq E a v H) : ai E (a + 2 + 5 * g + 1) 6 (fun l => v.2.2.2 g (10 + 4 * l)) H := by
  obtain ⟨fss, -, h2⟩ := h
  exact (h2.2.2 g hg).2.1
theorem Nq.ho (hg : g < 4) (h : Nq E a v H) : ai E (a + 2 + 5 * g + 2) 6 (fun l => v.2.2.2 g (11 + 4 * l)) H := by
  obtain ⟨fss, -, h2⟩ := h
  exact (h2.2.2 g hg).2.2.1
theorem Nq.cf (hg : g < 4) (h : Nq E a v H) : ai E (a + 2 + 5 * g + 3) 6 (fun l => v.2.2.2 g (12 + 4 * l)) H := by
  obtain ⟨fss, -, h2⟩ := h
  exact (h2.2.2 g hg).2.2.2.1
theorem Nq_wo {H' : Heap} {w : Nat} {z : Int32} (hg : g < 4) (hw : w < 10) {vs : List Value} (hv : vs = gfs (upd (v.2.2.2 g) w z) (a + 2 + 5 * g)) (h : Nq E a v H) (h1 : ob E 3 (a + 2 + 5 * g) vs H') (h2 : but (a + 2 + 5 * g) H H') : Nq E a (v.1, v.2.1, v.2.2.1, va_up v.2.2.2 g (upd (v.2.2.2 g) w z)) H' := by
  obtain ⟨fss, f1, f2⟩ := h
  exact ⟨fss, up_all (P := fun j z => fsOK z (fss j)) f1 ((f1 g hg).cnt hw), Np.up hg rfl f2 (Gp.wo hw hv (f2.2.2 g hg) h1 h2) (out_but ⟨by omega, by omega⟩ h2)⟩
end NQ
section LQ
variable (l : Launch) (E : Ev) (a : Nat) (v : NV)
theorem q_groupAt (G g : Nat) (hG : v.1 = nI G) (hG4 : G ≤ 4) (hg : g < G) : Ct l E yX6_groupAt cX6_groupAt 2 (some (.object "TrunkReserve$Group")) (rm 1) [.ref a, .int (nI g)] (Nq E a v) (rV (some (.ref (a + 2 + 5 * g))) (Nq E a v)) (fun _ => False) := Ct.q (fun fss hf => ⟨fss, hf, c_N_groupAt l E a v fss G g hG hG4 hg⟩)
theorem q_groupAtN (z : Int32) (hz : z < 0 ∨ v.1 ≤ z) : Ct l E yX6_groupAt cX6_groupAt 2 (some (.object "TrunkReserve$Group")) (rm 1) [.ref a, .int z] (Nq E a v) (rV (some .null) (Nq E a v)) (fun _ => False) := Ct.q (fun fss hf => ⟨fss, hf, c_N_groupAtN l E a v fss z hz⟩)
theorem q_gwl (G g N i : Nat) (hG : v.1 = nI G) (hG4 : G ≤ 4) (hg : g < G) (hN0 : v.2.2.2 g 0 = nI N) (hN6 : N ≤ 6) (hi : i < N) : Ct l E yX6_groupWithLine cX6_groupWithLine 4 (some (.object "TrunkReserve$Group")) (rm 2) [.ref a, .int (nI g), .int (nI i)] (Nq E a v) (rV (some (.ref (a + 2 + 5 * g))) (Nq E a v)) (fun _ => False) := Ct.q (fun fss hf => ⟨fss, hf, c_N_gwl l E a v fss G g N i hG hG4 hg hN0 hN6 hi⟩)
theorem q_gwlN (G : Nat) (z w : Int32) (hG : v.1 = nI G) (hG4 : G ≤ 4) (hz : (z < 0 ∨ v.1 ≤ z) ∨ ∃ g, g < G ∧ z = nI g ∧ (w < 0 ∨ v.2.2.2 g 0 ≤ w)) : Ct l E yX6_groupWithLine cX6_groupWithLine 4 (some (.object "TrunkReserve$Group")) (rm 2) [.ref a, .int z, .int w] (Nq E a v) (rV (some .null) (Nq E a v)) (fun _ => False) := Ct.q (fun fss hf => ⟨fss, hf, c_N_gwlN l E a v fss G z w hG hG4 hz⟩)
theorem okN {T : Nat} {v : NV} (hv : okV T v) : ∃ G, v.1 = nI G ∧ 1 ≤ G ∧ G ≤ 4 ∧ v.1.toNatClampNeg = G ∧ (∀ g, g < 4 → okG G T g (v.2.2.2 g)) ∧ ∀ g, g < 4 → ∃ N, N ≤ 6 ∧ v.2.2.2 g 0 = nI N := by
  obtain ⟨hT, G, G1, G4, hG, -, ho⟩ := hv
  exact ⟨G, hG, G1, G4, by rw [hG]; exact nI_clamp (by omega), ho, fun g hg => by obtain ⟨⟨N, -, n6, n0, -⟩, -⟩ := ho g hg; exact ⟨N, n6, n0⟩⟩
theorem q_heldLines (T : Nat) (hv : okV T v) : Ct l E yX6_heldLines cX6_heldLines 3 (some .int) (rm 3) [.ref a] (Nq E a v) (rV (some (.int (sHeld v.2.2.2 v.1.toNatClampNeg))) (Nq E a v)) (fun _ => False) := by
  obtain ⟨G, hG, G1, G4, hc, ho, hn⟩ := okN hv
  rw [hc]
  exact Ct.q (fun fss hf => ⟨fss, hf, c_N_heldLines l E a v fss G hG G4 hn⟩)
theorem q_lostCalls (T : Nat) (hv : okV T v) : Ct l E yX6_lostCalls cX6_lostCalls 3 (some .int) (rm 1) [.ref a] (Nq E a v) (rV (some (.int (sLost v.2.2.2 v.1.toNatClampNeg))) (Nq E a v)) (fun _ => False) := by
  obtain ⟨G, hG, G1, G4, hc, ho, hn⟩ := okN hv
  rw [hc]
  exact Ct.q (fun fss hf => ⟨fss, hf, c_N_lostCalls l E a v fss G hG G4⟩)
theorem q_nextPlace (T G g : Nat) (hv : okV T v) (hG : v.1 = nI G) (hG4 : G ≤ 4) (hg : g < G) : Ct l E yX6_nextPlace cX6_nextPlace 5 (some .int) (rm 3) [.ref a, .int (nI g)] (Nq E a v) (rV (some (.int (sNext v.2.2.2 g))) (Nq E a v)) (fun _ => False) := by
  obtain ⟨hT, G', G1, G4, hG', -, ho⟩ := hv
  have hgg : g < G' := by have := (nI_eq (a := G') (b := G) (by omega) (by omega)).mp (hG'.symm.trans hG); omega
  exact Ct.q (fun fss hf => ⟨fss, hf, c_N_nextPlace l E a v fss G' T g hG' G4 hT ho hf hgg⟩)
theorem q_placeCall (T G g : Nat) (hv : okV T v) (hG : v.1 = nI G) (hG4 : G ≤ 4) (hg : g < G) : Ct l E yX6_placeCall cX6_placeCall 8 (some .int) (rm 4) [.ref a, .int (nI g)] (Nq E a v) (rV (some (.int (sNext v.2.2.2 g))) (Nq E a (sPlace v g))) (rg a 22) := by
  obtain ⟨hT, G', G1, G4, hG', -, ho⟩ := id hv
  obtain rfl : G' = G := (nI_eq (by omega) (by omega)).mp (hG'.symm.trans hG)
  exact Ct.q (fun fss hf => ⟨fss, hf.place hv hG hG4 hg, c_N_placeCall l E a v fss G' T g hG G4 hT ho hf hg⟩)
theorem q_endCall (T g i : Nat) (hv : okV T v) (hg : g < 4) (hi : i < 6) : Ct l E yX6_endCall cX6_endCall 4 (some .int) (rm 2) [.ref a, .ref (a + 2 + 5 * g), .int (nI i)] (Nq E a v) (rV (some (.int (v.2.2.2 g (11 + 4 * i)))) (Nq E a (sEnd v g i))) (rg a 22) := Ct.q (fun fss hf => ⟨_, hf.sEnd hv hg hi, c_N_endCall l E a v fss g i hg hi⟩)
theorem q_mendLine (T g i : Nat) (hv : okV T v) (hg : g < 4) (hi : i < 6) : Ct l E yX6_mendLine cX6_mendLine 3 none (rm 2) [.ref a, .ref (a + 2 + 5 * g), .int (nI i)] (Nq E a v) (rV none (Nq E a (sEnd v g i))) (rg a 22) := Ct.q (fun fss hf => ⟨_, hf.sEnd hv hg hi, c_N_mendLine l E a v fss g i hg hi⟩)
theorem q_breakLine (T g i : Nat) (hv : okV T v) (hg : g < 4) (hi : i < 6) : Ct l E yX6_breakLine cX6_breakLine 5 (some .int) (rm 2) [.ref a, .ref (a + 2 + 5 * g), .int (nI i)] (Nq E a v) (rV (some (.int (v.2.2.2 g (11 + 4 * i)))) (Nq E a (sBrk v g i))) (rg a 22) := by
  obtain ⟨hT, G, G1, G4, hG, -, ho⟩ := id hv
  refine Ct.q (fun fss hf => ⟨_, hf.sBrk hv hg hi, c_N_breakLine l E a v fss G g i hG G4 hg hi ?_⟩)
  rcases (ho g hg).2.2.2.2.2 i hi with ⟨-, q, -⟩ | ⟨-, q⟩ | ⟨-, q⟩
  · exact Or.inl q
  · exact Or.inr q
  · exact Or.inl q
theorem q_begin (G : Nat) : Ct l E yX6_begin cX6_begin 3 none (rm 4) [.ref a, .int (nI G)] (Nq E a v) (rV none (Nq E a (v0 G))) (rg a 22) := Ct.q (fun fss hf => ⟨_, fOK_v0 G, c_N_begin l E a v fss (nI G)⟩)
theorem q_count (w : Int32) (g N : Nat) (hg : g < 4) (hn0 : v.2.2.2 g 0 = nI N) (hn6 : N ≤ 6) : Ct l E yX3_count cX3_count 2 (some .int) (rm 2) [.ref (a + 2 + 5 * g), .int w] (Nq E a v) (rV (some (.int (cnt (v.2.2.2 g) w))) (Nq E a v)) (fun _ => False) := by
  have e : cnt (v.2.2.2 g) w = bitC (sSet (v.2.2.2 g) w N) := by unfold cnt; rw [hn0, nI_clamp (by omega)]
  rw [e]
  exact (Ct.g (v := v) hg (fun q z => z.elim) (fun fs hf => ⟨fs, hf, c_G_count l E (a + 2 + 5 * g) (v.2.2.2 g) fs w N hn0 hn6⟩)).lift (fun _ z => z) (fun _ z => z) (fun _ _ _ _ z _ => ⟨z.1, z.2.same⟩)
theorem q_setOf (w : Int32) (g N : Nat) (hg : g < 4) (hn0 : v.2.2.2 g 0 = nI N) (hn6 : N ≤ 6) : Ct l E yX3_setOf cX3_setOf 4 (some .int) (rm 1) [.ref (a + 2 + 5 * g), .int w] (Nq E a v) (rV (some (.int (sSet (v.2.2.2 g) w N))) (Nq E a v)) (fun _ => False) :=
  (Ct.g (v := v) hg (fun q z => z.elim) (fun fs hf => ⟨fs, hf, c_G_setOf l E (a + 2 + 5 * g) (v.2.2.2 g) fs w N hn0 hn6⟩)).lift (fun _ z => z) (fun _ z => z) (fun _ _ _ _ z _ => ⟨z.1, z.2.same⟩)
theorem q_freeAllLines (g : Nat) (hg : g < 4) : Ct l E yX3_freeAllLines cX3_freeAllLines 1 none (rm 2) [.ref (a + 2 + 5 * g)] (Nq E a v) (rV none (Nq E a (v.1, v.2.1, v.2.2.1, va_up v.2.2.2 g (gFree (v.2.2.2 g))))) (rg (a + 2 + 5 * g) 5) :=
  Ct.g (v := v) hg (fun q z => z) (fun fs hf => ⟨_, fOK_free _, c_G_freeAllLines l E (a + 2 + 5 * g) (v.2.2.2 g) fs⟩)
theorem q_firstWrong (c T k : Nat) (bg bl bs : Nat → Int32) (hv : okV T v) (hk : k ≤ 20) : Ct l E yX0_firstWrong cX0_firstWrong 3 (some .int) (rm 4) [.ref c, .ref a] (fun H => Bp E c bg bl bs k H ∧ Nq E a v H) (rV (some (.int (fWr v bg bl bs k 0))) (fun H => Bp E c bg bl bs k H ∧ Nq E a v H)) (fun _ => False) := by
  obtain ⟨G, hG, G1, G4, hc, ho, hn⟩ := okN hv
  refine Ct.pre (Ct.ex (fun fss => Ct.pure (p := fOK v fss) (fun hf => (c_B_firstWrong l E c a bg bl bs k v fss G hG G4 hn hk).lift (fun _ z => z) (fun _ z => z) (fun _ _ _ _ z _ => ⟨z.1, z.2.1, fss, hf, z.2.2⟩)))) ?_
  rintro H ⟨h1, fss, h2, h3⟩
  exact ⟨fss, h2, h1, h3⟩
theorem q_driftOnce (d s T : Nat) (hs : s < 2 ^ 31) (hv : okV T v) (hd : ¬ rg a 22 d) : Ct l E yX1_driftOnce cX1_driftOnce 6 none (rm 5) [.ref d, .ref a] (fun H => Dp E d s H ∧ Nq E a v H) (rV none (fun H => Dp E d (sDr s v).1 H ∧ Nq E a (sDr s v).2 H)) (fun q => q = d ∨ rg a 22 q) := by
  refine Ct.pre (Ct.ex (fun fss => Ct.pure (p := fOK v fss) (fun hf => c_D_driftOnce l E d a s v fss T hs hv hf hd))) ?_
  rintro H ⟨h1, fss, h2, h3⟩
  exact ⟨fss, h2, h1, h3⟩
theorem q_settle (t w : Nat) (tl tn ts : Nat → Int32) (r : Int32) (wf : Nat → Int64) (x y : Int32) (T : Nat) (hv : okV T v) (hst : still v) (hac : t + 4 ≤ a ∨ a + 22 ≤ t) (haw : t + 4 ≤ w ∨ w + 2 ≤ t) (hcw : a + 22 ≤ w ∨ w + 2 ≤ a) : Ct l E yX7_settle cX7_settle 5 none (rm 4) [.ref t, .ref a, .ref w] (fun H => Tp E t tl tn ts r H ∧ Nq E a v H ∧ Wp E w wf x y H) (rV none (fun H => ∃ tl tn ts wf x y, ((∀ g, g < 4 → tl g = nI (sB v g)) ∧ (∀ g, g < v.1.toNatClampNeg → ts g = nI (sP v g))) ∧ Tp E t tl tn ts (nI (sRd v)) H ∧ Nq E a v H ∧ Wp E w wf x y H)) (fun q => rg t 4 q ∨ rg w 2 q) := by
  refine Ct.pre (Ct.ex (fun fss => Ct.pure (p := fOK v fss) (fun hf => (c_T_settle l E t a w tl tn ts r v fss wf x y T hv hst hac haw hcw).lift (fun _ z => z) (fun _ z => z) (fun _ H H' _ z _ => ?_)))) ?_
  · obtain ⟨z1, tl, tn, ts, wf, x, y, z2, z3, z4, z5, z6⟩ := z
    exact ⟨z1, tl, tn, ts, wf, x, y, ⟨z2, z3⟩, z4, ⟨fss, hf, z5⟩, z6⟩
  · rintro H ⟨h1, ⟨fss, h2, h3⟩, h4⟩
    exact ⟨fss, h2, h1, h3, h4⟩
end LQ
set_option maxRecDepth 100000 in
set_option maxHeartbeats 8000000 in
theorem c_isWithin (l : Launch) (E : Ev) (z a b : Int32) (P : Heap → Prop) (r : Int32) (hr : r = if a ≤ z ∧ z ≤ b then 1 else 0) : Ct l E yX9_isWithin cX9_isWithin 3 (some .boolean) (rm 1) [.int z, .int a, .int b] P (rV (some (.int r)) P) (fun _ => False) := by
  refine ct_start (by decide) [some (.int z), some (.int a), some (.int b)] rfl (Nat.le_of_ble_eq_true rfl) ?_
  intro x hF hN hA hR
  subst hr
  refine g_iload_n hF dX9_isWithin_0 1 rfl rfl ?_
  refine g_iload_n hF dX9_isWithin_1 2 rfl rfl ?_
  refine g_icmp_lt hF dX9_isWithin_2 5 rfl 14 (by decide) (fun c2 => ?_) (fun c2 => ?_)
  · refine g_iconst hF (0) dX9_isWithin_14 15 rfl rfl ?_
    exact g_zret hF (rfl) dX9_isWithin_15 (Nat.le_of_ble_eq_true rfl) (Nat.le_of_ble_eq_true rfl) (fun H h => hR _ _ ⟨congrArg (fun z => some (Value.int z)) ((if_neg (fun h => absurd h.1 (Int32.not_le.mpr c2))).symm), h⟩)
  · refine g_iload_n hF dX9_isWithin_5 6 rfl rfl ?_
    refine g_iload_n hF dX9_isWithin_6 7 rfl rfl ?_
    refine g_icmp_gt hF dX9_isWithin_7 10 rfl 14 (by decide) (fun c7 => ?_) (fun c7 => ?_)
    · refine g_iconst hF (0) dX9_isWithin_14 15 rfl rfl ?_
      exact g_zret hF (rfl) dX9_isWithin_15 (Nat.le_of_ble_eq_true rfl) (Nat.le_of_ble_eq_true rfl) (fun H h => hR _ _ ⟨congrArg (fun z => some (Value.int z)) ((if_neg (fun h => absurd h.2 (Int32.not_le.mpr c7))).symm), h⟩)
    · refine g_iconst hF (1) dX9_isWithin_10 11 rfl rfl ?_
      refine g_goto hF dX9_isWithin_11 15 (by decide) ?_
      exact g_zret hF (rfl) dX9_isWithin_15 (Nat.le_of_ble_eq_true rfl) (Nat.le_of_ble_eq_true rfl) (fun H h => hR _ _ ⟨congrArg (fun z => some (Value.int z)) ((if_pos ⟨Int32.not_lt.mp c2, Int32.not_lt.mp c7⟩).symm), h⟩)
