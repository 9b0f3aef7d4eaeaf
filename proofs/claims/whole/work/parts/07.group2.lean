/-! Group: counting, choosing, writing, copying -/
theorem wd_ac1 : Cond.methodLink RX3 64 arraycopyName ∈ tG := tm2 (List.mem_of_getElem? (i := 200) rfl) rfl
theorem wd_ac2 : Cond.static arraycopyName ∈ tG := tm2 (List.mem_of_getElem? (i := 201) rfl) rfl
theorem wd_ac3 : Cond.native arraycopyName ∈ tG := tm2 (List.mem_of_getElem? (i := 202) rfl) rfl
theorem wd_ac4 : Cond.initialized "java/lang/System" ∈ tG := tm1 (List.mem_of_getElem? (i := 15) rfl) rfl
section GC
variable {l : Launch} {R : Room} {E : Ev} {x : Cx} {k n : Nat} {Pr Pr' : Heap → Prop} {lo : List (Option Value)} {pc : Nat} {st : List Value} {cc : ByteArray} {rt : Option FieldType} {nL : Nat}
/-- System.arraycopy of six ints from the first on -/
theorem g_copy6 (hF : fx E x RX3 cc rt nL) {a0 a : Nat} {f g : Nat → Int32} (d : decode cc pc = .ok (.invokestatic 64, 3)) (q : Nat) (hq : pc + 3 = q) (rd0 : ∀ H, Pr H → ai E a0 6 f H) (rd1 : ∀ H, Pr H → ai E a 6 g H) (hA : arx x a) (hfr : 1 ≤ R.frames) (hlo : (st.map fun v => v.category).sum + (nativeFrameWords "java/lang/System" "arraycopy" 5 + 11) ≤ R.locals) (hlen : lo.length = nL)
    (wr : ∀ H H', Pr H → ai E a 6 f H' → but a H H' → Pr' H') (h : go l R E x k n Pr' lo q st) : go l R E x k n Pr lo pc (.int 6 :: .int 0 :: .ref a :: .int 0 :: .ref a0 :: st) := by
  obtain ⟨p, e, s, m, args, below, meth, c, A, Rt⟩ := x
  subst hq
  intro H ls locs hP hl hS T hT X
  have hts := hF.2.2.2.2.1
  have hc0 : H[a0]? = some (vp_cell E.2.1 (6, .inl f)) := rd0 H hP
  have hc1 : H[a]? = some (vp_cell E.2.1 (6, .inl g)) := rd1 H hP
  obtain ⟨-, k0, hk0, cm0, hkk0⟩ := (hF.2.2.2.2.2.1.1.2 0 _ rfl).1 6 (fun j => .int (f j))
  have z6 : (6 : Int32).toNatClampNeg = 6 := by decide
  have z0 : (0 : Int32).toNatClampNeg = 0 := by decide
  obtain ⟨vm', X', step⟩ := X.arraycopy hF.1 hF.2.2.2.1 (hts _ wd_ac1) (hts _ wd_ac3) (hts _ wd_ac2) (hts _ wd_ac4) (src := a0) (dst := a) (cs := vp_cell E.2.1 (6, .inl f)) (cd := vp_cell E.2.1 (6, .inl g)) (srcPos := 0) (destPos := 0) (n := 6) (by rw [hT]; exact hc0) (by rw [hT]; exact hc1)
    (fun _ h => by cases h) (fun _ h => by cases h) (fun h => by cases h) (fun h => by cases h) hk0 hk0 hkk0 hkk0 rfl (by decide) (by decide) (by decide)
    (by show ¬ _ > ((arrV E.2.1 6 (fun j => .int (f j))).slots.size : Int); rw [arrV_size]; decide)
    (by show ¬ _ > ((arrV E.2.1 6 (fun j => .int (g j))).slots.size : Int); rw [arrV_size]; decide)
    (fun vm₁ _ i hi => by
      have e : (vp_cell E.2.1 (6, .inl f)).slots.getD ((0 : Int32).toNatClampNeg + i) .null = .int (f i) := by
        show (arrV E.2.1 6 (fun j => .int (f j))).slots.getD _ _ = _
        rw [z6] at hi
        rw [z0, Nat.zero_add, Array.getD_eq_getD_getElem?, arrV_read _ _ hi]
        rfl
      rw [e]
      exact ⟨rfl, trivial⟩)
    (g := F0 m pc ls (.int 6 :: .int 0 :: .ref a :: .int 0 :: .ref a0 :: st)) rfl (by show ls.size = _; rw [hl.1, hlen]; exact hF.2.2.1.symm) (rest := st) rfl (by rw [hF.2.1]; exact d) hfr (by show 2 * 0 + _ + _ ≤ _; omega)
  have e1 : copied (vp_cell E.2.1 (6, .inl f)) (vp_cell E.2.1 (6, .inl g)) 0 0 6 = vp_cell E.2.1 (6, .inl (va_cpy f g (0 : Int32).toNatClampNeg (0 : Int32).toNatClampNeg (6 : Int32).toNatClampNeg)) := va_copied (fun z => .int z) E.2.1 E.2.1 f g (by rw [z0, z6]; exact Nat.le_refl 6)
  rw [e1, z0, z6] at X' step
  have hla : a < H.size := (Array.getElem?_eq_some_iff.mp hc1).1
  have hheap : ((T.setVm vm').setCell a (vp_cell E.2.1 (6, .inl (va_cpy f g 0 0 6)))).heap = H.setIfInBounds a (vp_cell E.2.1 (6, .inl (va_cpy f g 0 0 6))) := by rw [← hT]; rfl
  have oq : ∀ q : Nat, q ≠ a → (H.setIfInBounds a (vp_cell E.2.1 (6, .inl (va_cpy f g 0 0 6))))[q]? = H[q]? := fun q hq => by simp [Array.getElem?_setIfInBounds, Ne.symm hq]
  have hnew : ai E a 6 f (H.setIfInBounds a (vp_cell E.2.1 (6, .inl (va_cpy f g 0 0 6)))) := by
    refine ai_congr (f := va_cpy f g 0 0 6) (fun j hj => ?_) (show (H.setIfInBounds a _)[a]? = some _ by simp [Array.getElem?_setIfInBounds, hla])
    rw [pk_cpy_in (by omega) (by omega)]
    congr 1
    omega
  obtain ⟨t, a1, b1⟩ := h (H.setIfInBounds a (vp_cell E.2.1 (6, .inl (va_cpy f g 0 0 6)))) ls _ (wr H _ hP hnew ⟨by simp, oq⟩) hl ⟨by simp; exact hS.1, fun q g1 g2 => by
      rw [oq q (fun e => g2 (by rw [e]; exact hA))]
      exact hS.2.1 q g1 g2, fun q hq => by
      rcases List.mem_append.mp hq with h | h
      · exact hS.2.2 q h
      · obtain ⟨z, -, hz⟩ := List.mem_map.mp h
        rw [← hz]
        exact hA⟩ _ hheap X'
  exact ⟨t, step t a1, b1⟩
end GC
theorem i_sub1 (z : Int32) : z - 1 = z + (-1) := by rw [Int32.sub_eq_add_neg]
set_option maxRecDepth 100000 in
set_option maxHeartbeats 4000000 in
theorem c_G_count (l : Launch) (E : Ev) (a : Nat) (gv fs : Nat → Int32) (w : Int32) (N : Nat) (hn0 : gv 0 = nI N) (hn6 : N ≤ 6) : Ct l E yX3_count cX3_count 2 (some .int) (rm 2) [.ref a, .int w] (Gp E a gv fs) (rV (some (.int (bitC (sSet gv w N)))) (Gp E a gv fs)) (fun _ => False) := by
  refine ct_start (by decide) [some (.ref a), some (.int w)] rfl (Nat.le_of_ble_eq_true rfl) ?_
  intro x hF hN hA hR
  refine g_aload_n hF dX3_count_0 1 rfl rfl ?_
  refine g_iload_n hF dX3_count_1 2 rfl rfl ?_
  refine g_callV hF cv_X3_70 (c_G_setOf l E a gv fs w N hn0 hn6) dX3_count_2 5 rfl (st := []) rfl rfl ⟨Nat.le_of_ble_eq_true rfl, Nat.le_of_ble_eq_true rfl⟩ ⟨Nat.le_of_ble_eq_true rfl, Nat.le_of_ble_eq_true rfl⟩ rfl (Nat.le_of_ble_eq_true rfl) 3 rfl (by intro H h; first | exact h.1 | exact h.2.1 | exact h.2.2.1 | exact h.2.2.2.1 | exact h.2.2.2.2) (Pr' := _) (fun _ h => h) (hA) (fun _ _ _ h _ => h) (st1 := [_]) rfl (k1 := 0) (n1 := 0) rfl rfl ?_
  refine g_callS hF cs_X3_74 (c_bitCount l E (sSet gv w N) (Gp E a gv fs)) dX3_count_5 8 rfl (st := []) rfl rfl ⟨Nat.le_of_ble_eq_true rfl, Nat.le_of_ble_eq_true rfl⟩ ⟨Nat.le_of_ble_eq_true rfl, Nat.le_of_ble_eq_true rfl⟩ rfl (Nat.le_of_ble_eq_true rfl) (Pr' := _) (fun _ h => h) (hA) (fun _ _ _ h _ => h) (st1 := [_]) rfl (k1 := 0) (n1 := 0) rfl rfl ?_
  exact g_iret hF dX3_count_8 (Nat.le_of_ble_eq_true rfl) (Nat.le_of_ble_eq_true rfl) (fun H h => hR _ _ ⟨congrArg (fun z => some (Value.int z)) (rfl), h⟩)
set_option maxRecDepth 100000 in
set_option maxHeartbeats 4000000 in
theorem c_G_hasLine (l : Launch) (E : Ev) (a : Nat) (gv fs : Nat → Int32) (z : Int32) : Ct l E yX3_hasLine cX3_hasLine 2 (some .boolean) (rm 1) [.ref a, .int z] (Gp E a gv fs) (rV (some (.int (if 0 ≤ z ∧ z < gv 0 then 1 else 0))) (Gp E a gv fs)) (fun _ => False) := by
  refine ct_start (by decide) [some (.ref a), some (.int z)] rfl (Nat.le_of_ble_eq_true rfl) ?_
  intro x hF hN hA hR
  have J : ∀ v : Int32, (v = 0 ∨ v = 1) → v = (if 0 ≤ z ∧ z < gv 0 then 1 else 0) → go l (rm 1) E x 0 0 (Gp E a gv fs) [some (.ref a), some (.int z)] 17 [.int v] := by
    intro v hv he
    exact g_zret hF (by rcases hv with rfl | rfl <;> rfl) dX3_hasLine_17 (Nat.le_of_ble_eq_true rfl) (Nat.le_of_ble_eq_true rfl) (fun H h => hR _ _ ⟨congrArg (fun z => some (Value.int z)) (he), h⟩)
  refine g_iload_n hF dX3_hasLine_0 1 rfl rfl ?_
  refine g_if_lt hF dX3_hasLine_1 4 rfl 16 (by decide) (fun c1 => ?_) (fun c1 => ?_)
  · refine g_iconst hF (0) dX3_hasLine_16 17 rfl rfl ?_
    first | exact J 0 (Or.inl rfl) (if_neg (fun h => absurd h.1 (Int32.not_le.mpr c1))).symm | exact J 0 (Or.inl rfl) (if_neg (fun h => absurd h.2 (Int32.not_lt.mpr c9))).symm | exact J 1 (Or.inr rfl) (if_pos ⟨Int32.not_lt.mp c1, Int32.not_le.mp c9⟩).symm
  · refine g_iload_n hF dX3_hasLine_4 5 rfl rfl ?_
    refine g_aload_n hF dX3_hasLine_5 6 rfl rfl ?_
    refine g_get hF fl_X3_24 dX3_hasLine_6 9 rfl (by intro H h; first | exact h.1 | exact h.2.1 | exact h.2.2.1 | exact h.2.2.2.1 | exact h.2.2.2.2) rfl ?_
    refine g_icmp_ge hF dX3_hasLine_9 12 rfl 16 (by decide) (fun c9 => ?_) (fun c9 => ?_)
    · refine g_iconst hF (0) dX3_hasLine_16 17 rfl rfl ?_
      first | exact J 0 (Or.inl rfl) (if_neg (fun h => absurd h.1 (Int32.not_le.mpr c1))).symm | exact J 0 (Or.inl rfl) (if_neg (fun h => absurd h.2 (Int32.not_lt.mpr c9))).symm | exact J 1 (Or.inr rfl) (if_pos ⟨Int32.not_lt.mp c1, Int32.not_le.mp c9⟩).symm
    · refine g_iconst hF (1) dX3_hasLine_12 13 rfl rfl ?_
      refine g_goto hF dX3_hasLine_13 17 (by decide) ?_
      first | exact J 0 (Or.inl rfl) (if_neg (fun h => absurd h.1 (Int32.not_le.mpr c1))).symm | exact J 0 (Or.inl rfl) (if_neg (fun h => absurd h.2 (Int32.not_lt.mpr c9))).symm | exact J 1 (Or.inr rfl) (if_pos ⟨Int32.not_lt.mp c1, Int32.not_le.mp c9⟩).symm
/-- the first free line in the ring from s on, of N, with so many steps left -/
def fFrom (gv : Nat → Int32) (N s : Nat) : Nat → Nat → Int32
  | 0, _ => -1
  | d + 1, i => if gv (10 + 4 * ((s + i) % N)) = 0 then nI ((s + i) % N) else fFrom gv N s d (i + 1)
set_option maxRecDepth 100000 in
set_option maxHeartbeats 4000000 in
theorem c_G_firstFreeFrom (l : Launch) (E : Ev) (a : Nat) (gv fs : Nat → Int32) (N s : Nat) (hn0 : gv 0 = nI N) (hn1 : 1 ≤ N) (hn6 : N ≤ 6) (hs : s ≤ 6) : Ct l E yX3_firstFreeFrom cX3_firstFreeFrom 4 (some .int) (rm 1) [.ref a, .int (nI s)] (Gp E a gv fs) (rV (some (.int (fFrom gv N s N 0))) (Gp E a gv fs)) (fun _ => False) := by
  refine ct_start (by decide) [some (.ref a), some (.int (nI s)), none, none] rfl (Nat.le_of_ble_eq_true rfl) ?_
  intro x hF hN hA hR
  have loop : ∀ (n j : Nat) (i : Int32), N - j < n → j ≤ N → i = nI j → fFrom gv N s N 0 = fFrom gv N s (N - j) j → go l (rm 1) E x 0 0 (Gp E a gv fs) [some (.ref a), some (.int (nI s)), some (.int i), none] 2 [] := by
    intro n
    induction n with
    | zero => intro j i h; omega
    | succ n ih =>
      intro j i hn hj hi hv
      subst hi
      have hm : (s + j) % N < N := Nat.mod_lt _ (by omega)
      have hcl : (nI ((s + j) % N)).toNatClampNeg = (s + j) % N := nI_clamp (by omega)
      refine g_iload_n hF dX3_firstFreeFrom_2 3 rfl rfl ?_
      refine g_aload_n hF dX3_firstFreeFrom_3 4 rfl rfl ?_
      refine g_get hF fl_X3_24 dX3_firstFreeFrom_4 7 rfl (by intro H h; first | exact h.1 | exact h.2.1 | exact h.2.2.1 | exact h.2.2.2.1 | exact h.2.2.2.2) rfl ?_
      refine g_icmp_ge hF dX3_firstFreeFrom_7 10 rfl 36 (by decide) (fun c7 => ?_) (fun c7 => ?_)
      · refine g_iconst hF (-1) dX3_firstFreeFrom_36 37 rfl rfl ?_
        exact g_iret hF dX3_firstFreeFrom_37 (Nat.le_of_ble_eq_true rfl) (Nat.le_of_ble_eq_true rfl) (fun H h => hR _ _ ⟨congrArg (fun z => some (Value.int z)) (by have := i_le (hn0 ▸ c7) (by omega) (by omega); rw [hv, show N - j = 0 by omega]; rfl), h⟩)
      · have hlt : j < N := i_nle (hn0 ▸ c7) (by omega) (by omega)
        obtain ⟨d, hd⟩ : ∃ d, N - j = d + 1 := ⟨N - j - 1, by omega⟩
        rw [hd] at hv
        refine g_iload_n hF dX3_firstFreeFrom_10 11 rfl rfl ?_
        refine g_iload_n hF dX3_firstFreeFrom_11 12 rfl rfl ?_
        refine g_iadd hF dX3_firstFreeFrom_12 13 rfl ?_
        refine g_aload_n hF dX3_firstFreeFrom_13 14 rfl rfl ?_
        refine g_get hF fl_X3_24 dX3_firstFreeFrom_14 17 rfl (by intro H h; first | exact h.1 | exact h.2.1 | exact h.2.2.1 | exact h.2.2.2.1 | exact h.2.2.2.2) rfl ?_
        refine g_irem hF dX3_firstFreeFrom_17 18 rfl (by rw [hn0]; exact nI_ne0 (by omega) (by omega)) ?_
        rw [hn0, nI_add, pk_rem (by omega) (by omega) (by omega)]
        refine g_istore_n hF dX3_firstFreeFrom_18 19 rfl (lo' := [_, _, _, _]) (Nat.le_of_ble_eq_true rfl) rfl ?_
        refine g_aload_n hF dX3_firstFreeFrom_19 20 rfl rfl ?_
        refine g_get hF fl_X3_9 dX3_firstFreeFrom_20 23 rfl (by intro H h; first | exact h.1 | exact h.2.1 | exact h.2.2.1 | exact h.2.2.2.1 | exact h.2.2.2.2) rfl ?_
        refine g_iload_n hF dX3_firstFreeFrom_23 24 rfl rfl ?_
        refine g_iald hF dX3_firstFreeFrom_24 25 rfl (by intro H h; first | exact h.1 | exact h.2.1 | exact h.2.2.1 | exact h.2.2.2.1 | exact h.2.2.2.2) (vp_in_nI (show (s + j) % N < 6 by omega) (by omega)) ?_
        refine g_if_ne hF dX3_firstFreeFrom_25 28 rfl 30 (by decide) (fun c25 => ?_) (fun c25 => ?_)
        · rw [hcl] at c25
          refine g_iinc hF dX3_firstFreeFrom_30 33 rfl (1) rfl (lo' := [_, _, _, _]) rfl rfl ?_
          refine g_goto hF dX3_firstFreeFrom_33 2 (by decide) ?_
          refine g_cut [true, true, true, false] (lo' := [_, _, _, _]) rfl ?_
          exact ih (j + 1) _ (by omega) (by omega) (nI_succ j).symm (by rw [hv, show N - (j + 1) = d by omega]; exact if_neg c25)
        · rw [hcl] at c25
          refine g_iload_n hF dX3_firstFreeFrom_28 29 rfl rfl ?_
          exact g_iret hF dX3_firstFreeFrom_29 (Nat.le_of_ble_eq_true rfl) (Nat.le_of_ble_eq_true rfl) (fun H h => hR _ _ ⟨congrArg (fun z => some (Value.int z)) (by rw [hv]; exact (if_pos c25).symm), h⟩)
  refine g_iconst hF (0) dX3_firstFreeFrom_0 1 rfl rfl ?_
  refine g_istore_n hF dX3_firstFreeFrom_1 2 rfl (lo' := [_, _, _, _]) (Nat.le_of_ble_eq_true rfl) rfl ?_
  exact loop (N + 1) 0 0 (by omega) (by omega) nI_0.symm rfl
def fLast (gv : Nat → Int32) : Nat → Int32
  | 0 => -1
  | j + 1 => if gv (10 + 4 * j) = 0 then nI j else fLast gv j
set_option maxRecDepth 100000 in
set_option maxHeartbeats 4000000 in
theorem c_G_lastFree (l : Launch) (E : Ev) (a : Nat) (gv fs : Nat → Int32) (N : Nat) (hn0 : gv 0 = nI N) (hn6 : N ≤ 6) : Ct l E yX3_lastFree cX3_lastFree 2 (some .int) (rm 1) [.ref a] (Gp E a gv fs) (rV (some (.int (fLast gv N))) (Gp E a gv fs)) (fun _ => False) := by
  refine ct_start (by decide) [some (.ref a), none] rfl (Nat.le_of_ble_eq_true rfl) ?_
  intro x hF hN hA hR
  have loop : ∀ (j : Nat) (i : Int32), j ≤ 6 → i = nI j + (-1) → fLast gv N = fLast gv j → go l (rm 1) E x 0 0 (Gp E a gv fs) [some (.ref a), some (.int i)] 7 [] := by
    intro j
    induction j with
    | zero =>
      intro i hj hi hv
      subst hi
      refine g_iload_n hF dX3_lastFree_7 8 rfl rfl ?_
      refine g_if_lt hF dX3_lastFree_8 11 rfl 28 (by decide) (fun _ => ?_) (fun c => absurd ((by decide)) c)
      refine g_iconst hF (-1) dX3_lastFree_28 29 rfl rfl ?_
      exact g_iret hF dX3_lastFree_29 (Nat.le_of_ble_eq_true rfl) (Nat.le_of_ble_eq_true rfl) (fun H h => hR _ _ ⟨congrArg (fun z => some (Value.int z)) (hv.symm), h⟩)
    | succ j ih =>
      intro i hj hi hv
      have hi2 : i = nI j := by rw [hi]; exact pk_m1 j
      subst hi2
      have hcl : (nI j).toNatClampNeg = j := nI_clamp (by omega)
      refine g_iload_n hF dX3_lastFree_7 8 rfl rfl ?_
      refine g_if_lt hF dX3_lastFree_8 11 rfl 28 (by decide) (fun c => absurd c (nI_pos (by omega))) (fun _ => ?_)
      refine g_aload_n hF dX3_lastFree_11 12 rfl rfl ?_
      refine g_get hF fl_X3_9 dX3_lastFree_12 15 rfl (by intro H h; first | exact h.1 | exact h.2.1 | exact h.2.2.1 | exact h.2.2.2.1 | exact h.2.2.2.2) rfl ?_
      refine g_iload_n hF dX3_lastFree_15 16 rfl rfl ?_
      refine g_iald hF dX3_lastFree_16 17 rfl (by intro H h; first | exact h.1 | exact h.2.1 | exact h.2.2.1 | exact h.2.2.2.1 | exact h.2.2.2.2) (vp_in_nI (show j < 6 by omega) (by omega)) ?_
      refine g_if_ne hF dX3_lastFree_17 20 rfl 22 (by decide) (fun c17 => ?_) (fun c17 => ?_)
      · rw [hcl] at c17
        refine g_iinc hF dX3_lastFree_22 25 rfl (-1) rfl (lo' := [_, _]) rfl rfl ?_
        refine g_goto hF dX3_lastFree_25 7 (by decide) ?_
        exact ih _ (by omega) rfl (by rw [hv]; exact if_neg c17)
      · rw [hcl] at c17
        refine g_iload_n hF dX3_lastFree_20 21 rfl rfl ?_
        exact g_iret hF dX3_lastFree_21 (Nat.le_of_ble_eq_true rfl) (Nat.le_of_ble_eq_true rfl) (fun H h => hR _ _ ⟨congrArg (fun z => some (Value.int z)) (by rw [hv]; exact (if_pos c17).symm), h⟩)
  refine g_aload_n hF dX3_lastFree_0 1 rfl rfl ?_
  refine g_get hF fl_X3_24 dX3_lastFree_1 4 rfl (by intro H h; first | exact h.1 | exact h.2.1 | exact h.2.2.1 | exact h.2.2.2.1 | exact h.2.2.2.2) rfl ?_
  refine g_iconst hF (1) dX3_lastFree_4 5 rfl rfl ?_
  refine g_isub hF dX3_lastFree_5 6 rfl ?_
  rw [hn0, i_sub1]
  refine g_istore_n hF dX3_lastFree_6 7 rfl (lo' := [_, _]) (Nat.le_of_ble_eq_true rfl) rfl ?_
  exact loop N _ hn6 rfl rfl
/-- of the free lines the one with the least key, of like ones the first -/
def fLg (sv key : Nat → Int32) : Nat → Int32
  | 0 => -1
  | j + 1 => if sv j = 0 ∧ (fLg sv key j = -1 ∨ key j < key (fLg sv key j).toNatClampNeg) then nI j else fLg sv key j
theorem fLg_rng (sv key : Nat → Int32) : ∀ j, fLg sv key j = -1 ∨ ∃ t, t < j ∧ fLg sv key j = nI t ∧ sv t = 0
  | 0 => Or.inl rfl
  | j + 1 => by
    rcases fLg_rng sv key j with h | ⟨t, h1, h2, h3⟩ <;> by_cases hc : sv j = 0 ∧ (fLg sv key j = -1 ∨ key j < key (fLg sv key j).toNatClampNeg)
    · exact Or.inr ⟨j, by omega, if_pos hc, hc.1⟩
    · exact Or.inl ((if_neg hc).trans h)
    · exact Or.inr ⟨j, by omega, if_pos hc, hc.1⟩
    · exact Or.inr ⟨t, by omega, (if_neg hc).trans h2, h3⟩
set_option maxRecDepth 100000 in
set_option maxHeartbeats 4000000 in
theorem c_G_longestFree (l : Launch) (E : Ev) (a : Nat) (gv fs : Nat → Int32) (N : Nat) (hn0 : gv 0 = nI N) (hn6 : N ≤ 6) : Ct l E yX3_longestFree cX3_longestFree 3 (some .int) (rm 1) [.ref a] (Gp E a gv fs) (rV (some (.int (fLg (fun l => gv (10 + 4 * l)) fs N))) (Gp E a gv fs)) (fun _ => False) := by
  refine ct_start (by decide) [some (.ref a), none, none] rfl (Nat.le_of_ble_eq_true rfl) ?_
  intro x hF hN hA hR
  have loop : ∀ (n j : Nat) (b i : Int32), N - j < n → j ≤ N → i = nI j → b = fLg (fun l => gv (10 + 4 * l)) fs j → go l (rm 1) E x 0 0 (Gp E a gv fs) [some (.ref a), some (.int b), some (.int i)] 4 [] := by
    intro n
    induction n with
    | zero => intro j b i h; omega
    | succ n ih =>
      intro j b i hn hj hi hb
      subst hi
      have hcl : (nI j).toNatClampNeg = j := nI_clamp (by omega)
      refine g_iload_n hF dX3_longestFree_4 5 rfl rfl ?_
      refine g_aload_n hF dX3_longestFree_5 6 rfl rfl ?_
      refine g_get hF fl_X3_24 dX3_longestFree_6 9 rfl (by intro H h; first | exact h.1 | exact h.2.1 | exact h.2.2.1 | exact h.2.2.2.1 | exact h.2.2.2.2) rfl ?_
      refine g_icmp_ge hF dX3_longestFree_9 12 rfl 49 (by decide) (fun c9 => ?_) (fun c9 => ?_)
      · refine g_iload_n hF dX3_longestFree_49 50 rfl rfl ?_
        exact g_iret hF dX3_longestFree_50 (Nat.le_of_ble_eq_true rfl) (Nat.le_of_ble_eq_true rfl) (fun H h => hR _ _ ⟨congrArg (fun z => some (Value.int z)) (by have := i_le (hn0 ▸ c9) (by omega) (by omega); rw [hb, show j = N by omega]), h⟩)
      · have hlt : j < N := i_nle (hn0 ▸ c9) (by omega) (by omega)
        refine g_aload_n hF dX3_longestFree_12 13 rfl rfl ?_
        refine g_get hF fl_X3_9 dX3_longestFree_13 16 rfl (by intro H h; first | exact h.1 | exact h.2.1 | exact h.2.2.1 | exact h.2.2.2.1 | exact h.2.2.2.2) rfl ?_
        refine g_iload_n hF dX3_longestFree_16 17 rfl rfl ?_
        refine g_iald hF dX3_longestFree_17 18 rfl (by intro H h; first | exact h.1 | exact h.2.1 | exact h.2.2.1 | exact h.2.2.2.1 | exact h.2.2.2.2) (vp_in_nI (show j < 6 by omega) (by omega)) ?_
        rw [hcl]
        refine g_if_ne hF dX3_longestFree_18 21 rfl 43 (by decide) (fun c18 => ?_) (fun c18 => ?_)
        · refine g_iinc hF dX3_longestFree_43 46 rfl (1) rfl (lo' := [_, _, _]) rfl rfl ?_
          refine g_goto hF dX3_longestFree_46 4 (by decide) ?_
          subst hb
          exact ih (j + 1) _ _ (by omega) (by omega) (nI_succ j).symm (if_neg (fun h => c18 h.1)).symm
        · refine g_iload_n hF dX3_longestFree_21 22 rfl rfl ?_
          refine g_iconst hF (-1) dX3_longestFree_22 23 rfl rfl ?_
          refine g_icmp_eq hF dX3_longestFree_23 26 rfl 41 (by decide) (fun c23 => ?_) (fun c23 => ?_)
          · refine g_iload_n hF dX3_longestFree_41 42 rfl rfl ?_
            refine g_istore_n hF dX3_longestFree_42 43 rfl (lo' := [_, _, _]) (Nat.le_of_ble_eq_true rfl) rfl ?_
            refine g_iinc hF dX3_longestFree_43 46 rfl (1) rfl (lo' := [_, _, _]) rfl rfl ?_
            refine g_goto hF dX3_longestFree_46 4 (by decide) ?_
            subst hb
            exact ih (j + 1) _ _ (by omega) (by omega) (nI_succ j).symm (if_pos ⟨c18, Or.inl c23⟩).symm
          · have hbr : vp_in b 6 := by rcases fLg_rng (fun l => gv (10 + 4 * l)) fs j with h | ⟨t, h1, h2, -⟩; exact absurd (hb.trans h) c23; rw [hb, h2]; exact vp_in_nI (by omega) (by omega)
            refine g_aload_n hF dX3_longestFree_26 27 rfl rfl ?_
            refine g_get hF fl_X3_21 dX3_longestFree_27 30 rfl (by intro H h; first | exact h.1 | exact h.2.1 | exact h.2.2.1 | exact h.2.2.2.1 | exact h.2.2.2.2) rfl ?_
            refine g_iload_n hF dX3_longestFree_30 31 rfl rfl ?_
            refine g_iald hF dX3_longestFree_31 32 rfl (by intro H h; first | exact h.1 | exact h.2.1 | exact h.2.2.1 | exact h.2.2.2.1 | exact h.2.2.2.2) (vp_in_nI (show j < 6 by omega) (by omega)) ?_
            rw [hcl]
            refine g_aload_n hF dX3_longestFree_32 33 rfl rfl ?_
            refine g_get hF fl_X3_21 dX3_longestFree_33 36 rfl (by intro H h; first | exact h.1 | exact h.2.1 | exact h.2.2.1 | exact h.2.2.2.1 | exact h.2.2.2.2) rfl ?_
            refine g_iload_n hF dX3_longestFree_36 37 rfl rfl ?_
            refine g_iald hF dX3_longestFree_37 38 rfl (by intro H h; first | exact h.1 | exact h.2.1 | exact h.2.2.1 | exact h.2.2.2.1 | exact h.2.2.2.2) (hbr) ?_
            refine g_icmp_ge hF dX3_longestFree_38 41 rfl 43 (by decide) (fun c38 => ?_) (fun c38 => ?_)
            · refine g_iinc hF dX3_longestFree_43 46 rfl (1) rfl (lo' := [_, _, _]) rfl rfl ?_
              refine g_goto hF dX3_longestFree_46 4 (by decide) ?_
              subst hb
              exact ih (j + 1) _ _ (by omega) (by omega) (nI_succ j).symm (if_neg (fun h => h.2.elim c23 (fun z => absurd z (Int32.not_lt.mpr c38)))).symm
            · refine g_iload_n hF dX3_longestFree_41 42 rfl rfl ?_
              refine g_istore_n hF dX3_longestFree_42 43 rfl (lo' := [_, _, _]) (Nat.le_of_ble_eq_true rfl) rfl ?_
              refine g_iinc hF dX3_longestFree_43 46 rfl (1) rfl (lo' := [_, _, _]) rfl rfl ?_
              refine g_goto hF dX3_longestFree_46 4 (by decide) ?_
              subst hb
              exact ih (j + 1) _ _ (by omega) (by omega) (nI_succ j).symm (if_pos ⟨c18, Or.inr (Int32.not_le.mp c38)⟩).symm
  refine g_iconst hF (-1) dX3_longestFree_0 1 rfl rfl ?_
  refine g_istore_n hF dX3_longestFree_1 2 rfl (lo' := [_, _, _]) (Nat.le_of_ble_eq_true rfl) rfl ?_
  refine g_iconst hF (0) dX3_longestFree_2 3 rfl rfl ?_
  refine g_istore_n hF dX3_longestFree_3 4 rfl (lo' := [_, _, _]) (Nat.le_of_ble_eq_true rfl) rfl ?_
  exact loop (N + 1) 0 _ 0 (by omega) (by omega) nI_0.symm rfl
/-- the line that a group would take, by its way of choosing -/
def sCh (gv key : Nat → Int32) (N s : Nat) : Int32 := if gv 4 = 1 then fLast gv N else if gv 4 = 2 then fLg (fun l => gv (10 + 4 * l)) key N else if gv 4 = 3 then fFrom gv N s N 0 else fFrom gv N 0 N 0
set_option maxRecDepth 100000 in
set_option maxHeartbeats 4000000 in
theorem c_G_chosenLine (l : Launch) (E : Ev) (a : Nat) (gv fs : Nat → Int32) (N s : Nat) (hn0 : gv 0 = nI N) (hn1 : 1 ≤ N) (hn6 : N ≤ 6) (hs : gv 5 + 1 = nI s) (hs6 : s ≤ 6) (hc : gv 4 = 0 ∨ gv 4 = 1 ∨ gv 4 = 2 ∨ gv 4 = 3) : Ct l E yX3_chosenLine cX3_chosenLine 1 (some .int) (rm 2) [.ref a] (Gp E a gv fs) (rV (some (.int (sCh gv fs N s))) (Gp E a gv fs)) (fun _ => False) := by
  refine ct_start (by decide) [some (.ref a)] rfl (Nat.le_of_ble_eq_true rfl) ?_
  intro x hF hN hA hR
  rcases hc with hc | hc | hc | hc
  · have hv : sCh gv fs N s = fFrom gv N 0 N 0 := by unfold sCh; rw [hc]; rfl
    refine g_aload_n hF dX3_chosenLine_0 1 rfl rfl ?_
    refine g_get hF fl_X3_37 dX3_chosenLine_1 4 rfl (by intro H h; first | exact h.1 | exact h.2.1 | exact h.2.2.1 | exact h.2.2.2.1 | exact h.2.2.2.2) rfl ?_
    rw [hc]
    refine g_tabOut hF dX3_chosenLine_4 (Or.inl (by decide)) 51 (by decide) ?_
    refine g_aload_n hF dX3_chosenLine_51 52 rfl rfl ?_
    refine g_iconst hF (0) dX3_chosenLine_52 53 rfl rfl ?_
    refine g_callV hF cv_X3_86 (c_G_firstFreeFrom l E a gv fs N 0 hn0 hn1 hn6 (by omega)) dX3_chosenLine_53 56 rfl (st := []) rfl rfl ⟨Nat.le_of_ble_eq_true rfl, Nat.le_of_ble_eq_true rfl⟩ ⟨Nat.le_of_ble_eq_true rfl, Nat.le_of_ble_eq_true rfl⟩ rfl (Nat.le_of_ble_eq_true rfl) 3 rfl (by intro H h; first | exact h.1 | exact h.2.1 | exact h.2.2.1 | exact h.2.2.2.1 | exact h.2.2.2.2) (Pr' := _) (fun _ h => h) (hA) (fun _ _ _ h _ => h) (st1 := [_]) rfl (k1 := 0) (n1 := 0) rfl rfl ?_
    exact g_iret hF dX3_chosenLine_56 (Nat.le_of_ble_eq_true rfl) (Nat.le_of_ble_eq_true rfl) (fun H h => hR _ _ ⟨congrArg (fun z => some (Value.int z)) (hv.symm), h⟩)
  · have hv : sCh gv fs N s = fLast gv N := by unfold sCh; rw [hc]; rfl
    refine g_aload_n hF dX3_chosenLine_0 1 rfl rfl ?_
    refine g_get hF fl_X3_37 dX3_chosenLine_1 4 rfl (by intro H h; first | exact h.1 | exact h.2.1 | exact h.2.2.1 | exact h.2.2.2.1 | exact h.2.2.2.2) rfl ?_
    rw [hc]
    refine g_tabIn hF dX3_chosenLine_4 (by decide) (by decide) (28) rfl 32 (by decide) ?_
    refine g_aload_n hF dX3_chosenLine_32 33 rfl rfl ?_
    refine g_callV hF cv_X3_79 (c_G_lastFree l E a gv fs N hn0 hn6) dX3_chosenLine_33 36 rfl (st := []) rfl rfl ⟨Nat.le_of_ble_eq_true rfl, Nat.le_of_ble_eq_true rfl⟩ ⟨Nat.le_of_ble_eq_true rfl, Nat.le_of_ble_eq_true rfl⟩ rfl (Nat.le_of_ble_eq_true rfl) 3 rfl (by intro H h; first | exact h.1 | exact h.2.1 | exact h.2.2.1 | exact h.2.2.2.1 | exact h.2.2.2.2) (Pr' := _) (fun _ h => h) (hA) (fun _ _ _ h _ => h) (st1 := [_]) rfl (k1 := 0) (n1 := 0) rfl rfl ?_
    exact g_iret hF dX3_chosenLine_36 (Nat.le_of_ble_eq_true rfl) (Nat.le_of_ble_eq_true rfl) (fun H h => hR _ _ ⟨congrArg (fun z => some (Value.int z)) (hv.symm), h⟩)
  · have hv : sCh gv fs N s = fLg (fun l => gv (10 + 4 * l)) fs N := by unfold sCh; rw [hc]; rfl
    refine g_aload_n hF dX3_chosenLine_0 1 rfl rfl ?_
    refine g_get hF fl_X3_37 dX3_chosenLine_1 4 rfl (by intro H h; first | exact h.1 | exact h.2.1 | exact h.2.2.1 | exact h.2.2.2.1 | exact h.2.2.2.2) rfl ?_
    rw [hc]
    refine g_tabIn hF dX3_chosenLine_4 (by decide) (by decide) (33) rfl 37 (by decide) ?_
    refine g_aload_n hF dX3_chosenLine_37 38 rfl rfl ?_
    refine g_callV hF cv_X3_83 (c_G_longestFree l E a gv fs N hn0 hn6) dX3_chosenLine_38 41 rfl (st := []) rfl rfl ⟨Nat.le_of_ble_eq_true rfl, Nat.le_of_ble_eq_true rfl⟩ ⟨Nat.le_of_ble_eq_true rfl, Nat.le_of_ble_eq_true rfl⟩ rfl (Nat.le_of_ble_eq_true rfl) 3 rfl (by intro H h; first | exact h.1 | exact h.2.1 | exact h.2.2.1 | exact h.2.2.2.1 | exact h.2.2.2.2) (Pr' := _) (fun _ h => h) (hA) (fun _ _ _ h _ => h) (st1 := [_]) rfl (k1 := 0) (n1 := 0) rfl rfl ?_
    exact g_iret hF dX3_chosenLine_41 (Nat.le_of_ble_eq_true rfl) (Nat.le_of_ble_eq_true rfl) (fun H h => hR _ _ ⟨congrArg (fun z => some (Value.int z)) (hv.symm), h⟩)
  · have hv : sCh gv fs N s = fFrom gv N s N 0 := by unfold sCh; rw [hc]; rfl
    refine g_aload_n hF dX3_chosenLine_0 1 rfl rfl ?_
    refine g_get hF fl_X3_37 dX3_chosenLine_1 4 rfl (by intro H h; first | exact h.1 | exact h.2.1 | exact h.2.2.1 | exact h.2.2.2.1 | exact h.2.2.2.2) rfl ?_
    rw [hc]
    refine g_tabIn hF dX3_chosenLine_4 (by decide) (by decide) (38) rfl 42 (by decide) ?_
    refine g_aload_n hF dX3_chosenLine_42 43 rfl rfl ?_
    refine g_aload_n hF dX3_chosenLine_43 44 rfl rfl ?_
    refine g_get hF fl_X3_55 dX3_chosenLine_44 47 rfl (by intro H h; first | exact h.1 | exact h.2.1 | exact h.2.2.1 | exact h.2.2.2.1 | exact h.2.2.2.2) rfl ?_
    rw [hs]
    refine g_callV hF cv_X3_86 (c_G_firstFreeFrom l E a gv fs N s hn0 hn1 hn6 hs6) dX3_chosenLine_47 50 rfl (st := []) rfl rfl ⟨Nat.le_of_ble_eq_true rfl, Nat.le_of_ble_eq_true rfl⟩ ⟨Nat.le_of_ble_eq_true rfl, Nat.le_of_ble_eq_true rfl⟩ rfl (Nat.le_of_ble_eq_true rfl) 3 rfl (by intro H h; first | exact h.1 | exact h.2.1 | exact h.2.2.1 | exact h.2.2.2.1 | exact h.2.2.2.2) (Pr' := _) (fun _ h => h) (hA) (fun _ _ _ h _ => h) (st1 := [_]) rfl (k1 := 0) (n1 := 0) rfl rfl ?_
    exact g_iret hF dX3_chosenLine_50 (Nat.le_of_ble_eq_true rfl) (Nat.le_of_ble_eq_true rfl) (fun H h => hR _ _ ⟨congrArg (fun z => some (Value.int z)) (hv.symm), h⟩)
