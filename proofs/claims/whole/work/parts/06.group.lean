/-! TrunkReserve$Group, and the JDK's methods that it calls. A group's picture: gv (the reference's row of 34 numbers) and fs (since when a line is free, as the class tells it). -/
def rm (d : Nat) : Room := { frames := d, cells := 0, slots := 0, locals := 32 * d }
def gfs (gv : Nat → Int32) (a : Nat) : List Value := [.int (gv 0), .int (gv 1), .int (gv 2), .int (gv 3), .int (gv 4), .int (gv 6), .int (gv 7), .int (gv 8), .int (gv 9), .int (gv 5 + 1), .ref (a + 1), .ref (a + 2), .ref (a + 3), .ref (a + 4)]
def Gp (E : Ev) (a : Nat) (gv fs : Nat → Int32) (H : Heap) : Prop := ob E 3 a (gfs gv a) H ∧ ai E (a + 1) 6 (fun l => gv (10 + 4 * l)) H ∧ ai E (a + 2) 6 (fun l => gv (11 + 4 * l)) H ∧ ai E (a + 3) 6 (fun l => gv (12 + 4 * l)) H ∧ ai E (a + 4) 6 fs H
def rg (a n : Nat) : Nat → Prop := fun q => a ≤ q ∧ q < a + n
theorem ai_kept {E : Ev} {a n : Nat} {f : Nat → Int32} {H H' : Heap} (h : ai E a n f H) (hq : H'[a]? = H[a]?) : ai E a n f H' := va_at.kept h hq
theorem ob_kept {E : Ev} {ci a : Nat} {fs : List Value} {H H' : Heap} (h : ob E ci a fs H) (hq : H'[a]? = H[a]?) : ob E ci a fs H' := va_at.kept h hq
theorem Gp.kept {E : Ev} {a : Nat} {gv fs : Nat → Int32} {H H' : Heap} (h : Gp E a gv fs H) (hq : ∀ q, rg a 5 q → H'[q]? = H[q]?) : Gp E a gv fs H' :=
  ⟨ob_kept h.1 (hq _ ⟨by omega, by omega⟩), ai_kept h.2.1 (hq _ ⟨by omega, by omega⟩), ai_kept h.2.2.1 (hq _ ⟨by omega, by omega⟩), ai_kept h.2.2.2.1 (hq _ ⟨by omega, by omega⟩), ai_kept h.2.2.2.2 (hq _ ⟨by omega, by omega⟩)⟩
theorem Gp.lt {E : Ev} {a : Nat} {gv fs : Nat → Int32} {H : Heap} (h : Gp E a gv fs H) : ∀ q, rg a 5 q → q < H.size := by
  intro q hq
  have h0 : a + 4 < H.size := va_at.lt h.2.2.2.2
  have := hq.2
  omega
theorem Gp.to {E : Ev} {a : Nat} {gv gv' fs : Nat → Int32} {H : Heap} (h : Gp E a gv fs H) (h0 : ∀ w, w < 10 → gv w = gv' w) (h1 : ∀ l, l < 6 → gv (10 + 4 * l) = gv' (10 + 4 * l) ∧ gv (11 + 4 * l) = gv' (11 + 4 * l) ∧ gv (12 + 4 * l) = gv' (12 + 4 * l)) : Gp E a gv' fs H := by
  refine ⟨?_, ai_congr (fun j hj => (h1 j hj).1) h.2.1, ai_congr (fun j hj => (h1 j hj).2.1) h.2.2.1, ai_congr (fun j hj => (h1 j hj).2.2) h.2.2.2.1, h.2.2.2.2⟩
  have e : gfs gv' a = gfs gv a := by
    unfold gfs
    rw [h0 0 (by omega), h0 1 (by omega), h0 2 (by omega), h0 3 (by omega), h0 4 (by omega), h0 5 (by omega), h0 6 (by omega), h0 7 (by omega), h0 8 (by omega), h0 9 (by omega)]
  rw [e]
  exact h.1
/-- the object's own cell is written -/
theorem Gp.wo {E : Ev} {a : Nat} {gv fs : Nat → Int32} {H H' : Heap} {w : Nat} {z : Int32} (hw : w < 10) {vs : List Value} (hv : vs = gfs (upd gv w z) a) (h : Gp E a gv fs H) (h1 : ob E 3 a vs H') (h2 : but a H H') : Gp E a (upd gv w z) fs H' := by
  subst hv
  have e : ∀ j, j ≥ 10 → upd gv w z j = gv j := fun j hj => pk_un (by omega)
  refine ⟨h1, ?_, ?_, ?_, ai_kept h.2.2.2.2 (h2.2 _ (by omega))⟩
  · exact ai_congr (fun j hj => (e _ (by omega)).symm) (ai_kept h.2.1 (h2.2 _ (by omega)))
  · exact ai_congr (fun j hj => (e _ (by omega)).symm) (ai_kept h.2.2.1 (h2.2 _ (by omega)))
  · exact ai_congr (fun j hj => (e _ (by omega)).symm) (ai_kept h.2.2.2.1 (h2.2 _ (by omega)))
theorem gfs_hi {gv : Nat → Int32} {a w : Nat} {z : Int32} (hw : 10 ≤ w) : gfs (upd gv w z) a = gfs gv a := by
  have e : ∀ j, j < 10 → upd gv w z j = gv j := fun j hj => pk_un (by omega)
  unfold gfs
  rw [e 0 (by omega), e 1 (by omega), e 2 (by omega), e 3 (by omega), e 4 (by omega), e 5 (by omega), e 6 (by omega), e 7 (by omega), e 8 (by omega), e 9 (by omega)]
theorem Gp.w1 {E : Ev} {a : Nat} {gv fs : Nat → Int32} {H H' : Heap} {l : Nat} {z : Int32} (hl : l < 6) (h : Gp E a gv fs H) (h1 : ai E (a + 1) 6 (upd (fun l => gv (10 + 4 * l)) (nI l).toNatClampNeg z) H') (h2 : but (a + 1) H H') : Gp E a (upd gv (10 + 4 * l) z) fs H' := by
  rw [nI_clamp (by omega)] at h1
  refine ⟨?_, ?_, ?_, ?_, ai_kept h.2.2.2.2 (h2.2 _ (by omega))⟩
  · rw [gfs_hi (by omega)]; exact ob_kept h.1 (h2.2 _ (by omega))
  · refine ai_congr (fun j hj => ?_) h1
    by_cases hjl : j = l
    · subst hjl; rw [pk_us, pk_us]
    · rw [pk_un hjl, pk_un (by omega)]
  · exact ai_congr (fun j hj => (pk_un (by omega)).symm) (ai_kept h.2.2.1 (h2.2 _ (by omega)))
  · exact ai_congr (fun j hj => (pk_un (by omega)).symm) (ai_kept h.2.2.2.1 (h2.2 _ (by omega)))
theorem Gp.w2 {E : Ev} {a : Nat} {gv fs : Nat → Int32} {H H' : Heap} {l : Nat} {z : Int32} (hl : l < 6) (h : Gp E a gv fs H) (h1 : ai E (a + 2) 6 (upd (fun l => gv (11 + 4 * l)) (nI l).toNatClampNeg z) H') (h2 : but (a + 2) H H') : Gp E a (upd gv (11 + 4 * l) z) fs H' := by
  rw [nI_clamp (by omega)] at h1
  refine ⟨?_, ?_, ?_, ?_, ai_kept h.2.2.2.2 (h2.2 _ (by omega))⟩
  · rw [gfs_hi (by omega)]; exact ob_kept h.1 (h2.2 _ (by omega))
  · exact ai_congr (fun j hj => (pk_un (by omega)).symm) (ai_kept h.2.1 (h2.2 _ (by omega)))
  · refine ai_congr (fun j hj => ?_) h1
    by_cases hjl : j = l
    · subst hjl; rw [pk_us, pk_us]
    · rw [pk_un hjl, pk_un (by omega)]
  · exact ai_congr (fun j hj => (pk_un (by omega)).symm) (ai_kept h.2.2.2.1 (h2.2 _ (by omega)))
theorem Gp.w3 {E : Ev} {a : Nat} {gv fs : Nat → Int32} {H H' : Heap} {l : Nat} {z : Int32} (hl : l < 6) (h : Gp E a gv fs H) (h1 : ai E (a + 3) 6 (upd (fun l => gv (12 + 4 * l)) (nI l).toNatClampNeg z) H') (h2 : but (a + 3) H H') : Gp E a (upd gv (12 + 4 * l) z) fs H' := by
  rw [nI_clamp (by omega)] at h1
  refine ⟨?_, ?_, ?_, ?_, ai_kept h.2.2.2.2 (h2.2 _ (by omega))⟩
  · rw [gfs_hi (by omega)]; exact ob_kept h.1 (h2.2 _ (by omega))
  · exact ai_congr (fun j hj => (pk_un (by omega)).symm) (ai_kept h.2.1 (h2.2 _ (by omega)))
  · exact ai_congr (fun j hj => (pk_un (by omega)).symm) (ai_kept h.2.2.1 (h2.2 _ (by omega)))
  · refine ai_congr (fun j hj => ?_) h1
    by_cases hjl : j = l
    · subst hjl; rw [pk_us, pk_us]
    · rw [pk_un hjl, pk_un (by omega)]
theorem Gp.w4 {E : Ev} {a : Nat} {gv fs : Nat → Int32} {H H' : Heap} {l : Nat} {z : Int32} (hl : l < 6) (h : Gp E a gv fs H) (h1 : ai E (a + 4) 6 (upd fs (nI l).toNatClampNeg z) H') (h2 : but (a + 4) H H') : Gp E a gv (upd fs l z) H' := by
  rw [nI_clamp (by omega)] at h1
  exact ⟨ob_kept h.1 (h2.2 _ (by omega)), ai_kept h.2.1 (h2.2 _ (by omega)), ai_kept h.2.2.1 (h2.2 _ (by omega)), ai_kept h.2.2.2.1 (h2.2 _ (by omega)), h1⟩
/-! Integer.bitCount -/
def us (z k : Int32) : Int32 := (z.toUInt32 >>> (k.toUInt32 &&& Int32.toUInt32 31)).toInt32
def bc1 (z : Int32) : Int32 := z - (us z 1 &&& 1431655765)
def bc2 (z : Int32) : Int32 := (z &&& 858993459) + (us z 2 &&& 858993459)
def bc3 (z : Int32) : Int32 := (z + us z 4) &&& 252645135
def bc4 (z : Int32) : Int32 := z + us z 8
def bc5 (z : Int32) : Int32 := z + us z 16
def bitC (z : Int32) : Int32 := bc5 (bc4 (bc3 (bc2 (bc1 z)))) &&& 63
set_option maxRecDepth 100000 in
set_option maxHeartbeats 4000000 in
theorem c_bitCount (l : Launch) (E : Ev) (z : Int32) (P : Heap → Prop) : Ct l E yJ6_bitCount_0f7a4 cJ6_bitCount_0f7a4 1 (some .int) (rm 1) [.int z] P (rV (some (.int (bitC z))) P) (fun _ => False) := by
  refine ct_start (by decide) [some (.int z)] rfl (Nat.le_of_ble_eq_true rfl) ?_
  intro x hF hN hA hR
  refine g_iload_n hF dJ6_bitCount_0f7a4_0 1 rfl rfl ?_
  refine g_iload_n hF dJ6_bitCount_0f7a4_1 2 rfl rfl ?_
  refine g_iconst hF (1) dJ6_bitCount_0f7a4_2 3 rfl rfl ?_
  refine g_iushr hF dJ6_bitCount_0f7a4_3 4 rfl ?_
  refine g_ldcw hF kc_J6_265 dJ6_bitCount_0f7a4_4 7 rfl ?_
  refine g_iand hF dJ6_bitCount_0f7a4_7 8 rfl ?_
  refine g_isub hF dJ6_bitCount_0f7a4_8 9 rfl ?_
  refine g_topi (fun w1 e1 => ?_)
  refine g_istore_n hF dJ6_bitCount_0f7a4_9 10 rfl (lo' := [_]) (Nat.le_of_ble_eq_true rfl) rfl ?_
  refine g_iload_n hF dJ6_bitCount_0f7a4_10 11 rfl rfl ?_
  refine g_ldcw hF kc_J6_266 dJ6_bitCount_0f7a4_11 14 rfl ?_
  refine g_iand hF dJ6_bitCount_0f7a4_14 15 rfl ?_
  refine g_iload_n hF dJ6_bitCount_0f7a4_15 16 rfl rfl ?_
  refine g_iconst hF (2) dJ6_bitCount_0f7a4_16 17 rfl rfl ?_
  refine g_iushr hF dJ6_bitCount_0f7a4_17 18 rfl ?_
  refine g_ldcw hF kc_J6_266 dJ6_bitCount_0f7a4_18 21 rfl ?_
  refine g_iand hF dJ6_bitCount_0f7a4_21 22 rfl ?_
  refine g_iadd hF dJ6_bitCount_0f7a4_22 23 rfl ?_
  refine g_topi (fun w2 e2 => ?_)
  refine g_istore_n hF dJ6_bitCount_0f7a4_23 24 rfl (lo' := [_]) (Nat.le_of_ble_eq_true rfl) rfl ?_
  refine g_iload_n hF dJ6_bitCount_0f7a4_24 25 rfl rfl ?_
  refine g_iload_n hF dJ6_bitCount_0f7a4_25 26 rfl rfl ?_
  refine g_iconst hF (4) dJ6_bitCount_0f7a4_26 27 rfl rfl ?_
  refine g_iushr hF dJ6_bitCount_0f7a4_27 28 rfl ?_
  refine g_iadd hF dJ6_bitCount_0f7a4_28 29 rfl ?_
  refine g_ldcw hF kc_J6_267 dJ6_bitCount_0f7a4_29 32 rfl ?_
  refine g_iand hF dJ6_bitCount_0f7a4_32 33 rfl ?_
  refine g_topi (fun w3 e3 => ?_)
  refine g_istore_n hF dJ6_bitCount_0f7a4_33 34 rfl (lo' := [_]) (Nat.le_of_ble_eq_true rfl) rfl ?_
  refine g_iload_n hF dJ6_bitCount_0f7a4_34 35 rfl rfl ?_
  refine g_iload_n hF dJ6_bitCount_0f7a4_35 36 rfl rfl ?_
  refine g_bipush hF (8) dJ6_bitCount_0f7a4_36 38 rfl rfl ?_
  refine g_iushr hF dJ6_bitCount_0f7a4_38 39 rfl ?_
  refine g_iadd hF dJ6_bitCount_0f7a4_39 40 rfl ?_
  refine g_topi (fun w4 e4 => ?_)
  refine g_istore_n hF dJ6_bitCount_0f7a4_40 41 rfl (lo' := [_]) (Nat.le_of_ble_eq_true rfl) rfl ?_
  refine g_iload_n hF dJ6_bitCount_0f7a4_41 42 rfl rfl ?_
  refine g_iload_n hF dJ6_bitCount_0f7a4_42 43 rfl rfl ?_
  refine g_bipush hF (16) dJ6_bitCount_0f7a4_43 45 rfl rfl ?_
  refine g_iushr hF dJ6_bitCount_0f7a4_45 46 rfl ?_
  refine g_iadd hF dJ6_bitCount_0f7a4_46 47 rfl ?_
  refine g_topi (fun w5 e5 => ?_)
  refine g_istore_n hF dJ6_bitCount_0f7a4_47 48 rfl (lo' := [_]) (Nat.le_of_ble_eq_true rfl) rfl ?_
  refine g_iload_n hF dJ6_bitCount_0f7a4_48 49 rfl rfl ?_
  refine g_bipush hF (63) dJ6_bitCount_0f7a4_49 51 rfl rfl ?_
  refine g_iand hF dJ6_bitCount_0f7a4_51 52 rfl ?_
  exact g_iret hF dJ6_bitCount_0f7a4_52 (Nat.le_of_ble_eq_true rfl) (Nat.le_of_ble_eq_true rfl) (fun H h => hR _ _ ⟨congrArg (fun z => some (Value.int z)) (by subst e5 e4 e3 e2 e1; rfl), h⟩)
set_option maxRecDepth 100000 in
set_option maxHeartbeats 4000000 in
theorem c_fill (l : Launch) (E : Ev) (a N : Nat) (f : Nat → Int32) (v : Int32) (hN0 : N < 2 ^ 31) : Ct l E yJ7_fill_53178 cJ7_fill_53178 4 none (rm 1) [.ref a, .int v] (ai E a N f) (rV none (ai E a N (fun _ => v))) (fun q => q = a) := by
  refine ct_start (by decide) [some (.ref a), some (.int v), none, none] rfl (Nat.le_of_ble_eq_true rfl) ?_
  intro x hF hN hA hR
  have loop : ∀ (n j : Nat) (g : Nat → Int32) (i : Int32), N - j < n → j ≤ N → (∀ i, i < j → g i = v) → i = nI j → go l (rm 1) E x 0 0 (ai E a N g) [some (.ref a), some (.int v), some (.int i), some (.int (nI N))] 5 [] := by
    intro n
    induction n with
    | zero => intro j g i h; omega
    | succ n ih =>
      intro j g i hn hj hg hi
      subst hi
      refine g_iload_n hF dJ7_fill_53178_5 6 rfl rfl ?_
      refine g_iload_n hF dJ7_fill_53178_6 7 rfl rfl ?_
      refine g_icmp_ge hF dJ7_fill_53178_7 10 rfl 20 (by decide) (fun c7 => ?_) (fun c7 => ?_)
      · exact g_vret hF dJ7_fill_53178_20 (Nat.le_of_ble_eq_true rfl) (Nat.le_of_ble_eq_true rfl) (fun H h => hR _ _ ⟨rfl, ai_congr (fun i hi => hg i (by have := i_le c7 hN0 (by omega); omega)) h⟩)
      · refine g_aload_n hF dJ7_fill_53178_10 11 rfl rfl ?_
        refine g_iload_n hF dJ7_fill_53178_11 12 rfl rfl ?_
        refine g_iload_n hF dJ7_fill_53178_12 13 rfl rfl ?_
        refine g_iast hF dJ7_fill_53178_13 14 rfl (fun H h => h) (vp_in_nI (show j < N from i_nle c7 hN0 (by omega)) hN0) (hA _ rfl) (Pr' := ai E a N (upd g j v)) (fun H H' h h1 h2 => by rw [nI_clamp (by omega)] at h1; exact h1) ?_
        refine g_iinc hF dJ7_fill_53178_14 17 rfl (1) rfl (lo' := [_, _, _, _]) rfl rfl ?_
        refine g_goto hF dJ7_fill_53178_17 5 (by decide) ?_
        have hlt : j < N := i_nle c7 hN0 (by omega)
        exact ih (j + 1) _ _ (by omega) (by omega) (fun i hi => if h : i = j then h ▸ pk_us else (pk_un h).trans (hg i (by omega))) (nI_succ j).symm
  refine g_iconst hF (0) dJ7_fill_53178_0 1 rfl rfl ?_
  refine g_istore_n hF dJ7_fill_53178_1 2 rfl (lo' := [_, _, _, _]) (Nat.le_of_ble_eq_true rfl) rfl ?_
  refine g_aload_n hF dJ7_fill_53178_2 3 rfl rfl ?_
  refine g_alen hF dJ7_fill_53178_3 4 rfl (fun H h => h) ?_
  refine g_istore_n hF dJ7_fill_53178_4 5 rfl (lo' := [_, _, _, _]) (Nat.le_of_ble_eq_true rfl) rfl ?_
  exact loop (N + 1) 0 f 0 (by omega) (by omega) (fun i hi => by omega) nI_0.symm
/-! Group's own methods -/
def sSet (gv : Nat → Int32) (w : Int32) : Nat → Int32
  | 0 => 0
  | k + 1 => if gv (10 + 4 * k) = w then sSet gv w k ||| (1 <<< (nI k &&& 31)) else sSet gv w k
set_option maxRecDepth 100000 in
set_option maxHeartbeats 4000000 in
theorem c_G_setOf (l : Launch) (E : Ev) (a : Nat) (gv fs : Nat → Int32) (w : Int32) (N : Nat) (hn0 : gv 0 = nI N) (hn6 : N ≤ 6) : Ct l E yX3_setOf cX3_setOf 4 (some .int) (rm 1) [.ref a, .int w] (Gp E a gv fs) (rV (some (.int (sSet gv w N))) (Gp E a gv fs)) (fun _ => False) := by
  refine ct_start (by decide) [some (.ref a), some (.int w), none, none] rfl (Nat.le_of_ble_eq_true rfl) ?_
  intro x hF hN hA hR
  have loop : ∀ (n j : Nat) (s i : Int32), N - j < n → j ≤ N → s = sSet gv w j → i = nI j → go l (rm 1) E x 0 0 (Gp E a gv fs) [some (.ref a), some (.int w), some (.int s), some (.int i)] 4 [] := by
    intro n
    induction n with
    | zero => intro j s i h; omega
    | succ n ih =>
      intro j s i hn hj hs hi
      subst hi
      have hcl : (nI j).toNatClampNeg = j := nI_clamp (by omega)
      refine g_iload_n hF dX3_setOf_4 5 rfl rfl ?_
      refine g_aload_n hF dX3_setOf_5 6 rfl rfl ?_
      refine g_get hF fl_X3_24 dX3_setOf_6 9 rfl (by intro H h; first | exact h.1 | exact h.2.1 | exact h.2.2.1 | exact h.2.2.2.1 | exact h.2.2.2.2) rfl ?_
      refine g_icmp_ge hF dX3_setOf_9 12 rfl 34 (by decide) (fun c9 => ?_) (fun c9 => ?_)
      · refine g_iload_n hF dX3_setOf_34 35 rfl rfl ?_
        exact g_iret hF dX3_setOf_35 (Nat.le_of_ble_eq_true rfl) (Nat.le_of_ble_eq_true rfl) (fun H h => hR _ _ ⟨congrArg (fun z => some (Value.int z)) (by have := i_le (hn0 ▸ c9) (by omega) (by omega); rw [hs, show j = N by omega]), h⟩)
      · have hlt : j < N := i_nle (hn0 ▸ c9) (by omega) (by omega)
        refine g_aload_n hF dX3_setOf_12 13 rfl rfl ?_
        refine g_get hF fl_X3_9 dX3_setOf_13 16 rfl (by intro H h; first | exact h.1 | exact h.2.1 | exact h.2.2.1 | exact h.2.2.2.1 | exact h.2.2.2.2) rfl ?_
        refine g_iload_n hF dX3_setOf_16 17 rfl rfl ?_
        refine g_iald hF dX3_setOf_17 18 rfl (by intro H h; first | exact h.1 | exact h.2.1 | exact h.2.2.1 | exact h.2.2.2.1 | exact h.2.2.2.2) (vp_in_nI (show j < 6 by omega) (by omega)) ?_
        refine g_iload_n hF dX3_setOf_18 19 rfl rfl ?_
        refine g_icmp_ne hF dX3_setOf_19 22 rfl 28 (by decide) (fun c19 => ?_) (fun c19 => ?_)
        · rw [hcl] at c19
          refine g_iinc hF dX3_setOf_28 31 rfl (1) rfl (lo' := [_, _, _, _]) rfl rfl ?_
          refine g_goto hF dX3_setOf_31 4 (by decide) ?_
          exact ih (j + 1) _ _ (by omega) (by omega) (by simp only [sSet, hs, c19, if_true, if_false]) (nI_succ j).symm
        · refine g_iload_n hF dX3_setOf_22 23 rfl rfl ?_
          refine g_iconst hF (1) dX3_setOf_23 24 rfl rfl ?_
          refine g_iload_n hF dX3_setOf_24 25 rfl rfl ?_
          refine g_ishl hF dX3_setOf_25 26 rfl ?_
          refine g_ior hF dX3_setOf_26 27 rfl ?_
          refine g_istore_n hF dX3_setOf_27 28 rfl (lo' := [_, _, _, _]) (Nat.le_of_ble_eq_true rfl) rfl ?_
          rw [hcl] at c19
          refine g_iinc hF dX3_setOf_28 31 rfl (1) rfl (lo' := [_, _, _, _]) rfl rfl ?_
          refine g_goto hF dX3_setOf_31 4 (by decide) ?_
          exact ih (j + 1) _ _ (by omega) (by omega) (by simp only [sSet, hs, c19, if_true, if_false]) (nI_succ j).symm
  refine g_iconst hF (0) dX3_setOf_0 1 rfl rfl ?_
  refine g_istore_n hF dX3_setOf_1 2 rfl (lo' := [_, _, _, _]) (Nat.le_of_ble_eq_true rfl) rfl ?_
  refine g_iconst hF (0) dX3_setOf_2 3 rfl rfl ?_
  refine g_istore_n hF dX3_setOf_3 4 rfl (lo' := [_, _, _, _]) (Nat.le_of_ble_eq_true rfl) rfl ?_
  exact loop (N + 1) 0 0 0 (by omega) (by omega) rfl nI_0.symm
