/-! Net: where a call goes; calls, ends, breaks, mendings -/
theorem Gp.ghost {E : Ev} {a i : Nat} {gv fs : Nat → Int32} {z : Int32} {H : Heap} (h : Gp E a gv fs H) : Gp E a (upd gv (13 + 4 * i) z) fs H :=
  Gp.to h (fun w hw => (pk_un (by omega)).symm) (fun j hj => ⟨(pk_un (by omega)).symm, (pk_un (by omega)).symm, (pk_un (by omega)).symm⟩)
theorem Np.rd {E : Ev} {a g : Nat} {v : NV} {fss : Nat → Nat → Int32} {H H' : Heap} (hg : g < 4) (h : Np E a v fss H) (h1 : Gp E (a + 2 + 5 * g) (v.2.2.2 g) (fss g) H') (h2 : out (fun _ => False) H H') : Np E a v fss H' :=
  Np.to (Np.grp hg h h1 ⟨h2.1, fun b hb _ => h2.2 b hb (fun z => z)⟩) rfl rfl rfl (fun j _ => ⟨va_up_same v.2.2.2 g j, va_up_same fss g j⟩)
set_option maxRecDepth 100000 in
set_option maxHeartbeats 4000000 in
theorem c_N_nextPlace (l : Launch) (E : Ev) (a : Nat) (v : NV) (fss : Nat → Nat → Int32) (G T g : Nat) (hG : v.1 = nI G) (hG4 : G ≤ 4) (hT : T < 2 ^ 30) (ho : ∀ g, g < 4 → okG G T g (v.2.2.2 g)) (hf : ∀ g, g < 4 → fsOK (v.2.2.2 g) (fss g)) (hg : g < G) : Ct l E yX6_nextPlace cX6_nextPlace 5 (some .int) (rm 3) [.ref a, .int (nI g)] (Np E a v fss) (rV (some (.int (sNext v.2.2.2 g))) (Np E a v fss)) (fun _ => False) := by
  refine ct_start (by decide) [some (.ref a), some (.int (nI g)), none, none, none] rfl (Nat.le_of_ble_eq_true rfl) ?_
  intro x hF hN hA hR
  have hg4 : g < 4 := by omega
  obtain ⟨⟨N, n1, n6, n0, -⟩, -, hov, hch, ⟨s, s6, hs⟩, -⟩ := ho g hg4
  have hc1 : sCh (v.2.2.2 g) (fss g) N s = chg (v.2.2.2 g) := by rw [chg_N n0 n6 hs s6]; exact sCh_fs (ho g hg4) hT (hf g hg4) n6
  rcases hov with ho3 | ⟨o, o1, o2, o3⟩
  · have hv : sNext v.2.2.2 g = if ¬ chg (v.2.2.2 g) = -1 then 10 * nI g + chg (v.2.2.2 g) else -1 := by unfold sNext; rw [ho3, if_pos rfl]
    refine g_aload_n hF dX6_nextPlace_0 1 rfl rfl ?_
    refine g_iload_n hF dX6_nextPlace_1 2 rfl rfl ?_
    refine g_callV hF cv_X6_38 (c_N_groupAt l E a v fss G g hG hG4 hg) dX6_nextPlace_2 5 rfl (st := []) rfl rfl ⟨Nat.le_of_ble_eq_true rfl, Nat.le_of_ble_eq_true rfl⟩ ⟨Nat.le_of_ble_eq_true rfl, Nat.le_of_ble_eq_true rfl⟩ rfl (Nat.le_of_ble_eq_true rfl) 6 rfl (by intro H h; first | exact h.1 | exact h.2.1 | exact (h.2.2 g hg4).1) (Pr' := _) (fun _ h => h) (hA) (fun _ _ _ h _ => by exact h) (st1 := [_]) rfl (k1 := 0) (n1 := 0) rfl rfl ?_
    refine g_astore_n hF dX6_nextPlace_5 6 rfl (lo' := [_, _, _, _, _]) (Nat.le_of_ble_eq_true rfl) rfl ?_
    refine g_aload_n hF dX6_nextPlace_6 7 rfl rfl ?_
    refine g_ifnonnull hF dX6_nextPlace_7 12 (by decide) ?_
    refine g_aload_n hF dX6_nextPlace_12 13 rfl rfl ?_
    refine g_callV hF cv_X6_53 (c_G_chosenLine l E (a + 2 + 5 * g) (v.2.2.2 g) (fss g) N s n0 n1 n6 hs s6 hch) dX6_nextPlace_13 16 rfl (st := []) rfl rfl ⟨Nat.le_of_ble_eq_true rfl, Nat.le_of_ble_eq_true rfl⟩ ⟨Nat.le_of_ble_eq_true rfl, Nat.le_of_ble_eq_true rfl⟩ rfl (Nat.le_of_ble_eq_true rfl) 3 rfl (by intro H h; first | exact h.1 | exact h.2.1 | exact (h.2.2 g hg4).1) (Pr' := Np E a v fss) (fun H h => h.2.2 g hg4) (fun q z => z.elim) (fun H H' h h1 h2 => by exact Np.rd hg4 h h1 h2) (st1 := [_]) rfl (k1 := 0) (n1 := 0) rfl rfl ?_
    rw [hc1]
    refine g_istore_n hF dX6_nextPlace_16 17 rfl (lo' := [_, _, _, _, _]) (Nat.le_of_ble_eq_true rfl) rfl ?_
    refine g_iload_n hF dX6_nextPlace_17 18 rfl rfl ?_
    refine g_iconst hF (-1) dX6_nextPlace_18 19 rfl rfl ?_
    refine g_icmp_eq hF dX6_nextPlace_19 22 rfl 29 (by decide) (fun c19 => ?_) (fun c19 => ?_)
    · refine g_aload_n hF dX6_nextPlace_29 30 rfl rfl ?_
      refine g_aload_n hF dX6_nextPlace_30 31 rfl rfl ?_
      refine g_get hF fl_X6_57 dX6_nextPlace_31 34 rfl (by intro H h; first | exact h.1 | exact h.2.1 | exact (h.2.2 g hg4).1) rfl ?_
      rw [ho3]
      refine g_callV hF cv_X6_38 (c_N_groupAtN l E a v fss (-1) (Or.inl (by decide))) dX6_nextPlace_34 37 rfl (st := []) rfl rfl ⟨Nat.le_of_ble_eq_true rfl, Nat.le_of_ble_eq_true rfl⟩ ⟨Nat.le_of_ble_eq_true rfl, Nat.le_of_ble_eq_true rfl⟩ rfl (Nat.le_of_ble_eq_true rfl) 6 rfl (by intro H h; first | exact h.1 | exact h.2.1 | exact (h.2.2 g hg4).1) (Pr' := _) (fun _ h => h) (hA) (fun _ _ _ h _ => by exact h) (st1 := [_]) rfl (k1 := 0) (n1 := 0) rfl rfl ?_
      refine g_astoreN hF dX6_nextPlace_37 39 rfl (lo' := [_, _, _, _, _]) (Nat.le_of_ble_eq_true rfl) rfl ?_
      refine g_aloadN hF dX6_nextPlace_39 41 rfl rfl ?_
      refine g_ifnullN hF dX6_nextPlace_41 58 (by decide) ?_
      refine g_iconst hF (-1) dX6_nextPlace_58 59 rfl rfl ?_
      exact g_iret hF dX6_nextPlace_59 (Nat.le_of_ble_eq_true rfl) (Nat.le_of_ble_eq_true rfl) (fun H h => hR _ _ ⟨congrArg (fun z => some (Value.int z)) (by rw [hv]; exact (if_neg (fun z => z c19)).symm), h⟩)
    · refine g_bipush hF (10) dX6_nextPlace_22 24 rfl rfl ?_
      refine g_iload_n hF dX6_nextPlace_24 25 rfl rfl ?_
      refine g_imul hF dX6_nextPlace_25 26 rfl ?_
      refine g_iload_n hF dX6_nextPlace_26 27 rfl rfl ?_
      refine g_iadd hF dX6_nextPlace_27 28 rfl ?_
      exact g_iret hF dX6_nextPlace_28 (Nat.le_of_ble_eq_true rfl) (Nat.le_of_ble_eq_true rfl) (fun H h => hR _ _ ⟨congrArg (fun z => some (Value.int z)) (by rw [hv]; exact (if_pos c19).symm), h⟩)
  · have ho4 : o < 4 := by omega
    obtain ⟨⟨M, m1, m6, m0, -⟩, -, -, hcho, ⟨s', s6', hs'⟩, -⟩ := ho o ho4
    have hc2 : sCh (v.2.2.2 o) (fss o) M s' = chg (v.2.2.2 o) := by rw [chg_N m0 m6 hs' s6']; exact sCh_fs (ho o ho4) hT (hf o ho4) m6
    have hv : sNext v.2.2.2 g = if ¬ chg (v.2.2.2 g) = -1 then 10 * nI g + chg (v.2.2.2 g) else if v.2.2.2 o 2 < cnt (v.2.2.2 o) 0 then 10 * nI o + chg (v.2.2.2 o) else -1 := by
      unfold sNext
      rw [o3, if_neg (nI_nm1 (t := o) (by omega)), nI_clamp (by omega)]
    have hcn : bitC (sSet (v.2.2.2 o) 0 M) = cnt (v.2.2.2 o) 0 := by unfold cnt; rw [m0, nI_clamp (by omega)]
    refine g_aload_n hF dX6_nextPlace_0 1 rfl rfl ?_
    refine g_iload_n hF dX6_nextPlace_1 2 rfl rfl ?_
    refine g_callV hF cv_X6_38 (c_N_groupAt l E a v fss G g hG hG4 hg) dX6_nextPlace_2 5 rfl (st := []) rfl rfl ⟨Nat.le_of_ble_eq_true rfl, Nat.le_of_ble_eq_true rfl⟩ ⟨Nat.le_of_ble_eq_true rfl, Nat.le_of_ble_eq_true rfl⟩ rfl (Nat.le_of_ble_eq_true rfl) 6 rfl (by intro H h; first | exact h.1 | exact h.2.1 | exact (h.2.2 g hg4).1 | exact (h.2.2 o ho4).1) (Pr' := _) (fun _ h => h) (hA) (fun _ _ _ h _ => by exact h) (st1 := [_]) rfl (k1 := 0) (n1 := 0) rfl rfl ?_
    refine g_astore_n hF dX6_nextPlace_5 6 rfl (lo' := [_, _, _, _, _]) (Nat.le_of_ble_eq_true rfl) rfl ?_
    refine g_aload_n hF dX6_nextPlace_6 7 rfl rfl ?_
    refine g_ifnonnull hF dX6_nextPlace_7 12 (by decide) ?_
    refine g_aload_n hF dX6_nextPlace_12 13 rfl rfl ?_
    refine g_callV hF cv_X6_53 (c_G_chosenLine l E (a + 2 + 5 * g) (v.2.2.2 g) (fss g) N s n0 n1 n6 hs s6 hch) dX6_nextPlace_13 16 rfl (st := []) rfl rfl ⟨Nat.le_of_ble_eq_true rfl, Nat.le_of_ble_eq_true rfl⟩ ⟨Nat.le_of_ble_eq_true rfl, Nat.le_of_ble_eq_true rfl⟩ rfl (Nat.le_of_ble_eq_true rfl) 3 rfl (by intro H h; first | exact h.1 | exact h.2.1 | exact (h.2.2 g hg4).1 | exact (h.2.2 o ho4).1) (Pr' := Np E a v fss) (fun H h => h.2.2 g hg4) (fun q z => z.elim) (fun H H' h h1 h2 => by exact Np.rd hg4 h h1 h2) (st1 := [_]) rfl (k1 := 0) (n1 := 0) rfl rfl ?_
    rw [hc1]
    refine g_istore_n hF dX6_nextPlace_16 17 rfl (lo' := [_, _, _, _, _]) (Nat.le_of_ble_eq_true rfl) rfl ?_
    refine g_iload_n hF dX6_nextPlace_17 18 rfl rfl ?_
    refine g_iconst hF (-1) dX6_nextPlace_18 19 rfl rfl ?_
    refine g_icmp_eq hF dX6_nextPlace_19 22 rfl 29 (by decide) (fun c19 => ?_) (fun c19 => ?_)
    · refine g_aload_n hF dX6_nextPlace_29 30 rfl rfl ?_
      refine g_aload_n hF dX6_nextPlace_30 31 rfl rfl ?_
      refine g_get hF fl_X6_57 dX6_nextPlace_31 34 rfl (by intro H h; first | exact h.1 | exact h.2.1 | exact (h.2.2 g hg4).1 | exact (h.2.2 o ho4).1) rfl ?_
      rw [o3]
      refine g_callV hF cv_X6_38 (c_N_groupAt l E a v fss G o hG hG4 o1) dX6_nextPlace_34 37 rfl (st := []) rfl rfl ⟨Nat.le_of_ble_eq_true rfl, Nat.le_of_ble_eq_true rfl⟩ ⟨Nat.le_of_ble_eq_true rfl, Nat.le_of_ble_eq_true rfl⟩ rfl (Nat.le_of_ble_eq_true rfl) 6 rfl (by intro H h; first | exact h.1 | exact h.2.1 | exact (h.2.2 g hg4).1 | exact (h.2.2 o ho4).1) (Pr' := _) (fun _ h => h) (hA) (fun _ _ _ h _ => by exact h) (st1 := [_]) rfl (k1 := 0) (n1 := 0) rfl rfl ?_
      refine g_astore hF dX6_nextPlace_37 39 rfl (lo' := [_, _, _, _, _]) (Nat.le_of_ble_eq_true rfl) rfl ?_
      refine g_aload hF dX6_nextPlace_39 41 rfl rfl ?_
      refine g_ifnull hF dX6_nextPlace_41 44 rfl ?_
      refine g_aload hF dX6_nextPlace_44 46 rfl rfl ?_
      refine g_iconst hF (0) dX6_nextPlace_46 47 rfl rfl ?_
      refine g_callV hF cv_X6_46 (c_G_count l E (a + 2 + 5 * o) (v.2.2.2 o) (fss o) 0 M m0 m6) dX6_nextPlace_47 50 rfl (st := []) rfl rfl ⟨Nat.le_of_ble_eq_true rfl, Nat.le_of_ble_eq_true rfl⟩ ⟨Nat.le_of_ble_eq_true rfl, Nat.le_of_ble_eq_true rfl⟩ rfl (Nat.le_of_ble_eq_true rfl) 3 rfl (by intro H h; first | exact h.1 | exact h.2.1 | exact (h.2.2 g hg4).1 | exact (h.2.2 o ho4).1) (Pr' := Np E a v fss) (fun H h => h.2.2 o ho4) (fun q z => z.elim) (fun H H' h h1 h2 => by exact Np.rd ho4 h h1 h2) (st1 := [_]) rfl (k1 := 0) (n1 := 0) rfl rfl ?_
      rw [hcn]
      refine g_aload hF dX6_nextPlace_50 52 rfl rfl ?_
      refine g_get hF fl_X6_60 dX6_nextPlace_52 55 rfl (by intro H h; first | exact h.1 | exact h.2.1 | exact (h.2.2 g hg4).1 | exact (h.2.2 o ho4).1) rfl ?_
      refine g_icmp_gt hF dX6_nextPlace_55 58 rfl 60 (by decide) (fun c55 => ?_) (fun c55 => ?_)
      · refine g_bipush hF (10) dX6_nextPlace_60 62 rfl rfl ?_
        refine g_aload_n hF dX6_nextPlace_62 63 rfl rfl ?_
        refine g_get hF fl_X6_57 dX6_nextPlace_63 66 rfl (by intro H h; first | exact h.1 | exact h.2.1 | exact (h.2.2 g hg4).1 | exact (h.2.2 o ho4).1) rfl ?_
        rw [o3]
        refine g_imul hF dX6_nextPlace_66 67 rfl ?_
        refine g_aload hF dX6_nextPlace_67 69 rfl rfl ?_
        refine g_callV hF cv_X6_53 (c_G_chosenLine l E (a + 2 + 5 * o) (v.2.2.2 o) (fss o) M s' m0 m1 m6 hs' s6' hcho) dX6_nextPlace_69 72 rfl (st := [_]) rfl rfl ⟨Nat.le_of_ble_eq_true rfl, Nat.le_of_ble_eq_true rfl⟩ ⟨Nat.le_of_ble_eq_true rfl, Nat.le_of_ble_eq_true rfl⟩ rfl (Nat.le_of_ble_eq_true rfl) 3 rfl (by intro H h; first | exact h.1 | exact h.2.1 | exact (h.2.2 g hg4).1 | exact (h.2.2 o ho4).1) (Pr' := Np E a v fss) (fun H h => h.2.2 o ho4) (fun q z => z.elim) (fun H H' h h1 h2 => by exact Np.rd ho4 h h1 h2) (st1 := [_, _]) rfl (k1 := 0) (n1 := 0) rfl rfl ?_
        rw [hc2]
        refine g_iadd hF dX6_nextPlace_72 73 rfl ?_
        exact g_iret hF dX6_nextPlace_73 (Nat.le_of_ble_eq_true rfl) (Nat.le_of_ble_eq_true rfl) (fun H h => hR _ _ ⟨congrArg (fun z => some (Value.int z)) (by rw [hv, if_neg (fun z => z c19)]; exact (if_pos c55).symm), h⟩)
      · refine g_iconst hF (-1) dX6_nextPlace_58 59 rfl rfl ?_
        exact g_iret hF dX6_nextPlace_59 (Nat.le_of_ble_eq_true rfl) (Nat.le_of_ble_eq_true rfl) (fun H h => hR _ _ ⟨congrArg (fun z => some (Value.int z)) (by rw [hv, if_neg (fun z => z c19)]; exact (if_neg c55).symm), h⟩)
    · refine g_bipush hF (10) dX6_nextPlace_22 24 rfl rfl ?_
      refine g_iload_n hF dX6_nextPlace_24 25 rfl rfl ?_
      refine g_imul hF dX6_nextPlace_25 26 rfl ?_
      refine g_iload_n hF dX6_nextPlace_26 27 rfl rfl ?_
      refine g_iadd hF dX6_nextPlace_27 28 rfl ?_
      exact g_iret hF dX6_nextPlace_28 (Nat.le_of_ble_eq_true rfl) (Nat.le_of_ble_eq_true rfl) (fun H h => hR _ _ ⟨congrArg (fun z => some (Value.int z)) (by rw [hv]; exact (if_pos c19).symm), h⟩)
/-- a call has come for g -/
def sPlace (v : NV) (g : Nat) : NV :=
  if sNext v.2.2.2 g = -1 then (v.1, v.2.1 + 1, v.2.2.1 + 1, va_up v.2.2.2 g (upd (upd (v.2.2.2 g) 6 (v.2.2.2 g 6 + 1)) 9 (v.2.2.2 g 9 + 1)))
  else (v.1, v.2.1 + 1, v.2.2.1 + 1, (fun (h t : Nat) =>
    (fun gs1 : Nat → Nat → Int32 => (fun gs2 : Nat → Nat → Int32 => if h = g then va_up gs2 g (upd (gs2 g) 7 (gs2 g 7 + 1)) else va_up gs2 g (upd (gs2 g) 8 (gs2 g 8 + 1)))
      (va_up gs1 h (upd (gHold (gs1 h) t v.2.2.1 (nI g)) (13 + 4 * t) 0))) (va_up v.2.2.2 g (upd (v.2.2.2 g) 6 (v.2.2.2 g 6 + 1))))
    (sNext v.2.2.2 g / 10).toNatClampNeg (sNext v.2.2.2 g - sNext v.2.2.2 g / 10 * 10).toNatClampNeg)
theorem up_idem {α : Type} (f : Nat → α) (k : Nat) (z w : α) : va_up (va_up f k z) k w = va_up f k w := bx_uu f k z w
theorem Np.up {E : Ev} {a g : Nat} {x y z : Int32} {gs fss : Nat → Nat → Int32} {gv fs : Nat → Int32} {H H' : Heap} (hg : g < 4) (hfs : fs = fss g) (h : Np E a (x, y, z, gs) fss H) (h1 : Gp E (a + 2 + 5 * g) gv fs H') (h2 : out (rg (a + 2 + 5 * g) 5) H H') : Np E a (x, y, z, va_up gs g gv) fss H' := by
  subst hfs
  exact Np.to (Np.grp hg h h1 h2) rfl rfl rfl (fun j _ => ⟨rfl, va_up_same fss g j⟩)
theorem out_but {q : Nat} {A : Nat → Prop} {H H' : Heap} (hq : A q) (h : but q H H') : out A H H' := ⟨by rw [h.1]; exact Nat.le_refl _, fun b _ hb => h.2 b (fun e => hb (by rw [e]; exact hq))⟩
set_option maxRecDepth 100000 in
set_option maxHeartbeats 8000000 in
theorem c_N_placeCall (l : Launch) (E : Ev) (a : Nat) (v : NV) (fss : Nat → Nat → Int32) (G T g : Nat) (hG : v.1 = nI G) (hG4 : G ≤ 4) (hT : T < 2 ^ 30) (ho : ∀ g, g < 4 → okG G T g (v.2.2.2 g)) (hf : ∀ g, g < 4 → fsOK (v.2.2.2 g) (fss g)) (hg : g < G) : Ct l E yX6_placeCall cX6_placeCall 8 (some .int) (rm 4) [.ref a, .int (nI g)] (Np E a v fss) (rV (some (.int (sNext v.2.2.2 g))) (Np E a (sPlace v g) fss)) (rg a 22) := by
  refine ct_start (by decide) [some (.ref a), some (.int (nI g)), none, none, none, none, none, none] rfl (Nat.le_of_ble_eq_true rfl) ?_
  intro x hF hN hA hR
  have hg4 : g < 4 := by omega
  obtain ⟨v1, v2, v3, gs⟩ := v
  dsimp only at hG ho hf ⊢
  rcases sNext_cases hG4 ho hg with hp | ⟨h, t, hh, ht, hM6, hp, hfree⟩
  · have hv : sPlace (v1, v2, v3, gs) g = (v1, v2 + 1, v3 + 1, va_up gs g (upd (upd (gs g) 6 (gs g 6 + 1)) 9 (gs g 9 + 1))) := if_pos hp
    rw [hv, hp] at hR
    refine g_aload_n hF dX6_placeCall_0 1 rfl rfl ?_
    refine g_iload_n hF dX6_placeCall_1 2 rfl rfl ?_
    refine g_callV hF cv_X6_38 (c_N_groupAt l E a (v1, v2, v3, gs) fss G g hG hG4 hg) dX6_placeCall_2 5 rfl (st := []) rfl rfl ⟨Nat.le_of_ble_eq_true rfl, Nat.le_of_ble_eq_true rfl⟩ ⟨Nat.le_of_ble_eq_true rfl, Nat.le_of_ble_eq_true rfl⟩ rfl (Nat.le_of_ble_eq_true rfl) 6 rfl (by intro H h; first | exact h.1 | exact h.2.1 | exact (h.2.2 g hg4).1) (Pr' := _) (fun _ h => h) (fun q z => z.elim) (fun _ _ _ h _ => by exact h) (st1 := [_]) rfl (k1 := 0) (n1 := 0) rfl rfl ?_
    refine g_astore_n hF dX6_placeCall_5 6 rfl (lo' := [_, _, _, _, _, _, _, _]) (Nat.le_of_ble_eq_true rfl) rfl ?_
    refine g_aload_n hF dX6_placeCall_6 7 rfl rfl ?_
    refine g_ifnonnull hF dX6_placeCall_7 12 (by decide) ?_
    refine g_aload_n hF dX6_placeCall_12 13 rfl rfl ?_
    refine g_iload_n hF dX6_placeCall_13 14 rfl rfl ?_
    refine g_callV hF cv_X6_63 (c_N_nextPlace l E a (v1, v2, v3, gs) fss G T g hG hG4 hT ho hf hg) dX6_placeCall_14 17 rfl (st := []) rfl rfl ⟨Nat.le_of_ble_eq_true rfl, Nat.le_of_ble_eq_true rfl⟩ ⟨Nat.le_of_ble_eq_true rfl, Nat.le_of_ble_eq_true rfl⟩ rfl (Nat.le_of_ble_eq_true rfl) 6 rfl (by intro H h; first | exact h.1 | exact h.2.1 | exact (h.2.2 g hg4).1) (Pr' := _) (fun _ h => h) (fun q z => z.elim) (fun _ _ _ h _ => by exact h) (st1 := [_]) rfl (k1 := 0) (n1 := 0) rfl rfl ?_
    dsimp only
    rw [hp]
    refine g_istore_n hF dX6_placeCall_17 18 rfl (lo' := [_, _, _, _, _, _, _, _]) (Nat.le_of_ble_eq_true rfl) rfl ?_
    refine g_aload_n hF dX6_placeCall_18 19 rfl rfl ?_
    refine g_get hF fl_X6_29 dX6_placeCall_19 22 rfl (by intro H h; first | exact h.1 | exact h.2.1 | exact (h.2.2 g hg4).1) rfl ?_
    refine g_istore hF dX6_placeCall_22 24 rfl (lo' := [_, _, _, _, _, _, _, _]) (Nat.le_of_ble_eq_true rfl) rfl ?_
    refine g_aload_n hF dX6_placeCall_24 25 rfl rfl ?_
    refine g_dup hF dX6_placeCall_25 26 rfl rfl ?_
    refine g_get hF fl_X6_29 dX6_placeCall_26 29 rfl (by intro H h; first | exact h.1 | exact h.2.1 | exact (h.2.2 g hg4).1) rfl ?_
    refine g_iconst hF (1) dX6_placeCall_29 30 rfl rfl ?_
    refine g_iadd hF dX6_placeCall_30 31 rfl ?_
    refine g_put hF pl_X6_29 dX6_placeCall_31 34 rfl (by intro H h; first | exact h.1 | exact h.2.1 | exact (h.2.2 g hg4).1) (Nat.le_of_ble_eq_true rfl) rfl rfl (hA _ ⟨by omega, by omega⟩) (Pr' := Np E a (v1, v2, v3 + 1, gs) fss) (fun H H' h h1 h2 => by exact Np.wo v1 v2 (v3 + 1) h h1 h2) ?_
    refine g_aload_n hF dX6_placeCall_34 35 rfl rfl ?_
    refine g_dup hF dX6_placeCall_35 36 rfl rfl ?_
    refine g_get hF fl_X6_26 dX6_placeCall_36 39 rfl (by intro H h; first | exact h.1 | exact h.2.1 | exact (h.2.2 g hg4).1) rfl ?_
    refine g_iconst hF (1) dX6_placeCall_39 40 rfl rfl ?_
    refine g_iadd hF dX6_placeCall_40 41 rfl ?_
    refine g_put hF pl_X6_26 dX6_placeCall_41 44 rfl (by intro H h; first | exact h.1 | exact h.2.1 | exact (h.2.2 g hg4).1) (Nat.le_of_ble_eq_true rfl) rfl rfl (hA _ ⟨by omega, by omega⟩) (Pr' := Np E a (v1, v2 + 1, v3 + 1, gs) fss) (fun H H' h h1 h2 => by exact Np.wo v1 (v2 + 1) (v3 + 1) h h1 h2) ?_
    refine g_aload_n hF dX6_placeCall_44 45 rfl rfl ?_
    refine g_dup hF dX6_placeCall_45 46 rfl rfl ?_
    refine g_get hF fl_X6_66 dX6_placeCall_46 49 rfl (by intro H h; first | exact h.1 | exact h.2.1 | exact (h.2.2 g hg4).1) rfl ?_
    refine g_iconst hF (1) dX6_placeCall_49 50 rfl rfl ?_
    refine g_iadd hF dX6_placeCall_50 51 rfl ?_
    refine g_put hF pl_X6_66 dX6_placeCall_51 54 rfl (by intro H h; first | exact h.1 | exact h.2.1 | exact (h.2.2 g hg4).1) (Nat.le_of_ble_eq_true rfl) rfl rfl (hA _ ⟨by omega, by omega⟩) (Pr' := Np E a (v1, v2 + 1, v3 + 1, va_up gs g (upd (gs g) 6 (gs g 6 + 1))) fss) (fun H H' h h1 h2 => by exact Np.up hg4 rfl h (Gp.wo (by omega) rfl (h.2.2 g hg4) h1 h2) (out_but ⟨by omega, by omega⟩ h2)) ?_
    refine g_iload_n hF dX6_placeCall_54 55 rfl rfl ?_
    refine g_bipush hF (10) dX6_placeCall_55 57 rfl rfl ?_
    refine g_idiv hF dX6_placeCall_57 58 rfl (by decide) ?_
    refine g_istore hF dX6_placeCall_58 60 rfl (lo' := [_, _, _, _, _, _, _, _]) (Nat.le_of_ble_eq_true rfl) rfl ?_
    refine g_iload_n hF dX6_placeCall_60 61 rfl rfl ?_
    refine g_bipush hF (10) dX6_placeCall_61 63 rfl rfl ?_
    refine g_irem hF dX6_placeCall_63 64 rfl (by decide) ?_
    refine g_istore hF dX6_placeCall_64 66 rfl (lo' := [_, _, _, _, _, _, _, _]) (Nat.le_of_ble_eq_true rfl) rfl ?_
    refine g_iload_n hF dX6_placeCall_66 67 rfl rfl ?_
    refine g_iconst hF (-1) dX6_placeCall_67 68 rfl rfl ?_
    refine g_icmp_ne hF dX6_placeCall_68 71 rfl 75 (by decide) (fun c => absurd (rfl) c) (fun _ => ?_)
    refine g_null hF dX6_placeCall_71 72 rfl ?_
    refine g_goto hF dX6_placeCall_72 83 (by decide) ?_
    refine g_astoreN hF dX6_placeCall_83 85 rfl (lo' := [_, _, _, _, _, _, _, _]) (Nat.le_of_ble_eq_true rfl) rfl ?_
    refine g_aloadN hF dX6_placeCall_85 87 rfl rfl ?_
    refine g_ifnonnullN hF dX6_placeCall_87 90 rfl ?_
    have e0 : va_up gs g (upd (gs g) 6 (gs g 6 + 1)) g = upd (gs g) 6 (gs g 6 + 1) := va_up_self _ _ _
    refine g_aload_n hF dX6_placeCall_90 91 rfl rfl ?_
    refine g_dup hF dX6_placeCall_91 92 rfl rfl ?_
    refine g_get hF fl_X6_50 dX6_placeCall_92 95 rfl (by intro H h; first | exact h.1 | exact h.2.1 | exact (h.2.2 g hg4).1) rfl ?_
    refine g_iconst hF (1) dX6_placeCall_95 96 rfl rfl ?_
    refine g_iadd hF dX6_placeCall_96 97 rfl ?_
    refine g_put hF pl_X6_50 dX6_placeCall_97 100 rfl (by intro H h; first | exact h.1 | exact h.2.1 | exact (h.2.2 g hg4).1) (Nat.le_of_ble_eq_true rfl) rfl rfl (hA _ ⟨by omega, by omega⟩) (Pr' := Np E a (v1, v2 + 1, v3 + 1, va_up gs g (upd (upd (gs g) 6 (gs g 6 + 1)) 9 (gs g 9 + 1))) fss) (fun H H' h h1 h2 => by have h3 := h.2.2 g hg4; dsimp only at h3 h1; rw [e0] at h3 h1; have := Np.up hg4 rfl h (Gp.wo (w := 9) (z := gs g 9 + 1) (by omega) rfl h3 h1 h2) (out_but ⟨by omega, by omega⟩ h2); rw [up_idem] at this; exact this) ?_
    skip
    refine g_iconst hF (-1) dX6_placeCall_100 101 rfl rfl ?_
    exact g_iret hF dX6_placeCall_101 (Nat.le_of_ble_eq_true rfl) (Nat.le_of_ble_eq_true rfl) (fun H h => hR _ _ ⟨congrArg (fun z => some (Value.int z)) (rfl), h⟩)
  · have hh4 : h < 4 := by omega
    have ed : nI (10 * h + t) / 10 = nI h := by
      rw [show (10 : Int32) = nI 10 by decide, pk_div (by omega) (by omega) (by omega)]
      congr 1
      omega
    have er : nI (10 * h + t) - nI (10 * h + t) / 10 * 10 = nI t := by
      rw [show (10 : Int32) = nI 10 by decide, pk_rem (by omega) (by omega) (by omega)]
      congr 1
      omega
    obtain ⟨gs1, e1⟩ : ∃ q, q = va_up gs g (upd (gs g) 6 (gs g 6 + 1)) := ⟨_, rfl⟩
    obtain ⟨gs2, e2⟩ : ∃ q, q = va_up gs1 h (upd (gHold (gs1 h) t v3 (nI g)) (13 + 4 * t) 0) := ⟨_, rfl⟩
    have hM : gs1 h 0 = nI (gs h 0).toNatClampNeg := by
      obtain ⟨⟨M, m1, m6, m0, -⟩, -⟩ := ho h hh4
      rw [m0, nI_clamp (by omega), ← m0, e1]
      by_cases q : h = g
      · subst q; rw [va_up_self]; exact pk_un (by omega)
      · rw [va_up_ne _ _ q]
    have hv : sPlace (v1, v2, v3, gs) g = (v1, v2 + 1, v3 + 1, if h = g then va_up gs2 g (upd (gs2 g) 7 (gs2 g 7 + 1)) else va_up gs2 g (upd (gs2 g) 8 (gs2 g 8 + 1))) := by
      unfold sPlace
      dsimp only
      rw [hp, if_neg (nI_nm1 (by omega)), er, ed, nI_clamp (by omega), nI_clamp (by omega), ← e1, ← e2]
    rw [hv, hp] at hR
    refine g_aload_n hF dX6_placeCall_0 1 rfl rfl ?_
    refine g_iload_n hF dX6_placeCall_1 2 rfl rfl ?_
    refine g_callV hF cv_X6_38 (c_N_groupAt l E a (v1, v2, v3, gs) fss G g hG hG4 hg) dX6_placeCall_2 5 rfl (st := []) rfl rfl ⟨Nat.le_of_ble_eq_true rfl, Nat.le_of_ble_eq_true rfl⟩ ⟨Nat.le_of_ble_eq_true rfl, Nat.le_of_ble_eq_true rfl⟩ rfl (Nat.le_of_ble_eq_true rfl) 6 rfl (by intro H z; first | exact z.1 | exact z.2.1 | exact (z.2.2 g hg4).1 | exact (z.2.2 h hh4).1) (Pr' := _) (fun _ h => h) (fun q z => z.elim) (fun _ _ _ h _ => by exact h) (st1 := [_]) rfl (k1 := 0) (n1 := 0) rfl rfl ?_
    refine g_astore_n hF dX6_placeCall_5 6 rfl (lo' := [_, _, _, _, _, _, _, _]) (Nat.le_of_ble_eq_true rfl) rfl ?_
    refine g_aload_n hF dX6_placeCall_6 7 rfl rfl ?_
    refine g_ifnonnull hF dX6_placeCall_7 12 (by decide) ?_
    refine g_aload_n hF dX6_placeCall_12 13 rfl rfl ?_
    refine g_iload_n hF dX6_placeCall_13 14 rfl rfl ?_
    refine g_callV hF cv_X6_63 (c_N_nextPlace l E a (v1, v2, v3, gs) fss G T g hG hG4 hT ho hf hg) dX6_placeCall_14 17 rfl (st := []) rfl rfl ⟨Nat.le_of_ble_eq_true rfl, Nat.le_of_ble_eq_true rfl⟩ ⟨Nat.le_of_ble_eq_true rfl, Nat.le_of_ble_eq_true rfl⟩ rfl (Nat.le_of_ble_eq_true rfl) 6 rfl (by intro H z; first | exact z.1 | exact z.2.1 | exact (z.2.2 g hg4).1 | exact (z.2.2 h hh4).1) (Pr' := _) (fun _ h => h) (fun q z => z.elim) (fun _ _ _ h _ => by exact h) (st1 := [_]) rfl (k1 := 0) (n1 := 0) rfl rfl ?_
    dsimp only
    rw [hp]
    refine g_istore_n hF dX6_placeCall_17 18 rfl (lo' := [_, _, _, _, _, _, _, _]) (Nat.le_of_ble_eq_true rfl) rfl ?_
    refine g_aload_n hF dX6_placeCall_18 19 rfl rfl ?_
    refine g_get hF fl_X6_29 dX6_placeCall_19 22 rfl (by intro H z; first | exact z.1 | exact z.2.1 | exact (z.2.2 g hg4).1 | exact (z.2.2 h hh4).1) rfl ?_
    refine g_istore hF dX6_placeCall_22 24 rfl (lo' := [_, _, _, _, _, _, _, _]) (Nat.le_of_ble_eq_true rfl) rfl ?_
    refine g_aload_n hF dX6_placeCall_24 25 rfl rfl ?_
    refine g_dup hF dX6_placeCall_25 26 rfl rfl ?_
    refine g_get hF fl_X6_29 dX6_placeCall_26 29 rfl (by intro H z; first | exact z.1 | exact z.2.1 | exact (z.2.2 g hg4).1 | exact (z.2.2 h hh4).1) rfl ?_
    refine g_iconst hF (1) dX6_placeCall_29 30 rfl rfl ?_
    refine g_iadd hF dX6_placeCall_30 31 rfl ?_
    refine g_put hF pl_X6_29 dX6_placeCall_31 34 rfl (by intro H z; first | exact z.1 | exact z.2.1 | exact (z.2.2 g hg4).1 | exact (z.2.2 h hh4).1) (Nat.le_of_ble_eq_true rfl) rfl rfl (hA _ ⟨by omega, by omega⟩) (Pr' := Np E a (v1, v2, v3 + 1, gs) fss) (fun H H' h h1 h2 => by exact Np.wo v1 v2 (v3 + 1) h h1 h2) ?_
    refine g_aload_n hF dX6_placeCall_34 35 rfl rfl ?_
    refine g_dup hF dX6_placeCall_35 36 rfl rfl ?_
    refine g_get hF fl_X6_26 dX6_placeCall_36 39 rfl (by intro H z; first | exact z.1 | exact z.2.1 | exact (z.2.2 g hg4).1 | exact (z.2.2 h hh4).1) rfl ?_
    refine g_iconst hF (1) dX6_placeCall_39 40 rfl rfl ?_
    refine g_iadd hF dX6_placeCall_40 41 rfl ?_
    refine g_put hF pl_X6_26 dX6_placeCall_41 44 rfl (by intro H z; first | exact z.1 | exact z.2.1 | exact (z.2.2 g hg4).1 | exact (z.2.2 h hh4).1) (Nat.le_of_ble_eq_true rfl) rfl rfl (hA _ ⟨by omega, by omega⟩) (Pr' := Np E a (v1, v2 + 1, v3 + 1, gs) fss) (fun H H' h h1 h2 => by exact Np.wo v1 (v2 + 1) (v3 + 1) h h1 h2) ?_
    refine g_aload_n hF dX6_placeCall_44 45 rfl rfl ?_
    refine g_dup hF dX6_placeCall_45 46 rfl rfl ?_
    refine g_get hF fl_X6_66 dX6_placeCall_46 49 rfl (by intro H z; first | exact z.1 | exact z.2.1 | exact (z.2.2 g hg4).1 | exact (z.2.2 h hh4).1) rfl ?_
    refine g_iconst hF (1) dX6_placeCall_49 50 rfl rfl ?_
    refine g_iadd hF dX6_placeCall_50 51 rfl ?_
    refine g_put hF pl_X6_66 dX6_placeCall_51 54 rfl (by intro H z; first | exact z.1 | exact z.2.1 | exact (z.2.2 g hg4).1 | exact (z.2.2 h hh4).1) (Nat.le_of_ble_eq_true rfl) rfl rfl (hA _ ⟨by omega, by omega⟩) (Pr' := Np E a (v1, v2 + 1, v3 + 1, gs1) fss) (fun H H' h h1 h2 => by rw [e1]; exact Np.up hg4 rfl h (Gp.wo (by omega) rfl (h.2.2 g hg4) h1 h2) (out_but ⟨by omega, by omega⟩ h2)) ?_
    refine g_iload_n hF dX6_placeCall_54 55 rfl rfl ?_
    refine g_bipush hF (10) dX6_placeCall_55 57 rfl rfl ?_
    refine g_idiv hF dX6_placeCall_57 58 rfl (by decide) ?_
    rw [ed]
    refine g_istore hF dX6_placeCall_58 60 rfl (lo' := [_, _, _, _, _, _, _, _]) (Nat.le_of_ble_eq_true rfl) rfl ?_
    refine g_iload_n hF dX6_placeCall_60 61 rfl rfl ?_
    refine g_bipush hF (10) dX6_placeCall_61 63 rfl rfl ?_
    refine g_irem hF dX6_placeCall_63 64 rfl (by decide) ?_
    rw [er]
    refine g_istore hF dX6_placeCall_64 66 rfl (lo' := [_, _, _, _, _, _, _, _]) (Nat.le_of_ble_eq_true rfl) rfl ?_
    refine g_iload_n hF dX6_placeCall_66 67 rfl rfl ?_
    refine g_iconst hF (-1) dX6_placeCall_67 68 rfl rfl ?_
    refine g_icmp_ne hF dX6_placeCall_68 71 rfl 75 (by decide) (fun _ => ?_) (fun c => absurd c (nI_nm1 (by omega)))
    refine g_aload_n hF dX6_placeCall_75 76 rfl rfl ?_
    refine g_iload hF dX6_placeCall_76 78 rfl rfl ?_
    refine g_iload hF dX6_placeCall_78 80 rfl rfl ?_
    refine g_callV hF cv_X6_69 (c_N_gwl l E a (v1, v2 + 1, v3 + 1, gs1) fss G h _ t hG hG4 hh hM hM6 ht) dX6_placeCall_80 83 rfl (st := []) rfl rfl ⟨Nat.le_of_ble_eq_true rfl, Nat.le_of_ble_eq_true rfl⟩ ⟨Nat.le_of_ble_eq_true rfl, Nat.le_of_ble_eq_true rfl⟩ rfl (Nat.le_of_ble_eq_true rfl) 6 rfl (by intro H z; first | exact z.1 | exact z.2.1 | exact (z.2.2 g hg4).1 | exact (z.2.2 h hh4).1) (Pr' := _) (fun _ h => h) (fun q z => z.elim) (fun _ _ _ h _ => by exact h) (st1 := [_]) rfl (k1 := 0) (n1 := 0) rfl rfl ?_
    refine g_astore hF dX6_placeCall_83 85 rfl (lo' := [_, _, _, _, _, _, _, _]) (Nat.le_of_ble_eq_true rfl) rfl ?_
    refine g_aload hF dX6_placeCall_85 87 rfl rfl ?_
    refine g_ifnonnull hF dX6_placeCall_87 102 (by decide) ?_
    refine g_aload hF dX6_placeCall_102 104 rfl rfl ?_
    refine g_iload hF dX6_placeCall_104 106 rfl rfl ?_
    refine g_iload hF dX6_placeCall_106 108 rfl rfl ?_
    refine g_iload_n hF dX6_placeCall_108 109 rfl rfl ?_
    refine g_callV hF cv_X6_73 (c_G_hold l E (a + 2 + 5 * h) (gs1 h) (fss h) t v3 (nI g) (by omega)) dX6_placeCall_109 112 rfl (st := []) rfl rfl ⟨Nat.le_of_ble_eq_true rfl, Nat.le_of_ble_eq_true rfl⟩ ⟨Nat.le_of_ble_eq_true rfl, Nat.le_of_ble_eq_true rfl⟩ rfl (Nat.le_of_ble_eq_true rfl) 3 rfl (by intro H z; first | exact z.1 | exact z.2.1 | exact (z.2.2 g hg4).1 | exact (z.2.2 h hh4).1) (Pr' := Np E a (v1, v2 + 1, v3 + 1, gs2) fss) (fun H z => z.2.2 h hh4) (fun q hq => hA q ⟨by have := hq.1; omega, by have := hq.2; omega⟩) (fun H H' z h1 h2 => by rw [e2]; exact Np.up hh4 rfl z (Gp.ghost h1) h2) (st1 := []) rfl (k1 := 0) (n1 := 0) rfl rfl ?_
    refine g_iload hF dX6_placeCall_112 114 rfl rfl ?_
    refine g_iload_n hF dX6_placeCall_114 115 rfl rfl ?_
    refine g_icmp_ne hF dX6_placeCall_115 118 rfl 131 (by decide) (fun c115 => ?_) (fun c115 => ?_)
    · refine g_aload_n hF dX6_placeCall_131 132 rfl rfl ?_
      refine g_dup hF dX6_placeCall_132 133 rfl rfl ?_
      refine g_get hF fl_X6_80 dX6_placeCall_133 136 rfl (by intro H z; first | exact z.1 | exact z.2.1 | exact (z.2.2 g hg4).1 | exact (z.2.2 h hh4).1) rfl ?_
      refine g_iconst hF (1) dX6_placeCall_136 137 rfl rfl ?_
      refine g_iadd hF dX6_placeCall_137 138 rfl ?_
      refine g_put hF pl_X6_80 dX6_placeCall_138 141 rfl (by intro H z; first | exact z.1 | exact z.2.1 | exact (z.2.2 g hg4).1 | exact (z.2.2 h hh4).1) (Nat.le_of_ble_eq_true rfl) rfl rfl (hA _ ⟨by omega, by omega⟩) (Pr' := Np E a (v1, v2 + 1, v3 + 1, va_up gs2 g (upd (gs2 g) 8 (gs2 g 8 + 1))) fss) (fun H H' z h1 h2 => by exact Np.up hg4 rfl z (Gp.wo (by omega) rfl (z.2.2 g hg4) h1 h2) (out_but ⟨by omega, by omega⟩ h2)) ?_
      refine g_iload_n hF dX6_placeCall_141 142 rfl rfl ?_
      exact g_iret hF dX6_placeCall_142 (Nat.le_of_ble_eq_true rfl) (Nat.le_of_ble_eq_true rfl) (fun H h => hR _ _ ⟨congrArg (fun z => some (Value.int z)) (rfl), by rw [if_neg (fun z => c115 (by rw [z]))]; assumption⟩)
    · refine g_aload_n hF dX6_placeCall_118 119 rfl rfl ?_
      refine g_dup hF dX6_placeCall_119 120 rfl rfl ?_
      refine g_get hF fl_X6_77 dX6_placeCall_120 123 rfl (by intro H z; first | exact z.1 | exact z.2.1 | exact (z.2.2 g hg4).1 | exact (z.2.2 h hh4).1) rfl ?_
      refine g_iconst hF (1) dX6_placeCall_123 124 rfl rfl ?_
      refine g_iadd hF dX6_placeCall_124 125 rfl ?_
      refine g_put hF pl_X6_77 dX6_placeCall_125 128 rfl (by intro H z; first | exact z.1 | exact z.2.1 | exact (z.2.2 g hg4).1 | exact (z.2.2 h hh4).1) (Nat.le_of_ble_eq_true rfl) rfl rfl (hA _ ⟨by omega, by omega⟩) (Pr' := Np E a (v1, v2 + 1, v3 + 1, va_up gs2 g (upd (gs2 g) 7 (gs2 g 7 + 1))) fss) (fun H H' z h1 h2 => by exact Np.up hg4 rfl z (Gp.wo (by omega) rfl (z.2.2 g hg4) h1 h2) (out_but ⟨by omega, by omega⟩ h2)) ?_
      refine g_goto hF dX6_placeCall_128 141 (by decide) ?_
      refine g_iload_n hF dX6_placeCall_141 142 rfl rfl ?_
      exact g_iret hF dX6_placeCall_142 (Nat.le_of_ble_eq_true rfl) (Nat.le_of_ble_eq_true rfl) (fun H h => hR _ _ ⟨congrArg (fun z => some (Value.int z)) (rfl), by rw [if_pos ((nI_eq (by omega) (by omega)).mp c115)]; assumption⟩)
def sEnd (v : NV) (g i : Nat) : NV := (v.1, v.2.1 + 1, v.2.2.1, va_up v.2.2.2 g (upd (gLet (v.2.2.2 g) i 0) (13 + 4 * i) (v.2.1 + 1)))
def sBrk (v : NV) (g i : Nat) : NV := (v.1, v.2.1 + 1, v.2.2.1, (fun gs1 : Nat → Nat → Int32 => va_up gs1 g (upd (gLet (gs1 g) i 2) (13 + 4 * i) 0)) (if v.2.2.2 g (12 + 4 * i) = -1 then v.2.2.2 else va_up v.2.2.2 (v.2.2.2 g (12 + 4 * i)).toNatClampNeg (upd (v.2.2.2 (v.2.2.2 g (12 + 4 * i)).toNatClampNeg) 9 (v.2.2.2 (v.2.2.2 g (12 + 4 * i)).toNatClampNeg 9 + 1))))
set_option maxRecDepth 100000 in
set_option maxHeartbeats 8000000 in
theorem c_N_endCall (l : Launch) (E : Ev) (a : Nat) (v : NV) (fss : Nat → Nat → Int32) (g i : Nat) (hg : g < 4) (hi : i < 6) : Ct l E yX6_endCall cX6_endCall 4 (some .int) (rm 2) [.ref a, .ref (a + 2 + 5 * g), .int (nI i)] (Np E a v fss) (rV (some (.int (v.2.2.2 g (11 + 4 * i)))) (Np E a (sEnd v g i) (va_up fss g (upd (fss g) i (v.2.1 + 1))))) (rg a 22) := by
  refine ct_start (by decide) [some (.ref a), some (.ref (a + 2 + 5 * g)), some (.int (nI i)), none] rfl (Nat.le_of_ble_eq_true rfl) ?_
  intro x hF hN hA hR
  obtain ⟨v1, v2, v3, gs⟩ := v
  have hcl : (nI i).toNatClampNeg = i := nI_clamp (by omega)
  refine g_aload_n hF dX6_endCall_0 1 rfl rfl ?_
  refine g_get hF fl_X6_83 dX6_endCall_1 4 rfl (by intro H h; first | exact h.1 | exact h.2.1 | exact (h.2.2 g hg).1 | exact (h.2.2 g hg).2.1 | exact (h.2.2 g hg).2.2.1 | exact (h.2.2 g hg).2.2.2.1) rfl ?_
  refine g_iload_n hF dX6_endCall_4 5 rfl rfl ?_
  refine g_iald hF dX6_endCall_5 6 rfl (by intro H h; first | exact h.1 | exact h.2.1 | exact (h.2.2 g hg).1 | exact (h.2.2 g hg).2.1 | exact (h.2.2 g hg).2.2.1 | exact (h.2.2 g hg).2.2.2.1) (vp_in_nI hi (by omega)) ?_
  rw [hcl]
  refine g_istore_n hF dX6_endCall_6 7 rfl (lo' := [_, _, _, _]) (Nat.le_of_ble_eq_true rfl) rfl ?_
  refine g_aload_n hF dX6_endCall_7 8 rfl rfl ?_
  refine g_dup hF dX6_endCall_8 9 rfl rfl ?_
  refine g_get hF fl_X6_26 dX6_endCall_9 12 rfl (by intro H h; first | exact h.1 | exact h.2.1 | exact (h.2.2 g hg).1 | exact (h.2.2 g hg).2.1 | exact (h.2.2 g hg).2.2.1 | exact (h.2.2 g hg).2.2.2.1) rfl ?_
  refine g_iconst hF (1) dX6_endCall_12 13 rfl rfl ?_
  refine g_iadd hF dX6_endCall_13 14 rfl ?_
  refine g_put hF pl_X6_26 dX6_endCall_14 17 rfl (by intro H h; first | exact h.1 | exact h.2.1 | exact (h.2.2 g hg).1 | exact (h.2.2 g hg).2.1 | exact (h.2.2 g hg).2.2.1 | exact (h.2.2 g hg).2.2.2.1) (Nat.le_of_ble_eq_true rfl) rfl rfl (hA _ ⟨by omega, by omega⟩) (Pr' := Np E a (v1, v2 + 1, v3, gs) fss) (fun H H' h h1 h2 => by exact Np.wo v1 (v2 + 1) v3 h h1 h2) ?_
  refine g_aload_n hF dX6_endCall_17 18 rfl rfl ?_
  refine g_iload_n hF dX6_endCall_18 19 rfl rfl ?_
  refine g_iconst hF (0) dX6_endCall_19 20 rfl rfl ?_
  refine g_aload_n hF dX6_endCall_20 21 rfl rfl ?_
  refine g_get hF fl_X6_26 dX6_endCall_21 24 rfl (by intro H h; first | exact h.1 | exact h.2.1 | exact (h.2.2 g hg).1 | exact (h.2.2 g hg).2.1 | exact (h.2.2 g hg).2.2.1 | exact (h.2.2 g hg).2.2.2.1) rfl ?_
  refine g_callV hF cv_X6_87 (c_G_letGo l E (a + 2 + 5 * g) (gs g) (fss g) i 0 (v2 + 1) hi) dX6_endCall_24 27 rfl (st := []) rfl rfl ⟨Nat.le_of_ble_eq_true rfl, Nat.le_of_ble_eq_true rfl⟩ ⟨Nat.le_of_ble_eq_true rfl, Nat.le_of_ble_eq_true rfl⟩ rfl (Nat.le_of_ble_eq_true rfl) 3 rfl (by intro H h; first | exact h.1 | exact h.2.1 | exact (h.2.2 g hg).1 | exact (h.2.2 g hg).2.1 | exact (h.2.2 g hg).2.2.1 | exact (h.2.2 g hg).2.2.2.1) (Pr' := Np E a (v1, v2 + 1, v3, va_up gs g (upd (gLet (gs g) i 0) (13 + 4 * i) (v2 + 1))) (va_up fss g (upd (fss g) i (v2 + 1)))) (fun H h => h.2.2 g hg) (fun q hq => hA q ⟨by have := hq.1; omega, by have := hq.2; omega⟩) (fun H H' h h1 h2 => by exact Np.grp hg h (Gp.ghost h1) h2) (st1 := []) rfl (k1 := 0) (n1 := 0) rfl rfl ?_
  refine g_iload_n hF dX6_endCall_27 28 rfl rfl ?_
  exact g_iret hF dX6_endCall_28 (Nat.le_of_ble_eq_true rfl) (Nat.le_of_ble_eq_true rfl) (fun H h => hR _ _ ⟨congrArg (fun z => some (Value.int z)) (rfl), h⟩)
set_option maxRecDepth 100000 in
set_option maxHeartbeats 8000000 in
theorem c_N_mendLine (l : Launch) (E : Ev) (a : Nat) (v : NV) (fss : Nat → Nat → Int32) (g i : Nat) (hg : g < 4) (hi : i < 6) : Ct l E yX6_mendLine cX6_mendLine 3 none (rm 2) [.ref a, .ref (a + 2 + 5 * g), .int (nI i)] (Np E a v fss) (rV none (Np E a (sEnd v g i) (va_up fss g (upd (fss g) i (v.2.1 + 1))))) (rg a 22) := by
  refine ct_start (by decide) [some (.ref a), some (.ref (a + 2 + 5 * g)), some (.int (nI i))] rfl (Nat.le_of_ble_eq_true rfl) ?_
  intro x hF hN hA hR
  obtain ⟨v1, v2, v3, gs⟩ := v
  refine g_aload_n hF dX6_mendLine_0 1 rfl rfl ?_
  refine g_dup hF dX6_mendLine_1 2 rfl rfl ?_
  refine g_get hF fl_X6_26 dX6_mendLine_2 5 rfl (by intro H h; first | exact h.1 | exact h.2.1 | exact (h.2.2 g hg).1 | exact (h.2.2 g hg).2.1 | exact (h.2.2 g hg).2.2.1 | exact (h.2.2 g hg).2.2.2.1) rfl ?_
  refine g_iconst hF (1) dX6_mendLine_5 6 rfl rfl ?_
  refine g_iadd hF dX6_mendLine_6 7 rfl ?_
  refine g_put hF pl_X6_26 dX6_mendLine_7 10 rfl (by intro H h; first | exact h.1 | exact h.2.1 | exact (h.2.2 g hg).1 | exact (h.2.2 g hg).2.1 | exact (h.2.2 g hg).2.2.1 | exact (h.2.2 g hg).2.2.2.1) (Nat.le_of_ble_eq_true rfl) rfl rfl (hA _ ⟨by omega, by omega⟩) (Pr' := Np E a (v1, v2 + 1, v3, gs) fss) (fun H H' h h1 h2 => by exact Np.wo v1 (v2 + 1) v3 h h1 h2) ?_
  refine g_aload_n hF dX6_mendLine_10 11 rfl rfl ?_
  refine g_iload_n hF dX6_mendLine_11 12 rfl rfl ?_
  refine g_iconst hF (0) dX6_mendLine_12 13 rfl rfl ?_
  refine g_aload_n hF dX6_mendLine_13 14 rfl rfl ?_
  refine g_get hF fl_X6_26 dX6_mendLine_14 17 rfl (by intro H h; first | exact h.1 | exact h.2.1 | exact (h.2.2 g hg).1 | exact (h.2.2 g hg).2.1 | exact (h.2.2 g hg).2.2.1 | exact (h.2.2 g hg).2.2.2.1) rfl ?_
  refine g_callV hF cv_X6_87 (c_G_letGo l E (a + 2 + 5 * g) (gs g) (fss g) i 0 (v2 + 1) hi) dX6_mendLine_17 20 rfl (st := []) rfl rfl ⟨Nat.le_of_ble_eq_true rfl, Nat.le_of_ble_eq_true rfl⟩ ⟨Nat.le_of_ble_eq_true rfl, Nat.le_of_ble_eq_true rfl⟩ rfl (Nat.le_of_ble_eq_true rfl) 3 rfl (by intro H h; first | exact h.1 | exact h.2.1 | exact (h.2.2 g hg).1 | exact (h.2.2 g hg).2.1 | exact (h.2.2 g hg).2.2.1 | exact (h.2.2 g hg).2.2.2.1) (Pr' := Np E a (v1, v2 + 1, v3, va_up gs g (upd (gLet (gs g) i 0) (13 + 4 * i) (v2 + 1))) (va_up fss g (upd (fss g) i (v2 + 1)))) (fun H h => h.2.2 g hg) (fun q hq => hA q ⟨by have := hq.1; omega, by have := hq.2; omega⟩) (fun H H' h h1 h2 => by exact Np.grp hg h (Gp.ghost h1) h2) (st1 := []) rfl (k1 := 0) (n1 := 0) rfl rfl ?_
  exact g_vret hF dX6_mendLine_20 (Nat.le_of_ble_eq_true rfl) (Nat.le_of_ble_eq_true rfl) (fun H h => hR _ _ ⟨rfl, h⟩)
set_option maxRecDepth 100000 in
set_option maxHeartbeats 8000000 in
theorem c_N_breakLine (l : Launch) (E : Ev) (a : Nat) (v : NV) (fss : Nat → Nat → Int32) (G g i : Nat) (hG : v.1 = nI G) (hG4 : G ≤ 4) (hg : g < 4) (hi : i < 6) (hw : v.2.2.2 g (12 + 4 * i) = -1 ∨ ∃ w, w < G ∧ v.2.2.2 g (12 + 4 * i) = nI w) : Ct l E yX6_breakLine cX6_breakLine 5 (some .int) (rm 2) [.ref a, .ref (a + 2 + 5 * g), .int (nI i)] (Np E a v fss) (rV (some (.int (v.2.2.2 g (11 + 4 * i)))) (Np E a (sBrk v g i) (va_up fss g (upd (fss g) i (v.2.1 + 1))))) (rg a 22) := by
  refine ct_start (by decide) [some (.ref a), some (.ref (a + 2 + 5 * g)), some (.int (nI i)), none, none] rfl (Nat.le_of_ble_eq_true rfl) ?_
  intro x hF hN hA hR
  obtain ⟨v1, v2, v3, gs⟩ := v
  dsimp only at hG hw hR ⊢
  have hcl : (nI i).toNatClampNeg = i := nI_clamp (by omega)
  rcases hw with hw | ⟨w, w1, w2⟩
  · have hv : sBrk (v1, v2, v3, gs) g i = (v1, v2 + 1, v3, va_up gs g (upd (gLet (gs g) i 2) (13 + 4 * i) 0)) := by unfold sBrk; dsimp only; rw [if_pos hw]
    rw [hv] at hR
    refine g_aload_n hF dX6_breakLine_0 1 rfl rfl ?_
    refine g_get hF fl_X6_83 dX6_breakLine_1 4 rfl (by intro H h; first | exact h.1 | exact h.2.1 | exact (h.2.2 g hg).1 | exact (h.2.2 g hg).2.1 | exact (h.2.2 g hg).2.2.1 | exact (h.2.2 g hg).2.2.2.1) rfl ?_
    refine g_iload_n hF dX6_breakLine_4 5 rfl rfl ?_
    refine g_iald hF dX6_breakLine_5 6 rfl (by intro H h; first | exact h.1 | exact h.2.1 | exact (h.2.2 g hg).1 | exact (h.2.2 g hg).2.1 | exact (h.2.2 g hg).2.2.1 | exact (h.2.2 g hg).2.2.2.1) (vp_in_nI hi (by omega)) ?_
    rw [hcl]
    refine g_istore_n hF dX6_breakLine_6 7 rfl (lo' := [_, _, _, _, _]) (Nat.le_of_ble_eq_true rfl) rfl ?_
    refine g_aload_n hF dX6_breakLine_7 8 rfl rfl ?_
    refine g_aload_n hF dX6_breakLine_8 9 rfl rfl ?_
    refine g_get hF fl_X6_90 dX6_breakLine_9 12 rfl (by intro H h; first | exact h.1 | exact h.2.1 | exact (h.2.2 g hg).1 | exact (h.2.2 g hg).2.1 | exact (h.2.2 g hg).2.2.1 | exact (h.2.2 g hg).2.2.2.1) rfl ?_
    refine g_iload_n hF dX6_breakLine_12 13 rfl rfl ?_
    refine g_iald hF dX6_breakLine_13 14 rfl (by intro H h; first | exact h.1 | exact h.2.1 | exact (h.2.2 g hg).1 | exact (h.2.2 g hg).2.1 | exact (h.2.2 g hg).2.2.1 | exact (h.2.2 g hg).2.2.2.1) (vp_in_nI hi (by omega)) ?_
    rw [hcl]
    dsimp only
    rw [hw]
    refine g_callV hF cv_X6_38 (c_N_groupAtN l E a (v1, v2, v3, gs) fss (-1) (Or.inl (by decide))) dX6_breakLine_14 17 rfl (st := []) rfl rfl ⟨Nat.le_of_ble_eq_true rfl, Nat.le_of_ble_eq_true rfl⟩ ⟨Nat.le_of_ble_eq_true rfl, Nat.le_of_ble_eq_true rfl⟩ rfl (Nat.le_of_ble_eq_true rfl) 6 rfl (by intro H h; first | exact h.1 | exact h.2.1 | exact (h.2.2 g hg).1 | exact (h.2.2 g hg).2.1 | exact (h.2.2 g hg).2.2.1 | exact (h.2.2 g hg).2.2.2.1) (Pr' := _) (fun _ h => h) (fun q z => z.elim) (fun _ _ _ h _ => by exact h) (st1 := [_]) rfl (k1 := 0) (n1 := 0) rfl rfl ?_
    refine g_astoreN hF dX6_breakLine_17 19 rfl (lo' := [_, _, _, _, _]) (Nat.le_of_ble_eq_true rfl) rfl ?_
    refine g_aloadN hF dX6_breakLine_19 21 rfl rfl ?_
    refine g_ifnullN hF dX6_breakLine_21 35 (by decide) ?_
    refine g_aload_n hF dX6_breakLine_35 36 rfl rfl ?_
    refine g_dup hF dX6_breakLine_36 37 rfl rfl ?_
    refine g_get hF fl_X6_26 dX6_breakLine_37 40 rfl (by intro H h; first | exact h.1 | exact h.2.1 | exact (h.2.2 g hg).1 | exact (h.2.2 g hg).2.1 | exact (h.2.2 g hg).2.2.1 | exact (h.2.2 g hg).2.2.2.1) rfl ?_
    refine g_iconst hF (1) dX6_breakLine_40 41 rfl rfl ?_
    refine g_iadd hF dX6_breakLine_41 42 rfl ?_
    refine g_put hF pl_X6_26 dX6_breakLine_42 45 rfl (by intro H h; first | exact h.1 | exact h.2.1 | exact (h.2.2 g hg).1 | exact (h.2.2 g hg).2.1 | exact (h.2.2 g hg).2.2.1 | exact (h.2.2 g hg).2.2.2.1) (Nat.le_of_ble_eq_true rfl) rfl rfl (hA _ ⟨by omega, by omega⟩) (Pr' := Np E a (v1, v2 + 1, v3, gs) fss) (fun H H' h h1 h2 => by exact Np.wo v1 (v2 + 1) v3 h h1 h2) ?_
    refine g_aload_n hF dX6_breakLine_45 46 rfl rfl ?_
    refine g_iload_n hF dX6_breakLine_46 47 rfl rfl ?_
    refine g_iconst hF (2) dX6_breakLine_47 48 rfl rfl ?_
    refine g_aload_n hF dX6_breakLine_48 49 rfl rfl ?_
    refine g_get hF fl_X6_26 dX6_breakLine_49 52 rfl (by intro H h; first | exact h.1 | exact h.2.1 | exact (h.2.2 g hg).1 | exact (h.2.2 g hg).2.1 | exact (h.2.2 g hg).2.2.1 | exact (h.2.2 g hg).2.2.2.1) rfl ?_
    refine g_callV hF cv_X6_87 (c_G_letGo l E (a + 2 + 5 * g) (gs g) (fss g) i 2 (v2 + 1) hi) dX6_breakLine_52 55 rfl (st := []) rfl rfl ⟨Nat.le_of_ble_eq_true rfl, Nat.le_of_ble_eq_true rfl⟩ ⟨Nat.le_of_ble_eq_true rfl, Nat.le_of_ble_eq_true rfl⟩ rfl (Nat.le_of_ble_eq_true rfl) 3 rfl (by intro H h; first | exact h.1 | exact h.2.1 | exact (h.2.2 g hg).1 | exact (h.2.2 g hg).2.1 | exact (h.2.2 g hg).2.2.1 | exact (h.2.2 g hg).2.2.2.1) (Pr' := Np E a (v1, v2 + 1, v3, va_up gs g (upd (gLet (gs g) i 2) (13 + 4 * i) 0)) (va_up fss g (upd (fss g) i (v2 + 1)))) (fun H h => h.2.2 g hg) (fun q hq => hA q ⟨by have := hq.1; omega, by have := hq.2; omega⟩) (fun H H' h h1 h2 => by exact Np.grp hg h (Gp.ghost h1) h2) (st1 := []) rfl (k1 := 0) (n1 := 0) rfl rfl ?_
    refine g_iload_n hF dX6_breakLine_55 56 rfl rfl ?_
    exact g_iret hF dX6_breakLine_56 (Nat.le_of_ble_eq_true rfl) (Nat.le_of_ble_eq_true rfl) (fun H h => hR _ _ ⟨congrArg (fun z => some (Value.int z)) (rfl), h⟩)
  · have w4 : w < 4 := by omega
    obtain ⟨gs1, e1⟩ : ∃ q, q = va_up gs w (upd (gs w) 9 (gs w 9 + 1)) := ⟨_, rfl⟩
    have hv : sBrk (v1, v2, v3, gs) g i = (v1, v2 + 1, v3, va_up gs1 g (upd (gLet (gs1 g) i 2) (13 + 4 * i) 0)) := by
      have hne : ¬ gs g (12 + 4 * i) = -1 := by rw [w2]; exact nI_nm1 (by omega)
      have hc2 : (gs g (12 + 4 * i)).toNatClampNeg = w := by rw [w2]; exact nI_clamp (by omega)
      unfold sBrk
      dsimp only
      rw [if_neg hne, hc2, ← e1]
    rw [hv] at hR
    refine g_aload_n hF dX6_breakLine_0 1 rfl rfl ?_
    refine g_get hF fl_X6_83 dX6_breakLine_1 4 rfl (by intro H h; first | exact h.1 | exact h.2.1 | exact (h.2.2 g hg).1 | exact (h.2.2 g hg).2.1 | exact (h.2.2 g hg).2.2.1 | exact (h.2.2 g hg).2.2.2.1 | exact (h.2.2 w w4).1) rfl ?_
    refine g_iload_n hF dX6_breakLine_4 5 rfl rfl ?_
    refine g_iald hF dX6_breakLine_5 6 rfl (by intro H h; first | exact h.1 | exact h.2.1 | exact (h.2.2 g hg).1 | exact (h.2.2 g hg).2.1 | exact (h.2.2 g hg).2.2.1 | exact (h.2.2 g hg).2.2.2.1 | exact (h.2.2 w w4).1) (vp_in_nI hi (by omega)) ?_
    rw [hcl]
    refine g_istore_n hF dX6_breakLine_6 7 rfl (lo' := [_, _, _, _, _]) (Nat.le_of_ble_eq_true rfl) rfl ?_
    refine g_aload_n hF dX6_breakLine_7 8 rfl rfl ?_
    refine g_aload_n hF dX6_breakLine_8 9 rfl rfl ?_
    refine g_get hF fl_X6_90 dX6_breakLine_9 12 rfl (by intro H h; first | exact h.1 | exact h.2.1 | exact (h.2.2 g hg).1 | exact (h.2.2 g hg).2.1 | exact (h.2.2 g hg).2.2.1 | exact (h.2.2 g hg).2.2.2.1 | exact (h.2.2 w w4).1) rfl ?_
    refine g_iload_n hF dX6_breakLine_12 13 rfl rfl ?_
    refine g_iald hF dX6_breakLine_13 14 rfl (by intro H h; first | exact h.1 | exact h.2.1 | exact (h.2.2 g hg).1 | exact (h.2.2 g hg).2.1 | exact (h.2.2 g hg).2.2.1 | exact (h.2.2 g hg).2.2.2.1 | exact (h.2.2 w w4).1) (vp_in_nI hi (by omega)) ?_
    rw [hcl]
    dsimp only
    rw [w2]
    refine g_callV hF cv_X6_38 (c_N_groupAt l E a (v1, v2, v3, gs) fss G w hG hG4 w1) dX6_breakLine_14 17 rfl (st := []) rfl rfl ⟨Nat.le_of_ble_eq_true rfl, Nat.le_of_ble_eq_true rfl⟩ ⟨Nat.le_of_ble_eq_true rfl, Nat.le_of_ble_eq_true rfl⟩ rfl (Nat.le_of_ble_eq_true rfl) 6 rfl (by intro H h; first | exact h.1 | exact h.2.1 | exact (h.2.2 g hg).1 | exact (h.2.2 g hg).2.1 | exact (h.2.2 g hg).2.2.1 | exact (h.2.2 g hg).2.2.2.1 | exact (h.2.2 w w4).1) (Pr' := _) (fun _ h => h) (fun q z => z.elim) (fun _ _ _ h _ => by exact h) (st1 := [_]) rfl (k1 := 0) (n1 := 0) rfl rfl ?_
    refine g_astore hF dX6_breakLine_17 19 rfl (lo' := [_, _, _, _, _]) (Nat.le_of_ble_eq_true rfl) rfl ?_
    refine g_aload hF dX6_breakLine_19 21 rfl rfl ?_
    refine g_ifnull hF dX6_breakLine_21 24 rfl ?_
    refine g_aload hF dX6_breakLine_24 26 rfl rfl ?_
    refine g_dup hF dX6_breakLine_26 27 rfl rfl ?_
    refine g_get hF fl_X6_50 dX6_breakLine_27 30 rfl (by intro H h; first | exact h.1 | exact h.2.1 | exact (h.2.2 g hg).1 | exact (h.2.2 g hg).2.1 | exact (h.2.2 g hg).2.2.1 | exact (h.2.2 g hg).2.2.2.1 | exact (h.2.2 w w4).1) rfl ?_
    refine g_iconst hF (1) dX6_breakLine_30 31 rfl rfl ?_
    refine g_iadd hF dX6_breakLine_31 32 rfl ?_
    refine g_put hF pl_X6_50 dX6_breakLine_32 35 rfl (by intro H h; first | exact h.1 | exact h.2.1 | exact (h.2.2 g hg).1 | exact (h.2.2 g hg).2.1 | exact (h.2.2 g hg).2.2.1 | exact (h.2.2 g hg).2.2.2.1 | exact (h.2.2 w w4).1) (Nat.le_of_ble_eq_true rfl) rfl rfl (hA _ ⟨by omega, by omega⟩) (Pr' := Np E a (v1, v2, v3, gs1) fss) (fun H H' h h1 h2 => by rw [e1]; exact Np.up w4 rfl h (Gp.wo (by omega) rfl (h.2.2 w w4) h1 h2) (out_but ⟨by omega, by omega⟩ h2)) ?_
    refine g_aload_n hF dX6_breakLine_35 36 rfl rfl ?_
    refine g_dup hF dX6_breakLine_36 37 rfl rfl ?_
    refine g_get hF fl_X6_26 dX6_breakLine_37 40 rfl (by intro H h; first | exact h.1 | exact h.2.1 | exact (h.2.2 g hg).1 | exact (h.2.2 g hg).2.1 | exact (h.2.2 g hg).2.2.1 | exact (h.2.2 g hg).2.2.2.1 | exact (h.2.2 w w4).1) rfl ?_
    refine g_iconst hF (1) dX6_breakLine_40 41 rfl rfl ?_
    refine g_iadd hF dX6_breakLine_41 42 rfl ?_
    refine g_put hF pl_X6_26 dX6_breakLine_42 45 rfl (by intro H h; first | exact h.1 | exact h.2.1 | exact (h.2.2 g hg).1 | exact (h.2.2 g hg).2.1 | exact (h.2.2 g hg).2.2.1 | exact (h.2.2 g hg).2.2.2.1 | exact (h.2.2 w w4).1) (Nat.le_of_ble_eq_true rfl) rfl rfl (hA _ ⟨by omega, by omega⟩) (Pr' := Np E a (v1, v2 + 1, v3, gs1) fss) (fun H H' h h1 h2 => by exact Np.wo v1 (v2 + 1) v3 h h1 h2) ?_
    refine g_aload_n hF dX6_breakLine_45 46 rfl rfl ?_
    refine g_iload_n hF dX6_breakLine_46 47 rfl rfl ?_
    refine g_iconst hF (2) dX6_breakLine_47 48 rfl rfl ?_
    refine g_aload_n hF dX6_breakLine_48 49 rfl rfl ?_
    refine g_get hF fl_X6_26 dX6_breakLine_49 52 rfl (by intro H h; first | exact h.1 | exact h.2.1 | exact (h.2.2 g hg).1 | exact (h.2.2 g hg).2.1 | exact (h.2.2 g hg).2.2.1 | exact (h.2.2 g hg).2.2.2.1 | exact (h.2.2 w w4).1) rfl ?_
    refine g_callV hF cv_X6_87 (c_G_letGo l E (a + 2 + 5 * g) (gs1 g) (fss g) i 2 (v2 + 1) hi) dX6_breakLine_52 55 rfl (st := []) rfl rfl ⟨Nat.le_of_ble_eq_true rfl, Nat.le_of_ble_eq_true rfl⟩ ⟨Nat.le_of_ble_eq_true rfl, Nat.le_of_ble_eq_true rfl⟩ rfl (Nat.le_of_ble_eq_true rfl) 3 rfl (by intro H h; first | exact h.1 | exact h.2.1 | exact (h.2.2 g hg).1 | exact (h.2.2 g hg).2.1 | exact (h.2.2 g hg).2.2.1 | exact (h.2.2 g hg).2.2.2.1 | exact (h.2.2 w w4).1) (Pr' := Np E a (v1, v2 + 1, v3, va_up gs1 g (upd (gLet (gs1 g) i 2) (13 + 4 * i) 0)) (va_up fss g (upd (fss g) i (v2 + 1)))) (fun H h => h.2.2 g hg) (fun q hq => hA q ⟨by have := hq.1; omega, by have := hq.2; omega⟩) (fun H H' h h1 h2 => by exact Np.grp hg h (Gp.ghost h1) h2) (st1 := []) rfl (k1 := 0) (n1 := 0) rfl rfl ?_
    refine g_iload_n hF dX6_breakLine_55 56 rfl rfl ?_
    exact g_iret hF dX6_breakLine_56 (Nat.le_of_ble_eq_true rfl) (Nat.le_of_ble_eq_true rfl) (fun H h => hR _ _ ⟨congrArg (fun z => some (Value.int z)) (rfl), h⟩)
