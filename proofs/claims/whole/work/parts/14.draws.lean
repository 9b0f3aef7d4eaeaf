/-! Draws, History, Image -/
def nx (s : Nat) : Nat := (s * 1103515245 + 12345) % 2147483648
def dw (s n : Nat) : Nat := s / 65536 % n
theorem nx_lt (s : Nat) : nx s < 2 ^ 31 := Nat.mod_lt _ (by decide)
theorem nx_eq {s : Nat} (hs : s < 2 ^ 31) : ((nI s).toInt64 * 1103515245 + 12345 - ((nI s).toInt64 * 1103515245 + 12345) / 2147483648 * 2147483648).toInt32 = nI (nx s) := by
  rw [nI_l hs, show (1103515245 : Int64) = lN 1103515245 by decide, show (12345 : Int64) = lN 12345 by decide, show (2147483648 : Int64) = lN 2147483648 by decide, lN_mul, lN_add, pk_lRem (by omega) (by omega) (by omega), lN_i]
  rfl
theorem dw_eq {s n : Nat} (hs : s < 2 ^ 31) (h1 : 1 ≤ n) (hn : n < 2 ^ 31) : nI s / 65536 - nI s / 65536 / nI n * nI n = nI (dw s n) := by
  rw [show (65536 : Int32) = nI 65536 by decide, pk_div hs (by omega) (by omega), pk_rem (by omega) (by omega) hn]
  rfl
abbrev Dp (E : Ev) (a s : Nat) (H : Heap) : Prop := ob E 1 a [.int (nI s)] H
set_option maxRecDepth 100000 in
set_option maxHeartbeats 8000000 in
theorem c_D_draw (l : Launch) (E : Ev) (a s n : Nat) (hs : s < 2 ^ 31) (h1 : 1 ≤ n) (hn : n < 2 ^ 31) : Ct l E yX1_draw cX1_draw 2 (some .int) (rm 1) [.ref a, .int (nI n)] (Dp E a s) (rV (some (.int (nI (dw (nx s) n)))) (Dp E a (nx s))) (fun q => q = a) := by
  refine ct_start (by decide) [some (.ref a), some (.int (nI n))] rfl (Nat.le_of_ble_eq_true rfl) ?_
  intro x hF hN hA hR
  refine g_aload_n hF dX1_draw_0 1 rfl rfl ?_
  refine g_aload_n hF dX1_draw_1 2 rfl rfl ?_
  refine g_get hF fl_X1_9 dX1_draw_2 5 rfl (by intro H h; exact h) rfl ?_
  refine g_i2l hF dX1_draw_5 6 rfl ?_
  refine g_ldc2 hF kc_X1_15 dX1_draw_6 9 rfl ?_
  refine g_lmul hF dX1_draw_9 10 rfl ?_
  refine g_ldc2 hF kc_X1_17 dX1_draw_10 13 rfl ?_
  refine g_ladd hF dX1_draw_13 14 rfl ?_
  refine g_ldc2 hF kc_X1_19 dX1_draw_14 17 rfl ?_
  refine g_lrem hF dX1_draw_17 18 rfl (by decide) ?_
  refine g_l2i hF dX1_draw_18 19 rfl ?_
  rw [nx_eq hs]
  refine g_put hF pl_X1_9 dX1_draw_19 22 rfl (by intro H h; exact h) (Nat.le_of_ble_eq_true rfl) rfl rfl (hA _ rfl) (Pr' := Dp E a (nx s)) (fun H H' h h1 h2 => by exact h1) ?_
  refine g_iload_n hF dX1_draw_22 23 rfl rfl ?_
  refine g_if_le hF dX1_draw_23 26 rfl 38 (by decide) (fun c => absurd c (nI_nle h1 hn)) (fun _ => ?_)
  refine g_aload_n hF dX1_draw_26 27 rfl rfl ?_
  refine g_get hF fl_X1_9 dX1_draw_27 30 rfl (by intro H h; exact h) rfl ?_
  refine g_ldc hF kc_X1_21 dX1_draw_30 32 rfl ?_
  refine g_idiv hF dX1_draw_32 33 rfl (by decide) ?_
  refine g_iload_n hF dX1_draw_33 34 rfl rfl ?_
  refine g_irem hF dX1_draw_34 35 rfl (nI_ne0 h1 hn) ?_
  rw [dw_eq (nx_lt s) h1 hn]
  refine g_goto hF dX1_draw_35 39 (by decide) ?_
  exact g_iret hF dX1_draw_39 (Nat.le_of_ble_eq_true rfl) (Nat.le_of_ble_eq_true rfl) (fun H h => hR _ _ ⟨congrArg (fun z => some (Value.int z)) (rfl), h⟩)
/-- one time by draws -/
def sDr (s : Nat) (v : NV) : Nat × NV :=
  if dw (nx s) 5 ≤ 2 then (nx (nx s), sPlace v (dw (nx (nx s)) v.1.toNatClampNeg))
  else (nx (nx (nx s)), if v.2.2.2 (dw (nx (nx s)) v.1.toNatClampNeg) (10 + 4 * dw (nx (nx (nx s))) (v.2.2.2 (dw (nx (nx s)) v.1.toNatClampNeg) 0).toNatClampNeg) = 1 then sEnd v (dw (nx (nx s)) v.1.toNatClampNeg) (dw (nx (nx (nx s))) (v.2.2.2 (dw (nx (nx s)) v.1.toNatClampNeg) 0).toNatClampNeg) else v)
set_option maxRecDepth 100000 in
set_option maxHeartbeats 8000000 in
theorem c_D_driftOnce (l : Launch) (E : Ev) (d c s : Nat) (v : NV) (fss : Nat → Nat → Int32) (T : Nat) (hs : s < 2 ^ 31) (hv : okV T v) (hf : fOK v fss) (hdc : ¬ rg c 22 d) : Ct l E yX1_driftOnce cX1_driftOnce 6 none (rm 5) [.ref d, .ref c] (fun H => Dp E d s H ∧ Np E c v fss H) (rV none (fun H => Dp E d (sDr s v).1 H ∧ Nq E c (sDr s v).2 H)) (fun q => q = d ∨ rg c 22 q) := by
  refine ct_start (by decide) [some (.ref d), some (.ref c), none, none, none, none] rfl (Nat.le_of_ble_eq_true rfl) ?_
  intro x hF hN hA hR
  obtain ⟨hT, G, G1, G4, hG, ht, ho⟩ := id hv
  obtain ⟨g, eg⟩ : ∃ g, g = dw (nx (nx s)) v.1.toNatClampNeg := ⟨_, rfl⟩
  have hgG : g < G := by rw [eg, hG, nI_clamp (by omega)]; exact Nat.mod_lt _ (by omega)
  have hg4 : g < 4 := by omega
  have eg2 : dw (nx (nx s)) G = g := by rw [eg, hG, nI_clamp (by omega)]
  obtain ⟨⟨N, n1, n6, n0, -⟩, -⟩ := ho g hg4
  obtain ⟨i, ei⟩ : ∃ i, i = dw (nx (nx (nx s))) (v.2.2.2 g 0).toNatClampNeg := ⟨_, rfl⟩
  have hiN : i < N := by rw [ei, n0, nI_clamp (by omega)]; exact Nat.mod_lt _ (by omega)
  have ei2 : dw (nx (nx (nx s))) N = i := by rw [ei, n0, nI_clamp (by omega)]
  have hcl : (nI i).toNatClampNeg = i := nI_clamp (by omega)
  have k5 : dw (nx s) 5 < 5 := Nat.mod_lt _ (by omega)
  have e0 : sDr s v = if dw (nx s) 5 ≤ 2 then (nx (nx s), sPlace v g) else (nx (nx (nx s)), if v.2.2.2 g (10 + 4 * i) = 1 then sEnd v g i else v) := by
    unfold sDr
    rw [← eg, ← ei]
  have kd : ∀ {H H' : Heap} {s' : Nat}, Dp E d s' H → out (rg c 22) H H' → Dp E d s' H' := fun {H H' s'} h1 h2 => ob_kept h1 (out_at h2 h1 hdc)
  have kn : ∀ {H H' : Heap}, Np E c v fss H → out (fun q => q = d) H H' → Np E c v fss H' := fun {H H'} h1 h2 => h1.kept (fun q hq => h2.2 q (Nat.lt_of_lt_of_le hq.2 (np_le h1)) (fun z => hdc (z ▸ hq)))
  have e1 : (if 0 ≤ nI i ∧ nI i < v.2.2.2 g 0 then (1 : Int32) else 0) = 1 := if_pos ⟨nI_pos' (by omega), by rw [n0]; exact (nI_ltI (by omega) (by omega)).mpr hiN⟩
  refine g_aload_n hF dX1_driftOnce_0 1 rfl rfl ?_
  refine g_iconst hF (5) dX1_driftOnce_1 2 rfl rfl ?_
  refine g_callV hF cv_X1_22 (c_D_draw l E d s 5 hs (by omega) (by omega)) dX1_driftOnce_2 5 rfl (st := []) rfl rfl ⟨Nat.le_of_ble_eq_true rfl, Nat.le_of_ble_eq_true rfl⟩ ⟨Nat.le_of_ble_eq_true rfl, Nat.le_of_ble_eq_true rfl⟩ rfl (Nat.le_of_ble_eq_true rfl) 1 rfl (by intro H h; first | exact h.1 | exact h.2.1 | exact (h.2.2.2 g hg4).1 | exact (h.2.2.2 g hg4).2.1) (Pr' := fun H => Dp E d (nx s) H ∧ Np E c v fss H) (fun H h => h.1) (fun q hq => hA q (Or.inl hq)) (fun H H' h h1 h2 => by exact ⟨h1, kn h.2 h2⟩) (st1 := [_]) rfl (k1 := 0) (n1 := 0) rfl rfl ?_
  refine g_istore_n hF dX1_driftOnce_5 6 rfl (lo' := [_, _, _, _, _, _]) (Nat.le_of_ble_eq_true rfl) rfl ?_
  refine g_aload_n hF dX1_driftOnce_6 7 rfl rfl ?_
  refine g_aload_n hF dX1_driftOnce_7 8 rfl rfl ?_
  refine g_get hF fl_X1_26 dX1_driftOnce_8 11 rfl (by intro H h; first | exact h.1 | exact h.2.1 | exact (h.2.2.2 g hg4).1 | exact (h.2.2.2 g hg4).2.1) rfl ?_
  rw [hG]
  refine g_callV hF cv_X1_22 (c_D_draw l E d (nx s) G (nx_lt s) G1 (by omega)) dX1_driftOnce_11 14 rfl (st := []) rfl rfl ⟨Nat.le_of_ble_eq_true rfl, Nat.le_of_ble_eq_true rfl⟩ ⟨Nat.le_of_ble_eq_true rfl, Nat.le_of_ble_eq_true rfl⟩ rfl (Nat.le_of_ble_eq_true rfl) 1 rfl (by intro H h; first | exact h.1 | exact h.2.1 | exact (h.2.2.2 g hg4).1 | exact (h.2.2.2 g hg4).2.1) (Pr' := fun H => Dp E d (nx (nx s)) H ∧ Np E c v fss H) (fun H h => h.1) (fun q hq => hA q (Or.inl hq)) (fun H H' h h1 h2 => by exact ⟨h1, kn h.2 h2⟩) (st1 := [_]) rfl (k1 := 0) (n1 := 0) rfl rfl ?_
  rw [eg2]
  refine g_istore_n hF dX1_driftOnce_14 15 rfl (lo' := [_, _, _, _, _, _]) (Nat.le_of_ble_eq_true rfl) rfl ?_
  refine g_aload_n hF dX1_driftOnce_15 16 rfl rfl ?_
  refine g_iload_n hF dX1_driftOnce_16 17 rfl rfl ?_
  refine g_callV hF cv_X1_31 (c_N_groupAt l E c v fss G g hG G4 hgG) dX1_driftOnce_17 20 rfl (st := []) rfl rfl ⟨Nat.le_of_ble_eq_true rfl, Nat.le_of_ble_eq_true rfl⟩ ⟨Nat.le_of_ble_eq_true rfl, Nat.le_of_ble_eq_true rfl⟩ rfl (Nat.le_of_ble_eq_true rfl) 6 rfl (by intro H h; first | exact h.1 | exact h.2.1 | exact (h.2.2.2 g hg4).1 | exact (h.2.2.2 g hg4).2.1) (Pr' := fun H => Dp E d (nx (nx s)) H ∧ Np E c v fss H) (fun H h => h.2) (fun q z => z.elim) (fun H H' h h1 h2 => by exact ⟨ob_kept h.1 (out_at h2 h.1 (fun z => z)), h1⟩) (st1 := [_]) rfl (k1 := 0) (n1 := 0) rfl rfl ?_
  refine g_astore hF dX1_driftOnce_20 22 rfl (lo' := [_, _, _, _, _, _]) (Nat.le_of_ble_eq_true rfl) rfl ?_
  refine g_aload hF dX1_driftOnce_22 24 rfl rfl ?_
  refine g_ifnonnull hF dX1_driftOnce_24 28 (by decide) ?_
  refine g_iload_n hF dX1_driftOnce_28 29 rfl rfl ?_
  refine g_iconst hF (2) dX1_driftOnce_29 30 rfl rfl ?_
  refine g_icmp_gt hF dX1_driftOnce_30 33 rfl 40 (by decide) (fun c30 => ?_) (fun c30 => ?_)
  · have c2 := i_lt (a := 2) c30 (by omega) (by omega)
    rw [e0, if_neg (by omega)] at hR
    refine g_aload_n hF dX1_driftOnce_40 41 rfl rfl ?_
    refine g_aload hF dX1_driftOnce_41 43 rfl rfl ?_
    refine g_get hF fl_X1_38 dX1_driftOnce_43 46 rfl (by intro H h; first | exact h.1 | exact h.2.1 | exact (h.2.2.2 g hg4).1 | exact (h.2.2.2 g hg4).2.1) rfl ?_
    rw [n0]
    refine g_callV hF cv_X1_22 (c_D_draw l E d (nx (nx s)) N (nx_lt _) n1 (by omega)) dX1_driftOnce_46 49 rfl (st := []) rfl rfl ⟨Nat.le_of_ble_eq_true rfl, Nat.le_of_ble_eq_true rfl⟩ ⟨Nat.le_of_ble_eq_true rfl, Nat.le_of_ble_eq_true rfl⟩ rfl (Nat.le_of_ble_eq_true rfl) 1 rfl (by intro H h; first | exact h.1 | exact h.2.1 | exact (h.2.2.2 g hg4).1 | exact (h.2.2.2 g hg4).2.1) (Pr' := fun H => Dp E d (nx (nx (nx s))) H ∧ Np E c v fss H) (fun H h => h.1) (fun q hq => hA q (Or.inl hq)) (fun H H' h h1 h2 => by exact ⟨h1, kn h.2 h2⟩) (st1 := [_]) rfl (k1 := 0) (n1 := 0) rfl rfl ?_
    rw [ei2]
    refine g_istore hF dX1_driftOnce_49 51 rfl (lo' := [_, _, _, _, _, _]) (Nat.le_of_ble_eq_true rfl) rfl ?_
    refine g_aload hF dX1_driftOnce_51 53 rfl rfl ?_
    refine g_iload hF dX1_driftOnce_53 55 rfl rfl ?_
    refine g_callV hF cv_X1_43 (c_G_hasLine l E (c + 2 + 5 * g) (v.2.2.2 g) (fss g) (nI i)) dX1_driftOnce_55 58 rfl (st := []) rfl rfl ⟨Nat.le_of_ble_eq_true rfl, Nat.le_of_ble_eq_true rfl⟩ ⟨Nat.le_of_ble_eq_true rfl, Nat.le_of_ble_eq_true rfl⟩ rfl (Nat.le_of_ble_eq_true rfl) 3 rfl (by intro H h; first | exact h.1 | exact h.2.1 | exact (h.2.2.2 g hg4).1 | exact (h.2.2.2 g hg4).2.1) (Pr' := fun H => Dp E d (nx (nx (nx s))) H ∧ Np E c v fss H) (fun H h => h.2.2.2 g hg4) (fun q z => z.elim) (fun H H' h h1 h2 => by exact ⟨ob_kept h.1 (out_at h2 h.1 (fun z => z)), Np.rd hg4 h.2 h1 h2⟩) (st1 := [_]) rfl (k1 := 0) (n1 := 0) rfl rfl ?_
    rw [e1]
    refine g_if_eq hF dX1_driftOnce_58 61 rfl 82 (by decide) (fun c => absurd c ((by decide))) (fun _ => ?_)
    refine g_aload hF dX1_driftOnce_61 63 rfl rfl ?_
    refine g_get hF fl_X1_47 dX1_driftOnce_63 66 rfl (by intro H h; first | exact h.1 | exact h.2.1 | exact (h.2.2.2 g hg4).1 | exact (h.2.2.2 g hg4).2.1) rfl ?_
    refine g_iload hF dX1_driftOnce_66 68 rfl rfl ?_
    refine g_iald hF dX1_driftOnce_68 69 rfl (by intro H h; first | exact h.1 | exact h.2.1 | exact (h.2.2.2 g hg4).1 | exact (h.2.2.2 g hg4).2.1) (vp_in_nI (show i < 6 by omega) (by omega)) ?_
    rw [hcl]
    refine g_iconst hF (1) dX1_driftOnce_69 70 rfl rfl ?_
    refine g_icmp_ne hF dX1_driftOnce_70 73 rfl 82 (by decide) (fun c70 => ?_) (fun c70 => ?_)
    · exact g_vret hF dX1_driftOnce_82 (Nat.le_of_ble_eq_true rfl) (Nat.le_of_ble_eq_true rfl) (fun H h => hR _ _ ⟨rfl, by rw [if_neg c70]; exact ⟨h.1, fss, hf, h.2⟩⟩)
    · refine g_aload_n hF dX1_driftOnce_73 74 rfl rfl ?_
      refine g_aload hF dX1_driftOnce_74 76 rfl rfl ?_
      refine g_iload hF dX1_driftOnce_76 78 rfl rfl ?_
      refine g_callV hF cv_X1_51 (c_N_endCall l E c v fss g i hg4 (by omega)) dX1_driftOnce_78 81 rfl (st := []) rfl rfl ⟨Nat.le_of_ble_eq_true rfl, Nat.le_of_ble_eq_true rfl⟩ ⟨Nat.le_of_ble_eq_true rfl, Nat.le_of_ble_eq_true rfl⟩ rfl (Nat.le_of_ble_eq_true rfl) 6 rfl (by intro H h; first | exact h.1 | exact h.2.1 | exact (h.2.2.2 g hg4).1 | exact (h.2.2.2 g hg4).2.1) (Pr' := fun H => Dp E d (nx (nx (nx s))) H ∧ Np E c (sEnd v g i) (va_up fss g (upd (fss g) i (v.2.1 + 1))) H) (fun H h => h.2) (fun q hq => hA q (Or.inr hq)) (fun H H' h h1 h2 => by exact ⟨kd h.1 h2, h1⟩) (st1 := [_]) rfl (k1 := 0) (n1 := 0) rfl rfl ?_
      refine g_pop hF dX1_driftOnce_81 82 rfl rfl ?_
      exact g_vret hF dX1_driftOnce_82 (Nat.le_of_ble_eq_true rfl) (Nat.le_of_ble_eq_true rfl) (fun H h => hR _ _ ⟨rfl, by rw [if_pos c70]; exact ⟨h.1, _, hf.sEnd hv hg4 (by omega), h.2⟩⟩)
  · rw [e0, if_pos (i_nlt (a := 2) c30 (by omega) (by omega))] at hR
    refine g_aload_n hF dX1_driftOnce_33 34 rfl rfl ?_
    refine g_iload_n hF dX1_driftOnce_34 35 rfl rfl ?_
    refine g_callV hF cv_X1_35 (c_N_placeCall l E c v fss G T g hG G4 hT ho hf hgG) dX1_driftOnce_35 38 rfl (st := []) rfl rfl ⟨Nat.le_of_ble_eq_true rfl, Nat.le_of_ble_eq_true rfl⟩ ⟨Nat.le_of_ble_eq_true rfl, Nat.le_of_ble_eq_true rfl⟩ rfl (Nat.le_of_ble_eq_true rfl) 6 rfl (by intro H h; first | exact h.1 | exact h.2.1 | exact (h.2.2.2 g hg4).1 | exact (h.2.2.2 g hg4).2.1) (Pr' := fun H => Dp E d (nx (nx s)) H ∧ Np E c (sPlace v g) fss H) (fun H h => h.2) (fun q hq => hA q (Or.inr hq)) (fun H H' h h1 h2 => by exact ⟨kd h.1 h2, h1⟩) (st1 := [_]) rfl (k1 := 0) (n1 := 0) rfl rfl ?_
    refine g_pop hF dX1_driftOnce_38 39 rfl rfl ?_
    exact g_vret hF dX1_driftOnce_39 (Nat.le_of_ble_eq_true rfl) (Nat.le_of_ble_eq_true rfl) (fun H h => hR _ _ ⟨rfl, ⟨h.1, fss, hf.place hv hG G4 hgG, h.2⟩⟩)
theorem okV.sDr {T s : Nat} {v : NV} (h : okV T v) (hT : T + 1 < 2 ^ 30) : okV (T + 1) (sDr s v).2 := by
  obtain ⟨hT0, G, G1, G4, hG, ht, ho⟩ := id h
  have hgG : dw (nx (nx s)) v.1.toNatClampNeg < G := by rw [hG, nI_clamp (by omega)]; exact Nat.mod_lt _ (by omega)
  unfold Jvm.Pilot.CTrunkReserveLaw_law_r8557_f32c88.sDr
  split
  · exact h.place hT hG G4 hgG
  · obtain ⟨⟨N, n1, n6, n0, -⟩, -⟩ := ho (dw (nx (nx s)) v.1.toNatClampNeg) (by omega)
    dsimp only
    split
    · refine h.sEnd hT (by omega) ?_
      rw [n0, nI_clamp (by omega)]
      have : dw (nx (nx (nx s))) N < N := Nat.mod_lt _ (by omega)
      omega
    · exact h.mono (by omega) hT
theorem sDr_lt (s : Nat) (v : NV) : (sDr s v).1 < 2 ^ 31 := by
  unfold sDr
  split
  · exact nx_lt _
  · exact nx_lt _
/-! Math.floorMod, History -/
theorem Met_ofWF {l : Launch} {y : MethodName} {ws ws' : List Cond} {rm : Room} {Pc : Array Value → State → Prop} {Qc : Array Value → State → Outcome → State → Prop} {mc ms : Nat} {free : Addr → Prop} {cc : ByteArray} {maxL : Nat} {ret : Option FieldType} (hy : plainFor y = true) (hw : ws = Cond.code y cc maxL ret :: ws')
    (body : ∀ p e s m args below meth c s₁, BodyLoose p l y (headSpec ws rm) cc maxL ret e s m args below meth c s₁ → c.maxLocals = maxL → Pc args s → W p l e (headSpec ws rm).room s m args below meth c s.heap [] 0 0 (MQ below Qc args s mc ms free) (entryFrame m args maxL)) : Met l y ws rm Pc Qc mc ms free := by
  refine MetFree.of_bodySF (code := cc) (maxLocals := maxL) (ret := ret) hy (fun args s m h hn => ?_) (fun p e s m args below meth c s₁ B hml hP _ => ?_)
  · obtain ⟨meth, c, h1, h2, h3, h4, h5, h6, -, -⟩ := Cond.code_spec hn (atoms_spec (ws := ws) h _ (by rw [hw]; exact List.mem_cons_self))
    exact ⟨meth, c, h1, h2, h3, h4, h5, h6⟩
  · have hh0 : s₁.heap = s.heap := by rw [B.state]; rfl
    obtain ⟨t, a1, o, b1, b2, b3⟩ := body p e s m args below meth c s₁ B hml hP s₁ hh0 (Stand.of_body B)
    exact ⟨t, o, a1, b1, b2, ⟨b3.1, b3.2⟩⟩
theorem ct_startF {l : Launch} {E : Ev} {y : MethodName} {cc : ByteArray} {nL : Nat} {rt : Option FieldType} {R : Room} {av : List Value} {Pr : Heap → Prop} {Rt : Option Value → Heap → Prop} {A : Nat → Prop} (hy : plainFor y = true) (lo : List (Option Value)) (hlo : lo0 av nL = lo) (hle : (lo_args av).length ≤ nL)
    (h : ∀ x : Cx, fx E x y.cls cc rt nL → (x.2.2.2.2.2.2.1.name = y.name) → (∀ q, A q → arx x q) → (∀ v H, Rt v H → rtx x v H) → go l R E x 0 0 Pr lo 0 []) : Ct l E y cc nL rt R av Pr Rt A := by
  refine Met_ofWF (cc := cc) (maxL := nL) (ret := rt) hy rfl ?_
  intro p e s m args below meth c s₁ B hml hv
  obtain ⟨rfl, hK, hP⟩ := hv
  have hts := atoms_spec (ws := .code y cc nL rt :: tG) B.pre
  have hg := h (p, e, s, m, av.toArray, below, meth, c, A, Rt) ⟨B.exec, B.bytes, hml, findClass_of_methodNamed B.named, fun w hw => hts w (List.mem_cons_of_mem _ hw), hK, B.returns, B.notSynchronized⟩ (name_of_methodNamed B.named B.method).1 (fun _ q => q) (fun _ _ q => q)
  have hle' : (lg_sl av).length ≤ nL := by rw [← lo_args_len]; exact hle
  have hl := lv_entry av (n := nL) hle'
  rw [lg_entry_eq]
  refine hg s.heap _ [] hP ?_ va_S.rf
  subst hlo
  refine ⟨?_, hl.2.1, fun i v hi => ?_⟩
  · rw [hl.1]
    unfold lo0
    rw [List.length_append, List.length_replicate]
    omega
  · have h2 : (lo_args av)[i]? = some (some v) := by
      unfold lo0 at hi
      by_cases hlt : i < (lo_args av).length
      · rwa [List.getElem?_append_left hlt] at hi
      · rw [List.getElem?_append_right (by omega)] at hi
        obtain ⟨_, hx⟩ := List.getElem?_eq_some_iff.mp hi
        rw [List.getElem_replicate] at hx
        cases hx
    have h3 := lo_args_mem av 0 i v h2
    rw [Nat.zero_add] at h3
    exact hl.2.2 (i, v) h3
def fmod (z w : Int32) : Int32 := if 0 ≤ z ^^^ w then z - z / w * w else if z - z / w * w = 0 then z - z / w * w else z - z / w * w + w
set_option maxRecDepth 100000 in
set_option maxHeartbeats 8000000 in
theorem c_floorMod (l : Launch) (E : Ev) (z w : Int32) (P : Heap → Prop) (hw : ¬ w = 0) : Ct l E yJ9_floorMod_7cf53 cJ9_floorMod_7cf53 3 (some .int) (rm 1) [.int z, .int w] P (rV (some (.int (fmod z w))) P) (fun _ => False) := by
  refine ct_startF (by decide +kernel) [some (.int z), some (.int w), none] rfl (Nat.le_of_ble_eq_true rfl) ?_
  intro x hF hN hA hR
  refine g_iload_n hF dJ9_floorMod_7cf53_0 1 rfl rfl ?_
  refine g_iload_n hF dJ9_floorMod_7cf53_1 2 rfl rfl ?_
  refine g_irem hF dJ9_floorMod_7cf53_2 3 rfl (hw) ?_
  refine g_istore_n hF dJ9_floorMod_7cf53_3 4 rfl (lo' := [_, _, _]) (Nat.le_of_ble_eq_true rfl) rfl ?_
  refine g_iload_n hF dJ9_floorMod_7cf53_4 5 rfl rfl ?_
  refine g_iload_n hF dJ9_floorMod_7cf53_5 6 rfl rfl ?_
  refine g_ixor hF dJ9_floorMod_7cf53_6 7 rfl ?_
  refine g_if_ge hF dJ9_floorMod_7cf53_7 10 rfl 18 (by decide) (fun c7 => ?_) (fun c7 => ?_)
  · refine g_iload_n hF dJ9_floorMod_7cf53_18 19 rfl rfl ?_
    exact g_iret hF dJ9_floorMod_7cf53_19 (Nat.le_of_ble_eq_true rfl) (Nat.le_of_ble_eq_true rfl) (fun H h => hR _ _ ⟨congrArg (fun z => some (Value.int z)) ((if_pos c7).symm), h⟩)
  · refine g_iload_n hF dJ9_floorMod_7cf53_10 11 rfl rfl ?_
    refine g_if_eq hF dJ9_floorMod_7cf53_11 14 rfl 18 (by decide) (fun c11 => ?_) (fun c11 => ?_)
    · refine g_iload_n hF dJ9_floorMod_7cf53_18 19 rfl rfl ?_
      exact g_iret hF dJ9_floorMod_7cf53_19 (Nat.le_of_ble_eq_true rfl) (Nat.le_of_ble_eq_true rfl) (fun H h => hR _ _ ⟨congrArg (fun z => some (Value.int z)) (((if_neg c7).trans (if_pos c11)).symm), h⟩)
    · refine g_iload_n hF dJ9_floorMod_7cf53_14 15 rfl rfl ?_
      refine g_iload_n hF dJ9_floorMod_7cf53_15 16 rfl rfl ?_
      refine g_iadd hF dJ9_floorMod_7cf53_16 17 rfl ?_
      exact g_iret hF dJ9_floorMod_7cf53_17 (Nat.le_of_ble_eq_true rfl) (Nat.le_of_ble_eq_true rfl) (fun H h => hR _ _ ⟨congrArg (fun z => some (Value.int z)) (((if_neg c7).trans (if_neg c11)).symm), h⟩)
theorem fmod20 : ∀ p, p < 20 → ∀ n, n < 21 → fmod (nI p - nI n) 20 = nI ((p + 20 - n) % 20) := by decide +kernel
def Hq (E : Ev) (a : Nat) (rv : Nat → NV) (p k : Nat) (H : Heap) : Prop := ob E 4 a [.ref (a + 1), .int (nI p), .int (nI k)] H ∧ aq E E.2.2.2.2.2.1 (a + 1) 20 (fun j => some (a + 2 + 22 * j)) H ∧ ∀ j, j < 20 → Nq E (a + 2 + 22 * j) (rv j) H
theorem h_aa {a j : Nat} (hj : j < 20) : (fun j => some (a + 2 + 22 * j)) (nI j).toNatClampNeg = some (a + 2 + 22 * j) := by
  show some (a + 2 + 22 * (nI j).toNatClampNeg) = _
  rw [nI_clamp (by omega)]
theorem Hq.kept {E : Ev} {a : Nat} {rv : Nat → NV} {p k : Nat} {H H' : Heap} (h : Hq E a rv p k H) (hq : ∀ q, rg a 442 q → H'[q]? = H[q]?) : Hq E a rv p k H' :=
  ⟨ob_kept h.1 (hq _ ⟨by omega, by omega⟩), aq_kept h.2.1 (hq _ ⟨by omega, by omega⟩), fun j hj => (h.2.2 j hj).kept (fun q z => hq q ⟨by have := z.1; omega, by have := z.2; omega⟩)⟩
theorem Hq.le {E : Ev} {a : Nat} {rv : Nat → NV} {p k : Nat} {H : Heap} (h : Hq E a rv p k H) : a + 442 ≤ H.size := by
  have := (h.2.2 19 (by omega)).le
  omega
theorem Hq.out {E : Ev} {a : Nat} {rv : Nat → NV} {p k : Nat} {A : Nat → Prop} {H H' : Heap} (h : Hq E a rv p k H) (ho : out A H H') (hA : ∀ q, rg a 442 q → ¬ A q) : Hq E a rv p k H' :=
  h.kept (fun q hq => ho.2 q (Nat.lt_of_lt_of_le hq.2 h.le) (hA q hq))
theorem Hq.wo {E : Ev} {a : Nat} {rv : Nat → NV} {p k p' k' : Nat} {H H' : Heap} (h : Hq E a rv p k H) (h1 : ob E 4 a [.ref (a + 1), .int (nI p'), .int (nI k')] H') (h2 : but a H H') : Hq E a rv p' k' H' :=
  ⟨h1, aq_kept h.2.1 (h2.2 _ (by omega)), fun j hj => (h.2.2 j hj).but h2 (fun z => by have := z.1; omega)⟩
set_option maxRecDepth 100000 in
set_option maxHeartbeats 8000000 in
theorem c_H_remember (l : Launch) (E : Ev) (a c : Nat) (rv : Nat → NV) (p k : Nat) (v : NV) (hp : p < 20) (hk : k ≤ 20) (hd : c + 22 ≤ a ∨ a + 442 ≤ c) : Ct l E yX4_remember cX4_remember 2 none (rm 4) [.ref a, .ref c] (fun H => Hq E a rv p k H ∧ Nq E c v H) (rV none (fun H => Hq E a (va_up rv p v) ((p + 1) % 20) (if k < 20 then k + 1 else k) H ∧ Nq E c v H)) (rg a 442) := by
  refine ct_start (by decide) [some (.ref a), some (.ref c)] rfl (Nat.le_of_ble_eq_true rfl) ?_
  intro x hF hN hA hR
  have er : nI p + 1 - (nI p + 1) / 20 * 20 = nI ((p + 1) % 20) := by
    rw [nI_1, show (20 : Int32) = nI 20 by decide, pk_rem (by omega) (by omega) (by omega)]
  have kc : ∀ {H H' : Heap}, Nq E c v H → but a H H' → Nq E c v H' := fun {H H'} h1 h2 => h1.but h2 (fun z => by have := z.1; have := z.2; omega)
  refine g_aload_n hF dX4_remember_0 1 rfl rfl ?_
  refine g_get hF fl_X4_11 dX4_remember_1 4 rfl (by intro H h; first | exact h.1.1 | exact h.1.2.1) rfl ?_
  refine g_aload_n hF dX4_remember_4 5 rfl rfl ?_
  refine g_get hF fl_X4_18 dX4_remember_5 8 rfl (by intro H h; first | exact h.1.1 | exact h.1.2.1) rfl ?_
  refine g_aald hF 4 dX4_remember_8 9 rfl rfl (by intro H h; first | exact h.1.1 | exact h.1.2.1) (vp_in_nI hp (by omega)) (h_aa hp) ?_
  refine g_aload_n hF dX4_remember_9 10 rfl rfl ?_
  refine g_callV hF cv_X4_22 (c_N_copyQ l E (a + 2 + 22 * p) c (rv p) v (by omega)) dX4_remember_10 13 rfl (st := []) rfl rfl ⟨Nat.le_of_ble_eq_true rfl, Nat.le_of_ble_eq_true rfl⟩ ⟨Nat.le_of_ble_eq_true rfl, Nat.le_of_ble_eq_true rfl⟩ rfl (Nat.le_of_ble_eq_true rfl) 6 rfl (fun H h => by obtain ⟨fss, -, h2⟩ := h.1.2.2 p hp; exact h2.1) (Pr' := fun H => Hq E a (va_up rv p v) p k H ∧ Nq E c v H) (fun H h => ⟨h.1.2.2 p hp, h.2⟩) (fun q hq => hA q ⟨by have := hq.1; omega, by have := hq.2; omega⟩) (fun H H' h h1 h2 => by exact ⟨⟨ob_kept h.1.1 (out_at h2 h.1.1 (fun z => by have := z.1; dsimp only at this; omega)), aq_kept h.1.2.1 (out_at h2 h.1.2.1 (fun z => by have := z.1; dsimp only at this; omega)), fun j hj => if e : j = p then by subst e; rw [va_up_self]; exact h1.1 else by rw [va_up_ne _ _ e]; exact (h.1.2.2 j hj).out h2 (fun q z y => by have := z.1; have := z.2; have := y.1; have := y.2; omega)⟩, h1.2⟩) (st1 := []) rfl (k1 := 0) (n1 := 0) rfl rfl ?_
  refine g_aload_n hF dX4_remember_13 14 rfl rfl ?_
  refine g_aload_n hF dX4_remember_14 15 rfl rfl ?_
  refine g_get hF fl_X4_18 dX4_remember_15 18 rfl (by intro H h; first | exact h.1.1 | exact h.1.2.1) rfl ?_
  refine g_iconst hF (1) dX4_remember_18 19 rfl rfl ?_
  refine g_iadd hF dX4_remember_19 20 rfl ?_
  refine g_bipush hF (20) dX4_remember_20 22 rfl rfl ?_
  refine g_irem hF dX4_remember_22 23 rfl (by decide) ?_
  rw [er]
  refine g_put hF pl_X4_18 dX4_remember_23 26 rfl (by intro H h; first | exact h.1.1 | exact h.1.2.1) (Nat.le_of_ble_eq_true rfl) rfl rfl (hA _ ⟨by omega, by omega⟩) (Pr' := fun H => Hq E a (va_up rv p v) ((p + 1) % 20) k H ∧ Nq E c v H) (fun H H' h h1 h2 => by exact ⟨h.1.wo h1 h2, kc h.2 h2⟩) ?_
  refine g_aload_n hF dX4_remember_26 27 rfl rfl ?_
  refine g_get hF fl_X4_26 dX4_remember_27 30 rfl (by intro H h; first | exact h.1.1 | exact h.1.2.1) rfl ?_
  refine g_bipush hF (20) dX4_remember_30 32 rfl rfl ?_
  refine g_icmp_ge hF dX4_remember_32 35 rfl 45 (by decide) (fun c32 => ?_) (fun c32 => ?_)
  · exact g_vret hF dX4_remember_45 (Nat.le_of_ble_eq_true rfl) (Nat.le_of_ble_eq_true rfl) (fun H h => hR _ _ ⟨rfl, by rw [if_neg (by have := i_le (a := 20) c32 (by omega) (by omega); omega)]; exact h⟩)
  · refine g_aload_n hF dX4_remember_35 36 rfl rfl ?_
    refine g_dup hF dX4_remember_36 37 rfl rfl ?_
    refine g_get hF fl_X4_26 dX4_remember_37 40 rfl (by intro H h; first | exact h.1.1 | exact h.1.2.1) rfl ?_
    refine g_iconst hF (1) dX4_remember_40 41 rfl rfl ?_
    refine g_iadd hF dX4_remember_41 42 rfl ?_
    rw [nI_1]
    refine g_put hF pl_X4_26 dX4_remember_42 45 rfl (by intro H h; first | exact h.1.1 | exact h.1.2.1) (Nat.le_of_ble_eq_true rfl) rfl rfl (hA _ ⟨by omega, by omega⟩) (Pr' := fun H => Hq E a (va_up rv p v) ((p + 1) % 20) (k + 1) H ∧ Nq E c v H) (fun H H' h h1 h2 => by exact ⟨h.1.wo h1 h2, kc h.2 h2⟩) ?_
    exact g_vret hF dX4_remember_45 (Nat.le_of_ble_eq_true rfl) (Nat.le_of_ble_eq_true rfl) (fun H h => hR _ _ ⟨rfl, by rw [if_pos (i_nle (a := 20) c32 (by omega) (by omega))]; exact h⟩)
set_option maxRecDepth 100000 in
set_option maxHeartbeats 8000000 in
theorem c_H_forget (l : Launch) (E : Ev) (a : Nat) (rv : Nat → NV) (p k : Nat) : Ct l E yX4_forget cX4_forget 1 none (rm 1) [.ref a] (Hq E a rv p k) (rV none (Hq E a rv p 0)) (rg a 442) := by
  refine ct_start (by decide) [some (.ref a)] rfl (Nat.le_of_ble_eq_true rfl) ?_
  intro x hF hN hA hR
  refine g_aload_n hF dX4_forget_0 1 rfl rfl ?_
  refine g_iconst hF (0) dX4_forget_1 2 rfl rfl ?_
  refine g_put hF pl_X4_26 dX4_forget_2 5 rfl (by intro H h; exact h.1) (Nat.le_of_ble_eq_true rfl) rfl rfl (hA _ ⟨by omega, by omega⟩) (Pr' := Hq E a rv p 0) (fun H H' h h1 h2 => by exact h.wo h1 h2) ?_
  exact g_vret hF dX4_forget_5 (Nat.le_of_ble_eq_true rfl) (Nat.le_of_ble_eq_true rfl) (fun H h => hR _ _ ⟨rfl, h⟩)
set_option maxRecDepth 100000 in
set_option maxHeartbeats 8000000 in
theorem c_H_takeBack (l : Launch) (E : Ev) (a c : Nat) (rv : Nat → NV) (p k n : Nat) (v : NV) (hp : p < 20) (hk : k ≤ 20) (hn : n ≤ k) (hd : c + 22 ≤ a ∨ a + 442 ≤ c) : Ct l E yX4_takeBack cX4_takeBack 3 none (rm 4) [.ref a, .int (nI n), .ref c] (fun H => Hq E a rv p k H ∧ Nq E c v H) (rV none (fun H => Hq E a rv ((p + 20 - n) % 20) (k - n) H ∧ Nq E c (rv ((p + 20 - n) % 20)) H)) (fun q => rg a 442 q ∨ rg c 22 q) := by
  refine ct_start (by decide) [some (.ref a), some (.int (nI n)), some (.ref c)] rfl (Nat.le_of_ble_eq_true rfl) ?_
  intro x hF hN hA hR
  have hp' : (p + 20 - n) % 20 < 20 := Nat.mod_lt _ (by omega)
  have kc : ∀ {H H' : Heap}, Nq E c v H → but a H H' → Nq E c v H' := fun {H H'} h1 h2 => h1.but h2 (fun z => by have := z.1; have := z.2; omega)
  refine g_aload_n hF dX4_takeBack_0 1 rfl rfl ?_
  refine g_aload_n hF dX4_takeBack_1 2 rfl rfl ?_
  refine g_get hF fl_X4_18 dX4_takeBack_2 5 rfl (by intro H h; first | exact h.1.1 | exact h.1.2.1) rfl ?_
  refine g_iload_n hF dX4_takeBack_5 6 rfl rfl ?_
  refine g_isub hF dX4_takeBack_6 7 rfl ?_
  refine g_bipush hF (20) dX4_takeBack_7 9 rfl rfl ?_
  refine g_callS hF cs_X4_29 (c_floorMod l E (nI p - nI n) 20 (fun H => Hq E a rv p k H ∧ Nq E c v H) (by decide)) dX4_takeBack_9 12 rfl (st := [_]) rfl rfl ⟨Nat.le_of_ble_eq_true rfl, Nat.le_of_ble_eq_true rfl⟩ ⟨Nat.le_of_ble_eq_true rfl, Nat.le_of_ble_eq_true rfl⟩ rfl (Nat.le_of_ble_eq_true rfl) (Pr' := _) (fun _ h => h) (fun q z => z.elim) (fun _ _ _ h _ => by exact h) (st1 := [_, _]) rfl (k1 := 0) (n1 := 0) rfl rfl ?_
  rw [fmod20 p hp n (by omega)]
  refine g_put hF pl_X4_18 dX4_takeBack_12 15 rfl (by intro H h; first | exact h.1.1 | exact h.1.2.1) (Nat.le_of_ble_eq_true rfl) rfl rfl (hA _ (Or.inl ⟨by omega, by omega⟩)) (Pr' := fun H => Hq E a rv ((p + 20 - n) % 20) k H ∧ Nq E c v H) (fun H H' h h1 h2 => by exact ⟨h.1.wo h1 h2, kc h.2 h2⟩) ?_
  refine g_aload_n hF dX4_takeBack_15 16 rfl rfl ?_
  refine g_dup hF dX4_takeBack_16 17 rfl rfl ?_
  refine g_get hF fl_X4_26 dX4_takeBack_17 20 rfl (by intro H h; first | exact h.1.1 | exact h.1.2.1) rfl ?_
  refine g_iload_n hF dX4_takeBack_20 21 rfl rfl ?_
  refine g_isub hF dX4_takeBack_21 22 rfl ?_
  rw [pk_sub hn]
  refine g_put hF pl_X4_26 dX4_takeBack_22 25 rfl (by intro H h; first | exact h.1.1 | exact h.1.2.1) (Nat.le_of_ble_eq_true rfl) rfl rfl (hA _ (Or.inl ⟨by omega, by omega⟩)) (Pr' := fun H => Hq E a rv ((p + 20 - n) % 20) (k - n) H ∧ Nq E c v H) (fun H H' h h1 h2 => by exact ⟨h.1.wo h1 h2, kc h.2 h2⟩) ?_
  refine g_aload_n hF dX4_takeBack_25 26 rfl rfl ?_
  refine g_aload_n hF dX4_takeBack_26 27 rfl rfl ?_
  refine g_get hF fl_X4_11 dX4_takeBack_27 30 rfl (by intro H h; first | exact h.1.1 | exact h.1.2.1) rfl ?_
  refine g_aload_n hF dX4_takeBack_30 31 rfl rfl ?_
  refine g_get hF fl_X4_18 dX4_takeBack_31 34 rfl (by intro H h; first | exact h.1.1 | exact h.1.2.1) rfl ?_
  refine g_aald hF 4 dX4_takeBack_34 35 rfl rfl (by intro H h; first | exact h.1.1 | exact h.1.2.1) (vp_in_nI hp' (by omega)) (h_aa hp') ?_
  refine g_callV hF cv_X4_22 (c_N_copyQ l E c (a + 2 + 22 * ((p + 20 - n) % 20)) v (rv ((p + 20 - n) % 20)) (by omega)) dX4_takeBack_35 38 rfl (st := []) rfl rfl ⟨Nat.le_of_ble_eq_true rfl, Nat.le_of_ble_eq_true rfl⟩ ⟨Nat.le_of_ble_eq_true rfl, Nat.le_of_ble_eq_true rfl⟩ rfl (Nat.le_of_ble_eq_true rfl) 6 rfl (fun H h => by obtain ⟨fss, -, h2⟩ := h.2; exact h2.1) (Pr' := fun H => Hq E a rv ((p + 20 - n) % 20) (k - n) H ∧ Nq E c (rv ((p + 20 - n) % 20)) H) (fun H h => ⟨h.2, h.1.2.2 _ hp'⟩) (fun q hq => hA q (Or.inr hq)) (fun H H' h h1 h2 => by exact ⟨h.1.out h2 (fun q z y => by have := z.1; have := z.2; have := y.1; have := y.2; omega), h1.1⟩) (st1 := []) rfl (k1 := 0) (n1 := 0) rfl rfl ?_
  exact g_vret hF dX4_takeBack_38 (Nat.le_of_ble_eq_true rfl) (Nat.le_of_ble_eq_true rfl) (fun H h => hR _ _ ⟨rfl, h⟩)
/-! Image -/
def Iq (E : Ev) (a : Nat) (v : NV) (s : Nat) (b : Int32) (H : Heap) : Prop := ob E 5 a [.ref (a + 1), .int (nI s), .int b] H ∧ Nq E (a + 1) v H
theorem Iq.kept {E : Ev} {a : Nat} {v : NV} {s : Nat} {b : Int32} {H H' : Heap} (h : Iq E a v s b H) (hq : ∀ q, rg a 23 q → H'[q]? = H[q]?) : Iq E a v s b H' :=
  ⟨ob_kept h.1 (hq _ ⟨by omega, by omega⟩), h.2.kept (fun q z => hq q ⟨by have := z.1; omega, by have := z.2; omega⟩)⟩
theorem Iq.le {E : Ev} {a : Nat} {v : NV} {s : Nat} {b : Int32} {H : Heap} (h : Iq E a v s b H) : a + 23 ≤ H.size := by
  have := h.2.le
  omega
theorem Iq.out {E : Ev} {a : Nat} {v : NV} {s : Nat} {b : Int32} {A : Nat → Prop} {H H' : Heap} (h : Iq E a v s b H) (ho : out A H H') (hA : ∀ q, rg a 23 q → ¬ A q) : Iq E a v s b H' :=
  h.kept (fun q hq => ho.2 q (Nat.lt_of_lt_of_le hq.2 h.le) (hA q hq))
set_option maxRecDepth 100000 in
set_option maxHeartbeats 8000000 in
theorem c_I_take (l : Launch) (E : Ev) (a c d : Nat) (v w : NV) (s t : Nat) (b : Int32) (hd : c + 22 ≤ a ∨ a + 23 ≤ c) (hdd : d < a ∨ a + 23 ≤ d) : Ct l E yX5_take cX5_take 3 none (rm 4) [.ref a, .ref c, .ref d] (fun H => Iq E a v s b H ∧ Nq E c w H ∧ Dp E d t H) (rV none (fun H => Iq E a w t 1 H ∧ Nq E c w H ∧ Dp E d t H)) (rg a 23) := by
  refine ct_start (by decide) [some (.ref a), some (.ref c), some (.ref d)] rfl (Nat.le_of_ble_eq_true rfl) ?_
  intro x hF hN hA hR
  have kc : ∀ {H H' : Heap}, Nq E c w H → but a H H' → Nq E c w H' := fun {H H'} h1 h2 => h1.but h2 (fun z => by have := z.1; have := z.2; omega)
  have kd : ∀ {H H' : Heap}, Dp E d t H → but a H H' → Dp E d t H' := fun {H H'} h1 h2 => ob_kept h1 (h2.2 _ (by omega))
  refine g_aload_n hF dX5_take_0 1 rfl rfl ?_
  refine g_get hF fl_X5_10 dX5_take_1 4 rfl (by intro H h; first | exact h.1.1 | exact h.2.1 | exact h.2.2) rfl ?_
  refine g_aload_n hF dX5_take_4 5 rfl rfl ?_
  refine g_callV hF cv_X5_16 (c_N_copyQ l E (a + 1) c v w (by omega)) dX5_take_5 8 rfl (st := []) rfl rfl ⟨Nat.le_of_ble_eq_true rfl, Nat.le_of_ble_eq_true rfl⟩ ⟨Nat.le_of_ble_eq_true rfl, Nat.le_of_ble_eq_true rfl⟩ rfl (Nat.le_of_ble_eq_true rfl) 6 rfl (fun H h => by obtain ⟨fss, -, h2⟩ := h.1.2; exact h2.1) (Pr' := fun H => Iq E a w s b H ∧ Nq E c w H ∧ Dp E d t H) (fun H h => ⟨h.1.2, h.2.1⟩) (fun q hq => hA q ⟨by have := hq.1; omega, by have := hq.2; omega⟩) (fun H H' h h1 h2 => by exact ⟨⟨ob_kept h.1.1 (out_at h2 h.1.1 (fun z => by have := z.1; dsimp only at this; omega)), h1.1⟩, h1.2, ob_kept h.2.2 (out_at h2 h.2.2 (fun z => by have h3 : a + 1 ≤ d := z.1; have h4 : d < a + 1 + 22 := z.2; omega))⟩) (st1 := []) rfl (k1 := 0) (n1 := 0) rfl rfl ?_
  refine g_aload_n hF dX5_take_8 9 rfl rfl ?_
  refine g_aload_n hF dX5_take_9 10 rfl rfl ?_
  refine g_get hF fl_X5_20 dX5_take_10 13 rfl (by intro H h; first | exact h.1.1 | exact h.2.1 | exact h.2.2) rfl ?_
  refine g_put hF pl_X5_26 dX5_take_13 16 rfl (by intro H h; first | exact h.1.1 | exact h.2.1 | exact h.2.2) (Nat.le_of_ble_eq_true rfl) rfl rfl (hA _ ⟨by omega, by omega⟩) (Pr' := fun H => Iq E a w t b H ∧ Nq E c w H ∧ Dp E d t H) (fun H H' h h1 h2 => by exact ⟨⟨h1, h.1.2.but h2 (fun z => by have := z.1; omega)⟩, kc h.2.1 h2, kd h.2.2 h2⟩) ?_
  refine g_aload_n hF dX5_take_16 17 rfl rfl ?_
  refine g_iconst hF (1) dX5_take_17 18 rfl rfl ?_
  refine g_put hF pl_X5_29 dX5_take_18 21 rfl (by intro H h; first | exact h.1.1 | exact h.2.1 | exact h.2.2) (Nat.le_of_ble_eq_true rfl) rfl rfl (hA _ ⟨by omega, by omega⟩) (Pr' := fun H => Iq E a w t 1 H ∧ Nq E c w H ∧ Dp E d t H) (fun H H' h h1 h2 => by exact ⟨⟨h1, h.1.2.but h2 (fun z => by have := z.1; omega)⟩, kc h.2.1 h2, kd h.2.2 h2⟩) ?_
  exact g_vret hF dX5_take_21 (Nat.le_of_ble_eq_true rfl) (Nat.le_of_ble_eq_true rfl) (fun H h => hR _ _ ⟨rfl, h⟩)
set_option maxRecDepth 100000 in
set_option maxHeartbeats 8000000 in
theorem c_I_give (l : Launch) (E : Ev) (a c d : Nat) (v w : NV) (s t : Nat) (b : Int32) (hd : c + 22 ≤ a ∨ a + 23 ≤ c) (hdd : d < a ∨ a + 23 ≤ d) (hdc : ¬ rg c 22 d) : Ct l E yX5_give cX5_give 3 none (rm 4) [.ref a, .ref c, .ref d] (fun H => Iq E a v s b H ∧ Nq E c w H ∧ Dp E d t H) (rV none (fun H => Iq E a v s b H ∧ Nq E c v H ∧ Dp E d s H)) (fun q => rg c 22 q ∨ q = d) := by
  refine ct_start (by decide) [some (.ref a), some (.ref c), some (.ref d)] rfl (Nat.le_of_ble_eq_true rfl) ?_
  intro x hF hN hA hR
  refine g_aload_n hF dX5_give_0 1 rfl rfl ?_
  refine g_aload_n hF dX5_give_1 2 rfl rfl ?_
  refine g_get hF fl_X5_10 dX5_give_2 5 rfl (by intro H h; first | exact h.1.1 | exact h.2.1 | exact h.2.2) rfl ?_
  refine g_callV hF cv_X5_16 (c_N_copyQ l E c (a + 1) w v (by omega)) dX5_give_5 8 rfl (st := []) rfl rfl ⟨Nat.le_of_ble_eq_true rfl, Nat.le_of_ble_eq_true rfl⟩ ⟨Nat.le_of_ble_eq_true rfl, Nat.le_of_ble_eq_true rfl⟩ rfl (Nat.le_of_ble_eq_true rfl) 6 rfl (fun H h => by obtain ⟨fss, -, h2⟩ := h.2.1; exact h2.1) (Pr' := fun H => Iq E a v s b H ∧ Nq E c v H ∧ Dp E d t H) (fun H h => ⟨h.2.1, h.1.2⟩) (fun q hq => hA q (Or.inl hq)) (fun H H' h h1 h2 => by exact ⟨h.1.out h2 (fun q z y => by have := z.1; have := z.2; have := y.1; have := y.2; omega), h1.1, ob_kept h.2.2 (out_at h2 h.2.2 hdc)⟩) (st1 := []) rfl (k1 := 0) (n1 := 0) rfl rfl ?_
  refine g_aload_n hF dX5_give_8 9 rfl rfl ?_
  refine g_aload_n hF dX5_give_9 10 rfl rfl ?_
  refine g_get hF fl_X5_26 dX5_give_10 13 rfl (by intro H h; first | exact h.1.1 | exact h.2.1 | exact h.2.2) rfl ?_
  refine g_put hF pl_X5_20 dX5_give_13 16 rfl (by intro H h; first | exact h.1.1 | exact h.2.1 | exact h.2.2) (Nat.le_of_ble_eq_true rfl) rfl rfl (hA _ (Or.inr rfl)) (Pr' := fun H => Iq E a v s b H ∧ Nq E c v H ∧ Dp E d s H) (fun H H' h h1 h2 => by exact ⟨h.1.kept (fun q z => h2.2 q (fun e => by have := z.1; have := z.2; omega)), h.2.1.but h2 hdc, h1⟩) ?_
  exact g_vret hF dX5_give_16 (Nat.le_of_ble_eq_true rfl) (Nat.le_of_ble_eq_true rfl) (fun H h => hR _ _ ⟨rfl, h⟩)
