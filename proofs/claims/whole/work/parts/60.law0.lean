/-! The law: what its walk needs -/
theorem Sx.out {E : Ev} {b : Nat} {v : NV} {rv : Nat → NV} {p d : Nat} {iv : Nat → NV} {isd : Nat → Nat} {ik bg bl bs : Nat → Int32} {nb sd : Nat} {wf : Nat → Int64} {wx wy : Int32} {fa fb : Int64} {tl tn ts : Nat → Int32} {tr : Int32} {A : Nat → Prop} {H H' : Heap} (h : Sx E b v rv p d iv isd ik bg bl bs nb sd wf wx wy fa fb tl tn ts tr H) (ho : out A H H') (hA : ∀ q, A q → q < b ∨ b + 524 ≤ q) : Sx E b v rv p d iv isd ik bg bl bs nb sd wf wx wy fa fb tl tn ts tr H' :=
  ⟨ob_kept h.1 (out_at ho h.1 (fun z => absurd (hA _ z) (by dsimp only; omega))), h.2.1.out ho (fun q y z => absurd (hA _ z) (by have := y.1; have := y.2; omega)), h.2.2.1.out ho (fun q y z => absurd (hA _ z) (by have := y.1; have := y.2; omega)), aq_kept h.2.2.2.1 (out_at ho h.2.2.2.1 (fun z => absurd (hA _ z) (by dsimp only; omega))), fun j hj => (h.2.2.2.2.1 j hj).out ho (fun q y z => absurd (hA _ z) (by have := y.1; have := y.2; omega)), h.2.2.2.2.2.1.kept (fun q y => ho.2 q (Nat.lt_of_lt_of_le y.2 h.2.2.2.2.2.1.le) (fun z => absurd (hA _ z) (by have := y.1; have := y.2; omega))), ob_kept h.2.2.2.2.2.2.1 (out_at ho h.2.2.2.2.2.2.1 (fun z => absurd (hA _ z) (by dsimp only; omega))), h.2.2.2.2.2.2.2.1.out ho (fun q y z => absurd (hA _ z) (by have := y.1; have := y.2; omega)), h.2.2.2.2.2.2.2.2.1.out ho (fun z => absurd (hA _ z) (by omega)), h.2.2.2.2.2.2.2.2.2.out ho (fun q y z => absurd (hA _ z) (by have := y.1; have := y.2; omega))⟩
theorem CS.out {E : Ev} {b : Nat} {σ : AS} {A : Nat → Prop} {H H' : Heap} (h : CS E b σ H) (ho : out A H H') (hA : ∀ q, A q → q < b ∨ b + 524 ≤ q) : CS E b σ H' := by
  obtain ⟨v, hv, d, iv, isd, ik, bg, bl, bs, nb, sd⟩ := σ
  obtain ⟨rv, p, wf, wx, wy, fa, fb, tl, tn, ts, tr, hr, hP⟩ := h
  exact Cs.S hr (hP.out ho hA)
theorem CS.ob {E : Ev} {b : Nat} {σ : AS} {H : Heap} (h : CS E b σ H) : ob E 9 b (cfs b) H := by
  obtain ⟨v, hv, d, iv, isd, ik, bg, bl, bs, nb, sd⟩ := σ
  obtain ⟨rv, p, wf, wx, wy, fa, fb, tl, tn, ts, tr, hr, hP⟩ := h
  exact hP.1
theorem Mm.out {E : Ev} {c : Nat} {nw pf im : Nat → Int32} {ss : Nat → Int64} {kp bk : Nat → Int32} {ws : Nat → Int64} {cg ls nq : Nat → Int32} {dd : Int32} {sd : Int64} {en : Int32} {wh : Int64} {ro : Int32} {A : Nat → Prop} {H H' : Heap} (h : Mm E c nw pf im ss kp bk ws cg ls nq dd sd en wh ro H) (ho : out A H H') (hA : ∀ q, A q → q < c ∨ c + 11 ≤ q) : Mm E c nw pf im ss kp bk ws cg ls nq dd sd en wh ro H' :=
  ⟨ob_kept h.1 (out_at ho h.1 (fun z => absurd (hA _ z) (by dsimp only; omega))), ai_kept h.2.1 (out_at ho h.2.1 (fun z => absurd (hA _ z) (by dsimp only; omega))), ai_kept h.2.2.1 (out_at ho h.2.2.1 (fun z => absurd (hA _ z) (by dsimp only; omega))), ai_kept h.2.2.2.1 (out_at ho h.2.2.2.1 (fun z => absurd (hA _ z) (by dsimp only; omega))), aj_kept h.2.2.2.2.1 (out_at ho h.2.2.2.2.1 (fun z => absurd (hA _ z) (by dsimp only; omega))), az_kept h.2.2.2.2.2.1 (out_at ho h.2.2.2.2.2.1 (fun z => absurd (hA _ z) (by dsimp only; omega))), ai_kept h.2.2.2.2.2.2.1 (out_at ho h.2.2.2.2.2.2.1 (fun z => absurd (hA _ z) (by dsimp only; omega))), aj_kept h.2.2.2.2.2.2.2.1 (out_at ho h.2.2.2.2.2.2.2.1 (fun z => absurd (hA _ z) (by dsimp only; omega))), ai_kept h.2.2.2.2.2.2.2.2.1 (out_at ho h.2.2.2.2.2.2.2.2.1 (fun z => absurd (hA _ z) (by dsimp only; omega))), ai_kept h.2.2.2.2.2.2.2.2.2.1 (out_at ho h.2.2.2.2.2.2.2.2.2.1 (fun z => absurd (hA _ z) (by dsimp only; omega))), ai_kept h.2.2.2.2.2.2.2.2.2.2 (out_at ho h.2.2.2.2.2.2.2.2.2.2 (fun z => absurd (hA _ z) (by dsimp only; omega)))⟩
theorem MS.out {E : Ev} {c : Nat} {σ : AS} {A : Nat → Prop} {H H' : Heap} (h : MS E c σ H) (ho : out A H H') (hA : ∀ q, A q → q < c ∨ c + 11 ≤ q) : MS E c σ H' := by
  obtain ⟨v, hv, d, iv, isd, ik, bg, bl, bs, nb, sd⟩ := σ
  obtain ⟨pf, im, ss, bk, ws, cg, ls, nq, wh, ro, hr, hP⟩ := h
  exact MS.mk hr (hP.out ho hA)
theorem MS.ob {E : Ev} {c : Nat} {σ : AS} {H : Heap} (h : MS E c σ H) : ∃ fs, ob E 10 c fs H := by
  obtain ⟨v, hv, d, iv, isd, ik, bg, bl, bs, nb, sd⟩ := σ
  obtain ⟨pf, im, ss, bk, ws, cg, ls, nq, wh, ro, hr, hP⟩ := h
  exact ⟨_, hP.1⟩
section LX
variable {l : Launch} {R : Room} {E : Ev} {x : Cx} {k n : Nat} {Pr Pr' : Heap → Prop} {lo : List (Option Value)} {pc : Nat} {st : List Value} {own : String} {cc : ByteArray} {rt : Option FieldType} {nL : Nat}
theorem g_sld (hF : fx E x own cc rt nL) {b L : Nat} {xs : Nat → Int32} {i : Int32} (hX : va_X b L xs x.2.2.1 x.2.2.1.heap) (hbl : b < x.2.2.1.heap.size) (hbA : ¬ arx x b) (hi : vp_in i L) (d : decode cc pc = .ok (.iaload, 1)) (q : Nat) (hq : pc + 1 = q) (h : go l R E x k n Pr lo q (.int (xs i.toNatClampNeg) :: st)) : go l R E x k n Pr lo pc (.int i :: .ref b :: st) := by
  obtain ⟨p, e, s, m, args, below, meth, c, A, Rt⟩ := x
  subst hq
  intro H ls locs hP hl hS
  exact va_sld hF.1 hF.2.1 hX hbl hbA hS hi d (h H ls locs hP hl hS)
theorem g_slen (hF : fx E x own cc rt nL) {b L : Nat} {xs : Nat → Int32} (hX : va_X b L xs x.2.2.1 x.2.2.1.heap) (hbl : b < x.2.2.1.heap.size) (hbA : ¬ arx x b) (d : decode cc pc = .ok (.arraylength, 1)) (q : Nat) (hq : pc + 1 = q) (h : go l R E x k n Pr lo q (.int (nI L) :: st)) : go l R E x k n Pr lo pc (.ref b :: st) := by
  obtain ⟨p, e, s, m, args, below, meth, c, A, Rt⟩ := x
  subst hq
  intro H ls locs hP hl hS
  exact va_slen hF.1 hF.2.1 hX hbl hbA hS d (h H ls locs hP hl hS)
section CALL
variable {k1 n1 : Nat} {st1 : List Value} {i nL' np b : Nat} {y : MethodName} {cc' : ByteArray} {rt' : Option FieldType} {R' : Room} {As st0 : List Value} {Pr1 Pr1' : Heap → Prop} {A1 : Nat → Prop} {vr : Option Value}
theorem g_callX (hF : fx E x own cc rt nL) (hw : cV own i y cc' nL' rt' np) (hC : Ct l E y cc' nL' rt' R' (.ref b :: As) Pr1 (rV vr Pr1') A1) (d : decode cc pc = .ok (.invokevirtual i, 3)) (q : Nat) (hq : pc + 3 = q) (hst : st0 = As.reverse ++ .ref b :: st) (hn : As.length = np) (hR : R'.frames + 1 ≤ R.frames ∧ 8 + (nL' + 11) + R'.locals ≤ R.locals) (hc : k + R'.cells ≤ R.cells ∧ n + R'.slots ≤ R.slots) (hlen : lo.length = nL) (hW : (st.map fun v => v.category).sum ≤ 8)
    (ci : Nat) {T0 : u_T} {N0 : Nat} (hci : clE[ci]? = some (y.cls, T0, N0)) (rcv : ∀ H, Pr H → ∃ fs, ob E ci b fs H) (to : ∀ H, Pr H → Pr1 H) (hA : ∀ q, A1 q → arx x q) (back : ∀ H H', Pr H → Pr1' H' → out A1 H H' → Pr' H') (hst1 : vr.toList ++ st = st1) (hk1 : k + R'.cells = k1) (hn1 : n + R'.slots = n1) (h : go l R E x k1 n1 Pr' lo q st1) : go l R E x k n Pr lo pc st0 := by
  obtain ⟨p, e, s, m, args, below, meth, c, A, Rt⟩ := x
  subst hq
  intro H ls locs hP hl hS
  obtain ⟨w1, w2, w3, w4, w5, w6⟩ := hw
  obtain ⟨fs, hfs⟩ := rcv H hP
  have hts := hF.2.2.2.2.1
  refine go_back (va_runV (Ts := tG) (C := y.cls) (As := As) (rest := st) ⟨hF.1, hF.2.1, hF.2.2.1, hF.2.2.2.1, hts⟩ hC ⟨callB_of np hts (tG_goodIn w5) rfl rfl rfl (hts _ w4) (hts _ w1) w6 hR, hts _ w2, hts _ w3⟩ ⟨ctP_blind, va_recv hF.2.2.2.2.2.1.1 (va1 hfs) hci (q0 := 0) rfl, fun U hU hWm => ⟨rfl, hF.2.2.2.2.2.1.warm hWm, by rw [hU]; exact to H hP⟩⟩ rfl hn (hl.1.trans hlen) hst (lv_room hW) d hc) hP hl hS hA hst1 hk1 hn1 back h
end CALL
end LX
theorem lc_self (r : Int64) : lg_cmp r r = 0 := by
  unfold lg_cmp
  rw [if_neg (Int64.lt_irrefl (a := r)), if_pos rfl]
theorem scr_in {j L k : Nat} {i : Int32} (hi : i = nI (7 * j)) (hk : k < 7) (h : 7 * j + 7 ≤ L) (hL : L ≤ 3584) : vp_in (i + nI k) L := by
  rw [hi, nI_add]
  exact vp_in_nI (by omega) (by omega)
theorem scr_in0 {j L : Nat} {i : Int32} (hi : i = nI (7 * j)) (h : 7 * j + 7 ≤ L) (hL : L ≤ 3584) : vp_in i L := by
  rw [hi]
  exact vp_in_nI (by omega) (by omega)
theorem scr_end {j L : Nat} (hL : L ≤ 3584) (hj : 7 * j ≤ L) : nI L - 7 < nI (7 * j) ↔ L < 7 * j + 7 := by
  rcases Nat.lt_or_ge L 7 with h | h
  · obtain rfl : j = 0 := by omega
    have : L = 0 ∨ L = 1 ∨ L = 2 ∨ L = 3 ∨ L = 4 ∨ L = 5 ∨ L = 6 := by omega
    rcases this with rfl | rfl | rfl | rfl | rfl | rfl | rfl <;> exact ⟨fun _ => by omega, fun _ => by decide⟩
  · have e : nI L - 7 = nI (L - 7) := by
      have h1 : nI (L - 7) + nI 7 = nI L := by rw [nI_add, show L - 7 + 7 = L by omega]
      rw [← h1]
      exact Int32.add_sub_cancel _ _
    rw [e, nI_ltI (by omega) (by omega)]
    omega
theorem sw_out {a : Int32} (h : a < 0 ∨ nI 20 ≤ a) : a.toInt < 0 ∨ 19 < a.toInt := by
  rcases h with h | h
  · left
    have := Int32.lt_iff_toInt_lt.mp h
    simpa using this
  · right
    have h1 := Int32.le_iff_toInt_le.mp h
    rw [nI_toInt (by omega)] at h1
    omega
theorem lm1 {w : Cond} (h : w ∈ tables_1_1) : w ∈ lw_tbl := List.mem_append_right _ (List.mem_append_left _ h)
theorem ar_known {s : State} {args : Array Value} {ty : FieldType} (h : (Cond.arrayClass ty).before args s = true) : ∃ cA : ClassId, ArrOfT s cA ty ∧ s.vm.findClass ("[" ++ ty.toString) = some cA := by
  obtain ⟨cA, kA, comp, hfind, hk, hkind⟩ := Cond.arrayClass_spec h
  exact ⟨cA, fun n z => ⟨fun k h => (by cases h), kA, hk, comp, hkind⟩, hfind⟩
theorem ao_known {s : State} {args : Array Value} {C : String} (h : (Cond.arrayOver (.object C)).before args s = true) : ∃ cA : ClassId, ArrOfT s cA (.object C) ∧ va_RA s cA (.object C) := by
  obtain ⟨comp, c, k, h1, h2, h3, h4, h5⟩ := Cond.arrayOver_spec h
  exact ⟨c, fun n z => ⟨fun k h => (by cases h), k, h3, comp, h4⟩, k, comp, h3, h4, h1, h5⟩
theorem is_X0 : Cond.instantiable RX0 4 ∈ tG := tm1 (List.mem_of_getElem? (i := 183) rfl) rfl
theorem is_X1 : Cond.instantiable RX1 1 ∈ tG := tm1 (List.mem_of_getElem? (i := 203) rfl) rfl
theorem is_X2 : Cond.instantiable RX2 2 ∈ tG := tm1 (List.mem_of_getElem? (i := 232) rfl) rfl
theorem is_X3 : Cond.instantiable RX3 14 ∈ tG := tm1 (List.mem_of_getElem? (i := 32) rfl) rfl
theorem is_X4 : Cond.instantiable RX4 3 ∈ tG := tm1 (List.mem_of_getElem? (i := 143) rfl) rfl
theorem is_X5 : Cond.instantiable RX5 3 ∈ tG := tm1 (List.mem_of_getElem? (i := 164) rfl) rfl
theorem is_X6 : Cond.instantiable RX6 4 ∈ tG := tm1 (List.mem_of_getElem? (i := 25) rfl) rfl
theorem is_X7 : Cond.instantiable RX7 4 ∈ tG := tm2 (List.mem_of_getElem? (i := 5) rfl) rfl
theorem is_X8 : Cond.instantiable RX8 3 ∈ tG := tm1 (List.mem_of_getElem? (i := 215) rfl) rfl
theorem is_X9 : Cond.instantiable RX9 8 ∈ tG := tm1 (List.mem_of_getElem? (i := 17) rfl) rfl
theorem is_X10 : Cond.instantiable RX10 15 ∈ tG := tm3 (List.mem_of_getElem? (i := 146) rfl) rfl
set_option maxRecDepth 100000 in
theorem kE_of {args : Array Value} {s : State} (hts0 : ∀ w ∈ lw_tbl, w.before args s = true) : ∃ E : Ev, kE E s := by
  have hts : ∀ w ∈ tG, w.before args s = true := fun w hw => hts0 w (tG_in hw)
  obtain ⟨c0, i0, k0⟩ := u_known (C := RX0) (T := TX0) (N := 4) (n := 4) hts inE0 (hts _ is_X0)
  obtain ⟨c1, i1, k1⟩ := u_known (C := RX1) (T := TX1) (N := 1) (n := 1) hts inE1 (hts _ is_X1)
  obtain ⟨c2, i2, k2⟩ := u_known (C := RX2) (T := TX2) (N := 2) (n := 2) hts inE2 (hts _ is_X2)
  obtain ⟨c3, i3, k3⟩ := u_known (C := RX3) (T := TX3) (N := 14) (n := 14) hts inE3 (hts _ is_X3)
  obtain ⟨c4, i4, k4⟩ := u_known (C := RX4) (T := TX4) (N := 3) (n := 3) hts inE4 (hts _ is_X4)
  obtain ⟨c5, i5, k5⟩ := u_known (C := RX5) (T := TX5) (N := 3) (n := 3) hts inE5 (hts _ is_X5)
  obtain ⟨c6, i6, k6⟩ := u_known (C := RX6) (T := TX6) (N := 4) (n := 4) hts inE6 (hts _ is_X6)
  obtain ⟨c7, i7, k7⟩ := u_known (C := RX7) (T := TX7) (N := 4) (n := 4) hts inE7 (hts _ is_X7)
  obtain ⟨c8, i8, k8⟩ := u_known (C := RX8) (T := TX8) (N := 3) (n := 3) hts inE8 (hts _ is_X8)
  obtain ⟨c9, i9, k9⟩ := u_known (C := RX9) (T := TX9) (N := 8) (n := 8) hts inE9 (hts _ is_X9)
  obtain ⟨c10, i10, k10⟩ := u_known (C := RX10) (T := TX10) (N := 15) (n := 15) hts inE10 (hts _ is_X10)
  obtain ⟨a0, a1, a2⟩ := ar_known (hts _ ac_int)
  obtain ⟨b0, b1, b2⟩ := ar_known (hts _ ac_long)
  obtain ⟨d0, d1, d2⟩ := ar_known (hts _ ac_boolean)
  have e3 : (Cond.arrayOver (.object RX3)).before args s = true := hts0 _ (lm1 (List.mem_of_getElem? (i := 31) rfl))
  obtain ⟨e0, e1, e2⟩ := ao_known e3
  have f3 : (Cond.arrayOver (.object RX6)).before args s = true := hts0 _ (lm1 (List.mem_of_getElem? (i := 149) rfl))
  obtain ⟨f0, f1, f2⟩ := ao_known f3
  have g3 : (Cond.arrayOver (.object RX5)).before args s = true := hts0 _ (lm1 (List.mem_of_getElem? (i := 163) rfl))
  obtain ⟨g0, g1, g2⟩ := ao_known g3
  have hn : (Cond.methodLinkNest RX9 39 yX1_init "TrunkReserve").before args s = true := hts0 _ (lm1 (List.mem_of_getElem? (i := 204) rfl))
  refine ⟨((fun k => match k with
    | 0 => c0
    | 1 => c1
    | 2 => c2
    | 3 => c3
    | 4 => c4
    | 5 => c5
    | 6 => c6
    | 7 => c7
    | 8 => c8
    | 9 => c9
    | _ => c10, fun k => match k with
    | 0 => i0
    | 1 => i1
    | 2 => i2
    | 3 => i3
    | 4 => i4
    | 5 => i5
    | 6 => i6
    | 7 => i7
    | 8 => i8
    | 9 => i9
    | _ => i10), a0, b0, d0, e0, f0, g0), ⟨fun k q hq => ?_, fun k q hq => ?_⟩, e3, f3, g3, va_Nw.of rfl hn⟩
  · match k, hq with
    | 0, hq => cases hq; exact k0
    | 1, hq => cases hq; exact k1
    | 2, hq => cases hq; exact k2
    | 3, hq => cases hq; exact k3
    | 4, hq => cases hq; exact k4
    | 5, hq => cases hq; exact k5
    | 6, hq => cases hq; exact k6
    | 7, hq => cases hq; exact k7
    | 8, hq => cases hq; exact k8
    | 9, hq => cases hq; exact k9
    | 10, hq => cases hq; exact k10
    | k + 11, hq => simp [clE] at hq
  · match k, hq with
    | 0, hq => cases hq; exact ⟨a1, a2⟩
    | 1, hq => cases hq; exact ⟨b1, b2⟩
    | 2, hq => cases hq; exact ⟨d1, d2⟩
    | 3, hq => cases hq; exact ⟨e1, e2⟩
    | 4, hq => cases hq; exact ⟨f1, f2⟩
    | 5, hq => cases hq; exact ⟨g1, g2⟩
    | k + 6, hq => simp [tyE] at hq
