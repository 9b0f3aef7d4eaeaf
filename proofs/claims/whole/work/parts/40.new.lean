/-! Rows that make objects and arrays -/
def rc (d c s : Nat) : Room := { frames := d, cells := c, slots := s, locals := 32 * d }
/-- the heap has grown by one cell, at sz -/
abbrev grw (sz : Nat) (H H' : Heap) : Prop := H'.size = sz + 1 ∧ ∀ b, b < sz → H'[b]? = H[b]?
/-- the words of a new object -/
def nW (own : String) (idx ci N : Nat) (fs : List Value) : Prop := ∃ (C : String) (T : u_T) (t0 : Nat → FieldType), clE[ci]? = some (C, T, N) ∧ (∀ w ∈ u_ws C T N, w ∈ tG) ∧ Cond.classLink own idx C ∈ tG ∧ Cond.instantiable C N ∈ tG ∧ Cond.initialized C ∈ tG ∧ (∀ k, k < N → parseFieldDescriptor (T k).2.2.1 = some (t0 k)) ∧ ∀ j, j < N → defaultValue (t0 j) = vp_V fs j
section NEW
variable {l : Launch} {R : Room} {E : Ev} {x : Cx} {k n : Nat} {Pr Pr' : Heap → Prop} {lo : List (Option Value)} {pc : Nat} {st : List Value} {own : String} {cc : ByteArray} {rt : Option FieldType} {nL : Nat}
theorem g_wid {k1 n1 : Nat} (hk : k ≤ k1) (hn : n ≤ n1) (h : go l R E x k1 n1 Pr lo pc st) : go l R E x k n Pr lo pc st := by
  obtain ⟨p, e, s, m, args, below, meth, c, A, Rt⟩ := x
  intro H ls locs hP hl hS
  exact W.widen hk hn (h H ls locs hP hl hS)
theorem grw_S {A : Nat → Prop} {H0 H H' : Heap} {locs : List Loc} {sz : Nat} (hz : H.size = sz) (hS : va_S A H0 H locs) (h : grw sz H H') : va_S A H0 H' locs := by
  subst hz
  exact ⟨Nat.le_trans hS.1 (by rw [h.1]; exact Nat.le_succ _), fun b h1 h2 => (h.2 b (Nat.lt_of_lt_of_le h1 hS.1)).trans (hS.2.1 b h1 h2), hS.2.2⟩
theorem g_new (hF : fx E x own cc rt nL) {i ci N sz k1 n1 : Nat} {fs : List Value} (hw : nW own i ci N fs) (d : decode cc pc = .ok (.new i, 3)) (q : Nat) (hq : pc + 3 = q) (hz : ∀ H, Pr H → H.size = sz) (hc : k + 1 ≤ R.cells ∧ n + N ≤ R.slots) (wr : ∀ H H', Pr H → ob E ci sz fs H' → grw sz H H' → Pr' H') (hk1 : k + 1 = k1) (hn1 : n + N = n1) (h : go l R E x k1 n1 Pr' lo q (.ref sz :: st)) : go l R E x k n Pr lo pc st := by
  obtain ⟨p, e, s, m, args, below, meth, c, A, Rt⟩ := x
  obtain ⟨C, T, t0, hc0, hin, w1, w2, w3, hty, hfs⟩ := hw
  subst hq
  subst hk1
  subst hn1
  intro H ls locs hP hl hS
  have hts := hF.2.2.2.2.1
  have hKn := hF.2.2.2.2.2.1.1.1 ci _ hc0
  refine W.newcK hF.1 hF.2.1 hF.2.2.2.1 (hts _ w1) (hts _ w2) (hts _ w3) rfl d hc.1 hc.2 hKn.2.1 (hz H hP) fun H1 kC hkC e1 z1 o1 => ?_
  exact h H1 ls locs (wr H H1 hP ⟨_, hc0, (u_born t0 hts hin hKn hkC e1 hty).to hfs⟩ ⟨z1, o1⟩) hl (grw_S (hz H hP) hS ⟨z1, o1⟩)
theorem g_newa (hF : fx E x own cc rt nL) {aty : ArrayType} {ty : FieldType} {cA : ClassId} {a0 : vp_A} {N sz k1 n1 : Nat} {v : Int32} (hnm : kE E x.2.2.1 → x.2.2.1.vm.findClass ("[" ++ ty.toString) = some cA) (hat : newarray.typeOf aty = ty) (ha : ∀ c : ClassId, vp_cell c a0 = arrV c N (fun _ => defaultValue ty)) (hwd : Cond.arrayClass ty ∈ tG) (d : decode cc pc = .ok (.newarray aty, 2)) (q : Nat) (hq : pc + 2 = q) (hv : ¬ v < 0) (hN : v.toNatClampNeg = N) (hby : N * componentBytes ty ≤ 536870912) (hz : ∀ H, Pr H → H.size = sz) (hc : k + 1 ≤ R.cells ∧ n + N ≤ R.slots) (wr : ∀ H H', Pr H → va_at E.1 clE (sz, .inl (cA, a0)) H' → grw sz H H' → Pr' H') (hk1 : k + 1 = k1) (hn1 : n + N = n1) (h : go l R E x k1 n1 Pr' lo q (.ref sz :: st)) : go l R E x k n Pr lo pc (.int v :: st) := by
  obtain ⟨p, e, s, m, args, below, meth, c, A, Rt⟩ := x
  subst hq
  subst hk1
  subst hn1
  subst hat
  intro H ls locs hP hl hS
  have hts := hF.2.2.2.2.1
  refine va_newaK hF.1 hF.2.1 (hts _ hwd) rfl d rfl hv hN hby hc.1 hc.2 (hz H hP) fun H1 cB e1 z1 o1 hAr hNm => ?_
  obtain rfl : cA = cB := Option.some.inj ((hnm hF.2.2.2.2.2.1).symm.trans hNm)
  refine h H1 ls locs (wr H H1 hP ?_ ⟨z1, o1⟩) hl (grw_S (hz H hP) hS ⟨z1, o1⟩)
  show H1[sz]? = some (vp_cell _ _)
  rw [ha]
  exact e1
theorem g_anew (hF : fx E x own cc rt nL) {C : String} {cA : ClassId} {i N sz k1 n1 : Nat} {v : Int32} (t0 : Nat) (ht : (tyE E)[t0]? = some (cA, .object C)) (hao : ∀ U, kE E U → va_AO C U) (hlk : Cond.classLink own i C ∈ tG) (d : decode cc pc = .ok (.anewarray i, 3)) (q : Nat) (hq : pc + 3 = q) (hv : ¬ v < 0) (hN : v.toNatClampNeg = N) (hby : N * 4 ≤ 536870912) (hz : ∀ H, Pr H → H.size = sz) (hc : k + 1 ≤ R.cells ∧ n + N ≤ R.slots) (wr : ∀ H H', Pr H → aq E cA sz N (fun _ => none) H' → grw sz H H' → Pr' H') (hk1 : k + 1 = k1) (hn1 : n + N = n1) (h : go l R E x k1 n1 Pr' lo q (.ref sz :: st)) : go l R E x k n Pr lo pc (.int v :: st) := by
  obtain ⟨p, e, s, m, args, below, meth, c, A, Rt⟩ := x
  subst hq
  subst hk1
  subst hn1
  subst hN
  intro H ls locs hP hl hS
  have hts := hF.2.2.2.2.1
  obtain rfl : H.size = sz := hz H hP
  obtain ⟨kA2, comp2, -, -, -, h4⟩ := (hF.2.2.2.2.2.1.1.2 t0 _ ht).2
  refine W.anew hF.1 hF.2.1 hF.2.2.2.1 (hts _ hlk) (va_AO.use (hao s hF.2.2.2.2.2.1)) rfl d rfl hv hby hc.1 hc.2 fun cB kA comp f1 f2 f3 f4 => ?_
  obtain rfl : cA = cB := Option.some.inj (h4.symm.trans f1)
  generalize hH1 : H.push ({ cls := cA, slots := Array.replicate v.toNatClampNeg .null, vm := .none } : Cell) = H1
  have z1 : H1.size = H.size + 1 := by rw [← hH1, Array.size_push]
  have e1 : H1[H.size]? = some (arrV cA v.toNatClampNeg (fun _ => .null)) := by rw [← hH1, Array.getElem?_push_size, ← arrV_new]
  have o1 : ∀ q : Nat, q < H.size → H1[q]? = H[q]? := fun q hq => by rw [← hH1, Array.getElem?_push, if_neg (Nat.ne_of_lt hq)]
  refine h H1 ls locs (wr H H1 hP ?_ ⟨z1, o1⟩) hl (grw_S rfl hS ⟨z1, o1⟩)
  show H1[H.size]? = some (vp_cell _ _)
  rw [vp_cell_q]
  exact e1
theorem g_aast (hF : fx E x own cc rt nL) {a N b ci : Nat} {f : Nat → Option Nat} {i : Int32} {cA : ClassId} {r : vw_C} {vs : List Value} (t0 : Nat) (d : decode cc pc = .ok (.aastore, 1)) (q : Nat) (hq : pc + 1 = q) (ht : (tyE E)[t0]? = some (cA, .object r.1)) (hci : clE[ci]? = some r) (rd : ∀ H, Pr H → aq E cA a N f H) (rdv : ∀ H, Pr H → ob E ci b vs H) (hi : vp_in i N) (hA : arx x a)
    (wr : ∀ H H', Pr H → aq E cA a N (va_up f i.toNatClampNeg (some b)) H' → but a H H' → Pr' H') (h : go l R E x k n Pr' lo q st) : go l R E x k n Pr lo pc (.ref b :: .int i :: .ref a :: st) := by
  obtain ⟨p, e, s, m, args, below, meth, c, A, Rt⟩ := x
  subst hq
  intro H ls locs hP hl hS
  have hK := hF.2.2.2.2.2.1.1
  have hlt : i.toNatClampNeg < N := Nat.not_le.mp fun q => hi (Or.inr q)
  have h0 : ¬ i < 0 := fun q => hi (Or.inl q)
  obtain ⟨r', hr', cellV, g1, g2, g3, -⟩ := rdv H hP
  have hcls := (hK.1 ci r hci).2
  obtain ⟨kA, comp, k1, k2, k3, -⟩ := (hK.2 t0 _ ht).2
  have hcomp : comp = E.1.1 ci := Option.some.inj (k3.symm.trans hcls.1)
  subst hcomp
  obtain ⟨kC, hkC, -⟩ := hcls.2
  refine W.aast hF.1 hF.2.1 (rd H hP) (fun q h => by cases h) (fun h => by cases h) k1 k2 rfl hkC ⟨h0, by show _ < (arrV _ _ _).slots.size; rw [arrV_size]; exact hlt⟩ g1 (fun q h => by rw [g3] at h; cases h) (by rw [g2]; exact hkC) (by rw [g2]; exact va_assign hcls) rfl rfl d fun H1 e z oq => ?_
  refine h H1 ls _ (wr H H1 hP ?_ ⟨z, oq⟩) hl (hS.put z oq hA)
  show H1[a]? = some (vp_cell _ _)
  rw [e]
  rw [vp_cell_q, vp_cell_q, arrV_store]
  congr 2
  funext q
  by_cases hq : q = i.toNatClampNeg
  · subst hq
    simp [updV, va_up, va_rf]
  · simp [updV, va_up, hq]
theorem oi_inst : Cond.instanceMethod Lib.objectInit ∈ tG := tm1 (List.mem_of_getElem? (i := 22) rfl) rfl
theorem oi_code : Cond.code Lib.objectInit ⟨#[0xb1]⟩ 1 none ∈ tG := tm1 (List.mem_of_getElem? (i := 23) rfl) rfl
theorem g_oinit (hF : fx E x own cc rt nL) {i a : Nat} (hlk : Cond.methodLink own i Lib.objectInit ∈ tG) (d : decode cc pc = .ok (.invokespecial i, 3)) (q : Nat) (hq : pc + 3 = q) (hR : 1 ≤ R.frames ∧ 20 ≤ R.locals) (hlen : lo.length = nL) (hW : (st.map fun v => v.category).sum ≤ 8) (h : go l R E x k n Pr lo q st) : go l R E x k n Pr lo pc (.ref a :: st) := by
  obtain ⟨p, e, s, m, args, below, meth, c, A, Rt⟩ := x
  subst hq
  intro H ls locs hP hl hS
  have hts := hF.2.2.2.2.1
  have hml : c.maxLocals = nL := hF.2.2.1
  refine W.objInit hF.1 hF.2.1 hF.2.2.2.1 (hts _ hlk) (hts _ oi_inst) (hts _ oi_code) rfl ((hl.1.trans hlen).trans hml.symm) rfl d hR.1 (Nat.le_trans (Nat.add_le_add_right (lv_room hW) 12) hR.2) (h H ls locs hP hl hS)
section CALL
variable {k1 n1 : Nat} {st1 : List Value} {b : Nat} {R' : Room} {st0 : List Value} {Pr1 Pr1' : Heap → Prop} {A1 : Nat → Prop} {vr : Option Value}
theorem g_callIN (hF : fx E x RX9 cc rt nL) (hC : Ct l E yX1_init cX1_init 1 none R' [.ref b] Pr1 (rV vr Pr1') A1) (d : decode cc pc = .ok (.invokespecial 39, 3)) (q : Nat) (hq : pc + 3 = q) (hR : R'.frames + 1 ≤ R.frames ∧ 8 + (1 + 11) + R'.locals ≤ R.locals) (hc : k + R'.cells ≤ R.cells ∧ n + R'.slots ≤ R.slots) (hlen : lo.length = nL) (hW : (st.map fun v => v.category).sum ≤ 8)
    (to : ∀ H, Pr H → Pr1 H) (hA : ∀ q, A1 q → arx x q) (back : ∀ H H', Pr H → Pr1' H' → out A1 H H' → Pr' H') (hst1 : vr.toList ++ st = st1) (hk1 : k + R'.cells = k1) (hn1 : n + R'.slots = n1) (h : go l R E x k1 n1 Pr' lo q st1) : go l R E x k n Pr lo pc (.ref b :: st) := by
  obtain ⟨p, e, s, m, args, below, meth, c, A, Rt⟩ := x
  subst hq
  intro H ls locs hP hl hS
  have hts := hF.2.2.2.2.1
  have w5 : Cond.code yX1_init cX1_init 1 none ∈ tG := tm1 (List.mem_of_getElem? (i := 206) rfl) rfl
  have w2 : Cond.instanceMethod yX1_init ∈ tG := tm1 (List.mem_of_getElem? (i := 205) rfl) rfl
  have w4 : Cond.initialized yX1_init.cls ∈ tG := tm1 (List.mem_of_getElem? (i := 8) rfl) rfl
  refine go_back (va_runIN (Ts := tG) (host := "TrunkReserve") (As := []) (rest := st) ⟨hF.1, hF.2.1, hF.2.2.1, hF.2.2.2.1, hts⟩ hC ⟨va_cnB 0 hts (tG_goodIn w5) rfl rfl rfl hF.2.2.2.2.2.1.2.2.2.2 (hts _ w4) ⟨by decide +kernel, by decide +kernel, by decide +kernel⟩ hR, rfl, hts _ w2⟩ ⟨ctP_blind, fun U hU hWm => ⟨rfl, hF.2.2.2.2.2.1.warm hWm, by rw [hU]; exact to H hP⟩⟩ rfl rfl (hl.1.trans hlen) rfl (lv_room hW) d hc) hP hl hS hA hst1 hk1 hn1 back h
end CALL
/-- the heap's size behind a method that makes nothing -/
theorem Ct.sz0 {y : MethodName} {d0 : Nat} {av : List Value} {P Q : Heap → Prop} {v : Option Value} {A : Nat → Prop} (h : Ct l E y cc nL rt (rm d0) av P (rV v Q) A) (sz : Nat) : Ct l E y cc nL rt (rm d0) av (fun H => H.size = sz ∧ P H) (rV v (fun H => H.size = sz ∧ Q H)) A := by
  intro p e ha hc hk s m args below hf happ hP ht
  obtain ⟨t, o, a1, b1, b2, ⟨⟨w, rfl, hv⟩, hz, hq⟩, L, hL, hfree⟩ := h p e ha hc hk s m args below hf happ ⟨hP.1, hP.2.1, hP.2.2.2⟩ ht
  have h0 := hL.2.2.2.2.1
  have h1 : s.heap.size = sz := hP.2.2.1
  exact ⟨t, _, a1, b1, b2, ⟨⟨w, rfl, hv.1, Nat.le_antisymm (Nat.le_trans h0 (Nat.le_of_eq h1)) (Nat.le_trans (Nat.le_of_eq h1.symm) hz), hv.2⟩, hz, hq⟩, L, hL, hfree⟩
end NEW
theorem cl_L_7 : Cond.classLink RL 7 RX9 ∈ tG := tm1 (List.mem_of_getElem? (i := 16) rfl) rfl
theorem nw_L_7 : nW RL 7 9 8 [.null, .null, .null, .null, .null, .null, .null, .null] := ⟨_, _, _, rfl, inE9, cl_L_7, tm1 (List.mem_of_getElem? (i := 17) rfl) rfl, tm1 (List.mem_of_getElem? (i := 1) rfl) rfl, tyX9_ok, fun j hj => by match j, hj with
  | 0, _ => exact rfl
  | 1, _ => exact rfl
  | 2, _ => exact rfl
  | 3, _ => exact rfl
  | 4, _ => exact rfl
  | 5, _ => exact rfl
  | 6, _ => exact rfl
  | 7, _ => exact rfl
  | j + 8, hj => exact absurd hj (by omega)⟩
theorem oi_X9_1 : Cond.methodLink RX9 1 Lib.objectInit ∈ tG := tm1 (List.mem_of_getElem? (i := 21) rfl) rfl
theorem cl_X9_7 : Cond.classLink RX9 7 RX6 ∈ tG := tm1 (List.mem_of_getElem? (i := 24) rfl) rfl
theorem nw_X9_7 : nW RX9 7 6 4 [.int 0, .int 0, .int 0, .null] := ⟨_, _, _, rfl, inE6, cl_X9_7, tm1 (List.mem_of_getElem? (i := 25) rfl) rfl, tm1 (List.mem_of_getElem? (i := 2) rfl) rfl, tyX6_ok, fun j hj => by match j, hj with
  | 0, _ => exact rfl
  | 1, _ => exact rfl
  | 2, _ => exact rfl
  | 3, _ => exact rfl
  | j + 4, hj => exact absurd hj (by omega)⟩
theorem oi_X6_3 : Cond.methodLink RX6 3 Lib.objectInit ∈ tG := tm1 (List.mem_of_getElem? (i := 29) rfl) rfl
theorem cl_X6_9 : Cond.classLink RX6 9 RX3 ∈ tG := tm1 (List.mem_of_getElem? (i := 30) rfl) rfl
theorem nw_X6_9 : nW RX6 9 3 14 [.int 0, .int 0, .int 0, .int 0, .int 0, .int 0, .int 0, .int 0, .int 0, .int 0, .null, .null, .null, .null] := ⟨_, _, _, rfl, inE3, cl_X6_9, tm1 (List.mem_of_getElem? (i := 32) rfl) rfl, tm1 (List.mem_of_getElem? (i := 3) rfl) rfl, tyX3_ok, fun j hj => by match j, hj with
  | 0, _ => exact rfl
  | 1, _ => exact rfl
  | 2, _ => exact rfl
  | 3, _ => exact rfl
  | 4, _ => exact rfl
  | 5, _ => exact rfl
  | 6, _ => exact rfl
  | 7, _ => exact rfl
  | 8, _ => exact rfl
  | 9, _ => exact rfl
  | 10, _ => exact rfl
  | 11, _ => exact rfl
  | 12, _ => exact rfl
  | 13, _ => exact rfl
  | j + 14, hj => exact absurd hj (by omega)⟩
theorem oi_X3_3 : Cond.methodLink RX3 3 Lib.objectInit ∈ tG := tm1 (List.mem_of_getElem? (i := 36) rfl) rfl
theorem ac_int : Cond.arrayClass .int ∈ tG := tm1 (List.mem_of_getElem? (i := 107) rfl) rfl
theorem cl_X9_16 : Cond.classLink RX9 16 RX4 ∈ tG := tm1 (List.mem_of_getElem? (i := 142) rfl) rfl
theorem nw_X9_16 : nW RX9 16 4 3 [.null, .int 0, .int 0] := ⟨_, _, _, rfl, inE4, cl_X9_16, tm1 (List.mem_of_getElem? (i := 143) rfl) rfl, tm1 (List.mem_of_getElem? (i := 5) rfl) rfl, tyX4_ok, fun j hj => by match j, hj with
  | 0, _ => exact rfl
  | 1, _ => exact rfl
  | 2, _ => exact rfl
  | j + 3, hj => exact absurd hj (by omega)⟩
theorem oi_X4_3 : Cond.methodLink RX4 3 Lib.objectInit ∈ tG := tm1 (List.mem_of_getElem? (i := 147) rfl) rfl
theorem cl_X4_9 : Cond.classLink RX4 9 RX6 ∈ tG := tm1 (List.mem_of_getElem? (i := 148) rfl) rfl
theorem nw_X4_9 : nW RX4 9 6 4 [.int 0, .int 0, .int 0, .null] := ⟨_, _, _, rfl, inE6, cl_X4_9, tm1 (List.mem_of_getElem? (i := 25) rfl) rfl, tm1 (List.mem_of_getElem? (i := 2) rfl) rfl, tyX6_ok, fun j hj => by match j, hj with
  | 0, _ => exact rfl
  | 1, _ => exact rfl
  | 2, _ => exact rfl
  | 3, _ => exact rfl
  | j + 4, hj => exact absurd hj (by omega)⟩
theorem cl_X9_23 : Cond.classLink RX9 23 RX5 ∈ tG := tm1 (List.mem_of_getElem? (i := 162) rfl) rfl
theorem nw_X9_23 : nW RX9 23 5 3 [.null, .int 0, .int 0] := ⟨_, _, _, rfl, inE5, cl_X9_23, tm1 (List.mem_of_getElem? (i := 164) rfl) rfl, tm1 (List.mem_of_getElem? (i := 6) rfl) rfl, tyX5_ok, fun j hj => by match j, hj with
  | 0, _ => exact rfl
  | 1, _ => exact rfl
  | 2, _ => exact rfl
  | j + 3, hj => exact absurd hj (by omega)⟩
theorem oi_X5_1 : Cond.methodLink RX5 1 Lib.objectInit ∈ tG := tm1 (List.mem_of_getElem? (i := 168) rfl) rfl
theorem cl_X5_7 : Cond.classLink RX5 7 RX6 ∈ tG := tm1 (List.mem_of_getElem? (i := 169) rfl) rfl
theorem nw_X5_7 : nW RX5 7 6 4 [.int 0, .int 0, .int 0, .null] := ⟨_, _, _, rfl, inE6, cl_X5_7, tm1 (List.mem_of_getElem? (i := 25) rfl) rfl, tm1 (List.mem_of_getElem? (i := 2) rfl) rfl, tyX6_ok, fun j hj => by match j, hj with
  | 0, _ => exact rfl
  | 1, _ => exact rfl
  | 2, _ => exact rfl
  | 3, _ => exact rfl
  | j + 4, hj => exact absurd hj (by omega)⟩
theorem cl_X9_30 : Cond.classLink RX9 30 RX0 ∈ tG := tm1 (List.mem_of_getElem? (i := 182) rfl) rfl
theorem nw_X9_30 : nW RX9 30 0 4 [.null, .null, .null, .int 0] := ⟨_, _, _, rfl, inE0, cl_X9_30, tm1 (List.mem_of_getElem? (i := 183) rfl) rfl, tm1 (List.mem_of_getElem? (i := 7) rfl) rfl, tyX0_ok, fun j hj => by match j, hj with
  | 0, _ => exact rfl
  | 1, _ => exact rfl
  | 2, _ => exact rfl
  | 3, _ => exact rfl
  | j + 4, hj => exact absurd hj (by omega)⟩
theorem oi_X0_3 : Cond.methodLink RX0 3 Lib.objectInit ∈ tG := tm1 (List.mem_of_getElem? (i := 187) rfl) rfl
theorem cl_X9_37 : Cond.classLink RX9 37 RX1 ∈ tG := tm1 (List.mem_of_getElem? (i := 202) rfl) rfl
theorem nw_X9_37 : nW RX9 37 1 1 [.int 0] := ⟨_, _, _, rfl, inE1, cl_X9_37, tm1 (List.mem_of_getElem? (i := 203) rfl) rfl, tm1 (List.mem_of_getElem? (i := 8) rfl) rfl, tyX1_ok, fun j hj => by match j, hj with
  | 0, _ => exact rfl
  | j + 1, hj => exact absurd hj (by omega)⟩
theorem oi_X1_3 : Cond.methodLink RX1 3 Lib.objectInit ∈ tG := tm1 (List.mem_of_getElem? (i := 207) rfl) rfl
theorem cl_X9_44 : Cond.classLink RX9 44 RX8 ∈ tG := tm1 (List.mem_of_getElem? (i := 214) rfl) rfl
theorem nw_X9_44 : nW RX9 44 8 3 [.null, .int 0, .int 0] := ⟨_, _, _, rfl, inE8, cl_X9_44, tm1 (List.mem_of_getElem? (i := 215) rfl) rfl, tm1 (List.mem_of_getElem? (i := 9) rfl) rfl, tyX8_ok, fun j hj => by match j, hj with
  | 0, _ => exact rfl
  | 1, _ => exact rfl
  | 2, _ => exact rfl
  | j + 3, hj => exact absurd hj (by omega)⟩
theorem oi_X8_3 : Cond.methodLink RX8 3 Lib.objectInit ∈ tG := tm1 (List.mem_of_getElem? (i := 219) rfl) rfl
theorem ac_long : Cond.arrayClass .long ∈ tG := tm1 (List.mem_of_getElem? (i := 230) rfl) rfl
theorem cl_X9_51 : Cond.classLink RX9 51 RX2 ∈ tG := tm1 (List.mem_of_getElem? (i := 231) rfl) rfl
theorem nw_X9_51 : nW RX9 51 2 2 [.long 0, .long 0] := ⟨_, _, _, rfl, inE2, cl_X9_51, tm1 (List.mem_of_getElem? (i := 232) rfl) rfl, tm1 (List.mem_of_getElem? (i := 10) rfl) rfl, tyX2_ok, fun j hj => by match j, hj with
  | 0, _ => exact rfl
  | 1, _ => exact rfl
  | j + 2, hj => exact absurd hj (by omega)⟩
theorem oi_X2_1 : Cond.methodLink RX2 1 Lib.objectInit ∈ tG := tm1 (List.mem_of_getElem? (i := 236) rfl) rfl
theorem cl_X9_58 : Cond.classLink RX9 58 RX7 ∈ tG := tm2 (List.mem_of_getElem? (i := 4) rfl) rfl
theorem nw_X9_58 : nW RX9 58 7 4 [.null, .null, .null, .int 0] := ⟨_, _, _, rfl, inE7, cl_X9_58, tm2 (List.mem_of_getElem? (i := 5) rfl) rfl, tm1 (List.mem_of_getElem? (i := 11) rfl) rfl, tyX7_ok, fun j hj => by match j, hj with
  | 0, _ => exact rfl
  | 1, _ => exact rfl
  | 2, _ => exact rfl
  | 3, _ => exact rfl
  | j + 4, hj => exact absurd hj (by omega)⟩
theorem oi_X7_3 : Cond.methodLink RX7 3 Lib.objectInit ∈ tG := tm2 (List.mem_of_getElem? (i := 9) rfl) rfl
theorem cl_L_10 : Cond.classLink RL 10 RX10 ∈ tG := tm3 (List.mem_of_getElem? (i := 145) rfl) rfl
theorem nw_L_10 : nW RL 10 10 15 [.null, .null, .int 0, .null, .null, .null, .long 0, .null, .int 0, .null, .long 0, .null, .null, .null, .int 0] := ⟨_, _, _, rfl, inE10, cl_L_10, tm3 (List.mem_of_getElem? (i := 146) rfl) rfl, tm1 (List.mem_of_getElem? (i := 12) rfl) rfl, tyX10_ok, fun j hj => by match j, hj with
  | 0, _ => exact rfl
  | 1, _ => exact rfl
  | 2, _ => exact rfl
  | 3, _ => exact rfl
  | 4, _ => exact rfl
  | 5, _ => exact rfl
  | 6, _ => exact rfl
  | 7, _ => exact rfl
  | 8, _ => exact rfl
  | 9, _ => exact rfl
  | 10, _ => exact rfl
  | 11, _ => exact rfl
  | 12, _ => exact rfl
  | 13, _ => exact rfl
  | 14, _ => exact rfl
  | j + 15, hj => exact absurd hj (by omega)⟩
theorem oi_X10_1 : Cond.methodLink RX10 1 Lib.objectInit ∈ tG := tm3 (List.mem_of_getElem? (i := 150) rfl) rfl
theorem ac_boolean : Cond.arrayClass .boolean ∈ tG := tm3 (List.mem_of_getElem? (i := 213) rfl) rfl
