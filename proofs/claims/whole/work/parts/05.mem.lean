/-! Rows that read and write the heap, and calls. -/
theorem va1 {D : va_G} {cl : List vw_C} {q : Nat × va_E} {H : Heap} (h : va_at D cl q H) : va_P D cl [q] H := fun k z hk => by
  cases k with
  | zero => cases hk; exact h
  | succ k => simp at hk
/-- an object, an array of ints, of longs, of booleans, of references -/
abbrev ob (E : Ev) (ci a : Nat) (fs : List Value) (H : Heap) : Prop := va_at E.1 clE (a, .inr (ci, fs)) H
abbrev ai (E : Ev) (a n : Nat) (f : Nat → Int32) (H : Heap) : Prop := va_at E.1 clE (a, .inl (E.2.1, n, .inl f)) H
abbrev aj (E : Ev) (a n : Nat) (f : Nat → Int64) (H : Heap) : Prop := va_at E.1 clE (a, .inl (E.2.2.1, n, .inr (.inl f))) H
abbrev az (E : Ev) (a n : Nat) (f : Nat → Int32) (H : Heap) : Prop := va_at E.1 clE (a, .inl (E.2.2.2.1, n, .inl f)) H
abbrev aq (E : Ev) (c : ClassId) (a n : Nat) (f : Nat → Option Nat) (H : Heap) : Prop := va_at E.1 clE (a, .inl (c, n, .inr (.inr (.inr (.inr f))))) H
/-- nothing but the cell a has changed -/
abbrev but (a : Nat) (H H' : Heap) : Prop := H'.size = H.size ∧ ∀ b, b ≠ a → H'[b]? = H[b]?
/-- nothing outside A has changed -/
abbrev out (A : Nat → Prop) (H H' : Heap) : Prop := H.size ≤ H'.size ∧ ∀ b, b < H.size → ¬ A b → H'[b]? = H[b]?
theorem ai_congr {E : Ev} {a n : Nat} {f g : Nat → Int32} {H : Heap} (h : ∀ j, j < n → f j = g j) (h1 : ai E a n f H) : ai E a n g H := by
  have e : vp_cell E.2.1 (n, .inl f) = vp_cell E.2.1 (n, .inl g) := by
    rw [vp_cell_i, vp_cell_i]
    unfold arrV
    congr 1
    apply Array.ext
    · simp
    · intro i hi _
      simp at hi ⊢
      exact h i hi
  show H[a]? = some (vp_cell E.2.1 (n, .inl g))
  rw [← e]
  exact h1
theorem aj_congr {E : Ev} {a n : Nat} {f g : Nat → Int64} {H : Heap} (h : ∀ j, j < n → f j = g j) (h1 : aj E a n f H) : aj E a n g H := by
  have e : vp_cell E.2.2.1 (n, .inr (.inl f)) = vp_cell E.2.2.1 (n, .inr (.inl g)) := by
    rw [vp_cell_l, vp_cell_l]
    unfold arrV
    congr 1
    apply Array.ext
    · simp
    · intro i hi _
      simp at hi ⊢
      exact h i hi
  show H[a]? = some (vp_cell E.2.2.1 (n, .inr (.inl g)))
  rw [← e]
  exact h1
section GM
variable {l : Launch} {R : Room} {E : Ev} {x : Cx} {k n : Nat} {Pr Pr' : Heap → Prop} {lo : List (Option Value)} {pc : Nat} {st : List Value} {own : String} {cc : ByteArray} {rt : Option FieldType} {nL : Nat}
theorem g_get (hF : fx E x own cc rt nL) {i ci kf a : Nat} {fs : List Value} {v : Value} (hf : fW own i ci kf) (d : decode cc pc = .ok (.getfield i, 3)) (q : Nat) (hq : pc + 3 = q) (rd : ∀ H, Pr H → ob E ci a fs H) (hv : fs[kf]? = some v) (h : go l R E x k n Pr lo q (v :: st)) : go l R E x k n Pr lo pc (.ref a :: st) := by
  obtain ⟨p, e, s, m, args, below, meth, c, A, Rt⟩ := x
  obtain ⟨C, T, N, hc, hin, hk, hlk⟩ := hf
  subst hq
  intro H ls locs hP hl hS
  exact va_get hF.1 hF.2.1 (Ts := tG) hF.2.2.2.2.1 hin hF.2.2.2.1 hF.2.2.2.2.2.1.1 (va1 (rd H hP)) 0 rfl hc kf hk (hF.2.2.2.2.1 _ hlk) (fun _ z => z) hv d (h H ls locs hP hl hS)
theorem g_put (hF : fx E x own cc rt nL) {i ci kf a : Nat} {fs : List Value} {v : Value} {ty : FieldType} (hf : pW own i ci kf false ty) (d : decode cc pc = .ok (.putfield i, 3)) (q : Nat) (hq : pc + 3 = q) (rd : ∀ H, Pr H → ob E ci a fs H) (hl0 : kf < fs.length) (hn : narrow ty v = v) (hfit : fits ty v = true) (hA : arx x a)
    (wr : ∀ H H', Pr H → ob E ci a (fs.set kf v) H' → but a H H' → Pr' H') (h : go l R E x k n Pr' lo q st) : go l R E x k n Pr lo pc (v :: .ref a :: st) := by
  obtain ⟨p, e, s, m, args, below, meth, c, A, Rt⟩ := x
  obtain ⟨C, T, N, t0, hc, hin, hk, hlk, hty, hnm, hfin, rfl, -⟩ := hf
  subst hq
  intro H ls locs hP hl hS
  have hts := hF.2.2.2.2.1
  have hK := hF.2.2.2.2.2.1.1
  have hap := va_apart (own := own) hts hin t0 hty hnm hK hc
  obtain ⟨r, h1, cell, q1, q2, q3, q4⟩ := rd H hP
  obtain rfl : r = (C, T, N) := Option.some.inj (h1.symm.trans hc)
  obtain ⟨hSl, hfc, kC, hkC, hkind⟩ := hK.1 ci _ hc
  obtain ⟨cf, kf', fi, f, hi, hsl⟩ := hSl kf hk
  have hlay := hts _ (hin _ (u_in_lay hk))
  unfold u_lay at hlay
  rw [if_neg (by rw [hfin]; decide)] at hlay
  refine W.putK hF.1 hF.2.1 (f := f) ⟨hF.2.2.2.1, hts _ hlk, ⟨_, _, _, hi⟩, (u_facts hfc hkC (u_lays hts hin hk) hi).1⟩ (by rw [q2]; exact u_store hfc hkC hkind hlay hi (hty kf hk) hn hfit) q1 q3 (by rw [hsl]; exact k2_hasslot (q4 kf hk)) rfl rfl d fun H' e1 e2 e3 => ?_
  rw [hsl] at e1 ⊢
  exact h H' ls _ (wr H H' hP ⟨_, hc, t_OB.to (V := updV (vp_V fs) kf v) ⟨_, e1, q2, q3, t_set q4 hap hk v⟩ (fun j _ => vp_updV_set hl0 v j)⟩ ⟨e2, e3⟩) hl (hS.put e2 e3 hA)
theorem g_putF (hF : fx E x own cc rt nL) (hI : ini x) {i ci kf a : Nat} {fs : List Value} {v : Value} {ty : FieldType} (hf : pW own i ci kf true ty) (d : decode cc pc = .ok (.putfield i, 3)) (q : Nat) (hq : pc + 3 = q) (rd : ∀ H, Pr H → ob E ci a fs H) (hl0 : kf < fs.length) (hn : narrow ty v = v) (hfit : fits ty v = true) (hA : arx x a)
    (wr : ∀ H H', Pr H → ob E ci a (fs.set kf v) H' → but a H H' → Pr' H') (h : go l R E x k n Pr' lo q st) : go l R E x k n Pr lo pc (v :: .ref a :: st) := by
  obtain ⟨p, e, s, m, args, below, meth, c, A, Rt⟩ := x
  obtain ⟨C, T, N, t0, hc, hin, hk, hlk, hty, hnm, hfin, rfl, hdecl⟩ := hf
  subst hq
  intro H ls locs hP hl hS
  have hts := hF.2.2.2.2.1
  have hown := hF.2.2.2.1
  have hK := hF.2.2.2.2.2.1.1
  have hap := va_apart (own := own) hts hin t0 hty hnm hK hc
  obtain ⟨r, h1, cell, q1, q2, q3, q4⟩ := rd H hP
  obtain rfl : r = (C, T, N) := Option.some.inj (h1.symm.trans hc)
  obtain ⟨hSl, hfc, kC, hkC, hkind⟩ := hK.1 ci _ hc
  obtain ⟨cf, kf', fi, f, hi, hsl⟩ := hSl kf hk
  have hlay := hts _ (hin _ (u_in_lay hk))
  unfold u_lay at hlay
  rw [if_pos hfin] at hlay
  have hcf : m.cls = cf := by
    obtain ⟨_, _, c', _, _, _, -, -, hf', -, -, -, hown2, -⟩ := Cond.laysFinal_spec hlay
    have e1 : c' = cf := by have := hi.symm.trans hf'; simp at this; exact this.1.symm
    rw [hdecl rfl] at hown2
    rw [← e1]
    exact Option.some.inj (hown.symm.trans hown2)
  refine W.putFinK hF.1 hF.2.1 hown (hts _ hlk) hi (u_facts hfc hkC (u_lays hts hin hk) hi).1 hcf hI (by rw [q2]; exact u_fits hfc hkC hkind (Or.inr hlay) hi (hty kf hk) hn hfit) q1 q3 (by rw [hsl]; exact k2_hasslot (q4 kf hk)) rfl rfl d fun H' e1 e2 e3 => ?_
  rw [hsl] at e1 ⊢
  exact h H' ls _ (wr H H' hP ⟨_, hc, t_OB.to (V := updV (vp_V fs) kf v) ⟨_, e1, q2, q3, t_set q4 hap hk v⟩ (fun j _ => vp_updV_set hl0 v j)⟩ ⟨e2, e3⟩) hl (hS.put e2 e3 hA)
theorem g_iald (hF : fx E x own cc rt nL) {a N : Nat} {f : Nat → Int32} {i : Int32} (d : decode cc pc = .ok (.iaload, 1)) (q : Nat) (hq : pc + 1 = q) (rd : ∀ H, Pr H → ai E a N f H) (hi : vp_in i N) (h : go l R E x k n Pr lo q (.int (f i.toNatClampNeg) :: st)) : go l R E x k n Pr lo pc (.int i :: .ref a :: st) := by
  obtain ⟨p, e, s, m, args, below, meth, c, A, Rt⟩ := x
  subst hq
  intro H ls locs hP hl hS
  exact va_iald hF.1 hF.2.1 hF.2.2.2.2.2.1.1 (va1 (rd H hP)) 0 0 rfl rfl hi d (h H ls locs hP hl hS)
theorem g_lald (hF : fx E x own cc rt nL) {a N : Nat} {f : Nat → Int64} {i : Int32} (d : decode cc pc = .ok (.laload, 1)) (q : Nat) (hq : pc + 1 = q) (rd : ∀ H, Pr H → aj E a N f H) (hi : vp_in i N) (h : go l R E x k n Pr lo q (.long (f i.toNatClampNeg) :: st)) : go l R E x k n Pr lo pc (.int i :: .ref a :: st) := by
  obtain ⟨p, e, s, m, args, below, meth, c, A, Rt⟩ := x
  subst hq
  intro H ls locs hP hl hS
  exact va_lald hF.1 hF.2.1 hF.2.2.2.2.2.1.1 (va1 (rd H hP)) 0 1 rfl rfl hi d (h H ls locs hP hl hS)
theorem g_zald (hF : fx E x own cc rt nL) {a N : Nat} {f : Nat → Int32} {i : Int32} (d : decode cc pc = .ok (.baload, 1)) (q : Nat) (hq : pc + 1 = q) (rd : ∀ H, Pr H → az E a N f H) (hi : vp_in i N) (h : go l R E x k n Pr lo q (.int (f i.toNatClampNeg) :: st)) : go l R E x k n Pr lo pc (.int i :: .ref a :: st) := by
  obtain ⟨p, e, s, m, args, below, meth, c, A, Rt⟩ := x
  subst hq
  intro H ls locs hP hl hS
  exact va_zald hF.1 hF.2.1 hF.2.2.2.2.2.1.1 (va1 (rd H hP)) 0 2 rfl rfl hi d (h H ls locs hP hl hS)
theorem g_aald (hF : fx E x own cc rt nL) {a N : Nat} {f : Nat → Option Nat} {i : Int32} {cA : ClassId} {C : String} (t0 : Nat) (d : decode cc pc = .ok (.aaload, 1)) (q : Nat) (hq : pc + 1 = q) (ht : (tyE E)[t0]? = some (cA, .object C)) (rd : ∀ H, Pr H → aq E cA a N f H) (hi : vp_in i N) {b : Nat} (hb : f i.toNatClampNeg = some b) (h : go l R E x k n Pr lo q (.ref b :: st)) : go l R E x k n Pr lo pc (.int i :: .ref a :: st) := by
  obtain ⟨p, e, s, m, args, below, meth, c, A, Rt⟩ := x
  subst hq
  intro H ls locs hP hl hS
  refine va_aldq hF.1 hF.2.1 hF.2.2.2.2.2.1.1 (va1 (rd H hP)) 0 t0 rfl ht hi d ?_
  rw [hb]
  exact h H ls locs hP hl hS
theorem g_alen (hF : fx E x own cc rt nL) {a N : Nat} {f : Nat → Int32} (d : decode cc pc = .ok (.arraylength, 1)) (q : Nat) (hq : pc + 1 = q) (rd : ∀ H, Pr H → ai E a N f H) (h : go l R E x k n Pr lo q (.int (Int32.ofNat N) :: st)) : go l R E x k n Pr lo pc (.ref a :: st) := by
  obtain ⟨p, e, s, m, args, below, meth, c, A, Rt⟩ := x
  subst hq
  intro H ls locs hP hl hS
  exact va_alen hF.1 hF.2.1 hF.2.2.2.2.2.1.1 (va1 (rd H hP)) 0 0 rfl rfl rfl d (h H ls locs hP hl hS)
theorem g_iast (hF : fx E x own cc rt nL) {a N : Nat} {f : Nat → Int32} {i v : Int32} (d : decode cc pc = .ok (.iastore, 1)) (q : Nat) (hq : pc + 1 = q) (rd : ∀ H, Pr H → ai E a N f H) (hi : vp_in i N) (hA : arx x a)
    (wr : ∀ H H', Pr H → ai E a N (upd f i.toNatClampNeg v) H' → but a H H' → Pr' H') (h : go l R E x k n Pr' lo q st) : go l R E x k n Pr lo pc (.int v :: .int i :: .ref a :: st) := by
  obtain ⟨p, e, s, m, args, below, meth, c, A, Rt⟩ := x
  subst hq
  intro H ls locs hP hl hS
  refine W.iast hF.1 hF.2.1 (rd H hP) ((hF.2.2.2.2.2.1.1.2 0 _ rfl).1 N (fun j => .int (f j))) (fun q => by cases q) (by show ¬ (i < 0 ∨ (arrV _ _ _).slots.size ≤ _); rw [arrV_size]; exact hi) rfl rfl d fun H1 e1 z oq => ?_
  refine h H1 ls _ (wr H H1 hP ?_ ⟨z, oq⟩) hl (hS.put z oq hA)
  show H1[a]? = some (vp_cell _ _)
  rw [e1, vp_cell_i, vp_cell_i, arrV_store]
  congr 2
  funext j
  by_cases hj : j = i.toNatClampNeg <;> simp [updV, upd, hj]
theorem g_last (hF : fx E x own cc rt nL) {a N : Nat} {f : Nat → Int64} {i : Int32} {v : Int64} (d : decode cc pc = .ok (.lastore, 1)) (q : Nat) (hq : pc + 1 = q) (rd : ∀ H, Pr H → aj E a N f H) (hi : vp_in i N) (hA : arx x a)
    (wr : ∀ H H', Pr H → aj E a N (vp_updL f i.toNatClampNeg v) H' → but a H H' → Pr' H') (h : go l R E x k n Pr' lo q st) : go l R E x k n Pr lo pc (.long v :: .int i :: .ref a :: st) := by
  obtain ⟨p, e, s, m, args, below, meth, c, A, Rt⟩ := x
  subst hq
  intro H ls locs hP hl hS
  refine W.last hF.1 hF.2.1 (rd H hP) ((hF.2.2.2.2.2.1.1.2 1 _ rfl).1 N (fun j => .long (f j))) (fun q => by cases q) (by show ¬ (i < 0 ∨ (arrV _ _ _).slots.size ≤ _); rw [arrV_size]; exact hi) rfl rfl d fun H1 e1 z oq => ?_
  refine h H1 ls _ (wr H H1 hP ?_ ⟨z, oq⟩) hl (hS.put z oq hA)
  show H1[a]? = some (vp_cell _ _)
  rw [e1, vp_cell_l, vp_cell_l, arrV_store]
  congr 2
  funext j
  by_cases hj : j = i.toNatClampNeg <;> simp [updV, vp_updL, hj]
theorem g_zast (hF : fx E x own cc rt nL) {a N : Nat} {f : Nat → Int32} {i v : Int32} (d : decode cc pc = .ok (.bastore, 1)) (q : Nat) (hq : pc + 1 = q) (rd : ∀ H, Pr H → az E a N f H) (hi : vp_in i N) (hv : narrow .boolean (.int v) = .int v) (hA : arx x a)
    (wr : ∀ H H', Pr H → az E a N (upd f i.toNatClampNeg v) H' → but a H H' → Pr' H') (h : go l R E x k n Pr' lo q st) : go l R E x k n Pr lo pc (.int v :: .int i :: .ref a :: st) := by
  obtain ⟨p, e, s, m, args, below, meth, c, A, Rt⟩ := x
  subst hq
  intro H ls locs hP hl hS
  refine W.zast hF.1 hF.2.1 (rd H hP) ((hF.2.2.2.2.2.1.1.2 2 _ rfl).1 N (fun j => .int (f j))) (fun q => by cases q) (by show ¬ (i < 0 ∨ (arrV _ _ _).slots.size ≤ _); rw [arrV_size]; exact hi) rfl rfl d fun H1 e1 z oq => ?_
  refine h H1 ls _ (wr H H1 hP ?_ ⟨z, oq⟩) hl (hS.put z oq hA)
  show H1[a]? = some (vp_cell _ _)
  rw [e1, hv, vp_cell_i, vp_cell_i, arrV_store]
  congr 2
  funext j
  by_cases hj : j = i.toNatClampNeg <;> simp [updV, upd, hj]
/-! calls: a contract's end is rV: the value, and the picture behind it -/
def rV (v : Option Value) (P : Heap → Prop) : Option Value → Heap → Prop := fun w H => w = v ∧ P H
section CALL
variable {k1 n1 : Nat} {st1 : List Value} {i nL' np b : Nat} {y : MethodName} {cc' : ByteArray} {rt' : Option FieldType} {R' : Room} {As st0 : List Value} {Pr1 Pr1' : Heap → Prop} {A1 : Nat → Prop} {vr : Option Value}
theorem go_back {p : Program} {e : Env} {s : State} {m : MethodId} {args : Array Value} {below : List Frame} {meth : Method} {c : Code} {A : Nat → Prop} {Rt : Option Value → Heap → Prop} {H : Heap} {ls : Array Slot} {locs : List Loc} {a0 : Array Value}
    (hr : va_Run p l e R s m args below meth c H locs k n R'.cells R'.slots (F0 m pc ls st0) st (ctQ A1 (rV vr Pr1') a0) A1) (hP : Pr H) (hl : lo_ok ls lo) (hS : va_S A s.heap H locs) (hA : ∀ q, A1 q → A q) (hst1 : vr.toList ++ st = st1) (hk1 : k + R'.cells = k1) (hn1 : n + R'.slots = n1)
    (back : ∀ H H', Pr H → Pr1' H' → out A1 H H' → Pr' H') (h : go l R E (p, e, s, m, args, below, meth, c, A, Rt) k1 n1 Pr' lo (pc + 3) st1) :
    W p l e R s m args below meth c H locs k n (MQ below (ctQ A Rt) args s R.cells R.slots A) (F0 m pc ls st0) := by
  subst hst1
  subst hk1
  subst hn1
  intro T hT X
  obtain ⟨v, st₀, t, T', L, h0, X', hL, e1, e2, ⟨⟨w, hw, hwv, hp⟩, hz, hk⟩, stp⟩ := hr T hT X
  cases hw
  subst hwv
  rw [h0] at hz hk
  have hP' : Pr' T'.heap := by
    rw [e1]
    exact back H t.heap hP hp ⟨hz, hk⟩
  obtain ⟨t2, a1, b1⟩ := h T'.heap ls (locs ++ L) hP' hl ⟨Nat.le_trans hS.1 (by rw [e1]; exact hz), fun q h1 h2 => by
      rw [e1, hk q (Nat.lt_of_lt_of_le h1 hS.1) (fun z => h2 (hA q z))]
      exact hS.2.1 q h1 h2, fun q hq => by
      rcases List.mem_append.mp hq with h | h
      · exact hS.2.2 q h
      · exact hA _ (hL q h)⟩ T' rfl X'
  exact ⟨t2, stp t2 a1, b1⟩
theorem g_callV (hF : fx E x own cc rt nL) (hw : cV own i y cc' nL' rt' np) (hC : Ct l E y cc' nL' rt' R' (.ref b :: As) Pr1 (rV vr Pr1') A1) (d : decode cc pc = .ok (.invokevirtual i, 3)) (q : Nat) (hq : pc + 3 = q) (hst : st0 = As.reverse ++ .ref b :: st) (hn : As.length = np) (hR : R'.frames + 1 ≤ R.frames ∧ 8 + (nL' + 11) + R'.locals ≤ R.locals) (hc : k + R'.cells ≤ R.cells ∧ n + R'.slots ≤ R.slots) (hlen : lo.length = nL) (hW : (st.map fun v => v.category).sum ≤ 8)
    (ci : Nat) {fs : List Value} {T0 : u_T} {N0 : Nat} (hci : clE[ci]? = some (y.cls, T0, N0)) (rcv : ∀ H, Pr H → ob E ci b fs H) (to : ∀ H, Pr H → Pr1 H) (hA : ∀ q, A1 q → arx x q) (back : ∀ H H', Pr H → Pr1' H' → out A1 H H' → Pr' H') (hst1 : vr.toList ++ st = st1) (hk1 : k + R'.cells = k1) (hn1 : n + R'.slots = n1) (h : go l R E x k1 n1 Pr' lo q st1) : go l R E x k n Pr lo pc st0 := by
  obtain ⟨p, e, s, m, args, below, meth, c, A, Rt⟩ := x
  subst hq
  intro H ls locs hP hl hS
  obtain ⟨w1, w2, w3, w4, w5, w6⟩ := hw
  have hts := hF.2.2.2.2.1
  refine go_back (va_runV (Ts := tG) (C := y.cls) (As := As) (rest := st) ⟨hF.1, hF.2.1, hF.2.2.1, hF.2.2.2.1, hts⟩ hC ⟨callB_of np hts (tG_goodIn w5) rfl rfl rfl (hts _ w4) (hts _ w1) w6 hR, hts _ w2, hts _ w3⟩ ⟨ctP_blind, va_recv hF.2.2.2.2.2.1.1 (va1 (rcv H hP)) hci (q0 := 0) rfl, fun U hU hWm => ⟨rfl, hF.2.2.2.2.2.1.warm hWm, by rw [hU]; exact to H hP⟩⟩ rfl hn (hl.1.trans hlen) hst (lv_room hW) d hc) hP hl hS hA hst1 hk1 hn1 back h
theorem g_callS (hF : fx E x own cc rt nL) (hw : cS own i y cc' nL' rt' np) (hC : Ct l E y cc' nL' rt' R' As Pr1 (rV vr Pr1') A1) (d : decode cc pc = .ok (.invokestatic i, 3)) (q : Nat) (hq : pc + 3 = q) (hst : st0 = As.reverse ++ st) (hn : As.length = np) (hR : R'.frames + 1 ≤ R.frames ∧ 8 + (nL' + 11) + R'.locals ≤ R.locals) (hc : k + R'.cells ≤ R.cells ∧ n + R'.slots ≤ R.slots) (hlen : lo.length = nL) (hW : (st.map fun v => v.category).sum ≤ 8)
    (to : ∀ H, Pr H → Pr1 H) (hA : ∀ q, A1 q → arx x q) (back : ∀ H H', Pr H → Pr1' H' → out A1 H H' → Pr' H') (hst1 : vr.toList ++ st = st1) (hk1 : k + R'.cells = k1) (hn1 : n + R'.slots = n1) (h : go l R E x k1 n1 Pr' lo q st1) : go l R E x k n Pr lo pc st0 := by
  obtain ⟨p, e, s, m, args, below, meth, c, A, Rt⟩ := x
  subst hq
  intro H ls locs hP hl hS
  obtain ⟨w1, w2, w4, w5, w6⟩ := hw
  have hts := hF.2.2.2.2.1
  refine go_back (va_runS (Ts := tG) (As := As) (rest := st) ⟨hF.1, hF.2.1, hF.2.2.1, hF.2.2.2.1, hts⟩ hC ⟨callB_of np hts (tG_goodIn w5) rfl rfl rfl (hts _ w4) (hts _ w1) w6 hR, hts _ w2⟩ ⟨ctP_blind, fun U hU hWm => ⟨rfl, hF.2.2.2.2.2.1.warm hWm, by rw [hU]; exact to H hP⟩⟩ rfl hn (hl.1.trans hlen) hst (lv_room hW) d hc) hP hl hS hA hst1 hk1 hn1 back h
theorem g_callI (hF : fx E x own cc rt nL) (hw : cI own i y cc' nL' np) (hC : Ct l E y cc' nL' none R' (.ref b :: As) Pr1 (rV vr Pr1') A1) (d : decode cc pc = .ok (.invokespecial i, 3)) (q : Nat) (hq : pc + 3 = q) (hst : st0 = As.reverse ++ .ref b :: st) (hn : As.length = np) (hR : R'.frames + 1 ≤ R.frames ∧ 8 + (nL' + 11) + R'.locals ≤ R.locals) (hc : k + R'.cells ≤ R.cells ∧ n + R'.slots ≤ R.slots) (hlen : lo.length = nL) (hW : (st.map fun v => v.category).sum ≤ 8)
    (to : ∀ H, Pr H → Pr1 H) (hA : ∀ q, A1 q → arx x q) (back : ∀ H H', Pr H → Pr1' H' → out A1 H H' → Pr' H') (hst1 : vr.toList ++ st = st1) (hk1 : k + R'.cells = k1) (hn1 : n + R'.slots = n1) (h : go l R E x k1 n1 Pr' lo q st1) : go l R E x k n Pr lo pc st0 := by
  obtain ⟨p, e, s, m, args, below, meth, c, A, Rt⟩ := x
  subst hq
  intro H ls locs hP hl hS
  obtain ⟨w1, w2, w4, w5, w3, w6⟩ := hw
  have hts := hF.2.2.2.2.1
  refine go_back (va_runI (Ts := tG) (As := As) (rest := st) ⟨hF.1, hF.2.1, hF.2.2.1, hF.2.2.2.1, hts⟩ hC ⟨callB_of np hts (tG_goodIn w5) rfl rfl rfl (hts _ w4) (hts _ w1) w6 hR, w3, hts _ w2⟩ ⟨ctP_blind, fun U hU hWm => ⟨rfl, hF.2.2.2.2.2.1.warm hWm, by rw [hU]; exact to H hP⟩⟩ rfl hn (hl.1.trans hlen) hst (lv_room hW) d hc) hP hl hS hA hst1 hk1 hn1 back h
/-- a contract said of a larger picture -/
theorem Ct.lift {l : Launch} {E : Ev} {y : MethodName} {cc : ByteArray} {nL : Nat} {rt : Option FieldType} {R : Room} {av : List Value} {P P2 : Heap → Prop} {Rt Rt2 : Option Value → Heap → Prop} {A A2 : Nat → Prop} (h : Ct l E y cc nL rt R av P Rt A) (to : ∀ H, P2 H → P H) (hA : ∀ q, A q → A2 q) (back : ∀ v H H', P2 H → Rt v H' → out A H H' → Rt2 v H') : Ct l E y cc nL rt R av P2 Rt2 A2 := by
  intro p e ha hc hk s m args below hf happ hP ht
  obtain ⟨t, o, a1, b1, b2, ⟨⟨v, rfl, hv⟩, hz, hq⟩, L, hL, hfree⟩ := h p e ha hc hk s m args below hf happ ⟨hP.1, hP.2.1, to _ hP.2.2⟩ ht
  exact ⟨t, _, a1, b1, b2, ⟨⟨v, rfl, back v _ _ hP.2.2 hv ⟨hz, hq⟩⟩, hz, fun q h1 h2 => hq q h1 (fun z => h2 (hA q z))⟩, L, hL, fun q z => hA _ (hfree q z)⟩
end CALL
end GM
/-! numbers -/
theorem i_le {a b : Nat} (h : nI a ≤ nI b) (ha : a < 2 ^ 31) (hb : b < 2 ^ 31) : a ≤ b := (nI_leI ha hb).mp h
theorem i_nle {a b : Nat} (h : ¬ nI a ≤ nI b) (ha : a < 2 ^ 31) (hb : b < 2 ^ 31) : b < a := Nat.not_le.mp fun z => h ((nI_leI ha hb).mpr z)
theorem i_lt {a b : Nat} (h : nI a < nI b) (ha : a < 2 ^ 31) (hb : b < 2 ^ 31) : a < b := (nI_ltI ha hb).mp h
theorem i_nlt {a b : Nat} (h : ¬ nI a < nI b) (ha : a < 2 ^ 31) (hb : b < 2 ^ 31) : b ≤ a := Nat.not_lt.mp fun z => h ((nI_ltI ha hb).mpr z)
