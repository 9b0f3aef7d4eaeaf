/-! The frame of the walks: a point of a walk is a predicate of the heap, the locals, the stack. -/
abbrev Ev : Type := va_G × (ClassId × ClassId × ClassId × ClassId × ClassId × ClassId)
abbrev tyE (E : Ev) : List (ClassId × FieldType) := [(E.2.1, .int), (E.2.2.1, .long), (E.2.2.2.1, .boolean), (E.2.2.2.2.1, .object RX3), (E.2.2.2.2.2.1, .object RX6), (E.2.2.2.2.2.2, .object RX5)]
/-- what the tables say of classes and array classes -/
def kE (E : Ev) (U : State) : Prop := va_K E.1 clE (tyE E) U ∧ va_AO RX3 U ∧ va_AO RX6 U ∧ va_AO RX5 U ∧ va_Nw (.methodLinkNest RX9 39 yX1_init "TrunkReserve") U
theorem kE.warm {E : Ev} {s U : State} (hW : s.WarmedH U.vm) (h : kE E s) : kE E U := ⟨va_K.moved hW.alike h.1, va_AO.moved hW.alike h.2.1, va_AO.moved hW.alike h.2.2.1, va_AO.moved hW.alike h.2.2.2.1, va_Nw.warmM hW h.2.2.2.2⟩
theorem kE.calling {E : Ev} {U : State} {g : JFrame} {mk : MethodId} {a : Array Value} (h : kE E U) : kE E (U.calling g mk a) := ⟨va_K.moved (u := U) (U := U.calling g mk a) (Vm.Alike.refl U.vm) h.1, va_AO.moved (u := U) (U := U.calling g mk a) (Vm.Alike.refl U.vm) h.2.1, va_AO.moved (u := U) (U := U.calling g mk a) (Vm.Alike.refl U.vm) h.2.2.1, va_AO.moved (u := U) (U := U.calling g mk a) (Vm.Alike.refl U.vm) h.2.2.2.1, va_Nw.same (u := U) (U := U.calling g mk a) rfl rfl h.2.2.2.2⟩
def ctP (E : Ev) (av : List Value) (Pr : Heap → Prop) : Array Value → State → Prop := va_Pc av (fun U => kE E U ∧ Pr U.heap)
def ctQ (A : Nat → Prop) (Rt : Option Value → Heap → Prop) : Array Value → State → Outcome → State → Prop := fun _ st o t => (∃ v, o = .returned v ∧ Rt v t.heap) ∧ va_F A st t
/-- the contract of a method: from a heap with Pr, called with av, it returns v with a heap t, Rt v t; nothing outside A has changed -/
def Ct (l : Launch) (E : Ev) (y : MethodName) (cc : ByteArray) (nL : Nat) (rt : Option FieldType) (R : Room) (av : List Value) (Pr : Heap → Prop) (Rt : Option Value → Heap → Prop) (A : Nat → Prop) : Prop :=
  Met l y (.code y cc nL rt :: tG) R (ctP E av Pr) (ctQ A Rt) R.cells R.slots A
theorem ctP_blind {E : Ev} {av : List Value} {Pr : Heap → Prop} : FrameBlind (ctP E av Pr) := fun _ _ _ _ h => ⟨h.1, h.2.1.calling, h.2.2⟩
/-- the locals -/
def lo_ok (ls : Array Slot) (lo : List (Option Value)) : Prop := ls.size = lo.length ∧ lv_wf ls ∧ ∀ (i : Nat) (v : Value), lo[i]? = some (some v) → ls[i]? = some (.val v)
def lo_pr (lo : List (Option Value)) : List (Nat × Value) := (List.range lo.length).filterMap fun i => match lo[i]? with
  | some (some v) => some (i, v)
  | _ => none
theorem lo_pr_mem {lo : List (Option Value)} {i : Nat} {v : Value} : (i, v) ∈ lo_pr lo ↔ lo[i]? = some (some v) := by
  unfold lo_pr
  rw [List.mem_filterMap]
  constructor
  · rintro ⟨j, hj, h⟩
    split at h
    · rename_i w hw
      cases h
      exact hw
    · cases h
  · intro h
    refine ⟨i, List.mem_range.mpr (List.getElem?_eq_some_iff.mp h).1, ?_⟩
    rw [h]
theorem lo_has {ls : Array Slot} {lo : List (Option Value)} (h : lo_ok ls lo) : lv_has ls lo.length (lo_pr lo) := ⟨h.1, h.2.1, fun q hq => h.2.2 q.1 q.2 (lo_pr_mem.mp hq)⟩
/-- a value of two words just below the place i is lost when i is written -/
def lo_clr (lo : List (Option Value)) : Nat → List (Option Value)
  | 0 => lo
  | i + 1 => match lo[i]? with
    | some (some v) => if v.category = 2 then lo.set i none else lo
    | _ => lo
theorem lo_clr_len (lo : List (Option Value)) : ∀ i : Nat, (lo_clr lo i).length = lo.length
  | 0 => rfl
  | i + 1 => by
    simp only [lo_clr]
    split
    · split
      · exact List.length_set
      · rfl
    · rfl
theorem lo_clr_get {lo : List (Option Value)} {j : Nat} {w : Value} : ∀ {i : Nat}, (lo_clr lo i)[j]? = some (some w) → lo[j]? = some (some w) ∧ ¬ (j + 1 = i ∧ w.category = 2)
  | 0, h => ⟨h, fun q => by omega⟩
  | i + 1, h => by
    simp only [lo_clr] at h
    split at h
    · rename_i v hv
      split at h
      · rename_i hc
        by_cases hj : j = i
        · subst hj
          rw [List.getElem?_set_self (List.getElem?_eq_some_iff.mp hv).1] at h
          cases h
        · rw [List.getElem?_set_ne (Ne.symm hj)] at h
          exact ⟨h, fun q => hj (by omega)⟩
      · rename_i hc
        refine ⟨h, fun q => ?_⟩
        have : j = i := by omega
        subst this
        rw [hv] at h
        cases h
        exact hc q.2
    · rename_i hn
      refine ⟨h, fun q => ?_⟩
      have : j = i := by omega
      subst this
      exact hn w h
def lo1 (lo : List (Option Value)) (i : Nat) (v : Value) : List (Option Value) := (lo_clr lo i).set i (some v)
def lo2 (lo : List (Option Value)) (i : Nat) (v : Value) : List (Option Value) := ((lo_clr lo i).set i (some v)).set (i + 1) none
theorem lo1_ok {ls : Array Slot} {lo lo' : List (Option Value)} {i : Nat} {v : Value} (hi : i < lo.length) (he : lo1 lo i v = lo')
    (h : lv_has ls lo.length ((i, v) :: (lo_pr lo).filter (fun q => !(q.1 == i) && !(q.1 + 1 == i && q.2.category == 2)))) : lo_ok ls lo' := by
  subst he
  refine ⟨h.1.trans (by unfold lo1; rw [List.length_set, lo_clr_len]), h.2.1, fun j w hj => ?_⟩
  unfold lo1 at hj
  by_cases hji : j = i
  · subst hji
    rw [List.getElem?_set_self (by rw [lo_clr_len]; exact hi)] at hj
    cases hj
    exact h.2.2 _ List.mem_cons_self
  · rw [List.getElem?_set_ne (Ne.symm hji)] at hj
    obtain ⟨h1, h2⟩ := lo_clr_get hj
    refine h.2.2 (j, w) (List.mem_cons_of_mem _ (List.mem_filter.mpr ⟨lo_pr_mem.mpr h1, ?_⟩))
    by_cases hc : w.category = 2
    · have : ¬ j + 1 = i := fun q => h2 ⟨q, hc⟩
      simp [hji, this]
    · simp [hji, hc]
theorem lo2_ok {ls : Array Slot} {lo lo' : List (Option Value)} {i : Nat} {v : Value} (hi : i + 1 < lo.length) (he : lo2 lo i v = lo')
    (h : lv_has ls lo.length ((i, v) :: (lo_pr lo).filter (fun q => !(q.1 == i) && (!(q.1 == i + 1) && !(q.1 + 1 == i && q.2.category == 2))))) : lo_ok ls lo' := by
  subst he
  refine ⟨h.1.trans (by unfold lo2; rw [List.length_set, List.length_set, lo_clr_len]), h.2.1, fun j w hj => ?_⟩
  unfold lo2 at hj
  by_cases hj1 : j = i + 1
  · subst hj1
    rw [List.getElem?_set_self (by rw [List.length_set, lo_clr_len]; exact hi)] at hj
    cases hj
  · rw [List.getElem?_set_ne (Ne.symm hj1)] at hj
    by_cases hji : j = i
    · subst hji
      rw [List.getElem?_set_self (by rw [lo_clr_len]; omega)] at hj
      cases hj
      exact h.2.2 _ List.mem_cons_self
    · rw [List.getElem?_set_ne (Ne.symm hji)] at hj
      obtain ⟨h1, h2⟩ := lo_clr_get hj
      refine h.2.2 (j, w) (List.mem_cons_of_mem _ (List.mem_filter.mpr ⟨lo_pr_mem.mpr h1, ?_⟩))
      by_cases hc : w.category = 2
      · have : ¬ j + 1 = i := fun q => h2 ⟨q, hc⟩
        simp [hji, hj1, this]
      · simp [hji, hj1, hc]
def lo_args : List Value → List (Option Value)
  | [] => []
  | v :: vs => if v.category = 2 then some v :: none :: lo_args vs else some v :: lo_args vs
def lo0 (av : List Value) (nL : Nat) : List (Option Value) := lo_args av ++ List.replicate (nL - (lo_args av).length) none
theorem lo_args_len : ∀ av : List Value, (lo_args av).length = (lg_sl av).length
  | [] => rfl
  | v :: vs => by
    have ih := lo_args_len vs
    unfold lg_sl at ih ⊢
    unfold lo_args
    rw [List.flatMap_cons, List.length_append, ← ih]
    split
    · simp; omega
    · simp; omega
theorem lo_args_mem : ∀ (av : List Value) (k i : Nat) (v : Value), (lo_args av)[i]? = some (some v) → (k + i, v) ∈ lv_args k av
  | [], k, i, v, h => by simp [lo_args] at h
  | w :: vs, k, i, v, h => by
    unfold lo_args at h
    unfold lv_args
    split at h
    · rename_i hc
      match i, h with
      | 0, h => 
        simp at h
        subst h
        simp
      | 1, h => simp at h
      | i + 2, h =>
        have h2 : (lo_args vs)[i]? = some (some v) := by simpa using h
        have := lo_args_mem vs (k + 2) i v h2
        have e : k + 2 + i = k + (i + 2) := by omega
        rw [e] at this
        simp [hc, this]
    · rename_i hc
      have hc1 : w.category = 1 := (lv_cat w).resolve_right hc
      match i, h with
      | 0, h =>
        simp at h
        subst h
        simp
      | i + 1, h =>
        have h2 : (lo_args vs)[i]? = some (some v) := by simpa using h
        have := lo_args_mem vs (k + 1) i v h2
        have e : k + 1 + i = k + (i + 1) := by omega
        rw [e] at this
        simp [hc1, this]
abbrev Cx : Type := Program × Env × State × MethodId × Array Value × List Frame × Method × Code × (Nat → Prop) × (Option Value → Heap → Prop)
/-- a point of a walk -/
def go (l : Launch) (R : Room) (E : Ev) (x : Cx) (k n : Nat) (Pr : Heap → Prop) (lo : List (Option Value)) (pc : Nat) (st : List Value) : Prop :=
  match x with
  | (p, e, s, m, args, below, meth, c, A, Rt) => ∀ (H : Heap) (ls : Array Slot) (locs : List Loc), Pr H → lo_ok ls lo → va_S A s.heap H locs → W p l e R s m args below meth c H locs k n (MQ below (ctQ A Rt) args s R.cells R.slots A) (F0 m pc ls st)
/-- what stands fixed in a method's walk -/
def fx (E : Ev) (x : Cx) (own : String) (cc : ByteArray) (rt : Option FieldType) (nL : Nat) : Prop :=
  match x with
  | (p, _, s, m, args, _, meth, c, _, _) => p.tables.exec = Jvm.exec ∧ c.code = cc ∧ c.maxLocals = nL ∧ s.vm.findClass own = some m.cls ∧ (∀ w ∈ tG, w.before args s = true) ∧ kE E s ∧ meth.sig.returnType = rt ∧ meth.locks = false
def ini (x : Cx) : Prop := x.2.2.2.2.2.2.1.name = "<init>"
def arx (x : Cx) : Nat → Prop := x.2.2.2.2.2.2.2.2.1
def rtx (x : Cx) : Option Value → Heap → Prop := x.2.2.2.2.2.2.2.2.2
theorem tG_goodIn {y : MethodName} {cc : ByteArray} {n : Nat} {r : Option FieldType} (h : Cond.code y cc n r ∈ tG) : GoodIn tG (.code y cc n r :: tG) := fun w hw => by
  rcases List.mem_cons.mp hw with rfl | hw
  · exact ⟨h, good_of_word (tG_good h)⟩
  · exact ⟨hw, good_of_word (tG_good hw)⟩
/-- a contract out of a walk from the entry -/
theorem ct_start {l : Launch} {E : Ev} {y : MethodName} {cc : ByteArray} {nL : Nat} {rt : Option FieldType} {R : Room} {av : List Value} {Pr : Heap → Prop} {Rt : Option Value → Heap → Prop} {A : Nat → Prop} (hy : plainName y.cls = true) (lo : List (Option Value)) (hlo : lo0 av nL = lo) (hle : (lo_args av).length ≤ nL)
    (h : ∀ x : Cx, fx E x y.cls cc rt nL → (x.2.2.2.2.2.2.1.name = y.name) → (∀ q, A q → arx x q) → (∀ v H, Rt v H → rtx x v H) → go l R E x 0 0 Pr lo 0 []) : Ct l E y cc nL rt R av Pr Rt A := by
  refine Met.ofW (cc := cc) (maxL := nL) (ret := rt) hy rfl ?_
  intro p e s m args below meth c s₁ B hml hv
  obtain ⟨rfl, hK, hP⟩ := hv
  have hts := atoms_spec (ws := .code y cc nL rt :: tG) B.pre
  have hg := h (p, e, s, m, av.toArray, below, meth, c, A, Rt) ⟨B.exec, B.bytes, hml, findClass_of_methodNamed B.named, fun w hw => hts w (List.mem_cons_of_mem _ hw), hK, B.returns, B.notSynchronized⟩ (name_of_methodNamed B.named B.method).1 (fun _ q => q) (fun _ _ q => q)
  have hle' : (lg_sl av).length ≤ nL := by rw [← lo_args_len]; exact hle
  have hl := lv_entry av (n := nL) hle'
  rw [lg_entry_eq]
  refine hg s.heap _ [] hP ?_ va_S.rf
  subst hlo
  refine ⟨?_, hl.2.1, fun i v hi => ?_⟩
  · rw [hl.1]
    unfold lo0
    rw [List.length_append, List.length_replicate]
    omega
  · have h2 : (lo_args av)[i]? = some (some v) := by
      unfold lo0 at hi
      by_cases hlt : i < (lo_args av).length
      · rwa [List.getElem?_append_left hlt] at hi
      · rw [List.getElem?_append_right (by omega)] at hi
        obtain ⟨_, hx⟩ := List.getElem?_eq_some_iff.mp hi
        rw [List.getElem_replicate] at hx
        cases hx
    have h3 := lo_args_mem av 0 i v h2
    rw [Nat.zero_add] at h3
    exact hl.2.2 (i, v) h3

section GO
variable {l : Launch} {R : Room} {E : Ev} {x : Cx} {k n : Nat} {Pr : Heap → Prop} {lo : List (Option Value)} {pc : Nat} {st : List Value} {own : String} {cc : ByteArray} {rt : Option FieldType} {nL : Nat}
theorem g_iconst (hF : fx E x own cc rt nL) {j : Int} (v : Int32) (d : decode cc pc = .ok (.iconst j, 1)) (q : Nat) (hq : pc + 1 = q) (hv : Int32.ofInt j = v) (h : go l R E x k n Pr lo q (.int v :: st)) : go l R E x k n Pr lo pc st := by
  obtain ⟨p, e, s, m, args, below, meth, c, A, Rt⟩ := x
  subst hq
  intro H ls locs hP hl hS
  exact lv_iconst hF.1 hF.2.1 d hv (h H ls locs hP hl hS)
theorem g_bipush (hF : fx E x own cc rt nL) {j : Int} (v : Int32) (d : decode cc pc = .ok (.bipush j, 2)) (q : Nat) (hq : pc + 2 = q) (hv : (Int8.ofInt j).toInt32 = v) (h : go l R E x k n Pr lo q (.int v :: st)) : go l R E x k n Pr lo pc st := by
  obtain ⟨p, e, s, m, args, below, meth, c, A, Rt⟩ := x
  subst hq
  intro H ls locs hP hl hS
  exact lv_bipush hF.1 hF.2.1 d hv (h H ls locs hP hl hS)
theorem g_sipush (hF : fx E x own cc rt nL) {j : Int} (v : Int32) (d : decode cc pc = .ok (.sipush j, 3)) (q : Nat) (hq : pc + 3 = q) (hv : (Int16.ofInt j).toInt32 = v) (h : go l R E x k n Pr lo q (.int v :: st)) : go l R E x k n Pr lo pc st := by
  obtain ⟨p, e, s, m, args, below, meth, c, A, Rt⟩ := x
  subst hq
  intro H ls locs hP hl hS
  exact lv_sipush hF.1 hF.2.1 d hv (h H ls locs hP hl hS)
theorem g_lconst (hF : fx E x own cc rt nL) {j : Fin 2} (v : Int64) (d : decode cc pc = .ok (.lconst j, 1)) (q : Nat) (hq : pc + 1 = q) (hv : Int64.ofNat (j : Nat) = v) (h : go l R E x k n Pr lo q (.long v :: st)) : go l R E x k n Pr lo pc st := by
  obtain ⟨p, e, s, m, args, below, meth, c, A, Rt⟩ := x
  subst hq
  intro H ls locs hP hl hS
  exact lv_lconst hF.1 hF.2.1 d hv (h H ls locs hP hl hS)
theorem g_null (hF : fx E x own cc rt nL)  (d : decode cc pc = .ok (.aconst_null, 1)) (q : Nat) (hq : pc + 1 = q) (h : go l R E x k n Pr lo q (.null :: st)) : go l R E x k n Pr lo pc st := by
  obtain ⟨p, e, s, m, args, below, meth, c, A, Rt⟩ := x
  subst hq
  intro H ls locs hP hl hS
  exact lv_null hF.1 hF.2.1 d (h H ls locs hP hl hS)
theorem g_iload_n (hF : fx E x own cc rt nL) {j : Fin 4} {v : Int32} (d : decode cc pc = .ok (.iload_n j, 1)) (q : Nat) (hq : pc + 1 = q) (hv : lo[(j : Nat)]? = some (some (.int v))) (h : go l R E x k n Pr lo q (.int v :: st)) : go l R E x k n Pr lo pc st := by
  obtain ⟨p, e, s, m, args, below, meth, c, A, Rt⟩ := x
  subst hq
  intro H ls locs hP hl hS
  exact lv_iload_n hF.1 hF.2.1 d rfl (hl.2.2 _ _ hv) (h H ls locs hP hl hS)
theorem g_iload (hF : fx E x own cc rt nL) {j : Nat} {v : Int32} (d : decode cc pc = .ok (.iload j, 2)) (q : Nat) (hq : pc + 2 = q) (hv : lo[j]? = some (some (.int v))) (h : go l R E x k n Pr lo q (.int v :: st)) : go l R E x k n Pr lo pc st := by
  obtain ⟨p, e, s, m, args, below, meth, c, A, Rt⟩ := x
  subst hq
  intro H ls locs hP hl hS
  exact lv_iload hF.1 hF.2.1 d (hl.2.2 _ _ hv) (h H ls locs hP hl hS)
theorem g_lload_n (hF : fx E x own cc rt nL) {j : Fin 4} {v : Int64} (d : decode cc pc = .ok (.lload_n j, 1)) (q : Nat) (hq : pc + 1 = q) (hv : lo[(j : Nat)]? = some (some (.long v))) (h : go l R E x k n Pr lo q (.long v :: st)) : go l R E x k n Pr lo pc st := by
  obtain ⟨p, e, s, m, args, below, meth, c, A, Rt⟩ := x
  subst hq
  intro H ls locs hP hl hS
  exact lv_lload_n hF.1 hF.2.1 d rfl (hl.2.2 _ _ hv) (h H ls locs hP hl hS)
theorem g_lload (hF : fx E x own cc rt nL) {j : Nat} {v : Int64} (d : decode cc pc = .ok (.lload j, 2)) (q : Nat) (hq : pc + 2 = q) (hv : lo[j]? = some (some (.long v))) (h : go l R E x k n Pr lo q (.long v :: st)) : go l R E x k n Pr lo pc st := by
  obtain ⟨p, e, s, m, args, below, meth, c, A, Rt⟩ := x
  subst hq
  intro H ls locs hP hl hS
  exact lv_lload hF.1 hF.2.1 d (hl.2.2 _ _ hv) (h H ls locs hP hl hS)
theorem g_aload_n (hF : fx E x own cc rt nL) {j : Fin 4} {v : Nat} (d : decode cc pc = .ok (.aload_n j, 1)) (q : Nat) (hq : pc + 1 = q) (hv : lo[(j : Nat)]? = some (some (.ref v))) (h : go l R E x k n Pr lo q (.ref v :: st)) : go l R E x k n Pr lo pc st := by
  obtain ⟨p, e, s, m, args, below, meth, c, A, Rt⟩ := x
  subst hq
  intro H ls locs hP hl hS
  exact lv_aload_n hF.1 hF.2.1 d rfl (hl.2.2 _ _ hv) (h H ls locs hP hl hS)
theorem g_aload (hF : fx E x own cc rt nL) {j : Nat} {v : Nat} (d : decode cc pc = .ok (.aload j, 2)) (q : Nat) (hq : pc + 2 = q) (hv : lo[j]? = some (some (.ref v))) (h : go l R E x k n Pr lo q (.ref v :: st)) : go l R E x k n Pr lo pc st := by
  obtain ⟨p, e, s, m, args, below, meth, c, A, Rt⟩ := x
  subst hq
  intro H ls locs hP hl hS
  exact lv_aload hF.1 hF.2.1 d (hl.2.2 _ _ hv) (h H ls locs hP hl hS)
theorem g_aload_nN (hF : fx E x own cc rt nL) {j : Fin 4} (d : decode cc pc = .ok (.aload_n j, 1)) (q : Nat) (hq : pc + 1 = q) (hv : lo[(j : Nat)]? = some (some .null)) (h : go l R E x k n Pr lo q (.null :: st)) : go l R E x k n Pr lo pc st := by
  obtain ⟨p, e, s, m, args, below, meth, c, A, Rt⟩ := x
  subst hq
  intro H ls locs hP hl hS
  exact lv_aload_nN hF.1 hF.2.1 d rfl (hl.2.2 _ _ hv) (h H ls locs hP hl hS)
theorem g_aloadN (hF : fx E x own cc rt nL) {j : Nat} (d : decode cc pc = .ok (.aload j, 2)) (q : Nat) (hq : pc + 2 = q) (hv : lo[j]? = some (some .null)) (h : go l R E x k n Pr lo q (.null :: st)) : go l R E x k n Pr lo pc st := by
  obtain ⟨p, e, s, m, args, below, meth, c, A, Rt⟩ := x
  subst hq
  intro H ls locs hP hl hS
  exact lv_aloadN hF.1 hF.2.1 d (hl.2.2 _ _ hv) (h H ls locs hP hl hS)
theorem g_istore_n (hF : fx E x own cc rt nL) {j : Fin 4} {v : Int32} (d : decode cc pc = .ok (.istore_n j, 1)) (q : Nat) (hq : pc + 1 = q) {lo' : List (Option Value)} (hj : (j : Nat) < lo.length) (he : lo1 lo (j : Nat) (.int v) = lo') (h : go l R E x k n Pr lo' q st) : go l R E x k n Pr lo pc (.int v :: st) := by
  obtain ⟨p, e, s, m, args, below, meth, c, A, Rt⟩ := x
  subst hq
  intro H ls locs hP hl hS
  exact lv_istore_n hF.1 hF.2.1 d rfl (lo_has hl) hj rfl (fun ls' hl' => h H ls' locs hP (lo1_ok hj he hl') hS)
theorem g_istore (hF : fx E x own cc rt nL) {j : Nat} {v : Int32} (d : decode cc pc = .ok (.istore j, 2)) (q : Nat) (hq : pc + 2 = q) {lo' : List (Option Value)} (hj : j < lo.length) (he : lo1 lo j (.int v) = lo') (h : go l R E x k n Pr lo' q st) : go l R E x k n Pr lo pc (.int v :: st) := by
  obtain ⟨p, e, s, m, args, below, meth, c, A, Rt⟩ := x
  subst hq
  intro H ls locs hP hl hS
  exact lv_istore hF.1 hF.2.1 d (lo_has hl) hj rfl (fun ls' hl' => h H ls' locs hP (lo1_ok hj he hl') hS)
theorem g_lstore_n (hF : fx E x own cc rt nL) {j : Fin 4} {v : Int64} (d : decode cc pc = .ok (.lstore_n j, 1)) (q : Nat) (hq : pc + 1 = q) {lo' : List (Option Value)} (hj : (j : Nat) + 1 < lo.length) (he : lo2 lo (j : Nat) (.long v) = lo') (h : go l R E x k n Pr lo' q st) : go l R E x k n Pr lo pc (.long v :: st) := by
  obtain ⟨p, e, s, m, args, below, meth, c, A, Rt⟩ := x
  subst hq
  intro H ls locs hP hl hS
  exact lv_lstore_n hF.1 hF.2.1 d rfl (lo_has hl) hj rfl (fun ls' hl' => h H ls' locs hP (lo2_ok hj he hl') hS)
theorem g_lstore (hF : fx E x own cc rt nL) {j : Nat} {v : Int64} (d : decode cc pc = .ok (.lstore j, 2)) (q : Nat) (hq : pc + 2 = q) {lo' : List (Option Value)} (hj : j + 1 < lo.length) (he : lo2 lo j (.long v) = lo') (h : go l R E x k n Pr lo' q st) : go l R E x k n Pr lo pc (.long v :: st) := by
  obtain ⟨p, e, s, m, args, below, meth, c, A, Rt⟩ := x
  subst hq
  intro H ls locs hP hl hS
  exact lv_lstore hF.1 hF.2.1 d (lo_has hl) hj rfl (fun ls' hl' => h H ls' locs hP (lo2_ok hj he hl') hS)
theorem g_astore_n (hF : fx E x own cc rt nL) {j : Fin 4} {v : Nat} (d : decode cc pc = .ok (.astore_n j, 1)) (q : Nat) (hq : pc + 1 = q) {lo' : List (Option Value)} (hj : (j : Nat) < lo.length) (he : lo1 lo (j : Nat) (.ref v) = lo') (h : go l R E x k n Pr lo' q st) : go l R E x k n Pr lo pc (.ref v :: st) := by
  obtain ⟨p, e, s, m, args, below, meth, c, A, Rt⟩ := x
  subst hq
  intro H ls locs hP hl hS
  exact lv_astore_n hF.1 hF.2.1 d rfl (lo_has hl) hj rfl (fun ls' hl' => h H ls' locs hP (lo1_ok hj he hl') hS)
theorem g_astore (hF : fx E x own cc rt nL) {j : Nat} {v : Nat} (d : decode cc pc = .ok (.astore j, 2)) (q : Nat) (hq : pc + 2 = q) {lo' : List (Option Value)} (hj : j < lo.length) (he : lo1 lo j (.ref v) = lo') (h : go l R E x k n Pr lo' q st) : go l R E x k n Pr lo pc (.ref v :: st) := by
  obtain ⟨p, e, s, m, args, below, meth, c, A, Rt⟩ := x
  subst hq
  intro H ls locs hP hl hS
  exact lv_astore hF.1 hF.2.1 d (lo_has hl) hj rfl (fun ls' hl' => h H ls' locs hP (lo1_ok hj he hl') hS)
theorem g_astore_nN (hF : fx E x own cc rt nL) {j : Fin 4} (d : decode cc pc = .ok (.astore_n j, 1)) (q : Nat) (hq : pc + 1 = q) {lo' : List (Option Value)} (hj : (j : Nat) < lo.length) (he : lo1 lo (j : Nat) (.null) = lo') (h : go l R E x k n Pr lo' q st) : go l R E x k n Pr lo pc (.null :: st) := by
  obtain ⟨p, e, s, m, args, below, meth, c, A, Rt⟩ := x
  subst hq
  intro H ls locs hP hl hS
  exact lv_astore_nN hF.1 hF.2.1 d rfl (lo_has hl) hj rfl (fun ls' hl' => h H ls' locs hP (lo1_ok hj he hl') hS)
theorem g_astoreN (hF : fx E x own cc rt nL) {j : Nat} (d : decode cc pc = .ok (.astore j, 2)) (q : Nat) (hq : pc + 2 = q) {lo' : List (Option Value)} (hj : j < lo.length) (he : lo1 lo j (.null) = lo') (h : go l R E x k n Pr lo' q st) : go l R E x k n Pr lo pc (.null :: st) := by
  obtain ⟨p, e, s, m, args, below, meth, c, A, Rt⟩ := x
  subst hq
  intro H ls locs hP hl hS
  exact lv_astoreN hF.1 hF.2.1 d (lo_has hl) hj rfl (fun ls' hl' => h H ls' locs hP (lo1_ok hj he hl') hS)
theorem g_iinc (hF : fx E x own cc rt nL) {j : Nat} {b : Int} {v : Int32} (d : decode cc pc = .ok (.iinc j b, 3)) (q : Nat) (hq : pc + 3 = q) (w : Int32) (hb : Int32.ofInt b = w) {lo' : List (Option Value)} (hv : lo[j]? = some (some (.int v))) (he : lo1 lo j (.int (v + w)) = lo') (h : go l R E x k n Pr lo' q st) : go l R E x k n Pr lo pc st := by
  obtain ⟨p, e, s, m, args, below, meth, c, A, Rt⟩ := x
  subst hq
  subst hb
  intro H ls locs hP hl hS
  have hj : j < lo.length := (List.getElem?_eq_some_iff.mp hv).1
  obtain ⟨i, hi⟩ := List.getElem?_of_mem (lo_pr_mem.mpr hv)
  exact lv_iinc hF.1 hF.2.1 d (lo_has hl) hi rfl hj rfl (fun ls' hl' => h H ls' locs hP (lo1_ok hj he hl') hS)
theorem g_iadd (hF : fx E x own cc rt nL) {a b : Int32} (d : decode cc pc = .ok (.iadd, 1)) (q : Nat) (hq : pc + 1 = q) (h : go l R E x k n Pr lo q (.int (a + b) :: st)) : go l R E x k n Pr lo pc (.int b :: .int a :: st) := by
  obtain ⟨p, e, s, m, args, below, meth, c, A, Rt⟩ := x
  subst hq
  intro H ls locs hP hl hS
  exact lv_iadd hF.1 hF.2.1 d (h H ls locs hP hl hS)
theorem g_isub (hF : fx E x own cc rt nL) {a b : Int32} (d : decode cc pc = .ok (.isub, 1)) (q : Nat) (hq : pc + 1 = q) (h : go l R E x k n Pr lo q (.int (a - b) :: st)) : go l R E x k n Pr lo pc (.int b :: .int a :: st) := by
  obtain ⟨p, e, s, m, args, below, meth, c, A, Rt⟩ := x
  subst hq
  intro H ls locs hP hl hS
  exact lv_isub hF.1 hF.2.1 d (h H ls locs hP hl hS)
theorem g_imul (hF : fx E x own cc rt nL) {a b : Int32} (d : decode cc pc = .ok (.imul, 1)) (q : Nat) (hq : pc + 1 = q) (h : go l R E x k n Pr lo q (.int (a * b) :: st)) : go l R E x k n Pr lo pc (.int b :: .int a :: st) := by
  obtain ⟨p, e, s, m, args, below, meth, c, A, Rt⟩ := x
  subst hq
  intro H ls locs hP hl hS
  exact lv_imul hF.1 hF.2.1 d (h H ls locs hP hl hS)
theorem g_iand (hF : fx E x own cc rt nL) {a b : Int32} (d : decode cc pc = .ok (.iand, 1)) (q : Nat) (hq : pc + 1 = q) (h : go l R E x k n Pr lo q (.int (a &&& b) :: st)) : go l R E x k n Pr lo pc (.int b :: .int a :: st) := by
  obtain ⟨p, e, s, m, args, below, meth, c, A, Rt⟩ := x
  subst hq
  intro H ls locs hP hl hS
  exact lv_iand hF.1 hF.2.1 d (h H ls locs hP hl hS)
theorem g_ior (hF : fx E x own cc rt nL) {a b : Int32} (d : decode cc pc = .ok (.ior, 1)) (q : Nat) (hq : pc + 1 = q) (h : go l R E x k n Pr lo q (.int (a ||| b) :: st)) : go l R E x k n Pr lo pc (.int b :: .int a :: st) := by
  obtain ⟨p, e, s, m, args, below, meth, c, A, Rt⟩ := x
  subst hq
  intro H ls locs hP hl hS
  exact lv_ior hF.1 hF.2.1 d (h H ls locs hP hl hS)
theorem g_ixor (hF : fx E x own cc rt nL) {a b : Int32} (d : decode cc pc = .ok (.ixor, 1)) (q : Nat) (hq : pc + 1 = q) (h : go l R E x k n Pr lo q (.int (a ^^^ b) :: st)) : go l R E x k n Pr lo pc (.int b :: .int a :: st) := by
  obtain ⟨p, e, s, m, args, below, meth, c, A, Rt⟩ := x
  subst hq
  intro H ls locs hP hl hS
  exact lv_ixor hF.1 hF.2.1 d (h H ls locs hP hl hS)
theorem g_ishl (hF : fx E x own cc rt nL) {a b : Int32} (d : decode cc pc = .ok (.ishl, 1)) (q : Nat) (hq : pc + 1 = q) (h : go l R E x k n Pr lo q (.int (a <<< (b &&& 31)) :: st)) : go l R E x k n Pr lo pc (.int b :: .int a :: st) := by
  obtain ⟨p, e, s, m, args, below, meth, c, A, Rt⟩ := x
  subst hq
  intro H ls locs hP hl hS
  exact lv_ishl hF.1 hF.2.1 d (h H ls locs hP hl hS)
theorem g_ishr (hF : fx E x own cc rt nL) {a b : Int32} (d : decode cc pc = .ok (.ishr, 1)) (q : Nat) (hq : pc + 1 = q) (h : go l R E x k n Pr lo q (.int (a >>> (b &&& 31)) :: st)) : go l R E x k n Pr lo pc (.int b :: .int a :: st) := by
  obtain ⟨p, e, s, m, args, below, meth, c, A, Rt⟩ := x
  subst hq
  intro H ls locs hP hl hS
  exact lv_ishr hF.1 hF.2.1 d (h H ls locs hP hl hS)
theorem g_idiv (hF : fx E x own cc rt nL) {a b : Int32} (d : decode cc pc = .ok (.idiv, 1)) (q : Nat) (hq : pc + 1 = q) (hb : ¬ b = 0) (h : go l R E x k n Pr lo q (.int (a / b) :: st)) : go l R E x k n Pr lo pc (.int b :: .int a :: st) := by
  obtain ⟨p, e, s, m, args, below, meth, c, A, Rt⟩ := x
  subst hq
  intro H ls locs hP hl hS
  exact lv_idiv hF.1 hF.2.1 d hb (h H ls locs hP hl hS)
theorem g_irem (hF : fx E x own cc rt nL) {a b : Int32} (d : decode cc pc = .ok (.irem, 1)) (q : Nat) (hq : pc + 1 = q) (hb : ¬ b = 0) (h : go l R E x k n Pr lo q (.int (a - a / b * b) :: st)) : go l R E x k n Pr lo pc (.int b :: .int a :: st) := by
  obtain ⟨p, e, s, m, args, below, meth, c, A, Rt⟩ := x
  subst hq
  intro H ls locs hP hl hS
  exact lv_irem hF.1 hF.2.1 d hb (h H ls locs hP hl hS)
theorem g_iushr (hF : fx E x own cc rt nL) {a b : Int32} (d : decode cc pc = .ok (.iushr, 1)) (q : Nat) (hq : pc + 1 = q) (h : go l R E x k n Pr lo q (.int (a.toUInt32 >>> (b.toUInt32 &&& Int32.toUInt32 31)).toInt32 :: st)) : go l R E x k n Pr lo pc (.int b :: .int a :: st) := by
  obtain ⟨p, e, s, m, args, below, meth, c, A, Rt⟩ := x
  subst hq
  intro H ls locs hP hl hS
  exact lv_iushr hF.1 hF.2.1 d rfl (h H ls locs hP hl hS)
theorem g_ladd (hF : fx E x own cc rt nL) {a b : Int64} (d : decode cc pc = .ok (.ladd, 1)) (q : Nat) (hq : pc + 1 = q) (h : go l R E x k n Pr lo q (.long (a + b) :: st)) : go l R E x k n Pr lo pc (.long b :: .long a :: st) := by
  obtain ⟨p, e, s, m, args, below, meth, c, A, Rt⟩ := x
  subst hq
  intro H ls locs hP hl hS
  exact lv_ladd hF.1 hF.2.1 d (h H ls locs hP hl hS)
theorem g_lsub (hF : fx E x own cc rt nL) {a b : Int64} (d : decode cc pc = .ok (.lsub, 1)) (q : Nat) (hq : pc + 1 = q) (h : go l R E x k n Pr lo q (.long (a - b) :: st)) : go l R E x k n Pr lo pc (.long b :: .long a :: st) := by
  obtain ⟨p, e, s, m, args, below, meth, c, A, Rt⟩ := x
  subst hq
  intro H ls locs hP hl hS
  exact lv_lsub hF.1 hF.2.1 d (h H ls locs hP hl hS)
theorem g_lmul (hF : fx E x own cc rt nL) {a b : Int64} (d : decode cc pc = .ok (.lmul, 1)) (q : Nat) (hq : pc + 1 = q) (h : go l R E x k n Pr lo q (.long (a * b) :: st)) : go l R E x k n Pr lo pc (.long b :: .long a :: st) := by
  obtain ⟨p, e, s, m, args, below, meth, c, A, Rt⟩ := x
  subst hq
  intro H ls locs hP hl hS
  exact lv_lmul hF.1 hF.2.1 d (h H ls locs hP hl hS)
theorem g_ldiv (hF : fx E x own cc rt nL) {a b : Int64} (d : decode cc pc = .ok (.ldiv, 1)) (q : Nat) (hq : pc + 1 = q) (hb : ¬ b = 0) (h : go l R E x k n Pr lo q (.long (a / b) :: st)) : go l R E x k n Pr lo pc (.long b :: .long a :: st) := by
  obtain ⟨p, e, s, m, args, below, meth, c, A, Rt⟩ := x
  subst hq
  intro H ls locs hP hl hS
  exact lv_ldiv hF.1 hF.2.1 d hb (h H ls locs hP hl hS)
theorem g_lrem (hF : fx E x own cc rt nL) {a b : Int64} (d : decode cc pc = .ok (.lrem, 1)) (q : Nat) (hq : pc + 1 = q) (hb : ¬ b = 0) (h : go l R E x k n Pr lo q (.long (a - a / b * b) :: st)) : go l R E x k n Pr lo pc (.long b :: .long a :: st) := by
  obtain ⟨p, e, s, m, args, below, meth, c, A, Rt⟩ := x
  subst hq
  intro H ls locs hP hl hS
  exact lv_lrem hF.1 hF.2.1 d hb (h H ls locs hP hl hS)
theorem g_lneg (hF : fx E x own cc rt nL) {a : Int64} (d : decode cc pc = .ok (.lneg, 1)) (q : Nat) (hq : pc + 1 = q) (h : go l R E x k n Pr lo q (.long (-a) :: st)) : go l R E x k n Pr lo pc (.long a :: st) := by
  obtain ⟨p, e, s, m, args, below, meth, c, A, Rt⟩ := x
  subst hq
  intro H ls locs hP hl hS
  exact lv_lneg hF.1 hF.2.1 d (h H ls locs hP hl hS)
theorem g_lcmp (hF : fx E x own cc rt nL) {a b : Int64} (d : decode cc pc = .ok (.lcmp, 1)) (q : Nat) (hq : pc + 1 = q) (h : go l R E x k n Pr lo q (.int (lg_cmp a b) :: st)) : go l R E x k n Pr lo pc (.long b :: .long a :: st) := by
  obtain ⟨p, e, s, m, args, below, meth, c, A, Rt⟩ := x
  subst hq
  intro H ls locs hP hl hS
  exact W.lcmp hF.1 hF.2.1 d (h H ls locs hP hl hS)
theorem g_i2l (hF : fx E x own cc rt nL) {a : Int32} (d : decode cc pc = .ok (.i2l, 1)) (q : Nat) (hq : pc + 1 = q) (h : go l R E x k n Pr lo q (.long a.toInt64 :: st)) : go l R E x k n Pr lo pc (.int a :: st) := by
  obtain ⟨p, e, s, m, args, below, meth, c, A, Rt⟩ := x
  subst hq
  intro H ls locs hP hl hS
  exact lv_i2l hF.1 hF.2.1 d rfl (h H ls locs hP hl hS)
theorem g_l2i (hF : fx E x own cc rt nL) {a : Int64} (d : decode cc pc = .ok (.l2i, 1)) (q : Nat) (hq : pc + 1 = q) (h : go l R E x k n Pr lo q (.int a.toInt32 :: st)) : go l R E x k n Pr lo pc (.long a :: st) := by
  obtain ⟨p, e, s, m, args, below, meth, c, A, Rt⟩ := x
  subst hq
  intro H ls locs hP hl hS
  exact lv_l2i hF.1 hF.2.1 d rfl (h H ls locs hP hl hS)
theorem g_dup (hF : fx E x own cc rt nL) {v : Value} (d : decode cc pc = .ok (.dup, 1)) (q : Nat) (hq : pc + 1 = q) (hv : v.category = 1) (h : go l R E x k n Pr lo q (v :: v :: st)) : go l R E x k n Pr lo pc (v :: st) := by
  obtain ⟨p, e, s, m, args, below, meth, c, A, Rt⟩ := x
  subst hq
  intro H ls locs hP hl hS
  exact lv_dup hF.1 hF.2.1 d hv (h H ls locs hP hl hS)
theorem g_pop (hF : fx E x own cc rt nL) {v : Value} (d : decode cc pc = .ok (.pop, 1)) (q : Nat) (hq : pc + 1 = q) (hv : v.category = 1) (h : go l R E x k n Pr lo q st) : go l R E x k n Pr lo pc (v :: st) := by
  obtain ⟨p, e, s, m, args, below, meth, c, A, Rt⟩ := x
  subst hq
  intro H ls locs hP hl hS
  exact lv_pop hF.1 hF.2.1 d hv (h H ls locs hP hl hS)
theorem g_dup2 (hF : fx E x own cc rt nL) {v w : Value} (d : decode cc pc = .ok (.dup2, 1)) (q : Nat) (hq : pc + 1 = q) (hv : v.category = 1) (hw : w.category = 1) (h : go l R E x k n Pr lo q (v :: w :: v :: w :: st)) : go l R E x k n Pr lo pc (v :: w :: st) := by
  obtain ⟨p, e, s, m, args, below, meth, c, A, Rt⟩ := x
  subst hq
  intro H ls locs hP hl hS
  exact lv_dup2_11 hF.1 hF.2.1 d hv hw (h H ls locs hP hl hS)
theorem g_if_eq (hF : fx E x own cc rt nL) {a : Int32} {off : Int} (d : decode cc pc = .ok (.ifCond .eq off, 3)) (q : Nat) (hq : pc + 3 = q) (tgt : Nat) (ht : (pc : Int) + off = (tgt : Int)) (kt : a = 0 → go l R E x k n Pr lo tgt st) (kf : ¬ a = 0 → go l R E x k n Pr lo q st) : go l R E x k n Pr lo pc (.int a :: st) := by
  obtain ⟨p, e, s, m, args, below, meth, c, A, Rt⟩ := x
  subst hq
  intro H ls locs hP hl hS
  exact lv_if_eq hF.1 hF.2.1 d ht (fun z => kt z H ls locs hP hl hS) (fun z => kf z H ls locs hP hl hS)
theorem g_icmp_eq (hF : fx E x own cc rt nL) {a b : Int32} {off : Int} (d : decode cc pc = .ok (.if_icmp .eq off, 3)) (q : Nat) (hq : pc + 3 = q) (tgt : Nat) (ht : (pc : Int) + off = (tgt : Int)) (kt : a = b → go l R E x k n Pr lo tgt st) (kf : ¬ a = b → go l R E x k n Pr lo q st) : go l R E x k n Pr lo pc (.int b :: .int a :: st) := by
  obtain ⟨p, e, s, m, args, below, meth, c, A, Rt⟩ := x
  subst hq
  intro H ls locs hP hl hS
  exact lv_icmp_eq hF.1 hF.2.1 d ht (fun z => kt z H ls locs hP hl hS) (fun z => kf z H ls locs hP hl hS)
theorem g_if_ne (hF : fx E x own cc rt nL) {a : Int32} {off : Int} (d : decode cc pc = .ok (.ifCond .ne off, 3)) (q : Nat) (hq : pc + 3 = q) (tgt : Nat) (ht : (pc : Int) + off = (tgt : Int)) (kt : ¬ a = 0 → go l R E x k n Pr lo tgt st) (kf : a = 0 → go l R E x k n Pr lo q st) : go l R E x k n Pr lo pc (.int a :: st) := by
  obtain ⟨p, e, s, m, args, below, meth, c, A, Rt⟩ := x
  subst hq
  intro H ls locs hP hl hS
  exact lv_if_ne hF.1 hF.2.1 d ht (fun z => kt z H ls locs hP hl hS) (fun z => kf z H ls locs hP hl hS)
theorem g_icmp_ne (hF : fx E x own cc rt nL) {a b : Int32} {off : Int} (d : decode cc pc = .ok (.if_icmp .ne off, 3)) (q : Nat) (hq : pc + 3 = q) (tgt : Nat) (ht : (pc : Int) + off = (tgt : Int)) (kt : ¬ a = b → go l R E x k n Pr lo tgt st) (kf : a = b → go l R E x k n Pr lo q st) : go l R E x k n Pr lo pc (.int b :: .int a :: st) := by
  obtain ⟨p, e, s, m, args, below, meth, c, A, Rt⟩ := x
  subst hq
  intro H ls locs hP hl hS
  exact lv_icmp_ne hF.1 hF.2.1 d ht (fun z => kt z H ls locs hP hl hS) (fun z => kf z H ls locs hP hl hS)
theorem g_if_lt (hF : fx E x own cc rt nL) {a : Int32} {off : Int} (d : decode cc pc = .ok (.ifCond .lt off, 3)) (q : Nat) (hq : pc + 3 = q) (tgt : Nat) (ht : (pc : Int) + off = (tgt : Int)) (kt : a < 0 → go l R E x k n Pr lo tgt st) (kf : ¬ a < 0 → go l R E x k n Pr lo q st) : go l R E x k n Pr lo pc (.int a :: st) := by
  obtain ⟨p, e, s, m, args, below, meth, c, A, Rt⟩ := x
  subst hq
  intro H ls locs hP hl hS
  exact lv_if_lt hF.1 hF.2.1 d ht (fun z => kt z H ls locs hP hl hS) (fun z => kf z H ls locs hP hl hS)
theorem g_icmp_lt (hF : fx E x own cc rt nL) {a b : Int32} {off : Int} (d : decode cc pc = .ok (.if_icmp .lt off, 3)) (q : Nat) (hq : pc + 3 = q) (tgt : Nat) (ht : (pc : Int) + off = (tgt : Int)) (kt : a < b → go l R E x k n Pr lo tgt st) (kf : ¬ a < b → go l R E x k n Pr lo q st) : go l R E x k n Pr lo pc (.int b :: .int a :: st) := by
  obtain ⟨p, e, s, m, args, below, meth, c, A, Rt⟩ := x
  subst hq
  intro H ls locs hP hl hS
  exact lv_icmp_lt hF.1 hF.2.1 d ht (fun z => kt z H ls locs hP hl hS) (fun z => kf z H ls locs hP hl hS)
theorem g_if_ge (hF : fx E x own cc rt nL) {a : Int32} {off : Int} (d : decode cc pc = .ok (.ifCond .ge off, 3)) (q : Nat) (hq : pc + 3 = q) (tgt : Nat) (ht : (pc : Int) + off = (tgt : Int)) (kt : 0 ≤ a → go l R E x k n Pr lo tgt st) (kf : ¬ 0 ≤ a → go l R E x k n Pr lo q st) : go l R E x k n Pr lo pc (.int a :: st) := by
  obtain ⟨p, e, s, m, args, below, meth, c, A, Rt⟩ := x
  subst hq
  intro H ls locs hP hl hS
  exact lv_if_ge hF.1 hF.2.1 d ht (fun z => kt z H ls locs hP hl hS) (fun z => kf z H ls locs hP hl hS)
theorem g_icmp_ge (hF : fx E x own cc rt nL) {a b : Int32} {off : Int} (d : decode cc pc = .ok (.if_icmp .ge off, 3)) (q : Nat) (hq : pc + 3 = q) (tgt : Nat) (ht : (pc : Int) + off = (tgt : Int)) (kt : b ≤ a → go l R E x k n Pr lo tgt st) (kf : ¬ b ≤ a → go l R E x k n Pr lo q st) : go l R E x k n Pr lo pc (.int b :: .int a :: st) := by
  obtain ⟨p, e, s, m, args, below, meth, c, A, Rt⟩ := x
  subst hq
  intro H ls locs hP hl hS
  exact lv_icmp_ge hF.1 hF.2.1 d ht (fun z => kt z H ls locs hP hl hS) (fun z => kf z H ls locs hP hl hS)
theorem g_if_gt (hF : fx E x own cc rt nL) {a : Int32} {off : Int} (d : decode cc pc = .ok (.ifCond .gt off, 3)) (q : Nat) (hq : pc + 3 = q) (tgt : Nat) (ht : (pc : Int) + off = (tgt : Int)) (kt : 0 < a → go l R E x k n Pr lo tgt st) (kf : ¬ 0 < a → go l R E x k n Pr lo q st) : go l R E x k n Pr lo pc (.int a :: st) := by
  obtain ⟨p, e, s, m, args, below, meth, c, A, Rt⟩ := x
  subst hq
  intro H ls locs hP hl hS
  exact lv_if_gt hF.1 hF.2.1 d ht (fun z => kt z H ls locs hP hl hS) (fun z => kf z H ls locs hP hl hS)
theorem g_icmp_gt (hF : fx E x own cc rt nL) {a b : Int32} {off : Int} (d : decode cc pc = .ok (.if_icmp .gt off, 3)) (q : Nat) (hq : pc + 3 = q) (tgt : Nat) (ht : (pc : Int) + off = (tgt : Int)) (kt : b < a → go l R E x k n Pr lo tgt st) (kf : ¬ b < a → go l R E x k n Pr lo q st) : go l R E x k n Pr lo pc (.int b :: .int a :: st) := by
  obtain ⟨p, e, s, m, args, below, meth, c, A, Rt⟩ := x
  subst hq
  intro H ls locs hP hl hS
  exact lv_icmp_gt hF.1 hF.2.1 d ht (fun z => kt z H ls locs hP hl hS) (fun z => kf z H ls locs hP hl hS)
theorem g_if_le (hF : fx E x own cc rt nL) {a : Int32} {off : Int} (d : decode cc pc = .ok (.ifCond .le off, 3)) (q : Nat) (hq : pc + 3 = q) (tgt : Nat) (ht : (pc : Int) + off = (tgt : Int)) (kt : a ≤ 0 → go l R E x k n Pr lo tgt st) (kf : ¬ a ≤ 0 → go l R E x k n Pr lo q st) : go l R E x k n Pr lo pc (.int a :: st) := by
  obtain ⟨p, e, s, m, args, below, meth, c, A, Rt⟩ := x
  subst hq
  intro H ls locs hP hl hS
  exact lv_if_le hF.1 hF.2.1 d ht (fun z => kt z H ls locs hP hl hS) (fun z => kf z H ls locs hP hl hS)
theorem g_icmp_le (hF : fx E x own cc rt nL) {a b : Int32} {off : Int} (d : decode cc pc = .ok (.if_icmp .le off, 3)) (q : Nat) (hq : pc + 3 = q) (tgt : Nat) (ht : (pc : Int) + off = (tgt : Int)) (kt : a ≤ b → go l R E x k n Pr lo tgt st) (kf : ¬ a ≤ b → go l R E x k n Pr lo q st) : go l R E x k n Pr lo pc (.int b :: .int a :: st) := by
  obtain ⟨p, e, s, m, args, below, meth, c, A, Rt⟩ := x
  subst hq
  intro H ls locs hP hl hS
  exact lv_icmp_le hF.1 hF.2.1 d ht (fun z => kt z H ls locs hP hl hS) (fun z => kf z H ls locs hP hl hS)
theorem g_goto (hF : fx E x own cc rt nL)  {off : Int} (d : decode cc pc = .ok (.goto off, 3)) (tgt : Nat) (ht : (pc : Int) + off = (tgt : Int)) (h : go l R E x k n Pr lo tgt st) : go l R E x k n Pr lo pc st := by
  obtain ⟨p, e, s, m, args, below, meth, c, A, Rt⟩ := x
  intro H ls locs hP hl hS
  exact lv_goto hF.1 hF.2.1 d ht (h H ls locs hP hl hS)
theorem g_ifnonnull (hF : fx E x own cc rt nL) {a : Nat} {off : Int} (d : decode cc pc = .ok (.ifnonnull off, 3)) (tgt : Nat) (ht : (pc : Int) + off = (tgt : Int)) (h : go l R E x k n Pr lo tgt st) : go l R E x k n Pr lo pc (.ref a :: st) := by
  obtain ⟨p, e, s, m, args, below, meth, c, A, Rt⟩ := x
  intro H ls locs hP hl hS
  exact lv_ifnonnull hF.1 hF.2.1 d ht (h H ls locs hP hl hS)
theorem g_ifnull (hF : fx E x own cc rt nL) {a : Nat} {off : Int} (d : decode cc pc = .ok (.ifnull off, 3)) (q : Nat) (hq : pc + 3 = q) (h : go l R E x k n Pr lo q st) : go l R E x k n Pr lo pc (.ref a :: st) := by
  obtain ⟨p, e, s, m, args, below, meth, c, A, Rt⟩ := x
  subst hq
  intro H ls locs hP hl hS
  exact lv_ifnull hF.1 hF.2.1 d (h H ls locs hP hl hS)
theorem g_ifnullN (hF : fx E x own cc rt nL)  {off : Int} (d : decode cc pc = .ok (.ifnull off, 3)) (tgt : Nat) (ht : (pc : Int) + off = (tgt : Int)) (h : go l R E x k n Pr lo tgt st) : go l R E x k n Pr lo pc (.null :: st) := by
  obtain ⟨p, e, s, m, args, below, meth, c, A, Rt⟩ := x
  intro H ls locs hP hl hS
  exact lv_ifnullN hF.1 hF.2.1 d ht (h H ls locs hP hl hS)
theorem g_ifnonnullN (hF : fx E x own cc rt nL)  {off : Int} (d : decode cc pc = .ok (.ifnonnull off, 3)) (q : Nat) (hq : pc + 3 = q) (h : go l R E x k n Pr lo q st) : go l R E x k n Pr lo pc (.null :: st) := by
  obtain ⟨p, e, s, m, args, below, meth, c, A, Rt⟩ := x
  subst hq
  intro H ls locs hP hl hS
  exact lv_ifnonnullN hF.1 hF.2.1 d (h H ls locs hP hl hS)
theorem g_tabOut (hF : fx E x own cc rt nL) {a : Int32} {dflt lw hg : Int} {offs : Array Int} {len : Nat} (d : decode cc pc = .ok (.tableswitch dflt lw hg offs, len)) (hx : a.toInt < lw ∨ hg < a.toInt) (tgt : Nat) (ht : (pc : Int) + dflt = (tgt : Int)) (h : go l R E x k n Pr lo tgt st) : go l R E x k n Pr lo pc (.int a :: st) := by
  obtain ⟨p, e, s, m, args, below, meth, c, A, Rt⟩ := x
  intro H ls locs hP hl hS
  exact lv_tableOut hF.1 hF.2.1 d hx ht (h H ls locs hP hl hS)
theorem g_tabIn (hF : fx E x own cc rt nL) {a : Int32} {dflt lw hg : Int} {offs : Array Int} {len : Nat} (d : decode cc pc = .ok (.tableswitch dflt lw hg offs, len)) (h1 : ¬ a.toInt < lw) (h2 : ¬ hg < a.toInt) (off : Int) (ho : offs[(a.toInt - lw).toNat]? = some off) (tgt : Nat) (ht : (pc : Int) + off = (tgt : Int)) (h : go l R E x k n Pr lo tgt st) : go l R E x k n Pr lo pc (.int a :: st) := by
  obtain ⟨p, e, s, m, args, below, meth, c, A, Rt⟩ := x
  intro H ls locs hP hl hS
  exact lv_tableIn hF.1 hF.2.1 d h1 h2 ho ht (h H ls locs hP hl hS)
theorem g_ldc (hF : fx E x own cc rt nL) {i : Nat} {v : Int32} (hk : Cond.constant own i v ∈ tG) (d : decode cc pc = .ok (.ldc i, 2)) (q : Nat) (hq : pc + 2 = q) (h : go l R E x k n Pr lo q (.int v :: st)) : go l R E x k n Pr lo pc st := by
  obtain ⟨p, e, s, m, args, below, meth, c, A, Rt⟩ := x
  subst hq
  intro H ls locs hP hl hS
  exact lv_ldc hF.1 hF.2.1 hF.2.2.2.1 (hF.2.2.2.2.1 _ hk) d (h H ls locs hP hl hS)
theorem g_ldcw (hF : fx E x own cc rt nL) {i : Nat} {v : Int32} (hk : Cond.constant own i v ∈ tG) (d : decode cc pc = .ok (.ldc_w i, 3)) (q : Nat) (hq : pc + 3 = q) (h : go l R E x k n Pr lo q (.int v :: st)) : go l R E x k n Pr lo pc st := by
  obtain ⟨p, e, s, m, args, below, meth, c, A, Rt⟩ := x
  subst hq
  intro H ls locs hP hl hS
  exact lv_ldcw hF.1 hF.2.1 hF.2.2.2.1 (hF.2.2.2.2.1 _ hk) d (h H ls locs hP hl hS)
theorem g_ldc2 (hF : fx E x own cc rt nL) {i : Nat} {v : Int64} (hk : Cond.constantLong own i v ∈ tG) (d : decode cc pc = .ok (.ldc2_w i, 3)) (q : Nat) (hq : pc + 3 = q) (h : go l R E x k n Pr lo q (.long v :: st)) : go l R E x k n Pr lo pc st := by
  obtain ⟨p, e, s, m, args, below, meth, c, A, Rt⟩ := x
  subst hq
  intro H ls locs hP hl hS
  exact lv_ldc2 hF.1 hF.2.1 hF.2.2.2.1 (hF.2.2.2.2.1 _ hk) d (h H ls locs hP hl hS)
/-- the value on top gets a name -/
theorem g_topi {v : Int32} (h : ∀ w : Int32, w = v → go l R E x k n Pr lo pc (.int w :: st)) : go l R E x k n Pr lo pc (.int v :: st) := h v rfl
theorem g_topl {v : Int64} (h : ∀ w : Int64, w = v → go l R E x k n Pr lo pc (.long w :: st)) : go l R E x k n Pr lo pc (.long v :: st) := h v rfl
/-- another picture of the same heap -/
theorem g_pr {Pr' : Heap → Prop} (hp : ∀ H, Pr H → Pr' H) (h : go l R E x k n Pr' lo pc st) : go l R E x k n Pr lo pc st := by
  obtain ⟨p, e, s, m, args, below, meth, c, A, Rt⟩ := x
  intro H ls locs hP hl hS
  exact h H ls locs (hp H hP) hl hS
/-- what the picture tells beside the heap -/
theorem g_ex {α : Sort _} {P : α → Heap → Prop} (h : ∀ a, go l R E x k n (P a) lo pc st) : go l R E x k n (fun H => ∃ a, P a H) lo pc st := by
  obtain ⟨p, e, s, m, args, below, meth, c, A, Rt⟩ := x
  intro H ls locs hP hl hS
  obtain ⟨a, hP⟩ := hP
  exact h a H ls locs hP hl hS
theorem g_pure {P : Prop} (hp : ∀ H, Pr H → P) (h : P → go l R E x k n Pr lo pc st) : go l R E x k n Pr lo pc st := by
  obtain ⟨p, e, s, m, args, below, meth, c, A, Rt⟩ := x
  intro H ls locs hP hl hS
  exact h (hp H hP) H ls locs hP hl hS
/-- fewer locals known -/
def lo_cut : List Bool → List (Option Value) → List (Option Value)
  | b :: bs, v :: vs => (if b then v else none) :: lo_cut bs vs
  | _, vs => vs
theorem lo_cut_len : ∀ (bs : List Bool) (vs : List (Option Value)), (lo_cut bs vs).length = vs.length
  | [], vs => by unfold lo_cut; rfl
  | b :: bs, [] => by unfold lo_cut; rfl
  | b :: bs, v :: vs => by unfold lo_cut; simp [lo_cut_len bs vs]
theorem lo_cut_get : ∀ (bs : List Bool) (vs : List (Option Value)) (i : Nat) (v : Value), (lo_cut bs vs)[i]? = some (some v) → vs[i]? = some (some v)
  | [], vs, i, v, h => by unfold lo_cut at h; exact h
  | b :: bs, [], i, v, h => by unfold lo_cut at h; exact h
  | b :: bs, w :: vs, i, v, h => by
    unfold lo_cut at h
    cases i with
    | zero =>
      cases b <;> simp at h
      simp [h]
    | succ i =>
      have := lo_cut_get bs vs i v (by simpa using h)
      simpa using this
theorem g_cut (bs : List Bool) {lo' : List (Option Value)} (he : lo_cut bs lo = lo') (h : go l R E x k n Pr lo' pc st) : go l R E x k n Pr lo pc st := by
  obtain ⟨p, e, s, m, args, below, meth, c, A, Rt⟩ := x
  subst he
  intro H ls locs hP hl hS
  exact h H ls locs hP ⟨hl.1.trans (lo_cut_len bs lo).symm, hl.2.1, fun i v hi => hl.2.2 i v (lo_cut_get bs lo i v hi)⟩ hS
/-! returns -/
theorem g_iret (hF : fx E x own cc (some .int) nL) {v : Int32} (d : decode cc pc = .ok (.ireturn, 1)) (hk : k ≤ R.cells) (hn : n ≤ R.slots) (hR : ∀ H, Pr H → rtx x (some (.int v)) H) : go l R E x k n Pr lo pc [.int v] := by
  obtain ⟨p, e, s, m, args, below, meth, c, A, Rt⟩ := x
  intro H ls locs hP hl hS
  refine W.widen hk hn ?_
  exact W.iret hF.1 hF.2.1 hF.2.2.2.2.2.2.1 (fun t ht _ => ⟨⟨_, rfl, by rw [ht]; exact hR H hP⟩, hS.F ht⟩) (fun q hq => hS.2.2 q hq) d hF.2.2.2.2.2.2.2
theorem g_zret (hF : fx E x own cc (some .boolean) nL) {v : Int32} (hv : narrow .boolean (.int v) = .int v) (d : decode cc pc = .ok (.ireturn, 1)) (hk : k ≤ R.cells) (hn : n ≤ R.slots) (hR : ∀ H, Pr H → rtx x (some (.int v)) H) : go l R E x k n Pr lo pc [.int v] := by
  obtain ⟨p, e, s, m, args, below, meth, c, A, Rt⟩ := x
  intro H ls locs hP hl hS
  refine W.widen hk hn ?_
  exact W.zret hF.1 hF.2.1 hF.2.2.2.2.2.2.1 hv (fun t ht _ => ⟨⟨_, rfl, by rw [ht]; exact hR H hP⟩, hS.F ht⟩) (fun q hq => hS.2.2 q hq) d hF.2.2.2.2.2.2.2
theorem g_lret (hF : fx E x own cc (some .long) nL) {v : Int64} (d : decode cc pc = .ok (.lreturn, 1)) (hk : k ≤ R.cells) (hn : n ≤ R.slots) (hR : ∀ H, Pr H → rtx x (some (.long v)) H) : go l R E x k n Pr lo pc [.long v] := by
  obtain ⟨p, e, s, m, args, below, meth, c, A, Rt⟩ := x
  intro H ls locs hP hl hS
  refine W.widen hk hn ?_
  exact W.lret hF.1 hF.2.1 hF.2.2.2.2.2.2.1 (fun t ht _ => ⟨⟨_, rfl, by rw [ht]; exact hR H hP⟩, hS.F ht⟩) (fun q hq => hS.2.2 q hq) d hF.2.2.2.2.2.2.2
theorem g_vret (hF : fx E x own cc none nL) (d : decode cc pc = .ok (.return_, 1)) (hk : k ≤ R.cells) (hn : n ≤ R.slots) (hR : ∀ H, Pr H → rtx x none H) : go l R E x k n Pr lo pc [] := by
  obtain ⟨p, e, s, m, args, below, meth, c, A, Rt⟩ := x
  intro H ls locs hP hl hS
  refine W.widen hk hn ?_
  exact W.vret hF.1 hF.2.1 hF.2.2.2.2.2.2.1 (fun t ht _ => ⟨⟨_, rfl, by rw [ht]; exact hR H hP⟩, hS.F ht⟩) (fun q hq => hS.2.2 q hq) d hF.2.2.2.2.2.2.2
theorem g_aret {C : String} (hF : fx E x own cc (some (.object C)) nL) {v : Value} (hv : v = .null ∨ ∃ a, v = .ref a) (d : decode cc pc = .ok (.areturn, 1)) (hk : k ≤ R.cells) (hn : n ≤ R.slots) (hR : ∀ H, Pr H → rtx x (some v) H) : go l R E x k n Pr lo pc [v] := by
  obtain ⟨p, e, s, m, args, below, meth, c, A, Rt⟩ := x
  intro H ls locs hP hl hS
  refine W.widen hk hn ?_
  exact W.aret hF.1 hF.2.1 hF.2.2.2.2.2.2.1 (Or.inl ⟨_, rfl⟩) hv (fun t ht _ => ⟨⟨_, rfl, by rw [ht]; exact hR H hP⟩, hS.F ht⟩) (fun q hq => hS.2.2 q hq) d hF.2.2.2.2.2.2.2
end GO
