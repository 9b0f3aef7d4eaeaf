/-! TrunkReserveModel: its picture, and its small rows -/
def flat (v : NV) : Nat → Int32 := fun k => if k = 0 then v.1 else if k = 1 then v.2.1 else if k = 2 then v.2.2.1 else v.2.2.2 ((k - 3) / 34) ((k - 3) % 34)
theorem flat_g (v : NV) {g w : Nat} (hw : w < 34) : flat v (3 + 34 * g + w) = v.2.2.2 g w := by
  unfold flat
  rw [if_neg (by omega), if_neg (by omega), if_neg (by omega), show (3 + 34 * g + w - 3) / 34 = g by omega, show (3 + 34 * g + w - 3) % 34 = w by omega]
def vput (v : NV) (g w : Nat) (z : Int32) : NV := (v.1, v.2.1, v.2.2.1, va_up v.2.2.2 g (upd (v.2.2.2 g) w z))
theorem flat_put (v : NV) {g w : Nat} (hw : w < 34) (z : Int32) (k : Nat) : upd (flat v) (3 + 34 * g + w) z k = flat (vput v g w z) k := by
  by_cases h3 : k < 3
  · rw [pk_un (by omega)]
    unfold flat vput
    rcases (show k = 0 ∨ k = 1 ∨ k = 2 by omega) with rfl | rfl | rfl <;> rfl
  · obtain ⟨g', w', hw', rfl⟩ : ∃ g' w', w' < 34 ∧ k = 3 + 34 * g' + w' := ⟨(k - 3) / 34, (k - 3) % 34, Nat.mod_lt _ (by omega), by omega⟩
    rw [flat_g _ hw']
    show _ = va_up v.2.2.2 g (upd (v.2.2.2 g) w z) g' w'
    by_cases eg : g' = g
    · subst eg
      rw [va_up_self]
      by_cases ew : w' = w
      · subst ew; rw [pk_us, pk_us]
      · rw [pk_un (by omega), pk_un ew, flat_g _ hw']
    · rw [va_up_ne _ _ eg, pk_un (by omega), flat_g _ hw']
theorem flat_1 (v : NV) (z : Int32) (k : Nat) : upd (flat v) 1 z k = flat (v.1, z, v.2.2.1, v.2.2.2) k := by
  by_cases h : k = 1
  · subst h; rw [pk_us]; rfl
  · rw [pk_un h]; unfold flat; rw [if_neg h, if_neg h]
theorem flat_2 (v : NV) (z : Int32) (k : Nat) : upd (flat v) 2 z k = flat (v.1, v.2.1, z, v.2.2.2) k := by
  by_cases h : k = 2
  · subst h; rw [pk_us]; rfl
  · rw [pk_un h]; unfold flat; rw [if_neg h, if_neg h]
theorem vput_up (p q r : Int32) (f : Nat → Nat → Int32) (g w : Nat) (X : Nat → Int32) (z : Int32) : vput (p, q, r, va_up f g X) g w z = (p, q, r, va_up f g (upd X w z)) := by
  unfold vput; dsimp only; rw [va_up_up, va_up_self]
theorem ix34 {g w : Nat} : 3 + 34 * nI g + nI w = nI (3 + 34 * g + w) := by
  rw [show (3 : Int32) = nI 3 by decide, show (34 : Int32) = nI 34 by decide, pk_mul, nI_add, nI_add]
theorem ix4 {i k : Nat} : 10 + 4 * nI i + nI k = nI (10 + 4 * i + k) := by
  rw [show (10 : Int32) = nI 10 by decide, show (4 : Int32) = nI 4 by decide, pk_mul, nI_add, nI_add]
def mfs (c : Nat) (dd : Int32) (sd : Int64) (en : Int32) (wh : Int64) (ro : Int32) : List Value := [.ref (c + 1), .ref (c + 2), .int dd, .ref (c + 3), .ref (c + 4), .ref (c + 5), .long sd, .ref (c + 6), .int en, .ref (c + 7), .long wh, .ref (c + 8), .ref (c + 9), .ref (c + 10), .int ro]
def Mm (E : Ev) (c : Nat) (nw : Nat → Int32) (pf : Nat → Int32) (im : Nat → Int32) (ss : Nat → Int64) (kp : Nat → Int32) (bk : Nat → Int32) (ws : Nat → Int64) (cm : Nat → Int32) (ls : Nat → Int32) (nq : Nat → Int32) (dd : Int32) (sd : Int64) (en : Int32) (wh : Int64) (ro : Int32) (H : Heap) : Prop := ob E 10 c (mfs c dd sd en wh ro) H ∧ ai E (c + 1) 139 nw H ∧ ai E (c + 2) 2780 pf H ∧ ai E (c + 3) 278 im H ∧ aj E (c + 4) 2 ss H ∧ az E (c + 5) 2 kp H ∧ ai E (c + 6) 60 bk H ∧ aj E (c + 7) 7 ws H ∧ ai E (c + 8) 4 cm H ∧ ai E (c + 9) 4 ls H ∧ ai E (c + 10) 4 nq H
theorem az_kept {E : Ev} {a n : Nat} {f : Nat → Int32} {H H' : Heap} (h : az E a n f H) (hq : H'[a]? = H[a]?) : az E a n f H' := va_at.kept h hq
theorem Mm.fld {E : Ev} {c : Nat} {nw : Nat → Int32} {pf : Nat → Int32} {im : Nat → Int32} {ss : Nat → Int64} {kp : Nat → Int32} {bk : Nat → Int32} {ws : Nat → Int64} {cm : Nat → Int32} {ls : Nat → Int32} {nq : Nat → Int32} {dd : Int32} {sd : Int64} {en : Int32} {wh : Int64} {ro : Int32} {dd' : Int32} {sd' : Int64} {en' : Int32} {wh' : Int64} {ro' : Int32} {H H' : Heap} (h : Mm E c nw pf im ss kp bk ws cm ls nq dd sd en wh ro H) (h1 : ob E 10 c (mfs c dd' sd' en' wh' ro') H') (h2 : but c H H') : Mm E c nw pf im ss kp bk ws cm ls nq dd' sd' en' wh' ro' H' :=
  ⟨h1, ai_kept h.2.1 (h2.2 _ (by omega)), ai_kept h.2.2.1 (h2.2 _ (by omega)), ai_kept h.2.2.2.1 (h2.2 _ (by omega)), aj_kept h.2.2.2.2.1 (h2.2 _ (by omega)), az_kept h.2.2.2.2.2.1 (h2.2 _ (by omega)), ai_kept h.2.2.2.2.2.2.1 (h2.2 _ (by omega)), aj_kept h.2.2.2.2.2.2.2.1 (h2.2 _ (by omega)), ai_kept h.2.2.2.2.2.2.2.2.1 (h2.2 _ (by omega)), ai_kept h.2.2.2.2.2.2.2.2.2.1 (h2.2 _ (by omega)), ai_kept h.2.2.2.2.2.2.2.2.2.2 (h2.2 _ (by omega))⟩
theorem Mm.nw {E : Ev} {c : Nat} {nw : Nat → Int32} {pf : Nat → Int32} {im : Nat → Int32} {ss : Nat → Int64} {kp : Nat → Int32} {bk : Nat → Int32} {ws : Nat → Int64} {cm : Nat → Int32} {ls : Nat → Int32} {nq : Nat → Int32} {dd : Int32} {sd : Int64} {en : Int32} {wh : Int64} {ro : Int32} {z' : Nat → Int32} {H H' : Heap} (h : Mm E c nw pf im ss kp bk ws cm ls nq dd sd en wh ro H) (h1 : ai E (c + 1) 139 z' H') (h2 : but (c + 1) H H') : Mm E c z' pf im ss kp bk ws cm ls nq dd sd en wh ro H' :=
  ⟨ob_kept h.1 (h2.2 _ (by omega)), h1, ai_kept h.2.2.1 (h2.2 _ (by omega)), ai_kept h.2.2.2.1 (h2.2 _ (by omega)), aj_kept h.2.2.2.2.1 (h2.2 _ (by omega)), az_kept h.2.2.2.2.2.1 (h2.2 _ (by omega)), ai_kept h.2.2.2.2.2.2.1 (h2.2 _ (by omega)), aj_kept h.2.2.2.2.2.2.2.1 (h2.2 _ (by omega)), ai_kept h.2.2.2.2.2.2.2.2.1 (h2.2 _ (by omega)), ai_kept h.2.2.2.2.2.2.2.2.2.1 (h2.2 _ (by omega)), ai_kept h.2.2.2.2.2.2.2.2.2.2 (h2.2 _ (by omega))⟩
theorem Mm.pf {E : Ev} {c : Nat} {nw : Nat → Int32} {pf : Nat → Int32} {im : Nat → Int32} {ss : Nat → Int64} {kp : Nat → Int32} {bk : Nat → Int32} {ws : Nat → Int64} {cm : Nat → Int32} {ls : Nat → Int32} {nq : Nat → Int32} {dd : Int32} {sd : Int64} {en : Int32} {wh : Int64} {ro : Int32} {z' : Nat → Int32} {H H' : Heap} (h : Mm E c nw pf im ss kp bk ws cm ls nq dd sd en wh ro H) (h1 : ai E (c + 2) 2780 z' H') (h2 : but (c + 2) H H') : Mm E c nw z' im ss kp bk ws cm ls nq dd sd en wh ro H' :=
  ⟨ob_kept h.1 (h2.2 _ (by omega)), ai_kept h.2.1 (h2.2 _ (by omega)), h1, ai_kept h.2.2.2.1 (h2.2 _ (by omega)), aj_kept h.2.2.2.2.1 (h2.2 _ (by omega)), az_kept h.2.2.2.2.2.1 (h2.2 _ (by omega)), ai_kept h.2.2.2.2.2.2.1 (h2.2 _ (by omega)), aj_kept h.2.2.2.2.2.2.2.1 (h2.2 _ (by omega)), ai_kept h.2.2.2.2.2.2.2.2.1 (h2.2 _ (by omega)), ai_kept h.2.2.2.2.2.2.2.2.2.1 (h2.2 _ (by omega)), ai_kept h.2.2.2.2.2.2.2.2.2.2 (h2.2 _ (by omega))⟩
theorem Mm.im {E : Ev} {c : Nat} {nw : Nat → Int32} {pf : Nat → Int32} {im : Nat → Int32} {ss : Nat → Int64} {kp : Nat → Int32} {bk : Nat → Int32} {ws : Nat → Int64} {cm : Nat → Int32} {ls : Nat → Int32} {nq : Nat → Int32} {dd : Int32} {sd : Int64} {en : Int32} {wh : Int64} {ro : Int32} {z' : Nat → Int32} {H H' : Heap} (h : Mm E c nw pf im ss kp bk ws cm ls nq dd sd en wh ro H) (h1 : ai E (c + 3) 278 z' H') (h2 : but (c + 3) H H') : Mm E c nw pf z' ss kp bk ws cm ls nq dd sd en wh ro H' :=
  ⟨ob_kept h.1 (h2.2 _ (by omega)), ai_kept h.2.1 (h2.2 _ (by omega)), ai_kept h.2.2.1 (h2.2 _ (by omega)), h1, aj_kept h.2.2.2.2.1 (h2.2 _ (by omega)), az_kept h.2.2.2.2.2.1 (h2.2 _ (by omega)), ai_kept h.2.2.2.2.2.2.1 (h2.2 _ (by omega)), aj_kept h.2.2.2.2.2.2.2.1 (h2.2 _ (by omega)), ai_kept h.2.2.2.2.2.2.2.2.1 (h2.2 _ (by omega)), ai_kept h.2.2.2.2.2.2.2.2.2.1 (h2.2 _ (by omega)), ai_kept h.2.2.2.2.2.2.2.2.2.2 (h2.2 _ (by omega))⟩
theorem Mm.ss {E : Ev} {c : Nat} {nw : Nat → Int32} {pf : Nat → Int32} {im : Nat → Int32} {ss : Nat → Int64} {kp : Nat → Int32} {bk : Nat → Int32} {ws : Nat → Int64} {cm : Nat → Int32} {ls : Nat → Int32} {nq : Nat → Int32} {dd : Int32} {sd : Int64} {en : Int32} {wh : Int64} {ro : Int32} {z' : Nat → Int64} {H H' : Heap} (h : Mm E c nw pf im ss kp bk ws cm ls nq dd sd en wh ro H) (h1 : aj E (c + 4) 2 z' H') (h2 : but (c + 4) H H') : Mm E c nw pf im z' kp bk ws cm ls nq dd sd en wh ro H' :=
  ⟨ob_kept h.1 (h2.2 _ (by omega)), ai_kept h.2.1 (h2.2 _ (by omega)), ai_kept h.2.2.1 (h2.2 _ (by omega)), ai_kept h.2.2.2.1 (h2.2 _ (by omega)), h1, az_kept h.2.2.2.2.2.1 (h2.2 _ (by omega)), ai_kept h.2.2.2.2.2.2.1 (h2.2 _ (by omega)), aj_kept h.2.2.2.2.2.2.2.1 (h2.2 _ (by omega)), ai_kept h.2.2.2.2.2.2.2.2.1 (h2.2 _ (by omega)), ai_kept h.2.2.2.2.2.2.2.2.2.1 (h2.2 _ (by omega)), ai_kept h.2.2.2.2.2.2.2.2.2.2 (h2.2 _ (by omega))⟩
theorem Mm.kp {E : Ev} {c : Nat} {nw : Nat → Int32} {pf : Nat → Int32} {im : Nat → Int32} {ss : Nat → Int64} {kp : Nat → Int32} {bk : Nat → Int32} {ws : Nat → Int64} {cm : Nat → Int32} {ls : Nat → Int32} {nq : Nat → Int32} {dd : Int32} {sd : Int64} {en : Int32} {wh : Int64} {ro : Int32} {z' : Nat → Int32} {H H' : Heap} (h : Mm E c nw pf im ss kp bk ws cm ls nq dd sd en wh ro H) (h1 : az E (c + 5) 2 z' H') (h2 : but (c + 5) H H') : Mm E c nw pf im ss z' bk ws cm ls nq dd sd en wh ro H' :=
  ⟨ob_kept h.1 (h2.2 _ (by omega)), ai_kept h.2.1 (h2.2 _ (by omega)), ai_kept h.2.2.1 (h2.2 _ (by omega)), ai_kept h.2.2.2.1 (h2.2 _ (by omega)), aj_kept h.2.2.2.2.1 (h2.2 _ (by omega)), h1, ai_kept h.2.2.2.2.2.2.1 (h2.2 _ (by omega)), aj_kept h.2.2.2.2.2.2.2.1 (h2.2 _ (by omega)), ai_kept h.2.2.2.2.2.2.2.2.1 (h2.2 _ (by omega)), ai_kept h.2.2.2.2.2.2.2.2.2.1 (h2.2 _ (by omega)), ai_kept h.2.2.2.2.2.2.2.2.2.2 (h2.2 _ (by omega))⟩
theorem Mm.bk {E : Ev} {c : Nat} {nw : Nat → Int32} {pf : Nat → Int32} {im : Nat → Int32} {ss : Nat → Int64} {kp : Nat → Int32} {bk : Nat → Int32} {ws : Nat → Int64} {cm : Nat → Int32} {ls : Nat → Int32} {nq : Nat → Int32} {dd : Int32} {sd : Int64} {en : Int32} {wh : Int64} {ro : Int32} {z' : Nat → Int32} {H H' : Heap} (h : Mm E c nw pf im ss kp bk ws cm ls nq dd sd en wh ro H) (h1 : ai E (c + 6) 60 z' H') (h2 : but (c + 6) H H') : Mm E c nw pf im ss kp z' ws cm ls nq dd sd en wh ro H' :=
  ⟨ob_kept h.1 (h2.2 _ (by omega)), ai_kept h.2.1 (h2.2 _ (by omega)), ai_kept h.2.2.1 (h2.2 _ (by omega)), ai_kept h.2.2.2.1 (h2.2 _ (by omega)), aj_kept h.2.2.2.2.1 (h2.2 _ (by omega)), az_kept h.2.2.2.2.2.1 (h2.2 _ (by omega)), h1, aj_kept h.2.2.2.2.2.2.2.1 (h2.2 _ (by omega)), ai_kept h.2.2.2.2.2.2.2.2.1 (h2.2 _ (by omega)), ai_kept h.2.2.2.2.2.2.2.2.2.1 (h2.2 _ (by omega)), ai_kept h.2.2.2.2.2.2.2.2.2.2 (h2.2 _ (by omega))⟩
theorem Mm.ws {E : Ev} {c : Nat} {nw : Nat → Int32} {pf : Nat → Int32} {im : Nat → Int32} {ss : Nat → Int64} {kp : Nat → Int32} {bk : Nat → Int32} {ws : Nat → Int64} {cm : Nat → Int32} {ls : Nat → Int32} {nq : Nat → Int32} {dd : Int32} {sd : Int64} {en : Int32} {wh : Int64} {ro : Int32} {z' : Nat → Int64} {H H' : Heap} (h : Mm E c nw pf im ss kp bk ws cm ls nq dd sd en wh ro H) (h1 : aj E (c + 7) 7 z' H') (h2 : but (c + 7) H H') : Mm E c nw pf im ss kp bk z' cm ls nq dd sd en wh ro H' :=
  ⟨ob_kept h.1 (h2.2 _ (by omega)), ai_kept h.2.1 (h2.2 _ (by omega)), ai_kept h.2.2.1 (h2.2 _ (by omega)), ai_kept h.2.2.2.1 (h2.2 _ (by omega)), aj_kept h.2.2.2.2.1 (h2.2 _ (by omega)), az_kept h.2.2.2.2.2.1 (h2.2 _ (by omega)), ai_kept h.2.2.2.2.2.2.1 (h2.2 _ (by omega)), h1, ai_kept h.2.2.2.2.2.2.2.2.1 (h2.2 _ (by omega)), ai_kept h.2.2.2.2.2.2.2.2.2.1 (h2.2 _ (by omega)), ai_kept h.2.2.2.2.2.2.2.2.2.2 (h2.2 _ (by omega))⟩
theorem Mm.cm {E : Ev} {c : Nat} {nw : Nat → Int32} {pf : Nat → Int32} {im : Nat → Int32} {ss : Nat → Int64} {kp : Nat → Int32} {bk : Nat → Int32} {ws : Nat → Int64} {cm : Nat → Int32} {ls : Nat → Int32} {nq : Nat → Int32} {dd : Int32} {sd : Int64} {en : Int32} {wh : Int64} {ro : Int32} {z' : Nat → Int32} {H H' : Heap} (h : Mm E c nw pf im ss kp bk ws cm ls nq dd sd en wh ro H) (h1 : ai E (c + 8) 4 z' H') (h2 : but (c + 8) H H') : Mm E c nw pf im ss kp bk ws z' ls nq dd sd en wh ro H' :=
  ⟨ob_kept h.1 (h2.2 _ (by omega)), ai_kept h.2.1 (h2.2 _ (by omega)), ai_kept h.2.2.1 (h2.2 _ (by omega)), ai_kept h.2.2.2.1 (h2.2 _ (by omega)), aj_kept h.2.2.2.2.1 (h2.2 _ (by omega)), az_kept h.2.2.2.2.2.1 (h2.2 _ (by omega)), ai_kept h.2.2.2.2.2.2.1 (h2.2 _ (by omega)), aj_kept h.2.2.2.2.2.2.2.1 (h2.2 _ (by omega)), h1, ai_kept h.2.2.2.2.2.2.2.2.2.1 (h2.2 _ (by omega)), ai_kept h.2.2.2.2.2.2.2.2.2.2 (h2.2 _ (by omega))⟩
theorem Mm.ls {E : Ev} {c : Nat} {nw : Nat → Int32} {pf : Nat → Int32} {im : Nat → Int32} {ss : Nat → Int64} {kp : Nat → Int32} {bk : Nat → Int32} {ws : Nat → Int64} {cm : Nat → Int32} {ls : Nat → Int32} {nq : Nat → Int32} {dd : Int32} {sd : Int64} {en : Int32} {wh : Int64} {ro : Int32} {z' : Nat → Int32} {H H' : Heap} (h : Mm E c nw pf im ss kp bk ws cm ls nq dd sd en wh ro H) (h1 : ai E (c + 9) 4 z' H') (h2 : but (c + 9) H H') : Mm E c nw pf im ss kp bk ws cm z' nq dd sd en wh ro H' :=
  ⟨ob_kept h.1 (h2.2 _ (by omega)), ai_kept h.2.1 (h2.2 _ (by omega)), ai_kept h.2.2.1 (h2.2 _ (by omega)), ai_kept h.2.2.2.1 (h2.2 _ (by omega)), aj_kept h.2.2.2.2.1 (h2.2 _ (by omega)), az_kept h.2.2.2.2.2.1 (h2.2 _ (by omega)), ai_kept h.2.2.2.2.2.2.1 (h2.2 _ (by omega)), aj_kept h.2.2.2.2.2.2.2.1 (h2.2 _ (by omega)), ai_kept h.2.2.2.2.2.2.2.2.1 (h2.2 _ (by omega)), h1, ai_kept h.2.2.2.2.2.2.2.2.2.2 (h2.2 _ (by omega))⟩
theorem Mm.nq {E : Ev} {c : Nat} {nw : Nat → Int32} {pf : Nat → Int32} {im : Nat → Int32} {ss : Nat → Int64} {kp : Nat → Int32} {bk : Nat → Int32} {ws : Nat → Int64} {cm : Nat → Int32} {ls : Nat → Int32} {nq : Nat → Int32} {dd : Int32} {sd : Int64} {en : Int32} {wh : Int64} {ro : Int32} {z' : Nat → Int32} {H H' : Heap} (h : Mm E c nw pf im ss kp bk ws cm ls nq dd sd en wh ro H) (h1 : ai E (c + 10) 4 z' H') (h2 : but (c + 10) H H') : Mm E c nw pf im ss kp bk ws cm ls z' dd sd en wh ro H' :=
  ⟨ob_kept h.1 (h2.2 _ (by omega)), ai_kept h.2.1 (h2.2 _ (by omega)), ai_kept h.2.2.1 (h2.2 _ (by omega)), ai_kept h.2.2.2.1 (h2.2 _ (by omega)), aj_kept h.2.2.2.2.1 (h2.2 _ (by omega)), az_kept h.2.2.2.2.2.1 (h2.2 _ (by omega)), ai_kept h.2.2.2.2.2.2.1 (h2.2 _ (by omega)), aj_kept h.2.2.2.2.2.2.2.1 (h2.2 _ (by omega)), ai_kept h.2.2.2.2.2.2.2.2.1 (h2.2 _ (by omega)), ai_kept h.2.2.2.2.2.2.2.2.2.1 (h2.2 _ (by omega)), h1⟩
theorem Mm.to {E : Ev} {c : Nat} {nw : Nat → Int32} {pf : Nat → Int32} {im : Nat → Int32} {ss : Nat → Int64} {kp : Nat → Int32} {bk : Nat → Int32} {ws : Nat → Int64} {cm : Nat → Int32} {ls : Nat → Int32} {nq : Nat → Int32} {dd : Int32} {sd : Int64} {en : Int32} {wh : Int64} {ro : Int32} {w' : Nat → Int32} {H : Heap} (h : Mm E c nw pf im ss kp bk ws cm ls nq dd sd en wh ro H) (e : ∀ k, k < 139 → nw k = w' k) : Mm E c w' pf im ss kp bk ws cm ls nq dd sd en wh ro H := ⟨h.1, ai_congr e h.2.1, h.2.2⟩
set_option maxRecDepth 100000 in
set_option maxHeartbeats 16000000 in
theorem c_M_in (l : Launch) (E : Ev) (z a b : Int32) (P : Heap → Prop) (r : Int32) (hr : r = if a ≤ z ∧ z ≤ b then 1 else 0) : Ct l E yX10_in cX10_in 3 (some .boolean) (rm 1) [.int z, .int a, .int b] P (rV (some (.int r)) P) (fun _ => False) := by
  refine ct_start (by decide) [some (.int z), some (.int a), some (.int b)] rfl (Nat.le_of_ble_eq_true rfl) ?_
  intro x hF hN hA hR
  subst hr
  refine g_iload_n hF dX10_in_0 1 rfl rfl ?_
  refine g_iload_n hF dX10_in_1 2 rfl rfl ?_
  refine g_icmp_lt hF dX10_in_2 5 rfl 14 (by decide) (fun c2 => ?_) (fun c2 => ?_)
  · refine g_iconst hF (0) dX10_in_14 15 rfl rfl ?_
    exact g_zret hF (rfl) dX10_in_15 (Nat.le_of_ble_eq_true rfl) (Nat.le_of_ble_eq_true rfl) (fun H h => hR _ _ ⟨congrArg (fun z => some (Value.int z)) ((if_neg (fun h => absurd h.1 (Int32.not_le.mpr c2))).symm), h⟩)
  · refine g_iload_n hF dX10_in_5 6 rfl rfl ?_
    refine g_iload_n hF dX10_in_6 7 rfl rfl ?_
    refine g_icmp_gt hF dX10_in_7 10 rfl 14 (by decide) (fun c7 => ?_) (fun c7 => ?_)
    · refine g_iconst hF (0) dX10_in_14 15 rfl rfl ?_
      exact g_zret hF (rfl) dX10_in_15 (Nat.le_of_ble_eq_true rfl) (Nat.le_of_ble_eq_true rfl) (fun H h => hR _ _ ⟨congrArg (fun z => some (Value.int z)) ((if_neg (fun h => absurd h.2 (Int32.not_le.mpr c7))).symm), h⟩)
    · refine g_iconst hF (1) dX10_in_10 11 rfl rfl ?_
      refine g_goto hF dX10_in_11 15 (by decide) ?_
      exact g_zret hF (rfl) dX10_in_15 (Nat.le_of_ble_eq_true rfl) (Nat.le_of_ble_eq_true rfl) (fun H h => hR _ _ ⟨congrArg (fun z => some (Value.int z)) ((if_pos ⟨Int32.not_lt.mp c2, Int32.not_lt.mp c7⟩).symm), h⟩)
theorem in_gr {z : Int32} {G : Nat} (h1 : 1 ≤ G) (h2 : G < 2 ^ 31) : (0 ≤ z ∧ z ≤ nI G - 1) ↔ ¬ (z < 0 ∨ nI G ≤ z) := by
  obtain ⟨n, rfl⟩ : ∃ n, G = n + 1 := ⟨G - 1, by omega⟩
  rw [nI_pred]
  rw [not_or, Int32.not_lt, Int32.not_le, Int32.le_iff_toInt_le, Int32.le_iff_toInt_le, Int32.lt_iff_toInt_lt, nI_toInt (by omega), nI_toInt h2]
  constructor
  · rintro ⟨a, b⟩; exact ⟨a, by omega⟩
  · rintro ⟨a, b⟩; exact ⟨a, by omega⟩
section MV1
variable (l : Launch) (E : Ev) (c : Nat) (v : NV) (pf im : Nat → Int32) (ss : Nat → Int64) (kp bk : Nat → Int32) (ws : Nat → Int64) (cm ls nq : Nat → Int32) (dd : Int32) (sd : Int64) (en : Int32) (wh : Int64) (ro : Int32)
set_option maxRecDepth 100000 in
set_option maxHeartbeats 16000000 in
theorem c_M_isGroup (G : Nat) (hG : v.1 = nI G) (G1 : 1 ≤ G) (G4 : G ≤ 4) (z : Int32) : Ct l E yX10_isGroup cX10_isGroup 2 (some .boolean) (rm 2) [.ref c, .int z] (Mm E c (flat v) pf im ss kp bk ws cm ls nq dd sd en wh ro) (rV (some (.int (if z < 0 ∨ v.1 ≤ z then 0 else 1))) (Mm E c (flat v) pf im ss kp bk ws cm ls nq dd sd en wh ro)) (fun _ => False) := by
  refine ct_start (by decide) [some (.ref c), some (.int z)] rfl (Nat.le_of_ble_eq_true rfl) ?_
  intro x hF hN hA hR
  have e0 : flat v (0 : Int32).toNatClampNeg = nI G := hG
  refine g_iload_n hF dX10_isGroup_0 1 rfl rfl ?_
  refine g_iconst hF (0) dX10_isGroup_1 2 rfl rfl ?_
  refine g_aload_n hF dX10_isGroup_2 3 rfl rfl ?_
  refine g_get hF fl_X10_7 dX10_isGroup_3 6 rfl (by intro H h; first | exact h.1 | exact h.2.1 | exact h.2.2.1 | exact h.2.2.2.1 | exact h.2.2.2.2.1 | exact h.2.2.2.2.2.1 | exact h.2.2.2.2.2.2.1 | exact h.2.2.2.2.2.2.2.1 | exact h.2.2.2.2.2.2.2.2.1 | exact h.2.2.2.2.2.2.2.2.2.1 | exact h.2.2.2.2.2.2.2.2.2.2) rfl ?_
  refine g_iconst hF (0) dX10_isGroup_6 7 rfl rfl ?_
  refine g_iald hF dX10_isGroup_7 8 rfl (by intro H h; first | exact h.1 | exact h.2.1 | exact h.2.2.1 | exact h.2.2.2.1 | exact h.2.2.2.2.1 | exact h.2.2.2.2.2.1 | exact h.2.2.2.2.2.2.1 | exact h.2.2.2.2.2.2.2.1 | exact h.2.2.2.2.2.2.2.2.1 | exact h.2.2.2.2.2.2.2.2.2.1 | exact h.2.2.2.2.2.2.2.2.2.2) (vp_in_nI (show 0 < 139 by omega) (by omega)) ?_
  rw [e0]
  refine g_iconst hF (1) dX10_isGroup_8 9 rfl rfl ?_
  refine g_isub hF dX10_isGroup_9 10 rfl ?_
  refine g_callS hF cs_X10_46 (c_M_in l E z 0 (nI G - 1) (Mm E c (flat v) pf im ss kp bk ws cm ls nq dd sd en wh ro) (if z < 0 ∨ v.1 ≤ z then 0 else 1) (by rw [hG]; by_cases h : z < 0 ∨ nI G ≤ z; rw [if_pos h, if_neg (fun q => (in_gr G1 (by omega)).mp q h)]; rw [if_neg h, if_pos ((in_gr G1 (by omega)).mpr h)])) dX10_isGroup_10 13 rfl (st := []) rfl rfl ⟨Nat.le_of_ble_eq_true rfl, Nat.le_of_ble_eq_true rfl⟩ ⟨Nat.le_of_ble_eq_true rfl, Nat.le_of_ble_eq_true rfl⟩ rfl (Nat.le_of_ble_eq_true rfl) (Pr' := _) (fun _ h => h) (fun q z => z.elim) (fun _ _ _ h _ => by exact h) (st1 := [_]) rfl (k1 := 0) (n1 := 0) rfl rfl ?_
  exact g_zret hF (by split <;> rfl) dX10_isGroup_13 (Nat.le_of_ble_eq_true rfl) (Nat.le_of_ble_eq_true rfl) (fun H h => hR _ _ ⟨congrArg (fun z => some (Value.int z)) (rfl), h⟩)
set_option maxRecDepth 100000 in
set_option maxHeartbeats 16000000 in
theorem c_M_of (g w : Nat) (hg : g < 4) (hw : w < 34) : Ct l E yX10_of cX10_of 3 (some .int) (rm 1) [.ref c, .int (nI g), .int (nI w)] (Mm E c (flat v) pf im ss kp bk ws cm ls nq dd sd en wh ro) (rV (some (.int (v.2.2.2 g w))) (Mm E c (flat v) pf im ss kp bk ws cm ls nq dd sd en wh ro)) (fun _ => False) := by
  refine ct_start (by decide) [some (.ref c), some (.int (nI g)), some (.int (nI w))] rfl (Nat.le_of_ble_eq_true rfl) ?_
  intro x hF hN hA hR
  refine g_aload_n hF dX10_of_0 1 rfl rfl ?_
  refine g_get hF fl_X10_7 dX10_of_1 4 rfl (by intro H h; first | exact h.1 | exact h.2.1 | exact h.2.2.1 | exact h.2.2.2.1 | exact h.2.2.2.2.1 | exact h.2.2.2.2.2.1 | exact h.2.2.2.2.2.2.1 | exact h.2.2.2.2.2.2.2.1 | exact h.2.2.2.2.2.2.2.2.1 | exact h.2.2.2.2.2.2.2.2.2.1 | exact h.2.2.2.2.2.2.2.2.2.2) rfl ?_
  refine g_iconst hF (3) dX10_of_4 5 rfl rfl ?_
  refine g_bipush hF (34) dX10_of_5 7 rfl rfl ?_
  refine g_iload_n hF dX10_of_7 8 rfl rfl ?_
  refine g_imul hF dX10_of_8 9 rfl ?_
  refine g_iadd hF dX10_of_9 10 rfl ?_
  refine g_iload_n hF dX10_of_10 11 rfl rfl ?_
  refine g_iadd hF dX10_of_11 12 rfl ?_
  rw [ix34]
  refine g_iald hF dX10_of_12 13 rfl (by intro H h; first | exact h.1 | exact h.2.1 | exact h.2.2.1 | exact h.2.2.2.1 | exact h.2.2.2.2.1 | exact h.2.2.2.2.2.1 | exact h.2.2.2.2.2.2.1 | exact h.2.2.2.2.2.2.2.1 | exact h.2.2.2.2.2.2.2.2.1 | exact h.2.2.2.2.2.2.2.2.2.1 | exact h.2.2.2.2.2.2.2.2.2.2) (vp_in_nI (show 3 + 34 * g + w < 139 by omega) (by omega)) ?_
  rw [nI_clamp (by omega), flat_g _ hw]
  exact g_iret hF dX10_of_13 (Nat.le_of_ble_eq_true rfl) (Nat.le_of_ble_eq_true rfl) (fun H h => hR _ _ ⟨congrArg (fun z => some (Value.int z)) (rfl), h⟩)
set_option maxRecDepth 100000 in
set_option maxHeartbeats 16000000 in
theorem c_M_put (g w : Nat) (z : Int32) (hg : g < 4) (hw : w < 34) : Ct l E yX10_put cX10_put 4 (none) (rm 1) [.ref c, .int (nI g), .int (nI w), .int z] (Mm E c (flat v) pf im ss kp bk ws cm ls nq dd sd en wh ro) (rV none (Mm E c (flat (vput v g w z)) pf im ss kp bk ws cm ls nq dd sd en wh ro)) (rg c 11) := by
  refine ct_start (by decide) [some (.ref c), some (.int (nI g)), some (.int (nI w)), some (.int z)] rfl (Nat.le_of_ble_eq_true rfl) ?_
  intro x hF hN hA hR
  refine g_aload_n hF dX10_put_0 1 rfl rfl ?_
  refine g_get hF fl_X10_7 dX10_put_1 4 rfl (by intro H h; first | exact h.1 | exact h.2.1 | exact h.2.2.1 | exact h.2.2.2.1 | exact h.2.2.2.2.1 | exact h.2.2.2.2.2.1 | exact h.2.2.2.2.2.2.1 | exact h.2.2.2.2.2.2.2.1 | exact h.2.2.2.2.2.2.2.2.1 | exact h.2.2.2.2.2.2.2.2.2.1 | exact h.2.2.2.2.2.2.2.2.2.2) rfl ?_
  refine g_iconst hF (3) dX10_put_4 5 rfl rfl ?_
  refine g_bipush hF (34) dX10_put_5 7 rfl rfl ?_
  refine g_iload_n hF dX10_put_7 8 rfl rfl ?_
  refine g_imul hF dX10_put_8 9 rfl ?_
  refine g_iadd hF dX10_put_9 10 rfl ?_
  refine g_iload_n hF dX10_put_10 11 rfl rfl ?_
  refine g_iadd hF dX10_put_11 12 rfl ?_
  rw [ix34]
  refine g_iload_n hF dX10_put_12 13 rfl rfl ?_
  refine g_iast hF dX10_put_13 14 rfl (by intro H h; first | exact h.1 | exact h.2.1 | exact h.2.2.1 | exact h.2.2.2.1 | exact h.2.2.2.2.1 | exact h.2.2.2.2.2.1 | exact h.2.2.2.2.2.2.1 | exact h.2.2.2.2.2.2.2.1 | exact h.2.2.2.2.2.2.2.2.1 | exact h.2.2.2.2.2.2.2.2.2.1 | exact h.2.2.2.2.2.2.2.2.2.2) (vp_in_nI (show 3 + 34 * g + w < 139 by omega) (by omega)) (hA _ ⟨by omega, by omega⟩) (Pr' := Mm E c (flat (vput v g w z)) pf im ss kp bk ws cm ls nq dd sd en wh ro) (fun H H' h h1 h2 => by rw [nI_clamp (by omega)] at h1; exact (h.nw h1 h2).to (fun k _ => flat_put v hw z k)) ?_
  exact g_vret hF dX10_put_14 (Nat.le_of_ble_eq_true rfl) (Nat.le_of_ble_eq_true rfl) (fun H h => hR _ _ ⟨rfl, h⟩)
set_option maxRecDepth 100000 in
set_option maxHeartbeats 16000000 in
theorem c_M_ofL (g i w : Nat) (hg : g < 4) (hi : i < 6) (hw : w < 4) : Ct l E yX10_ofL cX10_ofL 4 (some .int) (rm 2) [.ref c, .int (nI g), .int (nI i), .int (nI w)] (Mm E c (flat v) pf im ss kp bk ws cm ls nq dd sd en wh ro) (rV (some (.int (v.2.2.2 g (10 + 4 * i + w)))) (Mm E c (flat v) pf im ss kp bk ws cm ls nq dd sd en wh ro)) (fun _ => False) := by
  refine ct_start (by decide) [some (.ref c), some (.int (nI g)), some (.int (nI i)), some (.int (nI w))] rfl (Nat.le_of_ble_eq_true rfl) ?_
  intro x hF hN hA hR
  refine g_aload_n hF dX10_ofL_0 1 rfl rfl ?_
  refine g_iload_n hF dX10_ofL_1 2 rfl rfl ?_
  refine g_bipush hF (10) dX10_ofL_2 4 rfl rfl ?_
  refine g_iconst hF (4) dX10_ofL_4 5 rfl rfl ?_
  refine g_iload_n hF dX10_ofL_5 6 rfl rfl ?_
  refine g_imul hF dX10_ofL_6 7 rfl ?_
  refine g_iadd hF dX10_ofL_7 8 rfl ?_
  refine g_iload_n hF dX10_ofL_8 9 rfl rfl ?_
  refine g_iadd hF dX10_ofL_9 10 rfl ?_
  rw [ix4]
  refine g_callV hF cv_X10_54 (c_M_of l E c v pf im ss kp bk ws cm ls nq dd sd en wh ro g (10 + 4 * i + w) hg (by omega)) dX10_ofL_10 13 rfl (st := []) rfl rfl ⟨Nat.le_of_ble_eq_true rfl, Nat.le_of_ble_eq_true rfl⟩ ⟨Nat.le_of_ble_eq_true rfl, Nat.le_of_ble_eq_true rfl⟩ rfl (Nat.le_of_ble_eq_true rfl) 10 rfl (by intro H h; first | exact h.1 | exact h.2.1 | exact h.2.2.1 | exact h.2.2.2.1 | exact h.2.2.2.2.1 | exact h.2.2.2.2.2.1 | exact h.2.2.2.2.2.2.1 | exact h.2.2.2.2.2.2.2.1 | exact h.2.2.2.2.2.2.2.2.1 | exact h.2.2.2.2.2.2.2.2.2.1 | exact h.2.2.2.2.2.2.2.2.2.2) (Pr' := _) (fun _ h => h) (hA) (fun _ _ _ h _ => by exact h) (st1 := [_]) rfl (k1 := 0) (n1 := 0) rfl rfl ?_
  exact g_iret hF dX10_ofL_13 (Nat.le_of_ble_eq_true rfl) (Nat.le_of_ble_eq_true rfl) (fun H h => hR _ _ ⟨congrArg (fun z => some (Value.int z)) (rfl), h⟩)
set_option maxRecDepth 100000 in
set_option maxHeartbeats 16000000 in
theorem c_M_putL (g i : Nat) (z0 z1 z2 z3 : Int32) (hg : g < 4) (hi : i < 6) : Ct l E yX10_putL cX10_putL 7 (none) (rm 2) [.ref c, .int (nI g), .int (nI i), .int z0, .int z1, .int z2, .int z3] (Mm E c (flat v) pf im ss kp bk ws cm ls nq dd sd en wh ro) (rV none (Mm E c (flat (v.1, v.2.1, v.2.2.1, va_up v.2.2.2 g (upd (upd (upd (upd (v.2.2.2 g) (10 + 4 * i) z0) (11 + 4 * i) z1) (12 + 4 * i) z2) (13 + 4 * i) z3))) pf im ss kp bk ws cm ls nq dd sd en wh ro)) (rg c 11) := by
  refine ct_start (by decide) [some (.ref c), some (.int (nI g)), some (.int (nI i)), some (.int z0), some (.int z1), some (.int z2), some (.int z3)] rfl (Nat.le_of_ble_eq_true rfl) ?_
  intro x hF hN hA hR
  refine g_aload_n hF dX10_putL_0 1 rfl rfl ?_
  refine g_iload_n hF dX10_putL_1 2 rfl rfl ?_
  refine g_bipush hF (10) dX10_putL_2 4 rfl rfl ?_
  refine g_iconst hF (4) dX10_putL_4 5 rfl rfl ?_
  refine g_iload_n hF dX10_putL_5 6 rfl rfl ?_
  refine g_imul hF dX10_putL_6 7 rfl ?_
  refine g_iadd hF dX10_putL_7 8 rfl ?_
  refine g_iconst hF (0) dX10_putL_8 9 rfl rfl ?_
  refine g_iadd hF dX10_putL_9 10 rfl ?_
  refine g_iload_n hF dX10_putL_10 11 rfl rfl ?_
  rw [show (0 : Int32) = nI 0 by decide, ix4]
  refine g_callV hF cv_X10_58 (c_M_put l E c v pf im ss kp bk ws cm ls nq dd sd en wh ro g (10 + 4 * i + 0) z0 hg (by omega)) dX10_putL_11 14 rfl (st := []) rfl rfl ⟨Nat.le_of_ble_eq_true rfl, Nat.le_of_ble_eq_true rfl⟩ ⟨Nat.le_of_ble_eq_true rfl, Nat.le_of_ble_eq_true rfl⟩ rfl (Nat.le_of_ble_eq_true rfl) 10 rfl (by intro H h; first | exact h.1 | exact h.2.1 | exact h.2.2.1 | exact h.2.2.2.1 | exact h.2.2.2.2.1 | exact h.2.2.2.2.2.1 | exact h.2.2.2.2.2.2.1 | exact h.2.2.2.2.2.2.2.1 | exact h.2.2.2.2.2.2.2.2.1 | exact h.2.2.2.2.2.2.2.2.2.1 | exact h.2.2.2.2.2.2.2.2.2.2) (Pr' := Mm E c (flat (v.1, v.2.1, v.2.2.1, va_up v.2.2.2 g (upd (v.2.2.2 g) (10 + 4 * i) z0))) pf im ss kp bk ws cm ls nq dd sd en wh ro) (fun _ h => h) (hA) (fun H H' h h1 h2 => by rw [show vput v g (10 + 4 * i + 0) z0 = (v.1, v.2.1, v.2.2.1, va_up v.2.2.2 g (upd (v.2.2.2 g) (10 + 4 * i) z0)) from rfl] at h1; exact h1) (st1 := []) rfl (k1 := 0) (n1 := 0) rfl rfl ?_
  refine g_aload_n hF dX10_putL_14 15 rfl rfl ?_
  refine g_iload_n hF dX10_putL_15 16 rfl rfl ?_
  refine g_bipush hF (10) dX10_putL_16 18 rfl rfl ?_
  refine g_iconst hF (4) dX10_putL_18 19 rfl rfl ?_
  refine g_iload_n hF dX10_putL_19 20 rfl rfl ?_
  refine g_imul hF dX10_putL_20 21 rfl ?_
  refine g_iadd hF dX10_putL_21 22 rfl ?_
  refine g_iconst hF (1) dX10_putL_22 23 rfl rfl ?_
  refine g_iadd hF dX10_putL_23 24 rfl ?_
  refine g_iload hF dX10_putL_24 26 rfl rfl ?_
  rw [show (1 : Int32) = nI 1 by decide, ix4]
  refine g_callV hF cv_X10_58 (c_M_put l E c (v.1, v.2.1, v.2.2.1, va_up v.2.2.2 g (upd (v.2.2.2 g) (10 + 4 * i) z0)) pf im ss kp bk ws cm ls nq dd sd en wh ro g (10 + 4 * i + 1) z1 hg (by omega)) dX10_putL_26 29 rfl (st := []) rfl rfl ⟨Nat.le_of_ble_eq_true rfl, Nat.le_of_ble_eq_true rfl⟩ ⟨Nat.le_of_ble_eq_true rfl, Nat.le_of_ble_eq_true rfl⟩ rfl (Nat.le_of_ble_eq_true rfl) 10 rfl (by intro H h; first | exact h.1 | exact h.2.1 | exact h.2.2.1 | exact h.2.2.2.1 | exact h.2.2.2.2.1 | exact h.2.2.2.2.2.1 | exact h.2.2.2.2.2.2.1 | exact h.2.2.2.2.2.2.2.1 | exact h.2.2.2.2.2.2.2.2.1 | exact h.2.2.2.2.2.2.2.2.2.1 | exact h.2.2.2.2.2.2.2.2.2.2) (Pr' := Mm E c (flat (v.1, v.2.1, v.2.2.1, va_up v.2.2.2 g (upd (upd (v.2.2.2 g) (10 + 4 * i) z0) (11 + 4 * i) z1))) pf im ss kp bk ws cm ls nq dd sd en wh ro) (fun _ h => h) (hA) (fun H H' h h1 h2 => by rw [show (10 + 4 * i + 1) = 11 + 4 * i by omega, vput_up] at h1; exact h1) (st1 := []) rfl (k1 := 0) (n1 := 0) rfl rfl ?_
  refine g_aload_n hF dX10_putL_29 30 rfl rfl ?_
  refine g_iload_n hF dX10_putL_30 31 rfl rfl ?_
  refine g_bipush hF (10) dX10_putL_31 33 rfl rfl ?_
  refine g_iconst hF (4) dX10_putL_33 34 rfl rfl ?_
  refine g_iload_n hF dX10_putL_34 35 rfl rfl ?_
  refine g_imul hF dX10_putL_35 36 rfl ?_
  refine g_iadd hF dX10_putL_36 37 rfl ?_
  refine g_iconst hF (2) dX10_putL_37 38 rfl rfl ?_
  refine g_iadd hF dX10_putL_38 39 rfl ?_
  refine g_iload hF dX10_putL_39 41 rfl rfl ?_
  rw [show (2 : Int32) = nI 2 by decide, ix4]
  refine g_callV hF cv_X10_58 (c_M_put l E c (v.1, v.2.1, v.2.2.1, va_up v.2.2.2 g (upd (upd (v.2.2.2 g) (10 + 4 * i) z0) (11 + 4 * i) z1)) pf im ss kp bk ws cm ls nq dd sd en wh ro g (10 + 4 * i + 2) z2 hg (by omega)) dX10_putL_41 44 rfl (st := []) rfl rfl ⟨Nat.le_of_ble_eq_true rfl, Nat.le_of_ble_eq_true rfl⟩ ⟨Nat.le_of_ble_eq_true rfl, Nat.le_of_ble_eq_true rfl⟩ rfl (Nat.le_of_ble_eq_true rfl) 10 rfl (by intro H h; first | exact h.1 | exact h.2.1 | exact h.2.2.1 | exact h.2.2.2.1 | exact h.2.2.2.2.1 | exact h.2.2.2.2.2.1 | exact h.2.2.2.2.2.2.1 | exact h.2.2.2.2.2.2.2.1 | exact h.2.2.2.2.2.2.2.2.1 | exact h.2.2.2.2.2.2.2.2.2.1 | exact h.2.2.2.2.2.2.2.2.2.2) (Pr' := Mm E c (flat (v.1, v.2.1, v.2.2.1, va_up v.2.2.2 g (upd (upd (upd (v.2.2.2 g) (10 + 4 * i) z0) (11 + 4 * i) z1) (12 + 4 * i) z2))) pf im ss kp bk ws cm ls nq dd sd en wh ro) (fun _ h => h) (hA) (fun H H' h h1 h2 => by rw [show (10 + 4 * i + 2) = 12 + 4 * i by omega, vput_up] at h1; exact h1) (st1 := []) rfl (k1 := 0) (n1 := 0) rfl rfl ?_
  refine g_aload_n hF dX10_putL_44 45 rfl rfl ?_
  refine g_iload_n hF dX10_putL_45 46 rfl rfl ?_
  refine g_bipush hF (10) dX10_putL_46 48 rfl rfl ?_
  refine g_iconst hF (4) dX10_putL_48 49 rfl rfl ?_
  refine g_iload_n hF dX10_putL_49 50 rfl rfl ?_
  refine g_imul hF dX10_putL_50 51 rfl ?_
  refine g_iadd hF dX10_putL_51 52 rfl ?_
  refine g_iconst hF (3) dX10_putL_52 53 rfl rfl ?_
  refine g_iadd hF dX10_putL_53 54 rfl ?_
  refine g_iload hF dX10_putL_54 56 rfl rfl ?_
  rw [show (3 : Int32) = nI 3 by decide, ix4]
  refine g_callV hF cv_X10_58 (c_M_put l E c (v.1, v.2.1, v.2.2.1, va_up v.2.2.2 g (upd (upd (upd (v.2.2.2 g) (10 + 4 * i) z0) (11 + 4 * i) z1) (12 + 4 * i) z2)) pf im ss kp bk ws cm ls nq dd sd en wh ro g (10 + 4 * i + 3) z3 hg (by omega)) dX10_putL_56 59 rfl (st := []) rfl rfl ⟨Nat.le_of_ble_eq_true rfl, Nat.le_of_ble_eq_true rfl⟩ ⟨Nat.le_of_ble_eq_true rfl, Nat.le_of_ble_eq_true rfl⟩ rfl (Nat.le_of_ble_eq_true rfl) 10 rfl (by intro H h; first | exact h.1 | exact h.2.1 | exact h.2.2.1 | exact h.2.2.2.1 | exact h.2.2.2.2.1 | exact h.2.2.2.2.2.1 | exact h.2.2.2.2.2.2.1 | exact h.2.2.2.2.2.2.2.1 | exact h.2.2.2.2.2.2.2.2.1 | exact h.2.2.2.2.2.2.2.2.2.1 | exact h.2.2.2.2.2.2.2.2.2.2) (Pr' := Mm E c (flat (v.1, v.2.1, v.2.2.1, va_up v.2.2.2 g (upd (upd (upd (upd (v.2.2.2 g) (10 + 4 * i) z0) (11 + 4 * i) z1) (12 + 4 * i) z2) (13 + 4 * i) z3))) pf im ss kp bk ws cm ls nq dd sd en wh ro) (fun _ h => h) (hA) (fun H H' h h1 h2 => by rw [show (10 + 4 * i + 3) = 13 + 4 * i by omega, vput_up] at h1; exact h1) (st1 := []) rfl (k1 := 0) (n1 := 0) rfl rfl ?_
  exact g_vret hF dX10_putL_59 (Nat.le_of_ble_eq_true rfl) (Nat.le_of_ble_eq_true rfl) (fun H h => hR _ _ ⟨rfl, h⟩)
set_option maxRecDepth 100000 in
set_option maxHeartbeats 16000000 in
theorem c_M_setOf (g N : Nat) (w : Int32) (hg : g < 4) (n0 : v.2.2.2 g 0 = nI N) (n6 : N ≤ 6) : Ct l E yX10_setOf cX10_setOf 5 (some .int) (rm 3) [.ref c, .int (nI g), .int w] (Mm E c (flat v) pf im ss kp bk ws cm ls nq dd sd en wh ro) (rV (some (.int (sSet (v.2.2.2 g) w N))) (Mm E c (flat v) pf im ss kp bk ws cm ls nq dd sd en wh ro)) (fun _ => False) := by
  refine ct_start (by decide) [some (.ref c), some (.int (nI g)), some (.int w), none, none] rfl (Nat.le_of_ble_eq_true rfl) ?_
  intro x hF hN hA hR
  have loop : ∀ (n j : Nat) (s i : Int32), N - j < n → j ≤ N → s = sSet (v.2.2.2 g) w j → i = nI j → go l (rm 3) E x 0 0 (Mm E c (flat v) pf im ss kp bk ws cm ls nq dd sd en wh ro) [some (.ref c), some (.int (nI g)), some (.int w), some (.int s), some (.int i)] 5 [] := by
    intro n
    induction n with
    | zero => intro j s i h; omega
    | succ n ih =>
      intro j s i hn hj hs hi
      subst hi
      by_cases hlt : j < N
      · by_cases hq : v.2.2.2 g (10 + 4 * j) = w
        · refine g_iload hF dX10_setOf_5 7 rfl rfl ?_
          refine g_aload_n hF dX10_setOf_7 8 rfl rfl ?_
          refine g_iload_n hF dX10_setOf_8 9 rfl rfl ?_
          refine g_iconst hF (0) dX10_setOf_9 10 rfl rfl ?_
          rw [show (0 : Int32) = nI 0 by decide]
          refine g_callV hF cv_X10_54 (c_M_of l E c v pf im ss kp bk ws cm ls nq dd sd en wh ro g 0 hg (by omega)) dX10_setOf_10 13 rfl (st := [_]) rfl rfl ⟨Nat.le_of_ble_eq_true rfl, Nat.le_of_ble_eq_true rfl⟩ ⟨Nat.le_of_ble_eq_true rfl, Nat.le_of_ble_eq_true rfl⟩ rfl (Nat.le_of_ble_eq_true rfl) 10 rfl (by intro H h; first | exact h.1 | exact h.2.1 | exact h.2.2.1 | exact h.2.2.2.1 | exact h.2.2.2.2.1 | exact h.2.2.2.2.2.1 | exact h.2.2.2.2.2.2.1 | exact h.2.2.2.2.2.2.2.1 | exact h.2.2.2.2.2.2.2.2.1 | exact h.2.2.2.2.2.2.2.2.2.1 | exact h.2.2.2.2.2.2.2.2.2.2) (Pr' := _) (fun _ h => h) (fun q z => z.elim) (fun _ _ _ h _ => by exact h) (st1 := [_, _]) rfl (k1 := 0) (n1 := 0) rfl rfl ?_
          refine g_icmp_ge hF dX10_setOf_13 16 rfl 45 (by decide) (fun c => absurd c (fun y => absurd (i_le (n0 ▸ y) (by omega) (by omega)) (by omega))) (fun _ => ?_)
          refine g_iload_n hF dX10_setOf_16 17 rfl rfl ?_
          refine g_aload_n hF dX10_setOf_17 18 rfl rfl ?_
          refine g_iload_n hF dX10_setOf_18 19 rfl rfl ?_
          refine g_iload hF dX10_setOf_19 21 rfl rfl ?_
          refine g_iconst hF (0) dX10_setOf_21 22 rfl rfl ?_
          rw [show (0 : Int32) = nI 0 by decide]
          refine g_callV hF cv_X10_73 (c_M_ofL l E c v pf im ss kp bk ws cm ls nq dd sd en wh ro g j 0 hg (by omega) (by omega)) dX10_setOf_22 25 rfl (st := [_]) rfl rfl ⟨Nat.le_of_ble_eq_true rfl, Nat.le_of_ble_eq_true rfl⟩ ⟨Nat.le_of_ble_eq_true rfl, Nat.le_of_ble_eq_true rfl⟩ rfl (Nat.le_of_ble_eq_true rfl) 10 rfl (by intro H h; first | exact h.1 | exact h.2.1 | exact h.2.2.1 | exact h.2.2.2.1 | exact h.2.2.2.2.1 | exact h.2.2.2.2.2.1 | exact h.2.2.2.2.2.2.1 | exact h.2.2.2.2.2.2.2.1 | exact h.2.2.2.2.2.2.2.2.1 | exact h.2.2.2.2.2.2.2.2.2.1 | exact h.2.2.2.2.2.2.2.2.2.2) (Pr' := _) (fun _ h => h) (fun q z => z.elim) (fun _ _ _ h _ => by exact h) (st1 := [_, _]) rfl (k1 := 0) (n1 := 0) rfl rfl ?_
          refine g_iload_n hF dX10_setOf_25 26 rfl rfl ?_
          refine g_icmp_ne hF dX10_setOf_26 29 rfl 36 (by decide) (fun c => absurd (hq) c) (fun _ => ?_)
          refine g_iconst hF (1) dX10_setOf_29 30 rfl rfl ?_
          refine g_iload hF dX10_setOf_30 32 rfl rfl ?_
          refine g_ishl hF dX10_setOf_32 33 rfl ?_
          refine g_goto hF dX10_setOf_33 37 (by decide) ?_
          refine g_ior hF dX10_setOf_37 38 rfl ?_
          refine g_istore_n hF dX10_setOf_38 39 rfl (lo' := [_, _, _, _, _]) (Nat.le_of_ble_eq_true rfl) rfl ?_
          refine g_iinc hF dX10_setOf_39 42 rfl (1) rfl (lo' := [_, _, _, _, _]) rfl rfl ?_
          refine g_goto hF dX10_setOf_42 5 (by decide) ?_
          exact ih (j + 1) _ _ (by omega) (by omega) (by simp only [sSet, hs, hq, if_true]) (nI_succ j).symm
        · refine g_iload hF dX10_setOf_5 7 rfl rfl ?_
          refine g_aload_n hF dX10_setOf_7 8 rfl rfl ?_
          refine g_iload_n hF dX10_setOf_8 9 rfl rfl ?_
          refine g_iconst hF (0) dX10_setOf_9 10 rfl rfl ?_
          rw [show (0 : Int32) = nI 0 by decide]
          refine g_callV hF cv_X10_54 (c_M_of l E c v pf im ss kp bk ws cm ls nq dd sd en wh ro g 0 hg (by omega)) dX10_setOf_10 13 rfl (st := [_]) rfl rfl ⟨Nat.le_of_ble_eq_true rfl, Nat.le_of_ble_eq_true rfl⟩ ⟨Nat.le_of_ble_eq_true rfl, Nat.le_of_ble_eq_true rfl⟩ rfl (Nat.le_of_ble_eq_true rfl) 10 rfl (by intro H h; first | exact h.1 | exact h.2.1 | exact h.2.2.1 | exact h.2.2.2.1 | exact h.2.2.2.2.1 | exact h.2.2.2.2.2.1 | exact h.2.2.2.2.2.2.1 | exact h.2.2.2.2.2.2.2.1 | exact h.2.2.2.2.2.2.2.2.1 | exact h.2.2.2.2.2.2.2.2.2.1 | exact h.2.2.2.2.2.2.2.2.2.2) (Pr' := _) (fun _ h => h) (fun q z => z.elim) (fun _ _ _ h _ => by exact h) (st1 := [_, _]) rfl (k1 := 0) (n1 := 0) rfl rfl ?_
          refine g_icmp_ge hF dX10_setOf_13 16 rfl 45 (by decide) (fun c => absurd c (fun y => absurd (i_le (n0 ▸ y) (by omega) (by omega)) (by omega))) (fun _ => ?_)
          refine g_iload_n hF dX10_setOf_16 17 rfl rfl ?_
          refine g_aload_n hF dX10_setOf_17 18 rfl rfl ?_
          refine g_iload_n hF dX10_setOf_18 19 rfl rfl ?_
          refine g_iload hF dX10_setOf_19 21 rfl rfl ?_
          refine g_iconst hF (0) dX10_setOf_21 22 rfl rfl ?_
          rw [show (0 : Int32) = nI 0 by decide]
          refine g_callV hF cv_X10_73 (c_M_ofL l E c v pf im ss kp bk ws cm ls nq dd sd en wh ro g j 0 hg (by omega) (by omega)) dX10_setOf_22 25 rfl (st := [_]) rfl rfl ⟨Nat.le_of_ble_eq_true rfl, Nat.le_of_ble_eq_true rfl⟩ ⟨Nat.le_of_ble_eq_true rfl, Nat.le_of_ble_eq_true rfl⟩ rfl (Nat.le_of_ble_eq_true rfl) 10 rfl (by intro H h; first | exact h.1 | exact h.2.1 | exact h.2.2.1 | exact h.2.2.2.1 | exact h.2.2.2.2.1 | exact h.2.2.2.2.2.1 | exact h.2.2.2.2.2.2.1 | exact h.2.2.2.2.2.2.2.1 | exact h.2.2.2.2.2.2.2.2.1 | exact h.2.2.2.2.2.2.2.2.2.1 | exact h.2.2.2.2.2.2.2.2.2.2) (Pr' := _) (fun _ h => h) (fun q z => z.elim) (fun _ _ _ h _ => by exact h) (st1 := [_, _]) rfl (k1 := 0) (n1 := 0) rfl rfl ?_
          refine g_iload_n hF dX10_setOf_25 26 rfl rfl ?_
          refine g_icmp_ne hF dX10_setOf_26 29 rfl 36 (by decide) (fun _ => ?_) (fun c => absurd c (hq))
          refine g_iconst hF (0) dX10_setOf_36 37 rfl rfl ?_
          refine g_ior hF dX10_setOf_37 38 rfl ?_
          refine g_istore_n hF dX10_setOf_38 39 rfl (lo' := [_, _, _, _, _]) (Nat.le_of_ble_eq_true rfl) rfl ?_
          refine g_iinc hF dX10_setOf_39 42 rfl (1) rfl (lo' := [_, _, _, _, _]) rfl rfl ?_
          refine g_goto hF dX10_setOf_42 5 (by decide) ?_
          exact ih (j + 1) _ _ (by omega) (by omega) (by rw [Int32.or_zero]; simp only [sSet, hs, hq, if_false]) (nI_succ j).symm
      · refine g_iload hF dX10_setOf_5 7 rfl rfl ?_
        refine g_aload_n hF dX10_setOf_7 8 rfl rfl ?_
        refine g_iload_n hF dX10_setOf_8 9 rfl rfl ?_
        refine g_iconst hF (0) dX10_setOf_9 10 rfl rfl ?_
        rw [show (0 : Int32) = nI 0 by decide]
        refine g_callV hF cv_X10_54 (c_M_of l E c v pf im ss kp bk ws cm ls nq dd sd en wh ro g 0 hg (by omega)) dX10_setOf_10 13 rfl (st := [_]) rfl rfl ⟨Nat.le_of_ble_eq_true rfl, Nat.le_of_ble_eq_true rfl⟩ ⟨Nat.le_of_ble_eq_true rfl, Nat.le_of_ble_eq_true rfl⟩ rfl (Nat.le_of_ble_eq_true rfl) 10 rfl (by intro H h; first | exact h.1 | exact h.2.1 | exact h.2.2.1 | exact h.2.2.2.1 | exact h.2.2.2.2.1 | exact h.2.2.2.2.2.1 | exact h.2.2.2.2.2.2.1 | exact h.2.2.2.2.2.2.2.1 | exact h.2.2.2.2.2.2.2.2.1 | exact h.2.2.2.2.2.2.2.2.2.1 | exact h.2.2.2.2.2.2.2.2.2.2) (Pr' := _) (fun _ h => h) (fun q z => z.elim) (fun _ _ _ h _ => by exact h) (st1 := [_, _]) rfl (k1 := 0) (n1 := 0) rfl rfl ?_
        refine g_icmp_ge hF dX10_setOf_13 16 rfl 45 (by decide) (fun _ => ?_) (fun c => absurd (n0 ▸ nI_le (by omega) (by omega)) c)
        refine g_iload_n hF dX10_setOf_45 46 rfl rfl ?_
        exact g_iret hF dX10_setOf_46 (Nat.le_of_ble_eq_true rfl) (Nat.le_of_ble_eq_true rfl) (fun H h => hR _ _ ⟨congrArg (fun z => some (Value.int z)) (by rw [hs, show j = N by omega]), h⟩)
  refine g_iconst hF (0) dX10_setOf_0 1 rfl rfl ?_
  refine g_istore_n hF dX10_setOf_1 2 rfl (lo' := [_, _, _, _, _]) (Nat.le_of_ble_eq_true rfl) rfl ?_
  refine g_iconst hF (0) dX10_setOf_2 3 rfl rfl ?_
  refine g_istore hF dX10_setOf_3 5 rfl (lo' := [_, _, _, _, _]) (Nat.le_of_ble_eq_true rfl) rfl ?_
  exact loop (N + 1) 0 0 0 (by omega) (by omega) rfl nI_0.symm
end MV1
def on6 (z : Int32) : Nat → Int32
  | 0 => 0
  | k + 1 => on6 z k + ((z >>> (nI k &&& 31)) &&& 1)
theorem on6_bit : ∀ m, m < 64 → on6 (nI m) 6 = bitC (nI m) := by decide +kernel
set_option maxRecDepth 100000 in
set_option maxHeartbeats 16000000 in
theorem c_M_ones (l : Launch) (E : Ev) (z : Int32) (P : Heap → Prop) : Ct l E yX10_ones cX10_ones 3 (some .int) (rm 1) [.int z] P (rV (some (.int (on6 z 6))) P) (fun _ => False) := by
  refine ct_start (by decide) [some (.int z), none, none] rfl (Nat.le_of_ble_eq_true rfl) ?_
  intro x hF hN hA hR
  have loop : ∀ (n j : Nat) (s i : Int32), 6 - j < n → j ≤ 6 → s = on6 z j → i = nI j → go l (rm 1) E x 0 0 P [some (.int z), some (.int s), some (.int i)] 4 [] := by
    intro n
    induction n with
    | zero => intro j s i h; omega
    | succ n ih =>
      intro j s i hn hj hs hi
      subst hi
      by_cases hlt : j < 6
      · refine g_iload_n hF dX10_ones_4 5 rfl rfl ?_
        refine g_bipush hF (6) dX10_ones_5 7 rfl rfl ?_
        refine g_icmp_ge hF dX10_ones_7 10 rfl 24 (by decide) (fun c => absurd c (fun y => absurd (i_le (a := 6) y (by omega) (by omega)) (by omega))) (fun _ => ?_)
        refine g_iload_n hF dX10_ones_10 11 rfl rfl ?_
        refine g_iload_n hF dX10_ones_11 12 rfl rfl ?_
        refine g_iload_n hF dX10_ones_12 13 rfl rfl ?_
        refine g_ishr hF dX10_ones_13 14 rfl ?_
        refine g_iconst hF (1) dX10_ones_14 15 rfl rfl ?_
        refine g_iand hF dX10_ones_15 16 rfl ?_
        refine g_iadd hF dX10_ones_16 17 rfl ?_
        refine g_istore_n hF dX10_ones_17 18 rfl (lo' := [_, _, _]) (Nat.le_of_ble_eq_true rfl) rfl ?_
        refine g_iinc hF dX10_ones_18 21 rfl (1) rfl (lo' := [_, _, _]) rfl rfl ?_
        refine g_goto hF dX10_ones_21 4 (by decide) ?_
        exact ih (j + 1) _ _ (by omega) (by omega) (by rw [hs]; rfl) (nI_succ j).symm
      · refine g_iload_n hF dX10_ones_4 5 rfl rfl ?_
        refine g_bipush hF (6) dX10_ones_5 7 rfl rfl ?_
        refine g_icmp_ge hF dX10_ones_7 10 rfl 24 (by decide) (fun _ => ?_) (fun c => absurd (nI_le (a := 6) (by omega) (by omega)) c)
        refine g_iload_n hF dX10_ones_24 25 rfl rfl ?_
        exact g_iret hF dX10_ones_25 (Nat.le_of_ble_eq_true rfl) (Nat.le_of_ble_eq_true rfl) (fun H h => hR _ _ ⟨congrArg (fun z => some (Value.int z)) (by rw [hs, show j = 6 by omega]), h⟩)
  refine g_iconst hF (0) dX10_ones_0 1 rfl rfl ?_
  refine g_istore_n hF dX10_ones_1 2 rfl (lo' := [_, _, _]) (Nat.le_of_ble_eq_true rfl) rfl ?_
  refine g_iconst hF (0) dX10_ones_2 3 rfl rfl ?_
  refine g_istore_n hF dX10_ones_3 4 rfl (lo' := [_, _, _]) (Nat.le_of_ble_eq_true rfl) rfl ?_
  exact loop 7 0 0 0 (by omega) (by omega) rfl nI_0.symm
theorem ones_cnt {gv : Nat → Int32} {w : Int32} {N : Nat} (n0 : gv 0 = nI N) (n6 : N ≤ 6) : on6 (sSet gv w N) 6 = cnt gv w := by
  unfold cnt
  rw [n0, nI_clamp (by omega), sSet_mk gv w N n6]
  exact on6_bit _ (Nat.lt_of_lt_of_le (mk6_lt gv w N) (Nat.pow_le_pow_right (by omega) n6))
