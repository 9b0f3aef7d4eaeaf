/-! TrunkReserveModel: which line, where to, and calls -/
def mln (gv : Nat → Int32) (N s k : Nat) : Nat := if gv 4 = 1 then N - 1 - k else if gv 4 = 3 then (s + k) % N else k
def mch (gv : Nat → Int32) (N s : Nat) : Nat → Int32
  | 0 => -1
  | k + 1 => if gv (10 + 4 * mln gv N s k) = 0 ∧ (mch gv N s k = -1 ∨ (gv 4 = 2 ∧ gv (13 + 4 * mln gv N s k) < gv (13 + 4 * (mch gv N s k).toNatClampNeg))) then nI (mln gv N s k) else mch gv N s k
theorem mln_lt {gv : Nat → Int32} {N s k : Nat} (hk : k < N) : mln gv N s k < N := by
  unfold mln
  split
  · omega
  · split
    · exact Nat.mod_lt _ (by omega)
    · exact hk
theorem mch_rng {gv : Nat → Int32} {N s : Nat} : ∀ k, k ≤ N → mch gv N s k = -1 ∨ ∃ t, t < N ∧ mch gv N s k = nI t
  | 0, _ => Or.inl rfl
  | k + 1, h => by
    unfold mch
    split
    · exact Or.inr ⟨_, mln_lt (by omega), rfl⟩
    · exact mch_rng k (by omega)
/-- a search that stops at the first -/
theorem mch_first {gv : Nat → Int32} {N s : Nat} (hN : N ≤ 6) (h2 : ¬ gv 4 = 2) (F : Nat → Int32) (hF : ∀ k, k < N → F k = if gv (10 + 4 * mln gv N s k) = 0 then nI (mln gv N s k) else F (k + 1)) : ∀ k, k ≤ N → (mch gv N s k = -1 ∧ F 0 = F k) ∨ (¬ mch gv N s k = -1 ∧ F 0 = mch gv N s k)
  | 0, _ => Or.inl ⟨rfl, rfl⟩
  | k + 1, h => by
    have hl := mln_lt (gv := gv) (N := N) (s := s) (k := k) (by omega)
    rcases mch_first hN h2 F hF k (by omega) with ⟨q1, q2⟩ | ⟨q1, q2⟩
    · have e := hF k (by omega)
      by_cases hz : gv (10 + 4 * mln gv N s k) = 0
      · have e1 : mch gv N s (k + 1) = nI (mln gv N s k) := if_pos ⟨hz, Or.inl q1⟩
        rw [if_pos hz] at e
        exact Or.inr ⟨by rw [e1]; exact nI_nm1 (by omega), by rw [e1, q2, e]⟩
      · have e1 : mch gv N s (k + 1) = mch gv N s k := if_neg (fun y => hz y.1)
        rw [if_neg hz] at e
        exact Or.inl ⟨by rw [e1, q1], by rw [q2, e]⟩
    · have e1 : mch gv N s (k + 1) = mch gv N s k := if_neg (fun y => y.2.elim q1 (fun y => h2 y.1))
      exact Or.inr ⟨by rw [e1]; exact q1, by rw [e1, q2]⟩
theorem mch_lg {gv : Nat → Int32} {N s : Nat} (h2 : gv 4 = 2) : ∀ k, mch gv N s k = fLg (fun l => gv (10 + 4 * l)) (fun i => gv (13 + 4 * i)) k
  | 0 => rfl
  | k + 1 => by
    have e : mln gv N s k = k := by unfold mln; rw [if_neg (by rw [h2]; decide), if_neg (by rw [h2]; decide)]
    unfold mch fLg
    rw [e, mch_lg h2 k]
    by_cases hz : gv (10 + 4 * k) = 0 ∧ (fLg (fun l => gv (10 + 4 * l)) (fun i => gv (13 + 4 * i)) k = -1 ∨ gv (13 + 4 * k) < gv (13 + 4 * (fLg (fun l => gv (10 + 4 * l)) (fun i => gv (13 + 4 * i)) k).toNatClampNeg))
    · rw [if_pos ⟨hz.1, hz.2.imp id (fun y => ⟨h2, y⟩)⟩, if_pos hz]
    · rw [if_neg (fun y => hz ⟨y.1, y.2.imp id (fun y => y.2)⟩), if_neg hz]
theorem mch_eq {gv : Nat → Int32} {N s : Nat} (hN : N ≤ 6) : mch gv N s N = sCh gv (fun i => gv (13 + 4 * i)) N s := by
  have fin : ∀ (F : Nat → Int32), ¬ gv 4 = 2 → F N = -1 → (∀ k, k < N → F k = if gv (10 + 4 * mln gv N s k) = 0 then nI (mln gv N s k) else F (k + 1)) → mch gv N s N = F 0 := fun F h2 hz hF => by
    rcases mch_first hN h2 F hF N (Nat.le_refl _) with ⟨q1, q2⟩ | ⟨q1, q2⟩
    · rw [q1, q2, hz]
    · rw [q2]
  unfold sCh
  by_cases h1 : gv 4 = 1
  · rw [if_pos h1]
    have := fin (fun k => fLast gv (N - k)) (by rw [h1]; decide) (by rw [Nat.sub_self]; rfl) (fun k hk => by
      have e : mln gv N s k = N - 1 - k := if_pos h1
      rw [e]
      show fLast gv (N - k) = _
      rw [show N - k = (N - 1 - k) + 1 by omega]
      conv => lhs; unfold fLast
      rw [show N - (k + 1) = N - 1 - k by omega])
    rw [this]
    rfl
  · rw [if_neg h1]
    by_cases h2 : gv 4 = 2
    · rw [if_pos h2]; exact mch_lg h2 N
    · rw [if_neg h2]
      by_cases h3 : gv 4 = 3
      · rw [if_pos h3]
        have := fin (fun k => fFrom gv N s (N - k) k) h2 (by rw [Nat.sub_self]; rfl) (fun k hk => by
          have e : mln gv N s k = (s + k) % N := by unfold mln; rw [if_neg h1, if_pos h3]
          rw [e]
          show fFrom gv N s (N - k) k = _
          rw [show N - k = (N - (k + 1)) + 1 by omega]
          conv => lhs; unfold fFrom)
        rw [this]
        rfl
      · rw [if_neg h3]
        have := fin (fun k => fFrom gv N 0 (N - k) k) h2 (by rw [Nat.sub_self]; rfl) (fun k hk => by
          have e : mln gv N s k = (0 + k) % N := by unfold mln; rw [if_neg h1, if_neg h3, Nat.zero_add, Nat.mod_eq_of_lt hk]
          rw [e]
          show fFrom gv N 0 (N - k) k = _
          rw [show N - k = (N - (k + 1)) + 1 by omega]
          conv => lhs; unfold fFrom)
        rw [this]
        rfl
theorem sSet_none {gv : Nat → Int32} {w : Int32} : ∀ k, (∀ i, i < k → gv (10 + 4 * i) ≠ w) → sSet gv w k = 0
  | 0, _ => rfl
  | k + 1, h => by
    unfold sSet
    rw [if_neg (h k (by omega))]
    exact sSet_none k (fun i hi => h i (by omega))
theorem sSet_some {gv : Nat → Int32} {w : Int32} {k i : Nat} (hk : k ≤ 6) (hi : i < k) (h : gv (10 + 4 * i) = w) : ¬ sSet gv w k = 0 := by
  rw [sSet_mk gv w k hk]
  have h1 := mk6_pos hi h
  have h2 := mk6_lt gv w k
  have h3 : 2 ^ k ≤ 2 ^ 6 := Nat.pow_le_pow_right (by omega) hk
  exact nI_ne0 h1 (by omega)
section MV4
variable (l : Launch) (E : Ev) (c : Nat) (v : NV) (pf im : Nat → Int32) (ss : Nat → Int64) (kp bk : Nat → Int32) (ws : Nat → Int64) (cm ls nq : Nat → Int32) (dd : Int32) (sd : Int64) (en : Int32) (wh : Int64) (ro : Int32)
set_option maxRecDepth 100000 in
set_option maxHeartbeats 16000000 in
theorem c_M_choice (g N s : Nat) (hg : g < 4) (n0 : v.2.2.2 g 0 = nI N) (n1 : 1 ≤ N) (n6 : N ≤ 6) (s0 : v.2.2.2 g 5 + 1 = nI s) (s6 : s ≤ 6) : Ct l E yX10_choice cX10_choice 7 (some .int) (rm 3) [.ref c, .int (nI g)] (Mm E c (flat v) pf im ss kp bk ws cm ls nq dd sd en wh ro) (rV (some (.int (chg (v.2.2.2 g)))) (Mm E c (flat v) pf im ss kp bk ws cm ls nq dd sd en wh ro)) (fun _ => False) := by
  refine ct_start (by decide) [some (.ref c), some (.int (nI g)), none, none, none, none, none] rfl (Nat.le_of_ble_eq_true rfl) ?_
  intro x hF hN hA hR
  rw [chg_N n0 n6 s0 s6, ← mch_eq n6] at hR
  have loop : ∀ (m k : Nat) (i best : Int32), N - k < m → k ≤ N → i = nI k → best = mch (v.2.2.2 g) N s k → go l (rm 3) E x 0 0 (Mm E c (flat v) pf im ss kp bk ws cm ls nq dd sd en wh ro) [some (.ref c), some (.int (nI g)), some (.int (nI N)), some (.int best), some (.int i), none, none] 12 [] := by
    intro m
    induction m with
    | zero => intro k i best h; omega
    | succ m ih =>
      intro k i best hm hk hi hb
      subst hi
      by_cases hlt : k < N
      · obtain ⟨t, et⟩ : ∃ t, t = mln (v.2.2.2 g) N s k := ⟨_, rfl⟩
        have htN : t < N := by rw [et]; exact mln_lt hlt
        have K : ∀ (b : Int32), (¬ b = 0 ↔ (best = -1 ∨ (v.2.2.2 g 4 = 2 ∧ v.2.2.2 g (13 + 4 * t) < v.2.2.2 g (13 + 4 * best.toNatClampNeg)))) → go l (rm 3) E x 0 0 (Mm E c (flat v) pf im ss kp bk ws cm ls nq dd sd en wh ro) [some (.ref c), some (.int (nI g)), some (.int (nI N)), some (.int best), some (.int (nI k)), some (.int (nI t)), none] 105 [.int b] := by
          intro b hb2
          have e1 : mch (v.2.2.2 g) N s (k + 1) = if v.2.2.2 g (10 + 4 * t) = 0 ∧ ¬ b = 0 then nI t else best := by
            by_cases hc : v.2.2.2 g (10 + 4 * t) = 0 ∧ ¬ b = 0
            · rw [if_pos hc]
              unfold mch
              rw [← et, ← hb]
              exact if_pos ⟨hc.1, hb2.mp hc.2⟩
            · rw [if_neg hc]
              conv => lhs; unfold mch
              rw [← et, ← hb]
              exact if_neg (fun y => hc ⟨y.1, hb2.mpr y.2⟩)
          refine g_istore hF dX10_choice_105 107 rfl (lo' := [_, _, _, _, _, _, _]) (Nat.le_of_ble_eq_true rfl) rfl ?_
          refine g_aload_n hF dX10_choice_107 108 rfl rfl ?_
          refine g_iload_n hF dX10_choice_108 109 rfl rfl ?_
          refine g_iload hF dX10_choice_109 111 rfl rfl ?_
          refine g_iconst hF (0) dX10_choice_111 112 rfl rfl ?_
          rw [show (0 : Int32) = nI 0 by decide]
          refine g_callV hF cv_X10_73 (c_M_ofL l E c v pf im ss kp bk ws cm ls nq dd sd en wh ro g t 0 hg (by omega) (by omega)) dX10_choice_112 115 rfl (st := []) rfl rfl ⟨Nat.le_of_ble_eq_true rfl, Nat.le_of_ble_eq_true rfl⟩ ⟨Nat.le_of_ble_eq_true rfl, Nat.le_of_ble_eq_true rfl⟩ rfl (Nat.le_of_ble_eq_true rfl) 10 rfl (by intro H h; first | exact h.1 | exact h.2.1 | exact h.2.2.1 | exact h.2.2.2.1 | exact h.2.2.2.2.1 | exact h.2.2.2.2.2.1 | exact h.2.2.2.2.2.2.1 | exact h.2.2.2.2.2.2.2.1 | exact h.2.2.2.2.2.2.2.2.1 | exact h.2.2.2.2.2.2.2.2.2.1 | exact h.2.2.2.2.2.2.2.2.2.2) (Pr' := _) (fun _ h => h) (fun q z => z.elim) (fun _ _ _ h _ => by exact h) (st1 := [_]) rfl (k1 := 0) (n1 := 0) rfl rfl ?_
          refine g_if_ne hF dX10_choice_115 118 rfl 128 (by decide) (fun c115 => ?_) (fun c115 => ?_)
          · refine g_iload_n hF dX10_choice_128 129 rfl rfl ?_
            refine g_istore_n hF dX10_choice_129 130 rfl (lo' := [_, _, _, _, _, _, _]) (Nat.le_of_ble_eq_true rfl) rfl ?_
            refine g_iinc hF dX10_choice_130 133 rfl (1) rfl (lo' := [_, _, _, _, _, _, _]) rfl rfl ?_
            refine g_goto hF dX10_choice_133 12 (by decide) ?_
            refine g_cut [true, true, true, true, true, false, false] (lo' := [_, _, _, _, _, _, _]) rfl ?_
            exact ih (k + 1) _ _ (by omega) (by omega) (nI_succ k).symm (by rw [e1, if_neg (fun y => c115 y.1)])
          · refine g_iload hF dX10_choice_118 120 rfl rfl ?_
            refine g_if_eq hF dX10_choice_120 123 rfl 128 (by decide) (fun c120 => ?_) (fun c120 => ?_)
            · refine g_iload_n hF dX10_choice_128 129 rfl rfl ?_
              refine g_istore_n hF dX10_choice_129 130 rfl (lo' := [_, _, _, _, _, _, _]) (Nat.le_of_ble_eq_true rfl) rfl ?_
              refine g_iinc hF dX10_choice_130 133 rfl (1) rfl (lo' := [_, _, _, _, _, _, _]) rfl rfl ?_
              refine g_goto hF dX10_choice_133 12 (by decide) ?_
              refine g_cut [true, true, true, true, true, false, false] (lo' := [_, _, _, _, _, _, _]) rfl ?_
              exact ih (k + 1) _ _ (by omega) (by omega) (nI_succ k).symm (by rw [e1, if_neg (fun y => y.2 c120)])
            · refine g_iload hF dX10_choice_123 125 rfl rfl ?_
              refine g_goto hF dX10_choice_125 129 (by decide) ?_
              refine g_istore_n hF dX10_choice_129 130 rfl (lo' := [_, _, _, _, _, _, _]) (Nat.le_of_ble_eq_true rfl) rfl ?_
              refine g_iinc hF dX10_choice_130 133 rfl (1) rfl (lo' := [_, _, _, _, _, _, _]) rfl rfl ?_
              refine g_goto hF dX10_choice_133 12 (by decide) ?_
              refine g_cut [true, true, true, true, true, false, false] (lo' := [_, _, _, _, _, _, _]) rfl ?_
              exact ih (k + 1) _ _ (by omega) (by omega) (nI_succ k).symm (by rw [e1, if_pos ⟨c115, c120⟩])
        have J : go l (rm 3) E x 0 0 (Mm E c (flat v) pf im ss kp bk ws cm ls nq dd sd en wh ro) [some (.ref c), some (.int (nI g)), some (.int (nI N)), some (.int best), some (.int (nI k)), none, none] 65 [.int (nI t)] := by
          rcases (mch_rng (gv := v.2.2.2 g) (s := s) k hk) with hr | ⟨u, hu, hr⟩
          · rw [← hb] at hr
            refine g_istore hF dX10_choice_65 67 rfl (lo' := [_, _, _, _, _, _, _]) (Nat.le_of_ble_eq_true rfl) rfl ?_
            refine g_iload_n hF dX10_choice_67 68 rfl rfl ?_
            refine g_iconst hF (-1) dX10_choice_68 69 rfl rfl ?_
            refine g_icmp_eq hF dX10_choice_69 72 rfl 100 (by decide) (fun _ => ?_) (fun c => absurd (hr) c)
            refine g_iconst hF (1) dX10_choice_100 101 rfl rfl ?_
            refine g_goto hF dX10_choice_101 105 (by decide) ?_
            exact K 1 ⟨fun _ => Or.inl hr, fun _ => by decide⟩
          · rw [← hb] at hr
            have hbc : best.toNatClampNeg = u := by rw [hr, nI_clamp (by omega)]
            have hb1 : ¬ best = -1 := by rw [hr]; exact nI_nm1 (by omega)
            refine g_istore hF dX10_choice_65 67 rfl (lo' := [_, _, _, _, _, _, _]) (Nat.le_of_ble_eq_true rfl) rfl ?_
            refine g_iload_n hF dX10_choice_67 68 rfl rfl ?_
            refine g_iconst hF (-1) dX10_choice_68 69 rfl rfl ?_
            refine g_icmp_eq hF dX10_choice_69 72 rfl 100 (by decide) (fun c => absurd c (hb1)) (fun _ => ?_)
            refine g_aload_n hF dX10_choice_72 73 rfl rfl ?_
            refine g_iload_n hF dX10_choice_73 74 rfl rfl ?_
            refine g_iconst hF (4) dX10_choice_74 75 rfl rfl ?_
            rw [show (4 : Int32) = nI 4 by decide]
            refine g_callV hF cv_X10_54 (c_M_of l E c v pf im ss kp bk ws cm ls nq dd sd en wh ro g 4 hg (by omega)) dX10_choice_75 78 rfl (st := []) rfl rfl ⟨Nat.le_of_ble_eq_true rfl, Nat.le_of_ble_eq_true rfl⟩ ⟨Nat.le_of_ble_eq_true rfl, Nat.le_of_ble_eq_true rfl⟩ rfl (Nat.le_of_ble_eq_true rfl) 10 rfl (by intro H h; first | exact h.1 | exact h.2.1 | exact h.2.2.1 | exact h.2.2.2.1 | exact h.2.2.2.2.1 | exact h.2.2.2.2.2.1 | exact h.2.2.2.2.2.2.1 | exact h.2.2.2.2.2.2.2.1 | exact h.2.2.2.2.2.2.2.2.1 | exact h.2.2.2.2.2.2.2.2.2.1 | exact h.2.2.2.2.2.2.2.2.2.2) (Pr' := _) (fun _ h => h) (fun q z => z.elim) (fun _ _ _ h _ => by exact h) (st1 := [_]) rfl (k1 := 0) (n1 := 0) rfl rfl ?_
            refine g_iconst hF (2) dX10_choice_78 79 rfl rfl ?_
            refine g_icmp_ne hF dX10_choice_79 82 rfl 104 (by decide) (fun c79 => ?_) (fun c79 => ?_)
            · refine g_iconst hF (0) dX10_choice_104 105 rfl rfl ?_
              exact K 0 ⟨fun y => absurd rfl y, fun y => absurd (y.elim (fun y => absurd y hb1) (fun y => y.1)) c79⟩
            · refine g_aload_n hF dX10_choice_82 83 rfl rfl ?_
              refine g_iload_n hF dX10_choice_83 84 rfl rfl ?_
              refine g_iload hF dX10_choice_84 86 rfl rfl ?_
              refine g_iconst hF (3) dX10_choice_86 87 rfl rfl ?_
              rw [show (3 : Int32) = nI 3 by decide]
              refine g_callV hF cv_X10_73 (c_M_ofL l E c v pf im ss kp bk ws cm ls nq dd sd en wh ro g t 3 hg (by omega) (by omega)) dX10_choice_87 90 rfl (st := []) rfl rfl ⟨Nat.le_of_ble_eq_true rfl, Nat.le_of_ble_eq_true rfl⟩ ⟨Nat.le_of_ble_eq_true rfl, Nat.le_of_ble_eq_true rfl⟩ rfl (Nat.le_of_ble_eq_true rfl) 10 rfl (by intro H h; first | exact h.1 | exact h.2.1 | exact h.2.2.1 | exact h.2.2.2.1 | exact h.2.2.2.2.1 | exact h.2.2.2.2.2.1 | exact h.2.2.2.2.2.2.1 | exact h.2.2.2.2.2.2.2.1 | exact h.2.2.2.2.2.2.2.2.1 | exact h.2.2.2.2.2.2.2.2.2.1 | exact h.2.2.2.2.2.2.2.2.2.2) (Pr' := _) (fun _ h => h) (fun q z => z.elim) (fun _ _ _ h _ => by exact h) (st1 := [_]) rfl (k1 := 0) (n1 := 0) rfl rfl ?_
              refine g_aload_n hF dX10_choice_90 91 rfl rfl ?_
              refine g_iload_n hF dX10_choice_91 92 rfl rfl ?_
              refine g_iload_n hF dX10_choice_92 93 rfl rfl ?_
              refine g_iconst hF (3) dX10_choice_93 94 rfl rfl ?_
              rw [hr, show (3 : Int32) = nI 3 by decide]
              refine g_callV hF cv_X10_73 (c_M_ofL l E c v pf im ss kp bk ws cm ls nq dd sd en wh ro g u 3 hg (by omega) (by omega)) dX10_choice_94 97 rfl (st := [_]) rfl rfl ⟨Nat.le_of_ble_eq_true rfl, Nat.le_of_ble_eq_true rfl⟩ ⟨Nat.le_of_ble_eq_true rfl, Nat.le_of_ble_eq_true rfl⟩ rfl (Nat.le_of_ble_eq_true rfl) 10 rfl (by intro H h; first | exact h.1 | exact h.2.1 | exact h.2.2.1 | exact h.2.2.2.1 | exact h.2.2.2.2.1 | exact h.2.2.2.2.2.1 | exact h.2.2.2.2.2.2.1 | exact h.2.2.2.2.2.2.2.1 | exact h.2.2.2.2.2.2.2.2.1 | exact h.2.2.2.2.2.2.2.2.2.1 | exact h.2.2.2.2.2.2.2.2.2.2) (Pr' := _) (fun _ h => h) (fun q z => z.elim) (fun _ _ _ h _ => by exact h) (st1 := [_, _]) rfl (k1 := 0) (n1 := 0) rfl rfl ?_
              refine g_icmp_ge hF dX10_choice_97 100 rfl 104 (by decide) (fun c97 => ?_) (fun c97 => ?_)
              · refine g_iconst hF (0) dX10_choice_104 105 rfl rfl ?_
                rw [← hr]
                exact K 0 ⟨fun y => absurd rfl y, fun y => absurd (y.elim (fun y => absurd y hb1) (fun y => y.2)) (by rw [hbc, show 13 + 4 * t = 10 + 4 * t + 3 by omega, show 13 + 4 * u = 10 + 4 * u + 3 by omega]; exact Int32.not_lt.mpr c97)⟩
              · refine g_iconst hF (1) dX10_choice_100 101 rfl rfl ?_
                refine g_goto hF dX10_choice_101 105 (by decide) ?_
                rw [← hr]
                exact K 1 ⟨fun _ => Or.inr ⟨c79, by rw [hbc, show 13 + 4 * t = 10 + 4 * t + 3 by omega, show 13 + 4 * u = 10 + 4 * u + 3 by omega]; exact Int32.not_le.mp c97⟩, fun _ => by decide⟩
        refine g_iload hF dX10_choice_12 14 rfl rfl ?_
        refine g_iload_n hF dX10_choice_14 15 rfl rfl ?_
        refine g_icmp_ge hF dX10_choice_15 18 rfl 136 (by decide) (fun c => absurd c (fun y => absurd (i_le y (by omega) (by omega)) (by omega))) (fun _ => ?_)
        refine g_aload_n hF dX10_choice_18 19 rfl rfl ?_
        refine g_iload_n hF dX10_choice_19 20 rfl rfl ?_
        refine g_iconst hF (4) dX10_choice_20 21 rfl rfl ?_
        rw [show (4 : Int32) = nI 4 by decide]
        refine g_callV hF cv_X10_54 (c_M_of l E c v pf im ss kp bk ws cm ls nq dd sd en wh ro g 4 hg (by omega)) dX10_choice_21 24 rfl (st := []) rfl rfl ⟨Nat.le_of_ble_eq_true rfl, Nat.le_of_ble_eq_true rfl⟩ ⟨Nat.le_of_ble_eq_true rfl, Nat.le_of_ble_eq_true rfl⟩ rfl (Nat.le_of_ble_eq_true rfl) 10 rfl (by intro H h; first | exact h.1 | exact h.2.1 | exact h.2.2.1 | exact h.2.2.2.1 | exact h.2.2.2.2.1 | exact h.2.2.2.2.2.1 | exact h.2.2.2.2.2.2.1 | exact h.2.2.2.2.2.2.2.1 | exact h.2.2.2.2.2.2.2.2.1 | exact h.2.2.2.2.2.2.2.2.2.1 | exact h.2.2.2.2.2.2.2.2.2.2) (Pr' := _) (fun _ h => h) (fun q z => z.elim) (fun _ _ _ h _ => by exact h) (st1 := [_]) rfl (k1 := 0) (n1 := 0) rfl rfl ?_
        refine g_iconst hF (1) dX10_choice_24 25 rfl rfl ?_
        refine g_icmp_ne hF dX10_choice_25 28 rfl 37 (by decide) (fun c25 => ?_) (fun c25 => ?_)
        · refine g_aload_n hF dX10_choice_37 38 rfl rfl ?_
          refine g_iload_n hF dX10_choice_38 39 rfl rfl ?_
          refine g_iconst hF (4) dX10_choice_39 40 rfl rfl ?_
          rw [show (4 : Int32) = nI 4 by decide]
          refine g_callV hF cv_X10_54 (c_M_of l E c v pf im ss kp bk ws cm ls nq dd sd en wh ro g 4 hg (by omega)) dX10_choice_40 43 rfl (st := []) rfl rfl ⟨Nat.le_of_ble_eq_true rfl, Nat.le_of_ble_eq_true rfl⟩ ⟨Nat.le_of_ble_eq_true rfl, Nat.le_of_ble_eq_true rfl⟩ rfl (Nat.le_of_ble_eq_true rfl) 10 rfl (by intro H h; first | exact h.1 | exact h.2.1 | exact h.2.2.1 | exact h.2.2.2.1 | exact h.2.2.2.2.1 | exact h.2.2.2.2.2.1 | exact h.2.2.2.2.2.2.1 | exact h.2.2.2.2.2.2.2.1 | exact h.2.2.2.2.2.2.2.2.1 | exact h.2.2.2.2.2.2.2.2.2.1 | exact h.2.2.2.2.2.2.2.2.2.2) (Pr' := _) (fun _ h => h) (fun q z => z.elim) (fun _ _ _ h _ => by exact h) (st1 := [_]) rfl (k1 := 0) (n1 := 0) rfl rfl ?_
          refine g_iconst hF (3) dX10_choice_43 44 rfl rfl ?_
          refine g_icmp_ne hF dX10_choice_44 47 rfl 63 (by decide) (fun c44 => ?_) (fun c44 => ?_)
          · refine g_iload hF dX10_choice_63 65 rfl rfl ?_
            have e3 : k = t := by rw [et]; unfold mln; rw [if_neg c25, if_neg c44]
            have J2 := J
            rw [← e3] at J2
            exact J2
          · refine g_aload_n hF dX10_choice_47 48 rfl rfl ?_
            refine g_iload_n hF dX10_choice_48 49 rfl rfl ?_
            refine g_iconst hF (5) dX10_choice_49 50 rfl rfl ?_
            rw [show (5 : Int32) = nI 5 by decide]
            refine g_callV hF cv_X10_54 (c_M_of l E c v pf im ss kp bk ws cm ls nq dd sd en wh ro g 5 hg (by omega)) dX10_choice_50 53 rfl (st := []) rfl rfl ⟨Nat.le_of_ble_eq_true rfl, Nat.le_of_ble_eq_true rfl⟩ ⟨Nat.le_of_ble_eq_true rfl, Nat.le_of_ble_eq_true rfl⟩ rfl (Nat.le_of_ble_eq_true rfl) 10 rfl (by intro H h; first | exact h.1 | exact h.2.1 | exact h.2.2.1 | exact h.2.2.2.1 | exact h.2.2.2.2.1 | exact h.2.2.2.2.2.1 | exact h.2.2.2.2.2.2.1 | exact h.2.2.2.2.2.2.2.1 | exact h.2.2.2.2.2.2.2.2.1 | exact h.2.2.2.2.2.2.2.2.2.1 | exact h.2.2.2.2.2.2.2.2.2.2) (Pr' := _) (fun _ h => h) (fun q z => z.elim) (fun _ _ _ h _ => by exact h) (st1 := [_]) rfl (k1 := 0) (n1 := 0) rfl rfl ?_
            refine g_iconst hF (1) dX10_choice_53 54 rfl rfl ?_
            refine g_iadd hF dX10_choice_54 55 rfl ?_
            refine g_iload hF dX10_choice_55 57 rfl rfl ?_
            refine g_iadd hF dX10_choice_57 58 rfl ?_
            refine g_iload_n hF dX10_choice_58 59 rfl rfl ?_
            refine g_irem hF dX10_choice_59 60 rfl (nI_ne0 (by omega) (by omega)) ?_
            rw [s0, nI_add, pk_rem (by omega) (by omega) (by omega)]
            refine g_goto hF dX10_choice_60 65 (by decide) ?_
            rw [show (s + k) % N = t by rw [et]; unfold mln; rw [if_neg c25, if_pos c44]]
            exact J
        · refine g_iload_n hF dX10_choice_28 29 rfl rfl ?_
          refine g_iconst hF (1) dX10_choice_29 30 rfl rfl ?_
          refine g_isub hF dX10_choice_30 31 rfl ?_
          refine g_iload hF dX10_choice_31 33 rfl rfl ?_
          refine g_isub hF dX10_choice_33 34 rfl ?_
          refine g_goto hF dX10_choice_34 65 (by decide) ?_
          have eN : nI N = nI ((N - 1 - k) + k + 1) := by congr 1; omega
          rw [show nI N - 1 - nI k = nI t by rw [eN, nI_pred, ← nI_add, Int32.add_sub_cancel, et]; unfold mln; rw [if_pos c25]]
          exact J
      · refine g_iload hF dX10_choice_12 14 rfl rfl ?_
        refine g_iload_n hF dX10_choice_14 15 rfl rfl ?_
        refine g_icmp_ge hF dX10_choice_15 18 rfl 136 (by decide) (fun _ => ?_) (fun c => absurd (nI_le (by omega) (by omega)) c)
        refine g_iload_n hF dX10_choice_136 137 rfl rfl ?_
        exact g_iret hF dX10_choice_137 (Nat.le_of_ble_eq_true rfl) (Nat.le_of_ble_eq_true rfl) (fun H h => hR _ _ ⟨congrArg (fun z => some (Value.int z)) (by rw [hb, show k = N by omega]), h⟩)
  refine g_aload_n hF dX10_choice_0 1 rfl rfl ?_
  refine g_iload_n hF dX10_choice_1 2 rfl rfl ?_
  refine g_iconst hF (0) dX10_choice_2 3 rfl rfl ?_
  rw [show (0 : Int32) = nI 0 by decide]
  refine g_callV hF cv_X10_54 (c_M_of l E c v pf im ss kp bk ws cm ls nq dd sd en wh ro g 0 hg (by omega)) dX10_choice_3 6 rfl (st := []) rfl rfl ⟨Nat.le_of_ble_eq_true rfl, Nat.le_of_ble_eq_true rfl⟩ ⟨Nat.le_of_ble_eq_true rfl, Nat.le_of_ble_eq_true rfl⟩ rfl (Nat.le_of_ble_eq_true rfl) 10 rfl (by intro H h; first | exact h.1 | exact h.2.1 | exact h.2.2.1 | exact h.2.2.2.1 | exact h.2.2.2.2.1 | exact h.2.2.2.2.2.1 | exact h.2.2.2.2.2.2.1 | exact h.2.2.2.2.2.2.2.1 | exact h.2.2.2.2.2.2.2.2.1 | exact h.2.2.2.2.2.2.2.2.2.1 | exact h.2.2.2.2.2.2.2.2.2.2) (Pr' := _) (fun _ h => h) (fun q z => z.elim) (fun _ _ _ h _ => by exact h) (st1 := [_]) rfl (k1 := 0) (n1 := 0) rfl rfl ?_
  rw [n0]
  refine g_istore_n hF dX10_choice_6 7 rfl (lo' := [_, _, _, _, _, _, _]) (Nat.le_of_ble_eq_true rfl) rfl ?_
  refine g_iconst hF (-1) dX10_choice_7 8 rfl rfl ?_
  refine g_istore_n hF dX10_choice_8 9 rfl (lo' := [_, _, _, _, _, _, _]) (Nat.le_of_ble_eq_true rfl) rfl ?_
  refine g_iconst hF (0) dX10_choice_9 10 rfl rfl ?_
  refine g_istore hF dX10_choice_10 12 rfl (lo' := [_, _, _, _, _, _, _]) (Nat.le_of_ble_eq_true rfl) rfl ?_
  exact loop (N + 1) 0 0 (-1) (by omega) (by omega) nI_0.symm rfl
set_option maxRecDepth 100000 in
set_option maxHeartbeats 16000000 in
theorem c_M_goesTo (T G g : Nat) (hv0 : okV T v) (hG0 : v.1 = nI G) (hG4 : G ≤ 4) (hg : g < G) : Ct l E yX10_goesTo cX10_goesTo 3 (some .int) (rm 4) [.ref c, .int (nI g)] (Mm E c (flat v) pf im ss kp bk ws cm ls nq dd sd en wh ro) (rV (some (.int (sNext v.2.2.2 g))) (Mm E c (flat v) pf im ss kp bk ws cm ls nq dd sd en wh ro)) (fun _ => False) := by
  refine ct_start (by decide) [some (.ref c), some (.int (nI g)), none] rfl (Nat.le_of_ble_eq_true rfl) ?_
  intro x hF hN hA hR
  obtain ⟨G', hG, G1, G4, hGc, ho, hn⟩ := okN hv0
  obtain rfl : G' = G := (nI_eq (by omega) (by omega)).mp (hG.symm.trans hG0)
  have key : ∀ h, h < 4 → ∃ N, 1 ≤ N ∧ N ≤ 6 ∧ v.2.2.2 h 0 = nI N ∧ (∃ R, R ≤ N ∧ v.2.2.2 h 2 = nI R) ∧ ∃ s, s ≤ 6 ∧ v.2.2.2 h 5 + 1 = nI s := fun h hh => by
    obtain ⟨⟨N, a, b, c, d⟩, -, -, -, ⟨s, hs⟩, -⟩ := ho h hh
    exact ⟨N, a, b, c, d, s, hs⟩
  obtain ⟨N, n1, n6, n0, -, s, s6, s0⟩ := key g (by omega)
  have hcc : sSet (v.2.2.2 g) 0 N = 0 ↔ chg (v.2.2.2 g) = -1 := by
    rw [chg_N n0 n6 s0 s6]
    rcases sCh_rng (v.2.2.2 g) (fun i => v.2.2.2 g (13 + 4 * i)) N s (by omega) with ⟨q1, q2⟩ | ⟨t, q1, q2, q3⟩
    · exact ⟨fun _ => q1, fun _ => sSet_none N q2⟩
    · exact ⟨fun y => absurd y (sSet_some n6 q1 q3), fun y => absurd (q2.symm.trans y) (nI_nm1 (by omega))⟩
  by_cases hc : chg (v.2.2.2 g) = -1
  · rcases (ho g (by omega)).2.2.1 with ho1 | ⟨w, w1, w2, w3⟩
    · have e : sNext v.2.2.2 g = -1 := by unfold sNext; rw [if_neg (fun y => y hc), if_pos ho1]
      rw [e] at hR
      refine g_aload_n hF dX10_goesTo_0 1 rfl rfl ?_
      refine g_iload_n hF dX10_goesTo_1 2 rfl rfl ?_
      refine g_iconst hF (0) dX10_goesTo_2 3 rfl rfl ?_
      refine g_callV hF cv_X10_77 (c_M_setOf l E c v pf im ss kp bk ws cm ls nq dd sd en wh ro g N 0 (by omega) n0 n6) dX10_goesTo_3 6 rfl (st := []) rfl rfl ⟨Nat.le_of_ble_eq_true rfl, Nat.le_of_ble_eq_true rfl⟩ ⟨Nat.le_of_ble_eq_true rfl, Nat.le_of_ble_eq_true rfl⟩ rfl (Nat.le_of_ble_eq_true rfl) 10 rfl (by intro H h; first | exact h.1 | exact h.2.1 | exact h.2.2.1 | exact h.2.2.2.1 | exact h.2.2.2.2.1 | exact h.2.2.2.2.2.1 | exact h.2.2.2.2.2.2.1 | exact h.2.2.2.2.2.2.2.1 | exact h.2.2.2.2.2.2.2.2.1 | exact h.2.2.2.2.2.2.2.2.2.1 | exact h.2.2.2.2.2.2.2.2.2.2) (Pr' := _) (fun _ h => h) (fun q z => z.elim) (fun _ _ _ h _ => by exact h) (st1 := [_]) rfl (k1 := 0) (n1 := 0) rfl rfl ?_
      refine g_if_eq hF dX10_goesTo_6 9 rfl 20 (by decide) (fun _ => ?_) (fun c => absurd (hcc.mpr hc) c)
      refine g_aload_n hF dX10_goesTo_20 21 rfl rfl ?_
      refine g_iload_n hF dX10_goesTo_21 22 rfl rfl ?_
      refine g_iconst hF (3) dX10_goesTo_22 23 rfl rfl ?_
      rw [show (3 : Int32) = nI 3 by decide]
      refine g_callV hF cv_X10_54 (c_M_of l E c v pf im ss kp bk ws cm ls nq dd sd en wh ro g 3 (by omega) (by omega)) dX10_goesTo_23 26 rfl (st := []) rfl rfl ⟨Nat.le_of_ble_eq_true rfl, Nat.le_of_ble_eq_true rfl⟩ ⟨Nat.le_of_ble_eq_true rfl, Nat.le_of_ble_eq_true rfl⟩ rfl (Nat.le_of_ble_eq_true rfl) 10 rfl (by intro H h; first | exact h.1 | exact h.2.1 | exact h.2.2.1 | exact h.2.2.2.1 | exact h.2.2.2.2.1 | exact h.2.2.2.2.2.1 | exact h.2.2.2.2.2.2.1 | exact h.2.2.2.2.2.2.2.1 | exact h.2.2.2.2.2.2.2.2.1 | exact h.2.2.2.2.2.2.2.2.2.1 | exact h.2.2.2.2.2.2.2.2.2.2) (Pr' := _) (fun _ h => h) (fun q z => z.elim) (fun _ _ _ h _ => by exact h) (st1 := [_]) rfl (k1 := 0) (n1 := 0) rfl rfl ?_
      refine g_istore_n hF dX10_goesTo_26 27 rfl (lo' := [_, _, _]) (Nat.le_of_ble_eq_true rfl) rfl ?_
      refine g_iload_n hF dX10_goesTo_27 28 rfl rfl ?_
      refine g_iconst hF (-1) dX10_goesTo_28 29 rfl rfl ?_
      refine g_icmp_eq hF dX10_goesTo_29 32 rfl 63 (by decide) (fun _ => ?_) (fun c => absurd (ho1) c)
      refine g_iconst hF (-1) dX10_goesTo_63 64 rfl rfl ?_
      exact g_iret hF dX10_goesTo_64 (Nat.le_of_ble_eq_true rfl) (Nat.le_of_ble_eq_true rfl) (fun H h => hR _ _ ⟨congrArg (fun z => some (Value.int z)) (rfl), h⟩)
    · have hw4 : w < 4 := by omega
      obtain ⟨M, m1, m6, m0, ⟨R, r1, r0⟩, u, u6, u0⟩ := key w hw4
      have e : sNext v.2.2.2 g = if v.2.2.2 w 2 < cnt (v.2.2.2 w) 0 then 10 * nI w + chg (v.2.2.2 w) else -1 := by
        unfold sNext
        rw [if_neg (fun y => y hc), w3, if_neg (nI_nm1 (by omega)), nI_clamp (by omega)]
      rw [e] at hR
      refine g_aload_n hF dX10_goesTo_0 1 rfl rfl ?_
      refine g_iload_n hF dX10_goesTo_1 2 rfl rfl ?_
      refine g_iconst hF (0) dX10_goesTo_2 3 rfl rfl ?_
      refine g_callV hF cv_X10_77 (c_M_setOf l E c v pf im ss kp bk ws cm ls nq dd sd en wh ro g N 0 (by omega) n0 n6) dX10_goesTo_3 6 rfl (st := []) rfl rfl ⟨Nat.le_of_ble_eq_true rfl, Nat.le_of_ble_eq_true rfl⟩ ⟨Nat.le_of_ble_eq_true rfl, Nat.le_of_ble_eq_true rfl⟩ rfl (Nat.le_of_ble_eq_true rfl) 10 rfl (by intro H h; first | exact h.1 | exact h.2.1 | exact h.2.2.1 | exact h.2.2.2.1 | exact h.2.2.2.2.1 | exact h.2.2.2.2.2.1 | exact h.2.2.2.2.2.2.1 | exact h.2.2.2.2.2.2.2.1 | exact h.2.2.2.2.2.2.2.2.1 | exact h.2.2.2.2.2.2.2.2.2.1 | exact h.2.2.2.2.2.2.2.2.2.2) (Pr' := _) (fun _ h => h) (fun q z => z.elim) (fun _ _ _ h _ => by exact h) (st1 := [_]) rfl (k1 := 0) (n1 := 0) rfl rfl ?_
      refine g_if_eq hF dX10_goesTo_6 9 rfl 20 (by decide) (fun _ => ?_) (fun c => absurd (hcc.mpr hc) c)
      refine g_aload_n hF dX10_goesTo_20 21 rfl rfl ?_
      refine g_iload_n hF dX10_goesTo_21 22 rfl rfl ?_
      refine g_iconst hF (3) dX10_goesTo_22 23 rfl rfl ?_
      rw [show (3 : Int32) = nI 3 by decide]
      refine g_callV hF cv_X10_54 (c_M_of l E c v pf im ss kp bk ws cm ls nq dd sd en wh ro g 3 (by omega) (by omega)) dX10_goesTo_23 26 rfl (st := []) rfl rfl ⟨Nat.le_of_ble_eq_true rfl, Nat.le_of_ble_eq_true rfl⟩ ⟨Nat.le_of_ble_eq_true rfl, Nat.le_of_ble_eq_true rfl⟩ rfl (Nat.le_of_ble_eq_true rfl) 10 rfl (by intro H h; first | exact h.1 | exact h.2.1 | exact h.2.2.1 | exact h.2.2.2.1 | exact h.2.2.2.2.1 | exact h.2.2.2.2.2.1 | exact h.2.2.2.2.2.2.1 | exact h.2.2.2.2.2.2.2.1 | exact h.2.2.2.2.2.2.2.2.1 | exact h.2.2.2.2.2.2.2.2.2.1 | exact h.2.2.2.2.2.2.2.2.2.2) (Pr' := _) (fun _ h => h) (fun q z => z.elim) (fun _ _ _ h _ => by exact h) (st1 := [_]) rfl (k1 := 0) (n1 := 0) rfl rfl ?_
      rw [w3]
      refine g_istore_n hF dX10_goesTo_26 27 rfl (lo' := [_, _, _]) (Nat.le_of_ble_eq_true rfl) rfl ?_
      refine g_iload_n hF dX10_goesTo_27 28 rfl rfl ?_
      refine g_iconst hF (-1) dX10_goesTo_28 29 rfl rfl ?_
      refine g_icmp_eq hF dX10_goesTo_29 32 rfl 63 (by decide) (fun c => absurd c (nI_nm1 (by omega))) (fun _ => ?_)
      refine g_aload_n hF dX10_goesTo_32 33 rfl rfl ?_
      refine g_iload_n hF dX10_goesTo_33 34 rfl rfl ?_
      refine g_iconst hF (0) dX10_goesTo_34 35 rfl rfl ?_
      refine g_callV hF cv_X10_77 (c_M_setOf l E c v pf im ss kp bk ws cm ls nq dd sd en wh ro w M 0 hw4 m0 m6) dX10_goesTo_35 38 rfl (st := []) rfl rfl ⟨Nat.le_of_ble_eq_true rfl, Nat.le_of_ble_eq_true rfl⟩ ⟨Nat.le_of_ble_eq_true rfl, Nat.le_of_ble_eq_true rfl⟩ rfl (Nat.le_of_ble_eq_true rfl) 10 rfl (by intro H h; first | exact h.1 | exact h.2.1 | exact h.2.2.1 | exact h.2.2.2.1 | exact h.2.2.2.2.1 | exact h.2.2.2.2.2.1 | exact h.2.2.2.2.2.2.1 | exact h.2.2.2.2.2.2.2.1 | exact h.2.2.2.2.2.2.2.2.1 | exact h.2.2.2.2.2.2.2.2.2.1 | exact h.2.2.2.2.2.2.2.2.2.2) (Pr' := _) (fun _ h => h) (fun q z => z.elim) (fun _ _ _ h _ => by exact h) (st1 := [_]) rfl (k1 := 0) (n1 := 0) rfl rfl ?_
      refine g_callS hF cs_X10_84 (c_M_ones l E (sSet (v.2.2.2 w) 0 M) (Mm E c (flat v) pf im ss kp bk ws cm ls nq dd sd en wh ro)) dX10_goesTo_38 41 rfl (st := []) rfl rfl ⟨Nat.le_of_ble_eq_true rfl, Nat.le_of_ble_eq_true rfl⟩ ⟨Nat.le_of_ble_eq_true rfl, Nat.le_of_ble_eq_true rfl⟩ rfl (Nat.le_of_ble_eq_true rfl) (Pr' := _) (fun _ h => h) (fun q z => z.elim) (fun _ _ _ h _ => by exact h) (st1 := [_]) rfl (k1 := 0) (n1 := 0) rfl rfl ?_
      rw [ones_cnt m0 m6]
      refine g_aload_n hF dX10_goesTo_41 42 rfl rfl ?_
      refine g_iload_n hF dX10_goesTo_42 43 rfl rfl ?_
      refine g_iconst hF (2) dX10_goesTo_43 44 rfl rfl ?_
      rw [show (2 : Int32) = nI 2 by decide]
      refine g_callV hF cv_X10_54 (c_M_of l E c v pf im ss kp bk ws cm ls nq dd sd en wh ro w 2 hw4 (by omega)) dX10_goesTo_44 47 rfl (st := [_]) rfl rfl ⟨Nat.le_of_ble_eq_true rfl, Nat.le_of_ble_eq_true rfl⟩ ⟨Nat.le_of_ble_eq_true rfl, Nat.le_of_ble_eq_true rfl⟩ rfl (Nat.le_of_ble_eq_true rfl) 10 rfl (by intro H h; first | exact h.1 | exact h.2.1 | exact h.2.2.1 | exact h.2.2.2.1 | exact h.2.2.2.2.1 | exact h.2.2.2.2.2.1 | exact h.2.2.2.2.2.2.1 | exact h.2.2.2.2.2.2.2.1 | exact h.2.2.2.2.2.2.2.2.1 | exact h.2.2.2.2.2.2.2.2.2.1 | exact h.2.2.2.2.2.2.2.2.2.2) (Pr' := _) (fun _ h => h) (fun q z => z.elim) (fun _ _ _ h _ => by exact h) (st1 := [_, _]) rfl (k1 := 0) (n1 := 0) rfl rfl ?_
      refine g_icmp_le hF dX10_goesTo_47 50 rfl 63 (by decide) (fun c47 => ?_) (fun c47 => ?_)
      · refine g_iconst hF (-1) dX10_goesTo_63 64 rfl rfl ?_
        exact g_iret hF dX10_goesTo_64 (Nat.le_of_ble_eq_true rfl) (Nat.le_of_ble_eq_true rfl) (fun H h => hR _ _ ⟨congrArg (fun z => some (Value.int z)) ((if_neg (Int32.not_lt.mpr c47)).symm), h⟩)
      · refine g_bipush hF (10) dX10_goesTo_50 52 rfl rfl ?_
        refine g_iload_n hF dX10_goesTo_52 53 rfl rfl ?_
        refine g_imul hF dX10_goesTo_53 54 rfl ?_
        refine g_aload_n hF dX10_goesTo_54 55 rfl rfl ?_
        refine g_iload_n hF dX10_goesTo_55 56 rfl rfl ?_
        refine g_callV hF cv_X10_80 (c_M_choice l E c v pf im ss kp bk ws cm ls nq dd sd en wh ro w M u hw4 m0 m1 m6 u0 u6) dX10_goesTo_56 59 rfl (st := [_]) rfl rfl ⟨Nat.le_of_ble_eq_true rfl, Nat.le_of_ble_eq_true rfl⟩ ⟨Nat.le_of_ble_eq_true rfl, Nat.le_of_ble_eq_true rfl⟩ rfl (Nat.le_of_ble_eq_true rfl) 10 rfl (by intro H h; first | exact h.1 | exact h.2.1 | exact h.2.2.1 | exact h.2.2.2.1 | exact h.2.2.2.2.1 | exact h.2.2.2.2.2.1 | exact h.2.2.2.2.2.2.1 | exact h.2.2.2.2.2.2.2.1 | exact h.2.2.2.2.2.2.2.2.1 | exact h.2.2.2.2.2.2.2.2.2.1 | exact h.2.2.2.2.2.2.2.2.2.2) (Pr' := _) (fun _ h => h) (fun q z => z.elim) (fun _ _ _ h _ => by exact h) (st1 := [_, _]) rfl (k1 := 0) (n1 := 0) rfl rfl ?_
        refine g_iadd hF dX10_goesTo_59 60 rfl ?_
        refine g_goto hF dX10_goesTo_60 64 (by decide) ?_
        exact g_iret hF dX10_goesTo_64 (Nat.le_of_ble_eq_true rfl) (Nat.le_of_ble_eq_true rfl) (fun H h => hR _ _ ⟨congrArg (fun z => some (Value.int z)) ((if_pos (Int32.not_le.mp c47)).symm), h⟩)
  · have e : sNext v.2.2.2 g = 10 * nI g + chg (v.2.2.2 g) := if_pos hc
    rw [e] at hR
    refine g_aload_n hF dX10_goesTo_0 1 rfl rfl ?_
    refine g_iload_n hF dX10_goesTo_1 2 rfl rfl ?_
    refine g_iconst hF (0) dX10_goesTo_2 3 rfl rfl ?_
    refine g_callV hF cv_X10_77 (c_M_setOf l E c v pf im ss kp bk ws cm ls nq dd sd en wh ro g N 0 (by omega) n0 n6) dX10_goesTo_3 6 rfl (st := []) rfl rfl ⟨Nat.le_of_ble_eq_true rfl, Nat.le_of_ble_eq_true rfl⟩ ⟨Nat.le_of_ble_eq_true rfl, Nat.le_of_ble_eq_true rfl⟩ rfl (Nat.le_of_ble_eq_true rfl) 10 rfl (by intro H h; first | exact h.1 | exact h.2.1 | exact h.2.2.1 | exact h.2.2.2.1 | exact h.2.2.2.2.1 | exact h.2.2.2.2.2.1 | exact h.2.2.2.2.2.2.1 | exact h.2.2.2.2.2.2.2.1 | exact h.2.2.2.2.2.2.2.2.1 | exact h.2.2.2.2.2.2.2.2.2.1 | exact h.2.2.2.2.2.2.2.2.2.2) (Pr' := _) (fun _ h => h) (fun q z => z.elim) (fun _ _ _ h _ => by exact h) (st1 := [_]) rfl (k1 := 0) (n1 := 0) rfl rfl ?_
    refine g_if_eq hF dX10_goesTo_6 9 rfl 20 (by decide) (fun c => absurd c (fun y => hc (hcc.mp y))) (fun _ => ?_)
    refine g_bipush hF (10) dX10_goesTo_9 11 rfl rfl ?_
    refine g_iload_n hF dX10_goesTo_11 12 rfl rfl ?_
    refine g_imul hF dX10_goesTo_12 13 rfl ?_
    refine g_aload_n hF dX10_goesTo_13 14 rfl rfl ?_
    refine g_iload_n hF dX10_goesTo_14 15 rfl rfl ?_
    refine g_callV hF cv_X10_80 (c_M_choice l E c v pf im ss kp bk ws cm ls nq dd sd en wh ro g N s (by omega) n0 n1 n6 s0 s6) dX10_goesTo_15 18 rfl (st := [_]) rfl rfl ⟨Nat.le_of_ble_eq_true rfl, Nat.le_of_ble_eq_true rfl⟩ ⟨Nat.le_of_ble_eq_true rfl, Nat.le_of_ble_eq_true rfl⟩ rfl (Nat.le_of_ble_eq_true rfl) 10 rfl (by intro H h; first | exact h.1 | exact h.2.1 | exact h.2.2.1 | exact h.2.2.2.1 | exact h.2.2.2.2.1 | exact h.2.2.2.2.2.1 | exact h.2.2.2.2.2.2.1 | exact h.2.2.2.2.2.2.2.1 | exact h.2.2.2.2.2.2.2.2.1 | exact h.2.2.2.2.2.2.2.2.2.1 | exact h.2.2.2.2.2.2.2.2.2.2) (Pr' := _) (fun _ h => h) (fun q z => z.elim) (fun _ _ _ h _ => by exact h) (st1 := [_, _]) rfl (k1 := 0) (n1 := 0) rfl rfl ?_
    refine g_iadd hF dX10_goesTo_18 19 rfl ?_
    exact g_iret hF dX10_goesTo_19 (Nat.le_of_ble_eq_true rfl) (Nat.le_of_ble_eq_true rfl) (fun H h => hR _ _ ⟨congrArg (fun z => some (Value.int z)) (rfl), h⟩)
set_option maxRecDepth 100000 in
set_option maxHeartbeats 16000000 in
theorem c_M_ends (g i : Nat) (hg : g < 4) (hi : i < 6) : Ct l E yX10_ends cX10_ends 4 (some .int) (rm 3) [.ref c, .int (nI g), .int (nI i)] (Mm E c (flat v) pf im ss kp bk ws cm ls nq dd sd en wh ro) (rV (some (.int (v.2.2.2 g (11 + 4 * i)))) (Mm E c (flat (sEnd v g i)) pf im ss kp bk ws cm ls nq dd sd en wh ro)) (rg c 11) := by
  refine ct_start (by decide) [some (.ref c), some (.int (nI g)), some (.int (nI i)), none] rfl (Nat.le_of_ble_eq_true rfl) ?_
  intro x hF hN hA hR
  refine g_aload_n hF dX10_ends_0 1 rfl rfl ?_
  refine g_iload_n hF dX10_ends_1 2 rfl rfl ?_
  refine g_iload_n hF dX10_ends_2 3 rfl rfl ?_
  refine g_iconst hF (1) dX10_ends_3 4 rfl rfl ?_
  rw [show (1 : Int32) = nI 1 by decide]
  refine g_callV hF cv_X10_73 (c_M_ofL l E c v pf im ss kp bk ws cm ls nq dd sd en wh ro g i 1 hg hi (by omega)) dX10_ends_4 7 rfl (st := []) rfl rfl ⟨Nat.le_of_ble_eq_true rfl, Nat.le_of_ble_eq_true rfl⟩ ⟨Nat.le_of_ble_eq_true rfl, Nat.le_of_ble_eq_true rfl⟩ rfl (Nat.le_of_ble_eq_true rfl) 10 rfl (by intro H h; first | exact h.1 | exact h.2.1 | exact h.2.2.1 | exact h.2.2.2.1 | exact h.2.2.2.2.1 | exact h.2.2.2.2.2.1 | exact h.2.2.2.2.2.2.1 | exact h.2.2.2.2.2.2.2.1 | exact h.2.2.2.2.2.2.2.2.1 | exact h.2.2.2.2.2.2.2.2.2.1 | exact h.2.2.2.2.2.2.2.2.2.2) (Pr' := _) (fun _ h => h) (fun q z => z.elim) (fun _ _ _ h _ => by exact h) (st1 := [_]) rfl (k1 := 0) (n1 := 0) rfl rfl ?_
  rw [show 10 + 4 * i + 1 = 11 + 4 * i by omega]
  refine g_istore_n hF dX10_ends_7 8 rfl (lo' := [_, _, _, _]) (Nat.le_of_ble_eq_true rfl) rfl ?_
  refine g_aload_n hF dX10_ends_8 9 rfl rfl ?_
  refine g_get hF fl_X10_7 dX10_ends_9 12 rfl (by intro H h; first | exact h.1 | exact h.2.1 | exact h.2.2.1 | exact h.2.2.2.1 | exact h.2.2.2.2.1 | exact h.2.2.2.2.2.1 | exact h.2.2.2.2.2.2.1 | exact h.2.2.2.2.2.2.2.1 | exact h.2.2.2.2.2.2.2.2.1 | exact h.2.2.2.2.2.2.2.2.2.1 | exact h.2.2.2.2.2.2.2.2.2.2) rfl ?_
  refine g_iconst hF (1) dX10_ends_12 13 rfl rfl ?_
  refine g_dup2 hF dX10_ends_13 14 rfl rfl rfl ?_
  refine g_iald hF dX10_ends_14 15 rfl (by intro H h; first | exact h.1 | exact h.2.1 | exact h.2.2.1 | exact h.2.2.2.1 | exact h.2.2.2.2.1 | exact h.2.2.2.2.2.1 | exact h.2.2.2.2.2.2.1 | exact h.2.2.2.2.2.2.2.1 | exact h.2.2.2.2.2.2.2.2.1 | exact h.2.2.2.2.2.2.2.2.2.1 | exact h.2.2.2.2.2.2.2.2.2.2) (vp_in_nI (show 1 < 139 by omega) (by omega)) ?_
  rw [show flat v (1 : Int32).toNatClampNeg = v.2.1 from rfl]
  refine g_iconst hF (1) dX10_ends_15 16 rfl rfl ?_
  refine g_iadd hF dX10_ends_16 17 rfl ?_
  refine g_iast hF dX10_ends_17 18 rfl (by intro H h; first | exact h.1 | exact h.2.1 | exact h.2.2.1 | exact h.2.2.2.1 | exact h.2.2.2.2.1 | exact h.2.2.2.2.2.1 | exact h.2.2.2.2.2.2.1 | exact h.2.2.2.2.2.2.2.1 | exact h.2.2.2.2.2.2.2.2.1 | exact h.2.2.2.2.2.2.2.2.2.1 | exact h.2.2.2.2.2.2.2.2.2.2) (vp_in_nI (show 1 < 139 by omega) (by omega)) (hA _ ⟨by omega, by omega⟩) (Pr' := Mm E c (flat (v.1, v.2.1 + 1, v.2.2.1, v.2.2.2)) pf im ss kp bk ws cm ls nq dd sd en wh ro) (fun H H' h h1 h2 => by rw [show (1 : Int32).toNatClampNeg = 1 by decide] at h1; exact (h.nw h1 h2).to (fun k _ => flat_1 v _ k)) ?_
  refine g_aload_n hF dX10_ends_18 19 rfl rfl ?_
  refine g_iload_n hF dX10_ends_19 20 rfl rfl ?_
  refine g_iload_n hF dX10_ends_20 21 rfl rfl ?_
  refine g_iconst hF (0) dX10_ends_21 22 rfl rfl ?_
  refine g_iconst hF (-1) dX10_ends_22 23 rfl rfl ?_
  refine g_iconst hF (-1) dX10_ends_23 24 rfl rfl ?_
  refine g_aload_n hF dX10_ends_24 25 rfl rfl ?_
  refine g_get hF fl_X10_7 dX10_ends_25 28 rfl (by intro H h; first | exact h.1 | exact h.2.1 | exact h.2.2.1 | exact h.2.2.2.1 | exact h.2.2.2.2.1 | exact h.2.2.2.2.2.1 | exact h.2.2.2.2.2.2.1 | exact h.2.2.2.2.2.2.2.1 | exact h.2.2.2.2.2.2.2.2.1 | exact h.2.2.2.2.2.2.2.2.2.1 | exact h.2.2.2.2.2.2.2.2.2.2) rfl ?_
  refine g_iconst hF (1) dX10_ends_28 29 rfl rfl ?_
  refine g_iald hF dX10_ends_29 30 rfl (by intro H h; first | exact h.1 | exact h.2.1 | exact h.2.2.1 | exact h.2.2.2.1 | exact h.2.2.2.2.1 | exact h.2.2.2.2.2.1 | exact h.2.2.2.2.2.2.1 | exact h.2.2.2.2.2.2.2.1 | exact h.2.2.2.2.2.2.2.2.1 | exact h.2.2.2.2.2.2.2.2.2.1 | exact h.2.2.2.2.2.2.2.2.2.2) (vp_in_nI (show 1 < 139 by omega) (by omega)) ?_
  rw [show flat (v.1, v.2.1 + 1, v.2.2.1, v.2.2.2) (1 : Int32).toNatClampNeg = v.2.1 + 1 from rfl]
  refine g_callV hF cv_X10_62 (c_M_putL l E c (v.1, v.2.1 + 1, v.2.2.1, v.2.2.2) pf im ss kp bk ws cm ls nq dd sd en wh ro g i 0 (-1) (-1) (v.2.1 + 1) hg hi) dX10_ends_30 33 rfl (st := []) rfl rfl ⟨Nat.le_of_ble_eq_true rfl, Nat.le_of_ble_eq_true rfl⟩ ⟨Nat.le_of_ble_eq_true rfl, Nat.le_of_ble_eq_true rfl⟩ rfl (Nat.le_of_ble_eq_true rfl) 10 rfl (by intro H h; first | exact h.1 | exact h.2.1 | exact h.2.2.1 | exact h.2.2.2.1 | exact h.2.2.2.2.1 | exact h.2.2.2.2.2.1 | exact h.2.2.2.2.2.2.1 | exact h.2.2.2.2.2.2.2.1 | exact h.2.2.2.2.2.2.2.2.1 | exact h.2.2.2.2.2.2.2.2.2.1 | exact h.2.2.2.2.2.2.2.2.2.2) (Pr' := Mm E c (flat (sEnd v g i)) pf im ss kp bk ws cm ls nq dd sd en wh ro) (fun _ h => h) (hA) (fun _ _ _ h _ => by exact h) (st1 := []) rfl (k1 := 0) (n1 := 0) rfl rfl ?_
  refine g_iload_n hF dX10_ends_33 34 rfl rfl ?_
  exact g_iret hF dX10_ends_34 (Nat.le_of_ble_eq_true rfl) (Nat.le_of_ble_eq_true rfl) (fun H h => hR _ _ ⟨congrArg (fun z => some (Value.int z)) (rfl), h⟩)
set_option maxRecDepth 100000 in
set_option maxHeartbeats 16000000 in
theorem c_M_comes (T G g : Nat) (hv0 : okV T v) (hG0 : v.1 = nI G) (hG4 : G ≤ 4) (hg : g < G) : Ct l E yX10_comes cX10_comes 4 (some .int) (rm 5) [.ref c, .int (nI g)] (Mm E c (flat v) pf im ss kp bk ws cm ls nq dd sd en wh ro) (rV (some (.int (sNext v.2.2.2 g))) (Mm E c (flat (sPlace v g)) pf im ss kp bk ws cm ls nq dd sd en wh ro)) (rg c 11) := by
  refine ct_start (by decide) [some (.ref c), some (.int (nI g)), none, none] rfl (Nat.le_of_ble_eq_true rfl) ?_
  intro x hF hN hA hR
  have hg4 : g < 4 := by omega
  obtain ⟨G', hG, G1, G4, hGc, ho, hn⟩ := okN hv0
  obtain rfl : G = G' := (nI_eq (by omega) (by omega)).mp (hG0.symm.trans hG)
  rcases sNext_cases G4 ho hg with hp | ⟨u, t, hh, ht, hM6, hp, hfree⟩
  · rw [show sPlace v g = (v.1, v.2.1 + 1, v.2.2.1 + 1, va_up v.2.2.2 g (upd (upd (v.2.2.2 g) 6 (v.2.2.2 g 6 + 1)) 9 (v.2.2.2 g 9 + 1))) from if_pos hp, hp] at hR
    refine g_aload_n hF dX10_comes_0 1 rfl rfl ?_
    refine g_iload_n hF dX10_comes_1 2 rfl rfl ?_
    refine g_callV hF cv_X10_119 (c_M_goesTo l E c v pf im ss kp bk ws cm ls nq dd sd en wh ro T G g hv0 hG0 hG4 hg) dX10_comes_2 5 rfl (st := []) rfl rfl ⟨Nat.le_of_ble_eq_true rfl, Nat.le_of_ble_eq_true rfl⟩ ⟨Nat.le_of_ble_eq_true rfl, Nat.le_of_ble_eq_true rfl⟩ rfl (Nat.le_of_ble_eq_true rfl) 10 rfl (by intro H h; first | exact h.1 | exact h.2.1 | exact h.2.2.1 | exact h.2.2.2.1 | exact h.2.2.2.2.1 | exact h.2.2.2.2.2.1 | exact h.2.2.2.2.2.2.1 | exact h.2.2.2.2.2.2.2.1 | exact h.2.2.2.2.2.2.2.2.1 | exact h.2.2.2.2.2.2.2.2.2.1 | exact h.2.2.2.2.2.2.2.2.2.2) (Pr' := _) (fun _ h => h) (fun q z => z.elim) (fun _ _ _ h _ => by exact h) (st1 := [_]) rfl (k1 := 0) (n1 := 0) rfl rfl ?_
    rw [hp]
    refine g_istore_n hF dX10_comes_5 6 rfl (lo' := [_, _, _, _]) (Nat.le_of_ble_eq_true rfl) rfl ?_
    refine g_aload_n hF dX10_comes_6 7 rfl rfl ?_
    refine g_iload_n hF dX10_comes_7 8 rfl rfl ?_
    refine g_bipush hF (6) dX10_comes_8 10 rfl rfl ?_
    refine g_aload_n hF dX10_comes_10 11 rfl rfl ?_
    refine g_iload_n hF dX10_comes_11 12 rfl rfl ?_
    refine g_bipush hF (6) dX10_comes_12 14 rfl rfl ?_
    rw [show (6 : Int32) = nI 6 by decide]
    refine g_callV hF cv_X10_54 (c_M_of l E c v pf im ss kp bk ws cm ls nq dd sd en wh ro g 6 hg4 (by omega)) dX10_comes_14 17 rfl (st := [_, _, _]) rfl rfl ⟨Nat.le_of_ble_eq_true rfl, Nat.le_of_ble_eq_true rfl⟩ ⟨Nat.le_of_ble_eq_true rfl, Nat.le_of_ble_eq_true rfl⟩ rfl (Nat.le_of_ble_eq_true rfl) 10 rfl (by intro H h; first | exact h.1 | exact h.2.1 | exact h.2.2.1 | exact h.2.2.2.1 | exact h.2.2.2.2.1 | exact h.2.2.2.2.2.1 | exact h.2.2.2.2.2.2.1 | exact h.2.2.2.2.2.2.2.1 | exact h.2.2.2.2.2.2.2.2.1 | exact h.2.2.2.2.2.2.2.2.2.1 | exact h.2.2.2.2.2.2.2.2.2.2) (Pr' := _) (fun _ h => h) (fun q z => z.elim) (fun _ _ _ h _ => by exact h) (st1 := [_, _, _, _]) rfl (k1 := 0) (n1 := 0) rfl rfl ?_
    refine g_iconst hF (1) dX10_comes_17 18 rfl rfl ?_
    refine g_iadd hF dX10_comes_18 19 rfl ?_
    refine g_callV hF cv_X10_58 (c_M_put l E c v pf im ss kp bk ws cm ls nq dd sd en wh ro g 6 (v.2.2.2 g 6 + 1) hg4 (by omega)) dX10_comes_19 22 rfl (st := []) rfl rfl ⟨Nat.le_of_ble_eq_true rfl, Nat.le_of_ble_eq_true rfl⟩ ⟨Nat.le_of_ble_eq_true rfl, Nat.le_of_ble_eq_true rfl⟩ rfl (Nat.le_of_ble_eq_true rfl) 10 rfl (by intro H h; first | exact h.1 | exact h.2.1 | exact h.2.2.1 | exact h.2.2.2.1 | exact h.2.2.2.2.1 | exact h.2.2.2.2.2.1 | exact h.2.2.2.2.2.2.1 | exact h.2.2.2.2.2.2.2.1 | exact h.2.2.2.2.2.2.2.2.1 | exact h.2.2.2.2.2.2.2.2.2.1 | exact h.2.2.2.2.2.2.2.2.2.2) (Pr' := Mm E c (flat (v.1, v.2.1, v.2.2.1, (va_up v.2.2.2 g (upd (v.2.2.2 g) 6 (v.2.2.2 g 6 + 1))))) pf im ss kp bk ws cm ls nq dd sd en wh ro) (fun _ h => h) (hA) (fun _ _ _ h _ => by exact h) (st1 := []) rfl (k1 := 0) (n1 := 0) rfl rfl ?_
    refine g_iload_n hF dX10_comes_22 23 rfl rfl ?_
    refine g_iconst hF (-1) dX10_comes_23 24 rfl rfl ?_
    refine g_icmp_ne hF dX10_comes_24 27 rfl 32 (by decide) (fun c => absurd (rfl) c) (fun _ => ?_)
    refine g_bipush hF (9) dX10_comes_27 29 rfl rfl ?_
    refine g_goto hF dX10_comes_29 47 (by decide) ?_
    refine g_istore_n hF dX10_comes_47 48 rfl (lo' := [_, _, _, _]) (Nat.le_of_ble_eq_true rfl) rfl ?_
    refine g_aload_n hF dX10_comes_48 49 rfl rfl ?_
    refine g_iload_n hF dX10_comes_49 50 rfl rfl ?_
    refine g_iload_n hF dX10_comes_50 51 rfl rfl ?_
    refine g_aload_n hF dX10_comes_51 52 rfl rfl ?_
    refine g_iload_n hF dX10_comes_52 53 rfl rfl ?_
    refine g_iload_n hF dX10_comes_53 54 rfl rfl ?_
    rw [show (9 : Int32) = nI 9 by decide]
    refine g_callV hF cv_X10_54 (c_M_of l E c (v.1, v.2.1, v.2.2.1, (va_up v.2.2.2 g (upd (v.2.2.2 g) 6 (v.2.2.2 g 6 + 1)))) pf im ss kp bk ws cm ls nq dd sd en wh ro g 9 hg4 (by omega)) dX10_comes_54 57 rfl (st := [_, _, _]) rfl rfl ⟨Nat.le_of_ble_eq_true rfl, Nat.le_of_ble_eq_true rfl⟩ ⟨Nat.le_of_ble_eq_true rfl, Nat.le_of_ble_eq_true rfl⟩ rfl (Nat.le_of_ble_eq_true rfl) 10 rfl (by intro H h; first | exact h.1 | exact h.2.1 | exact h.2.2.1 | exact h.2.2.2.1 | exact h.2.2.2.2.1 | exact h.2.2.2.2.2.1 | exact h.2.2.2.2.2.2.1 | exact h.2.2.2.2.2.2.2.1 | exact h.2.2.2.2.2.2.2.2.1 | exact h.2.2.2.2.2.2.2.2.2.1 | exact h.2.2.2.2.2.2.2.2.2.2) (Pr' := _) (fun _ h => h) (fun q z => z.elim) (fun _ _ _ h _ => by exact h) (st1 := [_, _, _, _]) rfl (k1 := 0) (n1 := 0) rfl rfl ?_
    dsimp only
    rw [va_up_self, pk_un (by omega)]
    refine g_iconst hF (1) dX10_comes_57 58 rfl rfl ?_
    refine g_iadd hF dX10_comes_58 59 rfl ?_
    refine g_callV hF cv_X10_58 (c_M_put l E c (v.1, v.2.1, v.2.2.1, (va_up v.2.2.2 g (upd (v.2.2.2 g) 6 (v.2.2.2 g 6 + 1)))) pf im ss kp bk ws cm ls nq dd sd en wh ro g 9 (v.2.2.2 g 9 + 1) hg4 (by omega)) dX10_comes_59 62 rfl (st := []) rfl rfl ⟨Nat.le_of_ble_eq_true rfl, Nat.le_of_ble_eq_true rfl⟩ ⟨Nat.le_of_ble_eq_true rfl, Nat.le_of_ble_eq_true rfl⟩ rfl (Nat.le_of_ble_eq_true rfl) 10 rfl (by intro H h; first | exact h.1 | exact h.2.1 | exact h.2.2.1 | exact h.2.2.2.1 | exact h.2.2.2.2.1 | exact h.2.2.2.2.2.1 | exact h.2.2.2.2.2.2.1 | exact h.2.2.2.2.2.2.2.1 | exact h.2.2.2.2.2.2.2.2.1 | exact h.2.2.2.2.2.2.2.2.2.1 | exact h.2.2.2.2.2.2.2.2.2.2) (Pr' := Mm E c (flat (v.1, v.2.1, v.2.2.1, (va_up v.2.2.2 g (upd (upd (v.2.2.2 g) 6 (v.2.2.2 g 6 + 1)) 9 (v.2.2.2 g 9 + 1))))) pf im ss kp bk ws cm ls nq dd sd en wh ro) (fun _ h => h) (hA) (fun H H' h h1 h2 => by rw [vput_up] at h1; exact h1) (st1 := []) rfl (k1 := 0) (n1 := 0) rfl rfl ?_
    refine g_iload_n hF dX10_comes_62 63 rfl rfl ?_
    refine g_iconst hF (-1) dX10_comes_63 64 rfl rfl ?_
    refine g_icmp_eq hF dX10_comes_64 67 rfl 101 (by decide) (fun _ => ?_) (fun c => absurd (rfl) c)
    refine g_aload_n hF dX10_comes_101 102 rfl rfl ?_
    refine g_get hF fl_X10_7 dX10_comes_102 105 rfl (by intro H h; first | exact h.1 | exact h.2.1 | exact h.2.2.1 | exact h.2.2.2.1 | exact h.2.2.2.2.1 | exact h.2.2.2.2.2.1 | exact h.2.2.2.2.2.2.1 | exact h.2.2.2.2.2.2.2.1 | exact h.2.2.2.2.2.2.2.2.1 | exact h.2.2.2.2.2.2.2.2.2.1 | exact h.2.2.2.2.2.2.2.2.2.2) rfl ?_
    refine g_iconst hF (2) dX10_comes_105 106 rfl rfl ?_
    refine g_dup2 hF dX10_comes_106 107 rfl rfl rfl ?_
    refine g_iald hF dX10_comes_107 108 rfl (by intro H h; first | exact h.1 | exact h.2.1 | exact h.2.2.1 | exact h.2.2.2.1 | exact h.2.2.2.2.1 | exact h.2.2.2.2.2.1 | exact h.2.2.2.2.2.2.1 | exact h.2.2.2.2.2.2.2.1 | exact h.2.2.2.2.2.2.2.2.1 | exact h.2.2.2.2.2.2.2.2.2.1 | exact h.2.2.2.2.2.2.2.2.2.2) (vp_in_nI (show 2 < 139 by omega) (by omega)) ?_
    rw [show flat (v.1, v.2.1, v.2.2.1, (va_up v.2.2.2 g (upd (upd (v.2.2.2 g) 6 (v.2.2.2 g 6 + 1)) 9 (v.2.2.2 g 9 + 1)))) (2 : Int32).toNatClampNeg = v.2.2.1 from rfl]
    refine g_iconst hF (1) dX10_comes_108 109 rfl rfl ?_
    refine g_iadd hF dX10_comes_109 110 rfl ?_
    refine g_iast hF dX10_comes_110 111 rfl (by intro H h; first | exact h.1 | exact h.2.1 | exact h.2.2.1 | exact h.2.2.2.1 | exact h.2.2.2.2.1 | exact h.2.2.2.2.2.1 | exact h.2.2.2.2.2.2.1 | exact h.2.2.2.2.2.2.2.1 | exact h.2.2.2.2.2.2.2.2.1 | exact h.2.2.2.2.2.2.2.2.2.1 | exact h.2.2.2.2.2.2.2.2.2.2) (vp_in_nI (show 2 < 139 by omega) (by omega)) (hA _ ⟨by omega, by omega⟩) (Pr' := Mm E c (flat (v.1, v.2.1, (v.2.2.1 + 1), (va_up v.2.2.2 g (upd (upd (v.2.2.2 g) 6 (v.2.2.2 g 6 + 1)) 9 (v.2.2.2 g 9 + 1))))) pf im ss kp bk ws cm ls nq dd sd en wh ro) (fun H H' h h1 h2 => by rw [show (2 : Int32).toNatClampNeg = 2 by decide] at h1; exact (h.nw h1 h2).to (fun k _ => flat_2 (v.1, v.2.1, v.2.2.1, (va_up v.2.2.2 g (upd (upd (v.2.2.2 g) 6 (v.2.2.2 g 6 + 1)) 9 (v.2.2.2 g 9 + 1)))) _ k)) ?_
    refine g_aload_n hF dX10_comes_111 112 rfl rfl ?_
    refine g_get hF fl_X10_7 dX10_comes_112 115 rfl (by intro H h; first | exact h.1 | exact h.2.1 | exact h.2.2.1 | exact h.2.2.2.1 | exact h.2.2.2.2.1 | exact h.2.2.2.2.2.1 | exact h.2.2.2.2.2.2.1 | exact h.2.2.2.2.2.2.2.1 | exact h.2.2.2.2.2.2.2.2.1 | exact h.2.2.2.2.2.2.2.2.2.1 | exact h.2.2.2.2.2.2.2.2.2.2) rfl ?_
    refine g_iconst hF (1) dX10_comes_115 116 rfl rfl ?_
    refine g_dup2 hF dX10_comes_116 117 rfl rfl rfl ?_
    refine g_iald hF dX10_comes_117 118 rfl (by intro H h; first | exact h.1 | exact h.2.1 | exact h.2.2.1 | exact h.2.2.2.1 | exact h.2.2.2.2.1 | exact h.2.2.2.2.2.1 | exact h.2.2.2.2.2.2.1 | exact h.2.2.2.2.2.2.2.1 | exact h.2.2.2.2.2.2.2.2.1 | exact h.2.2.2.2.2.2.2.2.2.1 | exact h.2.2.2.2.2.2.2.2.2.2) (vp_in_nI (show 1 < 139 by omega) (by omega)) ?_
    rw [show flat (v.1, v.2.1, (v.2.2.1 + 1), (va_up v.2.2.2 g (upd (upd (v.2.2.2 g) 6 (v.2.2.2 g 6 + 1)) 9 (v.2.2.2 g 9 + 1)))) (1 : Int32).toNatClampNeg = v.2.1 from rfl]
    refine g_iconst hF (1) dX10_comes_118 119 rfl rfl ?_
    refine g_iadd hF dX10_comes_119 120 rfl ?_
    refine g_iast hF dX10_comes_120 121 rfl (by intro H h; first | exact h.1 | exact h.2.1 | exact h.2.2.1 | exact h.2.2.2.1 | exact h.2.2.2.2.1 | exact h.2.2.2.2.2.1 | exact h.2.2.2.2.2.2.1 | exact h.2.2.2.2.2.2.2.1 | exact h.2.2.2.2.2.2.2.2.1 | exact h.2.2.2.2.2.2.2.2.2.1 | exact h.2.2.2.2.2.2.2.2.2.2) (vp_in_nI (show 1 < 139 by omega) (by omega)) (hA _ ⟨by omega, by omega⟩) (Pr' := Mm E c (flat (v.1, (v.2.1 + 1), (v.2.2.1 + 1), (va_up v.2.2.2 g (upd (upd (v.2.2.2 g) 6 (v.2.2.2 g 6 + 1)) 9 (v.2.2.2 g 9 + 1))))) pf im ss kp bk ws cm ls nq dd sd en wh ro) (fun H H' h h1 h2 => by rw [show (1 : Int32).toNatClampNeg = 1 by decide] at h1; exact (h.nw h1 h2).to (fun k _ => flat_1 (v.1, v.2.1, (v.2.2.1 + 1), (va_up v.2.2.2 g (upd (upd (v.2.2.2 g) 6 (v.2.2.2 g 6 + 1)) 9 (v.2.2.2 g 9 + 1)))) _ k)) ?_
    refine g_iload_n hF dX10_comes_121 122 rfl rfl ?_
    exact g_iret hF dX10_comes_122 (Nat.le_of_ble_eq_true rfl) (Nat.le_of_ble_eq_true rfl) (fun H h => hR _ _ ⟨congrArg (fun z => some (Value.int z)) (rfl), h⟩)
  · have hh4 : u < 4 := by omega
    have ed : nI (10 * u + t) / 10 = nI u := by
      rw [show (10 : Int32) = nI 10 by decide, pk_div (by omega) (by omega) (by omega)]
      congr 1
      omega
    have er : nI (10 * u + t) - nI (10 * u + t) / 10 * 10 = nI t := by
      rw [show (10 : Int32) = nI 10 by decide, pk_rem (by omega) (by omega) (by omega)]
      congr 1
      omega
    have hv : sPlace v g = (v.1, v.2.1 + 1, v.2.2.1 + 1, (fun gs1 : Nat → Nat → Int32 => (fun gs2 : Nat → Nat → Int32 => if u = g then va_up gs2 g (upd (gs2 g) 7 (gs2 g 7 + 1)) else va_up gs2 g (upd (gs2 g) 8 (gs2 g 8 + 1))) (va_up gs1 u (upd (gHold (gs1 u) t v.2.2.1 (nI g)) (13 + 4 * t) 0))) (va_up v.2.2.2 g (upd (v.2.2.2 g) 6 (v.2.2.2 g 6 + 1)))) := by
      unfold sPlace
      rw [hp, if_neg (nI_nm1 (by omega)), er, ed, nI_clamp (by omega), nI_clamp (by omega)]
    by_cases hgh : u = g
    · subst hgh
      have e7 : upd (gHold (upd (v.2.2.2 u) 6 (v.2.2.2 u 6 + 1)) t v.2.2.1 (nI u)) (13 + 4 * t) 0 7 = v.2.2.2 u 7 := by
        unfold gHold
        rw [pk_un (by omega), pk_un (by omega), pk_un (by omega), pk_un (by omega), pk_un (by omega), pk_un (by omega)]
      have eX : upd (upd (gHold (upd (v.2.2.2 u) 6 (v.2.2.2 u 6 + 1)) t v.2.2.1 (nI u)) (13 + 4 * t) 0) 7 (v.2.2.2 u 7 + 1) = (upd (upd (upd (upd (upd (upd (upd (v.2.2.2 u) 6 (v.2.2.2 u 6 + 1)) 7 (v.2.2.2 u 7 + 1)) (10 + 4 * t) 1) (11 + 4 * t) v.2.2.1) (12 + 4 * t) (nI u)) (13 + 4 * t) 0) 5 (nI t)) := by
        unfold gHold
        funext w
        by_cases w7 : w = 7
        · subst w7; rw [pk_us, pk_un (by omega), pk_un (by omega), pk_un (by omega), pk_un (by omega), pk_un (by omega), pk_us]
        · rw [pk_un w7]
          by_cases w5 : w = 5
          · subst w5; rw [pk_un (by omega), pk_us, pk_us]
          · rw [pk_un (f := (upd (upd (upd (upd (upd (upd (v.2.2.2 u) 6 (v.2.2.2 u 6 + 1)) 7 (v.2.2.2 u 7 + 1)) (10 + 4 * t) 1) (11 + 4 * t) v.2.2.1) (12 + 4 * t) (nI u)) (13 + 4 * t) 0)) w5]
            by_cases w3 : w = 13 + 4 * t
            · subst w3; rw [pk_us, pk_us]
            · rw [pk_un w3, pk_un w5, pk_un w3]
              by_cases w2 : w = 12 + 4 * t
              · subst w2; rw [pk_us, pk_us]
              · rw [pk_un w2, pk_un w2]
                by_cases w1 : w = 11 + 4 * t
                · subst w1; rw [pk_us, pk_us]
                · rw [pk_un w1, pk_un w1]
                  by_cases w0 : w = 10 + 4 * t
                  · subst w0; rw [pk_us, pk_us]
                  · rw [pk_un w0, pk_un w0, pk_un w7]
      have hv2 : sPlace v u = (v.1, v.2.1 + 1, v.2.2.1 + 1, va_up v.2.2.2 u (upd (upd (upd (upd (upd (upd (upd (v.2.2.2 u) 6 (v.2.2.2 u 6 + 1)) 7 (v.2.2.2 u 7 + 1)) (10 + 4 * t) 1) (11 + 4 * t) v.2.2.1) (12 + 4 * t) (nI u)) (13 + 4 * t) 0) 5 (nI t))) := by
        rw [hv]
        dsimp only
        rw [if_pos rfl, va_up_self, va_up_up, va_up_up, va_up_self, e7, eX]
      rw [hv2, hp] at hR
      refine g_aload_n hF dX10_comes_0 1 rfl rfl ?_
      refine g_iload_n hF dX10_comes_1 2 rfl rfl ?_
      refine g_callV hF cv_X10_119 (c_M_goesTo l E c v pf im ss kp bk ws cm ls nq dd sd en wh ro T G u hv0 hG0 hG4 hg) dX10_comes_2 5 rfl (st := []) rfl rfl ⟨Nat.le_of_ble_eq_true rfl, Nat.le_of_ble_eq_true rfl⟩ ⟨Nat.le_of_ble_eq_true rfl, Nat.le_of_ble_eq_true rfl⟩ rfl (Nat.le_of_ble_eq_true rfl) 10 rfl (by intro H h; first | exact h.1 | exact h.2.1 | exact h.2.2.1 | exact h.2.2.2.1 | exact h.2.2.2.2.1 | exact h.2.2.2.2.2.1 | exact h.2.2.2.2.2.2.1 | exact h.2.2.2.2.2.2.2.1 | exact h.2.2.2.2.2.2.2.2.1 | exact h.2.2.2.2.2.2.2.2.2.1 | exact h.2.2.2.2.2.2.2.2.2.2) (Pr' := _) (fun _ h => h) (fun q z => z.elim) (fun _ _ _ h _ => by exact h) (st1 := [_]) rfl (k1 := 0) (n1 := 0) rfl rfl ?_
      rw [hp]
      refine g_istore_n hF dX10_comes_5 6 rfl (lo' := [_, _, _, _]) (Nat.le_of_ble_eq_true rfl) rfl ?_
      refine g_aload_n hF dX10_comes_6 7 rfl rfl ?_
      refine g_iload_n hF dX10_comes_7 8 rfl rfl ?_
      refine g_bipush hF (6) dX10_comes_8 10 rfl rfl ?_
      refine g_aload_n hF dX10_comes_10 11 rfl rfl ?_
      refine g_iload_n hF dX10_comes_11 12 rfl rfl ?_
      refine g_bipush hF (6) dX10_comes_12 14 rfl rfl ?_
      rw [show (6 : Int32) = nI 6 by decide]
      refine g_callV hF cv_X10_54 (c_M_of l E c v pf im ss kp bk ws cm ls nq dd sd en wh ro u 6 hg4 (by omega)) dX10_comes_14 17 rfl (st := [_, _, _]) rfl rfl ⟨Nat.le_of_ble_eq_true rfl, Nat.le_of_ble_eq_true rfl⟩ ⟨Nat.le_of_ble_eq_true rfl, Nat.le_of_ble_eq_true rfl⟩ rfl (Nat.le_of_ble_eq_true rfl) 10 rfl (by intro H h; first | exact h.1 | exact h.2.1 | exact h.2.2.1 | exact h.2.2.2.1 | exact h.2.2.2.2.1 | exact h.2.2.2.2.2.1 | exact h.2.2.2.2.2.2.1 | exact h.2.2.2.2.2.2.2.1 | exact h.2.2.2.2.2.2.2.2.1 | exact h.2.2.2.2.2.2.2.2.2.1 | exact h.2.2.2.2.2.2.2.2.2.2) (Pr' := _) (fun _ h => h) (fun q z => z.elim) (fun _ _ _ h _ => by exact h) (st1 := [_, _, _, _]) rfl (k1 := 0) (n1 := 0) rfl rfl ?_
      refine g_iconst hF (1) dX10_comes_17 18 rfl rfl ?_
      refine g_iadd hF dX10_comes_18 19 rfl ?_
      refine g_callV hF cv_X10_58 (c_M_put l E c v pf im ss kp bk ws cm ls nq dd sd en wh ro u 6 (v.2.2.2 u 6 + 1) hg4 (by omega)) dX10_comes_19 22 rfl (st := []) rfl rfl ⟨Nat.le_of_ble_eq_true rfl, Nat.le_of_ble_eq_true rfl⟩ ⟨Nat.le_of_ble_eq_true rfl, Nat.le_of_ble_eq_true rfl⟩ rfl (Nat.le_of_ble_eq_true rfl) 10 rfl (by intro H h; first | exact h.1 | exact h.2.1 | exact h.2.2.1 | exact h.2.2.2.1 | exact h.2.2.2.2.1 | exact h.2.2.2.2.2.1 | exact h.2.2.2.2.2.2.1 | exact h.2.2.2.2.2.2.2.1 | exact h.2.2.2.2.2.2.2.2.1 | exact h.2.2.2.2.2.2.2.2.2.1 | exact h.2.2.2.2.2.2.2.2.2.2) (Pr' := Mm E c (flat (v.1, v.2.1, v.2.2.1, (va_up v.2.2.2 u (upd (v.2.2.2 u) 6 (v.2.2.2 u 6 + 1))))) pf im ss kp bk ws cm ls nq dd sd en wh ro) (fun _ h => h) (hA) (fun _ _ _ h _ => by exact h) (st1 := []) rfl (k1 := 0) (n1 := 0) rfl rfl ?_
      refine g_iload_n hF dX10_comes_22 23 rfl rfl ?_
      refine g_iconst hF (-1) dX10_comes_23 24 rfl rfl ?_
      refine g_icmp_ne hF dX10_comes_24 27 rfl 32 (by decide) (fun _ => ?_) (fun c => absurd c (nI_nm1 (by omega)))
      refine g_iload_n hF dX10_comes_32 33 rfl rfl ?_
      refine g_bipush hF (10) dX10_comes_33 35 rfl rfl ?_
      refine g_idiv hF dX10_comes_35 36 rfl (by decide) ?_
      rw [ed]
      refine g_iload_n hF dX10_comes_36 37 rfl rfl ?_
      refine g_icmp_ne hF dX10_comes_37 40 rfl 45 (by decide) (fun c => absurd (rfl) c) (fun _ => ?_)
      refine g_bipush hF (7) dX10_comes_40 42 rfl rfl ?_
      refine g_goto hF dX10_comes_42 47 (by decide) ?_
      refine g_istore_n hF dX10_comes_47 48 rfl (lo' := [_, _, _, _]) (Nat.le_of_ble_eq_true rfl) rfl ?_
      refine g_aload_n hF dX10_comes_48 49 rfl rfl ?_
      refine g_iload_n hF dX10_comes_49 50 rfl rfl ?_
      refine g_iload_n hF dX10_comes_50 51 rfl rfl ?_
      refine g_aload_n hF dX10_comes_51 52 rfl rfl ?_
      refine g_iload_n hF dX10_comes_52 53 rfl rfl ?_
      refine g_iload_n hF dX10_comes_53 54 rfl rfl ?_
      rw [show (7 : Int32) = nI 7 by decide]
      refine g_callV hF cv_X10_54 (c_M_of l E c (v.1, v.2.1, v.2.2.1, (va_up v.2.2.2 u (upd (v.2.2.2 u) 6 (v.2.2.2 u 6 + 1)))) pf im ss kp bk ws cm ls nq dd sd en wh ro u 7 hg4 (by omega)) dX10_comes_54 57 rfl (st := [_, _, _]) rfl rfl ⟨Nat.le_of_ble_eq_true rfl, Nat.le_of_ble_eq_true rfl⟩ ⟨Nat.le_of_ble_eq_true rfl, Nat.le_of_ble_eq_true rfl⟩ rfl (Nat.le_of_ble_eq_true rfl) 10 rfl (by intro H h; first | exact h.1 | exact h.2.1 | exact h.2.2.1 | exact h.2.2.2.1 | exact h.2.2.2.2.1 | exact h.2.2.2.2.2.1 | exact h.2.2.2.2.2.2.1 | exact h.2.2.2.2.2.2.2.1 | exact h.2.2.2.2.2.2.2.2.1 | exact h.2.2.2.2.2.2.2.2.2.1 | exact h.2.2.2.2.2.2.2.2.2.2) (Pr' := _) (fun _ h => h) (fun q z => z.elim) (fun _ _ _ h _ => by exact h) (st1 := [_, _, _, _]) rfl (k1 := 0) (n1 := 0) rfl rfl ?_
      dsimp only
      rw [va_up_self, pk_un (by omega)]
      refine g_iconst hF (1) dX10_comes_57 58 rfl rfl ?_
      refine g_iadd hF dX10_comes_58 59 rfl ?_
      refine g_callV hF cv_X10_58 (c_M_put l E c (v.1, v.2.1, v.2.2.1, (va_up v.2.2.2 u (upd (v.2.2.2 u) 6 (v.2.2.2 u 6 + 1)))) pf im ss kp bk ws cm ls nq dd sd en wh ro u 7 (v.2.2.2 u 7 + 1) hg4 (by omega)) dX10_comes_59 62 rfl (st := []) rfl rfl ⟨Nat.le_of_ble_eq_true rfl, Nat.le_of_ble_eq_true rfl⟩ ⟨Nat.le_of_ble_eq_true rfl, Nat.le_of_ble_eq_true rfl⟩ rfl (Nat.le_of_ble_eq_true rfl) 10 rfl (by intro H h; first | exact h.1 | exact h.2.1 | exact h.2.2.1 | exact h.2.2.2.1 | exact h.2.2.2.2.1 | exact h.2.2.2.2.2.1 | exact h.2.2.2.2.2.2.1 | exact h.2.2.2.2.2.2.2.1 | exact h.2.2.2.2.2.2.2.2.1 | exact h.2.2.2.2.2.2.2.2.2.1 | exact h.2.2.2.2.2.2.2.2.2.2) (Pr' := Mm E c (flat (v.1, v.2.1, v.2.2.1, (va_up v.2.2.2 u (upd (upd (v.2.2.2 u) 6 (v.2.2.2 u 6 + 1)) 7 (v.2.2.2 u 7 + 1))))) pf im ss kp bk ws cm ls nq dd sd en wh ro) (fun _ h => h) (hA) (fun H H' h h1 h2 => by rw [vput_up] at h1; exact h1) (st1 := []) rfl (k1 := 0) (n1 := 0) rfl rfl ?_
      refine g_iload_n hF dX10_comes_62 63 rfl rfl ?_
      refine g_iconst hF (-1) dX10_comes_63 64 rfl rfl ?_
      refine g_icmp_eq hF dX10_comes_64 67 rfl 101 (by decide) (fun c => absurd c (nI_nm1 (by omega))) (fun _ => ?_)
      refine g_aload_n hF dX10_comes_67 68 rfl rfl ?_
      refine g_iload_n hF dX10_comes_68 69 rfl rfl ?_
      refine g_bipush hF (10) dX10_comes_69 71 rfl rfl ?_
      refine g_idiv hF dX10_comes_71 72 rfl (by decide) ?_
      rw [ed]
      refine g_iload_n hF dX10_comes_72 73 rfl rfl ?_
      refine g_bipush hF (10) dX10_comes_73 75 rfl rfl ?_
      refine g_irem hF dX10_comes_75 76 rfl (by decide) ?_
      rw [er]
      refine g_iconst hF (1) dX10_comes_76 77 rfl rfl ?_
      refine g_aload_n hF dX10_comes_77 78 rfl rfl ?_
      refine g_get hF fl_X10_7 dX10_comes_78 81 rfl (by intro H h; first | exact h.1 | exact h.2.1 | exact h.2.2.1 | exact h.2.2.2.1 | exact h.2.2.2.2.1 | exact h.2.2.2.2.2.1 | exact h.2.2.2.2.2.2.1 | exact h.2.2.2.2.2.2.2.1 | exact h.2.2.2.2.2.2.2.2.1 | exact h.2.2.2.2.2.2.2.2.2.1 | exact h.2.2.2.2.2.2.2.2.2.2) rfl ?_
      refine g_iconst hF (2) dX10_comes_81 82 rfl rfl ?_
      refine g_iald hF dX10_comes_82 83 rfl (by intro H h; first | exact h.1 | exact h.2.1 | exact h.2.2.1 | exact h.2.2.2.1 | exact h.2.2.2.2.1 | exact h.2.2.2.2.2.1 | exact h.2.2.2.2.2.2.1 | exact h.2.2.2.2.2.2.2.1 | exact h.2.2.2.2.2.2.2.2.1 | exact h.2.2.2.2.2.2.2.2.2.1 | exact h.2.2.2.2.2.2.2.2.2.2) (vp_in_nI (show 2 < 139 by omega) (by omega)) ?_
      rw [show flat (v.1, v.2.1, v.2.2.1, (va_up v.2.2.2 u (upd (upd (v.2.2.2 u) 6 (v.2.2.2 u 6 + 1)) 7 (v.2.2.2 u 7 + 1)))) (2 : Int32).toNatClampNeg = v.2.2.1 from rfl]
      refine g_iload_n hF dX10_comes_83 84 rfl rfl ?_
      refine g_iconst hF (0) dX10_comes_84 85 rfl rfl ?_
      refine g_callV hF cv_X10_62 (c_M_putL l E c (v.1, v.2.1, v.2.2.1, (va_up v.2.2.2 u (upd (upd (v.2.2.2 u) 6 (v.2.2.2 u 6 + 1)) 7 (v.2.2.2 u 7 + 1)))) pf im ss kp bk ws cm ls nq dd sd en wh ro u t 1 v.2.2.1 (nI u) 0 (by omega) (by omega)) dX10_comes_85 88 rfl (st := []) rfl rfl ⟨Nat.le_of_ble_eq_true rfl, Nat.le_of_ble_eq_true rfl⟩ ⟨Nat.le_of_ble_eq_true rfl, Nat.le_of_ble_eq_true rfl⟩ rfl (Nat.le_of_ble_eq_true rfl) 10 rfl (by intro H h; first | exact h.1 | exact h.2.1 | exact h.2.2.1 | exact h.2.2.2.1 | exact h.2.2.2.2.1 | exact h.2.2.2.2.2.1 | exact h.2.2.2.2.2.2.1 | exact h.2.2.2.2.2.2.2.1 | exact h.2.2.2.2.2.2.2.2.1 | exact h.2.2.2.2.2.2.2.2.2.1 | exact h.2.2.2.2.2.2.2.2.2.2) (Pr' := Mm E c (flat (v.1, v.2.1, v.2.2.1, (va_up v.2.2.2 u (upd (upd (upd (upd (upd (upd (v.2.2.2 u) 6 (v.2.2.2 u 6 + 1)) 7 (v.2.2.2 u 7 + 1)) (10 + 4 * t) 1) (11 + 4 * t) v.2.2.1) (12 + 4 * t) (nI u)) (13 + 4 * t) 0)))) pf im ss kp bk ws cm ls nq dd sd en wh ro) (fun _ h => h) (hA) (fun H H' h h1 h2 => by dsimp only at h1; rw [va_up_up, va_up_self] at h1; exact h1) (st1 := []) rfl (k1 := 0) (n1 := 0) rfl rfl ?_
      refine g_aload_n hF dX10_comes_88 89 rfl rfl ?_
      refine g_iload_n hF dX10_comes_89 90 rfl rfl ?_
      refine g_bipush hF (10) dX10_comes_90 92 rfl rfl ?_
      refine g_idiv hF dX10_comes_92 93 rfl (by decide) ?_
      rw [ed]
      refine g_iconst hF (5) dX10_comes_93 94 rfl rfl ?_
      refine g_iload_n hF dX10_comes_94 95 rfl rfl ?_
      refine g_bipush hF (10) dX10_comes_95 97 rfl rfl ?_
      refine g_irem hF dX10_comes_97 98 rfl (by decide) ?_
      rw [er]
      rw [show (5 : Int32) = nI 5 by decide]
      refine g_callV hF cv_X10_58 (c_M_put l E c (v.1, v.2.1, v.2.2.1, (va_up v.2.2.2 u (upd (upd (upd (upd (upd (upd (v.2.2.2 u) 6 (v.2.2.2 u 6 + 1)) 7 (v.2.2.2 u 7 + 1)) (10 + 4 * t) 1) (11 + 4 * t) v.2.2.1) (12 + 4 * t) (nI u)) (13 + 4 * t) 0))) pf im ss kp bk ws cm ls nq dd sd en wh ro u 5 (nI t) (by omega) (by omega)) dX10_comes_98 101 rfl (st := []) rfl rfl ⟨Nat.le_of_ble_eq_true rfl, Nat.le_of_ble_eq_true rfl⟩ ⟨Nat.le_of_ble_eq_true rfl, Nat.le_of_ble_eq_true rfl⟩ rfl (Nat.le_of_ble_eq_true rfl) 10 rfl (by intro H h; first | exact h.1 | exact h.2.1 | exact h.2.2.1 | exact h.2.2.2.1 | exact h.2.2.2.2.1 | exact h.2.2.2.2.2.1 | exact h.2.2.2.2.2.2.1 | exact h.2.2.2.2.2.2.2.1 | exact h.2.2.2.2.2.2.2.2.1 | exact h.2.2.2.2.2.2.2.2.2.1 | exact h.2.2.2.2.2.2.2.2.2.2) (Pr' := Mm E c (flat (v.1, v.2.1, v.2.2.1, (va_up v.2.2.2 u (upd (upd (upd (upd (upd (upd (upd (v.2.2.2 u) 6 (v.2.2.2 u 6 + 1)) 7 (v.2.2.2 u 7 + 1)) (10 + 4 * t) 1) (11 + 4 * t) v.2.2.1) (12 + 4 * t) (nI u)) (13 + 4 * t) 0) 5 (nI t))))) pf im ss kp bk ws cm ls nq dd sd en wh ro) (fun _ h => h) (hA) (fun H H' h h1 h2 => by rw [vput_up] at h1; exact h1) (st1 := []) rfl (k1 := 0) (n1 := 0) rfl rfl ?_
      refine g_aload_n hF dX10_comes_101 102 rfl rfl ?_
      refine g_get hF fl_X10_7 dX10_comes_102 105 rfl (by intro H h; first | exact h.1 | exact h.2.1 | exact h.2.2.1 | exact h.2.2.2.1 | exact h.2.2.2.2.1 | exact h.2.2.2.2.2.1 | exact h.2.2.2.2.2.2.1 | exact h.2.2.2.2.2.2.2.1 | exact h.2.2.2.2.2.2.2.2.1 | exact h.2.2.2.2.2.2.2.2.2.1 | exact h.2.2.2.2.2.2.2.2.2.2) rfl ?_
      refine g_iconst hF (2) dX10_comes_105 106 rfl rfl ?_
      refine g_dup2 hF dX10_comes_106 107 rfl rfl rfl ?_
      refine g_iald hF dX10_comes_107 108 rfl (by intro H h; first | exact h.1 | exact h.2.1 | exact h.2.2.1 | exact h.2.2.2.1 | exact h.2.2.2.2.1 | exact h.2.2.2.2.2.1 | exact h.2.2.2.2.2.2.1 | exact h.2.2.2.2.2.2.2.1 | exact h.2.2.2.2.2.2.2.2.1 | exact h.2.2.2.2.2.2.2.2.2.1 | exact h.2.2.2.2.2.2.2.2.2.2) (vp_in_nI (show 2 < 139 by omega) (by omega)) ?_
      rw [show flat (v.1, v.2.1, v.2.2.1, (va_up v.2.2.2 u (upd (upd (upd (upd (upd (upd (upd (v.2.2.2 u) 6 (v.2.2.2 u 6 + 1)) 7 (v.2.2.2 u 7 + 1)) (10 + 4 * t) 1) (11 + 4 * t) v.2.2.1) (12 + 4 * t) (nI u)) (13 + 4 * t) 0) 5 (nI t)))) (2 : Int32).toNatClampNeg = v.2.2.1 from rfl]
      refine g_iconst hF (1) dX10_comes_108 109 rfl rfl ?_
      refine g_iadd hF dX10_comes_109 110 rfl ?_
      refine g_iast hF dX10_comes_110 111 rfl (by intro H h; first | exact h.1 | exact h.2.1 | exact h.2.2.1 | exact h.2.2.2.1 | exact h.2.2.2.2.1 | exact h.2.2.2.2.2.1 | exact h.2.2.2.2.2.2.1 | exact h.2.2.2.2.2.2.2.1 | exact h.2.2.2.2.2.2.2.2.1 | exact h.2.2.2.2.2.2.2.2.2.1 | exact h.2.2.2.2.2.2.2.2.2.2) (vp_in_nI (show 2 < 139 by omega) (by omega)) (hA _ ⟨by omega, by omega⟩) (Pr' := Mm E c (flat (v.1, v.2.1, (v.2.2.1 + 1), (va_up v.2.2.2 u (upd (upd (upd (upd (upd (upd (upd (v.2.2.2 u) 6 (v.2.2.2 u 6 + 1)) 7 (v.2.2.2 u 7 + 1)) (10 + 4 * t) 1) (11 + 4 * t) v.2.2.1) (12 + 4 * t) (nI u)) (13 + 4 * t) 0) 5 (nI t))))) pf im ss kp bk ws cm ls nq dd sd en wh ro) (fun H H' h h1 h2 => by rw [show (2 : Int32).toNatClampNeg = 2 by decide] at h1; exact (h.nw h1 h2).to (fun k _ => flat_2 (v.1, v.2.1, v.2.2.1, (va_up v.2.2.2 u (upd (upd (upd (upd (upd (upd (upd (v.2.2.2 u) 6 (v.2.2.2 u 6 + 1)) 7 (v.2.2.2 u 7 + 1)) (10 + 4 * t) 1) (11 + 4 * t) v.2.2.1) (12 + 4 * t) (nI u)) (13 + 4 * t) 0) 5 (nI t)))) _ k)) ?_
      refine g_aload_n hF dX10_comes_111 112 rfl rfl ?_
      refine g_get hF fl_X10_7 dX10_comes_112 115 rfl (by intro H h; first | exact h.1 | exact h.2.1 | exact h.2.2.1 | exact h.2.2.2.1 | exact h.2.2.2.2.1 | exact h.2.2.2.2.2.1 | exact h.2.2.2.2.2.2.1 | exact h.2.2.2.2.2.2.2.1 | exact h.2.2.2.2.2.2.2.2.1 | exact h.2.2.2.2.2.2.2.2.2.1 | exact h.2.2.2.2.2.2.2.2.2.2) rfl ?_
      refine g_iconst hF (1) dX10_comes_115 116 rfl rfl ?_
      refine g_dup2 hF dX10_comes_116 117 rfl rfl rfl ?_
      refine g_iald hF dX10_comes_117 118 rfl (by intro H h; first | exact h.1 | exact h.2.1 | exact h.2.2.1 | exact h.2.2.2.1 | exact h.2.2.2.2.1 | exact h.2.2.2.2.2.1 | exact h.2.2.2.2.2.2.1 | exact h.2.2.2.2.2.2.2.1 | exact h.2.2.2.2.2.2.2.2.1 | exact h.2.2.2.2.2.2.2.2.2.1 | exact h.2.2.2.2.2.2.2.2.2.2) (vp_in_nI (show 1 < 139 by omega) (by omega)) ?_
      rw [show flat (v.1, v.2.1, (v.2.2.1 + 1), (va_up v.2.2.2 u (upd (upd (upd (upd (upd (upd (upd (v.2.2.2 u) 6 (v.2.2.2 u 6 + 1)) 7 (v.2.2.2 u 7 + 1)) (10 + 4 * t) 1) (11 + 4 * t) v.2.2.1) (12 + 4 * t) (nI u)) (13 + 4 * t) 0) 5 (nI t)))) (1 : Int32).toNatClampNeg = v.2.1 from rfl]
      refine g_iconst hF (1) dX10_comes_118 119 rfl rfl ?_
      refine g_iadd hF dX10_comes_119 120 rfl ?_
      refine g_iast hF dX10_comes_120 121 rfl (by intro H h; first | exact h.1 | exact h.2.1 | exact h.2.2.1 | exact h.2.2.2.1 | exact h.2.2.2.2.1 | exact h.2.2.2.2.2.1 | exact h.2.2.2.2.2.2.1 | exact h.2.2.2.2.2.2.2.1 | exact h.2.2.2.2.2.2.2.2.1 | exact h.2.2.2.2.2.2.2.2.2.1 | exact h.2.2.2.2.2.2.2.2.2.2) (vp_in_nI (show 1 < 139 by omega) (by omega)) (hA _ ⟨by omega, by omega⟩) (Pr' := Mm E c (flat (v.1, (v.2.1 + 1), (v.2.2.1 + 1), (va_up v.2.2.2 u (upd (upd (upd (upd (upd (upd (upd (v.2.2.2 u) 6 (v.2.2.2 u 6 + 1)) 7 (v.2.2.2 u 7 + 1)) (10 + 4 * t) 1) (11 + 4 * t) v.2.2.1) (12 + 4 * t) (nI u)) (13 + 4 * t) 0) 5 (nI t))))) pf im ss kp bk ws cm ls nq dd sd en wh ro) (fun H H' h h1 h2 => by rw [show (1 : Int32).toNatClampNeg = 1 by decide] at h1; exact (h.nw h1 h2).to (fun k _ => flat_1 (v.1, v.2.1, (v.2.2.1 + 1), (va_up v.2.2.2 u (upd (upd (upd (upd (upd (upd (upd (v.2.2.2 u) 6 (v.2.2.2 u 6 + 1)) 7 (v.2.2.2 u 7 + 1)) (10 + 4 * t) 1) (11 + 4 * t) v.2.2.1) (12 + 4 * t) (nI u)) (13 + 4 * t) 0) 5 (nI t)))) _ k)) ?_
      refine g_iload_n hF dX10_comes_121 122 rfl rfl ?_
      exact g_iret hF dX10_comes_122 (Nat.le_of_ble_eq_true rfl) (Nat.le_of_ble_eq_true rfl) (fun H h => hR _ _ ⟨congrArg (fun z => some (Value.int z)) (rfl), h⟩)
    · have eZ : upd (gHold (v.2.2.2 u) t v.2.2.1 (nI g)) (13 + 4 * t) 0 = (upd (upd (upd (upd (upd (v.2.2.2 u) (10 + 4 * t) 1) (11 + 4 * t) v.2.2.1) (12 + 4 * t) (nI g)) (13 + 4 * t) 0) 5 (nI t)) := by
        unfold gHold
        funext w
        by_cases w3 : w = 13 + 4 * t
        · subst w3; rw [pk_us, pk_un (by omega), pk_us]
        · rw [pk_un w3]
          by_cases w5 : w = 5
          · subst w5; rw [pk_us, pk_us]
          · rw [pk_un w5, pk_un w5, pk_un w3]
      have hv2 : sPlace v g = (v.1, v.2.1 + 1, v.2.2.1 + 1, va_up (va_up v.2.2.2 g (upd (upd (v.2.2.2 g) 6 (v.2.2.2 g 6 + 1)) 8 (v.2.2.2 g 8 + 1))) u (upd (upd (upd (upd (upd (v.2.2.2 u) (10 + 4 * t) 1) (11 + 4 * t) v.2.2.1) (12 + 4 * t) (nI g)) (13 + 4 * t) 0) 5 (nI t))) := by
        rw [hv]
        dsimp only
        rw [if_neg hgh, va_up_ne _ _ hgh, va_up_ne _ _ (fun y => hgh y.symm), va_up_self, pk_un (by omega), eZ]
        congr 3
        funext j
        by_cases j1 : j = g
        · subst j1; rw [va_up_self, va_up_ne _ _ (fun y => hgh y.symm), va_up_self]
        · rw [va_up_ne _ _ j1]
          by_cases j2 : j = u
          · subst j2; rw [va_up_self, va_up_self]
          · rw [va_up_ne _ _ j2, va_up_ne _ _ j2, va_up_ne _ _ j1, va_up_ne _ _ j1]
      rw [hv2, hp] at hR
      refine g_aload_n hF dX10_comes_0 1 rfl rfl ?_
      refine g_iload_n hF dX10_comes_1 2 rfl rfl ?_
      refine g_callV hF cv_X10_119 (c_M_goesTo l E c v pf im ss kp bk ws cm ls nq dd sd en wh ro T G g hv0 hG0 hG4 hg) dX10_comes_2 5 rfl (st := []) rfl rfl ⟨Nat.le_of_ble_eq_true rfl, Nat.le_of_ble_eq_true rfl⟩ ⟨Nat.le_of_ble_eq_true rfl, Nat.le_of_ble_eq_true rfl⟩ rfl (Nat.le_of_ble_eq_true rfl) 10 rfl (by intro H h; first | exact h.1 | exact h.2.1 | exact h.2.2.1 | exact h.2.2.2.1 | exact h.2.2.2.2.1 | exact h.2.2.2.2.2.1 | exact h.2.2.2.2.2.2.1 | exact h.2.2.2.2.2.2.2.1 | exact h.2.2.2.2.2.2.2.2.1 | exact h.2.2.2.2.2.2.2.2.2.1 | exact h.2.2.2.2.2.2.2.2.2.2) (Pr' := _) (fun _ h => h) (fun q z => z.elim) (fun _ _ _ h _ => by exact h) (st1 := [_]) rfl (k1 := 0) (n1 := 0) rfl rfl ?_
      rw [hp]
      refine g_istore_n hF dX10_comes_5 6 rfl (lo' := [_, _, _, _]) (Nat.le_of_ble_eq_true rfl) rfl ?_
      refine g_aload_n hF dX10_comes_6 7 rfl rfl ?_
      refine g_iload_n hF dX10_comes_7 8 rfl rfl ?_
      refine g_bipush hF (6) dX10_comes_8 10 rfl rfl ?_
      refine g_aload_n hF dX10_comes_10 11 rfl rfl ?_
      refine g_iload_n hF dX10_comes_11 12 rfl rfl ?_
      refine g_bipush hF (6) dX10_comes_12 14 rfl rfl ?_
      rw [show (6 : Int32) = nI 6 by decide]
      refine g_callV hF cv_X10_54 (c_M_of l E c v pf im ss kp bk ws cm ls nq dd sd en wh ro g 6 hg4 (by omega)) dX10_comes_14 17 rfl (st := [_, _, _]) rfl rfl ⟨Nat.le_of_ble_eq_true rfl, Nat.le_of_ble_eq_true rfl⟩ ⟨Nat.le_of_ble_eq_true rfl, Nat.le_of_ble_eq_true rfl⟩ rfl (Nat.le_of_ble_eq_true rfl) 10 rfl (by intro H h; first | exact h.1 | exact h.2.1 | exact h.2.2.1 | exact h.2.2.2.1 | exact h.2.2.2.2.1 | exact h.2.2.2.2.2.1 | exact h.2.2.2.2.2.2.1 | exact h.2.2.2.2.2.2.2.1 | exact h.2.2.2.2.2.2.2.2.1 | exact h.2.2.2.2.2.2.2.2.2.1 | exact h.2.2.2.2.2.2.2.2.2.2) (Pr' := _) (fun _ h => h) (fun q z => z.elim) (fun _ _ _ h _ => by exact h) (st1 := [_, _, _, _]) rfl (k1 := 0) (n1 := 0) rfl rfl ?_
      refine g_iconst hF (1) dX10_comes_17 18 rfl rfl ?_
      refine g_iadd hF dX10_comes_18 19 rfl ?_
      refine g_callV hF cv_X10_58 (c_M_put l E c v pf im ss kp bk ws cm ls nq dd sd en wh ro g 6 (v.2.2.2 g 6 + 1) hg4 (by omega)) dX10_comes_19 22 rfl (st := []) rfl rfl ⟨Nat.le_of_ble_eq_true rfl, Nat.le_of_ble_eq_true rfl⟩ ⟨Nat.le_of_ble_eq_true rfl, Nat.le_of_ble_eq_true rfl⟩ rfl (Nat.le_of_ble_eq_true rfl) 10 rfl (by intro H h; first | exact h.1 | exact h.2.1 | exact h.2.2.1 | exact h.2.2.2.1 | exact h.2.2.2.2.1 | exact h.2.2.2.2.2.1 | exact h.2.2.2.2.2.2.1 | exact h.2.2.2.2.2.2.2.1 | exact h.2.2.2.2.2.2.2.2.1 | exact h.2.2.2.2.2.2.2.2.2.1 | exact h.2.2.2.2.2.2.2.2.2.2) (Pr' := Mm E c (flat (v.1, v.2.1, v.2.2.1, (va_up v.2.2.2 g (upd (v.2.2.2 g) 6 (v.2.2.2 g 6 + 1))))) pf im ss kp bk ws cm ls nq dd sd en wh ro) (fun _ h => h) (hA) (fun _ _ _ h _ => by exact h) (st1 := []) rfl (k1 := 0) (n1 := 0) rfl rfl ?_
      refine g_iload_n hF dX10_comes_22 23 rfl rfl ?_
      refine g_iconst hF (-1) dX10_comes_23 24 rfl rfl ?_
      refine g_icmp_ne hF dX10_comes_24 27 rfl 32 (by decide) (fun _ => ?_) (fun c => absurd c (nI_nm1 (by omega)))
      refine g_iload_n hF dX10_comes_32 33 rfl rfl ?_
      refine g_bipush hF (10) dX10_comes_33 35 rfl rfl ?_
      refine g_idiv hF dX10_comes_35 36 rfl (by decide) ?_
      rw [ed]
      refine g_iload_n hF dX10_comes_36 37 rfl rfl ?_
      refine g_icmp_ne hF dX10_comes_37 40 rfl 45 (by decide) (fun _ => ?_) (fun c => absurd c (fun y => hgh ((nI_eq (by omega) (by omega)).mp y)))
      refine g_bipush hF (8) dX10_comes_45 47 rfl rfl ?_
      refine g_istore_n hF dX10_comes_47 48 rfl (lo' := [_, _, _, _]) (Nat.le_of_ble_eq_true rfl) rfl ?_
      refine g_aload_n hF dX10_comes_48 49 rfl rfl ?_
      refine g_iload_n hF dX10_comes_49 50 rfl rfl ?_
      refine g_iload_n hF dX10_comes_50 51 rfl rfl ?_
      refine g_aload_n hF dX10_comes_51 52 rfl rfl ?_
      refine g_iload_n hF dX10_comes_52 53 rfl rfl ?_
      refine g_iload_n hF dX10_comes_53 54 rfl rfl ?_
      rw [show (8 : Int32) = nI 8 by decide]
      refine g_callV hF cv_X10_54 (c_M_of l E c (v.1, v.2.1, v.2.2.1, (va_up v.2.2.2 g (upd (v.2.2.2 g) 6 (v.2.2.2 g 6 + 1)))) pf im ss kp bk ws cm ls nq dd sd en wh ro g 8 hg4 (by omega)) dX10_comes_54 57 rfl (st := [_, _, _]) rfl rfl ⟨Nat.le_of_ble_eq_true rfl, Nat.le_of_ble_eq_true rfl⟩ ⟨Nat.le_of_ble_eq_true rfl, Nat.le_of_ble_eq_true rfl⟩ rfl (Nat.le_of_ble_eq_true rfl) 10 rfl (by intro H h; first | exact h.1 | exact h.2.1 | exact h.2.2.1 | exact h.2.2.2.1 | exact h.2.2.2.2.1 | exact h.2.2.2.2.2.1 | exact h.2.2.2.2.2.2.1 | exact h.2.2.2.2.2.2.2.1 | exact h.2.2.2.2.2.2.2.2.1 | exact h.2.2.2.2.2.2.2.2.2.1 | exact h.2.2.2.2.2.2.2.2.2.2) (Pr' := _) (fun _ h => h) (fun q z => z.elim) (fun _ _ _ h _ => by exact h) (st1 := [_, _, _, _]) rfl (k1 := 0) (n1 := 0) rfl rfl ?_
      dsimp only
      rw [va_up_self, pk_un (by omega)]
      refine g_iconst hF (1) dX10_comes_57 58 rfl rfl ?_
      refine g_iadd hF dX10_comes_58 59 rfl ?_
      refine g_callV hF cv_X10_58 (c_M_put l E c (v.1, v.2.1, v.2.2.1, (va_up v.2.2.2 g (upd (v.2.2.2 g) 6 (v.2.2.2 g 6 + 1)))) pf im ss kp bk ws cm ls nq dd sd en wh ro g 8 (v.2.2.2 g 8 + 1) hg4 (by omega)) dX10_comes_59 62 rfl (st := []) rfl rfl ⟨Nat.le_of_ble_eq_true rfl, Nat.le_of_ble_eq_true rfl⟩ ⟨Nat.le_of_ble_eq_true rfl, Nat.le_of_ble_eq_true rfl⟩ rfl (Nat.le_of_ble_eq_true rfl) 10 rfl (by intro H h; first | exact h.1 | exact h.2.1 | exact h.2.2.1 | exact h.2.2.2.1 | exact h.2.2.2.2.1 | exact h.2.2.2.2.2.1 | exact h.2.2.2.2.2.2.1 | exact h.2.2.2.2.2.2.2.1 | exact h.2.2.2.2.2.2.2.2.1 | exact h.2.2.2.2.2.2.2.2.2.1 | exact h.2.2.2.2.2.2.2.2.2.2) (Pr' := Mm E c (flat (v.1, v.2.1, v.2.2.1, (va_up v.2.2.2 g (upd (upd (v.2.2.2 g) 6 (v.2.2.2 g 6 + 1)) 8 (v.2.2.2 g 8 + 1))))) pf im ss kp bk ws cm ls nq dd sd en wh ro) (fun _ h => h) (hA) (fun H H' h h1 h2 => by rw [vput_up] at h1; exact h1) (st1 := []) rfl (k1 := 0) (n1 := 0) rfl rfl ?_
      refine g_iload_n hF dX10_comes_62 63 rfl rfl ?_
      refine g_iconst hF (-1) dX10_comes_63 64 rfl rfl ?_
      refine g_icmp_eq hF dX10_comes_64 67 rfl 101 (by decide) (fun c => absurd c (nI_nm1 (by omega))) (fun _ => ?_)
      refine g_aload_n hF dX10_comes_67 68 rfl rfl ?_
      refine g_iload_n hF dX10_comes_68 69 rfl rfl ?_
      refine g_bipush hF (10) dX10_comes_69 71 rfl rfl ?_
      refine g_idiv hF dX10_comes_71 72 rfl (by decide) ?_
      rw [ed]
      refine g_iload_n hF dX10_comes_72 73 rfl rfl ?_
      refine g_bipush hF (10) dX10_comes_73 75 rfl rfl ?_
      refine g_irem hF dX10_comes_75 76 rfl (by decide) ?_
      rw [er]
      refine g_iconst hF (1) dX10_comes_76 77 rfl rfl ?_
      refine g_aload_n hF dX10_comes_77 78 rfl rfl ?_
      refine g_get hF fl_X10_7 dX10_comes_78 81 rfl (by intro H h; first | exact h.1 | exact h.2.1 | exact h.2.2.1 | exact h.2.2.2.1 | exact h.2.2.2.2.1 | exact h.2.2.2.2.2.1 | exact h.2.2.2.2.2.2.1 | exact h.2.2.2.2.2.2.2.1 | exact h.2.2.2.2.2.2.2.2.1 | exact h.2.2.2.2.2.2.2.2.2.1 | exact h.2.2.2.2.2.2.2.2.2.2) rfl ?_
      refine g_iconst hF (2) dX10_comes_81 82 rfl rfl ?_
      refine g_iald hF dX10_comes_82 83 rfl (by intro H h; first | exact h.1 | exact h.2.1 | exact h.2.2.1 | exact h.2.2.2.1 | exact h.2.2.2.2.1 | exact h.2.2.2.2.2.1 | exact h.2.2.2.2.2.2.1 | exact h.2.2.2.2.2.2.2.1 | exact h.2.2.2.2.2.2.2.2.1 | exact h.2.2.2.2.2.2.2.2.2.1 | exact h.2.2.2.2.2.2.2.2.2.2) (vp_in_nI (show 2 < 139 by omega) (by omega)) ?_
      rw [show flat (v.1, v.2.1, v.2.2.1, (va_up v.2.2.2 g (upd (upd (v.2.2.2 g) 6 (v.2.2.2 g 6 + 1)) 8 (v.2.2.2 g 8 + 1)))) (2 : Int32).toNatClampNeg = v.2.2.1 from rfl]
      refine g_iload_n hF dX10_comes_83 84 rfl rfl ?_
      refine g_iconst hF (0) dX10_comes_84 85 rfl rfl ?_
      refine g_callV hF cv_X10_62 (c_M_putL l E c (v.1, v.2.1, v.2.2.1, (va_up v.2.2.2 g (upd (upd (v.2.2.2 g) 6 (v.2.2.2 g 6 + 1)) 8 (v.2.2.2 g 8 + 1)))) pf im ss kp bk ws cm ls nq dd sd en wh ro u t 1 v.2.2.1 (nI g) 0 (by omega) (by omega)) dX10_comes_85 88 rfl (st := []) rfl rfl ⟨Nat.le_of_ble_eq_true rfl, Nat.le_of_ble_eq_true rfl⟩ ⟨Nat.le_of_ble_eq_true rfl, Nat.le_of_ble_eq_true rfl⟩ rfl (Nat.le_of_ble_eq_true rfl) 10 rfl (by intro H h; first | exact h.1 | exact h.2.1 | exact h.2.2.1 | exact h.2.2.2.1 | exact h.2.2.2.2.1 | exact h.2.2.2.2.2.1 | exact h.2.2.2.2.2.2.1 | exact h.2.2.2.2.2.2.2.1 | exact h.2.2.2.2.2.2.2.2.1 | exact h.2.2.2.2.2.2.2.2.2.1 | exact h.2.2.2.2.2.2.2.2.2.2) (Pr' := Mm E c (flat (v.1, v.2.1, v.2.2.1, (va_up (va_up v.2.2.2 g (upd (upd (v.2.2.2 g) 6 (v.2.2.2 g 6 + 1)) 8 (v.2.2.2 g 8 + 1))) u (upd (upd (upd (upd (v.2.2.2 u) (10 + 4 * t) 1) (11 + 4 * t) v.2.2.1) (12 + 4 * t) (nI g)) (13 + 4 * t) 0)))) pf im ss kp bk ws cm ls nq dd sd en wh ro) (fun _ h => h) (hA) (fun H H' h h1 h2 => by dsimp only at h1; rw [va_up_ne _ _ hgh] at h1; exact h1) (st1 := []) rfl (k1 := 0) (n1 := 0) rfl rfl ?_
      refine g_aload_n hF dX10_comes_88 89 rfl rfl ?_
      refine g_iload_n hF dX10_comes_89 90 rfl rfl ?_
      refine g_bipush hF (10) dX10_comes_90 92 rfl rfl ?_
      refine g_idiv hF dX10_comes_92 93 rfl (by decide) ?_
      rw [ed]
      refine g_iconst hF (5) dX10_comes_93 94 rfl rfl ?_
      refine g_iload_n hF dX10_comes_94 95 rfl rfl ?_
      refine g_bipush hF (10) dX10_comes_95 97 rfl rfl ?_
      refine g_irem hF dX10_comes_97 98 rfl (by decide) ?_
      rw [er]
      rw [show (5 : Int32) = nI 5 by decide]
      refine g_callV hF cv_X10_58 (c_M_put l E c (v.1, v.2.1, v.2.2.1, (va_up (va_up v.2.2.2 g (upd (upd (v.2.2.2 g) 6 (v.2.2.2 g 6 + 1)) 8 (v.2.2.2 g 8 + 1))) u (upd (upd (upd (upd (v.2.2.2 u) (10 + 4 * t) 1) (11 + 4 * t) v.2.2.1) (12 + 4 * t) (nI g)) (13 + 4 * t) 0))) pf im ss kp bk ws cm ls nq dd sd en wh ro u 5 (nI t) (by omega) (by omega)) dX10_comes_98 101 rfl (st := []) rfl rfl ⟨Nat.le_of_ble_eq_true rfl, Nat.le_of_ble_eq_true rfl⟩ ⟨Nat.le_of_ble_eq_true rfl, Nat.le_of_ble_eq_true rfl⟩ rfl (Nat.le_of_ble_eq_true rfl) 10 rfl (by intro H h; first | exact h.1 | exact h.2.1 | exact h.2.2.1 | exact h.2.2.2.1 | exact h.2.2.2.2.1 | exact h.2.2.2.2.2.1 | exact h.2.2.2.2.2.2.1 | exact h.2.2.2.2.2.2.2.1 | exact h.2.2.2.2.2.2.2.2.1 | exact h.2.2.2.2.2.2.2.2.2.1 | exact h.2.2.2.2.2.2.2.2.2.2) (Pr' := Mm E c (flat (v.1, v.2.1, v.2.2.1, (va_up (va_up v.2.2.2 g (upd (upd (v.2.2.2 g) 6 (v.2.2.2 g 6 + 1)) 8 (v.2.2.2 g 8 + 1))) u (upd (upd (upd (upd (upd (v.2.2.2 u) (10 + 4 * t) 1) (11 + 4 * t) v.2.2.1) (12 + 4 * t) (nI g)) (13 + 4 * t) 0) 5 (nI t))))) pf im ss kp bk ws cm ls nq dd sd en wh ro) (fun _ h => h) (hA) (fun H H' h h1 h2 => by rw [vput_up] at h1; exact h1) (st1 := []) rfl (k1 := 0) (n1 := 0) rfl rfl ?_
      refine g_aload_n hF dX10_comes_101 102 rfl rfl ?_
      refine g_get hF fl_X10_7 dX10_comes_102 105 rfl (by intro H h; first | exact h.1 | exact h.2.1 | exact h.2.2.1 | exact h.2.2.2.1 | exact h.2.2.2.2.1 | exact h.2.2.2.2.2.1 | exact h.2.2.2.2.2.2.1 | exact h.2.2.2.2.2.2.2.1 | exact h.2.2.2.2.2.2.2.2.1 | exact h.2.2.2.2.2.2.2.2.2.1 | exact h.2.2.2.2.2.2.2.2.2.2) rfl ?_
      refine g_iconst hF (2) dX10_comes_105 106 rfl rfl ?_
      refine g_dup2 hF dX10_comes_106 107 rfl rfl rfl ?_
      refine g_iald hF dX10_comes_107 108 rfl (by intro H h; first | exact h.1 | exact h.2.1 | exact h.2.2.1 | exact h.2.2.2.1 | exact h.2.2.2.2.1 | exact h.2.2.2.2.2.1 | exact h.2.2.2.2.2.2.1 | exact h.2.2.2.2.2.2.2.1 | exact h.2.2.2.2.2.2.2.2.1 | exact h.2.2.2.2.2.2.2.2.2.1 | exact h.2.2.2.2.2.2.2.2.2.2) (vp_in_nI (show 2 < 139 by omega) (by omega)) ?_
      rw [show flat (v.1, v.2.1, v.2.2.1, (va_up (va_up v.2.2.2 g (upd (upd (v.2.2.2 g) 6 (v.2.2.2 g 6 + 1)) 8 (v.2.2.2 g 8 + 1))) u (upd (upd (upd (upd (upd (v.2.2.2 u) (10 + 4 * t) 1) (11 + 4 * t) v.2.2.1) (12 + 4 * t) (nI g)) (13 + 4 * t) 0) 5 (nI t)))) (2 : Int32).toNatClampNeg = v.2.2.1 from rfl]
      refine g_iconst hF (1) dX10_comes_108 109 rfl rfl ?_
      refine g_iadd hF dX10_comes_109 110 rfl ?_
      refine g_iast hF dX10_comes_110 111 rfl (by intro H h; first | exact h.1 | exact h.2.1 | exact h.2.2.1 | exact h.2.2.2.1 | exact h.2.2.2.2.1 | exact h.2.2.2.2.2.1 | exact h.2.2.2.2.2.2.1 | exact h.2.2.2.2.2.2.2.1 | exact h.2.2.2.2.2.2.2.2.1 | exact h.2.2.2.2.2.2.2.2.2.1 | exact h.2.2.2.2.2.2.2.2.2.2) (vp_in_nI (show 2 < 139 by omega) (by omega)) (hA _ ⟨by omega, by omega⟩) (Pr' := Mm E c (flat (v.1, v.2.1, (v.2.2.1 + 1), (va_up (va_up v.2.2.2 g (upd (upd (v.2.2.2 g) 6 (v.2.2.2 g 6 + 1)) 8 (v.2.2.2 g 8 + 1))) u (upd (upd (upd (upd (upd (v.2.2.2 u) (10 + 4 * t) 1) (11 + 4 * t) v.2.2.1) (12 + 4 * t) (nI g)) (13 + 4 * t) 0) 5 (nI t))))) pf im ss kp bk ws cm ls nq dd sd en wh ro) (fun H H' h h1 h2 => by rw [show (2 : Int32).toNatClampNeg = 2 by decide] at h1; exact (h.nw h1 h2).to (fun k _ => flat_2 (v.1, v.2.1, v.2.2.1, (va_up (va_up v.2.2.2 g (upd (upd (v.2.2.2 g) 6 (v.2.2.2 g 6 + 1)) 8 (v.2.2.2 g 8 + 1))) u (upd (upd (upd (upd (upd (v.2.2.2 u) (10 + 4 * t) 1) (11 + 4 * t) v.2.2.1) (12 + 4 * t) (nI g)) (13 + 4 * t) 0) 5 (nI t)))) _ k)) ?_
      refine g_aload_n hF dX10_comes_111 112 rfl rfl ?_
      refine g_get hF fl_X10_7 dX10_comes_112 115 rfl (by intro H h; first | exact h.1 | exact h.2.1 | exact h.2.2.1 | exact h.2.2.2.1 | exact h.2.2.2.2.1 | exact h.2.2.2.2.2.1 | exact h.2.2.2.2.2.2.1 | exact h.2.2.2.2.2.2.2.1 | exact h.2.2.2.2.2.2.2.2.1 | exact h.2.2.2.2.2.2.2.2.2.1 | exact h.2.2.2.2.2.2.2.2.2.2) rfl ?_
      refine g_iconst hF (1) dX10_comes_115 116 rfl rfl ?_
      refine g_dup2 hF dX10_comes_116 117 rfl rfl rfl ?_
      refine g_iald hF dX10_comes_117 118 rfl (by intro H h; first | exact h.1 | exact h.2.1 | exact h.2.2.1 | exact h.2.2.2.1 | exact h.2.2.2.2.1 | exact h.2.2.2.2.2.1 | exact h.2.2.2.2.2.2.1 | exact h.2.2.2.2.2.2.2.1 | exact h.2.2.2.2.2.2.2.2.1 | exact h.2.2.2.2.2.2.2.2.2.1 | exact h.2.2.2.2.2.2.2.2.2.2) (vp_in_nI (show 1 < 139 by omega) (by omega)) ?_
      rw [show flat (v.1, v.2.1, (v.2.2.1 + 1), (va_up (va_up v.2.2.2 g (upd (upd (v.2.2.2 g) 6 (v.2.2.2 g 6 + 1)) 8 (v.2.2.2 g 8 + 1))) u (upd (upd (upd (upd (upd (v.2.2.2 u) (10 + 4 * t) 1) (11 + 4 * t) v.2.2.1) (12 + 4 * t) (nI g)) (13 + 4 * t) 0) 5 (nI t)))) (1 : Int32).toNatClampNeg = v.2.1 from rfl]
      refine g_iconst hF (1) dX10_comes_118 119 rfl rfl ?_
      refine g_iadd hF dX10_comes_119 120 rfl ?_
      refine g_iast hF dX10_comes_120 121 rfl (by intro H h; first | exact h.1 | exact h.2.1 | exact h.2.2.1 | exact h.2.2.2.1 | exact h.2.2.2.2.1 | exact h.2.2.2.2.2.1 | exact h.2.2.2.2.2.2.1 | exact h.2.2.2.2.2.2.2.1 | exact h.2.2.2.2.2.2.2.2.1 | exact h.2.2.2.2.2.2.2.2.2.1 | exact h.2.2.2.2.2.2.2.2.2.2) (vp_in_nI (show 1 < 139 by omega) (by omega)) (hA _ ⟨by omega, by omega⟩) (Pr' := Mm E c (flat (v.1, (v.2.1 + 1), (v.2.2.1 + 1), (va_up (va_up v.2.2.2 g (upd (upd (v.2.2.2 g) 6 (v.2.2.2 g 6 + 1)) 8 (v.2.2.2 g 8 + 1))) u (upd (upd (upd (upd (upd (v.2.2.2 u) (10 + 4 * t) 1) (11 + 4 * t) v.2.2.1) (12 + 4 * t) (nI g)) (13 + 4 * t) 0) 5 (nI t))))) pf im ss kp bk ws cm ls nq dd sd en wh ro) (fun H H' h h1 h2 => by rw [show (1 : Int32).toNatClampNeg = 1 by decide] at h1; exact (h.nw h1 h2).to (fun k _ => flat_1 (v.1, v.2.1, (v.2.2.1 + 1), (va_up (va_up v.2.2.2 g (upd (upd (v.2.2.2 g) 6 (v.2.2.2 g 6 + 1)) 8 (v.2.2.2 g 8 + 1))) u (upd (upd (upd (upd (upd (v.2.2.2 u) (10 + 4 * t) 1) (11 + 4 * t) v.2.2.1) (12 + 4 * t) (nI g)) (13 + 4 * t) 0) 5 (nI t)))) _ k)) ?_
      refine g_iload_n hF dX10_comes_121 122 rfl rfl ?_
      exact g_iret hF dX10_comes_122 (Nat.le_of_ble_eq_true rfl) (Nat.le_of_ble_eq_true rfl) (fun H h => hR _ _ ⟨congrArg (fun z => some (Value.int z)) (rfl), h⟩)
end MV4
