/-! TrunkReserveModel: round by round -/
section MV8
variable (l : Launch) (E : Ev) (c : Nat) (v : NV) (pf im : Nat → Int32) (ss : Nat → Int64) (kp bk : Nat → Int32) (ws : Nat → Int64) (cg ls nq : Nat → Int32) (dd : Int32) (sd : Int64) (en : Int32) (wh : Int64) (ro : Int32)
set_option maxRecDepth 100000 in
set_option maxHeartbeats 16000000 in
theorem c_M_together (T : Nat) (hv0 : okV T v) : Ct l E yX10_together cX10_together 3 none (rm 3) [.ref c] (Mm E c (flat v) pf im ss kp bk ws cg ls nq dd sd en wh ro) (rV none (fun H => ∃ cg' ls' nq', (∀ g, g < v.1.toNatClampNeg → cg' g = nI (sB v g)) ∧ (∀ g, g < v.1.toNatClampNeg → ls' g = nI (sP v g)) ∧ Mm E c (flat v) pf im ss kp bk ws cg' ls' nq' dd sd en wh (nI (sRd v)) H)) (rg c 11) := by
  refine ct_start (by decide) [some (.ref c), none, none] rfl (Nat.le_of_ble_eq_true rfl) ?_
  intro x hF hN0 hA hR
  obtain ⟨G, hG, G1, G4, hGc, ho, hn⟩ := okN hv0
  have e0 : flat v (0 : Int32).toNatClampNeg = nI G := hG
  have hRd : sRd v = stl v.2.2.2 G 30 0 := by unfold sRd; rw [hGc]
  rw [hGc] at hR
  have bl : ∀ t g, g < 4 → Bt v.2.2.2 G t g ≤ 18000 := fun t g hg => Bt_le G4 ho t g hg
  have b0 : ∀ t g, G ≤ g → g < 4 → Bt v.2.2.2 G t g = 0 := fun t g h1 h2 => by
    cases t with
    | zero => rfl
    | succ t => exact sn_0 G4 ho h1 h2 G G4
  have fin : ∀ (t : Nat) (mo : Int32) (cg ls nq : Nat → Int32), sRd v = t → (∀ g, g < 4 → cg g = nI (Bt v.2.2.2 G t g)) → go l (rm 3) E x 0 0 (Mm E c (flat v) pf im ss kp bk ws cg ls nq dd sd en wh (nI t)) [some (.ref c), some (.int mo), none] 169 [] := by
    intro t mo cg ls nq ht hcg
    have esB : ∀ g, sB v g = Bt v.2.2.2 G t g := fun g => by unfold sB; rw [hGc, ht]
    refine g_aload_n hF dX10_together_169 170 rfl rfl ?_
    refine g_callV hF cv_X10_101 (c_M_loses l E c v pf im ss kp bk ws cg ls nq dd sd en wh (nI t) G T (Bt v.2.2.2 G t) hG G4 ho (fun g hg => ⟨hcg g hg, bl t g hg⟩)) dX10_together_170 173 rfl (st := []) rfl rfl ⟨Nat.le_of_ble_eq_true rfl, Nat.le_of_ble_eq_true rfl⟩ ⟨Nat.le_of_ble_eq_true rfl, Nat.le_of_ble_eq_true rfl⟩ rfl (Nat.le_of_ble_eq_true rfl) 10 rfl (by intro H h; first | exact h.1 | exact h.2.1 | exact h.2.2.1 | exact h.2.2.2.1 | exact h.2.2.2.2.1 | exact h.2.2.2.2.2.1 | exact h.2.2.2.2.2.2.1 | exact h.2.2.2.2.2.2.2.1 | exact h.2.2.2.2.2.2.2.2.1 | exact h.2.2.2.2.2.2.2.2.2.1 | exact h.2.2.2.2.2.2.2.2.2.2) (Pr' := _) (fun _ h => h) (hA) (fun _ _ _ h _ => by exact h) (st1 := []) rfl (k1 := 0) (n1 := 0) rfl rfl ?_
    exact g_vret hF dX10_together_173 (Nat.le_of_ble_eq_true rfl) (Nat.le_of_ble_eq_true rfl) (fun H h => hR _ _ ⟨rfl, by obtain ⟨ls1, nq1, q1, q2, q3⟩ := h; exact ⟨cg, ls1, nq1, fun g hg => by rw [esB]; exact hcg g (by omega), fun g hg => by unfold sP; rw [esB]; exact q1 g hg, by rw [ht]; exact q3⟩⟩)
  have main : ∀ (n t : Nat) (mo : Int32) (cg ls nq : Nat → Int32), 30 - t < n → t ≤ 30 → (∀ g, g < 4 → cg g = nI (Bt v.2.2.2 G t g)) → ((mo = 0 ∧ sRd v = t) ∨ (mo = 1 ∧ sRd v = stl v.2.2.2 G (30 - t) t)) → go l (rm 3) E x 0 0 (Mm E c (flat v) pf im ss kp bk ws cg ls nq dd sd en wh (nI t)) [some (.ref c), some (.int mo), none] 27 [] := by
    intro n
    induction n with
    | zero => intro t mo cg ls nq h; omega
    | succ n ih =>
      intro t mo cg ls nq hn1 ht hcg hmo
      rcases hmo with ⟨hm0, hm1⟩ | ⟨hm0, hm1⟩
      · subst hm0
        refine g_iload_n hF dX10_together_27 28 rfl rfl ?_
        refine g_if_eq hF dX10_together_28 31 rfl 169 (by decide) (fun _ => ?_) (fun c => absurd (rfl) c)
        exact fin t _ cg ls nq hm1 hcg
      · subst hm0
        by_cases h30 : t = 30
        · subst h30
          refine g_iload_n hF dX10_together_27 28 rfl rfl ?_
          refine g_if_eq hF dX10_together_28 31 rfl 169 (by decide) (fun c => absurd c ((by decide))) (fun _ => ?_)
          refine g_aload_n hF dX10_together_31 32 rfl rfl ?_
          refine g_get hF fl_X10_98 dX10_together_32 35 rfl (by intro H h; first | exact h.1 | exact h.2.1 | exact h.2.2.1 | exact h.2.2.2.1 | exact h.2.2.2.2.1 | exact h.2.2.2.2.2.1 | exact h.2.2.2.2.2.2.1 | exact h.2.2.2.2.2.2.2.1 | exact h.2.2.2.2.2.2.2.2.1 | exact h.2.2.2.2.2.2.2.2.2.1 | exact h.2.2.2.2.2.2.2.2.2.2) rfl ?_
          refine g_bipush hF (30) dX10_together_35 37 rfl rfl ?_
          refine g_icmp_ge hF dX10_together_37 40 rfl 169 (by decide) (fun _ => ?_) (fun c => absurd ((by decide)) c)
          exact fin 30 _ cg ls nq hm1 hcg
        · have hd : 30 - t = (30 - (t + 1)) + 1 := by omega
          rw [hd] at hm1
          have send : ∀ (ls : Nat → Int32), (∀ g, g < G → ls g = nI (pP (v.2.2.2 g) (Bt v.2.2.2 G t g))) → ∀ (m k : Nat) (i : Int32) (nq : Nat → Int32), G - k < m → k ≤ G → i = nI k → (∀ h, h < G → nq h = nI (sn v.2.2.2 (fun g => pP (v.2.2.2 g) (Bt v.2.2.2 G t g)) k h)) → go l (rm 3) E x 0 0 (Mm E c (flat v) pf im ss kp bk ws cg ls nq dd sd en wh (nI (t + 1))) [some (.ref c), some (.int 1), some (.int i)] 56 [] := by
            intro ls hls m
            have take : ∀ (nq : Nat → Int32), (∀ h, h < G → nq h = nI (Bt v.2.2.2 G (t + 1) h)) → ∀ (m k : Nat) (i mo : Int32) (cg : Nat → Int32), G - k < m → k ≤ G → i = nI k → (∀ h, h < 4 → cg h = nI (if h < k then Bt v.2.2.2 G (t + 1) h else Bt v.2.2.2 G t h)) → ((mo = 0 ∧ ∀ h, h < k → Bt v.2.2.2 G (t + 1) h = Bt v.2.2.2 G t h) ∨ (mo = 1 ∧ ∃ h, h < k ∧ ¬ Bt v.2.2.2 G (t + 1) h = Bt v.2.2.2 G t h)) → go l (rm 3) E x 0 0 (Mm E c (flat v) pf im ss kp bk ws cg ls nq dd sd en wh (nI (t + 1))) [some (.ref c), some (.int mo), some (.int i)] 113 [] := by
              intro nq hnq m
              induction m with
              | zero => intro k i mo cg h; omega
              | succ m ihm =>
                intro k i mo cg hm hk hi hcg hmo
                subst hi
                by_cases hlt : k < G
                · have hk4 : k < 4 := by omega
                  have eq1 : nq k = nI (Bt v.2.2.2 G (t + 1) k) := hnq k hlt
                  have eq2 : cg k = nI (Bt v.2.2.2 G t k) := by rw [hcg k hk4, if_neg (by omega)]
                  have bb1 := bl (t + 1) k hk4
                  have bb2 := bl t k hk4
                  have J : ∀ (z : Int32), ((z = 0 ∧ ∀ h, h < k + 1 → Bt v.2.2.2 G (t + 1) h = Bt v.2.2.2 G t h) ∨ (z = 1 ∧ ∃ h, h < k + 1 ∧ ¬ Bt v.2.2.2 G (t + 1) h = Bt v.2.2.2 G t h)) → go l (rm 3) E x 0 0 (Mm E c (flat v) pf im ss kp bk ws cg ls nq dd sd en wh (nI (t + 1))) [some (.ref c), some (.int mo), some (.int (nI k))] 147 [.int z] := by
                    intro z hz
                    refine g_istore_n hF dX10_together_147 148 rfl (lo' := [_, _, _]) (Nat.le_of_ble_eq_true rfl) rfl ?_
                    refine g_aload_n hF dX10_together_148 149 rfl rfl ?_
                    refine g_get hF fl_X10_33 dX10_together_149 152 rfl (by intro H h; first | exact h.1 | exact h.2.1 | exact h.2.2.1 | exact h.2.2.2.1 | exact h.2.2.2.2.1 | exact h.2.2.2.2.2.1 | exact h.2.2.2.2.2.2.1 | exact h.2.2.2.2.2.2.2.1 | exact h.2.2.2.2.2.2.2.2.1 | exact h.2.2.2.2.2.2.2.2.2.1 | exact h.2.2.2.2.2.2.2.2.2.2) rfl ?_
                    refine g_iload_n hF dX10_together_152 153 rfl rfl ?_
                    refine g_aload_n hF dX10_together_153 154 rfl rfl ?_
                    refine g_get hF fl_X10_39 dX10_together_154 157 rfl (by intro H h; first | exact h.1 | exact h.2.1 | exact h.2.2.1 | exact h.2.2.2.1 | exact h.2.2.2.2.1 | exact h.2.2.2.2.2.1 | exact h.2.2.2.2.2.2.1 | exact h.2.2.2.2.2.2.2.1 | exact h.2.2.2.2.2.2.2.2.1 | exact h.2.2.2.2.2.2.2.2.2.1 | exact h.2.2.2.2.2.2.2.2.2.2) rfl ?_
                    refine g_iload_n hF dX10_together_157 158 rfl rfl ?_
                    refine g_iald hF dX10_together_158 159 rfl (by intro H h; first | exact h.1 | exact h.2.1 | exact h.2.2.1 | exact h.2.2.2.1 | exact h.2.2.2.2.1 | exact h.2.2.2.2.2.1 | exact h.2.2.2.2.2.2.1 | exact h.2.2.2.2.2.2.2.1 | exact h.2.2.2.2.2.2.2.2.1 | exact h.2.2.2.2.2.2.2.2.2.1 | exact h.2.2.2.2.2.2.2.2.2.2) (vp_in_nI hk4 (by omega)) ?_
                    rw [nI_clamp (by omega), eq1]
                    refine g_iast hF dX10_together_159 160 rfl (by intro H h; first | exact h.1 | exact h.2.1 | exact h.2.2.1 | exact h.2.2.2.1 | exact h.2.2.2.2.1 | exact h.2.2.2.2.2.1 | exact h.2.2.2.2.2.2.1 | exact h.2.2.2.2.2.2.2.1 | exact h.2.2.2.2.2.2.2.2.1 | exact h.2.2.2.2.2.2.2.2.2.1 | exact h.2.2.2.2.2.2.2.2.2.2) (vp_in_nI hk4 (by omega)) (hA _ ⟨by omega, by omega⟩) (Pr' := Mm E c (flat v) pf im ss kp bk ws (upd cg k (nI (Bt v.2.2.2 G (t + 1) k))) ls nq dd sd en wh (nI (t + 1))) (fun H H' h h1 h2 => by rw [nI_clamp (by omega)] at h1; exact h.cm h1 h2) ?_
                    refine g_iinc hF dX10_together_160 163 rfl (1) rfl (lo' := [_, _, _]) rfl rfl ?_
                    refine g_goto hF dX10_together_163 113 (by decide) ?_
                    exact ihm (k + 1) _ _ _ (by omega) (by omega) (nI_succ k).symm (fun h hh => if e : h = k then by rw [e, pk_us, if_pos (by omega)] else by rw [pk_un e, hcg h hh]; by_cases q : h < k; rw [if_pos q, if_pos (by omega)]; rw [if_neg q, if_neg (by omega)]) hz
                  rcases hmo with ⟨hm0, hall⟩ | ⟨hm0, h, hh, hne⟩
                  · subst hm0
                    by_cases hq : Bt v.2.2.2 G (t + 1) k = Bt v.2.2.2 G t k
                    · refine g_iload_n hF dX10_together_113 114 rfl rfl ?_
                      refine g_aload_n hF dX10_together_114 115 rfl rfl ?_
                      refine g_get hF fl_X10_7 dX10_together_115 118 rfl (by intro H h; first | exact h.1 | exact h.2.1 | exact h.2.2.1 | exact h.2.2.2.1 | exact h.2.2.2.2.1 | exact h.2.2.2.2.2.1 | exact h.2.2.2.2.2.2.1 | exact h.2.2.2.2.2.2.2.1 | exact h.2.2.2.2.2.2.2.2.1 | exact h.2.2.2.2.2.2.2.2.2.1 | exact h.2.2.2.2.2.2.2.2.2.2) rfl ?_
                      refine g_iconst hF (0) dX10_together_118 119 rfl rfl ?_
                      refine g_iald hF dX10_together_119 120 rfl (by intro H h; first | exact h.1 | exact h.2.1 | exact h.2.2.1 | exact h.2.2.2.1 | exact h.2.2.2.2.1 | exact h.2.2.2.2.2.1 | exact h.2.2.2.2.2.2.1 | exact h.2.2.2.2.2.2.2.1 | exact h.2.2.2.2.2.2.2.2.1 | exact h.2.2.2.2.2.2.2.2.2.1 | exact h.2.2.2.2.2.2.2.2.2.2) (vp_in_nI (show 0 < 139 by omega) (by omega)) ?_
                      rw [e0]
                      refine g_icmp_ge hF dX10_together_120 123 rfl 166 (by decide) (fun c => absurd c (fun y => absurd (i_le y (by omega) (by omega)) (by omega))) (fun _ => ?_)
                      refine g_iload_n hF dX10_together_123 124 rfl rfl ?_
                      refine g_if_ne hF dX10_together_124 127 rfl 142 (by decide) (fun c => absurd (rfl) c) (fun _ => ?_)
                      refine g_aload_n hF dX10_together_127 128 rfl rfl ?_
                      refine g_get hF fl_X10_39 dX10_together_128 131 rfl (by intro H h; first | exact h.1 | exact h.2.1 | exact h.2.2.1 | exact h.2.2.2.1 | exact h.2.2.2.2.1 | exact h.2.2.2.2.2.1 | exact h.2.2.2.2.2.2.1 | exact h.2.2.2.2.2.2.2.1 | exact h.2.2.2.2.2.2.2.2.1 | exact h.2.2.2.2.2.2.2.2.2.1 | exact h.2.2.2.2.2.2.2.2.2.2) rfl ?_
                      refine g_iload_n hF dX10_together_131 132 rfl rfl ?_
                      refine g_iald hF dX10_together_132 133 rfl (by intro H h; first | exact h.1 | exact h.2.1 | exact h.2.2.1 | exact h.2.2.2.1 | exact h.2.2.2.2.1 | exact h.2.2.2.2.2.1 | exact h.2.2.2.2.2.2.1 | exact h.2.2.2.2.2.2.2.1 | exact h.2.2.2.2.2.2.2.2.1 | exact h.2.2.2.2.2.2.2.2.2.1 | exact h.2.2.2.2.2.2.2.2.2.2) (vp_in_nI hk4 (by omega)) ?_
                      rw [nI_clamp (by omega), eq1]
                      refine g_aload_n hF dX10_together_133 134 rfl rfl ?_
                      refine g_get hF fl_X10_33 dX10_together_134 137 rfl (by intro H h; first | exact h.1 | exact h.2.1 | exact h.2.2.1 | exact h.2.2.2.1 | exact h.2.2.2.2.1 | exact h.2.2.2.2.2.1 | exact h.2.2.2.2.2.2.1 | exact h.2.2.2.2.2.2.2.1 | exact h.2.2.2.2.2.2.2.2.1 | exact h.2.2.2.2.2.2.2.2.2.1 | exact h.2.2.2.2.2.2.2.2.2.2) rfl ?_
                      refine g_iload_n hF dX10_together_137 138 rfl rfl ?_
                      refine g_iald hF dX10_together_138 139 rfl (by intro H h; first | exact h.1 | exact h.2.1 | exact h.2.2.1 | exact h.2.2.2.1 | exact h.2.2.2.2.1 | exact h.2.2.2.2.2.1 | exact h.2.2.2.2.2.2.1 | exact h.2.2.2.2.2.2.2.1 | exact h.2.2.2.2.2.2.2.2.1 | exact h.2.2.2.2.2.2.2.2.2.1 | exact h.2.2.2.2.2.2.2.2.2.2) (vp_in_nI hk4 (by omega)) ?_
                      rw [nI_clamp (by omega), eq2]
                      refine g_icmp_eq hF dX10_together_139 142 rfl 146 (by decide) (fun _ => ?_) (fun c => absurd (by rw [hq]) c)
                      refine g_iconst hF (0) dX10_together_146 147 rfl rfl ?_
                      exact J 0 (Or.inl ⟨rfl, fun h hh => if e : h = k then by rw [e]; exact hq else hall h (by omega)⟩)
                    · refine g_iload_n hF dX10_together_113 114 rfl rfl ?_
                      refine g_aload_n hF dX10_together_114 115 rfl rfl ?_
                      refine g_get hF fl_X10_7 dX10_together_115 118 rfl (by intro H h; first | exact h.1 | exact h.2.1 | exact h.2.2.1 | exact h.2.2.2.1 | exact h.2.2.2.2.1 | exact h.2.2.2.2.2.1 | exact h.2.2.2.2.2.2.1 | exact h.2.2.2.2.2.2.2.1 | exact h.2.2.2.2.2.2.2.2.1 | exact h.2.2.2.2.2.2.2.2.2.1 | exact h.2.2.2.2.2.2.2.2.2.2) rfl ?_
                      refine g_iconst hF (0) dX10_together_118 119 rfl rfl ?_
                      refine g_iald hF dX10_together_119 120 rfl (by intro H h; first | exact h.1 | exact h.2.1 | exact h.2.2.1 | exact h.2.2.2.1 | exact h.2.2.2.2.1 | exact h.2.2.2.2.2.1 | exact h.2.2.2.2.2.2.1 | exact h.2.2.2.2.2.2.2.1 | exact h.2.2.2.2.2.2.2.2.1 | exact h.2.2.2.2.2.2.2.2.2.1 | exact h.2.2.2.2.2.2.2.2.2.2) (vp_in_nI (show 0 < 139 by omega) (by omega)) ?_
                      rw [e0]
                      refine g_icmp_ge hF dX10_together_120 123 rfl 166 (by decide) (fun c => absurd c (fun y => absurd (i_le y (by omega) (by omega)) (by omega))) (fun _ => ?_)
                      refine g_iload_n hF dX10_together_123 124 rfl rfl ?_
                      refine g_if_ne hF dX10_together_124 127 rfl 142 (by decide) (fun c => absurd (rfl) c) (fun _ => ?_)
                      refine g_aload_n hF dX10_together_127 128 rfl rfl ?_
                      refine g_get hF fl_X10_39 dX10_together_128 131 rfl (by intro H h; first | exact h.1 | exact h.2.1 | exact h.2.2.1 | exact h.2.2.2.1 | exact h.2.2.2.2.1 | exact h.2.2.2.2.2.1 | exact h.2.2.2.2.2.2.1 | exact h.2.2.2.2.2.2.2.1 | exact h.2.2.2.2.2.2.2.2.1 | exact h.2.2.2.2.2.2.2.2.2.1 | exact h.2.2.2.2.2.2.2.2.2.2) rfl ?_
                      refine g_iload_n hF dX10_together_131 132 rfl rfl ?_
                      refine g_iald hF dX10_together_132 133 rfl (by intro H h; first | exact h.1 | exact h.2.1 | exact h.2.2.1 | exact h.2.2.2.1 | exact h.2.2.2.2.1 | exact h.2.2.2.2.2.1 | exact h.2.2.2.2.2.2.1 | exact h.2.2.2.2.2.2.2.1 | exact h.2.2.2.2.2.2.2.2.1 | exact h.2.2.2.2.2.2.2.2.2.1 | exact h.2.2.2.2.2.2.2.2.2.2) (vp_in_nI hk4 (by omega)) ?_
                      rw [nI_clamp (by omega), eq1]
                      refine g_aload_n hF dX10_together_133 134 rfl rfl ?_
                      refine g_get hF fl_X10_33 dX10_together_134 137 rfl (by intro H h; first | exact h.1 | exact h.2.1 | exact h.2.2.1 | exact h.2.2.2.1 | exact h.2.2.2.2.1 | exact h.2.2.2.2.2.1 | exact h.2.2.2.2.2.2.1 | exact h.2.2.2.2.2.2.2.1 | exact h.2.2.2.2.2.2.2.2.1 | exact h.2.2.2.2.2.2.2.2.2.1 | exact h.2.2.2.2.2.2.2.2.2.2) rfl ?_
                      refine g_iload_n hF dX10_together_137 138 rfl rfl ?_
                      refine g_iald hF dX10_together_138 139 rfl (by intro H h; first | exact h.1 | exact h.2.1 | exact h.2.2.1 | exact h.2.2.2.1 | exact h.2.2.2.2.1 | exact h.2.2.2.2.2.1 | exact h.2.2.2.2.2.2.1 | exact h.2.2.2.2.2.2.2.1 | exact h.2.2.2.2.2.2.2.2.1 | exact h.2.2.2.2.2.2.2.2.2.1 | exact h.2.2.2.2.2.2.2.2.2.2) (vp_in_nI hk4 (by omega)) ?_
                      rw [nI_clamp (by omega), eq2]
                      refine g_icmp_eq hF dX10_together_139 142 rfl 146 (by decide) (fun c => absurd c (fun y => hq ((nI_eq (by omega) (by omega)).mp y))) (fun _ => ?_)
                      refine g_iconst hF (1) dX10_together_142 143 rfl rfl ?_
                      refine g_goto hF dX10_together_143 147 (by decide) ?_
                      exact J 1 (Or.inr ⟨rfl, k, by omega, hq⟩)
                  · subst hm0
                    refine g_iload_n hF dX10_together_113 114 rfl rfl ?_
                    refine g_aload_n hF dX10_together_114 115 rfl rfl ?_
                    refine g_get hF fl_X10_7 dX10_together_115 118 rfl (by intro H h; first | exact h.1 | exact h.2.1 | exact h.2.2.1 | exact h.2.2.2.1 | exact h.2.2.2.2.1 | exact h.2.2.2.2.2.1 | exact h.2.2.2.2.2.2.1 | exact h.2.2.2.2.2.2.2.1 | exact h.2.2.2.2.2.2.2.2.1 | exact h.2.2.2.2.2.2.2.2.2.1 | exact h.2.2.2.2.2.2.2.2.2.2) rfl ?_
                    refine g_iconst hF (0) dX10_together_118 119 rfl rfl ?_
                    refine g_iald hF dX10_together_119 120 rfl (by intro H h; first | exact h.1 | exact h.2.1 | exact h.2.2.1 | exact h.2.2.2.1 | exact h.2.2.2.2.1 | exact h.2.2.2.2.2.1 | exact h.2.2.2.2.2.2.1 | exact h.2.2.2.2.2.2.2.1 | exact h.2.2.2.2.2.2.2.2.1 | exact h.2.2.2.2.2.2.2.2.2.1 | exact h.2.2.2.2.2.2.2.2.2.2) (vp_in_nI (show 0 < 139 by omega) (by omega)) ?_
                    rw [e0]
                    refine g_icmp_ge hF dX10_together_120 123 rfl 166 (by decide) (fun c => absurd c (fun y => absurd (i_le y (by omega) (by omega)) (by omega))) (fun _ => ?_)
                    refine g_iload_n hF dX10_together_123 124 rfl rfl ?_
                    refine g_if_ne hF dX10_together_124 127 rfl 142 (by decide) (fun _ => ?_) (fun c => absurd c ((by decide)))
                    refine g_iconst hF (1) dX10_together_142 143 rfl rfl ?_
                    refine g_goto hF dX10_together_143 147 (by decide) ?_
                    exact J 1 (Or.inr ⟨rfl, h, by omega, hne⟩)
                · obtain rfl : G = k := by omega
                  have hcg2 : ∀ h, h < 4 → cg h = nI (Bt v.2.2.2 G (t + 1) h) := fun h hh => by
                    rw [hcg h hh]
                    by_cases q : h < G
                    · rw [if_pos q]
                    · rw [if_neg q, b0 t h (by omega) hh, b0 (t + 1) h (by omega) hh]
                  have hmo2 : (mo = 0 ∧ sRd v = t + 1) ∨ (mo = 1 ∧ sRd v = stl v.2.2.2 G (30 - (t + 1)) (t + 1)) := by
                    rcases hmo with ⟨q1, q2⟩ | ⟨q1, h, hh, hne⟩
                    · refine Or.inl ⟨q1, hm1.trans (if_pos (fun g hg => ?_))⟩
                      by_cases q : g < G
                      · exact q2 g q
                      · rw [b0 t g (by omega) hg, b0 (t + 1) g (by omega) hg]
                    · exact Or.inr ⟨q1, hm1.trans (if_neg (fun y => hne (y h (by omega))))⟩
                  refine g_iload_n hF dX10_together_113 114 rfl rfl ?_
                  refine g_aload_n hF dX10_together_114 115 rfl rfl ?_
                  refine g_get hF fl_X10_7 dX10_together_115 118 rfl (by intro H h; first | exact h.1 | exact h.2.1 | exact h.2.2.1 | exact h.2.2.2.1 | exact h.2.2.2.2.1 | exact h.2.2.2.2.2.1 | exact h.2.2.2.2.2.2.1 | exact h.2.2.2.2.2.2.2.1 | exact h.2.2.2.2.2.2.2.2.1 | exact h.2.2.2.2.2.2.2.2.2.1 | exact h.2.2.2.2.2.2.2.2.2.2) rfl ?_
                  refine g_iconst hF (0) dX10_together_118 119 rfl rfl ?_
                  refine g_iald hF dX10_together_119 120 rfl (by intro H h; first | exact h.1 | exact h.2.1 | exact h.2.2.1 | exact h.2.2.2.1 | exact h.2.2.2.2.1 | exact h.2.2.2.2.2.1 | exact h.2.2.2.2.2.2.1 | exact h.2.2.2.2.2.2.2.1 | exact h.2.2.2.2.2.2.2.2.1 | exact h.2.2.2.2.2.2.2.2.2.1 | exact h.2.2.2.2.2.2.2.2.2.2) (vp_in_nI (show 0 < 139 by omega) (by omega)) ?_
                  rw [e0]
                  refine g_icmp_ge hF dX10_together_120 123 rfl 166 (by decide) (fun _ => ?_) (fun c => absurd (nI_le (by omega) (by omega)) c)
                  refine g_goto hF dX10_together_166 27 (by decide) ?_
                  refine g_cut [true, true, false] (lo' := [_, _, _]) rfl ?_
                  exact ih (t + 1) _ _ _ _ (by omega) (by omega) hcg2 hmo2
            induction m with
            | zero => intro k i nq h; omega
            | succ m ihm =>
              intro k i nq hm hk hi hnq
              subst hi
              by_cases hlt : k < G
              · have hk4 : k < 4 := by omega
                obtain ⟨-, ⟨A, a6, ha⟩, hov, -⟩ := ho k hk4
                have eA : nA (v.2.2.2 k) = A := by unfold nA; rw [ha, nI_clamp (by omega)]
                rcases hov with hov | ⟨w, w1, w2, w3⟩
                · refine g_iload_n hF dX10_together_56 57 rfl rfl ?_
                  refine g_aload_n hF dX10_together_57 58 rfl rfl ?_
                  refine g_get hF fl_X10_7 dX10_together_58 61 rfl (by intro H h; first | exact h.1 | exact h.2.1 | exact h.2.2.1 | exact h.2.2.2.1 | exact h.2.2.2.2.1 | exact h.2.2.2.2.2.1 | exact h.2.2.2.2.2.2.1 | exact h.2.2.2.2.2.2.2.1 | exact h.2.2.2.2.2.2.2.2.1 | exact h.2.2.2.2.2.2.2.2.2.1 | exact h.2.2.2.2.2.2.2.2.2.2) rfl ?_
                  refine g_iconst hF (0) dX10_together_61 62 rfl rfl ?_
                  refine g_iald hF dX10_together_62 63 rfl (by intro H h; first | exact h.1 | exact h.2.1 | exact h.2.2.1 | exact h.2.2.2.1 | exact h.2.2.2.2.1 | exact h.2.2.2.2.2.1 | exact h.2.2.2.2.2.2.1 | exact h.2.2.2.2.2.2.2.1 | exact h.2.2.2.2.2.2.2.2.1 | exact h.2.2.2.2.2.2.2.2.2.1 | exact h.2.2.2.2.2.2.2.2.2.2) (vp_in_nI (show 0 < 139 by omega) (by omega)) ?_
                  rw [e0]
                  refine g_icmp_ge hF dX10_together_63 66 rfl 109 (by decide) (fun c => absurd c (fun y => absurd (i_le y (by omega) (by omega)) (by omega))) (fun _ => ?_)
                  refine g_aload_n hF dX10_together_66 67 rfl rfl ?_
                  refine g_iload_n hF dX10_together_67 68 rfl rfl ?_
                  refine g_iconst hF (3) dX10_together_68 69 rfl rfl ?_
                  rw [show (3 : Int32) = nI 3 by decide]
                  refine g_callV hF cv_X10_54 (c_M_of l E c v pf im ss kp bk ws cg ls nq dd sd en wh (nI (t + 1)) k 3 hk4 (by omega)) dX10_together_69 72 rfl (st := []) rfl rfl ⟨Nat.le_of_ble_eq_true rfl, Nat.le_of_ble_eq_true rfl⟩ ⟨Nat.le_of_ble_eq_true rfl, Nat.le_of_ble_eq_true rfl⟩ rfl (Nat.le_of_ble_eq_true rfl) 10 rfl (by intro H h; first | exact h.1 | exact h.2.1 | exact h.2.2.1 | exact h.2.2.2.1 | exact h.2.2.2.2.1 | exact h.2.2.2.2.2.1 | exact h.2.2.2.2.2.2.1 | exact h.2.2.2.2.2.2.2.1 | exact h.2.2.2.2.2.2.2.2.1 | exact h.2.2.2.2.2.2.2.2.2.1 | exact h.2.2.2.2.2.2.2.2.2.2) (Pr' := _) (fun _ h => h) (fun q z => z.elim) (fun _ _ _ h _ => by exact h) (st1 := [_]) rfl (k1 := 0) (n1 := 0) rfl rfl ?_
                  refine g_iconst hF (-1) dX10_together_72 73 rfl rfl ?_
                  refine g_icmp_eq hF dX10_together_73 76 rfl 103 (by decide) (fun _ => ?_) (fun c => absurd (hov) c)
                  refine g_iinc hF dX10_together_103 106 rfl (1) rfl (lo' := [_, _, _]) rfl rfl ?_
                  refine g_goto hF dX10_together_106 56 (by decide) ?_
                  exact ihm (k + 1) _ _ (by omega) (by omega) (nI_succ k).symm (fun h hh => by rw [hnq h hh]; (conv => rhs; unfold sn); rw [if_neg (fun y => nI_nm1 (t := h) (by omega) (y.symm.trans hov)), Nat.add_zero])
                · refine g_iload_n hF dX10_together_56 57 rfl rfl ?_
                  refine g_aload_n hF dX10_together_57 58 rfl rfl ?_
                  refine g_get hF fl_X10_7 dX10_together_58 61 rfl (by intro H h; first | exact h.1 | exact h.2.1 | exact h.2.2.1 | exact h.2.2.2.1 | exact h.2.2.2.2.1 | exact h.2.2.2.2.2.1 | exact h.2.2.2.2.2.2.1 | exact h.2.2.2.2.2.2.2.1 | exact h.2.2.2.2.2.2.2.2.1 | exact h.2.2.2.2.2.2.2.2.2.1 | exact h.2.2.2.2.2.2.2.2.2.2) rfl ?_
                  refine g_iconst hF (0) dX10_together_61 62 rfl rfl ?_
                  refine g_iald hF dX10_together_62 63 rfl (by intro H h; first | exact h.1 | exact h.2.1 | exact h.2.2.1 | exact h.2.2.2.1 | exact h.2.2.2.2.1 | exact h.2.2.2.2.2.1 | exact h.2.2.2.2.2.2.1 | exact h.2.2.2.2.2.2.2.1 | exact h.2.2.2.2.2.2.2.2.1 | exact h.2.2.2.2.2.2.2.2.2.1 | exact h.2.2.2.2.2.2.2.2.2.2) (vp_in_nI (show 0 < 139 by omega) (by omega)) ?_
                  rw [e0]
                  refine g_icmp_ge hF dX10_together_63 66 rfl 109 (by decide) (fun c => absurd c (fun y => absurd (i_le y (by omega) (by omega)) (by omega))) (fun _ => ?_)
                  refine g_aload_n hF dX10_together_66 67 rfl rfl ?_
                  refine g_iload_n hF dX10_together_67 68 rfl rfl ?_
                  refine g_iconst hF (3) dX10_together_68 69 rfl rfl ?_
                  rw [show (3 : Int32) = nI 3 by decide]
                  refine g_callV hF cv_X10_54 (c_M_of l E c v pf im ss kp bk ws cg ls nq dd sd en wh (nI (t + 1)) k 3 hk4 (by omega)) dX10_together_69 72 rfl (st := []) rfl rfl ⟨Nat.le_of_ble_eq_true rfl, Nat.le_of_ble_eq_true rfl⟩ ⟨Nat.le_of_ble_eq_true rfl, Nat.le_of_ble_eq_true rfl⟩ rfl (Nat.le_of_ble_eq_true rfl) 10 rfl (by intro H h; first | exact h.1 | exact h.2.1 | exact h.2.2.1 | exact h.2.2.2.1 | exact h.2.2.2.2.1 | exact h.2.2.2.2.2.1 | exact h.2.2.2.2.2.2.1 | exact h.2.2.2.2.2.2.2.1 | exact h.2.2.2.2.2.2.2.2.1 | exact h.2.2.2.2.2.2.2.2.2.1 | exact h.2.2.2.2.2.2.2.2.2.2) (Pr' := _) (fun _ h => h) (fun q z => z.elim) (fun _ _ _ h _ => by exact h) (st1 := [_]) rfl (k1 := 0) (n1 := 0) rfl rfl ?_
                  refine g_iconst hF (-1) dX10_together_72 73 rfl rfl ?_
                  refine g_icmp_eq hF dX10_together_73 76 rfl 103 (by decide) (fun c => absurd c (by rw [w3]; exact nI_nm1 (by omega))) (fun _ => ?_)
                  refine g_aload_n hF dX10_together_76 77 rfl rfl ?_
                  refine g_get hF fl_X10_39 dX10_together_77 80 rfl (by intro H h; first | exact h.1 | exact h.2.1 | exact h.2.2.1 | exact h.2.2.2.1 | exact h.2.2.2.2.1 | exact h.2.2.2.2.2.1 | exact h.2.2.2.2.2.2.1 | exact h.2.2.2.2.2.2.2.1 | exact h.2.2.2.2.2.2.2.2.1 | exact h.2.2.2.2.2.2.2.2.2.1 | exact h.2.2.2.2.2.2.2.2.2.2) rfl ?_
                  refine g_aload_n hF dX10_together_80 81 rfl rfl ?_
                  refine g_iload_n hF dX10_together_81 82 rfl rfl ?_
                  refine g_iconst hF (3) dX10_together_82 83 rfl rfl ?_
                  rw [show (3 : Int32) = nI 3 by decide]
                  refine g_callV hF cv_X10_54 (c_M_of l E c v pf im ss kp bk ws cg ls nq dd sd en wh (nI (t + 1)) k 3 hk4 (by omega)) dX10_together_83 86 rfl (st := [_]) rfl rfl ⟨Nat.le_of_ble_eq_true rfl, Nat.le_of_ble_eq_true rfl⟩ ⟨Nat.le_of_ble_eq_true rfl, Nat.le_of_ble_eq_true rfl⟩ rfl (Nat.le_of_ble_eq_true rfl) 10 rfl (by intro H h; first | exact h.1 | exact h.2.1 | exact h.2.2.1 | exact h.2.2.2.1 | exact h.2.2.2.2.1 | exact h.2.2.2.2.2.1 | exact h.2.2.2.2.2.2.1 | exact h.2.2.2.2.2.2.2.1 | exact h.2.2.2.2.2.2.2.2.1 | exact h.2.2.2.2.2.2.2.2.2.1 | exact h.2.2.2.2.2.2.2.2.2.2) (Pr' := _) (fun _ h => h) (fun q z => z.elim) (fun _ _ _ h _ => by exact h) (st1 := [_, _]) rfl (k1 := 0) (n1 := 0) rfl rfl ?_
                  rw [w3]
                  refine g_dup2 hF dX10_together_86 87 rfl rfl rfl ?_
                  refine g_iald hF dX10_together_87 88 rfl (by intro H h; first | exact h.1 | exact h.2.1 | exact h.2.2.1 | exact h.2.2.2.1 | exact h.2.2.2.2.1 | exact h.2.2.2.2.2.1 | exact h.2.2.2.2.2.2.1 | exact h.2.2.2.2.2.2.2.1 | exact h.2.2.2.2.2.2.2.2.1 | exact h.2.2.2.2.2.2.2.2.2.1 | exact h.2.2.2.2.2.2.2.2.2.2) (vp_in_nI (show w < 4 by omega) (by omega)) ?_
                  rw [nI_clamp (by omega), hnq w w1]
                  refine g_aload_n hF dX10_together_88 89 rfl rfl ?_
                  refine g_iload_n hF dX10_together_89 90 rfl rfl ?_
                  refine g_iconst hF (1) dX10_together_90 91 rfl rfl ?_
                  rw [show (1 : Int32) = nI 1 by decide]
                  refine g_callV hF cv_X10_54 (c_M_of l E c v pf im ss kp bk ws cg ls nq dd sd en wh (nI (t + 1)) k 1 hk4 (by omega)) dX10_together_91 94 rfl (st := [_, _, _]) rfl rfl ⟨Nat.le_of_ble_eq_true rfl, Nat.le_of_ble_eq_true rfl⟩ ⟨Nat.le_of_ble_eq_true rfl, Nat.le_of_ble_eq_true rfl⟩ rfl (Nat.le_of_ble_eq_true rfl) 10 rfl (by intro H h; first | exact h.1 | exact h.2.1 | exact h.2.2.1 | exact h.2.2.2.1 | exact h.2.2.2.2.1 | exact h.2.2.2.2.2.1 | exact h.2.2.2.2.2.2.1 | exact h.2.2.2.2.2.2.2.1 | exact h.2.2.2.2.2.2.2.2.1 | exact h.2.2.2.2.2.2.2.2.2.1 | exact h.2.2.2.2.2.2.2.2.2.2) (Pr' := _) (fun _ h => h) (fun q z => z.elim) (fun _ _ _ h _ => by exact h) (st1 := [_, _, _, _]) rfl (k1 := 0) (n1 := 0) rfl rfl ?_
                  rw [ha]
                  refine g_aload_n hF dX10_together_94 95 rfl rfl ?_
                  refine g_get hF fl_X10_36 dX10_together_95 98 rfl (by intro H h; first | exact h.1 | exact h.2.1 | exact h.2.2.1 | exact h.2.2.2.1 | exact h.2.2.2.2.1 | exact h.2.2.2.2.2.1 | exact h.2.2.2.2.2.2.1 | exact h.2.2.2.2.2.2.2.1 | exact h.2.2.2.2.2.2.2.2.1 | exact h.2.2.2.2.2.2.2.2.2.1 | exact h.2.2.2.2.2.2.2.2.2.2) rfl ?_
                  refine g_iload_n hF dX10_together_98 99 rfl rfl ?_
                  refine g_iald hF dX10_together_99 100 rfl (by intro H h; first | exact h.1 | exact h.2.1 | exact h.2.2.1 | exact h.2.2.2.1 | exact h.2.2.2.2.1 | exact h.2.2.2.2.2.1 | exact h.2.2.2.2.2.2.1 | exact h.2.2.2.2.2.2.2.1 | exact h.2.2.2.2.2.2.2.2.1 | exact h.2.2.2.2.2.2.2.2.2.1 | exact h.2.2.2.2.2.2.2.2.2.2) (vp_in_nI hk4 (by omega)) ?_
                  rw [nI_clamp (by omega), hls k hlt]
                  refine g_imul hF dX10_together_100 101 rfl ?_
                  rw [pk_mul]
                  refine g_iadd hF dX10_together_101 102 rfl ?_
                  rw [nI_add]
                  refine g_iast hF dX10_together_102 103 rfl (by intro H h; first | exact h.1 | exact h.2.1 | exact h.2.2.1 | exact h.2.2.2.1 | exact h.2.2.2.2.1 | exact h.2.2.2.2.2.1 | exact h.2.2.2.2.2.2.1 | exact h.2.2.2.2.2.2.2.1 | exact h.2.2.2.2.2.2.2.2.1 | exact h.2.2.2.2.2.2.2.2.2.1 | exact h.2.2.2.2.2.2.2.2.2.2) (vp_in_nI (show w < 4 by omega) (by omega)) (hA _ ⟨by omega, by omega⟩) (Pr' := Mm E c (flat v) pf im ss kp bk ws cg ls (upd nq w (nI (sn v.2.2.2 (fun g => pP (v.2.2.2 g) (Bt v.2.2.2 G t g)) k w + A * pP (v.2.2.2 k) (Bt v.2.2.2 G t k)))) dd sd en wh (nI (t + 1))) (fun H H' h h1 h2 => by rw [nI_clamp (by omega)] at h1; exact h.nq h1 h2) ?_
                  refine g_iinc hF dX10_together_103 106 rfl (1) rfl (lo' := [_, _, _]) rfl rfl ?_
                  refine g_goto hF dX10_together_106 56 (by decide) ?_
                  rw [show (1 : Int32) = nI 1 by decide] at *
                  refine ihm (k + 1) _ _ (by omega) (by omega) (nI_succ k).symm (fun h hh => ?_)
                  conv => rhs; unfold sn
                  by_cases e : h = w
                  · subst e; rw [pk_us, if_pos w3, eA]
                  · rw [pk_un e, hnq h hh, if_neg (fun y => e ((nI_eq (by omega) (by omega)).mp (y.symm.trans w3)))]; rfl
              · obtain rfl : G = k := by omega
                refine g_iload_n hF dX10_together_56 57 rfl rfl ?_
                refine g_aload_n hF dX10_together_57 58 rfl rfl ?_
                refine g_get hF fl_X10_7 dX10_together_58 61 rfl (by intro H h; first | exact h.1 | exact h.2.1 | exact h.2.2.1 | exact h.2.2.2.1 | exact h.2.2.2.2.1 | exact h.2.2.2.2.2.1 | exact h.2.2.2.2.2.2.1 | exact h.2.2.2.2.2.2.2.1 | exact h.2.2.2.2.2.2.2.2.1 | exact h.2.2.2.2.2.2.2.2.2.1 | exact h.2.2.2.2.2.2.2.2.2.2) rfl ?_
                refine g_iconst hF (0) dX10_together_61 62 rfl rfl ?_
                refine g_iald hF dX10_together_62 63 rfl (by intro H h; first | exact h.1 | exact h.2.1 | exact h.2.2.1 | exact h.2.2.2.1 | exact h.2.2.2.2.1 | exact h.2.2.2.2.2.1 | exact h.2.2.2.2.2.2.1 | exact h.2.2.2.2.2.2.2.1 | exact h.2.2.2.2.2.2.2.2.1 | exact h.2.2.2.2.2.2.2.2.2.1 | exact h.2.2.2.2.2.2.2.2.2.2) (vp_in_nI (show 0 < 139 by omega) (by omega)) ?_
                rw [e0]
                refine g_icmp_ge hF dX10_together_63 66 rfl 109 (by decide) (fun _ => ?_) (fun c => absurd (nI_le (by omega) (by omega)) c)
                refine g_iconst hF (0) dX10_together_109 110 rfl rfl ?_
                refine g_istore_n hF dX10_together_110 111 rfl (lo' := [_, _, _]) (Nat.le_of_ble_eq_true rfl) rfl ?_
                refine g_iconst hF (0) dX10_together_111 112 rfl rfl ?_
                refine g_istore_n hF dX10_together_112 113 rfl (lo' := [_, _, _]) (Nat.le_of_ble_eq_true rfl) rfl ?_
                exact take nq hnq (G + 1) 0 0 0 cg (by omega) (by omega) nI_0.symm (fun h hh => by rw [if_neg (by omega)]; exact hcg h hh) (Or.inl ⟨rfl, fun h hh => by omega⟩)
          refine g_iload_n hF dX10_together_27 28 rfl rfl ?_
          refine g_if_eq hF dX10_together_28 31 rfl 169 (by decide) (fun c => absurd c ((by decide))) (fun _ => ?_)
          refine g_aload_n hF dX10_together_31 32 rfl rfl ?_
          refine g_get hF fl_X10_98 dX10_together_32 35 rfl (by intro H h; first | exact h.1 | exact h.2.1 | exact h.2.2.1 | exact h.2.2.2.1 | exact h.2.2.2.2.1 | exact h.2.2.2.2.2.1 | exact h.2.2.2.2.2.2.1 | exact h.2.2.2.2.2.2.2.1 | exact h.2.2.2.2.2.2.2.2.1 | exact h.2.2.2.2.2.2.2.2.2.1 | exact h.2.2.2.2.2.2.2.2.2.2) rfl ?_
          refine g_bipush hF (30) dX10_together_35 37 rfl rfl ?_
          refine g_icmp_ge hF dX10_together_37 40 rfl 169 (by decide) (fun c => absurd c (fun y => absurd (i_le (a := 30) y (by omega) (by omega)) (by omega))) (fun _ => ?_)
          refine g_aload_n hF dX10_together_40 41 rfl rfl ?_
          refine g_dup hF dX10_together_41 42 rfl rfl ?_
          refine g_get hF fl_X10_98 dX10_together_42 45 rfl (by intro H h; first | exact h.1 | exact h.2.1 | exact h.2.2.1 | exact h.2.2.2.1 | exact h.2.2.2.2.1 | exact h.2.2.2.2.2.1 | exact h.2.2.2.2.2.2.1 | exact h.2.2.2.2.2.2.2.1 | exact h.2.2.2.2.2.2.2.2.1 | exact h.2.2.2.2.2.2.2.2.2.1 | exact h.2.2.2.2.2.2.2.2.2.2) rfl ?_
          refine g_iconst hF (1) dX10_together_45 46 rfl rfl ?_
          refine g_iadd hF dX10_together_46 47 rfl ?_
          rw [nI_1]
          refine g_put hF pl_X10_98 dX10_together_47 50 rfl (by intro H h; first | exact h.1 | exact h.2.1 | exact h.2.2.1 | exact h.2.2.2.1 | exact h.2.2.2.2.1 | exact h.2.2.2.2.2.1 | exact h.2.2.2.2.2.2.1 | exact h.2.2.2.2.2.2.2.1 | exact h.2.2.2.2.2.2.2.2.1 | exact h.2.2.2.2.2.2.2.2.2.1 | exact h.2.2.2.2.2.2.2.2.2.2) (Nat.le_of_ble_eq_true rfl) rfl rfl (hA _ ⟨by omega, by omega⟩) (Pr' := Mm E c (flat v) pf im ss kp bk ws cg ls nq dd sd en wh (nI (t + 1))) (fun H H' h h1 h2 => by exact h.fld h1 h2) ?_
          refine g_aload_n hF dX10_together_50 51 rfl rfl ?_
          refine g_callV hF cv_X10_101 (c_M_loses l E c v pf im ss kp bk ws cg ls nq dd sd en wh (nI (t + 1)) G T (Bt v.2.2.2 G t) hG G4 ho (fun g hg => ⟨hcg g hg, bl t g hg⟩)) dX10_together_51 54 rfl (st := []) rfl rfl ⟨Nat.le_of_ble_eq_true rfl, Nat.le_of_ble_eq_true rfl⟩ ⟨Nat.le_of_ble_eq_true rfl, Nat.le_of_ble_eq_true rfl⟩ rfl (Nat.le_of_ble_eq_true rfl) 10 rfl (by intro H h; first | exact h.1 | exact h.2.1 | exact h.2.2.1 | exact h.2.2.2.1 | exact h.2.2.2.2.1 | exact h.2.2.2.2.2.1 | exact h.2.2.2.2.2.2.1 | exact h.2.2.2.2.2.2.2.1 | exact h.2.2.2.2.2.2.2.2.1 | exact h.2.2.2.2.2.2.2.2.2.1 | exact h.2.2.2.2.2.2.2.2.2.2) (Pr' := _) (fun _ h => h) (hA) (fun _ _ _ h _ => by exact h) (st1 := []) rfl (k1 := 0) (n1 := 0) rfl rfl ?_
          refine g_ex (fun ls1 => ?_)
          refine g_ex (fun nq1 => ?_)
          refine g_pure (fun H h => h.1) (fun hls => ?_)
          refine g_pure (fun H h => h.2.1) (fun hnq => ?_)
          refine g_pr (fun H h => h.2.2) ?_
          refine g_iconst hF (0) dX10_together_54 55 rfl rfl ?_
          refine g_istore_n hF dX10_together_55 56 rfl (lo' := [_, _, _]) (Nat.le_of_ble_eq_true rfl) rfl ?_
          exact send ls1 hls (G + 1) 0 0 nq1 (by omega) (by omega) nI_0.symm (fun h hh => hnq h hh)
  have zero : ∀ (n j : Nat) (i : Int32) (cg : Nat → Int32), 4 - j < n → j ≤ 4 → i = nI j → (∀ k, k < j → cg k = 0) → go l (rm 3) E x 0 0 (Mm E c (flat v) pf im ss kp bk ws cg ls nq dd sd en wh ro) [some (.ref c), some (.int i), none] 2 [] := by
    intro n
    induction n with
    | zero => intro j i cg h; omega
    | succ n ih =>
      intro j i cg hn1 hj hi hz
      subst hi
      by_cases hlt : j < 4
      · refine g_iload_n hF dX10_together_2 3 rfl rfl ?_
        refine g_iconst hF (4) dX10_together_3 4 rfl rfl ?_
        refine g_icmp_ge hF dX10_together_4 7 rfl 20 (by decide) (fun c => absurd c (fun y => absurd (i_le (a := 4) y (by omega) (by omega)) (by omega))) (fun _ => ?_)
        refine g_aload_n hF dX10_together_7 8 rfl rfl ?_
        refine g_get hF fl_X10_33 dX10_together_8 11 rfl (by intro H h; first | exact h.1 | exact h.2.1 | exact h.2.2.1 | exact h.2.2.2.1 | exact h.2.2.2.2.1 | exact h.2.2.2.2.2.1 | exact h.2.2.2.2.2.2.1 | exact h.2.2.2.2.2.2.2.1 | exact h.2.2.2.2.2.2.2.2.1 | exact h.2.2.2.2.2.2.2.2.2.1 | exact h.2.2.2.2.2.2.2.2.2.2) rfl ?_
        refine g_iload_n hF dX10_together_11 12 rfl rfl ?_
        refine g_iconst hF (0) dX10_together_12 13 rfl rfl ?_
        refine g_iast hF dX10_together_13 14 rfl (by intro H h; first | exact h.1 | exact h.2.1 | exact h.2.2.1 | exact h.2.2.2.1 | exact h.2.2.2.2.1 | exact h.2.2.2.2.2.1 | exact h.2.2.2.2.2.2.1 | exact h.2.2.2.2.2.2.2.1 | exact h.2.2.2.2.2.2.2.2.1 | exact h.2.2.2.2.2.2.2.2.2.1 | exact h.2.2.2.2.2.2.2.2.2.2) (vp_in_nI hlt (by omega)) (hA _ ⟨by omega, by omega⟩) (Pr' := Mm E c (flat v) pf im ss kp bk ws (upd cg j 0) ls nq dd sd en wh ro) (fun H H' h h1 h2 => by rw [nI_clamp (by omega)] at h1; exact h.cm h1 h2) ?_
        refine g_iinc hF dX10_together_14 17 rfl (1) rfl (lo' := [_, _, _]) rfl rfl ?_
        refine g_goto hF dX10_together_17 2 (by decide) ?_
        exact ih (j + 1) _ _ (by omega) (by omega) (nI_succ j).symm (fun k hk => if e : k = j then by rw [e, pk_us] else by rw [pk_un e]; exact hz k (by omega))
      · refine g_iload_n hF dX10_together_2 3 rfl rfl ?_
        refine g_iconst hF (4) dX10_together_3 4 rfl rfl ?_
        refine g_icmp_ge hF dX10_together_4 7 rfl 20 (by decide) (fun _ => ?_) (fun c => absurd (nI_le (a := 4) (by omega) (by omega)) c)
        refine g_aload_n hF dX10_together_20 21 rfl rfl ?_
        refine g_iconst hF (0) dX10_together_21 22 rfl rfl ?_
        refine g_put hF pl_X10_98 dX10_together_22 25 rfl (by intro H h; first | exact h.1 | exact h.2.1 | exact h.2.2.1 | exact h.2.2.2.1 | exact h.2.2.2.2.1 | exact h.2.2.2.2.2.1 | exact h.2.2.2.2.2.2.1 | exact h.2.2.2.2.2.2.2.1 | exact h.2.2.2.2.2.2.2.2.1 | exact h.2.2.2.2.2.2.2.2.2.1 | exact h.2.2.2.2.2.2.2.2.2.2) (Nat.le_of_ble_eq_true rfl) rfl rfl (hA _ ⟨by omega, by omega⟩) (Pr' := Mm E c (flat v) pf im ss kp bk ws cg ls nq dd sd en wh (nI 0)) (fun H H' h h1 h2 => by exact h.fld h1 h2) ?_
        refine g_iconst hF (1) dX10_together_25 26 rfl rfl ?_
        refine g_istore_n hF dX10_together_26 27 rfl (lo' := [_, _, _]) (Nat.le_of_ble_eq_true rfl) rfl ?_
        exact main 31 0 1 cg ls nq (by omega) (by omega) (fun g hg => hz g (by omega)) (Or.inr ⟨rfl, hRd⟩)
  refine g_iconst hF (0) dX10_together_0 1 rfl rfl ?_
  refine g_istore_n hF dX10_together_1 2 rfl (lo' := [_, _, _]) (Nat.le_of_ble_eq_true rfl) rfl ?_
  exact zero 5 0 0 cg (by omega) (by omega) nI_0.symm (fun k hk => by omega)
end MV8
