/-! P by value: shapes -/
theorem gap.to {f f' : Nat → Nat} {g : Nat} (h : gap f g) (e : ∀ b, f b = f' b) : gap f' g := fun x y h1 h2 => by rw [← e x, ← e y]; exact h x y h1 h2
set_option maxRecDepth 1000000 in
theorem ck_1_1_0 : ckF (f_1_0 1000) 4 18001 (f_1_0 1000 0) 0 = true := by decide +kernel
set_option maxRecDepth 1000000 in
theorem ck_1_2_0 : ckF (f_1_0 2000) 6 18001 (f_1_0 2000 0) 0 = true := by decide +kernel
set_option maxRecDepth 1000000 in
theorem ck_1_3_0 : ckF (f_1_0 3000) 8 18001 (f_1_0 3000 0) 0 = true := by decide +kernel
set_option maxRecDepth 1000000 in
theorem ck_1_4_0 : ckF (f_1_0 4000) 10 18001 (f_1_0 4000 0) 0 = true := by decide +kernel
set_option maxRecDepth 1000000 in
theorem ck_1_5_0 : ckF (f_1_0 5000) 12 18001 (f_1_0 5000 0) 0 = true := by decide +kernel
set_option maxRecDepth 1000000 in
theorem ck_1_6_0 : ckF (f_1_0 6000) 14 18001 (f_1_0 6000 0) 0 = true := by decide +kernel
theorem gp_1_0 : ∀ A, 1 ≤ A → A ≤ 6 → gap (pPn 1 A 0) (2 * A + 2)
  | 1, _, _ => (gap_of (by omega) ck_1_1_0).to (f_1_0_eq 1)
  | 2, _, _ => (gap_of (by omega) ck_1_2_0).to (f_1_0_eq 2)
  | 3, _, _ => (gap_of (by omega) ck_1_3_0).to (f_1_0_eq 3)
  | 4, _, _ => (gap_of (by omega) ck_1_4_0).to (f_1_0_eq 4)
  | 5, _, _ => (gap_of (by omega) ck_1_5_0).to (f_1_0_eq 5)
  | 6, _, _ => (gap_of (by omega) ck_1_6_0).to (f_1_0_eq 6)
  | 0, h, _ => absurd h (by omega)
  | A + 7, _, h => absurd h (by omega)
set_option maxRecDepth 1000000 in
theorem ck_2_1_0 : ckF (f_2_0 1000) 4 18001 (f_2_0 1000 0) 0 = true := by decide +kernel
set_option maxRecDepth 1000000 in
theorem ck_2_2_0 : ckF (f_2_0 2000) 6 18001 (f_2_0 2000 0) 0 = true := by decide +kernel
set_option maxRecDepth 1000000 in
theorem ck_2_3_0 : ckF (f_2_0 3000) 8 18001 (f_2_0 3000 0) 0 = true := by decide +kernel
set_option maxRecDepth 1000000 in
theorem ck_2_4_0 : ckF (f_2_0 4000) 10 18001 (f_2_0 4000 0) 0 = true := by decide +kernel
set_option maxRecDepth 1000000 in
theorem ck_2_5_0 : ckF (f_2_0 5000) 12 18001 (f_2_0 5000 0) 0 = true := by decide +kernel
set_option maxRecDepth 1000000 in
theorem ck_2_6_0 : ckF (f_2_0 6000) 14 18001 (f_2_0 6000 0) 0 = true := by decide +kernel
theorem gp_2_0 : ∀ A, 1 ≤ A → A ≤ 6 → gap (pPn 2 A 0) (2 * A + 2)
  | 1, _, _ => (gap_of (by omega) ck_2_1_0).to (f_2_0_eq 1)
  | 2, _, _ => (gap_of (by omega) ck_2_2_0).to (f_2_0_eq 2)
  | 3, _, _ => (gap_of (by omega) ck_2_3_0).to (f_2_0_eq 3)
  | 4, _, _ => (gap_of (by omega) ck_2_4_0).to (f_2_0_eq 4)
  | 5, _, _ => (gap_of (by omega) ck_2_5_0).to (f_2_0_eq 5)
  | 6, _, _ => (gap_of (by omega) ck_2_6_0).to (f_2_0_eq 6)
  | 0, h, _ => absurd h (by omega)
  | A + 7, _, h => absurd h (by omega)
set_option maxRecDepth 1000000 in
theorem ck_2_1_1 : ckF (f_2_1 1000) 4 18001 (f_2_1 1000 0) 0 = true := by decide +kernel
set_option maxRecDepth 1000000 in
theorem ck_2_2_1 : ckF (f_2_1 2000) 6 18001 (f_2_1 2000 0) 0 = true := by decide +kernel
set_option maxRecDepth 1000000 in
theorem ck_2_3_1 : ckF (f_2_1 3000) 8 18001 (f_2_1 3000 0) 0 = true := by decide +kernel
set_option maxRecDepth 1000000 in
theorem ck_2_4_1 : ckF (f_2_1 4000) 10 18001 (f_2_1 4000 0) 0 = true := by decide +kernel
set_option maxRecDepth 1000000 in
theorem ck_2_5_1 : ckF (f_2_1 5000) 12 18001 (f_2_1 5000 0) 0 = true := by decide +kernel
set_option maxRecDepth 1000000 in
theorem ck_2_6_1 : ckF (f_2_1 6000) 14 18001 (f_2_1 6000 0) 0 = true := by decide +kernel
theorem gp_2_1 : ∀ A, 1 ≤ A → A ≤ 6 → gap (pPn 2 A 1) (2 * A + 2)
  | 1, _, _ => (gap_of (by omega) ck_2_1_1).to (f_2_1_eq 1)
  | 2, _, _ => (gap_of (by omega) ck_2_2_1).to (f_2_1_eq 2)
  | 3, _, _ => (gap_of (by omega) ck_2_3_1).to (f_2_1_eq 3)
  | 4, _, _ => (gap_of (by omega) ck_2_4_1).to (f_2_1_eq 4)
  | 5, _, _ => (gap_of (by omega) ck_2_5_1).to (f_2_1_eq 5)
  | 6, _, _ => (gap_of (by omega) ck_2_6_1).to (f_2_1_eq 6)
  | 0, h, _ => absurd h (by omega)
  | A + 7, _, h => absurd h (by omega)
set_option maxRecDepth 1000000 in
theorem ck_3_1_0 : ckF (f_3_0 1000) 4 18001 (f_3_0 1000 0) 0 = true := by decide +kernel
set_option maxRecDepth 1000000 in
theorem ck_3_2_0 : ckF (f_3_0 2000) 6 18001 (f_3_0 2000 0) 0 = true := by decide +kernel
set_option maxRecDepth 1000000 in
theorem ck_3_3_0 : ckF (f_3_0 3000) 8 18001 (f_3_0 3000 0) 0 = true := by decide +kernel
set_option maxRecDepth 1000000 in
theorem ck_3_4_0 : ckF (f_3_0 4000) 10 18001 (f_3_0 4000 0) 0 = true := by decide +kernel
set_option maxRecDepth 1000000 in
theorem ck_3_5_0 : ckF (f_3_0 5000) 12 18001 (f_3_0 5000 0) 0 = true := by decide +kernel
set_option maxRecDepth 1000000 in
theorem ck_3_6_0 : ckF (f_3_0 6000) 14 18001 (f_3_0 6000 0) 0 = true := by decide +kernel
theorem gp_3_0 : ∀ A, 1 ≤ A → A ≤ 6 → gap (pPn 3 A 0) (2 * A + 2)
  | 1, _, _ => (gap_of (by omega) ck_3_1_0).to (f_3_0_eq 1)
  | 2, _, _ => (gap_of (by omega) ck_3_2_0).to (f_3_0_eq 2)
  | 3, _, _ => (gap_of (by omega) ck_3_3_0).to (f_3_0_eq 3)
  | 4, _, _ => (gap_of (by omega) ck_3_4_0).to (f_3_0_eq 4)
  | 5, _, _ => (gap_of (by omega) ck_3_5_0).to (f_3_0_eq 5)
  | 6, _, _ => (gap_of (by omega) ck_3_6_0).to (f_3_0_eq 6)
  | 0, h, _ => absurd h (by omega)
  | A + 7, _, h => absurd h (by omega)
set_option maxRecDepth 1000000 in
theorem ck_3_1_1 : ckF (f_3_1 1000) 4 18001 (f_3_1 1000 0) 0 = true := by decide +kernel
set_option maxRecDepth 1000000 in
theorem ck_3_2_1 : ckF (f_3_1 2000) 6 18001 (f_3_1 2000 0) 0 = true := by decide +kernel
set_option maxRecDepth 1000000 in
theorem ck_3_3_1 : ckF (f_3_1 3000) 8 18001 (f_3_1 3000 0) 0 = true := by decide +kernel
set_option maxRecDepth 1000000 in
theorem ck_3_4_1 : ckF (f_3_1 4000) 10 18001 (f_3_1 4000 0) 0 = true := by decide +kernel
set_option maxRecDepth 1000000 in
theorem ck_3_5_1 : ckF (f_3_1 5000) 12 18001 (f_3_1 5000 0) 0 = true := by decide +kernel
set_option maxRecDepth 1000000 in
theorem ck_3_6_1 : ckF (f_3_1 6000) 14 18001 (f_3_1 6000 0) 0 = true := by decide +kernel
theorem gp_3_1 : ∀ A, 1 ≤ A → A ≤ 6 → gap (pPn 3 A 1) (2 * A + 2)
  | 1, _, _ => (gap_of (by omega) ck_3_1_1).to (f_3_1_eq 1)
  | 2, _, _ => (gap_of (by omega) ck_3_2_1).to (f_3_1_eq 2)
  | 3, _, _ => (gap_of (by omega) ck_3_3_1).to (f_3_1_eq 3)
  | 4, _, _ => (gap_of (by omega) ck_3_4_1).to (f_3_1_eq 4)
  | 5, _, _ => (gap_of (by omega) ck_3_5_1).to (f_3_1_eq 5)
  | 6, _, _ => (gap_of (by omega) ck_3_6_1).to (f_3_1_eq 6)
  | 0, h, _ => absurd h (by omega)
  | A + 7, _, h => absurd h (by omega)
set_option maxRecDepth 1000000 in
theorem ck_3_1_2 : ckF (f_3_2 1000) 4 18001 (f_3_2 1000 0) 0 = true := by decide +kernel
set_option maxRecDepth 1000000 in
theorem ck_3_2_2 : ckF (f_3_2 2000) 6 18001 (f_3_2 2000 0) 0 = true := by decide +kernel
set_option maxRecDepth 1000000 in
theorem ck_3_3_2 : ckF (f_3_2 3000) 8 18001 (f_3_2 3000 0) 0 = true := by decide +kernel
set_option maxRecDepth 1000000 in
theorem ck_3_4_2 : ckF (f_3_2 4000) 10 18001 (f_3_2 4000 0) 0 = true := by decide +kernel
set_option maxRecDepth 1000000 in
theorem ck_3_5_2 : ckF (f_3_2 5000) 12 18001 (f_3_2 5000 0) 0 = true := by decide +kernel
set_option maxRecDepth 1000000 in
theorem ck_3_6_2 : ckF (f_3_2 6000) 14 18001 (f_3_2 6000 0) 0 = true := by decide +kernel
theorem gp_3_2 : ∀ A, 1 ≤ A → A ≤ 6 → gap (pPn 3 A 2) (2 * A + 2)
  | 1, _, _ => (gap_of (by omega) ck_3_1_2).to (f_3_2_eq 1)
  | 2, _, _ => (gap_of (by omega) ck_3_2_2).to (f_3_2_eq 2)
  | 3, _, _ => (gap_of (by omega) ck_3_3_2).to (f_3_2_eq 3)
  | 4, _, _ => (gap_of (by omega) ck_3_4_2).to (f_3_2_eq 4)
  | 5, _, _ => (gap_of (by omega) ck_3_5_2).to (f_3_2_eq 5)
  | 6, _, _ => (gap_of (by omega) ck_3_6_2).to (f_3_2_eq 6)
  | 0, h, _ => absurd h (by omega)
  | A + 7, _, h => absurd h (by omega)
