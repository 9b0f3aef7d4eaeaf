/-! P by value: shapes -/
set_option maxRecDepth 1000000 in
theorem ck_5_1_0 : ckF (f_5_0 1000) 4 18001 (f_5_0 1000 0) 0 = true := by decide +kernel
set_option maxRecDepth 1000000 in
theorem ck_5_2_0 : ckF (f_5_0 2000) 6 18001 (f_5_0 2000 0) 0 = true := by decide +kernel
set_option maxRecDepth 1000000 in
theorem ck_5_3_0 : ckF (f_5_0 3000) 8 18001 (f_5_0 3000 0) 0 = true := by decide +kernel
set_option maxRecDepth 1000000 in
theorem ck_5_4_0 : ckF (f_5_0 4000) 10 18001 (f_5_0 4000 0) 0 = true := by decide +kernel
set_option maxRecDepth 1000000 in
theorem ck_5_5_0 : ckF (f_5_0 5000) 12 18001 (f_5_0 5000 0) 0 = true := by decide +kernel
set_option maxRecDepth 1000000 in
theorem ck_5_6_0 : ckF (f_5_0 6000) 14 18001 (f_5_0 6000 0) 0 = true := by decide +kernel
theorem gp_5_0 : ∀ A, 1 ≤ A → A ≤ 6 → gap (pPn 5 A 0) (2 * A + 2)
  | 1, _, _ => (gap_of (by omega) ck_5_1_0).to (f_5_0_eq 1)
  | 2, _, _ => (gap_of (by omega) ck_5_2_0).to (f_5_0_eq 2)
  | 3, _, _ => (gap_of (by omega) ck_5_3_0).to (f_5_0_eq 3)
  | 4, _, _ => (gap_of (by omega) ck_5_4_0).to (f_5_0_eq 4)
  | 5, _, _ => (gap_of (by omega) ck_5_5_0).to (f_5_0_eq 5)
  | 6, _, _ => (gap_of (by omega) ck_5_6_0).to (f_5_0_eq 6)
  | 0, h, _ => absurd h (by omega)
  | A + 7, _, h => absurd h (by omega)
set_option maxRecDepth 1000000 in
theorem ck_5_1_1 : ckF (f_5_1 1000) 4 18001 (f_5_1 1000 0) 0 = true := by decide +kernel
set_option maxRecDepth 1000000 in
theorem ck_5_2_1 : ckF (f_5_1 2000) 6 18001 (f_5_1 2000 0) 0 = true := by decide +kernel
set_option maxRecDepth 1000000 in
theorem ck_5_3_1 : ckF (f_5_1 3000) 8 18001 (f_5_1 3000 0) 0 = true := by decide +kernel
set_option maxRecDepth 1000000 in
theorem ck_5_4_1 : ckF (f_5_1 4000) 10 18001 (f_5_1 4000 0) 0 = true := by decide +kernel
set_option maxRecDepth 1000000 in
theorem ck_5_5_1 : ckF (f_5_1 5000) 12 18001 (f_5_1 5000 0) 0 = true := by decide +kernel
set_option maxRecDepth 1000000 in
theorem ck_5_6_1 : ckF (f_5_1 6000) 14 18001 (f_5_1 6000 0) 0 = true := by decide +kernel
theorem gp_5_1 : ∀ A, 1 ≤ A → A ≤ 6 → gap (pPn 5 A 1) (2 * A + 2)
  | 1, _, _ => (gap_of (by omega) ck_5_1_1).to (f_5_1_eq 1)
  | 2, _, _ => (gap_of (by omega) ck_5_2_1).to (f_5_1_eq 2)
  | 3, _, _ => (gap_of (by omega) ck_5_3_1).to (f_5_1_eq 3)
  | 4, _, _ => (gap_of (by omega) ck_5_4_1).to (f_5_1_eq 4)
  | 5, _, _ => (gap_of (by omega) ck_5_5_1).to (f_5_1_eq 5)
  | 6, _, _ => (gap_of (by omega) ck_5_6_1).to (f_5_1_eq 6)
  | 0, h, _ => absurd h (by omega)
  | A + 7, _, h => absurd h (by omega)
set_option maxRecDepth 1000000 in
theorem ck_5_1_2 : ckF (f_5_2 1000) 4 18001 (f_5_2 1000 0) 0 = true := by decide +kernel
set_option maxRecDepth 1000000 in
theorem ck_5_2_2 : ckF (f_5_2 2000) 6 18001 (f_5_2 2000 0) 0 = true := by decide +kernel
set_option maxRecDepth 1000000 in
theorem ck_5_3_2 : ckF (f_5_2 3000) 8 18001 (f_5_2 3000 0) 0 = true := by decide +kernel
set_option maxRecDepth 1000000 in
theorem ck_5_4_2 : ckF (f_5_2 4000) 10 18001 (f_5_2 4000 0) 0 = true := by decide +kernel
set_option maxRecDepth 1000000 in
theorem ck_5_5_2 : ckF (f_5_2 5000) 12 18001 (f_5_2 5000 0) 0 = true := by decide +kernel
set_option maxRecDepth 1000000 in
theorem ck_5_6_2 : ckF (f_5_2 6000) 14 18001 (f_5_2 6000 0) 0 = true := by decide +kernel
theorem gp_5_2 : ∀ A, 1 ≤ A → A ≤ 6 → gap (pPn 5 A 2) (2 * A + 2)
  | 1, _, _ => (gap_of (by omega) ck_5_1_2).to (f_5_2_eq 1)
  | 2, _, _ => (gap_of (by omega) ck_5_2_2).to (f_5_2_eq 2)
  | 3, _, _ => (gap_of (by omega) ck_5_3_2).to (f_5_2_eq 3)
  | 4, _, _ => (gap_of (by omega) ck_5_4_2).to (f_5_2_eq 4)
  | 5, _, _ => (gap_of (by omega) ck_5_5_2).to (f_5_2_eq 5)
  | 6, _, _ => (gap_of (by omega) ck_5_6_2).to (f_5_2_eq 6)
  | 0, h, _ => absurd h (by omega)
  | A + 7, _, h => absurd h (by omega)
set_option maxRecDepth 1000000 in
theorem ck_5_1_3 : ckF (f_5_3 1000) 4 18001 (f_5_3 1000 0) 0 = true := by decide +kernel
set_option maxRecDepth 1000000 in
theorem ck_5_2_3 : ckF (f_5_3 2000) 6 18001 (f_5_3 2000 0) 0 = true := by decide +kernel
set_option maxRecDepth 1000000 in
theorem ck_5_3_3 : ckF (f_5_3 3000) 8 18001 (f_5_3 3000 0) 0 = true := by decide +kernel
set_option maxRecDepth 1000000 in
theorem ck_5_4_3 : ckF (f_5_3 4000) 10 18001 (f_5_3 4000 0) 0 = true := by decide +kernel
set_option maxRecDepth 1000000 in
theorem ck_5_5_3 : ckF (f_5_3 5000) 12 18001 (f_5_3 5000 0) 0 = true := by decide +kernel
set_option maxRecDepth 1000000 in
theorem ck_5_6_3 : ckF (f_5_3 6000) 14 18001 (f_5_3 6000 0) 0 = true := by decide +kernel
theorem gp_5_3 : ∀ A, 1 ≤ A → A ≤ 6 → gap (pPn 5 A 3) (2 * A + 2)
  | 1, _, _ => (gap_of (by omega) ck_5_1_3).to (f_5_3_eq 1)
  | 2, _, _ => (gap_of (by omega) ck_5_2_3).to (f_5_3_eq 2)
  | 3, _, _ => (gap_of (by omega) ck_5_3_3).to (f_5_3_eq 3)
  | 4, _, _ => (gap_of (by omega) ck_5_4_3).to (f_5_3_eq 4)
  | 5, _, _ => (gap_of (by omega) ck_5_5_3).to (f_5_3_eq 5)
  | 6, _, _ => (gap_of (by omega) ck_5_6_3).to (f_5_3_eq 6)
  | 0, h, _ => absurd h (by omega)
  | A + 7, _, h => absurd h (by omega)
set_option maxRecDepth 1000000 in
theorem ck_5_1_4 : ckF (f_5_4 1000) 4 18001 (f_5_4 1000 0) 0 = true := by decide +kernel
set_option maxRecDepth 1000000 in
theorem ck_5_2_4 : ckF (f_5_4 2000) 6 18001 (f_5_4 2000 0) 0 = true := by decide +kernel
set_option maxRecDepth 1000000 in
theorem ck_5_3_4 : ckF (f_5_4 3000) 8 18001 (f_5_4 3000 0) 0 = true := by decide +kernel
set_option maxRecDepth 1000000 in
theorem ck_5_4_4 : ckF (f_5_4 4000) 10 18001 (f_5_4 4000 0) 0 = true := by decide +kernel
set_option maxRecDepth 1000000 in
theorem ck_5_5_4 : ckF (f_5_4 5000) 12 18001 (f_5_4 5000 0) 0 = true := by decide +kernel
set_option maxRecDepth 1000000 in
theorem ck_5_6_4 : ckF (f_5_4 6000) 14 18001 (f_5_4 6000 0) 0 = true := by decide +kernel
theorem gp_5_4 : ∀ A, 1 ≤ A → A ≤ 6 → gap (pPn 5 A 4) (2 * A + 2)
  | 1, _, _ => (gap_of (by omega) ck_5_1_4).to (f_5_4_eq 1)
  | 2, _, _ => (gap_of (by omega) ck_5_2_4).to (f_5_4_eq 2)
  | 3, _, _ => (gap_of (by omega) ck_5_3_4).to (f_5_4_eq 3)
  | 4, _, _ => (gap_of (by omega) ck_5_4_4).to (f_5_4_eq 4)
  | 5, _, _ => (gap_of (by omega) ck_5_5_4).to (f_5_4_eq 5)
  | 6, _, _ => (gap_of (by omega) ck_5_6_4).to (f_5_4_eq 6)
  | 0, h, _ => absurd h (by omega)
  | A + 7, _, h => absurd h (by omega)
