/-! P by value: shapes -/
set_option maxRecDepth 1000000 in
theorem ck_4_1_0 : ckF (f_4_0 1000) 4 18001 (f_4_0 1000 0) 0 = true := by decide +kernel
set_option maxRecDepth 1000000 in
theorem ck_4_2_0 : ckF (f_4_0 2000) 6 18001 (f_4_0 2000 0) 0 = true := by decide +kernel
set_option maxRecDepth 1000000 in
theorem ck_4_3_0 : ckF (f_4_0 3000) 8 18001 (f_4_0 3000 0) 0 = true := by decide +kernel
set_option maxRecDepth 1000000 in
theorem ck_4_4_0 : ckF (f_4_0 4000) 10 18001 (f_4_0 4000 0) 0 = true := by decide +kernel
set_option maxRecDepth 1000000 in
theorem ck_4_5_0 : ckF (f_4_0 5000) 12 18001 (f_4_0 5000 0) 0 = true := by decide +kernel
set_option maxRecDepth 1000000 in
theorem ck_4_6_0 : ckF (f_4_0 6000) 14 18001 (f_4_0 6000 0) 0 = true := by decide +kernel
theorem gp_4_0 : ∀ A, 1 ≤ A → A ≤ 6 → gap (pPn 4 A 0) (2 * A + 2)
  | 1, _, _ => (gap_of (by omega) ck_4_1_0).to (f_4_0_eq 1)
  | 2, _, _ => (gap_of (by omega) ck_4_2_0).to (f_4_0_eq 2)
  | 3, _, _ => (gap_of (by omega) ck_4_3_0).to (f_4_0_eq 3)
  | 4, _, _ => (gap_of (by omega) ck_4_4_0).to (f_4_0_eq 4)
  | 5, _, _ => (gap_of (by omega) ck_4_5_0).to (f_4_0_eq 5)
  | 6, _, _ => (gap_of (by omega) ck_4_6_0).to (f_4_0_eq 6)
  | 0, h, _ => absurd h (by omega)
  | A + 7, _, h => absurd h (by omega)
set_option maxRecDepth 1000000 in
theorem ck_4_1_1 : ckF (f_4_1 1000) 4 18001 (f_4_1 1000 0) 0 = true := by decide +kernel
set_option maxRecDepth 1000000 in
theorem ck_4_2_1 : ckF (f_4_1 2000) 6 18001 (f_4_1 2000 0) 0 = true := by decide +kernel
set_option maxRecDepth 1000000 in
theorem ck_4_3_1 : ckF (f_4_1 3000) 8 18001 (f_4_1 3000 0) 0 = true := by decide +kernel
set_option maxRecDepth 1000000 in
theorem ck_4_4_1 : ckF (f_4_1 4000) 10 18001 (f_4_1 4000 0) 0 = true := by decide +kernel
set_option maxRecDepth 1000000 in
theorem ck_4_5_1 : ckF (f_4_1 5000) 12 18001 (f_4_1 5000 0) 0 = true := by decide +kernel
set_option maxRecDepth 1000000 in
theorem ck_4_6_1 : ckF (f_4_1 6000) 14 18001 (f_4_1 6000 0) 0 = true := by decide +kernel
theorem gp_4_1 : ∀ A, 1 ≤ A → A ≤ 6 → gap (pPn 4 A 1) (2 * A + 2)
  | 1, _, _ => (gap_of (by omega) ck_4_1_1).to (f_4_1_eq 1)
  | 2, _, _ => (gap_of (by omega) ck_4_2_1).to (f_4_1_eq 2)
  | 3, _, _ => (gap_of (by omega) ck_4_3_1).to (f_4_1_eq 3)
  | 4, _, _ => (gap_of (by omega) ck_4_4_1).to (f_4_1_eq 4)
  | 5, _, _ => (gap_of (by omega) ck_4_5_1).to (f_4_1_eq 5)
  | 6, _, _ => (gap_of (by omega) ck_4_6_1).to (f_4_1_eq 6)
  | 0, h, _ => absurd h (by omega)
  | A + 7, _, h => absurd h (by omega)
set_option maxRecDepth 1000000 in
theorem ck_4_1_2 : ckF (f_4_2 1000) 4 18001 (f_4_2 1000 0) 0 = true := by decide +kernel
set_option maxRecDepth 1000000 in
theorem ck_4_2_2 : ckF (f_4_2 2000) 6 18001 (f_4_2 2000 0) 0 = true := by decide +kernel
set_option maxRecDepth 1000000 in
theorem ck_4_3_2 : ckF (f_4_2 3000) 8 18001 (f_4_2 3000 0) 0 = true := by decide +kernel
set_option maxRecDepth 1000000 in
theorem ck_4_4_2 : ckF (f_4_2 4000) 10 18001 (f_4_2 4000 0) 0 = true := by decide +kernel
set_option maxRecDepth 1000000 in
theorem ck_4_5_2 : ckF (f_4_2 5000) 12 18001 (f_4_2 5000 0) 0 = true := by decide +kernel
set_option maxRecDepth 1000000 in
theorem ck_4_6_2 : ckF (f_4_2 6000) 14 18001 (f_4_2 6000 0) 0 = true := by decide +kernel
theorem gp_4_2 : ∀ A, 1 ≤ A → A ≤ 6 → gap (pPn 4 A 2) (2 * A + 2)
  | 1, _, _ => (gap_of (by omega) ck_4_1_2).to (f_4_2_eq 1)
  | 2, _, _ => (gap_of (by omega) ck_4_2_2).to (f_4_2_eq 2)
  | 3, _, _ => (gap_of (by omega) ck_4_3_2).to (f_4_2_eq 3)
  | 4, _, _ => (gap_of (by omega) ck_4_4_2).to (f_4_2_eq 4)
  | 5, _, _ => (gap_of (by omega) ck_4_5_2).to (f_4_2_eq 5)
  | 6, _, _ => (gap_of (by omega) ck_4_6_2).to (f_4_2_eq 6)
  | 0, h, _ => absurd h (by omega)
  | A + 7, _, h => absurd h (by omega)
set_option maxRecDepth 1000000 in
theorem ck_4_1_3 : ckF (f_4_3 1000) 4 18001 (f_4_3 1000 0) 0 = true := by decide +kernel
set_option maxRecDepth 1000000 in
theorem ck_4_2_3 : ckF (f_4_3 2000) 6 18001 (f_4_3 2000 0) 0 = true := by decide +kernel
set_option maxRecDepth 1000000 in
theorem ck_4_3_3 : ckF (f_4_3 3000) 8 18001 (f_4_3 3000 0) 0 = true := by decide +kernel
set_option maxRecDepth 1000000 in
theorem ck_4_4_3 : ckF (f_4_3 4000) 10 18001 (f_4_3 4000 0) 0 = true := by decide +kernel
set_option maxRecDepth 1000000 in
theorem ck_4_5_3 : ckF (f_4_3 5000) 12 18001 (f_4_3 5000 0) 0 = true := by decide +kernel
set_option maxRecDepth 1000000 in
theorem ck_4_6_3 : ckF (f_4_3 6000) 14 18001 (f_4_3 6000 0) 0 = true := by decide +kernel
theorem gp_4_3 : ∀ A, 1 ≤ A → A ≤ 6 → gap (pPn 4 A 3) (2 * A + 2)
  | 1, _, _ => (gap_of (by omega) ck_4_1_3).to (f_4_3_eq 1)
  | 2, _, _ => (gap_of (by omega) ck_4_2_3).to (f_4_3_eq 2)
  | 3, _, _ => (gap_of (by omega) ck_4_3_3).to (f_4_3_eq 3)
  | 4, _, _ => (gap_of (by omega) ck_4_4_3).to (f_4_3_eq 4)
  | 5, _, _ => (gap_of (by omega) ck_4_5_3).to (f_4_3_eq 5)
  | 6, _, _ => (gap_of (by omega) ck_4_6_3).to (f_4_3_eq 6)
  | 0, h, _ => absurd h (by omega)
  | A + 7, _, h => absurd h (by omega)
