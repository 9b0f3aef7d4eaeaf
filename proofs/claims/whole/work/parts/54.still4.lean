/-! P by value: shapes -/
set_option maxRecDepth 1000000 in
theorem ck_6_1_0 : ckF (f_6_0 1000) 4 18001 (f_6_0 1000 0) 0 = true := by decide +kernel
set_option maxRecDepth 1000000 in
theorem ck_6_2_0 : ckF (f_6_0 2000) 6 18001 (f_6_0 2000 0) 0 = true := by decide +kernel
set_option maxRecDepth 1000000 in
theorem ck_6_3_0 : ckF (f_6_0 3000) 8 18001 (f_6_0 3000 0) 0 = true := by decide +kernel
set_option maxRecDepth 1000000 in
theorem ck_6_4_0 : ckF (f_6_0 4000) 10 18001 (f_6_0 4000 0) 0 = true := by decide +kernel
set_option maxRecDepth 1000000 in
theorem ck_6_5_0 : ckF (f_6_0 5000) 12 18001 (f_6_0 5000 0) 0 = true := by decide +kernel
set_option maxRecDepth 1000000 in
theorem ck_6_6_0 : ckF (f_6_0 6000) 14 18001 (f_6_0 6000 0) 0 = true := by decide +kernel
theorem gp_6_0 : ∀ A, 1 ≤ A → A ≤ 6 → gap (pPn 6 A 0) (2 * A + 2)
  | 1, _, _ => (gap_of (by omega) ck_6_1_0).to (f_6_0_eq 1)
  | 2, _, _ => (gap_of (by omega) ck_6_2_0).to (f_6_0_eq 2)
  | 3, _, _ => (gap_of (by omega) ck_6_3_0).to (f_6_0_eq 3)
  | 4, _, _ => (gap_of (by omega) ck_6_4_0).to (f_6_0_eq 4)
  | 5, _, _ => (gap_of (by omega) ck_6_5_0).to (f_6_0_eq 5)
  | 6, _, _ => (gap_of (by omega) ck_6_6_0).to (f_6_0_eq 6)
  | 0, h, _ => absurd h (by omega)
  | A + 7, _, h => absurd h (by omega)
set_option maxRecDepth 1000000 in
theorem ck_6_1_1 : ckF (f_6_1 1000) 4 18001 (f_6_1 1000 0) 0 = true := by decide +kernel
set_option maxRecDepth 1000000 in
theorem ck_6_2_1 : ckF (f_6_1 2000) 6 18001 (f_6_1 2000 0) 0 = true := by decide +kernel
set_option maxRecDepth 1000000 in
theorem ck_6_3_1 : ckF (f_6_1 3000) 8 18001 (f_6_1 3000 0) 0 = true := by decide +kernel
set_option maxRecDepth 1000000 in
theorem ck_6_4_1 : ckF (f_6_1 4000) 10 18001 (f_6_1 4000 0) 0 = true := by decide +kernel
set_option maxRecDepth 1000000 in
theorem ck_6_5_1 : ckF (f_6_1 5000) 12 18001 (f_6_1 5000 0) 0 = true := by decide +kernel
set_option maxRecDepth 1000000 in
theorem ck_6_6_1 : ckF (f_6_1 6000) 14 18001 (f_6_1 6000 0) 0 = true := by decide +kernel
theorem gp_6_1 : ∀ A, 1 ≤ A → A ≤ 6 → gap (pPn 6 A 1) (2 * A + 2)
  | 1, _, _ => (gap_of (by omega) ck_6_1_1).to (f_6_1_eq 1)
  | 2, _, _ => (gap_of (by omega) ck_6_2_1).to (f_6_1_eq 2)
  | 3, _, _ => (gap_of (by omega) ck_6_3_1).to (f_6_1_eq 3)
  | 4, _, _ => (gap_of (by omega) ck_6_4_1).to (f_6_1_eq 4)
  | 5, _, _ => (gap_of (by omega) ck_6_5_1).to (f_6_1_eq 5)
  | 6, _, _ => (gap_of (by omega) ck_6_6_1).to (f_6_1_eq 6)
  | 0, h, _ => absurd h (by omega)
  | A + 7, _, h => absurd h (by omega)
set_option maxRecDepth 1000000 in
theorem ck_6_1_2 : ckF (f_6_2 1000) 4 18001 (f_6_2 1000 0) 0 = true := by decide +kernel
set_option maxRecDepth 1000000 in
theorem ck_6_2_2 : ckF (f_6_2 2000) 6 18001 (f_6_2 2000 0) 0 = true := by decide +kernel
set_option maxRecDepth 1000000 in
theorem ck_6_3_2 : ckF (f_6_2 3000) 8 18001 (f_6_2 3000 0) 0 = true := by decide +kernel
set_option maxRecDepth 1000000 in
theorem ck_6_4_2 : ckF (f_6_2 4000) 10 18001 (f_6_2 4000 0) 0 = true := by decide +kernel
set_option maxRecDepth 1000000 in
theorem ck_6_5_2 : ckF (f_6_2 5000) 12 18001 (f_6_2 5000 0) 0 = true := by decide +kernel
set_option maxRecDepth 1000000 in
theorem ck_6_6_2 : ckF (f_6_2 6000) 14 18001 (f_6_2 6000 0) 0 = true := by decide +kernel
theorem gp_6_2 : ∀ A, 1 ≤ A → A ≤ 6 → gap (pPn 6 A 2) (2 * A + 2)
  | 1, _, _ => (gap_of (by omega) ck_6_1_2).to (f_6_2_eq 1)
  | 2, _, _ => (gap_of (by omega) ck_6_2_2).to (f_6_2_eq 2)
  | 3, _, _ => (gap_of (by omega) ck_6_3_2).to (f_6_2_eq 3)
  | 4, _, _ => (gap_of (by omega) ck_6_4_2).to (f_6_2_eq 4)
  | 5, _, _ => (gap_of (by omega) ck_6_5_2).to (f_6_2_eq 5)
  | 6, _, _ => (gap_of (by omega) ck_6_6_2).to (f_6_2_eq 6)
  | 0, h, _ => absurd h (by omega)
  | A + 7, _, h => absurd h (by omega)
set_option maxRecDepth 1000000 in
theorem ck_6_1_3 : ckF (f_6_3 1000) 4 18001 (f_6_3 1000 0) 0 = true := by decide +kernel
set_option maxRecDepth 1000000 in
theorem ck_6_2_3 : ckF (f_6_3 2000) 6 18001 (f_6_3 2000 0) 0 = true := by decide +kernel
set_option maxRecDepth 1000000 in
theorem ck_6_3_3 : ckF (f_6_3 3000) 8 18001 (f_6_3 3000 0) 0 = true := by decide +kernel
set_option maxRecDepth 1000000 in
theorem ck_6_4_3 : ckF (f_6_3 4000) 10 18001 (f_6_3 4000 0) 0 = true := by decide +kernel
set_option maxRecDepth 1000000 in
theorem ck_6_5_3 : ckF (f_6_3 5000) 12 18001 (f_6_3 5000 0) 0 = true := by decide +kernel
set_option maxRecDepth 1000000 in
theorem ck_6_6_3 : ckF (f_6_3 6000) 14 18001 (f_6_3 6000 0) 0 = true := by decide +kernel
theorem gp_6_3 : ∀ A, 1 ≤ A → A ≤ 6 → gap (pPn 6 A 3) (2 * A + 2)
  | 1, _, _ => (gap_of (by omega) ck_6_1_3).to (f_6_3_eq 1)
  | 2, _, _ => (gap_of (by omega) ck_6_2_3).to (f_6_3_eq 2)
  | 3, _, _ => (gap_of (by omega) ck_6_3_3).to (f_6_3_eq 3)
  | 4, _, _ => (gap_of (by omega) ck_6_4_3).to (f_6_3_eq 4)
  | 5, _, _ => (gap_of (by omega) ck_6_5_3).to (f_6_3_eq 5)
  | 6, _, _ => (gap_of (by omega) ck_6_6_3).to (f_6_3_eq 6)
  | 0, h, _ => absurd h (by omega)
  | A + 7, _, h => absurd h (by omega)
set_option maxRecDepth 1000000 in
theorem ck_6_1_4 : ckF (f_6_4 1000) 4 18001 (f_6_4 1000 0) 0 = true := by decide +kernel
set_option maxRecDepth 1000000 in
theorem ck_6_2_4 : ckF (f_6_4 2000) 6 18001 (f_6_4 2000 0) 0 = true := by decide +kernel
set_option maxRecDepth 1000000 in
theorem ck_6_3_4 : ckF (f_6_4 3000) 8 18001 (f_6_4 3000 0) 0 = true := by decide +kernel
set_option maxRecDepth 1000000 in
theorem ck_6_4_4 : ckF (f_6_4 4000) 10 18001 (f_6_4 4000 0) 0 = true := by decide +kernel
set_option maxRecDepth 1000000 in
theorem ck_6_5_4 : ckF (f_6_4 5000) 12 18001 (f_6_4 5000 0) 0 = true := by decide +kernel
set_option maxRecDepth 1000000 in
theorem ck_6_6_4 : ckF (f_6_4 6000) 14 18001 (f_6_4 6000 0) 0 = true := by decide +kernel
theorem gp_6_4 : ∀ A, 1 ≤ A → A ≤ 6 → gap (pPn 6 A 4) (2 * A + 2)
  | 1, _, _ => (gap_of (by omega) ck_6_1_4).to (f_6_4_eq 1)
  | 2, _, _ => (gap_of (by omega) ck_6_2_4).to (f_6_4_eq 2)
  | 3, _, _ => (gap_of (by omega) ck_6_3_4).to (f_6_4_eq 3)
  | 4, _, _ => (gap_of (by omega) ck_6_4_4).to (f_6_4_eq 4)
  | 5, _, _ => (gap_of (by omega) ck_6_5_4).to (f_6_4_eq 5)
  | 6, _, _ => (gap_of (by omega) ck_6_6_4).to (f_6_4_eq 6)
  | 0, h, _ => absurd h (by omega)
  | A + 7, _, h => absurd h (by omega)
set_option maxRecDepth 1000000 in
theorem ck_6_1_5 : ckF (f_6_5 1000) 4 18001 (f_6_5 1000 0) 0 = true := by decide +kernel
set_option maxRecDepth 1000000 in
theorem ck_6_2_5 : ckF (f_6_5 2000) 6 18001 (f_6_5 2000 0) 0 = true := by decide +kernel
set_option maxRecDepth 1000000 in
theorem ck_6_3_5 : ckF (f_6_5 3000) 8 18001 (f_6_5 3000 0) 0 = true := by decide +kernel
set_option maxRecDepth 1000000 in
theorem ck_6_4_5 : ckF (f_6_5 4000) 10 18001 (f_6_5 4000 0) 0 = true := by decide +kernel
set_option maxRecDepth 1000000 in
theorem ck_6_5_5 : ckF (f_6_5 5000) 12 18001 (f_6_5 5000 0) 0 = true := by decide +kernel
set_option maxRecDepth 1000000 in
theorem ck_6_6_5 : ckF (f_6_5 6000) 14 18001 (f_6_5 6000 0) 0 = true := by decide +kernel
theorem gp_6_5 : ∀ A, 1 ≤ A → A ≤ 6 → gap (pPn 6 A 5) (2 * A + 2)
  | 1, _, _ => (gap_of (by omega) ck_6_1_5).to (f_6_5_eq 1)
  | 2, _, _ => (gap_of (by omega) ck_6_2_5).to (f_6_5_eq 2)
  | 3, _, _ => (gap_of (by omega) ck_6_3_5).to (f_6_5_eq 3)
  | 4, _, _ => (gap_of (by omega) ck_6_4_5).to (f_6_5_eq 4)
  | 5, _, _ => (gap_of (by omega) ck_6_5_5).to (f_6_5_eq 5)
  | 6, _, _ => (gap_of (by omega) ck_6_6_5).to (f_6_5_eq 6)
  | 0, h, _ => absurd h (by omega)
  | A + 7, _, h => absurd h (by omega)
theorem gapP : ∀ N A R, R < N → N ≤ 6 → 1 ≤ A → A ≤ 6 → gap (pPn N A R) (2 * A + 2)
  | 1, A, 0, _, _, h1, h2 => gp_1_0 A h1 h2
  | 2, A, 0, _, _, h1, h2 => gp_2_0 A h1 h2
  | 2, A, 1, _, _, h1, h2 => gp_2_1 A h1 h2
  | 3, A, 0, _, _, h1, h2 => gp_3_0 A h1 h2
  | 3, A, 1, _, _, h1, h2 => gp_3_1 A h1 h2
  | 3, A, 2, _, _, h1, h2 => gp_3_2 A h1 h2
  | 4, A, 0, _, _, h1, h2 => gp_4_0 A h1 h2
  | 4, A, 1, _, _, h1, h2 => gp_4_1 A h1 h2
  | 4, A, 2, _, _, h1, h2 => gp_4_2 A h1 h2
  | 4, A, 3, _, _, h1, h2 => gp_4_3 A h1 h2
  | 5, A, 0, _, _, h1, h2 => gp_5_0 A h1 h2
  | 5, A, 1, _, _, h1, h2 => gp_5_1 A h1 h2
  | 5, A, 2, _, _, h1, h2 => gp_5_2 A h1 h2
  | 5, A, 3, _, _, h1, h2 => gp_5_3 A h1 h2
  | 5, A, 4, _, _, h1, h2 => gp_5_4 A h1 h2
  | 6, A, 0, _, _, h1, h2 => gp_6_0 A h1 h2
  | 6, A, 1, _, _, h1, h2 => gp_6_1 A h1 h2
  | 6, A, 2, _, _, h1, h2 => gp_6_2 A h1 h2
  | 6, A, 3, _, _, h1, h2 => gp_6_3 A h1 h2
  | 6, A, 4, _, _, h1, h2 => gp_6_4 A h1 h2
  | 6, A, 5, _, _, h1, h2 => gp_6_5 A h1 h2
  | 0, _, R, h, _, _, _ => absurd h (by omega)
  | N + 7, _, _, _, h, _, _ => absurd h (by omega)
  | 1, _, R + 1, h, _, _, _ => absurd h (by omega)
  | 2, _, R + 2, h, _, _, _ => absurd h (by omega)
  | 3, _, R + 3, h, _, _, _ => absurd h (by omega)
  | 4, _, R + 4, h, _, _, _ => absurd h (by omega)
  | 5, _, R + 5, h, _, _, _ => absurd h (by omega)
  | 6, _, R + 6, h, _, _, _ => absurd h (by omega)
