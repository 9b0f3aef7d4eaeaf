/-! P by value: shapes -/
set_option maxRecDepth 1000000 in
theorem ck_1_2_0 : ckP 1 2 0 18001 0 (pV 1 2 0 0) 14 = true := by decide +kernel
set_option maxRecDepth 1000000 in
theorem ck_1_3_0 : ckP 1 3 0 18001 0 (pV 1 3 0 0) 14 = true := by decide +kernel
set_option maxRecDepth 1000000 in
theorem ck_1_4_0 : ckP 1 4 0 18001 0 (pV 1 4 0 0) 14 = true := by decide +kernel
set_option maxRecDepth 1000000 in
theorem ck_1_5_0 : ckP 1 5 0 18001 0 (pV 1 5 0 0) 14 = true := by decide +kernel
set_option maxRecDepth 1000000 in
theorem ck_1_6_0 : ckP 1 6 0 18001 0 (pV 1 6 0 0) 14 = true := by decide +kernel
set_option maxRecDepth 1000000 in
theorem ck_2_1_0 : ckP 2 1 0 18001 0 (pV 2 1 0 0) 14 = true := by decide +kernel
set_option maxRecDepth 1000000 in
theorem ck_2_1_1 : ckP 2 1 1 18001 0 (pV 2 1 1 0) 14 = true := by decide +kernel
set_option maxRecDepth 1000000 in
theorem ck_2_2_0 : ckP 2 2 0 18001 0 (pV 2 2 0 0) 14 = true := by decide +kernel
set_option maxRecDepth 1000000 in
theorem ck_2_2_1 : ckP 2 2 1 18001 0 (pV 2 2 1 0) 14 = true := by decide +kernel
set_option maxRecDepth 1000000 in
theorem ck_2_3_0 : ckP 2 3 0 18001 0 (pV 2 3 0 0) 14 = true := by decide +kernel
set_option maxRecDepth 1000000 in
theorem ck_2_3_1 : ckP 2 3 1 18001 0 (pV 2 3 1 0) 14 = true := by decide +kernel
set_option maxRecDepth 1000000 in
theorem ck_2_4_0 : ckP 2 4 0 18001 0 (pV 2 4 0 0) 14 = true := by decide +kernel
set_option maxRecDepth 1000000 in
theorem ck_2_4_1 : ckP 2 4 1 18001 0 (pV 2 4 1 0) 14 = true := by decide +kernel
set_option maxRecDepth 1000000 in
theorem ck_2_5_0 : ckP 2 5 0 18001 0 (pV 2 5 0 0) 14 = true := by decide +kernel
set_option maxRecDepth 1000000 in
theorem ck_2_5_1 : ckP 2 5 1 18001 0 (pV 2 5 1 0) 14 = true := by decide +kernel
set_option maxRecDepth 1000000 in
theorem ck_2_6_0 : ckP 2 6 0 18001 0 (pV 2 6 0 0) 14 = true := by decide +kernel
set_option maxRecDepth 1000000 in
theorem ck_2_6_1 : ckP 2 6 1 18001 0 (pV 2 6 1 0) 14 = true := by decide +kernel
