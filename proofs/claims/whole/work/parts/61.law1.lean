/-! The law: its cases -/
set_option maxRecDepth 100000 in
set_option maxHeartbeats 4000000 in
theorem lc_told {l : Launch} {E : Ev} {x : Cx} {z b L : Nat} {xs : Nat → Int32} {i : Int32} {σ σ' : AS} {r : Int32} (hF : fx E x RL cL_law (some .boolean) 4) (hX : va_X b L xs x.2.2.1 x.2.2.1.heap) (hbl : b < x.2.2.1.heap.size) (hbA : ¬ arx x b) (hA : ∀ q, z ≤ q → arx x q) (hv : ∀ k, k < 7 → vp_in (i + nI k) L) (hC1 : Ct l E yX9_told cX9_told 2 (some .int) (rm 6) [.ref z, .int (xs (i + nI 1).toNatClampNeg)] (CS E z σ) (rV (some (.int r)) (CS E z σ')) (rg z 524)) (hC2 : Ct l E yX10_told cX10_told 2 (some .int) (rm 6) [.ref (z + 524), .int (xs (i + nI 1).toNatClampNeg)] (MS E (z + 524) σ) (rV (some (.int r)) (MS E (z + 524) σ')) (rg (z + 524) 11)) (nxt : go l room_1 E x 535 7107 (fun H => CS E z σ' H ∧ MS E (z + 524) σ' H) [some (.ref b), some (.ref z), some (.ref (z + 524)), some (.int i)] 782 []) : go l room_1 E x 535 7107 (fun H => CS E z σ H ∧ MS E (z + 524) σ H) [some (.ref b), some (.ref z), some (.ref (z + 524)), some (.int i)] 128 [] := by
  refine g_aload_n hF dL_law_128 129 rfl rfl ?_
  refine g_aload_n hF dL_law_129 130 rfl rfl ?_
  refine g_iload_n hF dL_law_130 131 rfl rfl ?_
  refine g_iconst hF (1) dL_law_131 132 rfl rfl ?_
  refine g_iadd hF dL_law_132 133 rfl ?_
  refine g_sld hF hX hbl hbA (hv 1 (by omega)) dL_law_133 134 rfl ?_
  refine g_callX hF cv_L_13 hC1 dL_law_134 137 rfl (st := []) rfl rfl ⟨Nat.le_of_ble_eq_true rfl, Nat.le_of_ble_eq_true rfl⟩ ⟨Nat.le_of_ble_eq_true rfl, Nat.le_of_ble_eq_true rfl⟩ rfl (Nat.le_of_ble_eq_true rfl) 9 rfl (fun H h => ⟨_, h.1.ob⟩) (Pr' := fun H => CS E z σ' H ∧ MS E (z + 524) σ H) (fun H h => h.1) (fun q y => hA q y.1) (fun H H' h h1 h2 => by exact ⟨h1, h.2.out h2 (fun q y => Or.inl y.2)⟩) (st1 := [_]) rfl (k1 := 535) (n1 := 7107) rfl rfl ?_
  refine g_aload_n hF dL_law_137 138 rfl rfl ?_
  refine g_aload_n hF dL_law_138 139 rfl rfl ?_
  refine g_iload_n hF dL_law_139 140 rfl rfl ?_
  refine g_iconst hF (1) dL_law_140 141 rfl rfl ?_
  refine g_iadd hF dL_law_141 142 rfl ?_
  refine g_sld hF hX hbl hbA (hv 1 (by omega)) dL_law_142 143 rfl ?_
  refine g_callX hF cv_L_17 hC2 dL_law_143 146 rfl (st := [_]) rfl rfl ⟨Nat.le_of_ble_eq_true rfl, Nat.le_of_ble_eq_true rfl⟩ ⟨Nat.le_of_ble_eq_true rfl, Nat.le_of_ble_eq_true rfl⟩ rfl (Nat.le_of_ble_eq_true rfl) 10 rfl (fun H h => h.2.ob) (Pr' := fun H => CS E z σ' H ∧ MS E (z + 524) σ' H) (fun H h => h.2) (fun q y => hA q (Nat.le_trans (Nat.le_add_right _ _) y.1)) (fun H H' h h1 h2 => by exact ⟨h.1.out h2 (fun q y => Or.inr y.1), h1⟩) (st1 := [_, _]) rfl (k1 := 535) (n1 := 7107) rfl rfl ?_
  refine g_icmp_eq hF dL_law_146 149 rfl 782 (by decide) (fun _ => ?_) (fun c => absurd (rfl) c)
  exact nxt
set_option maxRecDepth 100000 in
set_option maxHeartbeats 4000000 in
theorem lc_group {l : Launch} {E : Ev} {x : Cx} {z b L : Nat} {xs : Nat → Int32} {i : Int32} {σ σ' : AS} {r : Int32} (hF : fx E x RL cL_law (some .boolean) 4) (hX : va_X b L xs x.2.2.1 x.2.2.1.heap) (hbl : b < x.2.2.1.heap.size) (hbA : ¬ arx x b) (hA : ∀ q, z ≤ q → arx x q) (hv : ∀ k, k < 7 → vp_in (i + nI k) L) (hC1 : Ct l E yX9_group cX9_group 4 (some .int) (rm 6) [.ref z, .int (xs (i + nI 1).toNatClampNeg), .int (xs (i + nI 2).toNatClampNeg)] (CS E z σ) (rV (some (.int r)) (CS E z σ')) (rg z 524)) (hC2 : Ct l E yX10_group cX10_group 3 (some .int) (rm 6) [.ref (z + 524), .int (xs (i + nI 1).toNatClampNeg), .int (xs (i + nI 2).toNatClampNeg)] (MS E (z + 524) σ) (rV (some (.int r)) (MS E (z + 524) σ')) (rg (z + 524) 11)) (nxt : go l room_1 E x 535 7107 (fun H => CS E z σ' H ∧ MS E (z + 524) σ' H) [some (.ref b), some (.ref z), some (.ref (z + 524)), some (.int i)] 782 []) : go l room_1 E x 535 7107 (fun H => CS E z σ H ∧ MS E (z + 524) σ H) [some (.ref b), some (.ref z), some (.ref (z + 524)), some (.int i)] 151 [] := by
  refine g_aload_n hF dL_law_151 152 rfl rfl ?_
  refine g_aload_n hF dL_law_152 153 rfl rfl ?_
  refine g_iload_n hF dL_law_153 154 rfl rfl ?_
  refine g_iconst hF (1) dL_law_154 155 rfl rfl ?_
  refine g_iadd hF dL_law_155 156 rfl ?_
  refine g_sld hF hX hbl hbA (hv 1 (by omega)) dL_law_156 157 rfl ?_
  refine g_aload_n hF dL_law_157 158 rfl rfl ?_
  refine g_iload_n hF dL_law_158 159 rfl rfl ?_
  refine g_iconst hF (2) dL_law_159 160 rfl rfl ?_
  refine g_iadd hF dL_law_160 161 rfl ?_
  refine g_sld hF hX hbl hbA (hv 2 (by omega)) dL_law_161 162 rfl ?_
  refine g_callX hF cv_L_18 hC1 dL_law_162 165 rfl (st := []) rfl rfl ⟨Nat.le_of_ble_eq_true rfl, Nat.le_of_ble_eq_true rfl⟩ ⟨Nat.le_of_ble_eq_true rfl, Nat.le_of_ble_eq_true rfl⟩ rfl (Nat.le_of_ble_eq_true rfl) 9 rfl (fun H h => ⟨_, h.1.ob⟩) (Pr' := fun H => CS E z σ' H ∧ MS E (z + 524) σ H) (fun H h => h.1) (fun q y => hA q y.1) (fun H H' h h1 h2 => by exact ⟨h1, h.2.out h2 (fun q y => Or.inl y.2)⟩) (st1 := [_]) rfl (k1 := 535) (n1 := 7107) rfl rfl ?_
  refine g_aload_n hF dL_law_165 166 rfl rfl ?_
  refine g_aload_n hF dL_law_166 167 rfl rfl ?_
  refine g_iload_n hF dL_law_167 168 rfl rfl ?_
  refine g_iconst hF (1) dL_law_168 169 rfl rfl ?_
  refine g_iadd hF dL_law_169 170 rfl ?_
  refine g_sld hF hX hbl hbA (hv 1 (by omega)) dL_law_170 171 rfl ?_
  refine g_aload_n hF dL_law_171 172 rfl rfl ?_
  refine g_iload_n hF dL_law_172 173 rfl rfl ?_
  refine g_iconst hF (2) dL_law_173 174 rfl rfl ?_
  refine g_iadd hF dL_law_174 175 rfl ?_
  refine g_sld hF hX hbl hbA (hv 2 (by omega)) dL_law_175 176 rfl ?_
  refine g_callX hF cv_L_22 hC2 dL_law_176 179 rfl (st := [_]) rfl rfl ⟨Nat.le_of_ble_eq_true rfl, Nat.le_of_ble_eq_true rfl⟩ ⟨Nat.le_of_ble_eq_true rfl, Nat.le_of_ble_eq_true rfl⟩ rfl (Nat.le_of_ble_eq_true rfl) 10 rfl (fun H h => h.2.ob) (Pr' := fun H => CS E z σ' H ∧ MS E (z + 524) σ' H) (fun H h => h.2) (fun q y => hA q (Nat.le_trans (Nat.le_add_right _ _) y.1)) (fun H H' h h1 h2 => by exact ⟨h.1.out h2 (fun q y => Or.inr y.1), h1⟩) (st1 := [_, _]) rfl (k1 := 535) (n1 := 7107) rfl rfl ?_
  refine g_icmp_eq hF dL_law_179 182 rfl 782 (by decide) (fun _ => ?_) (fun c => absurd (rfl) c)
  exact nxt
set_option maxRecDepth 100000 in
set_option maxHeartbeats 4000000 in
theorem lc_line {l : Launch} {E : Ev} {x : Cx} {z b L : Nat} {xs : Nat → Int32} {i : Int32} {σ σ' : AS} {r : Int32} (hF : fx E x RL cL_law (some .boolean) 4) (hX : va_X b L xs x.2.2.1 x.2.2.1.heap) (hbl : b < x.2.2.1.heap.size) (hbA : ¬ arx x b) (hA : ∀ q, z ≤ q → arx x q) (hv : ∀ k, k < 7 → vp_in (i + nI k) L) (hC1 : Ct l E yX9_line cX9_line 5 (some .int) (rm 6) [.ref z, .int (xs (i + nI 1).toNatClampNeg), .int (xs (i + nI 2).toNatClampNeg), .int (xs (i + nI 3).toNatClampNeg)] (CS E z σ) (rV (some (.int r)) (CS E z σ')) (rg z 524)) (hC2 : Ct l E yX10_line cX10_line 4 (some .int) (rm 6) [.ref (z + 524), .int (xs (i + nI 1).toNatClampNeg), .int (xs (i + nI 2).toNatClampNeg), .int (xs (i + nI 3).toNatClampNeg)] (MS E (z + 524) σ) (rV (some (.int r)) (MS E (z + 524) σ')) (rg (z + 524) 11)) (nxt : go l room_1 E x 535 7107 (fun H => CS E z σ' H ∧ MS E (z + 524) σ' H) [some (.ref b), some (.ref z), some (.ref (z + 524)), some (.int i)] 782 []) : go l room_1 E x 535 7107 (fun H => CS E z σ H ∧ MS E (z + 524) σ H) [some (.ref b), some (.ref z), some (.ref (z + 524)), some (.int i)] 184 [] := by
  refine g_aload_n hF dL_law_184 185 rfl rfl ?_
  refine g_aload_n hF dL_law_185 186 rfl rfl ?_
  refine g_iload_n hF dL_law_186 187 rfl rfl ?_
  refine g_iconst hF (1) dL_law_187 188 rfl rfl ?_
  refine g_iadd hF dL_law_188 189 rfl ?_
  refine g_sld hF hX hbl hbA (hv 1 (by omega)) dL_law_189 190 rfl ?_
  refine g_aload_n hF dL_law_190 191 rfl rfl ?_
  refine g_iload_n hF dL_law_191 192 rfl rfl ?_
  refine g_iconst hF (2) dL_law_192 193 rfl rfl ?_
  refine g_iadd hF dL_law_193 194 rfl ?_
  refine g_sld hF hX hbl hbA (hv 2 (by omega)) dL_law_194 195 rfl ?_
  refine g_aload_n hF dL_law_195 196 rfl rfl ?_
  refine g_iload_n hF dL_law_196 197 rfl rfl ?_
  refine g_iconst hF (3) dL_law_197 198 rfl rfl ?_
  refine g_iadd hF dL_law_198 199 rfl ?_
  refine g_sld hF hX hbl hbA (hv 3 (by omega)) dL_law_199 200 rfl ?_
  refine g_callX hF cv_L_23 hC1 dL_law_200 203 rfl (st := []) rfl rfl ⟨Nat.le_of_ble_eq_true rfl, Nat.le_of_ble_eq_true rfl⟩ ⟨Nat.le_of_ble_eq_true rfl, Nat.le_of_ble_eq_true rfl⟩ rfl (Nat.le_of_ble_eq_true rfl) 9 rfl (fun H h => ⟨_, h.1.ob⟩) (Pr' := fun H => CS E z σ' H ∧ MS E (z + 524) σ H) (fun H h => h.1) (fun q y => hA q y.1) (fun H H' h h1 h2 => by exact ⟨h1, h.2.out h2 (fun q y => Or.inl y.2)⟩) (st1 := [_]) rfl (k1 := 535) (n1 := 7107) rfl rfl ?_
  refine g_aload_n hF dL_law_203 204 rfl rfl ?_
  refine g_aload_n hF dL_law_204 205 rfl rfl ?_
  refine g_iload_n hF dL_law_205 206 rfl rfl ?_
  refine g_iconst hF (1) dL_law_206 207 rfl rfl ?_
  refine g_iadd hF dL_law_207 208 rfl ?_
  refine g_sld hF hX hbl hbA (hv 1 (by omega)) dL_law_208 209 rfl ?_
  refine g_aload_n hF dL_law_209 210 rfl rfl ?_
  refine g_iload_n hF dL_law_210 211 rfl rfl ?_
  refine g_iconst hF (2) dL_law_211 212 rfl rfl ?_
  refine g_iadd hF dL_law_212 213 rfl ?_
  refine g_sld hF hX hbl hbA (hv 2 (by omega)) dL_law_213 214 rfl ?_
  refine g_aload_n hF dL_law_214 215 rfl rfl ?_
  refine g_iload_n hF dL_law_215 216 rfl rfl ?_
  refine g_iconst hF (3) dL_law_216 217 rfl rfl ?_
  refine g_iadd hF dL_law_217 218 rfl ?_
  refine g_sld hF hX hbl hbA (hv 3 (by omega)) dL_law_218 219 rfl ?_
  refine g_callX hF cv_L_27 hC2 dL_law_219 222 rfl (st := [_]) rfl rfl ⟨Nat.le_of_ble_eq_true rfl, Nat.le_of_ble_eq_true rfl⟩ ⟨Nat.le_of_ble_eq_true rfl, Nat.le_of_ble_eq_true rfl⟩ rfl (Nat.le_of_ble_eq_true rfl) 10 rfl (fun H h => h.2.ob) (Pr' := fun H => CS E z σ' H ∧ MS E (z + 524) σ' H) (fun H h => h.2) (fun q y => hA q (Nat.le_trans (Nat.le_add_right _ _) y.1)) (fun H H' h h1 h2 => by exact ⟨h.1.out h2 (fun q y => Or.inr y.1), h1⟩) (st1 := [_, _]) rfl (k1 := 535) (n1 := 7107) rfl rfl ?_
  refine g_icmp_eq hF dL_law_222 225 rfl 782 (by decide) (fun _ => ?_) (fun c => absurd (rfl) c)
  exact nxt
set_option maxRecDepth 100000 in
set_option maxHeartbeats 4000000 in
theorem lc_build {l : Launch} {E : Ev} {x : Cx} {z b L : Nat} {xs : Nat → Int32} {i : Int32} {σ σ' : AS} {r : Int32} (hF : fx E x RL cL_law (some .boolean) 4) (hX : va_X b L xs x.2.2.1 x.2.2.1.heap) (hbl : b < x.2.2.1.heap.size) (hbA : ¬ arx x b) (hA : ∀ q, z ≤ q → arx x q) (hv : ∀ k, k < 7 → vp_in (i + nI k) L) (hC1 : Ct l E yX9_build cX9_build 3 (some .int) (rm 6) [.ref z, .int (xs (i + nI 1).toNatClampNeg)] (CS E z σ) (rV (some (.int r)) (CS E z σ')) (rg z 524)) (hC2 : Ct l E yX10_build cX10_build 3 (some .int) (rm 6) [.ref (z + 524), .int (xs (i + nI 1).toNatClampNeg)] (MS E (z + 524) σ) (rV (some (.int r)) (MS E (z + 524) σ')) (rg (z + 524) 11)) (nxt : go l room_1 E x 535 7107 (fun H => CS E z σ' H ∧ MS E (z + 524) σ' H) [some (.ref b), some (.ref z), some (.ref (z + 524)), some (.int i)] 782 []) : go l room_1 E x 535 7107 (fun H => CS E z σ H ∧ MS E (z + 524) σ H) [some (.ref b), some (.ref z), some (.ref (z + 524)), some (.int i)] 227 [] := by
  refine g_aload_n hF dL_law_227 228 rfl rfl ?_
  refine g_aload_n hF dL_law_228 229 rfl rfl ?_
  refine g_iload_n hF dL_law_229 230 rfl rfl ?_
  refine g_iconst hF (1) dL_law_230 231 rfl rfl ?_
  refine g_iadd hF dL_law_231 232 rfl ?_
  refine g_sld hF hX hbl hbA (hv 1 (by omega)) dL_law_232 233 rfl ?_
  refine g_callX hF cv_L_28 hC1 dL_law_233 236 rfl (st := []) rfl rfl ⟨Nat.le_of_ble_eq_true rfl, Nat.le_of_ble_eq_true rfl⟩ ⟨Nat.le_of_ble_eq_true rfl, Nat.le_of_ble_eq_true rfl⟩ rfl (Nat.le_of_ble_eq_true rfl) 9 rfl (fun H h => ⟨_, h.1.ob⟩) (Pr' := fun H => CS E z σ' H ∧ MS E (z + 524) σ H) (fun H h => h.1) (fun q y => hA q y.1) (fun H H' h h1 h2 => by exact ⟨h1, h.2.out h2 (fun q y => Or.inl y.2)⟩) (st1 := [_]) rfl (k1 := 535) (n1 := 7107) rfl rfl ?_
  refine g_aload_n hF dL_law_236 237 rfl rfl ?_
  refine g_aload_n hF dL_law_237 238 rfl rfl ?_
  refine g_iload_n hF dL_law_238 239 rfl rfl ?_
  refine g_iconst hF (1) dL_law_239 240 rfl rfl ?_
  refine g_iadd hF dL_law_240 241 rfl ?_
  refine g_sld hF hX hbl hbA (hv 1 (by omega)) dL_law_241 242 rfl ?_
  refine g_callX hF cv_L_31 hC2 dL_law_242 245 rfl (st := [_]) rfl rfl ⟨Nat.le_of_ble_eq_true rfl, Nat.le_of_ble_eq_true rfl⟩ ⟨Nat.le_of_ble_eq_true rfl, Nat.le_of_ble_eq_true rfl⟩ rfl (Nat.le_of_ble_eq_true rfl) 10 rfl (fun H h => h.2.ob) (Pr' := fun H => CS E z σ' H ∧ MS E (z + 524) σ' H) (fun H h => h.2) (fun q y => hA q (Nat.le_trans (Nat.le_add_right _ _) y.1)) (fun H H' h h1 h2 => by exact ⟨h.1.out h2 (fun q y => Or.inr y.1), h1⟩) (st1 := [_, _]) rfl (k1 := 535) (n1 := 7107) rfl rfl ?_
  refine g_icmp_eq hF dL_law_245 248 rfl 782 (by decide) (fun _ => ?_) (fun c => absurd (rfl) c)
  exact nxt
set_option maxRecDepth 100000 in
set_option maxHeartbeats 4000000 in
theorem lc_shape {l : Launch} {E : Ev} {x : Cx} {z b L : Nat} {xs : Nat → Int32} {i : Int32} {σ σ' : AS} {r : Int32} (hF : fx E x RL cL_law (some .boolean) 4) (hX : va_X b L xs x.2.2.1 x.2.2.1.heap) (hbl : b < x.2.2.1.heap.size) (hbA : ¬ arx x b) (hA : ∀ q, z ≤ q → arx x q) (hv : ∀ k, k < 7 → vp_in (i + nI k) L) (hC1 : Ct l E yX9_shape cX9_shape 9 (some .int) (rm 6) [.ref z, .int (xs (i + nI 1).toNatClampNeg), .int (xs (i + nI 2).toNatClampNeg), .int (xs (i + nI 3).toNatClampNeg), .int (xs (i + nI 4).toNatClampNeg), .int (xs (i + nI 5).toNatClampNeg), .int (xs (i + nI 6).toNatClampNeg)] (CS E z σ) (rV (some (.int r)) (CS E z σ')) (rg z 524)) (hC2 : Ct l E yX10_shape cX10_shape 8 (some .int) (rm 6) [.ref (z + 524), .int (xs (i + nI 1).toNatClampNeg), .int (xs (i + nI 2).toNatClampNeg), .int (xs (i + nI 3).toNatClampNeg), .int (xs (i + nI 4).toNatClampNeg), .int (xs (i + nI 5).toNatClampNeg), .int (xs (i + nI 6).toNatClampNeg)] (MS E (z + 524) σ) (rV (some (.int r)) (MS E (z + 524) σ')) (rg (z + 524) 11)) (nxt : go l room_1 E x 535 7107 (fun H => CS E z σ' H ∧ MS E (z + 524) σ' H) [some (.ref b), some (.ref z), some (.ref (z + 524)), some (.int i)] 782 []) : go l room_1 E x 535 7107 (fun H => CS E z σ H ∧ MS E (z + 524) σ H) [some (.ref b), some (.ref z), some (.ref (z + 524)), some (.int i)] 250 [] := by
  refine g_aload_n hF dL_law_250 251 rfl rfl ?_
  refine g_aload_n hF dL_law_251 252 rfl rfl ?_
  refine g_iload_n hF dL_law_252 253 rfl rfl ?_
  refine g_iconst hF (1) dL_law_253 254 rfl rfl ?_
  refine g_iadd hF dL_law_254 255 rfl ?_
  refine g_sld hF hX hbl hbA (hv 1 (by omega)) dL_law_255 256 rfl ?_
  refine g_aload_n hF dL_law_256 257 rfl rfl ?_
  refine g_iload_n hF dL_law_257 258 rfl rfl ?_
  refine g_iconst hF (2) dL_law_258 259 rfl rfl ?_
  refine g_iadd hF dL_law_259 260 rfl ?_
  refine g_sld hF hX hbl hbA (hv 2 (by omega)) dL_law_260 261 rfl ?_
  refine g_aload_n hF dL_law_261 262 rfl rfl ?_
  refine g_iload_n hF dL_law_262 263 rfl rfl ?_
  refine g_iconst hF (3) dL_law_263 264 rfl rfl ?_
  refine g_iadd hF dL_law_264 265 rfl ?_
  refine g_sld hF hX hbl hbA (hv 3 (by omega)) dL_law_265 266 rfl ?_
  refine g_aload_n hF dL_law_266 267 rfl rfl ?_
  refine g_iload_n hF dL_law_267 268 rfl rfl ?_
  refine g_iconst hF (4) dL_law_268 269 rfl rfl ?_
  refine g_iadd hF dL_law_269 270 rfl ?_
  refine g_sld hF hX hbl hbA (hv 4 (by omega)) dL_law_270 271 rfl ?_
  refine g_aload_n hF dL_law_271 272 rfl rfl ?_
  refine g_iload_n hF dL_law_272 273 rfl rfl ?_
  refine g_iconst hF (5) dL_law_273 274 rfl rfl ?_
  refine g_iadd hF dL_law_274 275 rfl ?_
  refine g_sld hF hX hbl hbA (hv 5 (by omega)) dL_law_275 276 rfl ?_
  refine g_aload_n hF dL_law_276 277 rfl rfl ?_
  refine g_iload_n hF dL_law_277 278 rfl rfl ?_
  refine g_bipush hF (6) dL_law_278 280 rfl rfl ?_
  refine g_iadd hF dL_law_280 281 rfl ?_
  refine g_sld hF hX hbl hbA (hv 6 (by omega)) dL_law_281 282 rfl ?_
  refine g_callX hF cv_L_32 hC1 dL_law_282 285 rfl (st := []) rfl rfl ⟨Nat.le_of_ble_eq_true rfl, Nat.le_of_ble_eq_true rfl⟩ ⟨Nat.le_of_ble_eq_true rfl, Nat.le_of_ble_eq_true rfl⟩ rfl (Nat.le_of_ble_eq_true rfl) 9 rfl (fun H h => ⟨_, h.1.ob⟩) (Pr' := fun H => CS E z σ' H ∧ MS E (z + 524) σ H) (fun H h => h.1) (fun q y => hA q y.1) (fun H H' h h1 h2 => by exact ⟨h1, h.2.out h2 (fun q y => Or.inl y.2)⟩) (st1 := [_]) rfl (k1 := 535) (n1 := 7107) rfl rfl ?_
  refine g_aload_n hF dL_law_285 286 rfl rfl ?_
  refine g_aload_n hF dL_law_286 287 rfl rfl ?_
  refine g_iload_n hF dL_law_287 288 rfl rfl ?_
  refine g_iconst hF (1) dL_law_288 289 rfl rfl ?_
  refine g_iadd hF dL_law_289 290 rfl ?_
  refine g_sld hF hX hbl hbA (hv 1 (by omega)) dL_law_290 291 rfl ?_
  refine g_aload_n hF dL_law_291 292 rfl rfl ?_
  refine g_iload_n hF dL_law_292 293 rfl rfl ?_
  refine g_iconst hF (2) dL_law_293 294 rfl rfl ?_
  refine g_iadd hF dL_law_294 295 rfl ?_
  refine g_sld hF hX hbl hbA (hv 2 (by omega)) dL_law_295 296 rfl ?_
  refine g_aload_n hF dL_law_296 297 rfl rfl ?_
  refine g_iload_n hF dL_law_297 298 rfl rfl ?_
  refine g_iconst hF (3) dL_law_298 299 rfl rfl ?_
  refine g_iadd hF dL_law_299 300 rfl ?_
  refine g_sld hF hX hbl hbA (hv 3 (by omega)) dL_law_300 301 rfl ?_
  refine g_aload_n hF dL_law_301 302 rfl rfl ?_
  refine g_iload_n hF dL_law_302 303 rfl rfl ?_
  refine g_iconst hF (4) dL_law_303 304 rfl rfl ?_
  refine g_iadd hF dL_law_304 305 rfl ?_
  refine g_sld hF hX hbl hbA (hv 4 (by omega)) dL_law_305 306 rfl ?_
  refine g_aload_n hF dL_law_306 307 rfl rfl ?_
  refine g_iload_n hF dL_law_307 308 rfl rfl ?_
  refine g_iconst hF (5) dL_law_308 309 rfl rfl ?_
  refine g_iadd hF dL_law_309 310 rfl ?_
  refine g_sld hF hX hbl hbA (hv 5 (by omega)) dL_law_310 311 rfl ?_
  refine g_aload_n hF dL_law_311 312 rfl rfl ?_
  refine g_iload_n hF dL_law_312 313 rfl rfl ?_
  refine g_bipush hF (6) dL_law_313 315 rfl rfl ?_
  refine g_iadd hF dL_law_315 316 rfl ?_
  refine g_sld hF hX hbl hbA (hv 6 (by omega)) dL_law_316 317 rfl ?_
  refine g_callX hF cv_L_36 hC2 dL_law_317 320 rfl (st := [_]) rfl rfl ⟨Nat.le_of_ble_eq_true rfl, Nat.le_of_ble_eq_true rfl⟩ ⟨Nat.le_of_ble_eq_true rfl, Nat.le_of_ble_eq_true rfl⟩ rfl (Nat.le_of_ble_eq_true rfl) 10 rfl (fun H h => h.2.ob) (Pr' := fun H => CS E z σ' H ∧ MS E (z + 524) σ' H) (fun H h => h.2) (fun q y => hA q (Nat.le_trans (Nat.le_add_right _ _) y.1)) (fun H H' h h1 h2 => by exact ⟨h.1.out h2 (fun q y => Or.inr y.1), h1⟩) (st1 := [_, _]) rfl (k1 := 535) (n1 := 7107) rfl rfl ?_
  refine g_icmp_eq hF dL_law_320 323 rfl 782 (by decide) (fun _ => ?_) (fun c => absurd (rfl) c)
  exact nxt
set_option maxRecDepth 100000 in
set_option maxHeartbeats 4000000 in
theorem lc_call {l : Launch} {E : Ev} {x : Cx} {z b L : Nat} {xs : Nat → Int32} {i : Int32} {σ σ' : AS} {r : Int32} (hF : fx E x RL cL_law (some .boolean) 4) (hX : va_X b L xs x.2.2.1 x.2.2.1.heap) (hbl : b < x.2.2.1.heap.size) (hbA : ¬ arx x b) (hA : ∀ q, z ≤ q → arx x q) (hv : ∀ k, k < 7 → vp_in (i + nI k) L) (hC1 : Ct l E yX9_call cX9_call 2 (some .int) (rm 6) [.ref z, .int (xs (i + nI 1).toNatClampNeg)] (CS E z σ) (rV (some (.int r)) (CS E z σ')) (rg z 524)) (hC2 : Ct l E yX10_call cX10_call 2 (some .int) (rm 7) [.ref (z + 524), .int (xs (i + nI 1).toNatClampNeg)] (MS E (z + 524) σ) (rV (some (.int r)) (MS E (z + 524) σ')) (rg (z + 524) 11)) (nxt : go l room_1 E x 535 7107 (fun H => CS E z σ' H ∧ MS E (z + 524) σ' H) [some (.ref b), some (.ref z), some (.ref (z + 524)), some (.int i)] 782 []) : go l room_1 E x 535 7107 (fun H => CS E z σ H ∧ MS E (z + 524) σ H) [some (.ref b), some (.ref z), some (.ref (z + 524)), some (.int i)] 325 [] := by
  refine g_aload_n hF dL_law_325 326 rfl rfl ?_
  refine g_aload_n hF dL_law_326 327 rfl rfl ?_
  refine g_iload_n hF dL_law_327 328 rfl rfl ?_
  refine g_iconst hF (1) dL_law_328 329 rfl rfl ?_
  refine g_iadd hF dL_law_329 330 rfl ?_
  refine g_sld hF hX hbl hbA (hv 1 (by omega)) dL_law_330 331 rfl ?_
  refine g_callX hF cv_L_37 hC1 dL_law_331 334 rfl (st := []) rfl rfl ⟨Nat.le_of_ble_eq_true rfl, Nat.le_of_ble_eq_true rfl⟩ ⟨Nat.le_of_ble_eq_true rfl, Nat.le_of_ble_eq_true rfl⟩ rfl (Nat.le_of_ble_eq_true rfl) 9 rfl (fun H h => ⟨_, h.1.ob⟩) (Pr' := fun H => CS E z σ' H ∧ MS E (z + 524) σ H) (fun H h => h.1) (fun q y => hA q y.1) (fun H H' h h1 h2 => by exact ⟨h1, h.2.out h2 (fun q y => Or.inl y.2)⟩) (st1 := [_]) rfl (k1 := 535) (n1 := 7107) rfl rfl ?_
  refine g_aload_n hF dL_law_334 335 rfl rfl ?_
  refine g_aload_n hF dL_law_335 336 rfl rfl ?_
  refine g_iload_n hF dL_law_336 337 rfl rfl ?_
  refine g_iconst hF (1) dL_law_337 338 rfl rfl ?_
  refine g_iadd hF dL_law_338 339 rfl ?_
  refine g_sld hF hX hbl hbA (hv 1 (by omega)) dL_law_339 340 rfl ?_
  refine g_callX hF cv_L_40 hC2 dL_law_340 343 rfl (st := [_]) rfl rfl ⟨Nat.le_of_ble_eq_true rfl, Nat.le_of_ble_eq_true rfl⟩ ⟨Nat.le_of_ble_eq_true rfl, Nat.le_of_ble_eq_true rfl⟩ rfl (Nat.le_of_ble_eq_true rfl) 10 rfl (fun H h => h.2.ob) (Pr' := fun H => CS E z σ' H ∧ MS E (z + 524) σ' H) (fun H h => h.2) (fun q y => hA q (Nat.le_trans (Nat.le_add_right _ _) y.1)) (fun H H' h h1 h2 => by exact ⟨h.1.out h2 (fun q y => Or.inr y.1), h1⟩) (st1 := [_, _]) rfl (k1 := 535) (n1 := 7107) rfl rfl ?_
  refine g_icmp_eq hF dL_law_343 346 rfl 782 (by decide) (fun _ => ?_) (fun c => absurd (rfl) c)
  exact nxt
set_option maxRecDepth 100000 in
set_option maxHeartbeats 4000000 in
theorem lc_end {l : Launch} {E : Ev} {x : Cx} {z b L : Nat} {xs : Nat → Int32} {i : Int32} {σ σ' : AS} {r : Int32} (hF : fx E x RL cL_law (some .boolean) 4) (hX : va_X b L xs x.2.2.1 x.2.2.1.heap) (hbl : b < x.2.2.1.heap.size) (hbA : ¬ arx x b) (hA : ∀ q, z ≤ q → arx x q) (hv : ∀ k, k < 7 → vp_in (i + nI k) L) (hC1 : Ct l E yX9_end cX9_end 4 (some .int) (rm 6) [.ref z, .int (xs (i + nI 1).toNatClampNeg), .int (xs (i + nI 2).toNatClampNeg)] (CS E z σ) (rV (some (.int r)) (CS E z σ')) (rg z 524)) (hC2 : Ct l E yX10_end cX10_end 3 (some .int) (rm 6) [.ref (z + 524), .int (xs (i + nI 1).toNatClampNeg), .int (xs (i + nI 2).toNatClampNeg)] (MS E (z + 524) σ) (rV (some (.int r)) (MS E (z + 524) σ')) (rg (z + 524) 11)) (nxt : go l room_1 E x 535 7107 (fun H => CS E z σ' H ∧ MS E (z + 524) σ' H) [some (.ref b), some (.ref z), some (.ref (z + 524)), some (.int i)] 782 []) : go l room_1 E x 535 7107 (fun H => CS E z σ H ∧ MS E (z + 524) σ H) [some (.ref b), some (.ref z), some (.ref (z + 524)), some (.int i)] 348 [] := by
  refine g_aload_n hF dL_law_348 349 rfl rfl ?_
  refine g_aload_n hF dL_law_349 350 rfl rfl ?_
  refine g_iload_n hF dL_law_350 351 rfl rfl ?_
  refine g_iconst hF (1) dL_law_351 352 rfl rfl ?_
  refine g_iadd hF dL_law_352 353 rfl ?_
  refine g_sld hF hX hbl hbA (hv 1 (by omega)) dL_law_353 354 rfl ?_
  refine g_aload_n hF dL_law_354 355 rfl rfl ?_
  refine g_iload_n hF dL_law_355 356 rfl rfl ?_
  refine g_iconst hF (2) dL_law_356 357 rfl rfl ?_
  refine g_iadd hF dL_law_357 358 rfl ?_
  refine g_sld hF hX hbl hbA (hv 2 (by omega)) dL_law_358 359 rfl ?_
  refine g_callX hF cv_L_41 hC1 dL_law_359 362 rfl (st := []) rfl rfl ⟨Nat.le_of_ble_eq_true rfl, Nat.le_of_ble_eq_true rfl⟩ ⟨Nat.le_of_ble_eq_true rfl, Nat.le_of_ble_eq_true rfl⟩ rfl (Nat.le_of_ble_eq_true rfl) 9 rfl (fun H h => ⟨_, h.1.ob⟩) (Pr' := fun H => CS E z σ' H ∧ MS E (z + 524) σ H) (fun H h => h.1) (fun q y => hA q y.1) (fun H H' h h1 h2 => by exact ⟨h1, h.2.out h2 (fun q y => Or.inl y.2)⟩) (st1 := [_]) rfl (k1 := 535) (n1 := 7107) rfl rfl ?_
  refine g_aload_n hF dL_law_362 363 rfl rfl ?_
  refine g_aload_n hF dL_law_363 364 rfl rfl ?_
  refine g_iload_n hF dL_law_364 365 rfl rfl ?_
  refine g_iconst hF (1) dL_law_365 366 rfl rfl ?_
  refine g_iadd hF dL_law_366 367 rfl ?_
  refine g_sld hF hX hbl hbA (hv 1 (by omega)) dL_law_367 368 rfl ?_
  refine g_aload_n hF dL_law_368 369 rfl rfl ?_
  refine g_iload_n hF dL_law_369 370 rfl rfl ?_
  refine g_iconst hF (2) dL_law_370 371 rfl rfl ?_
  refine g_iadd hF dL_law_371 372 rfl ?_
  refine g_sld hF hX hbl hbA (hv 2 (by omega)) dL_law_372 373 rfl ?_
  refine g_callX hF cv_L_44 hC2 dL_law_373 376 rfl (st := [_]) rfl rfl ⟨Nat.le_of_ble_eq_true rfl, Nat.le_of_ble_eq_true rfl⟩ ⟨Nat.le_of_ble_eq_true rfl, Nat.le_of_ble_eq_true rfl⟩ rfl (Nat.le_of_ble_eq_true rfl) 10 rfl (fun H h => h.2.ob) (Pr' := fun H => CS E z σ' H ∧ MS E (z + 524) σ' H) (fun H h => h.2) (fun q y => hA q (Nat.le_trans (Nat.le_add_right _ _) y.1)) (fun H H' h h1 h2 => by exact ⟨h.1.out h2 (fun q y => Or.inr y.1), h1⟩) (st1 := [_, _]) rfl (k1 := 535) (n1 := 7107) rfl rfl ?_
  refine g_icmp_eq hF dL_law_376 379 rfl 782 (by decide) (fun _ => ?_) (fun c => absurd (rfl) c)
  exact nxt
set_option maxRecDepth 100000 in
set_option maxHeartbeats 4000000 in
theorem lc_damage {l : Launch} {E : Ev} {x : Cx} {z b L : Nat} {xs : Nat → Int32} {i : Int32} {σ σ' : AS} {r : Int32} (hF : fx E x RL cL_law (some .boolean) 4) (hX : va_X b L xs x.2.2.1 x.2.2.1.heap) (hbl : b < x.2.2.1.heap.size) (hbA : ¬ arx x b) (hA : ∀ q, z ≤ q → arx x q) (hv : ∀ k, k < 7 → vp_in (i + nI k) L) (hC1 : Ct l E yX9_damage cX9_damage 4 (some .int) (rm 6) [.ref z, .int (xs (i + nI 1).toNatClampNeg), .int (xs (i + nI 2).toNatClampNeg)] (CS E z σ) (rV (some (.int r)) (CS E z σ')) (rg z 524)) (hC2 : Ct l E yX10_damage cX10_damage 5 (some .int) (rm 6) [.ref (z + 524), .int (xs (i + nI 1).toNatClampNeg), .int (xs (i + nI 2).toNatClampNeg)] (MS E (z + 524) σ) (rV (some (.int r)) (MS E (z + 524) σ')) (rg (z + 524) 11)) (nxt : go l room_1 E x 535 7107 (fun H => CS E z σ' H ∧ MS E (z + 524) σ' H) [some (.ref b), some (.ref z), some (.ref (z + 524)), some (.int i)] 782 []) : go l room_1 E x 535 7107 (fun H => CS E z σ H ∧ MS E (z + 524) σ H) [some (.ref b), some (.ref z), some (.ref (z + 524)), some (.int i)] 381 [] := by
  refine g_aload_n hF dL_law_381 382 rfl rfl ?_
  refine g_aload_n hF dL_law_382 383 rfl rfl ?_
  refine g_iload_n hF dL_law_383 384 rfl rfl ?_
  refine g_iconst hF (1) dL_law_384 385 rfl rfl ?_
  refine g_iadd hF dL_law_385 386 rfl ?_
  refine g_sld hF hX hbl hbA (hv 1 (by omega)) dL_law_386 387 rfl ?_
  refine g_aload_n hF dL_law_387 388 rfl rfl ?_
  refine g_iload_n hF dL_law_388 389 rfl rfl ?_
  refine g_iconst hF (2) dL_law_389 390 rfl rfl ?_
  refine g_iadd hF dL_law_390 391 rfl ?_
  refine g_sld hF hX hbl hbA (hv 2 (by omega)) dL_law_391 392 rfl ?_
  refine g_callX hF cv_L_45 hC1 dL_law_392 395 rfl (st := []) rfl rfl ⟨Nat.le_of_ble_eq_true rfl, Nat.le_of_ble_eq_true rfl⟩ ⟨Nat.le_of_ble_eq_true rfl, Nat.le_of_ble_eq_true rfl⟩ rfl (Nat.le_of_ble_eq_true rfl) 9 rfl (fun H h => ⟨_, h.1.ob⟩) (Pr' := fun H => CS E z σ' H ∧ MS E (z + 524) σ H) (fun H h => h.1) (fun q y => hA q y.1) (fun H H' h h1 h2 => by exact ⟨h1, h.2.out h2 (fun q y => Or.inl y.2)⟩) (st1 := [_]) rfl (k1 := 535) (n1 := 7107) rfl rfl ?_
  refine g_aload_n hF dL_law_395 396 rfl rfl ?_
  refine g_aload_n hF dL_law_396 397 rfl rfl ?_
  refine g_iload_n hF dL_law_397 398 rfl rfl ?_
  refine g_iconst hF (1) dL_law_398 399 rfl rfl ?_
  refine g_iadd hF dL_law_399 400 rfl ?_
  refine g_sld hF hX hbl hbA (hv 1 (by omega)) dL_law_400 401 rfl ?_
  refine g_aload_n hF dL_law_401 402 rfl rfl ?_
  refine g_iload_n hF dL_law_402 403 rfl rfl ?_
  refine g_iconst hF (2) dL_law_403 404 rfl rfl ?_
  refine g_iadd hF dL_law_404 405 rfl ?_
  refine g_sld hF hX hbl hbA (hv 2 (by omega)) dL_law_405 406 rfl ?_
  refine g_callX hF cv_L_48 hC2 dL_law_406 409 rfl (st := [_]) rfl rfl ⟨Nat.le_of_ble_eq_true rfl, Nat.le_of_ble_eq_true rfl⟩ ⟨Nat.le_of_ble_eq_true rfl, Nat.le_of_ble_eq_true rfl⟩ rfl (Nat.le_of_ble_eq_true rfl) 10 rfl (fun H h => h.2.ob) (Pr' := fun H => CS E z σ' H ∧ MS E (z + 524) σ' H) (fun H h => h.2) (fun q y => hA q (Nat.le_trans (Nat.le_add_right _ _) y.1)) (fun H H' h h1 h2 => by exact ⟨h.1.out h2 (fun q y => Or.inr y.1), h1⟩) (st1 := [_, _]) rfl (k1 := 535) (n1 := 7107) rfl rfl ?_
  refine g_icmp_eq hF dL_law_409 412 rfl 782 (by decide) (fun _ => ?_) (fun c => absurd (rfl) c)
  exact nxt
set_option maxRecDepth 100000 in
set_option maxHeartbeats 4000000 in
theorem lc_mend {l : Launch} {E : Ev} {x : Cx} {z b L : Nat} {xs : Nat → Int32} {i : Int32} {σ σ' : AS} {r : Int32} (hF : fx E x RL cL_law (some .boolean) 4) (hX : va_X b L xs x.2.2.1 x.2.2.1.heap) (hbl : b < x.2.2.1.heap.size) (hbA : ¬ arx x b) (hA : ∀ q, z ≤ q → arx x q) (hv : ∀ k, k < 7 → vp_in (i + nI k) L) (hC1 : Ct l E yX9_mend cX9_mend 4 (some .int) (rm 6) [.ref z, .int (xs (i + nI 1).toNatClampNeg), .int (xs (i + nI 2).toNatClampNeg)] (CS E z σ) (rV (some (.int r)) (CS E z σ')) (rg z 524)) (hC2 : Ct l E yX10_mend cX10_mend 3 (some .int) (rm 6) [.ref (z + 524), .int (xs (i + nI 1).toNatClampNeg), .int (xs (i + nI 2).toNatClampNeg)] (MS E (z + 524) σ) (rV (some (.int r)) (MS E (z + 524) σ')) (rg (z + 524) 11)) (nxt : go l room_1 E x 535 7107 (fun H => CS E z σ' H ∧ MS E (z + 524) σ' H) [some (.ref b), some (.ref z), some (.ref (z + 524)), some (.int i)] 782 []) : go l room_1 E x 535 7107 (fun H => CS E z σ H ∧ MS E (z + 524) σ H) [some (.ref b), some (.ref z), some (.ref (z + 524)), some (.int i)] 414 [] := by
  refine g_aload_n hF dL_law_414 415 rfl rfl ?_
  refine g_aload_n hF dL_law_415 416 rfl rfl ?_
  refine g_iload_n hF dL_law_416 417 rfl rfl ?_
  refine g_iconst hF (1) dL_law_417 418 rfl rfl ?_
  refine g_iadd hF dL_law_418 419 rfl ?_
  refine g_sld hF hX hbl hbA (hv 1 (by omega)) dL_law_419 420 rfl ?_
  refine g_aload_n hF dL_law_420 421 rfl rfl ?_
  refine g_iload_n hF dL_law_421 422 rfl rfl ?_
  refine g_iconst hF (2) dL_law_422 423 rfl rfl ?_
  refine g_iadd hF dL_law_423 424 rfl ?_
  refine g_sld hF hX hbl hbA (hv 2 (by omega)) dL_law_424 425 rfl ?_
  refine g_callX hF cv_L_49 hC1 dL_law_425 428 rfl (st := []) rfl rfl ⟨Nat.le_of_ble_eq_true rfl, Nat.le_of_ble_eq_true rfl⟩ ⟨Nat.le_of_ble_eq_true rfl, Nat.le_of_ble_eq_true rfl⟩ rfl (Nat.le_of_ble_eq_true rfl) 9 rfl (fun H h => ⟨_, h.1.ob⟩) (Pr' := fun H => CS E z σ' H ∧ MS E (z + 524) σ H) (fun H h => h.1) (fun q y => hA q y.1) (fun H H' h h1 h2 => by exact ⟨h1, h.2.out h2 (fun q y => Or.inl y.2)⟩) (st1 := [_]) rfl (k1 := 535) (n1 := 7107) rfl rfl ?_
  refine g_aload_n hF dL_law_428 429 rfl rfl ?_
  refine g_aload_n hF dL_law_429 430 rfl rfl ?_
  refine g_iload_n hF dL_law_430 431 rfl rfl ?_
  refine g_iconst hF (1) dL_law_431 432 rfl rfl ?_
  refine g_iadd hF dL_law_432 433 rfl ?_
  refine g_sld hF hX hbl hbA (hv 1 (by omega)) dL_law_433 434 rfl ?_
  refine g_aload_n hF dL_law_434 435 rfl rfl ?_
  refine g_iload_n hF dL_law_435 436 rfl rfl ?_
  refine g_iconst hF (2) dL_law_436 437 rfl rfl ?_
  refine g_iadd hF dL_law_437 438 rfl ?_
  refine g_sld hF hX hbl hbA (hv 2 (by omega)) dL_law_438 439 rfl ?_
  refine g_callX hF cv_L_52 hC2 dL_law_439 442 rfl (st := [_]) rfl rfl ⟨Nat.le_of_ble_eq_true rfl, Nat.le_of_ble_eq_true rfl⟩ ⟨Nat.le_of_ble_eq_true rfl, Nat.le_of_ble_eq_true rfl⟩ rfl (Nat.le_of_ble_eq_true rfl) 10 rfl (fun H h => h.2.ob) (Pr' := fun H => CS E z σ' H ∧ MS E (z + 524) σ' H) (fun H h => h.2) (fun q y => hA q (Nat.le_trans (Nat.le_add_right _ _) y.1)) (fun H H' h h1 h2 => by exact ⟨h.1.out h2 (fun q y => Or.inr y.1), h1⟩) (st1 := [_, _]) rfl (k1 := 535) (n1 := 7107) rfl rfl ?_
  refine g_icmp_eq hF dL_law_442 445 rfl 782 (by decide) (fun _ => ?_) (fun c => absurd (rfl) c)
  exact nxt
set_option maxRecDepth 100000 in
set_option maxHeartbeats 4000000 in
theorem lc_drift {l : Launch} {E : Ev} {x : Cx} {z b L : Nat} {xs : Nat → Int32} {i : Int32} {σ σ' : AS} {r : Int32} (hF : fx E x RL cL_law (some .boolean) 4) (hX : va_X b L xs x.2.2.1 x.2.2.1.heap) (hbl : b < x.2.2.1.heap.size) (hbA : ¬ arx x b) (hA : ∀ q, z ≤ q → arx x q) (hv : ∀ k, k < 7 → vp_in (i + nI k) L) (hC1 : Ct l E yX9_drift cX9_drift 3 (some .int) (rm 7) [.ref z, .int (xs (i + nI 1).toNatClampNeg)] (CS E z σ) (rV (some (.int r)) (CS E z σ')) (rg z 524)) (hC2 : Ct l E yX10_drift cX10_drift 6 (some .int) (rm 7) [.ref (z + 524), .int (xs (i + nI 1).toNatClampNeg)] (MS E (z + 524) σ) (rV (some (.int r)) (MS E (z + 524) σ')) (rg (z + 524) 11)) (nxt : go l room_1 E x 535 7107 (fun H => CS E z σ' H ∧ MS E (z + 524) σ' H) [some (.ref b), some (.ref z), some (.ref (z + 524)), some (.int i)] 782 []) : go l room_1 E x 535 7107 (fun H => CS E z σ H ∧ MS E (z + 524) σ H) [some (.ref b), some (.ref z), some (.ref (z + 524)), some (.int i)] 447 [] := by
  refine g_aload_n hF dL_law_447 448 rfl rfl ?_
  refine g_aload_n hF dL_law_448 449 rfl rfl ?_
  refine g_iload_n hF dL_law_449 450 rfl rfl ?_
  refine g_iconst hF (1) dL_law_450 451 rfl rfl ?_
  refine g_iadd hF dL_law_451 452 rfl ?_
  refine g_sld hF hX hbl hbA (hv 1 (by omega)) dL_law_452 453 rfl ?_
  refine g_callX hF cv_L_53 hC1 dL_law_453 456 rfl (st := []) rfl rfl ⟨Nat.le_of_ble_eq_true rfl, Nat.le_of_ble_eq_true rfl⟩ ⟨Nat.le_of_ble_eq_true rfl, Nat.le_of_ble_eq_true rfl⟩ rfl (Nat.le_of_ble_eq_true rfl) 9 rfl (fun H h => ⟨_, h.1.ob⟩) (Pr' := fun H => CS E z σ' H ∧ MS E (z + 524) σ H) (fun H h => h.1) (fun q y => hA q y.1) (fun H H' h h1 h2 => by exact ⟨h1, h.2.out h2 (fun q y => Or.inl y.2)⟩) (st1 := [_]) rfl (k1 := 535) (n1 := 7107) rfl rfl ?_
  refine g_aload_n hF dL_law_456 457 rfl rfl ?_
  refine g_aload_n hF dL_law_457 458 rfl rfl ?_
  refine g_iload_n hF dL_law_458 459 rfl rfl ?_
  refine g_iconst hF (1) dL_law_459 460 rfl rfl ?_
  refine g_iadd hF dL_law_460 461 rfl ?_
  refine g_sld hF hX hbl hbA (hv 1 (by omega)) dL_law_461 462 rfl ?_
  refine g_callX hF cv_L_56 hC2 dL_law_462 465 rfl (st := [_]) rfl rfl ⟨Nat.le_of_ble_eq_true rfl, Nat.le_of_ble_eq_true rfl⟩ ⟨Nat.le_of_ble_eq_true rfl, Nat.le_of_ble_eq_true rfl⟩ rfl (Nat.le_of_ble_eq_true rfl) 10 rfl (fun H h => h.2.ob) (Pr' := fun H => CS E z σ' H ∧ MS E (z + 524) σ' H) (fun H h => h.2) (fun q y => hA q (Nat.le_trans (Nat.le_add_right _ _) y.1)) (fun H H' h h1 h2 => by exact ⟨h.1.out h2 (fun q y => Or.inr y.1), h1⟩) (st1 := [_, _]) rfl (k1 := 535) (n1 := 7107) rfl rfl ?_
  refine g_icmp_eq hF dL_law_465 468 rfl 782 (by decide) (fun _ => ?_) (fun c => absurd (rfl) c)
  exact nxt
