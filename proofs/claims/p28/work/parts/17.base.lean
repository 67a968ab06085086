/-! what the fresh heap holds -/
set_option maxRecDepth 10000 in
theorem r_0_0 : eR e2 0 0 = some 1 := by decide +kernel
set_option maxRecDepth 10000 in
theorem r_0_1 : eR e2 0 1 = some 146 := by decide +kernel
set_option maxRecDepth 10000 in
theorem r_0_2 : eR e2 0 2 = some 291 := by decide +kernel
set_option maxRecDepth 10000 in
theorem r_0_3 : eR e2 0 3 = some 332 := by decide +kernel
set_option maxRecDepth 10000 in
theorem r_0_4 : eR e2 0 4 = some 338 := by decide +kernel
set_option maxRecDepth 10000 in
theorem r_0_5 : eR e2 0 5 = some 339 := by decide +kernel
set_option maxRecDepth 10000 in
theorem r_0_6 : eR e2 0 6 = some 342 := by decide +kernel
set_option maxRecDepth 10000 in
theorem r_0_7 : eR e2 0 7 = some 343 := by decide +kernel
set_option maxRecDepth 10000 in
theorem r_0_8 : eR e2 0 8 = some 349 := by decide +kernel
set_option maxRecDepth 10000 in
theorem r_0_9 : eR e2 0 9 = some 354 := by decide +kernel
set_option maxRecDepth 10000 in
theorem r_10_4 : eR e2 10 4 = some 11 := by decide +kernel
set_option maxRecDepth 10000 in
theorem r_10_5 : eR e2 10 5 = some 12 := by decide +kernel
set_option maxRecDepth 10000 in
theorem r_10_6 : eR e2 10 6 = some 13 := by decide +kernel
set_option maxRecDepth 10000 in
theorem r_136_0 : eR e2 136 0 = some 137 := by decide +kernel
set_option maxRecDepth 10000 in
theorem r_136_1 : eR e2 136 1 = some 138 := by decide +kernel
set_option maxRecDepth 10000 in
theorem r_136_2 : eR e2 136 2 = some 139 := by decide +kernel
set_option maxRecDepth 10000 in
theorem r_136_3 : eR e2 136 3 = some 140 := by decide +kernel
set_option maxRecDepth 10000 in
theorem r_146_0 : eR e2 146 0 = some 147 := by decide +kernel
set_option maxRecDepth 10000 in
theorem r_146_1 : eR e2 146 1 = some 155 := by decide +kernel
set_option maxRecDepth 10000 in
theorem r_146_10 : eR e2 146 10 = some 288 := by decide +kernel
set_option maxRecDepth 10000 in
theorem r_146_11 : eR e2 146 11 = some 289 := by decide +kernel
set_option maxRecDepth 10000 in
theorem r_146_12 : eR e2 146 12 = some 290 := by decide +kernel
set_option maxRecDepth 10000 in
theorem r_146_2 : eR e2 146 2 = some 159 := by decide +kernel
set_option maxRecDepth 10000 in
theorem r_146_3 : eR e2 146 3 = some 281 := by decide +kernel
set_option maxRecDepth 10000 in
theorem r_146_4 : eR e2 146 4 = some 286 := by decide +kernel
set_option maxRecDepth 10000 in
theorem r_146_8 : eR e2 146 8 = some 287 := by decide +kernel
set_option maxRecDepth 10000 in
theorem r_147_2 : eR e2 147 2 = some 148 := by decide +kernel
set_option maxRecDepth 10000 in
theorem r_147_3 : eR e2 147 3 = some 149 := by decide +kernel
set_option maxRecDepth 10000 in
theorem r_147_4 : eR e2 147 4 = some 150 := by decide +kernel
set_option maxRecDepth 10000 in
theorem r_147_5 : eR e2 147 5 = some 151 := by decide +kernel
set_option maxRecDepth 10000 in
theorem r_147_6 : eR e2 147 6 = some 152 := by decide +kernel
set_option maxRecDepth 10000 in
theorem r_147_7 : eR e2 147 7 = some 153 := by decide +kernel
set_option maxRecDepth 10000 in
theorem r_147_8 : eR e2 147 8 = some 154 := by decide +kernel
set_option maxRecDepth 10000 in
theorem r_14_2 : eR e2 14 2 = some 15 := by decide +kernel
set_option maxRecDepth 10000 in
theorem r_155_4 : eR e2 155 4 = some 156 := by decide +kernel
set_option maxRecDepth 10000 in
theorem r_155_5 : eR e2 155 5 = some 157 := by decide +kernel
set_option maxRecDepth 10000 in
theorem r_155_6 : eR e2 155 6 = some 158 := by decide +kernel
set_option maxRecDepth 10000 in
theorem r_159_2 : eR e2 159 2 = some 160 := by decide +kernel
set_option maxRecDepth 10000 in
theorem r_1_0 : eR e2 1 0 = some 2 := by decide +kernel
set_option maxRecDepth 10000 in
theorem r_1_1 : eR e2 1 1 = some 10 := by decide +kernel
set_option maxRecDepth 10000 in
theorem r_1_10 : eR e2 1 10 = some 143 := by decide +kernel
set_option maxRecDepth 10000 in
theorem r_1_11 : eR e2 1 11 = some 144 := by decide +kernel
set_option maxRecDepth 10000 in
theorem r_1_12 : eR e2 1 12 = some 145 := by decide +kernel
set_option maxRecDepth 10000 in
theorem r_1_2 : eR e2 1 2 = some 14 := by decide +kernel
set_option maxRecDepth 10000 in
theorem r_1_3 : eR e2 1 3 = some 136 := by decide +kernel
set_option maxRecDepth 10000 in
theorem r_1_4 : eR e2 1 4 = some 141 := by decide +kernel
set_option maxRecDepth 10000 in
theorem r_1_8 : eR e2 1 8 = some 142 := by decide +kernel
set_option maxRecDepth 10000 in
theorem r_281_0 : eR e2 281 0 = some 282 := by decide +kernel
set_option maxRecDepth 10000 in
theorem r_281_1 : eR e2 281 1 = some 283 := by decide +kernel
set_option maxRecDepth 10000 in
theorem r_281_2 : eR e2 281 2 = some 284 := by decide +kernel
set_option maxRecDepth 10000 in
theorem r_281_3 : eR e2 281 3 = some 285 := by decide +kernel
set_option maxRecDepth 10000 in
theorem r_2_2 : eR e2 2 2 = some 3 := by decide +kernel
set_option maxRecDepth 10000 in
theorem r_2_3 : eR e2 2 3 = some 4 := by decide +kernel
set_option maxRecDepth 10000 in
theorem r_2_4 : eR e2 2 4 = some 5 := by decide +kernel
set_option maxRecDepth 10000 in
theorem r_2_5 : eR e2 2 5 = some 6 := by decide +kernel
set_option maxRecDepth 10000 in
theorem r_2_6 : eR e2 2 6 = some 7 := by decide +kernel
set_option maxRecDepth 10000 in
theorem r_2_7 : eR e2 2 7 = some 8 := by decide +kernel
set_option maxRecDepth 10000 in
theorem r_2_8 : eR e2 2 8 = some 9 := by decide +kernel
set_option maxRecDepth 10000 in
theorem r_332_1 : eR e2 332 1 = some 333 := by decide +kernel
set_option maxRecDepth 10000 in
theorem r_332_3 : eR e2 332 3 = some 334 := by decide +kernel
set_option maxRecDepth 10000 in
theorem r_332_4 : eR e2 332 4 = some 335 := by decide +kernel
set_option maxRecDepth 10000 in
theorem r_332_5 : eR e2 332 5 = some 336 := by decide +kernel
set_option maxRecDepth 10000 in
theorem r_332_6 : eR e2 332 6 = some 337 := by decide +kernel
set_option maxRecDepth 10000 in
theorem r_338_0 : eR e2 338 0 = some 332 := by decide +kernel
set_option maxRecDepth 10000 in
theorem r_339_0 : eR e2 339 0 = some 1 := by decide +kernel
set_option maxRecDepth 10000 in
theorem r_339_1 : eR e2 339 1 = some 291 := by decide +kernel
set_option maxRecDepth 10000 in
theorem r_339_2 : eR e2 339 2 = some 340 := by decide +kernel
set_option maxRecDepth 10000 in
theorem r_339_3 : eR e2 339 3 = some 341 := by decide +kernel
set_option maxRecDepth 10000 in
theorem r_342_0 : eR e2 342 0 = some 1 := by decide +kernel
set_option maxRecDepth 10000 in
theorem r_342_1 : eR e2 342 1 = some 10 := by decide +kernel
set_option maxRecDepth 10000 in
theorem r_342_2 : eR e2 342 2 = some 339 := by decide +kernel
set_option maxRecDepth 10000 in
theorem r_343_0 : eR e2 343 0 = some 1 := by decide +kernel
set_option maxRecDepth 10000 in
theorem r_343_1 : eR e2 343 1 = some 344 := by decide +kernel
set_option maxRecDepth 10000 in
theorem r_343_2 : eR e2 343 2 = some 345 := by decide +kernel
set_option maxRecDepth 10000 in
theorem r_343_3 : eR e2 343 3 = some 346 := by decide +kernel
set_option maxRecDepth 10000 in
theorem r_343_5 : eR e2 343 5 = some 347 := by decide +kernel
set_option maxRecDepth 10000 in
theorem r_343_6 : eR e2 343 6 = some 348 := by decide +kernel
set_option maxRecDepth 10000 in
theorem r_349_0 : eR e2 349 0 = some 1 := by decide +kernel
set_option maxRecDepth 10000 in
theorem r_349_1 : eR e2 349 1 = some 350 := by decide +kernel
set_option maxRecDepth 10000 in
theorem r_349_2 : eR e2 349 2 = some 351 := by decide +kernel
set_option maxRecDepth 10000 in
theorem r_349_3 : eR e2 349 3 = some 352 := by decide +kernel
set_option maxRecDepth 10000 in
theorem r_349_7 : eR e2 349 7 = some 353 := by decide +kernel
set_option maxRecDepth 10000 in
theorem s_0 : eS e2 0 = .inl 12 := by decide +kernel
set_option maxRecDepth 10000 in
theorem s_1 : eS e2 1 = .inl 2 := by decide +kernel
set_option maxRecDepth 10000 in
theorem s_10 : eS e2 10 = .inl 9 := by decide +kernel
set_option maxRecDepth 10000 in
theorem s_11 : eS e2 11 = .inr (.int, 26) := by decide +kernel
set_option maxRecDepth 10000 in
theorem s_12 : eS e2 12 = .inr (.int, 26) := by decide +kernel
set_option maxRecDepth 10000 in
theorem s_13 : eS e2 13 = .inr (.int, 26) := by decide +kernel
set_option maxRecDepth 10000 in
theorem s_136 : eS e2 136 = .inl 0 := by decide +kernel
set_option maxRecDepth 10000 in
theorem s_137 : eS e2 137 = .inr (.int, 10) := by decide +kernel
set_option maxRecDepth 10000 in
theorem s_138 : eS e2 138 = .inr (.int, 10) := by decide +kernel
set_option maxRecDepth 10000 in
theorem s_139 : eS e2 139 = .inr (.int, 10) := by decide +kernel
set_option maxRecDepth 10000 in
theorem s_14 : eS e2 14 = .inl 3 := by decide +kernel
set_option maxRecDepth 10000 in
theorem s_140 : eS e2 140 = .inr (.int, 80) := by decide +kernel
set_option maxRecDepth 10000 in
theorem s_141 : eS e2 141 = .inr (.int, 26) := by decide +kernel
set_option maxRecDepth 10000 in
theorem s_142 : eS e2 142 = .inr (.int, 4) := by decide +kernel
set_option maxRecDepth 10000 in
theorem s_143 : eS e2 143 = .inr (.int, 12) := by decide +kernel
set_option maxRecDepth 10000 in
theorem s_144 : eS e2 144 = .inr (.int, 12) := by decide +kernel
set_option maxRecDepth 10000 in
theorem s_145 : eS e2 145 = .inr (.int, 12) := by decide +kernel
set_option maxRecDepth 10000 in
theorem s_146 : eS e2 146 = .inl 2 := by decide +kernel
set_option maxRecDepth 10000 in
theorem s_147 : eS e2 147 = .inl 5 := by decide +kernel
set_option maxRecDepth 10000 in
theorem s_148 : eS e2 148 = .inr (.int, 24) := by decide +kernel
set_option maxRecDepth 10000 in
theorem s_149 : eS e2 149 = .inr (.int, 24) := by decide +kernel
set_option maxRecDepth 10000 in
theorem s_15 : eS e2 15 = .inr ((.object RX9), 30) := by decide +kernel
set_option maxRecDepth 10000 in
theorem s_150 : eS e2 150 = .inr (.int, 24) := by decide +kernel
set_option maxRecDepth 10000 in
theorem s_151 : eS e2 151 = .inr (.int, 192) := by decide +kernel
set_option maxRecDepth 10000 in
theorem s_152 : eS e2 152 = .inr (.int, 8) := by decide +kernel
set_option maxRecDepth 10000 in
theorem s_153 : eS e2 153 = .inr (.int, 8) := by decide +kernel
set_option maxRecDepth 10000 in
theorem s_154 : eS e2 154 = .inr (.int, 64) := by decide +kernel
set_option maxRecDepth 10000 in
theorem s_155 : eS e2 155 = .inl 9 := by decide +kernel
set_option maxRecDepth 10000 in
theorem s_156 : eS e2 156 = .inr (.int, 26) := by decide +kernel
set_option maxRecDepth 10000 in
theorem s_157 : eS e2 157 = .inr (.int, 26) := by decide +kernel
set_option maxRecDepth 10000 in
theorem s_158 : eS e2 158 = .inr (.int, 26) := by decide +kernel
set_option maxRecDepth 10000 in
theorem s_159 : eS e2 159 = .inl 3 := by decide +kernel
set_option maxRecDepth 10000 in
theorem s_160 : eS e2 160 = .inr ((.object RX9), 30) := by decide +kernel
set_option maxRecDepth 10000 in
theorem s_2 : eS e2 2 = .inl 5 := by decide +kernel
set_option maxRecDepth 10000 in
theorem s_281 : eS e2 281 = .inl 0 := by decide +kernel
set_option maxRecDepth 10000 in
theorem s_282 : eS e2 282 = .inr (.int, 10) := by decide +kernel
set_option maxRecDepth 10000 in
theorem s_283 : eS e2 283 = .inr (.int, 10) := by decide +kernel
set_option maxRecDepth 10000 in
theorem s_284 : eS e2 284 = .inr (.int, 10) := by decide +kernel
set_option maxRecDepth 10000 in
theorem s_285 : eS e2 285 = .inr (.int, 80) := by decide +kernel
set_option maxRecDepth 10000 in
theorem s_286 : eS e2 286 = .inr (.int, 26) := by decide +kernel
set_option maxRecDepth 10000 in
theorem s_287 : eS e2 287 = .inr (.int, 4) := by decide +kernel
set_option maxRecDepth 10000 in
theorem s_288 : eS e2 288 = .inr (.int, 12) := by decide +kernel
set_option maxRecDepth 10000 in
theorem s_289 : eS e2 289 = .inr (.int, 12) := by decide +kernel
set_option maxRecDepth 10000 in
theorem s_290 : eS e2 290 = .inr (.int, 12) := by decide +kernel
set_option maxRecDepth 10000 in
theorem s_291 : eS e2 291 = .inr ((.object RX11), 4) := by decide +kernel
set_option maxRecDepth 10000 in
theorem s_3 : eS e2 3 = .inr (.int, 24) := by decide +kernel
set_option maxRecDepth 10000 in
theorem s_332 : eS e2 332 = .inl 10 := by decide +kernel
set_option maxRecDepth 10000 in
theorem s_333 : eS e2 333 = .inr (.int, 300) := by decide +kernel
set_option maxRecDepth 10000 in
theorem s_334 : eS e2 334 = .inr (.int, 301) := by decide +kernel
set_option maxRecDepth 10000 in
theorem s_335 : eS e2 335 = .inr (.int, 301) := by decide +kernel
set_option maxRecDepth 10000 in
theorem s_336 : eS e2 336 = .inr (.int, 301) := by decide +kernel
set_option maxRecDepth 10000 in
theorem s_337 : eS e2 337 = .inr (.int, 301) := by decide +kernel
set_option maxRecDepth 10000 in
theorem s_338 : eS e2 338 = .inl 8 := by decide +kernel
set_option maxRecDepth 10000 in
theorem s_339 : eS e2 339 = .inl 4 := by decide +kernel
set_option maxRecDepth 10000 in
theorem s_340 : eS e2 340 = .inr (.int, 14) := by decide +kernel
set_option maxRecDepth 10000 in
theorem s_341 : eS e2 341 = .inr (.int, 64) := by decide +kernel
set_option maxRecDepth 10000 in
theorem s_342 : eS e2 342 = .inl 1 := by decide +kernel
set_option maxRecDepth 10000 in
theorem s_343 : eS e2 343 = .inl 6 := by decide +kernel
set_option maxRecDepth 10000 in
theorem s_344 : eS e2 344 = .inr (.int, 4) := by decide +kernel
set_option maxRecDepth 10000 in
theorem s_345 : eS e2 345 = .inr (.int, 16) := by decide +kernel
set_option maxRecDepth 10000 in
theorem s_346 : eS e2 346 = .inr (.int, 10) := by decide +kernel
set_option maxRecDepth 10000 in
theorem s_347 : eS e2 347 = .inr (.boolean, 1024) := by decide +kernel
set_option maxRecDepth 10000 in
theorem s_348 : eS e2 348 = .inr (.boolean, 1024) := by decide +kernel
set_option maxRecDepth 10000 in
theorem s_349 : eS e2 349 = .inl 7 := by decide +kernel
set_option maxRecDepth 10000 in
theorem s_350 : eS e2 350 = .inr (.int, 26) := by decide +kernel
set_option maxRecDepth 10000 in
theorem s_351 : eS e2 351 = .inr (.int, 4) := by decide +kernel
set_option maxRecDepth 10000 in
theorem s_352 : eS e2 352 = .inr (.int, 4) := by decide +kernel
set_option maxRecDepth 10000 in
theorem s_353 : eS e2 353 = .inr (.int, 31) := by decide +kernel
set_option maxRecDepth 10000 in
theorem s_354 : eS e2 354 = .inr (.int, 8) := by decide +kernel
set_option maxRecDepth 10000 in
theorem s_4 : eS e2 4 = .inr (.int, 24) := by decide +kernel
set_option maxRecDepth 10000 in
theorem s_5 : eS e2 5 = .inr (.int, 24) := by decide +kernel
set_option maxRecDepth 10000 in
theorem s_6 : eS e2 6 = .inr (.int, 192) := by decide +kernel
set_option maxRecDepth 10000 in
theorem s_7 : eS e2 7 = .inr (.int, 8) := by decide +kernel
set_option maxRecDepth 10000 in
theorem s_8 : eS e2 8 = .inr (.int, 8) := by decide +kernel
set_option maxRecDepth 10000 in
theorem s_9 : eS e2 9 = .inr (.int, 64) := by decide +kernel
set_option maxRecDepth 10000 in
theorem sk_a : ∀ t, t < 30 → eR e2 160 t = some (161 + 4 * t) := by decide +kernel
set_option maxRecDepth 10000 in
theorem sk_r4 : ∀ t, t < 30 → eR e2 (161 + 4 * t) 4 = some (162 + 4 * t) := by decide +kernel
set_option maxRecDepth 10000 in
theorem sk_r5 : ∀ t, t < 30 → eR e2 (161 + 4 * t) 5 = some (163 + 4 * t) := by decide +kernel
set_option maxRecDepth 10000 in
theorem sk_r6 : ∀ t, t < 30 → eR e2 (161 + 4 * t) 6 = some (164 + 4 * t) := by decide +kernel
set_option maxRecDepth 10000 in
theorem sk_s : ∀ t, t < 30 → eS e2 (161 + 4 * t) = .inl 9 := by decide +kernel
set_option maxRecDepth 10000 in
theorem sk_s4 : ∀ t, t < 30 → eS e2 (162 + 4 * t) = .inr (.int, 26) := by decide +kernel
set_option maxRecDepth 10000 in
theorem sk_s5 : ∀ t, t < 30 → eS e2 (163 + 4 * t) = .inr (.int, 26) := by decide +kernel
set_option maxRecDepth 10000 in
theorem sk_s6 : ∀ t, t < 30 → eS e2 (164 + 4 * t) = .inr (.int, 26) := by decide +kernel
set_option maxRecDepth 10000 in
theorem sp_a : ∀ t, t < 30 → eR e2 15 t = some (16 + 4 * t) := by decide +kernel
set_option maxRecDepth 10000 in
theorem sp_r4 : ∀ t, t < 30 → eR e2 (16 + 4 * t) 4 = some (17 + 4 * t) := by decide +kernel
set_option maxRecDepth 10000 in
theorem sp_r5 : ∀ t, t < 30 → eR e2 (16 + 4 * t) 5 = some (18 + 4 * t) := by decide +kernel
set_option maxRecDepth 10000 in
theorem sp_r6 : ∀ t, t < 30 → eR e2 (16 + 4 * t) 6 = some (19 + 4 * t) := by decide +kernel
set_option maxRecDepth 10000 in
theorem sp_s : ∀ t, t < 30 → eS e2 (16 + 4 * t) = .inl 9 := by decide +kernel
set_option maxRecDepth 10000 in
theorem sp_s4 : ∀ t, t < 30 → eS e2 (17 + 4 * t) = .inr (.int, 26) := by decide +kernel
set_option maxRecDepth 10000 in
theorem sp_s5 : ∀ t, t < 30 → eS e2 (18 + 4 * t) = .inr (.int, 26) := by decide +kernel
set_option maxRecDepth 10000 in
theorem sp_s6 : ∀ t, t < 30 → eS e2 (19 + 4 * t) = .inr (.int, 26) := by decide +kernel
set_option maxRecDepth 10000 in
theorem tx_a : ∀ t, t < 4 → eR e2 291 t = some (292 + 10 * t) := by decide +kernel
set_option maxRecDepth 10000 in
theorem tx_r1 : ∀ t, t < 4 → eR e2 (292 + 10 * t) 1 = some (293 + 10 * t) := by decide +kernel
set_option maxRecDepth 10000 in
theorem tx_r10 : ∀ t, t < 4 → eR e2 (292 + 10 * t) 10 = some (301 + 10 * t) := by decide +kernel
set_option maxRecDepth 10000 in
theorem tx_r2 : ∀ t, t < 4 → eR e2 (292 + 10 * t) 2 = some (294 + 10 * t) := by decide +kernel
set_option maxRecDepth 10000 in
theorem tx_r3 : ∀ t, t < 4 → eR e2 (292 + 10 * t) 3 = some (295 + 10 * t) := by decide +kernel
set_option maxRecDepth 10000 in
theorem tx_r4 : ∀ t, t < 4 → eR e2 (292 + 10 * t) 4 = some (296 + 10 * t) := by decide +kernel
set_option maxRecDepth 10000 in
theorem tx_r5 : ∀ t, t < 4 → eR e2 (292 + 10 * t) 5 = some (297 + 10 * t) := by decide +kernel
set_option maxRecDepth 10000 in
theorem tx_r6 : ∀ t, t < 4 → eR e2 (292 + 10 * t) 6 = some (298 + 10 * t) := by decide +kernel
set_option maxRecDepth 10000 in
theorem tx_r7 : ∀ t, t < 4 → eR e2 (292 + 10 * t) 7 = some (299 + 10 * t) := by decide +kernel
set_option maxRecDepth 10000 in
theorem tx_r8 : ∀ t, t < 4 → eR e2 (292 + 10 * t) 8 = some (300 + 10 * t) := by decide +kernel
set_option maxRecDepth 10000 in
theorem tx_s : ∀ t, t < 4 → eS e2 (292 + 10 * t) = .inl 11 := by decide +kernel
set_option maxRecDepth 10000 in
theorem tx_s1 : ∀ t, t < 4 → eS e2 (293 + 10 * t) = .inr (.int, 24) := by decide +kernel
set_option maxRecDepth 10000 in
theorem tx_s10 : ∀ t, t < 4 → eS e2 (301 + 10 * t) = .inr (.int, 300) := by decide +kernel
set_option maxRecDepth 10000 in
theorem tx_s2 : ∀ t, t < 4 → eS e2 (294 + 10 * t) = .inr (.int, 24) := by decide +kernel
set_option maxRecDepth 10000 in
theorem tx_s3 : ∀ t, t < 4 → eS e2 (295 + 10 * t) = .inr (.int, 24) := by decide +kernel
set_option maxRecDepth 10000 in
theorem tx_s4 : ∀ t, t < 4 → eS e2 (296 + 10 * t) = .inr (.int, 24) := by decide +kernel
set_option maxRecDepth 10000 in
theorem tx_s5 : ∀ t, t < 4 → eS e2 (297 + 10 * t) = .inr (.int, 24) := by decide +kernel
set_option maxRecDepth 10000 in
theorem tx_s6 : ∀ t, t < 4 → eS e2 (298 + 10 * t) = .inr (.int, 192) := by decide +kernel
set_option maxRecDepth 10000 in
theorem tx_s7 : ∀ t, t < 4 → eS e2 (299 + 10 * t) = .inr (.int, 4) := by decide +kernel
set_option maxRecDepth 10000 in
theorem tx_s8 : ∀ t, t < 4 → eS e2 (300 + 10 * t) = .inr (.int, 4) := by decide +kernel
