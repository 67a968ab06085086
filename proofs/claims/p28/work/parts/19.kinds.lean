/-! the cells' kinds -/
set_option maxRecDepth 10000 in
theorem rk_1 : rk 1 = 13 := by decide +kernel
set_option maxRecDepth 10000 in
theorem rk_10 : rk 10 = 11 := by decide +kernel
set_option maxRecDepth 10000 in
theorem rk_11 : rk 11 = 0 := by decide +kernel
set_option maxRecDepth 10000 in
theorem rk_12 : rk 12 = 0 := by decide +kernel
set_option maxRecDepth 10000 in
theorem rk_13 : rk 13 = 0 := by decide +kernel
set_option maxRecDepth 10000 in
theorem rk_137 : rk 137 = 0 := by decide +kernel
set_option maxRecDepth 10000 in
theorem rk_138 : rk 138 = 0 := by decide +kernel
set_option maxRecDepth 10000 in
theorem rk_139 : rk 139 = 1 := by decide +kernel
set_option maxRecDepth 10000 in
theorem rk_14 : rk 14 = 12 := by decide +kernel
set_option maxRecDepth 10000 in
theorem rk_140 : rk 140 = 0 := by decide +kernel
set_option maxRecDepth 10000 in
theorem rk_141 : rk 141 = 0 := by decide +kernel
set_option maxRecDepth 10000 in
theorem rk_142 : rk 142 = 0 := by decide +kernel
set_option maxRecDepth 10000 in
theorem rk_143 : rk 143 = 4 := by decide +kernel
set_option maxRecDepth 10000 in
theorem rk_144 : rk 144 = 5 := by decide +kernel
set_option maxRecDepth 10000 in
theorem rk_145 : rk 145 = 0 := by decide +kernel
set_option maxRecDepth 10000 in
theorem rk_146 : rk 146 = 14 := by decide +kernel
set_option maxRecDepth 10000 in
theorem rk_147 : rk 147 = 10 := by decide +kernel
set_option maxRecDepth 10000 in
theorem rk_148 : rk 148 = 1 := by decide +kernel
set_option maxRecDepth 10000 in
theorem rk_149 : rk 149 = 2 := by decide +kernel
set_option maxRecDepth 10000 in
theorem rk_150 : rk 150 = 0 := by decide +kernel
set_option maxRecDepth 10000 in
theorem rk_151 : rk 151 = 3 := by decide +kernel
set_option maxRecDepth 10000 in
theorem rk_152 : rk 152 = 1 := by decide +kernel
set_option maxRecDepth 10000 in
theorem rk_153 : rk 153 = 0 := by decide +kernel
set_option maxRecDepth 10000 in
theorem rk_154 : rk 154 = 3 := by decide +kernel
set_option maxRecDepth 10000 in
theorem rk_155 : rk 155 = 11 := by decide +kernel
set_option maxRecDepth 10000 in
theorem rk_156 : rk 156 = 0 := by decide +kernel
set_option maxRecDepth 10000 in
theorem rk_157 : rk 157 = 0 := by decide +kernel
set_option maxRecDepth 10000 in
theorem rk_158 : rk 158 = 0 := by decide +kernel
set_option maxRecDepth 10000 in
theorem rk_159 : rk 159 = 12 := by decide +kernel
set_option maxRecDepth 10000 in
theorem rk_2 : rk 2 = 10 := by decide +kernel
set_option maxRecDepth 10000 in
theorem rk_282 : rk 282 = 0 := by decide +kernel
set_option maxRecDepth 10000 in
theorem rk_283 : rk 283 = 0 := by decide +kernel
set_option maxRecDepth 10000 in
theorem rk_284 : rk 284 = 1 := by decide +kernel
set_option maxRecDepth 10000 in
theorem rk_285 : rk 285 = 0 := by decide +kernel
set_option maxRecDepth 10000 in
theorem rk_286 : rk 286 = 0 := by decide +kernel
set_option maxRecDepth 10000 in
theorem rk_287 : rk 287 = 0 := by decide +kernel
set_option maxRecDepth 10000 in
theorem rk_288 : rk 288 = 4 := by decide +kernel
set_option maxRecDepth 10000 in
theorem rk_289 : rk 289 = 5 := by decide +kernel
set_option maxRecDepth 10000 in
theorem rk_290 : rk 290 = 0 := by decide +kernel
set_option maxRecDepth 10000 in
theorem rk_3 : rk 3 = 1 := by decide +kernel
set_option maxRecDepth 10000 in
theorem rk_332 : rk 332 = 16 := by decide +kernel
set_option maxRecDepth 10000 in
theorem rk_333 : rk 333 = 7 := by decide +kernel
set_option maxRecDepth 10000 in
theorem rk_334 : rk 334 = 0 := by decide +kernel
set_option maxRecDepth 10000 in
theorem rk_335 : rk 335 = 8 := by decide +kernel
set_option maxRecDepth 10000 in
theorem rk_336 : rk 336 = 0 := by decide +kernel
set_option maxRecDepth 10000 in
theorem rk_337 : rk 337 = 0 := by decide +kernel
set_option maxRecDepth 10000 in
theorem rk_338 : rk 338 = 17 := by decide +kernel
set_option maxRecDepth 10000 in
theorem rk_340 : rk 340 = 0 := by decide +kernel
set_option maxRecDepth 10000 in
theorem rk_341 : rk 341 = 0 := by decide +kernel
set_option maxRecDepth 10000 in
theorem rk_343 : rk 343 = 18 := by decide +kernel
set_option maxRecDepth 10000 in
theorem rk_344 : rk 344 = 0 := by decide +kernel
set_option maxRecDepth 10000 in
theorem rk_345 : rk 345 = 1 := by decide +kernel
set_option maxRecDepth 10000 in
theorem rk_346 : rk 346 = 3 := by decide +kernel
set_option maxRecDepth 10000 in
theorem rk_347 : rk 347 = 0 := by decide +kernel
set_option maxRecDepth 10000 in
theorem rk_348 : rk 348 = 0 := by decide +kernel
set_option maxRecDepth 10000 in
theorem rk_349 : rk 349 = 0 := by decide +kernel
set_option maxRecDepth 10000 in
theorem rk_350 : rk 350 = 0 := by decide +kernel
set_option maxRecDepth 10000 in
theorem rk_351 : rk 351 = 0 := by decide +kernel
set_option maxRecDepth 10000 in
theorem rk_352 : rk 352 = 4 := by decide +kernel
set_option maxRecDepth 10000 in
theorem rk_353 : rk 353 = 0 := by decide +kernel
set_option maxRecDepth 10000 in
theorem rk_354 : rk 354 = 3 := by decide +kernel
set_option maxRecDepth 10000 in
theorem rk_4 : rk 4 = 2 := by decide +kernel
set_option maxRecDepth 10000 in
theorem rk_5 : rk 5 = 0 := by decide +kernel
set_option maxRecDepth 10000 in
theorem rk_6 : rk 6 = 3 := by decide +kernel
set_option maxRecDepth 10000 in
theorem rk_7 : rk 7 = 1 := by decide +kernel
set_option maxRecDepth 10000 in
theorem rk_8 : rk 8 = 0 := by decide +kernel
set_option maxRecDepth 10000 in
theorem rk_9 : rk 9 = 3 := by decide +kernel
set_option maxRecDepth 10000 in
theorem sk_k : ∀ t, t < 30 → rk (161 + 4 * t) = 11 := by decide +kernel
set_option maxRecDepth 10000 in
theorem sk_k4 : ∀ t, t < 30 → rk (162 + 4 * t) = 0 := by decide +kernel
set_option maxRecDepth 10000 in
theorem sk_k5 : ∀ t, t < 30 → rk (163 + 4 * t) = 0 := by decide +kernel
set_option maxRecDepth 10000 in
theorem sk_k6 : ∀ t, t < 30 → rk (164 + 4 * t) = 0 := by decide +kernel
set_option maxRecDepth 10000 in
theorem sp_k : ∀ t, t < 30 → rk (16 + 4 * t) = 11 := by decide +kernel
set_option maxRecDepth 10000 in
theorem sp_k4 : ∀ t, t < 30 → rk (17 + 4 * t) = 0 := by decide +kernel
set_option maxRecDepth 10000 in
theorem sp_k5 : ∀ t, t < 30 → rk (18 + 4 * t) = 0 := by decide +kernel
set_option maxRecDepth 10000 in
theorem sp_k6 : ∀ t, t < 30 → rk (19 + 4 * t) = 0 := by decide +kernel
set_option maxRecDepth 10000 in
theorem tx_k : ∀ t, t < 4 → rk (292 + 10 * t) = 15 := by decide +kernel
set_option maxRecDepth 10000 in
theorem tx_k1 : ∀ t, t < 4 → rk (293 + 10 * t) = 0 := by decide +kernel
set_option maxRecDepth 10000 in
theorem tx_k10 : ∀ t, t < 4 → rk (301 + 10 * t) = 9 := by decide +kernel
set_option maxRecDepth 10000 in
theorem tx_k2 : ∀ t, t < 4 → rk (294 + 10 * t) = 0 := by decide +kernel
set_option maxRecDepth 10000 in
theorem tx_k3 : ∀ t, t < 4 → rk (295 + 10 * t) = 0 := by decide +kernel
set_option maxRecDepth 10000 in
theorem tx_k4 : ∀ t, t < 4 → rk (296 + 10 * t) = 0 := by decide +kernel
set_option maxRecDepth 10000 in
theorem tx_k5 : ∀ t, t < 4 → rk (297 + 10 * t) = 1 := by decide +kernel
set_option maxRecDepth 10000 in
theorem tx_k6 : ∀ t, t < 4 → rk (298 + 10 * t) = 3 := by decide +kernel
set_option maxRecDepth 10000 in
theorem tx_k7 : ∀ t, t < 4 → rk (299 + 10 * t) = 6 := by decide +kernel
set_option maxRecDepth 10000 in
theorem tx_k8 : ∀ t, t < 4 → rk (300 + 10 * t) = 6 := by decide +kernel
