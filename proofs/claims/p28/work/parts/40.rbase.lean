/-! what the fresh heap holds: the reference -/
set_option maxRecDepth 10000 in
theorem r_355_0 : eR e2 355 0 = some 356 := by decide +kernel
set_option maxRecDepth 10000 in
theorem r_355_26 : eR e2 355 26 = some 363 := by decide +kernel
set_option maxRecDepth 10000 in
theorem r_355_28 : eR e2 355 28 = some 365 := by decide +kernel
set_option maxRecDepth 10000 in
theorem r_355_29 : eR e2 355 29 = some 366 := by decide +kernel
set_option maxRecDepth 10000 in
theorem r_355_3 : eR e2 355 3 = some 359 := by decide +kernel
set_option maxRecDepth 10000 in
theorem r_355_5 : eR e2 355 5 = some 360 := by decide +kernel
set_option maxRecDepth 10000 in
theorem r_355_7 : eR e2 355 7 = some 361 := by decide +kernel
set_option maxRecDepth 10000 in
theorem s_355 : eS e2 355 = .inl 13 := by decide +kernel
set_option maxRecDepth 10000 in
theorem s_356 : eS e2 356 = .inr (.int, 3038) := by decide +kernel
set_option maxRecDepth 10000 in
theorem s_359 : eS e2 359 = .inr (.int, 8) := by decide +kernel
set_option maxRecDepth 10000 in
theorem s_360 : eS e2 360 = .inr (.int, 9) := by decide +kernel
set_option maxRecDepth 10000 in
theorem s_361 : eS e2 361 = .inr (.int, 300) := by decide +kernel
set_option maxRecDepth 10000 in
theorem s_363 : eS e2 363 = .inr (.int, 14) := by decide +kernel
set_option maxRecDepth 10000 in
theorem s_366 : eS e2 366 = .inr (.int, 10) := by decide +kernel
