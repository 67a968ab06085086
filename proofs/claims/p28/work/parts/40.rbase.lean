/-! what the fresh heap holds: the reference -/
set_option maxRecDepth 10000 in
theorem r_355_0 : eR e2 355 0 = some 356 := by decide +kernel
set_option maxRecDepth 10000 in
theorem r_355_1 : eR e2 355 1 = some 357 := by decide +kernel
set_option maxRecDepth 10000 in
theorem r_355_2 : eR e2 355 2 = some 358 := by decide +kernel
set_option maxRecDepth 10000 in
theorem r_355_20 : eR e2 355 20 = some 362 := by decide +kernel
set_option maxRecDepth 10000 in
theorem r_355_26 : eR e2 355 26 = some 363 := by decide +kernel
set_option maxRecDepth 10000 in
theorem r_355_27 : eR e2 355 27 = some 364 := by decide +kernel
set_option maxRecDepth 10000 in
theorem r_355_28 : eR e2 355 28 = some 365 := by decide +kernel
set_option maxRecDepth 10000 in
theorem r_355_29 : eR e2 355 29 = some 366 := by decide +kernel
set_option maxRecDepth 10000 in
theorem r_355_3 : eR e2 355 3 = some 359 := by decide +kernel
set_option maxRecDepth 10000 in
theorem r_355_30 : eR e2 355 30 = some 367 := by decide +kernel
set_option maxRecDepth 10000 in
theorem r_355_31 : eR e2 355 31 = some 368 := by decide +kernel
set_option maxRecDepth 10000 in
theorem r_355_32 : eR e2 355 32 = some 369 := by decide +kernel
set_option maxRecDepth 10000 in
theorem r_355_34 : eR e2 355 34 = some 370 := by decide +kernel
set_option maxRecDepth 10000 in
theorem r_355_35 : eR e2 355 35 = some 371 := by decide +kernel
set_option maxRecDepth 10000 in
theorem r_355_36 : eR e2 355 36 = some 372 := by decide +kernel
set_option maxRecDepth 10000 in
theorem r_355_37 : eR e2 355 37 = some 373 := by decide +kernel
set_option maxRecDepth 10000 in
theorem r_355_5 : eR e2 355 5 = some 360 := by decide +kernel
set_option maxRecDepth 10000 in
theorem r_355_7 : eR e2 355 7 = some 361 := by decide +kernel
set_option maxRecDepth 10000 in
theorem s_355 : eS e2 355 = .inl 13 := by decide +kernel
set_option maxRecDepth 10000 in
theorem s_356 : eS e2 356 = .inr (.int, 3038) := by decide +kernel
set_option maxRecDepth 10000 in
theorem s_357 : eS e2 357 = .inr (.int, 3038) := by decide +kernel
set_option maxRecDepth 10000 in
theorem s_358 : eS e2 358 = .inr (.int, 3492) := by decide +kernel
set_option maxRecDepth 10000 in
theorem s_359 : eS e2 359 = .inr (.int, 8) := by decide +kernel
set_option maxRecDepth 10000 in
theorem s_360 : eS e2 360 = .inr (.int, 9) := by decide +kernel
set_option maxRecDepth 10000 in
theorem s_361 : eS e2 361 = .inr (.int, 300) := by decide +kernel
set_option maxRecDepth 10000 in
theorem s_362 : eS e2 362 = .inr (.int, 160) := by decide +kernel
set_option maxRecDepth 10000 in
theorem s_363 : eS e2 363 = .inr (.int, 14) := by decide +kernel
set_option maxRecDepth 10000 in
theorem s_364 : eS e2 364 = .inr (.long, 330) := by decide +kernel
set_option maxRecDepth 10000 in
theorem s_365 : eS e2 365 = .inr (.boolean, 330) := by decide +kernel
set_option maxRecDepth 10000 in
theorem s_366 : eS e2 366 = .inr (.int, 10) := by decide +kernel
set_option maxRecDepth 10000 in
theorem s_367 : eS e2 367 = .inr (.int, 26) := by decide +kernel
set_option maxRecDepth 10000 in
theorem s_368 : eS e2 368 = .inr (.boolean, 1024) := by decide +kernel
set_option maxRecDepth 10000 in
theorem s_369 : eS e2 369 = .inr (.boolean, 1024) := by decide +kernel
set_option maxRecDepth 10000 in
theorem s_370 : eS e2 370 = .inr (.int, 4) := by decide +kernel
set_option maxRecDepth 10000 in
theorem s_371 : eS e2 371 = .inr (.int, 16) := by decide +kernel
set_option maxRecDepth 10000 in
theorem s_372 : eS e2 372 = .inr (.int, 26) := by decide +kernel
set_option maxRecDepth 10000 in
theorem s_373 : eS e2 373 = .inr (.int, 4) := by decide +kernel
