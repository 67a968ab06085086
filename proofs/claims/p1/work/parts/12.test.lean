/-! test of the run's speed -/
noncomputable def tS0 : EH := (1, [[[.inl 9]]],
  [[[[]]]],
  [[[[]]]],
  [[[[]]]])
noncomputable def tS1 : EH := (4, [[[.inl 9, .inr (.int, 26), .inr (.int, 26), .inr (.int, 26)]]],
  [[[[[[0, 0, 17]]], [[[1, 1, 1, 1, 1, 1, 1, 1, 1, 1, 1, 1, 1, 1, 1, 1], [1, 1, 1, 1, 1, 1, 1, 1, 1, 1]]], [], [[[(-1), (-1), (-1), (-1), (-1), (-1), (-1), (-1), (-1), (-1), (-1), (-1), (-1), (-1), (-1), (-1)], [(-1), (-1), (-1), (-1), (-1), (-1), (-1), (-1), (-1), (-1)]]]]]],
  [[[[], [], [], []]]],
  [[[[[[none, none, none, none, some 1, some 2, some 3]]], [], [], []]]])
set_option maxRecDepth 1000000 in
theorem tS_run : eqRes (eRun sm0 423 30 104 [.ref 0] tS0 7) none tS1 85 = true := by decide +kernel
