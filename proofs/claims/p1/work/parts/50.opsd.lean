/-! walks printed by wip/p1/walk.py: about of raise sign -/
def f_about (a : Int32) : Int32 := if a.toInt = 3 then 17 else if a.toInt = 5 then -1 else if 0 ≤ a.toInt ∧ a.toInt ≤ 11 then 0 else -2
def f_of (a : Int32) (b : Int32) : Int32 := if 0 ≤ a.toInt ∧ a.toInt ≤ 25 then (if b.toInt = 0 then 1 else if b.toInt = 3 then -1 else if 0 ≤ b.toInt ∧ b.toInt ≤ 6 then 0 else -2) else -2
def f_raise (a : Int32) (b : Int32) : Int32 := if (0 ≤ a.toInt ∧ a.toInt ≤ 25) ∧ (0 ≤ b.toInt ∧ b.toInt ≤ 99) ∧ ¬ b.toInt = 1 then 1 else 0
def f_sign (a : Int32) (b : Int32) : Int32 := if (0 ≤ a.toInt ∧ a.toInt ≤ 25) ∧ (-1 ≤ b.toInt ∧ b.toInt ≤ 9) ∧ ¬ b.toInt = -1 then 1 else 0
set_option maxRecDepth 10000 in
set_option maxHeartbeats 4000000 in
theorem c_about {g : LH} (F : Fc g) (E : Fr g) (a : Int32) : LW 165 30 0 0 0 (lEnt (mL 165) [.ref 0, .int a]) [] g (fun v g' => v = some (.int (f_about a)) ∧ Fr g') := by
  refine LW_ls (ls' := [some (.ref 0), some (.int a)]) rfl ?_
  refine X_iload_n rfl rfl rfl rfl ?_
  by_cases h1 : a = (0 : Int32)
  · refine LW_eqv h1 ?_
    refine LW_tableIn (tgt := 64) rfl (by decide) (by decide) rfl rfl ?_
    refine X_aload_n rfl rfl rfl rfl ?_
    refine X_getR (a := 1) rfl rfl rfl ((congrFun F.1 0).trans s_0) rfl ((congrFun (F.2.1 0 (by decide)) 0).trans r_0_0) ?_
    refine X_getR (a := 2) rfl rfl rfl ((congrFun F.1 1).trans s_1) rfl ((congrFun (F.2.1 1 (by decide)) 0).trans r_1_0) ?_
    refine X_getI (v := (0 : Int32)) rfl rfl rfl ((congrFun F.1 2).trans s_2) rfl ((congrFun (F.2.2 2 (by decide)).1 0).trans i_2_0) ?_
    refine LW_ireturn (st := []) rfl rfl rfl ⟨congrArg (fun z => some (Value.int z)) ?_, E⟩
    simp only [Int32.lt_iff_toInt_lt, Int32.le_iff_toInt_le, ← Int32.toInt_inj, (show (0 : Int32).toInt = 0 from rfl)] at h1
    unfold f_about
    repeat' split
    all_goals first | rfl | (exfalso; omega) | (refine Int32.toInt_inj.mp ?_; rw [show (0 : Int32).toInt = 0 from rfl]; omega)
  by_cases h2 : a = (1 : Int32)
  · refine LW_eqv h2 ?_
    refine LW_tableIn (tgt := 75) rfl (by decide) (by decide) rfl rfl ?_
    refine X_aload_n rfl rfl rfl rfl ?_
    refine X_getR (a := 1) rfl rfl rfl ((congrFun F.1 0).trans s_0) rfl ((congrFun (F.2.1 0 (by decide)) 0).trans r_0_0) ?_
    refine X_getR (a := 2) rfl rfl rfl ((congrFun F.1 1).trans s_1) rfl ((congrFun (F.2.1 1 (by decide)) 0).trans r_1_0) ?_
    refine X_getI (v := (0 : Int32)) rfl rfl rfl ((congrFun F.1 2).trans s_2) rfl ((congrFun (F.2.2 2 (by decide)).1 1).trans i_2_1) ?_
    refine LW_ireturn (st := []) rfl rfl rfl ⟨congrArg (fun z => some (Value.int z)) ?_, E⟩
    simp only [Int32.lt_iff_toInt_lt, Int32.le_iff_toInt_le, ← Int32.toInt_inj, (show (0 : Int32).toInt = 0 from rfl), (show (1 : Int32).toInt = 1 from rfl)] at h1 h2
    unfold f_about
    repeat' split
    all_goals first | rfl | (exfalso; omega) | (refine Int32.toInt_inj.mp ?_; rw [show (0 : Int32).toInt = 0 from rfl]; omega)
  by_cases h3 : a = (2 : Int32)
  · refine LW_eqv h3 ?_
    refine LW_tableIn (tgt := 86) rfl (by decide) (by decide) rfl rfl ?_
    refine X_aload_n rfl rfl rfl rfl ?_
    refine X_getR (a := 1) rfl rfl rfl ((congrFun F.1 0).trans s_0) rfl ((congrFun (F.2.1 0 (by decide)) 0).trans r_0_0) ?_
    refine X_getR (a := 10) rfl rfl rfl ((congrFun F.1 1).trans s_1) rfl ((congrFun (F.2.1 1 (by decide)) 1).trans r_1_1) ?_
    refine X_getI (v := (0 : Int32)) rfl rfl rfl ((congrFun F.1 10).trans s_10) rfl ((congrFun (F.2.2 10 (by decide)).1 1).trans i_10_1) ?_
    refine LW_ireturn (st := []) rfl rfl rfl ⟨congrArg (fun z => some (Value.int z)) ?_, E⟩
    simp only [Int32.lt_iff_toInt_lt, Int32.le_iff_toInt_le, ← Int32.toInt_inj, (show (0 : Int32).toInt = 0 from rfl), (show (1 : Int32).toInt = 1 from rfl), (show (2 : Int32).toInt = 2 from rfl)] at h1 h2 h3
    unfold f_about
    repeat' split
    all_goals first | rfl | (exfalso; omega) | (refine Int32.toInt_inj.mp ?_; rw [show (0 : Int32).toInt = 0 from rfl]; omega)
  by_cases h4 : a = (3 : Int32)
  · refine LW_eqv h4 ?_
    refine LW_tableIn (tgt := 97) rfl (by decide) (by decide) rfl rfl ?_
    refine X_aload_n rfl rfl rfl rfl ?_
    refine X_getR (a := 1) rfl rfl rfl ((congrFun F.1 0).trans s_0) rfl ((congrFun (F.2.1 0 (by decide)) 0).trans r_0_0) ?_
    refine X_getR (a := 10) rfl rfl rfl ((congrFun F.1 1).trans s_1) rfl ((congrFun (F.2.1 1 (by decide)) 1).trans r_1_1) ?_
    refine X_getI (v := (17 : Int32)) rfl rfl rfl ((congrFun F.1 10).trans s_10) rfl ((congrFun (F.2.2 10 (by decide)).1 2).trans i_10_2) ?_
    refine LW_ireturn (st := []) rfl rfl rfl ⟨congrArg (fun z => some (Value.int z)) ?_, E⟩
    simp only [Int32.lt_iff_toInt_lt, Int32.le_iff_toInt_le, ← Int32.toInt_inj, (show (0 : Int32).toInt = 0 from rfl), (show (1 : Int32).toInt = 1 from rfl), (show (2 : Int32).toInt = 2 from rfl), (show (3 : Int32).toInt = 3 from rfl)] at h1 h2 h3 h4
    unfold f_about
    repeat' split
    all_goals first | rfl | (exfalso; omega) | (refine Int32.toInt_inj.mp ?_; rw [show (0 : Int32).toInt = 0 from rfl]; omega)
  by_cases h5 : a = (4 : Int32)
  · refine LW_eqv h5 ?_
    refine LW_tableIn (tgt := 108) rfl (by decide) (by decide) rfl rfl ?_
    refine X_aload_n rfl rfl rfl rfl ?_
    refine X_getR (a := 1) rfl rfl rfl ((congrFun F.1 0).trans s_0) rfl ((congrFun (F.2.1 0 (by decide)) 0).trans r_0_0) ?_
    refine X_getI (v := (0 : Int32)) rfl rfl rfl ((congrFun F.1 1).trans s_1) rfl ((congrFun (F.2.2 1 (by decide)).1 5).trans i_1_5) ?_
    refine LW_ireturn (st := []) rfl rfl rfl ⟨congrArg (fun z => some (Value.int z)) ?_, E⟩
    simp only [Int32.lt_iff_toInt_lt, Int32.le_iff_toInt_le, ← Int32.toInt_inj, (show (0 : Int32).toInt = 0 from rfl), (show (1 : Int32).toInt = 1 from rfl), (show (2 : Int32).toInt = 2 from rfl), (show (3 : Int32).toInt = 3 from rfl), (show (4 : Int32).toInt = 4 from rfl)] at h1 h2 h3 h4 h5
    unfold f_about
    repeat' split
    all_goals first | rfl | (exfalso; omega) | (refine Int32.toInt_inj.mp ?_; rw [show (0 : Int32).toInt = 0 from rfl]; omega)
  by_cases h6 : a = (5 : Int32)
  · refine LW_eqv h6 ?_
    refine LW_tableIn (tgt := 116) rfl (by decide) (by decide) rfl rfl ?_
    refine X_aload_n rfl rfl rfl rfl ?_
    refine X_getR (a := 1) rfl rfl rfl ((congrFun F.1 0).trans s_0) rfl ((congrFun (F.2.1 0 (by decide)) 0).trans r_0_0) ?_
    refine X_getI (v := (-1 : Int32)) rfl rfl rfl ((congrFun F.1 1).trans s_1) rfl ((congrFun (F.2.2 1 (by decide)).1 6).trans i_1_6) ?_
    refine LW_ireturn (st := []) rfl rfl rfl ⟨congrArg (fun z => some (Value.int z)) ?_, E⟩
    simp only [Int32.lt_iff_toInt_lt, Int32.le_iff_toInt_le, ← Int32.toInt_inj, (show (0 : Int32).toInt = 0 from rfl), (show (1 : Int32).toInt = 1 from rfl), (show (2 : Int32).toInt = 2 from rfl), (show (3 : Int32).toInt = 3 from rfl), (show (4 : Int32).toInt = 4 from rfl), (show (5 : Int32).toInt = 5 from rfl)] at h1 h2 h3 h4 h5 h6
    unfold f_about
    repeat' split
    all_goals first | rfl | (exfalso; omega) | (refine Int32.toInt_inj.mp ?_; rw [show (0 : Int32).toInt = 0 from rfl]; omega)
  by_cases h7 : a = (6 : Int32)
  · refine LW_eqv h7 ?_
    refine LW_tableIn (tgt := 124) rfl (by decide) (by decide) rfl rfl ?_
    refine X_aload_n rfl rfl rfl rfl ?_
    refine X_getR (a := 1) rfl rfl rfl ((congrFun F.1 0).trans s_0) rfl ((congrFun (F.2.1 0 (by decide)) 0).trans r_0_0) ?_
    refine X_getR (a := 14) rfl rfl rfl ((congrFun F.1 1).trans s_1) rfl ((congrFun (F.2.1 1 (by decide)) 2).trans r_1_2) ?_
    refine X_getI (v := (0 : Int32)) rfl rfl rfl ((congrFun F.1 14).trans s_14) rfl ((congrFun (F.2.2 14 (by decide)).1 0).trans i_14_0) ?_
    refine LW_ireturn (st := []) rfl rfl rfl ⟨congrArg (fun z => some (Value.int z)) ?_, E⟩
    simp only [Int32.lt_iff_toInt_lt, Int32.le_iff_toInt_le, ← Int32.toInt_inj, (show (0 : Int32).toInt = 0 from rfl), (show (1 : Int32).toInt = 1 from rfl), (show (2 : Int32).toInt = 2 from rfl), (show (3 : Int32).toInt = 3 from rfl), (show (4 : Int32).toInt = 4 from rfl), (show (5 : Int32).toInt = 5 from rfl), (show (6 : Int32).toInt = 6 from rfl)] at h1 h2 h3 h4 h5 h6 h7
    unfold f_about
    repeat' split
    all_goals first | rfl | (exfalso; omega) | (refine Int32.toInt_inj.mp ?_; rw [show (0 : Int32).toInt = 0 from rfl]; omega)
  by_cases h8 : a = (7 : Int32)
  · refine LW_eqv h8 ?_
    refine LW_tableIn (tgt := 135) rfl (by decide) (by decide) rfl rfl ?_
    refine X_aload_n rfl rfl rfl rfl ?_
    refine X_getR (a := 1) rfl rfl rfl ((congrFun F.1 0).trans s_0) rfl ((congrFun (F.2.1 0 (by decide)) 0).trans r_0_0) ?_
    refine X_getR (a := 10) rfl rfl rfl ((congrFun F.1 1).trans s_1) rfl ((congrFun (F.2.1 1 (by decide)) 1).trans r_1_1) ?_
    refine X_getI (v := (0 : Int32)) rfl rfl rfl ((congrFun F.1 10).trans s_10) rfl ((congrFun (F.2.2 10 (by decide)).1 0).trans i_10_0) ?_
    refine LW_ireturn (st := []) rfl rfl rfl ⟨congrArg (fun z => some (Value.int z)) ?_, E⟩
    simp only [Int32.lt_iff_toInt_lt, Int32.le_iff_toInt_le, ← Int32.toInt_inj, (show (0 : Int32).toInt = 0 from rfl), (show (1 : Int32).toInt = 1 from rfl), (show (2 : Int32).toInt = 2 from rfl), (show (3 : Int32).toInt = 3 from rfl), (show (4 : Int32).toInt = 4 from rfl), (show (5 : Int32).toInt = 5 from rfl), (show (6 : Int32).toInt = 6 from rfl), (show (7 : Int32).toInt = 7 from rfl)] at h1 h2 h3 h4 h5 h6 h7 h8
    unfold f_about
    repeat' split
    all_goals first | rfl | (exfalso; omega) | (refine Int32.toInt_inj.mp ?_; rw [show (0 : Int32).toInt = 0 from rfl]; omega)
  by_cases h9 : a = (8 : Int32)
  · refine LW_eqv h9 ?_
    refine LW_tableIn (tgt := 146) rfl (by decide) (by decide) rfl rfl ?_
    refine X_aload_n rfl rfl rfl rfl ?_
    refine X_getR (a := 1) rfl rfl rfl ((congrFun F.1 0).trans s_0) rfl ((congrFun (F.2.1 0 (by decide)) 0).trans r_0_0) ?_
    refine X_getI (v := (0 : Int32)) rfl rfl rfl ((congrFun F.1 1).trans s_1) rfl ((congrFun (F.2.2 1 (by decide)).1 7).trans i_1_7) ?_
    refine LW_ireturn (st := []) rfl rfl rfl ⟨congrArg (fun z => some (Value.int z)) ?_, E⟩
    simp only [Int32.lt_iff_toInt_lt, Int32.le_iff_toInt_le, ← Int32.toInt_inj, (show (0 : Int32).toInt = 0 from rfl), (show (1 : Int32).toInt = 1 from rfl), (show (2 : Int32).toInt = 2 from rfl), (show (3 : Int32).toInt = 3 from rfl), (show (4 : Int32).toInt = 4 from rfl), (show (5 : Int32).toInt = 5 from rfl), (show (6 : Int32).toInt = 6 from rfl), (show (7 : Int32).toInt = 7 from rfl), (show (8 : Int32).toInt = 8 from rfl)] at h1 h2 h3 h4 h5 h6 h7 h8 h9
    unfold f_about
    repeat' split
    all_goals first | rfl | (exfalso; omega) | (refine Int32.toInt_inj.mp ?_; rw [show (0 : Int32).toInt = 0 from rfl]; omega)
  by_cases h10 : a = (9 : Int32)
  · refine LW_eqv h10 ?_
    refine LW_tableIn (tgt := 154) rfl (by decide) (by decide) rfl rfl ?_
    refine X_aload_n rfl rfl rfl rfl ?_
    refine X_getR (a := 1) rfl rfl rfl ((congrFun F.1 0).trans s_0) rfl ((congrFun (F.2.1 0 (by decide)) 0).trans r_0_0) ?_
    refine X_getI (v := (0 : Int32)) rfl rfl rfl ((congrFun F.1 1).trans s_1) rfl ((congrFun (F.2.2 1 (by decide)).1 9).trans i_1_9) ?_
    refine LW_ireturn (st := []) rfl rfl rfl ⟨congrArg (fun z => some (Value.int z)) ?_, E⟩
    simp only [Int32.lt_iff_toInt_lt, Int32.le_iff_toInt_le, ← Int32.toInt_inj, (show (0 : Int32).toInt = 0 from rfl), (show (1 : Int32).toInt = 1 from rfl), (show (2 : Int32).toInt = 2 from rfl), (show (3 : Int32).toInt = 3 from rfl), (show (4 : Int32).toInt = 4 from rfl), (show (5 : Int32).toInt = 5 from rfl), (show (6 : Int32).toInt = 6 from rfl), (show (7 : Int32).toInt = 7 from rfl), (show (8 : Int32).toInt = 8 from rfl), (show (9 : Int32).toInt = 9 from rfl)] at h1 h2 h3 h4 h5 h6 h7 h8 h9 h10
    unfold f_about
    repeat' split
    all_goals first | rfl | (exfalso; omega) | (refine Int32.toInt_inj.mp ?_; rw [show (0 : Int32).toInt = 0 from rfl]; omega)
  by_cases h11 : a = (10 : Int32)
  · refine LW_eqv h11 ?_
    refine LW_tableIn (tgt := 162) rfl (by decide) (by decide) rfl rfl ?_
    refine X_aload_n rfl rfl rfl rfl ?_
    refine X_getR (a := 332) rfl rfl rfl ((congrFun F.1 0).trans s_0) rfl ((congrFun (F.2.1 0 (by decide)) 3).trans r_0_3) ?_
    refine X_getI (v := (0 : Int32)) rfl rfl rfl ((congrFun F.1 332).trans s_332) rfl ((congrFun (F.2.2 332 (by decide)).1 0).trans i_332_0) ?_
    refine LW_ireturn (st := []) rfl rfl rfl ⟨congrArg (fun z => some (Value.int z)) ?_, E⟩
    simp only [Int32.lt_iff_toInt_lt, Int32.le_iff_toInt_le, ← Int32.toInt_inj, (show (0 : Int32).toInt = 0 from rfl), (show (1 : Int32).toInt = 1 from rfl), (show (2 : Int32).toInt = 2 from rfl), (show (3 : Int32).toInt = 3 from rfl), (show (4 : Int32).toInt = 4 from rfl), (show (5 : Int32).toInt = 5 from rfl), (show (6 : Int32).toInt = 6 from rfl), (show (7 : Int32).toInt = 7 from rfl), (show (8 : Int32).toInt = 8 from rfl), (show (9 : Int32).toInt = 9 from rfl), (show (10 : Int32).toInt = 10 from rfl)] at h1 h2 h3 h4 h5 h6 h7 h8 h9 h10 h11
    unfold f_about
    repeat' split
    all_goals first | rfl | (exfalso; omega) | (refine Int32.toInt_inj.mp ?_; rw [show (0 : Int32).toInt = 0 from rfl]; omega)
  by_cases h12 : a = (11 : Int32)
  · refine LW_eqv h12 ?_
    refine LW_tableIn (tgt := 170) rfl (by decide) (by decide) rfl rfl ?_
    refine X_aload_n rfl rfl rfl rfl ?_
    refine X_getR (a := 1) rfl rfl rfl ((congrFun F.1 0).trans s_0) rfl ((congrFun (F.2.1 0 (by decide)) 0).trans r_0_0) ?_
    refine X_getR (a := 10) rfl rfl rfl ((congrFun F.1 1).trans s_1) rfl ((congrFun (F.2.1 1 (by decide)) 1).trans r_1_1) ?_
    refine X_callV (as := []) (st := []) rfl rfl rfl (by decide) rfl (Nat.le_of_ble_eq_true rfl) (by decide) (Nat.le_of_ble_eq_true rfl) rfl ((congrFun F.1 10).trans s_10) (by decide) ?_
    refine LW_ls (ls' := [some (.ref 10)]) rfl ?_
    refine X_aload_n rfl rfl rfl rfl ?_
    refine X_getI (v := (0 : Int32)) rfl rfl rfl ((congrFun F.1 10).trans s_10) rfl ((congrFun (F.2.2 10 (by decide)).1 0).trans i_10_0) ?_
    refine X_callS (as := [.int (0 : Int32)]) (st := []) rfl rfl rfl (by decide) rfl (Nat.le_of_ble_eq_true rfl) (by decide) (Nat.le_of_ble_eq_true rfl) rfl ?_
    refine LW_ls (ls' := [some (.int (0 : Int32))]) rfl ?_
    refine X_iload_n rfl rfl rfl rfl ?_
    refine X_iload_n rfl rfl rfl rfl ?_
    refine X_iconst (v := (1 : Int32)) rfl rfl rfl ?_
    refine X_iushr (v := (0 : Int32)) rfl rfl rfl ?_
    refine X_ldcw (v := (1431655765 : Int32)) rfl rfl rfl ?_
    refine X_iand (v := (0 : Int32)) rfl rfl rfl ?_
    refine X_isub (v := (0 : Int32)) rfl rfl rfl ?_
    refine X_istore_n (i := 0) (ls' := [some (.int (0 : Int32))]) rfl rfl rfl (Nat.le_of_ble_eq_true rfl) rfl ?_
    refine X_iload_n rfl rfl rfl rfl ?_
    refine X_ldcw (v := (858993459 : Int32)) rfl rfl rfl ?_
    refine X_iand (v := (0 : Int32)) rfl rfl rfl ?_
    refine X_iload_n rfl rfl rfl rfl ?_
    refine X_iconst (v := (2 : Int32)) rfl rfl rfl ?_
    refine X_iushr (v := (0 : Int32)) rfl rfl rfl ?_
    refine X_ldcw (v := (858993459 : Int32)) rfl rfl rfl ?_
    refine X_iand (v := (0 : Int32)) rfl rfl rfl ?_
    refine X_iadd (v := (0 : Int32)) rfl rfl rfl ?_
    refine X_istore_n (i := 0) (ls' := [some (.int (0 : Int32))]) rfl rfl rfl (Nat.le_of_ble_eq_true rfl) rfl ?_
    refine X_iload_n rfl rfl rfl rfl ?_
    refine X_iload_n rfl rfl rfl rfl ?_
    refine X_iconst (v := (4 : Int32)) rfl rfl rfl ?_
    refine X_iushr (v := (0 : Int32)) rfl rfl rfl ?_
    refine X_iadd (v := (0 : Int32)) rfl rfl rfl ?_
    refine X_ldcw (v := (252645135 : Int32)) rfl rfl rfl ?_
    refine X_iand (v := (0 : Int32)) rfl rfl rfl ?_
    refine X_istore_n (i := 0) (ls' := [some (.int (0 : Int32))]) rfl rfl rfl (Nat.le_of_ble_eq_true rfl) rfl ?_
    refine X_iload_n rfl rfl rfl rfl ?_
    refine X_iload_n rfl rfl rfl rfl ?_
    refine X_bipush (v := (8 : Int32)) rfl rfl rfl ?_
    refine X_iushr (v := (0 : Int32)) rfl rfl rfl ?_
    refine X_iadd (v := (0 : Int32)) rfl rfl rfl ?_
    refine X_istore_n (i := 0) (ls' := [some (.int (0 : Int32))]) rfl rfl rfl (Nat.le_of_ble_eq_true rfl) rfl ?_
    refine X_iload_n rfl rfl rfl rfl ?_
    refine X_iload_n rfl rfl rfl rfl ?_
    refine X_bipush (v := (16 : Int32)) rfl rfl rfl ?_
    refine X_iushr (v := (0 : Int32)) rfl rfl rfl ?_
    refine X_iadd (v := (0 : Int32)) rfl rfl rfl ?_
    refine X_istore_n (i := 0) (ls' := [some (.int (0 : Int32))]) rfl rfl rfl (Nat.le_of_ble_eq_true rfl) rfl ?_
    refine X_iload_n rfl rfl rfl rfl ?_
    refine X_bipush (v := (63 : Int32)) rfl rfl rfl ?_
    refine X_iand (v := (0 : Int32)) rfl rfl rfl ?_
    refine LW_ireturn (st := []) rfl rfl rfl ?_
    refine LW_ireturn (st := []) rfl rfl rfl ?_
    refine LW_ireturn (st := []) rfl rfl rfl ⟨congrArg (fun z => some (Value.int z)) ?_, E⟩
    simp only [Int32.lt_iff_toInt_lt, Int32.le_iff_toInt_le, ← Int32.toInt_inj, (show (0 : Int32).toInt = 0 from rfl), (show (1 : Int32).toInt = 1 from rfl), (show (2 : Int32).toInt = 2 from rfl), (show (3 : Int32).toInt = 3 from rfl), (show (4 : Int32).toInt = 4 from rfl), (show (5 : Int32).toInt = 5 from rfl), (show (6 : Int32).toInt = 6 from rfl), (show (7 : Int32).toInt = 7 from rfl), (show (8 : Int32).toInt = 8 from rfl), (show (9 : Int32).toInt = 9 from rfl), (show (10 : Int32).toInt = 10 from rfl), (show (11 : Int32).toInt = 11 from rfl)] at h1 h2 h3 h4 h5 h6 h7 h8 h9 h10 h11 h12
    unfold f_about
    repeat' split
    all_goals first | rfl | (exfalso; omega) | (refine Int32.toInt_inj.mp ?_; rw [show (0 : Int32).toInt = 0 from rfl]; omega)
  refine LW_tableOut (tgt := 181) rfl (by simp only [Int32.lt_iff_toInt_lt, Int32.le_iff_toInt_le, ← Int32.toInt_inj, (show (0 : Int32).toInt = 0 from rfl), (show (1 : Int32).toInt = 1 from rfl), (show (2 : Int32).toInt = 2 from rfl), (show (3 : Int32).toInt = 3 from rfl), (show (4 : Int32).toInt = 4 from rfl), (show (5 : Int32).toInt = 5 from rfl), (show (6 : Int32).toInt = 6 from rfl), (show (7 : Int32).toInt = 7 from rfl), (show (8 : Int32).toInt = 8 from rfl), (show (9 : Int32).toInt = 9 from rfl), (show (10 : Int32).toInt = 10 from rfl), (show (11 : Int32).toInt = 11 from rfl)] at h1 h2 h3 h4 h5 h6 h7 h8 h9 h10 h11 h12; omega) rfl ?_
  refine X_bipush (v := (-2 : Int32)) rfl rfl rfl ?_
  refine LW_ireturn (st := []) rfl rfl rfl ⟨congrArg (fun z => some (Value.int z)) ?_, E⟩
  simp only [Int32.lt_iff_toInt_lt, Int32.le_iff_toInt_le, ← Int32.toInt_inj, (show (0 : Int32).toInt = 0 from rfl), (show (1 : Int32).toInt = 1 from rfl), (show (2 : Int32).toInt = 2 from rfl), (show (3 : Int32).toInt = 3 from rfl), (show (4 : Int32).toInt = 4 from rfl), (show (5 : Int32).toInt = 5 from rfl), (show (6 : Int32).toInt = 6 from rfl), (show (7 : Int32).toInt = 7 from rfl), (show (8 : Int32).toInt = 8 from rfl), (show (9 : Int32).toInt = 9 from rfl), (show (10 : Int32).toInt = 10 from rfl), (show (11 : Int32).toInt = 11 from rfl)] at h1 h2 h3 h4 h5 h6 h7 h8 h9 h10 h11 h12
  unfold f_about
  repeat' split
  all_goals first | rfl | (exfalso; omega) | (refine Int32.toInt_inj.mp ?_; rw [show (0 : Int32).toInt = 0 from rfl]; omega)
set_option maxRecDepth 10000 in
set_option maxHeartbeats 4000000 in
theorem c_of {g : LH} (F : Fc g) (E : Fr g) (a : Int32) (b : Int32) : LW 143 30 0 0 0 (lEnt (mL 143) [.ref 0, .int a, .int b]) [] g (fun v g' => v = some (.int (f_of a b)) ∧ Fr g') := by
  refine LW_ls (ls' := [some (.ref 0), some (.int a), some (.int b)]) rfl ?_
  refine X_iload_n rfl rfl rfl rfl ?_
  refine X_callS (as := [.int a]) (st := []) rfl rfl rfl (by decide) rfl (Nat.le_of_ble_eq_true rfl) (by decide) (Nat.le_of_ble_eq_true rfl) rfl ?_
  refine LW_ls (ls' := [some (.int a)]) rfl ?_
  refine X_iload_n rfl rfl rfl rfl ?_
  refine X_if_lt (tgt := 14) rfl rfl rfl (fun h1 => ?_) (fun h1 => ?_)
  · refine X_iconst (v := (0 : Int32)) rfl rfl rfl ?_
    refine LW_ireturn (st := []) rfl rfl rfl ?_
    refine X_if_ne (tgt := 10) rfl rfl rfl (fun q => absurd q (by decide)) (fun _ => ?_)
    refine X_bipush (v := (-2 : Int32)) rfl rfl rfl ?_
    refine LW_ireturn (st := []) rfl rfl rfl ⟨congrArg (fun z => some (Value.int z)) ?_, E⟩
    simp only [Int32.lt_iff_toInt_lt, Int32.le_iff_toInt_le, ← Int32.toInt_inj, (show (0 : Int32).toInt = 0 from rfl)] at h1
    unfold f_of
    repeat' split
    all_goals first | rfl | (exfalso; omega) | (refine Int32.toInt_inj.mp ?_; rw [show (0 : Int32).toInt = 0 from rfl]; omega)
  · refine X_iload_n rfl rfl rfl rfl ?_
    refine X_bipush (v := (26 : Int32)) rfl rfl rfl ?_
    refine X_icmp_ge (tgt := 14) rfl rfl rfl (fun h2 => ?_) (fun h2 => ?_)
    · refine X_iconst (v := (0 : Int32)) rfl rfl rfl ?_
      refine LW_ireturn (st := []) rfl rfl rfl ?_
      refine X_if_ne (tgt := 10) rfl rfl rfl (fun q => absurd q (by decide)) (fun _ => ?_)
      refine X_bipush (v := (-2 : Int32)) rfl rfl rfl ?_
      refine LW_ireturn (st := []) rfl rfl rfl ⟨congrArg (fun z => some (Value.int z)) ?_, E⟩
      simp only [Int32.lt_iff_toInt_lt, Int32.le_iff_toInt_le, ← Int32.toInt_inj, (show (0 : Int32).toInt = 0 from rfl), (show (26 : Int32).toInt = 26 from rfl)] at h1 h2
      unfold f_of
      repeat' split
      all_goals first | rfl | (exfalso; omega) | (refine Int32.toInt_inj.mp ?_; rw [show (0 : Int32).toInt = 0 from rfl]; omega)
    · refine X_iconst (v := (1 : Int32)) rfl rfl rfl ?_
      refine LW_goto (tgt := 15) rfl rfl ?_
      refine LW_ireturn (st := []) rfl rfl rfl ?_
      refine X_if_ne (tgt := 10) rfl rfl rfl (fun _ => ?_) (fun q => absurd q (by decide))
      refine X_iload_n rfl rfl rfl rfl ?_
      by_cases h3 : b = (0 : Int32)
      · refine LW_eqv h3 ?_
        refine LW_tableIn (tgt := 52) rfl (by decide) (by decide) rfl rfl ?_
        refine X_aload_n rfl rfl rfl rfl ?_
        refine X_getR (a := 1) rfl rfl rfl ((congrFun F.1 0).trans s_0) rfl ((congrFun (F.2.1 0 (by decide)) 0).trans r_0_0) ?_
        refine X_getR (a := 10) rfl rfl rfl ((congrFun F.1 1).trans s_1) rfl ((congrFun (F.2.1 1 (by decide)) 1).trans r_1_1) ?_
        refine X_getR (a := 11) rfl rfl rfl ((congrFun F.1 10).trans s_10) rfl ((congrFun (F.2.1 10 (by decide)) 4).trans r_10_4) ?_
        refine X_iload_n rfl rfl rfl rfl ?_
        refine X_iald (v := (1 : Int32)) rfl rfl ((congrFun F.1 11).trans s_11) (vp_in_iff.mpr (by simp only [Int32.lt_iff_toInt_lt, Int32.le_iff_toInt_le, ← Int32.toInt_inj, (show (0 : Int32).toInt = 0 from rfl), (show (26 : Int32).toInt = 26 from rfl)] at h1 h2 h3; omega)) ((congrFun (F.2.2 11 (by decide)).1 _).trans (u_11 _ (vp_lt (vp_in_iff.mpr (by simp only [Int32.lt_iff_toInt_lt, Int32.le_iff_toInt_le, ← Int32.toInt_inj, (show (0 : Int32).toInt = 0 from rfl), (show (26 : Int32).toInt = 26 from rfl)] at h1 h2 h3; omega))))) ?_
        refine LW_ireturn (st := []) rfl rfl rfl ⟨congrArg (fun z => some (Value.int z)) ?_, E⟩
        simp only [Int32.lt_iff_toInt_lt, Int32.le_iff_toInt_le, ← Int32.toInt_inj, (show (0 : Int32).toInt = 0 from rfl), (show (26 : Int32).toInt = 26 from rfl)] at h1 h2 h3
        unfold f_of
        repeat' split
        all_goals first | rfl | (exfalso; omega) | (refine Int32.toInt_inj.mp ?_; rw [show (0 : Int32).toInt = 0 from rfl]; omega)
      by_cases h4 : b = (1 : Int32)
      · refine LW_eqv h4 ?_
        refine LW_tableIn (tgt := 65) rfl (by decide) (by decide) rfl rfl ?_
        refine X_aload_n rfl rfl rfl rfl ?_
        refine X_getR (a := 1) rfl rfl rfl ((congrFun F.1 0).trans s_0) rfl ((congrFun (F.2.1 0 (by decide)) 0).trans r_0_0) ?_
        refine X_getR (a := 10) rfl rfl rfl ((congrFun F.1 1).trans s_1) rfl ((congrFun (F.2.1 1 (by decide)) 1).trans r_1_1) ?_
        refine X_getR (a := 12) rfl rfl rfl ((congrFun F.1 10).trans s_10) rfl ((congrFun (F.2.1 10 (by decide)) 5).trans r_10_5) ?_
        refine X_iload_n rfl rfl rfl rfl ?_
        refine X_iald (v := (0 : Int32)) rfl rfl ((congrFun F.1 12).trans s_12) (vp_in_iff.mpr (by simp only [Int32.lt_iff_toInt_lt, Int32.le_iff_toInt_le, ← Int32.toInt_inj, (show (0 : Int32).toInt = 0 from rfl), (show (1 : Int32).toInt = 1 from rfl), (show (26 : Int32).toInt = 26 from rfl)] at h1 h2 h3 h4; omega)) ((congrFun (F.2.2 12 (by decide)).1 _).trans (u_12 _ (vp_lt (vp_in_iff.mpr (by simp only [Int32.lt_iff_toInt_lt, Int32.le_iff_toInt_le, ← Int32.toInt_inj, (show (0 : Int32).toInt = 0 from rfl), (show (1 : Int32).toInt = 1 from rfl), (show (26 : Int32).toInt = 26 from rfl)] at h1 h2 h3 h4; omega))))) ?_
        refine LW_ireturn (st := []) rfl rfl rfl ⟨congrArg (fun z => some (Value.int z)) ?_, E⟩
        simp only [Int32.lt_iff_toInt_lt, Int32.le_iff_toInt_le, ← Int32.toInt_inj, (show (0 : Int32).toInt = 0 from rfl), (show (1 : Int32).toInt = 1 from rfl), (show (26 : Int32).toInt = 26 from rfl)] at h1 h2 h3 h4
        unfold f_of
        repeat' split
        all_goals first | rfl | (exfalso; omega) | (refine Int32.toInt_inj.mp ?_; rw [show (0 : Int32).toInt = 0 from rfl]; omega)
      by_cases h5 : b = (2 : Int32)
      · refine LW_eqv h5 ?_
        refine LW_tableIn (tgt := 78) rfl (by decide) (by decide) rfl rfl ?_
        refine X_aload_n rfl rfl rfl rfl ?_
        refine X_getR (a := 1) rfl rfl rfl ((congrFun F.1 0).trans s_0) rfl ((congrFun (F.2.1 0 (by decide)) 0).trans r_0_0) ?_
        refine X_getR (a := 10) rfl rfl rfl ((congrFun F.1 1).trans s_1) rfl ((congrFun (F.2.1 1 (by decide)) 1).trans r_1_1) ?_
        refine X_iload_n rfl rfl rfl rfl ?_
        refine X_callV (as := [.int a]) (st := []) rfl rfl rfl (by decide) rfl (Nat.le_of_ble_eq_true rfl) (by decide) (Nat.le_of_ble_eq_true rfl) rfl ((congrFun F.1 10).trans s_10) (by decide) ?_
        refine LW_ls (ls' := [some (.ref 10), some (.int a)]) rfl ?_
        refine X_aload_n rfl rfl rfl rfl ?_
        refine X_getI (v := (0 : Int32)) rfl rfl rfl ((congrFun F.1 10).trans s_10) rfl ((congrFun (F.2.2 10 (by decide)).1 0).trans i_10_0) ?_
        refine X_iload_n rfl rfl rfl rfl ?_
        refine X_ishr (v := (0 : Int32)) rfl rfl (by simp) ?_
        refine X_iconst (v := (1 : Int32)) rfl rfl rfl ?_
        refine X_iand (v := (0 : Int32)) rfl rfl rfl ?_
        refine X_if_eq (tgt := 15) rfl rfl rfl (fun _ => ?_) (fun q => absurd q (by decide))
        refine X_iconst (v := (0 : Int32)) rfl rfl rfl ?_
        refine LW_ireturn (st := []) rfl rfl rfl ?_
        refine X_if_eq (tgt := 96) rfl rfl rfl (fun _ => ?_) (fun q => absurd q (by decide))
        refine X_iconst (v := (0 : Int32)) rfl rfl rfl ?_
        refine LW_ireturn (st := []) rfl rfl rfl ⟨congrArg (fun z => some (Value.int z)) ?_, E⟩
        simp only [Int32.lt_iff_toInt_lt, Int32.le_iff_toInt_le, ← Int32.toInt_inj, (show (0 : Int32).toInt = 0 from rfl), (show (1 : Int32).toInt = 1 from rfl), (show (2 : Int32).toInt = 2 from rfl), (show (26 : Int32).toInt = 26 from rfl)] at h1 h2 h3 h4 h5
        unfold f_of
        repeat' split
        all_goals first | rfl | (exfalso; omega) | (refine Int32.toInt_inj.mp ?_; rw [show (0 : Int32).toInt = 0 from rfl]; omega)
      by_cases h6 : b = (3 : Int32)
      · refine LW_eqv h6 ?_
        refine LW_tableIn (tgt := 98) rfl (by decide) (by decide) rfl rfl ?_
        refine X_aload_n rfl rfl rfl rfl ?_
        refine X_getR (a := 1) rfl rfl rfl ((congrFun F.1 0).trans s_0) rfl ((congrFun (F.2.1 0 (by decide)) 0).trans r_0_0) ?_
        refine X_getR (a := 10) rfl rfl rfl ((congrFun F.1 1).trans s_1) rfl ((congrFun (F.2.1 1 (by decide)) 1).trans r_1_1) ?_
        refine X_getR (a := 13) rfl rfl rfl ((congrFun F.1 10).trans s_10) rfl ((congrFun (F.2.1 10 (by decide)) 6).trans r_10_6) ?_
        refine X_iload_n rfl rfl rfl rfl ?_
        refine X_iald (v := (-1 : Int32)) rfl rfl ((congrFun F.1 13).trans s_13) (vp_in_iff.mpr (by simp only [Int32.lt_iff_toInt_lt, Int32.le_iff_toInt_le, ← Int32.toInt_inj, (show (0 : Int32).toInt = 0 from rfl), (show (1 : Int32).toInt = 1 from rfl), (show (2 : Int32).toInt = 2 from rfl), (show (3 : Int32).toInt = 3 from rfl), (show (26 : Int32).toInt = 26 from rfl)] at h1 h2 h3 h4 h5 h6; omega)) ((congrFun (F.2.2 13 (by decide)).1 _).trans (u_13 _ (vp_lt (vp_in_iff.mpr (by simp only [Int32.lt_iff_toInt_lt, Int32.le_iff_toInt_le, ← Int32.toInt_inj, (show (0 : Int32).toInt = 0 from rfl), (show (1 : Int32).toInt = 1 from rfl), (show (2 : Int32).toInt = 2 from rfl), (show (3 : Int32).toInt = 3 from rfl), (show (26 : Int32).toInt = 26 from rfl)] at h1 h2 h3 h4 h5 h6; omega))))) ?_
        refine LW_ireturn (st := []) rfl rfl rfl ⟨congrArg (fun z => some (Value.int z)) ?_, E⟩
        simp only [Int32.lt_iff_toInt_lt, Int32.le_iff_toInt_le, ← Int32.toInt_inj, (show (0 : Int32).toInt = 0 from rfl), (show (1 : Int32).toInt = 1 from rfl), (show (2 : Int32).toInt = 2 from rfl), (show (3 : Int32).toInt = 3 from rfl), (show (26 : Int32).toInt = 26 from rfl)] at h1 h2 h3 h4 h5 h6
        unfold f_of
        repeat' split
        all_goals first | rfl | (exfalso; omega) | (refine Int32.toInt_inj.mp ?_; rw [show (0 : Int32).toInt = 0 from rfl]; omega)
      by_cases h7 : b = (4 : Int32)
      · refine LW_eqv h7 ?_
        refine LW_tableIn (tgt := 111) rfl (by decide) (by decide) rfl rfl ?_
        refine X_aload_n rfl rfl rfl rfl ?_
        refine X_getR (a := 1) rfl rfl rfl ((congrFun F.1 0).trans s_0) rfl ((congrFun (F.2.1 0 (by decide)) 0).trans r_0_0) ?_
        refine X_getR (a := 141) rfl rfl rfl ((congrFun F.1 1).trans s_1) rfl ((congrFun (F.2.1 1 (by decide)) 4).trans r_1_4) ?_
        refine X_iload_n rfl rfl rfl rfl ?_
        refine X_iald (v := (0 : Int32)) rfl rfl ((congrFun F.1 141).trans s_141) (vp_in_iff.mpr (by simp only [Int32.lt_iff_toInt_lt, Int32.le_iff_toInt_le, ← Int32.toInt_inj, (show (0 : Int32).toInt = 0 from rfl), (show (1 : Int32).toInt = 1 from rfl), (show (2 : Int32).toInt = 2 from rfl), (show (3 : Int32).toInt = 3 from rfl), (show (4 : Int32).toInt = 4 from rfl), (show (26 : Int32).toInt = 26 from rfl)] at h1 h2 h3 h4 h5 h6 h7; omega)) ((congrFun (F.2.2 141 (by decide)).1 _).trans (u_141 _ (vp_lt (vp_in_iff.mpr (by simp only [Int32.lt_iff_toInt_lt, Int32.le_iff_toInt_le, ← Int32.toInt_inj, (show (0 : Int32).toInt = 0 from rfl), (show (1 : Int32).toInt = 1 from rfl), (show (2 : Int32).toInt = 2 from rfl), (show (3 : Int32).toInt = 3 from rfl), (show (4 : Int32).toInt = 4 from rfl), (show (26 : Int32).toInt = 26 from rfl)] at h1 h2 h3 h4 h5 h6 h7; omega))))) ?_
        refine LW_ireturn (st := []) rfl rfl rfl ⟨congrArg (fun z => some (Value.int z)) ?_, E⟩
        simp only [Int32.lt_iff_toInt_lt, Int32.le_iff_toInt_le, ← Int32.toInt_inj, (show (0 : Int32).toInt = 0 from rfl), (show (1 : Int32).toInt = 1 from rfl), (show (2 : Int32).toInt = 2 from rfl), (show (3 : Int32).toInt = 3 from rfl), (show (4 : Int32).toInt = 4 from rfl), (show (26 : Int32).toInt = 26 from rfl)] at h1 h2 h3 h4 h5 h6 h7
        unfold f_of
        repeat' split
        all_goals first | rfl | (exfalso; omega) | (refine Int32.toInt_inj.mp ?_; rw [show (0 : Int32).toInt = 0 from rfl]; omega)
      by_cases h8 : b = (5 : Int32)
      · refine LW_eqv h8 ?_
        refine LW_tableIn (tgt := 121) rfl (by decide) (by decide) rfl rfl ?_
        refine X_aload_n rfl rfl rfl rfl ?_
        refine X_getR (a := 1) rfl rfl rfl ((congrFun F.1 0).trans s_0) rfl ((congrFun (F.2.1 0 (by decide)) 0).trans r_0_0) ?_
        refine X_getR (a := 2) rfl rfl rfl ((congrFun F.1 1).trans s_1) rfl ((congrFun (F.2.1 1 (by decide)) 0).trans r_1_0) ?_
        refine X_iload_n rfl rfl rfl rfl ?_
        refine X_callV (as := [.int a]) (st := []) rfl rfl rfl (by decide) rfl (Nat.le_of_ble_eq_true rfl) (by decide) (Nat.le_of_ble_eq_true rfl) rfl ((congrFun F.1 2).trans s_2) (by decide) ?_
        refine LW_ls (ls' := [some (.ref 2), some (.int a), none, none]) rfl ?_
        refine X_iconst (v := (0 : Int32)) rfl rfl rfl ?_
        refine X_istore_n (i := 2) (ls' := [some (.ref 2), some (.int a), some (.int (0 : Int32)), none]) rfl rfl rfl (Nat.le_of_ble_eq_true rfl) rfl ?_
        refine X_iconst (v := (0 : Int32)) rfl rfl rfl ?_
        refine X_istore_n (i := 3) (ls' := [some (.ref 2), some (.int a), some (.int (0 : Int32)), some (.int (0 : Int32))]) rfl rfl rfl (Nat.le_of_ble_eq_true rfl) rfl ?_
        refine X_iload_n rfl rfl rfl rfl ?_
        refine X_aload_n rfl rfl rfl rfl ?_
        refine X_getI (v := (0 : Int32)) rfl rfl rfl ((congrFun F.1 2).trans s_2) rfl ((congrFun (F.2.2 2 (by decide)).1 0).trans i_2_0) ?_
        refine X_icmp_ge (tgt := 31) rfl rfl rfl (fun _ => ?_) (fun q => absurd q (by decide))
        refine X_iload_n rfl rfl rfl rfl ?_
        refine LW_ireturn (st := []) rfl rfl rfl ?_
        refine LW_ireturn (st := []) rfl rfl rfl ⟨congrArg (fun z => some (Value.int z)) ?_, E⟩
        simp only [Int32.lt_iff_toInt_lt, Int32.le_iff_toInt_le, ← Int32.toInt_inj, (show (0 : Int32).toInt = 0 from rfl), (show (1 : Int32).toInt = 1 from rfl), (show (2 : Int32).toInt = 2 from rfl), (show (3 : Int32).toInt = 3 from rfl), (show (4 : Int32).toInt = 4 from rfl), (show (5 : Int32).toInt = 5 from rfl), (show (26 : Int32).toInt = 26 from rfl)] at h1 h2 h3 h4 h5 h6 h7 h8
        unfold f_of
        repeat' split
        all_goals first | rfl | (exfalso; omega) | (refine Int32.toInt_inj.mp ?_; rw [show (0 : Int32).toInt = 0 from rfl]; omega)
      by_cases h9 : b = (6 : Int32)
      · refine LW_eqv h9 ?_
        refine LW_tableIn (tgt := 133) rfl (by decide) (by decide) rfl rfl ?_
        refine X_aload_n rfl rfl rfl rfl ?_
        refine X_getR (a := 339) rfl rfl rfl ((congrFun F.1 0).trans s_0) rfl ((congrFun (F.2.1 0 (by decide)) 5).trans r_0_5) ?_
        refine X_iload_n rfl rfl rfl rfl ?_
        refine X_callV (as := [.int a]) (st := []) rfl rfl rfl (by decide) rfl (Nat.le_of_ble_eq_true rfl) (by decide) (Nat.le_of_ble_eq_true rfl) rfl ((congrFun F.1 339).trans s_339) (by decide) ?_
        refine LW_ls (ls' := [some (.ref 339), some (.int a), none, none, none, none]) rfl ?_
        refine X_aload_n rfl rfl rfl rfl ?_
        refine X_getR (a := 1) rfl rfl rfl ((congrFun F.1 339).trans s_339) rfl ((congrFun (F.2.1 339 (by decide)) 0).trans r_339_0) ?_
        refine X_getR (a := 10) rfl rfl rfl ((congrFun F.1 1).trans s_1) rfl ((congrFun (F.2.1 1 (by decide)) 1).trans r_1_1) ?_
        refine X_astore_n (i := 2) (ls' := [some (.ref 339), some (.int a), some (.ref 10), none, none, none]) rfl rfl rfl (Nat.le_of_ble_eq_true rfl) rfl ?_
        refine X_aload_n rfl rfl rfl rfl ?_
        refine X_getR (a := 1) rfl rfl rfl ((congrFun F.1 339).trans s_339) rfl ((congrFun (F.2.1 339 (by decide)) 0).trans r_339_0) ?_
        refine X_getR (a := 141) rfl rfl rfl ((congrFun F.1 1).trans s_1) rfl ((congrFun (F.2.1 1 (by decide)) 4).trans r_1_4) ?_
        refine X_iload_n rfl rfl rfl rfl ?_
        refine X_iald (v := (0 : Int32)) rfl rfl ((congrFun F.1 141).trans s_141) (vp_in_iff.mpr (by simp only [Int32.lt_iff_toInt_lt, Int32.le_iff_toInt_le, ← Int32.toInt_inj, (show (0 : Int32).toInt = 0 from rfl), (show (1 : Int32).toInt = 1 from rfl), (show (2 : Int32).toInt = 2 from rfl), (show (3 : Int32).toInt = 3 from rfl), (show (4 : Int32).toInt = 4 from rfl), (show (5 : Int32).toInt = 5 from rfl), (show (6 : Int32).toInt = 6 from rfl), (show (26 : Int32).toInt = 26 from rfl)] at h1 h2 h3 h4 h5 h6 h7 h8 h9; omega)) ((congrFun (F.2.2 141 (by decide)).1 _).trans (u_141 _ (vp_lt (vp_in_iff.mpr (by simp only [Int32.lt_iff_toInt_lt, Int32.le_iff_toInt_le, ← Int32.toInt_inj, (show (0 : Int32).toInt = 0 from rfl), (show (1 : Int32).toInt = 1 from rfl), (show (2 : Int32).toInt = 2 from rfl), (show (3 : Int32).toInt = 3 from rfl), (show (4 : Int32).toInt = 4 from rfl), (show (5 : Int32).toInt = 5 from rfl), (show (6 : Int32).toInt = 6 from rfl), (show (26 : Int32).toInt = 26 from rfl)] at h1 h2 h3 h4 h5 h6 h7 h8 h9; omega))))) ?_
        refine X_aload_n rfl rfl rfl rfl ?_
        refine X_getI (v := (0 : Int32)) rfl rfl rfl ((congrFun F.1 10).trans s_10) rfl ((congrFun (F.2.2 10 (by decide)).1 0).trans i_10_0) ?_
        refine X_iand (v := (0 : Int32)) rfl rfl rfl ?_
        refine X_callS (as := [.int (0 : Int32)]) (st := []) rfl rfl rfl (by decide) rfl (Nat.le_of_ble_eq_true rfl) (by decide) (Nat.le_of_ble_eq_true rfl) rfl ?_
        refine LW_ls (ls' := [some (.int (0 : Int32))]) rfl ?_
        refine X_iload_n rfl rfl rfl rfl ?_
        refine X_iload_n rfl rfl rfl rfl ?_
        refine X_iconst (v := (1 : Int32)) rfl rfl rfl ?_
        refine X_iushr (v := (0 : Int32)) rfl rfl rfl ?_
        refine X_ldcw (v := (1431655765 : Int32)) rfl rfl rfl ?_
        refine X_iand (v := (0 : Int32)) rfl rfl rfl ?_
        refine X_isub (v := (0 : Int32)) rfl rfl rfl ?_
        refine X_istore_n (i := 0) (ls' := [some (.int (0 : Int32))]) rfl rfl rfl (Nat.le_of_ble_eq_true rfl) rfl ?_
        refine X_iload_n rfl rfl rfl rfl ?_
        refine X_ldcw (v := (858993459 : Int32)) rfl rfl rfl ?_
        refine X_iand (v := (0 : Int32)) rfl rfl rfl ?_
        refine X_iload_n rfl rfl rfl rfl ?_
        refine X_iconst (v := (2 : Int32)) rfl rfl rfl ?_
        refine X_iushr (v := (0 : Int32)) rfl rfl rfl ?_
        refine X_ldcw (v := (858993459 : Int32)) rfl rfl rfl ?_
        refine X_iand (v := (0 : Int32)) rfl rfl rfl ?_
        refine X_iadd (v := (0 : Int32)) rfl rfl rfl ?_
        refine X_istore_n (i := 0) (ls' := [some (.int (0 : Int32))]) rfl rfl rfl (Nat.le_of_ble_eq_true rfl) rfl ?_
        refine X_iload_n rfl rfl rfl rfl ?_
        refine X_iload_n rfl rfl rfl rfl ?_
        refine X_iconst (v := (4 : Int32)) rfl rfl rfl ?_
        refine X_iushr (v := (0 : Int32)) rfl rfl rfl ?_
        refine X_iadd (v := (0 : Int32)) rfl rfl rfl ?_
        refine X_ldcw (v := (252645135 : Int32)) rfl rfl rfl ?_
        refine X_iand (v := (0 : Int32)) rfl rfl rfl ?_
        refine X_istore_n (i := 0) (ls' := [some (.int (0 : Int32))]) rfl rfl rfl (Nat.le_of_ble_eq_true rfl) rfl ?_
        refine X_iload_n rfl rfl rfl rfl ?_
        refine X_iload_n rfl rfl rfl rfl ?_
        refine X_bipush (v := (8 : Int32)) rfl rfl rfl ?_
        refine X_iushr (v := (0 : Int32)) rfl rfl rfl ?_
        refine X_iadd (v := (0 : Int32)) rfl rfl rfl ?_
        refine X_istore_n (i := 0) (ls' := [some (.int (0 : Int32))]) rfl rfl rfl (Nat.le_of_ble_eq_true rfl) rfl ?_
        refine X_iload_n rfl rfl rfl rfl ?_
        refine X_iload_n rfl rfl rfl rfl ?_
        refine X_bipush (v := (16 : Int32)) rfl rfl rfl ?_
        refine X_iushr (v := (0 : Int32)) rfl rfl rfl ?_
        refine X_iadd (v := (0 : Int32)) rfl rfl rfl ?_
        refine X_istore_n (i := 0) (ls' := [some (.int (0 : Int32))]) rfl rfl rfl (Nat.le_of_ble_eq_true rfl) rfl ?_
        refine X_iload_n rfl rfl rfl rfl ?_
        refine X_bipush (v := (63 : Int32)) rfl rfl rfl ?_
        refine X_iand (v := (0 : Int32)) rfl rfl rfl ?_
        refine LW_ireturn (st := []) rfl rfl rfl ?_
        refine X_istore_n (i := 3) (ls' := [some (.ref 339), some (.int a), some (.ref 10), some (.int (0 : Int32)), none, none]) rfl rfl rfl (Nat.le_of_ble_eq_true rfl) rfl ?_
        refine X_aload_n rfl rfl rfl rfl ?_
        refine X_iload_n rfl rfl rfl rfl ?_
        refine X_callV (as := [.int a]) (st := []) rfl rfl rfl (by decide) rfl (Nat.le_of_ble_eq_true rfl) (by decide) (Nat.le_of_ble_eq_true rfl) rfl ((congrFun F.1 10).trans s_10) (by decide) ?_
        refine LW_ls (ls' := [some (.ref 10), some (.int a)]) rfl ?_
        refine X_aload_n rfl rfl rfl rfl ?_
        refine X_getI (v := (0 : Int32)) rfl rfl rfl ((congrFun F.1 10).trans s_10) rfl ((congrFun (F.2.2 10 (by decide)).1 0).trans i_10_0) ?_
        refine X_iload_n rfl rfl rfl rfl ?_
        refine X_ishr (v := (0 : Int32)) rfl rfl (by simp) ?_
        refine X_iconst (v := (1 : Int32)) rfl rfl rfl ?_
        refine X_iand (v := (0 : Int32)) rfl rfl rfl ?_
        refine X_if_eq (tgt := 15) rfl rfl rfl (fun _ => ?_) (fun q => absurd q (by decide))
        refine X_iconst (v := (0 : Int32)) rfl rfl rfl ?_
        refine LW_ireturn (st := []) rfl rfl rfl ?_
        refine X_if_eq (tgt := 38) rfl rfl rfl (fun _ => ?_) (fun q => absurd q (by decide))
        refine X_iconst (v := (0 : Int32)) rfl rfl rfl ?_
        refine X_istore (i := 4) (ls' := [some (.ref 339), some (.int a), some (.ref 10), some (.int (0 : Int32)), some (.int (0 : Int32)), none]) rfl rfl (Nat.le_of_ble_eq_true rfl) rfl ?_
        refine X_aload_n rfl rfl rfl rfl ?_
        refine X_iload rfl rfl rfl ?_
        refine X_callV (as := [.int (0 : Int32)]) (st := []) rfl rfl rfl (by decide) rfl (Nat.le_of_ble_eq_true rfl) (by decide) (Nat.le_of_ble_eq_true rfl) rfl ((congrFun F.1 339).trans s_339) (by decide) ?_
        refine LW_ls (ls' := [some (.ref 339), some (.int (0 : Int32)), none, none]) rfl ?_
        refine X_aload_n rfl rfl rfl rfl ?_
        refine X_getR (a := 1) rfl rfl rfl ((congrFun F.1 339).trans s_339) rfl ((congrFun (F.2.1 339 (by decide)) 0).trans r_339_0) ?_
        refine X_getI (v := (-1 : Int32)) rfl rfl rfl ((congrFun F.1 1).trans s_1) rfl ((congrFun (F.2.2 1 (by decide)).1 6).trans i_1_6) ?_
        refine X_istore_n (i := 2) (ls' := [some (.ref 339), some (.int (0 : Int32)), some (.int (-1 : Int32)), none]) rfl rfl rfl (Nat.le_of_ble_eq_true rfl) rfl ?_
        refine X_iload_n rfl rfl rfl rfl ?_
        refine X_if_lt (tgt := 38) rfl rfl rfl (fun _ => ?_) (fun q => absurd q (by decide))
        refine X_iconst (v := (0 : Int32)) rfl rfl rfl ?_
        refine X_istore_n (i := 3) (ls' := [some (.ref 339), some (.int (0 : Int32)), some (.int (-1 : Int32)), some (.int (0 : Int32))]) rfl rfl rfl (Nat.le_of_ble_eq_true rfl) rfl ?_
        refine X_iload_n rfl rfl rfl rfl ?_
        refine X_if_eq (tgt := 53) rfl rfl rfl (fun _ => ?_) (fun q => absurd q (by decide))
        refine X_null rfl rfl ?_
        refine LW_areturnN (st := []) rfl rfl (Or.inl ⟨_, rfl⟩) ?_
        refine X_astoreN (i := 5) (ls' := [some (.ref 339), some (.int a), some (.ref 10), some (.int (0 : Int32)), some (.int (0 : Int32)), some (.null)]) rfl rfl (Nat.le_of_ble_eq_true rfl) rfl ?_
        refine X_aloadN rfl rfl rfl ?_
        refine X_ifnonnullN (tgt := 98) rfl rfl rfl ?_
        refine X_iload rfl rfl rfl ?_
        refine X_iconst (v := (1 : Int32)) rfl rfl rfl ?_
        refine X_icmp_ne (tgt := 79) rfl rfl rfl (fun _ => ?_) (fun q => absurd q (by decide))
        refine X_iload_n rfl rfl rfl rfl ?_
        refine X_if_le (tgt := 96) rfl rfl rfl (fun _ => ?_) (fun q => absurd q (by decide))
        refine X_iconst (v := (0 : Int32)) rfl rfl rfl ?_
        refine LW_ireturn (st := []) rfl rfl rfl ?_
        refine X_if_eq (tgt := 148) rfl rfl rfl (fun _ => ?_) (fun q => absurd q (by decide))
        refine X_iconst (v := (0 : Int32)) rfl rfl rfl ?_
        refine LW_ireturn (st := []) rfl rfl rfl ⟨congrArg (fun z => some (Value.int z)) ?_, E⟩
        simp only [Int32.lt_iff_toInt_lt, Int32.le_iff_toInt_le, ← Int32.toInt_inj, (show (0 : Int32).toInt = 0 from rfl), (show (1 : Int32).toInt = 1 from rfl), (show (2 : Int32).toInt = 2 from rfl), (show (3 : Int32).toInt = 3 from rfl), (show (4 : Int32).toInt = 4 from rfl), (show (5 : Int32).toInt = 5 from rfl), (show (6 : Int32).toInt = 6 from rfl), (show (26 : Int32).toInt = 26 from rfl)] at h1 h2 h3 h4 h5 h6 h7 h8 h9
        unfold f_of
        repeat' split
        all_goals first | rfl | (exfalso; omega) | (refine Int32.toInt_inj.mp ?_; rw [show (0 : Int32).toInt = 0 from rfl]; omega)
      refine LW_tableOut (tgt := 150) rfl (by simp only [Int32.lt_iff_toInt_lt, Int32.le_iff_toInt_le, ← Int32.toInt_inj, (show (0 : Int32).toInt = 0 from rfl), (show (1 : Int32).toInt = 1 from rfl), (show (2 : Int32).toInt = 2 from rfl), (show (3 : Int32).toInt = 3 from rfl), (show (4 : Int32).toInt = 4 from rfl), (show (5 : Int32).toInt = 5 from rfl), (show (6 : Int32).toInt = 6 from rfl), (show (26 : Int32).toInt = 26 from rfl)] at h1 h2 h3 h4 h5 h6 h7 h8 h9; omega) rfl ?_
      refine X_bipush (v := (-2 : Int32)) rfl rfl rfl ?_
      refine LW_ireturn (st := []) rfl rfl rfl ⟨congrArg (fun z => some (Value.int z)) ?_, E⟩
      simp only [Int32.lt_iff_toInt_lt, Int32.le_iff_toInt_le, ← Int32.toInt_inj, (show (0 : Int32).toInt = 0 from rfl), (show (1 : Int32).toInt = 1 from rfl), (show (2 : Int32).toInt = 2 from rfl), (show (3 : Int32).toInt = 3 from rfl), (show (4 : Int32).toInt = 4 from rfl), (show (5 : Int32).toInt = 5 from rfl), (show (6 : Int32).toInt = 6 from rfl), (show (26 : Int32).toInt = 26 from rfl)] at h1 h2 h3 h4 h5 h6 h7 h8 h9
      unfold f_of
      repeat' split
      all_goals first | rfl | (exfalso; omega) | (refine Int32.toInt_inj.mp ?_; rw [show (0 : Int32).toInt = 0 from rfl]; omega)
set_option maxRecDepth 10000 in
set_option maxHeartbeats 4000000 in
theorem c_raise {g : LH} (F : Fc g) (E : Fr g) (a : Int32) (b : Int32) : LW 137 30 0 0 0 (lEnt (mL 137) [.ref 0, .int a, .int b]) [] g (fun v g' => v = some (.int (f_raise a b)) ∧ Fr g') := by
  refine LW_ls (ls' := [some (.ref 0), some (.int a), some (.int b)]) rfl ?_
  refine X_iload_n rfl rfl rfl rfl ?_
  refine X_callS (as := [.int a]) (st := []) rfl rfl rfl (by decide) rfl (Nat.le_of_ble_eq_true rfl) (by decide) (Nat.le_of_ble_eq_true rfl) rfl ?_
  refine LW_ls (ls' := [some (.int a)]) rfl ?_
  refine X_iload_n rfl rfl rfl rfl ?_
  refine X_if_lt (tgt := 14) rfl rfl rfl (fun h1 => ?_) (fun h1 => ?_)
  · refine X_iconst (v := (0 : Int32)) rfl rfl rfl ?_
    refine LW_ireturn (st := []) rfl rfl rfl ?_
    refine X_if_eq (tgt := 33) rfl rfl rfl (fun _ => ?_) (fun q => absurd q (by decide))
    refine X_iconst (v := (0 : Int32)) rfl rfl rfl ?_
    refine LW_ireturn (st := []) rfl rfl rfl ⟨congrArg (fun z => some (Value.int z)) ?_, E⟩
    simp only [Int32.lt_iff_toInt_lt, Int32.le_iff_toInt_le, ← Int32.toInt_inj, (show (0 : Int32).toInt = 0 from rfl)] at h1
    unfold f_raise
    repeat' split
    all_goals first | rfl | (exfalso; omega) | (refine Int32.toInt_inj.mp ?_; rw [show (0 : Int32).toInt = 0 from rfl]; omega)
  · refine X_iload_n rfl rfl rfl rfl ?_
    refine X_bipush (v := (26 : Int32)) rfl rfl rfl ?_
    refine X_icmp_ge (tgt := 14) rfl rfl rfl (fun h2 => ?_) (fun h2 => ?_)
    · refine X_iconst (v := (0 : Int32)) rfl rfl rfl ?_
      refine LW_ireturn (st := []) rfl rfl rfl ?_
      refine X_if_eq (tgt := 33) rfl rfl rfl (fun _ => ?_) (fun q => absurd q (by decide))
      refine X_iconst (v := (0 : Int32)) rfl rfl rfl ?_
      refine LW_ireturn (st := []) rfl rfl rfl ⟨congrArg (fun z => some (Value.int z)) ?_, E⟩
      simp only [Int32.lt_iff_toInt_lt, Int32.le_iff_toInt_le, ← Int32.toInt_inj, (show (0 : Int32).toInt = 0 from rfl), (show (26 : Int32).toInt = 26 from rfl)] at h1 h2
      unfold f_raise
      repeat' split
      all_goals first | rfl | (exfalso; omega) | (refine Int32.toInt_inj.mp ?_; rw [show (0 : Int32).toInt = 0 from rfl]; omega)
    · refine X_iconst (v := (1 : Int32)) rfl rfl rfl ?_
      refine LW_goto (tgt := 15) rfl rfl ?_
      refine LW_ireturn (st := []) rfl rfl rfl ?_
      refine X_if_eq (tgt := 33) rfl rfl rfl (fun q => absurd q (by decide)) (fun _ => ?_)
      refine X_iload_n rfl rfl rfl rfl ?_
      refine X_if_lt (tgt := 33) rfl rfl rfl (fun h3 => ?_) (fun h3 => ?_)
      · refine X_iconst (v := (0 : Int32)) rfl rfl rfl ?_
        refine LW_ireturn (st := []) rfl rfl rfl ⟨congrArg (fun z => some (Value.int z)) ?_, E⟩
        simp only [Int32.lt_iff_toInt_lt, Int32.le_iff_toInt_le, ← Int32.toInt_inj, (show (0 : Int32).toInt = 0 from rfl), (show (26 : Int32).toInt = 26 from rfl)] at h1 h2 h3
        unfold f_raise
        repeat' split
        all_goals first | rfl | (exfalso; omega) | (refine Int32.toInt_inj.mp ?_; rw [show (0 : Int32).toInt = 0 from rfl]; omega)
      · refine X_iload_n rfl rfl rfl rfl ?_
        refine X_bipush (v := (99 : Int32)) rfl rfl rfl ?_
        refine X_icmp_gt (tgt := 33) rfl rfl rfl (fun h4 => ?_) (fun h4 => ?_)
        · refine X_iconst (v := (0 : Int32)) rfl rfl rfl ?_
          refine LW_ireturn (st := []) rfl rfl rfl ⟨congrArg (fun z => some (Value.int z)) ?_, E⟩
          simp only [Int32.lt_iff_toInt_lt, Int32.le_iff_toInt_le, ← Int32.toInt_inj, (show (0 : Int32).toInt = 0 from rfl), (show (26 : Int32).toInt = 26 from rfl), (show (99 : Int32).toInt = 99 from rfl)] at h1 h2 h3 h4
          unfold f_raise
          repeat' split
          all_goals first | rfl | (exfalso; omega) | (refine Int32.toInt_inj.mp ?_; rw [show (0 : Int32).toInt = 0 from rfl]; omega)
        · refine X_aload_n rfl rfl rfl rfl ?_
          refine X_getR (a := 342) rfl rfl rfl ((congrFun F.1 0).trans s_0) rfl ((congrFun (F.2.1 0 (by decide)) 6).trans r_0_6) ?_
          refine X_iload_n rfl rfl rfl rfl ?_
          refine X_iload_n rfl rfl rfl rfl ?_
          refine X_callV (as := [.int a, .int b]) (st := []) rfl rfl rfl (by decide) rfl (Nat.le_of_ble_eq_true rfl) (by decide) (Nat.le_of_ble_eq_true rfl) rfl ((congrFun F.1 342).trans s_342) (by decide) ?_
          refine LW_ls (ls' := [some (.ref 342), some (.int a), some (.int b)]) rfl ?_
          refine X_aload_n rfl rfl rfl rfl ?_
          refine X_getR (a := 10) rfl rfl rfl ((congrFun F.1 342).trans s_342) rfl ((congrFun (F.2.1 342 (by decide)) 1).trans r_342_1) ?_
          refine X_getR (a := 11) rfl rfl rfl ((congrFun F.1 10).trans s_10) rfl ((congrFun (F.2.1 10 (by decide)) 4).trans r_10_4) ?_
          refine X_iload_n rfl rfl rfl rfl ?_
          refine X_iald (v := (1 : Int32)) rfl rfl ((congrFun F.1 11).trans s_11) (vp_in_iff.mpr (by simp only [Int32.lt_iff_toInt_lt, Int32.le_iff_toInt_le, ← Int32.toInt_inj, (show (0 : Int32).toInt = 0 from rfl), (show (26 : Int32).toInt = 26 from rfl), (show (99 : Int32).toInt = 99 from rfl)] at h1 h2 h3 h4; omega)) ((congrFun (F.2.2 11 (by decide)).1 _).trans (u_11 _ (vp_lt (vp_in_iff.mpr (by simp only [Int32.lt_iff_toInt_lt, Int32.le_iff_toInt_le, ← Int32.toInt_inj, (show (0 : Int32).toInt = 0 from rfl), (show (26 : Int32).toInt = 26 from rfl), (show (99 : Int32).toInt = 99 from rfl)] at h1 h2 h3 h4; omega))))) ?_
          refine X_iload_n rfl rfl rfl rfl ?_
          refine X_icmp_ne (tgt := 15) rfl rfl rfl (fun h5 => ?_) (fun h5 => ?_)
          · refine X_aload_n rfl rfl rfl rfl ?_
            refine X_getR (a := 1) rfl rfl rfl ((congrFun F.1 342).trans s_342) rfl ((congrFun (F.2.1 342 (by decide)) 0).trans r_342_0) ?_
            refine X_getR (a := 14) rfl rfl rfl ((congrFun F.1 1).trans s_1) rfl ((congrFun (F.2.1 1 (by decide)) 2).trans r_1_2) ?_
            refine X_aload_n rfl rfl rfl rfl ?_
            refine X_getR (a := 10) rfl rfl rfl ((congrFun F.1 342).trans s_342) rfl ((congrFun (F.2.1 342 (by decide)) 1).trans r_342_1) ?_
            refine X_callV (as := [.ref 10]) (st := []) rfl rfl rfl (by decide) rfl (Nat.le_of_ble_eq_true rfl) (by decide) (Nat.le_of_ble_eq_true rfl) rfl ((congrFun F.1 14).trans s_14) (by decide) ?_
            refine LW_ls (ls' := [some (.ref 14), some (.ref 10)]) rfl ?_
            refine X_aload_n rfl rfl rfl rfl ?_
            refine X_getI (v := (0 : Int32)) rfl rfl rfl ((congrFun F.1 14).trans s_14) rfl ((congrFun (F.2.2 14 (by decide)).1 0).trans i_14_0) ?_
            refine X_bipush (v := (30 : Int32)) rfl rfl rfl ?_
            refine X_icmp_ne (tgt := 32) rfl rfl rfl (fun _ => ?_) (fun q => absurd q (by decide))
            refine X_aload_n rfl rfl rfl rfl ?_
            refine X_getR (a := 15) rfl rfl rfl ((congrFun F.1 14).trans s_14) rfl ((congrFun (F.2.1 14 (by decide)) 2).trans r_14_2) ?_
            refine X_aload_n rfl rfl rfl rfl ?_
            refine X_getI (v := (0 : Int32)) rfl rfl rfl ((congrFun F.1 14).trans s_14) rfl ((congrFun (F.2.2 14 (by decide)).1 1).trans i_14_1) ?_
            refine X_aload_n rfl rfl rfl rfl ?_
            refine X_getI (v := (0 : Int32)) rfl rfl rfl ((congrFun F.1 14).trans s_14) rfl ((congrFun (F.2.2 14 (by decide)).1 0).trans i_14_0) ?_
            refine X_iadd (v := (0 : Int32)) rfl rfl rfl ?_
            refine X_bipush (v := (30 : Int32)) rfl rfl rfl ?_
            refine X_irem (v := (0 : Int32)) rfl rfl (by decide) rfl ?_
            refine X_aald (a := 16) (t0 := 3) rfl rfl ((congrFun F.1 15).trans s_15) rfl (vp_in_d rfl) ((congrFun (F.2.1 15 (by decide)) 0).trans r_15_0) ?_
            refine X_aload_n rfl rfl rfl rfl ?_
            refine X_callV (as := [.ref 10]) (st := []) rfl rfl rfl (by decide) rfl (Nat.le_of_ble_eq_true rfl) (by decide) (Nat.le_of_ble_eq_true rfl) rfl ((congrFun F.1 16).trans s_16) (by decide) ?_
            refine LW_ls (ls' := [some (.ref 16), some (.ref 10)]) rfl ?_
            refine X_aload_n rfl rfl rfl rfl ?_
            refine X_aload_n rfl rfl rfl rfl ?_
            refine X_getI (v := (0 : Int32)) rfl rfl rfl ((congrFun F.1 10).trans s_10) rfl ((congrFun (F.2.2 10 (by decide)).1 0).trans i_10_0) ?_
            refine X_putI rfl rfl rfl ((congrFun F.1 16).trans s_16) rfl rfl rfl rfl ?_
            refine X_aload_n rfl rfl rfl rfl ?_
            refine X_aload_n rfl rfl rfl rfl ?_
            refine X_getI (v := (0 : Int32)) rfl rfl rfl ((congrFun F.1 10).trans s_10) rfl ((congrFun (F.2.2 10 (by decide)).1 1).trans i_10_1) ?_
            refine X_putI rfl rfl rfl ((congrFun F.1 16).trans s_16) rfl rfl rfl rfl ?_
            refine X_aload_n rfl rfl rfl rfl ?_
            refine X_aload_n rfl rfl rfl rfl ?_
            refine X_getI (v := (17 : Int32)) rfl rfl rfl ((congrFun F.1 10).trans s_10) rfl ((congrFun (F.2.2 10 (by decide)).1 2).trans i_10_2) ?_
            refine X_putI rfl rfl rfl ((congrFun F.1 16).trans s_16) rfl rfl rfl rfl ?_
            refine X_aload_n rfl rfl rfl rfl ?_
            refine X_aload_n rfl rfl rfl rfl ?_
            refine X_getI (v := (0 : Int32)) rfl rfl rfl ((congrFun F.1 10).trans s_10) rfl ((congrFun (F.2.2 10 (by decide)).1 3).trans i_10_3) ?_
            refine X_putI rfl rfl rfl ((congrFun F.1 16).trans s_16) rfl rfl rfl rfl ?_
            refine X_aload_n rfl rfl rfl rfl ?_
            refine X_getR (a := 11) rfl rfl rfl ((congrFun F.1 10).trans s_10) rfl ((congrFun (F.2.1 10 (by decide)) 4).trans r_10_4) ?_
            refine X_iconst (v := (0 : Int32)) rfl rfl rfl ?_
            refine X_aload_n rfl rfl rfl rfl ?_
            refine X_getR (a := 17) rfl rfl rfl ((congrFun F.1 16).trans s_16) rfl ((congrFun (F.2.1 16 (by decide)) 4).trans r_16_4) ?_
            refine X_iconst (v := (0 : Int32)) rfl rfl rfl ?_
            refine X_bipush (v := (26 : Int32)) rfl rfl rfl ?_
            refine X_copy (sp' := 0) (dp' := 0) (n' := 26) rfl rfl rfl ((congrFun F.1 11).trans s_11) ((congrFun F.1 17).trans s_17) (by decide) (by decide) (by decide) rfl rfl rfl (by decide) (by decide) (Nat.le_of_ble_eq_true rfl) ?_
            refine X_aload_n rfl rfl rfl rfl ?_
            refine X_getR (a := 12) rfl rfl rfl ((congrFun F.1 10).trans s_10) rfl ((congrFun (F.2.1 10 (by decide)) 5).trans r_10_5) ?_
            refine X_iconst (v := (0 : Int32)) rfl rfl rfl ?_
            refine X_aload_n rfl rfl rfl rfl ?_
            refine X_getR (a := 18) rfl rfl rfl ((congrFun F.1 16).trans s_16) rfl ((congrFun (F.2.1 16 (by decide)) 5).trans r_16_5) ?_
            refine X_iconst (v := (0 : Int32)) rfl rfl rfl ?_
            refine X_bipush (v := (26 : Int32)) rfl rfl rfl ?_
            refine X_copy (sp' := 0) (dp' := 0) (n' := 26) rfl rfl rfl ((congrFun F.1 12).trans s_12) ((congrFun F.1 18).trans s_18) (by decide) (by decide) (by decide) rfl rfl rfl (by decide) (by decide) (Nat.le_of_ble_eq_true rfl) ?_
            refine X_aload_n rfl rfl rfl rfl ?_
            refine X_getR (a := 13) rfl rfl rfl ((congrFun F.1 10).trans s_10) rfl ((congrFun (F.2.1 10 (by decide)) 6).trans r_10_6) ?_
            refine X_iconst (v := (0 : Int32)) rfl rfl rfl ?_
            refine X_aload_n rfl rfl rfl rfl ?_
            refine X_getR (a := 19) rfl rfl rfl ((congrFun F.1 16).trans s_16) rfl ((congrFun (F.2.1 16 (by decide)) 6).trans r_16_6) ?_
            refine X_iconst (v := (0 : Int32)) rfl rfl rfl ?_
            refine X_bipush (v := (26 : Int32)) rfl rfl rfl ?_
            refine X_copy (sp' := 0) (dp' := 0) (n' := 26) rfl rfl rfl ((congrFun F.1 13).trans s_13) ((congrFun F.1 19).trans s_19) (by decide) (by decide) (by decide) rfl rfl rfl (by decide) (by decide) (Nat.le_of_ble_eq_true rfl) ?_
            refine LW_return (st := []) rfl rfl ?_
            refine X_aload_n rfl rfl rfl rfl ?_
            refine X_dup rfl rfl rfl ?_
            refine X_getI (v := (0 : Int32)) rfl rfl rfl ((congrFun F.1 14).trans s_14) rfl ((congrFun (F.2.2 14 (by decide)).1 0).trans i_14_0) ?_
            refine X_iconst (v := (1 : Int32)) rfl rfl rfl ?_
            refine X_iadd (v := (1 : Int32)) rfl rfl rfl ?_
            refine X_putI rfl rfl rfl ((congrFun F.1 14).trans s_14) rfl rfl rfl rfl ?_
            refine LW_return (st := []) rfl rfl ?_
            refine X_aload_n rfl rfl rfl rfl ?_
            refine X_getR (a := 10) rfl rfl rfl ((congrFun F.1 342).trans s_342) rfl ((congrFun (F.2.1 342 (by decide)) 1).trans r_342_1) ?_
            refine X_getR (a := 11) rfl rfl rfl ((congrFun F.1 10).trans s_10) rfl ((congrFun (F.2.1 10 (by decide)) 4).trans r_10_4) ?_
            refine X_iload_n rfl rfl rfl rfl ?_
            refine X_iload_n rfl rfl rfl rfl ?_
            refine X_iast (k0 := (a).toNatClampNeg) rfl rfl ((congrFun F.1 11).trans s_11) (vp_in_iff.mpr (by simp only [Int32.lt_iff_toInt_lt, Int32.le_iff_toInt_le, ← Int32.toInt_inj, (show (0 : Int32).toInt = 0 from rfl), (show (1 : Int32).toInt = 1 from rfl), (show (26 : Int32).toInt = 26 from rfl), (show (99 : Int32).toInt = 99 from rfl)] at h1 h2 h3 h4 h5; omega)) rfl ?_
            refine X_iconst (v := (1 : Int32)) rfl rfl rfl ?_
            refine LW_ireturn (st := []) rfl rfl rfl ?_
            refine X_if_eq (tgt := 33) rfl rfl rfl (fun q => absurd q (by decide)) (fun _ => ?_)
            refine X_iconst (v := (1 : Int32)) rfl rfl rfl ?_
            refine LW_goto (tgt := 34) rfl rfl ?_
            refine LW_ireturn (st := []) rfl rfl rfl ⟨congrArg (fun z => some (Value.int z)) ?_, (Fr_putI (Fr_putI (Fr_cpyI (Fr_cpyI (Fr_cpyI (Fr_putI (Fr_putI (Fr_putI (Fr_putI E (by decide)) (by decide)) (by decide)) (by decide)) (by decide)) (by decide)) (by decide)) (by decide)) (by decide))⟩
            simp only [Int32.lt_iff_toInt_lt, Int32.le_iff_toInt_le, ← Int32.toInt_inj, (show (0 : Int32).toInt = 0 from rfl), (show (1 : Int32).toInt = 1 from rfl), (show (26 : Int32).toInt = 26 from rfl), (show (99 : Int32).toInt = 99 from rfl)] at h1 h2 h3 h4 h5
            unfold f_raise
            repeat' split
            all_goals first | rfl | (exfalso; omega) | (refine Int32.toInt_inj.mp ?_; rw [show (0 : Int32).toInt = 0 from rfl]; omega)
          · refine X_iconst (v := (0 : Int32)) rfl rfl rfl ?_
            refine LW_ireturn (st := []) rfl rfl rfl ?_
            refine X_if_eq (tgt := 33) rfl rfl rfl (fun _ => ?_) (fun q => absurd q (by decide))
            refine X_iconst (v := (0 : Int32)) rfl rfl rfl ?_
            refine LW_ireturn (st := []) rfl rfl rfl ⟨congrArg (fun z => some (Value.int z)) ?_, E⟩
            simp only [Int32.lt_iff_toInt_lt, Int32.le_iff_toInt_le, ← Int32.toInt_inj, (show (0 : Int32).toInt = 0 from rfl), (show (1 : Int32).toInt = 1 from rfl), (show (26 : Int32).toInt = 26 from rfl), (show (99 : Int32).toInt = 99 from rfl)] at h1 h2 h3 h4 h5
            unfold f_raise
            repeat' split
            all_goals first | rfl | (exfalso; omega) | (refine Int32.toInt_inj.mp ?_; rw [show (0 : Int32).toInt = 0 from rfl]; omega)
set_option maxRecDepth 10000 in
set_option maxHeartbeats 4000000 in
theorem c_sign {g : LH} (F : Fc g) (E : Fr g) (a : Int32) (b : Int32) : LW 138 30 0 0 0 (lEnt (mL 138) [.ref 0, .int a, .int b]) [] g (fun v g' => v = some (.int (f_sign a b)) ∧ Fr g') := by
  refine LW_ls (ls' := [some (.ref 0), some (.int a), some (.int b)]) rfl ?_
  refine X_iload_n rfl rfl rfl rfl ?_
  refine X_callS (as := [.int a]) (st := []) rfl rfl rfl (by decide) rfl (Nat.le_of_ble_eq_true rfl) (by decide) (Nat.le_of_ble_eq_true rfl) rfl ?_
  refine LW_ls (ls' := [some (.int a)]) rfl ?_
  refine X_iload_n rfl rfl rfl rfl ?_
  refine X_if_lt (tgt := 14) rfl rfl rfl (fun h1 => ?_) (fun h1 => ?_)
  · refine X_iconst (v := (0 : Int32)) rfl rfl rfl ?_
    refine LW_ireturn (st := []) rfl rfl rfl ?_
    refine X_if_eq (tgt := 34) rfl rfl rfl (fun _ => ?_) (fun q => absurd q (by decide))
    refine X_iconst (v := (0 : Int32)) rfl rfl rfl ?_
    refine LW_ireturn (st := []) rfl rfl rfl ⟨congrArg (fun z => some (Value.int z)) ?_, E⟩
    simp only [Int32.lt_iff_toInt_lt, Int32.le_iff_toInt_le, ← Int32.toInt_inj, (show (0 : Int32).toInt = 0 from rfl)] at h1
    unfold f_sign
    repeat' split
    all_goals first | rfl | (exfalso; omega) | (refine Int32.toInt_inj.mp ?_; rw [show (0 : Int32).toInt = 0 from rfl]; omega)
  · refine X_iload_n rfl rfl rfl rfl ?_
    refine X_bipush (v := (26 : Int32)) rfl rfl rfl ?_
    refine X_icmp_ge (tgt := 14) rfl rfl rfl (fun h2 => ?_) (fun h2 => ?_)
    · refine X_iconst (v := (0 : Int32)) rfl rfl rfl ?_
      refine LW_ireturn (st := []) rfl rfl rfl ?_
      refine X_if_eq (tgt := 34) rfl rfl rfl (fun _ => ?_) (fun q => absurd q (by decide))
      refine X_iconst (v := (0 : Int32)) rfl rfl rfl ?_
      refine LW_ireturn (st := []) rfl rfl rfl ⟨congrArg (fun z => some (Value.int z)) ?_, E⟩
      simp only [Int32.lt_iff_toInt_lt, Int32.le_iff_toInt_le, ← Int32.toInt_inj, (show (0 : Int32).toInt = 0 from rfl), (show (26 : Int32).toInt = 26 from rfl)] at h1 h2
      unfold f_sign
      repeat' split
      all_goals first | rfl | (exfalso; omega) | (refine Int32.toInt_inj.mp ?_; rw [show (0 : Int32).toInt = 0 from rfl]; omega)
    · refine X_iconst (v := (1 : Int32)) rfl rfl rfl ?_
      refine LW_goto (tgt := 15) rfl rfl ?_
      refine LW_ireturn (st := []) rfl rfl rfl ?_
      refine X_if_eq (tgt := 34) rfl rfl rfl (fun q => absurd q (by decide)) (fun _ => ?_)
      refine X_iload_n rfl rfl rfl rfl ?_
      refine X_iconst (v := (-1 : Int32)) rfl rfl rfl ?_
      refine X_icmp_lt (tgt := 34) rfl rfl rfl (fun h3 => ?_) (fun h3 => ?_)
      · refine X_iconst (v := (0 : Int32)) rfl rfl rfl ?_
        refine LW_ireturn (st := []) rfl rfl rfl ⟨congrArg (fun z => some (Value.int z)) ?_, E⟩
        simp only [Int32.lt_iff_toInt_lt, Int32.le_iff_toInt_le, ← Int32.toInt_inj, (show (-1 : Int32).toInt = -1 from rfl), (show (0 : Int32).toInt = 0 from rfl), (show (26 : Int32).toInt = 26 from rfl)] at h1 h2 h3
        unfold f_sign
        repeat' split
        all_goals first | rfl | (exfalso; omega) | (refine Int32.toInt_inj.mp ?_; rw [show (0 : Int32).toInt = 0 from rfl]; omega)
      · refine X_iload_n rfl rfl rfl rfl ?_
        refine X_bipush (v := (9 : Int32)) rfl rfl rfl ?_
        refine X_icmp_gt (tgt := 34) rfl rfl rfl (fun h4 => ?_) (fun h4 => ?_)
        · refine X_iconst (v := (0 : Int32)) rfl rfl rfl ?_
          refine LW_ireturn (st := []) rfl rfl rfl ⟨congrArg (fun z => some (Value.int z)) ?_, E⟩
          simp only [Int32.lt_iff_toInt_lt, Int32.le_iff_toInt_le, ← Int32.toInt_inj, (show (-1 : Int32).toInt = -1 from rfl), (show (0 : Int32).toInt = 0 from rfl), (show (9 : Int32).toInt = 9 from rfl), (show (26 : Int32).toInt = 26 from rfl)] at h1 h2 h3 h4
          unfold f_sign
          repeat' split
          all_goals first | rfl | (exfalso; omega) | (refine Int32.toInt_inj.mp ?_; rw [show (0 : Int32).toInt = 0 from rfl]; omega)
        · refine X_aload_n rfl rfl rfl rfl ?_
          refine X_getR (a := 342) rfl rfl rfl ((congrFun F.1 0).trans s_0) rfl ((congrFun (F.2.1 0 (by decide)) 6).trans r_0_6) ?_
          refine X_iload_n rfl rfl rfl rfl ?_
          refine X_iload_n rfl rfl rfl rfl ?_
          refine X_callV (as := [.int a, .int b]) (st := []) rfl rfl rfl (by decide) rfl (Nat.le_of_ble_eq_true rfl) (by decide) (Nat.le_of_ble_eq_true rfl) rfl ((congrFun F.1 342).trans s_342) (by decide) ?_
          refine LW_ls (ls' := [some (.ref 342), some (.int a), some (.int b)]) rfl ?_
          refine X_aload_n rfl rfl rfl rfl ?_
          refine X_getR (a := 10) rfl rfl rfl ((congrFun F.1 342).trans s_342) rfl ((congrFun (F.2.1 342 (by decide)) 1).trans r_342_1) ?_
          refine X_getR (a := 13) rfl rfl rfl ((congrFun F.1 10).trans s_10) rfl ((congrFun (F.2.1 10 (by decide)) 6).trans r_10_6) ?_
          refine X_iload_n rfl rfl rfl rfl ?_
          refine X_iald (v := (-1 : Int32)) rfl rfl ((congrFun F.1 13).trans s_13) (vp_in_iff.mpr (by simp only [Int32.lt_iff_toInt_lt, Int32.le_iff_toInt_le, ← Int32.toInt_inj, (show (-1 : Int32).toInt = -1 from rfl), (show (0 : Int32).toInt = 0 from rfl), (show (9 : Int32).toInt = 9 from rfl), (show (26 : Int32).toInt = 26 from rfl)] at h1 h2 h3 h4; omega)) ((congrFun (F.2.2 13 (by decide)).1 _).trans (u_13 _ (vp_lt (vp_in_iff.mpr (by simp only [Int32.lt_iff_toInt_lt, Int32.le_iff_toInt_le, ← Int32.toInt_inj, (show (-1 : Int32).toInt = -1 from rfl), (show (0 : Int32).toInt = 0 from rfl), (show (9 : Int32).toInt = 9 from rfl), (show (26 : Int32).toInt = 26 from rfl)] at h1 h2 h3 h4; omega))))) ?_
          refine X_iload_n rfl rfl rfl rfl ?_
          refine X_icmp_ne (tgt := 15) rfl rfl rfl (fun h5 => ?_) (fun h5 => ?_)
          · refine X_aload_n rfl rfl rfl rfl ?_
            refine X_getR (a := 1) rfl rfl rfl ((congrFun F.1 342).trans s_342) rfl ((congrFun (F.2.1 342 (by decide)) 0).trans r_342_0) ?_
            refine X_getR (a := 14) rfl rfl rfl ((congrFun F.1 1).trans s_1) rfl ((congrFun (F.2.1 1 (by decide)) 2).trans r_1_2) ?_
            refine X_aload_n rfl rfl rfl rfl ?_
            refine X_getR (a := 10) rfl rfl rfl ((congrFun F.1 342).trans s_342) rfl ((congrFun (F.2.1 342 (by decide)) 1).trans r_342_1) ?_
            refine X_callV (as := [.ref 10]) (st := []) rfl rfl rfl (by decide) rfl (Nat.le_of_ble_eq_true rfl) (by decide) (Nat.le_of_ble_eq_true rfl) rfl ((congrFun F.1 14).trans s_14) (by decide) ?_
            refine LW_ls (ls' := [some (.ref 14), some (.ref 10)]) rfl ?_
            refine X_aload_n rfl rfl rfl rfl ?_
            refine X_getI (v := (0 : Int32)) rfl rfl rfl ((congrFun F.1 14).trans s_14) rfl ((congrFun (F.2.2 14 (by decide)).1 0).trans i_14_0) ?_
            refine X_bipush (v := (30 : Int32)) rfl rfl rfl ?_
            refine X_icmp_ne (tgt := 32) rfl rfl rfl (fun _ => ?_) (fun q => absurd q (by decide))
            refine X_aload_n rfl rfl rfl rfl ?_
            refine X_getR (a := 15) rfl rfl rfl ((congrFun F.1 14).trans s_14) rfl ((congrFun (F.2.1 14 (by decide)) 2).trans r_14_2) ?_
            refine X_aload_n rfl rfl rfl rfl ?_
            refine X_getI (v := (0 : Int32)) rfl rfl rfl ((congrFun F.1 14).trans s_14) rfl ((congrFun (F.2.2 14 (by decide)).1 1).trans i_14_1) ?_
            refine X_aload_n rfl rfl rfl rfl ?_
            refine X_getI (v := (0 : Int32)) rfl rfl rfl ((congrFun F.1 14).trans s_14) rfl ((congrFun (F.2.2 14 (by decide)).1 0).trans i_14_0) ?_
            refine X_iadd (v := (0 : Int32)) rfl rfl rfl ?_
            refine X_bipush (v := (30 : Int32)) rfl rfl rfl ?_
            refine X_irem (v := (0 : Int32)) rfl rfl (by decide) rfl ?_
            refine X_aald (a := 16) (t0 := 3) rfl rfl ((congrFun F.1 15).trans s_15) rfl (vp_in_d rfl) ((congrFun (F.2.1 15 (by decide)) 0).trans r_15_0) ?_
            refine X_aload_n rfl rfl rfl rfl ?_
            refine X_callV (as := [.ref 10]) (st := []) rfl rfl rfl (by decide) rfl (Nat.le_of_ble_eq_true rfl) (by decide) (Nat.le_of_ble_eq_true rfl) rfl ((congrFun F.1 16).trans s_16) (by decide) ?_
            refine LW_ls (ls' := [some (.ref 16), some (.ref 10)]) rfl ?_
            refine X_aload_n rfl rfl rfl rfl ?_
            refine X_aload_n rfl rfl rfl rfl ?_
            refine X_getI (v := (0 : Int32)) rfl rfl rfl ((congrFun F.1 10).trans s_10) rfl ((congrFun (F.2.2 10 (by decide)).1 0).trans i_10_0) ?_
            refine X_putI rfl rfl rfl ((congrFun F.1 16).trans s_16) rfl rfl rfl rfl ?_
            refine X_aload_n rfl rfl rfl rfl ?_
            refine X_aload_n rfl rfl rfl rfl ?_
            refine X_getI (v := (0 : Int32)) rfl rfl rfl ((congrFun F.1 10).trans s_10) rfl ((congrFun (F.2.2 10 (by decide)).1 1).trans i_10_1) ?_
            refine X_putI rfl rfl rfl ((congrFun F.1 16).trans s_16) rfl rfl rfl rfl ?_
            refine X_aload_n rfl rfl rfl rfl ?_
            refine X_aload_n rfl rfl rfl rfl ?_
            refine X_getI (v := (17 : Int32)) rfl rfl rfl ((congrFun F.1 10).trans s_10) rfl ((congrFun (F.2.2 10 (by decide)).1 2).trans i_10_2) ?_
            refine X_putI rfl rfl rfl ((congrFun F.1 16).trans s_16) rfl rfl rfl rfl ?_
            refine X_aload_n rfl rfl rfl rfl ?_
            refine X_aload_n rfl rfl rfl rfl ?_
            refine X_getI (v := (0 : Int32)) rfl rfl rfl ((congrFun F.1 10).trans s_10) rfl ((congrFun (F.2.2 10 (by decide)).1 3).trans i_10_3) ?_
            refine X_putI rfl rfl rfl ((congrFun F.1 16).trans s_16) rfl rfl rfl rfl ?_
            refine X_aload_n rfl rfl rfl rfl ?_
            refine X_getR (a := 11) rfl rfl rfl ((congrFun F.1 10).trans s_10) rfl ((congrFun (F.2.1 10 (by decide)) 4).trans r_10_4) ?_
            refine X_iconst (v := (0 : Int32)) rfl rfl rfl ?_
            refine X_aload_n rfl rfl rfl rfl ?_
            refine X_getR (a := 17) rfl rfl rfl ((congrFun F.1 16).trans s_16) rfl ((congrFun (F.2.1 16 (by decide)) 4).trans r_16_4) ?_
            refine X_iconst (v := (0 : Int32)) rfl rfl rfl ?_
            refine X_bipush (v := (26 : Int32)) rfl rfl rfl ?_
            refine X_copy (sp' := 0) (dp' := 0) (n' := 26) rfl rfl rfl ((congrFun F.1 11).trans s_11) ((congrFun F.1 17).trans s_17) (by decide) (by decide) (by decide) rfl rfl rfl (by decide) (by decide) (Nat.le_of_ble_eq_true rfl) ?_
            refine X_aload_n rfl rfl rfl rfl ?_
            refine X_getR (a := 12) rfl rfl rfl ((congrFun F.1 10).trans s_10) rfl ((congrFun (F.2.1 10 (by decide)) 5).trans r_10_5) ?_
            refine X_iconst (v := (0 : Int32)) rfl rfl rfl ?_
            refine X_aload_n rfl rfl rfl rfl ?_
            refine X_getR (a := 18) rfl rfl rfl ((congrFun F.1 16).trans s_16) rfl ((congrFun (F.2.1 16 (by decide)) 5).trans r_16_5) ?_
            refine X_iconst (v := (0 : Int32)) rfl rfl rfl ?_
            refine X_bipush (v := (26 : Int32)) rfl rfl rfl ?_
            refine X_copy (sp' := 0) (dp' := 0) (n' := 26) rfl rfl rfl ((congrFun F.1 12).trans s_12) ((congrFun F.1 18).trans s_18) (by decide) (by decide) (by decide) rfl rfl rfl (by decide) (by decide) (Nat.le_of_ble_eq_true rfl) ?_
            refine X_aload_n rfl rfl rfl rfl ?_
            refine X_getR (a := 13) rfl rfl rfl ((congrFun F.1 10).trans s_10) rfl ((congrFun (F.2.1 10 (by decide)) 6).trans r_10_6) ?_
            refine X_iconst (v := (0 : Int32)) rfl rfl rfl ?_
            refine X_aload_n rfl rfl rfl rfl ?_
            refine X_getR (a := 19) rfl rfl rfl ((congrFun F.1 16).trans s_16) rfl ((congrFun (F.2.1 16 (by decide)) 6).trans r_16_6) ?_
            refine X_iconst (v := (0 : Int32)) rfl rfl rfl ?_
            refine X_bipush (v := (26 : Int32)) rfl rfl rfl ?_
            refine X_copy (sp' := 0) (dp' := 0) (n' := 26) rfl rfl rfl ((congrFun F.1 13).trans s_13) ((congrFun F.1 19).trans s_19) (by decide) (by decide) (by decide) rfl rfl rfl (by decide) (by decide) (Nat.le_of_ble_eq_true rfl) ?_
            refine LW_return (st := []) rfl rfl ?_
            refine X_aload_n rfl rfl rfl rfl ?_
            refine X_dup rfl rfl rfl ?_
            refine X_getI (v := (0 : Int32)) rfl rfl rfl ((congrFun F.1 14).trans s_14) rfl ((congrFun (F.2.2 14 (by decide)).1 0).trans i_14_0) ?_
            refine X_iconst (v := (1 : Int32)) rfl rfl rfl ?_
            refine X_iadd (v := (1 : Int32)) rfl rfl rfl ?_
            refine X_putI rfl rfl rfl ((congrFun F.1 14).trans s_14) rfl rfl rfl rfl ?_
            refine LW_return (st := []) rfl rfl ?_
            refine X_aload_n rfl rfl rfl rfl ?_
            refine X_getR (a := 10) rfl rfl rfl ((congrFun F.1 342).trans s_342) rfl ((congrFun (F.2.1 342 (by decide)) 1).trans r_342_1) ?_
            refine X_getR (a := 13) rfl rfl rfl ((congrFun F.1 10).trans s_10) rfl ((congrFun (F.2.1 10 (by decide)) 6).trans r_10_6) ?_
            refine X_iload_n rfl rfl rfl rfl ?_
            refine X_iload_n rfl rfl rfl rfl ?_
            refine X_iast (k0 := (a).toNatClampNeg) rfl rfl ((congrFun F.1 13).trans s_13) (vp_in_iff.mpr (by simp only [Int32.lt_iff_toInt_lt, Int32.le_iff_toInt_le, ← Int32.toInt_inj, (show (-1 : Int32).toInt = -1 from rfl), (show (0 : Int32).toInt = 0 from rfl), (show (9 : Int32).toInt = 9 from rfl), (show (26 : Int32).toInt = 26 from rfl)] at h1 h2 h3 h4 h5; omega)) rfl ?_
            refine X_iconst (v := (1 : Int32)) rfl rfl rfl ?_
            refine LW_ireturn (st := []) rfl rfl rfl ?_
            refine X_if_eq (tgt := 34) rfl rfl rfl (fun q => absurd q (by decide)) (fun _ => ?_)
            refine X_iconst (v := (1 : Int32)) rfl rfl rfl ?_
            refine LW_goto (tgt := 35) rfl rfl ?_
            refine LW_ireturn (st := []) rfl rfl rfl ⟨congrArg (fun z => some (Value.int z)) ?_, (Fr_putI (Fr_putI (Fr_cpyI (Fr_cpyI (Fr_cpyI (Fr_putI (Fr_putI (Fr_putI (Fr_putI E (by decide)) (by decide)) (by decide)) (by decide)) (by decide)) (by decide)) (by decide)) (by decide)) (by decide))⟩
            simp only [Int32.lt_iff_toInt_lt, Int32.le_iff_toInt_le, ← Int32.toInt_inj, (show (-1 : Int32).toInt = -1 from rfl), (show (0 : Int32).toInt = 0 from rfl), (show (9 : Int32).toInt = 9 from rfl), (show (26 : Int32).toInt = 26 from rfl)] at h1 h2 h3 h4 h5
            unfold f_sign
            repeat' split
            all_goals first | rfl | (exfalso; omega) | (refine Int32.toInt_inj.mp ?_; rw [show (0 : Int32).toInt = 0 from rfl]; omega)
          · refine X_iconst (v := (0 : Int32)) rfl rfl rfl ?_
            refine LW_ireturn (st := []) rfl rfl rfl ?_
            refine X_if_eq (tgt := 34) rfl rfl rfl (fun _ => ?_) (fun q => absurd q (by decide))
            refine X_iconst (v := (0 : Int32)) rfl rfl rfl ?_
            refine LW_ireturn (st := []) rfl rfl rfl ⟨congrArg (fun z => some (Value.int z)) ?_, E⟩
            simp only [Int32.lt_iff_toInt_lt, Int32.le_iff_toInt_le, ← Int32.toInt_inj, (show (-1 : Int32).toInt = -1 from rfl), (show (0 : Int32).toInt = 0 from rfl), (show (9 : Int32).toInt = 9 from rfl), (show (26 : Int32).toInt = 26 from rfl)] at h1 h2 h3 h4 h5
            unfold f_sign
            repeat' split
            all_goals first | rfl | (exfalso; omega) | (refine Int32.toInt_inj.mp ?_; rw [show (0 : Int32).toInt = 0 from rfl]; omega)
