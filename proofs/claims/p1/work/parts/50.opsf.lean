/-! walks printed by wip/p1/walk.py: learn0 learn1 text -/
def f_learn0 (a : Int32) : Int32 := if 1 ≤ a.toInt ∧ a.toInt ≤ 4 then 0 else -1
def f_learn1 (a : Int32) : Int32 := if 1 ≤ a.toInt ∧ a.toInt ≤ 4 then 0 else -1
def f_text : Int32 := 0
set_option maxRecDepth 10000 in
set_option maxHeartbeats 4000000 in
theorem c_learn0 {g : LH} (F : Fc g) (E : Fr g) (a : Int32) : LW 158 30 0 0 0 (lEnt (mL 158) [.ref 0, .int a, .int (0 : Int32)]) [] g (fun v g' => v = some (.int (f_learn0 a)) ∧ Fr g') := by
  refine LW_ls (ls' := [some (.ref 0), some (.int a), some (.int (0 : Int32))]) rfl ?_
  refine X_iload_n rfl rfl rfl rfl ?_
  refine X_iconst (v := (1 : Int32)) rfl rfl rfl ?_
  refine X_icmp_lt (tgt := 10) rfl rfl rfl (fun h1 => ?_) (fun h1 => ?_)
  · refine X_iconst (v := (-1 : Int32)) rfl rfl rfl ?_
    refine LW_ireturn (st := []) rfl rfl rfl ⟨congrArg (fun z => some (Value.int z)) ?_, E⟩
    simp only [Int32.lt_iff_toInt_lt, Int32.le_iff_toInt_le, ← Int32.toInt_inj, (show (1 : Int32).toInt = 1 from rfl)] at h1
    unfold f_learn0
    repeat' split
    all_goals first | rfl | (exfalso; omega) | (refine Int32.toInt_inj.mp ?_; rw [show (0 : Int32).toInt = 0 from rfl]; omega)
  · refine X_iload_n rfl rfl rfl rfl ?_
    refine X_iconst (v := (4 : Int32)) rfl rfl rfl ?_
    refine X_icmp_le (tgt := 12) rfl rfl rfl (fun h2 => ?_) (fun h2 => ?_)
    · refine X_aload_n rfl rfl rfl rfl ?_
      refine X_getR (a := 349) rfl rfl rfl ((congrFun F.1 0).trans s_0) rfl ((congrFun (F.2.1 0 (by decide)) 8).trans r_0_8) ?_
      refine X_iload_n rfl rfl rfl rfl ?_
      refine X_callV (as := [.int a]) (st := []) rfl rfl rfl (by decide) rfl (Nat.le_of_ble_eq_true rfl) (by decide) (Nat.le_of_ble_eq_true rfl) rfl ((congrFun F.1 349).trans s_349) (by decide) ?_
      refine LW_ls (ls' := [some (.ref 349), some (.int a), none, none]) rfl ?_
      refine X_iconst (v := (0 : Int32)) rfl rfl rfl ?_
      refine X_istore_n (i := 2) (ls' := [some (.ref 349), some (.int a), some (.int (0 : Int32)), none]) rfl rfl rfl (Nat.le_of_ble_eq_true rfl) rfl ?_
      refine X_iconst (v := (0 : Int32)) rfl rfl rfl ?_
      refine X_istore_n (i := 3) (ls' := [some (.ref 349), some (.int a), some (.int (0 : Int32)), some (.int (0 : Int32))]) rfl rfl rfl (Nat.le_of_ble_eq_true rfl) rfl ?_
      refine X_iload_n rfl rfl rfl rfl ?_
      refine X_aload_n rfl rfl rfl rfl ?_
      refine X_getR (a := 1) rfl rfl rfl ((congrFun F.1 349).trans s_349) rfl ((congrFun (F.2.1 349 (by decide)) 0).trans r_349_0) ?_
      refine X_getR (a := 2) rfl rfl rfl ((congrFun F.1 1).trans s_1) rfl ((congrFun (F.2.1 1 (by decide)) 0).trans r_1_0) ?_
      refine X_getI (v := (0 : Int32)) rfl rfl rfl ((congrFun F.1 2).trans s_2) rfl ((congrFun (F.2.2 2 (by decide)).1 0).trans i_2_0) ?_
      refine X_icmp_ge (tgt := 39) rfl rfl rfl (fun _ => ?_) (fun q => absurd q (by decide))
      refine X_aload_n rfl rfl rfl rfl ?_
      refine X_iconst (v := (-1 : Int32)) rfl rfl rfl ?_
      refine X_putI rfl rfl rfl ((congrFun F.1 349).trans s_349) rfl rfl rfl rfl ?_
      refine X_aload_n rfl rfl rfl rfl ?_
      refine X_iconst (v := (0 : Int32)) rfl rfl rfl ?_
      refine X_putI rfl rfl rfl ((congrFun F.1 349).trans s_349) rfl rfl rfl rfl ?_
      refine X_aload_n rfl rfl rfl rfl ?_
      refine X_iload_n rfl rfl rfl rfl ?_
      refine X_iload_n rfl rfl rfl rfl ?_
      refine X_iload_n rfl rfl rfl rfl ?_
      refine X_callS (as := [.int (0 : Int32)]) (st := [.int a, .int (0 : Int32), .ref 349]) rfl rfl rfl (by decide) rfl (Nat.le_of_ble_eq_true rfl) (by decide) (Nat.le_of_ble_eq_true rfl) rfl ?_
      refine LW_ls (ls' := [some (.int (0 : Int32))]) rfl ?_
      refine X_iload_n rfl rfl rfl rfl ?_
      refine X_iload_n rfl rfl rfl rfl ?_
      refine X_iconst (v := (1 : Int32)) rfl rfl rfl ?_
      refine X_iushr (v := (0 : Int32)) rfl rfl rfl ?_
      refine X_ldcw (v := (1431655765 : Int32)) rfl rfl rfl ?_
      refine X_iand (v := (0 : Int32)) rfl rfl rfl ?_
      refine X_isub (v := (0 : Int32)) rfl rfl rfl ?_
      refine X_istore_n (i := 0) (ls' := [some (.int (0 : Int32))]) rfl rfl rfl (Nat.le_of_ble_eq_true rfl) rfl ?_
      refine X_iload_n rfl rfl rfl rfl ?_
      refine X_ldcw (v := (858993459 : Int32)) rfl rfl rfl ?_
      refine X_iand (v := (0 : Int32)) rfl rfl rfl ?_
      refine X_iload_n rfl rfl rfl rfl ?_
      refine X_iconst (v := (2 : Int32)) rfl rfl rfl ?_
      refine X_iushr (v := (0 : Int32)) rfl rfl rfl ?_
      refine X_ldcw (v := (858993459 : Int32)) rfl rfl rfl ?_
      refine X_iand (v := (0 : Int32)) rfl rfl rfl ?_
      refine X_iadd (v := (0 : Int32)) rfl rfl rfl ?_
      refine X_istore_n (i := 0) (ls' := [some (.int (0 : Int32))]) rfl rfl rfl (Nat.le_of_ble_eq_true rfl) rfl ?_
      refine X_iload_n rfl rfl rfl rfl ?_
      refine X_iload_n rfl rfl rfl rfl ?_
      refine X_iconst (v := (4 : Int32)) rfl rfl rfl ?_
      refine X_iushr (v := (0 : Int32)) rfl rfl rfl ?_
      refine X_iadd (v := (0 : Int32)) rfl rfl rfl ?_
      refine X_ldcw (v := (252645135 : Int32)) rfl rfl rfl ?_
      refine X_iand (v := (0 : Int32)) rfl rfl rfl ?_
      refine X_istore_n (i := 0) (ls' := [some (.int (0 : Int32))]) rfl rfl rfl (Nat.le_of_ble_eq_true rfl) rfl ?_
      refine X_iload_n rfl rfl rfl rfl ?_
      refine X_iload_n rfl rfl rfl rfl ?_
      refine X_bipush (v := (8 : Int32)) rfl rfl rfl ?_
      refine X_iushr (v := (0 : Int32)) rfl rfl rfl ?_
      refine X_iadd (v := (0 : Int32)) rfl rfl rfl ?_
      refine X_istore_n (i := 0) (ls' := [some (.int (0 : Int32))]) rfl rfl rfl (Nat.le_of_ble_eq_true rfl) rfl ?_
      refine X_iload_n rfl rfl rfl rfl ?_
      refine X_iload_n rfl rfl rfl rfl ?_
      refine X_bipush (v := (16 : Int32)) rfl rfl rfl ?_
      refine X_iushr (v := (0 : Int32)) rfl rfl rfl ?_
      refine X_iadd (v := (0 : Int32)) rfl rfl rfl ?_
      refine X_istore_n (i := 0) (ls' := [some (.int (0 : Int32))]) rfl rfl rfl (Nat.le_of_ble_eq_true rfl) rfl ?_
      refine X_iload_n rfl rfl rfl rfl ?_
      refine X_bipush (v := (63 : Int32)) rfl rfl rfl ?_
      refine X_iand (v := (0 : Int32)) rfl rfl rfl ?_
      refine LW_ireturn (st := []) rfl rfl rfl ?_
      refine X_min (v := (0 : Int32)) rfl rfl rfl (Nat.le_of_ble_eq_true rfl) (if_pos (Int32.lt_iff_toInt_lt.mpr (by simp only [Int32.lt_iff_toInt_lt, Int32.le_iff_toInt_le, ← Int32.toInt_inj, (show (0 : Int32).toInt = 0 from rfl), (show (1 : Int32).toInt = 1 from rfl), (show (4 : Int32).toInt = 4 from rfl)] at h1 h2 ⊢; omega))) ?_
      refine X_iconst (v := (0 : Int32)) rfl rfl rfl ?_
      refine X_callV (as := [.int (0 : Int32), .int (0 : Int32), .int (0 : Int32)]) (st := []) rfl rfl rfl (by decide) rfl (Nat.le_of_ble_eq_true rfl) (by decide) (Nat.le_of_ble_eq_true rfl) rfl ((congrFun F.1 349).trans s_349) (by decide) ?_
      refine LW_ls (ls' := [some (.ref 349), some (.int (0 : Int32)), some (.int (0 : Int32)), some (.int (0 : Int32)), none, none]) rfl ?_
      refine X_iload_n rfl rfl rfl rfl ?_
      refine X_if_gt (tgt := 32) rfl rfl rfl (fun q => absurd q (by decide)) (fun _ => ?_)
      refine X_aload_n rfl rfl rfl rfl ?_
      refine X_iload_n rfl rfl rfl rfl ?_
      refine X_callV (as := [.int (0 : Int32)]) (st := []) rfl rfl rfl (by decide) rfl (Nat.le_of_ble_eq_true rfl) (by decide) (Nat.le_of_ble_eq_true rfl) rfl ((congrFun F.1 349).trans s_349) (by decide) ?_
      refine LW_ls (ls' := [some (.ref 349), some (.int (0 : Int32)), none, none]) rfl ?_
      refine X_iconst (v := (0 : Int32)) rfl rfl rfl ?_
      refine X_istore_n (i := 2) (ls' := [some (.ref 349), some (.int (0 : Int32)), some (.int (0 : Int32)), none]) rfl rfl rfl (Nat.le_of_ble_eq_true rfl) rfl ?_
      refine X_iconst (v := (0 : Int32)) rfl rfl rfl ?_
      refine X_istore_n (i := 3) (ls' := [some (.ref 349), some (.int (0 : Int32)), some (.int (0 : Int32)), some (.int (0 : Int32))]) rfl rfl rfl (Nat.le_of_ble_eq_true rfl) rfl ?_
      refine X_iload_n rfl rfl rfl rfl ?_
      refine X_aload_n rfl rfl rfl rfl ?_
      refine X_getR (a := 1) rfl rfl rfl ((congrFun F.1 349).trans s_349) rfl ((congrFun (F.2.1 349 (by decide)) 0).trans r_349_0) ?_
      refine X_getR (a := 2) rfl rfl rfl ((congrFun F.1 1).trans s_1) rfl ((congrFun (F.2.1 1 (by decide)) 0).trans r_1_0) ?_
      refine X_getI (v := (0 : Int32)) rfl rfl rfl ((congrFun F.1 2).trans s_2) rfl ((congrFun (F.2.2 2 (by decide)).1 0).trans i_2_0) ?_
      refine X_icmp_ge (tgt := 51) rfl rfl rfl (fun _ => ?_) (fun q => absurd q (by decide))
      refine X_iload_n rfl rfl rfl rfl ?_
      refine LW_ireturn (st := []) rfl rfl rfl ?_
      refine X_istore (i := 4) (ls' := [some (.ref 349), some (.int (0 : Int32)), some (.int (0 : Int32)), some (.int (0 : Int32)), some (.int (0 : Int32)), none]) rfl rfl (Nat.le_of_ble_eq_true rfl) rfl ?_
      refine X_iload rfl rfl rfl ?_
      refine X_aload_n rfl rfl rfl rfl ?_
      refine X_getI (v := (-1 : Int32)) rfl rfl rfl ((congrFun F.1 349).trans s_349) rfl rfl ?_
      refine X_icmp_le (tgt := 31) rfl rfl rfl (fun q => absurd q (by decide)) (fun _ => ?_)
      refine X_aload_n rfl rfl rfl rfl ?_
      refine X_iload rfl rfl rfl ?_
      refine X_putI rfl rfl rfl ((congrFun F.1 349).trans s_349) rfl rfl rfl rfl ?_
      refine X_aload_n rfl rfl rfl rfl ?_
      refine X_iload_n rfl rfl rfl rfl ?_
      refine X_putI rfl rfl rfl ((congrFun F.1 349).trans s_349) rfl rfl rfl rfl ?_
      refine LW_return (st := []) rfl rfl ?_
      refine LW_return (st := []) rfl rfl ?_
      refine X_iload_n rfl rfl rfl rfl ?_
      refine X_if_eq (tgt := 34) rfl rfl rfl (fun _ => ?_) (fun q => absurd q (by decide))
      refine X_aload_n rfl rfl rfl rfl ?_
      refine X_getR (a := 349) rfl rfl rfl ((congrFun F.1 0).trans s_0) rfl ((congrFun (F.2.1 0 (by decide)) 8).trans r_0_8) ?_
      refine X_getI (v := (0 : Int32)) rfl rfl rfl ((congrFun F.1 349).trans s_349) rfl rfl ?_
      refine LW_ireturn (st := []) rfl rfl rfl ⟨congrArg (fun z => some (Value.int z)) ?_, (Fr_putI (Fr_putI (Fr_putI (Fr_putI E (by decide)) (by decide)) (by decide)) (by decide))⟩
      simp only [Int32.lt_iff_toInt_lt, Int32.le_iff_toInt_le, ← Int32.toInt_inj, (show (1 : Int32).toInt = 1 from rfl), (show (4 : Int32).toInt = 4 from rfl)] at h1 h2
      unfold f_learn0
      repeat' split
      all_goals first | rfl | (exfalso; omega) | (refine Int32.toInt_inj.mp ?_; rw [show (0 : Int32).toInt = 0 from rfl]; omega)
    · refine X_iconst (v := (-1 : Int32)) rfl rfl rfl ?_
      refine LW_ireturn (st := []) rfl rfl rfl ⟨congrArg (fun z => some (Value.int z)) ?_, E⟩
      simp only [Int32.lt_iff_toInt_lt, Int32.le_iff_toInt_le, ← Int32.toInt_inj, (show (1 : Int32).toInt = 1 from rfl), (show (4 : Int32).toInt = 4 from rfl)] at h1 h2
      unfold f_learn0
      repeat' split
      all_goals first | rfl | (exfalso; omega) | (refine Int32.toInt_inj.mp ?_; rw [show (0 : Int32).toInt = 0 from rfl]; omega)
set_option maxRecDepth 10000 in
set_option maxHeartbeats 4000000 in
theorem r_learn0 {g : LH} (F : Fr g) (a : Int32) : LW 305 30 0 0 0 (lEnt (mL 305) [.ref 355, .int a, .int (0 : Int32)]) [] g (fun v _ => v = some (.int (f_learn0 a))) := by
  refine LW_ls (ls' := [some (.ref 355), some (.int a), some (.int (0 : Int32)), none, none, none, none, none, none, none]) rfl ?_
  refine X_iload_n rfl rfl rfl rfl ?_
  refine X_iconst (v := (1 : Int32)) rfl rfl rfl ?_
  refine X_iconst (v := (4 : Int32)) rfl rfl rfl ?_
  refine X_callS (as := [.int a, .int (1 : Int32), .int (4 : Int32)]) (st := []) rfl rfl rfl (by decide) rfl (Nat.le_of_ble_eq_true rfl) (by decide) (Nat.le_of_ble_eq_true rfl) rfl ?_
  refine LW_ls (ls' := [some (.int a), some (.int (1 : Int32)), some (.int (4 : Int32))]) rfl ?_
  refine X_iload_n rfl rfl rfl rfl ?_
  refine X_iload_n rfl rfl rfl rfl ?_
  refine X_icmp_lt (tgt := 14) rfl rfl rfl (fun h1 => ?_) (fun h1 => ?_)
  · refine X_iconst (v := (0 : Int32)) rfl rfl rfl ?_
    refine LW_ireturn (st := []) rfl rfl rfl ?_
    refine X_if_ne (tgt := 11) rfl rfl rfl (fun q => absurd q (by decide)) (fun _ => ?_)
    refine X_iconst (v := (-1 : Int32)) rfl rfl rfl ?_
    refine LW_ireturn (st := []) rfl rfl rfl (congrArg (fun z => some (Value.int z)) ?_)
    simp only [Int32.lt_iff_toInt_lt, Int32.le_iff_toInt_le, ← Int32.toInt_inj, (show (1 : Int32).toInt = 1 from rfl)] at h1
    unfold f_learn0
    repeat' split
    all_goals first | rfl | (exfalso; omega) | (refine Int32.toInt_inj.mp ?_; rw [show (0 : Int32).toInt = 0 from rfl]; omega)
  · refine X_iload_n rfl rfl rfl rfl ?_
    refine X_iload_n rfl rfl rfl rfl ?_
    refine X_icmp_gt (tgt := 14) rfl rfl rfl (fun h2 => ?_) (fun h2 => ?_)
    · refine X_iconst (v := (0 : Int32)) rfl rfl rfl ?_
      refine LW_ireturn (st := []) rfl rfl rfl ?_
      refine X_if_ne (tgt := 11) rfl rfl rfl (fun q => absurd q (by decide)) (fun _ => ?_)
      refine X_iconst (v := (-1 : Int32)) rfl rfl rfl ?_
      refine LW_ireturn (st := []) rfl rfl rfl (congrArg (fun z => some (Value.int z)) ?_)
      simp only [Int32.lt_iff_toInt_lt, Int32.le_iff_toInt_le, ← Int32.toInt_inj, (show (1 : Int32).toInt = 1 from rfl), (show (4 : Int32).toInt = 4 from rfl)] at h1 h2
      unfold f_learn0
      repeat' split
      all_goals first | rfl | (exfalso; omega) | (refine Int32.toInt_inj.mp ?_; rw [show (0 : Int32).toInt = 0 from rfl]; omega)
    · refine X_iconst (v := (1 : Int32)) rfl rfl rfl ?_
      refine LW_goto (tgt := 15) rfl rfl ?_
      refine LW_ireturn (st := []) rfl rfl rfl ?_
      refine X_if_ne (tgt := 11) rfl rfl rfl (fun _ => ?_) (fun q => absurd q (by decide))
      refine X_iconst (v := (0 : Int32)) rfl rfl rfl ?_
      refine X_istore_n (i := 3) (ls' := [some (.ref 355), some (.int a), some (.int (0 : Int32)), some (.int (0 : Int32)), none, none, none, none, none, none]) rfl rfl rfl (Nat.le_of_ble_eq_true rfl) rfl ?_
      refine X_iconst (v := (0 : Int32)) rfl rfl rfl ?_
      refine X_istore (i := 4) (ls' := [some (.ref 355), some (.int a), some (.int (0 : Int32)), some (.int (0 : Int32)), some (.int (0 : Int32)), none, none, none, none, none]) rfl rfl (Nat.le_of_ble_eq_true rfl) rfl ?_
      refine X_iload rfl rfl rfl ?_
      refine X_bipush (v := (26 : Int32)) rfl rfl rfl ?_
      refine X_icmp_ge (tgt := 52) rfl rfl rfl (fun q => absurd q (by decide)) (fun _ => ?_)
      refine X_aload_n rfl rfl rfl rfl ?_
      refine X_iload rfl rfl rfl ?_
      refine X_callV (as := [.int (0 : Int32)]) (st := []) rfl rfl rfl (by decide) rfl (Nat.le_of_ble_eq_true rfl) (by decide) (Nat.le_of_ble_eq_true rfl) rfl ((congrFun F.1 355).trans s_355) (by decide) ?_
      refine LW_ls (ls' := [some (.ref 355), some (.int (0 : Int32)), none, none]) rfl ?_
      refine X_iconst (v := (0 : Int32)) rfl rfl rfl ?_
      refine X_istore_n (i := 2) (ls' := [some (.ref 355), some (.int (0 : Int32)), some (.int (0 : Int32)), none]) rfl rfl rfl (Nat.le_of_ble_eq_true rfl) rfl ?_
      refine X_iconst (v := (0 : Int32)) rfl rfl rfl ?_
      refine X_istore_n (i := 3) (ls' := [some (.ref 355), some (.int (0 : Int32)), some (.int (0 : Int32)), some (.int (0 : Int32))]) rfl rfl rfl (Nat.le_of_ble_eq_true rfl) rfl ?_
      refine X_iload_n rfl rfl rfl rfl ?_
      refine X_aload_n rfl rfl rfl rfl ?_
      refine X_getR (a := 356) rfl rfl rfl ((congrFun F.1 355).trans s_355) rfl ((congrFun (F.2.1 355 (by decide)) 0).trans r_355_0) ?_
      refine X_iconst (v := (0 : Int32)) rfl rfl rfl ?_
      refine X_iald (v := (0 : Int32)) rfl rfl ((congrFun F.1 356).trans s_356) (vp_in_d rfl) ((congrFun (F.2.2 356 (by decide)).1 0).trans i_356_0) ?_
      refine X_icmp_ge (tgt := 40) rfl rfl rfl (fun _ => ?_) (fun q => absurd q (by decide))
      refine X_iload_n rfl rfl rfl rfl ?_
      refine LW_ireturn (st := []) rfl rfl rfl ?_
      refine X_if_ne (tgt := 35) rfl rfl rfl (fun q => absurd q (by decide)) (fun _ => ?_)
      refine LW_goto (tgt := 46) rfl rfl ?_
      refine X_iinc (v := (1 : Int32)) (ls' := [some (.ref 355), some (.int a), some (.int (0 : Int32)), some (.int (0 : Int32)), some (.int (1 : Int32)), none, none, none, none, none]) rfl rfl rfl rfl rfl ?_
      refine LW_goto (tgt := 16) rfl rfl ?_
      refine X_iload rfl rfl rfl ?_
      refine X_bipush (v := (26 : Int32)) rfl rfl rfl ?_
      refine X_icmp_ge (tgt := 52) rfl rfl rfl (fun q => absurd q (by decide)) (fun _ => ?_)
      refine X_aload_n rfl rfl rfl rfl ?_
      refine X_iload rfl rfl rfl ?_
      refine X_callV (as := [.int (1 : Int32)]) (st := []) rfl rfl rfl (by decide) rfl (Nat.le_of_ble_eq_true rfl) (by decide) (Nat.le_of_ble_eq_true rfl) rfl ((congrFun F.1 355).trans s_355) (by decide) ?_
      refine LW_ls (ls' := [some (.ref 355), some (.int (1 : Int32)), none, none]) rfl ?_
      refine X_iconst (v := (0 : Int32)) rfl rfl rfl ?_
      refine X_istore_n (i := 2) (ls' := [some (.ref 355), some (.int (1 : Int32)), some (.int (0 : Int32)), none]) rfl rfl rfl (Nat.le_of_ble_eq_true rfl) rfl ?_
      refine X_iconst (v := (0 : Int32)) rfl rfl rfl ?_
      refine X_istore_n (i := 3) (ls' := [some (.ref 355), some (.int (1 : Int32)), some (.int (0 : Int32)), some (.int (0 : Int32))]) rfl rfl rfl (Nat.le_of_ble_eq_true rfl) rfl ?_
      refine X_iload_n rfl rfl rfl rfl ?_
      refine X_aload_n rfl rfl rfl rfl ?_
      refine X_getR (a := 356) rfl rfl rfl ((congrFun F.1 355).trans s_355) rfl ((congrFun (F.2.1 355 (by decide)) 0).trans r_355_0) ?_
      refine X_iconst (v := (0 : Int32)) rfl rfl rfl ?_
      refine X_iald (v := (0 : Int32)) rfl rfl ((congrFun F.1 356).trans s_356) (vp_in_d rfl) ((congrFun (F.2.2 356 (by decide)).1 0).trans i_356_0) ?_
      refine X_icmp_ge (tgt := 40) rfl rfl rfl (fun _ => ?_) (fun q => absurd q (by decide))
      refine X_iload_n rfl rfl rfl rfl ?_
      refine LW_ireturn (st := []) rfl rfl rfl ?_
      refine X_if_ne (tgt := 35) rfl rfl rfl (fun q => absurd q (by decide)) (fun _ => ?_)
      refine LW_goto (tgt := 46) rfl rfl ?_
      refine X_iinc (v := (2 : Int32)) (ls' := [some (.ref 355), some (.int a), some (.int (0 : Int32)), some (.int (0 : Int32)), some (.int (2 : Int32)), none, none, none, none, none]) rfl rfl rfl rfl rfl ?_
      refine LW_goto (tgt := 16) rfl rfl ?_
      refine X_iload rfl rfl rfl ?_
      refine X_bipush (v := (26 : Int32)) rfl rfl rfl ?_
      refine X_icmp_ge (tgt := 52) rfl rfl rfl (fun q => absurd q (by decide)) (fun _ => ?_)
      refine X_aload_n rfl rfl rfl rfl ?_
      refine X_iload rfl rfl rfl ?_
      refine X_callV (as := [.int (2 : Int32)]) (st := []) rfl rfl rfl (by decide) rfl (Nat.le_of_ble_eq_true rfl) (by decide) (Nat.le_of_ble_eq_true rfl) rfl ((congrFun F.1 355).trans s_355) (by decide) ?_
      refine LW_ls (ls' := [some (.ref 355), some (.int (2 : Int32)), none, none]) rfl ?_
      refine X_iconst (v := (0 : Int32)) rfl rfl rfl ?_
      refine X_istore_n (i := 2) (ls' := [some (.ref 355), some (.int (2 : Int32)), some (.int (0 : Int32)), none]) rfl rfl rfl (Nat.le_of_ble_eq_true rfl) rfl ?_
      refine X_iconst (v := (0 : Int32)) rfl rfl rfl ?_
      refine X_istore_n (i := 3) (ls' := [some (.ref 355), some (.int (2 : Int32)), some (.int (0 : Int32)), some (.int (0 : Int32))]) rfl rfl rfl (Nat.le_of_ble_eq_true rfl) rfl ?_
      refine X_iload_n rfl rfl rfl rfl ?_
      refine X_aload_n rfl rfl rfl rfl ?_
      refine X_getR (a := 356) rfl rfl rfl ((congrFun F.1 355).trans s_355) rfl ((congrFun (F.2.1 355 (by decide)) 0).trans r_355_0) ?_
      refine X_iconst (v := (0 : Int32)) rfl rfl rfl ?_
      refine X_iald (v := (0 : Int32)) rfl rfl ((congrFun F.1 356).trans s_356) (vp_in_d rfl) ((congrFun (F.2.2 356 (by decide)).1 0).trans i_356_0) ?_
      refine X_icmp_ge (tgt := 40) rfl rfl rfl (fun _ => ?_) (fun q => absurd q (by decide))
      refine X_iload_n rfl rfl rfl rfl ?_
      refine LW_ireturn (st := []) rfl rfl rfl ?_
      refine X_if_ne (tgt := 35) rfl rfl rfl (fun q => absurd q (by decide)) (fun _ => ?_)
      refine LW_goto (tgt := 46) rfl rfl ?_
      refine X_iinc (v := (3 : Int32)) (ls' := [some (.ref 355), some (.int a), some (.int (0 : Int32)), some (.int (0 : Int32)), some (.int (3 : Int32)), none, none, none, none, none]) rfl rfl rfl rfl rfl ?_
      refine LW_goto (tgt := 16) rfl rfl ?_
      refine X_iload rfl rfl rfl ?_
      refine X_bipush (v := (26 : Int32)) rfl rfl rfl ?_
      refine X_icmp_ge (tgt := 52) rfl rfl rfl (fun q => absurd q (by decide)) (fun _ => ?_)
      refine X_aload_n rfl rfl rfl rfl ?_
      refine X_iload rfl rfl rfl ?_
      refine X_callV (as := [.int (3 : Int32)]) (st := []) rfl rfl rfl (by decide) rfl (Nat.le_of_ble_eq_true rfl) (by decide) (Nat.le_of_ble_eq_true rfl) rfl ((congrFun F.1 355).trans s_355) (by decide) ?_
      refine LW_ls (ls' := [some (.ref 355), some (.int (3 : Int32)), none, none]) rfl ?_
      refine X_iconst (v := (0 : Int32)) rfl rfl rfl ?_
      refine X_istore_n (i := 2) (ls' := [some (.ref 355), some (.int (3 : Int32)), some (.int (0 : Int32)), none]) rfl rfl rfl (Nat.le_of_ble_eq_true rfl) rfl ?_
      refine X_iconst (v := (0 : Int32)) rfl rfl rfl ?_
      refine X_istore_n (i := 3) (ls' := [some (.ref 355), some (.int (3 : Int32)), some (.int (0 : Int32)), some (.int (0 : Int32))]) rfl rfl rfl (Nat.le_of_ble_eq_true rfl) rfl ?_
      refine X_iload_n rfl rfl rfl rfl ?_
      refine X_aload_n rfl rfl rfl rfl ?_
      refine X_getR (a := 356) rfl rfl rfl ((congrFun F.1 355).trans s_355) rfl ((congrFun (F.2.1 355 (by decide)) 0).trans r_355_0) ?_
      refine X_iconst (v := (0 : Int32)) rfl rfl rfl ?_
      refine X_iald (v := (0 : Int32)) rfl rfl ((congrFun F.1 356).trans s_356) (vp_in_d rfl) ((congrFun (F.2.2 356 (by decide)).1 0).trans i_356_0) ?_
      refine X_icmp_ge (tgt := 40) rfl rfl rfl (fun _ => ?_) (fun q => absurd q (by decide))
      refine X_iload_n rfl rfl rfl rfl ?_
      refine LW_ireturn (st := []) rfl rfl rfl ?_
      refine X_if_ne (tgt := 35) rfl rfl rfl (fun q => absurd q (by decide)) (fun _ => ?_)
      refine LW_goto (tgt := 46) rfl rfl ?_
      refine X_iinc (v := (4 : Int32)) (ls' := [some (.ref 355), some (.int a), some (.int (0 : Int32)), some (.int (0 : Int32)), some (.int (4 : Int32)), none, none, none, none, none]) rfl rfl rfl rfl rfl ?_
      refine LW_goto (tgt := 16) rfl rfl ?_
      refine X_iload rfl rfl rfl ?_
      refine X_bipush (v := (26 : Int32)) rfl rfl rfl ?_
      refine X_icmp_ge (tgt := 52) rfl rfl rfl (fun q => absurd q (by decide)) (fun _ => ?_)
      refine X_aload_n rfl rfl rfl rfl ?_
      refine X_iload rfl rfl rfl ?_
      refine X_callV (as := [.int (4 : Int32)]) (st := []) rfl rfl rfl (by decide) rfl (Nat.le_of_ble_eq_true rfl) (by decide) (Nat.le_of_ble_eq_true rfl) rfl ((congrFun F.1 355).trans s_355) (by decide) ?_
      refine LW_ls (ls' := [some (.ref 355), some (.int (4 : Int32)), none, none]) rfl ?_
      refine X_iconst (v := (0 : Int32)) rfl rfl rfl ?_
      refine X_istore_n (i := 2) (ls' := [some (.ref 355), some (.int (4 : Int32)), some (.int (0 : Int32)), none]) rfl rfl rfl (Nat.le_of_ble_eq_true rfl) rfl ?_
      refine X_iconst (v := (0 : Int32)) rfl rfl rfl ?_
      refine X_istore_n (i := 3) (ls' := [some (.ref 355), some (.int (4 : Int32)), some (.int (0 : Int32)), some (.int (0 : Int32))]) rfl rfl rfl (Nat.le_of_ble_eq_true rfl) rfl ?_
      refine X_iload_n rfl rfl rfl rfl ?_
      refine X_aload_n rfl rfl rfl rfl ?_
      refine X_getR (a := 356) rfl rfl rfl ((congrFun F.1 355).trans s_355) rfl ((congrFun (F.2.1 355 (by decide)) 0).trans r_355_0) ?_
      refine X_iconst (v := (0 : Int32)) rfl rfl rfl ?_
      refine X_iald (v := (0 : Int32)) rfl rfl ((congrFun F.1 356).trans s_356) (vp_in_d rfl) ((congrFun (F.2.2 356 (by decide)).1 0).trans i_356_0) ?_
      refine X_icmp_ge (tgt := 40) rfl rfl rfl (fun _ => ?_) (fun q => absurd q (by decide))
      refine X_iload_n rfl rfl rfl rfl ?_
      refine LW_ireturn (st := []) rfl rfl rfl ?_
      refine X_if_ne (tgt := 35) rfl rfl rfl (fun q => absurd q (by decide)) (fun _ => ?_)
      refine LW_goto (tgt := 46) rfl rfl ?_
      refine X_iinc (v := (5 : Int32)) (ls' := [some (.ref 355), some (.int a), some (.int (0 : Int32)), some (.int (0 : Int32)), some (.int (5 : Int32)), none, none, none, none, none]) rfl rfl rfl rfl rfl ?_
      refine LW_goto (tgt := 16) rfl rfl ?_
      refine X_iload rfl rfl rfl ?_
      refine X_bipush (v := (26 : Int32)) rfl rfl rfl ?_
      refine X_icmp_ge (tgt := 52) rfl rfl rfl (fun q => absurd q (by decide)) (fun _ => ?_)
      refine X_aload_n rfl rfl rfl rfl ?_
      refine X_iload rfl rfl rfl ?_
      refine X_callV (as := [.int (5 : Int32)]) (st := []) rfl rfl rfl (by decide) rfl (Nat.le_of_ble_eq_true rfl) (by decide) (Nat.le_of_ble_eq_true rfl) rfl ((congrFun F.1 355).trans s_355) (by decide) ?_
      refine LW_ls (ls' := [some (.ref 355), some (.int (5 : Int32)), none, none]) rfl ?_
      refine X_iconst (v := (0 : Int32)) rfl rfl rfl ?_
      refine X_istore_n (i := 2) (ls' := [some (.ref 355), some (.int (5 : Int32)), some (.int (0 : Int32)), none]) rfl rfl rfl (Nat.le_of_ble_eq_true rfl) rfl ?_
      refine X_iconst (v := (0 : Int32)) rfl rfl rfl ?_
      refine X_istore_n (i := 3) (ls' := [some (.ref 355), some (.int (5 : Int32)), some (.int (0 : Int32)), some (.int (0 : Int32))]) rfl rfl rfl (Nat.le_of_ble_eq_true rfl) rfl ?_
      refine X_iload_n rfl rfl rfl rfl ?_
      refine X_aload_n rfl rfl rfl rfl ?_
      refine X_getR (a := 356) rfl rfl rfl ((congrFun F.1 355).trans s_355) rfl ((congrFun (F.2.1 355 (by decide)) 0).trans r_355_0) ?_
      refine X_iconst (v := (0 : Int32)) rfl rfl rfl ?_
      refine X_iald (v := (0 : Int32)) rfl rfl ((congrFun F.1 356).trans s_356) (vp_in_d rfl) ((congrFun (F.2.2 356 (by decide)).1 0).trans i_356_0) ?_
      refine X_icmp_ge (tgt := 40) rfl rfl rfl (fun _ => ?_) (fun q => absurd q (by decide))
      refine X_iload_n rfl rfl rfl rfl ?_
      refine LW_ireturn (st := []) rfl rfl rfl ?_
      refine X_if_ne (tgt := 35) rfl rfl rfl (fun q => absurd q (by decide)) (fun _ => ?_)
      refine LW_goto (tgt := 46) rfl rfl ?_
      refine X_iinc (v := (6 : Int32)) (ls' := [some (.ref 355), some (.int a), some (.int (0 : Int32)), some (.int (0 : Int32)), some (.int (6 : Int32)), none, none, none, none, none]) rfl rfl rfl rfl rfl ?_
      refine LW_goto (tgt := 16) rfl rfl ?_
      refine X_iload rfl rfl rfl ?_
      refine X_bipush (v := (26 : Int32)) rfl rfl rfl ?_
      refine X_icmp_ge (tgt := 52) rfl rfl rfl (fun q => absurd q (by decide)) (fun _ => ?_)
      refine X_aload_n rfl rfl rfl rfl ?_
      refine X_iload rfl rfl rfl ?_
      refine X_callV (as := [.int (6 : Int32)]) (st := []) rfl rfl rfl (by decide) rfl (Nat.le_of_ble_eq_true rfl) (by decide) (Nat.le_of_ble_eq_true rfl) rfl ((congrFun F.1 355).trans s_355) (by decide) ?_
      refine LW_ls (ls' := [some (.ref 355), some (.int (6 : Int32)), none, none]) rfl ?_
      refine X_iconst (v := (0 : Int32)) rfl rfl rfl ?_
      refine X_istore_n (i := 2) (ls' := [some (.ref 355), some (.int (6 : Int32)), some (.int (0 : Int32)), none]) rfl rfl rfl (Nat.le_of_ble_eq_true rfl) rfl ?_
      refine X_iconst (v := (0 : Int32)) rfl rfl rfl ?_
      refine X_istore_n (i := 3) (ls' := [some (.ref 355), some (.int (6 : Int32)), some (.int (0 : Int32)), some (.int (0 : Int32))]) rfl rfl rfl (Nat.le_of_ble_eq_true rfl) rfl ?_
      refine X_iload_n rfl rfl rfl rfl ?_
      refine X_aload_n rfl rfl rfl rfl ?_
      refine X_getR (a := 356) rfl rfl rfl ((congrFun F.1 355).trans s_355) rfl ((congrFun (F.2.1 355 (by decide)) 0).trans r_355_0) ?_
      refine X_iconst (v := (0 : Int32)) rfl rfl rfl ?_
      refine X_iald (v := (0 : Int32)) rfl rfl ((congrFun F.1 356).trans s_356) (vp_in_d rfl) ((congrFun (F.2.2 356 (by decide)).1 0).trans i_356_0) ?_
      refine X_icmp_ge (tgt := 40) rfl rfl rfl (fun _ => ?_) (fun q => absurd q (by decide))
      refine X_iload_n rfl rfl rfl rfl ?_
      refine LW_ireturn (st := []) rfl rfl rfl ?_
      refine X_if_ne (tgt := 35) rfl rfl rfl (fun q => absurd q (by decide)) (fun _ => ?_)
      refine LW_goto (tgt := 46) rfl rfl ?_
      refine X_iinc (v := (7 : Int32)) (ls' := [some (.ref 355), some (.int a), some (.int (0 : Int32)), some (.int (0 : Int32)), some (.int (7 : Int32)), none, none, none, none, none]) rfl rfl rfl rfl rfl ?_
      refine LW_goto (tgt := 16) rfl rfl ?_
      refine X_iload rfl rfl rfl ?_
      refine X_bipush (v := (26 : Int32)) rfl rfl rfl ?_
      refine X_icmp_ge (tgt := 52) rfl rfl rfl (fun q => absurd q (by decide)) (fun _ => ?_)
      refine X_aload_n rfl rfl rfl rfl ?_
      refine X_iload rfl rfl rfl ?_
      refine X_callV (as := [.int (7 : Int32)]) (st := []) rfl rfl rfl (by decide) rfl (Nat.le_of_ble_eq_true rfl) (by decide) (Nat.le_of_ble_eq_true rfl) rfl ((congrFun F.1 355).trans s_355) (by decide) ?_
      refine LW_ls (ls' := [some (.ref 355), some (.int (7 : Int32)), none, none]) rfl ?_
      refine X_iconst (v := (0 : Int32)) rfl rfl rfl ?_
      refine X_istore_n (i := 2) (ls' := [some (.ref 355), some (.int (7 : Int32)), some (.int (0 : Int32)), none]) rfl rfl rfl (Nat.le_of_ble_eq_true rfl) rfl ?_
      refine X_iconst (v := (0 : Int32)) rfl rfl rfl ?_
      refine X_istore_n (i := 3) (ls' := [some (.ref 355), some (.int (7 : Int32)), some (.int (0 : Int32)), some (.int (0 : Int32))]) rfl rfl rfl (Nat.le_of_ble_eq_true rfl) rfl ?_
      refine X_iload_n rfl rfl rfl rfl ?_
      refine X_aload_n rfl rfl rfl rfl ?_
      refine X_getR (a := 356) rfl rfl rfl ((congrFun F.1 355).trans s_355) rfl ((congrFun (F.2.1 355 (by decide)) 0).trans r_355_0) ?_
      refine X_iconst (v := (0 : Int32)) rfl rfl rfl ?_
      refine X_iald (v := (0 : Int32)) rfl rfl ((congrFun F.1 356).trans s_356) (vp_in_d rfl) ((congrFun (F.2.2 356 (by decide)).1 0).trans i_356_0) ?_
      refine X_icmp_ge (tgt := 40) rfl rfl rfl (fun _ => ?_) (fun q => absurd q (by decide))
      refine X_iload_n rfl rfl rfl rfl ?_
      refine LW_ireturn (st := []) rfl rfl rfl ?_
      refine X_if_ne (tgt := 35) rfl rfl rfl (fun q => absurd q (by decide)) (fun _ => ?_)
      refine LW_goto (tgt := 46) rfl rfl ?_
      refine X_iinc (v := (8 : Int32)) (ls' := [some (.ref 355), some (.int a), some (.int (0 : Int32)), some (.int (0 : Int32)), some (.int (8 : Int32)), none, none, none, none, none]) rfl rfl rfl rfl rfl ?_
      refine LW_goto (tgt := 16) rfl rfl ?_
      refine X_iload rfl rfl rfl ?_
      refine X_bipush (v := (26 : Int32)) rfl rfl rfl ?_
      refine X_icmp_ge (tgt := 52) rfl rfl rfl (fun q => absurd q (by decide)) (fun _ => ?_)
      refine X_aload_n rfl rfl rfl rfl ?_
      refine X_iload rfl rfl rfl ?_
      refine X_callV (as := [.int (8 : Int32)]) (st := []) rfl rfl rfl (by decide) rfl (Nat.le_of_ble_eq_true rfl) (by decide) (Nat.le_of_ble_eq_true rfl) rfl ((congrFun F.1 355).trans s_355) (by decide) ?_
      refine LW_ls (ls' := [some (.ref 355), some (.int (8 : Int32)), none, none]) rfl ?_
      refine X_iconst (v := (0 : Int32)) rfl rfl rfl ?_
      refine X_istore_n (i := 2) (ls' := [some (.ref 355), some (.int (8 : Int32)), some (.int (0 : Int32)), none]) rfl rfl rfl (Nat.le_of_ble_eq_true rfl) rfl ?_
      refine X_iconst (v := (0 : Int32)) rfl rfl rfl ?_
      refine X_istore_n (i := 3) (ls' := [some (.ref 355), some (.int (8 : Int32)), some (.int (0 : Int32)), some (.int (0 : Int32))]) rfl rfl rfl (Nat.le_of_ble_eq_true rfl) rfl ?_
      refine X_iload_n rfl rfl rfl rfl ?_
      refine X_aload_n rfl rfl rfl rfl ?_
      refine X_getR (a := 356) rfl rfl rfl ((congrFun F.1 355).trans s_355) rfl ((congrFun (F.2.1 355 (by decide)) 0).trans r_355_0) ?_
      refine X_iconst (v := (0 : Int32)) rfl rfl rfl ?_
      refine X_iald (v := (0 : Int32)) rfl rfl ((congrFun F.1 356).trans s_356) (vp_in_d rfl) ((congrFun (F.2.2 356 (by decide)).1 0).trans i_356_0) ?_
      refine X_icmp_ge (tgt := 40) rfl rfl rfl (fun _ => ?_) (fun q => absurd q (by decide))
      refine X_iload_n rfl rfl rfl rfl ?_
      refine LW_ireturn (st := []) rfl rfl rfl ?_
      refine X_if_ne (tgt := 35) rfl rfl rfl (fun q => absurd q (by decide)) (fun _ => ?_)
      refine LW_goto (tgt := 46) rfl rfl ?_
      refine X_iinc (v := (9 : Int32)) (ls' := [some (.ref 355), some (.int a), some (.int (0 : Int32)), some (.int (0 : Int32)), some (.int (9 : Int32)), none, none, none, none, none]) rfl rfl rfl rfl rfl ?_
      refine LW_goto (tgt := 16) rfl rfl ?_
      refine X_iload rfl rfl rfl ?_
      refine X_bipush (v := (26 : Int32)) rfl rfl rfl ?_
      refine X_icmp_ge (tgt := 52) rfl rfl rfl (fun q => absurd q (by decide)) (fun _ => ?_)
      refine X_aload_n rfl rfl rfl rfl ?_
      refine X_iload rfl rfl rfl ?_
      refine X_callV (as := [.int (9 : Int32)]) (st := []) rfl rfl rfl (by decide) rfl (Nat.le_of_ble_eq_true rfl) (by decide) (Nat.le_of_ble_eq_true rfl) rfl ((congrFun F.1 355).trans s_355) (by decide) ?_
      refine LW_ls (ls' := [some (.ref 355), some (.int (9 : Int32)), none, none]) rfl ?_
      refine X_iconst (v := (0 : Int32)) rfl rfl rfl ?_
      refine X_istore_n (i := 2) (ls' := [some (.ref 355), some (.int (9 : Int32)), some (.int (0 : Int32)), none]) rfl rfl rfl (Nat.le_of_ble_eq_true rfl) rfl ?_
      refine X_iconst (v := (0 : Int32)) rfl rfl rfl ?_
      refine X_istore_n (i := 3) (ls' := [some (.ref 355), some (.int (9 : Int32)), some (.int (0 : Int32)), some (.int (0 : Int32))]) rfl rfl rfl (Nat.le_of_ble_eq_true rfl) rfl ?_
      refine X_iload_n rfl rfl rfl rfl ?_
      refine X_aload_n rfl rfl rfl rfl ?_
      refine X_getR (a := 356) rfl rfl rfl ((congrFun F.1 355).trans s_355) rfl ((congrFun (F.2.1 355 (by decide)) 0).trans r_355_0) ?_
      refine X_iconst (v := (0 : Int32)) rfl rfl rfl ?_
      refine X_iald (v := (0 : Int32)) rfl rfl ((congrFun F.1 356).trans s_356) (vp_in_d rfl) ((congrFun (F.2.2 356 (by decide)).1 0).trans i_356_0) ?_
      refine X_icmp_ge (tgt := 40) rfl rfl rfl (fun _ => ?_) (fun q => absurd q (by decide))
      refine X_iload_n rfl rfl rfl rfl ?_
      refine LW_ireturn (st := []) rfl rfl rfl ?_
      refine X_if_ne (tgt := 35) rfl rfl rfl (fun q => absurd q (by decide)) (fun _ => ?_)
      refine LW_goto (tgt := 46) rfl rfl ?_
      refine X_iinc (v := (10 : Int32)) (ls' := [some (.ref 355), some (.int a), some (.int (0 : Int32)), some (.int (0 : Int32)), some (.int (10 : Int32)), none, none, none, none, none]) rfl rfl rfl rfl rfl ?_
      refine LW_goto (tgt := 16) rfl rfl ?_
      refine X_iload rfl rfl rfl ?_
      refine X_bipush (v := (26 : Int32)) rfl rfl rfl ?_
      refine X_icmp_ge (tgt := 52) rfl rfl rfl (fun q => absurd q (by decide)) (fun _ => ?_)
      refine X_aload_n rfl rfl rfl rfl ?_
      refine X_iload rfl rfl rfl ?_
      refine X_callV (as := [.int (10 : Int32)]) (st := []) rfl rfl rfl (by decide) rfl (Nat.le_of_ble_eq_true rfl) (by decide) (Nat.le_of_ble_eq_true rfl) rfl ((congrFun F.1 355).trans s_355) (by decide) ?_
      refine LW_ls (ls' := [some (.ref 355), some (.int (10 : Int32)), none, none]) rfl ?_
      refine X_iconst (v := (0 : Int32)) rfl rfl rfl ?_
      refine X_istore_n (i := 2) (ls' := [some (.ref 355), some (.int (10 : Int32)), some (.int (0 : Int32)), none]) rfl rfl rfl (Nat.le_of_ble_eq_true rfl) rfl ?_
      refine X_iconst (v := (0 : Int32)) rfl rfl rfl ?_
      refine X_istore_n (i := 3) (ls' := [some (.ref 355), some (.int (10 : Int32)), some (.int (0 : Int32)), some (.int (0 : Int32))]) rfl rfl rfl (Nat.le_of_ble_eq_true rfl) rfl ?_
      refine X_iload_n rfl rfl rfl rfl ?_
      refine X_aload_n rfl rfl rfl rfl ?_
      refine X_getR (a := 356) rfl rfl rfl ((congrFun F.1 355).trans s_355) rfl ((congrFun (F.2.1 355 (by decide)) 0).trans r_355_0) ?_
      refine X_iconst (v := (0 : Int32)) rfl rfl rfl ?_
      refine X_iald (v := (0 : Int32)) rfl rfl ((congrFun F.1 356).trans s_356) (vp_in_d rfl) ((congrFun (F.2.2 356 (by decide)).1 0).trans i_356_0) ?_
      refine X_icmp_ge (tgt := 40) rfl rfl rfl (fun _ => ?_) (fun q => absurd q (by decide))
      refine X_iload_n rfl rfl rfl rfl ?_
      refine LW_ireturn (st := []) rfl rfl rfl ?_
      refine X_if_ne (tgt := 35) rfl rfl rfl (fun q => absurd q (by decide)) (fun _ => ?_)
      refine LW_goto (tgt := 46) rfl rfl ?_
      refine X_iinc (v := (11 : Int32)) (ls' := [some (.ref 355), some (.int a), some (.int (0 : Int32)), some (.int (0 : Int32)), some (.int (11 : Int32)), none, none, none, none, none]) rfl rfl rfl rfl rfl ?_
      refine LW_goto (tgt := 16) rfl rfl ?_
      refine X_iload rfl rfl rfl ?_
      refine X_bipush (v := (26 : Int32)) rfl rfl rfl ?_
      refine X_icmp_ge (tgt := 52) rfl rfl rfl (fun q => absurd q (by decide)) (fun _ => ?_)
      refine X_aload_n rfl rfl rfl rfl ?_
      refine X_iload rfl rfl rfl ?_
      refine X_callV (as := [.int (11 : Int32)]) (st := []) rfl rfl rfl (by decide) rfl (Nat.le_of_ble_eq_true rfl) (by decide) (Nat.le_of_ble_eq_true rfl) rfl ((congrFun F.1 355).trans s_355) (by decide) ?_
      refine LW_ls (ls' := [some (.ref 355), some (.int (11 : Int32)), none, none]) rfl ?_
      refine X_iconst (v := (0 : Int32)) rfl rfl rfl ?_
      refine X_istore_n (i := 2) (ls' := [some (.ref 355), some (.int (11 : Int32)), some (.int (0 : Int32)), none]) rfl rfl rfl (Nat.le_of_ble_eq_true rfl) rfl ?_
      refine X_iconst (v := (0 : Int32)) rfl rfl rfl ?_
      refine X_istore_n (i := 3) (ls' := [some (.ref 355), some (.int (11 : Int32)), some (.int (0 : Int32)), some (.int (0 : Int32))]) rfl rfl rfl (Nat.le_of_ble_eq_true rfl) rfl ?_
      refine X_iload_n rfl rfl rfl rfl ?_
      refine X_aload_n rfl rfl rfl rfl ?_
      refine X_getR (a := 356) rfl rfl rfl ((congrFun F.1 355).trans s_355) rfl ((congrFun (F.2.1 355 (by decide)) 0).trans r_355_0) ?_
      refine X_iconst (v := (0 : Int32)) rfl rfl rfl ?_
      refine X_iald (v := (0 : Int32)) rfl rfl ((congrFun F.1 356).trans s_356) (vp_in_d rfl) ((congrFun (F.2.2 356 (by decide)).1 0).trans i_356_0) ?_
      refine X_icmp_ge (tgt := 40) rfl rfl rfl (fun _ => ?_) (fun q => absurd q (by decide))
      refine X_iload_n rfl rfl rfl rfl ?_
      refine LW_ireturn (st := []) rfl rfl rfl ?_
      refine X_if_ne (tgt := 35) rfl rfl rfl (fun q => absurd q (by decide)) (fun _ => ?_)
      refine LW_goto (tgt := 46) rfl rfl ?_
      refine X_iinc (v := (12 : Int32)) (ls' := [some (.ref 355), some (.int a), some (.int (0 : Int32)), some (.int (0 : Int32)), some (.int (12 : Int32)), none, none, none, none, none]) rfl rfl rfl rfl rfl ?_
      refine LW_goto (tgt := 16) rfl rfl ?_
      refine X_iload rfl rfl rfl ?_
      refine X_bipush (v := (26 : Int32)) rfl rfl rfl ?_
      refine X_icmp_ge (tgt := 52) rfl rfl rfl (fun q => absurd q (by decide)) (fun _ => ?_)
      refine X_aload_n rfl rfl rfl rfl ?_
      refine X_iload rfl rfl rfl ?_
      refine X_callV (as := [.int (12 : Int32)]) (st := []) rfl rfl rfl (by decide) rfl (Nat.le_of_ble_eq_true rfl) (by decide) (Nat.le_of_ble_eq_true rfl) rfl ((congrFun F.1 355).trans s_355) (by decide) ?_
      refine LW_ls (ls' := [some (.ref 355), some (.int (12 : Int32)), none, none]) rfl ?_
      refine X_iconst (v := (0 : Int32)) rfl rfl rfl ?_
      refine X_istore_n (i := 2) (ls' := [some (.ref 355), some (.int (12 : Int32)), some (.int (0 : Int32)), none]) rfl rfl rfl (Nat.le_of_ble_eq_true rfl) rfl ?_
      refine X_iconst (v := (0 : Int32)) rfl rfl rfl ?_
      refine X_istore_n (i := 3) (ls' := [some (.ref 355), some (.int (12 : Int32)), some (.int (0 : Int32)), some (.int (0 : Int32))]) rfl rfl rfl (Nat.le_of_ble_eq_true rfl) rfl ?_
      refine X_iload_n rfl rfl rfl rfl ?_
      refine X_aload_n rfl rfl rfl rfl ?_
      refine X_getR (a := 356) rfl rfl rfl ((congrFun F.1 355).trans s_355) rfl ((congrFun (F.2.1 355 (by decide)) 0).trans r_355_0) ?_
      refine X_iconst (v := (0 : Int32)) rfl rfl rfl ?_
      refine X_iald (v := (0 : Int32)) rfl rfl ((congrFun F.1 356).trans s_356) (vp_in_d rfl) ((congrFun (F.2.2 356 (by decide)).1 0).trans i_356_0) ?_
      refine X_icmp_ge (tgt := 40) rfl rfl rfl (fun _ => ?_) (fun q => absurd q (by decide))
      refine X_iload_n rfl rfl rfl rfl ?_
      refine LW_ireturn (st := []) rfl rfl rfl ?_
      refine X_if_ne (tgt := 35) rfl rfl rfl (fun q => absurd q (by decide)) (fun _ => ?_)
      refine LW_goto (tgt := 46) rfl rfl ?_
      refine X_iinc (v := (13 : Int32)) (ls' := [some (.ref 355), some (.int a), some (.int (0 : Int32)), some (.int (0 : Int32)), some (.int (13 : Int32)), none, none, none, none, none]) rfl rfl rfl rfl rfl ?_
      refine LW_goto (tgt := 16) rfl rfl ?_
      refine X_iload rfl rfl rfl ?_
      refine X_bipush (v := (26 : Int32)) rfl rfl rfl ?_
      refine X_icmp_ge (tgt := 52) rfl rfl rfl (fun q => absurd q (by decide)) (fun _ => ?_)
      refine X_aload_n rfl rfl rfl rfl ?_
      refine X_iload rfl rfl rfl ?_
      refine X_callV (as := [.int (13 : Int32)]) (st := []) rfl rfl rfl (by decide) rfl (Nat.le_of_ble_eq_true rfl) (by decide) (Nat.le_of_ble_eq_true rfl) rfl ((congrFun F.1 355).trans s_355) (by decide) ?_
      refine LW_ls (ls' := [some (.ref 355), some (.int (13 : Int32)), none, none]) rfl ?_
      refine X_iconst (v := (0 : Int32)) rfl rfl rfl ?_
      refine X_istore_n (i := 2) (ls' := [some (.ref 355), some (.int (13 : Int32)), some (.int (0 : Int32)), none]) rfl rfl rfl (Nat.le_of_ble_eq_true rfl) rfl ?_
      refine X_iconst (v := (0 : Int32)) rfl rfl rfl ?_
      refine X_istore_n (i := 3) (ls' := [some (.ref 355), some (.int (13 : Int32)), some (.int (0 : Int32)), some (.int (0 : Int32))]) rfl rfl rfl (Nat.le_of_ble_eq_true rfl) rfl ?_
      refine X_iload_n rfl rfl rfl rfl ?_
      refine X_aload_n rfl rfl rfl rfl ?_
      refine X_getR (a := 356) rfl rfl rfl ((congrFun F.1 355).trans s_355) rfl ((congrFun (F.2.1 355 (by decide)) 0).trans r_355_0) ?_
      refine X_iconst (v := (0 : Int32)) rfl rfl rfl ?_
      refine X_iald (v := (0 : Int32)) rfl rfl ((congrFun F.1 356).trans s_356) (vp_in_d rfl) ((congrFun (F.2.2 356 (by decide)).1 0).trans i_356_0) ?_
      refine X_icmp_ge (tgt := 40) rfl rfl rfl (fun _ => ?_) (fun q => absurd q (by decide))
      refine X_iload_n rfl rfl rfl rfl ?_
      refine LW_ireturn (st := []) rfl rfl rfl ?_
      refine X_if_ne (tgt := 35) rfl rfl rfl (fun q => absurd q (by decide)) (fun _ => ?_)
      refine LW_goto (tgt := 46) rfl rfl ?_
      refine X_iinc (v := (14 : Int32)) (ls' := [some (.ref 355), some (.int a), some (.int (0 : Int32)), some (.int (0 : Int32)), some (.int (14 : Int32)), none, none, none, none, none]) rfl rfl rfl rfl rfl ?_
      refine LW_goto (tgt := 16) rfl rfl ?_
      refine X_iload rfl rfl rfl ?_
      refine X_bipush (v := (26 : Int32)) rfl rfl rfl ?_
      refine X_icmp_ge (tgt := 52) rfl rfl rfl (fun q => absurd q (by decide)) (fun _ => ?_)
      refine X_aload_n rfl rfl rfl rfl ?_
      refine X_iload rfl rfl rfl ?_
      refine X_callV (as := [.int (14 : Int32)]) (st := []) rfl rfl rfl (by decide) rfl (Nat.le_of_ble_eq_true rfl) (by decide) (Nat.le_of_ble_eq_true rfl) rfl ((congrFun F.1 355).trans s_355) (by decide) ?_
      refine LW_ls (ls' := [some (.ref 355), some (.int (14 : Int32)), none, none]) rfl ?_
      refine X_iconst (v := (0 : Int32)) rfl rfl rfl ?_
      refine X_istore_n (i := 2) (ls' := [some (.ref 355), some (.int (14 : Int32)), some (.int (0 : Int32)), none]) rfl rfl rfl (Nat.le_of_ble_eq_true rfl) rfl ?_
      refine X_iconst (v := (0 : Int32)) rfl rfl rfl ?_
      refine X_istore_n (i := 3) (ls' := [some (.ref 355), some (.int (14 : Int32)), some (.int (0 : Int32)), some (.int (0 : Int32))]) rfl rfl rfl (Nat.le_of_ble_eq_true rfl) rfl ?_
      refine X_iload_n rfl rfl rfl rfl ?_
      refine X_aload_n rfl rfl rfl rfl ?_
      refine X_getR (a := 356) rfl rfl rfl ((congrFun F.1 355).trans s_355) rfl ((congrFun (F.2.1 355 (by decide)) 0).trans r_355_0) ?_
      refine X_iconst (v := (0 : Int32)) rfl rfl rfl ?_
      refine X_iald (v := (0 : Int32)) rfl rfl ((congrFun F.1 356).trans s_356) (vp_in_d rfl) ((congrFun (F.2.2 356 (by decide)).1 0).trans i_356_0) ?_
      refine X_icmp_ge (tgt := 40) rfl rfl rfl (fun _ => ?_) (fun q => absurd q (by decide))
      refine X_iload_n rfl rfl rfl rfl ?_
      refine LW_ireturn (st := []) rfl rfl rfl ?_
      refine X_if_ne (tgt := 35) rfl rfl rfl (fun q => absurd q (by decide)) (fun _ => ?_)
      refine LW_goto (tgt := 46) rfl rfl ?_
      refine X_iinc (v := (15 : Int32)) (ls' := [some (.ref 355), some (.int a), some (.int (0 : Int32)), some (.int (0 : Int32)), some (.int (15 : Int32)), none, none, none, none, none]) rfl rfl rfl rfl rfl ?_
      refine LW_goto (tgt := 16) rfl rfl ?_
      refine X_iload rfl rfl rfl ?_
      refine X_bipush (v := (26 : Int32)) rfl rfl rfl ?_
      refine X_icmp_ge (tgt := 52) rfl rfl rfl (fun q => absurd q (by decide)) (fun _ => ?_)
      refine X_aload_n rfl rfl rfl rfl ?_
      refine X_iload rfl rfl rfl ?_
      refine X_callV (as := [.int (15 : Int32)]) (st := []) rfl rfl rfl (by decide) rfl (Nat.le_of_ble_eq_true rfl) (by decide) (Nat.le_of_ble_eq_true rfl) rfl ((congrFun F.1 355).trans s_355) (by decide) ?_
      refine LW_ls (ls' := [some (.ref 355), some (.int (15 : Int32)), none, none]) rfl ?_
      refine X_iconst (v := (0 : Int32)) rfl rfl rfl ?_
      refine X_istore_n (i := 2) (ls' := [some (.ref 355), some (.int (15 : Int32)), some (.int (0 : Int32)), none]) rfl rfl rfl (Nat.le_of_ble_eq_true rfl) rfl ?_
      refine X_iconst (v := (0 : Int32)) rfl rfl rfl ?_
      refine X_istore_n (i := 3) (ls' := [some (.ref 355), some (.int (15 : Int32)), some (.int (0 : Int32)), some (.int (0 : Int32))]) rfl rfl rfl (Nat.le_of_ble_eq_true rfl) rfl ?_
      refine X_iload_n rfl rfl rfl rfl ?_
      refine X_aload_n rfl rfl rfl rfl ?_
      refine X_getR (a := 356) rfl rfl rfl ((congrFun F.1 355).trans s_355) rfl ((congrFun (F.2.1 355 (by decide)) 0).trans r_355_0) ?_
      refine X_iconst (v := (0 : Int32)) rfl rfl rfl ?_
      refine X_iald (v := (0 : Int32)) rfl rfl ((congrFun F.1 356).trans s_356) (vp_in_d rfl) ((congrFun (F.2.2 356 (by decide)).1 0).trans i_356_0) ?_
      refine X_icmp_ge (tgt := 40) rfl rfl rfl (fun _ => ?_) (fun q => absurd q (by decide))
      refine X_iload_n rfl rfl rfl rfl ?_
      refine LW_ireturn (st := []) rfl rfl rfl ?_
      refine X_if_ne (tgt := 35) rfl rfl rfl (fun q => absurd q (by decide)) (fun _ => ?_)
      refine LW_goto (tgt := 46) rfl rfl ?_
      refine X_iinc (v := (16 : Int32)) (ls' := [some (.ref 355), some (.int a), some (.int (0 : Int32)), some (.int (0 : Int32)), some (.int (16 : Int32)), none, none, none, none, none]) rfl rfl rfl rfl rfl ?_
      refine LW_goto (tgt := 16) rfl rfl ?_
      refine X_iload rfl rfl rfl ?_
      refine X_bipush (v := (26 : Int32)) rfl rfl rfl ?_
      refine X_icmp_ge (tgt := 52) rfl rfl rfl (fun q => absurd q (by decide)) (fun _ => ?_)
      refine X_aload_n rfl rfl rfl rfl ?_
      refine X_iload rfl rfl rfl ?_
      refine X_callV (as := [.int (16 : Int32)]) (st := []) rfl rfl rfl (by decide) rfl (Nat.le_of_ble_eq_true rfl) (by decide) (Nat.le_of_ble_eq_true rfl) rfl ((congrFun F.1 355).trans s_355) (by decide) ?_
      refine LW_ls (ls' := [some (.ref 355), some (.int (16 : Int32)), none, none]) rfl ?_
      refine X_iconst (v := (0 : Int32)) rfl rfl rfl ?_
      refine X_istore_n (i := 2) (ls' := [some (.ref 355), some (.int (16 : Int32)), some (.int (0 : Int32)), none]) rfl rfl rfl (Nat.le_of_ble_eq_true rfl) rfl ?_
      refine X_iconst (v := (0 : Int32)) rfl rfl rfl ?_
      refine X_istore_n (i := 3) (ls' := [some (.ref 355), some (.int (16 : Int32)), some (.int (0 : Int32)), some (.int (0 : Int32))]) rfl rfl rfl (Nat.le_of_ble_eq_true rfl) rfl ?_
      refine X_iload_n rfl rfl rfl rfl ?_
      refine X_aload_n rfl rfl rfl rfl ?_
      refine X_getR (a := 356) rfl rfl rfl ((congrFun F.1 355).trans s_355) rfl ((congrFun (F.2.1 355 (by decide)) 0).trans r_355_0) ?_
      refine X_iconst (v := (0 : Int32)) rfl rfl rfl ?_
      refine X_iald (v := (0 : Int32)) rfl rfl ((congrFun F.1 356).trans s_356) (vp_in_d rfl) ((congrFun (F.2.2 356 (by decide)).1 0).trans i_356_0) ?_
      refine X_icmp_ge (tgt := 40) rfl rfl rfl (fun _ => ?_) (fun q => absurd q (by decide))
      refine X_iload_n rfl rfl rfl rfl ?_
      refine LW_ireturn (st := []) rfl rfl rfl ?_
      refine X_if_ne (tgt := 35) rfl rfl rfl (fun q => absurd q (by decide)) (fun _ => ?_)
      refine LW_goto (tgt := 46) rfl rfl ?_
      refine X_iinc (v := (17 : Int32)) (ls' := [some (.ref 355), some (.int a), some (.int (0 : Int32)), some (.int (0 : Int32)), some (.int (17 : Int32)), none, none, none, none, none]) rfl rfl rfl rfl rfl ?_
      refine LW_goto (tgt := 16) rfl rfl ?_
      refine X_iload rfl rfl rfl ?_
      refine X_bipush (v := (26 : Int32)) rfl rfl rfl ?_
      refine X_icmp_ge (tgt := 52) rfl rfl rfl (fun q => absurd q (by decide)) (fun _ => ?_)
      refine X_aload_n rfl rfl rfl rfl ?_
      refine X_iload rfl rfl rfl ?_
      refine X_callV (as := [.int (17 : Int32)]) (st := []) rfl rfl rfl (by decide) rfl (Nat.le_of_ble_eq_true rfl) (by decide) (Nat.le_of_ble_eq_true rfl) rfl ((congrFun F.1 355).trans s_355) (by decide) ?_
      refine LW_ls (ls' := [some (.ref 355), some (.int (17 : Int32)), none, none]) rfl ?_
      refine X_iconst (v := (0 : Int32)) rfl rfl rfl ?_
      refine X_istore_n (i := 2) (ls' := [some (.ref 355), some (.int (17 : Int32)), some (.int (0 : Int32)), none]) rfl rfl rfl (Nat.le_of_ble_eq_true rfl) rfl ?_
      refine X_iconst (v := (0 : Int32)) rfl rfl rfl ?_
      refine X_istore_n (i := 3) (ls' := [some (.ref 355), some (.int (17 : Int32)), some (.int (0 : Int32)), some (.int (0 : Int32))]) rfl rfl rfl (Nat.le_of_ble_eq_true rfl) rfl ?_
      refine X_iload_n rfl rfl rfl rfl ?_
      refine X_aload_n rfl rfl rfl rfl ?_
      refine X_getR (a := 356) rfl rfl rfl ((congrFun F.1 355).trans s_355) rfl ((congrFun (F.2.1 355 (by decide)) 0).trans r_355_0) ?_
      refine X_iconst (v := (0 : Int32)) rfl rfl rfl ?_
      refine X_iald (v := (0 : Int32)) rfl rfl ((congrFun F.1 356).trans s_356) (vp_in_d rfl) ((congrFun (F.2.2 356 (by decide)).1 0).trans i_356_0) ?_
      refine X_icmp_ge (tgt := 40) rfl rfl rfl (fun _ => ?_) (fun q => absurd q (by decide))
      refine X_iload_n rfl rfl rfl rfl ?_
      refine LW_ireturn (st := []) rfl rfl rfl ?_
      refine X_if_ne (tgt := 35) rfl rfl rfl (fun q => absurd q (by decide)) (fun _ => ?_)
      refine LW_goto (tgt := 46) rfl rfl ?_
      refine X_iinc (v := (18 : Int32)) (ls' := [some (.ref 355), some (.int a), some (.int (0 : Int32)), some (.int (0 : Int32)), some (.int (18 : Int32)), none, none, none, none, none]) rfl rfl rfl rfl rfl ?_
      refine LW_goto (tgt := 16) rfl rfl ?_
      refine X_iload rfl rfl rfl ?_
      refine X_bipush (v := (26 : Int32)) rfl rfl rfl ?_
      refine X_icmp_ge (tgt := 52) rfl rfl rfl (fun q => absurd q (by decide)) (fun _ => ?_)
      refine X_aload_n rfl rfl rfl rfl ?_
      refine X_iload rfl rfl rfl ?_
      refine X_callV (as := [.int (18 : Int32)]) (st := []) rfl rfl rfl (by decide) rfl (Nat.le_of_ble_eq_true rfl) (by decide) (Nat.le_of_ble_eq_true rfl) rfl ((congrFun F.1 355).trans s_355) (by decide) ?_
      refine LW_ls (ls' := [some (.ref 355), some (.int (18 : Int32)), none, none]) rfl ?_
      refine X_iconst (v := (0 : Int32)) rfl rfl rfl ?_
      refine X_istore_n (i := 2) (ls' := [some (.ref 355), some (.int (18 : Int32)), some (.int (0 : Int32)), none]) rfl rfl rfl (Nat.le_of_ble_eq_true rfl) rfl ?_
      refine X_iconst (v := (0 : Int32)) rfl rfl rfl ?_
      refine X_istore_n (i := 3) (ls' := [some (.ref 355), some (.int (18 : Int32)), some (.int (0 : Int32)), some (.int (0 : Int32))]) rfl rfl rfl (Nat.le_of_ble_eq_true rfl) rfl ?_
      refine X_iload_n rfl rfl rfl rfl ?_
      refine X_aload_n rfl rfl rfl rfl ?_
      refine X_getR (a := 356) rfl rfl rfl ((congrFun F.1 355).trans s_355) rfl ((congrFun (F.2.1 355 (by decide)) 0).trans r_355_0) ?_
      refine X_iconst (v := (0 : Int32)) rfl rfl rfl ?_
      refine X_iald (v := (0 : Int32)) rfl rfl ((congrFun F.1 356).trans s_356) (vp_in_d rfl) ((congrFun (F.2.2 356 (by decide)).1 0).trans i_356_0) ?_
      refine X_icmp_ge (tgt := 40) rfl rfl rfl (fun _ => ?_) (fun q => absurd q (by decide))
      refine X_iload_n rfl rfl rfl rfl ?_
      refine LW_ireturn (st := []) rfl rfl rfl ?_
      refine X_if_ne (tgt := 35) rfl rfl rfl (fun q => absurd q (by decide)) (fun _ => ?_)
      refine LW_goto (tgt := 46) rfl rfl ?_
      refine X_iinc (v := (19 : Int32)) (ls' := [some (.ref 355), some (.int a), some (.int (0 : Int32)), some (.int (0 : Int32)), some (.int (19 : Int32)), none, none, none, none, none]) rfl rfl rfl rfl rfl ?_
      refine LW_goto (tgt := 16) rfl rfl ?_
      refine X_iload rfl rfl rfl ?_
      refine X_bipush (v := (26 : Int32)) rfl rfl rfl ?_
      refine X_icmp_ge (tgt := 52) rfl rfl rfl (fun q => absurd q (by decide)) (fun _ => ?_)
      refine X_aload_n rfl rfl rfl rfl ?_
      refine X_iload rfl rfl rfl ?_
      refine X_callV (as := [.int (19 : Int32)]) (st := []) rfl rfl rfl (by decide) rfl (Nat.le_of_ble_eq_true rfl) (by decide) (Nat.le_of_ble_eq_true rfl) rfl ((congrFun F.1 355).trans s_355) (by decide) ?_
      refine LW_ls (ls' := [some (.ref 355), some (.int (19 : Int32)), none, none]) rfl ?_
      refine X_iconst (v := (0 : Int32)) rfl rfl rfl ?_
      refine X_istore_n (i := 2) (ls' := [some (.ref 355), some (.int (19 : Int32)), some (.int (0 : Int32)), none]) rfl rfl rfl (Nat.le_of_ble_eq_true rfl) rfl ?_
      refine X_iconst (v := (0 : Int32)) rfl rfl rfl ?_
      refine X_istore_n (i := 3) (ls' := [some (.ref 355), some (.int (19 : Int32)), some (.int (0 : Int32)), some (.int (0 : Int32))]) rfl rfl rfl (Nat.le_of_ble_eq_true rfl) rfl ?_
      refine X_iload_n rfl rfl rfl rfl ?_
      refine X_aload_n rfl rfl rfl rfl ?_
      refine X_getR (a := 356) rfl rfl rfl ((congrFun F.1 355).trans s_355) rfl ((congrFun (F.2.1 355 (by decide)) 0).trans r_355_0) ?_
      refine X_iconst (v := (0 : Int32)) rfl rfl rfl ?_
      refine X_iald (v := (0 : Int32)) rfl rfl ((congrFun F.1 356).trans s_356) (vp_in_d rfl) ((congrFun (F.2.2 356 (by decide)).1 0).trans i_356_0) ?_
      refine X_icmp_ge (tgt := 40) rfl rfl rfl (fun _ => ?_) (fun q => absurd q (by decide))
      refine X_iload_n rfl rfl rfl rfl ?_
      refine LW_ireturn (st := []) rfl rfl rfl ?_
      refine X_if_ne (tgt := 35) rfl rfl rfl (fun q => absurd q (by decide)) (fun _ => ?_)
      refine LW_goto (tgt := 46) rfl rfl ?_
      refine X_iinc (v := (20 : Int32)) (ls' := [some (.ref 355), some (.int a), some (.int (0 : Int32)), some (.int (0 : Int32)), some (.int (20 : Int32)), none, none, none, none, none]) rfl rfl rfl rfl rfl ?_
      refine LW_goto (tgt := 16) rfl rfl ?_
      refine X_iload rfl rfl rfl ?_
      refine X_bipush (v := (26 : Int32)) rfl rfl rfl ?_
      refine X_icmp_ge (tgt := 52) rfl rfl rfl (fun q => absurd q (by decide)) (fun _ => ?_)
      refine X_aload_n rfl rfl rfl rfl ?_
      refine X_iload rfl rfl rfl ?_
      refine X_callV (as := [.int (20 : Int32)]) (st := []) rfl rfl rfl (by decide) rfl (Nat.le_of_ble_eq_true rfl) (by decide) (Nat.le_of_ble_eq_true rfl) rfl ((congrFun F.1 355).trans s_355) (by decide) ?_
      refine LW_ls (ls' := [some (.ref 355), some (.int (20 : Int32)), none, none]) rfl ?_
      refine X_iconst (v := (0 : Int32)) rfl rfl rfl ?_
      refine X_istore_n (i := 2) (ls' := [some (.ref 355), some (.int (20 : Int32)), some (.int (0 : Int32)), none]) rfl rfl rfl (Nat.le_of_ble_eq_true rfl) rfl ?_
      refine X_iconst (v := (0 : Int32)) rfl rfl rfl ?_
      refine X_istore_n (i := 3) (ls' := [some (.ref 355), some (.int (20 : Int32)), some (.int (0 : Int32)), some (.int (0 : Int32))]) rfl rfl rfl (Nat.le_of_ble_eq_true rfl) rfl ?_
      refine X_iload_n rfl rfl rfl rfl ?_
      refine X_aload_n rfl rfl rfl rfl ?_
      refine X_getR (a := 356) rfl rfl rfl ((congrFun F.1 355).trans s_355) rfl ((congrFun (F.2.1 355 (by decide)) 0).trans r_355_0) ?_
      refine X_iconst (v := (0 : Int32)) rfl rfl rfl ?_
      refine X_iald (v := (0 : Int32)) rfl rfl ((congrFun F.1 356).trans s_356) (vp_in_d rfl) ((congrFun (F.2.2 356 (by decide)).1 0).trans i_356_0) ?_
      refine X_icmp_ge (tgt := 40) rfl rfl rfl (fun _ => ?_) (fun q => absurd q (by decide))
      refine X_iload_n rfl rfl rfl rfl ?_
      refine LW_ireturn (st := []) rfl rfl rfl ?_
      refine X_if_ne (tgt := 35) rfl rfl rfl (fun q => absurd q (by decide)) (fun _ => ?_)
      refine LW_goto (tgt := 46) rfl rfl ?_
      refine X_iinc (v := (21 : Int32)) (ls' := [some (.ref 355), some (.int a), some (.int (0 : Int32)), some (.int (0 : Int32)), some (.int (21 : Int32)), none, none, none, none, none]) rfl rfl rfl rfl rfl ?_
      refine LW_goto (tgt := 16) rfl rfl ?_
      refine X_iload rfl rfl rfl ?_
      refine X_bipush (v := (26 : Int32)) rfl rfl rfl ?_
      refine X_icmp_ge (tgt := 52) rfl rfl rfl (fun q => absurd q (by decide)) (fun _ => ?_)
      refine X_aload_n rfl rfl rfl rfl ?_
      refine X_iload rfl rfl rfl ?_
      refine X_callV (as := [.int (21 : Int32)]) (st := []) rfl rfl rfl (by decide) rfl (Nat.le_of_ble_eq_true rfl) (by decide) (Nat.le_of_ble_eq_true rfl) rfl ((congrFun F.1 355).trans s_355) (by decide) ?_
      refine LW_ls (ls' := [some (.ref 355), some (.int (21 : Int32)), none, none]) rfl ?_
      refine X_iconst (v := (0 : Int32)) rfl rfl rfl ?_
      refine X_istore_n (i := 2) (ls' := [some (.ref 355), some (.int (21 : Int32)), some (.int (0 : Int32)), none]) rfl rfl rfl (Nat.le_of_ble_eq_true rfl) rfl ?_
      refine X_iconst (v := (0 : Int32)) rfl rfl rfl ?_
      refine X_istore_n (i := 3) (ls' := [some (.ref 355), some (.int (21 : Int32)), some (.int (0 : Int32)), some (.int (0 : Int32))]) rfl rfl rfl (Nat.le_of_ble_eq_true rfl) rfl ?_
      refine X_iload_n rfl rfl rfl rfl ?_
      refine X_aload_n rfl rfl rfl rfl ?_
      refine X_getR (a := 356) rfl rfl rfl ((congrFun F.1 355).trans s_355) rfl ((congrFun (F.2.1 355 (by decide)) 0).trans r_355_0) ?_
      refine X_iconst (v := (0 : Int32)) rfl rfl rfl ?_
      refine X_iald (v := (0 : Int32)) rfl rfl ((congrFun F.1 356).trans s_356) (vp_in_d rfl) ((congrFun (F.2.2 356 (by decide)).1 0).trans i_356_0) ?_
      refine X_icmp_ge (tgt := 40) rfl rfl rfl (fun _ => ?_) (fun q => absurd q (by decide))
      refine X_iload_n rfl rfl rfl rfl ?_
      refine LW_ireturn (st := []) rfl rfl rfl ?_
      refine X_if_ne (tgt := 35) rfl rfl rfl (fun q => absurd q (by decide)) (fun _ => ?_)
      refine LW_goto (tgt := 46) rfl rfl ?_
      refine X_iinc (v := (22 : Int32)) (ls' := [some (.ref 355), some (.int a), some (.int (0 : Int32)), some (.int (0 : Int32)), some (.int (22 : Int32)), none, none, none, none, none]) rfl rfl rfl rfl rfl ?_
      refine LW_goto (tgt := 16) rfl rfl ?_
      refine X_iload rfl rfl rfl ?_
      refine X_bipush (v := (26 : Int32)) rfl rfl rfl ?_
      refine X_icmp_ge (tgt := 52) rfl rfl rfl (fun q => absurd q (by decide)) (fun _ => ?_)
      refine X_aload_n rfl rfl rfl rfl ?_
      refine X_iload rfl rfl rfl ?_
      refine X_callV (as := [.int (22 : Int32)]) (st := []) rfl rfl rfl (by decide) rfl (Nat.le_of_ble_eq_true rfl) (by decide) (Nat.le_of_ble_eq_true rfl) rfl ((congrFun F.1 355).trans s_355) (by decide) ?_
      refine LW_ls (ls' := [some (.ref 355), some (.int (22 : Int32)), none, none]) rfl ?_
      refine X_iconst (v := (0 : Int32)) rfl rfl rfl ?_
      refine X_istore_n (i := 2) (ls' := [some (.ref 355), some (.int (22 : Int32)), some (.int (0 : Int32)), none]) rfl rfl rfl (Nat.le_of_ble_eq_true rfl) rfl ?_
      refine X_iconst (v := (0 : Int32)) rfl rfl rfl ?_
      refine X_istore_n (i := 3) (ls' := [some (.ref 355), some (.int (22 : Int32)), some (.int (0 : Int32)), some (.int (0 : Int32))]) rfl rfl rfl (Nat.le_of_ble_eq_true rfl) rfl ?_
      refine X_iload_n rfl rfl rfl rfl ?_
      refine X_aload_n rfl rfl rfl rfl ?_
      refine X_getR (a := 356) rfl rfl rfl ((congrFun F.1 355).trans s_355) rfl ((congrFun (F.2.1 355 (by decide)) 0).trans r_355_0) ?_
      refine X_iconst (v := (0 : Int32)) rfl rfl rfl ?_
      refine X_iald (v := (0 : Int32)) rfl rfl ((congrFun F.1 356).trans s_356) (vp_in_d rfl) ((congrFun (F.2.2 356 (by decide)).1 0).trans i_356_0) ?_
      refine X_icmp_ge (tgt := 40) rfl rfl rfl (fun _ => ?_) (fun q => absurd q (by decide))
      refine X_iload_n rfl rfl rfl rfl ?_
      refine LW_ireturn (st := []) rfl rfl rfl ?_
      refine X_if_ne (tgt := 35) rfl rfl rfl (fun q => absurd q (by decide)) (fun _ => ?_)
      refine LW_goto (tgt := 46) rfl rfl ?_
      refine X_iinc (v := (23 : Int32)) (ls' := [some (.ref 355), some (.int a), some (.int (0 : Int32)), some (.int (0 : Int32)), some (.int (23 : Int32)), none, none, none, none, none]) rfl rfl rfl rfl rfl ?_
      refine LW_goto (tgt := 16) rfl rfl ?_
      refine X_iload rfl rfl rfl ?_
      refine X_bipush (v := (26 : Int32)) rfl rfl rfl ?_
      refine X_icmp_ge (tgt := 52) rfl rfl rfl (fun q => absurd q (by decide)) (fun _ => ?_)
      refine X_aload_n rfl rfl rfl rfl ?_
      refine X_iload rfl rfl rfl ?_
      refine X_callV (as := [.int (23 : Int32)]) (st := []) rfl rfl rfl (by decide) rfl (Nat.le_of_ble_eq_true rfl) (by decide) (Nat.le_of_ble_eq_true rfl) rfl ((congrFun F.1 355).trans s_355) (by decide) ?_
      refine LW_ls (ls' := [some (.ref 355), some (.int (23 : Int32)), none, none]) rfl ?_
      refine X_iconst (v := (0 : Int32)) rfl rfl rfl ?_
      refine X_istore_n (i := 2) (ls' := [some (.ref 355), some (.int (23 : Int32)), some (.int (0 : Int32)), none]) rfl rfl rfl (Nat.le_of_ble_eq_true rfl) rfl ?_
      refine X_iconst (v := (0 : Int32)) rfl rfl rfl ?_
      refine X_istore_n (i := 3) (ls' := [some (.ref 355), some (.int (23 : Int32)), some (.int (0 : Int32)), some (.int (0 : Int32))]) rfl rfl rfl (Nat.le_of_ble_eq_true rfl) rfl ?_
      refine X_iload_n rfl rfl rfl rfl ?_
      refine X_aload_n rfl rfl rfl rfl ?_
      refine X_getR (a := 356) rfl rfl rfl ((congrFun F.1 355).trans s_355) rfl ((congrFun (F.2.1 355 (by decide)) 0).trans r_355_0) ?_
      refine X_iconst (v := (0 : Int32)) rfl rfl rfl ?_
      refine X_iald (v := (0 : Int32)) rfl rfl ((congrFun F.1 356).trans s_356) (vp_in_d rfl) ((congrFun (F.2.2 356 (by decide)).1 0).trans i_356_0) ?_
      refine X_icmp_ge (tgt := 40) rfl rfl rfl (fun _ => ?_) (fun q => absurd q (by decide))
      refine X_iload_n rfl rfl rfl rfl ?_
      refine LW_ireturn (st := []) rfl rfl rfl ?_
      refine X_if_ne (tgt := 35) rfl rfl rfl (fun q => absurd q (by decide)) (fun _ => ?_)
      refine LW_goto (tgt := 46) rfl rfl ?_
      refine X_iinc (v := (24 : Int32)) (ls' := [some (.ref 355), some (.int a), some (.int (0 : Int32)), some (.int (0 : Int32)), some (.int (24 : Int32)), none, none, none, none, none]) rfl rfl rfl rfl rfl ?_
      refine LW_goto (tgt := 16) rfl rfl ?_
      refine X_iload rfl rfl rfl ?_
      refine X_bipush (v := (26 : Int32)) rfl rfl rfl ?_
      refine X_icmp_ge (tgt := 52) rfl rfl rfl (fun q => absurd q (by decide)) (fun _ => ?_)
      refine X_aload_n rfl rfl rfl rfl ?_
      refine X_iload rfl rfl rfl ?_
      refine X_callV (as := [.int (24 : Int32)]) (st := []) rfl rfl rfl (by decide) rfl (Nat.le_of_ble_eq_true rfl) (by decide) (Nat.le_of_ble_eq_true rfl) rfl ((congrFun F.1 355).trans s_355) (by decide) ?_
      refine LW_ls (ls' := [some (.ref 355), some (.int (24 : Int32)), none, none]) rfl ?_
      refine X_iconst (v := (0 : Int32)) rfl rfl rfl ?_
      refine X_istore_n (i := 2) (ls' := [some (.ref 355), some (.int (24 : Int32)), some (.int (0 : Int32)), none]) rfl rfl rfl (Nat.le_of_ble_eq_true rfl) rfl ?_
      refine X_iconst (v := (0 : Int32)) rfl rfl rfl ?_
      refine X_istore_n (i := 3) (ls' := [some (.ref 355), some (.int (24 : Int32)), some (.int (0 : Int32)), some (.int (0 : Int32))]) rfl rfl rfl (Nat.le_of_ble_eq_true rfl) rfl ?_
      refine X_iload_n rfl rfl rfl rfl ?_
      refine X_aload_n rfl rfl rfl rfl ?_
      refine X_getR (a := 356) rfl rfl rfl ((congrFun F.1 355).trans s_355) rfl ((congrFun (F.2.1 355 (by decide)) 0).trans r_355_0) ?_
      refine X_iconst (v := (0 : Int32)) rfl rfl rfl ?_
      refine X_iald (v := (0 : Int32)) rfl rfl ((congrFun F.1 356).trans s_356) (vp_in_d rfl) ((congrFun (F.2.2 356 (by decide)).1 0).trans i_356_0) ?_
      refine X_icmp_ge (tgt := 40) rfl rfl rfl (fun _ => ?_) (fun q => absurd q (by decide))
      refine X_iload_n rfl rfl rfl rfl ?_
      refine LW_ireturn (st := []) rfl rfl rfl ?_
      refine X_if_ne (tgt := 35) rfl rfl rfl (fun q => absurd q (by decide)) (fun _ => ?_)
      refine LW_goto (tgt := 46) rfl rfl ?_
      refine X_iinc (v := (25 : Int32)) (ls' := [some (.ref 355), some (.int a), some (.int (0 : Int32)), some (.int (0 : Int32)), some (.int (25 : Int32)), none, none, none, none, none]) rfl rfl rfl rfl rfl ?_
      refine LW_goto (tgt := 16) rfl rfl ?_
      refine X_iload rfl rfl rfl ?_
      refine X_bipush (v := (26 : Int32)) rfl rfl rfl ?_
      refine X_icmp_ge (tgt := 52) rfl rfl rfl (fun q => absurd q (by decide)) (fun _ => ?_)
      refine X_aload_n rfl rfl rfl rfl ?_
      refine X_iload rfl rfl rfl ?_
      refine X_callV (as := [.int (25 : Int32)]) (st := []) rfl rfl rfl (by decide) rfl (Nat.le_of_ble_eq_true rfl) (by decide) (Nat.le_of_ble_eq_true rfl) rfl ((congrFun F.1 355).trans s_355) (by decide) ?_
      refine LW_ls (ls' := [some (.ref 355), some (.int (25 : Int32)), none, none]) rfl ?_
      refine X_iconst (v := (0 : Int32)) rfl rfl rfl ?_
      refine X_istore_n (i := 2) (ls' := [some (.ref 355), some (.int (25 : Int32)), some (.int (0 : Int32)), none]) rfl rfl rfl (Nat.le_of_ble_eq_true rfl) rfl ?_
      refine X_iconst (v := (0 : Int32)) rfl rfl rfl ?_
      refine X_istore_n (i := 3) (ls' := [some (.ref 355), some (.int (25 : Int32)), some (.int (0 : Int32)), some (.int (0 : Int32))]) rfl rfl rfl (Nat.le_of_ble_eq_true rfl) rfl ?_
      refine X_iload_n rfl rfl rfl rfl ?_
      refine X_aload_n rfl rfl rfl rfl ?_
      refine X_getR (a := 356) rfl rfl rfl ((congrFun F.1 355).trans s_355) rfl ((congrFun (F.2.1 355 (by decide)) 0).trans r_355_0) ?_
      refine X_iconst (v := (0 : Int32)) rfl rfl rfl ?_
      refine X_iald (v := (0 : Int32)) rfl rfl ((congrFun F.1 356).trans s_356) (vp_in_d rfl) ((congrFun (F.2.2 356 (by decide)).1 0).trans i_356_0) ?_
      refine X_icmp_ge (tgt := 40) rfl rfl rfl (fun _ => ?_) (fun q => absurd q (by decide))
      refine X_iload_n rfl rfl rfl rfl ?_
      refine LW_ireturn (st := []) rfl rfl rfl ?_
      refine X_if_ne (tgt := 35) rfl rfl rfl (fun q => absurd q (by decide)) (fun _ => ?_)
      refine LW_goto (tgt := 46) rfl rfl ?_
      refine X_iinc (v := (26 : Int32)) (ls' := [some (.ref 355), some (.int a), some (.int (0 : Int32)), some (.int (0 : Int32)), some (.int (26 : Int32)), none, none, none, none, none]) rfl rfl rfl rfl rfl ?_
      refine LW_goto (tgt := 16) rfl rfl ?_
      refine X_iload rfl rfl rfl ?_
      refine X_bipush (v := (26 : Int32)) rfl rfl rfl ?_
      refine X_icmp_ge (tgt := 52) rfl rfl rfl (fun _ => ?_) (fun q => absurd q (by decide))
      refine X_iload_n rfl rfl rfl rfl ?_
      refine X_iload_n rfl rfl rfl rfl ?_
      refine X_icmp_ge (tgt := 61) rfl rfl rfl (fun h3 => ?_) (fun h3 => ?_)
      · refine X_iload_n rfl rfl rfl rfl ?_
        refine X_istore (i := 4) (ls' := [some (.ref 355), some (.int a), some (.int (0 : Int32)), some (.int (0 : Int32)), some (.int (0 : Int32)), none, none, none, none, none]) rfl rfl (Nat.le_of_ble_eq_true rfl) rfl ?_
        refine X_iconst (v := (0 : Int32)) rfl rfl rfl ?_
        refine X_istore (i := 5) (ls' := [some (.ref 355), some (.int a), some (.int (0 : Int32)), some (.int (0 : Int32)), some (.int (0 : Int32)), some (.int (0 : Int32)), none, none, none, none]) rfl rfl (Nat.le_of_ble_eq_true rfl) rfl ?_
        refine X_iconst (v := (-1 : Int32)) rfl rfl rfl ?_
        refine X_istore (i := 6) (ls' := [some (.ref 355), some (.int a), some (.int (0 : Int32)), some (.int (0 : Int32)), some (.int (0 : Int32)), some (.int (0 : Int32)), some (.int (-1 : Int32)), none, none, none]) rfl rfl (Nat.le_of_ble_eq_true rfl) rfl ?_
        refine X_aload_n rfl rfl rfl rfl ?_
        refine X_iload rfl rfl rfl ?_
        refine X_callV (as := [.int (0 : Int32)]) (st := []) rfl rfl rfl (by decide) rfl (Nat.le_of_ble_eq_true rfl) (by decide) (Nat.le_of_ble_eq_true rfl) rfl ((congrFun F.1 355).trans s_355) (by decide) ?_
        refine LW_ls (ls' := [some (.ref 355), some (.int (0 : Int32)), none]) rfl ?_
        refine X_iconst (v := (0 : Int32)) rfl rfl rfl ?_
        refine X_istore_n (i := 2) (ls' := [some (.ref 355), some (.int (0 : Int32)), some (.int (0 : Int32))]) rfl rfl rfl (Nat.le_of_ble_eq_true rfl) rfl ?_
        refine X_iload_n rfl rfl rfl rfl ?_
        refine X_iload_n rfl rfl rfl rfl ?_
        refine X_icmp_ge (tgt := 20) rfl rfl rfl (fun _ => ?_) (fun q => absurd q (by decide))
        refine LW_return (st := []) rfl rfl ?_
        refine X_iconst (v := (1 : Int32)) rfl rfl rfl ?_
        refine X_istore (i := 7) (ls' := [some (.ref 355), some (.int a), some (.int (0 : Int32)), some (.int (0 : Int32)), some (.int (0 : Int32)), some (.int (0 : Int32)), some (.int (-1 : Int32)), some (.int (1 : Int32)), none, none]) rfl rfl (Nat.le_of_ble_eq_true rfl) rfl ?_
        refine X_iload rfl rfl rfl ?_
        refine X_if_eq (tgt := 157) rfl rfl rfl (fun q => absurd q (by decide)) (fun _ => ?_)
        refine X_iconst (v := (0 : Int32)) rfl rfl rfl ?_
        refine X_istore (i := 8) (ls' := [some (.ref 355), some (.int a), some (.int (0 : Int32)), some (.int (0 : Int32)), some (.int (0 : Int32)), some (.int (0 : Int32)), some (.int (-1 : Int32)), some (.int (1 : Int32)), some (.int (0 : Int32)), none]) rfl rfl (Nat.le_of_ble_eq_true rfl) rfl ?_
        refine X_iconst (v := (0 : Int32)) rfl rfl rfl ?_
        refine X_istore (i := 9) (ls' := [some (.ref 355), some (.int a), some (.int (0 : Int32)), some (.int (0 : Int32)), some (.int (0 : Int32)), some (.int (0 : Int32)), some (.int (-1 : Int32)), some (.int (1 : Int32)), some (.int (0 : Int32)), some (.int (0 : Int32))]) rfl rfl (Nat.le_of_ble_eq_true rfl) rfl ?_
        refine X_iload rfl rfl rfl ?_
        refine X_iload rfl rfl rfl ?_
        refine X_icmp_ge (tgt := 122) rfl rfl rfl (fun _ => ?_) (fun q => absurd q (by decide))
        refine X_aload_n rfl rfl rfl rfl ?_
        refine X_iload rfl rfl rfl ?_
        refine X_callV (as := [.int (0 : Int32)]) (st := []) rfl rfl rfl (by decide) rfl (Nat.le_of_ble_eq_true rfl) (by decide) (Nat.le_of_ble_eq_true rfl) rfl ((congrFun F.1 355).trans s_355) (by decide) ?_
        refine LW_ls (ls' := [some (.ref 355), some (.int (0 : Int32)), none, none]) rfl ?_
        refine X_iconst (v := (0 : Int32)) rfl rfl rfl ?_
        refine X_istore_n (i := 2) (ls' := [some (.ref 355), some (.int (0 : Int32)), some (.int (0 : Int32)), none]) rfl rfl rfl (Nat.le_of_ble_eq_true rfl) rfl ?_
        refine X_iconst (v := (0 : Int32)) rfl rfl rfl ?_
        refine X_istore_n (i := 3) (ls' := [some (.ref 355), some (.int (0 : Int32)), some (.int (0 : Int32)), some (.int (0 : Int32))]) rfl rfl rfl (Nat.le_of_ble_eq_true rfl) rfl ?_
        refine X_iload_n rfl rfl rfl rfl ?_
        refine X_aload_n rfl rfl rfl rfl ?_
        refine X_getR (a := 356) rfl rfl rfl ((congrFun F.1 355).trans s_355) rfl ((congrFun (F.2.1 355 (by decide)) 0).trans r_355_0) ?_
        refine X_iconst (v := (0 : Int32)) rfl rfl rfl ?_
        refine X_iald (v := (0 : Int32)) rfl rfl ((congrFun F.1 356).trans s_356) (vp_in_d rfl) ((congrFun (F.2.2 356 (by decide)).1 0).trans i_356_0) ?_
        refine X_icmp_ge (tgt := 40) rfl rfl rfl (fun _ => ?_) (fun q => absurd q (by decide))
        refine X_iload_n rfl rfl rfl rfl ?_
        refine LW_ireturn (st := []) rfl rfl rfl ?_
        refine X_istore (i := 9) (ls' := [some (.ref 355), some (.int a), some (.int (0 : Int32)), some (.int (0 : Int32)), some (.int (0 : Int32)), some (.int (0 : Int32)), some (.int (-1 : Int32)), some (.int (1 : Int32)), some (.int (0 : Int32)), some (.int (0 : Int32))]) rfl rfl (Nat.le_of_ble_eq_true rfl) rfl ?_
        refine X_iload rfl rfl rfl ?_
        refine X_iload rfl rfl rfl ?_
        refine X_icmp_le (tgt := 145) rfl rfl rfl (fun q => absurd q (by decide)) (fun _ => ?_)
        refine X_iload rfl rfl rfl ?_
        refine X_istore (i := 6) (ls' := [some (.ref 355), some (.int a), some (.int (0 : Int32)), some (.int (0 : Int32)), some (.int (0 : Int32)), some (.int (0 : Int32)), some (.int (0 : Int32)), some (.int (1 : Int32)), some (.int (0 : Int32)), some (.int (0 : Int32))]) rfl rfl (Nat.le_of_ble_eq_true rfl) rfl ?_
        refine X_iload rfl rfl rfl ?_
        refine X_istore (i := 5) (ls' := [some (.ref 355), some (.int a), some (.int (0 : Int32)), some (.int (0 : Int32)), some (.int (0 : Int32)), some (.int (0 : Int32)), some (.int (0 : Int32)), some (.int (1 : Int32)), some (.int (0 : Int32)), some (.int (0 : Int32))]) rfl rfl (Nat.le_of_ble_eq_true rfl) rfl ?_
        refine X_aload_n rfl rfl rfl rfl ?_
        refine X_iload rfl rfl rfl ?_
        refine X_iload_n rfl rfl rfl rfl ?_
        refine X_callV (as := [.int (0 : Int32), .int (0 : Int32)]) (st := []) rfl rfl rfl (by decide) rfl (Nat.le_of_ble_eq_true rfl) (by decide) (Nat.le_of_ble_eq_true rfl) rfl ((congrFun F.1 355).trans s_355) (by decide) ?_
        refine LW_ls (ls' := [some (.ref 355), some (.int (0 : Int32)), some (.int (0 : Int32)), none, none]) rfl ?_
        refine X_iload_n rfl rfl rfl rfl ?_
        refine X_iconst (v := (1 : Int32)) rfl rfl rfl ?_
        refine X_isub (v := (-1 : Int32)) rfl rfl rfl ?_
        refine X_istore_n (i := 3) (ls' := [some (.ref 355), some (.int (0 : Int32)), some (.int (0 : Int32)), some (.int (-1 : Int32)), none]) rfl rfl rfl (Nat.le_of_ble_eq_true rfl) rfl ?_
        refine X_iload_n rfl rfl rfl rfl ?_
        refine X_if_lt (tgt := 28) rfl rfl rfl (fun _ => ?_) (fun q => absurd q (by decide))
        refine X_iload_n rfl rfl rfl rfl ?_
        refine X_if_ge (tgt := 34) rfl rfl rfl (fun q => absurd q (by decide)) (fun _ => ?_)
        refine X_iconst (v := (0 : Int32)) rfl rfl rfl ?_
        refine LW_ireturn (st := []) rfl rfl rfl ?_
        refine X_istore (i := 7) (ls' := [some (.ref 355), some (.int a), some (.int (0 : Int32)), some (.int (0 : Int32)), some (.int (0 : Int32)), some (.int (0 : Int32)), some (.int (0 : Int32)), some (.int (0 : Int32)), some (.int (0 : Int32)), some (.int (0 : Int32))]) rfl rfl (Nat.le_of_ble_eq_true rfl) rfl ?_
        refine LW_goto (tgt := 79) rfl rfl ?_
        refine X_iload rfl rfl rfl ?_
        refine X_if_eq (tgt := 157) rfl rfl rfl (fun _ => ?_) (fun q => absurd q (by decide))
        refine X_iload_n rfl rfl rfl rfl ?_
        refine X_if_eq (tgt := 166) rfl rfl rfl (fun _ => ?_) (fun q => absurd q (by decide))
        refine X_iload rfl rfl rfl ?_
        refine LW_ireturn (st := []) rfl rfl rfl (congrArg (fun z => some (Value.int z)) ?_)
        simp only [Int32.lt_iff_toInt_lt, Int32.le_iff_toInt_le, ← Int32.toInt_inj, (show (0 : Int32).toInt = 0 from rfl), (show (1 : Int32).toInt = 1 from rfl), (show (4 : Int32).toInt = 4 from rfl)] at h1 h2 h3
        unfold f_learn0
        repeat' split
        all_goals first | rfl | (exfalso; omega) | (refine Int32.toInt_inj.mp ?_; rw [show (0 : Int32).toInt = 0 from rfl]; omega)
      · exfalso
        simp only [Int32.lt_iff_toInt_lt, Int32.le_iff_toInt_le, ← Int32.toInt_inj, (show (0 : Int32).toInt = 0 from rfl), (show (1 : Int32).toInt = 1 from rfl), (show (4 : Int32).toInt = 4 from rfl)] at h1 h2 h3
        omega
set_option maxRecDepth 10000 in
set_option maxHeartbeats 4000000 in
theorem c_learn1 {g : LH} (F : Fc g) (E : Fr g) (a : Int32) : LW 158 30 0 0 0 (lEnt (mL 158) [.ref 0, .int a, .int (1 : Int32)]) [] g (fun v g' => v = some (.int (f_learn1 a)) ∧ Fr g') := by
  refine LW_ls (ls' := [some (.ref 0), some (.int a), some (.int (1 : Int32))]) rfl ?_
  refine X_iload_n rfl rfl rfl rfl ?_
  refine X_iconst (v := (1 : Int32)) rfl rfl rfl ?_
  refine X_icmp_lt (tgt := 10) rfl rfl rfl (fun h1 => ?_) (fun h1 => ?_)
  · refine X_iconst (v := (-1 : Int32)) rfl rfl rfl ?_
    refine LW_ireturn (st := []) rfl rfl rfl ⟨congrArg (fun z => some (Value.int z)) ?_, E⟩
    simp only [Int32.lt_iff_toInt_lt, Int32.le_iff_toInt_le, ← Int32.toInt_inj, (show (1 : Int32).toInt = 1 from rfl)] at h1
    unfold f_learn1
    repeat' split
    all_goals first | rfl | (exfalso; omega) | (refine Int32.toInt_inj.mp ?_; rw [show (0 : Int32).toInt = 0 from rfl]; omega)
  · refine X_iload_n rfl rfl rfl rfl ?_
    refine X_iconst (v := (4 : Int32)) rfl rfl rfl ?_
    refine X_icmp_le (tgt := 12) rfl rfl rfl (fun h2 => ?_) (fun h2 => ?_)
    · refine X_aload_n rfl rfl rfl rfl ?_
      refine X_getR (a := 349) rfl rfl rfl ((congrFun F.1 0).trans s_0) rfl ((congrFun (F.2.1 0 (by decide)) 8).trans r_0_8) ?_
      refine X_iload_n rfl rfl rfl rfl ?_
      refine X_callV (as := [.int a]) (st := []) rfl rfl rfl (by decide) rfl (Nat.le_of_ble_eq_true rfl) (by decide) (Nat.le_of_ble_eq_true rfl) rfl ((congrFun F.1 349).trans s_349) (by decide) ?_
      refine LW_ls (ls' := [some (.ref 349), some (.int a), none, none]) rfl ?_
      refine X_iconst (v := (0 : Int32)) rfl rfl rfl ?_
      refine X_istore_n (i := 2) (ls' := [some (.ref 349), some (.int a), some (.int (0 : Int32)), none]) rfl rfl rfl (Nat.le_of_ble_eq_true rfl) rfl ?_
      refine X_iconst (v := (0 : Int32)) rfl rfl rfl ?_
      refine X_istore_n (i := 3) (ls' := [some (.ref 349), some (.int a), some (.int (0 : Int32)), some (.int (0 : Int32))]) rfl rfl rfl (Nat.le_of_ble_eq_true rfl) rfl ?_
      refine X_iload_n rfl rfl rfl rfl ?_
      refine X_aload_n rfl rfl rfl rfl ?_
      refine X_getR (a := 1) rfl rfl rfl ((congrFun F.1 349).trans s_349) rfl ((congrFun (F.2.1 349 (by decide)) 0).trans r_349_0) ?_
      refine X_getR (a := 2) rfl rfl rfl ((congrFun F.1 1).trans s_1) rfl ((congrFun (F.2.1 1 (by decide)) 0).trans r_1_0) ?_
      refine X_getI (v := (0 : Int32)) rfl rfl rfl ((congrFun F.1 2).trans s_2) rfl ((congrFun (F.2.2 2 (by decide)).1 0).trans i_2_0) ?_
      refine X_icmp_ge (tgt := 39) rfl rfl rfl (fun _ => ?_) (fun q => absurd q (by decide))
      refine X_aload_n rfl rfl rfl rfl ?_
      refine X_iconst (v := (-1 : Int32)) rfl rfl rfl ?_
      refine X_putI rfl rfl rfl ((congrFun F.1 349).trans s_349) rfl rfl rfl rfl ?_
      refine X_aload_n rfl rfl rfl rfl ?_
      refine X_iconst (v := (0 : Int32)) rfl rfl rfl ?_
      refine X_putI rfl rfl rfl ((congrFun F.1 349).trans s_349) rfl rfl rfl rfl ?_
      refine X_aload_n rfl rfl rfl rfl ?_
      refine X_iload_n rfl rfl rfl rfl ?_
      refine X_iload_n rfl rfl rfl rfl ?_
      refine X_iload_n rfl rfl rfl rfl ?_
      refine X_callS (as := [.int (0 : Int32)]) (st := [.int a, .int (0 : Int32), .ref 349]) rfl rfl rfl (by decide) rfl (Nat.le_of_ble_eq_true rfl) (by decide) (Nat.le_of_ble_eq_true rfl) rfl ?_
      refine LW_ls (ls' := [some (.int (0 : Int32))]) rfl ?_
      refine X_iload_n rfl rfl rfl rfl ?_
      refine X_iload_n rfl rfl rfl rfl ?_
      refine X_iconst (v := (1 : Int32)) rfl rfl rfl ?_
      refine X_iushr (v := (0 : Int32)) rfl rfl rfl ?_
      refine X_ldcw (v := (1431655765 : Int32)) rfl rfl rfl ?_
      refine X_iand (v := (0 : Int32)) rfl rfl rfl ?_
      refine X_isub (v := (0 : Int32)) rfl rfl rfl ?_
      refine X_istore_n (i := 0) (ls' := [some (.int (0 : Int32))]) rfl rfl rfl (Nat.le_of_ble_eq_true rfl) rfl ?_
      refine X_iload_n rfl rfl rfl rfl ?_
      refine X_ldcw (v := (858993459 : Int32)) rfl rfl rfl ?_
      refine X_iand (v := (0 : Int32)) rfl rfl rfl ?_
      refine X_iload_n rfl rfl rfl rfl ?_
      refine X_iconst (v := (2 : Int32)) rfl rfl rfl ?_
      refine X_iushr (v := (0 : Int32)) rfl rfl rfl ?_
      refine X_ldcw (v := (858993459 : Int32)) rfl rfl rfl ?_
      refine X_iand (v := (0 : Int32)) rfl rfl rfl ?_
      refine X_iadd (v := (0 : Int32)) rfl rfl rfl ?_
      refine X_istore_n (i := 0) (ls' := [some (.int (0 : Int32))]) rfl rfl rfl (Nat.le_of_ble_eq_true rfl) rfl ?_
      refine X_iload_n rfl rfl rfl rfl ?_
      refine X_iload_n rfl rfl rfl rfl ?_
      refine X_iconst (v := (4 : Int32)) rfl rfl rfl ?_
      refine X_iushr (v := (0 : Int32)) rfl rfl rfl ?_
      refine X_iadd (v := (0 : Int32)) rfl rfl rfl ?_
      refine X_ldcw (v := (252645135 : Int32)) rfl rfl rfl ?_
      refine X_iand (v := (0 : Int32)) rfl rfl rfl ?_
      refine X_istore_n (i := 0) (ls' := [some (.int (0 : Int32))]) rfl rfl rfl (Nat.le_of_ble_eq_true rfl) rfl ?_
      refine X_iload_n rfl rfl rfl rfl ?_
      refine X_iload_n rfl rfl rfl rfl ?_
      refine X_bipush (v := (8 : Int32)) rfl rfl rfl ?_
      refine X_iushr (v := (0 : Int32)) rfl rfl rfl ?_
      refine X_iadd (v := (0 : Int32)) rfl rfl rfl ?_
      refine X_istore_n (i := 0) (ls' := [some (.int (0 : Int32))]) rfl rfl rfl (Nat.le_of_ble_eq_true rfl) rfl ?_
      refine X_iload_n rfl rfl rfl rfl ?_
      refine X_iload_n rfl rfl rfl rfl ?_
      refine X_bipush (v := (16 : Int32)) rfl rfl rfl ?_
      refine X_iushr (v := (0 : Int32)) rfl rfl rfl ?_
      refine X_iadd (v := (0 : Int32)) rfl rfl rfl ?_
      refine X_istore_n (i := 0) (ls' := [some (.int (0 : Int32))]) rfl rfl rfl (Nat.le_of_ble_eq_true rfl) rfl ?_
      refine X_iload_n rfl rfl rfl rfl ?_
      refine X_bipush (v := (63 : Int32)) rfl rfl rfl ?_
      refine X_iand (v := (0 : Int32)) rfl rfl rfl ?_
      refine LW_ireturn (st := []) rfl rfl rfl ?_
      refine X_min (v := (0 : Int32)) rfl rfl rfl (Nat.le_of_ble_eq_true rfl) (if_pos (Int32.lt_iff_toInt_lt.mpr (by simp only [Int32.lt_iff_toInt_lt, Int32.le_iff_toInt_le, ← Int32.toInt_inj, (show (0 : Int32).toInt = 0 from rfl), (show (1 : Int32).toInt = 1 from rfl), (show (4 : Int32).toInt = 4 from rfl)] at h1 h2 ⊢; omega))) ?_
      refine X_iconst (v := (0 : Int32)) rfl rfl rfl ?_
      refine X_callV (as := [.int (0 : Int32), .int (0 : Int32), .int (0 : Int32)]) (st := []) rfl rfl rfl (by decide) rfl (Nat.le_of_ble_eq_true rfl) (by decide) (Nat.le_of_ble_eq_true rfl) rfl ((congrFun F.1 349).trans s_349) (by decide) ?_
      refine LW_ls (ls' := [some (.ref 349), some (.int (0 : Int32)), some (.int (0 : Int32)), some (.int (0 : Int32)), none, none]) rfl ?_
      refine X_iload_n rfl rfl rfl rfl ?_
      refine X_if_gt (tgt := 32) rfl rfl rfl (fun q => absurd q (by decide)) (fun _ => ?_)
      refine X_aload_n rfl rfl rfl rfl ?_
      refine X_iload_n rfl rfl rfl rfl ?_
      refine X_callV (as := [.int (0 : Int32)]) (st := []) rfl rfl rfl (by decide) rfl (Nat.le_of_ble_eq_true rfl) (by decide) (Nat.le_of_ble_eq_true rfl) rfl ((congrFun F.1 349).trans s_349) (by decide) ?_
      refine LW_ls (ls' := [some (.ref 349), some (.int (0 : Int32)), none, none]) rfl ?_
      refine X_iconst (v := (0 : Int32)) rfl rfl rfl ?_
      refine X_istore_n (i := 2) (ls' := [some (.ref 349), some (.int (0 : Int32)), some (.int (0 : Int32)), none]) rfl rfl rfl (Nat.le_of_ble_eq_true rfl) rfl ?_
      refine X_iconst (v := (0 : Int32)) rfl rfl rfl ?_
      refine X_istore_n (i := 3) (ls' := [some (.ref 349), some (.int (0 : Int32)), some (.int (0 : Int32)), some (.int (0 : Int32))]) rfl rfl rfl (Nat.le_of_ble_eq_true rfl) rfl ?_
      refine X_iload_n rfl rfl rfl rfl ?_
      refine X_aload_n rfl rfl rfl rfl ?_
      refine X_getR (a := 1) rfl rfl rfl ((congrFun F.1 349).trans s_349) rfl ((congrFun (F.2.1 349 (by decide)) 0).trans r_349_0) ?_
      refine X_getR (a := 2) rfl rfl rfl ((congrFun F.1 1).trans s_1) rfl ((congrFun (F.2.1 1 (by decide)) 0).trans r_1_0) ?_
      refine X_getI (v := (0 : Int32)) rfl rfl rfl ((congrFun F.1 2).trans s_2) rfl ((congrFun (F.2.2 2 (by decide)).1 0).trans i_2_0) ?_
      refine X_icmp_ge (tgt := 51) rfl rfl rfl (fun _ => ?_) (fun q => absurd q (by decide))
      refine X_iload_n rfl rfl rfl rfl ?_
      refine LW_ireturn (st := []) rfl rfl rfl ?_
      refine X_istore (i := 4) (ls' := [some (.ref 349), some (.int (0 : Int32)), some (.int (0 : Int32)), some (.int (0 : Int32)), some (.int (0 : Int32)), none]) rfl rfl (Nat.le_of_ble_eq_true rfl) rfl ?_
      refine X_iload rfl rfl rfl ?_
      refine X_aload_n rfl rfl rfl rfl ?_
      refine X_getI (v := (-1 : Int32)) rfl rfl rfl ((congrFun F.1 349).trans s_349) rfl rfl ?_
      refine X_icmp_le (tgt := 31) rfl rfl rfl (fun q => absurd q (by decide)) (fun _ => ?_)
      refine X_aload_n rfl rfl rfl rfl ?_
      refine X_iload rfl rfl rfl ?_
      refine X_putI rfl rfl rfl ((congrFun F.1 349).trans s_349) rfl rfl rfl rfl ?_
      refine X_aload_n rfl rfl rfl rfl ?_
      refine X_iload_n rfl rfl rfl rfl ?_
      refine X_putI rfl rfl rfl ((congrFun F.1 349).trans s_349) rfl rfl rfl rfl ?_
      refine LW_return (st := []) rfl rfl ?_
      refine LW_return (st := []) rfl rfl ?_
      refine X_iload_n rfl rfl rfl rfl ?_
      refine X_if_eq (tgt := 34) rfl rfl rfl (fun q => absurd q (by decide)) (fun _ => ?_)
      refine X_aload_n rfl rfl rfl rfl ?_
      refine X_getR (a := 349) rfl rfl rfl ((congrFun F.1 0).trans s_0) rfl ((congrFun (F.2.1 0 (by decide)) 8).trans r_0_8) ?_
      refine X_getI (v := (0 : Int32)) rfl rfl rfl ((congrFun F.1 349).trans s_349) rfl rfl ?_
      refine LW_goto (tgt := 41) rfl rfl ?_
      refine LW_ireturn (st := []) rfl rfl rfl ⟨congrArg (fun z => some (Value.int z)) ?_, (Fr_putI (Fr_putI (Fr_putI (Fr_putI E (by decide)) (by decide)) (by decide)) (by decide))⟩
      simp only [Int32.lt_iff_toInt_lt, Int32.le_iff_toInt_le, ← Int32.toInt_inj, (show (1 : Int32).toInt = 1 from rfl), (show (4 : Int32).toInt = 4 from rfl)] at h1 h2
      unfold f_learn1
      repeat' split
      all_goals first | rfl | (exfalso; omega) | (refine Int32.toInt_inj.mp ?_; rw [show (0 : Int32).toInt = 0 from rfl]; omega)
    · refine X_iconst (v := (-1 : Int32)) rfl rfl rfl ?_
      refine LW_ireturn (st := []) rfl rfl rfl ⟨congrArg (fun z => some (Value.int z)) ?_, E⟩
      simp only [Int32.lt_iff_toInt_lt, Int32.le_iff_toInt_le, ← Int32.toInt_inj, (show (1 : Int32).toInt = 1 from rfl), (show (4 : Int32).toInt = 4 from rfl)] at h1 h2
      unfold f_learn1
      repeat' split
      all_goals first | rfl | (exfalso; omega) | (refine Int32.toInt_inj.mp ?_; rw [show (0 : Int32).toInt = 0 from rfl]; omega)
set_option maxRecDepth 10000 in
set_option maxHeartbeats 4000000 in
theorem r_learn1 {g : LH} (F : Fr g) (a : Int32) : LW 305 30 0 0 0 (lEnt (mL 305) [.ref 355, .int a, .int (1 : Int32)]) [] g (fun v _ => v = some (.int (f_learn1 a))) := by
  refine LW_ls (ls' := [some (.ref 355), some (.int a), some (.int (1 : Int32)), none, none, none, none, none, none, none]) rfl ?_
  refine X_iload_n rfl rfl rfl rfl ?_
  refine X_iconst (v := (1 : Int32)) rfl rfl rfl ?_
  refine X_iconst (v := (4 : Int32)) rfl rfl rfl ?_
  refine X_callS (as := [.int a, .int (1 : Int32), .int (4 : Int32)]) (st := []) rfl rfl rfl (by decide) rfl (Nat.le_of_ble_eq_true rfl) (by decide) (Nat.le_of_ble_eq_true rfl) rfl ?_
  refine LW_ls (ls' := [some (.int a), some (.int (1 : Int32)), some (.int (4 : Int32))]) rfl ?_
  refine X_iload_n rfl rfl rfl rfl ?_
  refine X_iload_n rfl rfl rfl rfl ?_
  refine X_icmp_lt (tgt := 14) rfl rfl rfl (fun h1 => ?_) (fun h1 => ?_)
  · refine X_iconst (v := (0 : Int32)) rfl rfl rfl ?_
    refine LW_ireturn (st := []) rfl rfl rfl ?_
    refine X_if_ne (tgt := 11) rfl rfl rfl (fun q => absurd q (by decide)) (fun _ => ?_)
    refine X_iconst (v := (-1 : Int32)) rfl rfl rfl ?_
    refine LW_ireturn (st := []) rfl rfl rfl (congrArg (fun z => some (Value.int z)) ?_)
    simp only [Int32.lt_iff_toInt_lt, Int32.le_iff_toInt_le, ← Int32.toInt_inj, (show (1 : Int32).toInt = 1 from rfl)] at h1
    unfold f_learn1
    repeat' split
    all_goals first | rfl | (exfalso; omega) | (refine Int32.toInt_inj.mp ?_; rw [show (0 : Int32).toInt = 0 from rfl]; omega)
  · refine X_iload_n rfl rfl rfl rfl ?_
    refine X_iload_n rfl rfl rfl rfl ?_
    refine X_icmp_gt (tgt := 14) rfl rfl rfl (fun h2 => ?_) (fun h2 => ?_)
    · refine X_iconst (v := (0 : Int32)) rfl rfl rfl ?_
      refine LW_ireturn (st := []) rfl rfl rfl ?_
      refine X_if_ne (tgt := 11) rfl rfl rfl (fun q => absurd q (by decide)) (fun _ => ?_)
      refine X_iconst (v := (-1 : Int32)) rfl rfl rfl ?_
      refine LW_ireturn (st := []) rfl rfl rfl (congrArg (fun z => some (Value.int z)) ?_)
      simp only [Int32.lt_iff_toInt_lt, Int32.le_iff_toInt_le, ← Int32.toInt_inj, (show (1 : Int32).toInt = 1 from rfl), (show (4 : Int32).toInt = 4 from rfl)] at h1 h2
      unfold f_learn1
      repeat' split
      all_goals first | rfl | (exfalso; omega) | (refine Int32.toInt_inj.mp ?_; rw [show (0 : Int32).toInt = 0 from rfl]; omega)
    · refine X_iconst (v := (1 : Int32)) rfl rfl rfl ?_
      refine LW_goto (tgt := 15) rfl rfl ?_
      refine LW_ireturn (st := []) rfl rfl rfl ?_
      refine X_if_ne (tgt := 11) rfl rfl rfl (fun _ => ?_) (fun q => absurd q (by decide))
      refine X_iconst (v := (0 : Int32)) rfl rfl rfl ?_
      refine X_istore_n (i := 3) (ls' := [some (.ref 355), some (.int a), some (.int (1 : Int32)), some (.int (0 : Int32)), none, none, none, none, none, none]) rfl rfl rfl (Nat.le_of_ble_eq_true rfl) rfl ?_
      refine X_iconst (v := (0 : Int32)) rfl rfl rfl ?_
      refine X_istore (i := 4) (ls' := [some (.ref 355), some (.int a), some (.int (1 : Int32)), some (.int (0 : Int32)), some (.int (0 : Int32)), none, none, none, none, none]) rfl rfl (Nat.le_of_ble_eq_true rfl) rfl ?_
      refine X_iload rfl rfl rfl ?_
      refine X_bipush (v := (26 : Int32)) rfl rfl rfl ?_
      refine X_icmp_ge (tgt := 52) rfl rfl rfl (fun q => absurd q (by decide)) (fun _ => ?_)
      refine X_aload_n rfl rfl rfl rfl ?_
      refine X_iload rfl rfl rfl ?_
      refine X_callV (as := [.int (0 : Int32)]) (st := []) rfl rfl rfl (by decide) rfl (Nat.le_of_ble_eq_true rfl) (by decide) (Nat.le_of_ble_eq_true rfl) rfl ((congrFun F.1 355).trans s_355) (by decide) ?_
      refine LW_ls (ls' := [some (.ref 355), some (.int (0 : Int32)), none, none]) rfl ?_
      refine X_iconst (v := (0 : Int32)) rfl rfl rfl ?_
      refine X_istore_n (i := 2) (ls' := [some (.ref 355), some (.int (0 : Int32)), some (.int (0 : Int32)), none]) rfl rfl rfl (Nat.le_of_ble_eq_true rfl) rfl ?_
      refine X_iconst (v := (0 : Int32)) rfl rfl rfl ?_
      refine X_istore_n (i := 3) (ls' := [some (.ref 355), some (.int (0 : Int32)), some (.int (0 : Int32)), some (.int (0 : Int32))]) rfl rfl rfl (Nat.le_of_ble_eq_true rfl) rfl ?_
      refine X_iload_n rfl rfl rfl rfl ?_
      refine X_aload_n rfl rfl rfl rfl ?_
      refine X_getR (a := 356) rfl rfl rfl ((congrFun F.1 355).trans s_355) rfl ((congrFun (F.2.1 355 (by decide)) 0).trans r_355_0) ?_
      refine X_iconst (v := (0 : Int32)) rfl rfl rfl ?_
      refine X_iald (v := (0 : Int32)) rfl rfl ((congrFun F.1 356).trans s_356) (vp_in_d rfl) ((congrFun (F.2.2 356 (by decide)).1 0).trans i_356_0) ?_
      refine X_icmp_ge (tgt := 40) rfl rfl rfl (fun _ => ?_) (fun q => absurd q (by decide))
      refine X_iload_n rfl rfl rfl rfl ?_
      refine LW_ireturn (st := []) rfl rfl rfl ?_
      refine X_if_ne (tgt := 35) rfl rfl rfl (fun q => absurd q (by decide)) (fun _ => ?_)
      refine LW_goto (tgt := 46) rfl rfl ?_
      refine X_iinc (v := (1 : Int32)) (ls' := [some (.ref 355), some (.int a), some (.int (1 : Int32)), some (.int (0 : Int32)), some (.int (1 : Int32)), none, none, none, none, none]) rfl rfl rfl rfl rfl ?_
      refine LW_goto (tgt := 16) rfl rfl ?_
      refine X_iload rfl rfl rfl ?_
      refine X_bipush (v := (26 : Int32)) rfl rfl rfl ?_
      refine X_icmp_ge (tgt := 52) rfl rfl rfl (fun q => absurd q (by decide)) (fun _ => ?_)
      refine X_aload_n rfl rfl rfl rfl ?_
      refine X_iload rfl rfl rfl ?_
      refine X_callV (as := [.int (1 : Int32)]) (st := []) rfl rfl rfl (by decide) rfl (Nat.le_of_ble_eq_true rfl) (by decide) (Nat.le_of_ble_eq_true rfl) rfl ((congrFun F.1 355).trans s_355) (by decide) ?_
      refine LW_ls (ls' := [some (.ref 355), some (.int (1 : Int32)), none, none]) rfl ?_
      refine X_iconst (v := (0 : Int32)) rfl rfl rfl ?_
      refine X_istore_n (i := 2) (ls' := [some (.ref 355), some (.int (1 : Int32)), some (.int (0 : Int32)), none]) rfl rfl rfl (Nat.le_of_ble_eq_true rfl) rfl ?_
      refine X_iconst (v := (0 : Int32)) rfl rfl rfl ?_
      refine X_istore_n (i := 3) (ls' := [some (.ref 355), some (.int (1 : Int32)), some (.int (0 : Int32)), some (.int (0 : Int32))]) rfl rfl rfl (Nat.le_of_ble_eq_true rfl) rfl ?_
      refine X_iload_n rfl rfl rfl rfl ?_
      refine X_aload_n rfl rfl rfl rfl ?_
      refine X_getR (a := 356) rfl rfl rfl ((congrFun F.1 355).trans s_355) rfl ((congrFun (F.2.1 355 (by decide)) 0).trans r_355_0) ?_
      refine X_iconst (v := (0 : Int32)) rfl rfl rfl ?_
      refine X_iald (v := (0 : Int32)) rfl rfl ((congrFun F.1 356).trans s_356) (vp_in_d rfl) ((congrFun (F.2.2 356 (by decide)).1 0).trans i_356_0) ?_
      refine X_icmp_ge (tgt := 40) rfl rfl rfl (fun _ => ?_) (fun q => absurd q (by decide))
      refine X_iload_n rfl rfl rfl rfl ?_
      refine LW_ireturn (st := []) rfl rfl rfl ?_
      refine X_if_ne (tgt := 35) rfl rfl rfl (fun q => absurd q (by decide)) (fun _ => ?_)
      refine LW_goto (tgt := 46) rfl rfl ?_
      refine X_iinc (v := (2 : Int32)) (ls' := [some (.ref 355), some (.int a), some (.int (1 : Int32)), some (.int (0 : Int32)), some (.int (2 : Int32)), none, none, none, none, none]) rfl rfl rfl rfl rfl ?_
      refine LW_goto (tgt := 16) rfl rfl ?_
      refine X_iload rfl rfl rfl ?_
      refine X_bipush (v := (26 : Int32)) rfl rfl rfl ?_
      refine X_icmp_ge (tgt := 52) rfl rfl rfl (fun q => absurd q (by decide)) (fun _ => ?_)
      refine X_aload_n rfl rfl rfl rfl ?_
      refine X_iload rfl rfl rfl ?_
      refine X_callV (as := [.int (2 : Int32)]) (st := []) rfl rfl rfl (by decide) rfl (Nat.le_of_ble_eq_true rfl) (by decide) (Nat.le_of_ble_eq_true rfl) rfl ((congrFun F.1 355).trans s_355) (by decide) ?_
      refine LW_ls (ls' := [some (.ref 355), some (.int (2 : Int32)), none, none]) rfl ?_
      refine X_iconst (v := (0 : Int32)) rfl rfl rfl ?_
      refine X_istore_n (i := 2) (ls' := [some (.ref 355), some (.int (2 : Int32)), some (.int (0 : Int32)), none]) rfl rfl rfl (Nat.le_of_ble_eq_true rfl) rfl ?_
      refine X_iconst (v := (0 : Int32)) rfl rfl rfl ?_
      refine X_istore_n (i := 3) (ls' := [some (.ref 355), some (.int (2 : Int32)), some (.int (0 : Int32)), some (.int (0 : Int32))]) rfl rfl rfl (Nat.le_of_ble_eq_true rfl) rfl ?_
      refine X_iload_n rfl rfl rfl rfl ?_
      refine X_aload_n rfl rfl rfl rfl ?_
      refine X_getR (a := 356) rfl rfl rfl ((congrFun F.1 355).trans s_355) rfl ((congrFun (F.2.1 355 (by decide)) 0).trans r_355_0) ?_
      refine X_iconst (v := (0 : Int32)) rfl rfl rfl ?_
      refine X_iald (v := (0 : Int32)) rfl rfl ((congrFun F.1 356).trans s_356) (vp_in_d rfl) ((congrFun (F.2.2 356 (by decide)).1 0).trans i_356_0) ?_
      refine X_icmp_ge (tgt := 40) rfl rfl rfl (fun _ => ?_) (fun q => absurd q (by decide))
      refine X_iload_n rfl rfl rfl rfl ?_
      refine LW_ireturn (st := []) rfl rfl rfl ?_
      refine X_if_ne (tgt := 35) rfl rfl rfl (fun q => absurd q (by decide)) (fun _ => ?_)
      refine LW_goto (tgt := 46) rfl rfl ?_
      refine X_iinc (v := (3 : Int32)) (ls' := [some (.ref 355), some (.int a), some (.int (1 : Int32)), some (.int (0 : Int32)), some (.int (3 : Int32)), none, none, none, none, none]) rfl rfl rfl rfl rfl ?_
      refine LW_goto (tgt := 16) rfl rfl ?_
      refine X_iload rfl rfl rfl ?_
      refine X_bipush (v := (26 : Int32)) rfl rfl rfl ?_
      refine X_icmp_ge (tgt := 52) rfl rfl rfl (fun q => absurd q (by decide)) (fun _ => ?_)
      refine X_aload_n rfl rfl rfl rfl ?_
      refine X_iload rfl rfl rfl ?_
      refine X_callV (as := [.int (3 : Int32)]) (st := []) rfl rfl rfl (by decide) rfl (Nat.le_of_ble_eq_true rfl) (by decide) (Nat.le_of_ble_eq_true rfl) rfl ((congrFun F.1 355).trans s_355) (by decide) ?_
      refine LW_ls (ls' := [some (.ref 355), some (.int (3 : Int32)), none, none]) rfl ?_
      refine X_iconst (v := (0 : Int32)) rfl rfl rfl ?_
      refine X_istore_n (i := 2) (ls' := [some (.ref 355), some (.int (3 : Int32)), some (.int (0 : Int32)), none]) rfl rfl rfl (Nat.le_of_ble_eq_true rfl) rfl ?_
      refine X_iconst (v := (0 : Int32)) rfl rfl rfl ?_
      refine X_istore_n (i := 3) (ls' := [some (.ref 355), some (.int (3 : Int32)), some (.int (0 : Int32)), some (.int (0 : Int32))]) rfl rfl rfl (Nat.le_of_ble_eq_true rfl) rfl ?_
      refine X_iload_n rfl rfl rfl rfl ?_
      refine X_aload_n rfl rfl rfl rfl ?_
      refine X_getR (a := 356) rfl rfl rfl ((congrFun F.1 355).trans s_355) rfl ((congrFun (F.2.1 355 (by decide)) 0).trans r_355_0) ?_
      refine X_iconst (v := (0 : Int32)) rfl rfl rfl ?_
      refine X_iald (v := (0 : Int32)) rfl rfl ((congrFun F.1 356).trans s_356) (vp_in_d rfl) ((congrFun (F.2.2 356 (by decide)).1 0).trans i_356_0) ?_
      refine X_icmp_ge (tgt := 40) rfl rfl rfl (fun _ => ?_) (fun q => absurd q (by decide))
      refine X_iload_n rfl rfl rfl rfl ?_
      refine LW_ireturn (st := []) rfl rfl rfl ?_
      refine X_if_ne (tgt := 35) rfl rfl rfl (fun q => absurd q (by decide)) (fun _ => ?_)
      refine LW_goto (tgt := 46) rfl rfl ?_
      refine X_iinc (v := (4 : Int32)) (ls' := [some (.ref 355), some (.int a), some (.int (1 : Int32)), some (.int (0 : Int32)), some (.int (4 : Int32)), none, none, none, none, none]) rfl rfl rfl rfl rfl ?_
      refine LW_goto (tgt := 16) rfl rfl ?_
      refine X_iload rfl rfl rfl ?_
      refine X_bipush (v := (26 : Int32)) rfl rfl rfl ?_
      refine X_icmp_ge (tgt := 52) rfl rfl rfl (fun q => absurd q (by decide)) (fun _ => ?_)
      refine X_aload_n rfl rfl rfl rfl ?_
      refine X_iload rfl rfl rfl ?_
      refine X_callV (as := [.int (4 : Int32)]) (st := []) rfl rfl rfl (by decide) rfl (Nat.le_of_ble_eq_true rfl) (by decide) (Nat.le_of_ble_eq_true rfl) rfl ((congrFun F.1 355).trans s_355) (by decide) ?_
      refine LW_ls (ls' := [some (.ref 355), some (.int (4 : Int32)), none, none]) rfl ?_
      refine X_iconst (v := (0 : Int32)) rfl rfl rfl ?_
      refine X_istore_n (i := 2) (ls' := [some (.ref 355), some (.int (4 : Int32)), some (.int (0 : Int32)), none]) rfl rfl rfl (Nat.le_of_ble_eq_true rfl) rfl ?_
      refine X_iconst (v := (0 : Int32)) rfl rfl rfl ?_
      refine X_istore_n (i := 3) (ls' := [some (.ref 355), some (.int (4 : Int32)), some (.int (0 : Int32)), some (.int (0 : Int32))]) rfl rfl rfl (Nat.le_of_ble_eq_true rfl) rfl ?_
      refine X_iload_n rfl rfl rfl rfl ?_
      refine X_aload_n rfl rfl rfl rfl ?_
      refine X_getR (a := 356) rfl rfl rfl ((congrFun F.1 355).trans s_355) rfl ((congrFun (F.2.1 355 (by decide)) 0).trans r_355_0) ?_
      refine X_iconst (v := (0 : Int32)) rfl rfl rfl ?_
      refine X_iald (v := (0 : Int32)) rfl rfl ((congrFun F.1 356).trans s_356) (vp_in_d rfl) ((congrFun (F.2.2 356 (by decide)).1 0).trans i_356_0) ?_
      refine X_icmp_ge (tgt := 40) rfl rfl rfl (fun _ => ?_) (fun q => absurd q (by decide))
      refine X_iload_n rfl rfl rfl rfl ?_
      refine LW_ireturn (st := []) rfl rfl rfl ?_
      refine X_if_ne (tgt := 35) rfl rfl rfl (fun q => absurd q (by decide)) (fun _ => ?_)
      refine LW_goto (tgt := 46) rfl rfl ?_
      refine X_iinc (v := (5 : Int32)) (ls' := [some (.ref 355), some (.int a), some (.int (1 : Int32)), some (.int (0 : Int32)), some (.int (5 : Int32)), none, none, none, none, none]) rfl rfl rfl rfl rfl ?_
      refine LW_goto (tgt := 16) rfl rfl ?_
      refine X_iload rfl rfl rfl ?_
      refine X_bipush (v := (26 : Int32)) rfl rfl rfl ?_
      refine X_icmp_ge (tgt := 52) rfl rfl rfl (fun q => absurd q (by decide)) (fun _ => ?_)
      refine X_aload_n rfl rfl rfl rfl ?_
      refine X_iload rfl rfl rfl ?_
      refine X_callV (as := [.int (5 : Int32)]) (st := []) rfl rfl rfl (by decide) rfl (Nat.le_of_ble_eq_true rfl) (by decide) (Nat.le_of_ble_eq_true rfl) rfl ((congrFun F.1 355).trans s_355) (by decide) ?_
      refine LW_ls (ls' := [some (.ref 355), some (.int (5 : Int32)), none, none]) rfl ?_
      refine X_iconst (v := (0 : Int32)) rfl rfl rfl ?_
      refine X_istore_n (i := 2) (ls' := [some (.ref 355), some (.int (5 : Int32)), some (.int (0 : Int32)), none]) rfl rfl rfl (Nat.le_of_ble_eq_true rfl) rfl ?_
      refine X_iconst (v := (0 : Int32)) rfl rfl rfl ?_
      refine X_istore_n (i := 3) (ls' := [some (.ref 355), some (.int (5 : Int32)), some (.int (0 : Int32)), some (.int (0 : Int32))]) rfl rfl rfl (Nat.le_of_ble_eq_true rfl) rfl ?_
      refine X_iload_n rfl rfl rfl rfl ?_
      refine X_aload_n rfl rfl rfl rfl ?_
      refine X_getR (a := 356) rfl rfl rfl ((congrFun F.1 355).trans s_355) rfl ((congrFun (F.2.1 355 (by decide)) 0).trans r_355_0) ?_
      refine X_iconst (v := (0 : Int32)) rfl rfl rfl ?_
      refine X_iald (v := (0 : Int32)) rfl rfl ((congrFun F.1 356).trans s_356) (vp_in_d rfl) ((congrFun (F.2.2 356 (by decide)).1 0).trans i_356_0) ?_
      refine X_icmp_ge (tgt := 40) rfl rfl rfl (fun _ => ?_) (fun q => absurd q (by decide))
      refine X_iload_n rfl rfl rfl rfl ?_
      refine LW_ireturn (st := []) rfl rfl rfl ?_
      refine X_if_ne (tgt := 35) rfl rfl rfl (fun q => absurd q (by decide)) (fun _ => ?_)
      refine LW_goto (tgt := 46) rfl rfl ?_
      refine X_iinc (v := (6 : Int32)) (ls' := [some (.ref 355), some (.int a), some (.int (1 : Int32)), some (.int (0 : Int32)), some (.int (6 : Int32)), none, none, none, none, none]) rfl rfl rfl rfl rfl ?_
      refine LW_goto (tgt := 16) rfl rfl ?_
      refine X_iload rfl rfl rfl ?_
      refine X_bipush (v := (26 : Int32)) rfl rfl rfl ?_
      refine X_icmp_ge (tgt := 52) rfl rfl rfl (fun q => absurd q (by decide)) (fun _ => ?_)
      refine X_aload_n rfl rfl rfl rfl ?_
      refine X_iload rfl rfl rfl ?_
      refine X_callV (as := [.int (6 : Int32)]) (st := []) rfl rfl rfl (by decide) rfl (Nat.le_of_ble_eq_true rfl) (by decide) (Nat.le_of_ble_eq_true rfl) rfl ((congrFun F.1 355).trans s_355) (by decide) ?_
      refine LW_ls (ls' := [some (.ref 355), some (.int (6 : Int32)), none, none]) rfl ?_
      refine X_iconst (v := (0 : Int32)) rfl rfl rfl ?_
      refine X_istore_n (i := 2) (ls' := [some (.ref 355), some (.int (6 : Int32)), some (.int (0 : Int32)), none]) rfl rfl rfl (Nat.le_of_ble_eq_true rfl) rfl ?_
      refine X_iconst (v := (0 : Int32)) rfl rfl rfl ?_
      refine X_istore_n (i := 3) (ls' := [some (.ref 355), some (.int (6 : Int32)), some (.int (0 : Int32)), some (.int (0 : Int32))]) rfl rfl rfl (Nat.le_of_ble_eq_true rfl) rfl ?_
      refine X_iload_n rfl rfl rfl rfl ?_
      refine X_aload_n rfl rfl rfl rfl ?_
      refine X_getR (a := 356) rfl rfl rfl ((congrFun F.1 355).trans s_355) rfl ((congrFun (F.2.1 355 (by decide)) 0).trans r_355_0) ?_
      refine X_iconst (v := (0 : Int32)) rfl rfl rfl ?_
      refine X_iald (v := (0 : Int32)) rfl rfl ((congrFun F.1 356).trans s_356) (vp_in_d rfl) ((congrFun (F.2.2 356 (by decide)).1 0).trans i_356_0) ?_
      refine X_icmp_ge (tgt := 40) rfl rfl rfl (fun _ => ?_) (fun q => absurd q (by decide))
      refine X_iload_n rfl rfl rfl rfl ?_
      refine LW_ireturn (st := []) rfl rfl rfl ?_
      refine X_if_ne (tgt := 35) rfl rfl rfl (fun q => absurd q (by decide)) (fun _ => ?_)
      refine LW_goto (tgt := 46) rfl rfl ?_
      refine X_iinc (v := (7 : Int32)) (ls' := [some (.ref 355), some (.int a), some (.int (1 : Int32)), some (.int (0 : Int32)), some (.int (7 : Int32)), none, none, none, none, none]) rfl rfl rfl rfl rfl ?_
      refine LW_goto (tgt := 16) rfl rfl ?_
      refine X_iload rfl rfl rfl ?_
      refine X_bipush (v := (26 : Int32)) rfl rfl rfl ?_
      refine X_icmp_ge (tgt := 52) rfl rfl rfl (fun q => absurd q (by decide)) (fun _ => ?_)
      refine X_aload_n rfl rfl rfl rfl ?_
      refine X_iload rfl rfl rfl ?_
      refine X_callV (as := [.int (7 : Int32)]) (st := []) rfl rfl rfl (by decide) rfl (Nat.le_of_ble_eq_true rfl) (by decide) (Nat.le_of_ble_eq_true rfl) rfl ((congrFun F.1 355).trans s_355) (by decide) ?_
      refine LW_ls (ls' := [some (.ref 355), some (.int (7 : Int32)), none, none]) rfl ?_
      refine X_iconst (v := (0 : Int32)) rfl rfl rfl ?_
      refine X_istore_n (i := 2) (ls' := [some (.ref 355), some (.int (7 : Int32)), some (.int (0 : Int32)), none]) rfl rfl rfl (Nat.le_of_ble_eq_true rfl) rfl ?_
      refine X_iconst (v := (0 : Int32)) rfl rfl rfl ?_
      refine X_istore_n (i := 3) (ls' := [some (.ref 355), some (.int (7 : Int32)), some (.int (0 : Int32)), some (.int (0 : Int32))]) rfl rfl rfl (Nat.le_of_ble_eq_true rfl) rfl ?_
      refine X_iload_n rfl rfl rfl rfl ?_
      refine X_aload_n rfl rfl rfl rfl ?_
      refine X_getR (a := 356) rfl rfl rfl ((congrFun F.1 355).trans s_355) rfl ((congrFun (F.2.1 355 (by decide)) 0).trans r_355_0) ?_
      refine X_iconst (v := (0 : Int32)) rfl rfl rfl ?_
      refine X_iald (v := (0 : Int32)) rfl rfl ((congrFun F.1 356).trans s_356) (vp_in_d rfl) ((congrFun (F.2.2 356 (by decide)).1 0).trans i_356_0) ?_
      refine X_icmp_ge (tgt := 40) rfl rfl rfl (fun _ => ?_) (fun q => absurd q (by decide))
      refine X_iload_n rfl rfl rfl rfl ?_
      refine LW_ireturn (st := []) rfl rfl rfl ?_
      refine X_if_ne (tgt := 35) rfl rfl rfl (fun q => absurd q (by decide)) (fun _ => ?_)
      refine LW_goto (tgt := 46) rfl rfl ?_
      refine X_iinc (v := (8 : Int32)) (ls' := [some (.ref 355), some (.int a), some (.int (1 : Int32)), some (.int (0 : Int32)), some (.int (8 : Int32)), none, none, none, none, none]) rfl rfl rfl rfl rfl ?_
      refine LW_goto (tgt := 16) rfl rfl ?_
      refine X_iload rfl rfl rfl ?_
      refine X_bipush (v := (26 : Int32)) rfl rfl rfl ?_
      refine X_icmp_ge (tgt := 52) rfl rfl rfl (fun q => absurd q (by decide)) (fun _ => ?_)
      refine X_aload_n rfl rfl rfl rfl ?_
      refine X_iload rfl rfl rfl ?_
      refine X_callV (as := [.int (8 : Int32)]) (st := []) rfl rfl rfl (by decide) rfl (Nat.le_of_ble_eq_true rfl) (by decide) (Nat.le_of_ble_eq_true rfl) rfl ((congrFun F.1 355).trans s_355) (by decide) ?_
      refine LW_ls (ls' := [some (.ref 355), some (.int (8 : Int32)), none, none]) rfl ?_
      refine X_iconst (v := (0 : Int32)) rfl rfl rfl ?_
      refine X_istore_n (i := 2) (ls' := [some (.ref 355), some (.int (8 : Int32)), some (.int (0 : Int32)), none]) rfl rfl rfl (Nat.le_of_ble_eq_true rfl) rfl ?_
      refine X_iconst (v := (0 : Int32)) rfl rfl rfl ?_
      refine X_istore_n (i := 3) (ls' := [some (.ref 355), some (.int (8 : Int32)), some (.int (0 : Int32)), some (.int (0 : Int32))]) rfl rfl rfl (Nat.le_of_ble_eq_true rfl) rfl ?_
      refine X_iload_n rfl rfl rfl rfl ?_
      refine X_aload_n rfl rfl rfl rfl ?_
      refine X_getR (a := 356) rfl rfl rfl ((congrFun F.1 355).trans s_355) rfl ((congrFun (F.2.1 355 (by decide)) 0).trans r_355_0) ?_
      refine X_iconst (v := (0 : Int32)) rfl rfl rfl ?_
      refine X_iald (v := (0 : Int32)) rfl rfl ((congrFun F.1 356).trans s_356) (vp_in_d rfl) ((congrFun (F.2.2 356 (by decide)).1 0).trans i_356_0) ?_
      refine X_icmp_ge (tgt := 40) rfl rfl rfl (fun _ => ?_) (fun q => absurd q (by decide))
      refine X_iload_n rfl rfl rfl rfl ?_
      refine LW_ireturn (st := []) rfl rfl rfl ?_
      refine X_if_ne (tgt := 35) rfl rfl rfl (fun q => absurd q (by decide)) (fun _ => ?_)
      refine LW_goto (tgt := 46) rfl rfl ?_
      refine X_iinc (v := (9 : Int32)) (ls' := [some (.ref 355), some (.int a), some (.int (1 : Int32)), some (.int (0 : Int32)), some (.int (9 : Int32)), none, none, none, none, none]) rfl rfl rfl rfl rfl ?_
      refine LW_goto (tgt := 16) rfl rfl ?_
      refine X_iload rfl rfl rfl ?_
      refine X_bipush (v := (26 : Int32)) rfl rfl rfl ?_
      refine X_icmp_ge (tgt := 52) rfl rfl rfl (fun q => absurd q (by decide)) (fun _ => ?_)
      refine X_aload_n rfl rfl rfl rfl ?_
      refine X_iload rfl rfl rfl ?_
      refine X_callV (as := [.int (9 : Int32)]) (st := []) rfl rfl rfl (by decide) rfl (Nat.le_of_ble_eq_true rfl) (by decide) (Nat.le_of_ble_eq_true rfl) rfl ((congrFun F.1 355).trans s_355) (by decide) ?_
      refine LW_ls (ls' := [some (.ref 355), some (.int (9 : Int32)), none, none]) rfl ?_
      refine X_iconst (v := (0 : Int32)) rfl rfl rfl ?_
      refine X_istore_n (i := 2) (ls' := [some (.ref 355), some (.int (9 : Int32)), some (.int (0 : Int32)), none]) rfl rfl rfl (Nat.le_of_ble_eq_true rfl) rfl ?_
      refine X_iconst (v := (0 : Int32)) rfl rfl rfl ?_
      refine X_istore_n (i := 3) (ls' := [some (.ref 355), some (.int (9 : Int32)), some (.int (0 : Int32)), some (.int (0 : Int32))]) rfl rfl rfl (Nat.le_of_ble_eq_true rfl) rfl ?_
      refine X_iload_n rfl rfl rfl rfl ?_
      refine X_aload_n rfl rfl rfl rfl ?_
      refine X_getR (a := 356) rfl rfl rfl ((congrFun F.1 355).trans s_355) rfl ((congrFun (F.2.1 355 (by decide)) 0).trans r_355_0) ?_
      refine X_iconst (v := (0 : Int32)) rfl rfl rfl ?_
      refine X_iald (v := (0 : Int32)) rfl rfl ((congrFun F.1 356).trans s_356) (vp_in_d rfl) ((congrFun (F.2.2 356 (by decide)).1 0).trans i_356_0) ?_
      refine X_icmp_ge (tgt := 40) rfl rfl rfl (fun _ => ?_) (fun q => absurd q (by decide))
      refine X_iload_n rfl rfl rfl rfl ?_
      refine LW_ireturn (st := []) rfl rfl rfl ?_
      refine X_if_ne (tgt := 35) rfl rfl rfl (fun q => absurd q (by decide)) (fun _ => ?_)
      refine LW_goto (tgt := 46) rfl rfl ?_
      refine X_iinc (v := (10 : Int32)) (ls' := [some (.ref 355), some (.int a), some (.int (1 : Int32)), some (.int (0 : Int32)), some (.int (10 : Int32)), none, none, none, none, none]) rfl rfl rfl rfl rfl ?_
      refine LW_goto (tgt := 16) rfl rfl ?_
      refine X_iload rfl rfl rfl ?_
      refine X_bipush (v := (26 : Int32)) rfl rfl rfl ?_
      refine X_icmp_ge (tgt := 52) rfl rfl rfl (fun q => absurd q (by decide)) (fun _ => ?_)
      refine X_aload_n rfl rfl rfl rfl ?_
      refine X_iload rfl rfl rfl ?_
      refine X_callV (as := [.int (10 : Int32)]) (st := []) rfl rfl rfl (by decide) rfl (Nat.le_of_ble_eq_true rfl) (by decide) (Nat.le_of_ble_eq_true rfl) rfl ((congrFun F.1 355).trans s_355) (by decide) ?_
      refine LW_ls (ls' := [some (.ref 355), some (.int (10 : Int32)), none, none]) rfl ?_
      refine X_iconst (v := (0 : Int32)) rfl rfl rfl ?_
      refine X_istore_n (i := 2) (ls' := [some (.ref 355), some (.int (10 : Int32)), some (.int (0 : Int32)), none]) rfl rfl rfl (Nat.le_of_ble_eq_true rfl) rfl ?_
      refine X_iconst (v := (0 : Int32)) rfl rfl rfl ?_
      refine X_istore_n (i := 3) (ls' := [some (.ref 355), some (.int (10 : Int32)), some (.int (0 : Int32)), some (.int (0 : Int32))]) rfl rfl rfl (Nat.le_of_ble_eq_true rfl) rfl ?_
      refine X_iload_n rfl rfl rfl rfl ?_
      refine X_aload_n rfl rfl rfl rfl ?_
      refine X_getR (a := 356) rfl rfl rfl ((congrFun F.1 355).trans s_355) rfl ((congrFun (F.2.1 355 (by decide)) 0).trans r_355_0) ?_
      refine X_iconst (v := (0 : Int32)) rfl rfl rfl ?_
      refine X_iald (v := (0 : Int32)) rfl rfl ((congrFun F.1 356).trans s_356) (vp_in_d rfl) ((congrFun (F.2.2 356 (by decide)).1 0).trans i_356_0) ?_
      refine X_icmp_ge (tgt := 40) rfl rfl rfl (fun _ => ?_) (fun q => absurd q (by decide))
      refine X_iload_n rfl rfl rfl rfl ?_
      refine LW_ireturn (st := []) rfl rfl rfl ?_
      refine X_if_ne (tgt := 35) rfl rfl rfl (fun q => absurd q (by decide)) (fun _ => ?_)
      refine LW_goto (tgt := 46) rfl rfl ?_
      refine X_iinc (v := (11 : Int32)) (ls' := [some (.ref 355), some (.int a), some (.int (1 : Int32)), some (.int (0 : Int32)), some (.int (11 : Int32)), none, none, none, none, none]) rfl rfl rfl rfl rfl ?_
      refine LW_goto (tgt := 16) rfl rfl ?_
      refine X_iload rfl rfl rfl ?_
      refine X_bipush (v := (26 : Int32)) rfl rfl rfl ?_
      refine X_icmp_ge (tgt := 52) rfl rfl rfl (fun q => absurd q (by decide)) (fun _ => ?_)
      refine X_aload_n rfl rfl rfl rfl ?_
      refine X_iload rfl rfl rfl ?_
      refine X_callV (as := [.int (11 : Int32)]) (st := []) rfl rfl rfl (by decide) rfl (Nat.le_of_ble_eq_true rfl) (by decide) (Nat.le_of_ble_eq_true rfl) rfl ((congrFun F.1 355).trans s_355) (by decide) ?_
      refine LW_ls (ls' := [some (.ref 355), some (.int (11 : Int32)), none, none]) rfl ?_
      refine X_iconst (v := (0 : Int32)) rfl rfl rfl ?_
      refine X_istore_n (i := 2) (ls' := [some (.ref 355), some (.int (11 : Int32)), some (.int (0 : Int32)), none]) rfl rfl rfl (Nat.le_of_ble_eq_true rfl) rfl ?_
      refine X_iconst (v := (0 : Int32)) rfl rfl rfl ?_
      refine X_istore_n (i := 3) (ls' := [some (.ref 355), some (.int (11 : Int32)), some (.int (0 : Int32)), some (.int (0 : Int32))]) rfl rfl rfl (Nat.le_of_ble_eq_true rfl) rfl ?_
      refine X_iload_n rfl rfl rfl rfl ?_
      refine X_aload_n rfl rfl rfl rfl ?_
      refine X_getR (a := 356) rfl rfl rfl ((congrFun F.1 355).trans s_355) rfl ((congrFun (F.2.1 355 (by decide)) 0).trans r_355_0) ?_
      refine X_iconst (v := (0 : Int32)) rfl rfl rfl ?_
      refine X_iald (v := (0 : Int32)) rfl rfl ((congrFun F.1 356).trans s_356) (vp_in_d rfl) ((congrFun (F.2.2 356 (by decide)).1 0).trans i_356_0) ?_
      refine X_icmp_ge (tgt := 40) rfl rfl rfl (fun _ => ?_) (fun q => absurd q (by decide))
      refine X_iload_n rfl rfl rfl rfl ?_
      refine LW_ireturn (st := []) rfl rfl rfl ?_
      refine X_if_ne (tgt := 35) rfl rfl rfl (fun q => absurd q (by decide)) (fun _ => ?_)
      refine LW_goto (tgt := 46) rfl rfl ?_
      refine X_iinc (v := (12 : Int32)) (ls' := [some (.ref 355), some (.int a), some (.int (1 : Int32)), some (.int (0 : Int32)), some (.int (12 : Int32)), none, none, none, none, none]) rfl rfl rfl rfl rfl ?_
      refine LW_goto (tgt := 16) rfl rfl ?_
      refine X_iload rfl rfl rfl ?_
      refine X_bipush (v := (26 : Int32)) rfl rfl rfl ?_
      refine X_icmp_ge (tgt := 52) rfl rfl rfl (fun q => absurd q (by decide)) (fun _ => ?_)
      refine X_aload_n rfl rfl rfl rfl ?_
      refine X_iload rfl rfl rfl ?_
      refine X_callV (as := [.int (12 : Int32)]) (st := []) rfl rfl rfl (by decide) rfl (Nat.le_of_ble_eq_true rfl) (by decide) (Nat.le_of_ble_eq_true rfl) rfl ((congrFun F.1 355).trans s_355) (by decide) ?_
      refine LW_ls (ls' := [some (.ref 355), some (.int (12 : Int32)), none, none]) rfl ?_
      refine X_iconst (v := (0 : Int32)) rfl rfl rfl ?_
      refine X_istore_n (i := 2) (ls' := [some (.ref 355), some (.int (12 : Int32)), some (.int (0 : Int32)), none]) rfl rfl rfl (Nat.le_of_ble_eq_true rfl) rfl ?_
      refine X_iconst (v := (0 : Int32)) rfl rfl rfl ?_
      refine X_istore_n (i := 3) (ls' := [some (.ref 355), some (.int (12 : Int32)), some (.int (0 : Int32)), some (.int (0 : Int32))]) rfl rfl rfl (Nat.le_of_ble_eq_true rfl) rfl ?_
      refine X_iload_n rfl rfl rfl rfl ?_
      refine X_aload_n rfl rfl rfl rfl ?_
      refine X_getR (a := 356) rfl rfl rfl ((congrFun F.1 355).trans s_355) rfl ((congrFun (F.2.1 355 (by decide)) 0).trans r_355_0) ?_
      refine X_iconst (v := (0 : Int32)) rfl rfl rfl ?_
      refine X_iald (v := (0 : Int32)) rfl rfl ((congrFun F.1 356).trans s_356) (vp_in_d rfl) ((congrFun (F.2.2 356 (by decide)).1 0).trans i_356_0) ?_
      refine X_icmp_ge (tgt := 40) rfl rfl rfl (fun _ => ?_) (fun q => absurd q (by decide))
      refine X_iload_n rfl rfl rfl rfl ?_
      refine LW_ireturn (st := []) rfl rfl rfl ?_
      refine X_if_ne (tgt := 35) rfl rfl rfl (fun q => absurd q (by decide)) (fun _ => ?_)
      refine LW_goto (tgt := 46) rfl rfl ?_
      refine X_iinc (v := (13 : Int32)) (ls' := [some (.ref 355), some (.int a), some (.int (1 : Int32)), some (.int (0 : Int32)), some (.int (13 : Int32)), none, none, none, none, none]) rfl rfl rfl rfl rfl ?_
      refine LW_goto (tgt := 16) rfl rfl ?_
      refine X_iload rfl rfl rfl ?_
      refine X_bipush (v := (26 : Int32)) rfl rfl rfl ?_
      refine X_icmp_ge (tgt := 52) rfl rfl rfl (fun q => absurd q (by decide)) (fun _ => ?_)
      refine X_aload_n rfl rfl rfl rfl ?_
      refine X_iload rfl rfl rfl ?_
      refine X_callV (as := [.int (13 : Int32)]) (st := []) rfl rfl rfl (by decide) rfl (Nat.le_of_ble_eq_true rfl) (by decide) (Nat.le_of_ble_eq_true rfl) rfl ((congrFun F.1 355).trans s_355) (by decide) ?_
      refine LW_ls (ls' := [some (.ref 355), some (.int (13 : Int32)), none, none]) rfl ?_
      refine X_iconst (v := (0 : Int32)) rfl rfl rfl ?_
      refine X_istore_n (i := 2) (ls' := [some (.ref 355), some (.int (13 : Int32)), some (.int (0 : Int32)), none]) rfl rfl rfl (Nat.le_of_ble_eq_true rfl) rfl ?_
      refine X_iconst (v := (0 : Int32)) rfl rfl rfl ?_
      refine X_istore_n (i := 3) (ls' := [some (.ref 355), some (.int (13 : Int32)), some (.int (0 : Int32)), some (.int (0 : Int32))]) rfl rfl rfl (Nat.le_of_ble_eq_true rfl) rfl ?_
      refine X_iload_n rfl rfl rfl rfl ?_
      refine X_aload_n rfl rfl rfl rfl ?_
      refine X_getR (a := 356) rfl rfl rfl ((congrFun F.1 355).trans s_355) rfl ((congrFun (F.2.1 355 (by decide)) 0).trans r_355_0) ?_
      refine X_iconst (v := (0 : Int32)) rfl rfl rfl ?_
      refine X_iald (v := (0 : Int32)) rfl rfl ((congrFun F.1 356).trans s_356) (vp_in_d rfl) ((congrFun (F.2.2 356 (by decide)).1 0).trans i_356_0) ?_
      refine X_icmp_ge (tgt := 40) rfl rfl rfl (fun _ => ?_) (fun q => absurd q (by decide))
      refine X_iload_n rfl rfl rfl rfl ?_
      refine LW_ireturn (st := []) rfl rfl rfl ?_
      refine X_if_ne (tgt := 35) rfl rfl rfl (fun q => absurd q (by decide)) (fun _ => ?_)
      refine LW_goto (tgt := 46) rfl rfl ?_
      refine X_iinc (v := (14 : Int32)) (ls' := [some (.ref 355), some (.int a), some (.int (1 : Int32)), some (.int (0 : Int32)), some (.int (14 : Int32)), none, none, none, none, none]) rfl rfl rfl rfl rfl ?_
      refine LW_goto (tgt := 16) rfl rfl ?_
      refine X_iload rfl rfl rfl ?_
      refine X_bipush (v := (26 : Int32)) rfl rfl rfl ?_
      refine X_icmp_ge (tgt := 52) rfl rfl rfl (fun q => absurd q (by decide)) (fun _ => ?_)
      refine X_aload_n rfl rfl rfl rfl ?_
      refine X_iload rfl rfl rfl ?_
      refine X_callV (as := [.int (14 : Int32)]) (st := []) rfl rfl rfl (by decide) rfl (Nat.le_of_ble_eq_true rfl) (by decide) (Nat.le_of_ble_eq_true rfl) rfl ((congrFun F.1 355).trans s_355) (by decide) ?_
      refine LW_ls (ls' := [some (.ref 355), some (.int (14 : Int32)), none, none]) rfl ?_
      refine X_iconst (v := (0 : Int32)) rfl rfl rfl ?_
      refine X_istore_n (i := 2) (ls' := [some (.ref 355), some (.int (14 : Int32)), some (.int (0 : Int32)), none]) rfl rfl rfl (Nat.le_of_ble_eq_true rfl) rfl ?_
      refine X_iconst (v := (0 : Int32)) rfl rfl rfl ?_
      refine X_istore_n (i := 3) (ls' := [some (.ref 355), some (.int (14 : Int32)), some (.int (0 : Int32)), some (.int (0 : Int32))]) rfl rfl rfl (Nat.le_of_ble_eq_true rfl) rfl ?_
      refine X_iload_n rfl rfl rfl rfl ?_
      refine X_aload_n rfl rfl rfl rfl ?_
      refine X_getR (a := 356) rfl rfl rfl ((congrFun F.1 355).trans s_355) rfl ((congrFun (F.2.1 355 (by decide)) 0).trans r_355_0) ?_
      refine X_iconst (v := (0 : Int32)) rfl rfl rfl ?_
      refine X_iald (v := (0 : Int32)) rfl rfl ((congrFun F.1 356).trans s_356) (vp_in_d rfl) ((congrFun (F.2.2 356 (by decide)).1 0).trans i_356_0) ?_
      refine X_icmp_ge (tgt := 40) rfl rfl rfl (fun _ => ?_) (fun q => absurd q (by decide))
      refine X_iload_n rfl rfl rfl rfl ?_
      refine LW_ireturn (st := []) rfl rfl rfl ?_
      refine X_if_ne (tgt := 35) rfl rfl rfl (fun q => absurd q (by decide)) (fun _ => ?_)
      refine LW_goto (tgt := 46) rfl rfl ?_
      refine X_iinc (v := (15 : Int32)) (ls' := [some (.ref 355), some (.int a), some (.int (1 : Int32)), some (.int (0 : Int32)), some (.int (15 : Int32)), none, none, none, none, none]) rfl rfl rfl rfl rfl ?_
      refine LW_goto (tgt := 16) rfl rfl ?_
      refine X_iload rfl rfl rfl ?_
      refine X_bipush (v := (26 : Int32)) rfl rfl rfl ?_
      refine X_icmp_ge (tgt := 52) rfl rfl rfl (fun q => absurd q (by decide)) (fun _ => ?_)
      refine X_aload_n rfl rfl rfl rfl ?_
      refine X_iload rfl rfl rfl ?_
      refine X_callV (as := [.int (15 : Int32)]) (st := []) rfl rfl rfl (by decide) rfl (Nat.le_of_ble_eq_true rfl) (by decide) (Nat.le_of_ble_eq_true rfl) rfl ((congrFun F.1 355).trans s_355) (by decide) ?_
      refine LW_ls (ls' := [some (.ref 355), some (.int (15 : Int32)), none, none]) rfl ?_
      refine X_iconst (v := (0 : Int32)) rfl rfl rfl ?_
      refine X_istore_n (i := 2) (ls' := [some (.ref 355), some (.int (15 : Int32)), some (.int (0 : Int32)), none]) rfl rfl rfl (Nat.le_of_ble_eq_true rfl) rfl ?_
      refine X_iconst (v := (0 : Int32)) rfl rfl rfl ?_
      refine X_istore_n (i := 3) (ls' := [some (.ref 355), some (.int (15 : Int32)), some (.int (0 : Int32)), some (.int (0 : Int32))]) rfl rfl rfl (Nat.le_of_ble_eq_true rfl) rfl ?_
      refine X_iload_n rfl rfl rfl rfl ?_
      refine X_aload_n rfl rfl rfl rfl ?_
      refine X_getR (a := 356) rfl rfl rfl ((congrFun F.1 355).trans s_355) rfl ((congrFun (F.2.1 355 (by decide)) 0).trans r_355_0) ?_
      refine X_iconst (v := (0 : Int32)) rfl rfl rfl ?_
      refine X_iald (v := (0 : Int32)) rfl rfl ((congrFun F.1 356).trans s_356) (vp_in_d rfl) ((congrFun (F.2.2 356 (by decide)).1 0).trans i_356_0) ?_
      refine X_icmp_ge (tgt := 40) rfl rfl rfl (fun _ => ?_) (fun q => absurd q (by decide))
      refine X_iload_n rfl rfl rfl rfl ?_
      refine LW_ireturn (st := []) rfl rfl rfl ?_
      refine X_if_ne (tgt := 35) rfl rfl rfl (fun q => absurd q (by decide)) (fun _ => ?_)
      refine LW_goto (tgt := 46) rfl rfl ?_
      refine X_iinc (v := (16 : Int32)) (ls' := [some (.ref 355), some (.int a), some (.int (1 : Int32)), some (.int (0 : Int32)), some (.int (16 : Int32)), none, none, none, none, none]) rfl rfl rfl rfl rfl ?_
      refine LW_goto (tgt := 16) rfl rfl ?_
      refine X_iload rfl rfl rfl ?_
      refine X_bipush (v := (26 : Int32)) rfl rfl rfl ?_
      refine X_icmp_ge (tgt := 52) rfl rfl rfl (fun q => absurd q (by decide)) (fun _ => ?_)
      refine X_aload_n rfl rfl rfl rfl ?_
      refine X_iload rfl rfl rfl ?_
      refine X_callV (as := [.int (16 : Int32)]) (st := []) rfl rfl rfl (by decide) rfl (Nat.le_of_ble_eq_true rfl) (by decide) (Nat.le_of_ble_eq_true rfl) rfl ((congrFun F.1 355).trans s_355) (by decide) ?_
      refine LW_ls (ls' := [some (.ref 355), some (.int (16 : Int32)), none, none]) rfl ?_
      refine X_iconst (v := (0 : Int32)) rfl rfl rfl ?_
      refine X_istore_n (i := 2) (ls' := [some (.ref 355), some (.int (16 : Int32)), some (.int (0 : Int32)), none]) rfl rfl rfl (Nat.le_of_ble_eq_true rfl) rfl ?_
      refine X_iconst (v := (0 : Int32)) rfl rfl rfl ?_
      refine X_istore_n (i := 3) (ls' := [some (.ref 355), some (.int (16 : Int32)), some (.int (0 : Int32)), some (.int (0 : Int32))]) rfl rfl rfl (Nat.le_of_ble_eq_true rfl) rfl ?_
      refine X_iload_n rfl rfl rfl rfl ?_
      refine X_aload_n rfl rfl rfl rfl ?_
      refine X_getR (a := 356) rfl rfl rfl ((congrFun F.1 355).trans s_355) rfl ((congrFun (F.2.1 355 (by decide)) 0).trans r_355_0) ?_
      refine X_iconst (v := (0 : Int32)) rfl rfl rfl ?_
      refine X_iald (v := (0 : Int32)) rfl rfl ((congrFun F.1 356).trans s_356) (vp_in_d rfl) ((congrFun (F.2.2 356 (by decide)).1 0).trans i_356_0) ?_
      refine X_icmp_ge (tgt := 40) rfl rfl rfl (fun _ => ?_) (fun q => absurd q (by decide))
      refine X_iload_n rfl rfl rfl rfl ?_
      refine LW_ireturn (st := []) rfl rfl rfl ?_
      refine X_if_ne (tgt := 35) rfl rfl rfl (fun q => absurd q (by decide)) (fun _ => ?_)
      refine LW_goto (tgt := 46) rfl rfl ?_
      refine X_iinc (v := (17 : Int32)) (ls' := [some (.ref 355), some (.int a), some (.int (1 : Int32)), some (.int (0 : Int32)), some (.int (17 : Int32)), none, none, none, none, none]) rfl rfl rfl rfl rfl ?_
      refine LW_goto (tgt := 16) rfl rfl ?_
      refine X_iload rfl rfl rfl ?_
      refine X_bipush (v := (26 : Int32)) rfl rfl rfl ?_
      refine X_icmp_ge (tgt := 52) rfl rfl rfl (fun q => absurd q (by decide)) (fun _ => ?_)
      refine X_aload_n rfl rfl rfl rfl ?_
      refine X_iload rfl rfl rfl ?_
      refine X_callV (as := [.int (17 : Int32)]) (st := []) rfl rfl rfl (by decide) rfl (Nat.le_of_ble_eq_true rfl) (by decide) (Nat.le_of_ble_eq_true rfl) rfl ((congrFun F.1 355).trans s_355) (by decide) ?_
      refine LW_ls (ls' := [some (.ref 355), some (.int (17 : Int32)), none, none]) rfl ?_
      refine X_iconst (v := (0 : Int32)) rfl rfl rfl ?_
      refine X_istore_n (i := 2) (ls' := [some (.ref 355), some (.int (17 : Int32)), some (.int (0 : Int32)), none]) rfl rfl rfl (Nat.le_of_ble_eq_true rfl) rfl ?_
      refine X_iconst (v := (0 : Int32)) rfl rfl rfl ?_
      refine X_istore_n (i := 3) (ls' := [some (.ref 355), some (.int (17 : Int32)), some (.int (0 : Int32)), some (.int (0 : Int32))]) rfl rfl rfl (Nat.le_of_ble_eq_true rfl) rfl ?_
      refine X_iload_n rfl rfl rfl rfl ?_
      refine X_aload_n rfl rfl rfl rfl ?_
      refine X_getR (a := 356) rfl rfl rfl ((congrFun F.1 355).trans s_355) rfl ((congrFun (F.2.1 355 (by decide)) 0).trans r_355_0) ?_
      refine X_iconst (v := (0 : Int32)) rfl rfl rfl ?_
      refine X_iald (v := (0 : Int32)) rfl rfl ((congrFun F.1 356).trans s_356) (vp_in_d rfl) ((congrFun (F.2.2 356 (by decide)).1 0).trans i_356_0) ?_
      refine X_icmp_ge (tgt := 40) rfl rfl rfl (fun _ => ?_) (fun q => absurd q (by decide))
      refine X_iload_n rfl rfl rfl rfl ?_
      refine LW_ireturn (st := []) rfl rfl rfl ?_
      refine X_if_ne (tgt := 35) rfl rfl rfl (fun q => absurd q (by decide)) (fun _ => ?_)
      refine LW_goto (tgt := 46) rfl rfl ?_
      refine X_iinc (v := (18 : Int32)) (ls' := [some (.ref 355), some (.int a), some (.int (1 : Int32)), some (.int (0 : Int32)), some (.int (18 : Int32)), none, none, none, none, none]) rfl rfl rfl rfl rfl ?_
      refine LW_goto (tgt := 16) rfl rfl ?_
      refine X_iload rfl rfl rfl ?_
      refine X_bipush (v := (26 : Int32)) rfl rfl rfl ?_
      refine X_icmp_ge (tgt := 52) rfl rfl rfl (fun q => absurd q (by decide)) (fun _ => ?_)
      refine X_aload_n rfl rfl rfl rfl ?_
      refine X_iload rfl rfl rfl ?_
      refine X_callV (as := [.int (18 : Int32)]) (st := []) rfl rfl rfl (by decide) rfl (Nat.le_of_ble_eq_true rfl) (by decide) (Nat.le_of_ble_eq_true rfl) rfl ((congrFun F.1 355).trans s_355) (by decide) ?_
      refine LW_ls (ls' := [some (.ref 355), some (.int (18 : Int32)), none, none]) rfl ?_
      refine X_iconst (v := (0 : Int32)) rfl rfl rfl ?_
      refine X_istore_n (i := 2) (ls' := [some (.ref 355), some (.int (18 : Int32)), some (.int (0 : Int32)), none]) rfl rfl rfl (Nat.le_of_ble_eq_true rfl) rfl ?_
      refine X_iconst (v := (0 : Int32)) rfl rfl rfl ?_
      refine X_istore_n (i := 3) (ls' := [some (.ref 355), some (.int (18 : Int32)), some (.int (0 : Int32)), some (.int (0 : Int32))]) rfl rfl rfl (Nat.le_of_ble_eq_true rfl) rfl ?_
      refine X_iload_n rfl rfl rfl rfl ?_
      refine X_aload_n rfl rfl rfl rfl ?_
      refine X_getR (a := 356) rfl rfl rfl ((congrFun F.1 355).trans s_355) rfl ((congrFun (F.2.1 355 (by decide)) 0).trans r_355_0) ?_
      refine X_iconst (v := (0 : Int32)) rfl rfl rfl ?_
      refine X_iald (v := (0 : Int32)) rfl rfl ((congrFun F.1 356).trans s_356) (vp_in_d rfl) ((congrFun (F.2.2 356 (by decide)).1 0).trans i_356_0) ?_
      refine X_icmp_ge (tgt := 40) rfl rfl rfl (fun _ => ?_) (fun q => absurd q (by decide))
      refine X_iload_n rfl rfl rfl rfl ?_
      refine LW_ireturn (st := []) rfl rfl rfl ?_
      refine X_if_ne (tgt := 35) rfl rfl rfl (fun q => absurd q (by decide)) (fun _ => ?_)
      refine LW_goto (tgt := 46) rfl rfl ?_
      refine X_iinc (v := (19 : Int32)) (ls' := [some (.ref 355), some (.int a), some (.int (1 : Int32)), some (.int (0 : Int32)), some (.int (19 : Int32)), none, none, none, none, none]) rfl rfl rfl rfl rfl ?_
      refine LW_goto (tgt := 16) rfl rfl ?_
      refine X_iload rfl rfl rfl ?_
      refine X_bipush (v := (26 : Int32)) rfl rfl rfl ?_
      refine X_icmp_ge (tgt := 52) rfl rfl rfl (fun q => absurd q (by decide)) (fun _ => ?_)
      refine X_aload_n rfl rfl rfl rfl ?_
      refine X_iload rfl rfl rfl ?_
      refine X_callV (as := [.int (19 : Int32)]) (st := []) rfl rfl rfl (by decide) rfl (Nat.le_of_ble_eq_true rfl) (by decide) (Nat.le_of_ble_eq_true rfl) rfl ((congrFun F.1 355).trans s_355) (by decide) ?_
      refine LW_ls (ls' := [some (.ref 355), some (.int (19 : Int32)), none, none]) rfl ?_
      refine X_iconst (v := (0 : Int32)) rfl rfl rfl ?_
      refine X_istore_n (i := 2) (ls' := [some (.ref 355), some (.int (19 : Int32)), some (.int (0 : Int32)), none]) rfl rfl rfl (Nat.le_of_ble_eq_true rfl) rfl ?_
      refine X_iconst (v := (0 : Int32)) rfl rfl rfl ?_
      refine X_istore_n (i := 3) (ls' := [some (.ref 355), some (.int (19 : Int32)), some (.int (0 : Int32)), some (.int (0 : Int32))]) rfl rfl rfl (Nat.le_of_ble_eq_true rfl) rfl ?_
      refine X_iload_n rfl rfl rfl rfl ?_
      refine X_aload_n rfl rfl rfl rfl ?_
      refine X_getR (a := 356) rfl rfl rfl ((congrFun F.1 355).trans s_355) rfl ((congrFun (F.2.1 355 (by decide)) 0).trans r_355_0) ?_
      refine X_iconst (v := (0 : Int32)) rfl rfl rfl ?_
      refine X_iald (v := (0 : Int32)) rfl rfl ((congrFun F.1 356).trans s_356) (vp_in_d rfl) ((congrFun (F.2.2 356 (by decide)).1 0).trans i_356_0) ?_
      refine X_icmp_ge (tgt := 40) rfl rfl rfl (fun _ => ?_) (fun q => absurd q (by decide))
      refine X_iload_n rfl rfl rfl rfl ?_
      refine LW_ireturn (st := []) rfl rfl rfl ?_
      refine X_if_ne (tgt := 35) rfl rfl rfl (fun q => absurd q (by decide)) (fun _ => ?_)
      refine LW_goto (tgt := 46) rfl rfl ?_
      refine X_iinc (v := (20 : Int32)) (ls' := [some (.ref 355), some (.int a), some (.int (1 : Int32)), some (.int (0 : Int32)), some (.int (20 : Int32)), none, none, none, none, none]) rfl rfl rfl rfl rfl ?_
      refine LW_goto (tgt := 16) rfl rfl ?_
      refine X_iload rfl rfl rfl ?_
      refine X_bipush (v := (26 : Int32)) rfl rfl rfl ?_
      refine X_icmp_ge (tgt := 52) rfl rfl rfl (fun q => absurd q (by decide)) (fun _ => ?_)
      refine X_aload_n rfl rfl rfl rfl ?_
      refine X_iload rfl rfl rfl ?_
      refine X_callV (as := [.int (20 : Int32)]) (st := []) rfl rfl rfl (by decide) rfl (Nat.le_of_ble_eq_true rfl) (by decide) (Nat.le_of_ble_eq_true rfl) rfl ((congrFun F.1 355).trans s_355) (by decide) ?_
      refine LW_ls (ls' := [some (.ref 355), some (.int (20 : Int32)), none, none]) rfl ?_
      refine X_iconst (v := (0 : Int32)) rfl rfl rfl ?_
      refine X_istore_n (i := 2) (ls' := [some (.ref 355), some (.int (20 : Int32)), some (.int (0 : Int32)), none]) rfl rfl rfl (Nat.le_of_ble_eq_true rfl) rfl ?_
      refine X_iconst (v := (0 : Int32)) rfl rfl rfl ?_
      refine X_istore_n (i := 3) (ls' := [some (.ref 355), some (.int (20 : Int32)), some (.int (0 : Int32)), some (.int (0 : Int32))]) rfl rfl rfl (Nat.le_of_ble_eq_true rfl) rfl ?_
      refine X_iload_n rfl rfl rfl rfl ?_
      refine X_aload_n rfl rfl rfl rfl ?_
      refine X_getR (a := 356) rfl rfl rfl ((congrFun F.1 355).trans s_355) rfl ((congrFun (F.2.1 355 (by decide)) 0).trans r_355_0) ?_
      refine X_iconst (v := (0 : Int32)) rfl rfl rfl ?_
      refine X_iald (v := (0 : Int32)) rfl rfl ((congrFun F.1 356).trans s_356) (vp_in_d rfl) ((congrFun (F.2.2 356 (by decide)).1 0).trans i_356_0) ?_
      refine X_icmp_ge (tgt := 40) rfl rfl rfl (fun _ => ?_) (fun q => absurd q (by decide))
      refine X_iload_n rfl rfl rfl rfl ?_
      refine LW_ireturn (st := []) rfl rfl rfl ?_
      refine X_if_ne (tgt := 35) rfl rfl rfl (fun q => absurd q (by decide)) (fun _ => ?_)
      refine LW_goto (tgt := 46) rfl rfl ?_
      refine X_iinc (v := (21 : Int32)) (ls' := [some (.ref 355), some (.int a), some (.int (1 : Int32)), some (.int (0 : Int32)), some (.int (21 : Int32)), none, none, none, none, none]) rfl rfl rfl rfl rfl ?_
      refine LW_goto (tgt := 16) rfl rfl ?_
      refine X_iload rfl rfl rfl ?_
      refine X_bipush (v := (26 : Int32)) rfl rfl rfl ?_
      refine X_icmp_ge (tgt := 52) rfl rfl rfl (fun q => absurd q (by decide)) (fun _ => ?_)
      refine X_aload_n rfl rfl rfl rfl ?_
      refine X_iload rfl rfl rfl ?_
      refine X_callV (as := [.int (21 : Int32)]) (st := []) rfl rfl rfl (by decide) rfl (Nat.le_of_ble_eq_true rfl) (by decide) (Nat.le_of_ble_eq_true rfl) rfl ((congrFun F.1 355).trans s_355) (by decide) ?_
      refine LW_ls (ls' := [some (.ref 355), some (.int (21 : Int32)), none, none]) rfl ?_
      refine X_iconst (v := (0 : Int32)) rfl rfl rfl ?_
      refine X_istore_n (i := 2) (ls' := [some (.ref 355), some (.int (21 : Int32)), some (.int (0 : Int32)), none]) rfl rfl rfl (Nat.le_of_ble_eq_true rfl) rfl ?_
      refine X_iconst (v := (0 : Int32)) rfl rfl rfl ?_
      refine X_istore_n (i := 3) (ls' := [some (.ref 355), some (.int (21 : Int32)), some (.int (0 : Int32)), some (.int (0 : Int32))]) rfl rfl rfl (Nat.le_of_ble_eq_true rfl) rfl ?_
      refine X_iload_n rfl rfl rfl rfl ?_
      refine X_aload_n rfl rfl rfl rfl ?_
      refine X_getR (a := 356) rfl rfl rfl ((congrFun F.1 355).trans s_355) rfl ((congrFun (F.2.1 355 (by decide)) 0).trans r_355_0) ?_
      refine X_iconst (v := (0 : Int32)) rfl rfl rfl ?_
      refine X_iald (v := (0 : Int32)) rfl rfl ((congrFun F.1 356).trans s_356) (vp_in_d rfl) ((congrFun (F.2.2 356 (by decide)).1 0).trans i_356_0) ?_
      refine X_icmp_ge (tgt := 40) rfl rfl rfl (fun _ => ?_) (fun q => absurd q (by decide))
      refine X_iload_n rfl rfl rfl rfl ?_
      refine LW_ireturn (st := []) rfl rfl rfl ?_
      refine X_if_ne (tgt := 35) rfl rfl rfl (fun q => absurd q (by decide)) (fun _ => ?_)
      refine LW_goto (tgt := 46) rfl rfl ?_
      refine X_iinc (v := (22 : Int32)) (ls' := [some (.ref 355), some (.int a), some (.int (1 : Int32)), some (.int (0 : Int32)), some (.int (22 : Int32)), none, none, none, none, none]) rfl rfl rfl rfl rfl ?_
      refine LW_goto (tgt := 16) rfl rfl ?_
      refine X_iload rfl rfl rfl ?_
      refine X_bipush (v := (26 : Int32)) rfl rfl rfl ?_
      refine X_icmp_ge (tgt := 52) rfl rfl rfl (fun q => absurd q (by decide)) (fun _ => ?_)
      refine X_aload_n rfl rfl rfl rfl ?_
      refine X_iload rfl rfl rfl ?_
      refine X_callV (as := [.int (22 : Int32)]) (st := []) rfl rfl rfl (by decide) rfl (Nat.le_of_ble_eq_true rfl) (by decide) (Nat.le_of_ble_eq_true rfl) rfl ((congrFun F.1 355).trans s_355) (by decide) ?_
      refine LW_ls (ls' := [some (.ref 355), some (.int (22 : Int32)), none, none]) rfl ?_
      refine X_iconst (v := (0 : Int32)) rfl rfl rfl ?_
      refine X_istore_n (i := 2) (ls' := [some (.ref 355), some (.int (22 : Int32)), some (.int (0 : Int32)), none]) rfl rfl rfl (Nat.le_of_ble_eq_true rfl) rfl ?_
      refine X_iconst (v := (0 : Int32)) rfl rfl rfl ?_
      refine X_istore_n (i := 3) (ls' := [some (.ref 355), some (.int (22 : Int32)), some (.int (0 : Int32)), some (.int (0 : Int32))]) rfl rfl rfl (Nat.le_of_ble_eq_true rfl) rfl ?_
      refine X_iload_n rfl rfl rfl rfl ?_
      refine X_aload_n rfl rfl rfl rfl ?_
      refine X_getR (a := 356) rfl rfl rfl ((congrFun F.1 355).trans s_355) rfl ((congrFun (F.2.1 355 (by decide)) 0).trans r_355_0) ?_
      refine X_iconst (v := (0 : Int32)) rfl rfl rfl ?_
      refine X_iald (v := (0 : Int32)) rfl rfl ((congrFun F.1 356).trans s_356) (vp_in_d rfl) ((congrFun (F.2.2 356 (by decide)).1 0).trans i_356_0) ?_
      refine X_icmp_ge (tgt := 40) rfl rfl rfl (fun _ => ?_) (fun q => absurd q (by decide))
      refine X_iload_n rfl rfl rfl rfl ?_
      refine LW_ireturn (st := []) rfl rfl rfl ?_
      refine X_if_ne (tgt := 35) rfl rfl rfl (fun q => absurd q (by decide)) (fun _ => ?_)
      refine LW_goto (tgt := 46) rfl rfl ?_
      refine X_iinc (v := (23 : Int32)) (ls' := [some (.ref 355), some (.int a), some (.int (1 : Int32)), some (.int (0 : Int32)), some (.int (23 : Int32)), none, none, none, none, none]) rfl rfl rfl rfl rfl ?_
      refine LW_goto (tgt := 16) rfl rfl ?_
      refine X_iload rfl rfl rfl ?_
      refine X_bipush (v := (26 : Int32)) rfl rfl rfl ?_
      refine X_icmp_ge (tgt := 52) rfl rfl rfl (fun q => absurd q (by decide)) (fun _ => ?_)
      refine X_aload_n rfl rfl rfl rfl ?_
      refine X_iload rfl rfl rfl ?_
      refine X_callV (as := [.int (23 : Int32)]) (st := []) rfl rfl rfl (by decide) rfl (Nat.le_of_ble_eq_true rfl) (by decide) (Nat.le_of_ble_eq_true rfl) rfl ((congrFun F.1 355).trans s_355) (by decide) ?_
      refine LW_ls (ls' := [some (.ref 355), some (.int (23 : Int32)), none, none]) rfl ?_
      refine X_iconst (v := (0 : Int32)) rfl rfl rfl ?_
      refine X_istore_n (i := 2) (ls' := [some (.ref 355), some (.int (23 : Int32)), some (.int (0 : Int32)), none]) rfl rfl rfl (Nat.le_of_ble_eq_true rfl) rfl ?_
      refine X_iconst (v := (0 : Int32)) rfl rfl rfl ?_
      refine X_istore_n (i := 3) (ls' := [some (.ref 355), some (.int (23 : Int32)), some (.int (0 : Int32)), some (.int (0 : Int32))]) rfl rfl rfl (Nat.le_of_ble_eq_true rfl) rfl ?_
      refine X_iload_n rfl rfl rfl rfl ?_
      refine X_aload_n rfl rfl rfl rfl ?_
      refine X_getR (a := 356) rfl rfl rfl ((congrFun F.1 355).trans s_355) rfl ((congrFun (F.2.1 355 (by decide)) 0).trans r_355_0) ?_
      refine X_iconst (v := (0 : Int32)) rfl rfl rfl ?_
      refine X_iald (v := (0 : Int32)) rfl rfl ((congrFun F.1 356).trans s_356) (vp_in_d rfl) ((congrFun (F.2.2 356 (by decide)).1 0).trans i_356_0) ?_
      refine X_icmp_ge (tgt := 40) rfl rfl rfl (fun _ => ?_) (fun q => absurd q (by decide))
      refine X_iload_n rfl rfl rfl rfl ?_
      refine LW_ireturn (st := []) rfl rfl rfl ?_
      refine X_if_ne (tgt := 35) rfl rfl rfl (fun q => absurd q (by decide)) (fun _ => ?_)
      refine LW_goto (tgt := 46) rfl rfl ?_
      refine X_iinc (v := (24 : Int32)) (ls' := [some (.ref 355), some (.int a), some (.int (1 : Int32)), some (.int (0 : Int32)), some (.int (24 : Int32)), none, none, none, none, none]) rfl rfl rfl rfl rfl ?_
      refine LW_goto (tgt := 16) rfl rfl ?_
      refine X_iload rfl rfl rfl ?_
      refine X_bipush (v := (26 : Int32)) rfl rfl rfl ?_
      refine X_icmp_ge (tgt := 52) rfl rfl rfl (fun q => absurd q (by decide)) (fun _ => ?_)
      refine X_aload_n rfl rfl rfl rfl ?_
      refine X_iload rfl rfl rfl ?_
      refine X_callV (as := [.int (24 : Int32)]) (st := []) rfl rfl rfl (by decide) rfl (Nat.le_of_ble_eq_true rfl) (by decide) (Nat.le_of_ble_eq_true rfl) rfl ((congrFun F.1 355).trans s_355) (by decide) ?_
      refine LW_ls (ls' := [some (.ref 355), some (.int (24 : Int32)), none, none]) rfl ?_
      refine X_iconst (v := (0 : Int32)) rfl rfl rfl ?_
      refine X_istore_n (i := 2) (ls' := [some (.ref 355), some (.int (24 : Int32)), some (.int (0 : Int32)), none]) rfl rfl rfl (Nat.le_of_ble_eq_true rfl) rfl ?_
      refine X_iconst (v := (0 : Int32)) rfl rfl rfl ?_
      refine X_istore_n (i := 3) (ls' := [some (.ref 355), some (.int (24 : Int32)), some (.int (0 : Int32)), some (.int (0 : Int32))]) rfl rfl rfl (Nat.le_of_ble_eq_true rfl) rfl ?_
      refine X_iload_n rfl rfl rfl rfl ?_
      refine X_aload_n rfl rfl rfl rfl ?_
      refine X_getR (a := 356) rfl rfl rfl ((congrFun F.1 355).trans s_355) rfl ((congrFun (F.2.1 355 (by decide)) 0).trans r_355_0) ?_
      refine X_iconst (v := (0 : Int32)) rfl rfl rfl ?_
      refine X_iald (v := (0 : Int32)) rfl rfl ((congrFun F.1 356).trans s_356) (vp_in_d rfl) ((congrFun (F.2.2 356 (by decide)).1 0).trans i_356_0) ?_
      refine X_icmp_ge (tgt := 40) rfl rfl rfl (fun _ => ?_) (fun q => absurd q (by decide))
      refine X_iload_n rfl rfl rfl rfl ?_
      refine LW_ireturn (st := []) rfl rfl rfl ?_
      refine X_if_ne (tgt := 35) rfl rfl rfl (fun q => absurd q (by decide)) (fun _ => ?_)
      refine LW_goto (tgt := 46) rfl rfl ?_
      refine X_iinc (v := (25 : Int32)) (ls' := [some (.ref 355), some (.int a), some (.int (1 : Int32)), some (.int (0 : Int32)), some (.int (25 : Int32)), none, none, none, none, none]) rfl rfl rfl rfl rfl ?_
      refine LW_goto (tgt := 16) rfl rfl ?_
      refine X_iload rfl rfl rfl ?_
      refine X_bipush (v := (26 : Int32)) rfl rfl rfl ?_
      refine X_icmp_ge (tgt := 52) rfl rfl rfl (fun q => absurd q (by decide)) (fun _ => ?_)
      refine X_aload_n rfl rfl rfl rfl ?_
      refine X_iload rfl rfl rfl ?_
      refine X_callV (as := [.int (25 : Int32)]) (st := []) rfl rfl rfl (by decide) rfl (Nat.le_of_ble_eq_true rfl) (by decide) (Nat.le_of_ble_eq_true rfl) rfl ((congrFun F.1 355).trans s_355) (by decide) ?_
      refine LW_ls (ls' := [some (.ref 355), some (.int (25 : Int32)), none, none]) rfl ?_
      refine X_iconst (v := (0 : Int32)) rfl rfl rfl ?_
      refine X_istore_n (i := 2) (ls' := [some (.ref 355), some (.int (25 : Int32)), some (.int (0 : Int32)), none]) rfl rfl rfl (Nat.le_of_ble_eq_true rfl) rfl ?_
      refine X_iconst (v := (0 : Int32)) rfl rfl rfl ?_
      refine X_istore_n (i := 3) (ls' := [some (.ref 355), some (.int (25 : Int32)), some (.int (0 : Int32)), some (.int (0 : Int32))]) rfl rfl rfl (Nat.le_of_ble_eq_true rfl) rfl ?_
      refine X_iload_n rfl rfl rfl rfl ?_
      refine X_aload_n rfl rfl rfl rfl ?_
      refine X_getR (a := 356) rfl rfl rfl ((congrFun F.1 355).trans s_355) rfl ((congrFun (F.2.1 355 (by decide)) 0).trans r_355_0) ?_
      refine X_iconst (v := (0 : Int32)) rfl rfl rfl ?_
      refine X_iald (v := (0 : Int32)) rfl rfl ((congrFun F.1 356).trans s_356) (vp_in_d rfl) ((congrFun (F.2.2 356 (by decide)).1 0).trans i_356_0) ?_
      refine X_icmp_ge (tgt := 40) rfl rfl rfl (fun _ => ?_) (fun q => absurd q (by decide))
      refine X_iload_n rfl rfl rfl rfl ?_
      refine LW_ireturn (st := []) rfl rfl rfl ?_
      refine X_if_ne (tgt := 35) rfl rfl rfl (fun q => absurd q (by decide)) (fun _ => ?_)
      refine LW_goto (tgt := 46) rfl rfl ?_
      refine X_iinc (v := (26 : Int32)) (ls' := [some (.ref 355), some (.int a), some (.int (1 : Int32)), some (.int (0 : Int32)), some (.int (26 : Int32)), none, none, none, none, none]) rfl rfl rfl rfl rfl ?_
      refine LW_goto (tgt := 16) rfl rfl ?_
      refine X_iload rfl rfl rfl ?_
      refine X_bipush (v := (26 : Int32)) rfl rfl rfl ?_
      refine X_icmp_ge (tgt := 52) rfl rfl rfl (fun _ => ?_) (fun q => absurd q (by decide))
      refine X_iload_n rfl rfl rfl rfl ?_
      refine X_iload_n rfl rfl rfl rfl ?_
      refine X_icmp_ge (tgt := 61) rfl rfl rfl (fun h3 => ?_) (fun h3 => ?_)
      · refine X_iload_n rfl rfl rfl rfl ?_
        refine X_istore (i := 4) (ls' := [some (.ref 355), some (.int a), some (.int (1 : Int32)), some (.int (0 : Int32)), some (.int (0 : Int32)), none, none, none, none, none]) rfl rfl (Nat.le_of_ble_eq_true rfl) rfl ?_
        refine X_iconst (v := (0 : Int32)) rfl rfl rfl ?_
        refine X_istore (i := 5) (ls' := [some (.ref 355), some (.int a), some (.int (1 : Int32)), some (.int (0 : Int32)), some (.int (0 : Int32)), some (.int (0 : Int32)), none, none, none, none]) rfl rfl (Nat.le_of_ble_eq_true rfl) rfl ?_
        refine X_iconst (v := (-1 : Int32)) rfl rfl rfl ?_
        refine X_istore (i := 6) (ls' := [some (.ref 355), some (.int a), some (.int (1 : Int32)), some (.int (0 : Int32)), some (.int (0 : Int32)), some (.int (0 : Int32)), some (.int (-1 : Int32)), none, none, none]) rfl rfl (Nat.le_of_ble_eq_true rfl) rfl ?_
        refine X_aload_n rfl rfl rfl rfl ?_
        refine X_iload rfl rfl rfl ?_
        refine X_callV (as := [.int (0 : Int32)]) (st := []) rfl rfl rfl (by decide) rfl (Nat.le_of_ble_eq_true rfl) (by decide) (Nat.le_of_ble_eq_true rfl) rfl ((congrFun F.1 355).trans s_355) (by decide) ?_
        refine LW_ls (ls' := [some (.ref 355), some (.int (0 : Int32)), none]) rfl ?_
        refine X_iconst (v := (0 : Int32)) rfl rfl rfl ?_
        refine X_istore_n (i := 2) (ls' := [some (.ref 355), some (.int (0 : Int32)), some (.int (0 : Int32))]) rfl rfl rfl (Nat.le_of_ble_eq_true rfl) rfl ?_
        refine X_iload_n rfl rfl rfl rfl ?_
        refine X_iload_n rfl rfl rfl rfl ?_
        refine X_icmp_ge (tgt := 20) rfl rfl rfl (fun _ => ?_) (fun q => absurd q (by decide))
        refine LW_return (st := []) rfl rfl ?_
        refine X_iconst (v := (1 : Int32)) rfl rfl rfl ?_
        refine X_istore (i := 7) (ls' := [some (.ref 355), some (.int a), some (.int (1 : Int32)), some (.int (0 : Int32)), some (.int (0 : Int32)), some (.int (0 : Int32)), some (.int (-1 : Int32)), some (.int (1 : Int32)), none, none]) rfl rfl (Nat.le_of_ble_eq_true rfl) rfl ?_
        refine X_iload rfl rfl rfl ?_
        refine X_if_eq (tgt := 157) rfl rfl rfl (fun q => absurd q (by decide)) (fun _ => ?_)
        refine X_iconst (v := (0 : Int32)) rfl rfl rfl ?_
        refine X_istore (i := 8) (ls' := [some (.ref 355), some (.int a), some (.int (1 : Int32)), some (.int (0 : Int32)), some (.int (0 : Int32)), some (.int (0 : Int32)), some (.int (-1 : Int32)), some (.int (1 : Int32)), some (.int (0 : Int32)), none]) rfl rfl (Nat.le_of_ble_eq_true rfl) rfl ?_
        refine X_iconst (v := (0 : Int32)) rfl rfl rfl ?_
        refine X_istore (i := 9) (ls' := [some (.ref 355), some (.int a), some (.int (1 : Int32)), some (.int (0 : Int32)), some (.int (0 : Int32)), some (.int (0 : Int32)), some (.int (-1 : Int32)), some (.int (1 : Int32)), some (.int (0 : Int32)), some (.int (0 : Int32))]) rfl rfl (Nat.le_of_ble_eq_true rfl) rfl ?_
        refine X_iload rfl rfl rfl ?_
        refine X_iload rfl rfl rfl ?_
        refine X_icmp_ge (tgt := 122) rfl rfl rfl (fun _ => ?_) (fun q => absurd q (by decide))
        refine X_aload_n rfl rfl rfl rfl ?_
        refine X_iload rfl rfl rfl ?_
        refine X_callV (as := [.int (0 : Int32)]) (st := []) rfl rfl rfl (by decide) rfl (Nat.le_of_ble_eq_true rfl) (by decide) (Nat.le_of_ble_eq_true rfl) rfl ((congrFun F.1 355).trans s_355) (by decide) ?_
        refine LW_ls (ls' := [some (.ref 355), some (.int (0 : Int32)), none, none]) rfl ?_
        refine X_iconst (v := (0 : Int32)) rfl rfl rfl ?_
        refine X_istore_n (i := 2) (ls' := [some (.ref 355), some (.int (0 : Int32)), some (.int (0 : Int32)), none]) rfl rfl rfl (Nat.le_of_ble_eq_true rfl) rfl ?_
        refine X_iconst (v := (0 : Int32)) rfl rfl rfl ?_
        refine X_istore_n (i := 3) (ls' := [some (.ref 355), some (.int (0 : Int32)), some (.int (0 : Int32)), some (.int (0 : Int32))]) rfl rfl rfl (Nat.le_of_ble_eq_true rfl) rfl ?_
        refine X_iload_n rfl rfl rfl rfl ?_
        refine X_aload_n rfl rfl rfl rfl ?_
        refine X_getR (a := 356) rfl rfl rfl ((congrFun F.1 355).trans s_355) rfl ((congrFun (F.2.1 355 (by decide)) 0).trans r_355_0) ?_
        refine X_iconst (v := (0 : Int32)) rfl rfl rfl ?_
        refine X_iald (v := (0 : Int32)) rfl rfl ((congrFun F.1 356).trans s_356) (vp_in_d rfl) ((congrFun (F.2.2 356 (by decide)).1 0).trans i_356_0) ?_
        refine X_icmp_ge (tgt := 40) rfl rfl rfl (fun _ => ?_) (fun q => absurd q (by decide))
        refine X_iload_n rfl rfl rfl rfl ?_
        refine LW_ireturn (st := []) rfl rfl rfl ?_
        refine X_istore (i := 9) (ls' := [some (.ref 355), some (.int a), some (.int (1 : Int32)), some (.int (0 : Int32)), some (.int (0 : Int32)), some (.int (0 : Int32)), some (.int (-1 : Int32)), some (.int (1 : Int32)), some (.int (0 : Int32)), some (.int (0 : Int32))]) rfl rfl (Nat.le_of_ble_eq_true rfl) rfl ?_
        refine X_iload rfl rfl rfl ?_
        refine X_iload rfl rfl rfl ?_
        refine X_icmp_le (tgt := 145) rfl rfl rfl (fun q => absurd q (by decide)) (fun _ => ?_)
        refine X_iload rfl rfl rfl ?_
        refine X_istore (i := 6) (ls' := [some (.ref 355), some (.int a), some (.int (1 : Int32)), some (.int (0 : Int32)), some (.int (0 : Int32)), some (.int (0 : Int32)), some (.int (0 : Int32)), some (.int (1 : Int32)), some (.int (0 : Int32)), some (.int (0 : Int32))]) rfl rfl (Nat.le_of_ble_eq_true rfl) rfl ?_
        refine X_iload rfl rfl rfl ?_
        refine X_istore (i := 5) (ls' := [some (.ref 355), some (.int a), some (.int (1 : Int32)), some (.int (0 : Int32)), some (.int (0 : Int32)), some (.int (0 : Int32)), some (.int (0 : Int32)), some (.int (1 : Int32)), some (.int (0 : Int32)), some (.int (0 : Int32))]) rfl rfl (Nat.le_of_ble_eq_true rfl) rfl ?_
        refine X_aload_n rfl rfl rfl rfl ?_
        refine X_iload rfl rfl rfl ?_
        refine X_iload_n rfl rfl rfl rfl ?_
        refine X_callV (as := [.int (0 : Int32), .int (0 : Int32)]) (st := []) rfl rfl rfl (by decide) rfl (Nat.le_of_ble_eq_true rfl) (by decide) (Nat.le_of_ble_eq_true rfl) rfl ((congrFun F.1 355).trans s_355) (by decide) ?_
        refine LW_ls (ls' := [some (.ref 355), some (.int (0 : Int32)), some (.int (0 : Int32)), none, none]) rfl ?_
        refine X_iload_n rfl rfl rfl rfl ?_
        refine X_iconst (v := (1 : Int32)) rfl rfl rfl ?_
        refine X_isub (v := (-1 : Int32)) rfl rfl rfl ?_
        refine X_istore_n (i := 3) (ls' := [some (.ref 355), some (.int (0 : Int32)), some (.int (0 : Int32)), some (.int (-1 : Int32)), none]) rfl rfl rfl (Nat.le_of_ble_eq_true rfl) rfl ?_
        refine X_iload_n rfl rfl rfl rfl ?_
        refine X_if_lt (tgt := 28) rfl rfl rfl (fun _ => ?_) (fun q => absurd q (by decide))
        refine X_iload_n rfl rfl rfl rfl ?_
        refine X_if_ge (tgt := 34) rfl rfl rfl (fun q => absurd q (by decide)) (fun _ => ?_)
        refine X_iconst (v := (0 : Int32)) rfl rfl rfl ?_
        refine LW_ireturn (st := []) rfl rfl rfl ?_
        refine X_istore (i := 7) (ls' := [some (.ref 355), some (.int a), some (.int (1 : Int32)), some (.int (0 : Int32)), some (.int (0 : Int32)), some (.int (0 : Int32)), some (.int (0 : Int32)), some (.int (0 : Int32)), some (.int (0 : Int32)), some (.int (0 : Int32))]) rfl rfl (Nat.le_of_ble_eq_true rfl) rfl ?_
        refine LW_goto (tgt := 79) rfl rfl ?_
        refine X_iload rfl rfl rfl ?_
        refine X_if_eq (tgt := 157) rfl rfl rfl (fun _ => ?_) (fun q => absurd q (by decide))
        refine X_iload_n rfl rfl rfl rfl ?_
        refine X_if_eq (tgt := 166) rfl rfl rfl (fun q => absurd q (by decide)) (fun _ => ?_)
        refine X_iload rfl rfl rfl ?_
        refine LW_goto (tgt := 168) rfl rfl ?_
        refine LW_ireturn (st := []) rfl rfl rfl (congrArg (fun z => some (Value.int z)) ?_)
        simp only [Int32.lt_iff_toInt_lt, Int32.le_iff_toInt_le, ← Int32.toInt_inj, (show (0 : Int32).toInt = 0 from rfl), (show (1 : Int32).toInt = 1 from rfl), (show (4 : Int32).toInt = 4 from rfl)] at h1 h2 h3
        unfold f_learn1
        repeat' split
        all_goals first | rfl | (exfalso; omega) | (refine Int32.toInt_inj.mp ?_; rw [show (0 : Int32).toInt = 0 from rfl]; omega)
      · exfalso
        simp only [Int32.lt_iff_toInt_lt, Int32.le_iff_toInt_le, ← Int32.toInt_inj, (show (0 : Int32).toInt = 0 from rfl), (show (1 : Int32).toInt = 1 from rfl), (show (4 : Int32).toInt = 4 from rfl)] at h1 h2 h3
        omega
set_option maxRecDepth 10000 in
set_option maxHeartbeats 4000000 in
theorem c_text {g : LH} (F : Fc g) (E : Fr g) : LW 131 30 0 0 0 (lEnt (mL 131) [.ref 0]) [] g (fun v g' => v = some (.int (f_text)) ∧ Fr g') := by
  refine LW_ls (ls' := [some (.ref 0), none]) rfl ?_
  refine X_aload_n rfl rfl rfl rfl ?_
  refine X_getR (a := 1) rfl rfl rfl ((congrFun F.1 0).trans s_0) rfl ((congrFun (F.2.1 0 (by decide)) 0).trans r_0_0) ?_
  refine X_getI (v := (0 : Int32)) rfl rfl rfl ((congrFun F.1 1).trans s_1) rfl ((congrFun (F.2.2 1 (by decide)).1 5).trans i_1_5) ?_
  refine X_if_lt (tgt := 25) rfl rfl rfl (fun q => absurd q (by decide)) (fun _ => ?_)
  refine X_aload_n rfl rfl rfl rfl ?_
  refine X_getR (a := 1) rfl rfl rfl ((congrFun F.1 0).trans s_0) rfl ((congrFun (F.2.1 0 (by decide)) 0).trans r_0_0) ?_
  refine X_getI (v := (0 : Int32)) rfl rfl rfl ((congrFun F.1 1).trans s_1) rfl ((congrFun (F.2.2 1 (by decide)).1 5).trans i_1_5) ?_
  refine X_aload_n rfl rfl rfl rfl ?_
  refine X_getR (a := 291) rfl rfl rfl ((congrFun F.1 0).trans s_0) rfl ((congrFun (F.2.1 0 (by decide)) 2).trans r_0_2) ?_
  refine X_alen (t0 := 4) (v := (4 : Int32)) rfl rfl ((congrFun F.1 291).trans s_291) rfl rfl ?_
  refine X_icmp_lt (tgt := 27) rfl rfl rfl (fun _ => ?_) (fun q => absurd q (by decide))
  refine X_aload_n rfl rfl rfl rfl ?_
  refine X_getR (a := 338) rfl rfl rfl ((congrFun F.1 0).trans s_0) rfl ((congrFun (F.2.1 0 (by decide)) 4).trans r_0_4) ?_
  refine X_aload_n rfl rfl rfl rfl ?_
  refine X_getR (a := 291) rfl rfl rfl ((congrFun F.1 0).trans s_0) rfl ((congrFun (F.2.1 0 (by decide)) 2).trans r_0_2) ?_
  refine X_aload_n rfl rfl rfl rfl ?_
  refine X_getR (a := 1) rfl rfl rfl ((congrFun F.1 0).trans s_0) rfl ((congrFun (F.2.1 0 (by decide)) 0).trans r_0_0) ?_
  refine X_getI (v := (0 : Int32)) rfl rfl rfl ((congrFun F.1 1).trans s_1) rfl ((congrFun (F.2.2 1 (by decide)).1 5).trans i_1_5) ?_
  refine X_aald (a := 292) (t0 := 4) rfl rfl ((congrFun F.1 291).trans s_291) rfl (vp_in_d rfl) ((congrFun (F.2.1 291 (by decide)) 0).trans r_291_0) ?_
  refine X_callV (as := [.ref 292]) (st := []) rfl rfl rfl (by decide) rfl (Nat.le_of_ble_eq_true rfl) (by decide) (Nat.le_of_ble_eq_true rfl) rfl ((congrFun F.1 338).trans s_338) (by decide) ?_
  refine LW_ls (ls' := [some (.ref 338), some (.ref 292), none]) rfl ?_
  refine X_aload_n rfl rfl rfl rfl ?_
  refine LW_ifnonnull (tgt := 6) rfl rfl ?_
  refine X_aload_n rfl rfl rfl rfl ?_
  refine X_aload_n rfl rfl rfl rfl ?_
  refine X_putR rfl rfl rfl ((congrFun F.1 338).trans s_338) rfl rfl ?_
  refine X_aload_n rfl rfl rfl rfl ?_
  refine X_getR (a := 292) rfl rfl rfl ((congrFun F.1 338).trans s_338) rfl rfl ?_
  refine X_callV (as := []) (st := []) rfl rfl rfl (by decide) rfl (Nat.le_of_ble_eq_true rfl) (by decide) (Nat.le_of_ble_eq_true rfl) rfl ((congrFun F.1 292).trans s_292) (by decide) ?_
  refine LW_ls (ls' := [some (.ref 292), none]) rfl ?_
  refine X_aload_n rfl rfl rfl rfl ?_
  refine X_iconst (v := (0 : Int32)) rfl rfl rfl ?_
  refine X_putI rfl rfl rfl ((congrFun F.1 292).trans s_292) rfl rfl rfl rfl ?_
  refine X_aload_n rfl rfl rfl rfl ?_
  refine X_iconst (v := (0 : Int32)) rfl rfl rfl ?_
  refine X_putI rfl rfl rfl ((congrFun F.1 292).trans s_292) rfl rfl rfl rfl ?_
  refine X_iconst (v := (0 : Int32)) rfl rfl rfl ?_
  refine X_istore_n (i := 1) (ls' := [some (.ref 292), some (.int (0 : Int32))]) rfl rfl rfl (Nat.le_of_ble_eq_true rfl) rfl ?_
  refine X_iload_n rfl rfl rfl rfl ?_
  refine X_iconst (v := (4 : Int32)) rfl rfl rfl ?_
  refine X_icmp_ge (tgt := 37) rfl rfl rfl (fun q => absurd q (by decide)) (fun _ => ?_)
  refine X_aload_n rfl rfl rfl rfl ?_
  refine X_getR (a := 299) rfl rfl rfl ((congrFun F.1 292).trans s_292) rfl ((congrFun (F.2.1 292 (by decide)) 7).trans r_292_7) ?_
  refine X_iload_n rfl rfl rfl rfl ?_
  refine X_iconst (v := (-1 : Int32)) rfl rfl rfl ?_
  refine X_iast (k0 := 0) rfl rfl ((congrFun F.1 299).trans s_299) (vp_in_d rfl) rfl ?_
  refine X_aload_n rfl rfl rfl rfl ?_
  refine X_getR (a := 300) rfl rfl rfl ((congrFun F.1 292).trans s_292) rfl ((congrFun (F.2.1 292 (by decide)) 8).trans r_292_8) ?_
  refine X_iload_n rfl rfl rfl rfl ?_
  refine X_iconst (v := (-1 : Int32)) rfl rfl rfl ?_
  refine X_iast (k0 := 0) rfl rfl ((congrFun F.1 300).trans s_300) (vp_in_d rfl) rfl ?_
  refine X_iinc (v := (1 : Int32)) (ls' := [some (.ref 292), some (.int (1 : Int32))]) rfl rfl rfl rfl rfl ?_
  refine LW_goto (tgt := 12) rfl rfl ?_
  refine X_iload_n rfl rfl rfl rfl ?_
  refine X_iconst (v := (4 : Int32)) rfl rfl rfl ?_
  refine X_icmp_ge (tgt := 37) rfl rfl rfl (fun q => absurd q (by decide)) (fun _ => ?_)
  refine X_aload_n rfl rfl rfl rfl ?_
  refine X_getR (a := 299) rfl rfl rfl ((congrFun F.1 292).trans s_292) rfl ((congrFun (F.2.1 292 (by decide)) 7).trans r_292_7) ?_
  refine X_iload_n rfl rfl rfl rfl ?_
  refine X_iconst (v := (-1 : Int32)) rfl rfl rfl ?_
  refine X_iast (k0 := 1) rfl rfl ((congrFun F.1 299).trans s_299) (vp_in_d rfl) rfl ?_
  refine X_aload_n rfl rfl rfl rfl ?_
  refine X_getR (a := 300) rfl rfl rfl ((congrFun F.1 292).trans s_292) rfl ((congrFun (F.2.1 292 (by decide)) 8).trans r_292_8) ?_
  refine X_iload_n rfl rfl rfl rfl ?_
  refine X_iconst (v := (-1 : Int32)) rfl rfl rfl ?_
  refine X_iast (k0 := 1) rfl rfl ((congrFun F.1 300).trans s_300) (vp_in_d rfl) rfl ?_
  refine X_iinc (v := (2 : Int32)) (ls' := [some (.ref 292), some (.int (2 : Int32))]) rfl rfl rfl rfl rfl ?_
  refine LW_goto (tgt := 12) rfl rfl ?_
  refine X_iload_n rfl rfl rfl rfl ?_
  refine X_iconst (v := (4 : Int32)) rfl rfl rfl ?_
  refine X_icmp_ge (tgt := 37) rfl rfl rfl (fun q => absurd q (by decide)) (fun _ => ?_)
  refine X_aload_n rfl rfl rfl rfl ?_
  refine X_getR (a := 299) rfl rfl rfl ((congrFun F.1 292).trans s_292) rfl ((congrFun (F.2.1 292 (by decide)) 7).trans r_292_7) ?_
  refine X_iload_n rfl rfl rfl rfl ?_
  refine X_iconst (v := (-1 : Int32)) rfl rfl rfl ?_
  refine X_iast (k0 := 2) rfl rfl ((congrFun F.1 299).trans s_299) (vp_in_d rfl) rfl ?_
  refine X_aload_n rfl rfl rfl rfl ?_
  refine X_getR (a := 300) rfl rfl rfl ((congrFun F.1 292).trans s_292) rfl ((congrFun (F.2.1 292 (by decide)) 8).trans r_292_8) ?_
  refine X_iload_n rfl rfl rfl rfl ?_
  refine X_iconst (v := (-1 : Int32)) rfl rfl rfl ?_
  refine X_iast (k0 := 2) rfl rfl ((congrFun F.1 300).trans s_300) (vp_in_d rfl) rfl ?_
  refine X_iinc (v := (3 : Int32)) (ls' := [some (.ref 292), some (.int (3 : Int32))]) rfl rfl rfl rfl rfl ?_
  refine LW_goto (tgt := 12) rfl rfl ?_
  refine X_iload_n rfl rfl rfl rfl ?_
  refine X_iconst (v := (4 : Int32)) rfl rfl rfl ?_
  refine X_icmp_ge (tgt := 37) rfl rfl rfl (fun q => absurd q (by decide)) (fun _ => ?_)
  refine X_aload_n rfl rfl rfl rfl ?_
  refine X_getR (a := 299) rfl rfl rfl ((congrFun F.1 292).trans s_292) rfl ((congrFun (F.2.1 292 (by decide)) 7).trans r_292_7) ?_
  refine X_iload_n rfl rfl rfl rfl ?_
  refine X_iconst (v := (-1 : Int32)) rfl rfl rfl ?_
  refine X_iast (k0 := 3) rfl rfl ((congrFun F.1 299).trans s_299) (vp_in_d rfl) rfl ?_
  refine X_aload_n rfl rfl rfl rfl ?_
  refine X_getR (a := 300) rfl rfl rfl ((congrFun F.1 292).trans s_292) rfl ((congrFun (F.2.1 292 (by decide)) 8).trans r_292_8) ?_
  refine X_iload_n rfl rfl rfl rfl ?_
  refine X_iconst (v := (-1 : Int32)) rfl rfl rfl ?_
  refine X_iast (k0 := 3) rfl rfl ((congrFun F.1 300).trans s_300) (vp_in_d rfl) rfl ?_
  refine X_iinc (v := (4 : Int32)) (ls' := [some (.ref 292), some (.int (4 : Int32))]) rfl rfl rfl rfl rfl ?_
  refine LW_goto (tgt := 12) rfl rfl ?_
  refine X_iload_n rfl rfl rfl rfl ?_
  refine X_iconst (v := (4 : Int32)) rfl rfl rfl ?_
  refine X_icmp_ge (tgt := 37) rfl rfl rfl (fun _ => ?_) (fun q => absurd q (by decide))
  refine LW_return (st := []) rfl rfl ?_
  refine X_aload_n rfl rfl rfl rfl ?_
  refine X_iconst (v := (1 : Int32)) rfl rfl rfl ?_
  refine X_putI rfl rfl rfl ((congrFun F.1 338).trans s_338) rfl rfl rfl rfl ?_
  refine X_aload_n rfl rfl rfl rfl ?_
  refine X_iconst (v := (0 : Int32)) rfl rfl rfl ?_
  refine X_putI rfl rfl rfl ((congrFun F.1 338).trans s_338) rfl rfl rfl rfl ?_
  refine X_aload_n rfl rfl rfl rfl ?_
  refine X_iconst (v := (-1 : Int32)) rfl rfl rfl ?_
  refine X_putI rfl rfl rfl ((congrFun F.1 338).trans s_338) rfl rfl rfl rfl ?_
  refine X_aload_n rfl rfl rfl rfl ?_
  refine X_getR (a := 332) rfl rfl rfl ((congrFun F.1 338).trans s_338) rfl ((congrFun (F.2.1 338 (by decide)) 0).trans r_338_0) ?_
  refine X_callV (as := []) (st := []) rfl rfl rfl (by decide) rfl (Nat.le_of_ble_eq_true rfl) (by decide) (Nat.le_of_ble_eq_true rfl) rfl ((congrFun F.1 332).trans s_332) (by decide) ?_
  refine LW_ls (ls' := [some (.ref 332), none, none]) rfl ?_
  refine X_aload_n rfl rfl rfl rfl ?_
  refine X_iconst (v := (0 : Int32)) rfl rfl rfl ?_
  refine X_putI rfl rfl rfl ((congrFun F.1 332).trans s_332) rfl rfl rfl rfl ?_
  refine X_iconst (v := (0 : Int32)) rfl rfl rfl ?_
  refine X_istore_n (i := 1) (ls' := [some (.ref 332), some (.int (0 : Int32)), none]) rfl rfl rfl (Nat.le_of_ble_eq_true rfl) rfl ?_
  refine X_iconst (v := (0 : Int32)) rfl rfl rfl ?_
  refine X_istore_n (i := 2) (ls' := [some (.ref 332), some (.int (0 : Int32)), some (.int (0 : Int32))]) rfl rfl rfl (Nat.le_of_ble_eq_true rfl) rfl ?_
  refine X_iload_n rfl rfl rfl rfl ?_
  refine X_aload_n rfl rfl rfl rfl ?_
  refine X_getI (v := (0 : Int32)) rfl rfl rfl ((congrFun F.1 332).trans s_332) rfl ((congrFun (F.2.2 332 (by decide)).1 0).trans i_332_0) ?_
  refine X_icmp_ge (tgt := 56) rfl rfl rfl (fun _ => ?_) (fun q => absurd q (by decide))
  refine X_aload_n rfl rfl rfl rfl ?_
  refine X_iconst (v := (0 : Int32)) rfl rfl rfl ?_
  refine X_aload_n rfl rfl rfl rfl ?_
  refine X_getI (v := (0 : Int32)) rfl rfl rfl ((congrFun F.1 332).trans s_332) rfl ((congrFun (F.2.2 332 (by decide)).1 0).trans i_332_0) ?_
  refine X_aload_n rfl rfl rfl rfl ?_
  refine X_getI (v := (0 : Int32)) rfl rfl rfl ((congrFun F.1 332).trans s_332) rfl ((congrFun (F.2.2 332 (by decide)).1 0).trans i_332_0) ?_
  refine X_iconst (v := (0 : Int32)) rfl rfl rfl ?_
  refine X_callV (as := [.int (0 : Int32), .int (0 : Int32), .int (0 : Int32), .int (0 : Int32)]) (st := []) rfl rfl rfl (by decide) rfl (Nat.le_of_ble_eq_true rfl) (by decide) (Nat.le_of_ble_eq_true rfl) rfl ((congrFun F.1 332).trans s_332) (by decide) ?_
  refine LW_ls (ls' := [some (.ref 332), some (.int (0 : Int32)), some (.int (0 : Int32)), some (.int (0 : Int32)), some (.int (0 : Int32))]) rfl ?_
  refine X_aload_n rfl rfl rfl rfl ?_
  refine X_getI (v := (0 : Int32)) rfl rfl rfl ((congrFun F.1 332).trans s_332) rfl rfl ?_
  refine X_sipush (v := (300 : Int32)) rfl rfl rfl ?_
  refine X_icmp_gt (tgt := 63) rfl rfl rfl (fun q => absurd q (by decide)) (fun _ => ?_)
  refine X_aload_n rfl rfl rfl rfl ?_
  refine X_getR (a := 334) rfl rfl rfl ((congrFun F.1 332).trans s_332) rfl ((congrFun (F.2.1 332 (by decide)) 3).trans r_332_3) ?_
  refine X_aload_n rfl rfl rfl rfl ?_
  refine X_getI (v := (0 : Int32)) rfl rfl rfl ((congrFun F.1 332).trans s_332) rfl rfl ?_
  refine X_iload_n rfl rfl rfl rfl ?_
  refine X_iast (k0 := 0) rfl rfl ((congrFun F.1 334).trans s_334) (vp_in_d rfl) rfl ?_
  refine X_aload_n rfl rfl rfl rfl ?_
  refine X_getR (a := 335) rfl rfl rfl ((congrFun F.1 332).trans s_332) rfl ((congrFun (F.2.1 332 (by decide)) 4).trans r_332_4) ?_
  refine X_aload_n rfl rfl rfl rfl ?_
  refine X_getI (v := (0 : Int32)) rfl rfl rfl ((congrFun F.1 332).trans s_332) rfl rfl ?_
  refine X_iload_n rfl rfl rfl rfl ?_
  refine X_iast (k0 := 0) rfl rfl ((congrFun F.1 335).trans s_335) (vp_in_d rfl) rfl ?_
  refine X_aload_n rfl rfl rfl rfl ?_
  refine X_getR (a := 336) rfl rfl rfl ((congrFun F.1 332).trans s_332) rfl ((congrFun (F.2.1 332 (by decide)) 5).trans r_332_5) ?_
  refine X_aload_n rfl rfl rfl rfl ?_
  refine X_getI (v := (0 : Int32)) rfl rfl rfl ((congrFun F.1 332).trans s_332) rfl rfl ?_
  refine X_iload_n rfl rfl rfl rfl ?_
  refine X_iload_n rfl rfl rfl rfl ?_
  refine X_isub (v := (0 : Int32)) rfl rfl rfl ?_
  refine X_iast (k0 := 0) rfl rfl ((congrFun F.1 336).trans s_336) (vp_in_d rfl) rfl ?_
  refine X_aload_n rfl rfl rfl rfl ?_
  refine X_getR (a := 337) rfl rfl rfl ((congrFun F.1 332).trans s_332) rfl ((congrFun (F.2.1 332 (by decide)) 6).trans r_332_6) ?_
  refine X_aload_n rfl rfl rfl rfl ?_
  refine X_getI (v := (0 : Int32)) rfl rfl rfl ((congrFun F.1 332).trans s_332) rfl rfl ?_
  refine X_iload rfl rfl rfl ?_
  refine X_iast (k0 := 0) rfl rfl ((congrFun F.1 337).trans s_337) (vp_in_d rfl) rfl ?_
  refine X_aload_n rfl rfl rfl rfl ?_
  refine X_dup rfl rfl rfl ?_
  refine X_getI (v := (0 : Int32)) rfl rfl rfl ((congrFun F.1 332).trans s_332) rfl rfl ?_
  refine X_iconst (v := (1 : Int32)) rfl rfl rfl ?_
  refine X_iadd (v := (1 : Int32)) rfl rfl rfl ?_
  refine X_putI rfl rfl rfl ((congrFun F.1 332).trans s_332) rfl rfl rfl rfl ?_
  refine LW_return (st := []) rfl rfl ?_
  refine LW_return (st := []) rfl rfl ?_
  refine X_aload_n rfl rfl rfl rfl ?_
  refine X_iconst (v := (-1 : Int32)) rfl rfl rfl ?_
  refine X_putI rfl rfl rfl ((congrFun F.1 338).trans s_338) rfl rfl rfl rfl ?_
  refine X_aload_n rfl rfl rfl rfl ?_
  refine X_callV (as := []) (st := []) rfl rfl rfl (by decide) rfl (Nat.le_of_ble_eq_true rfl) (by decide) (Nat.le_of_ble_eq_true rfl) rfl ((congrFun F.1 338).trans s_338) (by decide) ?_
  refine LW_ls (ls' := [some (.ref 338)]) rfl ?_
  refine X_aload_n rfl rfl rfl rfl ?_
  refine X_getI (v := (0 : Int32)) rfl rfl rfl ((congrFun F.1 338).trans s_338) rfl rfl ?_
  refine X_if_ne (tgt := 100) rfl rfl rfl (fun q => absurd q (by decide)) (fun _ => ?_)
  refine X_aload_n rfl rfl rfl rfl ?_
  refine X_getI (v := (-1 : Int32)) rfl rfl rfl ((congrFun F.1 338).trans s_338) rfl rfl ?_
  refine X_iconst (v := (1 : Int32)) rfl rfl rfl ?_
  refine X_iadd (v := (0 : Int32)) rfl rfl rfl ?_
  refine X_if_lt (tgt := 100) rfl rfl rfl (fun q => absurd q (by decide)) (fun _ => ?_)
  refine X_aload_n rfl rfl rfl rfl ?_
  refine X_getI (v := (-1 : Int32)) rfl rfl rfl ((congrFun F.1 338).trans s_338) rfl rfl ?_
  refine X_iconst (v := (1 : Int32)) rfl rfl rfl ?_
  refine X_iadd (v := (0 : Int32)) rfl rfl rfl ?_
  refine X_aload_n rfl rfl rfl rfl ?_
  refine X_getR (a := 332) rfl rfl rfl ((congrFun F.1 338).trans s_338) rfl ((congrFun (F.2.1 338 (by decide)) 0).trans r_338_0) ?_
  refine X_getI (v := (1 : Int32)) rfl rfl rfl ((congrFun F.1 332).trans s_332) rfl rfl ?_
  refine X_icmp_ge (tgt := 100) rfl rfl rfl (fun q => absurd q (by decide)) (fun _ => ?_)
  refine X_aload_n rfl rfl rfl rfl ?_
  refine X_getI (v := (-1 : Int32)) rfl rfl rfl ((congrFun F.1 338).trans s_338) rfl rfl ?_
  refine X_sipush (v := (300 : Int32)) rfl rfl rfl ?_
  refine X_icmp_ge (tgt := 100) rfl rfl rfl (fun q => absurd q (by decide)) (fun _ => ?_)
  refine X_aload_n rfl rfl rfl rfl ?_
  refine X_dup rfl rfl rfl ?_
  refine X_getI (v := (-1 : Int32)) rfl rfl rfl ((congrFun F.1 338).trans s_338) rfl rfl ?_
  refine X_iconst (v := (1 : Int32)) rfl rfl rfl ?_
  refine X_iadd (v := (0 : Int32)) rfl rfl rfl ?_
  refine X_putI rfl rfl rfl ((congrFun F.1 338).trans s_338) rfl rfl rfl rfl ?_
  refine X_aload_n rfl rfl rfl rfl ?_
  refine X_aload_n rfl rfl rfl rfl ?_
  refine X_getR (a := 332) rfl rfl rfl ((congrFun F.1 338).trans s_338) rfl ((congrFun (F.2.1 338 (by decide)) 0).trans r_338_0) ?_
  refine X_getR (a := 334) rfl rfl rfl ((congrFun F.1 332).trans s_332) rfl ((congrFun (F.2.1 332 (by decide)) 3).trans r_332_3) ?_
  refine X_aload_n rfl rfl rfl rfl ?_
  refine X_getI (v := (0 : Int32)) rfl rfl rfl ((congrFun F.1 338).trans s_338) rfl rfl ?_
  refine X_iald (v := (0 : Int32)) rfl rfl ((congrFun F.1 334).trans s_334) (vp_in_d rfl) rfl ?_
  refine X_putI rfl rfl rfl ((congrFun F.1 338).trans s_338) rfl rfl rfl rfl ?_
  refine X_aload_n rfl rfl rfl rfl ?_
  refine X_aload_n rfl rfl rfl rfl ?_
  refine X_getR (a := 332) rfl rfl rfl ((congrFun F.1 338).trans s_338) rfl ((congrFun (F.2.1 338 (by decide)) 0).trans r_338_0) ?_
  refine X_getR (a := 337) rfl rfl rfl ((congrFun F.1 332).trans s_332) rfl ((congrFun (F.2.1 332 (by decide)) 6).trans r_332_6) ?_
  refine X_aload_n rfl rfl rfl rfl ?_
  refine X_getI (v := (0 : Int32)) rfl rfl rfl ((congrFun F.1 338).trans s_338) rfl rfl ?_
  refine X_iald (v := (0 : Int32)) rfl rfl ((congrFun F.1 337).trans s_337) (vp_in_d rfl) rfl ?_
  refine X_putI rfl rfl rfl ((congrFun F.1 338).trans s_338) rfl rfl rfl rfl ?_
  refine X_aload_n rfl rfl rfl rfl ?_
  refine X_aload_n rfl rfl rfl rfl ?_
  refine X_getR (a := 332) rfl rfl rfl ((congrFun F.1 338).trans s_338) rfl ((congrFun (F.2.1 338 (by decide)) 0).trans r_338_0) ?_
  refine X_getR (a := 335) rfl rfl rfl ((congrFun F.1 332).trans s_332) rfl ((congrFun (F.2.1 332 (by decide)) 4).trans r_332_4) ?_
  refine X_aload_n rfl rfl rfl rfl ?_
  refine X_getI (v := (0 : Int32)) rfl rfl rfl ((congrFun F.1 338).trans s_338) rfl rfl ?_
  refine X_iald (v := (0 : Int32)) rfl rfl ((congrFun F.1 335).trans s_335) (vp_in_d rfl) rfl ?_
  refine X_putI rfl rfl rfl ((congrFun F.1 338).trans s_338) rfl rfl rfl rfl ?_
  refine LW_return (st := []) rfl rfl ?_
  refine X_iconst (v := (0 : Int32)) rfl rfl rfl ?_
  refine X_istore_n (i := 2) (ls' := [some (.ref 338), some (.ref 292), some (.int (0 : Int32))]) rfl rfl rfl (Nat.le_of_ble_eq_true rfl) rfl ?_
  refine X_iload_n rfl rfl rfl rfl ?_
  refine X_sipush (v := (300 : Int32)) rfl rfl rfl ?_
  refine X_icmp_gt (tgt := 82) rfl rfl rfl (fun q => absurd q (by decide)) (fun _ => ?_)
  refine X_aload_n rfl rfl rfl rfl ?_
  refine X_getI (v := (0 : Int32)) rfl rfl rfl ((congrFun F.1 338).trans s_338) rfl rfl ?_
  refine X_if_ne (tgt := 82) rfl rfl rfl (fun q => absurd q (by decide)) (fun _ => ?_)
  refine X_aload_n rfl rfl rfl rfl ?_
  refine X_getI (v := (0 : Int32)) rfl rfl rfl ((congrFun F.1 338).trans s_338) rfl rfl ?_
  refine X_if_eq (tgt := 82) rfl rfl rfl (fun _ => ?_) (fun q => absurd q (by decide))
  refine X_aload_n rfl rfl rfl rfl ?_
  refine X_getI (v := (0 : Int32)) rfl rfl rfl ((congrFun F.1 338).trans s_338) rfl rfl ?_
  refine X_if_ne (tgt := 93) rfl rfl rfl (fun q => absurd q (by decide)) (fun _ => ?_)
  refine X_iconst (v := (1 : Int32)) rfl rfl rfl ?_
  refine LW_goto (tgt := 94) rfl rfl ?_
  refine LW_ireturn (st := []) rfl rfl rfl ?_
  refine X_istore_n (i := 1) (ls' := [some (.ref 0), some (.int (1 : Int32))]) rfl rfl rfl (Nat.le_of_ble_eq_true rfl) rfl ?_
  refine X_aload_n rfl rfl rfl rfl ?_
  refine X_getR (a := 332) rfl rfl rfl ((congrFun F.1 0).trans s_0) rfl ((congrFun (F.2.1 0 (by decide)) 3).trans r_0_3) ?_
  refine X_iconst (v := (0 : Int32)) rfl rfl rfl ?_
  refine X_putI rfl rfl rfl ((congrFun F.1 332).trans s_332) rfl rfl rfl rfl ?_
  refine X_iload_n rfl rfl rfl rfl ?_
  refine X_if_ne (tgt := 61) rfl rfl rfl (fun _ => ?_) (fun q => absurd q (by decide))
  refine X_aload_n rfl rfl rfl rfl ?_
  refine X_getR (a := 1) rfl rfl rfl ((congrFun F.1 0).trans s_0) rfl ((congrFun (F.2.1 0 (by decide)) 0).trans r_0_0) ?_
  refine X_dup rfl rfl rfl ?_
  refine X_getI (v := (0 : Int32)) rfl rfl rfl ((congrFun F.1 1).trans s_1) rfl ((congrFun (F.2.2 1 (by decide)).1 5).trans i_1_5) ?_
  refine X_iconst (v := (1 : Int32)) rfl rfl rfl ?_
  refine X_iadd (v := (1 : Int32)) rfl rfl rfl ?_
  refine X_putI rfl rfl rfl ((congrFun F.1 1).trans s_1) rfl rfl rfl rfl ?_
  refine X_aload_n rfl rfl rfl rfl ?_
  refine X_getR (a := 1) rfl rfl rfl ((congrFun F.1 0).trans s_0) rfl ((congrFun (F.2.1 0 (by decide)) 0).trans r_0_0) ?_
  refine X_getI (v := (1 : Int32)) rfl rfl rfl ((congrFun F.1 1).trans s_1) rfl rfl ?_
  refine X_iconst (v := (1 : Int32)) rfl rfl rfl ?_
  refine X_isub (v := (0 : Int32)) rfl rfl rfl ?_
  refine LW_ireturn (st := []) rfl rfl rfl ⟨congrArg (fun z => some (Value.int z)) ?_, (Fr_putI (Fr_putI (Fr_putI (Fr_putI (Fr_putI (Fr_putI (Fr_putI (Fr_putI (Fr_putI (Fr_putI (Fr_putI (Fr_putI (Fr_putI (Fr_putI (Fr_putI (Fr_putI (Fr_putI (Fr_putI (Fr_putI (Fr_putI (Fr_putI (Fr_putI (Fr_putI (Fr_putI (Fr_putI (Fr_putI (Fr_putR E (by decide)) (by decide)) (by decide)) (by decide)) (by decide)) (by decide)) (by decide)) (by decide)) (by decide)) (by decide)) (by decide)) (by decide)) (by decide)) (by decide)) (by decide)) (by decide)) (by decide)) (by decide)) (by decide)) (by decide)) (by decide)) (by decide)) (by decide)) (by decide)) (by decide)) (by decide)) (by decide))⟩
  unfold f_text
  repeat' split
  all_goals first | rfl | (exfalso; omega) | (refine Int32.toInt_inj.mp ?_; rw [show (0 : Int32).toInt = 0 from rfl]; omega)
set_option maxRecDepth 10000 in
set_option maxHeartbeats 4000000 in
theorem r_text {g : LH} (F : Fr g) : LW 235 30 0 0 0 (lEnt (mL 235) [.ref 355]) [] g (fun v _ => v = some (.int (f_text))) := by
  refine LW_ls (ls' := [some (.ref 355)]) rfl ?_
  refine X_aload_n rfl rfl rfl rfl ?_
  refine X_getR (a := 356) rfl rfl rfl ((congrFun F.1 355).trans s_355) rfl ((congrFun (F.2.1 355 (by decide)) 0).trans r_355_0) ?_
  refine X_iconst (v := (4 : Int32)) rfl rfl rfl ?_
  refine X_iald (v := (0 : Int32)) rfl rfl ((congrFun F.1 356).trans s_356) (vp_in_d rfl) ((congrFun (F.2.2 356 (by decide)).1 4).trans i_356_4) ?_
  refine X_iconst (v := (4 : Int32)) rfl rfl rfl ?_
  refine X_icmp_ne (tgt := 12) rfl rfl rfl (fun _ => ?_) (fun q => absurd q (by decide))
  refine X_aload_n rfl rfl rfl rfl ?_
  refine X_aload_n rfl rfl rfl rfl ?_
  refine X_callV (as := []) (st := [.ref 355]) rfl rfl rfl (by decide) rfl (Nat.le_of_ble_eq_true rfl) (by decide) (Nat.le_of_ble_eq_true rfl) rfl ((congrFun F.1 355).trans s_355) (by decide) ?_
  refine LW_ls (ls' := [some (.ref 355), none]) rfl ?_
  refine X_aload_n rfl rfl rfl rfl ?_
  refine X_sipush (v := (873 : Int32)) rfl rfl rfl ?_
  refine X_aload_n rfl rfl rfl rfl ?_
  refine X_getR (a := 356) rfl rfl rfl ((congrFun F.1 355).trans s_355) rfl ((congrFun (F.2.1 355 (by decide)) 0).trans r_355_0) ?_
  refine X_iconst (v := (4 : Int32)) rfl rfl rfl ?_
  refine X_iald (v := (0 : Int32)) rfl rfl ((congrFun F.1 356).trans s_356) (vp_in_d rfl) ((congrFun (F.2.2 356 (by decide)).1 4).trans i_356_4) ?_
  refine X_imul (v := (0 : Int32)) rfl rfl rfl ?_
  refine X_putI rfl rfl rfl ((congrFun F.1 355).trans s_355) rfl rfl rfl rfl ?_
  refine X_aload_n rfl rfl rfl rfl ?_
  refine X_getR (a := 358) rfl rfl rfl ((congrFun F.1 355).trans s_355) rfl ((congrFun (F.2.1 355 (by decide)) 2).trans r_355_2) ?_
  refine X_aload_n rfl rfl rfl rfl ?_
  refine X_getI (v := (0 : Int32)) rfl rfl rfl ((congrFun F.1 355).trans s_355) rfl rfl ?_
  refine X_iconst (v := (0 : Int32)) rfl rfl rfl ?_
  refine X_iast (k0 := 0) rfl rfl ((congrFun F.1 358).trans s_358) (vp_in_d rfl) rfl ?_
  refine X_aload_n rfl rfl rfl rfl ?_
  refine X_iconst (v := (0 : Int32)) rfl rfl rfl ?_
  refine X_putI rfl rfl rfl ((congrFun F.1 355).trans s_355) rfl rfl rfl rfl ?_
  refine X_aload_n rfl rfl rfl rfl ?_
  refine X_iconst (v := (0 : Int32)) rfl rfl rfl ?_
  refine X_putI rfl rfl rfl ((congrFun F.1 355).trans s_355) rfl rfl rfl rfl ?_
  refine X_aload_n rfl rfl rfl rfl ?_
  refine X_iconst (v := (0 : Int32)) rfl rfl rfl ?_
  refine X_putI rfl rfl rfl ((congrFun F.1 355).trans s_355) rfl rfl rfl rfl ?_
  refine X_aload_n rfl rfl rfl rfl ?_
  refine X_iconst (v := (0 : Int32)) rfl rfl rfl ?_
  refine X_putI rfl rfl rfl ((congrFun F.1 355).trans s_355) rfl rfl rfl rfl ?_
  refine X_aload_n rfl rfl rfl rfl ?_
  refine X_callV (as := []) (st := []) rfl rfl rfl (by decide) rfl (Nat.le_of_ble_eq_true rfl) (by decide) (Nat.le_of_ble_eq_true rfl) rfl ((congrFun F.1 355).trans s_355) (by decide) ?_
  refine LW_ls (ls' := [some (.ref 355), none, none]) rfl ?_
  refine X_aload_n rfl rfl rfl rfl ?_
  refine X_aload_n rfl rfl rfl rfl ?_
  refine X_getI (v := (0 : Int32)) rfl rfl rfl ((congrFun F.1 355).trans s_355) rfl rfl ?_
  refine X_callV (as := [.int (0 : Int32)]) (st := []) rfl rfl rfl (by decide) rfl (Nat.le_of_ble_eq_true rfl) (by decide) (Nat.le_of_ble_eq_true rfl) rfl ((congrFun F.1 355).trans s_355) (by decide) ?_
  refine LW_ls (ls' := [some (.ref 355), some (.int (0 : Int32))]) rfl ?_
  refine X_iload_n rfl rfl rfl rfl ?_
  refine X_aload_n rfl rfl rfl rfl ?_
  refine X_getI (v := (0 : Int32)) rfl rfl rfl ((congrFun F.1 355).trans s_355) rfl ((congrFun (F.2.2 355 (by decide)).1 8).trans i_355_8) ?_
  refine X_icmp_ge (tgt := 17) rfl rfl rfl (fun _ => ?_) (fun q => absurd q (by decide))
  refine X_iconst (v := (-1 : Int32)) rfl rfl rfl ?_
  refine LW_ireturn (st := []) rfl rfl rfl ?_
  refine X_bipush (v := (32 : Int32)) rfl rfl rfl ?_
  refine X_icmp_eq (tgt := 26) rfl rfl rfl (fun q => absurd q (by decide)) (fun _ => ?_)
  refine X_aload_n rfl rfl rfl rfl ?_
  refine X_aload_n rfl rfl rfl rfl ?_
  refine X_getI (v := (0 : Int32)) rfl rfl rfl ((congrFun F.1 355).trans s_355) rfl rfl ?_
  refine X_callV (as := [.int (0 : Int32)]) (st := []) rfl rfl rfl (by decide) rfl (Nat.le_of_ble_eq_true rfl) (by decide) (Nat.le_of_ble_eq_true rfl) rfl ((congrFun F.1 355).trans s_355) (by decide) ?_
  refine LW_ls (ls' := [some (.ref 355), some (.int (0 : Int32))]) rfl ?_
  refine X_iload_n rfl rfl rfl rfl ?_
  refine X_aload_n rfl rfl rfl rfl ?_
  refine X_getI (v := (0 : Int32)) rfl rfl rfl ((congrFun F.1 355).trans s_355) rfl ((congrFun (F.2.2 355 (by decide)).1 8).trans i_355_8) ?_
  refine X_icmp_ge (tgt := 17) rfl rfl rfl (fun _ => ?_) (fun q => absurd q (by decide))
  refine X_iconst (v := (-1 : Int32)) rfl rfl rfl ?_
  refine LW_ireturn (st := []) rfl rfl rfl ?_
  refine X_bipush (v := (10 : Int32)) rfl rfl rfl ?_
  refine X_icmp_ne (tgt := 39) rfl rfl rfl (fun _ => ?_) (fun q => absurd q (by decide))
  refine X_aload_n rfl rfl rfl rfl ?_
  refine X_aload_n rfl rfl rfl rfl ?_
  refine X_getI (v := (0 : Int32)) rfl rfl rfl ((congrFun F.1 355).trans s_355) rfl rfl ?_
  refine X_putI rfl rfl rfl ((congrFun F.1 355).trans s_355) rfl rfl rfl rfl ?_
  refine X_aload_n rfl rfl rfl rfl ?_
  refine X_aload_n rfl rfl rfl rfl ?_
  refine X_getI (v := (0 : Int32)) rfl rfl rfl ((congrFun F.1 355).trans s_355) rfl rfl ?_
  refine X_callV (as := [.int (0 : Int32)]) (st := []) rfl rfl rfl (by decide) rfl (Nat.le_of_ble_eq_true rfl) (by decide) (Nat.le_of_ble_eq_true rfl) rfl ((congrFun F.1 355).trans s_355) (by decide) ?_
  refine LW_ls (ls' := [some (.ref 355), some (.int (0 : Int32))]) rfl ?_
  refine X_iload_n rfl rfl rfl rfl ?_
  refine X_aload_n rfl rfl rfl rfl ?_
  refine X_getI (v := (0 : Int32)) rfl rfl rfl ((congrFun F.1 355).trans s_355) rfl ((congrFun (F.2.2 355 (by decide)).1 8).trans i_355_8) ?_
  refine X_icmp_ge (tgt := 17) rfl rfl rfl (fun _ => ?_) (fun q => absurd q (by decide))
  refine X_iconst (v := (-1 : Int32)) rfl rfl rfl ?_
  refine LW_ireturn (st := []) rfl rfl rfl ?_
  refine X_istore_n (i := 1) (ls' := [some (.ref 355), some (.int (-1 : Int32)), none]) rfl rfl rfl (Nat.le_of_ble_eq_true rfl) rfl ?_
  refine X_iload_n rfl rfl rfl rfl ?_
  refine X_if_ge (tgt := 68) rfl rfl rfl (fun q => absurd q (by decide)) (fun _ => ?_)
  refine X_aload_n rfl rfl rfl rfl ?_
  refine X_iconst (v := (0 : Int32)) rfl rfl rfl ?_
  refine X_putI rfl rfl rfl ((congrFun F.1 355).trans s_355) rfl rfl rfl rfl ?_
  refine LW_goto (tgt := 396) rfl rfl ?_
  refine LW_return (st := []) rfl rfl ?_
  refine X_aload_n rfl rfl rfl rfl ?_
  refine X_getI (v := (0 : Int32)) rfl rfl rfl ((congrFun F.1 355).trans s_355) rfl rfl ?_
  refine X_if_eq (tgt := 69) rfl rfl rfl (fun _ => ?_) (fun q => absurd q (by decide))
  refine X_iconst (v := (0 : Int32)) rfl rfl rfl ?_
  refine LW_ireturn (st := []) rfl rfl rfl ?_
  refine X_putI rfl rfl rfl ((congrFun F.1 355).trans s_355) rfl rfl rfl rfl ?_
  refine X_aload_n rfl rfl rfl rfl ?_
  refine X_aload_n rfl rfl rfl rfl ?_
  refine X_getI (v := (0 : Int32)) rfl rfl rfl ((congrFun F.1 355).trans s_355) rfl rfl ?_
  refine X_if_ne (tgt := 32) rfl rfl rfl (fun q => absurd q (by decide)) (fun _ => ?_)
  refine X_iconst (v := (-1 : Int32)) rfl rfl rfl ?_
  refine LW_goto (tgt := 36) rfl rfl ?_
  refine X_putI rfl rfl rfl ((congrFun F.1 355).trans s_355) rfl rfl rfl rfl ?_
  refine X_aload_n rfl rfl rfl rfl ?_
  refine X_iconst (v := (0 : Int32)) rfl rfl rfl ?_
  refine X_putI rfl rfl rfl ((congrFun F.1 355).trans s_355) rfl rfl rfl rfl ?_
  refine X_aload_n rfl rfl rfl rfl ?_
  refine X_getI (v := (0 : Int32)) rfl rfl rfl ((congrFun F.1 355).trans s_355) rfl rfl ?_
  refine X_if_eq (tgt := 53) rfl rfl rfl (fun _ => ?_) (fun q => absurd q (by decide))
  refine X_aload_n rfl rfl rfl rfl ?_
  refine X_getR (a := 356) rfl rfl rfl ((congrFun F.1 355).trans s_355) rfl ((congrFun (F.2.1 355 (by decide)) 0).trans r_355_0) ?_
  refine X_iconst (v := (4 : Int32)) rfl rfl rfl ?_
  refine X_dup2 rfl rfl rfl rfl ?_
  refine X_iald (v := (0 : Int32)) rfl rfl ((congrFun F.1 356).trans s_356) (vp_in_d rfl) ((congrFun (F.2.2 356 (by decide)).1 4).trans i_356_4) ?_
  refine X_iconst (v := (1 : Int32)) rfl rfl rfl ?_
  refine X_iadd (v := (1 : Int32)) rfl rfl rfl ?_
  refine X_iast (k0 := 4) rfl rfl ((congrFun F.1 356).trans s_356) (vp_in_d rfl) rfl ?_
  refine X_aload_n rfl rfl rfl rfl ?_
  refine X_getR (a := 356) rfl rfl rfl ((congrFun F.1 355).trans s_355) rfl ((congrFun (F.2.1 355 (by decide)) 0).trans r_355_0) ?_
  refine X_iconst (v := (4 : Int32)) rfl rfl rfl ?_
  refine X_iald (v := (1 : Int32)) rfl rfl ((congrFun F.1 356).trans s_356) (vp_in_d rfl) rfl ?_
  refine X_iconst (v := (1 : Int32)) rfl rfl rfl ?_
  refine X_isub (v := (0 : Int32)) rfl rfl rfl ?_
  refine LW_ireturn (st := []) rfl rfl rfl (congrArg (fun z => some (Value.int z)) ?_)
  unfold f_text
  repeat' split
  all_goals first | rfl | (exfalso; omega) | (refine Int32.toInt_inj.mp ?_; rw [show (0 : Int32).toInt = 0 from rfl]; omega)
