/-! walks printed by wip/p1/walk.py: party end fault by contract played undo ofWord ofSaying mistaken said dear stop worth core hair printed0 printed1 signed -/
def f_party (a : Int32) : Int32 := if a.toInt = -1 then 0 else if 1 ≤ a.toInt ∧ a.toInt ≤ 67108863 then 1 else -2
def f_end (a : Int32) : Int32 := if a.toInt = 0 then 0 else -1
def f_fault (a : Int32) : Int32 := -1
def f_by (a : Int32) : Int32 := if a.toInt = -1 then 1 else 0
def f_contract (a : Int32) : Int32 := -1
def f_played (a : Int32) : Int32 := -2
def f_undo : Int32 := -1
def f_ofWord (a : Int32) (b : Int32) : Int32 := -1
def f_ofSaying (a : Int32) (b : Int32) : Int32 := -1
def f_mistaken (a : Int32) (b : Int32) : Int32 := 0
def f_said (a : Int32) (b : Int32) (c : Int32) : Int32 := -1
def f_dear (a : Int32) : Int32 := -1
def f_stop (a : Int32) : Int32 := -1
def f_worth (a : Int32) : Int32 := if a.toInt = 0 then 0 else -1
def f_core (a : Int32) (b : Int32) : Int32 := -1
def f_hair (a : Int32) (b : Int32) : Int32 := -1
def f_printed0 (a : Int32) (b : Int32) : Int32 := if a.toInt = -1 then 0 else -2
def f_printed1 (a : Int32) (b : Int32) : Int32 := if a.toInt = -1 then 0 else -2
def f_signed (a : Int32) (b : Int32) : Int32 := if a.toInt = -1 then 0 else -2
set_option maxRecDepth 10000 in
set_option maxHeartbeats 4000000 in
theorem c_party {g : LH} (F : Fc g) (E : Fr g) (a : Int32) : LW 152 30 0 0 0 (lEnt (mL 152) [.ref 0, .int a]) [] g (fun v g' => v = some (.int (f_party a)) ∧ Fr g') := by
  refine LW_ls (ls' := [some (.ref 0), some (.int a)]) rfl ?_
  refine X_iload_n rfl rfl rfl rfl ?_
  refine X_iconst (v := (-1 : Int32)) rfl rfl rfl ?_
  refine X_icmp_ne (tgt := 15) rfl rfl rfl (fun h1 => ?_) (fun h1 => ?_)
  · refine X_iload_n rfl rfl rfl rfl ?_
    refine X_callS (as := [.int a]) (st := []) rfl rfl rfl (by decide) rfl (Nat.le_of_ble_eq_true rfl) (by decide) (Nat.le_of_ble_eq_true rfl) rfl ?_
    refine LW_ls (ls' := [some (.int a)]) rfl ?_
    refine X_iload_n rfl rfl rfl rfl ?_
    refine X_if_le (tgt := 15) rfl rfl rfl (fun h2 => ?_) (fun h2 => ?_)
    · refine X_iconst (v := (0 : Int32)) rfl rfl rfl ?_
      refine LW_ireturn (st := []) rfl rfl rfl ?_
      refine X_if_eq (tgt := 33) rfl rfl rfl (fun _ => ?_) (fun q => absurd q (by decide))
      refine X_bipush (v := (-2 : Int32)) rfl rfl rfl ?_
      refine LW_ireturn (st := []) rfl rfl rfl ⟨congrArg (fun z => some (Value.int z)) ?_, E⟩
      simp only [Int32.lt_iff_toInt_lt, Int32.le_iff_toInt_le, ← Int32.toInt_inj, (show (-1 : Int32).toInt = -1 from rfl), (show (0 : Int32).toInt = 0 from rfl)] at h1 h2
      unfold f_party
      repeat' split
      all_goals first | rfl | (exfalso; omega) | (refine Int32.toInt_inj.mp ?_; rw [show (0 : Int32).toInt = 0 from rfl]; omega)
    · refine X_iload_n rfl rfl rfl rfl ?_
      refine X_ldcw (v := (67108864 : Int32)) rfl rfl rfl ?_
      refine X_icmp_ge (tgt := 15) rfl rfl rfl (fun h3 => ?_) (fun h3 => ?_)
      · refine X_iconst (v := (0 : Int32)) rfl rfl rfl ?_
        refine LW_ireturn (st := []) rfl rfl rfl ?_
        refine X_if_eq (tgt := 33) rfl rfl rfl (fun _ => ?_) (fun q => absurd q (by decide))
        refine X_bipush (v := (-2 : Int32)) rfl rfl rfl ?_
        refine LW_ireturn (st := []) rfl rfl rfl ⟨congrArg (fun z => some (Value.int z)) ?_, E⟩
        simp only [Int32.lt_iff_toInt_lt, Int32.le_iff_toInt_le, ← Int32.toInt_inj, (show (-1 : Int32).toInt = -1 from rfl), (show (0 : Int32).toInt = 0 from rfl), (show (67108864 : Int32).toInt = 67108864 from rfl)] at h1 h2 h3
        unfold f_party
        repeat' split
        all_goals first | rfl | (exfalso; omega) | (refine Int32.toInt_inj.mp ?_; rw [show (0 : Int32).toInt = 0 from rfl]; omega)
      · refine X_iconst (v := (1 : Int32)) rfl rfl rfl ?_
        refine LW_goto (tgt := 16) rfl rfl ?_
        refine LW_ireturn (st := []) rfl rfl rfl ?_
        refine X_if_eq (tgt := 33) rfl rfl rfl (fun q => absurd q (by decide)) (fun _ => ?_)
        refine X_aload_n rfl rfl rfl rfl ?_
        refine X_getR (a := 1) rfl rfl rfl ((congrFun F.1 0).trans s_0) rfl ((congrFun (F.2.1 0 (by decide)) 0).trans r_0_0) ?_
        refine X_getI (v := (0 : Int32)) rfl rfl rfl ((congrFun F.1 1).trans s_1) rfl ((congrFun (F.2.2 1 (by decide)).1 7).trans i_1_7) ?_
        refine X_iconst (v := (4 : Int32)) rfl rfl rfl ?_
        refine X_icmp_lt (tgt := 36) rfl rfl rfl (fun _ => ?_) (fun q => absurd q (by decide))
        refine X_aload_n rfl rfl rfl rfl ?_
        refine X_getR (a := 1) rfl rfl rfl ((congrFun F.1 0).trans s_0) rfl ((congrFun (F.2.1 0 (by decide)) 0).trans r_0_0) ?_
        refine X_getR (a := 142) rfl rfl rfl ((congrFun F.1 1).trans s_1) rfl ((congrFun (F.2.1 1 (by decide)) 8).trans r_1_8) ?_
        refine X_aload_n rfl rfl rfl rfl ?_
        refine X_getR (a := 1) rfl rfl rfl ((congrFun F.1 0).trans s_0) rfl ((congrFun (F.2.1 0 (by decide)) 0).trans r_0_0) ?_
        refine X_getI (v := (0 : Int32)) rfl rfl rfl ((congrFun F.1 1).trans s_1) rfl ((congrFun (F.2.2 1 (by decide)).1 7).trans i_1_7) ?_
        refine X_iload_n rfl rfl rfl rfl ?_
        refine X_iast (k0 := 0) rfl rfl ((congrFun F.1 142).trans s_142) (vp_in_d rfl) rfl ?_
        refine X_aload_n rfl rfl rfl rfl ?_
        refine X_getR (a := 1) rfl rfl rfl ((congrFun F.1 0).trans s_0) rfl ((congrFun (F.2.1 0 (by decide)) 0).trans r_0_0) ?_
        refine X_dup rfl rfl rfl ?_
        refine X_getI (v := (0 : Int32)) rfl rfl rfl ((congrFun F.1 1).trans s_1) rfl ((congrFun (F.2.2 1 (by decide)).1 7).trans i_1_7) ?_
        refine X_iconst (v := (1 : Int32)) rfl rfl rfl ?_
        refine X_iadd (v := (1 : Int32)) rfl rfl rfl ?_
        refine X_putI rfl rfl rfl ((congrFun F.1 1).trans s_1) rfl rfl rfl rfl ?_
        refine X_aload_n rfl rfl rfl rfl ?_
        refine X_getR (a := 1) rfl rfl rfl ((congrFun F.1 0).trans s_0) rfl ((congrFun (F.2.1 0 (by decide)) 0).trans r_0_0) ?_
        refine X_getI (v := (1 : Int32)) rfl rfl rfl ((congrFun F.1 1).trans s_1) rfl rfl ?_
        refine LW_ireturn (st := []) rfl rfl rfl ⟨congrArg (fun z => some (Value.int z)) ?_, (Fr_putI (Fr_putI E (by decide)) (by decide))⟩
        simp only [Int32.lt_iff_toInt_lt, Int32.le_iff_toInt_le, ← Int32.toInt_inj, (show (-1 : Int32).toInt = -1 from rfl), (show (0 : Int32).toInt = 0 from rfl), (show (67108864 : Int32).toInt = 67108864 from rfl)] at h1 h2 h3
        unfold f_party
        repeat' split
        all_goals first | rfl | (exfalso; omega) | (refine Int32.toInt_inj.mp ?_; rw [show (0 : Int32).toInt = 0 from rfl]; omega)
  · refine X_aload_n rfl rfl rfl rfl ?_
    refine X_getR (a := 1) rfl rfl rfl ((congrFun F.1 0).trans s_0) rfl ((congrFun (F.2.1 0 (by decide)) 0).trans r_0_0) ?_
    refine X_iconst (v := (0 : Int32)) rfl rfl rfl ?_
    refine X_putI rfl rfl rfl ((congrFun F.1 1).trans s_1) rfl rfl rfl rfl ?_
    refine X_iconst (v := (0 : Int32)) rfl rfl rfl ?_
    refine LW_ireturn (st := []) rfl rfl rfl ⟨congrArg (fun z => some (Value.int z)) ?_, (Fr_putI E (by decide))⟩
    simp only [Int32.lt_iff_toInt_lt, Int32.le_iff_toInt_le, ← Int32.toInt_inj, (show (-1 : Int32).toInt = -1 from rfl)] at h1
    unfold f_party
    repeat' split
    all_goals first | rfl | (exfalso; omega) | (refine Int32.toInt_inj.mp ?_; rw [show (0 : Int32).toInt = 0 from rfl]; omega)
set_option maxRecDepth 10000 in
set_option maxHeartbeats 4000000 in
theorem r_party {g : LH} (F : Fr g) (a : Int32) : LW 288 30 0 0 0 (lEnt (mL 288) [.ref 355, .int a]) [] g (fun v _ => v = some (.int (f_party a))) := by
  refine LW_ls (ls' := [some (.ref 355), some (.int a)]) rfl ?_
  refine X_iload_n rfl rfl rfl rfl ?_
  refine X_iconst (v := (-1 : Int32)) rfl rfl rfl ?_
  refine X_icmp_ne (tgt := 15) rfl rfl rfl (fun h1 => ?_) (fun h1 => ?_)
  · refine X_iload_n rfl rfl rfl rfl ?_
    refine X_callS (as := [.int a]) (st := []) rfl rfl rfl (by decide) rfl (Nat.le_of_ble_eq_true rfl) (by decide) (Nat.le_of_ble_eq_true rfl) rfl ?_
    refine LW_ls (ls' := [some (.int a)]) rfl ?_
    refine X_iload_n rfl rfl rfl rfl ?_
    refine X_iconst (v := (1 : Int32)) rfl rfl rfl ?_
    refine X_ldc (v := (67108863 : Int32)) rfl rfl rfl ?_
    refine X_callS (as := [.int a, .int (1 : Int32), .int (67108863 : Int32)]) (st := []) rfl rfl rfl (by decide) rfl (Nat.le_of_ble_eq_true rfl) (by decide) (Nat.le_of_ble_eq_true rfl) rfl ?_
    refine LW_ls (ls' := [some (.int a), some (.int (1 : Int32)), some (.int (67108863 : Int32))]) rfl ?_
    refine X_iload_n rfl rfl rfl rfl ?_
    refine X_iload_n rfl rfl rfl rfl ?_
    refine X_icmp_lt (tgt := 14) rfl rfl rfl (fun h2 => ?_) (fun h2 => ?_)
    · refine X_iconst (v := (0 : Int32)) rfl rfl rfl ?_
      refine LW_ireturn (st := []) rfl rfl rfl ?_
      refine LW_ireturn (st := []) rfl rfl rfl ?_
      refine X_if_eq (tgt := 33) rfl rfl rfl (fun _ => ?_) (fun q => absurd q (by decide))
      refine X_bipush (v := (-2 : Int32)) rfl rfl rfl ?_
      refine LW_ireturn (st := []) rfl rfl rfl (congrArg (fun z => some (Value.int z)) ?_)
      simp only [Int32.lt_iff_toInt_lt, Int32.le_iff_toInt_le, ← Int32.toInt_inj, (show (-1 : Int32).toInt = -1 from rfl), (show (1 : Int32).toInt = 1 from rfl)] at h1 h2
      unfold f_party
      repeat' split
      all_goals first | rfl | (exfalso; omega) | (refine Int32.toInt_inj.mp ?_; rw [show (0 : Int32).toInt = 0 from rfl]; omega)
    · refine X_iload_n rfl rfl rfl rfl ?_
      refine X_iload_n rfl rfl rfl rfl ?_
      refine X_icmp_gt (tgt := 14) rfl rfl rfl (fun h3 => ?_) (fun h3 => ?_)
      · refine X_iconst (v := (0 : Int32)) rfl rfl rfl ?_
        refine LW_ireturn (st := []) rfl rfl rfl ?_
        refine LW_ireturn (st := []) rfl rfl rfl ?_
        refine X_if_eq (tgt := 33) rfl rfl rfl (fun _ => ?_) (fun q => absurd q (by decide))
        refine X_bipush (v := (-2 : Int32)) rfl rfl rfl ?_
        refine LW_ireturn (st := []) rfl rfl rfl (congrArg (fun z => some (Value.int z)) ?_)
        simp only [Int32.lt_iff_toInt_lt, Int32.le_iff_toInt_le, ← Int32.toInt_inj, (show (-1 : Int32).toInt = -1 from rfl), (show (1 : Int32).toInt = 1 from rfl), (show (67108863 : Int32).toInt = 67108863 from rfl)] at h1 h2 h3
        unfold f_party
        repeat' split
        all_goals first | rfl | (exfalso; omega) | (refine Int32.toInt_inj.mp ?_; rw [show (0 : Int32).toInt = 0 from rfl]; omega)
      · refine X_iconst (v := (1 : Int32)) rfl rfl rfl ?_
        refine LW_goto (tgt := 15) rfl rfl ?_
        refine LW_ireturn (st := []) rfl rfl rfl ?_
        refine LW_ireturn (st := []) rfl rfl rfl ?_
        refine X_if_eq (tgt := 33) rfl rfl rfl (fun q => absurd q (by decide)) (fun _ => ?_)
        refine X_aload_n rfl rfl rfl rfl ?_
        refine X_getR (a := 356) rfl rfl rfl ((congrFun F.1 355).trans s_355) rfl ((congrFun (F.2.1 355 (by decide)) 0).trans r_355_0) ?_
        refine X_bipush (v := (8 : Int32)) rfl rfl rfl ?_
        refine X_iald (v := (0 : Int32)) rfl rfl ((congrFun F.1 356).trans s_356) (vp_in_d rfl) ((congrFun (F.2.2 356 (by decide)).1 8).trans i_356_8) ?_
        refine X_iconst (v := (4 : Int32)) rfl rfl rfl ?_
        refine X_icmp_ne (tgt := 36) rfl rfl rfl (fun _ => ?_) (fun q => absurd q (by decide))
        refine X_aload_n rfl rfl rfl rfl ?_
        refine X_getR (a := 356) rfl rfl rfl ((congrFun F.1 355).trans s_355) rfl ((congrFun (F.2.1 355 (by decide)) 0).trans r_355_0) ?_
        refine X_sipush (v := (538 : Int32)) rfl rfl rfl ?_
        refine X_aload_n rfl rfl rfl rfl ?_
        refine X_getR (a := 356) rfl rfl rfl ((congrFun F.1 355).trans s_355) rfl ((congrFun (F.2.1 355 (by decide)) 0).trans r_355_0) ?_
        refine X_bipush (v := (8 : Int32)) rfl rfl rfl ?_
        refine X_iald (v := (0 : Int32)) rfl rfl ((congrFun F.1 356).trans s_356) (vp_in_d rfl) ((congrFun (F.2.2 356 (by decide)).1 8).trans i_356_8) ?_
        refine X_iadd (v := (538 : Int32)) rfl rfl rfl ?_
        refine X_iload_n rfl rfl rfl rfl ?_
        refine X_iast (k0 := 538) rfl rfl ((congrFun F.1 356).trans s_356) (vp_in_d rfl) rfl ?_
        refine X_aload_n rfl rfl rfl rfl ?_
        refine X_getR (a := 356) rfl rfl rfl ((congrFun F.1 355).trans s_355) rfl ((congrFun (F.2.1 355 (by decide)) 0).trans r_355_0) ?_
        refine X_bipush (v := (8 : Int32)) rfl rfl rfl ?_
        refine X_dup2 rfl rfl rfl rfl ?_
        refine X_iald (v := (0 : Int32)) rfl rfl ((congrFun F.1 356).trans s_356) (vp_in_d rfl) ((congrFun (F.2.2 356 (by decide)).1 8).trans i_356_8) ?_
        refine X_iconst (v := (1 : Int32)) rfl rfl rfl ?_
        refine X_iadd (v := (1 : Int32)) rfl rfl rfl ?_
        refine X_iast (k0 := 8) rfl rfl ((congrFun F.1 356).trans s_356) (vp_in_d rfl) rfl ?_
        refine X_aload_n rfl rfl rfl rfl ?_
        refine X_getR (a := 356) rfl rfl rfl ((congrFun F.1 355).trans s_355) rfl ((congrFun (F.2.1 355 (by decide)) 0).trans r_355_0) ?_
        refine X_bipush (v := (8 : Int32)) rfl rfl rfl ?_
        refine X_iald (v := (1 : Int32)) rfl rfl ((congrFun F.1 356).trans s_356) (vp_in_d rfl) rfl ?_
        refine LW_ireturn (st := []) rfl rfl rfl (congrArg (fun z => some (Value.int z)) ?_)
        simp only [Int32.lt_iff_toInt_lt, Int32.le_iff_toInt_le, ← Int32.toInt_inj, (show (-1 : Int32).toInt = -1 from rfl), (show (1 : Int32).toInt = 1 from rfl), (show (67108863 : Int32).toInt = 67108863 from rfl)] at h1 h2 h3
        unfold f_party
        repeat' split
        all_goals first | rfl | (exfalso; omega) | (refine Int32.toInt_inj.mp ?_; rw [show (0 : Int32).toInt = 0 from rfl]; omega)
  · refine X_aload_n rfl rfl rfl rfl ?_
    refine X_getR (a := 356) rfl rfl rfl ((congrFun F.1 355).trans s_355) rfl ((congrFun (F.2.1 355 (by decide)) 0).trans r_355_0) ?_
    refine X_bipush (v := (8 : Int32)) rfl rfl rfl ?_
    refine X_iconst (v := (0 : Int32)) rfl rfl rfl ?_
    refine X_iast (k0 := 8) rfl rfl ((congrFun F.1 356).trans s_356) (vp_in_d rfl) rfl ?_
    refine X_iconst (v := (0 : Int32)) rfl rfl rfl ?_
    refine LW_ireturn (st := []) rfl rfl rfl (congrArg (fun z => some (Value.int z)) ?_)
    simp only [Int32.lt_iff_toInt_lt, Int32.le_iff_toInt_le, ← Int32.toInt_inj, (show (-1 : Int32).toInt = -1 from rfl)] at h1
    unfold f_party
    repeat' split
    all_goals first | rfl | (exfalso; omega) | (refine Int32.toInt_inj.mp ?_; rw [show (0 : Int32).toInt = 0 from rfl]; omega)
set_option maxRecDepth 10000 in
set_option maxHeartbeats 4000000 in
theorem c_end {g : LH} (F : Fc g) (E : Fr g) (a : Int32) : LW 130 30 0 0 0 (lEnt (mL 130) [.ref 0, .int a]) [] g (fun v g' => v = some (.int (f_end a)) ∧ Fr g') := by
  refine LW_ls (ls' := [some (.ref 0), some (.int a)]) rfl ?_
  refine X_iload_n rfl rfl rfl rfl ?_
  refine X_if_lt (tgt := 15) rfl rfl rfl (fun h1 => ?_) (fun h1 => ?_)
  · refine X_iconst (v := (-1 : Int32)) rfl rfl rfl ?_
    refine LW_ireturn (st := []) rfl rfl rfl ⟨congrArg (fun z => some (Value.int z)) ?_, E⟩
    simp only [Int32.lt_iff_toInt_lt, Int32.le_iff_toInt_le, ← Int32.toInt_inj, (show (0 : Int32).toInt = 0 from rfl)] at h1
    unfold f_end
    repeat' split
    all_goals first | rfl | (exfalso; omega) | (refine Int32.toInt_inj.mp ?_; rw [show (0 : Int32).toInt = 0 from rfl]; omega)
  · refine X_iload_n rfl rfl rfl rfl ?_
    refine X_aload_n rfl rfl rfl rfl ?_
    refine X_getR (a := 332) rfl rfl rfl ((congrFun F.1 0).trans s_0) rfl ((congrFun (F.2.1 0 (by decide)) 3).trans r_0_3) ?_
    refine X_getI (v := (0 : Int32)) rfl rfl rfl ((congrFun F.1 332).trans s_332) rfl ((congrFun (F.2.2 332 (by decide)).1 0).trans i_332_0) ?_
    refine X_icmp_le (tgt := 17) rfl rfl rfl (fun h2 => ?_) (fun h2 => ?_)
    · refine X_aload_n rfl rfl rfl rfl ?_
      refine X_getR (a := 332) rfl rfl rfl ((congrFun F.1 0).trans s_0) rfl ((congrFun (F.2.1 0 (by decide)) 3).trans r_0_3) ?_
      refine X_iload_n rfl rfl rfl rfl ?_
      refine X_putI rfl rfl rfl ((congrFun F.1 332).trans s_332) rfl rfl rfl rfl ?_
      refine X_iload_n rfl rfl rfl rfl ?_
      refine LW_ireturn (st := []) rfl rfl rfl ⟨congrArg (fun z => some (Value.int z)) ?_, (Fr_putI E (by decide))⟩
      simp only [Int32.lt_iff_toInt_lt, Int32.le_iff_toInt_le, ← Int32.toInt_inj, (show (0 : Int32).toInt = 0 from rfl)] at h1 h2
      unfold f_end
      repeat' split
      all_goals first | rfl | (exfalso; omega) | (refine Int32.toInt_inj.mp ?_; rw [show (0 : Int32).toInt = 0 from rfl]; omega)
    · refine X_iconst (v := (-1 : Int32)) rfl rfl rfl ?_
      refine LW_ireturn (st := []) rfl rfl rfl ⟨congrArg (fun z => some (Value.int z)) ?_, E⟩
      simp only [Int32.lt_iff_toInt_lt, Int32.le_iff_toInt_le, ← Int32.toInt_inj, (show (0 : Int32).toInt = 0 from rfl)] at h1 h2
      unfold f_end
      repeat' split
      all_goals first | rfl | (exfalso; omega) | (refine Int32.toInt_inj.mp ?_; rw [show (0 : Int32).toInt = 0 from rfl]; omega)
set_option maxRecDepth 10000 in
set_option maxHeartbeats 4000000 in
theorem r_end {g : LH} (F : Fr g) (a : Int32) : LW 196 30 0 0 0 (lEnt (mL 196) [.ref 355, .int a]) [] g (fun v _ => v = some (.int (f_end a))) := by
  refine LW_ls (ls' := [some (.ref 355), some (.int a)]) rfl ?_
  refine X_iload_n rfl rfl rfl rfl ?_
  refine X_iconst (v := (0 : Int32)) rfl rfl rfl ?_
  refine X_aload_n rfl rfl rfl rfl ?_
  refine X_getI (v := (0 : Int32)) rfl rfl rfl ((congrFun F.1 355).trans s_355) rfl ((congrFun (F.2.2 355 (by decide)).1 8).trans i_355_8) ?_
  refine X_callS (as := [.int a, .int (0 : Int32), .int (0 : Int32)]) (st := []) rfl rfl rfl (by decide) rfl (Nat.le_of_ble_eq_true rfl) (by decide) (Nat.le_of_ble_eq_true rfl) rfl ?_
  refine LW_ls (ls' := [some (.int a), some (.int (0 : Int32)), some (.int (0 : Int32))]) rfl ?_
  refine X_iload_n rfl rfl rfl rfl ?_
  refine X_iload_n rfl rfl rfl rfl ?_
  refine X_icmp_lt (tgt := 14) rfl rfl rfl (fun h1 => ?_) (fun h1 => ?_)
  · refine X_iconst (v := (0 : Int32)) rfl rfl rfl ?_
    refine LW_ireturn (st := []) rfl rfl rfl ?_
    refine X_if_ne (tgt := 14) rfl rfl rfl (fun q => absurd q (by decide)) (fun _ => ?_)
    refine X_iconst (v := (-1 : Int32)) rfl rfl rfl ?_
    refine LW_ireturn (st := []) rfl rfl rfl (congrArg (fun z => some (Value.int z)) ?_)
    simp only [Int32.lt_iff_toInt_lt, Int32.le_iff_toInt_le, ← Int32.toInt_inj, (show (0 : Int32).toInt = 0 from rfl)] at h1
    unfold f_end
    repeat' split
    all_goals first | rfl | (exfalso; omega) | (refine Int32.toInt_inj.mp ?_; rw [show (0 : Int32).toInt = 0 from rfl]; omega)
  · refine X_iload_n rfl rfl rfl rfl ?_
    refine X_iload_n rfl rfl rfl rfl ?_
    refine X_icmp_gt (tgt := 14) rfl rfl rfl (fun h2 => ?_) (fun h2 => ?_)
    · refine X_iconst (v := (0 : Int32)) rfl rfl rfl ?_
      refine LW_ireturn (st := []) rfl rfl rfl ?_
      refine X_if_ne (tgt := 14) rfl rfl rfl (fun q => absurd q (by decide)) (fun _ => ?_)
      refine X_iconst (v := (-1 : Int32)) rfl rfl rfl ?_
      refine LW_ireturn (st := []) rfl rfl rfl (congrArg (fun z => some (Value.int z)) ?_)
      simp only [Int32.lt_iff_toInt_lt, Int32.le_iff_toInt_le, ← Int32.toInt_inj, (show (0 : Int32).toInt = 0 from rfl)] at h1 h2
      unfold f_end
      repeat' split
      all_goals first | rfl | (exfalso; omega) | (refine Int32.toInt_inj.mp ?_; rw [show (0 : Int32).toInt = 0 from rfl]; omega)
    · refine X_iconst (v := (1 : Int32)) rfl rfl rfl ?_
      refine LW_goto (tgt := 15) rfl rfl ?_
      refine LW_ireturn (st := []) rfl rfl rfl ?_
      refine X_if_ne (tgt := 14) rfl rfl rfl (fun _ => ?_) (fun q => absurd q (by decide))
      refine X_aload_n rfl rfl rfl rfl ?_
      refine X_iload_n rfl rfl rfl rfl ?_
      refine X_putI rfl rfl rfl ((congrFun F.1 355).trans s_355) rfl rfl rfl rfl ?_
      refine X_iload_n rfl rfl rfl rfl ?_
      refine LW_ireturn (st := []) rfl rfl rfl (congrArg (fun z => some (Value.int z)) ?_)
      simp only [Int32.lt_iff_toInt_lt, Int32.le_iff_toInt_le, ← Int32.toInt_inj, (show (0 : Int32).toInt = 0 from rfl)] at h1 h2
      unfold f_end
      repeat' split
      all_goals first | rfl | (exfalso; omega) | (refine Int32.toInt_inj.mp ?_; rw [show (0 : Int32).toInt = 0 from rfl]; omega)
set_option maxRecDepth 10000 in
set_option maxHeartbeats 4000000 in
theorem c_fault {g : LH} (F : Fc g) (E : Fr g) (a : Int32) : LW 132 30 0 0 0 (lEnt (mL 132) [.ref 0, .int a]) [] g (fun v g' => v = some (.int (f_fault a)) ∧ Fr g') := by
  refine LW_ls (ls' := [some (.ref 0), some (.int a)]) rfl ?_
  refine X_aload_n rfl rfl rfl rfl ?_
  refine X_getR (a := 338) rfl rfl rfl ((congrFun F.1 0).trans s_0) rfl ((congrFun (F.2.1 0 (by decide)) 4).trans r_0_4) ?_
  refine X_getI (v := (0 : Int32)) rfl rfl rfl ((congrFun F.1 338).trans s_338) rfl ((congrFun (F.2.2 338 (by decide)).1 7).trans i_338_7) ?_
  refine X_if_ne (tgt := 12) rfl rfl rfl (fun q => absurd q (by decide)) (fun _ => ?_)
  refine X_iconst (v := (-1 : Int32)) rfl rfl rfl ?_
  refine LW_ireturn (st := []) rfl rfl rfl ⟨congrArg (fun z => some (Value.int z)) ?_, E⟩
  unfold f_fault
  repeat' split
  all_goals first | rfl | (exfalso; omega) | (refine Int32.toInt_inj.mp ?_; rw [show (0 : Int32).toInt = 0 from rfl]; omega)
set_option maxRecDepth 10000 in
set_option maxHeartbeats 4000000 in
theorem r_fault {g : LH} (F : Fr g) (a : Int32) : LW 236 30 0 0 0 (lEnt (mL 236) [.ref 355, .int a]) [] g (fun v _ => v = some (.int (f_fault a))) := by
  refine LW_ls (ls' := [some (.ref 355), some (.int a)]) rfl ?_
  refine X_iload_n rfl rfl rfl rfl ?_
  refine X_if_ne (tgt := 11) rfl rfl rfl (fun h1 => ?_) (fun h1 => ?_)
  · refine X_iload_n rfl rfl rfl rfl ?_
    refine X_iconst (v := (1 : Int32)) rfl rfl rfl ?_
    refine X_icmp_ne (tgt := 23) rfl rfl rfl (fun h2 => ?_) (fun h2 => ?_)
    · refine X_iconst (v := (-1 : Int32)) rfl rfl rfl ?_
      refine LW_ireturn (st := []) rfl rfl rfl (congrArg (fun z => some (Value.int z)) ?_)
      simp only [Int32.lt_iff_toInt_lt, Int32.le_iff_toInt_le, ← Int32.toInt_inj, (show (0 : Int32).toInt = 0 from rfl), (show (1 : Int32).toInt = 1 from rfl)] at h1 h2
      unfold f_fault
      repeat' split
      all_goals first | rfl | (exfalso; omega) | (refine Int32.toInt_inj.mp ?_; rw [show (0 : Int32).toInt = 0 from rfl]; omega)
    · refine X_aload_n rfl rfl rfl rfl ?_
      refine X_getI (v := (-1 : Int32)) rfl rfl rfl ((congrFun F.1 355).trans s_355) rfl ((congrFun (F.2.2 355 (by decide)).1 10).trans i_355_10) ?_
      refine LW_goto (tgt := 24) rfl rfl ?_
      refine LW_ireturn (st := []) rfl rfl rfl (congrArg (fun z => some (Value.int z)) ?_)
      simp only [Int32.lt_iff_toInt_lt, Int32.le_iff_toInt_le, ← Int32.toInt_inj, (show (0 : Int32).toInt = 0 from rfl), (show (1 : Int32).toInt = 1 from rfl)] at h1 h2
      unfold f_fault
      repeat' split
      all_goals first | rfl | (exfalso; omega) | (refine Int32.toInt_inj.mp ?_; rw [show (0 : Int32).toInt = 0 from rfl]; omega)
  · refine X_aload_n rfl rfl rfl rfl ?_
    refine X_getI (v := (-1 : Int32)) rfl rfl rfl ((congrFun F.1 355).trans s_355) rfl ((congrFun (F.2.2 355 (by decide)).1 9).trans i_355_9) ?_
    refine LW_goto (tgt := 24) rfl rfl ?_
    refine LW_ireturn (st := []) rfl rfl rfl (congrArg (fun z => some (Value.int z)) ?_)
    simp only [Int32.lt_iff_toInt_lt, Int32.le_iff_toInt_le, ← Int32.toInt_inj, (show (0 : Int32).toInt = 0 from rfl)] at h1
    unfold f_fault
    repeat' split
    all_goals first | rfl | (exfalso; omega) | (refine Int32.toInt_inj.mp ?_; rw [show (0 : Int32).toInt = 0 from rfl]; omega)
set_option maxRecDepth 10000 in
set_option maxHeartbeats 4000000 in
theorem c_by {g : LH} (F : Fc g) (E : Fr g) (a : Int32) : LW 133 30 0 0 0 (lEnt (mL 133) [.ref 0, .int a]) [] g (fun v g' => v = some (.int (f_by a)) ∧ Fr g') := by
  refine LW_ls (ls' := [some (.ref 0), some (.int a)]) rfl ?_
  refine X_iload_n rfl rfl rfl rfl ?_
  refine X_iconst (v := (-1 : Int32)) rfl rfl rfl ?_
  refine X_icmp_eq (tgt := 15) rfl rfl rfl (fun h1 => ?_) (fun h1 => ?_)
  · refine X_aload_n rfl rfl rfl rfl ?_
    refine X_getR (a := 1) rfl rfl rfl ((congrFun F.1 0).trans s_0) rfl ((congrFun (F.2.1 0 (by decide)) 0).trans r_0_0) ?_
    refine X_iload_n rfl rfl rfl rfl ?_
    refine X_putI rfl rfl rfl ((congrFun F.1 1).trans s_1) rfl rfl rfl rfl ?_
    refine X_iconst (v := (1 : Int32)) rfl rfl rfl ?_
    refine LW_ireturn (st := []) rfl rfl rfl ⟨congrArg (fun z => some (Value.int z)) ?_, (Fr_putI E (by decide))⟩
    simp only [Int32.lt_iff_toInt_lt, Int32.le_iff_toInt_le, ← Int32.toInt_inj, (show (-1 : Int32).toInt = -1 from rfl)] at h1
    unfold f_by
    repeat' split
    all_goals first | rfl | (exfalso; omega) | (refine Int32.toInt_inj.mp ?_; rw [show (0 : Int32).toInt = 0 from rfl]; omega)
  · refine X_aload_n rfl rfl rfl rfl ?_
    refine X_iload_n rfl rfl rfl rfl ?_
    refine X_callV (as := [.int a]) (st := []) rfl rfl rfl (by decide) rfl (Nat.le_of_ble_eq_true rfl) (by decide) (Nat.le_of_ble_eq_true rfl) rfl ((congrFun F.1 0).trans s_0) (by decide) ?_
    refine LW_ls (ls' := [some (.ref 0), some (.int a)]) rfl ?_
    refine X_iload_n rfl rfl rfl rfl ?_
    refine X_if_lt (tgt := 28) rfl rfl rfl (fun h2 => ?_) (fun h2 => ?_)
    · refine X_iconst (v := (0 : Int32)) rfl rfl rfl ?_
      refine LW_ireturn (st := []) rfl rfl rfl ?_
      refine X_if_ne (tgt := 15) rfl rfl rfl (fun q => absurd q (by decide)) (fun _ => ?_)
      refine X_iconst (v := (0 : Int32)) rfl rfl rfl ?_
      refine LW_ireturn (st := []) rfl rfl rfl ⟨congrArg (fun z => some (Value.int z)) ?_, E⟩
      simp only [Int32.lt_iff_toInt_lt, Int32.le_iff_toInt_le, ← Int32.toInt_inj, (show (-1 : Int32).toInt = -1 from rfl), (show (0 : Int32).toInt = 0 from rfl)] at h1 h2
      unfold f_by
      repeat' split
      all_goals first | rfl | (exfalso; omega) | (refine Int32.toInt_inj.mp ?_; rw [show (0 : Int32).toInt = 0 from rfl]; omega)
    · refine X_iload_n rfl rfl rfl rfl ?_
      refine X_aload_n rfl rfl rfl rfl ?_
      refine X_getR (a := 1) rfl rfl rfl ((congrFun F.1 0).trans s_0) rfl ((congrFun (F.2.1 0 (by decide)) 0).trans r_0_0) ?_
      refine X_getI (v := (0 : Int32)) rfl rfl rfl ((congrFun F.1 1).trans s_1) rfl ((congrFun (F.2.2 1 (by decide)).1 5).trans i_1_5) ?_
      refine X_icmp_ge (tgt := 28) rfl rfl rfl (fun h3 => ?_) (fun h3 => ?_)
      · refine X_iconst (v := (0 : Int32)) rfl rfl rfl ?_
        refine LW_ireturn (st := []) rfl rfl rfl ?_
        refine X_if_ne (tgt := 15) rfl rfl rfl (fun q => absurd q (by decide)) (fun _ => ?_)
        refine X_iconst (v := (0 : Int32)) rfl rfl rfl ?_
        refine LW_ireturn (st := []) rfl rfl rfl ⟨congrArg (fun z => some (Value.int z)) ?_, E⟩
        simp only [Int32.lt_iff_toInt_lt, Int32.le_iff_toInt_le, ← Int32.toInt_inj, (show (-1 : Int32).toInt = -1 from rfl), (show (0 : Int32).toInt = 0 from rfl)] at h1 h2 h3
        unfold f_by
        repeat' split
        all_goals first | rfl | (exfalso; omega) | (refine Int32.toInt_inj.mp ?_; rw [show (0 : Int32).toInt = 0 from rfl]; omega)
      · exfalso
        simp only [Int32.lt_iff_toInt_lt, Int32.le_iff_toInt_le, ← Int32.toInt_inj, (show (-1 : Int32).toInt = -1 from rfl), (show (0 : Int32).toInt = 0 from rfl)] at h1 h2 h3
        omega
set_option maxRecDepth 10000 in
set_option maxHeartbeats 4000000 in
theorem r_by {g : LH} (F : Fr g) (a : Int32) : LW 237 30 0 0 0 (lEnt (mL 237) [.ref 355, .int a]) [] g (fun v _ => v = some (.int (f_by a))) := by
  refine LW_ls (ls' := [some (.ref 355), some (.int a)]) rfl ?_
  refine X_iload_n rfl rfl rfl rfl ?_
  refine X_iconst (v := (-1 : Int32)) rfl rfl rfl ?_
  refine X_aload_n rfl rfl rfl rfl ?_
  refine X_getR (a := 356) rfl rfl rfl ((congrFun F.1 355).trans s_355) rfl ((congrFun (F.2.1 355 (by decide)) 0).trans r_355_0) ?_
  refine X_iconst (v := (4 : Int32)) rfl rfl rfl ?_
  refine X_iald (v := (0 : Int32)) rfl rfl ((congrFun F.1 356).trans s_356) (vp_in_d rfl) ((congrFun (F.2.2 356 (by decide)).1 4).trans i_356_4) ?_
  refine X_iconst (v := (1 : Int32)) rfl rfl rfl ?_
  refine X_isub (v := (-1 : Int32)) rfl rfl rfl ?_
  refine X_callS (as := [.int a, .int (-1 : Int32), .int (-1 : Int32)]) (st := []) rfl rfl rfl (by decide) rfl (Nat.le_of_ble_eq_true rfl) (by decide) (Nat.le_of_ble_eq_true rfl) rfl ?_
  refine LW_ls (ls' := [some (.int a), some (.int (-1 : Int32)), some (.int (-1 : Int32))]) rfl ?_
  refine X_iload_n rfl rfl rfl rfl ?_
  refine X_iload_n rfl rfl rfl rfl ?_
  refine X_icmp_lt (tgt := 14) rfl rfl rfl (fun h1 => ?_) (fun h1 => ?_)
  · refine X_iconst (v := (0 : Int32)) rfl rfl rfl ?_
    refine LW_ireturn (st := []) rfl rfl rfl ?_
    refine X_if_ne (tgt := 18) rfl rfl rfl (fun q => absurd q (by decide)) (fun _ => ?_)
    refine X_iconst (v := (0 : Int32)) rfl rfl rfl ?_
    refine LW_ireturn (st := []) rfl rfl rfl (congrArg (fun z => some (Value.int z)) ?_)
    simp only [Int32.lt_iff_toInt_lt, Int32.le_iff_toInt_le, ← Int32.toInt_inj, (show (-1 : Int32).toInt = -1 from rfl)] at h1
    unfold f_by
    repeat' split
    all_goals first | rfl | (exfalso; omega) | (refine Int32.toInt_inj.mp ?_; rw [show (0 : Int32).toInt = 0 from rfl]; omega)
  · refine X_iload_n rfl rfl rfl rfl ?_
    refine X_iload_n rfl rfl rfl rfl ?_
    refine X_icmp_gt (tgt := 14) rfl rfl rfl (fun h2 => ?_) (fun h2 => ?_)
    · refine X_iconst (v := (0 : Int32)) rfl rfl rfl ?_
      refine LW_ireturn (st := []) rfl rfl rfl ?_
      refine X_if_ne (tgt := 18) rfl rfl rfl (fun q => absurd q (by decide)) (fun _ => ?_)
      refine X_iconst (v := (0 : Int32)) rfl rfl rfl ?_
      refine LW_ireturn (st := []) rfl rfl rfl (congrArg (fun z => some (Value.int z)) ?_)
      simp only [Int32.lt_iff_toInt_lt, Int32.le_iff_toInt_le, ← Int32.toInt_inj, (show (-1 : Int32).toInt = -1 from rfl)] at h1 h2
      unfold f_by
      repeat' split
      all_goals first | rfl | (exfalso; omega) | (refine Int32.toInt_inj.mp ?_; rw [show (0 : Int32).toInt = 0 from rfl]; omega)
    · refine X_iconst (v := (1 : Int32)) rfl rfl rfl ?_
      refine LW_goto (tgt := 15) rfl rfl ?_
      refine LW_ireturn (st := []) rfl rfl rfl ?_
      refine X_if_ne (tgt := 18) rfl rfl rfl (fun _ => ?_) (fun q => absurd q (by decide))
      refine X_aload_n rfl rfl rfl rfl ?_
      refine X_getR (a := 356) rfl rfl rfl ((congrFun F.1 355).trans s_355) rfl ((congrFun (F.2.1 355 (by decide)) 0).trans r_355_0) ?_
      refine X_iconst (v := (5 : Int32)) rfl rfl rfl ?_
      refine X_iload_n rfl rfl rfl rfl ?_
      refine X_iast (k0 := 5) rfl rfl ((congrFun F.1 356).trans s_356) (vp_in_d rfl) rfl ?_
      refine X_iconst (v := (1 : Int32)) rfl rfl rfl ?_
      refine LW_ireturn (st := []) rfl rfl rfl (congrArg (fun z => some (Value.int z)) ?_)
      simp only [Int32.lt_iff_toInt_lt, Int32.le_iff_toInt_le, ← Int32.toInt_inj, (show (-1 : Int32).toInt = -1 from rfl)] at h1 h2
      unfold f_by
      repeat' split
      all_goals first | rfl | (exfalso; omega) | (refine Int32.toInt_inj.mp ?_; rw [show (0 : Int32).toInt = 0 from rfl]; omega)
set_option maxRecDepth 10000 in
set_option maxHeartbeats 4000000 in
theorem c_contract {g : LH} (F : Fc g) (E : Fr g) (a : Int32) : LW 139 30 0 0 0 (lEnt (mL 139) [.ref 0, .int a]) [] g (fun v g' => v = some (.int (f_contract a)) ∧ Fr g') := by
  refine LW_ls (ls' := [some (.ref 0), some (.int a)]) rfl ?_
  refine X_aload_n rfl rfl rfl rfl ?_
  refine X_getR (a := 342) rfl rfl rfl ((congrFun F.1 0).trans s_0) rfl ((congrFun (F.2.1 0 (by decide)) 6).trans r_0_6) ?_
  refine X_iload_n rfl rfl rfl rfl ?_
  refine X_callV (as := [.int a]) (st := []) rfl rfl rfl (by decide) rfl (Nat.le_of_ble_eq_true rfl) (by decide) (Nat.le_of_ble_eq_true rfl) rfl ((congrFun F.1 342).trans s_342) (by decide) ?_
  refine LW_ls (ls' := [some (.ref 342), some (.int a), none, none, none, none, none]) rfl ?_
  refine X_aload_n rfl rfl rfl rfl ?_
  refine X_getR (a := 1) rfl rfl rfl ((congrFun F.1 342).trans s_342) rfl ((congrFun (F.2.1 342 (by decide)) 0).trans r_342_0) ?_
  refine X_getR (a := 2) rfl rfl rfl ((congrFun F.1 1).trans s_1) rfl ((congrFun (F.2.1 1 (by decide)) 0).trans r_1_0) ?_
  refine X_astore_n (i := 2) (ls' := [some (.ref 342), some (.int a), some (.ref 2), none, none, none, none]) rfl rfl rfl (Nat.le_of_ble_eq_true rfl) rfl ?_
  refine X_aload_n rfl rfl rfl rfl ?_
  refine X_getR (a := 1) rfl rfl rfl ((congrFun F.1 342).trans s_342) rfl ((congrFun (F.2.1 342 (by decide)) 0).trans r_342_0) ?_
  refine X_getR (a := 136) rfl rfl rfl ((congrFun F.1 1).trans s_1) rfl ((congrFun (F.2.1 1 (by decide)) 3).trans r_1_3) ?_
  refine X_astore_n (i := 3) (ls' := [some (.ref 342), some (.int a), some (.ref 2), some (.ref 136), none, none, none]) rfl rfl rfl (Nat.le_of_ble_eq_true rfl) rfl ?_
  refine X_aload_n rfl rfl rfl rfl ?_
  refine X_getR (a := 10) rfl rfl rfl ((congrFun F.1 342).trans s_342) rfl ((congrFun (F.2.1 342 (by decide)) 1).trans r_342_1) ?_
  refine X_getI (v := (0 : Int32)) rfl rfl rfl ((congrFun F.1 10).trans s_10) rfl ((congrFun (F.2.2 10 (by decide)).1 3).trans i_10_3) ?_
  refine X_istore (i := 4) (ls' := [some (.ref 342), some (.int a), some (.ref 2), some (.ref 136), some (.int (0 : Int32)), none, none]) rfl rfl (Nat.le_of_ble_eq_true rfl) rfl ?_
  refine X_aload_n rfl rfl rfl rfl ?_
  refine X_getR (a := 10) rfl rfl rfl ((congrFun F.1 342).trans s_342) rfl ((congrFun (F.2.1 342 (by decide)) 1).trans r_342_1) ?_
  refine X_callV (as := []) (st := []) rfl rfl rfl (by decide) rfl (Nat.le_of_ble_eq_true rfl) (by decide) (Nat.le_of_ble_eq_true rfl) rfl ((congrFun F.1 10).trans s_10) (by decide) ?_
  refine LW_ls (ls' := [some (.ref 10), none, none]) rfl ?_
  refine X_aload_n rfl rfl rfl rfl ?_
  refine X_getI (v := (0 : Int32)) rfl rfl rfl ((congrFun F.1 10).trans s_10) rfl ((congrFun (F.2.2 10 (by decide)).1 0).trans i_10_0) ?_
  refine X_istore_n (i := 1) (ls' := [some (.ref 10), some (.int (0 : Int32)), none]) rfl rfl rfl (Nat.le_of_ble_eq_true rfl) rfl ?_
  refine X_iconst (v := (0 : Int32)) rfl rfl rfl ?_
  refine X_istore_n (i := 2) (ls' := [some (.ref 10), some (.int (0 : Int32)), some (.int (0 : Int32))]) rfl rfl rfl (Nat.le_of_ble_eq_true rfl) rfl ?_
  refine X_iload_n rfl rfl rfl rfl ?_
  refine X_bipush (v := (26 : Int32)) rfl rfl rfl ?_
  refine X_icmp_ge (tgt := 37) rfl rfl rfl (fun q => absurd q (by decide)) (fun _ => ?_)
  refine X_aload_n rfl rfl rfl rfl ?_
  refine X_getR (a := 13) rfl rfl rfl ((congrFun F.1 10).trans s_10) rfl ((congrFun (F.2.1 10 (by decide)) 6).trans r_10_6) ?_
  refine X_iload_n rfl rfl rfl rfl ?_
  refine X_iald (v := (-1 : Int32)) rfl rfl ((congrFun F.1 13).trans s_13) (vp_in_d rfl) ((congrFun (F.2.2 13 (by decide)).1 0).trans i_13_0) ?_
  refine X_iconst (v := (-1 : Int32)) rfl rfl rfl ?_
  refine X_icmp_eq (tgt := 31) rfl rfl rfl (fun _ => ?_) (fun q => absurd q (by decide))
  refine X_iinc (v := (1 : Int32)) (ls' := [some (.ref 10), some (.int (0 : Int32)), some (.int (1 : Int32))]) rfl rfl rfl rfl rfl ?_
  refine LW_goto (tgt := 7) rfl rfl ?_
  refine X_iload_n rfl rfl rfl rfl ?_
  refine X_bipush (v := (26 : Int32)) rfl rfl rfl ?_
  refine X_icmp_ge (tgt := 37) rfl rfl rfl (fun q => absurd q (by decide)) (fun _ => ?_)
  refine X_aload_n rfl rfl rfl rfl ?_
  refine X_getR (a := 13) rfl rfl rfl ((congrFun F.1 10).trans s_10) rfl ((congrFun (F.2.1 10 (by decide)) 6).trans r_10_6) ?_
  refine X_iload_n rfl rfl rfl rfl ?_
  refine X_iald (v := (-1 : Int32)) rfl rfl ((congrFun F.1 13).trans s_13) (vp_in_d rfl) ((congrFun (F.2.2 13 (by decide)).1 1).trans i_13_1) ?_
  refine X_iconst (v := (-1 : Int32)) rfl rfl rfl ?_
  refine X_icmp_eq (tgt := 31) rfl rfl rfl (fun _ => ?_) (fun q => absurd q (by decide))
  refine X_iinc (v := (2 : Int32)) (ls' := [some (.ref 10), some (.int (0 : Int32)), some (.int (2 : Int32))]) rfl rfl rfl rfl rfl ?_
  refine LW_goto (tgt := 7) rfl rfl ?_
  refine X_iload_n rfl rfl rfl rfl ?_
  refine X_bipush (v := (26 : Int32)) rfl rfl rfl ?_
  refine X_icmp_ge (tgt := 37) rfl rfl rfl (fun q => absurd q (by decide)) (fun _ => ?_)
  refine X_aload_n rfl rfl rfl rfl ?_
  refine X_getR (a := 13) rfl rfl rfl ((congrFun F.1 10).trans s_10) rfl ((congrFun (F.2.1 10 (by decide)) 6).trans r_10_6) ?_
  refine X_iload_n rfl rfl rfl rfl ?_
  refine X_iald (v := (-1 : Int32)) rfl rfl ((congrFun F.1 13).trans s_13) (vp_in_d rfl) ((congrFun (F.2.2 13 (by decide)).1 2).trans i_13_2) ?_
  refine X_iconst (v := (-1 : Int32)) rfl rfl rfl ?_
  refine X_icmp_eq (tgt := 31) rfl rfl rfl (fun _ => ?_) (fun q => absurd q (by decide))
  refine X_iinc (v := (3 : Int32)) (ls' := [some (.ref 10), some (.int (0 : Int32)), some (.int (3 : Int32))]) rfl rfl rfl rfl rfl ?_
  refine LW_goto (tgt := 7) rfl rfl ?_
  refine X_iload_n rfl rfl rfl rfl ?_
  refine X_bipush (v := (26 : Int32)) rfl rfl rfl ?_
  refine X_icmp_ge (tgt := 37) rfl rfl rfl (fun q => absurd q (by decide)) (fun _ => ?_)
  refine X_aload_n rfl rfl rfl rfl ?_
  refine X_getR (a := 13) rfl rfl rfl ((congrFun F.1 10).trans s_10) rfl ((congrFun (F.2.1 10 (by decide)) 6).trans r_10_6) ?_
  refine X_iload_n rfl rfl rfl rfl ?_
  refine X_iald (v := (-1 : Int32)) rfl rfl ((congrFun F.1 13).trans s_13) (vp_in_d rfl) ((congrFun (F.2.2 13 (by decide)).1 3).trans i_13_3) ?_
  refine X_iconst (v := (-1 : Int32)) rfl rfl rfl ?_
  refine X_icmp_eq (tgt := 31) rfl rfl rfl (fun _ => ?_) (fun q => absurd q (by decide))
  refine X_iinc (v := (4 : Int32)) (ls' := [some (.ref 10), some (.int (0 : Int32)), some (.int (4 : Int32))]) rfl rfl rfl rfl rfl ?_
  refine LW_goto (tgt := 7) rfl rfl ?_
  refine X_iload_n rfl rfl rfl rfl ?_
  refine X_bipush (v := (26 : Int32)) rfl rfl rfl ?_
  refine X_icmp_ge (tgt := 37) rfl rfl rfl (fun q => absurd q (by decide)) (fun _ => ?_)
  refine X_aload_n rfl rfl rfl rfl ?_
  refine X_getR (a := 13) rfl rfl rfl ((congrFun F.1 10).trans s_10) rfl ((congrFun (F.2.1 10 (by decide)) 6).trans r_10_6) ?_
  refine X_iload_n rfl rfl rfl rfl ?_
  refine X_iald (v := (-1 : Int32)) rfl rfl ((congrFun F.1 13).trans s_13) (vp_in_d rfl) ((congrFun (F.2.2 13 (by decide)).1 4).trans i_13_4) ?_
  refine X_iconst (v := (-1 : Int32)) rfl rfl rfl ?_
  refine X_icmp_eq (tgt := 31) rfl rfl rfl (fun _ => ?_) (fun q => absurd q (by decide))
  refine X_iinc (v := (5 : Int32)) (ls' := [some (.ref 10), some (.int (0 : Int32)), some (.int (5 : Int32))]) rfl rfl rfl rfl rfl ?_
  refine LW_goto (tgt := 7) rfl rfl ?_
  refine X_iload_n rfl rfl rfl rfl ?_
  refine X_bipush (v := (26 : Int32)) rfl rfl rfl ?_
  refine X_icmp_ge (tgt := 37) rfl rfl rfl (fun q => absurd q (by decide)) (fun _ => ?_)
  refine X_aload_n rfl rfl rfl rfl ?_
  refine X_getR (a := 13) rfl rfl rfl ((congrFun F.1 10).trans s_10) rfl ((congrFun (F.2.1 10 (by decide)) 6).trans r_10_6) ?_
  refine X_iload_n rfl rfl rfl rfl ?_
  refine X_iald (v := (-1 : Int32)) rfl rfl ((congrFun F.1 13).trans s_13) (vp_in_d rfl) ((congrFun (F.2.2 13 (by decide)).1 5).trans i_13_5) ?_
  refine X_iconst (v := (-1 : Int32)) rfl rfl rfl ?_
  refine X_icmp_eq (tgt := 31) rfl rfl rfl (fun _ => ?_) (fun q => absurd q (by decide))
  refine X_iinc (v := (6 : Int32)) (ls' := [some (.ref 10), some (.int (0 : Int32)), some (.int (6 : Int32))]) rfl rfl rfl rfl rfl ?_
  refine LW_goto (tgt := 7) rfl rfl ?_
  refine X_iload_n rfl rfl rfl rfl ?_
  refine X_bipush (v := (26 : Int32)) rfl rfl rfl ?_
  refine X_icmp_ge (tgt := 37) rfl rfl rfl (fun q => absurd q (by decide)) (fun _ => ?_)
  refine X_aload_n rfl rfl rfl rfl ?_
  refine X_getR (a := 13) rfl rfl rfl ((congrFun F.1 10).trans s_10) rfl ((congrFun (F.2.1 10 (by decide)) 6).trans r_10_6) ?_
  refine X_iload_n rfl rfl rfl rfl ?_
  refine X_iald (v := (-1 : Int32)) rfl rfl ((congrFun F.1 13).trans s_13) (vp_in_d rfl) ((congrFun (F.2.2 13 (by decide)).1 6).trans i_13_6) ?_
  refine X_iconst (v := (-1 : Int32)) rfl rfl rfl ?_
  refine X_icmp_eq (tgt := 31) rfl rfl rfl (fun _ => ?_) (fun q => absurd q (by decide))
  refine X_iinc (v := (7 : Int32)) (ls' := [some (.ref 10), some (.int (0 : Int32)), some (.int (7 : Int32))]) rfl rfl rfl rfl rfl ?_
  refine LW_goto (tgt := 7) rfl rfl ?_
  refine X_iload_n rfl rfl rfl rfl ?_
  refine X_bipush (v := (26 : Int32)) rfl rfl rfl ?_
  refine X_icmp_ge (tgt := 37) rfl rfl rfl (fun q => absurd q (by decide)) (fun _ => ?_)
  refine X_aload_n rfl rfl rfl rfl ?_
  refine X_getR (a := 13) rfl rfl rfl ((congrFun F.1 10).trans s_10) rfl ((congrFun (F.2.1 10 (by decide)) 6).trans r_10_6) ?_
  refine X_iload_n rfl rfl rfl rfl ?_
  refine X_iald (v := (-1 : Int32)) rfl rfl ((congrFun F.1 13).trans s_13) (vp_in_d rfl) ((congrFun (F.2.2 13 (by decide)).1 7).trans i_13_7) ?_
  refine X_iconst (v := (-1 : Int32)) rfl rfl rfl ?_
  refine X_icmp_eq (tgt := 31) rfl rfl rfl (fun _ => ?_) (fun q => absurd q (by decide))
  refine X_iinc (v := (8 : Int32)) (ls' := [some (.ref 10), some (.int (0 : Int32)), some (.int (8 : Int32))]) rfl rfl rfl rfl rfl ?_
  refine LW_goto (tgt := 7) rfl rfl ?_
  refine X_iload_n rfl rfl rfl rfl ?_
  refine X_bipush (v := (26 : Int32)) rfl rfl rfl ?_
  refine X_icmp_ge (tgt := 37) rfl rfl rfl (fun q => absurd q (by decide)) (fun _ => ?_)
  refine X_aload_n rfl rfl rfl rfl ?_
  refine X_getR (a := 13) rfl rfl rfl ((congrFun F.1 10).trans s_10) rfl ((congrFun (F.2.1 10 (by decide)) 6).trans r_10_6) ?_
  refine X_iload_n rfl rfl rfl rfl ?_
  refine X_iald (v := (-1 : Int32)) rfl rfl ((congrFun F.1 13).trans s_13) (vp_in_d rfl) ((congrFun (F.2.2 13 (by decide)).1 8).trans i_13_8) ?_
  refine X_iconst (v := (-1 : Int32)) rfl rfl rfl ?_
  refine X_icmp_eq (tgt := 31) rfl rfl rfl (fun _ => ?_) (fun q => absurd q (by decide))
  refine X_iinc (v := (9 : Int32)) (ls' := [some (.ref 10), some (.int (0 : Int32)), some (.int (9 : Int32))]) rfl rfl rfl rfl rfl ?_
  refine LW_goto (tgt := 7) rfl rfl ?_
  refine X_iload_n rfl rfl rfl rfl ?_
  refine X_bipush (v := (26 : Int32)) rfl rfl rfl ?_
  refine X_icmp_ge (tgt := 37) rfl rfl rfl (fun q => absurd q (by decide)) (fun _ => ?_)
  refine X_aload_n rfl rfl rfl rfl ?_
  refine X_getR (a := 13) rfl rfl rfl ((congrFun F.1 10).trans s_10) rfl ((congrFun (F.2.1 10 (by decide)) 6).trans r_10_6) ?_
  refine X_iload_n rfl rfl rfl rfl ?_
  refine X_iald (v := (-1 : Int32)) rfl rfl ((congrFun F.1 13).trans s_13) (vp_in_d rfl) ((congrFun (F.2.2 13 (by decide)).1 9).trans i_13_9) ?_
  refine X_iconst (v := (-1 : Int32)) rfl rfl rfl ?_
  refine X_icmp_eq (tgt := 31) rfl rfl rfl (fun _ => ?_) (fun q => absurd q (by decide))
  refine X_iinc (v := (10 : Int32)) (ls' := [some (.ref 10), some (.int (0 : Int32)), some (.int (10 : Int32))]) rfl rfl rfl rfl rfl ?_
  refine LW_goto (tgt := 7) rfl rfl ?_
  refine X_iload_n rfl rfl rfl rfl ?_
  refine X_bipush (v := (26 : Int32)) rfl rfl rfl ?_
  refine X_icmp_ge (tgt := 37) rfl rfl rfl (fun q => absurd q (by decide)) (fun _ => ?_)
  refine X_aload_n rfl rfl rfl rfl ?_
  refine X_getR (a := 13) rfl rfl rfl ((congrFun F.1 10).trans s_10) rfl ((congrFun (F.2.1 10 (by decide)) 6).trans r_10_6) ?_
  refine X_iload_n rfl rfl rfl rfl ?_
  refine X_iald (v := (-1 : Int32)) rfl rfl ((congrFun F.1 13).trans s_13) (vp_in_d rfl) ((congrFun (F.2.2 13 (by decide)).1 10).trans i_13_10) ?_
  refine X_iconst (v := (-1 : Int32)) rfl rfl rfl ?_
  refine X_icmp_eq (tgt := 31) rfl rfl rfl (fun _ => ?_) (fun q => absurd q (by decide))
  refine X_iinc (v := (11 : Int32)) (ls' := [some (.ref 10), some (.int (0 : Int32)), some (.int (11 : Int32))]) rfl rfl rfl rfl rfl ?_
  refine LW_goto (tgt := 7) rfl rfl ?_
  refine X_iload_n rfl rfl rfl rfl ?_
  refine X_bipush (v := (26 : Int32)) rfl rfl rfl ?_
  refine X_icmp_ge (tgt := 37) rfl rfl rfl (fun q => absurd q (by decide)) (fun _ => ?_)
  refine X_aload_n rfl rfl rfl rfl ?_
  refine X_getR (a := 13) rfl rfl rfl ((congrFun F.1 10).trans s_10) rfl ((congrFun (F.2.1 10 (by decide)) 6).trans r_10_6) ?_
  refine X_iload_n rfl rfl rfl rfl ?_
  refine X_iald (v := (-1 : Int32)) rfl rfl ((congrFun F.1 13).trans s_13) (vp_in_d rfl) ((congrFun (F.2.2 13 (by decide)).1 11).trans i_13_11) ?_
  refine X_iconst (v := (-1 : Int32)) rfl rfl rfl ?_
  refine X_icmp_eq (tgt := 31) rfl rfl rfl (fun _ => ?_) (fun q => absurd q (by decide))
  refine X_iinc (v := (12 : Int32)) (ls' := [some (.ref 10), some (.int (0 : Int32)), some (.int (12 : Int32))]) rfl rfl rfl rfl rfl ?_
  refine LW_goto (tgt := 7) rfl rfl ?_
  refine X_iload_n rfl rfl rfl rfl ?_
  refine X_bipush (v := (26 : Int32)) rfl rfl rfl ?_
  refine X_icmp_ge (tgt := 37) rfl rfl rfl (fun q => absurd q (by decide)) (fun _ => ?_)
  refine X_aload_n rfl rfl rfl rfl ?_
  refine X_getR (a := 13) rfl rfl rfl ((congrFun F.1 10).trans s_10) rfl ((congrFun (F.2.1 10 (by decide)) 6).trans r_10_6) ?_
  refine X_iload_n rfl rfl rfl rfl ?_
  refine X_iald (v := (-1 : Int32)) rfl rfl ((congrFun F.1 13).trans s_13) (vp_in_d rfl) ((congrFun (F.2.2 13 (by decide)).1 12).trans i_13_12) ?_
  refine X_iconst (v := (-1 : Int32)) rfl rfl rfl ?_
  refine X_icmp_eq (tgt := 31) rfl rfl rfl (fun _ => ?_) (fun q => absurd q (by decide))
  refine X_iinc (v := (13 : Int32)) (ls' := [some (.ref 10), some (.int (0 : Int32)), some (.int (13 : Int32))]) rfl rfl rfl rfl rfl ?_
  refine LW_goto (tgt := 7) rfl rfl ?_
  refine X_iload_n rfl rfl rfl rfl ?_
  refine X_bipush (v := (26 : Int32)) rfl rfl rfl ?_
  refine X_icmp_ge (tgt := 37) rfl rfl rfl (fun q => absurd q (by decide)) (fun _ => ?_)
  refine X_aload_n rfl rfl rfl rfl ?_
  refine X_getR (a := 13) rfl rfl rfl ((congrFun F.1 10).trans s_10) rfl ((congrFun (F.2.1 10 (by decide)) 6).trans r_10_6) ?_
  refine X_iload_n rfl rfl rfl rfl ?_
  refine X_iald (v := (-1 : Int32)) rfl rfl ((congrFun F.1 13).trans s_13) (vp_in_d rfl) ((congrFun (F.2.2 13 (by decide)).1 13).trans i_13_13) ?_
  refine X_iconst (v := (-1 : Int32)) rfl rfl rfl ?_
  refine X_icmp_eq (tgt := 31) rfl rfl rfl (fun _ => ?_) (fun q => absurd q (by decide))
  refine X_iinc (v := (14 : Int32)) (ls' := [some (.ref 10), some (.int (0 : Int32)), some (.int (14 : Int32))]) rfl rfl rfl rfl rfl ?_
  refine LW_goto (tgt := 7) rfl rfl ?_
  refine X_iload_n rfl rfl rfl rfl ?_
  refine X_bipush (v := (26 : Int32)) rfl rfl rfl ?_
  refine X_icmp_ge (tgt := 37) rfl rfl rfl (fun q => absurd q (by decide)) (fun _ => ?_)
  refine X_aload_n rfl rfl rfl rfl ?_
  refine X_getR (a := 13) rfl rfl rfl ((congrFun F.1 10).trans s_10) rfl ((congrFun (F.2.1 10 (by decide)) 6).trans r_10_6) ?_
  refine X_iload_n rfl rfl rfl rfl ?_
  refine X_iald (v := (-1 : Int32)) rfl rfl ((congrFun F.1 13).trans s_13) (vp_in_d rfl) ((congrFun (F.2.2 13 (by decide)).1 14).trans i_13_14) ?_
  refine X_iconst (v := (-1 : Int32)) rfl rfl rfl ?_
  refine X_icmp_eq (tgt := 31) rfl rfl rfl (fun _ => ?_) (fun q => absurd q (by decide))
  refine X_iinc (v := (15 : Int32)) (ls' := [some (.ref 10), some (.int (0 : Int32)), some (.int (15 : Int32))]) rfl rfl rfl rfl rfl ?_
  refine LW_goto (tgt := 7) rfl rfl ?_
  refine X_iload_n rfl rfl rfl rfl ?_
  refine X_bipush (v := (26 : Int32)) rfl rfl rfl ?_
  refine X_icmp_ge (tgt := 37) rfl rfl rfl (fun q => absurd q (by decide)) (fun _ => ?_)
  refine X_aload_n rfl rfl rfl rfl ?_
  refine X_getR (a := 13) rfl rfl rfl ((congrFun F.1 10).trans s_10) rfl ((congrFun (F.2.1 10 (by decide)) 6).trans r_10_6) ?_
  refine X_iload_n rfl rfl rfl rfl ?_
  refine X_iald (v := (-1 : Int32)) rfl rfl ((congrFun F.1 13).trans s_13) (vp_in_d rfl) ((congrFun (F.2.2 13 (by decide)).1 15).trans i_13_15) ?_
  refine X_iconst (v := (-1 : Int32)) rfl rfl rfl ?_
  refine X_icmp_eq (tgt := 31) rfl rfl rfl (fun _ => ?_) (fun q => absurd q (by decide))
  refine X_iinc (v := (16 : Int32)) (ls' := [some (.ref 10), some (.int (0 : Int32)), some (.int (16 : Int32))]) rfl rfl rfl rfl rfl ?_
  refine LW_goto (tgt := 7) rfl rfl ?_
  refine X_iload_n rfl rfl rfl rfl ?_
  refine X_bipush (v := (26 : Int32)) rfl rfl rfl ?_
  refine X_icmp_ge (tgt := 37) rfl rfl rfl (fun q => absurd q (by decide)) (fun _ => ?_)
  refine X_aload_n rfl rfl rfl rfl ?_
  refine X_getR (a := 13) rfl rfl rfl ((congrFun F.1 10).trans s_10) rfl ((congrFun (F.2.1 10 (by decide)) 6).trans r_10_6) ?_
  refine X_iload_n rfl rfl rfl rfl ?_
  refine X_iald (v := (-1 : Int32)) rfl rfl ((congrFun F.1 13).trans s_13) (vp_in_d rfl) ((congrFun (F.2.2 13 (by decide)).1 16).trans i_13_16) ?_
  refine X_iconst (v := (-1 : Int32)) rfl rfl rfl ?_
  refine X_icmp_eq (tgt := 31) rfl rfl rfl (fun _ => ?_) (fun q => absurd q (by decide))
  refine X_iinc (v := (17 : Int32)) (ls' := [some (.ref 10), some (.int (0 : Int32)), some (.int (17 : Int32))]) rfl rfl rfl rfl rfl ?_
  refine LW_goto (tgt := 7) rfl rfl ?_
  refine X_iload_n rfl rfl rfl rfl ?_
  refine X_bipush (v := (26 : Int32)) rfl rfl rfl ?_
  refine X_icmp_ge (tgt := 37) rfl rfl rfl (fun q => absurd q (by decide)) (fun _ => ?_)
  refine X_aload_n rfl rfl rfl rfl ?_
  refine X_getR (a := 13) rfl rfl rfl ((congrFun F.1 10).trans s_10) rfl ((congrFun (F.2.1 10 (by decide)) 6).trans r_10_6) ?_
  refine X_iload_n rfl rfl rfl rfl ?_
  refine X_iald (v := (-1 : Int32)) rfl rfl ((congrFun F.1 13).trans s_13) (vp_in_d rfl) ((congrFun (F.2.2 13 (by decide)).1 17).trans i_13_17) ?_
  refine X_iconst (v := (-1 : Int32)) rfl rfl rfl ?_
  refine X_icmp_eq (tgt := 31) rfl rfl rfl (fun _ => ?_) (fun q => absurd q (by decide))
  refine X_iinc (v := (18 : Int32)) (ls' := [some (.ref 10), some (.int (0 : Int32)), some (.int (18 : Int32))]) rfl rfl rfl rfl rfl ?_
  refine LW_goto (tgt := 7) rfl rfl ?_
  refine X_iload_n rfl rfl rfl rfl ?_
  refine X_bipush (v := (26 : Int32)) rfl rfl rfl ?_
  refine X_icmp_ge (tgt := 37) rfl rfl rfl (fun q => absurd q (by decide)) (fun _ => ?_)
  refine X_aload_n rfl rfl rfl rfl ?_
  refine X_getR (a := 13) rfl rfl rfl ((congrFun F.1 10).trans s_10) rfl ((congrFun (F.2.1 10 (by decide)) 6).trans r_10_6) ?_
  refine X_iload_n rfl rfl rfl rfl ?_
  refine X_iald (v := (-1 : Int32)) rfl rfl ((congrFun F.1 13).trans s_13) (vp_in_d rfl) ((congrFun (F.2.2 13 (by decide)).1 18).trans i_13_18) ?_
  refine X_iconst (v := (-1 : Int32)) rfl rfl rfl ?_
  refine X_icmp_eq (tgt := 31) rfl rfl rfl (fun _ => ?_) (fun q => absurd q (by decide))
  refine X_iinc (v := (19 : Int32)) (ls' := [some (.ref 10), some (.int (0 : Int32)), some (.int (19 : Int32))]) rfl rfl rfl rfl rfl ?_
  refine LW_goto (tgt := 7) rfl rfl ?_
  refine X_iload_n rfl rfl rfl rfl ?_
  refine X_bipush (v := (26 : Int32)) rfl rfl rfl ?_
  refine X_icmp_ge (tgt := 37) rfl rfl rfl (fun q => absurd q (by decide)) (fun _ => ?_)
  refine X_aload_n rfl rfl rfl rfl ?_
  refine X_getR (a := 13) rfl rfl rfl ((congrFun F.1 10).trans s_10) rfl ((congrFun (F.2.1 10 (by decide)) 6).trans r_10_6) ?_
  refine X_iload_n rfl rfl rfl rfl ?_
  refine X_iald (v := (-1 : Int32)) rfl rfl ((congrFun F.1 13).trans s_13) (vp_in_d rfl) ((congrFun (F.2.2 13 (by decide)).1 19).trans i_13_19) ?_
  refine X_iconst (v := (-1 : Int32)) rfl rfl rfl ?_
  refine X_icmp_eq (tgt := 31) rfl rfl rfl (fun _ => ?_) (fun q => absurd q (by decide))
  refine X_iinc (v := (20 : Int32)) (ls' := [some (.ref 10), some (.int (0 : Int32)), some (.int (20 : Int32))]) rfl rfl rfl rfl rfl ?_
  refine LW_goto (tgt := 7) rfl rfl ?_
  refine X_iload_n rfl rfl rfl rfl ?_
  refine X_bipush (v := (26 : Int32)) rfl rfl rfl ?_
  refine X_icmp_ge (tgt := 37) rfl rfl rfl (fun q => absurd q (by decide)) (fun _ => ?_)
  refine X_aload_n rfl rfl rfl rfl ?_
  refine X_getR (a := 13) rfl rfl rfl ((congrFun F.1 10).trans s_10) rfl ((congrFun (F.2.1 10 (by decide)) 6).trans r_10_6) ?_
  refine X_iload_n rfl rfl rfl rfl ?_
  refine X_iald (v := (-1 : Int32)) rfl rfl ((congrFun F.1 13).trans s_13) (vp_in_d rfl) ((congrFun (F.2.2 13 (by decide)).1 20).trans i_13_20) ?_
  refine X_iconst (v := (-1 : Int32)) rfl rfl rfl ?_
  refine X_icmp_eq (tgt := 31) rfl rfl rfl (fun _ => ?_) (fun q => absurd q (by decide))
  refine X_iinc (v := (21 : Int32)) (ls' := [some (.ref 10), some (.int (0 : Int32)), some (.int (21 : Int32))]) rfl rfl rfl rfl rfl ?_
  refine LW_goto (tgt := 7) rfl rfl ?_
  refine X_iload_n rfl rfl rfl rfl ?_
  refine X_bipush (v := (26 : Int32)) rfl rfl rfl ?_
  refine X_icmp_ge (tgt := 37) rfl rfl rfl (fun q => absurd q (by decide)) (fun _ => ?_)
  refine X_aload_n rfl rfl rfl rfl ?_
  refine X_getR (a := 13) rfl rfl rfl ((congrFun F.1 10).trans s_10) rfl ((congrFun (F.2.1 10 (by decide)) 6).trans r_10_6) ?_
  refine X_iload_n rfl rfl rfl rfl ?_
  refine X_iald (v := (-1 : Int32)) rfl rfl ((congrFun F.1 13).trans s_13) (vp_in_d rfl) ((congrFun (F.2.2 13 (by decide)).1 21).trans i_13_21) ?_
  refine X_iconst (v := (-1 : Int32)) rfl rfl rfl ?_
  refine X_icmp_eq (tgt := 31) rfl rfl rfl (fun _ => ?_) (fun q => absurd q (by decide))
  refine X_iinc (v := (22 : Int32)) (ls' := [some (.ref 10), some (.int (0 : Int32)), some (.int (22 : Int32))]) rfl rfl rfl rfl rfl ?_
  refine LW_goto (tgt := 7) rfl rfl ?_
  refine X_iload_n rfl rfl rfl rfl ?_
  refine X_bipush (v := (26 : Int32)) rfl rfl rfl ?_
  refine X_icmp_ge (tgt := 37) rfl rfl rfl (fun q => absurd q (by decide)) (fun _ => ?_)
  refine X_aload_n rfl rfl rfl rfl ?_
  refine X_getR (a := 13) rfl rfl rfl ((congrFun F.1 10).trans s_10) rfl ((congrFun (F.2.1 10 (by decide)) 6).trans r_10_6) ?_
  refine X_iload_n rfl rfl rfl rfl ?_
  refine X_iald (v := (-1 : Int32)) rfl rfl ((congrFun F.1 13).trans s_13) (vp_in_d rfl) ((congrFun (F.2.2 13 (by decide)).1 22).trans i_13_22) ?_
  refine X_iconst (v := (-1 : Int32)) rfl rfl rfl ?_
  refine X_icmp_eq (tgt := 31) rfl rfl rfl (fun _ => ?_) (fun q => absurd q (by decide))
  refine X_iinc (v := (23 : Int32)) (ls' := [some (.ref 10), some (.int (0 : Int32)), some (.int (23 : Int32))]) rfl rfl rfl rfl rfl ?_
  refine LW_goto (tgt := 7) rfl rfl ?_
  refine X_iload_n rfl rfl rfl rfl ?_
  refine X_bipush (v := (26 : Int32)) rfl rfl rfl ?_
  refine X_icmp_ge (tgt := 37) rfl rfl rfl (fun q => absurd q (by decide)) (fun _ => ?_)
  refine X_aload_n rfl rfl rfl rfl ?_
  refine X_getR (a := 13) rfl rfl rfl ((congrFun F.1 10).trans s_10) rfl ((congrFun (F.2.1 10 (by decide)) 6).trans r_10_6) ?_
  refine X_iload_n rfl rfl rfl rfl ?_
  refine X_iald (v := (-1 : Int32)) rfl rfl ((congrFun F.1 13).trans s_13) (vp_in_d rfl) ((congrFun (F.2.2 13 (by decide)).1 23).trans i_13_23) ?_
  refine X_iconst (v := (-1 : Int32)) rfl rfl rfl ?_
  refine X_icmp_eq (tgt := 31) rfl rfl rfl (fun _ => ?_) (fun q => absurd q (by decide))
  refine X_iinc (v := (24 : Int32)) (ls' := [some (.ref 10), some (.int (0 : Int32)), some (.int (24 : Int32))]) rfl rfl rfl rfl rfl ?_
  refine LW_goto (tgt := 7) rfl rfl ?_
  refine X_iload_n rfl rfl rfl rfl ?_
  refine X_bipush (v := (26 : Int32)) rfl rfl rfl ?_
  refine X_icmp_ge (tgt := 37) rfl rfl rfl (fun q => absurd q (by decide)) (fun _ => ?_)
  refine X_aload_n rfl rfl rfl rfl ?_
  refine X_getR (a := 13) rfl rfl rfl ((congrFun F.1 10).trans s_10) rfl ((congrFun (F.2.1 10 (by decide)) 6).trans r_10_6) ?_
  refine X_iload_n rfl rfl rfl rfl ?_
  refine X_iald (v := (-1 : Int32)) rfl rfl ((congrFun F.1 13).trans s_13) (vp_in_d rfl) ((congrFun (F.2.2 13 (by decide)).1 24).trans i_13_24) ?_
  refine X_iconst (v := (-1 : Int32)) rfl rfl rfl ?_
  refine X_icmp_eq (tgt := 31) rfl rfl rfl (fun _ => ?_) (fun q => absurd q (by decide))
  refine X_iinc (v := (25 : Int32)) (ls' := [some (.ref 10), some (.int (0 : Int32)), some (.int (25 : Int32))]) rfl rfl rfl rfl rfl ?_
  refine LW_goto (tgt := 7) rfl rfl ?_
  refine X_iload_n rfl rfl rfl rfl ?_
  refine X_bipush (v := (26 : Int32)) rfl rfl rfl ?_
  refine X_icmp_ge (tgt := 37) rfl rfl rfl (fun q => absurd q (by decide)) (fun _ => ?_)
  refine X_aload_n rfl rfl rfl rfl ?_
  refine X_getR (a := 13) rfl rfl rfl ((congrFun F.1 10).trans s_10) rfl ((congrFun (F.2.1 10 (by decide)) 6).trans r_10_6) ?_
  refine X_iload_n rfl rfl rfl rfl ?_
  refine X_iald (v := (-1 : Int32)) rfl rfl ((congrFun F.1 13).trans s_13) (vp_in_d rfl) ((congrFun (F.2.2 13 (by decide)).1 25).trans i_13_25) ?_
  refine X_iconst (v := (-1 : Int32)) rfl rfl rfl ?_
  refine X_icmp_eq (tgt := 31) rfl rfl rfl (fun _ => ?_) (fun q => absurd q (by decide))
  refine X_iinc (v := (26 : Int32)) (ls' := [some (.ref 10), some (.int (0 : Int32)), some (.int (26 : Int32))]) rfl rfl rfl rfl rfl ?_
  refine LW_goto (tgt := 7) rfl rfl ?_
  refine X_iload_n rfl rfl rfl rfl ?_
  refine X_bipush (v := (26 : Int32)) rfl rfl rfl ?_
  refine X_icmp_ge (tgt := 37) rfl rfl rfl (fun _ => ?_) (fun q => absurd q (by decide))
  refine X_iload_n rfl rfl rfl rfl ?_
  refine LW_ireturn (st := []) rfl rfl rfl ?_
  refine X_istore (i := 5) (ls' := [some (.ref 342), some (.int a), some (.ref 2), some (.ref 136), some (.int (0 : Int32)), some (.int (0 : Int32)), none]) rfl rfl (Nat.le_of_ble_eq_true rfl) rfl ?_
  refine X_iload rfl rfl rfl ?_
  refine X_if_lt (tgt := 56) rfl rfl rfl (fun q => absurd q (by decide)) (fun _ => ?_)
  refine X_iload rfl rfl rfl ?_
  refine X_bipush (v := (10 : Int32)) rfl rfl rfl ?_
  refine X_icmp_ge (tgt := 56) rfl rfl rfl (fun q => absurd q (by decide)) (fun _ => ?_)
  refine X_aload_n rfl rfl rfl rfl ?_
  refine X_iload_n rfl rfl rfl rfl ?_
  refine X_iload rfl rfl rfl ?_
  refine X_callV (as := [.int a, .int (0 : Int32)]) (st := []) rfl rfl rfl (by decide) rfl (Nat.le_of_ble_eq_true rfl) (by decide) (Nat.le_of_ble_eq_true rfl) rfl ((congrFun F.1 2).trans s_2) (by decide) ?_
  refine LW_ls (ls' := [some (.ref 2), some (.int a), some (.int (0 : Int32))]) rfl ?_
  refine X_aload_n rfl rfl rfl rfl ?_
  refine X_iload_n rfl rfl rfl rfl ?_
  refine X_callV (as := [.int a]) (st := []) rfl rfl rfl (by decide) rfl (Nat.le_of_ble_eq_true rfl) (by decide) (Nat.le_of_ble_eq_true rfl) rfl ((congrFun F.1 2).trans s_2) (by decide) ?_
  refine LW_ls (ls' := [some (.ref 2), some (.int a)]) rfl ?_
  refine X_iload_n rfl rfl rfl rfl ?_
  refine X_if_lt (tgt := 22) rfl rfl rfl (fun h1 => ?_) (fun h1 => ?_)
  · refine X_iconst (v := (0 : Int32)) rfl rfl rfl ?_
    refine LW_ireturn (st := []) rfl rfl rfl ?_
    refine X_if_eq (tgt := 29) rfl rfl rfl (fun _ => ?_) (fun q => absurd q (by decide))
    refine X_iconst (v := (0 : Int32)) rfl rfl rfl ?_
    refine LW_ireturn (st := []) rfl rfl rfl ?_
    refine X_if_ne (tgt := 58) rfl rfl rfl (fun q => absurd q (by decide)) (fun _ => ?_)
    refine X_iconst (v := (-1 : Int32)) rfl rfl rfl ?_
    refine LW_ireturn (st := []) rfl rfl rfl ?_
    refine LW_ireturn (st := []) rfl rfl rfl ⟨congrArg (fun z => some (Value.int z)) ?_, E⟩
    simp only [Int32.lt_iff_toInt_lt, Int32.le_iff_toInt_le, ← Int32.toInt_inj, (show (0 : Int32).toInt = 0 from rfl)] at h1
    unfold f_contract
    repeat' split
    all_goals first | rfl | (exfalso; omega) | (refine Int32.toInt_inj.mp ?_; rw [show (0 : Int32).toInt = 0 from rfl]; omega)
  · refine X_iload_n rfl rfl rfl rfl ?_
    refine X_aload_n rfl rfl rfl rfl ?_
    refine X_getI (v := (0 : Int32)) rfl rfl rfl ((congrFun F.1 2).trans s_2) rfl ((congrFun (F.2.2 2 (by decide)).1 1).trans i_2_1) ?_
    refine X_icmp_ge (tgt := 22) rfl rfl rfl (fun h2 => ?_) (fun h2 => ?_)
    · refine X_iconst (v := (0 : Int32)) rfl rfl rfl ?_
      refine LW_ireturn (st := []) rfl rfl rfl ?_
      refine X_if_eq (tgt := 29) rfl rfl rfl (fun _ => ?_) (fun q => absurd q (by decide))
      refine X_iconst (v := (0 : Int32)) rfl rfl rfl ?_
      refine LW_ireturn (st := []) rfl rfl rfl ?_
      refine X_if_ne (tgt := 58) rfl rfl rfl (fun q => absurd q (by decide)) (fun _ => ?_)
      refine X_iconst (v := (-1 : Int32)) rfl rfl rfl ?_
      refine LW_ireturn (st := []) rfl rfl rfl ?_
      refine LW_ireturn (st := []) rfl rfl rfl ⟨congrArg (fun z => some (Value.int z)) ?_, E⟩
      simp only [Int32.lt_iff_toInt_lt, Int32.le_iff_toInt_le, ← Int32.toInt_inj, (show (0 : Int32).toInt = 0 from rfl)] at h1 h2
      unfold f_contract
      repeat' split
      all_goals first | rfl | (exfalso; omega) | (refine Int32.toInt_inj.mp ?_; rw [show (0 : Int32).toInt = 0 from rfl]; omega)
    · exfalso
      simp only [Int32.lt_iff_toInt_lt, Int32.le_iff_toInt_le, ← Int32.toInt_inj, (show (0 : Int32).toInt = 0 from rfl)] at h1 h2
      omega
set_option maxRecDepth 10000 in
set_option maxHeartbeats 4000000 in
theorem r_contract {g : LH} (F : Fr g) (a : Int32) : LW 258 30 0 0 0 (lEnt (mL 258) [.ref 355, .int a]) [] g (fun v _ => v = some (.int (f_contract a))) := by
  refine LW_ls (ls' := [some (.ref 355), some (.int a), none, none]) rfl ?_
  refine X_aload_n rfl rfl rfl rfl ?_
  refine X_iload_n rfl rfl rfl rfl ?_
  refine X_callV (as := [.int a]) (st := []) rfl rfl rfl (by decide) rfl (Nat.le_of_ble_eq_true rfl) (by decide) (Nat.le_of_ble_eq_true rfl) rfl ((congrFun F.1 355).trans s_355) (by decide) ?_
  refine LW_ls (ls' := [some (.ref 355), some (.int a)]) rfl ?_
  refine X_iload_n rfl rfl rfl rfl ?_
  refine X_iconst (v := (0 : Int32)) rfl rfl rfl ?_
  refine X_aload_n rfl rfl rfl rfl ?_
  refine X_getR (a := 356) rfl rfl rfl ((congrFun F.1 355).trans s_355) rfl ((congrFun (F.2.1 355 (by decide)) 0).trans r_355_0) ?_
  refine X_iconst (v := (1 : Int32)) rfl rfl rfl ?_
  refine X_iald (v := (0 : Int32)) rfl rfl ((congrFun F.1 356).trans s_356) (vp_in_d rfl) ((congrFun (F.2.2 356 (by decide)).1 1).trans i_356_1) ?_
  refine X_iconst (v := (1 : Int32)) rfl rfl rfl ?_
  refine X_isub (v := (-1 : Int32)) rfl rfl rfl ?_
  refine X_callS (as := [.int a, .int (0 : Int32), .int (-1 : Int32)]) (st := []) rfl rfl rfl (by decide) rfl (Nat.le_of_ble_eq_true rfl) (by decide) (Nat.le_of_ble_eq_true rfl) rfl ?_
  refine LW_ls (ls' := [some (.int a), some (.int (0 : Int32)), some (.int (-1 : Int32))]) rfl ?_
  refine X_iload_n rfl rfl rfl rfl ?_
  refine X_iload_n rfl rfl rfl rfl ?_
  refine X_icmp_lt (tgt := 14) rfl rfl rfl (fun h1 => ?_) (fun h1 => ?_)
  · refine X_iconst (v := (0 : Int32)) rfl rfl rfl ?_
    refine LW_ireturn (st := []) rfl rfl rfl ?_
    refine LW_ireturn (st := []) rfl rfl rfl ?_
    refine X_if_eq (tgt := 30) rfl rfl rfl (fun _ => ?_) (fun q => absurd q (by decide))
    refine X_iconst (v := (-1 : Int32)) rfl rfl rfl ?_
    refine LW_ireturn (st := []) rfl rfl rfl (congrArg (fun z => some (Value.int z)) ?_)
    simp only [Int32.lt_iff_toInt_lt, Int32.le_iff_toInt_le, ← Int32.toInt_inj, (show (0 : Int32).toInt = 0 from rfl)] at h1
    unfold f_contract
    repeat' split
    all_goals first | rfl | (exfalso; omega) | (refine Int32.toInt_inj.mp ?_; rw [show (0 : Int32).toInt = 0 from rfl]; omega)
  · refine X_iload_n rfl rfl rfl rfl ?_
    refine X_iload_n rfl rfl rfl rfl ?_
    refine X_icmp_gt (tgt := 14) rfl rfl rfl (fun h2 => ?_) (fun h2 => ?_)
    · refine X_iconst (v := (0 : Int32)) rfl rfl rfl ?_
      refine LW_ireturn (st := []) rfl rfl rfl ?_
      refine LW_ireturn (st := []) rfl rfl rfl ?_
      refine X_if_eq (tgt := 30) rfl rfl rfl (fun _ => ?_) (fun q => absurd q (by decide))
      refine X_iconst (v := (-1 : Int32)) rfl rfl rfl ?_
      refine LW_ireturn (st := []) rfl rfl rfl (congrArg (fun z => some (Value.int z)) ?_)
      simp only [Int32.lt_iff_toInt_lt, Int32.le_iff_toInt_le, ← Int32.toInt_inj, (show (-1 : Int32).toInt = -1 from rfl), (show (0 : Int32).toInt = 0 from rfl)] at h1 h2
      unfold f_contract
      repeat' split
      all_goals first | rfl | (exfalso; omega) | (refine Int32.toInt_inj.mp ?_; rw [show (0 : Int32).toInt = 0 from rfl]; omega)
    · exfalso
      simp only [Int32.lt_iff_toInt_lt, Int32.le_iff_toInt_le, ← Int32.toInt_inj, (show (-1 : Int32).toInt = -1 from rfl), (show (0 : Int32).toInt = 0 from rfl)] at h1 h2
      omega
set_option maxRecDepth 10000 in
set_option maxHeartbeats 4000000 in
theorem c_played {g : LH} (F : Fc g) (E : Fr g) (a : Int32) : LW 140 30 0 0 0 (lEnt (mL 140) [.ref 0, .int a]) [] g (fun v g' => v = some (.int (f_played a)) ∧ Fr g') := by
  refine LW_ls (ls' := [some (.ref 0), some (.int a)]) rfl ?_
  refine X_aload_n rfl rfl rfl rfl ?_
  refine X_iload_n rfl rfl rfl rfl ?_
  refine X_callV (as := [.int a]) (st := []) rfl rfl rfl (by decide) rfl (Nat.le_of_ble_eq_true rfl) (by decide) (Nat.le_of_ble_eq_true rfl) rfl ((congrFun F.1 0).trans s_0) (by decide) ?_
  refine LW_ls (ls' := [some (.ref 0), some (.int a)]) rfl ?_
  refine X_iload_n rfl rfl rfl rfl ?_
  refine X_if_lt (tgt := 28) rfl rfl rfl (fun h1 => ?_) (fun h1 => ?_)
  · refine X_iconst (v := (0 : Int32)) rfl rfl rfl ?_
    refine LW_ireturn (st := []) rfl rfl rfl ?_
    refine X_if_eq (tgt := 24) rfl rfl rfl (fun _ => ?_) (fun q => absurd q (by decide))
    refine X_bipush (v := (-2 : Int32)) rfl rfl rfl ?_
    refine LW_ireturn (st := []) rfl rfl rfl ⟨congrArg (fun z => some (Value.int z)) ?_, E⟩
    simp only [Int32.lt_iff_toInt_lt, Int32.le_iff_toInt_le, ← Int32.toInt_inj, (show (0 : Int32).toInt = 0 from rfl)] at h1
    unfold f_played
    repeat' split
    all_goals first | rfl | (exfalso; omega) | (refine Int32.toInt_inj.mp ?_; rw [show (0 : Int32).toInt = 0 from rfl]; omega)
  · refine X_iload_n rfl rfl rfl rfl ?_
    refine X_aload_n rfl rfl rfl rfl ?_
    refine X_getR (a := 1) rfl rfl rfl ((congrFun F.1 0).trans s_0) rfl ((congrFun (F.2.1 0 (by decide)) 0).trans r_0_0) ?_
    refine X_getI (v := (0 : Int32)) rfl rfl rfl ((congrFun F.1 1).trans s_1) rfl ((congrFun (F.2.2 1 (by decide)).1 5).trans i_1_5) ?_
    refine X_icmp_ge (tgt := 28) rfl rfl rfl (fun h2 => ?_) (fun h2 => ?_)
    · refine X_iconst (v := (0 : Int32)) rfl rfl rfl ?_
      refine LW_ireturn (st := []) rfl rfl rfl ?_
      refine X_if_eq (tgt := 24) rfl rfl rfl (fun _ => ?_) (fun q => absurd q (by decide))
      refine X_bipush (v := (-2 : Int32)) rfl rfl rfl ?_
      refine LW_ireturn (st := []) rfl rfl rfl ⟨congrArg (fun z => some (Value.int z)) ?_, E⟩
      simp only [Int32.lt_iff_toInt_lt, Int32.le_iff_toInt_le, ← Int32.toInt_inj, (show (0 : Int32).toInt = 0 from rfl)] at h1 h2
      unfold f_played
      repeat' split
      all_goals first | rfl | (exfalso; omega) | (refine Int32.toInt_inj.mp ?_; rw [show (0 : Int32).toInt = 0 from rfl]; omega)
    · exfalso
      simp only [Int32.lt_iff_toInt_lt, Int32.le_iff_toInt_le, ← Int32.toInt_inj, (show (0 : Int32).toInt = 0 from rfl)] at h1 h2
      omega
set_option maxRecDepth 10000 in
set_option maxHeartbeats 4000000 in
theorem r_played {g : LH} (F : Fr g) (a : Int32) : LW 266 30 0 0 0 (lEnt (mL 266) [.ref 355, .int a]) [] g (fun v _ => v = some (.int (f_played a))) := by
  refine LW_ls (ls' := [some (.ref 355), some (.int a), none]) rfl ?_
  refine X_iload_n rfl rfl rfl rfl ?_
  refine X_iconst (v := (0 : Int32)) rfl rfl rfl ?_
  refine X_aload_n rfl rfl rfl rfl ?_
  refine X_getR (a := 356) rfl rfl rfl ((congrFun F.1 355).trans s_355) rfl ((congrFun (F.2.1 355 (by decide)) 0).trans r_355_0) ?_
  refine X_iconst (v := (4 : Int32)) rfl rfl rfl ?_
  refine X_iald (v := (0 : Int32)) rfl rfl ((congrFun F.1 356).trans s_356) (vp_in_d rfl) ((congrFun (F.2.2 356 (by decide)).1 4).trans i_356_4) ?_
  refine X_iconst (v := (1 : Int32)) rfl rfl rfl ?_
  refine X_isub (v := (-1 : Int32)) rfl rfl rfl ?_
  refine X_callS (as := [.int a, .int (0 : Int32), .int (-1 : Int32)]) (st := []) rfl rfl rfl (by decide) rfl (Nat.le_of_ble_eq_true rfl) (by decide) (Nat.le_of_ble_eq_true rfl) rfl ?_
  refine LW_ls (ls' := [some (.int a), some (.int (0 : Int32)), some (.int (-1 : Int32))]) rfl ?_
  refine X_iload_n rfl rfl rfl rfl ?_
  refine X_iload_n rfl rfl rfl rfl ?_
  refine X_icmp_lt (tgt := 14) rfl rfl rfl (fun h1 => ?_) (fun h1 => ?_)
  · refine X_iconst (v := (0 : Int32)) rfl rfl rfl ?_
    refine LW_ireturn (st := []) rfl rfl rfl ?_
    refine X_if_ne (tgt := 19) rfl rfl rfl (fun q => absurd q (by decide)) (fun _ => ?_)
    refine X_bipush (v := (-2 : Int32)) rfl rfl rfl ?_
    refine LW_ireturn (st := []) rfl rfl rfl (congrArg (fun z => some (Value.int z)) ?_)
    simp only [Int32.lt_iff_toInt_lt, Int32.le_iff_toInt_le, ← Int32.toInt_inj, (show (0 : Int32).toInt = 0 from rfl)] at h1
    unfold f_played
    repeat' split
    all_goals first | rfl | (exfalso; omega) | (refine Int32.toInt_inj.mp ?_; rw [show (0 : Int32).toInt = 0 from rfl]; omega)
  · refine X_iload_n rfl rfl rfl rfl ?_
    refine X_iload_n rfl rfl rfl rfl ?_
    refine X_icmp_gt (tgt := 14) rfl rfl rfl (fun h2 => ?_) (fun h2 => ?_)
    · refine X_iconst (v := (0 : Int32)) rfl rfl rfl ?_
      refine LW_ireturn (st := []) rfl rfl rfl ?_
      refine X_if_ne (tgt := 19) rfl rfl rfl (fun q => absurd q (by decide)) (fun _ => ?_)
      refine X_bipush (v := (-2 : Int32)) rfl rfl rfl ?_
      refine LW_ireturn (st := []) rfl rfl rfl (congrArg (fun z => some (Value.int z)) ?_)
      simp only [Int32.lt_iff_toInt_lt, Int32.le_iff_toInt_le, ← Int32.toInt_inj, (show (-1 : Int32).toInt = -1 from rfl), (show (0 : Int32).toInt = 0 from rfl)] at h1 h2
      unfold f_played
      repeat' split
      all_goals first | rfl | (exfalso; omega) | (refine Int32.toInt_inj.mp ?_; rw [show (0 : Int32).toInt = 0 from rfl]; omega)
    · exfalso
      simp only [Int32.lt_iff_toInt_lt, Int32.le_iff_toInt_le, ← Int32.toInt_inj, (show (-1 : Int32).toInt = -1 from rfl), (show (0 : Int32).toInt = 0 from rfl)] at h1 h2
      omega
set_option maxRecDepth 10000 in
set_option maxHeartbeats 4000000 in
theorem c_undo {g : LH} (F : Fc g) (E : Fr g) : LW 142 30 0 0 0 (lEnt (mL 142) [.ref 0]) [] g (fun v g' => v = some (.int (f_undo)) ∧ Fr g') := by
  refine LW_ls (ls' := [some (.ref 0)]) rfl ?_
  refine X_aload_n rfl rfl rfl rfl ?_
  refine X_getR (a := 1) rfl rfl rfl ((congrFun F.1 0).trans s_0) rfl ((congrFun (F.2.1 0 (by decide)) 0).trans r_0_0) ?_
  refine X_getR (a := 14) rfl rfl rfl ((congrFun F.1 1).trans s_1) rfl ((congrFun (F.2.1 1 (by decide)) 2).trans r_1_2) ?_
  refine X_aload_n rfl rfl rfl rfl ?_
  refine X_getR (a := 1) rfl rfl rfl ((congrFun F.1 0).trans s_0) rfl ((congrFun (F.2.1 0 (by decide)) 0).trans r_0_0) ?_
  refine X_getR (a := 10) rfl rfl rfl ((congrFun F.1 1).trans s_1) rfl ((congrFun (F.2.1 1 (by decide)) 1).trans r_1_1) ?_
  refine X_callV (as := [.ref 10]) (st := []) rfl rfl rfl (by decide) rfl (Nat.le_of_ble_eq_true rfl) (by decide) (Nat.le_of_ble_eq_true rfl) rfl ((congrFun F.1 14).trans s_14) (by decide) ?_
  refine LW_ls (ls' := [some (.ref 14), some (.ref 10)]) rfl ?_
  refine X_aload_n rfl rfl rfl rfl ?_
  refine X_getI (v := (0 : Int32)) rfl rfl rfl ((congrFun F.1 14).trans s_14) rfl ((congrFun (F.2.2 14 (by decide)).1 0).trans i_14_0) ?_
  refine X_if_gt (tgt := 9) rfl rfl rfl (fun q => absurd q (by decide)) (fun _ => ?_)
  refine X_iconst (v := (0 : Int32)) rfl rfl rfl ?_
  refine LW_ireturn (st := []) rfl rfl rfl ?_
  refine X_if_eq (tgt := 33) rfl rfl rfl (fun _ => ?_) (fun q => absurd q (by decide))
  refine X_iconst (v := (-1 : Int32)) rfl rfl rfl ?_
  refine LW_ireturn (st := []) rfl rfl rfl ⟨congrArg (fun z => some (Value.int z)) ?_, E⟩
  unfold f_undo
  repeat' split
  all_goals first | rfl | (exfalso; omega) | (refine Int32.toInt_inj.mp ?_; rw [show (0 : Int32).toInt = 0 from rfl]; omega)
set_option maxRecDepth 10000 in
set_option maxHeartbeats 4000000 in
theorem r_undo {g : LH} (F : Fr g) : LW 246 30 0 0 0 (lEnt (mL 246) [.ref 355]) [] g (fun v _ => v = some (.int (f_undo))) := by
  refine LW_ls (ls' := [some (.ref 355), none, none]) rfl ?_
  refine X_aload_n rfl rfl rfl rfl ?_
  refine X_getR (a := 356) rfl rfl rfl ((congrFun F.1 355).trans s_355) rfl ((congrFun (F.2.1 355 (by decide)) 0).trans r_355_0) ?_
  refine X_bipush (v := (6 : Int32)) rfl rfl rfl ?_
  refine X_iald (v := (0 : Int32)) rfl rfl ((congrFun F.1 356).trans s_356) (vp_in_d rfl) ((congrFun (F.2.2 356 (by decide)).1 6).trans i_356_6) ?_
  refine X_if_ne (tgt := 12) rfl rfl rfl (fun q => absurd q (by decide)) (fun _ => ?_)
  refine X_iconst (v := (-1 : Int32)) rfl rfl rfl ?_
  refine LW_ireturn (st := []) rfl rfl rfl (congrArg (fun z => some (Value.int z)) ?_)
  unfold f_undo
  repeat' split
  all_goals first | rfl | (exfalso; omega) | (refine Int32.toInt_inj.mp ?_; rw [show (0 : Int32).toInt = 0 from rfl]; omega)
set_option maxRecDepth 10000 in
set_option maxHeartbeats 4000000 in
theorem c_ofWord {g : LH} (F : Fc g) (E : Fr g) (a : Int32) (b : Int32) : LW 144 30 0 0 0 (lEnt (mL 144) [.ref 0, .int a, .int b]) [] g (fun v g' => v = some (.int (f_ofWord a b)) ∧ Fr g') := by
  refine LW_ls (ls' := [some (.ref 0), some (.int a), some (.int b)]) rfl ?_
  refine X_aload_n rfl rfl rfl rfl ?_
  refine X_getR (a := 1) rfl rfl rfl ((congrFun F.1 0).trans s_0) rfl ((congrFun (F.2.1 0 (by decide)) 0).trans r_0_0) ?_
  refine X_getR (a := 2) rfl rfl rfl ((congrFun F.1 1).trans s_1) rfl ((congrFun (F.2.1 1 (by decide)) 0).trans r_1_0) ?_
  refine X_iload_n rfl rfl rfl rfl ?_
  refine X_callV (as := [.int a]) (st := []) rfl rfl rfl (by decide) rfl (Nat.le_of_ble_eq_true rfl) (by decide) (Nat.le_of_ble_eq_true rfl) rfl ((congrFun F.1 2).trans s_2) (by decide) ?_
  refine LW_ls (ls' := [some (.ref 2), some (.int a)]) rfl ?_
  refine X_iload_n rfl rfl rfl rfl ?_
  refine X_if_lt (tgt := 22) rfl rfl rfl (fun h1 => ?_) (fun h1 => ?_)
  · refine X_iconst (v := (0 : Int32)) rfl rfl rfl ?_
    refine LW_ireturn (st := []) rfl rfl rfl ?_
    refine X_if_ne (tgt := 16) rfl rfl rfl (fun q => absurd q (by decide)) (fun _ => ?_)
    refine X_iconst (v := (-1 : Int32)) rfl rfl rfl ?_
    refine LW_ireturn (st := []) rfl rfl rfl ⟨congrArg (fun z => some (Value.int z)) ?_, E⟩
    simp only [Int32.lt_iff_toInt_lt, Int32.le_iff_toInt_le, ← Int32.toInt_inj, (show (0 : Int32).toInt = 0 from rfl)] at h1
    unfold f_ofWord
    repeat' split
    all_goals first | rfl | (exfalso; omega) | (refine Int32.toInt_inj.mp ?_; rw [show (0 : Int32).toInt = 0 from rfl]; omega)
  · refine X_iload_n rfl rfl rfl rfl ?_
    refine X_aload_n rfl rfl rfl rfl ?_
    refine X_getI (v := (0 : Int32)) rfl rfl rfl ((congrFun F.1 2).trans s_2) rfl ((congrFun (F.2.2 2 (by decide)).1 0).trans i_2_0) ?_
    refine X_icmp_ge (tgt := 22) rfl rfl rfl (fun h2 => ?_) (fun h2 => ?_)
    · refine X_iconst (v := (0 : Int32)) rfl rfl rfl ?_
      refine LW_ireturn (st := []) rfl rfl rfl ?_
      refine X_if_ne (tgt := 16) rfl rfl rfl (fun q => absurd q (by decide)) (fun _ => ?_)
      refine X_iconst (v := (-1 : Int32)) rfl rfl rfl ?_
      refine LW_ireturn (st := []) rfl rfl rfl ⟨congrArg (fun z => some (Value.int z)) ?_, E⟩
      simp only [Int32.lt_iff_toInt_lt, Int32.le_iff_toInt_le, ← Int32.toInt_inj, (show (0 : Int32).toInt = 0 from rfl)] at h1 h2
      unfold f_ofWord
      repeat' split
      all_goals first | rfl | (exfalso; omega) | (refine Int32.toInt_inj.mp ?_; rw [show (0 : Int32).toInt = 0 from rfl]; omega)
    · exfalso
      simp only [Int32.lt_iff_toInt_lt, Int32.le_iff_toInt_le, ← Int32.toInt_inj, (show (0 : Int32).toInt = 0 from rfl)] at h1 h2
      omega
set_option maxRecDepth 10000 in
set_option maxHeartbeats 4000000 in
theorem r_ofWord {g : LH} (F : Fr g) (a : Int32) (b : Int32) : LW 271 30 0 0 0 (lEnt (mL 271) [.ref 355, .int a, .int b]) [] g (fun v _ => v = some (.int (f_ofWord a b))) := by
  refine LW_ls (ls' := [some (.ref 355), some (.int a), some (.int b)]) rfl ?_
  refine X_aload_n rfl rfl rfl rfl ?_
  refine X_iload_n rfl rfl rfl rfl ?_
  refine X_callV (as := [.int a]) (st := []) rfl rfl rfl (by decide) rfl (Nat.le_of_ble_eq_true rfl) (by decide) (Nat.le_of_ble_eq_true rfl) rfl ((congrFun F.1 355).trans s_355) (by decide) ?_
  refine LW_ls (ls' := [some (.ref 355), some (.int a)]) rfl ?_
  refine X_iload_n rfl rfl rfl rfl ?_
  refine X_iconst (v := (0 : Int32)) rfl rfl rfl ?_
  refine X_aload_n rfl rfl rfl rfl ?_
  refine X_getR (a := 356) rfl rfl rfl ((congrFun F.1 355).trans s_355) rfl ((congrFun (F.2.1 355 (by decide)) 0).trans r_355_0) ?_
  refine X_iconst (v := (0 : Int32)) rfl rfl rfl ?_
  refine X_iald (v := (0 : Int32)) rfl rfl ((congrFun F.1 356).trans s_356) (vp_in_d rfl) ((congrFun (F.2.2 356 (by decide)).1 0).trans i_356_0) ?_
  refine X_iconst (v := (1 : Int32)) rfl rfl rfl ?_
  refine X_isub (v := (-1 : Int32)) rfl rfl rfl ?_
  refine X_callS (as := [.int a, .int (0 : Int32), .int (-1 : Int32)]) (st := []) rfl rfl rfl (by decide) rfl (Nat.le_of_ble_eq_true rfl) (by decide) (Nat.le_of_ble_eq_true rfl) rfl ?_
  refine LW_ls (ls' := [some (.int a), some (.int (0 : Int32)), some (.int (-1 : Int32))]) rfl ?_
  refine X_iload_n rfl rfl rfl rfl ?_
  refine X_iload_n rfl rfl rfl rfl ?_
  refine X_icmp_lt (tgt := 14) rfl rfl rfl (fun h1 => ?_) (fun h1 => ?_)
  · refine X_iconst (v := (0 : Int32)) rfl rfl rfl ?_
    refine LW_ireturn (st := []) rfl rfl rfl ?_
    refine LW_ireturn (st := []) rfl rfl rfl ?_
    refine X_if_ne (tgt := 10) rfl rfl rfl (fun q => absurd q (by decide)) (fun _ => ?_)
    refine X_iconst (v := (-1 : Int32)) rfl rfl rfl ?_
    refine LW_ireturn (st := []) rfl rfl rfl (congrArg (fun z => some (Value.int z)) ?_)
    simp only [Int32.lt_iff_toInt_lt, Int32.le_iff_toInt_le, ← Int32.toInt_inj, (show (0 : Int32).toInt = 0 from rfl)] at h1
    unfold f_ofWord
    repeat' split
    all_goals first | rfl | (exfalso; omega) | (refine Int32.toInt_inj.mp ?_; rw [show (0 : Int32).toInt = 0 from rfl]; omega)
  · refine X_iload_n rfl rfl rfl rfl ?_
    refine X_iload_n rfl rfl rfl rfl ?_
    refine X_icmp_gt (tgt := 14) rfl rfl rfl (fun h2 => ?_) (fun h2 => ?_)
    · refine X_iconst (v := (0 : Int32)) rfl rfl rfl ?_
      refine LW_ireturn (st := []) rfl rfl rfl ?_
      refine LW_ireturn (st := []) rfl rfl rfl ?_
      refine X_if_ne (tgt := 10) rfl rfl rfl (fun q => absurd q (by decide)) (fun _ => ?_)
      refine X_iconst (v := (-1 : Int32)) rfl rfl rfl ?_
      refine LW_ireturn (st := []) rfl rfl rfl (congrArg (fun z => some (Value.int z)) ?_)
      simp only [Int32.lt_iff_toInt_lt, Int32.le_iff_toInt_le, ← Int32.toInt_inj, (show (-1 : Int32).toInt = -1 from rfl), (show (0 : Int32).toInt = 0 from rfl)] at h1 h2
      unfold f_ofWord
      repeat' split
      all_goals first | rfl | (exfalso; omega) | (refine Int32.toInt_inj.mp ?_; rw [show (0 : Int32).toInt = 0 from rfl]; omega)
    · exfalso
      simp only [Int32.lt_iff_toInt_lt, Int32.le_iff_toInt_le, ← Int32.toInt_inj, (show (-1 : Int32).toInt = -1 from rfl), (show (0 : Int32).toInt = 0 from rfl)] at h1 h2
      omega
set_option maxRecDepth 10000 in
set_option maxHeartbeats 4000000 in
theorem c_ofSaying {g : LH} (F : Fc g) (E : Fr g) (a : Int32) (b : Int32) : LW 145 30 0 0 0 (lEnt (mL 145) [.ref 0, .int a, .int b]) [] g (fun v g' => v = some (.int (f_ofSaying a b)) ∧ Fr g') := by
  refine LW_ls (ls' := [some (.ref 0), some (.int a), some (.int b)]) rfl ?_
  refine X_aload_n rfl rfl rfl rfl ?_
  refine X_getR (a := 1) rfl rfl rfl ((congrFun F.1 0).trans s_0) rfl ((congrFun (F.2.1 0 (by decide)) 0).trans r_0_0) ?_
  refine X_getR (a := 2) rfl rfl rfl ((congrFun F.1 1).trans s_1) rfl ((congrFun (F.2.1 1 (by decide)) 0).trans r_1_0) ?_
  refine X_iload_n rfl rfl rfl rfl ?_
  refine X_callV (as := [.int a]) (st := []) rfl rfl rfl (by decide) rfl (Nat.le_of_ble_eq_true rfl) (by decide) (Nat.le_of_ble_eq_true rfl) rfl ((congrFun F.1 2).trans s_2) (by decide) ?_
  refine LW_ls (ls' := [some (.ref 2), some (.int a)]) rfl ?_
  refine X_iload_n rfl rfl rfl rfl ?_
  refine X_if_lt (tgt := 22) rfl rfl rfl (fun h1 => ?_) (fun h1 => ?_)
  · refine X_iconst (v := (0 : Int32)) rfl rfl rfl ?_
    refine LW_ireturn (st := []) rfl rfl rfl ?_
    refine X_if_ne (tgt := 16) rfl rfl rfl (fun q => absurd q (by decide)) (fun _ => ?_)
    refine X_iconst (v := (-1 : Int32)) rfl rfl rfl ?_
    refine LW_ireturn (st := []) rfl rfl rfl ⟨congrArg (fun z => some (Value.int z)) ?_, E⟩
    simp only [Int32.lt_iff_toInt_lt, Int32.le_iff_toInt_le, ← Int32.toInt_inj, (show (0 : Int32).toInt = 0 from rfl)] at h1
    unfold f_ofSaying
    repeat' split
    all_goals first | rfl | (exfalso; omega) | (refine Int32.toInt_inj.mp ?_; rw [show (0 : Int32).toInt = 0 from rfl]; omega)
  · refine X_iload_n rfl rfl rfl rfl ?_
    refine X_aload_n rfl rfl rfl rfl ?_
    refine X_getI (v := (0 : Int32)) rfl rfl rfl ((congrFun F.1 2).trans s_2) rfl ((congrFun (F.2.2 2 (by decide)).1 1).trans i_2_1) ?_
    refine X_icmp_ge (tgt := 22) rfl rfl rfl (fun h2 => ?_) (fun h2 => ?_)
    · refine X_iconst (v := (0 : Int32)) rfl rfl rfl ?_
      refine LW_ireturn (st := []) rfl rfl rfl ?_
      refine X_if_ne (tgt := 16) rfl rfl rfl (fun q => absurd q (by decide)) (fun _ => ?_)
      refine X_iconst (v := (-1 : Int32)) rfl rfl rfl ?_
      refine LW_ireturn (st := []) rfl rfl rfl ⟨congrArg (fun z => some (Value.int z)) ?_, E⟩
      simp only [Int32.lt_iff_toInt_lt, Int32.le_iff_toInt_le, ← Int32.toInt_inj, (show (0 : Int32).toInt = 0 from rfl)] at h1 h2
      unfold f_ofSaying
      repeat' split
      all_goals first | rfl | (exfalso; omega) | (refine Int32.toInt_inj.mp ?_; rw [show (0 : Int32).toInt = 0 from rfl]; omega)
    · exfalso
      simp only [Int32.lt_iff_toInt_lt, Int32.le_iff_toInt_le, ← Int32.toInt_inj, (show (0 : Int32).toInt = 0 from rfl)] at h1 h2
      omega
set_option maxRecDepth 10000 in
set_option maxHeartbeats 4000000 in
theorem r_ofSaying {g : LH} (F : Fr g) (a : Int32) (b : Int32) : LW 272 30 0 0 0 (lEnt (mL 272) [.ref 355, .int a, .int b]) [] g (fun v _ => v = some (.int (f_ofSaying a b))) := by
  refine LW_ls (ls' := [some (.ref 355), some (.int a), some (.int b)]) rfl ?_
  refine X_aload_n rfl rfl rfl rfl ?_
  refine X_iload_n rfl rfl rfl rfl ?_
  refine X_callV (as := [.int a]) (st := []) rfl rfl rfl (by decide) rfl (Nat.le_of_ble_eq_true rfl) (by decide) (Nat.le_of_ble_eq_true rfl) rfl ((congrFun F.1 355).trans s_355) (by decide) ?_
  refine LW_ls (ls' := [some (.ref 355), some (.int a)]) rfl ?_
  refine X_iload_n rfl rfl rfl rfl ?_
  refine X_iconst (v := (0 : Int32)) rfl rfl rfl ?_
  refine X_aload_n rfl rfl rfl rfl ?_
  refine X_getR (a := 356) rfl rfl rfl ((congrFun F.1 355).trans s_355) rfl ((congrFun (F.2.1 355 (by decide)) 0).trans r_355_0) ?_
  refine X_iconst (v := (1 : Int32)) rfl rfl rfl ?_
  refine X_iald (v := (0 : Int32)) rfl rfl ((congrFun F.1 356).trans s_356) (vp_in_d rfl) ((congrFun (F.2.2 356 (by decide)).1 1).trans i_356_1) ?_
  refine X_iconst (v := (1 : Int32)) rfl rfl rfl ?_
  refine X_isub (v := (-1 : Int32)) rfl rfl rfl ?_
  refine X_callS (as := [.int a, .int (0 : Int32), .int (-1 : Int32)]) (st := []) rfl rfl rfl (by decide) rfl (Nat.le_of_ble_eq_true rfl) (by decide) (Nat.le_of_ble_eq_true rfl) rfl ?_
  refine LW_ls (ls' := [some (.int a), some (.int (0 : Int32)), some (.int (-1 : Int32))]) rfl ?_
  refine X_iload_n rfl rfl rfl rfl ?_
  refine X_iload_n rfl rfl rfl rfl ?_
  refine X_icmp_lt (tgt := 14) rfl rfl rfl (fun h1 => ?_) (fun h1 => ?_)
  · refine X_iconst (v := (0 : Int32)) rfl rfl rfl ?_
    refine LW_ireturn (st := []) rfl rfl rfl ?_
    refine LW_ireturn (st := []) rfl rfl rfl ?_
    refine X_if_ne (tgt := 10) rfl rfl rfl (fun q => absurd q (by decide)) (fun _ => ?_)
    refine X_iconst (v := (-1 : Int32)) rfl rfl rfl ?_
    refine LW_ireturn (st := []) rfl rfl rfl (congrArg (fun z => some (Value.int z)) ?_)
    simp only [Int32.lt_iff_toInt_lt, Int32.le_iff_toInt_le, ← Int32.toInt_inj, (show (0 : Int32).toInt = 0 from rfl)] at h1
    unfold f_ofSaying
    repeat' split
    all_goals first | rfl | (exfalso; omega) | (refine Int32.toInt_inj.mp ?_; rw [show (0 : Int32).toInt = 0 from rfl]; omega)
  · refine X_iload_n rfl rfl rfl rfl ?_
    refine X_iload_n rfl rfl rfl rfl ?_
    refine X_icmp_gt (tgt := 14) rfl rfl rfl (fun h2 => ?_) (fun h2 => ?_)
    · refine X_iconst (v := (0 : Int32)) rfl rfl rfl ?_
      refine LW_ireturn (st := []) rfl rfl rfl ?_
      refine LW_ireturn (st := []) rfl rfl rfl ?_
      refine X_if_ne (tgt := 10) rfl rfl rfl (fun q => absurd q (by decide)) (fun _ => ?_)
      refine X_iconst (v := (-1 : Int32)) rfl rfl rfl ?_
      refine LW_ireturn (st := []) rfl rfl rfl (congrArg (fun z => some (Value.int z)) ?_)
      simp only [Int32.lt_iff_toInt_lt, Int32.le_iff_toInt_le, ← Int32.toInt_inj, (show (-1 : Int32).toInt = -1 from rfl), (show (0 : Int32).toInt = 0 from rfl)] at h1 h2
      unfold f_ofSaying
      repeat' split
      all_goals first | rfl | (exfalso; omega) | (refine Int32.toInt_inj.mp ?_; rw [show (0 : Int32).toInt = 0 from rfl]; omega)
    · exfalso
      simp only [Int32.lt_iff_toInt_lt, Int32.le_iff_toInt_le, ← Int32.toInt_inj, (show (-1 : Int32).toInt = -1 from rfl), (show (0 : Int32).toInt = 0 from rfl)] at h1 h2
      omega
set_option maxRecDepth 10000 in
set_option maxHeartbeats 4000000 in
theorem c_mistaken {g : LH} (F : Fc g) (E : Fr g) (a : Int32) (b : Int32) : LW 146 30 0 0 0 (lEnt (mL 146) [.ref 0, .int a, .int b]) [] g (fun v g' => v = some (.int (f_mistaken a b)) ∧ Fr g') := by
  refine LW_ls (ls' := [some (.ref 0), some (.int a), some (.int b), none]) rfl ?_
  refine X_aload_n rfl rfl rfl rfl ?_
  refine X_getR (a := 1) rfl rfl rfl ((congrFun F.1 0).trans s_0) rfl ((congrFun (F.2.1 0 (by decide)) 0).trans r_0_0) ?_
  refine X_getR (a := 2) rfl rfl rfl ((congrFun F.1 1).trans s_1) rfl ((congrFun (F.2.1 1 (by decide)) 0).trans r_1_0) ?_
  refine X_astore_n (i := 3) (ls' := [some (.ref 0), some (.int a), some (.int b), some (.ref 2)]) rfl rfl rfl (Nat.le_of_ble_eq_true rfl) rfl ?_
  refine X_aload_n rfl rfl rfl rfl ?_
  refine X_iload_n rfl rfl rfl rfl ?_
  refine X_callV (as := [.int a]) (st := []) rfl rfl rfl (by decide) rfl (Nat.le_of_ble_eq_true rfl) (by decide) (Nat.le_of_ble_eq_true rfl) rfl ((congrFun F.1 2).trans s_2) (by decide) ?_
  refine LW_ls (ls' := [some (.ref 2), some (.int a)]) rfl ?_
  refine X_iload_n rfl rfl rfl rfl ?_
  refine X_if_lt (tgt := 22) rfl rfl rfl (fun h1 => ?_) (fun h1 => ?_)
  · refine X_iconst (v := (0 : Int32)) rfl rfl rfl ?_
    refine LW_ireturn (st := []) rfl rfl rfl ?_
    refine X_if_eq (tgt := 29) rfl rfl rfl (fun _ => ?_) (fun q => absurd q (by decide))
    refine X_iconst (v := (0 : Int32)) rfl rfl rfl ?_
    refine LW_ireturn (st := []) rfl rfl rfl ⟨congrArg (fun z => some (Value.int z)) ?_, E⟩
    simp only [Int32.lt_iff_toInt_lt, Int32.le_iff_toInt_le, ← Int32.toInt_inj, (show (0 : Int32).toInt = 0 from rfl)] at h1
    unfold f_mistaken
    repeat' split
    all_goals first | rfl | (exfalso; omega) | (refine Int32.toInt_inj.mp ?_; rw [show (0 : Int32).toInt = 0 from rfl]; omega)
  · refine X_iload_n rfl rfl rfl rfl ?_
    refine X_aload_n rfl rfl rfl rfl ?_
    refine X_getI (v := (0 : Int32)) rfl rfl rfl ((congrFun F.1 2).trans s_2) rfl ((congrFun (F.2.2 2 (by decide)).1 0).trans i_2_0) ?_
    refine X_icmp_ge (tgt := 22) rfl rfl rfl (fun h2 => ?_) (fun h2 => ?_)
    · refine X_iconst (v := (0 : Int32)) rfl rfl rfl ?_
      refine LW_ireturn (st := []) rfl rfl rfl ?_
      refine X_if_eq (tgt := 29) rfl rfl rfl (fun _ => ?_) (fun q => absurd q (by decide))
      refine X_iconst (v := (0 : Int32)) rfl rfl rfl ?_
      refine LW_ireturn (st := []) rfl rfl rfl ⟨congrArg (fun z => some (Value.int z)) ?_, E⟩
      simp only [Int32.lt_iff_toInt_lt, Int32.le_iff_toInt_le, ← Int32.toInt_inj, (show (0 : Int32).toInt = 0 from rfl)] at h1 h2
      unfold f_mistaken
      repeat' split
      all_goals first | rfl | (exfalso; omega) | (refine Int32.toInt_inj.mp ?_; rw [show (0 : Int32).toInt = 0 from rfl]; omega)
    · exfalso
      simp only [Int32.lt_iff_toInt_lt, Int32.le_iff_toInt_le, ← Int32.toInt_inj, (show (0 : Int32).toInt = 0 from rfl)] at h1 h2
      omega
set_option maxRecDepth 10000 in
set_option maxHeartbeats 4000000 in
theorem r_mistaken {g : LH} (F : Fr g) (a : Int32) (b : Int32) : LW 274 30 0 0 0 (lEnt (mL 274) [.ref 355, .int a, .int b]) [] g (fun v _ => v = some (.int (f_mistaken a b))) := by
  refine LW_ls (ls' := [some (.ref 355), some (.int a), some (.int b), none]) rfl ?_
  refine X_aload_n rfl rfl rfl rfl ?_
  refine X_iload_n rfl rfl rfl rfl ?_
  refine X_callV (as := [.int a]) (st := []) rfl rfl rfl (by decide) rfl (Nat.le_of_ble_eq_true rfl) (by decide) (Nat.le_of_ble_eq_true rfl) rfl ((congrFun F.1 355).trans s_355) (by decide) ?_
  refine LW_ls (ls' := [some (.ref 355), some (.int a)]) rfl ?_
  refine X_iload_n rfl rfl rfl rfl ?_
  refine X_iconst (v := (0 : Int32)) rfl rfl rfl ?_
  refine X_aload_n rfl rfl rfl rfl ?_
  refine X_getR (a := 356) rfl rfl rfl ((congrFun F.1 355).trans s_355) rfl ((congrFun (F.2.1 355 (by decide)) 0).trans r_355_0) ?_
  refine X_iconst (v := (0 : Int32)) rfl rfl rfl ?_
  refine X_iald (v := (0 : Int32)) rfl rfl ((congrFun F.1 356).trans s_356) (vp_in_d rfl) ((congrFun (F.2.2 356 (by decide)).1 0).trans i_356_0) ?_
  refine X_iconst (v := (1 : Int32)) rfl rfl rfl ?_
  refine X_isub (v := (-1 : Int32)) rfl rfl rfl ?_
  refine X_callS (as := [.int a, .int (0 : Int32), .int (-1 : Int32)]) (st := []) rfl rfl rfl (by decide) rfl (Nat.le_of_ble_eq_true rfl) (by decide) (Nat.le_of_ble_eq_true rfl) rfl ?_
  refine LW_ls (ls' := [some (.int a), some (.int (0 : Int32)), some (.int (-1 : Int32))]) rfl ?_
  refine X_iload_n rfl rfl rfl rfl ?_
  refine X_iload_n rfl rfl rfl rfl ?_
  refine X_icmp_lt (tgt := 14) rfl rfl rfl (fun h1 => ?_) (fun h1 => ?_)
  · refine X_iconst (v := (0 : Int32)) rfl rfl rfl ?_
    refine LW_ireturn (st := []) rfl rfl rfl ?_
    refine LW_ireturn (st := []) rfl rfl rfl ?_
    refine X_if_eq (tgt := 34) rfl rfl rfl (fun _ => ?_) (fun q => absurd q (by decide))
    refine X_iconst (v := (0 : Int32)) rfl rfl rfl ?_
    refine LW_ireturn (st := []) rfl rfl rfl (congrArg (fun z => some (Value.int z)) ?_)
    simp only [Int32.lt_iff_toInt_lt, Int32.le_iff_toInt_le, ← Int32.toInt_inj, (show (0 : Int32).toInt = 0 from rfl)] at h1
    unfold f_mistaken
    repeat' split
    all_goals first | rfl | (exfalso; omega) | (refine Int32.toInt_inj.mp ?_; rw [show (0 : Int32).toInt = 0 from rfl]; omega)
  · refine X_iload_n rfl rfl rfl rfl ?_
    refine X_iload_n rfl rfl rfl rfl ?_
    refine X_icmp_gt (tgt := 14) rfl rfl rfl (fun h2 => ?_) (fun h2 => ?_)
    · refine X_iconst (v := (0 : Int32)) rfl rfl rfl ?_
      refine LW_ireturn (st := []) rfl rfl rfl ?_
      refine LW_ireturn (st := []) rfl rfl rfl ?_
      refine X_if_eq (tgt := 34) rfl rfl rfl (fun _ => ?_) (fun q => absurd q (by decide))
      refine X_iconst (v := (0 : Int32)) rfl rfl rfl ?_
      refine LW_ireturn (st := []) rfl rfl rfl (congrArg (fun z => some (Value.int z)) ?_)
      simp only [Int32.lt_iff_toInt_lt, Int32.le_iff_toInt_le, ← Int32.toInt_inj, (show (-1 : Int32).toInt = -1 from rfl), (show (0 : Int32).toInt = 0 from rfl)] at h1 h2
      unfold f_mistaken
      repeat' split
      all_goals first | rfl | (exfalso; omega) | (refine Int32.toInt_inj.mp ?_; rw [show (0 : Int32).toInt = 0 from rfl]; omega)
    · exfalso
      simp only [Int32.lt_iff_toInt_lt, Int32.le_iff_toInt_le, ← Int32.toInt_inj, (show (-1 : Int32).toInt = -1 from rfl), (show (0 : Int32).toInt = 0 from rfl)] at h1 h2
      omega
set_option maxRecDepth 10000 in
set_option maxHeartbeats 4000000 in
theorem c_said {g : LH} (F : Fc g) (E : Fr g) (a : Int32) (b : Int32) (c : Int32) : LW 147 30 0 0 0 (lEnt (mL 147) [.ref 0, .int a, .int b, .int c]) [] g (fun v g' => v = some (.int (f_said a b c)) ∧ Fr g') := by
  refine LW_ls (ls' := [some (.ref 0), some (.int a), some (.int b), some (.int c), none, none, none]) rfl ?_
  refine X_aload_n rfl rfl rfl rfl ?_
  refine X_getR (a := 1) rfl rfl rfl ((congrFun F.1 0).trans s_0) rfl ((congrFun (F.2.1 0 (by decide)) 0).trans r_0_0) ?_
  refine X_getR (a := 2) rfl rfl rfl ((congrFun F.1 1).trans s_1) rfl ((congrFun (F.2.1 1 (by decide)) 0).trans r_1_0) ?_
  refine X_astore (i := 4) (ls' := [some (.ref 0), some (.int a), some (.int b), some (.int c), some (.ref 2), none, none]) rfl rfl (Nat.le_of_ble_eq_true rfl) rfl ?_
  refine X_iload_n rfl rfl rfl rfl ?_
  refine X_iconst (v := (-1 : Int32)) rfl rfl rfl ?_
  refine X_icmp_eq (tgt := 25) rfl rfl rfl (fun h1 => ?_) (fun h1 => ?_)
  · refine X_iconst (v := (1 : Int32)) rfl rfl rfl ?_
    refine LW_goto (tgt := 30) rfl rfl ?_
    refine X_istore (i := 5) (ls' := [some (.ref 0), some (.int a), some (.int b), some (.int c), some (.ref 2), some (.int (1 : Int32)), none]) rfl rfl (Nat.le_of_ble_eq_true rfl) rfl ?_
    refine X_iload rfl rfl rfl ?_
    refine X_if_eq (tgt := 51) rfl rfl rfl (fun q => absurd q (by decide)) (fun _ => ?_)
    refine X_iload_n rfl rfl rfl rfl ?_
    refine X_iconst (v := (-1 : Int32)) rfl rfl rfl ?_
    refine X_icmp_lt (tgt := 51) rfl rfl rfl (fun h2 => ?_) (fun h2 => ?_)
    · refine X_iconst (v := (-1 : Int32)) rfl rfl rfl ?_
      refine LW_ireturn (st := []) rfl rfl rfl ⟨congrArg (fun z => some (Value.int z)) ?_, E⟩
      simp only [Int32.lt_iff_toInt_lt, Int32.le_iff_toInt_le, ← Int32.toInt_inj, (show (-1 : Int32).toInt = -1 from rfl)] at h1 h2
      unfold f_said
      repeat' split
      all_goals first | rfl | (exfalso; omega) | (refine Int32.toInt_inj.mp ?_; rw [show (0 : Int32).toInt = 0 from rfl]; omega)
    · refine X_aload rfl rfl rfl ?_
      refine X_iload_n rfl rfl rfl rfl ?_
      refine X_callV (as := [.int a]) (st := []) rfl rfl rfl (by decide) rfl (Nat.le_of_ble_eq_true rfl) (by decide) (Nat.le_of_ble_eq_true rfl) rfl ((congrFun F.1 2).trans s_2) (by decide) ?_
      refine LW_ls (ls' := [some (.ref 2), some (.int a)]) rfl ?_
      refine X_iload_n rfl rfl rfl rfl ?_
      refine X_if_lt (tgt := 22) rfl rfl rfl (fun h3 => ?_) (fun h3 => ?_)
      · refine X_iconst (v := (0 : Int32)) rfl rfl rfl ?_
        refine LW_ireturn (st := []) rfl rfl rfl ?_
        refine X_if_ne (tgt := 53) rfl rfl rfl (fun q => absurd q (by decide)) (fun _ => ?_)
        refine X_iconst (v := (-1 : Int32)) rfl rfl rfl ?_
        refine LW_ireturn (st := []) rfl rfl rfl ⟨congrArg (fun z => some (Value.int z)) ?_, E⟩
        simp only [Int32.lt_iff_toInt_lt, Int32.le_iff_toInt_le, ← Int32.toInt_inj, (show (-1 : Int32).toInt = -1 from rfl), (show (0 : Int32).toInt = 0 from rfl)] at h1 h2 h3
        unfold f_said
        repeat' split
        all_goals first | rfl | (exfalso; omega) | (refine Int32.toInt_inj.mp ?_; rw [show (0 : Int32).toInt = 0 from rfl]; omega)
      · refine X_iload_n rfl rfl rfl rfl ?_
        refine X_aload_n rfl rfl rfl rfl ?_
        refine X_getI (v := (0 : Int32)) rfl rfl rfl ((congrFun F.1 2).trans s_2) rfl ((congrFun (F.2.2 2 (by decide)).1 1).trans i_2_1) ?_
        refine X_icmp_ge (tgt := 22) rfl rfl rfl (fun h4 => ?_) (fun h4 => ?_)
        · refine X_iconst (v := (0 : Int32)) rfl rfl rfl ?_
          refine LW_ireturn (st := []) rfl rfl rfl ?_
          refine X_if_ne (tgt := 53) rfl rfl rfl (fun q => absurd q (by decide)) (fun _ => ?_)
          refine X_iconst (v := (-1 : Int32)) rfl rfl rfl ?_
          refine LW_ireturn (st := []) rfl rfl rfl ⟨congrArg (fun z => some (Value.int z)) ?_, E⟩
          simp only [Int32.lt_iff_toInt_lt, Int32.le_iff_toInt_le, ← Int32.toInt_inj, (show (-1 : Int32).toInt = -1 from rfl), (show (0 : Int32).toInt = 0 from rfl)] at h1 h2 h3 h4
          unfold f_said
          repeat' split
          all_goals first | rfl | (exfalso; omega) | (refine Int32.toInt_inj.mp ?_; rw [show (0 : Int32).toInt = 0 from rfl]; omega)
        · exfalso
          simp only [Int32.lt_iff_toInt_lt, Int32.le_iff_toInt_le, ← Int32.toInt_inj, (show (-1 : Int32).toInt = -1 from rfl), (show (0 : Int32).toInt = 0 from rfl)] at h1 h2 h3 h4
          omega
  · refine X_iload_n rfl rfl rfl rfl ?_
    refine X_if_eq (tgt := 25) rfl rfl rfl (fun h5 => ?_) (fun h5 => ?_)
    · refine X_iconst (v := (1 : Int32)) rfl rfl rfl ?_
      refine LW_goto (tgt := 30) rfl rfl ?_
      refine X_istore (i := 5) (ls' := [some (.ref 0), some (.int a), some (.int b), some (.int c), some (.ref 2), some (.int (1 : Int32)), none]) rfl rfl (Nat.le_of_ble_eq_true rfl) rfl ?_
      refine X_iload rfl rfl rfl ?_
      refine X_if_eq (tgt := 51) rfl rfl rfl (fun q => absurd q (by decide)) (fun _ => ?_)
      refine X_iload_n rfl rfl rfl rfl ?_
      refine X_iconst (v := (-1 : Int32)) rfl rfl rfl ?_
      refine X_icmp_lt (tgt := 51) rfl rfl rfl (fun h6 => ?_) (fun h6 => ?_)
      · refine X_iconst (v := (-1 : Int32)) rfl rfl rfl ?_
        refine LW_ireturn (st := []) rfl rfl rfl ⟨congrArg (fun z => some (Value.int z)) ?_, E⟩
        simp only [Int32.lt_iff_toInt_lt, Int32.le_iff_toInt_le, ← Int32.toInt_inj, (show (-1 : Int32).toInt = -1 from rfl), (show (0 : Int32).toInt = 0 from rfl)] at h1 h5 h6
        unfold f_said
        repeat' split
        all_goals first | rfl | (exfalso; omega) | (refine Int32.toInt_inj.mp ?_; rw [show (0 : Int32).toInt = 0 from rfl]; omega)
      · refine X_aload rfl rfl rfl ?_
        refine X_iload_n rfl rfl rfl rfl ?_
        refine X_callV (as := [.int a]) (st := []) rfl rfl rfl (by decide) rfl (Nat.le_of_ble_eq_true rfl) (by decide) (Nat.le_of_ble_eq_true rfl) rfl ((congrFun F.1 2).trans s_2) (by decide) ?_
        refine LW_ls (ls' := [some (.ref 2), some (.int a)]) rfl ?_
        refine X_iload_n rfl rfl rfl rfl ?_
        refine X_if_lt (tgt := 22) rfl rfl rfl (fun h7 => ?_) (fun h7 => ?_)
        · refine X_iconst (v := (0 : Int32)) rfl rfl rfl ?_
          refine LW_ireturn (st := []) rfl rfl rfl ?_
          refine X_if_ne (tgt := 53) rfl rfl rfl (fun q => absurd q (by decide)) (fun _ => ?_)
          refine X_iconst (v := (-1 : Int32)) rfl rfl rfl ?_
          refine LW_ireturn (st := []) rfl rfl rfl ⟨congrArg (fun z => some (Value.int z)) ?_, E⟩
          simp only [Int32.lt_iff_toInt_lt, Int32.le_iff_toInt_le, ← Int32.toInt_inj, (show (-1 : Int32).toInt = -1 from rfl), (show (0 : Int32).toInt = 0 from rfl)] at h1 h5 h6 h7
          unfold f_said
          repeat' split
          all_goals first | rfl | (exfalso; omega) | (refine Int32.toInt_inj.mp ?_; rw [show (0 : Int32).toInt = 0 from rfl]; omega)
        · refine X_iload_n rfl rfl rfl rfl ?_
          refine X_aload_n rfl rfl rfl rfl ?_
          refine X_getI (v := (0 : Int32)) rfl rfl rfl ((congrFun F.1 2).trans s_2) rfl ((congrFun (F.2.2 2 (by decide)).1 1).trans i_2_1) ?_
          refine X_icmp_ge (tgt := 22) rfl rfl rfl (fun h8 => ?_) (fun h8 => ?_)
          · refine X_iconst (v := (0 : Int32)) rfl rfl rfl ?_
            refine LW_ireturn (st := []) rfl rfl rfl ?_
            refine X_if_ne (tgt := 53) rfl rfl rfl (fun q => absurd q (by decide)) (fun _ => ?_)
            refine X_iconst (v := (-1 : Int32)) rfl rfl rfl ?_
            refine LW_ireturn (st := []) rfl rfl rfl ⟨congrArg (fun z => some (Value.int z)) ?_, E⟩
            simp only [Int32.lt_iff_toInt_lt, Int32.le_iff_toInt_le, ← Int32.toInt_inj, (show (-1 : Int32).toInt = -1 from rfl), (show (0 : Int32).toInt = 0 from rfl)] at h1 h5 h6 h7 h8
            unfold f_said
            repeat' split
            all_goals first | rfl | (exfalso; omega) | (refine Int32.toInt_inj.mp ?_; rw [show (0 : Int32).toInt = 0 from rfl]; omega)
          · exfalso
            simp only [Int32.lt_iff_toInt_lt, Int32.le_iff_toInt_le, ← Int32.toInt_inj, (show (-1 : Int32).toInt = -1 from rfl), (show (0 : Int32).toInt = 0 from rfl)] at h1 h5 h6 h7 h8
            omega
    · refine X_iload_n rfl rfl rfl rfl ?_
      refine X_callS (as := [.int b]) (st := []) rfl rfl rfl (by decide) rfl (Nat.le_of_ble_eq_true rfl) (by decide) (Nat.le_of_ble_eq_true rfl) rfl ?_
      refine LW_ls (ls' := [some (.int b)]) rfl ?_
      refine X_iload_n rfl rfl rfl rfl ?_
      refine X_if_le (tgt := 15) rfl rfl rfl (fun h9 => ?_) (fun h9 => ?_)
      · refine X_iconst (v := (0 : Int32)) rfl rfl rfl ?_
        refine LW_ireturn (st := []) rfl rfl rfl ?_
        refine X_if_eq (tgt := 29) rfl rfl rfl (fun _ => ?_) (fun q => absurd q (by decide))
        refine X_iconst (v := (0 : Int32)) rfl rfl rfl ?_
        refine X_istore (i := 5) (ls' := [some (.ref 0), some (.int a), some (.int b), some (.int c), some (.ref 2), some (.int (0 : Int32)), none]) rfl rfl (Nat.le_of_ble_eq_true rfl) rfl ?_
        refine X_iload rfl rfl rfl ?_
        refine X_if_eq (tgt := 51) rfl rfl rfl (fun _ => ?_) (fun q => absurd q (by decide))
        refine X_iconst (v := (-1 : Int32)) rfl rfl rfl ?_
        refine LW_ireturn (st := []) rfl rfl rfl ⟨congrArg (fun z => some (Value.int z)) ?_, E⟩
        simp only [Int32.lt_iff_toInt_lt, Int32.le_iff_toInt_le, ← Int32.toInt_inj, (show (-1 : Int32).toInt = -1 from rfl), (show (0 : Int32).toInt = 0 from rfl)] at h1 h5 h9
        unfold f_said
        repeat' split
        all_goals first | rfl | (exfalso; omega) | (refine Int32.toInt_inj.mp ?_; rw [show (0 : Int32).toInt = 0 from rfl]; omega)
      · refine X_iload_n rfl rfl rfl rfl ?_
        refine X_ldcw (v := (67108864 : Int32)) rfl rfl rfl ?_
        refine X_icmp_ge (tgt := 15) rfl rfl rfl (fun h10 => ?_) (fun h10 => ?_)
        · refine X_iconst (v := (0 : Int32)) rfl rfl rfl ?_
          refine LW_ireturn (st := []) rfl rfl rfl ?_
          refine X_if_eq (tgt := 29) rfl rfl rfl (fun _ => ?_) (fun q => absurd q (by decide))
          refine X_iconst (v := (0 : Int32)) rfl rfl rfl ?_
          refine X_istore (i := 5) (ls' := [some (.ref 0), some (.int a), some (.int b), some (.int c), some (.ref 2), some (.int (0 : Int32)), none]) rfl rfl (Nat.le_of_ble_eq_true rfl) rfl ?_
          refine X_iload rfl rfl rfl ?_
          refine X_if_eq (tgt := 51) rfl rfl rfl (fun _ => ?_) (fun q => absurd q (by decide))
          refine X_iconst (v := (-1 : Int32)) rfl rfl rfl ?_
          refine LW_ireturn (st := []) rfl rfl rfl ⟨congrArg (fun z => some (Value.int z)) ?_, E⟩
          simp only [Int32.lt_iff_toInt_lt, Int32.le_iff_toInt_le, ← Int32.toInt_inj, (show (-1 : Int32).toInt = -1 from rfl), (show (0 : Int32).toInt = 0 from rfl), (show (67108864 : Int32).toInt = 67108864 from rfl)] at h1 h5 h9 h10
          unfold f_said
          repeat' split
          all_goals first | rfl | (exfalso; omega) | (refine Int32.toInt_inj.mp ?_; rw [show (0 : Int32).toInt = 0 from rfl]; omega)
        · refine X_iconst (v := (1 : Int32)) rfl rfl rfl ?_
          refine LW_goto (tgt := 16) rfl rfl ?_
          refine LW_ireturn (st := []) rfl rfl rfl ?_
          refine X_if_eq (tgt := 29) rfl rfl rfl (fun q => absurd q (by decide)) (fun _ => ?_)
          refine X_iconst (v := (1 : Int32)) rfl rfl rfl ?_
          refine LW_goto (tgt := 30) rfl rfl ?_
          refine X_istore (i := 5) (ls' := [some (.ref 0), some (.int a), some (.int b), some (.int c), some (.ref 2), some (.int (1 : Int32)), none]) rfl rfl (Nat.le_of_ble_eq_true rfl) rfl ?_
          refine X_iload rfl rfl rfl ?_
          refine X_if_eq (tgt := 51) rfl rfl rfl (fun q => absurd q (by decide)) (fun _ => ?_)
          refine X_iload_n rfl rfl rfl rfl ?_
          refine X_iconst (v := (-1 : Int32)) rfl rfl rfl ?_
          refine X_icmp_lt (tgt := 51) rfl rfl rfl (fun h11 => ?_) (fun h11 => ?_)
          · refine X_iconst (v := (-1 : Int32)) rfl rfl rfl ?_
            refine LW_ireturn (st := []) rfl rfl rfl ⟨congrArg (fun z => some (Value.int z)) ?_, E⟩
            simp only [Int32.lt_iff_toInt_lt, Int32.le_iff_toInt_le, ← Int32.toInt_inj, (show (-1 : Int32).toInt = -1 from rfl), (show (0 : Int32).toInt = 0 from rfl), (show (67108864 : Int32).toInt = 67108864 from rfl)] at h1 h5 h9 h10 h11
            unfold f_said
            repeat' split
            all_goals first | rfl | (exfalso; omega) | (refine Int32.toInt_inj.mp ?_; rw [show (0 : Int32).toInt = 0 from rfl]; omega)
          · refine X_aload rfl rfl rfl ?_
            refine X_iload_n rfl rfl rfl rfl ?_
            refine X_callV (as := [.int a]) (st := []) rfl rfl rfl (by decide) rfl (Nat.le_of_ble_eq_true rfl) (by decide) (Nat.le_of_ble_eq_true rfl) rfl ((congrFun F.1 2).trans s_2) (by decide) ?_
            refine LW_ls (ls' := [some (.ref 2), some (.int a)]) rfl ?_
            refine X_iload_n rfl rfl rfl rfl ?_
            refine X_if_lt (tgt := 22) rfl rfl rfl (fun h12 => ?_) (fun h12 => ?_)
            · refine X_iconst (v := (0 : Int32)) rfl rfl rfl ?_
              refine LW_ireturn (st := []) rfl rfl rfl ?_
              refine X_if_ne (tgt := 53) rfl rfl rfl (fun q => absurd q (by decide)) (fun _ => ?_)
              refine X_iconst (v := (-1 : Int32)) rfl rfl rfl ?_
              refine LW_ireturn (st := []) rfl rfl rfl ⟨congrArg (fun z => some (Value.int z)) ?_, E⟩
              simp only [Int32.lt_iff_toInt_lt, Int32.le_iff_toInt_le, ← Int32.toInt_inj, (show (-1 : Int32).toInt = -1 from rfl), (show (0 : Int32).toInt = 0 from rfl), (show (67108864 : Int32).toInt = 67108864 from rfl)] at h1 h5 h9 h10 h11 h12
              unfold f_said
              repeat' split
              all_goals first | rfl | (exfalso; omega) | (refine Int32.toInt_inj.mp ?_; rw [show (0 : Int32).toInt = 0 from rfl]; omega)
            · refine X_iload_n rfl rfl rfl rfl ?_
              refine X_aload_n rfl rfl rfl rfl ?_
              refine X_getI (v := (0 : Int32)) rfl rfl rfl ((congrFun F.1 2).trans s_2) rfl ((congrFun (F.2.2 2 (by decide)).1 1).trans i_2_1) ?_
              refine X_icmp_ge (tgt := 22) rfl rfl rfl (fun h13 => ?_) (fun h13 => ?_)
              · refine X_iconst (v := (0 : Int32)) rfl rfl rfl ?_
                refine LW_ireturn (st := []) rfl rfl rfl ?_
                refine X_if_ne (tgt := 53) rfl rfl rfl (fun q => absurd q (by decide)) (fun _ => ?_)
                refine X_iconst (v := (-1 : Int32)) rfl rfl rfl ?_
                refine LW_ireturn (st := []) rfl rfl rfl ⟨congrArg (fun z => some (Value.int z)) ?_, E⟩
                simp only [Int32.lt_iff_toInt_lt, Int32.le_iff_toInt_le, ← Int32.toInt_inj, (show (-1 : Int32).toInt = -1 from rfl), (show (0 : Int32).toInt = 0 from rfl), (show (67108864 : Int32).toInt = 67108864 from rfl)] at h1 h5 h9 h10 h11 h12 h13
                unfold f_said
                repeat' split
                all_goals first | rfl | (exfalso; omega) | (refine Int32.toInt_inj.mp ?_; rw [show (0 : Int32).toInt = 0 from rfl]; omega)
              · exfalso
                simp only [Int32.lt_iff_toInt_lt, Int32.le_iff_toInt_le, ← Int32.toInt_inj, (show (-1 : Int32).toInt = -1 from rfl), (show (0 : Int32).toInt = 0 from rfl), (show (67108864 : Int32).toInt = 67108864 from rfl)] at h1 h5 h9 h10 h11 h12 h13
                omega
set_option maxRecDepth 10000 in
set_option maxHeartbeats 4000000 in
theorem r_said {g : LH} (F : Fr g) (a : Int32) (b : Int32) (c : Int32) : LW 275 30 0 0 0 (lEnt (mL 275) [.ref 355, .int a, .int b, .int c]) [] g (fun v _ => v = some (.int (f_said a b c))) := by
  refine LW_ls (ls' := [some (.ref 355), some (.int a), some (.int b), some (.int c), none, none]) rfl ?_
  refine X_aload_n rfl rfl rfl rfl ?_
  refine X_iload_n rfl rfl rfl rfl ?_
  refine X_callV (as := [.int a]) (st := []) rfl rfl rfl (by decide) rfl (Nat.le_of_ble_eq_true rfl) (by decide) (Nat.le_of_ble_eq_true rfl) rfl ((congrFun F.1 355).trans s_355) (by decide) ?_
  refine LW_ls (ls' := [some (.ref 355), some (.int a)]) rfl ?_
  refine X_iload_n rfl rfl rfl rfl ?_
  refine X_iconst (v := (0 : Int32)) rfl rfl rfl ?_
  refine X_aload_n rfl rfl rfl rfl ?_
  refine X_getR (a := 356) rfl rfl rfl ((congrFun F.1 355).trans s_355) rfl ((congrFun (F.2.1 355 (by decide)) 0).trans r_355_0) ?_
  refine X_iconst (v := (1 : Int32)) rfl rfl rfl ?_
  refine X_iald (v := (0 : Int32)) rfl rfl ((congrFun F.1 356).trans s_356) (vp_in_d rfl) ((congrFun (F.2.2 356 (by decide)).1 1).trans i_356_1) ?_
  refine X_iconst (v := (1 : Int32)) rfl rfl rfl ?_
  refine X_isub (v := (-1 : Int32)) rfl rfl rfl ?_
  refine X_callS (as := [.int a, .int (0 : Int32), .int (-1 : Int32)]) (st := []) rfl rfl rfl (by decide) rfl (Nat.le_of_ble_eq_true rfl) (by decide) (Nat.le_of_ble_eq_true rfl) rfl ?_
  refine LW_ls (ls' := [some (.int a), some (.int (0 : Int32)), some (.int (-1 : Int32))]) rfl ?_
  refine X_iload_n rfl rfl rfl rfl ?_
  refine X_iload_n rfl rfl rfl rfl ?_
  refine X_icmp_lt (tgt := 14) rfl rfl rfl (fun h1 => ?_) (fun h1 => ?_)
  · refine X_iconst (v := (0 : Int32)) rfl rfl rfl ?_
    refine LW_ireturn (st := []) rfl rfl rfl ?_
    refine LW_ireturn (st := []) rfl rfl rfl ?_
    refine X_if_eq (tgt := 52) rfl rfl rfl (fun _ => ?_) (fun q => absurd q (by decide))
    refine X_iconst (v := (-1 : Int32)) rfl rfl rfl ?_
    refine LW_ireturn (st := []) rfl rfl rfl (congrArg (fun z => some (Value.int z)) ?_)
    simp only [Int32.lt_iff_toInt_lt, Int32.le_iff_toInt_le, ← Int32.toInt_inj, (show (0 : Int32).toInt = 0 from rfl)] at h1
    unfold f_said
    repeat' split
    all_goals first | rfl | (exfalso; omega) | (refine Int32.toInt_inj.mp ?_; rw [show (0 : Int32).toInt = 0 from rfl]; omega)
  · refine X_iload_n rfl rfl rfl rfl ?_
    refine X_iload_n rfl rfl rfl rfl ?_
    refine X_icmp_gt (tgt := 14) rfl rfl rfl (fun h2 => ?_) (fun h2 => ?_)
    · refine X_iconst (v := (0 : Int32)) rfl rfl rfl ?_
      refine LW_ireturn (st := []) rfl rfl rfl ?_
      refine LW_ireturn (st := []) rfl rfl rfl ?_
      refine X_if_eq (tgt := 52) rfl rfl rfl (fun _ => ?_) (fun q => absurd q (by decide))
      refine X_iconst (v := (-1 : Int32)) rfl rfl rfl ?_
      refine LW_ireturn (st := []) rfl rfl rfl (congrArg (fun z => some (Value.int z)) ?_)
      simp only [Int32.lt_iff_toInt_lt, Int32.le_iff_toInt_le, ← Int32.toInt_inj, (show (-1 : Int32).toInt = -1 from rfl), (show (0 : Int32).toInt = 0 from rfl)] at h1 h2
      unfold f_said
      repeat' split
      all_goals first | rfl | (exfalso; omega) | (refine Int32.toInt_inj.mp ?_; rw [show (0 : Int32).toInt = 0 from rfl]; omega)
    · exfalso
      simp only [Int32.lt_iff_toInt_lt, Int32.le_iff_toInt_le, ← Int32.toInt_inj, (show (-1 : Int32).toInt = -1 from rfl), (show (0 : Int32).toInt = 0 from rfl)] at h1 h2
      omega
set_option maxRecDepth 10000 in
set_option maxHeartbeats 4000000 in
theorem c_dear {g : LH} (F : Fc g) (E : Fr g) (a : Int32) : LW 148 30 0 0 0 (lEnt (mL 148) [.ref 0, .int a]) [] g (fun v g' => v = some (.int (f_dear a)) ∧ Fr g') := by
  refine LW_ls (ls' := [some (.ref 0), some (.int a), none, none, none]) rfl ?_
  refine X_aload_n rfl rfl rfl rfl ?_
  refine X_getR (a := 1) rfl rfl rfl ((congrFun F.1 0).trans s_0) rfl ((congrFun (F.2.1 0 (by decide)) 0).trans r_0_0) ?_
  refine X_getR (a := 10) rfl rfl rfl ((congrFun F.1 1).trans s_1) rfl ((congrFun (F.2.1 1 (by decide)) 1).trans r_1_1) ?_
  refine X_callV (as := []) (st := []) rfl rfl rfl (by decide) rfl (Nat.le_of_ble_eq_true rfl) (by decide) (Nat.le_of_ble_eq_true rfl) rfl ((congrFun F.1 10).trans s_10) (by decide) ?_
  refine LW_ls (ls' := [some (.ref 10), none, none]) rfl ?_
  refine X_aload_n rfl rfl rfl rfl ?_
  refine X_getI (v := (0 : Int32)) rfl rfl rfl ((congrFun F.1 10).trans s_10) rfl ((congrFun (F.2.2 10 (by decide)).1 0).trans i_10_0) ?_
  refine X_istore_n (i := 1) (ls' := [some (.ref 10), some (.int (0 : Int32)), none]) rfl rfl rfl (Nat.le_of_ble_eq_true rfl) rfl ?_
  refine X_iconst (v := (0 : Int32)) rfl rfl rfl ?_
  refine X_istore_n (i := 2) (ls' := [some (.ref 10), some (.int (0 : Int32)), some (.int (0 : Int32))]) rfl rfl rfl (Nat.le_of_ble_eq_true rfl) rfl ?_
  refine X_iload_n rfl rfl rfl rfl ?_
  refine X_bipush (v := (26 : Int32)) rfl rfl rfl ?_
  refine X_icmp_ge (tgt := 37) rfl rfl rfl (fun q => absurd q (by decide)) (fun _ => ?_)
  refine X_aload_n rfl rfl rfl rfl ?_
  refine X_getR (a := 13) rfl rfl rfl ((congrFun F.1 10).trans s_10) rfl ((congrFun (F.2.1 10 (by decide)) 6).trans r_10_6) ?_
  refine X_iload_n rfl rfl rfl rfl ?_
  refine X_iald (v := (-1 : Int32)) rfl rfl ((congrFun F.1 13).trans s_13) (vp_in_d rfl) ((congrFun (F.2.2 13 (by decide)).1 0).trans i_13_0) ?_
  refine X_iconst (v := (-1 : Int32)) rfl rfl rfl ?_
  refine X_icmp_eq (tgt := 31) rfl rfl rfl (fun _ => ?_) (fun q => absurd q (by decide))
  refine X_iinc (v := (1 : Int32)) (ls' := [some (.ref 10), some (.int (0 : Int32)), some (.int (1 : Int32))]) rfl rfl rfl rfl rfl ?_
  refine LW_goto (tgt := 7) rfl rfl ?_
  refine X_iload_n rfl rfl rfl rfl ?_
  refine X_bipush (v := (26 : Int32)) rfl rfl rfl ?_
  refine X_icmp_ge (tgt := 37) rfl rfl rfl (fun q => absurd q (by decide)) (fun _ => ?_)
  refine X_aload_n rfl rfl rfl rfl ?_
  refine X_getR (a := 13) rfl rfl rfl ((congrFun F.1 10).trans s_10) rfl ((congrFun (F.2.1 10 (by decide)) 6).trans r_10_6) ?_
  refine X_iload_n rfl rfl rfl rfl ?_
  refine X_iald (v := (-1 : Int32)) rfl rfl ((congrFun F.1 13).trans s_13) (vp_in_d rfl) ((congrFun (F.2.2 13 (by decide)).1 1).trans i_13_1) ?_
  refine X_iconst (v := (-1 : Int32)) rfl rfl rfl ?_
  refine X_icmp_eq (tgt := 31) rfl rfl rfl (fun _ => ?_) (fun q => absurd q (by decide))
  refine X_iinc (v := (2 : Int32)) (ls' := [some (.ref 10), some (.int (0 : Int32)), some (.int (2 : Int32))]) rfl rfl rfl rfl rfl ?_
  refine LW_goto (tgt := 7) rfl rfl ?_
  refine X_iload_n rfl rfl rfl rfl ?_
  refine X_bipush (v := (26 : Int32)) rfl rfl rfl ?_
  refine X_icmp_ge (tgt := 37) rfl rfl rfl (fun q => absurd q (by decide)) (fun _ => ?_)
  refine X_aload_n rfl rfl rfl rfl ?_
  refine X_getR (a := 13) rfl rfl rfl ((congrFun F.1 10).trans s_10) rfl ((congrFun (F.2.1 10 (by decide)) 6).trans r_10_6) ?_
  refine X_iload_n rfl rfl rfl rfl ?_
  refine X_iald (v := (-1 : Int32)) rfl rfl ((congrFun F.1 13).trans s_13) (vp_in_d rfl) ((congrFun (F.2.2 13 (by decide)).1 2).trans i_13_2) ?_
  refine X_iconst (v := (-1 : Int32)) rfl rfl rfl ?_
  refine X_icmp_eq (tgt := 31) rfl rfl rfl (fun _ => ?_) (fun q => absurd q (by decide))
  refine X_iinc (v := (3 : Int32)) (ls' := [some (.ref 10), some (.int (0 : Int32)), some (.int (3 : Int32))]) rfl rfl rfl rfl rfl ?_
  refine LW_goto (tgt := 7) rfl rfl ?_
  refine X_iload_n rfl rfl rfl rfl ?_
  refine X_bipush (v := (26 : Int32)) rfl rfl rfl ?_
  refine X_icmp_ge (tgt := 37) rfl rfl rfl (fun q => absurd q (by decide)) (fun _ => ?_)
  refine X_aload_n rfl rfl rfl rfl ?_
  refine X_getR (a := 13) rfl rfl rfl ((congrFun F.1 10).trans s_10) rfl ((congrFun (F.2.1 10 (by decide)) 6).trans r_10_6) ?_
  refine X_iload_n rfl rfl rfl rfl ?_
  refine X_iald (v := (-1 : Int32)) rfl rfl ((congrFun F.1 13).trans s_13) (vp_in_d rfl) ((congrFun (F.2.2 13 (by decide)).1 3).trans i_13_3) ?_
  refine X_iconst (v := (-1 : Int32)) rfl rfl rfl ?_
  refine X_icmp_eq (tgt := 31) rfl rfl rfl (fun _ => ?_) (fun q => absurd q (by decide))
  refine X_iinc (v := (4 : Int32)) (ls' := [some (.ref 10), some (.int (0 : Int32)), some (.int (4 : Int32))]) rfl rfl rfl rfl rfl ?_
  refine LW_goto (tgt := 7) rfl rfl ?_
  refine X_iload_n rfl rfl rfl rfl ?_
  refine X_bipush (v := (26 : Int32)) rfl rfl rfl ?_
  refine X_icmp_ge (tgt := 37) rfl rfl rfl (fun q => absurd q (by decide)) (fun _ => ?_)
  refine X_aload_n rfl rfl rfl rfl ?_
  refine X_getR (a := 13) rfl rfl rfl ((congrFun F.1 10).trans s_10) rfl ((congrFun (F.2.1 10 (by decide)) 6).trans r_10_6) ?_
  refine X_iload_n rfl rfl rfl rfl ?_
  refine X_iald (v := (-1 : Int32)) rfl rfl ((congrFun F.1 13).trans s_13) (vp_in_d rfl) ((congrFun (F.2.2 13 (by decide)).1 4).trans i_13_4) ?_
  refine X_iconst (v := (-1 : Int32)) rfl rfl rfl ?_
  refine X_icmp_eq (tgt := 31) rfl rfl rfl (fun _ => ?_) (fun q => absurd q (by decide))
  refine X_iinc (v := (5 : Int32)) (ls' := [some (.ref 10), some (.int (0 : Int32)), some (.int (5 : Int32))]) rfl rfl rfl rfl rfl ?_
  refine LW_goto (tgt := 7) rfl rfl ?_
  refine X_iload_n rfl rfl rfl rfl ?_
  refine X_bipush (v := (26 : Int32)) rfl rfl rfl ?_
  refine X_icmp_ge (tgt := 37) rfl rfl rfl (fun q => absurd q (by decide)) (fun _ => ?_)
  refine X_aload_n rfl rfl rfl rfl ?_
  refine X_getR (a := 13) rfl rfl rfl ((congrFun F.1 10).trans s_10) rfl ((congrFun (F.2.1 10 (by decide)) 6).trans r_10_6) ?_
  refine X_iload_n rfl rfl rfl rfl ?_
  refine X_iald (v := (-1 : Int32)) rfl rfl ((congrFun F.1 13).trans s_13) (vp_in_d rfl) ((congrFun (F.2.2 13 (by decide)).1 5).trans i_13_5) ?_
  refine X_iconst (v := (-1 : Int32)) rfl rfl rfl ?_
  refine X_icmp_eq (tgt := 31) rfl rfl rfl (fun _ => ?_) (fun q => absurd q (by decide))
  refine X_iinc (v := (6 : Int32)) (ls' := [some (.ref 10), some (.int (0 : Int32)), some (.int (6 : Int32))]) rfl rfl rfl rfl rfl ?_
  refine LW_goto (tgt := 7) rfl rfl ?_
  refine X_iload_n rfl rfl rfl rfl ?_
  refine X_bipush (v := (26 : Int32)) rfl rfl rfl ?_
  refine X_icmp_ge (tgt := 37) rfl rfl rfl (fun q => absurd q (by decide)) (fun _ => ?_)
  refine X_aload_n rfl rfl rfl rfl ?_
  refine X_getR (a := 13) rfl rfl rfl ((congrFun F.1 10).trans s_10) rfl ((congrFun (F.2.1 10 (by decide)) 6).trans r_10_6) ?_
  refine X_iload_n rfl rfl rfl rfl ?_
  refine X_iald (v := (-1 : Int32)) rfl rfl ((congrFun F.1 13).trans s_13) (vp_in_d rfl) ((congrFun (F.2.2 13 (by decide)).1 6).trans i_13_6) ?_
  refine X_iconst (v := (-1 : Int32)) rfl rfl rfl ?_
  refine X_icmp_eq (tgt := 31) rfl rfl rfl (fun _ => ?_) (fun q => absurd q (by decide))
  refine X_iinc (v := (7 : Int32)) (ls' := [some (.ref 10), some (.int (0 : Int32)), some (.int (7 : Int32))]) rfl rfl rfl rfl rfl ?_
  refine LW_goto (tgt := 7) rfl rfl ?_
  refine X_iload_n rfl rfl rfl rfl ?_
  refine X_bipush (v := (26 : Int32)) rfl rfl rfl ?_
  refine X_icmp_ge (tgt := 37) rfl rfl rfl (fun q => absurd q (by decide)) (fun _ => ?_)
  refine X_aload_n rfl rfl rfl rfl ?_
  refine X_getR (a := 13) rfl rfl rfl ((congrFun F.1 10).trans s_10) rfl ((congrFun (F.2.1 10 (by decide)) 6).trans r_10_6) ?_
  refine X_iload_n rfl rfl rfl rfl ?_
  refine X_iald (v := (-1 : Int32)) rfl rfl ((congrFun F.1 13).trans s_13) (vp_in_d rfl) ((congrFun (F.2.2 13 (by decide)).1 7).trans i_13_7) ?_
  refine X_iconst (v := (-1 : Int32)) rfl rfl rfl ?_
  refine X_icmp_eq (tgt := 31) rfl rfl rfl (fun _ => ?_) (fun q => absurd q (by decide))
  refine X_iinc (v := (8 : Int32)) (ls' := [some (.ref 10), some (.int (0 : Int32)), some (.int (8 : Int32))]) rfl rfl rfl rfl rfl ?_
  refine LW_goto (tgt := 7) rfl rfl ?_
  refine X_iload_n rfl rfl rfl rfl ?_
  refine X_bipush (v := (26 : Int32)) rfl rfl rfl ?_
  refine X_icmp_ge (tgt := 37) rfl rfl rfl (fun q => absurd q (by decide)) (fun _ => ?_)
  refine X_aload_n rfl rfl rfl rfl ?_
  refine X_getR (a := 13) rfl rfl rfl ((congrFun F.1 10).trans s_10) rfl ((congrFun (F.2.1 10 (by decide)) 6).trans r_10_6) ?_
  refine X_iload_n rfl rfl rfl rfl ?_
  refine X_iald (v := (-1 : Int32)) rfl rfl ((congrFun F.1 13).trans s_13) (vp_in_d rfl) ((congrFun (F.2.2 13 (by decide)).1 8).trans i_13_8) ?_
  refine X_iconst (v := (-1 : Int32)) rfl rfl rfl ?_
  refine X_icmp_eq (tgt := 31) rfl rfl rfl (fun _ => ?_) (fun q => absurd q (by decide))
  refine X_iinc (v := (9 : Int32)) (ls' := [some (.ref 10), some (.int (0 : Int32)), some (.int (9 : Int32))]) rfl rfl rfl rfl rfl ?_
  refine LW_goto (tgt := 7) rfl rfl ?_
  refine X_iload_n rfl rfl rfl rfl ?_
  refine X_bipush (v := (26 : Int32)) rfl rfl rfl ?_
  refine X_icmp_ge (tgt := 37) rfl rfl rfl (fun q => absurd q (by decide)) (fun _ => ?_)
  refine X_aload_n rfl rfl rfl rfl ?_
  refine X_getR (a := 13) rfl rfl rfl ((congrFun F.1 10).trans s_10) rfl ((congrFun (F.2.1 10 (by decide)) 6).trans r_10_6) ?_
  refine X_iload_n rfl rfl rfl rfl ?_
  refine X_iald (v := (-1 : Int32)) rfl rfl ((congrFun F.1 13).trans s_13) (vp_in_d rfl) ((congrFun (F.2.2 13 (by decide)).1 9).trans i_13_9) ?_
  refine X_iconst (v := (-1 : Int32)) rfl rfl rfl ?_
  refine X_icmp_eq (tgt := 31) rfl rfl rfl (fun _ => ?_) (fun q => absurd q (by decide))
  refine X_iinc (v := (10 : Int32)) (ls' := [some (.ref 10), some (.int (0 : Int32)), some (.int (10 : Int32))]) rfl rfl rfl rfl rfl ?_
  refine LW_goto (tgt := 7) rfl rfl ?_
  refine X_iload_n rfl rfl rfl rfl ?_
  refine X_bipush (v := (26 : Int32)) rfl rfl rfl ?_
  refine X_icmp_ge (tgt := 37) rfl rfl rfl (fun q => absurd q (by decide)) (fun _ => ?_)
  refine X_aload_n rfl rfl rfl rfl ?_
  refine X_getR (a := 13) rfl rfl rfl ((congrFun F.1 10).trans s_10) rfl ((congrFun (F.2.1 10 (by decide)) 6).trans r_10_6) ?_
  refine X_iload_n rfl rfl rfl rfl ?_
  refine X_iald (v := (-1 : Int32)) rfl rfl ((congrFun F.1 13).trans s_13) (vp_in_d rfl) ((congrFun (F.2.2 13 (by decide)).1 10).trans i_13_10) ?_
  refine X_iconst (v := (-1 : Int32)) rfl rfl rfl ?_
  refine X_icmp_eq (tgt := 31) rfl rfl rfl (fun _ => ?_) (fun q => absurd q (by decide))
  refine X_iinc (v := (11 : Int32)) (ls' := [some (.ref 10), some (.int (0 : Int32)), some (.int (11 : Int32))]) rfl rfl rfl rfl rfl ?_
  refine LW_goto (tgt := 7) rfl rfl ?_
  refine X_iload_n rfl rfl rfl rfl ?_
  refine X_bipush (v := (26 : Int32)) rfl rfl rfl ?_
  refine X_icmp_ge (tgt := 37) rfl rfl rfl (fun q => absurd q (by decide)) (fun _ => ?_)
  refine X_aload_n rfl rfl rfl rfl ?_
  refine X_getR (a := 13) rfl rfl rfl ((congrFun F.1 10).trans s_10) rfl ((congrFun (F.2.1 10 (by decide)) 6).trans r_10_6) ?_
  refine X_iload_n rfl rfl rfl rfl ?_
  refine X_iald (v := (-1 : Int32)) rfl rfl ((congrFun F.1 13).trans s_13) (vp_in_d rfl) ((congrFun (F.2.2 13 (by decide)).1 11).trans i_13_11) ?_
  refine X_iconst (v := (-1 : Int32)) rfl rfl rfl ?_
  refine X_icmp_eq (tgt := 31) rfl rfl rfl (fun _ => ?_) (fun q => absurd q (by decide))
  refine X_iinc (v := (12 : Int32)) (ls' := [some (.ref 10), some (.int (0 : Int32)), some (.int (12 : Int32))]) rfl rfl rfl rfl rfl ?_
  refine LW_goto (tgt := 7) rfl rfl ?_
  refine X_iload_n rfl rfl rfl rfl ?_
  refine X_bipush (v := (26 : Int32)) rfl rfl rfl ?_
  refine X_icmp_ge (tgt := 37) rfl rfl rfl (fun q => absurd q (by decide)) (fun _ => ?_)
  refine X_aload_n rfl rfl rfl rfl ?_
  refine X_getR (a := 13) rfl rfl rfl ((congrFun F.1 10).trans s_10) rfl ((congrFun (F.2.1 10 (by decide)) 6).trans r_10_6) ?_
  refine X_iload_n rfl rfl rfl rfl ?_
  refine X_iald (v := (-1 : Int32)) rfl rfl ((congrFun F.1 13).trans s_13) (vp_in_d rfl) ((congrFun (F.2.2 13 (by decide)).1 12).trans i_13_12) ?_
  refine X_iconst (v := (-1 : Int32)) rfl rfl rfl ?_
  refine X_icmp_eq (tgt := 31) rfl rfl rfl (fun _ => ?_) (fun q => absurd q (by decide))
  refine X_iinc (v := (13 : Int32)) (ls' := [some (.ref 10), some (.int (0 : Int32)), some (.int (13 : Int32))]) rfl rfl rfl rfl rfl ?_
  refine LW_goto (tgt := 7) rfl rfl ?_
  refine X_iload_n rfl rfl rfl rfl ?_
  refine X_bipush (v := (26 : Int32)) rfl rfl rfl ?_
  refine X_icmp_ge (tgt := 37) rfl rfl rfl (fun q => absurd q (by decide)) (fun _ => ?_)
  refine X_aload_n rfl rfl rfl rfl ?_
  refine X_getR (a := 13) rfl rfl rfl ((congrFun F.1 10).trans s_10) rfl ((congrFun (F.2.1 10 (by decide)) 6).trans r_10_6) ?_
  refine X_iload_n rfl rfl rfl rfl ?_
  refine X_iald (v := (-1 : Int32)) rfl rfl ((congrFun F.1 13).trans s_13) (vp_in_d rfl) ((congrFun (F.2.2 13 (by decide)).1 13).trans i_13_13) ?_
  refine X_iconst (v := (-1 : Int32)) rfl rfl rfl ?_
  refine X_icmp_eq (tgt := 31) rfl rfl rfl (fun _ => ?_) (fun q => absurd q (by decide))
  refine X_iinc (v := (14 : Int32)) (ls' := [some (.ref 10), some (.int (0 : Int32)), some (.int (14 : Int32))]) rfl rfl rfl rfl rfl ?_
  refine LW_goto (tgt := 7) rfl rfl ?_
  refine X_iload_n rfl rfl rfl rfl ?_
  refine X_bipush (v := (26 : Int32)) rfl rfl rfl ?_
  refine X_icmp_ge (tgt := 37) rfl rfl rfl (fun q => absurd q (by decide)) (fun _ => ?_)
  refine X_aload_n rfl rfl rfl rfl ?_
  refine X_getR (a := 13) rfl rfl rfl ((congrFun F.1 10).trans s_10) rfl ((congrFun (F.2.1 10 (by decide)) 6).trans r_10_6) ?_
  refine X_iload_n rfl rfl rfl rfl ?_
  refine X_iald (v := (-1 : Int32)) rfl rfl ((congrFun F.1 13).trans s_13) (vp_in_d rfl) ((congrFun (F.2.2 13 (by decide)).1 14).trans i_13_14) ?_
  refine X_iconst (v := (-1 : Int32)) rfl rfl rfl ?_
  refine X_icmp_eq (tgt := 31) rfl rfl rfl (fun _ => ?_) (fun q => absurd q (by decide))
  refine X_iinc (v := (15 : Int32)) (ls' := [some (.ref 10), some (.int (0 : Int32)), some (.int (15 : Int32))]) rfl rfl rfl rfl rfl ?_
  refine LW_goto (tgt := 7) rfl rfl ?_
  refine X_iload_n rfl rfl rfl rfl ?_
  refine X_bipush (v := (26 : Int32)) rfl rfl rfl ?_
  refine X_icmp_ge (tgt := 37) rfl rfl rfl (fun q => absurd q (by decide)) (fun _ => ?_)
  refine X_aload_n rfl rfl rfl rfl ?_
  refine X_getR (a := 13) rfl rfl rfl ((congrFun F.1 10).trans s_10) rfl ((congrFun (F.2.1 10 (by decide)) 6).trans r_10_6) ?_
  refine X_iload_n rfl rfl rfl rfl ?_
  refine X_iald (v := (-1 : Int32)) rfl rfl ((congrFun F.1 13).trans s_13) (vp_in_d rfl) ((congrFun (F.2.2 13 (by decide)).1 15).trans i_13_15) ?_
  refine X_iconst (v := (-1 : Int32)) rfl rfl rfl ?_
  refine X_icmp_eq (tgt := 31) rfl rfl rfl (fun _ => ?_) (fun q => absurd q (by decide))
  refine X_iinc (v := (16 : Int32)) (ls' := [some (.ref 10), some (.int (0 : Int32)), some (.int (16 : Int32))]) rfl rfl rfl rfl rfl ?_
  refine LW_goto (tgt := 7) rfl rfl ?_
  refine X_iload_n rfl rfl rfl rfl ?_
  refine X_bipush (v := (26 : Int32)) rfl rfl rfl ?_
  refine X_icmp_ge (tgt := 37) rfl rfl rfl (fun q => absurd q (by decide)) (fun _ => ?_)
  refine X_aload_n rfl rfl rfl rfl ?_
  refine X_getR (a := 13) rfl rfl rfl ((congrFun F.1 10).trans s_10) rfl ((congrFun (F.2.1 10 (by decide)) 6).trans r_10_6) ?_
  refine X_iload_n rfl rfl rfl rfl ?_
  refine X_iald (v := (-1 : Int32)) rfl rfl ((congrFun F.1 13).trans s_13) (vp_in_d rfl) ((congrFun (F.2.2 13 (by decide)).1 16).trans i_13_16) ?_
  refine X_iconst (v := (-1 : Int32)) rfl rfl rfl ?_
  refine X_icmp_eq (tgt := 31) rfl rfl rfl (fun _ => ?_) (fun q => absurd q (by decide))
  refine X_iinc (v := (17 : Int32)) (ls' := [some (.ref 10), some (.int (0 : Int32)), some (.int (17 : Int32))]) rfl rfl rfl rfl rfl ?_
  refine LW_goto (tgt := 7) rfl rfl ?_
  refine X_iload_n rfl rfl rfl rfl ?_
  refine X_bipush (v := (26 : Int32)) rfl rfl rfl ?_
  refine X_icmp_ge (tgt := 37) rfl rfl rfl (fun q => absurd q (by decide)) (fun _ => ?_)
  refine X_aload_n rfl rfl rfl rfl ?_
  refine X_getR (a := 13) rfl rfl rfl ((congrFun F.1 10).trans s_10) rfl ((congrFun (F.2.1 10 (by decide)) 6).trans r_10_6) ?_
  refine X_iload_n rfl rfl rfl rfl ?_
  refine X_iald (v := (-1 : Int32)) rfl rfl ((congrFun F.1 13).trans s_13) (vp_in_d rfl) ((congrFun (F.2.2 13 (by decide)).1 17).trans i_13_17) ?_
  refine X_iconst (v := (-1 : Int32)) rfl rfl rfl ?_
  refine X_icmp_eq (tgt := 31) rfl rfl rfl (fun _ => ?_) (fun q => absurd q (by decide))
  refine X_iinc (v := (18 : Int32)) (ls' := [some (.ref 10), some (.int (0 : Int32)), some (.int (18 : Int32))]) rfl rfl rfl rfl rfl ?_
  refine LW_goto (tgt := 7) rfl rfl ?_
  refine X_iload_n rfl rfl rfl rfl ?_
  refine X_bipush (v := (26 : Int32)) rfl rfl rfl ?_
  refine X_icmp_ge (tgt := 37) rfl rfl rfl (fun q => absurd q (by decide)) (fun _ => ?_)
  refine X_aload_n rfl rfl rfl rfl ?_
  refine X_getR (a := 13) rfl rfl rfl ((congrFun F.1 10).trans s_10) rfl ((congrFun (F.2.1 10 (by decide)) 6).trans r_10_6) ?_
  refine X_iload_n rfl rfl rfl rfl ?_
  refine X_iald (v := (-1 : Int32)) rfl rfl ((congrFun F.1 13).trans s_13) (vp_in_d rfl) ((congrFun (F.2.2 13 (by decide)).1 18).trans i_13_18) ?_
  refine X_iconst (v := (-1 : Int32)) rfl rfl rfl ?_
  refine X_icmp_eq (tgt := 31) rfl rfl rfl (fun _ => ?_) (fun q => absurd q (by decide))
  refine X_iinc (v := (19 : Int32)) (ls' := [some (.ref 10), some (.int (0 : Int32)), some (.int (19 : Int32))]) rfl rfl rfl rfl rfl ?_
  refine LW_goto (tgt := 7) rfl rfl ?_
  refine X_iload_n rfl rfl rfl rfl ?_
  refine X_bipush (v := (26 : Int32)) rfl rfl rfl ?_
  refine X_icmp_ge (tgt := 37) rfl rfl rfl (fun q => absurd q (by decide)) (fun _ => ?_)
  refine X_aload_n rfl rfl rfl rfl ?_
  refine X_getR (a := 13) rfl rfl rfl ((congrFun F.1 10).trans s_10) rfl ((congrFun (F.2.1 10 (by decide)) 6).trans r_10_6) ?_
  refine X_iload_n rfl rfl rfl rfl ?_
  refine X_iald (v := (-1 : Int32)) rfl rfl ((congrFun F.1 13).trans s_13) (vp_in_d rfl) ((congrFun (F.2.2 13 (by decide)).1 19).trans i_13_19) ?_
  refine X_iconst (v := (-1 : Int32)) rfl rfl rfl ?_
  refine X_icmp_eq (tgt := 31) rfl rfl rfl (fun _ => ?_) (fun q => absurd q (by decide))
  refine X_iinc (v := (20 : Int32)) (ls' := [some (.ref 10), some (.int (0 : Int32)), some (.int (20 : Int32))]) rfl rfl rfl rfl rfl ?_
  refine LW_goto (tgt := 7) rfl rfl ?_
  refine X_iload_n rfl rfl rfl rfl ?_
  refine X_bipush (v := (26 : Int32)) rfl rfl rfl ?_
  refine X_icmp_ge (tgt := 37) rfl rfl rfl (fun q => absurd q (by decide)) (fun _ => ?_)
  refine X_aload_n rfl rfl rfl rfl ?_
  refine X_getR (a := 13) rfl rfl rfl ((congrFun F.1 10).trans s_10) rfl ((congrFun (F.2.1 10 (by decide)) 6).trans r_10_6) ?_
  refine X_iload_n rfl rfl rfl rfl ?_
  refine X_iald (v := (-1 : Int32)) rfl rfl ((congrFun F.1 13).trans s_13) (vp_in_d rfl) ((congrFun (F.2.2 13 (by decide)).1 20).trans i_13_20) ?_
  refine X_iconst (v := (-1 : Int32)) rfl rfl rfl ?_
  refine X_icmp_eq (tgt := 31) rfl rfl rfl (fun _ => ?_) (fun q => absurd q (by decide))
  refine X_iinc (v := (21 : Int32)) (ls' := [some (.ref 10), some (.int (0 : Int32)), some (.int (21 : Int32))]) rfl rfl rfl rfl rfl ?_
  refine LW_goto (tgt := 7) rfl rfl ?_
  refine X_iload_n rfl rfl rfl rfl ?_
  refine X_bipush (v := (26 : Int32)) rfl rfl rfl ?_
  refine X_icmp_ge (tgt := 37) rfl rfl rfl (fun q => absurd q (by decide)) (fun _ => ?_)
  refine X_aload_n rfl rfl rfl rfl ?_
  refine X_getR (a := 13) rfl rfl rfl ((congrFun F.1 10).trans s_10) rfl ((congrFun (F.2.1 10 (by decide)) 6).trans r_10_6) ?_
  refine X_iload_n rfl rfl rfl rfl ?_
  refine X_iald (v := (-1 : Int32)) rfl rfl ((congrFun F.1 13).trans s_13) (vp_in_d rfl) ((congrFun (F.2.2 13 (by decide)).1 21).trans i_13_21) ?_
  refine X_iconst (v := (-1 : Int32)) rfl rfl rfl ?_
  refine X_icmp_eq (tgt := 31) rfl rfl rfl (fun _ => ?_) (fun q => absurd q (by decide))
  refine X_iinc (v := (22 : Int32)) (ls' := [some (.ref 10), some (.int (0 : Int32)), some (.int (22 : Int32))]) rfl rfl rfl rfl rfl ?_
  refine LW_goto (tgt := 7) rfl rfl ?_
  refine X_iload_n rfl rfl rfl rfl ?_
  refine X_bipush (v := (26 : Int32)) rfl rfl rfl ?_
  refine X_icmp_ge (tgt := 37) rfl rfl rfl (fun q => absurd q (by decide)) (fun _ => ?_)
  refine X_aload_n rfl rfl rfl rfl ?_
  refine X_getR (a := 13) rfl rfl rfl ((congrFun F.1 10).trans s_10) rfl ((congrFun (F.2.1 10 (by decide)) 6).trans r_10_6) ?_
  refine X_iload_n rfl rfl rfl rfl ?_
  refine X_iald (v := (-1 : Int32)) rfl rfl ((congrFun F.1 13).trans s_13) (vp_in_d rfl) ((congrFun (F.2.2 13 (by decide)).1 22).trans i_13_22) ?_
  refine X_iconst (v := (-1 : Int32)) rfl rfl rfl ?_
  refine X_icmp_eq (tgt := 31) rfl rfl rfl (fun _ => ?_) (fun q => absurd q (by decide))
  refine X_iinc (v := (23 : Int32)) (ls' := [some (.ref 10), some (.int (0 : Int32)), some (.int (23 : Int32))]) rfl rfl rfl rfl rfl ?_
  refine LW_goto (tgt := 7) rfl rfl ?_
  refine X_iload_n rfl rfl rfl rfl ?_
  refine X_bipush (v := (26 : Int32)) rfl rfl rfl ?_
  refine X_icmp_ge (tgt := 37) rfl rfl rfl (fun q => absurd q (by decide)) (fun _ => ?_)
  refine X_aload_n rfl rfl rfl rfl ?_
  refine X_getR (a := 13) rfl rfl rfl ((congrFun F.1 10).trans s_10) rfl ((congrFun (F.2.1 10 (by decide)) 6).trans r_10_6) ?_
  refine X_iload_n rfl rfl rfl rfl ?_
  refine X_iald (v := (-1 : Int32)) rfl rfl ((congrFun F.1 13).trans s_13) (vp_in_d rfl) ((congrFun (F.2.2 13 (by decide)).1 23).trans i_13_23) ?_
  refine X_iconst (v := (-1 : Int32)) rfl rfl rfl ?_
  refine X_icmp_eq (tgt := 31) rfl rfl rfl (fun _ => ?_) (fun q => absurd q (by decide))
  refine X_iinc (v := (24 : Int32)) (ls' := [some (.ref 10), some (.int (0 : Int32)), some (.int (24 : Int32))]) rfl rfl rfl rfl rfl ?_
  refine LW_goto (tgt := 7) rfl rfl ?_
  refine X_iload_n rfl rfl rfl rfl ?_
  refine X_bipush (v := (26 : Int32)) rfl rfl rfl ?_
  refine X_icmp_ge (tgt := 37) rfl rfl rfl (fun q => absurd q (by decide)) (fun _ => ?_)
  refine X_aload_n rfl rfl rfl rfl ?_
  refine X_getR (a := 13) rfl rfl rfl ((congrFun F.1 10).trans s_10) rfl ((congrFun (F.2.1 10 (by decide)) 6).trans r_10_6) ?_
  refine X_iload_n rfl rfl rfl rfl ?_
  refine X_iald (v := (-1 : Int32)) rfl rfl ((congrFun F.1 13).trans s_13) (vp_in_d rfl) ((congrFun (F.2.2 13 (by decide)).1 24).trans i_13_24) ?_
  refine X_iconst (v := (-1 : Int32)) rfl rfl rfl ?_
  refine X_icmp_eq (tgt := 31) rfl rfl rfl (fun _ => ?_) (fun q => absurd q (by decide))
  refine X_iinc (v := (25 : Int32)) (ls' := [some (.ref 10), some (.int (0 : Int32)), some (.int (25 : Int32))]) rfl rfl rfl rfl rfl ?_
  refine LW_goto (tgt := 7) rfl rfl ?_
  refine X_iload_n rfl rfl rfl rfl ?_
  refine X_bipush (v := (26 : Int32)) rfl rfl rfl ?_
  refine X_icmp_ge (tgt := 37) rfl rfl rfl (fun q => absurd q (by decide)) (fun _ => ?_)
  refine X_aload_n rfl rfl rfl rfl ?_
  refine X_getR (a := 13) rfl rfl rfl ((congrFun F.1 10).trans s_10) rfl ((congrFun (F.2.1 10 (by decide)) 6).trans r_10_6) ?_
  refine X_iload_n rfl rfl rfl rfl ?_
  refine X_iald (v := (-1 : Int32)) rfl rfl ((congrFun F.1 13).trans s_13) (vp_in_d rfl) ((congrFun (F.2.2 13 (by decide)).1 25).trans i_13_25) ?_
  refine X_iconst (v := (-1 : Int32)) rfl rfl rfl ?_
  refine X_icmp_eq (tgt := 31) rfl rfl rfl (fun _ => ?_) (fun q => absurd q (by decide))
  refine X_iinc (v := (26 : Int32)) (ls' := [some (.ref 10), some (.int (0 : Int32)), some (.int (26 : Int32))]) rfl rfl rfl rfl rfl ?_
  refine LW_goto (tgt := 7) rfl rfl ?_
  refine X_iload_n rfl rfl rfl rfl ?_
  refine X_bipush (v := (26 : Int32)) rfl rfl rfl ?_
  refine X_icmp_ge (tgt := 37) rfl rfl rfl (fun _ => ?_) (fun q => absurd q (by decide))
  refine X_iload_n rfl rfl rfl rfl ?_
  refine LW_ireturn (st := []) rfl rfl rfl ?_
  refine X_istore_n (i := 2) (ls' := [some (.ref 0), some (.int a), some (.int (0 : Int32)), none, none]) rfl rfl rfl (Nat.le_of_ble_eq_true rfl) rfl ?_
  refine X_aload_n rfl rfl rfl rfl ?_
  refine X_getR (a := 1) rfl rfl rfl ((congrFun F.1 0).trans s_0) rfl ((congrFun (F.2.1 0 (by decide)) 0).trans r_0_0) ?_
  refine X_getR (a := 2) rfl rfl rfl ((congrFun F.1 1).trans s_1) rfl ((congrFun (F.2.1 1 (by decide)) 0).trans r_1_0) ?_
  refine X_iload_n rfl rfl rfl rfl ?_
  refine X_iload_n rfl rfl rfl rfl ?_
  refine X_callV (as := [.int a, .int (0 : Int32)]) (st := []) rfl rfl rfl (by decide) rfl (Nat.le_of_ble_eq_true rfl) (by decide) (Nat.le_of_ble_eq_true rfl) rfl ((congrFun F.1 2).trans s_2) (by decide) ?_
  refine LW_ls (ls' := [some (.ref 2), some (.int a), some (.int (0 : Int32))]) rfl ?_
  refine X_aload_n rfl rfl rfl rfl ?_
  refine X_iload_n rfl rfl rfl rfl ?_
  refine X_callV (as := [.int a]) (st := []) rfl rfl rfl (by decide) rfl (Nat.le_of_ble_eq_true rfl) (by decide) (Nat.le_of_ble_eq_true rfl) rfl ((congrFun F.1 2).trans s_2) (by decide) ?_
  refine LW_ls (ls' := [some (.ref 2), some (.int a)]) rfl ?_
  refine X_iload_n rfl rfl rfl rfl ?_
  refine X_if_lt (tgt := 22) rfl rfl rfl (fun h1 => ?_) (fun h1 => ?_)
  · refine X_iconst (v := (0 : Int32)) rfl rfl rfl ?_
    refine LW_ireturn (st := []) rfl rfl rfl ?_
    refine X_if_eq (tgt := 29) rfl rfl rfl (fun _ => ?_) (fun q => absurd q (by decide))
    refine X_iconst (v := (0 : Int32)) rfl rfl rfl ?_
    refine LW_ireturn (st := []) rfl rfl rfl ?_
    refine X_if_ne (tgt := 28) rfl rfl rfl (fun q => absurd q (by decide)) (fun _ => ?_)
    refine X_iconst (v := (-1 : Int32)) rfl rfl rfl ?_
    refine LW_ireturn (st := []) rfl rfl rfl ⟨congrArg (fun z => some (Value.int z)) ?_, E⟩
    simp only [Int32.lt_iff_toInt_lt, Int32.le_iff_toInt_le, ← Int32.toInt_inj, (show (0 : Int32).toInt = 0 from rfl)] at h1
    unfold f_dear
    repeat' split
    all_goals first | rfl | (exfalso; omega) | (refine Int32.toInt_inj.mp ?_; rw [show (0 : Int32).toInt = 0 from rfl]; omega)
  · refine X_iload_n rfl rfl rfl rfl ?_
    refine X_aload_n rfl rfl rfl rfl ?_
    refine X_getI (v := (0 : Int32)) rfl rfl rfl ((congrFun F.1 2).trans s_2) rfl ((congrFun (F.2.2 2 (by decide)).1 1).trans i_2_1) ?_
    refine X_icmp_ge (tgt := 22) rfl rfl rfl (fun h2 => ?_) (fun h2 => ?_)
    · refine X_iconst (v := (0 : Int32)) rfl rfl rfl ?_
      refine LW_ireturn (st := []) rfl rfl rfl ?_
      refine X_if_eq (tgt := 29) rfl rfl rfl (fun _ => ?_) (fun q => absurd q (by decide))
      refine X_iconst (v := (0 : Int32)) rfl rfl rfl ?_
      refine LW_ireturn (st := []) rfl rfl rfl ?_
      refine X_if_ne (tgt := 28) rfl rfl rfl (fun q => absurd q (by decide)) (fun _ => ?_)
      refine X_iconst (v := (-1 : Int32)) rfl rfl rfl ?_
      refine LW_ireturn (st := []) rfl rfl rfl ⟨congrArg (fun z => some (Value.int z)) ?_, E⟩
      simp only [Int32.lt_iff_toInt_lt, Int32.le_iff_toInt_le, ← Int32.toInt_inj, (show (0 : Int32).toInt = 0 from rfl)] at h1 h2
      unfold f_dear
      repeat' split
      all_goals first | rfl | (exfalso; omega) | (refine Int32.toInt_inj.mp ?_; rw [show (0 : Int32).toInt = 0 from rfl]; omega)
    · exfalso
      simp only [Int32.lt_iff_toInt_lt, Int32.le_iff_toInt_le, ← Int32.toInt_inj, (show (0 : Int32).toInt = 0 from rfl)] at h1 h2
      omega
set_option maxRecDepth 10000 in
set_option maxHeartbeats 4000000 in
theorem r_dear {g : LH} (F : Fr g) (a : Int32) : LW 277 30 0 0 0 (lEnt (mL 277) [.ref 355, .int a]) [] g (fun v _ => v = some (.int (f_dear a))) := by
  refine LW_ls (ls' := [some (.ref 355), some (.int a), none, none]) rfl ?_
  refine X_aload_n rfl rfl rfl rfl ?_
  refine X_iload_n rfl rfl rfl rfl ?_
  refine X_callV (as := [.int a]) (st := []) rfl rfl rfl (by decide) rfl (Nat.le_of_ble_eq_true rfl) (by decide) (Nat.le_of_ble_eq_true rfl) rfl ((congrFun F.1 355).trans s_355) (by decide) ?_
  refine LW_ls (ls' := [some (.ref 355), some (.int a)]) rfl ?_
  refine X_iload_n rfl rfl rfl rfl ?_
  refine X_iconst (v := (0 : Int32)) rfl rfl rfl ?_
  refine X_aload_n rfl rfl rfl rfl ?_
  refine X_getR (a := 356) rfl rfl rfl ((congrFun F.1 355).trans s_355) rfl ((congrFun (F.2.1 355 (by decide)) 0).trans r_355_0) ?_
  refine X_iconst (v := (1 : Int32)) rfl rfl rfl ?_
  refine X_iald (v := (0 : Int32)) rfl rfl ((congrFun F.1 356).trans s_356) (vp_in_d rfl) ((congrFun (F.2.2 356 (by decide)).1 1).trans i_356_1) ?_
  refine X_iconst (v := (1 : Int32)) rfl rfl rfl ?_
  refine X_isub (v := (-1 : Int32)) rfl rfl rfl ?_
  refine X_callS (as := [.int a, .int (0 : Int32), .int (-1 : Int32)]) (st := []) rfl rfl rfl (by decide) rfl (Nat.le_of_ble_eq_true rfl) (by decide) (Nat.le_of_ble_eq_true rfl) rfl ?_
  refine LW_ls (ls' := [some (.int a), some (.int (0 : Int32)), some (.int (-1 : Int32))]) rfl ?_
  refine X_iload_n rfl rfl rfl rfl ?_
  refine X_iload_n rfl rfl rfl rfl ?_
  refine X_icmp_lt (tgt := 14) rfl rfl rfl (fun h1 => ?_) (fun h1 => ?_)
  · refine X_iconst (v := (0 : Int32)) rfl rfl rfl ?_
    refine LW_ireturn (st := []) rfl rfl rfl ?_
    refine LW_ireturn (st := []) rfl rfl rfl ?_
    refine X_if_eq (tgt := 18) rfl rfl rfl (fun _ => ?_) (fun q => absurd q (by decide))
    refine X_iconst (v := (-1 : Int32)) rfl rfl rfl ?_
    refine LW_ireturn (st := []) rfl rfl rfl (congrArg (fun z => some (Value.int z)) ?_)
    simp only [Int32.lt_iff_toInt_lt, Int32.le_iff_toInt_le, ← Int32.toInt_inj, (show (0 : Int32).toInt = 0 from rfl)] at h1
    unfold f_dear
    repeat' split
    all_goals first | rfl | (exfalso; omega) | (refine Int32.toInt_inj.mp ?_; rw [show (0 : Int32).toInt = 0 from rfl]; omega)
  · refine X_iload_n rfl rfl rfl rfl ?_
    refine X_iload_n rfl rfl rfl rfl ?_
    refine X_icmp_gt (tgt := 14) rfl rfl rfl (fun h2 => ?_) (fun h2 => ?_)
    · refine X_iconst (v := (0 : Int32)) rfl rfl rfl ?_
      refine LW_ireturn (st := []) rfl rfl rfl ?_
      refine LW_ireturn (st := []) rfl rfl rfl ?_
      refine X_if_eq (tgt := 18) rfl rfl rfl (fun _ => ?_) (fun q => absurd q (by decide))
      refine X_iconst (v := (-1 : Int32)) rfl rfl rfl ?_
      refine LW_ireturn (st := []) rfl rfl rfl (congrArg (fun z => some (Value.int z)) ?_)
      simp only [Int32.lt_iff_toInt_lt, Int32.le_iff_toInt_le, ← Int32.toInt_inj, (show (-1 : Int32).toInt = -1 from rfl), (show (0 : Int32).toInt = 0 from rfl)] at h1 h2
      unfold f_dear
      repeat' split
      all_goals first | rfl | (exfalso; omega) | (refine Int32.toInt_inj.mp ?_; rw [show (0 : Int32).toInt = 0 from rfl]; omega)
    · exfalso
      simp only [Int32.lt_iff_toInt_lt, Int32.le_iff_toInt_le, ← Int32.toInt_inj, (show (-1 : Int32).toInt = -1 from rfl), (show (0 : Int32).toInt = 0 from rfl)] at h1 h2
      omega
set_option maxRecDepth 10000 in
set_option maxHeartbeats 4000000 in
theorem c_stop {g : LH} (F : Fc g) (E : Fr g) (a : Int32) : LW 149 30 0 0 0 (lEnt (mL 149) [.ref 0, .int a]) [] g (fun v g' => v = some (.int (f_stop a)) ∧ Fr g') := by
  refine LW_ls (ls' := [some (.ref 0), some (.int a)]) rfl ?_
  refine X_aload_n rfl rfl rfl rfl ?_
  refine X_getR (a := 1) rfl rfl rfl ((congrFun F.1 0).trans s_0) rfl ((congrFun (F.2.1 0 (by decide)) 0).trans r_0_0) ?_
  refine X_getR (a := 2) rfl rfl rfl ((congrFun F.1 1).trans s_1) rfl ((congrFun (F.2.1 1 (by decide)) 0).trans r_1_0) ?_
  refine X_iload_n rfl rfl rfl rfl ?_
  refine X_callV (as := [.int a]) (st := []) rfl rfl rfl (by decide) rfl (Nat.le_of_ble_eq_true rfl) (by decide) (Nat.le_of_ble_eq_true rfl) rfl ((congrFun F.1 2).trans s_2) (by decide) ?_
  refine LW_ls (ls' := [some (.ref 2), some (.int a)]) rfl ?_
  refine X_iload_n rfl rfl rfl rfl ?_
  refine X_if_lt (tgt := 22) rfl rfl rfl (fun h1 => ?_) (fun h1 => ?_)
  · refine X_iconst (v := (0 : Int32)) rfl rfl rfl ?_
    refine LW_ireturn (st := []) rfl rfl rfl ?_
    refine X_if_eq (tgt := 25) rfl rfl rfl (fun _ => ?_) (fun q => absurd q (by decide))
    refine X_iconst (v := (-1 : Int32)) rfl rfl rfl ?_
    refine LW_ireturn (st := []) rfl rfl rfl ⟨congrArg (fun z => some (Value.int z)) ?_, E⟩
    simp only [Int32.lt_iff_toInt_lt, Int32.le_iff_toInt_le, ← Int32.toInt_inj, (show (0 : Int32).toInt = 0 from rfl)] at h1
    unfold f_stop
    repeat' split
    all_goals first | rfl | (exfalso; omega) | (refine Int32.toInt_inj.mp ?_; rw [show (0 : Int32).toInt = 0 from rfl]; omega)
  · refine X_iload_n rfl rfl rfl rfl ?_
    refine X_aload_n rfl rfl rfl rfl ?_
    refine X_getI (v := (0 : Int32)) rfl rfl rfl ((congrFun F.1 2).trans s_2) rfl ((congrFun (F.2.2 2 (by decide)).1 1).trans i_2_1) ?_
    refine X_icmp_ge (tgt := 22) rfl rfl rfl (fun h2 => ?_) (fun h2 => ?_)
    · refine X_iconst (v := (0 : Int32)) rfl rfl rfl ?_
      refine LW_ireturn (st := []) rfl rfl rfl ?_
      refine X_if_eq (tgt := 25) rfl rfl rfl (fun _ => ?_) (fun q => absurd q (by decide))
      refine X_iconst (v := (-1 : Int32)) rfl rfl rfl ?_
      refine LW_ireturn (st := []) rfl rfl rfl ⟨congrArg (fun z => some (Value.int z)) ?_, E⟩
      simp only [Int32.lt_iff_toInt_lt, Int32.le_iff_toInt_le, ← Int32.toInt_inj, (show (0 : Int32).toInt = 0 from rfl)] at h1 h2
      unfold f_stop
      repeat' split
      all_goals first | rfl | (exfalso; omega) | (refine Int32.toInt_inj.mp ?_; rw [show (0 : Int32).toInt = 0 from rfl]; omega)
    · exfalso
      simp only [Int32.lt_iff_toInt_lt, Int32.le_iff_toInt_le, ← Int32.toInt_inj, (show (0 : Int32).toInt = 0 from rfl)] at h1 h2
      omega
set_option maxRecDepth 10000 in
set_option maxHeartbeats 4000000 in
theorem r_stop {g : LH} (F : Fr g) (a : Int32) : LW 281 30 0 0 0 (lEnt (mL 281) [.ref 355, .int a]) [] g (fun v _ => v = some (.int (f_stop a))) := by
  refine LW_ls (ls' := [some (.ref 355), some (.int a), none, none]) rfl ?_
  refine X_aload_n rfl rfl rfl rfl ?_
  refine X_iload_n rfl rfl rfl rfl ?_
  refine X_callV (as := [.int a]) (st := []) rfl rfl rfl (by decide) rfl (Nat.le_of_ble_eq_true rfl) (by decide) (Nat.le_of_ble_eq_true rfl) rfl ((congrFun F.1 355).trans s_355) (by decide) ?_
  refine LW_ls (ls' := [some (.ref 355), some (.int a)]) rfl ?_
  refine X_iload_n rfl rfl rfl rfl ?_
  refine X_iconst (v := (0 : Int32)) rfl rfl rfl ?_
  refine X_aload_n rfl rfl rfl rfl ?_
  refine X_getR (a := 356) rfl rfl rfl ((congrFun F.1 355).trans s_355) rfl ((congrFun (F.2.1 355 (by decide)) 0).trans r_355_0) ?_
  refine X_iconst (v := (1 : Int32)) rfl rfl rfl ?_
  refine X_iald (v := (0 : Int32)) rfl rfl ((congrFun F.1 356).trans s_356) (vp_in_d rfl) ((congrFun (F.2.2 356 (by decide)).1 1).trans i_356_1) ?_
  refine X_iconst (v := (1 : Int32)) rfl rfl rfl ?_
  refine X_isub (v := (-1 : Int32)) rfl rfl rfl ?_
  refine X_callS (as := [.int a, .int (0 : Int32), .int (-1 : Int32)]) (st := []) rfl rfl rfl (by decide) rfl (Nat.le_of_ble_eq_true rfl) (by decide) (Nat.le_of_ble_eq_true rfl) rfl ?_
  refine LW_ls (ls' := [some (.int a), some (.int (0 : Int32)), some (.int (-1 : Int32))]) rfl ?_
  refine X_iload_n rfl rfl rfl rfl ?_
  refine X_iload_n rfl rfl rfl rfl ?_
  refine X_icmp_lt (tgt := 14) rfl rfl rfl (fun h1 => ?_) (fun h1 => ?_)
  · refine X_iconst (v := (0 : Int32)) rfl rfl rfl ?_
    refine LW_ireturn (st := []) rfl rfl rfl ?_
    refine LW_ireturn (st := []) rfl rfl rfl ?_
    refine X_if_ne (tgt := 10) rfl rfl rfl (fun q => absurd q (by decide)) (fun _ => ?_)
    refine X_iconst (v := (-1 : Int32)) rfl rfl rfl ?_
    refine LW_ireturn (st := []) rfl rfl rfl (congrArg (fun z => some (Value.int z)) ?_)
    simp only [Int32.lt_iff_toInt_lt, Int32.le_iff_toInt_le, ← Int32.toInt_inj, (show (0 : Int32).toInt = 0 from rfl)] at h1
    unfold f_stop
    repeat' split
    all_goals first | rfl | (exfalso; omega) | (refine Int32.toInt_inj.mp ?_; rw [show (0 : Int32).toInt = 0 from rfl]; omega)
  · refine X_iload_n rfl rfl rfl rfl ?_
    refine X_iload_n rfl rfl rfl rfl ?_
    refine X_icmp_gt (tgt := 14) rfl rfl rfl (fun h2 => ?_) (fun h2 => ?_)
    · refine X_iconst (v := (0 : Int32)) rfl rfl rfl ?_
      refine LW_ireturn (st := []) rfl rfl rfl ?_
      refine LW_ireturn (st := []) rfl rfl rfl ?_
      refine X_if_ne (tgt := 10) rfl rfl rfl (fun q => absurd q (by decide)) (fun _ => ?_)
      refine X_iconst (v := (-1 : Int32)) rfl rfl rfl ?_
      refine LW_ireturn (st := []) rfl rfl rfl (congrArg (fun z => some (Value.int z)) ?_)
      simp only [Int32.lt_iff_toInt_lt, Int32.le_iff_toInt_le, ← Int32.toInt_inj, (show (-1 : Int32).toInt = -1 from rfl), (show (0 : Int32).toInt = 0 from rfl)] at h1 h2
      unfold f_stop
      repeat' split
      all_goals first | rfl | (exfalso; omega) | (refine Int32.toInt_inj.mp ?_; rw [show (0 : Int32).toInt = 0 from rfl]; omega)
    · exfalso
      simp only [Int32.lt_iff_toInt_lt, Int32.le_iff_toInt_le, ← Int32.toInt_inj, (show (-1 : Int32).toInt = -1 from rfl), (show (0 : Int32).toInt = 0 from rfl)] at h1 h2
      omega
set_option maxRecDepth 10000 in
set_option maxHeartbeats 4000000 in
theorem c_worth {g : LH} (F : Fc g) (E : Fr g) (a : Int32) : LW 153 30 0 0 0 (lEnt (mL 153) [.ref 0, .int a]) [] g (fun v g' => v = some (.int (f_worth a)) ∧ Fr g') := by
  refine LW_ls (ls' := [some (.ref 0), some (.int a)]) rfl ?_
  refine X_iload_n rfl rfl rfl rfl ?_
  refine X_if_lt (tgt := 17) rfl rfl rfl (fun h1 => ?_) (fun h1 => ?_)
  · refine X_iconst (v := (-1 : Int32)) rfl rfl rfl ?_
    refine LW_ireturn (st := []) rfl rfl rfl ⟨congrArg (fun z => some (Value.int z)) ?_, E⟩
    simp only [Int32.lt_iff_toInt_lt, Int32.le_iff_toInt_le, ← Int32.toInt_inj, (show (0 : Int32).toInt = 0 from rfl)] at h1
    unfold f_worth
    repeat' split
    all_goals first | rfl | (exfalso; omega) | (refine Int32.toInt_inj.mp ?_; rw [show (0 : Int32).toInt = 0 from rfl]; omega)
  · refine X_iload_n rfl rfl rfl rfl ?_
    refine X_iconst (v := (1 : Int32)) rfl rfl rfl ?_
    refine X_aload_n rfl rfl rfl rfl ?_
    refine X_getR (a := 1) rfl rfl rfl ((congrFun F.1 0).trans s_0) rfl ((congrFun (F.2.1 0 (by decide)) 0).trans r_0_0) ?_
    refine X_getI (v := (0 : Int32)) rfl rfl rfl ((congrFun F.1 1).trans s_1) rfl ((congrFun (F.2.2 1 (by decide)).1 7).trans i_1_7) ?_
    refine X_ishl (v := (1 : Int32)) rfl rfl rfl ?_
    refine X_icmp_lt (tgt := 19) rfl rfl rfl (fun h2 => ?_) (fun h2 => ?_)
    · refine X_aload_n rfl rfl rfl rfl ?_
      refine X_getR (a := 343) rfl rfl rfl ((congrFun F.1 0).trans s_0) rfl ((congrFun (F.2.1 0 (by decide)) 7).trans r_0_7) ?_
      refine X_iload_n rfl rfl rfl rfl ?_
      refine X_callV (as := [.int a]) (st := []) rfl rfl rfl (by decide) rfl (Nat.le_of_ble_eq_true rfl) (by decide) (Nat.le_of_ble_eq_true rfl) rfl ((congrFun F.1 343).trans s_343) (by decide) ?_
      refine LW_ls (ls' := [some (.ref 343), some (.int a), none, none]) rfl ?_
      refine X_iconst (v := (0 : Int32)) rfl rfl rfl ?_
      refine X_istore_n (i := 2) (ls' := [some (.ref 343), some (.int a), some (.int (0 : Int32)), none]) rfl rfl rfl (Nat.le_of_ble_eq_true rfl) rfl ?_
      refine X_iconst (v := (0 : Int32)) rfl rfl rfl ?_
      refine X_istore_n (i := 3) (ls' := [some (.ref 343), some (.int a), some (.int (0 : Int32)), some (.int (0 : Int32))]) rfl rfl rfl (Nat.le_of_ble_eq_true rfl) rfl ?_
      refine X_iload_n rfl rfl rfl rfl ?_
      refine X_aload_n rfl rfl rfl rfl ?_
      refine X_getR (a := 1) rfl rfl rfl ((congrFun F.1 343).trans s_343) rfl ((congrFun (F.2.1 343 (by decide)) 0).trans r_343_0) ?_
      refine X_getI (v := (0 : Int32)) rfl rfl rfl ((congrFun F.1 1).trans s_1) rfl ((congrFun (F.2.2 1 (by decide)).1 7).trans i_1_7) ?_
      refine X_icmp_ge (tgt := 45) rfl rfl rfl (fun _ => ?_) (fun q => absurd q (by decide))
      refine X_aload_n rfl rfl rfl rfl ?_
      refine X_getR (a := 1) rfl rfl rfl ((congrFun F.1 343).trans s_343) rfl ((congrFun (F.2.1 343 (by decide)) 0).trans r_343_0) ?_
      refine X_getR (a := 2) rfl rfl rfl ((congrFun F.1 1).trans s_1) rfl ((congrFun (F.2.1 1 (by decide)) 0).trans r_1_0) ?_
      refine X_iload_n rfl rfl rfl rfl ?_
      refine X_callV (as := [.int (0 : Int32)]) (st := []) rfl rfl rfl (by decide) rfl (Nat.le_of_ble_eq_true rfl) (by decide) (Nat.le_of_ble_eq_true rfl) rfl ((congrFun F.1 2).trans s_2) (by decide) ?_
      refine LW_ls (ls' := [some (.ref 2), some (.int (0 : Int32)), none, none, none]) rfl ?_
      refine X_aload_n rfl rfl rfl rfl ?_
      refine X_iload_n rfl rfl rfl rfl ?_
      refine X_callV (as := [.int (0 : Int32)]) (st := []) rfl rfl rfl (by decide) rfl (Nat.le_of_ble_eq_true rfl) (by decide) (Nat.le_of_ble_eq_true rfl) rfl ((congrFun F.1 2).trans s_2) (by decide) ?_
      refine LW_ls (ls' := [some (.ref 2), some (.int (0 : Int32)), none, none]) rfl ?_
      refine X_iconst (v := (0 : Int32)) rfl rfl rfl ?_
      refine X_istore_n (i := 2) (ls' := [some (.ref 2), some (.int (0 : Int32)), some (.int (0 : Int32)), none]) rfl rfl rfl (Nat.le_of_ble_eq_true rfl) rfl ?_
      refine X_iconst (v := (0 : Int32)) rfl rfl rfl ?_
      refine X_istore_n (i := 3) (ls' := [some (.ref 2), some (.int (0 : Int32)), some (.int (0 : Int32)), some (.int (0 : Int32))]) rfl rfl rfl (Nat.le_of_ble_eq_true rfl) rfl ?_
      refine X_iload_n rfl rfl rfl rfl ?_
      refine X_aload_n rfl rfl rfl rfl ?_
      refine X_getI (v := (0 : Int32)) rfl rfl rfl ((congrFun F.1 2).trans s_2) rfl ((congrFun (F.2.2 2 (by decide)).1 0).trans i_2_0) ?_
      refine X_icmp_ge (tgt := 40) rfl rfl rfl (fun _ => ?_) (fun q => absurd q (by decide))
      refine X_iload_n rfl rfl rfl rfl ?_
      refine LW_ireturn (st := []) rfl rfl rfl ?_
      refine X_istore_n (i := 2) (ls' := [some (.ref 2), some (.int (0 : Int32)), some (.int (0 : Int32)), none, none]) rfl rfl rfl (Nat.le_of_ble_eq_true rfl) rfl ?_
      refine X_iconst (v := (0 : Int32)) rfl rfl rfl ?_
      refine X_istore_n (i := 3) (ls' := [some (.ref 2), some (.int (0 : Int32)), some (.int (0 : Int32)), some (.int (0 : Int32)), none]) rfl rfl rfl (Nat.le_of_ble_eq_true rfl) rfl ?_
      refine X_iconst (v := (0 : Int32)) rfl rfl rfl ?_
      refine X_istore (i := 4) (ls' := [some (.ref 2), some (.int (0 : Int32)), some (.int (0 : Int32)), some (.int (0 : Int32)), some (.int (0 : Int32))]) rfl rfl (Nat.le_of_ble_eq_true rfl) rfl ?_
      refine X_iload rfl rfl rfl ?_
      refine X_aload_n rfl rfl rfl rfl ?_
      refine X_getI (v := (0 : Int32)) rfl rfl rfl ((congrFun F.1 2).trans s_2) rfl ((congrFun (F.2.2 2 (by decide)).1 1).trans i_2_1) ?_
      refine X_icmp_ge (tgt := 48) rfl rfl rfl (fun _ => ?_) (fun q => absurd q (by decide))
      refine X_iload_n rfl rfl rfl rfl ?_
      refine LW_ireturn (st := []) rfl rfl rfl ?_
      refine LW_ireturn (st := []) rfl rfl rfl ?_
      refine LW_ireturn (st := []) rfl rfl rfl ⟨congrArg (fun z => some (Value.int z)) ?_, E⟩
      simp only [Int32.lt_iff_toInt_lt, Int32.le_iff_toInt_le, ← Int32.toInt_inj, (show (0 : Int32).toInt = 0 from rfl), (show (1 : Int32).toInt = 1 from rfl)] at h1 h2
      unfold f_worth
      repeat' split
      all_goals first | rfl | (exfalso; omega) | (refine Int32.toInt_inj.mp ?_; rw [show (0 : Int32).toInt = 0 from rfl]; omega)
    · refine X_iconst (v := (-1 : Int32)) rfl rfl rfl ?_
      refine LW_ireturn (st := []) rfl rfl rfl ⟨congrArg (fun z => some (Value.int z)) ?_, E⟩
      simp only [Int32.lt_iff_toInt_lt, Int32.le_iff_toInt_le, ← Int32.toInt_inj, (show (0 : Int32).toInt = 0 from rfl), (show (1 : Int32).toInt = 1 from rfl)] at h1 h2
      unfold f_worth
      repeat' split
      all_goals first | rfl | (exfalso; omega) | (refine Int32.toInt_inj.mp ?_; rw [show (0 : Int32).toInt = 0 from rfl]; omega)
set_option maxRecDepth 10000 in
set_option maxHeartbeats 4000000 in
theorem r_worth {g : LH} (F : Fr g) (a : Int32) : LW 290 30 0 0 0 (lEnt (mL 290) [.ref 355, .int a]) [] g (fun v _ => v = some (.int (f_worth a))) := by
  refine LW_ls (ls' := [some (.ref 355), some (.int a)]) rfl ?_
  refine X_iload_n rfl rfl rfl rfl ?_
  refine X_iconst (v := (0 : Int32)) rfl rfl rfl ?_
  refine X_iconst (v := (1 : Int32)) rfl rfl rfl ?_
  refine X_aload_n rfl rfl rfl rfl ?_
  refine X_getR (a := 356) rfl rfl rfl ((congrFun F.1 355).trans s_355) rfl ((congrFun (F.2.1 355 (by decide)) 0).trans r_355_0) ?_
  refine X_bipush (v := (8 : Int32)) rfl rfl rfl ?_
  refine X_iald (v := (0 : Int32)) rfl rfl ((congrFun F.1 356).trans s_356) (vp_in_d rfl) ((congrFun (F.2.2 356 (by decide)).1 8).trans i_356_8) ?_
  refine X_ishl (v := (1 : Int32)) rfl rfl rfl ?_
  refine X_iconst (v := (1 : Int32)) rfl rfl rfl ?_
  refine X_isub (v := (0 : Int32)) rfl rfl rfl ?_
  refine X_callS (as := [.int a, .int (0 : Int32), .int (0 : Int32)]) (st := []) rfl rfl rfl (by decide) rfl (Nat.le_of_ble_eq_true rfl) (by decide) (Nat.le_of_ble_eq_true rfl) rfl ?_
  refine LW_ls (ls' := [some (.int a), some (.int (0 : Int32)), some (.int (0 : Int32))]) rfl ?_
  refine X_iload_n rfl rfl rfl rfl ?_
  refine X_iload_n rfl rfl rfl rfl ?_
  refine X_icmp_lt (tgt := 14) rfl rfl rfl (fun h1 => ?_) (fun h1 => ?_)
  · refine X_iconst (v := (0 : Int32)) rfl rfl rfl ?_
    refine LW_ireturn (st := []) rfl rfl rfl ?_
    refine X_if_eq (tgt := 27) rfl rfl rfl (fun _ => ?_) (fun q => absurd q (by decide))
    refine X_iconst (v := (-1 : Int32)) rfl rfl rfl ?_
    refine LW_ireturn (st := []) rfl rfl rfl (congrArg (fun z => some (Value.int z)) ?_)
    simp only [Int32.lt_iff_toInt_lt, Int32.le_iff_toInt_le, ← Int32.toInt_inj, (show (0 : Int32).toInt = 0 from rfl)] at h1
    unfold f_worth
    repeat' split
    all_goals first | rfl | (exfalso; omega) | (refine Int32.toInt_inj.mp ?_; rw [show (0 : Int32).toInt = 0 from rfl]; omega)
  · refine X_iload_n rfl rfl rfl rfl ?_
    refine X_iload_n rfl rfl rfl rfl ?_
    refine X_icmp_gt (tgt := 14) rfl rfl rfl (fun h2 => ?_) (fun h2 => ?_)
    · refine X_iconst (v := (0 : Int32)) rfl rfl rfl ?_
      refine LW_ireturn (st := []) rfl rfl rfl ?_
      refine X_if_eq (tgt := 27) rfl rfl rfl (fun _ => ?_) (fun q => absurd q (by decide))
      refine X_iconst (v := (-1 : Int32)) rfl rfl rfl ?_
      refine LW_ireturn (st := []) rfl rfl rfl (congrArg (fun z => some (Value.int z)) ?_)
      simp only [Int32.lt_iff_toInt_lt, Int32.le_iff_toInt_le, ← Int32.toInt_inj, (show (0 : Int32).toInt = 0 from rfl)] at h1 h2
      unfold f_worth
      repeat' split
      all_goals first | rfl | (exfalso; omega) | (refine Int32.toInt_inj.mp ?_; rw [show (0 : Int32).toInt = 0 from rfl]; omega)
    · refine X_iconst (v := (1 : Int32)) rfl rfl rfl ?_
      refine LW_goto (tgt := 15) rfl rfl ?_
      refine LW_ireturn (st := []) rfl rfl rfl ?_
      refine X_if_eq (tgt := 27) rfl rfl rfl (fun q => absurd q (by decide)) (fun _ => ?_)
      refine X_aload_n rfl rfl rfl rfl ?_
      refine X_iload_n rfl rfl rfl rfl ?_
      refine X_callV (as := [.int a]) (st := []) rfl rfl rfl (by decide) rfl (Nat.le_of_ble_eq_true rfl) (by decide) (Nat.le_of_ble_eq_true rfl) rfl ((congrFun F.1 355).trans s_355) (by decide) ?_
      refine LW_ls (ls' := [some (.ref 355), some (.int a), none, none]) rfl ?_
      refine X_iconst (v := (0 : Int32)) rfl rfl rfl ?_
      refine X_istore_n (i := 2) (ls' := [some (.ref 355), some (.int a), some (.int (0 : Int32)), none]) rfl rfl rfl (Nat.le_of_ble_eq_true rfl) rfl ?_
      refine X_iconst (v := (0 : Int32)) rfl rfl rfl ?_
      refine X_istore_n (i := 3) (ls' := [some (.ref 355), some (.int a), some (.int (0 : Int32)), some (.int (0 : Int32))]) rfl rfl rfl (Nat.le_of_ble_eq_true rfl) rfl ?_
      refine X_iload_n rfl rfl rfl rfl ?_
      refine X_aload_n rfl rfl rfl rfl ?_
      refine X_getR (a := 356) rfl rfl rfl ((congrFun F.1 355).trans s_355) rfl ((congrFun (F.2.1 355 (by decide)) 0).trans r_355_0) ?_
      refine X_bipush (v := (8 : Int32)) rfl rfl rfl ?_
      refine X_iald (v := (0 : Int32)) rfl rfl ((congrFun F.1 356).trans s_356) (vp_in_d rfl) ((congrFun (F.2.2 356 (by decide)).1 8).trans i_356_8) ?_
      refine X_icmp_ge (tgt := 46) rfl rfl rfl (fun _ => ?_) (fun q => absurd q (by decide))
      refine X_aload_n rfl rfl rfl rfl ?_
      refine X_iload_n rfl rfl rfl rfl ?_
      refine X_callV (as := [.int (0 : Int32)]) (st := []) rfl rfl rfl (by decide) rfl (Nat.le_of_ble_eq_true rfl) (by decide) (Nat.le_of_ble_eq_true rfl) rfl ((congrFun F.1 355).trans s_355) (by decide) ?_
      refine LW_ls (ls' := [some (.ref 355), some (.int (0 : Int32)), none, none]) rfl ?_
      refine X_iconst (v := (0 : Int32)) rfl rfl rfl ?_
      refine X_istore_n (i := 2) (ls' := [some (.ref 355), some (.int (0 : Int32)), some (.int (0 : Int32)), none]) rfl rfl rfl (Nat.le_of_ble_eq_true rfl) rfl ?_
      refine X_iconst (v := (0 : Int32)) rfl rfl rfl ?_
      refine X_istore_n (i := 3) (ls' := [some (.ref 355), some (.int (0 : Int32)), some (.int (0 : Int32)), some (.int (0 : Int32))]) rfl rfl rfl (Nat.le_of_ble_eq_true rfl) rfl ?_
      refine X_iload_n rfl rfl rfl rfl ?_
      refine X_aload_n rfl rfl rfl rfl ?_
      refine X_getR (a := 356) rfl rfl rfl ((congrFun F.1 355).trans s_355) rfl ((congrFun (F.2.1 355 (by decide)) 0).trans r_355_0) ?_
      refine X_iconst (v := (1 : Int32)) rfl rfl rfl ?_
      refine X_iald (v := (0 : Int32)) rfl rfl ((congrFun F.1 356).trans s_356) (vp_in_d rfl) ((congrFun (F.2.2 356 (by decide)).1 1).trans i_356_1) ?_
      refine X_icmp_ge (tgt := 38) rfl rfl rfl (fun _ => ?_) (fun q => absurd q (by decide))
      refine X_iload_n rfl rfl rfl rfl ?_
      refine LW_ireturn (st := []) rfl rfl rfl ?_
      refine LW_ireturn (st := []) rfl rfl rfl ?_
      refine LW_goto (tgt := 28) rfl rfl ?_
      refine LW_ireturn (st := []) rfl rfl rfl (congrArg (fun z => some (Value.int z)) ?_)
      simp only [Int32.lt_iff_toInt_lt, Int32.le_iff_toInt_le, ← Int32.toInt_inj, (show (0 : Int32).toInt = 0 from rfl)] at h1 h2
      unfold f_worth
      repeat' split
      all_goals first | rfl | (exfalso; omega) | (refine Int32.toInt_inj.mp ?_; rw [show (0 : Int32).toInt = 0 from rfl]; omega)
set_option maxRecDepth 10000 in
set_option maxHeartbeats 4000000 in
theorem c_core {g : LH} (F : Fc g) (E : Fr g) (a : Int32) (b : Int32) : LW 154 30 0 0 0 (lEnt (mL 154) [.ref 0, .int a, .int b]) [] g (fun v g' => v = some (.int (f_core a b)) ∧ Fr g') := by
  refine LW_ls (ls' := [some (.ref 0), some (.int a), some (.int b)]) rfl ?_
  refine X_iload_n rfl rfl rfl rfl ?_
  refine X_if_lt (tgt := 25) rfl rfl rfl (fun h1 => ?_) (fun h1 => ?_)
  · refine X_iconst (v := (-1 : Int32)) rfl rfl rfl ?_
    refine LW_ireturn (st := []) rfl rfl rfl ⟨congrArg (fun z => some (Value.int z)) ?_, E⟩
    simp only [Int32.lt_iff_toInt_lt, Int32.le_iff_toInt_le, ← Int32.toInt_inj, (show (0 : Int32).toInt = 0 from rfl)] at h1
    unfold f_core
    repeat' split
    all_goals first | rfl | (exfalso; omega) | (refine Int32.toInt_inj.mp ?_; rw [show (0 : Int32).toInt = 0 from rfl]; omega)
  · refine X_iload_n rfl rfl rfl rfl ?_
    refine X_bipush (v := (30 : Int32)) rfl rfl rfl ?_
    refine X_icmp_gt (tgt := 25) rfl rfl rfl (fun h2 => ?_) (fun h2 => ?_)
    · refine X_iconst (v := (-1 : Int32)) rfl rfl rfl ?_
      refine LW_ireturn (st := []) rfl rfl rfl ⟨congrArg (fun z => some (Value.int z)) ?_, E⟩
      simp only [Int32.lt_iff_toInt_lt, Int32.le_iff_toInt_le, ← Int32.toInt_inj, (show (0 : Int32).toInt = 0 from rfl), (show (30 : Int32).toInt = 30 from rfl)] at h1 h2
      unfold f_core
      repeat' split
      all_goals first | rfl | (exfalso; omega) | (refine Int32.toInt_inj.mp ?_; rw [show (0 : Int32).toInt = 0 from rfl]; omega)
    · refine X_iload_n rfl rfl rfl rfl ?_
      refine X_if_lt (tgt := 25) rfl rfl rfl (fun h3 => ?_) (fun h3 => ?_)
      · refine X_iconst (v := (-1 : Int32)) rfl rfl rfl ?_
        refine LW_ireturn (st := []) rfl rfl rfl ⟨congrArg (fun z => some (Value.int z)) ?_, E⟩
        simp only [Int32.lt_iff_toInt_lt, Int32.le_iff_toInt_le, ← Int32.toInt_inj, (show (0 : Int32).toInt = 0 from rfl), (show (30 : Int32).toInt = 30 from rfl)] at h1 h2 h3
        unfold f_core
        repeat' split
        all_goals first | rfl | (exfalso; omega) | (refine Int32.toInt_inj.mp ?_; rw [show (0 : Int32).toInt = 0 from rfl]; omega)
      · refine X_iload_n rfl rfl rfl rfl ?_
        refine X_aload_n rfl rfl rfl rfl ?_
        refine X_getR (a := 1) rfl rfl rfl ((congrFun F.1 0).trans s_0) rfl ((congrFun (F.2.1 0 (by decide)) 0).trans r_0_0) ?_
        refine X_getI (v := (0 : Int32)) rfl rfl rfl ((congrFun F.1 1).trans s_1) rfl ((congrFun (F.2.2 1 (by decide)).1 7).trans i_1_7) ?_
        refine X_icmp_lt (tgt := 27) rfl rfl rfl (fun h4 => ?_) (fun h4 => ?_)
        · exfalso
          simp only [Int32.lt_iff_toInt_lt, Int32.le_iff_toInt_le, ← Int32.toInt_inj, (show (0 : Int32).toInt = 0 from rfl), (show (30 : Int32).toInt = 30 from rfl)] at h1 h2 h3 h4
          omega
        · refine X_iconst (v := (-1 : Int32)) rfl rfl rfl ?_
          refine LW_ireturn (st := []) rfl rfl rfl ⟨congrArg (fun z => some (Value.int z)) ?_, E⟩
          simp only [Int32.lt_iff_toInt_lt, Int32.le_iff_toInt_le, ← Int32.toInt_inj, (show (0 : Int32).toInt = 0 from rfl), (show (30 : Int32).toInt = 30 from rfl)] at h1 h2 h3 h4
          unfold f_core
          repeat' split
          all_goals first | rfl | (exfalso; omega) | (refine Int32.toInt_inj.mp ?_; rw [show (0 : Int32).toInt = 0 from rfl]; omega)
set_option maxRecDepth 10000 in
set_option maxHeartbeats 4000000 in
theorem r_core {g : LH} (F : Fr g) (a : Int32) (b : Int32) : LW 293 30 0 0 0 (lEnt (mL 293) [.ref 355, .int a, .int b]) [] g (fun v _ => v = some (.int (f_core a b))) := by
  refine LW_ls (ls' := [some (.ref 355), some (.int a), some (.int b), none]) rfl ?_
  refine X_iload_n rfl rfl rfl rfl ?_
  refine X_iconst (v := (0 : Int32)) rfl rfl rfl ?_
  refine X_bipush (v := (30 : Int32)) rfl rfl rfl ?_
  refine X_callS (as := [.int a, .int (0 : Int32), .int (30 : Int32)]) (st := []) rfl rfl rfl (by decide) rfl (Nat.le_of_ble_eq_true rfl) (by decide) (Nat.le_of_ble_eq_true rfl) rfl ?_
  refine LW_ls (ls' := [some (.int a), some (.int (0 : Int32)), some (.int (30 : Int32))]) rfl ?_
  refine X_iload_n rfl rfl rfl rfl ?_
  refine X_iload_n rfl rfl rfl rfl ?_
  refine X_icmp_lt (tgt := 14) rfl rfl rfl (fun h1 => ?_) (fun h1 => ?_)
  · refine X_iconst (v := (0 : Int32)) rfl rfl rfl ?_
    refine LW_ireturn (st := []) rfl rfl rfl ?_
    refine X_if_eq (tgt := 27) rfl rfl rfl (fun _ => ?_) (fun q => absurd q (by decide))
    refine X_iconst (v := (-1 : Int32)) rfl rfl rfl ?_
    refine LW_ireturn (st := []) rfl rfl rfl (congrArg (fun z => some (Value.int z)) ?_)
    simp only [Int32.lt_iff_toInt_lt, Int32.le_iff_toInt_le, ← Int32.toInt_inj, (show (0 : Int32).toInt = 0 from rfl)] at h1
    unfold f_core
    repeat' split
    all_goals first | rfl | (exfalso; omega) | (refine Int32.toInt_inj.mp ?_; rw [show (0 : Int32).toInt = 0 from rfl]; omega)
  · refine X_iload_n rfl rfl rfl rfl ?_
    refine X_iload_n rfl rfl rfl rfl ?_
    refine X_icmp_gt (tgt := 14) rfl rfl rfl (fun h2 => ?_) (fun h2 => ?_)
    · refine X_iconst (v := (0 : Int32)) rfl rfl rfl ?_
      refine LW_ireturn (st := []) rfl rfl rfl ?_
      refine X_if_eq (tgt := 27) rfl rfl rfl (fun _ => ?_) (fun q => absurd q (by decide))
      refine X_iconst (v := (-1 : Int32)) rfl rfl rfl ?_
      refine LW_ireturn (st := []) rfl rfl rfl (congrArg (fun z => some (Value.int z)) ?_)
      simp only [Int32.lt_iff_toInt_lt, Int32.le_iff_toInt_le, ← Int32.toInt_inj, (show (0 : Int32).toInt = 0 from rfl), (show (30 : Int32).toInt = 30 from rfl)] at h1 h2
      unfold f_core
      repeat' split
      all_goals first | rfl | (exfalso; omega) | (refine Int32.toInt_inj.mp ?_; rw [show (0 : Int32).toInt = 0 from rfl]; omega)
    · refine X_iconst (v := (1 : Int32)) rfl rfl rfl ?_
      refine LW_goto (tgt := 15) rfl rfl ?_
      refine LW_ireturn (st := []) rfl rfl rfl ?_
      refine X_if_eq (tgt := 27) rfl rfl rfl (fun q => absurd q (by decide)) (fun _ => ?_)
      refine X_iload_n rfl rfl rfl rfl ?_
      refine X_iconst (v := (0 : Int32)) rfl rfl rfl ?_
      refine X_aload_n rfl rfl rfl rfl ?_
      refine X_getR (a := 356) rfl rfl rfl ((congrFun F.1 355).trans s_355) rfl ((congrFun (F.2.1 355 (by decide)) 0).trans r_355_0) ?_
      refine X_bipush (v := (8 : Int32)) rfl rfl rfl ?_
      refine X_iald (v := (0 : Int32)) rfl rfl ((congrFun F.1 356).trans s_356) (vp_in_d rfl) ((congrFun (F.2.2 356 (by decide)).1 8).trans i_356_8) ?_
      refine X_iconst (v := (1 : Int32)) rfl rfl rfl ?_
      refine X_isub (v := (-1 : Int32)) rfl rfl rfl ?_
      refine X_callS (as := [.int b, .int (0 : Int32), .int (-1 : Int32)]) (st := []) rfl rfl rfl (by decide) rfl (Nat.le_of_ble_eq_true rfl) (by decide) (Nat.le_of_ble_eq_true rfl) rfl ?_
      refine LW_ls (ls' := [some (.int b), some (.int (0 : Int32)), some (.int (-1 : Int32))]) rfl ?_
      refine X_iload_n rfl rfl rfl rfl ?_
      refine X_iload_n rfl rfl rfl rfl ?_
      refine X_icmp_lt (tgt := 14) rfl rfl rfl (fun h3 => ?_) (fun h3 => ?_)
      · refine X_iconst (v := (0 : Int32)) rfl rfl rfl ?_
        refine LW_ireturn (st := []) rfl rfl rfl ?_
        refine X_if_ne (tgt := 29) rfl rfl rfl (fun q => absurd q (by decide)) (fun _ => ?_)
        refine X_iconst (v := (-1 : Int32)) rfl rfl rfl ?_
        refine LW_ireturn (st := []) rfl rfl rfl (congrArg (fun z => some (Value.int z)) ?_)
        simp only [Int32.lt_iff_toInt_lt, Int32.le_iff_toInt_le, ← Int32.toInt_inj, (show (0 : Int32).toInt = 0 from rfl), (show (30 : Int32).toInt = 30 from rfl)] at h1 h2 h3
        unfold f_core
        repeat' split
        all_goals first | rfl | (exfalso; omega) | (refine Int32.toInt_inj.mp ?_; rw [show (0 : Int32).toInt = 0 from rfl]; omega)
      · refine X_iload_n rfl rfl rfl rfl ?_
        refine X_iload_n rfl rfl rfl rfl ?_
        refine X_icmp_gt (tgt := 14) rfl rfl rfl (fun h4 => ?_) (fun h4 => ?_)
        · refine X_iconst (v := (0 : Int32)) rfl rfl rfl ?_
          refine LW_ireturn (st := []) rfl rfl rfl ?_
          refine X_if_ne (tgt := 29) rfl rfl rfl (fun q => absurd q (by decide)) (fun _ => ?_)
          refine X_iconst (v := (-1 : Int32)) rfl rfl rfl ?_
          refine LW_ireturn (st := []) rfl rfl rfl (congrArg (fun z => some (Value.int z)) ?_)
          simp only [Int32.lt_iff_toInt_lt, Int32.le_iff_toInt_le, ← Int32.toInt_inj, (show (-1 : Int32).toInt = -1 from rfl), (show (0 : Int32).toInt = 0 from rfl), (show (30 : Int32).toInt = 30 from rfl)] at h1 h2 h3 h4
          unfold f_core
          repeat' split
          all_goals first | rfl | (exfalso; omega) | (refine Int32.toInt_inj.mp ?_; rw [show (0 : Int32).toInt = 0 from rfl]; omega)
        · exfalso
          simp only [Int32.lt_iff_toInt_lt, Int32.le_iff_toInt_le, ← Int32.toInt_inj, (show (-1 : Int32).toInt = -1 from rfl), (show (0 : Int32).toInt = 0 from rfl), (show (30 : Int32).toInt = 30 from rfl)] at h1 h2 h3 h4
          omega
set_option maxRecDepth 10000 in
set_option maxHeartbeats 4000000 in
theorem c_hair {g : LH} (F : Fc g) (E : Fr g) (a : Int32) (b : Int32) : LW 159 30 0 0 0 (lEnt (mL 159) [.ref 0, .int a, .int b]) [] g (fun v g' => v = some (.int (f_hair a b)) ∧ Fr g') := by
  refine LW_ls (ls' := [some (.ref 0), some (.int a), some (.int b), none, none]) rfl ?_
  refine X_aload_n rfl rfl rfl rfl ?_
  refine X_getR (a := 1) rfl rfl rfl ((congrFun F.1 0).trans s_0) rfl ((congrFun (F.2.1 0 (by decide)) 0).trans r_0_0) ?_
  refine X_getR (a := 2) rfl rfl rfl ((congrFun F.1 1).trans s_1) rfl ((congrFun (F.2.1 1 (by decide)) 0).trans r_1_0) ?_
  refine X_iload_n rfl rfl rfl rfl ?_
  refine X_callV (as := [.int a]) (st := []) rfl rfl rfl (by decide) rfl (Nat.le_of_ble_eq_true rfl) (by decide) (Nat.le_of_ble_eq_true rfl) rfl ((congrFun F.1 2).trans s_2) (by decide) ?_
  refine LW_ls (ls' := [some (.ref 2), some (.int a)]) rfl ?_
  refine X_iload_n rfl rfl rfl rfl ?_
  refine X_if_lt (tgt := 22) rfl rfl rfl (fun h1 => ?_) (fun h1 => ?_)
  · refine X_iconst (v := (0 : Int32)) rfl rfl rfl ?_
    refine LW_ireturn (st := []) rfl rfl rfl ?_
    refine X_if_ne (tgt := 16) rfl rfl rfl (fun q => absurd q (by decide)) (fun _ => ?_)
    refine X_iconst (v := (-1 : Int32)) rfl rfl rfl ?_
    refine LW_ireturn (st := []) rfl rfl rfl ⟨congrArg (fun z => some (Value.int z)) ?_, E⟩
    simp only [Int32.lt_iff_toInt_lt, Int32.le_iff_toInt_le, ← Int32.toInt_inj, (show (0 : Int32).toInt = 0 from rfl)] at h1
    unfold f_hair
    repeat' split
    all_goals first | rfl | (exfalso; omega) | (refine Int32.toInt_inj.mp ?_; rw [show (0 : Int32).toInt = 0 from rfl]; omega)
  · refine X_iload_n rfl rfl rfl rfl ?_
    refine X_aload_n rfl rfl rfl rfl ?_
    refine X_getI (v := (0 : Int32)) rfl rfl rfl ((congrFun F.1 2).trans s_2) rfl ((congrFun (F.2.2 2 (by decide)).1 0).trans i_2_0) ?_
    refine X_icmp_ge (tgt := 22) rfl rfl rfl (fun h2 => ?_) (fun h2 => ?_)
    · refine X_iconst (v := (0 : Int32)) rfl rfl rfl ?_
      refine LW_ireturn (st := []) rfl rfl rfl ?_
      refine X_if_ne (tgt := 16) rfl rfl rfl (fun q => absurd q (by decide)) (fun _ => ?_)
      refine X_iconst (v := (-1 : Int32)) rfl rfl rfl ?_
      refine LW_ireturn (st := []) rfl rfl rfl ⟨congrArg (fun z => some (Value.int z)) ?_, E⟩
      simp only [Int32.lt_iff_toInt_lt, Int32.le_iff_toInt_le, ← Int32.toInt_inj, (show (0 : Int32).toInt = 0 from rfl)] at h1 h2
      unfold f_hair
      repeat' split
      all_goals first | rfl | (exfalso; omega) | (refine Int32.toInt_inj.mp ?_; rw [show (0 : Int32).toInt = 0 from rfl]; omega)
    · exfalso
      simp only [Int32.lt_iff_toInt_lt, Int32.le_iff_toInt_le, ← Int32.toInt_inj, (show (0 : Int32).toInt = 0 from rfl)] at h1 h2
      omega
set_option maxRecDepth 10000 in
set_option maxHeartbeats 4000000 in
theorem r_hair {g : LH} (F : Fr g) (a : Int32) (b : Int32) : LW 307 30 0 0 0 (lEnt (mL 307) [.ref 355, .int a, .int b]) [] g (fun v _ => v = some (.int (f_hair a b))) := by
  refine LW_ls (ls' := [some (.ref 355), some (.int a), some (.int b), none, none]) rfl ?_
  refine X_aload_n rfl rfl rfl rfl ?_
  refine X_iload_n rfl rfl rfl rfl ?_
  refine X_callV (as := [.int a]) (st := []) rfl rfl rfl (by decide) rfl (Nat.le_of_ble_eq_true rfl) (by decide) (Nat.le_of_ble_eq_true rfl) rfl ((congrFun F.1 355).trans s_355) (by decide) ?_
  refine LW_ls (ls' := [some (.ref 355), some (.int a)]) rfl ?_
  refine X_iload_n rfl rfl rfl rfl ?_
  refine X_iconst (v := (0 : Int32)) rfl rfl rfl ?_
  refine X_aload_n rfl rfl rfl rfl ?_
  refine X_getR (a := 356) rfl rfl rfl ((congrFun F.1 355).trans s_355) rfl ((congrFun (F.2.1 355 (by decide)) 0).trans r_355_0) ?_
  refine X_iconst (v := (0 : Int32)) rfl rfl rfl ?_
  refine X_iald (v := (0 : Int32)) rfl rfl ((congrFun F.1 356).trans s_356) (vp_in_d rfl) ((congrFun (F.2.2 356 (by decide)).1 0).trans i_356_0) ?_
  refine X_iconst (v := (1 : Int32)) rfl rfl rfl ?_
  refine X_isub (v := (-1 : Int32)) rfl rfl rfl ?_
  refine X_callS (as := [.int a, .int (0 : Int32), .int (-1 : Int32)]) (st := []) rfl rfl rfl (by decide) rfl (Nat.le_of_ble_eq_true rfl) (by decide) (Nat.le_of_ble_eq_true rfl) rfl ?_
  refine LW_ls (ls' := [some (.int a), some (.int (0 : Int32)), some (.int (-1 : Int32))]) rfl ?_
  refine X_iload_n rfl rfl rfl rfl ?_
  refine X_iload_n rfl rfl rfl rfl ?_
  refine X_icmp_lt (tgt := 14) rfl rfl rfl (fun h1 => ?_) (fun h1 => ?_)
  · refine X_iconst (v := (0 : Int32)) rfl rfl rfl ?_
    refine LW_ireturn (st := []) rfl rfl rfl ?_
    refine LW_ireturn (st := []) rfl rfl rfl ?_
    refine X_if_eq (tgt := 13) rfl rfl rfl (fun _ => ?_) (fun q => absurd q (by decide))
    refine X_iconst (v := (-1 : Int32)) rfl rfl rfl ?_
    refine LW_ireturn (st := []) rfl rfl rfl (congrArg (fun z => some (Value.int z)) ?_)
    simp only [Int32.lt_iff_toInt_lt, Int32.le_iff_toInt_le, ← Int32.toInt_inj, (show (0 : Int32).toInt = 0 from rfl)] at h1
    unfold f_hair
    repeat' split
    all_goals first | rfl | (exfalso; omega) | (refine Int32.toInt_inj.mp ?_; rw [show (0 : Int32).toInt = 0 from rfl]; omega)
  · refine X_iload_n rfl rfl rfl rfl ?_
    refine X_iload_n rfl rfl rfl rfl ?_
    refine X_icmp_gt (tgt := 14) rfl rfl rfl (fun h2 => ?_) (fun h2 => ?_)
    · refine X_iconst (v := (0 : Int32)) rfl rfl rfl ?_
      refine LW_ireturn (st := []) rfl rfl rfl ?_
      refine LW_ireturn (st := []) rfl rfl rfl ?_
      refine X_if_eq (tgt := 13) rfl rfl rfl (fun _ => ?_) (fun q => absurd q (by decide))
      refine X_iconst (v := (-1 : Int32)) rfl rfl rfl ?_
      refine LW_ireturn (st := []) rfl rfl rfl (congrArg (fun z => some (Value.int z)) ?_)
      simp only [Int32.lt_iff_toInt_lt, Int32.le_iff_toInt_le, ← Int32.toInt_inj, (show (-1 : Int32).toInt = -1 from rfl), (show (0 : Int32).toInt = 0 from rfl)] at h1 h2
      unfold f_hair
      repeat' split
      all_goals first | rfl | (exfalso; omega) | (refine Int32.toInt_inj.mp ?_; rw [show (0 : Int32).toInt = 0 from rfl]; omega)
    · exfalso
      simp only [Int32.lt_iff_toInt_lt, Int32.le_iff_toInt_le, ← Int32.toInt_inj, (show (-1 : Int32).toInt = -1 from rfl), (show (0 : Int32).toInt = 0 from rfl)] at h1 h2
      omega
set_option maxRecDepth 10000 in
set_option maxHeartbeats 4000000 in
theorem c_printed0 {g : LH} (F : Fc g) (E : Fr g) (a : Int32) (b : Int32) : LW 160 30 0 0 0 (lEnt (mL 160) [.ref 0, .int a, .int b, .int (0 : Int32)]) [] g (fun v g' => v = some (.int (f_printed0 a b)) ∧ Fr g') := by
  refine LW_ls (ls' := [some (.ref 0), some (.int a), some (.int b), some (.int (0 : Int32))]) rfl ?_
  refine X_iload_n rfl rfl rfl rfl ?_
  refine X_iconst (v := (-1 : Int32)) rfl rfl rfl ?_
  refine X_icmp_ne (tgt := 15) rfl rfl rfl (fun h1 => ?_) (fun h1 => ?_)
  · refine X_aload_n rfl rfl rfl rfl ?_
    refine X_getR (a := 1) rfl rfl rfl ((congrFun F.1 0).trans s_0) rfl ((congrFun (F.2.1 0 (by decide)) 0).trans r_0_0) ?_
    refine X_getR (a := 2) rfl rfl rfl ((congrFun F.1 1).trans s_1) rfl ((congrFun (F.2.1 1 (by decide)) 0).trans r_1_0) ?_
    refine X_iload_n rfl rfl rfl rfl ?_
    refine X_callV (as := [.int a]) (st := []) rfl rfl rfl (by decide) rfl (Nat.le_of_ble_eq_true rfl) (by decide) (Nat.le_of_ble_eq_true rfl) rfl ((congrFun F.1 2).trans s_2) (by decide) ?_
    refine LW_ls (ls' := [some (.ref 2), some (.int a)]) rfl ?_
    refine X_iload_n rfl rfl rfl rfl ?_
    refine X_if_lt (tgt := 22) rfl rfl rfl (fun h2 => ?_) (fun h2 => ?_)
    · refine X_iconst (v := (0 : Int32)) rfl rfl rfl ?_
      refine LW_ireturn (st := []) rfl rfl rfl ?_
      refine X_if_eq (tgt := 39) rfl rfl rfl (fun _ => ?_) (fun q => absurd q (by decide))
      refine X_bipush (v := (-2 : Int32)) rfl rfl rfl ?_
      refine LW_ireturn (st := []) rfl rfl rfl ⟨congrArg (fun z => some (Value.int z)) ?_, E⟩
      simp only [Int32.lt_iff_toInt_lt, Int32.le_iff_toInt_le, ← Int32.toInt_inj, (show (-1 : Int32).toInt = -1 from rfl), (show (0 : Int32).toInt = 0 from rfl)] at h1 h2
      unfold f_printed0
      repeat' split
      all_goals first | rfl | (exfalso; omega) | (refine Int32.toInt_inj.mp ?_; rw [show (0 : Int32).toInt = 0 from rfl]; omega)
    · refine X_iload_n rfl rfl rfl rfl ?_
      refine X_aload_n rfl rfl rfl rfl ?_
      refine X_getI (v := (0 : Int32)) rfl rfl rfl ((congrFun F.1 2).trans s_2) rfl ((congrFun (F.2.2 2 (by decide)).1 0).trans i_2_0) ?_
      refine X_icmp_ge (tgt := 22) rfl rfl rfl (fun h3 => ?_) (fun h3 => ?_)
      · refine X_iconst (v := (0 : Int32)) rfl rfl rfl ?_
        refine LW_ireturn (st := []) rfl rfl rfl ?_
        refine X_if_eq (tgt := 39) rfl rfl rfl (fun _ => ?_) (fun q => absurd q (by decide))
        refine X_bipush (v := (-2 : Int32)) rfl rfl rfl ?_
        refine LW_ireturn (st := []) rfl rfl rfl ⟨congrArg (fun z => some (Value.int z)) ?_, E⟩
        simp only [Int32.lt_iff_toInt_lt, Int32.le_iff_toInt_le, ← Int32.toInt_inj, (show (-1 : Int32).toInt = -1 from rfl), (show (0 : Int32).toInt = 0 from rfl)] at h1 h2 h3
        unfold f_printed0
        repeat' split
        all_goals first | rfl | (exfalso; omega) | (refine Int32.toInt_inj.mp ?_; rw [show (0 : Int32).toInt = 0 from rfl]; omega)
      · exfalso
        simp only [Int32.lt_iff_toInt_lt, Int32.le_iff_toInt_le, ← Int32.toInt_inj, (show (-1 : Int32).toInt = -1 from rfl), (show (0 : Int32).toInt = 0 from rfl)] at h1 h2 h3
        omega
  · refine X_aload_n rfl rfl rfl rfl ?_
    refine X_getR (a := 1) rfl rfl rfl ((congrFun F.1 0).trans s_0) rfl ((congrFun (F.2.1 0 (by decide)) 0).trans r_0_0) ?_
    refine X_iconst (v := (0 : Int32)) rfl rfl rfl ?_
    refine X_putI rfl rfl rfl ((congrFun F.1 1).trans s_1) rfl rfl rfl rfl ?_
    refine X_iconst (v := (0 : Int32)) rfl rfl rfl ?_
    refine LW_ireturn (st := []) rfl rfl rfl ⟨congrArg (fun z => some (Value.int z)) ?_, (Fr_putI E (by decide))⟩
    simp only [Int32.lt_iff_toInt_lt, Int32.le_iff_toInt_le, ← Int32.toInt_inj, (show (-1 : Int32).toInt = -1 from rfl)] at h1
    unfold f_printed0
    repeat' split
    all_goals first | rfl | (exfalso; omega) | (refine Int32.toInt_inj.mp ?_; rw [show (0 : Int32).toInt = 0 from rfl]; omega)
set_option maxRecDepth 10000 in
set_option maxHeartbeats 4000000 in
theorem r_printed0 {g : LH} (F : Fr g) (a : Int32) (b : Int32) : LW 308 30 0 0 0 (lEnt (mL 308) [.ref 355, .int a, .int b, .int (0 : Int32)]) [] g (fun v _ => v = some (.int (f_printed0 a b))) := by
  refine LW_ls (ls' := [some (.ref 355), some (.int a), some (.int b), some (.int (0 : Int32)), none]) rfl ?_
  refine X_iload_n rfl rfl rfl rfl ?_
  refine X_iconst (v := (-1 : Int32)) rfl rfl rfl ?_
  refine X_icmp_ne (tgt := 15) rfl rfl rfl (fun h1 => ?_) (fun h1 => ?_)
  · refine X_aload_n rfl rfl rfl rfl ?_
    refine X_iload_n rfl rfl rfl rfl ?_
    refine X_callV (as := [.int a]) (st := []) rfl rfl rfl (by decide) rfl (Nat.le_of_ble_eq_true rfl) (by decide) (Nat.le_of_ble_eq_true rfl) rfl ((congrFun F.1 355).trans s_355) (by decide) ?_
    refine LW_ls (ls' := [some (.ref 355), some (.int a)]) rfl ?_
    refine X_iload_n rfl rfl rfl rfl ?_
    refine X_iconst (v := (0 : Int32)) rfl rfl rfl ?_
    refine X_aload_n rfl rfl rfl rfl ?_
    refine X_getR (a := 356) rfl rfl rfl ((congrFun F.1 355).trans s_355) rfl ((congrFun (F.2.1 355 (by decide)) 0).trans r_355_0) ?_
    refine X_iconst (v := (0 : Int32)) rfl rfl rfl ?_
    refine X_iald (v := (0 : Int32)) rfl rfl ((congrFun F.1 356).trans s_356) (vp_in_d rfl) ((congrFun (F.2.2 356 (by decide)).1 0).trans i_356_0) ?_
    refine X_iconst (v := (1 : Int32)) rfl rfl rfl ?_
    refine X_isub (v := (-1 : Int32)) rfl rfl rfl ?_
    refine X_callS (as := [.int a, .int (0 : Int32), .int (-1 : Int32)]) (st := []) rfl rfl rfl (by decide) rfl (Nat.le_of_ble_eq_true rfl) (by decide) (Nat.le_of_ble_eq_true rfl) rfl ?_
    refine LW_ls (ls' := [some (.int a), some (.int (0 : Int32)), some (.int (-1 : Int32))]) rfl ?_
    refine X_iload_n rfl rfl rfl rfl ?_
    refine X_iload_n rfl rfl rfl rfl ?_
    refine X_icmp_lt (tgt := 14) rfl rfl rfl (fun h2 => ?_) (fun h2 => ?_)
    · refine X_iconst (v := (0 : Int32)) rfl rfl rfl ?_
      refine LW_ireturn (st := []) rfl rfl rfl ?_
      refine LW_ireturn (st := []) rfl rfl rfl ?_
      refine X_if_eq (tgt := 45) rfl rfl rfl (fun _ => ?_) (fun q => absurd q (by decide))
      refine X_bipush (v := (-2 : Int32)) rfl rfl rfl ?_
      refine LW_ireturn (st := []) rfl rfl rfl (congrArg (fun z => some (Value.int z)) ?_)
      simp only [Int32.lt_iff_toInt_lt, Int32.le_iff_toInt_le, ← Int32.toInt_inj, (show (-1 : Int32).toInt = -1 from rfl), (show (0 : Int32).toInt = 0 from rfl)] at h1 h2
      unfold f_printed0
      repeat' split
      all_goals first | rfl | (exfalso; omega) | (refine Int32.toInt_inj.mp ?_; rw [show (0 : Int32).toInt = 0 from rfl]; omega)
    · refine X_iload_n rfl rfl rfl rfl ?_
      refine X_iload_n rfl rfl rfl rfl ?_
      refine X_icmp_gt (tgt := 14) rfl rfl rfl (fun h3 => ?_) (fun h3 => ?_)
      · refine X_iconst (v := (0 : Int32)) rfl rfl rfl ?_
        refine LW_ireturn (st := []) rfl rfl rfl ?_
        refine LW_ireturn (st := []) rfl rfl rfl ?_
        refine X_if_eq (tgt := 45) rfl rfl rfl (fun _ => ?_) (fun q => absurd q (by decide))
        refine X_bipush (v := (-2 : Int32)) rfl rfl rfl ?_
        refine LW_ireturn (st := []) rfl rfl rfl (congrArg (fun z => some (Value.int z)) ?_)
        simp only [Int32.lt_iff_toInt_lt, Int32.le_iff_toInt_le, ← Int32.toInt_inj, (show (-1 : Int32).toInt = -1 from rfl), (show (0 : Int32).toInt = 0 from rfl)] at h1 h2 h3
        unfold f_printed0
        repeat' split
        all_goals first | rfl | (exfalso; omega) | (refine Int32.toInt_inj.mp ?_; rw [show (0 : Int32).toInt = 0 from rfl]; omega)
      · exfalso
        simp only [Int32.lt_iff_toInt_lt, Int32.le_iff_toInt_le, ← Int32.toInt_inj, (show (-1 : Int32).toInt = -1 from rfl), (show (0 : Int32).toInt = 0 from rfl)] at h1 h2 h3
        omega
  · refine X_aload_n rfl rfl rfl rfl ?_
    refine X_getR (a := 356) rfl rfl rfl ((congrFun F.1 355).trans s_355) rfl ((congrFun (F.2.1 355 (by decide)) 0).trans r_355_0) ?_
    refine X_bipush (v := (9 : Int32)) rfl rfl rfl ?_
    refine X_iconst (v := (0 : Int32)) rfl rfl rfl ?_
    refine X_iast (k0 := 9) rfl rfl ((congrFun F.1 356).trans s_356) (vp_in_d rfl) rfl ?_
    refine X_iconst (v := (0 : Int32)) rfl rfl rfl ?_
    refine LW_ireturn (st := []) rfl rfl rfl (congrArg (fun z => some (Value.int z)) ?_)
    simp only [Int32.lt_iff_toInt_lt, Int32.le_iff_toInt_le, ← Int32.toInt_inj, (show (-1 : Int32).toInt = -1 from rfl)] at h1
    unfold f_printed0
    repeat' split
    all_goals first | rfl | (exfalso; omega) | (refine Int32.toInt_inj.mp ?_; rw [show (0 : Int32).toInt = 0 from rfl]; omega)
set_option maxRecDepth 10000 in
set_option maxHeartbeats 4000000 in
theorem c_printed1 {g : LH} (F : Fc g) (E : Fr g) (a : Int32) (b : Int32) : LW 160 30 0 0 0 (lEnt (mL 160) [.ref 0, .int a, .int b, .int (1 : Int32)]) [] g (fun v g' => v = some (.int (f_printed1 a b)) ∧ Fr g') := by
  refine LW_ls (ls' := [some (.ref 0), some (.int a), some (.int b), some (.int (1 : Int32))]) rfl ?_
  refine X_iload_n rfl rfl rfl rfl ?_
  refine X_iconst (v := (-1 : Int32)) rfl rfl rfl ?_
  refine X_icmp_ne (tgt := 15) rfl rfl rfl (fun h1 => ?_) (fun h1 => ?_)
  · refine X_aload_n rfl rfl rfl rfl ?_
    refine X_getR (a := 1) rfl rfl rfl ((congrFun F.1 0).trans s_0) rfl ((congrFun (F.2.1 0 (by decide)) 0).trans r_0_0) ?_
    refine X_getR (a := 2) rfl rfl rfl ((congrFun F.1 1).trans s_1) rfl ((congrFun (F.2.1 1 (by decide)) 0).trans r_1_0) ?_
    refine X_iload_n rfl rfl rfl rfl ?_
    refine X_callV (as := [.int a]) (st := []) rfl rfl rfl (by decide) rfl (Nat.le_of_ble_eq_true rfl) (by decide) (Nat.le_of_ble_eq_true rfl) rfl ((congrFun F.1 2).trans s_2) (by decide) ?_
    refine LW_ls (ls' := [some (.ref 2), some (.int a)]) rfl ?_
    refine X_iload_n rfl rfl rfl rfl ?_
    refine X_if_lt (tgt := 22) rfl rfl rfl (fun h2 => ?_) (fun h2 => ?_)
    · refine X_iconst (v := (0 : Int32)) rfl rfl rfl ?_
      refine LW_ireturn (st := []) rfl rfl rfl ?_
      refine X_if_eq (tgt := 39) rfl rfl rfl (fun _ => ?_) (fun q => absurd q (by decide))
      refine X_bipush (v := (-2 : Int32)) rfl rfl rfl ?_
      refine LW_ireturn (st := []) rfl rfl rfl ⟨congrArg (fun z => some (Value.int z)) ?_, E⟩
      simp only [Int32.lt_iff_toInt_lt, Int32.le_iff_toInt_le, ← Int32.toInt_inj, (show (-1 : Int32).toInt = -1 from rfl), (show (0 : Int32).toInt = 0 from rfl)] at h1 h2
      unfold f_printed1
      repeat' split
      all_goals first | rfl | (exfalso; omega) | (refine Int32.toInt_inj.mp ?_; rw [show (0 : Int32).toInt = 0 from rfl]; omega)
    · refine X_iload_n rfl rfl rfl rfl ?_
      refine X_aload_n rfl rfl rfl rfl ?_
      refine X_getI (v := (0 : Int32)) rfl rfl rfl ((congrFun F.1 2).trans s_2) rfl ((congrFun (F.2.2 2 (by decide)).1 0).trans i_2_0) ?_
      refine X_icmp_ge (tgt := 22) rfl rfl rfl (fun h3 => ?_) (fun h3 => ?_)
      · refine X_iconst (v := (0 : Int32)) rfl rfl rfl ?_
        refine LW_ireturn (st := []) rfl rfl rfl ?_
        refine X_if_eq (tgt := 39) rfl rfl rfl (fun _ => ?_) (fun q => absurd q (by decide))
        refine X_bipush (v := (-2 : Int32)) rfl rfl rfl ?_
        refine LW_ireturn (st := []) rfl rfl rfl ⟨congrArg (fun z => some (Value.int z)) ?_, E⟩
        simp only [Int32.lt_iff_toInt_lt, Int32.le_iff_toInt_le, ← Int32.toInt_inj, (show (-1 : Int32).toInt = -1 from rfl), (show (0 : Int32).toInt = 0 from rfl)] at h1 h2 h3
        unfold f_printed1
        repeat' split
        all_goals first | rfl | (exfalso; omega) | (refine Int32.toInt_inj.mp ?_; rw [show (0 : Int32).toInt = 0 from rfl]; omega)
      · exfalso
        simp only [Int32.lt_iff_toInt_lt, Int32.le_iff_toInt_le, ← Int32.toInt_inj, (show (-1 : Int32).toInt = -1 from rfl), (show (0 : Int32).toInt = 0 from rfl)] at h1 h2 h3
        omega
  · refine X_aload_n rfl rfl rfl rfl ?_
    refine X_getR (a := 1) rfl rfl rfl ((congrFun F.1 0).trans s_0) rfl ((congrFun (F.2.1 0 (by decide)) 0).trans r_0_0) ?_
    refine X_iconst (v := (0 : Int32)) rfl rfl rfl ?_
    refine X_putI rfl rfl rfl ((congrFun F.1 1).trans s_1) rfl rfl rfl rfl ?_
    refine X_iconst (v := (0 : Int32)) rfl rfl rfl ?_
    refine LW_ireturn (st := []) rfl rfl rfl ⟨congrArg (fun z => some (Value.int z)) ?_, (Fr_putI E (by decide))⟩
    simp only [Int32.lt_iff_toInt_lt, Int32.le_iff_toInt_le, ← Int32.toInt_inj, (show (-1 : Int32).toInt = -1 from rfl)] at h1
    unfold f_printed1
    repeat' split
    all_goals first | rfl | (exfalso; omega) | (refine Int32.toInt_inj.mp ?_; rw [show (0 : Int32).toInt = 0 from rfl]; omega)
set_option maxRecDepth 10000 in
set_option maxHeartbeats 4000000 in
theorem r_printed1 {g : LH} (F : Fr g) (a : Int32) (b : Int32) : LW 308 30 0 0 0 (lEnt (mL 308) [.ref 355, .int a, .int b, .int (1 : Int32)]) [] g (fun v _ => v = some (.int (f_printed1 a b))) := by
  refine LW_ls (ls' := [some (.ref 355), some (.int a), some (.int b), some (.int (1 : Int32)), none]) rfl ?_
  refine X_iload_n rfl rfl rfl rfl ?_
  refine X_iconst (v := (-1 : Int32)) rfl rfl rfl ?_
  refine X_icmp_ne (tgt := 15) rfl rfl rfl (fun h1 => ?_) (fun h1 => ?_)
  · refine X_aload_n rfl rfl rfl rfl ?_
    refine X_iload_n rfl rfl rfl rfl ?_
    refine X_callV (as := [.int a]) (st := []) rfl rfl rfl (by decide) rfl (Nat.le_of_ble_eq_true rfl) (by decide) (Nat.le_of_ble_eq_true rfl) rfl ((congrFun F.1 355).trans s_355) (by decide) ?_
    refine LW_ls (ls' := [some (.ref 355), some (.int a)]) rfl ?_
    refine X_iload_n rfl rfl rfl rfl ?_
    refine X_iconst (v := (0 : Int32)) rfl rfl rfl ?_
    refine X_aload_n rfl rfl rfl rfl ?_
    refine X_getR (a := 356) rfl rfl rfl ((congrFun F.1 355).trans s_355) rfl ((congrFun (F.2.1 355 (by decide)) 0).trans r_355_0) ?_
    refine X_iconst (v := (0 : Int32)) rfl rfl rfl ?_
    refine X_iald (v := (0 : Int32)) rfl rfl ((congrFun F.1 356).trans s_356) (vp_in_d rfl) ((congrFun (F.2.2 356 (by decide)).1 0).trans i_356_0) ?_
    refine X_iconst (v := (1 : Int32)) rfl rfl rfl ?_
    refine X_isub (v := (-1 : Int32)) rfl rfl rfl ?_
    refine X_callS (as := [.int a, .int (0 : Int32), .int (-1 : Int32)]) (st := []) rfl rfl rfl (by decide) rfl (Nat.le_of_ble_eq_true rfl) (by decide) (Nat.le_of_ble_eq_true rfl) rfl ?_
    refine LW_ls (ls' := [some (.int a), some (.int (0 : Int32)), some (.int (-1 : Int32))]) rfl ?_
    refine X_iload_n rfl rfl rfl rfl ?_
    refine X_iload_n rfl rfl rfl rfl ?_
    refine X_icmp_lt (tgt := 14) rfl rfl rfl (fun h2 => ?_) (fun h2 => ?_)
    · refine X_iconst (v := (0 : Int32)) rfl rfl rfl ?_
      refine LW_ireturn (st := []) rfl rfl rfl ?_
      refine LW_ireturn (st := []) rfl rfl rfl ?_
      refine X_if_eq (tgt := 45) rfl rfl rfl (fun _ => ?_) (fun q => absurd q (by decide))
      refine X_bipush (v := (-2 : Int32)) rfl rfl rfl ?_
      refine LW_ireturn (st := []) rfl rfl rfl (congrArg (fun z => some (Value.int z)) ?_)
      simp only [Int32.lt_iff_toInt_lt, Int32.le_iff_toInt_le, ← Int32.toInt_inj, (show (-1 : Int32).toInt = -1 from rfl), (show (0 : Int32).toInt = 0 from rfl)] at h1 h2
      unfold f_printed1
      repeat' split
      all_goals first | rfl | (exfalso; omega) | (refine Int32.toInt_inj.mp ?_; rw [show (0 : Int32).toInt = 0 from rfl]; omega)
    · refine X_iload_n rfl rfl rfl rfl ?_
      refine X_iload_n rfl rfl rfl rfl ?_
      refine X_icmp_gt (tgt := 14) rfl rfl rfl (fun h3 => ?_) (fun h3 => ?_)
      · refine X_iconst (v := (0 : Int32)) rfl rfl rfl ?_
        refine LW_ireturn (st := []) rfl rfl rfl ?_
        refine LW_ireturn (st := []) rfl rfl rfl ?_
        refine X_if_eq (tgt := 45) rfl rfl rfl (fun _ => ?_) (fun q => absurd q (by decide))
        refine X_bipush (v := (-2 : Int32)) rfl rfl rfl ?_
        refine LW_ireturn (st := []) rfl rfl rfl (congrArg (fun z => some (Value.int z)) ?_)
        simp only [Int32.lt_iff_toInt_lt, Int32.le_iff_toInt_le, ← Int32.toInt_inj, (show (-1 : Int32).toInt = -1 from rfl), (show (0 : Int32).toInt = 0 from rfl)] at h1 h2 h3
        unfold f_printed1
        repeat' split
        all_goals first | rfl | (exfalso; omega) | (refine Int32.toInt_inj.mp ?_; rw [show (0 : Int32).toInt = 0 from rfl]; omega)
      · exfalso
        simp only [Int32.lt_iff_toInt_lt, Int32.le_iff_toInt_le, ← Int32.toInt_inj, (show (-1 : Int32).toInt = -1 from rfl), (show (0 : Int32).toInt = 0 from rfl)] at h1 h2 h3
        omega
  · refine X_aload_n rfl rfl rfl rfl ?_
    refine X_getR (a := 356) rfl rfl rfl ((congrFun F.1 355).trans s_355) rfl ((congrFun (F.2.1 355 (by decide)) 0).trans r_355_0) ?_
    refine X_bipush (v := (9 : Int32)) rfl rfl rfl ?_
    refine X_iconst (v := (0 : Int32)) rfl rfl rfl ?_
    refine X_iast (k0 := 9) rfl rfl ((congrFun F.1 356).trans s_356) (vp_in_d rfl) rfl ?_
    refine X_iconst (v := (0 : Int32)) rfl rfl rfl ?_
    refine LW_ireturn (st := []) rfl rfl rfl (congrArg (fun z => some (Value.int z)) ?_)
    simp only [Int32.lt_iff_toInt_lt, Int32.le_iff_toInt_le, ← Int32.toInt_inj, (show (-1 : Int32).toInt = -1 from rfl)] at h1
    unfold f_printed1
    repeat' split
    all_goals first | rfl | (exfalso; omega) | (refine Int32.toInt_inj.mp ?_; rw [show (0 : Int32).toInt = 0 from rfl]; omega)
set_option maxRecDepth 10000 in
set_option maxHeartbeats 4000000 in
theorem c_signed {g : LH} (F : Fc g) (E : Fr g) (a : Int32) (b : Int32) : LW 162 30 0 0 0 (lEnt (mL 162) [.ref 0, .int a, .int b]) [] g (fun v g' => v = some (.int (f_signed a b)) ∧ Fr g') := by
  refine LW_ls (ls' := [some (.ref 0), some (.int a), some (.int b), none, none]) rfl ?_
  refine X_aload_n rfl rfl rfl rfl ?_
  refine X_getR (a := 1) rfl rfl rfl ((congrFun F.1 0).trans s_0) rfl ((congrFun (F.2.1 0 (by decide)) 0).trans r_0_0) ?_
  refine X_getR (a := 10) rfl rfl rfl ((congrFun F.1 1).trans s_1) rfl ((congrFun (F.2.1 1 (by decide)) 1).trans r_1_1) ?_
  refine X_getI (v := (0 : Int32)) rfl rfl rfl ((congrFun F.1 10).trans s_10) rfl ((congrFun (F.2.2 10 (by decide)).1 3).trans i_10_3) ?_
  refine X_istore_n (i := 3) (ls' := [some (.ref 0), some (.int a), some (.int b), some (.int (0 : Int32)), none]) rfl rfl rfl (Nat.le_of_ble_eq_true rfl) rfl ?_
  refine X_iload_n rfl rfl rfl rfl ?_
  refine X_iconst (v := (-1 : Int32)) rfl rfl rfl ?_
  refine X_icmp_ne (tgt := 18) rfl rfl rfl (fun h1 => ?_) (fun h1 => ?_)
  · refine X_iload_n rfl rfl rfl rfl ?_
    refine X_if_lt (tgt := 33) rfl rfl rfl (fun h2 => ?_) (fun h2 => ?_)
    · refine X_bipush (v := (-2 : Int32)) rfl rfl rfl ?_
      refine LW_ireturn (st := []) rfl rfl rfl ⟨congrArg (fun z => some (Value.int z)) ?_, E⟩
      simp only [Int32.lt_iff_toInt_lt, Int32.le_iff_toInt_le, ← Int32.toInt_inj, (show (-1 : Int32).toInt = -1 from rfl), (show (0 : Int32).toInt = 0 from rfl)] at h1 h2
      unfold f_signed
      repeat' split
      all_goals first | rfl | (exfalso; omega) | (refine Int32.toInt_inj.mp ?_; rw [show (0 : Int32).toInt = 0 from rfl]; omega)
    · refine X_iload_n rfl rfl rfl rfl ?_
      refine X_iload_n rfl rfl rfl rfl ?_
      refine X_icmp_ge (tgt := 33) rfl rfl rfl (fun h3 => ?_) (fun h3 => ?_)
      · refine X_bipush (v := (-2 : Int32)) rfl rfl rfl ?_
        refine LW_ireturn (st := []) rfl rfl rfl ⟨congrArg (fun z => some (Value.int z)) ?_, E⟩
        simp only [Int32.lt_iff_toInt_lt, Int32.le_iff_toInt_le, ← Int32.toInt_inj, (show (-1 : Int32).toInt = -1 from rfl), (show (0 : Int32).toInt = 0 from rfl)] at h1 h2 h3
        unfold f_signed
        repeat' split
        all_goals first | rfl | (exfalso; omega) | (refine Int32.toInt_inj.mp ?_; rw [show (0 : Int32).toInt = 0 from rfl]; omega)
      · exfalso
        simp only [Int32.lt_iff_toInt_lt, Int32.le_iff_toInt_le, ← Int32.toInt_inj, (show (-1 : Int32).toInt = -1 from rfl), (show (0 : Int32).toInt = 0 from rfl)] at h1 h2 h3
        omega
  · refine X_iload_n rfl rfl rfl rfl ?_
    refine LW_ireturn (st := []) rfl rfl rfl ⟨congrArg (fun z => some (Value.int z)) ?_, E⟩
    simp only [Int32.lt_iff_toInt_lt, Int32.le_iff_toInt_le, ← Int32.toInt_inj, (show (-1 : Int32).toInt = -1 from rfl)] at h1
    unfold f_signed
    repeat' split
    all_goals first | rfl | (exfalso; omega) | (refine Int32.toInt_inj.mp ?_; rw [show (0 : Int32).toInt = 0 from rfl]; omega)
set_option maxRecDepth 10000 in
set_option maxHeartbeats 4000000 in
theorem r_signed {g : LH} (F : Fr g) (a : Int32) (b : Int32) : LW 315 30 0 0 0 (lEnt (mL 315) [.ref 355, .int a, .int b]) [] g (fun v _ => v = some (.int (f_signed a b))) := by
  refine LW_ls (ls' := [some (.ref 355), some (.int a), some (.int b), none]) rfl ?_
  refine X_iload_n rfl rfl rfl rfl ?_
  refine X_iconst (v := (-1 : Int32)) rfl rfl rfl ?_
  refine X_icmp_ne (tgt := 13) rfl rfl rfl (fun h1 => ?_) (fun h1 => ?_)
  · refine X_iload_n rfl rfl rfl rfl ?_
    refine X_iconst (v := (0 : Int32)) rfl rfl rfl ?_
    refine X_aload_n rfl rfl rfl rfl ?_
    refine X_getR (a := 356) rfl rfl rfl ((congrFun F.1 355).trans s_355) rfl ((congrFun (F.2.1 355 (by decide)) 0).trans r_355_0) ?_
    refine X_bipush (v := (10 : Int32)) rfl rfl rfl ?_
    refine X_iald (v := (0 : Int32)) rfl rfl ((congrFun F.1 356).trans s_356) (vp_in_d rfl) ((congrFun (F.2.2 356 (by decide)).1 10).trans i_356_10) ?_
    refine X_iconst (v := (1 : Int32)) rfl rfl rfl ?_
    refine X_isub (v := (-1 : Int32)) rfl rfl rfl ?_
    refine X_callS (as := [.int a, .int (0 : Int32), .int (-1 : Int32)]) (st := []) rfl rfl rfl (by decide) rfl (Nat.le_of_ble_eq_true rfl) (by decide) (Nat.le_of_ble_eq_true rfl) rfl ?_
    refine LW_ls (ls' := [some (.int a), some (.int (0 : Int32)), some (.int (-1 : Int32))]) rfl ?_
    refine X_iload_n rfl rfl rfl rfl ?_
    refine X_iload_n rfl rfl rfl rfl ?_
    refine X_icmp_lt (tgt := 14) rfl rfl rfl (fun h2 => ?_) (fun h2 => ?_)
    · refine X_iconst (v := (0 : Int32)) rfl rfl rfl ?_
      refine LW_ireturn (st := []) rfl rfl rfl ?_
      refine X_if_ne (tgt := 33) rfl rfl rfl (fun q => absurd q (by decide)) (fun _ => ?_)
      refine X_bipush (v := (-2 : Int32)) rfl rfl rfl ?_
      refine LW_ireturn (st := []) rfl rfl rfl (congrArg (fun z => some (Value.int z)) ?_)
      simp only [Int32.lt_iff_toInt_lt, Int32.le_iff_toInt_le, ← Int32.toInt_inj, (show (-1 : Int32).toInt = -1 from rfl), (show (0 : Int32).toInt = 0 from rfl)] at h1 h2
      unfold f_signed
      repeat' split
      all_goals first | rfl | (exfalso; omega) | (refine Int32.toInt_inj.mp ?_; rw [show (0 : Int32).toInt = 0 from rfl]; omega)
    · refine X_iload_n rfl rfl rfl rfl ?_
      refine X_iload_n rfl rfl rfl rfl ?_
      refine X_icmp_gt (tgt := 14) rfl rfl rfl (fun h3 => ?_) (fun h3 => ?_)
      · refine X_iconst (v := (0 : Int32)) rfl rfl rfl ?_
        refine LW_ireturn (st := []) rfl rfl rfl ?_
        refine X_if_ne (tgt := 33) rfl rfl rfl (fun q => absurd q (by decide)) (fun _ => ?_)
        refine X_bipush (v := (-2 : Int32)) rfl rfl rfl ?_
        refine LW_ireturn (st := []) rfl rfl rfl (congrArg (fun z => some (Value.int z)) ?_)
        simp only [Int32.lt_iff_toInt_lt, Int32.le_iff_toInt_le, ← Int32.toInt_inj, (show (-1 : Int32).toInt = -1 from rfl), (show (0 : Int32).toInt = 0 from rfl)] at h1 h2 h3
        unfold f_signed
        repeat' split
        all_goals first | rfl | (exfalso; omega) | (refine Int32.toInt_inj.mp ?_; rw [show (0 : Int32).toInt = 0 from rfl]; omega)
      · exfalso
        simp only [Int32.lt_iff_toInt_lt, Int32.le_iff_toInt_le, ← Int32.toInt_inj, (show (-1 : Int32).toInt = -1 from rfl), (show (0 : Int32).toInt = 0 from rfl)] at h1 h2 h3
        omega
  · refine X_aload_n rfl rfl rfl rfl ?_
    refine X_getR (a := 356) rfl rfl rfl ((congrFun F.1 355).trans s_355) rfl ((congrFun (F.2.1 355 (by decide)) 0).trans r_355_0) ?_
    refine X_bipush (v := (10 : Int32)) rfl rfl rfl ?_
    refine X_iald (v := (0 : Int32)) rfl rfl ((congrFun F.1 356).trans s_356) (vp_in_d rfl) ((congrFun (F.2.2 356 (by decide)).1 10).trans i_356_10) ?_
    refine LW_ireturn (st := []) rfl rfl rfl (congrArg (fun z => some (Value.int z)) ?_)
    simp only [Int32.lt_iff_toInt_lt, Int32.le_iff_toInt_le, ← Int32.toInt_inj, (show (-1 : Int32).toInt = -1 from rfl)] at h1
    unfold f_signed
    repeat' split
    all_goals first | rfl | (exfalso; omega) | (refine Int32.toInt_inj.mp ?_; rw [show (0 : Int32).toInt = 0 from rfl]; omega)
