/-! walks printed by wip/p1/walk.py: spared0 spared1 power0 power1 game0 game1 settlement -/
def f_spared0 : Int32 := 0
def f_spared1 : Int32 := 0
def f_power0 (a : Int32) (b : Int32) (c : Int32) : Int32 := -1
def f_power1 (a : Int32) (b : Int32) (c : Int32) : Int32 := -1
def f_game0 (a : Int32) (b : Int32) : Int32 := -2
def f_game1 (a : Int32) (b : Int32) : Int32 := -2
def f_settlement (a : Int32) (b : Int32) : Int32 := -1
set_option maxRecDepth 10000 in
set_option maxHeartbeats 4000000 in
theorem c_spared0 {g : LH} (F : Fc g) (E : Fr g) : LW 150 30 0 0 0 (lEnt (mL 150) [.ref 0, .int (0 : Int32)]) [] g (fun v g' => v = some (.int (f_spared0)) ∧ Fr g') := by
  refine LW_ls (ls' := [some (.ref 0), some (.int (0 : Int32)), none, none, none, none]) rfl ?_
  refine X_iconst (v := (0 : Int32)) rfl rfl rfl ?_
  refine X_istore_n (i := 2) (ls' := [some (.ref 0), some (.int (0 : Int32)), some (.int (0 : Int32)), none, none, none]) rfl rfl rfl (Nat.le_of_ble_eq_true rfl) rfl ?_
  refine X_iconst (v := (-1 : Int32)) rfl rfl rfl ?_
  refine X_istore_n (i := 3) (ls' := [some (.ref 0), some (.int (0 : Int32)), some (.int (0 : Int32)), some (.int (-1 : Int32)), none, none]) rfl rfl rfl (Nat.le_of_ble_eq_true rfl) rfl ?_
  refine X_iconst (v := (0 : Int32)) rfl rfl rfl ?_
  refine X_istore (i := 4) (ls' := [some (.ref 0), some (.int (0 : Int32)), some (.int (0 : Int32)), some (.int (-1 : Int32)), some (.int (0 : Int32)), none]) rfl rfl (Nat.le_of_ble_eq_true rfl) rfl ?_
  refine X_iload rfl rfl rfl ?_
  refine X_bipush (v := (26 : Int32)) rfl rfl rfl ?_
  refine X_icmp_ge (tgt := 48) rfl rfl rfl (fun q => absurd q (by decide)) (fun _ => ?_)
  refine X_aload_n rfl rfl rfl rfl ?_
  refine X_getR (a := 1) rfl rfl rfl ((congrFun F.1 0).trans s_0) rfl ((congrFun (F.2.1 0 (by decide)) 0).trans r_0_0) ?_
  refine X_getR (a := 2) rfl rfl rfl ((congrFun F.1 1).trans s_1) rfl ((congrFun (F.2.1 1 (by decide)) 0).trans r_1_0) ?_
  refine X_iconst (v := (1 : Int32)) rfl rfl rfl ?_
  refine X_iload rfl rfl rfl ?_
  refine X_ishl (v := (1 : Int32)) rfl rfl rfl ?_
  refine X_callV (as := [.int (1 : Int32)]) (st := []) rfl rfl rfl (by decide) rfl (Nat.le_of_ble_eq_true rfl) (by decide) (Nat.le_of_ble_eq_true rfl) rfl ((congrFun F.1 2).trans s_2) (by decide) ?_
  refine LW_ls (ls' := [some (.ref 2), some (.int (1 : Int32)), none, none, none]) rfl ?_
  refine X_aload_n rfl rfl rfl rfl ?_
  refine X_iload_n rfl rfl rfl rfl ?_
  refine X_callV (as := [.int (1 : Int32)]) (st := []) rfl rfl rfl (by decide) rfl (Nat.le_of_ble_eq_true rfl) (by decide) (Nat.le_of_ble_eq_true rfl) rfl ((congrFun F.1 2).trans s_2) (by decide) ?_
  refine LW_ls (ls' := [some (.ref 2), some (.int (1 : Int32)), none, none]) rfl ?_
  refine X_iconst (v := (0 : Int32)) rfl rfl rfl ?_
  refine X_istore_n (i := 2) (ls' := [some (.ref 2), some (.int (1 : Int32)), some (.int (0 : Int32)), none]) rfl rfl rfl (Nat.le_of_ble_eq_true rfl) rfl ?_
  refine X_iconst (v := (0 : Int32)) rfl rfl rfl ?_
  refine X_istore_n (i := 3) (ls' := [some (.ref 2), some (.int (1 : Int32)), some (.int (0 : Int32)), some (.int (0 : Int32))]) rfl rfl rfl (Nat.le_of_ble_eq_true rfl) rfl ?_
  refine X_iload_n rfl rfl rfl rfl ?_
  refine X_aload_n rfl rfl rfl rfl ?_
  refine X_getI (v := (0 : Int32)) rfl rfl rfl ((congrFun F.1 2).trans s_2) rfl ((congrFun (F.2.2 2 (by decide)).1 0).trans i_2_0) ?_
  refine X_icmp_ge (tgt := 40) rfl rfl rfl (fun _ => ?_) (fun q => absurd q (by decide))
  refine X_iload_n rfl rfl rfl rfl ?_
  refine LW_ireturn (st := []) rfl rfl rfl ?_
  refine X_istore_n (i := 2) (ls' := [some (.ref 2), some (.int (1 : Int32)), some (.int (0 : Int32)), none, none]) rfl rfl rfl (Nat.le_of_ble_eq_true rfl) rfl ?_
  refine X_iconst (v := (0 : Int32)) rfl rfl rfl ?_
  refine X_istore_n (i := 3) (ls' := [some (.ref 2), some (.int (1 : Int32)), some (.int (0 : Int32)), some (.int (0 : Int32)), none]) rfl rfl rfl (Nat.le_of_ble_eq_true rfl) rfl ?_
  refine X_iconst (v := (0 : Int32)) rfl rfl rfl ?_
  refine X_istore (i := 4) (ls' := [some (.ref 2), some (.int (1 : Int32)), some (.int (0 : Int32)), some (.int (0 : Int32)), some (.int (0 : Int32))]) rfl rfl (Nat.le_of_ble_eq_true rfl) rfl ?_
  refine X_iload rfl rfl rfl ?_
  refine X_aload_n rfl rfl rfl rfl ?_
  refine X_getI (v := (0 : Int32)) rfl rfl rfl ((congrFun F.1 2).trans s_2) rfl ((congrFun (F.2.2 2 (by decide)).1 1).trans i_2_1) ?_
  refine X_icmp_ge (tgt := 48) rfl rfl rfl (fun _ => ?_) (fun q => absurd q (by decide))
  refine X_iload_n rfl rfl rfl rfl ?_
  refine LW_ireturn (st := []) rfl rfl rfl ?_
  refine X_istore (i := 5) (ls' := [some (.ref 0), some (.int (0 : Int32)), some (.int (0 : Int32)), some (.int (-1 : Int32)), some (.int (0 : Int32)), some (.int (0 : Int32))]) rfl rfl (Nat.le_of_ble_eq_true rfl) rfl ?_
  refine X_iload rfl rfl rfl ?_
  refine X_iload_n rfl rfl rfl rfl ?_
  refine X_icmp_le (tgt := 42) rfl rfl rfl (fun q => absurd q (by decide)) (fun _ => ?_)
  refine X_iload rfl rfl rfl ?_
  refine X_istore_n (i := 3) (ls' := [some (.ref 0), some (.int (0 : Int32)), some (.int (0 : Int32)), some (.int (0 : Int32)), some (.int (0 : Int32)), some (.int (0 : Int32))]) rfl rfl rfl (Nat.le_of_ble_eq_true rfl) rfl ?_
  refine X_iload rfl rfl rfl ?_
  refine X_istore_n (i := 2) (ls' := [some (.ref 0), some (.int (0 : Int32)), some (.int (0 : Int32)), some (.int (0 : Int32)), some (.int (0 : Int32)), some (.int (0 : Int32))]) rfl rfl rfl (Nat.le_of_ble_eq_true rfl) rfl ?_
  refine X_iinc (v := (1 : Int32)) (ls' := [some (.ref 0), some (.int (0 : Int32)), some (.int (0 : Int32)), some (.int (0 : Int32)), some (.int (1 : Int32)), some (.int (0 : Int32))]) rfl rfl rfl rfl rfl ?_
  refine LW_goto (tgt := 7) rfl rfl ?_
  refine X_iload rfl rfl rfl ?_
  refine X_bipush (v := (26 : Int32)) rfl rfl rfl ?_
  refine X_icmp_ge (tgt := 48) rfl rfl rfl (fun q => absurd q (by decide)) (fun _ => ?_)
  refine X_aload_n rfl rfl rfl rfl ?_
  refine X_getR (a := 1) rfl rfl rfl ((congrFun F.1 0).trans s_0) rfl ((congrFun (F.2.1 0 (by decide)) 0).trans r_0_0) ?_
  refine X_getR (a := 2) rfl rfl rfl ((congrFun F.1 1).trans s_1) rfl ((congrFun (F.2.1 1 (by decide)) 0).trans r_1_0) ?_
  refine X_iconst (v := (1 : Int32)) rfl rfl rfl ?_
  refine X_iload rfl rfl rfl ?_
  refine X_ishl (v := (2 : Int32)) rfl rfl rfl ?_
  refine X_callV (as := [.int (2 : Int32)]) (st := []) rfl rfl rfl (by decide) rfl (Nat.le_of_ble_eq_true rfl) (by decide) (Nat.le_of_ble_eq_true rfl) rfl ((congrFun F.1 2).trans s_2) (by decide) ?_
  refine LW_ls (ls' := [some (.ref 2), some (.int (2 : Int32)), none, none, none]) rfl ?_
  refine X_aload_n rfl rfl rfl rfl ?_
  refine X_iload_n rfl rfl rfl rfl ?_
  refine X_callV (as := [.int (2 : Int32)]) (st := []) rfl rfl rfl (by decide) rfl (Nat.le_of_ble_eq_true rfl) (by decide) (Nat.le_of_ble_eq_true rfl) rfl ((congrFun F.1 2).trans s_2) (by decide) ?_
  refine LW_ls (ls' := [some (.ref 2), some (.int (2 : Int32)), none, none]) rfl ?_
  refine X_iconst (v := (0 : Int32)) rfl rfl rfl ?_
  refine X_istore_n (i := 2) (ls' := [some (.ref 2), some (.int (2 : Int32)), some (.int (0 : Int32)), none]) rfl rfl rfl (Nat.le_of_ble_eq_true rfl) rfl ?_
  refine X_iconst (v := (0 : Int32)) rfl rfl rfl ?_
  refine X_istore_n (i := 3) (ls' := [some (.ref 2), some (.int (2 : Int32)), some (.int (0 : Int32)), some (.int (0 : Int32))]) rfl rfl rfl (Nat.le_of_ble_eq_true rfl) rfl ?_
  refine X_iload_n rfl rfl rfl rfl ?_
  refine X_aload_n rfl rfl rfl rfl ?_
  refine X_getI (v := (0 : Int32)) rfl rfl rfl ((congrFun F.1 2).trans s_2) rfl ((congrFun (F.2.2 2 (by decide)).1 0).trans i_2_0) ?_
  refine X_icmp_ge (tgt := 40) rfl rfl rfl (fun _ => ?_) (fun q => absurd q (by decide))
  refine X_iload_n rfl rfl rfl rfl ?_
  refine LW_ireturn (st := []) rfl rfl rfl ?_
  refine X_istore_n (i := 2) (ls' := [some (.ref 2), some (.int (2 : Int32)), some (.int (0 : Int32)), none, none]) rfl rfl rfl (Nat.le_of_ble_eq_true rfl) rfl ?_
  refine X_iconst (v := (0 : Int32)) rfl rfl rfl ?_
  refine X_istore_n (i := 3) (ls' := [some (.ref 2), some (.int (2 : Int32)), some (.int (0 : Int32)), some (.int (0 : Int32)), none]) rfl rfl rfl (Nat.le_of_ble_eq_true rfl) rfl ?_
  refine X_iconst (v := (0 : Int32)) rfl rfl rfl ?_
  refine X_istore (i := 4) (ls' := [some (.ref 2), some (.int (2 : Int32)), some (.int (0 : Int32)), some (.int (0 : Int32)), some (.int (0 : Int32))]) rfl rfl (Nat.le_of_ble_eq_true rfl) rfl ?_
  refine X_iload rfl rfl rfl ?_
  refine X_aload_n rfl rfl rfl rfl ?_
  refine X_getI (v := (0 : Int32)) rfl rfl rfl ((congrFun F.1 2).trans s_2) rfl ((congrFun (F.2.2 2 (by decide)).1 1).trans i_2_1) ?_
  refine X_icmp_ge (tgt := 48) rfl rfl rfl (fun _ => ?_) (fun q => absurd q (by decide))
  refine X_iload_n rfl rfl rfl rfl ?_
  refine LW_ireturn (st := []) rfl rfl rfl ?_
  refine X_istore (i := 5) (ls' := [some (.ref 0), some (.int (0 : Int32)), some (.int (0 : Int32)), some (.int (0 : Int32)), some (.int (1 : Int32)), some (.int (0 : Int32))]) rfl rfl (Nat.le_of_ble_eq_true rfl) rfl ?_
  refine X_iload rfl rfl rfl ?_
  refine X_iload_n rfl rfl rfl rfl ?_
  refine X_icmp_le (tgt := 42) rfl rfl rfl (fun _ => ?_) (fun q => absurd q (by decide))
  refine X_iinc (v := (2 : Int32)) (ls' := [some (.ref 0), some (.int (0 : Int32)), some (.int (0 : Int32)), some (.int (0 : Int32)), some (.int (2 : Int32)), some (.int (0 : Int32))]) rfl rfl rfl rfl rfl ?_
  refine LW_goto (tgt := 7) rfl rfl ?_
  refine X_iload rfl rfl rfl ?_
  refine X_bipush (v := (26 : Int32)) rfl rfl rfl ?_
  refine X_icmp_ge (tgt := 48) rfl rfl rfl (fun q => absurd q (by decide)) (fun _ => ?_)
  refine X_aload_n rfl rfl rfl rfl ?_
  refine X_getR (a := 1) rfl rfl rfl ((congrFun F.1 0).trans s_0) rfl ((congrFun (F.2.1 0 (by decide)) 0).trans r_0_0) ?_
  refine X_getR (a := 2) rfl rfl rfl ((congrFun F.1 1).trans s_1) rfl ((congrFun (F.2.1 1 (by decide)) 0).trans r_1_0) ?_
  refine X_iconst (v := (1 : Int32)) rfl rfl rfl ?_
  refine X_iload rfl rfl rfl ?_
  refine X_ishl (v := (4 : Int32)) rfl rfl rfl ?_
  refine X_callV (as := [.int (4 : Int32)]) (st := []) rfl rfl rfl (by decide) rfl (Nat.le_of_ble_eq_true rfl) (by decide) (Nat.le_of_ble_eq_true rfl) rfl ((congrFun F.1 2).trans s_2) (by decide) ?_
  refine LW_ls (ls' := [some (.ref 2), some (.int (4 : Int32)), none, none, none]) rfl ?_
  refine X_aload_n rfl rfl rfl rfl ?_
  refine X_iload_n rfl rfl rfl rfl ?_
  refine X_callV (as := [.int (4 : Int32)]) (st := []) rfl rfl rfl (by decide) rfl (Nat.le_of_ble_eq_true rfl) (by decide) (Nat.le_of_ble_eq_true rfl) rfl ((congrFun F.1 2).trans s_2) (by decide) ?_
  refine LW_ls (ls' := [some (.ref 2), some (.int (4 : Int32)), none, none]) rfl ?_
  refine X_iconst (v := (0 : Int32)) rfl rfl rfl ?_
  refine X_istore_n (i := 2) (ls' := [some (.ref 2), some (.int (4 : Int32)), some (.int (0 : Int32)), none]) rfl rfl rfl (Nat.le_of_ble_eq_true rfl) rfl ?_
  refine X_iconst (v := (0 : Int32)) rfl rfl rfl ?_
  refine X_istore_n (i := 3) (ls' := [some (.ref 2), some (.int (4 : Int32)), some (.int (0 : Int32)), some (.int (0 : Int32))]) rfl rfl rfl (Nat.le_of_ble_eq_true rfl) rfl ?_
  refine X_iload_n rfl rfl rfl rfl ?_
  refine X_aload_n rfl rfl rfl rfl ?_
  refine X_getI (v := (0 : Int32)) rfl rfl rfl ((congrFun F.1 2).trans s_2) rfl ((congrFun (F.2.2 2 (by decide)).1 0).trans i_2_0) ?_
  refine X_icmp_ge (tgt := 40) rfl rfl rfl (fun _ => ?_) (fun q => absurd q (by decide))
  refine X_iload_n rfl rfl rfl rfl ?_
  refine LW_ireturn (st := []) rfl rfl rfl ?_
  refine X_istore_n (i := 2) (ls' := [some (.ref 2), some (.int (4 : Int32)), some (.int (0 : Int32)), none, none]) rfl rfl rfl (Nat.le_of_ble_eq_true rfl) rfl ?_
  refine X_iconst (v := (0 : Int32)) rfl rfl rfl ?_
  refine X_istore_n (i := 3) (ls' := [some (.ref 2), some (.int (4 : Int32)), some (.int (0 : Int32)), some (.int (0 : Int32)), none]) rfl rfl rfl (Nat.le_of_ble_eq_true rfl) rfl ?_
  refine X_iconst (v := (0 : Int32)) rfl rfl rfl ?_
  refine X_istore (i := 4) (ls' := [some (.ref 2), some (.int (4 : Int32)), some (.int (0 : Int32)), some (.int (0 : Int32)), some (.int (0 : Int32))]) rfl rfl (Nat.le_of_ble_eq_true rfl) rfl ?_
  refine X_iload rfl rfl rfl ?_
  refine X_aload_n rfl rfl rfl rfl ?_
  refine X_getI (v := (0 : Int32)) rfl rfl rfl ((congrFun F.1 2).trans s_2) rfl ((congrFun (F.2.2 2 (by decide)).1 1).trans i_2_1) ?_
  refine X_icmp_ge (tgt := 48) rfl rfl rfl (fun _ => ?_) (fun q => absurd q (by decide))
  refine X_iload_n rfl rfl rfl rfl ?_
  refine LW_ireturn (st := []) rfl rfl rfl ?_
  refine X_istore (i := 5) (ls' := [some (.ref 0), some (.int (0 : Int32)), some (.int (0 : Int32)), some (.int (0 : Int32)), some (.int (2 : Int32)), some (.int (0 : Int32))]) rfl rfl (Nat.le_of_ble_eq_true rfl) rfl ?_
  refine X_iload rfl rfl rfl ?_
  refine X_iload_n rfl rfl rfl rfl ?_
  refine X_icmp_le (tgt := 42) rfl rfl rfl (fun _ => ?_) (fun q => absurd q (by decide))
  refine X_iinc (v := (3 : Int32)) (ls' := [some (.ref 0), some (.int (0 : Int32)), some (.int (0 : Int32)), some (.int (0 : Int32)), some (.int (3 : Int32)), some (.int (0 : Int32))]) rfl rfl rfl rfl rfl ?_
  refine LW_goto (tgt := 7) rfl rfl ?_
  refine X_iload rfl rfl rfl ?_
  refine X_bipush (v := (26 : Int32)) rfl rfl rfl ?_
  refine X_icmp_ge (tgt := 48) rfl rfl rfl (fun q => absurd q (by decide)) (fun _ => ?_)
  refine X_aload_n rfl rfl rfl rfl ?_
  refine X_getR (a := 1) rfl rfl rfl ((congrFun F.1 0).trans s_0) rfl ((congrFun (F.2.1 0 (by decide)) 0).trans r_0_0) ?_
  refine X_getR (a := 2) rfl rfl rfl ((congrFun F.1 1).trans s_1) rfl ((congrFun (F.2.1 1 (by decide)) 0).trans r_1_0) ?_
  refine X_iconst (v := (1 : Int32)) rfl rfl rfl ?_
  refine X_iload rfl rfl rfl ?_
  refine X_ishl (v := (8 : Int32)) rfl rfl rfl ?_
  refine X_callV (as := [.int (8 : Int32)]) (st := []) rfl rfl rfl (by decide) rfl (Nat.le_of_ble_eq_true rfl) (by decide) (Nat.le_of_ble_eq_true rfl) rfl ((congrFun F.1 2).trans s_2) (by decide) ?_
  refine LW_ls (ls' := [some (.ref 2), some (.int (8 : Int32)), none, none, none]) rfl ?_
  refine X_aload_n rfl rfl rfl rfl ?_
  refine X_iload_n rfl rfl rfl rfl ?_
  refine X_callV (as := [.int (8 : Int32)]) (st := []) rfl rfl rfl (by decide) rfl (Nat.le_of_ble_eq_true rfl) (by decide) (Nat.le_of_ble_eq_true rfl) rfl ((congrFun F.1 2).trans s_2) (by decide) ?_
  refine LW_ls (ls' := [some (.ref 2), some (.int (8 : Int32)), none, none]) rfl ?_
  refine X_iconst (v := (0 : Int32)) rfl rfl rfl ?_
  refine X_istore_n (i := 2) (ls' := [some (.ref 2), some (.int (8 : Int32)), some (.int (0 : Int32)), none]) rfl rfl rfl (Nat.le_of_ble_eq_true rfl) rfl ?_
  refine X_iconst (v := (0 : Int32)) rfl rfl rfl ?_
  refine X_istore_n (i := 3) (ls' := [some (.ref 2), some (.int (8 : Int32)), some (.int (0 : Int32)), some (.int (0 : Int32))]) rfl rfl rfl (Nat.le_of_ble_eq_true rfl) rfl ?_
  refine X_iload_n rfl rfl rfl rfl ?_
  refine X_aload_n rfl rfl rfl rfl ?_
  refine X_getI (v := (0 : Int32)) rfl rfl rfl ((congrFun F.1 2).trans s_2) rfl ((congrFun (F.2.2 2 (by decide)).1 0).trans i_2_0) ?_
  refine X_icmp_ge (tgt := 40) rfl rfl rfl (fun _ => ?_) (fun q => absurd q (by decide))
  refine X_iload_n rfl rfl rfl rfl ?_
  refine LW_ireturn (st := []) rfl rfl rfl ?_
  refine X_istore_n (i := 2) (ls' := [some (.ref 2), some (.int (8 : Int32)), some (.int (0 : Int32)), none, none]) rfl rfl rfl (Nat.le_of_ble_eq_true rfl) rfl ?_
  refine X_iconst (v := (0 : Int32)) rfl rfl rfl ?_
  refine X_istore_n (i := 3) (ls' := [some (.ref 2), some (.int (8 : Int32)), some (.int (0 : Int32)), some (.int (0 : Int32)), none]) rfl rfl rfl (Nat.le_of_ble_eq_true rfl) rfl ?_
  refine X_iconst (v := (0 : Int32)) rfl rfl rfl ?_
  refine X_istore (i := 4) (ls' := [some (.ref 2), some (.int (8 : Int32)), some (.int (0 : Int32)), some (.int (0 : Int32)), some (.int (0 : Int32))]) rfl rfl (Nat.le_of_ble_eq_true rfl) rfl ?_
  refine X_iload rfl rfl rfl ?_
  refine X_aload_n rfl rfl rfl rfl ?_
  refine X_getI (v := (0 : Int32)) rfl rfl rfl ((congrFun F.1 2).trans s_2) rfl ((congrFun (F.2.2 2 (by decide)).1 1).trans i_2_1) ?_
  refine X_icmp_ge (tgt := 48) rfl rfl rfl (fun _ => ?_) (fun q => absurd q (by decide))
  refine X_iload_n rfl rfl rfl rfl ?_
  refine LW_ireturn (st := []) rfl rfl rfl ?_
  refine X_istore (i := 5) (ls' := [some (.ref 0), some (.int (0 : Int32)), some (.int (0 : Int32)), some (.int (0 : Int32)), some (.int (3 : Int32)), some (.int (0 : Int32))]) rfl rfl (Nat.le_of_ble_eq_true rfl) rfl ?_
  refine X_iload rfl rfl rfl ?_
  refine X_iload_n rfl rfl rfl rfl ?_
  refine X_icmp_le (tgt := 42) rfl rfl rfl (fun _ => ?_) (fun q => absurd q (by decide))
  refine X_iinc (v := (4 : Int32)) (ls' := [some (.ref 0), some (.int (0 : Int32)), some (.int (0 : Int32)), some (.int (0 : Int32)), some (.int (4 : Int32)), some (.int (0 : Int32))]) rfl rfl rfl rfl rfl ?_
  refine LW_goto (tgt := 7) rfl rfl ?_
  refine X_iload rfl rfl rfl ?_
  refine X_bipush (v := (26 : Int32)) rfl rfl rfl ?_
  refine X_icmp_ge (tgt := 48) rfl rfl rfl (fun q => absurd q (by decide)) (fun _ => ?_)
  refine X_aload_n rfl rfl rfl rfl ?_
  refine X_getR (a := 1) rfl rfl rfl ((congrFun F.1 0).trans s_0) rfl ((congrFun (F.2.1 0 (by decide)) 0).trans r_0_0) ?_
  refine X_getR (a := 2) rfl rfl rfl ((congrFun F.1 1).trans s_1) rfl ((congrFun (F.2.1 1 (by decide)) 0).trans r_1_0) ?_
  refine X_iconst (v := (1 : Int32)) rfl rfl rfl ?_
  refine X_iload rfl rfl rfl ?_
  refine X_ishl (v := (16 : Int32)) rfl rfl rfl ?_
  refine X_callV (as := [.int (16 : Int32)]) (st := []) rfl rfl rfl (by decide) rfl (Nat.le_of_ble_eq_true rfl) (by decide) (Nat.le_of_ble_eq_true rfl) rfl ((congrFun F.1 2).trans s_2) (by decide) ?_
  refine LW_ls (ls' := [some (.ref 2), some (.int (16 : Int32)), none, none, none]) rfl ?_
  refine X_aload_n rfl rfl rfl rfl ?_
  refine X_iload_n rfl rfl rfl rfl ?_
  refine X_callV (as := [.int (16 : Int32)]) (st := []) rfl rfl rfl (by decide) rfl (Nat.le_of_ble_eq_true rfl) (by decide) (Nat.le_of_ble_eq_true rfl) rfl ((congrFun F.1 2).trans s_2) (by decide) ?_
  refine LW_ls (ls' := [some (.ref 2), some (.int (16 : Int32)), none, none]) rfl ?_
  refine X_iconst (v := (0 : Int32)) rfl rfl rfl ?_
  refine X_istore_n (i := 2) (ls' := [some (.ref 2), some (.int (16 : Int32)), some (.int (0 : Int32)), none]) rfl rfl rfl (Nat.le_of_ble_eq_true rfl) rfl ?_
  refine X_iconst (v := (0 : Int32)) rfl rfl rfl ?_
  refine X_istore_n (i := 3) (ls' := [some (.ref 2), some (.int (16 : Int32)), some (.int (0 : Int32)), some (.int (0 : Int32))]) rfl rfl rfl (Nat.le_of_ble_eq_true rfl) rfl ?_
  refine X_iload_n rfl rfl rfl rfl ?_
  refine X_aload_n rfl rfl rfl rfl ?_
  refine X_getI (v := (0 : Int32)) rfl rfl rfl ((congrFun F.1 2).trans s_2) rfl ((congrFun (F.2.2 2 (by decide)).1 0).trans i_2_0) ?_
  refine X_icmp_ge (tgt := 40) rfl rfl rfl (fun _ => ?_) (fun q => absurd q (by decide))
  refine X_iload_n rfl rfl rfl rfl ?_
  refine LW_ireturn (st := []) rfl rfl rfl ?_
  refine X_istore_n (i := 2) (ls' := [some (.ref 2), some (.int (16 : Int32)), some (.int (0 : Int32)), none, none]) rfl rfl rfl (Nat.le_of_ble_eq_true rfl) rfl ?_
  refine X_iconst (v := (0 : Int32)) rfl rfl rfl ?_
  refine X_istore_n (i := 3) (ls' := [some (.ref 2), some (.int (16 : Int32)), some (.int (0 : Int32)), some (.int (0 : Int32)), none]) rfl rfl rfl (Nat.le_of_ble_eq_true rfl) rfl ?_
  refine X_iconst (v := (0 : Int32)) rfl rfl rfl ?_
  refine X_istore (i := 4) (ls' := [some (.ref 2), some (.int (16 : Int32)), some (.int (0 : Int32)), some (.int (0 : Int32)), some (.int (0 : Int32))]) rfl rfl (Nat.le_of_ble_eq_true rfl) rfl ?_
  refine X_iload rfl rfl rfl ?_
  refine X_aload_n rfl rfl rfl rfl ?_
  refine X_getI (v := (0 : Int32)) rfl rfl rfl ((congrFun F.1 2).trans s_2) rfl ((congrFun (F.2.2 2 (by decide)).1 1).trans i_2_1) ?_
  refine X_icmp_ge (tgt := 48) rfl rfl rfl (fun _ => ?_) (fun q => absurd q (by decide))
  refine X_iload_n rfl rfl rfl rfl ?_
  refine LW_ireturn (st := []) rfl rfl rfl ?_
  refine X_istore (i := 5) (ls' := [some (.ref 0), some (.int (0 : Int32)), some (.int (0 : Int32)), some (.int (0 : Int32)), some (.int (4 : Int32)), some (.int (0 : Int32))]) rfl rfl (Nat.le_of_ble_eq_true rfl) rfl ?_
  refine X_iload rfl rfl rfl ?_
  refine X_iload_n rfl rfl rfl rfl ?_
  refine X_icmp_le (tgt := 42) rfl rfl rfl (fun _ => ?_) (fun q => absurd q (by decide))
  refine X_iinc (v := (5 : Int32)) (ls' := [some (.ref 0), some (.int (0 : Int32)), some (.int (0 : Int32)), some (.int (0 : Int32)), some (.int (5 : Int32)), some (.int (0 : Int32))]) rfl rfl rfl rfl rfl ?_
  refine LW_goto (tgt := 7) rfl rfl ?_
  refine X_iload rfl rfl rfl ?_
  refine X_bipush (v := (26 : Int32)) rfl rfl rfl ?_
  refine X_icmp_ge (tgt := 48) rfl rfl rfl (fun q => absurd q (by decide)) (fun _ => ?_)
  refine X_aload_n rfl rfl rfl rfl ?_
  refine X_getR (a := 1) rfl rfl rfl ((congrFun F.1 0).trans s_0) rfl ((congrFun (F.2.1 0 (by decide)) 0).trans r_0_0) ?_
  refine X_getR (a := 2) rfl rfl rfl ((congrFun F.1 1).trans s_1) rfl ((congrFun (F.2.1 1 (by decide)) 0).trans r_1_0) ?_
  refine X_iconst (v := (1 : Int32)) rfl rfl rfl ?_
  refine X_iload rfl rfl rfl ?_
  refine X_ishl (v := (32 : Int32)) rfl rfl rfl ?_
  refine X_callV (as := [.int (32 : Int32)]) (st := []) rfl rfl rfl (by decide) rfl (Nat.le_of_ble_eq_true rfl) (by decide) (Nat.le_of_ble_eq_true rfl) rfl ((congrFun F.1 2).trans s_2) (by decide) ?_
  refine LW_ls (ls' := [some (.ref 2), some (.int (32 : Int32)), none, none, none]) rfl ?_
  refine X_aload_n rfl rfl rfl rfl ?_
  refine X_iload_n rfl rfl rfl rfl ?_
  refine X_callV (as := [.int (32 : Int32)]) (st := []) rfl rfl rfl (by decide) rfl (Nat.le_of_ble_eq_true rfl) (by decide) (Nat.le_of_ble_eq_true rfl) rfl ((congrFun F.1 2).trans s_2) (by decide) ?_
  refine LW_ls (ls' := [some (.ref 2), some (.int (32 : Int32)), none, none]) rfl ?_
  refine X_iconst (v := (0 : Int32)) rfl rfl rfl ?_
  refine X_istore_n (i := 2) (ls' := [some (.ref 2), some (.int (32 : Int32)), some (.int (0 : Int32)), none]) rfl rfl rfl (Nat.le_of_ble_eq_true rfl) rfl ?_
  refine X_iconst (v := (0 : Int32)) rfl rfl rfl ?_
  refine X_istore_n (i := 3) (ls' := [some (.ref 2), some (.int (32 : Int32)), some (.int (0 : Int32)), some (.int (0 : Int32))]) rfl rfl rfl (Nat.le_of_ble_eq_true rfl) rfl ?_
  refine X_iload_n rfl rfl rfl rfl ?_
  refine X_aload_n rfl rfl rfl rfl ?_
  refine X_getI (v := (0 : Int32)) rfl rfl rfl ((congrFun F.1 2).trans s_2) rfl ((congrFun (F.2.2 2 (by decide)).1 0).trans i_2_0) ?_
  refine X_icmp_ge (tgt := 40) rfl rfl rfl (fun _ => ?_) (fun q => absurd q (by decide))
  refine X_iload_n rfl rfl rfl rfl ?_
  refine LW_ireturn (st := []) rfl rfl rfl ?_
  refine X_istore_n (i := 2) (ls' := [some (.ref 2), some (.int (32 : Int32)), some (.int (0 : Int32)), none, none]) rfl rfl rfl (Nat.le_of_ble_eq_true rfl) rfl ?_
  refine X_iconst (v := (0 : Int32)) rfl rfl rfl ?_
  refine X_istore_n (i := 3) (ls' := [some (.ref 2), some (.int (32 : Int32)), some (.int (0 : Int32)), some (.int (0 : Int32)), none]) rfl rfl rfl (Nat.le_of_ble_eq_true rfl) rfl ?_
  refine X_iconst (v := (0 : Int32)) rfl rfl rfl ?_
  refine X_istore (i := 4) (ls' := [some (.ref 2), some (.int (32 : Int32)), some (.int (0 : Int32)), some (.int (0 : Int32)), some (.int (0 : Int32))]) rfl rfl (Nat.le_of_ble_eq_true rfl) rfl ?_
  refine X_iload rfl rfl rfl ?_
  refine X_aload_n rfl rfl rfl rfl ?_
  refine X_getI (v := (0 : Int32)) rfl rfl rfl ((congrFun F.1 2).trans s_2) rfl ((congrFun (F.2.2 2 (by decide)).1 1).trans i_2_1) ?_
  refine X_icmp_ge (tgt := 48) rfl rfl rfl (fun _ => ?_) (fun q => absurd q (by decide))
  refine X_iload_n rfl rfl rfl rfl ?_
  refine LW_ireturn (st := []) rfl rfl rfl ?_
  refine X_istore (i := 5) (ls' := [some (.ref 0), some (.int (0 : Int32)), some (.int (0 : Int32)), some (.int (0 : Int32)), some (.int (5 : Int32)), some (.int (0 : Int32))]) rfl rfl (Nat.le_of_ble_eq_true rfl) rfl ?_
  refine X_iload rfl rfl rfl ?_
  refine X_iload_n rfl rfl rfl rfl ?_
  refine X_icmp_le (tgt := 42) rfl rfl rfl (fun _ => ?_) (fun q => absurd q (by decide))
  refine X_iinc (v := (6 : Int32)) (ls' := [some (.ref 0), some (.int (0 : Int32)), some (.int (0 : Int32)), some (.int (0 : Int32)), some (.int (6 : Int32)), some (.int (0 : Int32))]) rfl rfl rfl rfl rfl ?_
  refine LW_goto (tgt := 7) rfl rfl ?_
  refine X_iload rfl rfl rfl ?_
  refine X_bipush (v := (26 : Int32)) rfl rfl rfl ?_
  refine X_icmp_ge (tgt := 48) rfl rfl rfl (fun q => absurd q (by decide)) (fun _ => ?_)
  refine X_aload_n rfl rfl rfl rfl ?_
  refine X_getR (a := 1) rfl rfl rfl ((congrFun F.1 0).trans s_0) rfl ((congrFun (F.2.1 0 (by decide)) 0).trans r_0_0) ?_
  refine X_getR (a := 2) rfl rfl rfl ((congrFun F.1 1).trans s_1) rfl ((congrFun (F.2.1 1 (by decide)) 0).trans r_1_0) ?_
  refine X_iconst (v := (1 : Int32)) rfl rfl rfl ?_
  refine X_iload rfl rfl rfl ?_
  refine X_ishl (v := (64 : Int32)) rfl rfl rfl ?_
  refine X_callV (as := [.int (64 : Int32)]) (st := []) rfl rfl rfl (by decide) rfl (Nat.le_of_ble_eq_true rfl) (by decide) (Nat.le_of_ble_eq_true rfl) rfl ((congrFun F.1 2).trans s_2) (by decide) ?_
  refine LW_ls (ls' := [some (.ref 2), some (.int (64 : Int32)), none, none, none]) rfl ?_
  refine X_aload_n rfl rfl rfl rfl ?_
  refine X_iload_n rfl rfl rfl rfl ?_
  refine X_callV (as := [.int (64 : Int32)]) (st := []) rfl rfl rfl (by decide) rfl (Nat.le_of_ble_eq_true rfl) (by decide) (Nat.le_of_ble_eq_true rfl) rfl ((congrFun F.1 2).trans s_2) (by decide) ?_
  refine LW_ls (ls' := [some (.ref 2), some (.int (64 : Int32)), none, none]) rfl ?_
  refine X_iconst (v := (0 : Int32)) rfl rfl rfl ?_
  refine X_istore_n (i := 2) (ls' := [some (.ref 2), some (.int (64 : Int32)), some (.int (0 : Int32)), none]) rfl rfl rfl (Nat.le_of_ble_eq_true rfl) rfl ?_
  refine X_iconst (v := (0 : Int32)) rfl rfl rfl ?_
  refine X_istore_n (i := 3) (ls' := [some (.ref 2), some (.int (64 : Int32)), some (.int (0 : Int32)), some (.int (0 : Int32))]) rfl rfl rfl (Nat.le_of_ble_eq_true rfl) rfl ?_
  refine X_iload_n rfl rfl rfl rfl ?_
  refine X_aload_n rfl rfl rfl rfl ?_
  refine X_getI (v := (0 : Int32)) rfl rfl rfl ((congrFun F.1 2).trans s_2) rfl ((congrFun (F.2.2 2 (by decide)).1 0).trans i_2_0) ?_
  refine X_icmp_ge (tgt := 40) rfl rfl rfl (fun _ => ?_) (fun q => absurd q (by decide))
  refine X_iload_n rfl rfl rfl rfl ?_
  refine LW_ireturn (st := []) rfl rfl rfl ?_
  refine X_istore_n (i := 2) (ls' := [some (.ref 2), some (.int (64 : Int32)), some (.int (0 : Int32)), none, none]) rfl rfl rfl (Nat.le_of_ble_eq_true rfl) rfl ?_
  refine X_iconst (v := (0 : Int32)) rfl rfl rfl ?_
  refine X_istore_n (i := 3) (ls' := [some (.ref 2), some (.int (64 : Int32)), some (.int (0 : Int32)), some (.int (0 : Int32)), none]) rfl rfl rfl (Nat.le_of_ble_eq_true rfl) rfl ?_
  refine X_iconst (v := (0 : Int32)) rfl rfl rfl ?_
  refine X_istore (i := 4) (ls' := [some (.ref 2), some (.int (64 : Int32)), some (.int (0 : Int32)), some (.int (0 : Int32)), some (.int (0 : Int32))]) rfl rfl (Nat.le_of_ble_eq_true rfl) rfl ?_
  refine X_iload rfl rfl rfl ?_
  refine X_aload_n rfl rfl rfl rfl ?_
  refine X_getI (v := (0 : Int32)) rfl rfl rfl ((congrFun F.1 2).trans s_2) rfl ((congrFun (F.2.2 2 (by decide)).1 1).trans i_2_1) ?_
  refine X_icmp_ge (tgt := 48) rfl rfl rfl (fun _ => ?_) (fun q => absurd q (by decide))
  refine X_iload_n rfl rfl rfl rfl ?_
  refine LW_ireturn (st := []) rfl rfl rfl ?_
  refine X_istore (i := 5) (ls' := [some (.ref 0), some (.int (0 : Int32)), some (.int (0 : Int32)), some (.int (0 : Int32)), some (.int (6 : Int32)), some (.int (0 : Int32))]) rfl rfl (Nat.le_of_ble_eq_true rfl) rfl ?_
  refine X_iload rfl rfl rfl ?_
  refine X_iload_n rfl rfl rfl rfl ?_
  refine X_icmp_le (tgt := 42) rfl rfl rfl (fun _ => ?_) (fun q => absurd q (by decide))
  refine X_iinc (v := (7 : Int32)) (ls' := [some (.ref 0), some (.int (0 : Int32)), some (.int (0 : Int32)), some (.int (0 : Int32)), some (.int (7 : Int32)), some (.int (0 : Int32))]) rfl rfl rfl rfl rfl ?_
  refine LW_goto (tgt := 7) rfl rfl ?_
  refine X_iload rfl rfl rfl ?_
  refine X_bipush (v := (26 : Int32)) rfl rfl rfl ?_
  refine X_icmp_ge (tgt := 48) rfl rfl rfl (fun q => absurd q (by decide)) (fun _ => ?_)
  refine X_aload_n rfl rfl rfl rfl ?_
  refine X_getR (a := 1) rfl rfl rfl ((congrFun F.1 0).trans s_0) rfl ((congrFun (F.2.1 0 (by decide)) 0).trans r_0_0) ?_
  refine X_getR (a := 2) rfl rfl rfl ((congrFun F.1 1).trans s_1) rfl ((congrFun (F.2.1 1 (by decide)) 0).trans r_1_0) ?_
  refine X_iconst (v := (1 : Int32)) rfl rfl rfl ?_
  refine X_iload rfl rfl rfl ?_
  refine X_ishl (v := (128 : Int32)) rfl rfl rfl ?_
  refine X_callV (as := [.int (128 : Int32)]) (st := []) rfl rfl rfl (by decide) rfl (Nat.le_of_ble_eq_true rfl) (by decide) (Nat.le_of_ble_eq_true rfl) rfl ((congrFun F.1 2).trans s_2) (by decide) ?_
  refine LW_ls (ls' := [some (.ref 2), some (.int (128 : Int32)), none, none, none]) rfl ?_
  refine X_aload_n rfl rfl rfl rfl ?_
  refine X_iload_n rfl rfl rfl rfl ?_
  refine X_callV (as := [.int (128 : Int32)]) (st := []) rfl rfl rfl (by decide) rfl (Nat.le_of_ble_eq_true rfl) (by decide) (Nat.le_of_ble_eq_true rfl) rfl ((congrFun F.1 2).trans s_2) (by decide) ?_
  refine LW_ls (ls' := [some (.ref 2), some (.int (128 : Int32)), none, none]) rfl ?_
  refine X_iconst (v := (0 : Int32)) rfl rfl rfl ?_
  refine X_istore_n (i := 2) (ls' := [some (.ref 2), some (.int (128 : Int32)), some (.int (0 : Int32)), none]) rfl rfl rfl (Nat.le_of_ble_eq_true rfl) rfl ?_
  refine X_iconst (v := (0 : Int32)) rfl rfl rfl ?_
  refine X_istore_n (i := 3) (ls' := [some (.ref 2), some (.int (128 : Int32)), some (.int (0 : Int32)), some (.int (0 : Int32))]) rfl rfl rfl (Nat.le_of_ble_eq_true rfl) rfl ?_
  refine X_iload_n rfl rfl rfl rfl ?_
  refine X_aload_n rfl rfl rfl rfl ?_
  refine X_getI (v := (0 : Int32)) rfl rfl rfl ((congrFun F.1 2).trans s_2) rfl ((congrFun (F.2.2 2 (by decide)).1 0).trans i_2_0) ?_
  refine X_icmp_ge (tgt := 40) rfl rfl rfl (fun _ => ?_) (fun q => absurd q (by decide))
  refine X_iload_n rfl rfl rfl rfl ?_
  refine LW_ireturn (st := []) rfl rfl rfl ?_
  refine X_istore_n (i := 2) (ls' := [some (.ref 2), some (.int (128 : Int32)), some (.int (0 : Int32)), none, none]) rfl rfl rfl (Nat.le_of_ble_eq_true rfl) rfl ?_
  refine X_iconst (v := (0 : Int32)) rfl rfl rfl ?_
  refine X_istore_n (i := 3) (ls' := [some (.ref 2), some (.int (128 : Int32)), some (.int (0 : Int32)), some (.int (0 : Int32)), none]) rfl rfl rfl (Nat.le_of_ble_eq_true rfl) rfl ?_
  refine X_iconst (v := (0 : Int32)) rfl rfl rfl ?_
  refine X_istore (i := 4) (ls' := [some (.ref 2), some (.int (128 : Int32)), some (.int (0 : Int32)), some (.int (0 : Int32)), some (.int (0 : Int32))]) rfl rfl (Nat.le_of_ble_eq_true rfl) rfl ?_
  refine X_iload rfl rfl rfl ?_
  refine X_aload_n rfl rfl rfl rfl ?_
  refine X_getI (v := (0 : Int32)) rfl rfl rfl ((congrFun F.1 2).trans s_2) rfl ((congrFun (F.2.2 2 (by decide)).1 1).trans i_2_1) ?_
  refine X_icmp_ge (tgt := 48) rfl rfl rfl (fun _ => ?_) (fun q => absurd q (by decide))
  refine X_iload_n rfl rfl rfl rfl ?_
  refine LW_ireturn (st := []) rfl rfl rfl ?_
  refine X_istore (i := 5) (ls' := [some (.ref 0), some (.int (0 : Int32)), some (.int (0 : Int32)), some (.int (0 : Int32)), some (.int (7 : Int32)), some (.int (0 : Int32))]) rfl rfl (Nat.le_of_ble_eq_true rfl) rfl ?_
  refine X_iload rfl rfl rfl ?_
  refine X_iload_n rfl rfl rfl rfl ?_
  refine X_icmp_le (tgt := 42) rfl rfl rfl (fun _ => ?_) (fun q => absurd q (by decide))
  refine X_iinc (v := (8 : Int32)) (ls' := [some (.ref 0), some (.int (0 : Int32)), some (.int (0 : Int32)), some (.int (0 : Int32)), some (.int (8 : Int32)), some (.int (0 : Int32))]) rfl rfl rfl rfl rfl ?_
  refine LW_goto (tgt := 7) rfl rfl ?_
  refine X_iload rfl rfl rfl ?_
  refine X_bipush (v := (26 : Int32)) rfl rfl rfl ?_
  refine X_icmp_ge (tgt := 48) rfl rfl rfl (fun q => absurd q (by decide)) (fun _ => ?_)
  refine X_aload_n rfl rfl rfl rfl ?_
  refine X_getR (a := 1) rfl rfl rfl ((congrFun F.1 0).trans s_0) rfl ((congrFun (F.2.1 0 (by decide)) 0).trans r_0_0) ?_
  refine X_getR (a := 2) rfl rfl rfl ((congrFun F.1 1).trans s_1) rfl ((congrFun (F.2.1 1 (by decide)) 0).trans r_1_0) ?_
  refine X_iconst (v := (1 : Int32)) rfl rfl rfl ?_
  refine X_iload rfl rfl rfl ?_
  refine X_ishl (v := (256 : Int32)) rfl rfl rfl ?_
  refine X_callV (as := [.int (256 : Int32)]) (st := []) rfl rfl rfl (by decide) rfl (Nat.le_of_ble_eq_true rfl) (by decide) (Nat.le_of_ble_eq_true rfl) rfl ((congrFun F.1 2).trans s_2) (by decide) ?_
  refine LW_ls (ls' := [some (.ref 2), some (.int (256 : Int32)), none, none, none]) rfl ?_
  refine X_aload_n rfl rfl rfl rfl ?_
  refine X_iload_n rfl rfl rfl rfl ?_
  refine X_callV (as := [.int (256 : Int32)]) (st := []) rfl rfl rfl (by decide) rfl (Nat.le_of_ble_eq_true rfl) (by decide) (Nat.le_of_ble_eq_true rfl) rfl ((congrFun F.1 2).trans s_2) (by decide) ?_
  refine LW_ls (ls' := [some (.ref 2), some (.int (256 : Int32)), none, none]) rfl ?_
  refine X_iconst (v := (0 : Int32)) rfl rfl rfl ?_
  refine X_istore_n (i := 2) (ls' := [some (.ref 2), some (.int (256 : Int32)), some (.int (0 : Int32)), none]) rfl rfl rfl (Nat.le_of_ble_eq_true rfl) rfl ?_
  refine X_iconst (v := (0 : Int32)) rfl rfl rfl ?_
  refine X_istore_n (i := 3) (ls' := [some (.ref 2), some (.int (256 : Int32)), some (.int (0 : Int32)), some (.int (0 : Int32))]) rfl rfl rfl (Nat.le_of_ble_eq_true rfl) rfl ?_
  refine X_iload_n rfl rfl rfl rfl ?_
  refine X_aload_n rfl rfl rfl rfl ?_
  refine X_getI (v := (0 : Int32)) rfl rfl rfl ((congrFun F.1 2).trans s_2) rfl ((congrFun (F.2.2 2 (by decide)).1 0).trans i_2_0) ?_
  refine X_icmp_ge (tgt := 40) rfl rfl rfl (fun _ => ?_) (fun q => absurd q (by decide))
  refine X_iload_n rfl rfl rfl rfl ?_
  refine LW_ireturn (st := []) rfl rfl rfl ?_
  refine X_istore_n (i := 2) (ls' := [some (.ref 2), some (.int (256 : Int32)), some (.int (0 : Int32)), none, none]) rfl rfl rfl (Nat.le_of_ble_eq_true rfl) rfl ?_
  refine X_iconst (v := (0 : Int32)) rfl rfl rfl ?_
  refine X_istore_n (i := 3) (ls' := [some (.ref 2), some (.int (256 : Int32)), some (.int (0 : Int32)), some (.int (0 : Int32)), none]) rfl rfl rfl (Nat.le_of_ble_eq_true rfl) rfl ?_
  refine X_iconst (v := (0 : Int32)) rfl rfl rfl ?_
  refine X_istore (i := 4) (ls' := [some (.ref 2), some (.int (256 : Int32)), some (.int (0 : Int32)), some (.int (0 : Int32)), some (.int (0 : Int32))]) rfl rfl (Nat.le_of_ble_eq_true rfl) rfl ?_
  refine X_iload rfl rfl rfl ?_
  refine X_aload_n rfl rfl rfl rfl ?_
  refine X_getI (v := (0 : Int32)) rfl rfl rfl ((congrFun F.1 2).trans s_2) rfl ((congrFun (F.2.2 2 (by decide)).1 1).trans i_2_1) ?_
  refine X_icmp_ge (tgt := 48) rfl rfl rfl (fun _ => ?_) (fun q => absurd q (by decide))
  refine X_iload_n rfl rfl rfl rfl ?_
  refine LW_ireturn (st := []) rfl rfl rfl ?_
  refine X_istore (i := 5) (ls' := [some (.ref 0), some (.int (0 : Int32)), some (.int (0 : Int32)), some (.int (0 : Int32)), some (.int (8 : Int32)), some (.int (0 : Int32))]) rfl rfl (Nat.le_of_ble_eq_true rfl) rfl ?_
  refine X_iload rfl rfl rfl ?_
  refine X_iload_n rfl rfl rfl rfl ?_
  refine X_icmp_le (tgt := 42) rfl rfl rfl (fun _ => ?_) (fun q => absurd q (by decide))
  refine X_iinc (v := (9 : Int32)) (ls' := [some (.ref 0), some (.int (0 : Int32)), some (.int (0 : Int32)), some (.int (0 : Int32)), some (.int (9 : Int32)), some (.int (0 : Int32))]) rfl rfl rfl rfl rfl ?_
  refine LW_goto (tgt := 7) rfl rfl ?_
  refine X_iload rfl rfl rfl ?_
  refine X_bipush (v := (26 : Int32)) rfl rfl rfl ?_
  refine X_icmp_ge (tgt := 48) rfl rfl rfl (fun q => absurd q (by decide)) (fun _ => ?_)
  refine X_aload_n rfl rfl rfl rfl ?_
  refine X_getR (a := 1) rfl rfl rfl ((congrFun F.1 0).trans s_0) rfl ((congrFun (F.2.1 0 (by decide)) 0).trans r_0_0) ?_
  refine X_getR (a := 2) rfl rfl rfl ((congrFun F.1 1).trans s_1) rfl ((congrFun (F.2.1 1 (by decide)) 0).trans r_1_0) ?_
  refine X_iconst (v := (1 : Int32)) rfl rfl rfl ?_
  refine X_iload rfl rfl rfl ?_
  refine X_ishl (v := (512 : Int32)) rfl rfl rfl ?_
  refine X_callV (as := [.int (512 : Int32)]) (st := []) rfl rfl rfl (by decide) rfl (Nat.le_of_ble_eq_true rfl) (by decide) (Nat.le_of_ble_eq_true rfl) rfl ((congrFun F.1 2).trans s_2) (by decide) ?_
  refine LW_ls (ls' := [some (.ref 2), some (.int (512 : Int32)), none, none, none]) rfl ?_
  refine X_aload_n rfl rfl rfl rfl ?_
  refine X_iload_n rfl rfl rfl rfl ?_
  refine X_callV (as := [.int (512 : Int32)]) (st := []) rfl rfl rfl (by decide) rfl (Nat.le_of_ble_eq_true rfl) (by decide) (Nat.le_of_ble_eq_true rfl) rfl ((congrFun F.1 2).trans s_2) (by decide) ?_
  refine LW_ls (ls' := [some (.ref 2), some (.int (512 : Int32)), none, none]) rfl ?_
  refine X_iconst (v := (0 : Int32)) rfl rfl rfl ?_
  refine X_istore_n (i := 2) (ls' := [some (.ref 2), some (.int (512 : Int32)), some (.int (0 : Int32)), none]) rfl rfl rfl (Nat.le_of_ble_eq_true rfl) rfl ?_
  refine X_iconst (v := (0 : Int32)) rfl rfl rfl ?_
  refine X_istore_n (i := 3) (ls' := [some (.ref 2), some (.int (512 : Int32)), some (.int (0 : Int32)), some (.int (0 : Int32))]) rfl rfl rfl (Nat.le_of_ble_eq_true rfl) rfl ?_
  refine X_iload_n rfl rfl rfl rfl ?_
  refine X_aload_n rfl rfl rfl rfl ?_
  refine X_getI (v := (0 : Int32)) rfl rfl rfl ((congrFun F.1 2).trans s_2) rfl ((congrFun (F.2.2 2 (by decide)).1 0).trans i_2_0) ?_
  refine X_icmp_ge (tgt := 40) rfl rfl rfl (fun _ => ?_) (fun q => absurd q (by decide))
  refine X_iload_n rfl rfl rfl rfl ?_
  refine LW_ireturn (st := []) rfl rfl rfl ?_
  refine X_istore_n (i := 2) (ls' := [some (.ref 2), some (.int (512 : Int32)), some (.int (0 : Int32)), none, none]) rfl rfl rfl (Nat.le_of_ble_eq_true rfl) rfl ?_
  refine X_iconst (v := (0 : Int32)) rfl rfl rfl ?_
  refine X_istore_n (i := 3) (ls' := [some (.ref 2), some (.int (512 : Int32)), some (.int (0 : Int32)), some (.int (0 : Int32)), none]) rfl rfl rfl (Nat.le_of_ble_eq_true rfl) rfl ?_
  refine X_iconst (v := (0 : Int32)) rfl rfl rfl ?_
  refine X_istore (i := 4) (ls' := [some (.ref 2), some (.int (512 : Int32)), some (.int (0 : Int32)), some (.int (0 : Int32)), some (.int (0 : Int32))]) rfl rfl (Nat.le_of_ble_eq_true rfl) rfl ?_
  refine X_iload rfl rfl rfl ?_
  refine X_aload_n rfl rfl rfl rfl ?_
  refine X_getI (v := (0 : Int32)) rfl rfl rfl ((congrFun F.1 2).trans s_2) rfl ((congrFun (F.2.2 2 (by decide)).1 1).trans i_2_1) ?_
  refine X_icmp_ge (tgt := 48) rfl rfl rfl (fun _ => ?_) (fun q => absurd q (by decide))
  refine X_iload_n rfl rfl rfl rfl ?_
  refine LW_ireturn (st := []) rfl rfl rfl ?_
  refine X_istore (i := 5) (ls' := [some (.ref 0), some (.int (0 : Int32)), some (.int (0 : Int32)), some (.int (0 : Int32)), some (.int (9 : Int32)), some (.int (0 : Int32))]) rfl rfl (Nat.le_of_ble_eq_true rfl) rfl ?_
  refine X_iload rfl rfl rfl ?_
  refine X_iload_n rfl rfl rfl rfl ?_
  refine X_icmp_le (tgt := 42) rfl rfl rfl (fun _ => ?_) (fun q => absurd q (by decide))
  refine X_iinc (v := (10 : Int32)) (ls' := [some (.ref 0), some (.int (0 : Int32)), some (.int (0 : Int32)), some (.int (0 : Int32)), some (.int (10 : Int32)), some (.int (0 : Int32))]) rfl rfl rfl rfl rfl ?_
  refine LW_goto (tgt := 7) rfl rfl ?_
  refine X_iload rfl rfl rfl ?_
  refine X_bipush (v := (26 : Int32)) rfl rfl rfl ?_
  refine X_icmp_ge (tgt := 48) rfl rfl rfl (fun q => absurd q (by decide)) (fun _ => ?_)
  refine X_aload_n rfl rfl rfl rfl ?_
  refine X_getR (a := 1) rfl rfl rfl ((congrFun F.1 0).trans s_0) rfl ((congrFun (F.2.1 0 (by decide)) 0).trans r_0_0) ?_
  refine X_getR (a := 2) rfl rfl rfl ((congrFun F.1 1).trans s_1) rfl ((congrFun (F.2.1 1 (by decide)) 0).trans r_1_0) ?_
  refine X_iconst (v := (1 : Int32)) rfl rfl rfl ?_
  refine X_iload rfl rfl rfl ?_
  refine X_ishl (v := (1024 : Int32)) rfl rfl rfl ?_
  refine X_callV (as := [.int (1024 : Int32)]) (st := []) rfl rfl rfl (by decide) rfl (Nat.le_of_ble_eq_true rfl) (by decide) (Nat.le_of_ble_eq_true rfl) rfl ((congrFun F.1 2).trans s_2) (by decide) ?_
  refine LW_ls (ls' := [some (.ref 2), some (.int (1024 : Int32)), none, none, none]) rfl ?_
  refine X_aload_n rfl rfl rfl rfl ?_
  refine X_iload_n rfl rfl rfl rfl ?_
  refine X_callV (as := [.int (1024 : Int32)]) (st := []) rfl rfl rfl (by decide) rfl (Nat.le_of_ble_eq_true rfl) (by decide) (Nat.le_of_ble_eq_true rfl) rfl ((congrFun F.1 2).trans s_2) (by decide) ?_
  refine LW_ls (ls' := [some (.ref 2), some (.int (1024 : Int32)), none, none]) rfl ?_
  refine X_iconst (v := (0 : Int32)) rfl rfl rfl ?_
  refine X_istore_n (i := 2) (ls' := [some (.ref 2), some (.int (1024 : Int32)), some (.int (0 : Int32)), none]) rfl rfl rfl (Nat.le_of_ble_eq_true rfl) rfl ?_
  refine X_iconst (v := (0 : Int32)) rfl rfl rfl ?_
  refine X_istore_n (i := 3) (ls' := [some (.ref 2), some (.int (1024 : Int32)), some (.int (0 : Int32)), some (.int (0 : Int32))]) rfl rfl rfl (Nat.le_of_ble_eq_true rfl) rfl ?_
  refine X_iload_n rfl rfl rfl rfl ?_
  refine X_aload_n rfl rfl rfl rfl ?_
  refine X_getI (v := (0 : Int32)) rfl rfl rfl ((congrFun F.1 2).trans s_2) rfl ((congrFun (F.2.2 2 (by decide)).1 0).trans i_2_0) ?_
  refine X_icmp_ge (tgt := 40) rfl rfl rfl (fun _ => ?_) (fun q => absurd q (by decide))
  refine X_iload_n rfl rfl rfl rfl ?_
  refine LW_ireturn (st := []) rfl rfl rfl ?_
  refine X_istore_n (i := 2) (ls' := [some (.ref 2), some (.int (1024 : Int32)), some (.int (0 : Int32)), none, none]) rfl rfl rfl (Nat.le_of_ble_eq_true rfl) rfl ?_
  refine X_iconst (v := (0 : Int32)) rfl rfl rfl ?_
  refine X_istore_n (i := 3) (ls' := [some (.ref 2), some (.int (1024 : Int32)), some (.int (0 : Int32)), some (.int (0 : Int32)), none]) rfl rfl rfl (Nat.le_of_ble_eq_true rfl) rfl ?_
  refine X_iconst (v := (0 : Int32)) rfl rfl rfl ?_
  refine X_istore (i := 4) (ls' := [some (.ref 2), some (.int (1024 : Int32)), some (.int (0 : Int32)), some (.int (0 : Int32)), some (.int (0 : Int32))]) rfl rfl (Nat.le_of_ble_eq_true rfl) rfl ?_
  refine X_iload rfl rfl rfl ?_
  refine X_aload_n rfl rfl rfl rfl ?_
  refine X_getI (v := (0 : Int32)) rfl rfl rfl ((congrFun F.1 2).trans s_2) rfl ((congrFun (F.2.2 2 (by decide)).1 1).trans i_2_1) ?_
  refine X_icmp_ge (tgt := 48) rfl rfl rfl (fun _ => ?_) (fun q => absurd q (by decide))
  refine X_iload_n rfl rfl rfl rfl ?_
  refine LW_ireturn (st := []) rfl rfl rfl ?_
  refine X_istore (i := 5) (ls' := [some (.ref 0), some (.int (0 : Int32)), some (.int (0 : Int32)), some (.int (0 : Int32)), some (.int (10 : Int32)), some (.int (0 : Int32))]) rfl rfl (Nat.le_of_ble_eq_true rfl) rfl ?_
  refine X_iload rfl rfl rfl ?_
  refine X_iload_n rfl rfl rfl rfl ?_
  refine X_icmp_le (tgt := 42) rfl rfl rfl (fun _ => ?_) (fun q => absurd q (by decide))
  refine X_iinc (v := (11 : Int32)) (ls' := [some (.ref 0), some (.int (0 : Int32)), some (.int (0 : Int32)), some (.int (0 : Int32)), some (.int (11 : Int32)), some (.int (0 : Int32))]) rfl rfl rfl rfl rfl ?_
  refine LW_goto (tgt := 7) rfl rfl ?_
  refine X_iload rfl rfl rfl ?_
  refine X_bipush (v := (26 : Int32)) rfl rfl rfl ?_
  refine X_icmp_ge (tgt := 48) rfl rfl rfl (fun q => absurd q (by decide)) (fun _ => ?_)
  refine X_aload_n rfl rfl rfl rfl ?_
  refine X_getR (a := 1) rfl rfl rfl ((congrFun F.1 0).trans s_0) rfl ((congrFun (F.2.1 0 (by decide)) 0).trans r_0_0) ?_
  refine X_getR (a := 2) rfl rfl rfl ((congrFun F.1 1).trans s_1) rfl ((congrFun (F.2.1 1 (by decide)) 0).trans r_1_0) ?_
  refine X_iconst (v := (1 : Int32)) rfl rfl rfl ?_
  refine X_iload rfl rfl rfl ?_
  refine X_ishl (v := (2048 : Int32)) rfl rfl rfl ?_
  refine X_callV (as := [.int (2048 : Int32)]) (st := []) rfl rfl rfl (by decide) rfl (Nat.le_of_ble_eq_true rfl) (by decide) (Nat.le_of_ble_eq_true rfl) rfl ((congrFun F.1 2).trans s_2) (by decide) ?_
  refine LW_ls (ls' := [some (.ref 2), some (.int (2048 : Int32)), none, none, none]) rfl ?_
  refine X_aload_n rfl rfl rfl rfl ?_
  refine X_iload_n rfl rfl rfl rfl ?_
  refine X_callV (as := [.int (2048 : Int32)]) (st := []) rfl rfl rfl (by decide) rfl (Nat.le_of_ble_eq_true rfl) (by decide) (Nat.le_of_ble_eq_true rfl) rfl ((congrFun F.1 2).trans s_2) (by decide) ?_
  refine LW_ls (ls' := [some (.ref 2), some (.int (2048 : Int32)), none, none]) rfl ?_
  refine X_iconst (v := (0 : Int32)) rfl rfl rfl ?_
  refine X_istore_n (i := 2) (ls' := [some (.ref 2), some (.int (2048 : Int32)), some (.int (0 : Int32)), none]) rfl rfl rfl (Nat.le_of_ble_eq_true rfl) rfl ?_
  refine X_iconst (v := (0 : Int32)) rfl rfl rfl ?_
  refine X_istore_n (i := 3) (ls' := [some (.ref 2), some (.int (2048 : Int32)), some (.int (0 : Int32)), some (.int (0 : Int32))]) rfl rfl rfl (Nat.le_of_ble_eq_true rfl) rfl ?_
  refine X_iload_n rfl rfl rfl rfl ?_
  refine X_aload_n rfl rfl rfl rfl ?_
  refine X_getI (v := (0 : Int32)) rfl rfl rfl ((congrFun F.1 2).trans s_2) rfl ((congrFun (F.2.2 2 (by decide)).1 0).trans i_2_0) ?_
  refine X_icmp_ge (tgt := 40) rfl rfl rfl (fun _ => ?_) (fun q => absurd q (by decide))
  refine X_iload_n rfl rfl rfl rfl ?_
  refine LW_ireturn (st := []) rfl rfl rfl ?_
  refine X_istore_n (i := 2) (ls' := [some (.ref 2), some (.int (2048 : Int32)), some (.int (0 : Int32)), none, none]) rfl rfl rfl (Nat.le_of_ble_eq_true rfl) rfl ?_
  refine X_iconst (v := (0 : Int32)) rfl rfl rfl ?_
  refine X_istore_n (i := 3) (ls' := [some (.ref 2), some (.int (2048 : Int32)), some (.int (0 : Int32)), some (.int (0 : Int32)), none]) rfl rfl rfl (Nat.le_of_ble_eq_true rfl) rfl ?_
  refine X_iconst (v := (0 : Int32)) rfl rfl rfl ?_
  refine X_istore (i := 4) (ls' := [some (.ref 2), some (.int (2048 : Int32)), some (.int (0 : Int32)), some (.int (0 : Int32)), some (.int (0 : Int32))]) rfl rfl (Nat.le_of_ble_eq_true rfl) rfl ?_
  refine X_iload rfl rfl rfl ?_
  refine X_aload_n rfl rfl rfl rfl ?_
  refine X_getI (v := (0 : Int32)) rfl rfl rfl ((congrFun F.1 2).trans s_2) rfl ((congrFun (F.2.2 2 (by decide)).1 1).trans i_2_1) ?_
  refine X_icmp_ge (tgt := 48) rfl rfl rfl (fun _ => ?_) (fun q => absurd q (by decide))
  refine X_iload_n rfl rfl rfl rfl ?_
  refine LW_ireturn (st := []) rfl rfl rfl ?_
  refine X_istore (i := 5) (ls' := [some (.ref 0), some (.int (0 : Int32)), some (.int (0 : Int32)), some (.int (0 : Int32)), some (.int (11 : Int32)), some (.int (0 : Int32))]) rfl rfl (Nat.le_of_ble_eq_true rfl) rfl ?_
  refine X_iload rfl rfl rfl ?_
  refine X_iload_n rfl rfl rfl rfl ?_
  refine X_icmp_le (tgt := 42) rfl rfl rfl (fun _ => ?_) (fun q => absurd q (by decide))
  refine X_iinc (v := (12 : Int32)) (ls' := [some (.ref 0), some (.int (0 : Int32)), some (.int (0 : Int32)), some (.int (0 : Int32)), some (.int (12 : Int32)), some (.int (0 : Int32))]) rfl rfl rfl rfl rfl ?_
  refine LW_goto (tgt := 7) rfl rfl ?_
  refine X_iload rfl rfl rfl ?_
  refine X_bipush (v := (26 : Int32)) rfl rfl rfl ?_
  refine X_icmp_ge (tgt := 48) rfl rfl rfl (fun q => absurd q (by decide)) (fun _ => ?_)
  refine X_aload_n rfl rfl rfl rfl ?_
  refine X_getR (a := 1) rfl rfl rfl ((congrFun F.1 0).trans s_0) rfl ((congrFun (F.2.1 0 (by decide)) 0).trans r_0_0) ?_
  refine X_getR (a := 2) rfl rfl rfl ((congrFun F.1 1).trans s_1) rfl ((congrFun (F.2.1 1 (by decide)) 0).trans r_1_0) ?_
  refine X_iconst (v := (1 : Int32)) rfl rfl rfl ?_
  refine X_iload rfl rfl rfl ?_
  refine X_ishl (v := (4096 : Int32)) rfl rfl rfl ?_
  refine X_callV (as := [.int (4096 : Int32)]) (st := []) rfl rfl rfl (by decide) rfl (Nat.le_of_ble_eq_true rfl) (by decide) (Nat.le_of_ble_eq_true rfl) rfl ((congrFun F.1 2).trans s_2) (by decide) ?_
  refine LW_ls (ls' := [some (.ref 2), some (.int (4096 : Int32)), none, none, none]) rfl ?_
  refine X_aload_n rfl rfl rfl rfl ?_
  refine X_iload_n rfl rfl rfl rfl ?_
  refine X_callV (as := [.int (4096 : Int32)]) (st := []) rfl rfl rfl (by decide) rfl (Nat.le_of_ble_eq_true rfl) (by decide) (Nat.le_of_ble_eq_true rfl) rfl ((congrFun F.1 2).trans s_2) (by decide) ?_
  refine LW_ls (ls' := [some (.ref 2), some (.int (4096 : Int32)), none, none]) rfl ?_
  refine X_iconst (v := (0 : Int32)) rfl rfl rfl ?_
  refine X_istore_n (i := 2) (ls' := [some (.ref 2), some (.int (4096 : Int32)), some (.int (0 : Int32)), none]) rfl rfl rfl (Nat.le_of_ble_eq_true rfl) rfl ?_
  refine X_iconst (v := (0 : Int32)) rfl rfl rfl ?_
  refine X_istore_n (i := 3) (ls' := [some (.ref 2), some (.int (4096 : Int32)), some (.int (0 : Int32)), some (.int (0 : Int32))]) rfl rfl rfl (Nat.le_of_ble_eq_true rfl) rfl ?_
  refine X_iload_n rfl rfl rfl rfl ?_
  refine X_aload_n rfl rfl rfl rfl ?_
  refine X_getI (v := (0 : Int32)) rfl rfl rfl ((congrFun F.1 2).trans s_2) rfl ((congrFun (F.2.2 2 (by decide)).1 0).trans i_2_0) ?_
  refine X_icmp_ge (tgt := 40) rfl rfl rfl (fun _ => ?_) (fun q => absurd q (by decide))
  refine X_iload_n rfl rfl rfl rfl ?_
  refine LW_ireturn (st := []) rfl rfl rfl ?_
  refine X_istore_n (i := 2) (ls' := [some (.ref 2), some (.int (4096 : Int32)), some (.int (0 : Int32)), none, none]) rfl rfl rfl (Nat.le_of_ble_eq_true rfl) rfl ?_
  refine X_iconst (v := (0 : Int32)) rfl rfl rfl ?_
  refine X_istore_n (i := 3) (ls' := [some (.ref 2), some (.int (4096 : Int32)), some (.int (0 : Int32)), some (.int (0 : Int32)), none]) rfl rfl rfl (Nat.le_of_ble_eq_true rfl) rfl ?_
  refine X_iconst (v := (0 : Int32)) rfl rfl rfl ?_
  refine X_istore (i := 4) (ls' := [some (.ref 2), some (.int (4096 : Int32)), some (.int (0 : Int32)), some (.int (0 : Int32)), some (.int (0 : Int32))]) rfl rfl (Nat.le_of_ble_eq_true rfl) rfl ?_
  refine X_iload rfl rfl rfl ?_
  refine X_aload_n rfl rfl rfl rfl ?_
  refine X_getI (v := (0 : Int32)) rfl rfl rfl ((congrFun F.1 2).trans s_2) rfl ((congrFun (F.2.2 2 (by decide)).1 1).trans i_2_1) ?_
  refine X_icmp_ge (tgt := 48) rfl rfl rfl (fun _ => ?_) (fun q => absurd q (by decide))
  refine X_iload_n rfl rfl rfl rfl ?_
  refine LW_ireturn (st := []) rfl rfl rfl ?_
  refine X_istore (i := 5) (ls' := [some (.ref 0), some (.int (0 : Int32)), some (.int (0 : Int32)), some (.int (0 : Int32)), some (.int (12 : Int32)), some (.int (0 : Int32))]) rfl rfl (Nat.le_of_ble_eq_true rfl) rfl ?_
  refine X_iload rfl rfl rfl ?_
  refine X_iload_n rfl rfl rfl rfl ?_
  refine X_icmp_le (tgt := 42) rfl rfl rfl (fun _ => ?_) (fun q => absurd q (by decide))
  refine X_iinc (v := (13 : Int32)) (ls' := [some (.ref 0), some (.int (0 : Int32)), some (.int (0 : Int32)), some (.int (0 : Int32)), some (.int (13 : Int32)), some (.int (0 : Int32))]) rfl rfl rfl rfl rfl ?_
  refine LW_goto (tgt := 7) rfl rfl ?_
  refine X_iload rfl rfl rfl ?_
  refine X_bipush (v := (26 : Int32)) rfl rfl rfl ?_
  refine X_icmp_ge (tgt := 48) rfl rfl rfl (fun q => absurd q (by decide)) (fun _ => ?_)
  refine X_aload_n rfl rfl rfl rfl ?_
  refine X_getR (a := 1) rfl rfl rfl ((congrFun F.1 0).trans s_0) rfl ((congrFun (F.2.1 0 (by decide)) 0).trans r_0_0) ?_
  refine X_getR (a := 2) rfl rfl rfl ((congrFun F.1 1).trans s_1) rfl ((congrFun (F.2.1 1 (by decide)) 0).trans r_1_0) ?_
  refine X_iconst (v := (1 : Int32)) rfl rfl rfl ?_
  refine X_iload rfl rfl rfl ?_
  refine X_ishl (v := (8192 : Int32)) rfl rfl rfl ?_
  refine X_callV (as := [.int (8192 : Int32)]) (st := []) rfl rfl rfl (by decide) rfl (Nat.le_of_ble_eq_true rfl) (by decide) (Nat.le_of_ble_eq_true rfl) rfl ((congrFun F.1 2).trans s_2) (by decide) ?_
  refine LW_ls (ls' := [some (.ref 2), some (.int (8192 : Int32)), none, none, none]) rfl ?_
  refine X_aload_n rfl rfl rfl rfl ?_
  refine X_iload_n rfl rfl rfl rfl ?_
  refine X_callV (as := [.int (8192 : Int32)]) (st := []) rfl rfl rfl (by decide) rfl (Nat.le_of_ble_eq_true rfl) (by decide) (Nat.le_of_ble_eq_true rfl) rfl ((congrFun F.1 2).trans s_2) (by decide) ?_
  refine LW_ls (ls' := [some (.ref 2), some (.int (8192 : Int32)), none, none]) rfl ?_
  refine X_iconst (v := (0 : Int32)) rfl rfl rfl ?_
  refine X_istore_n (i := 2) (ls' := [some (.ref 2), some (.int (8192 : Int32)), some (.int (0 : Int32)), none]) rfl rfl rfl (Nat.le_of_ble_eq_true rfl) rfl ?_
  refine X_iconst (v := (0 : Int32)) rfl rfl rfl ?_
  refine X_istore_n (i := 3) (ls' := [some (.ref 2), some (.int (8192 : Int32)), some (.int (0 : Int32)), some (.int (0 : Int32))]) rfl rfl rfl (Nat.le_of_ble_eq_true rfl) rfl ?_
  refine X_iload_n rfl rfl rfl rfl ?_
  refine X_aload_n rfl rfl rfl rfl ?_
  refine X_getI (v := (0 : Int32)) rfl rfl rfl ((congrFun F.1 2).trans s_2) rfl ((congrFun (F.2.2 2 (by decide)).1 0).trans i_2_0) ?_
  refine X_icmp_ge (tgt := 40) rfl rfl rfl (fun _ => ?_) (fun q => absurd q (by decide))
  refine X_iload_n rfl rfl rfl rfl ?_
  refine LW_ireturn (st := []) rfl rfl rfl ?_
  refine X_istore_n (i := 2) (ls' := [some (.ref 2), some (.int (8192 : Int32)), some (.int (0 : Int32)), none, none]) rfl rfl rfl (Nat.le_of_ble_eq_true rfl) rfl ?_
  refine X_iconst (v := (0 : Int32)) rfl rfl rfl ?_
  refine X_istore_n (i := 3) (ls' := [some (.ref 2), some (.int (8192 : Int32)), some (.int (0 : Int32)), some (.int (0 : Int32)), none]) rfl rfl rfl (Nat.le_of_ble_eq_true rfl) rfl ?_
  refine X_iconst (v := (0 : Int32)) rfl rfl rfl ?_
  refine X_istore (i := 4) (ls' := [some (.ref 2), some (.int (8192 : Int32)), some (.int (0 : Int32)), some (.int (0 : Int32)), some (.int (0 : Int32))]) rfl rfl (Nat.le_of_ble_eq_true rfl) rfl ?_
  refine X_iload rfl rfl rfl ?_
  refine X_aload_n rfl rfl rfl rfl ?_
  refine X_getI (v := (0 : Int32)) rfl rfl rfl ((congrFun F.1 2).trans s_2) rfl ((congrFun (F.2.2 2 (by decide)).1 1).trans i_2_1) ?_
  refine X_icmp_ge (tgt := 48) rfl rfl rfl (fun _ => ?_) (fun q => absurd q (by decide))
  refine X_iload_n rfl rfl rfl rfl ?_
  refine LW_ireturn (st := []) rfl rfl rfl ?_
  refine X_istore (i := 5) (ls' := [some (.ref 0), some (.int (0 : Int32)), some (.int (0 : Int32)), some (.int (0 : Int32)), some (.int (13 : Int32)), some (.int (0 : Int32))]) rfl rfl (Nat.le_of_ble_eq_true rfl) rfl ?_
  refine X_iload rfl rfl rfl ?_
  refine X_iload_n rfl rfl rfl rfl ?_
  refine X_icmp_le (tgt := 42) rfl rfl rfl (fun _ => ?_) (fun q => absurd q (by decide))
  refine X_iinc (v := (14 : Int32)) (ls' := [some (.ref 0), some (.int (0 : Int32)), some (.int (0 : Int32)), some (.int (0 : Int32)), some (.int (14 : Int32)), some (.int (0 : Int32))]) rfl rfl rfl rfl rfl ?_
  refine LW_goto (tgt := 7) rfl rfl ?_
  refine X_iload rfl rfl rfl ?_
  refine X_bipush (v := (26 : Int32)) rfl rfl rfl ?_
  refine X_icmp_ge (tgt := 48) rfl rfl rfl (fun q => absurd q (by decide)) (fun _ => ?_)
  refine X_aload_n rfl rfl rfl rfl ?_
  refine X_getR (a := 1) rfl rfl rfl ((congrFun F.1 0).trans s_0) rfl ((congrFun (F.2.1 0 (by decide)) 0).trans r_0_0) ?_
  refine X_getR (a := 2) rfl rfl rfl ((congrFun F.1 1).trans s_1) rfl ((congrFun (F.2.1 1 (by decide)) 0).trans r_1_0) ?_
  refine X_iconst (v := (1 : Int32)) rfl rfl rfl ?_
  refine X_iload rfl rfl rfl ?_
  refine X_ishl (v := (16384 : Int32)) rfl rfl rfl ?_
  refine X_callV (as := [.int (16384 : Int32)]) (st := []) rfl rfl rfl (by decide) rfl (Nat.le_of_ble_eq_true rfl) (by decide) (Nat.le_of_ble_eq_true rfl) rfl ((congrFun F.1 2).trans s_2) (by decide) ?_
  refine LW_ls (ls' := [some (.ref 2), some (.int (16384 : Int32)), none, none, none]) rfl ?_
  refine X_aload_n rfl rfl rfl rfl ?_
  refine X_iload_n rfl rfl rfl rfl ?_
  refine X_callV (as := [.int (16384 : Int32)]) (st := []) rfl rfl rfl (by decide) rfl (Nat.le_of_ble_eq_true rfl) (by decide) (Nat.le_of_ble_eq_true rfl) rfl ((congrFun F.1 2).trans s_2) (by decide) ?_
  refine LW_ls (ls' := [some (.ref 2), some (.int (16384 : Int32)), none, none]) rfl ?_
  refine X_iconst (v := (0 : Int32)) rfl rfl rfl ?_
  refine X_istore_n (i := 2) (ls' := [some (.ref 2), some (.int (16384 : Int32)), some (.int (0 : Int32)), none]) rfl rfl rfl (Nat.le_of_ble_eq_true rfl) rfl ?_
  refine X_iconst (v := (0 : Int32)) rfl rfl rfl ?_
  refine X_istore_n (i := 3) (ls' := [some (.ref 2), some (.int (16384 : Int32)), some (.int (0 : Int32)), some (.int (0 : Int32))]) rfl rfl rfl (Nat.le_of_ble_eq_true rfl) rfl ?_
  refine X_iload_n rfl rfl rfl rfl ?_
  refine X_aload_n rfl rfl rfl rfl ?_
  refine X_getI (v := (0 : Int32)) rfl rfl rfl ((congrFun F.1 2).trans s_2) rfl ((congrFun (F.2.2 2 (by decide)).1 0).trans i_2_0) ?_
  refine X_icmp_ge (tgt := 40) rfl rfl rfl (fun _ => ?_) (fun q => absurd q (by decide))
  refine X_iload_n rfl rfl rfl rfl ?_
  refine LW_ireturn (st := []) rfl rfl rfl ?_
  refine X_istore_n (i := 2) (ls' := [some (.ref 2), some (.int (16384 : Int32)), some (.int (0 : Int32)), none, none]) rfl rfl rfl (Nat.le_of_ble_eq_true rfl) rfl ?_
  refine X_iconst (v := (0 : Int32)) rfl rfl rfl ?_
  refine X_istore_n (i := 3) (ls' := [some (.ref 2), some (.int (16384 : Int32)), some (.int (0 : Int32)), some (.int (0 : Int32)), none]) rfl rfl rfl (Nat.le_of_ble_eq_true rfl) rfl ?_
  refine X_iconst (v := (0 : Int32)) rfl rfl rfl ?_
  refine X_istore (i := 4) (ls' := [some (.ref 2), some (.int (16384 : Int32)), some (.int (0 : Int32)), some (.int (0 : Int32)), some (.int (0 : Int32))]) rfl rfl (Nat.le_of_ble_eq_true rfl) rfl ?_
  refine X_iload rfl rfl rfl ?_
  refine X_aload_n rfl rfl rfl rfl ?_
  refine X_getI (v := (0 : Int32)) rfl rfl rfl ((congrFun F.1 2).trans s_2) rfl ((congrFun (F.2.2 2 (by decide)).1 1).trans i_2_1) ?_
  refine X_icmp_ge (tgt := 48) rfl rfl rfl (fun _ => ?_) (fun q => absurd q (by decide))
  refine X_iload_n rfl rfl rfl rfl ?_
  refine LW_ireturn (st := []) rfl rfl rfl ?_
  refine X_istore (i := 5) (ls' := [some (.ref 0), some (.int (0 : Int32)), some (.int (0 : Int32)), some (.int (0 : Int32)), some (.int (14 : Int32)), some (.int (0 : Int32))]) rfl rfl (Nat.le_of_ble_eq_true rfl) rfl ?_
  refine X_iload rfl rfl rfl ?_
  refine X_iload_n rfl rfl rfl rfl ?_
  refine X_icmp_le (tgt := 42) rfl rfl rfl (fun _ => ?_) (fun q => absurd q (by decide))
  refine X_iinc (v := (15 : Int32)) (ls' := [some (.ref 0), some (.int (0 : Int32)), some (.int (0 : Int32)), some (.int (0 : Int32)), some (.int (15 : Int32)), some (.int (0 : Int32))]) rfl rfl rfl rfl rfl ?_
  refine LW_goto (tgt := 7) rfl rfl ?_
  refine X_iload rfl rfl rfl ?_
  refine X_bipush (v := (26 : Int32)) rfl rfl rfl ?_
  refine X_icmp_ge (tgt := 48) rfl rfl rfl (fun q => absurd q (by decide)) (fun _ => ?_)
  refine X_aload_n rfl rfl rfl rfl ?_
  refine X_getR (a := 1) rfl rfl rfl ((congrFun F.1 0).trans s_0) rfl ((congrFun (F.2.1 0 (by decide)) 0).trans r_0_0) ?_
  refine X_getR (a := 2) rfl rfl rfl ((congrFun F.1 1).trans s_1) rfl ((congrFun (F.2.1 1 (by decide)) 0).trans r_1_0) ?_
  refine X_iconst (v := (1 : Int32)) rfl rfl rfl ?_
  refine X_iload rfl rfl rfl ?_
  refine X_ishl (v := (32768 : Int32)) rfl rfl rfl ?_
  refine X_callV (as := [.int (32768 : Int32)]) (st := []) rfl rfl rfl (by decide) rfl (Nat.le_of_ble_eq_true rfl) (by decide) (Nat.le_of_ble_eq_true rfl) rfl ((congrFun F.1 2).trans s_2) (by decide) ?_
  refine LW_ls (ls' := [some (.ref 2), some (.int (32768 : Int32)), none, none, none]) rfl ?_
  refine X_aload_n rfl rfl rfl rfl ?_
  refine X_iload_n rfl rfl rfl rfl ?_
  refine X_callV (as := [.int (32768 : Int32)]) (st := []) rfl rfl rfl (by decide) rfl (Nat.le_of_ble_eq_true rfl) (by decide) (Nat.le_of_ble_eq_true rfl) rfl ((congrFun F.1 2).trans s_2) (by decide) ?_
  refine LW_ls (ls' := [some (.ref 2), some (.int (32768 : Int32)), none, none]) rfl ?_
  refine X_iconst (v := (0 : Int32)) rfl rfl rfl ?_
  refine X_istore_n (i := 2) (ls' := [some (.ref 2), some (.int (32768 : Int32)), some (.int (0 : Int32)), none]) rfl rfl rfl (Nat.le_of_ble_eq_true rfl) rfl ?_
  refine X_iconst (v := (0 : Int32)) rfl rfl rfl ?_
  refine X_istore_n (i := 3) (ls' := [some (.ref 2), some (.int (32768 : Int32)), some (.int (0 : Int32)), some (.int (0 : Int32))]) rfl rfl rfl (Nat.le_of_ble_eq_true rfl) rfl ?_
  refine X_iload_n rfl rfl rfl rfl ?_
  refine X_aload_n rfl rfl rfl rfl ?_
  refine X_getI (v := (0 : Int32)) rfl rfl rfl ((congrFun F.1 2).trans s_2) rfl ((congrFun (F.2.2 2 (by decide)).1 0).trans i_2_0) ?_
  refine X_icmp_ge (tgt := 40) rfl rfl rfl (fun _ => ?_) (fun q => absurd q (by decide))
  refine X_iload_n rfl rfl rfl rfl ?_
  refine LW_ireturn (st := []) rfl rfl rfl ?_
  refine X_istore_n (i := 2) (ls' := [some (.ref 2), some (.int (32768 : Int32)), some (.int (0 : Int32)), none, none]) rfl rfl rfl (Nat.le_of_ble_eq_true rfl) rfl ?_
  refine X_iconst (v := (0 : Int32)) rfl rfl rfl ?_
  refine X_istore_n (i := 3) (ls' := [some (.ref 2), some (.int (32768 : Int32)), some (.int (0 : Int32)), some (.int (0 : Int32)), none]) rfl rfl rfl (Nat.le_of_ble_eq_true rfl) rfl ?_
  refine X_iconst (v := (0 : Int32)) rfl rfl rfl ?_
  refine X_istore (i := 4) (ls' := [some (.ref 2), some (.int (32768 : Int32)), some (.int (0 : Int32)), some (.int (0 : Int32)), some (.int (0 : Int32))]) rfl rfl (Nat.le_of_ble_eq_true rfl) rfl ?_
  refine X_iload rfl rfl rfl ?_
  refine X_aload_n rfl rfl rfl rfl ?_
  refine X_getI (v := (0 : Int32)) rfl rfl rfl ((congrFun F.1 2).trans s_2) rfl ((congrFun (F.2.2 2 (by decide)).1 1).trans i_2_1) ?_
  refine X_icmp_ge (tgt := 48) rfl rfl rfl (fun _ => ?_) (fun q => absurd q (by decide))
  refine X_iload_n rfl rfl rfl rfl ?_
  refine LW_ireturn (st := []) rfl rfl rfl ?_
  refine X_istore (i := 5) (ls' := [some (.ref 0), some (.int (0 : Int32)), some (.int (0 : Int32)), some (.int (0 : Int32)), some (.int (15 : Int32)), some (.int (0 : Int32))]) rfl rfl (Nat.le_of_ble_eq_true rfl) rfl ?_
  refine X_iload rfl rfl rfl ?_
  refine X_iload_n rfl rfl rfl rfl ?_
  refine X_icmp_le (tgt := 42) rfl rfl rfl (fun _ => ?_) (fun q => absurd q (by decide))
  refine X_iinc (v := (16 : Int32)) (ls' := [some (.ref 0), some (.int (0 : Int32)), some (.int (0 : Int32)), some (.int (0 : Int32)), some (.int (16 : Int32)), some (.int (0 : Int32))]) rfl rfl rfl rfl rfl ?_
  refine LW_goto (tgt := 7) rfl rfl ?_
  refine X_iload rfl rfl rfl ?_
  refine X_bipush (v := (26 : Int32)) rfl rfl rfl ?_
  refine X_icmp_ge (tgt := 48) rfl rfl rfl (fun q => absurd q (by decide)) (fun _ => ?_)
  refine X_aload_n rfl rfl rfl rfl ?_
  refine X_getR (a := 1) rfl rfl rfl ((congrFun F.1 0).trans s_0) rfl ((congrFun (F.2.1 0 (by decide)) 0).trans r_0_0) ?_
  refine X_getR (a := 2) rfl rfl rfl ((congrFun F.1 1).trans s_1) rfl ((congrFun (F.2.1 1 (by decide)) 0).trans r_1_0) ?_
  refine X_iconst (v := (1 : Int32)) rfl rfl rfl ?_
  refine X_iload rfl rfl rfl ?_
  refine X_ishl (v := (65536 : Int32)) rfl rfl rfl ?_
  refine X_callV (as := [.int (65536 : Int32)]) (st := []) rfl rfl rfl (by decide) rfl (Nat.le_of_ble_eq_true rfl) (by decide) (Nat.le_of_ble_eq_true rfl) rfl ((congrFun F.1 2).trans s_2) (by decide) ?_
  refine LW_ls (ls' := [some (.ref 2), some (.int (65536 : Int32)), none, none, none]) rfl ?_
  refine X_aload_n rfl rfl rfl rfl ?_
  refine X_iload_n rfl rfl rfl rfl ?_
  refine X_callV (as := [.int (65536 : Int32)]) (st := []) rfl rfl rfl (by decide) rfl (Nat.le_of_ble_eq_true rfl) (by decide) (Nat.le_of_ble_eq_true rfl) rfl ((congrFun F.1 2).trans s_2) (by decide) ?_
  refine LW_ls (ls' := [some (.ref 2), some (.int (65536 : Int32)), none, none]) rfl ?_
  refine X_iconst (v := (0 : Int32)) rfl rfl rfl ?_
  refine X_istore_n (i := 2) (ls' := [some (.ref 2), some (.int (65536 : Int32)), some (.int (0 : Int32)), none]) rfl rfl rfl (Nat.le_of_ble_eq_true rfl) rfl ?_
  refine X_iconst (v := (0 : Int32)) rfl rfl rfl ?_
  refine X_istore_n (i := 3) (ls' := [some (.ref 2), some (.int (65536 : Int32)), some (.int (0 : Int32)), some (.int (0 : Int32))]) rfl rfl rfl (Nat.le_of_ble_eq_true rfl) rfl ?_
  refine X_iload_n rfl rfl rfl rfl ?_
  refine X_aload_n rfl rfl rfl rfl ?_
  refine X_getI (v := (0 : Int32)) rfl rfl rfl ((congrFun F.1 2).trans s_2) rfl ((congrFun (F.2.2 2 (by decide)).1 0).trans i_2_0) ?_
  refine X_icmp_ge (tgt := 40) rfl rfl rfl (fun _ => ?_) (fun q => absurd q (by decide))
  refine X_iload_n rfl rfl rfl rfl ?_
  refine LW_ireturn (st := []) rfl rfl rfl ?_
  refine X_istore_n (i := 2) (ls' := [some (.ref 2), some (.int (65536 : Int32)), some (.int (0 : Int32)), none, none]) rfl rfl rfl (Nat.le_of_ble_eq_true rfl) rfl ?_
  refine X_iconst (v := (0 : Int32)) rfl rfl rfl ?_
  refine X_istore_n (i := 3) (ls' := [some (.ref 2), some (.int (65536 : Int32)), some (.int (0 : Int32)), some (.int (0 : Int32)), none]) rfl rfl rfl (Nat.le_of_ble_eq_true rfl) rfl ?_
  refine X_iconst (v := (0 : Int32)) rfl rfl rfl ?_
  refine X_istore (i := 4) (ls' := [some (.ref 2), some (.int (65536 : Int32)), some (.int (0 : Int32)), some (.int (0 : Int32)), some (.int (0 : Int32))]) rfl rfl (Nat.le_of_ble_eq_true rfl) rfl ?_
  refine X_iload rfl rfl rfl ?_
  refine X_aload_n rfl rfl rfl rfl ?_
  refine X_getI (v := (0 : Int32)) rfl rfl rfl ((congrFun F.1 2).trans s_2) rfl ((congrFun (F.2.2 2 (by decide)).1 1).trans i_2_1) ?_
  refine X_icmp_ge (tgt := 48) rfl rfl rfl (fun _ => ?_) (fun q => absurd q (by decide))
  refine X_iload_n rfl rfl rfl rfl ?_
  refine LW_ireturn (st := []) rfl rfl rfl ?_
  refine X_istore (i := 5) (ls' := [some (.ref 0), some (.int (0 : Int32)), some (.int (0 : Int32)), some (.int (0 : Int32)), some (.int (16 : Int32)), some (.int (0 : Int32))]) rfl rfl (Nat.le_of_ble_eq_true rfl) rfl ?_
  refine X_iload rfl rfl rfl ?_
  refine X_iload_n rfl rfl rfl rfl ?_
  refine X_icmp_le (tgt := 42) rfl rfl rfl (fun _ => ?_) (fun q => absurd q (by decide))
  refine X_iinc (v := (17 : Int32)) (ls' := [some (.ref 0), some (.int (0 : Int32)), some (.int (0 : Int32)), some (.int (0 : Int32)), some (.int (17 : Int32)), some (.int (0 : Int32))]) rfl rfl rfl rfl rfl ?_
  refine LW_goto (tgt := 7) rfl rfl ?_
  refine X_iload rfl rfl rfl ?_
  refine X_bipush (v := (26 : Int32)) rfl rfl rfl ?_
  refine X_icmp_ge (tgt := 48) rfl rfl rfl (fun q => absurd q (by decide)) (fun _ => ?_)
  refine X_aload_n rfl rfl rfl rfl ?_
  refine X_getR (a := 1) rfl rfl rfl ((congrFun F.1 0).trans s_0) rfl ((congrFun (F.2.1 0 (by decide)) 0).trans r_0_0) ?_
  refine X_getR (a := 2) rfl rfl rfl ((congrFun F.1 1).trans s_1) rfl ((congrFun (F.2.1 1 (by decide)) 0).trans r_1_0) ?_
  refine X_iconst (v := (1 : Int32)) rfl rfl rfl ?_
  refine X_iload rfl rfl rfl ?_
  refine X_ishl (v := (131072 : Int32)) rfl rfl rfl ?_
  refine X_callV (as := [.int (131072 : Int32)]) (st := []) rfl rfl rfl (by decide) rfl (Nat.le_of_ble_eq_true rfl) (by decide) (Nat.le_of_ble_eq_true rfl) rfl ((congrFun F.1 2).trans s_2) (by decide) ?_
  refine LW_ls (ls' := [some (.ref 2), some (.int (131072 : Int32)), none, none, none]) rfl ?_
  refine X_aload_n rfl rfl rfl rfl ?_
  refine X_iload_n rfl rfl rfl rfl ?_
  refine X_callV (as := [.int (131072 : Int32)]) (st := []) rfl rfl rfl (by decide) rfl (Nat.le_of_ble_eq_true rfl) (by decide) (Nat.le_of_ble_eq_true rfl) rfl ((congrFun F.1 2).trans s_2) (by decide) ?_
  refine LW_ls (ls' := [some (.ref 2), some (.int (131072 : Int32)), none, none]) rfl ?_
  refine X_iconst (v := (0 : Int32)) rfl rfl rfl ?_
  refine X_istore_n (i := 2) (ls' := [some (.ref 2), some (.int (131072 : Int32)), some (.int (0 : Int32)), none]) rfl rfl rfl (Nat.le_of_ble_eq_true rfl) rfl ?_
  refine X_iconst (v := (0 : Int32)) rfl rfl rfl ?_
  refine X_istore_n (i := 3) (ls' := [some (.ref 2), some (.int (131072 : Int32)), some (.int (0 : Int32)), some (.int (0 : Int32))]) rfl rfl rfl (Nat.le_of_ble_eq_true rfl) rfl ?_
  refine X_iload_n rfl rfl rfl rfl ?_
  refine X_aload_n rfl rfl rfl rfl ?_
  refine X_getI (v := (0 : Int32)) rfl rfl rfl ((congrFun F.1 2).trans s_2) rfl ((congrFun (F.2.2 2 (by decide)).1 0).trans i_2_0) ?_
  refine X_icmp_ge (tgt := 40) rfl rfl rfl (fun _ => ?_) (fun q => absurd q (by decide))
  refine X_iload_n rfl rfl rfl rfl ?_
  refine LW_ireturn (st := []) rfl rfl rfl ?_
  refine X_istore_n (i := 2) (ls' := [some (.ref 2), some (.int (131072 : Int32)), some (.int (0 : Int32)), none, none]) rfl rfl rfl (Nat.le_of_ble_eq_true rfl) rfl ?_
  refine X_iconst (v := (0 : Int32)) rfl rfl rfl ?_
  refine X_istore_n (i := 3) (ls' := [some (.ref 2), some (.int (131072 : Int32)), some (.int (0 : Int32)), some (.int (0 : Int32)), none]) rfl rfl rfl (Nat.le_of_ble_eq_true rfl) rfl ?_
  refine X_iconst (v := (0 : Int32)) rfl rfl rfl ?_
  refine X_istore (i := 4) (ls' := [some (.ref 2), some (.int (131072 : Int32)), some (.int (0 : Int32)), some (.int (0 : Int32)), some (.int (0 : Int32))]) rfl rfl (Nat.le_of_ble_eq_true rfl) rfl ?_
  refine X_iload rfl rfl rfl ?_
  refine X_aload_n rfl rfl rfl rfl ?_
  refine X_getI (v := (0 : Int32)) rfl rfl rfl ((congrFun F.1 2).trans s_2) rfl ((congrFun (F.2.2 2 (by decide)).1 1).trans i_2_1) ?_
  refine X_icmp_ge (tgt := 48) rfl rfl rfl (fun _ => ?_) (fun q => absurd q (by decide))
  refine X_iload_n rfl rfl rfl rfl ?_
  refine LW_ireturn (st := []) rfl rfl rfl ?_
  refine X_istore (i := 5) (ls' := [some (.ref 0), some (.int (0 : Int32)), some (.int (0 : Int32)), some (.int (0 : Int32)), some (.int (17 : Int32)), some (.int (0 : Int32))]) rfl rfl (Nat.le_of_ble_eq_true rfl) rfl ?_
  refine X_iload rfl rfl rfl ?_
  refine X_iload_n rfl rfl rfl rfl ?_
  refine X_icmp_le (tgt := 42) rfl rfl rfl (fun _ => ?_) (fun q => absurd q (by decide))
  refine X_iinc (v := (18 : Int32)) (ls' := [some (.ref 0), some (.int (0 : Int32)), some (.int (0 : Int32)), some (.int (0 : Int32)), some (.int (18 : Int32)), some (.int (0 : Int32))]) rfl rfl rfl rfl rfl ?_
  refine LW_goto (tgt := 7) rfl rfl ?_
  refine X_iload rfl rfl rfl ?_
  refine X_bipush (v := (26 : Int32)) rfl rfl rfl ?_
  refine X_icmp_ge (tgt := 48) rfl rfl rfl (fun q => absurd q (by decide)) (fun _ => ?_)
  refine X_aload_n rfl rfl rfl rfl ?_
  refine X_getR (a := 1) rfl rfl rfl ((congrFun F.1 0).trans s_0) rfl ((congrFun (F.2.1 0 (by decide)) 0).trans r_0_0) ?_
  refine X_getR (a := 2) rfl rfl rfl ((congrFun F.1 1).trans s_1) rfl ((congrFun (F.2.1 1 (by decide)) 0).trans r_1_0) ?_
  refine X_iconst (v := (1 : Int32)) rfl rfl rfl ?_
  refine X_iload rfl rfl rfl ?_
  refine X_ishl (v := (262144 : Int32)) rfl rfl rfl ?_
  refine X_callV (as := [.int (262144 : Int32)]) (st := []) rfl rfl rfl (by decide) rfl (Nat.le_of_ble_eq_true rfl) (by decide) (Nat.le_of_ble_eq_true rfl) rfl ((congrFun F.1 2).trans s_2) (by decide) ?_
  refine LW_ls (ls' := [some (.ref 2), some (.int (262144 : Int32)), none, none, none]) rfl ?_
  refine X_aload_n rfl rfl rfl rfl ?_
  refine X_iload_n rfl rfl rfl rfl ?_
  refine X_callV (as := [.int (262144 : Int32)]) (st := []) rfl rfl rfl (by decide) rfl (Nat.le_of_ble_eq_true rfl) (by decide) (Nat.le_of_ble_eq_true rfl) rfl ((congrFun F.1 2).trans s_2) (by decide) ?_
  refine LW_ls (ls' := [some (.ref 2), some (.int (262144 : Int32)), none, none]) rfl ?_
  refine X_iconst (v := (0 : Int32)) rfl rfl rfl ?_
  refine X_istore_n (i := 2) (ls' := [some (.ref 2), some (.int (262144 : Int32)), some (.int (0 : Int32)), none]) rfl rfl rfl (Nat.le_of_ble_eq_true rfl) rfl ?_
  refine X_iconst (v := (0 : Int32)) rfl rfl rfl ?_
  refine X_istore_n (i := 3) (ls' := [some (.ref 2), some (.int (262144 : Int32)), some (.int (0 : Int32)), some (.int (0 : Int32))]) rfl rfl rfl (Nat.le_of_ble_eq_true rfl) rfl ?_
  refine X_iload_n rfl rfl rfl rfl ?_
  refine X_aload_n rfl rfl rfl rfl ?_
  refine X_getI (v := (0 : Int32)) rfl rfl rfl ((congrFun F.1 2).trans s_2) rfl ((congrFun (F.2.2 2 (by decide)).1 0).trans i_2_0) ?_
  refine X_icmp_ge (tgt := 40) rfl rfl rfl (fun _ => ?_) (fun q => absurd q (by decide))
  refine X_iload_n rfl rfl rfl rfl ?_
  refine LW_ireturn (st := []) rfl rfl rfl ?_
  refine X_istore_n (i := 2) (ls' := [some (.ref 2), some (.int (262144 : Int32)), some (.int (0 : Int32)), none, none]) rfl rfl rfl (Nat.le_of_ble_eq_true rfl) rfl ?_
  refine X_iconst (v := (0 : Int32)) rfl rfl rfl ?_
  refine X_istore_n (i := 3) (ls' := [some (.ref 2), some (.int (262144 : Int32)), some (.int (0 : Int32)), some (.int (0 : Int32)), none]) rfl rfl rfl (Nat.le_of_ble_eq_true rfl) rfl ?_
  refine X_iconst (v := (0 : Int32)) rfl rfl rfl ?_
  refine X_istore (i := 4) (ls' := [some (.ref 2), some (.int (262144 : Int32)), some (.int (0 : Int32)), some (.int (0 : Int32)), some (.int (0 : Int32))]) rfl rfl (Nat.le_of_ble_eq_true rfl) rfl ?_
  refine X_iload rfl rfl rfl ?_
  refine X_aload_n rfl rfl rfl rfl ?_
  refine X_getI (v := (0 : Int32)) rfl rfl rfl ((congrFun F.1 2).trans s_2) rfl ((congrFun (F.2.2 2 (by decide)).1 1).trans i_2_1) ?_
  refine X_icmp_ge (tgt := 48) rfl rfl rfl (fun _ => ?_) (fun q => absurd q (by decide))
  refine X_iload_n rfl rfl rfl rfl ?_
  refine LW_ireturn (st := []) rfl rfl rfl ?_
  refine X_istore (i := 5) (ls' := [some (.ref 0), some (.int (0 : Int32)), some (.int (0 : Int32)), some (.int (0 : Int32)), some (.int (18 : Int32)), some (.int (0 : Int32))]) rfl rfl (Nat.le_of_ble_eq_true rfl) rfl ?_
  refine X_iload rfl rfl rfl ?_
  refine X_iload_n rfl rfl rfl rfl ?_
  refine X_icmp_le (tgt := 42) rfl rfl rfl (fun _ => ?_) (fun q => absurd q (by decide))
  refine X_iinc (v := (19 : Int32)) (ls' := [some (.ref 0), some (.int (0 : Int32)), some (.int (0 : Int32)), some (.int (0 : Int32)), some (.int (19 : Int32)), some (.int (0 : Int32))]) rfl rfl rfl rfl rfl ?_
  refine LW_goto (tgt := 7) rfl rfl ?_
  refine X_iload rfl rfl rfl ?_
  refine X_bipush (v := (26 : Int32)) rfl rfl rfl ?_
  refine X_icmp_ge (tgt := 48) rfl rfl rfl (fun q => absurd q (by decide)) (fun _ => ?_)
  refine X_aload_n rfl rfl rfl rfl ?_
  refine X_getR (a := 1) rfl rfl rfl ((congrFun F.1 0).trans s_0) rfl ((congrFun (F.2.1 0 (by decide)) 0).trans r_0_0) ?_
  refine X_getR (a := 2) rfl rfl rfl ((congrFun F.1 1).trans s_1) rfl ((congrFun (F.2.1 1 (by decide)) 0).trans r_1_0) ?_
  refine X_iconst (v := (1 : Int32)) rfl rfl rfl ?_
  refine X_iload rfl rfl rfl ?_
  refine X_ishl (v := (524288 : Int32)) rfl rfl rfl ?_
  refine X_callV (as := [.int (524288 : Int32)]) (st := []) rfl rfl rfl (by decide) rfl (Nat.le_of_ble_eq_true rfl) (by decide) (Nat.le_of_ble_eq_true rfl) rfl ((congrFun F.1 2).trans s_2) (by decide) ?_
  refine LW_ls (ls' := [some (.ref 2), some (.int (524288 : Int32)), none, none, none]) rfl ?_
  refine X_aload_n rfl rfl rfl rfl ?_
  refine X_iload_n rfl rfl rfl rfl ?_
  refine X_callV (as := [.int (524288 : Int32)]) (st := []) rfl rfl rfl (by decide) rfl (Nat.le_of_ble_eq_true rfl) (by decide) (Nat.le_of_ble_eq_true rfl) rfl ((congrFun F.1 2).trans s_2) (by decide) ?_
  refine LW_ls (ls' := [some (.ref 2), some (.int (524288 : Int32)), none, none]) rfl ?_
  refine X_iconst (v := (0 : Int32)) rfl rfl rfl ?_
  refine X_istore_n (i := 2) (ls' := [some (.ref 2), some (.int (524288 : Int32)), some (.int (0 : Int32)), none]) rfl rfl rfl (Nat.le_of_ble_eq_true rfl) rfl ?_
  refine X_iconst (v := (0 : Int32)) rfl rfl rfl ?_
  refine X_istore_n (i := 3) (ls' := [some (.ref 2), some (.int (524288 : Int32)), some (.int (0 : Int32)), some (.int (0 : Int32))]) rfl rfl rfl (Nat.le_of_ble_eq_true rfl) rfl ?_
  refine X_iload_n rfl rfl rfl rfl ?_
  refine X_aload_n rfl rfl rfl rfl ?_
  refine X_getI (v := (0 : Int32)) rfl rfl rfl ((congrFun F.1 2).trans s_2) rfl ((congrFun (F.2.2 2 (by decide)).1 0).trans i_2_0) ?_
  refine X_icmp_ge (tgt := 40) rfl rfl rfl (fun _ => ?_) (fun q => absurd q (by decide))
  refine X_iload_n rfl rfl rfl rfl ?_
  refine LW_ireturn (st := []) rfl rfl rfl ?_
  refine X_istore_n (i := 2) (ls' := [some (.ref 2), some (.int (524288 : Int32)), some (.int (0 : Int32)), none, none]) rfl rfl rfl (Nat.le_of_ble_eq_true rfl) rfl ?_
  refine X_iconst (v := (0 : Int32)) rfl rfl rfl ?_
  refine X_istore_n (i := 3) (ls' := [some (.ref 2), some (.int (524288 : Int32)), some (.int (0 : Int32)), some (.int (0 : Int32)), none]) rfl rfl rfl (Nat.le_of_ble_eq_true rfl) rfl ?_
  refine X_iconst (v := (0 : Int32)) rfl rfl rfl ?_
  refine X_istore (i := 4) (ls' := [some (.ref 2), some (.int (524288 : Int32)), some (.int (0 : Int32)), some (.int (0 : Int32)), some (.int (0 : Int32))]) rfl rfl (Nat.le_of_ble_eq_true rfl) rfl ?_
  refine X_iload rfl rfl rfl ?_
  refine X_aload_n rfl rfl rfl rfl ?_
  refine X_getI (v := (0 : Int32)) rfl rfl rfl ((congrFun F.1 2).trans s_2) rfl ((congrFun (F.2.2 2 (by decide)).1 1).trans i_2_1) ?_
  refine X_icmp_ge (tgt := 48) rfl rfl rfl (fun _ => ?_) (fun q => absurd q (by decide))
  refine X_iload_n rfl rfl rfl rfl ?_
  refine LW_ireturn (st := []) rfl rfl rfl ?_
  refine X_istore (i := 5) (ls' := [some (.ref 0), some (.int (0 : Int32)), some (.int (0 : Int32)), some (.int (0 : Int32)), some (.int (19 : Int32)), some (.int (0 : Int32))]) rfl rfl (Nat.le_of_ble_eq_true rfl) rfl ?_
  refine X_iload rfl rfl rfl ?_
  refine X_iload_n rfl rfl rfl rfl ?_
  refine X_icmp_le (tgt := 42) rfl rfl rfl (fun _ => ?_) (fun q => absurd q (by decide))
  refine X_iinc (v := (20 : Int32)) (ls' := [some (.ref 0), some (.int (0 : Int32)), some (.int (0 : Int32)), some (.int (0 : Int32)), some (.int (20 : Int32)), some (.int (0 : Int32))]) rfl rfl rfl rfl rfl ?_
  refine LW_goto (tgt := 7) rfl rfl ?_
  refine X_iload rfl rfl rfl ?_
  refine X_bipush (v := (26 : Int32)) rfl rfl rfl ?_
  refine X_icmp_ge (tgt := 48) rfl rfl rfl (fun q => absurd q (by decide)) (fun _ => ?_)
  refine X_aload_n rfl rfl rfl rfl ?_
  refine X_getR (a := 1) rfl rfl rfl ((congrFun F.1 0).trans s_0) rfl ((congrFun (F.2.1 0 (by decide)) 0).trans r_0_0) ?_
  refine X_getR (a := 2) rfl rfl rfl ((congrFun F.1 1).trans s_1) rfl ((congrFun (F.2.1 1 (by decide)) 0).trans r_1_0) ?_
  refine X_iconst (v := (1 : Int32)) rfl rfl rfl ?_
  refine X_iload rfl rfl rfl ?_
  refine X_ishl (v := (1048576 : Int32)) rfl rfl rfl ?_
  refine X_callV (as := [.int (1048576 : Int32)]) (st := []) rfl rfl rfl (by decide) rfl (Nat.le_of_ble_eq_true rfl) (by decide) (Nat.le_of_ble_eq_true rfl) rfl ((congrFun F.1 2).trans s_2) (by decide) ?_
  refine LW_ls (ls' := [some (.ref 2), some (.int (1048576 : Int32)), none, none, none]) rfl ?_
  refine X_aload_n rfl rfl rfl rfl ?_
  refine X_iload_n rfl rfl rfl rfl ?_
  refine X_callV (as := [.int (1048576 : Int32)]) (st := []) rfl rfl rfl (by decide) rfl (Nat.le_of_ble_eq_true rfl) (by decide) (Nat.le_of_ble_eq_true rfl) rfl ((congrFun F.1 2).trans s_2) (by decide) ?_
  refine LW_ls (ls' := [some (.ref 2), some (.int (1048576 : Int32)), none, none]) rfl ?_
  refine X_iconst (v := (0 : Int32)) rfl rfl rfl ?_
  refine X_istore_n (i := 2) (ls' := [some (.ref 2), some (.int (1048576 : Int32)), some (.int (0 : Int32)), none]) rfl rfl rfl (Nat.le_of_ble_eq_true rfl) rfl ?_
  refine X_iconst (v := (0 : Int32)) rfl rfl rfl ?_
  refine X_istore_n (i := 3) (ls' := [some (.ref 2), some (.int (1048576 : Int32)), some (.int (0 : Int32)), some (.int (0 : Int32))]) rfl rfl rfl (Nat.le_of_ble_eq_true rfl) rfl ?_
  refine X_iload_n rfl rfl rfl rfl ?_
  refine X_aload_n rfl rfl rfl rfl ?_
  refine X_getI (v := (0 : Int32)) rfl rfl rfl ((congrFun F.1 2).trans s_2) rfl ((congrFun (F.2.2 2 (by decide)).1 0).trans i_2_0) ?_
  refine X_icmp_ge (tgt := 40) rfl rfl rfl (fun _ => ?_) (fun q => absurd q (by decide))
  refine X_iload_n rfl rfl rfl rfl ?_
  refine LW_ireturn (st := []) rfl rfl rfl ?_
  refine X_istore_n (i := 2) (ls' := [some (.ref 2), some (.int (1048576 : Int32)), some (.int (0 : Int32)), none, none]) rfl rfl rfl (Nat.le_of_ble_eq_true rfl) rfl ?_
  refine X_iconst (v := (0 : Int32)) rfl rfl rfl ?_
  refine X_istore_n (i := 3) (ls' := [some (.ref 2), some (.int (1048576 : Int32)), some (.int (0 : Int32)), some (.int (0 : Int32)), none]) rfl rfl rfl (Nat.le_of_ble_eq_true rfl) rfl ?_
  refine X_iconst (v := (0 : Int32)) rfl rfl rfl ?_
  refine X_istore (i := 4) (ls' := [some (.ref 2), some (.int (1048576 : Int32)), some (.int (0 : Int32)), some (.int (0 : Int32)), some (.int (0 : Int32))]) rfl rfl (Nat.le_of_ble_eq_true rfl) rfl ?_
  refine X_iload rfl rfl rfl ?_
  refine X_aload_n rfl rfl rfl rfl ?_
  refine X_getI (v := (0 : Int32)) rfl rfl rfl ((congrFun F.1 2).trans s_2) rfl ((congrFun (F.2.2 2 (by decide)).1 1).trans i_2_1) ?_
  refine X_icmp_ge (tgt := 48) rfl rfl rfl (fun _ => ?_) (fun q => absurd q (by decide))
  refine X_iload_n rfl rfl rfl rfl ?_
  refine LW_ireturn (st := []) rfl rfl rfl ?_
  refine X_istore (i := 5) (ls' := [some (.ref 0), some (.int (0 : Int32)), some (.int (0 : Int32)), some (.int (0 : Int32)), some (.int (20 : Int32)), some (.int (0 : Int32))]) rfl rfl (Nat.le_of_ble_eq_true rfl) rfl ?_
  refine X_iload rfl rfl rfl ?_
  refine X_iload_n rfl rfl rfl rfl ?_
  refine X_icmp_le (tgt := 42) rfl rfl rfl (fun _ => ?_) (fun q => absurd q (by decide))
  refine X_iinc (v := (21 : Int32)) (ls' := [some (.ref 0), some (.int (0 : Int32)), some (.int (0 : Int32)), some (.int (0 : Int32)), some (.int (21 : Int32)), some (.int (0 : Int32))]) rfl rfl rfl rfl rfl ?_
  refine LW_goto (tgt := 7) rfl rfl ?_
  refine X_iload rfl rfl rfl ?_
  refine X_bipush (v := (26 : Int32)) rfl rfl rfl ?_
  refine X_icmp_ge (tgt := 48) rfl rfl rfl (fun q => absurd q (by decide)) (fun _ => ?_)
  refine X_aload_n rfl rfl rfl rfl ?_
  refine X_getR (a := 1) rfl rfl rfl ((congrFun F.1 0).trans s_0) rfl ((congrFun (F.2.1 0 (by decide)) 0).trans r_0_0) ?_
  refine X_getR (a := 2) rfl rfl rfl ((congrFun F.1 1).trans s_1) rfl ((congrFun (F.2.1 1 (by decide)) 0).trans r_1_0) ?_
  refine X_iconst (v := (1 : Int32)) rfl rfl rfl ?_
  refine X_iload rfl rfl rfl ?_
  refine X_ishl (v := (2097152 : Int32)) rfl rfl rfl ?_
  refine X_callV (as := [.int (2097152 : Int32)]) (st := []) rfl rfl rfl (by decide) rfl (Nat.le_of_ble_eq_true rfl) (by decide) (Nat.le_of_ble_eq_true rfl) rfl ((congrFun F.1 2).trans s_2) (by decide) ?_
  refine LW_ls (ls' := [some (.ref 2), some (.int (2097152 : Int32)), none, none, none]) rfl ?_
  refine X_aload_n rfl rfl rfl rfl ?_
  refine X_iload_n rfl rfl rfl rfl ?_
  refine X_callV (as := [.int (2097152 : Int32)]) (st := []) rfl rfl rfl (by decide) rfl (Nat.le_of_ble_eq_true rfl) (by decide) (Nat.le_of_ble_eq_true rfl) rfl ((congrFun F.1 2).trans s_2) (by decide) ?_
  refine LW_ls (ls' := [some (.ref 2), some (.int (2097152 : Int32)), none, none]) rfl ?_
  refine X_iconst (v := (0 : Int32)) rfl rfl rfl ?_
  refine X_istore_n (i := 2) (ls' := [some (.ref 2), some (.int (2097152 : Int32)), some (.int (0 : Int32)), none]) rfl rfl rfl (Nat.le_of_ble_eq_true rfl) rfl ?_
  refine X_iconst (v := (0 : Int32)) rfl rfl rfl ?_
  refine X_istore_n (i := 3) (ls' := [some (.ref 2), some (.int (2097152 : Int32)), some (.int (0 : Int32)), some (.int (0 : Int32))]) rfl rfl rfl (Nat.le_of_ble_eq_true rfl) rfl ?_
  refine X_iload_n rfl rfl rfl rfl ?_
  refine X_aload_n rfl rfl rfl rfl ?_
  refine X_getI (v := (0 : Int32)) rfl rfl rfl ((congrFun F.1 2).trans s_2) rfl ((congrFun (F.2.2 2 (by decide)).1 0).trans i_2_0) ?_
  refine X_icmp_ge (tgt := 40) rfl rfl rfl (fun _ => ?_) (fun q => absurd q (by decide))
  refine X_iload_n rfl rfl rfl rfl ?_
  refine LW_ireturn (st := []) rfl rfl rfl ?_
  refine X_istore_n (i := 2) (ls' := [some (.ref 2), some (.int (2097152 : Int32)), some (.int (0 : Int32)), none, none]) rfl rfl rfl (Nat.le_of_ble_eq_true rfl) rfl ?_
  refine X_iconst (v := (0 : Int32)) rfl rfl rfl ?_
  refine X_istore_n (i := 3) (ls' := [some (.ref 2), some (.int (2097152 : Int32)), some (.int (0 : Int32)), some (.int (0 : Int32)), none]) rfl rfl rfl (Nat.le_of_ble_eq_true rfl) rfl ?_
  refine X_iconst (v := (0 : Int32)) rfl rfl rfl ?_
  refine X_istore (i := 4) (ls' := [some (.ref 2), some (.int (2097152 : Int32)), some (.int (0 : Int32)), some (.int (0 : Int32)), some (.int (0 : Int32))]) rfl rfl (Nat.le_of_ble_eq_true rfl) rfl ?_
  refine X_iload rfl rfl rfl ?_
  refine X_aload_n rfl rfl rfl rfl ?_
  refine X_getI (v := (0 : Int32)) rfl rfl rfl ((congrFun F.1 2).trans s_2) rfl ((congrFun (F.2.2 2 (by decide)).1 1).trans i_2_1) ?_
  refine X_icmp_ge (tgt := 48) rfl rfl rfl (fun _ => ?_) (fun q => absurd q (by decide))
  refine X_iload_n rfl rfl rfl rfl ?_
  refine LW_ireturn (st := []) rfl rfl rfl ?_
  refine X_istore (i := 5) (ls' := [some (.ref 0), some (.int (0 : Int32)), some (.int (0 : Int32)), some (.int (0 : Int32)), some (.int (21 : Int32)), some (.int (0 : Int32))]) rfl rfl (Nat.le_of_ble_eq_true rfl) rfl ?_
  refine X_iload rfl rfl rfl ?_
  refine X_iload_n rfl rfl rfl rfl ?_
  refine X_icmp_le (tgt := 42) rfl rfl rfl (fun _ => ?_) (fun q => absurd q (by decide))
  refine X_iinc (v := (22 : Int32)) (ls' := [some (.ref 0), some (.int (0 : Int32)), some (.int (0 : Int32)), some (.int (0 : Int32)), some (.int (22 : Int32)), some (.int (0 : Int32))]) rfl rfl rfl rfl rfl ?_
  refine LW_goto (tgt := 7) rfl rfl ?_
  refine X_iload rfl rfl rfl ?_
  refine X_bipush (v := (26 : Int32)) rfl rfl rfl ?_
  refine X_icmp_ge (tgt := 48) rfl rfl rfl (fun q => absurd q (by decide)) (fun _ => ?_)
  refine X_aload_n rfl rfl rfl rfl ?_
  refine X_getR (a := 1) rfl rfl rfl ((congrFun F.1 0).trans s_0) rfl ((congrFun (F.2.1 0 (by decide)) 0).trans r_0_0) ?_
  refine X_getR (a := 2) rfl rfl rfl ((congrFun F.1 1).trans s_1) rfl ((congrFun (F.2.1 1 (by decide)) 0).trans r_1_0) ?_
  refine X_iconst (v := (1 : Int32)) rfl rfl rfl ?_
  refine X_iload rfl rfl rfl ?_
  refine X_ishl (v := (4194304 : Int32)) rfl rfl rfl ?_
  refine X_callV (as := [.int (4194304 : Int32)]) (st := []) rfl rfl rfl (by decide) rfl (Nat.le_of_ble_eq_true rfl) (by decide) (Nat.le_of_ble_eq_true rfl) rfl ((congrFun F.1 2).trans s_2) (by decide) ?_
  refine LW_ls (ls' := [some (.ref 2), some (.int (4194304 : Int32)), none, none, none]) rfl ?_
  refine X_aload_n rfl rfl rfl rfl ?_
  refine X_iload_n rfl rfl rfl rfl ?_
  refine X_callV (as := [.int (4194304 : Int32)]) (st := []) rfl rfl rfl (by decide) rfl (Nat.le_of_ble_eq_true rfl) (by decide) (Nat.le_of_ble_eq_true rfl) rfl ((congrFun F.1 2).trans s_2) (by decide) ?_
  refine LW_ls (ls' := [some (.ref 2), some (.int (4194304 : Int32)), none, none]) rfl ?_
  refine X_iconst (v := (0 : Int32)) rfl rfl rfl ?_
  refine X_istore_n (i := 2) (ls' := [some (.ref 2), some (.int (4194304 : Int32)), some (.int (0 : Int32)), none]) rfl rfl rfl (Nat.le_of_ble_eq_true rfl) rfl ?_
  refine X_iconst (v := (0 : Int32)) rfl rfl rfl ?_
  refine X_istore_n (i := 3) (ls' := [some (.ref 2), some (.int (4194304 : Int32)), some (.int (0 : Int32)), some (.int (0 : Int32))]) rfl rfl rfl (Nat.le_of_ble_eq_true rfl) rfl ?_
  refine X_iload_n rfl rfl rfl rfl ?_
  refine X_aload_n rfl rfl rfl rfl ?_
  refine X_getI (v := (0 : Int32)) rfl rfl rfl ((congrFun F.1 2).trans s_2) rfl ((congrFun (F.2.2 2 (by decide)).1 0).trans i_2_0) ?_
  refine X_icmp_ge (tgt := 40) rfl rfl rfl (fun _ => ?_) (fun q => absurd q (by decide))
  refine X_iload_n rfl rfl rfl rfl ?_
  refine LW_ireturn (st := []) rfl rfl rfl ?_
  refine X_istore_n (i := 2) (ls' := [some (.ref 2), some (.int (4194304 : Int32)), some (.int (0 : Int32)), none, none]) rfl rfl rfl (Nat.le_of_ble_eq_true rfl) rfl ?_
  refine X_iconst (v := (0 : Int32)) rfl rfl rfl ?_
  refine X_istore_n (i := 3) (ls' := [some (.ref 2), some (.int (4194304 : Int32)), some (.int (0 : Int32)), some (.int (0 : Int32)), none]) rfl rfl rfl (Nat.le_of_ble_eq_true rfl) rfl ?_
  refine X_iconst (v := (0 : Int32)) rfl rfl rfl ?_
  refine X_istore (i := 4) (ls' := [some (.ref 2), some (.int (4194304 : Int32)), some (.int (0 : Int32)), some (.int (0 : Int32)), some (.int (0 : Int32))]) rfl rfl (Nat.le_of_ble_eq_true rfl) rfl ?_
  refine X_iload rfl rfl rfl ?_
  refine X_aload_n rfl rfl rfl rfl ?_
  refine X_getI (v := (0 : Int32)) rfl rfl rfl ((congrFun F.1 2).trans s_2) rfl ((congrFun (F.2.2 2 (by decide)).1 1).trans i_2_1) ?_
  refine X_icmp_ge (tgt := 48) rfl rfl rfl (fun _ => ?_) (fun q => absurd q (by decide))
  refine X_iload_n rfl rfl rfl rfl ?_
  refine LW_ireturn (st := []) rfl rfl rfl ?_
  refine X_istore (i := 5) (ls' := [some (.ref 0), some (.int (0 : Int32)), some (.int (0 : Int32)), some (.int (0 : Int32)), some (.int (22 : Int32)), some (.int (0 : Int32))]) rfl rfl (Nat.le_of_ble_eq_true rfl) rfl ?_
  refine X_iload rfl rfl rfl ?_
  refine X_iload_n rfl rfl rfl rfl ?_
  refine X_icmp_le (tgt := 42) rfl rfl rfl (fun _ => ?_) (fun q => absurd q (by decide))
  refine X_iinc (v := (23 : Int32)) (ls' := [some (.ref 0), some (.int (0 : Int32)), some (.int (0 : Int32)), some (.int (0 : Int32)), some (.int (23 : Int32)), some (.int (0 : Int32))]) rfl rfl rfl rfl rfl ?_
  refine LW_goto (tgt := 7) rfl rfl ?_
  refine X_iload rfl rfl rfl ?_
  refine X_bipush (v := (26 : Int32)) rfl rfl rfl ?_
  refine X_icmp_ge (tgt := 48) rfl rfl rfl (fun q => absurd q (by decide)) (fun _ => ?_)
  refine X_aload_n rfl rfl rfl rfl ?_
  refine X_getR (a := 1) rfl rfl rfl ((congrFun F.1 0).trans s_0) rfl ((congrFun (F.2.1 0 (by decide)) 0).trans r_0_0) ?_
  refine X_getR (a := 2) rfl rfl rfl ((congrFun F.1 1).trans s_1) rfl ((congrFun (F.2.1 1 (by decide)) 0).trans r_1_0) ?_
  refine X_iconst (v := (1 : Int32)) rfl rfl rfl ?_
  refine X_iload rfl rfl rfl ?_
  refine X_ishl (v := (8388608 : Int32)) rfl rfl rfl ?_
  refine X_callV (as := [.int (8388608 : Int32)]) (st := []) rfl rfl rfl (by decide) rfl (Nat.le_of_ble_eq_true rfl) (by decide) (Nat.le_of_ble_eq_true rfl) rfl ((congrFun F.1 2).trans s_2) (by decide) ?_
  refine LW_ls (ls' := [some (.ref 2), some (.int (8388608 : Int32)), none, none, none]) rfl ?_
  refine X_aload_n rfl rfl rfl rfl ?_
  refine X_iload_n rfl rfl rfl rfl ?_
  refine X_callV (as := [.int (8388608 : Int32)]) (st := []) rfl rfl rfl (by decide) rfl (Nat.le_of_ble_eq_true rfl) (by decide) (Nat.le_of_ble_eq_true rfl) rfl ((congrFun F.1 2).trans s_2) (by decide) ?_
  refine LW_ls (ls' := [some (.ref 2), some (.int (8388608 : Int32)), none, none]) rfl ?_
  refine X_iconst (v := (0 : Int32)) rfl rfl rfl ?_
  refine X_istore_n (i := 2) (ls' := [some (.ref 2), some (.int (8388608 : Int32)), some (.int (0 : Int32)), none]) rfl rfl rfl (Nat.le_of_ble_eq_true rfl) rfl ?_
  refine X_iconst (v := (0 : Int32)) rfl rfl rfl ?_
  refine X_istore_n (i := 3) (ls' := [some (.ref 2), some (.int (8388608 : Int32)), some (.int (0 : Int32)), some (.int (0 : Int32))]) rfl rfl rfl (Nat.le_of_ble_eq_true rfl) rfl ?_
  refine X_iload_n rfl rfl rfl rfl ?_
  refine X_aload_n rfl rfl rfl rfl ?_
  refine X_getI (v := (0 : Int32)) rfl rfl rfl ((congrFun F.1 2).trans s_2) rfl ((congrFun (F.2.2 2 (by decide)).1 0).trans i_2_0) ?_
  refine X_icmp_ge (tgt := 40) rfl rfl rfl (fun _ => ?_) (fun q => absurd q (by decide))
  refine X_iload_n rfl rfl rfl rfl ?_
  refine LW_ireturn (st := []) rfl rfl rfl ?_
  refine X_istore_n (i := 2) (ls' := [some (.ref 2), some (.int (8388608 : Int32)), some (.int (0 : Int32)), none, none]) rfl rfl rfl (Nat.le_of_ble_eq_true rfl) rfl ?_
  refine X_iconst (v := (0 : Int32)) rfl rfl rfl ?_
  refine X_istore_n (i := 3) (ls' := [some (.ref 2), some (.int (8388608 : Int32)), some (.int (0 : Int32)), some (.int (0 : Int32)), none]) rfl rfl rfl (Nat.le_of_ble_eq_true rfl) rfl ?_
  refine X_iconst (v := (0 : Int32)) rfl rfl rfl ?_
  refine X_istore (i := 4) (ls' := [some (.ref 2), some (.int (8388608 : Int32)), some (.int (0 : Int32)), some (.int (0 : Int32)), some (.int (0 : Int32))]) rfl rfl (Nat.le_of_ble_eq_true rfl) rfl ?_
  refine X_iload rfl rfl rfl ?_
  refine X_aload_n rfl rfl rfl rfl ?_
  refine X_getI (v := (0 : Int32)) rfl rfl rfl ((congrFun F.1 2).trans s_2) rfl ((congrFun (F.2.2 2 (by decide)).1 1).trans i_2_1) ?_
  refine X_icmp_ge (tgt := 48) rfl rfl rfl (fun _ => ?_) (fun q => absurd q (by decide))
  refine X_iload_n rfl rfl rfl rfl ?_
  refine LW_ireturn (st := []) rfl rfl rfl ?_
  refine X_istore (i := 5) (ls' := [some (.ref 0), some (.int (0 : Int32)), some (.int (0 : Int32)), some (.int (0 : Int32)), some (.int (23 : Int32)), some (.int (0 : Int32))]) rfl rfl (Nat.le_of_ble_eq_true rfl) rfl ?_
  refine X_iload rfl rfl rfl ?_
  refine X_iload_n rfl rfl rfl rfl ?_
  refine X_icmp_le (tgt := 42) rfl rfl rfl (fun _ => ?_) (fun q => absurd q (by decide))
  refine X_iinc (v := (24 : Int32)) (ls' := [some (.ref 0), some (.int (0 : Int32)), some (.int (0 : Int32)), some (.int (0 : Int32)), some (.int (24 : Int32)), some (.int (0 : Int32))]) rfl rfl rfl rfl rfl ?_
  refine LW_goto (tgt := 7) rfl rfl ?_
  refine X_iload rfl rfl rfl ?_
  refine X_bipush (v := (26 : Int32)) rfl rfl rfl ?_
  refine X_icmp_ge (tgt := 48) rfl rfl rfl (fun q => absurd q (by decide)) (fun _ => ?_)
  refine X_aload_n rfl rfl rfl rfl ?_
  refine X_getR (a := 1) rfl rfl rfl ((congrFun F.1 0).trans s_0) rfl ((congrFun (F.2.1 0 (by decide)) 0).trans r_0_0) ?_
  refine X_getR (a := 2) rfl rfl rfl ((congrFun F.1 1).trans s_1) rfl ((congrFun (F.2.1 1 (by decide)) 0).trans r_1_0) ?_
  refine X_iconst (v := (1 : Int32)) rfl rfl rfl ?_
  refine X_iload rfl rfl rfl ?_
  refine X_ishl (v := (16777216 : Int32)) rfl rfl rfl ?_
  refine X_callV (as := [.int (16777216 : Int32)]) (st := []) rfl rfl rfl (by decide) rfl (Nat.le_of_ble_eq_true rfl) (by decide) (Nat.le_of_ble_eq_true rfl) rfl ((congrFun F.1 2).trans s_2) (by decide) ?_
  refine LW_ls (ls' := [some (.ref 2), some (.int (16777216 : Int32)), none, none, none]) rfl ?_
  refine X_aload_n rfl rfl rfl rfl ?_
  refine X_iload_n rfl rfl rfl rfl ?_
  refine X_callV (as := [.int (16777216 : Int32)]) (st := []) rfl rfl rfl (by decide) rfl (Nat.le_of_ble_eq_true rfl) (by decide) (Nat.le_of_ble_eq_true rfl) rfl ((congrFun F.1 2).trans s_2) (by decide) ?_
  refine LW_ls (ls' := [some (.ref 2), some (.int (16777216 : Int32)), none, none]) rfl ?_
  refine X_iconst (v := (0 : Int32)) rfl rfl rfl ?_
  refine X_istore_n (i := 2) (ls' := [some (.ref 2), some (.int (16777216 : Int32)), some (.int (0 : Int32)), none]) rfl rfl rfl (Nat.le_of_ble_eq_true rfl) rfl ?_
  refine X_iconst (v := (0 : Int32)) rfl rfl rfl ?_
  refine X_istore_n (i := 3) (ls' := [some (.ref 2), some (.int (16777216 : Int32)), some (.int (0 : Int32)), some (.int (0 : Int32))]) rfl rfl rfl (Nat.le_of_ble_eq_true rfl) rfl ?_
  refine X_iload_n rfl rfl rfl rfl ?_
  refine X_aload_n rfl rfl rfl rfl ?_
  refine X_getI (v := (0 : Int32)) rfl rfl rfl ((congrFun F.1 2).trans s_2) rfl ((congrFun (F.2.2 2 (by decide)).1 0).trans i_2_0) ?_
  refine X_icmp_ge (tgt := 40) rfl rfl rfl (fun _ => ?_) (fun q => absurd q (by decide))
  refine X_iload_n rfl rfl rfl rfl ?_
  refine LW_ireturn (st := []) rfl rfl rfl ?_
  refine X_istore_n (i := 2) (ls' := [some (.ref 2), some (.int (16777216 : Int32)), some (.int (0 : Int32)), none, none]) rfl rfl rfl (Nat.le_of_ble_eq_true rfl) rfl ?_
  refine X_iconst (v := (0 : Int32)) rfl rfl rfl ?_
  refine X_istore_n (i := 3) (ls' := [some (.ref 2), some (.int (16777216 : Int32)), some (.int (0 : Int32)), some (.int (0 : Int32)), none]) rfl rfl rfl (Nat.le_of_ble_eq_true rfl) rfl ?_
  refine X_iconst (v := (0 : Int32)) rfl rfl rfl ?_
  refine X_istore (i := 4) (ls' := [some (.ref 2), some (.int (16777216 : Int32)), some (.int (0 : Int32)), some (.int (0 : Int32)), some (.int (0 : Int32))]) rfl rfl (Nat.le_of_ble_eq_true rfl) rfl ?_
  refine X_iload rfl rfl rfl ?_
  refine X_aload_n rfl rfl rfl rfl ?_
  refine X_getI (v := (0 : Int32)) rfl rfl rfl ((congrFun F.1 2).trans s_2) rfl ((congrFun (F.2.2 2 (by decide)).1 1).trans i_2_1) ?_
  refine X_icmp_ge (tgt := 48) rfl rfl rfl (fun _ => ?_) (fun q => absurd q (by decide))
  refine X_iload_n rfl rfl rfl rfl ?_
  refine LW_ireturn (st := []) rfl rfl rfl ?_
  refine X_istore (i := 5) (ls' := [some (.ref 0), some (.int (0 : Int32)), some (.int (0 : Int32)), some (.int (0 : Int32)), some (.int (24 : Int32)), some (.int (0 : Int32))]) rfl rfl (Nat.le_of_ble_eq_true rfl) rfl ?_
  refine X_iload rfl rfl rfl ?_
  refine X_iload_n rfl rfl rfl rfl ?_
  refine X_icmp_le (tgt := 42) rfl rfl rfl (fun _ => ?_) (fun q => absurd q (by decide))
  refine X_iinc (v := (25 : Int32)) (ls' := [some (.ref 0), some (.int (0 : Int32)), some (.int (0 : Int32)), some (.int (0 : Int32)), some (.int (25 : Int32)), some (.int (0 : Int32))]) rfl rfl rfl rfl rfl ?_
  refine LW_goto (tgt := 7) rfl rfl ?_
  refine X_iload rfl rfl rfl ?_
  refine X_bipush (v := (26 : Int32)) rfl rfl rfl ?_
  refine X_icmp_ge (tgt := 48) rfl rfl rfl (fun q => absurd q (by decide)) (fun _ => ?_)
  refine X_aload_n rfl rfl rfl rfl ?_
  refine X_getR (a := 1) rfl rfl rfl ((congrFun F.1 0).trans s_0) rfl ((congrFun (F.2.1 0 (by decide)) 0).trans r_0_0) ?_
  refine X_getR (a := 2) rfl rfl rfl ((congrFun F.1 1).trans s_1) rfl ((congrFun (F.2.1 1 (by decide)) 0).trans r_1_0) ?_
  refine X_iconst (v := (1 : Int32)) rfl rfl rfl ?_
  refine X_iload rfl rfl rfl ?_
  refine X_ishl (v := (33554432 : Int32)) rfl rfl rfl ?_
  refine X_callV (as := [.int (33554432 : Int32)]) (st := []) rfl rfl rfl (by decide) rfl (Nat.le_of_ble_eq_true rfl) (by decide) (Nat.le_of_ble_eq_true rfl) rfl ((congrFun F.1 2).trans s_2) (by decide) ?_
  refine LW_ls (ls' := [some (.ref 2), some (.int (33554432 : Int32)), none, none, none]) rfl ?_
  refine X_aload_n rfl rfl rfl rfl ?_
  refine X_iload_n rfl rfl rfl rfl ?_
  refine X_callV (as := [.int (33554432 : Int32)]) (st := []) rfl rfl rfl (by decide) rfl (Nat.le_of_ble_eq_true rfl) (by decide) (Nat.le_of_ble_eq_true rfl) rfl ((congrFun F.1 2).trans s_2) (by decide) ?_
  refine LW_ls (ls' := [some (.ref 2), some (.int (33554432 : Int32)), none, none]) rfl ?_
  refine X_iconst (v := (0 : Int32)) rfl rfl rfl ?_
  refine X_istore_n (i := 2) (ls' := [some (.ref 2), some (.int (33554432 : Int32)), some (.int (0 : Int32)), none]) rfl rfl rfl (Nat.le_of_ble_eq_true rfl) rfl ?_
  refine X_iconst (v := (0 : Int32)) rfl rfl rfl ?_
  refine X_istore_n (i := 3) (ls' := [some (.ref 2), some (.int (33554432 : Int32)), some (.int (0 : Int32)), some (.int (0 : Int32))]) rfl rfl rfl (Nat.le_of_ble_eq_true rfl) rfl ?_
  refine X_iload_n rfl rfl rfl rfl ?_
  refine X_aload_n rfl rfl rfl rfl ?_
  refine X_getI (v := (0 : Int32)) rfl rfl rfl ((congrFun F.1 2).trans s_2) rfl ((congrFun (F.2.2 2 (by decide)).1 0).trans i_2_0) ?_
  refine X_icmp_ge (tgt := 40) rfl rfl rfl (fun _ => ?_) (fun q => absurd q (by decide))
  refine X_iload_n rfl rfl rfl rfl ?_
  refine LW_ireturn (st := []) rfl rfl rfl ?_
  refine X_istore_n (i := 2) (ls' := [some (.ref 2), some (.int (33554432 : Int32)), some (.int (0 : Int32)), none, none]) rfl rfl rfl (Nat.le_of_ble_eq_true rfl) rfl ?_
  refine X_iconst (v := (0 : Int32)) rfl rfl rfl ?_
  refine X_istore_n (i := 3) (ls' := [some (.ref 2), some (.int (33554432 : Int32)), some (.int (0 : Int32)), some (.int (0 : Int32)), none]) rfl rfl rfl (Nat.le_of_ble_eq_true rfl) rfl ?_
  refine X_iconst (v := (0 : Int32)) rfl rfl rfl ?_
  refine X_istore (i := 4) (ls' := [some (.ref 2), some (.int (33554432 : Int32)), some (.int (0 : Int32)), some (.int (0 : Int32)), some (.int (0 : Int32))]) rfl rfl (Nat.le_of_ble_eq_true rfl) rfl ?_
  refine X_iload rfl rfl rfl ?_
  refine X_aload_n rfl rfl rfl rfl ?_
  refine X_getI (v := (0 : Int32)) rfl rfl rfl ((congrFun F.1 2).trans s_2) rfl ((congrFun (F.2.2 2 (by decide)).1 1).trans i_2_1) ?_
  refine X_icmp_ge (tgt := 48) rfl rfl rfl (fun _ => ?_) (fun q => absurd q (by decide))
  refine X_iload_n rfl rfl rfl rfl ?_
  refine LW_ireturn (st := []) rfl rfl rfl ?_
  refine X_istore (i := 5) (ls' := [some (.ref 0), some (.int (0 : Int32)), some (.int (0 : Int32)), some (.int (0 : Int32)), some (.int (25 : Int32)), some (.int (0 : Int32))]) rfl rfl (Nat.le_of_ble_eq_true rfl) rfl ?_
  refine X_iload rfl rfl rfl ?_
  refine X_iload_n rfl rfl rfl rfl ?_
  refine X_icmp_le (tgt := 42) rfl rfl rfl (fun _ => ?_) (fun q => absurd q (by decide))
  refine X_iinc (v := (26 : Int32)) (ls' := [some (.ref 0), some (.int (0 : Int32)), some (.int (0 : Int32)), some (.int (0 : Int32)), some (.int (26 : Int32)), some (.int (0 : Int32))]) rfl rfl rfl rfl rfl ?_
  refine LW_goto (tgt := 7) rfl rfl ?_
  refine X_iload rfl rfl rfl ?_
  refine X_bipush (v := (26 : Int32)) rfl rfl rfl ?_
  refine X_icmp_ge (tgt := 48) rfl rfl rfl (fun _ => ?_) (fun q => absurd q (by decide))
  refine X_iload_n rfl rfl rfl rfl ?_
  refine X_if_eq (tgt := 56) rfl rfl rfl (fun _ => ?_) (fun q => absurd q (by decide))
  refine X_iload_n rfl rfl rfl rfl ?_
  refine LW_ireturn (st := []) rfl rfl rfl ⟨congrArg (fun z => some (Value.int z)) ?_, E⟩
  unfold f_spared0
  repeat' split
  all_goals first | rfl | (exfalso; omega) | (refine Int32.toInt_inj.mp ?_; rw [show (0 : Int32).toInt = 0 from rfl]; omega)
set_option maxRecDepth 10000 in
set_option maxHeartbeats 4000000 in
theorem r_spared0 {g : LH} (F : Fr g) : LW 283 30 0 0 0 (lEnt (mL 283) [.ref 355, .int (0 : Int32)]) [] g (fun v _ => v = some (.int (f_spared0))) := by
  refine LW_ls (ls' := [some (.ref 355), some (.int (0 : Int32)), none, none]) rfl ?_
  refine X_iconst (v := (0 : Int32)) rfl rfl rfl ?_
  refine X_istore_n (i := 2) (ls' := [some (.ref 355), some (.int (0 : Int32)), some (.int (0 : Int32)), none]) rfl rfl rfl (Nat.le_of_ble_eq_true rfl) rfl ?_
  refine X_iconst (v := (1 : Int32)) rfl rfl rfl ?_
  refine X_istore_n (i := 3) (ls' := [some (.ref 355), some (.int (0 : Int32)), some (.int (0 : Int32)), some (.int (1 : Int32))]) rfl rfl rfl (Nat.le_of_ble_eq_true rfl) rfl ?_
  refine X_iload_n rfl rfl rfl rfl ?_
  refine X_bipush (v := (26 : Int32)) rfl rfl rfl ?_
  refine X_icmp_ge (tgt := 35) rfl rfl rfl (fun q => absurd q (by decide)) (fun _ => ?_)
  refine X_aload_n rfl rfl rfl rfl ?_
  refine X_iconst (v := (1 : Int32)) rfl rfl rfl ?_
  refine X_iload_n rfl rfl rfl rfl ?_
  refine X_ishl (v := (2 : Int32)) rfl rfl rfl ?_
  refine X_callV (as := [.int (2 : Int32)]) (st := []) rfl rfl rfl (by decide) rfl (Nat.le_of_ble_eq_true rfl) (by decide) (Nat.le_of_ble_eq_true rfl) rfl ((congrFun F.1 355).trans s_355) (by decide) ?_
  refine LW_ls (ls' := [some (.ref 355), some (.int (2 : Int32)), none, none]) rfl ?_
  refine X_iconst (v := (0 : Int32)) rfl rfl rfl ?_
  refine X_istore_n (i := 2) (ls' := [some (.ref 355), some (.int (2 : Int32)), some (.int (0 : Int32)), none]) rfl rfl rfl (Nat.le_of_ble_eq_true rfl) rfl ?_
  refine X_iconst (v := (0 : Int32)) rfl rfl rfl ?_
  refine X_istore_n (i := 3) (ls' := [some (.ref 355), some (.int (2 : Int32)), some (.int (0 : Int32)), some (.int (0 : Int32))]) rfl rfl rfl (Nat.le_of_ble_eq_true rfl) rfl ?_
  refine X_iload_n rfl rfl rfl rfl ?_
  refine X_aload_n rfl rfl rfl rfl ?_
  refine X_getR (a := 356) rfl rfl rfl ((congrFun F.1 355).trans s_355) rfl ((congrFun (F.2.1 355 (by decide)) 0).trans r_355_0) ?_
  refine X_iconst (v := (1 : Int32)) rfl rfl rfl ?_
  refine X_iald (v := (0 : Int32)) rfl rfl ((congrFun F.1 356).trans s_356) (vp_in_d rfl) ((congrFun (F.2.2 356 (by decide)).1 1).trans i_356_1) ?_
  refine X_icmp_ge (tgt := 38) rfl rfl rfl (fun _ => ?_) (fun q => absurd q (by decide))
  refine X_iload_n rfl rfl rfl rfl ?_
  refine LW_ireturn (st := []) rfl rfl rfl ?_
  refine X_aload_n rfl rfl rfl rfl ?_
  refine X_iconst (v := (1 : Int32)) rfl rfl rfl ?_
  refine X_iload_n rfl rfl rfl rfl ?_
  refine X_ishl (v := (1 : Int32)) rfl rfl rfl ?_
  refine X_callV (as := [.int (1 : Int32)]) (st := [.int (0 : Int32)]) rfl rfl rfl (by decide) rfl (Nat.le_of_ble_eq_true rfl) (by decide) (Nat.le_of_ble_eq_true rfl) rfl ((congrFun F.1 355).trans s_355) (by decide) ?_
  refine LW_ls (ls' := [some (.ref 355), some (.int (1 : Int32)), none, none]) rfl ?_
  refine X_iconst (v := (0 : Int32)) rfl rfl rfl ?_
  refine X_istore_n (i := 2) (ls' := [some (.ref 355), some (.int (1 : Int32)), some (.int (0 : Int32)), none]) rfl rfl rfl (Nat.le_of_ble_eq_true rfl) rfl ?_
  refine X_iconst (v := (0 : Int32)) rfl rfl rfl ?_
  refine X_istore_n (i := 3) (ls' := [some (.ref 355), some (.int (1 : Int32)), some (.int (0 : Int32)), some (.int (0 : Int32))]) rfl rfl rfl (Nat.le_of_ble_eq_true rfl) rfl ?_
  refine X_iload_n rfl rfl rfl rfl ?_
  refine X_aload_n rfl rfl rfl rfl ?_
  refine X_getR (a := 356) rfl rfl rfl ((congrFun F.1 355).trans s_355) rfl ((congrFun (F.2.1 355 (by decide)) 0).trans r_355_0) ?_
  refine X_iconst (v := (1 : Int32)) rfl rfl rfl ?_
  refine X_iald (v := (0 : Int32)) rfl rfl ((congrFun F.1 356).trans s_356) (vp_in_d rfl) ((congrFun (F.2.2 356 (by decide)).1 1).trans i_356_1) ?_
  refine X_icmp_ge (tgt := 38) rfl rfl rfl (fun _ => ?_) (fun q => absurd q (by decide))
  refine X_iload_n rfl rfl rfl rfl ?_
  refine LW_ireturn (st := []) rfl rfl rfl ?_
  refine X_icmp_le (tgt := 29) rfl rfl rfl (fun _ => ?_) (fun q => absurd q (by decide))
  refine X_iinc (v := (2 : Int32)) (ls' := [some (.ref 355), some (.int (0 : Int32)), some (.int (0 : Int32)), some (.int (2 : Int32))]) rfl rfl rfl rfl rfl ?_
  refine LW_goto (tgt := 4) rfl rfl ?_
  refine X_iload_n rfl rfl rfl rfl ?_
  refine X_bipush (v := (26 : Int32)) rfl rfl rfl ?_
  refine X_icmp_ge (tgt := 35) rfl rfl rfl (fun q => absurd q (by decide)) (fun _ => ?_)
  refine X_aload_n rfl rfl rfl rfl ?_
  refine X_iconst (v := (1 : Int32)) rfl rfl rfl ?_
  refine X_iload_n rfl rfl rfl rfl ?_
  refine X_ishl (v := (4 : Int32)) rfl rfl rfl ?_
  refine X_callV (as := [.int (4 : Int32)]) (st := []) rfl rfl rfl (by decide) rfl (Nat.le_of_ble_eq_true rfl) (by decide) (Nat.le_of_ble_eq_true rfl) rfl ((congrFun F.1 355).trans s_355) (by decide) ?_
  refine LW_ls (ls' := [some (.ref 355), some (.int (4 : Int32)), none, none]) rfl ?_
  refine X_iconst (v := (0 : Int32)) rfl rfl rfl ?_
  refine X_istore_n (i := 2) (ls' := [some (.ref 355), some (.int (4 : Int32)), some (.int (0 : Int32)), none]) rfl rfl rfl (Nat.le_of_ble_eq_true rfl) rfl ?_
  refine X_iconst (v := (0 : Int32)) rfl rfl rfl ?_
  refine X_istore_n (i := 3) (ls' := [some (.ref 355), some (.int (4 : Int32)), some (.int (0 : Int32)), some (.int (0 : Int32))]) rfl rfl rfl (Nat.le_of_ble_eq_true rfl) rfl ?_
  refine X_iload_n rfl rfl rfl rfl ?_
  refine X_aload_n rfl rfl rfl rfl ?_
  refine X_getR (a := 356) rfl rfl rfl ((congrFun F.1 355).trans s_355) rfl ((congrFun (F.2.1 355 (by decide)) 0).trans r_355_0) ?_
  refine X_iconst (v := (1 : Int32)) rfl rfl rfl ?_
  refine X_iald (v := (0 : Int32)) rfl rfl ((congrFun F.1 356).trans s_356) (vp_in_d rfl) ((congrFun (F.2.2 356 (by decide)).1 1).trans i_356_1) ?_
  refine X_icmp_ge (tgt := 38) rfl rfl rfl (fun _ => ?_) (fun q => absurd q (by decide))
  refine X_iload_n rfl rfl rfl rfl ?_
  refine LW_ireturn (st := []) rfl rfl rfl ?_
  refine X_aload_n rfl rfl rfl rfl ?_
  refine X_iconst (v := (1 : Int32)) rfl rfl rfl ?_
  refine X_iload_n rfl rfl rfl rfl ?_
  refine X_ishl (v := (1 : Int32)) rfl rfl rfl ?_
  refine X_callV (as := [.int (1 : Int32)]) (st := [.int (0 : Int32)]) rfl rfl rfl (by decide) rfl (Nat.le_of_ble_eq_true rfl) (by decide) (Nat.le_of_ble_eq_true rfl) rfl ((congrFun F.1 355).trans s_355) (by decide) ?_
  refine LW_ls (ls' := [some (.ref 355), some (.int (1 : Int32)), none, none]) rfl ?_
  refine X_iconst (v := (0 : Int32)) rfl rfl rfl ?_
  refine X_istore_n (i := 2) (ls' := [some (.ref 355), some (.int (1 : Int32)), some (.int (0 : Int32)), none]) rfl rfl rfl (Nat.le_of_ble_eq_true rfl) rfl ?_
  refine X_iconst (v := (0 : Int32)) rfl rfl rfl ?_
  refine X_istore_n (i := 3) (ls' := [some (.ref 355), some (.int (1 : Int32)), some (.int (0 : Int32)), some (.int (0 : Int32))]) rfl rfl rfl (Nat.le_of_ble_eq_true rfl) rfl ?_
  refine X_iload_n rfl rfl rfl rfl ?_
  refine X_aload_n rfl rfl rfl rfl ?_
  refine X_getR (a := 356) rfl rfl rfl ((congrFun F.1 355).trans s_355) rfl ((congrFun (F.2.1 355 (by decide)) 0).trans r_355_0) ?_
  refine X_iconst (v := (1 : Int32)) rfl rfl rfl ?_
  refine X_iald (v := (0 : Int32)) rfl rfl ((congrFun F.1 356).trans s_356) (vp_in_d rfl) ((congrFun (F.2.2 356 (by decide)).1 1).trans i_356_1) ?_
  refine X_icmp_ge (tgt := 38) rfl rfl rfl (fun _ => ?_) (fun q => absurd q (by decide))
  refine X_iload_n rfl rfl rfl rfl ?_
  refine LW_ireturn (st := []) rfl rfl rfl ?_
  refine X_icmp_le (tgt := 29) rfl rfl rfl (fun _ => ?_) (fun q => absurd q (by decide))
  refine X_iinc (v := (3 : Int32)) (ls' := [some (.ref 355), some (.int (0 : Int32)), some (.int (0 : Int32)), some (.int (3 : Int32))]) rfl rfl rfl rfl rfl ?_
  refine LW_goto (tgt := 4) rfl rfl ?_
  refine X_iload_n rfl rfl rfl rfl ?_
  refine X_bipush (v := (26 : Int32)) rfl rfl rfl ?_
  refine X_icmp_ge (tgt := 35) rfl rfl rfl (fun q => absurd q (by decide)) (fun _ => ?_)
  refine X_aload_n rfl rfl rfl rfl ?_
  refine X_iconst (v := (1 : Int32)) rfl rfl rfl ?_
  refine X_iload_n rfl rfl rfl rfl ?_
  refine X_ishl (v := (8 : Int32)) rfl rfl rfl ?_
  refine X_callV (as := [.int (8 : Int32)]) (st := []) rfl rfl rfl (by decide) rfl (Nat.le_of_ble_eq_true rfl) (by decide) (Nat.le_of_ble_eq_true rfl) rfl ((congrFun F.1 355).trans s_355) (by decide) ?_
  refine LW_ls (ls' := [some (.ref 355), some (.int (8 : Int32)), none, none]) rfl ?_
  refine X_iconst (v := (0 : Int32)) rfl rfl rfl ?_
  refine X_istore_n (i := 2) (ls' := [some (.ref 355), some (.int (8 : Int32)), some (.int (0 : Int32)), none]) rfl rfl rfl (Nat.le_of_ble_eq_true rfl) rfl ?_
  refine X_iconst (v := (0 : Int32)) rfl rfl rfl ?_
  refine X_istore_n (i := 3) (ls' := [some (.ref 355), some (.int (8 : Int32)), some (.int (0 : Int32)), some (.int (0 : Int32))]) rfl rfl rfl (Nat.le_of_ble_eq_true rfl) rfl ?_
  refine X_iload_n rfl rfl rfl rfl ?_
  refine X_aload_n rfl rfl rfl rfl ?_
  refine X_getR (a := 356) rfl rfl rfl ((congrFun F.1 355).trans s_355) rfl ((congrFun (F.2.1 355 (by decide)) 0).trans r_355_0) ?_
  refine X_iconst (v := (1 : Int32)) rfl rfl rfl ?_
  refine X_iald (v := (0 : Int32)) rfl rfl ((congrFun F.1 356).trans s_356) (vp_in_d rfl) ((congrFun (F.2.2 356 (by decide)).1 1).trans i_356_1) ?_
  refine X_icmp_ge (tgt := 38) rfl rfl rfl (fun _ => ?_) (fun q => absurd q (by decide))
  refine X_iload_n rfl rfl rfl rfl ?_
  refine LW_ireturn (st := []) rfl rfl rfl ?_
  refine X_aload_n rfl rfl rfl rfl ?_
  refine X_iconst (v := (1 : Int32)) rfl rfl rfl ?_
  refine X_iload_n rfl rfl rfl rfl ?_
  refine X_ishl (v := (1 : Int32)) rfl rfl rfl ?_
  refine X_callV (as := [.int (1 : Int32)]) (st := [.int (0 : Int32)]) rfl rfl rfl (by decide) rfl (Nat.le_of_ble_eq_true rfl) (by decide) (Nat.le_of_ble_eq_true rfl) rfl ((congrFun F.1 355).trans s_355) (by decide) ?_
  refine LW_ls (ls' := [some (.ref 355), some (.int (1 : Int32)), none, none]) rfl ?_
  refine X_iconst (v := (0 : Int32)) rfl rfl rfl ?_
  refine X_istore_n (i := 2) (ls' := [some (.ref 355), some (.int (1 : Int32)), some (.int (0 : Int32)), none]) rfl rfl rfl (Nat.le_of_ble_eq_true rfl) rfl ?_
  refine X_iconst (v := (0 : Int32)) rfl rfl rfl ?_
  refine X_istore_n (i := 3) (ls' := [some (.ref 355), some (.int (1 : Int32)), some (.int (0 : Int32)), some (.int (0 : Int32))]) rfl rfl rfl (Nat.le_of_ble_eq_true rfl) rfl ?_
  refine X_iload_n rfl rfl rfl rfl ?_
  refine X_aload_n rfl rfl rfl rfl ?_
  refine X_getR (a := 356) rfl rfl rfl ((congrFun F.1 355).trans s_355) rfl ((congrFun (F.2.1 355 (by decide)) 0).trans r_355_0) ?_
  refine X_iconst (v := (1 : Int32)) rfl rfl rfl ?_
  refine X_iald (v := (0 : Int32)) rfl rfl ((congrFun F.1 356).trans s_356) (vp_in_d rfl) ((congrFun (F.2.2 356 (by decide)).1 1).trans i_356_1) ?_
  refine X_icmp_ge (tgt := 38) rfl rfl rfl (fun _ => ?_) (fun q => absurd q (by decide))
  refine X_iload_n rfl rfl rfl rfl ?_
  refine LW_ireturn (st := []) rfl rfl rfl ?_
  refine X_icmp_le (tgt := 29) rfl rfl rfl (fun _ => ?_) (fun q => absurd q (by decide))
  refine X_iinc (v := (4 : Int32)) (ls' := [some (.ref 355), some (.int (0 : Int32)), some (.int (0 : Int32)), some (.int (4 : Int32))]) rfl rfl rfl rfl rfl ?_
  refine LW_goto (tgt := 4) rfl rfl ?_
  refine X_iload_n rfl rfl rfl rfl ?_
  refine X_bipush (v := (26 : Int32)) rfl rfl rfl ?_
  refine X_icmp_ge (tgt := 35) rfl rfl rfl (fun q => absurd q (by decide)) (fun _ => ?_)
  refine X_aload_n rfl rfl rfl rfl ?_
  refine X_iconst (v := (1 : Int32)) rfl rfl rfl ?_
  refine X_iload_n rfl rfl rfl rfl ?_
  refine X_ishl (v := (16 : Int32)) rfl rfl rfl ?_
  refine X_callV (as := [.int (16 : Int32)]) (st := []) rfl rfl rfl (by decide) rfl (Nat.le_of_ble_eq_true rfl) (by decide) (Nat.le_of_ble_eq_true rfl) rfl ((congrFun F.1 355).trans s_355) (by decide) ?_
  refine LW_ls (ls' := [some (.ref 355), some (.int (16 : Int32)), none, none]) rfl ?_
  refine X_iconst (v := (0 : Int32)) rfl rfl rfl ?_
  refine X_istore_n (i := 2) (ls' := [some (.ref 355), some (.int (16 : Int32)), some (.int (0 : Int32)), none]) rfl rfl rfl (Nat.le_of_ble_eq_true rfl) rfl ?_
  refine X_iconst (v := (0 : Int32)) rfl rfl rfl ?_
  refine X_istore_n (i := 3) (ls' := [some (.ref 355), some (.int (16 : Int32)), some (.int (0 : Int32)), some (.int (0 : Int32))]) rfl rfl rfl (Nat.le_of_ble_eq_true rfl) rfl ?_
  refine X_iload_n rfl rfl rfl rfl ?_
  refine X_aload_n rfl rfl rfl rfl ?_
  refine X_getR (a := 356) rfl rfl rfl ((congrFun F.1 355).trans s_355) rfl ((congrFun (F.2.1 355 (by decide)) 0).trans r_355_0) ?_
  refine X_iconst (v := (1 : Int32)) rfl rfl rfl ?_
  refine X_iald (v := (0 : Int32)) rfl rfl ((congrFun F.1 356).trans s_356) (vp_in_d rfl) ((congrFun (F.2.2 356 (by decide)).1 1).trans i_356_1) ?_
  refine X_icmp_ge (tgt := 38) rfl rfl rfl (fun _ => ?_) (fun q => absurd q (by decide))
  refine X_iload_n rfl rfl rfl rfl ?_
  refine LW_ireturn (st := []) rfl rfl rfl ?_
  refine X_aload_n rfl rfl rfl rfl ?_
  refine X_iconst (v := (1 : Int32)) rfl rfl rfl ?_
  refine X_iload_n rfl rfl rfl rfl ?_
  refine X_ishl (v := (1 : Int32)) rfl rfl rfl ?_
  refine X_callV (as := [.int (1 : Int32)]) (st := [.int (0 : Int32)]) rfl rfl rfl (by decide) rfl (Nat.le_of_ble_eq_true rfl) (by decide) (Nat.le_of_ble_eq_true rfl) rfl ((congrFun F.1 355).trans s_355) (by decide) ?_
  refine LW_ls (ls' := [some (.ref 355), some (.int (1 : Int32)), none, none]) rfl ?_
  refine X_iconst (v := (0 : Int32)) rfl rfl rfl ?_
  refine X_istore_n (i := 2) (ls' := [some (.ref 355), some (.int (1 : Int32)), some (.int (0 : Int32)), none]) rfl rfl rfl (Nat.le_of_ble_eq_true rfl) rfl ?_
  refine X_iconst (v := (0 : Int32)) rfl rfl rfl ?_
  refine X_istore_n (i := 3) (ls' := [some (.ref 355), some (.int (1 : Int32)), some (.int (0 : Int32)), some (.int (0 : Int32))]) rfl rfl rfl (Nat.le_of_ble_eq_true rfl) rfl ?_
  refine X_iload_n rfl rfl rfl rfl ?_
  refine X_aload_n rfl rfl rfl rfl ?_
  refine X_getR (a := 356) rfl rfl rfl ((congrFun F.1 355).trans s_355) rfl ((congrFun (F.2.1 355 (by decide)) 0).trans r_355_0) ?_
  refine X_iconst (v := (1 : Int32)) rfl rfl rfl ?_
  refine X_iald (v := (0 : Int32)) rfl rfl ((congrFun F.1 356).trans s_356) (vp_in_d rfl) ((congrFun (F.2.2 356 (by decide)).1 1).trans i_356_1) ?_
  refine X_icmp_ge (tgt := 38) rfl rfl rfl (fun _ => ?_) (fun q => absurd q (by decide))
  refine X_iload_n rfl rfl rfl rfl ?_
  refine LW_ireturn (st := []) rfl rfl rfl ?_
  refine X_icmp_le (tgt := 29) rfl rfl rfl (fun _ => ?_) (fun q => absurd q (by decide))
  refine X_iinc (v := (5 : Int32)) (ls' := [some (.ref 355), some (.int (0 : Int32)), some (.int (0 : Int32)), some (.int (5 : Int32))]) rfl rfl rfl rfl rfl ?_
  refine LW_goto (tgt := 4) rfl rfl ?_
  refine X_iload_n rfl rfl rfl rfl ?_
  refine X_bipush (v := (26 : Int32)) rfl rfl rfl ?_
  refine X_icmp_ge (tgt := 35) rfl rfl rfl (fun q => absurd q (by decide)) (fun _ => ?_)
  refine X_aload_n rfl rfl rfl rfl ?_
  refine X_iconst (v := (1 : Int32)) rfl rfl rfl ?_
  refine X_iload_n rfl rfl rfl rfl ?_
  refine X_ishl (v := (32 : Int32)) rfl rfl rfl ?_
  refine X_callV (as := [.int (32 : Int32)]) (st := []) rfl rfl rfl (by decide) rfl (Nat.le_of_ble_eq_true rfl) (by decide) (Nat.le_of_ble_eq_true rfl) rfl ((congrFun F.1 355).trans s_355) (by decide) ?_
  refine LW_ls (ls' := [some (.ref 355), some (.int (32 : Int32)), none, none]) rfl ?_
  refine X_iconst (v := (0 : Int32)) rfl rfl rfl ?_
  refine X_istore_n (i := 2) (ls' := [some (.ref 355), some (.int (32 : Int32)), some (.int (0 : Int32)), none]) rfl rfl rfl (Nat.le_of_ble_eq_true rfl) rfl ?_
  refine X_iconst (v := (0 : Int32)) rfl rfl rfl ?_
  refine X_istore_n (i := 3) (ls' := [some (.ref 355), some (.int (32 : Int32)), some (.int (0 : Int32)), some (.int (0 : Int32))]) rfl rfl rfl (Nat.le_of_ble_eq_true rfl) rfl ?_
  refine X_iload_n rfl rfl rfl rfl ?_
  refine X_aload_n rfl rfl rfl rfl ?_
  refine X_getR (a := 356) rfl rfl rfl ((congrFun F.1 355).trans s_355) rfl ((congrFun (F.2.1 355 (by decide)) 0).trans r_355_0) ?_
  refine X_iconst (v := (1 : Int32)) rfl rfl rfl ?_
  refine X_iald (v := (0 : Int32)) rfl rfl ((congrFun F.1 356).trans s_356) (vp_in_d rfl) ((congrFun (F.2.2 356 (by decide)).1 1).trans i_356_1) ?_
  refine X_icmp_ge (tgt := 38) rfl rfl rfl (fun _ => ?_) (fun q => absurd q (by decide))
  refine X_iload_n rfl rfl rfl rfl ?_
  refine LW_ireturn (st := []) rfl rfl rfl ?_
  refine X_aload_n rfl rfl rfl rfl ?_
  refine X_iconst (v := (1 : Int32)) rfl rfl rfl ?_
  refine X_iload_n rfl rfl rfl rfl ?_
  refine X_ishl (v := (1 : Int32)) rfl rfl rfl ?_
  refine X_callV (as := [.int (1 : Int32)]) (st := [.int (0 : Int32)]) rfl rfl rfl (by decide) rfl (Nat.le_of_ble_eq_true rfl) (by decide) (Nat.le_of_ble_eq_true rfl) rfl ((congrFun F.1 355).trans s_355) (by decide) ?_
  refine LW_ls (ls' := [some (.ref 355), some (.int (1 : Int32)), none, none]) rfl ?_
  refine X_iconst (v := (0 : Int32)) rfl rfl rfl ?_
  refine X_istore_n (i := 2) (ls' := [some (.ref 355), some (.int (1 : Int32)), some (.int (0 : Int32)), none]) rfl rfl rfl (Nat.le_of_ble_eq_true rfl) rfl ?_
  refine X_iconst (v := (0 : Int32)) rfl rfl rfl ?_
  refine X_istore_n (i := 3) (ls' := [some (.ref 355), some (.int (1 : Int32)), some (.int (0 : Int32)), some (.int (0 : Int32))]) rfl rfl rfl (Nat.le_of_ble_eq_true rfl) rfl ?_
  refine X_iload_n rfl rfl rfl rfl ?_
  refine X_aload_n rfl rfl rfl rfl ?_
  refine X_getR (a := 356) rfl rfl rfl ((congrFun F.1 355).trans s_355) rfl ((congrFun (F.2.1 355 (by decide)) 0).trans r_355_0) ?_
  refine X_iconst (v := (1 : Int32)) rfl rfl rfl ?_
  refine X_iald (v := (0 : Int32)) rfl rfl ((congrFun F.1 356).trans s_356) (vp_in_d rfl) ((congrFun (F.2.2 356 (by decide)).1 1).trans i_356_1) ?_
  refine X_icmp_ge (tgt := 38) rfl rfl rfl (fun _ => ?_) (fun q => absurd q (by decide))
  refine X_iload_n rfl rfl rfl rfl ?_
  refine LW_ireturn (st := []) rfl rfl rfl ?_
  refine X_icmp_le (tgt := 29) rfl rfl rfl (fun _ => ?_) (fun q => absurd q (by decide))
  refine X_iinc (v := (6 : Int32)) (ls' := [some (.ref 355), some (.int (0 : Int32)), some (.int (0 : Int32)), some (.int (6 : Int32))]) rfl rfl rfl rfl rfl ?_
  refine LW_goto (tgt := 4) rfl rfl ?_
  refine X_iload_n rfl rfl rfl rfl ?_
  refine X_bipush (v := (26 : Int32)) rfl rfl rfl ?_
  refine X_icmp_ge (tgt := 35) rfl rfl rfl (fun q => absurd q (by decide)) (fun _ => ?_)
  refine X_aload_n rfl rfl rfl rfl ?_
  refine X_iconst (v := (1 : Int32)) rfl rfl rfl ?_
  refine X_iload_n rfl rfl rfl rfl ?_
  refine X_ishl (v := (64 : Int32)) rfl rfl rfl ?_
  refine X_callV (as := [.int (64 : Int32)]) (st := []) rfl rfl rfl (by decide) rfl (Nat.le_of_ble_eq_true rfl) (by decide) (Nat.le_of_ble_eq_true rfl) rfl ((congrFun F.1 355).trans s_355) (by decide) ?_
  refine LW_ls (ls' := [some (.ref 355), some (.int (64 : Int32)), none, none]) rfl ?_
  refine X_iconst (v := (0 : Int32)) rfl rfl rfl ?_
  refine X_istore_n (i := 2) (ls' := [some (.ref 355), some (.int (64 : Int32)), some (.int (0 : Int32)), none]) rfl rfl rfl (Nat.le_of_ble_eq_true rfl) rfl ?_
  refine X_iconst (v := (0 : Int32)) rfl rfl rfl ?_
  refine X_istore_n (i := 3) (ls' := [some (.ref 355), some (.int (64 : Int32)), some (.int (0 : Int32)), some (.int (0 : Int32))]) rfl rfl rfl (Nat.le_of_ble_eq_true rfl) rfl ?_
  refine X_iload_n rfl rfl rfl rfl ?_
  refine X_aload_n rfl rfl rfl rfl ?_
  refine X_getR (a := 356) rfl rfl rfl ((congrFun F.1 355).trans s_355) rfl ((congrFun (F.2.1 355 (by decide)) 0).trans r_355_0) ?_
  refine X_iconst (v := (1 : Int32)) rfl rfl rfl ?_
  refine X_iald (v := (0 : Int32)) rfl rfl ((congrFun F.1 356).trans s_356) (vp_in_d rfl) ((congrFun (F.2.2 356 (by decide)).1 1).trans i_356_1) ?_
  refine X_icmp_ge (tgt := 38) rfl rfl rfl (fun _ => ?_) (fun q => absurd q (by decide))
  refine X_iload_n rfl rfl rfl rfl ?_
  refine LW_ireturn (st := []) rfl rfl rfl ?_
  refine X_aload_n rfl rfl rfl rfl ?_
  refine X_iconst (v := (1 : Int32)) rfl rfl rfl ?_
  refine X_iload_n rfl rfl rfl rfl ?_
  refine X_ishl (v := (1 : Int32)) rfl rfl rfl ?_
  refine X_callV (as := [.int (1 : Int32)]) (st := [.int (0 : Int32)]) rfl rfl rfl (by decide) rfl (Nat.le_of_ble_eq_true rfl) (by decide) (Nat.le_of_ble_eq_true rfl) rfl ((congrFun F.1 355).trans s_355) (by decide) ?_
  refine LW_ls (ls' := [some (.ref 355), some (.int (1 : Int32)), none, none]) rfl ?_
  refine X_iconst (v := (0 : Int32)) rfl rfl rfl ?_
  refine X_istore_n (i := 2) (ls' := [some (.ref 355), some (.int (1 : Int32)), some (.int (0 : Int32)), none]) rfl rfl rfl (Nat.le_of_ble_eq_true rfl) rfl ?_
  refine X_iconst (v := (0 : Int32)) rfl rfl rfl ?_
  refine X_istore_n (i := 3) (ls' := [some (.ref 355), some (.int (1 : Int32)), some (.int (0 : Int32)), some (.int (0 : Int32))]) rfl rfl rfl (Nat.le_of_ble_eq_true rfl) rfl ?_
  refine X_iload_n rfl rfl rfl rfl ?_
  refine X_aload_n rfl rfl rfl rfl ?_
  refine X_getR (a := 356) rfl rfl rfl ((congrFun F.1 355).trans s_355) rfl ((congrFun (F.2.1 355 (by decide)) 0).trans r_355_0) ?_
  refine X_iconst (v := (1 : Int32)) rfl rfl rfl ?_
  refine X_iald (v := (0 : Int32)) rfl rfl ((congrFun F.1 356).trans s_356) (vp_in_d rfl) ((congrFun (F.2.2 356 (by decide)).1 1).trans i_356_1) ?_
  refine X_icmp_ge (tgt := 38) rfl rfl rfl (fun _ => ?_) (fun q => absurd q (by decide))
  refine X_iload_n rfl rfl rfl rfl ?_
  refine LW_ireturn (st := []) rfl rfl rfl ?_
  refine X_icmp_le (tgt := 29) rfl rfl rfl (fun _ => ?_) (fun q => absurd q (by decide))
  refine X_iinc (v := (7 : Int32)) (ls' := [some (.ref 355), some (.int (0 : Int32)), some (.int (0 : Int32)), some (.int (7 : Int32))]) rfl rfl rfl rfl rfl ?_
  refine LW_goto (tgt := 4) rfl rfl ?_
  refine X_iload_n rfl rfl rfl rfl ?_
  refine X_bipush (v := (26 : Int32)) rfl rfl rfl ?_
  refine X_icmp_ge (tgt := 35) rfl rfl rfl (fun q => absurd q (by decide)) (fun _ => ?_)
  refine X_aload_n rfl rfl rfl rfl ?_
  refine X_iconst (v := (1 : Int32)) rfl rfl rfl ?_
  refine X_iload_n rfl rfl rfl rfl ?_
  refine X_ishl (v := (128 : Int32)) rfl rfl rfl ?_
  refine X_callV (as := [.int (128 : Int32)]) (st := []) rfl rfl rfl (by decide) rfl (Nat.le_of_ble_eq_true rfl) (by decide) (Nat.le_of_ble_eq_true rfl) rfl ((congrFun F.1 355).trans s_355) (by decide) ?_
  refine LW_ls (ls' := [some (.ref 355), some (.int (128 : Int32)), none, none]) rfl ?_
  refine X_iconst (v := (0 : Int32)) rfl rfl rfl ?_
  refine X_istore_n (i := 2) (ls' := [some (.ref 355), some (.int (128 : Int32)), some (.int (0 : Int32)), none]) rfl rfl rfl (Nat.le_of_ble_eq_true rfl) rfl ?_
  refine X_iconst (v := (0 : Int32)) rfl rfl rfl ?_
  refine X_istore_n (i := 3) (ls' := [some (.ref 355), some (.int (128 : Int32)), some (.int (0 : Int32)), some (.int (0 : Int32))]) rfl rfl rfl (Nat.le_of_ble_eq_true rfl) rfl ?_
  refine X_iload_n rfl rfl rfl rfl ?_
  refine X_aload_n rfl rfl rfl rfl ?_
  refine X_getR (a := 356) rfl rfl rfl ((congrFun F.1 355).trans s_355) rfl ((congrFun (F.2.1 355 (by decide)) 0).trans r_355_0) ?_
  refine X_iconst (v := (1 : Int32)) rfl rfl rfl ?_
  refine X_iald (v := (0 : Int32)) rfl rfl ((congrFun F.1 356).trans s_356) (vp_in_d rfl) ((congrFun (F.2.2 356 (by decide)).1 1).trans i_356_1) ?_
  refine X_icmp_ge (tgt := 38) rfl rfl rfl (fun _ => ?_) (fun q => absurd q (by decide))
  refine X_iload_n rfl rfl rfl rfl ?_
  refine LW_ireturn (st := []) rfl rfl rfl ?_
  refine X_aload_n rfl rfl rfl rfl ?_
  refine X_iconst (v := (1 : Int32)) rfl rfl rfl ?_
  refine X_iload_n rfl rfl rfl rfl ?_
  refine X_ishl (v := (1 : Int32)) rfl rfl rfl ?_
  refine X_callV (as := [.int (1 : Int32)]) (st := [.int (0 : Int32)]) rfl rfl rfl (by decide) rfl (Nat.le_of_ble_eq_true rfl) (by decide) (Nat.le_of_ble_eq_true rfl) rfl ((congrFun F.1 355).trans s_355) (by decide) ?_
  refine LW_ls (ls' := [some (.ref 355), some (.int (1 : Int32)), none, none]) rfl ?_
  refine X_iconst (v := (0 : Int32)) rfl rfl rfl ?_
  refine X_istore_n (i := 2) (ls' := [some (.ref 355), some (.int (1 : Int32)), some (.int (0 : Int32)), none]) rfl rfl rfl (Nat.le_of_ble_eq_true rfl) rfl ?_
  refine X_iconst (v := (0 : Int32)) rfl rfl rfl ?_
  refine X_istore_n (i := 3) (ls' := [some (.ref 355), some (.int (1 : Int32)), some (.int (0 : Int32)), some (.int (0 : Int32))]) rfl rfl rfl (Nat.le_of_ble_eq_true rfl) rfl ?_
  refine X_iload_n rfl rfl rfl rfl ?_
  refine X_aload_n rfl rfl rfl rfl ?_
  refine X_getR (a := 356) rfl rfl rfl ((congrFun F.1 355).trans s_355) rfl ((congrFun (F.2.1 355 (by decide)) 0).trans r_355_0) ?_
  refine X_iconst (v := (1 : Int32)) rfl rfl rfl ?_
  refine X_iald (v := (0 : Int32)) rfl rfl ((congrFun F.1 356).trans s_356) (vp_in_d rfl) ((congrFun (F.2.2 356 (by decide)).1 1).trans i_356_1) ?_
  refine X_icmp_ge (tgt := 38) rfl rfl rfl (fun _ => ?_) (fun q => absurd q (by decide))
  refine X_iload_n rfl rfl rfl rfl ?_
  refine LW_ireturn (st := []) rfl rfl rfl ?_
  refine X_icmp_le (tgt := 29) rfl rfl rfl (fun _ => ?_) (fun q => absurd q (by decide))
  refine X_iinc (v := (8 : Int32)) (ls' := [some (.ref 355), some (.int (0 : Int32)), some (.int (0 : Int32)), some (.int (8 : Int32))]) rfl rfl rfl rfl rfl ?_
  refine LW_goto (tgt := 4) rfl rfl ?_
  refine X_iload_n rfl rfl rfl rfl ?_
  refine X_bipush (v := (26 : Int32)) rfl rfl rfl ?_
  refine X_icmp_ge (tgt := 35) rfl rfl rfl (fun q => absurd q (by decide)) (fun _ => ?_)
  refine X_aload_n rfl rfl rfl rfl ?_
  refine X_iconst (v := (1 : Int32)) rfl rfl rfl ?_
  refine X_iload_n rfl rfl rfl rfl ?_
  refine X_ishl (v := (256 : Int32)) rfl rfl rfl ?_
  refine X_callV (as := [.int (256 : Int32)]) (st := []) rfl rfl rfl (by decide) rfl (Nat.le_of_ble_eq_true rfl) (by decide) (Nat.le_of_ble_eq_true rfl) rfl ((congrFun F.1 355).trans s_355) (by decide) ?_
  refine LW_ls (ls' := [some (.ref 355), some (.int (256 : Int32)), none, none]) rfl ?_
  refine X_iconst (v := (0 : Int32)) rfl rfl rfl ?_
  refine X_istore_n (i := 2) (ls' := [some (.ref 355), some (.int (256 : Int32)), some (.int (0 : Int32)), none]) rfl rfl rfl (Nat.le_of_ble_eq_true rfl) rfl ?_
  refine X_iconst (v := (0 : Int32)) rfl rfl rfl ?_
  refine X_istore_n (i := 3) (ls' := [some (.ref 355), some (.int (256 : Int32)), some (.int (0 : Int32)), some (.int (0 : Int32))]) rfl rfl rfl (Nat.le_of_ble_eq_true rfl) rfl ?_
  refine X_iload_n rfl rfl rfl rfl ?_
  refine X_aload_n rfl rfl rfl rfl ?_
  refine X_getR (a := 356) rfl rfl rfl ((congrFun F.1 355).trans s_355) rfl ((congrFun (F.2.1 355 (by decide)) 0).trans r_355_0) ?_
  refine X_iconst (v := (1 : Int32)) rfl rfl rfl ?_
  refine X_iald (v := (0 : Int32)) rfl rfl ((congrFun F.1 356).trans s_356) (vp_in_d rfl) ((congrFun (F.2.2 356 (by decide)).1 1).trans i_356_1) ?_
  refine X_icmp_ge (tgt := 38) rfl rfl rfl (fun _ => ?_) (fun q => absurd q (by decide))
  refine X_iload_n rfl rfl rfl rfl ?_
  refine LW_ireturn (st := []) rfl rfl rfl ?_
  refine X_aload_n rfl rfl rfl rfl ?_
  refine X_iconst (v := (1 : Int32)) rfl rfl rfl ?_
  refine X_iload_n rfl rfl rfl rfl ?_
  refine X_ishl (v := (1 : Int32)) rfl rfl rfl ?_
  refine X_callV (as := [.int (1 : Int32)]) (st := [.int (0 : Int32)]) rfl rfl rfl (by decide) rfl (Nat.le_of_ble_eq_true rfl) (by decide) (Nat.le_of_ble_eq_true rfl) rfl ((congrFun F.1 355).trans s_355) (by decide) ?_
  refine LW_ls (ls' := [some (.ref 355), some (.int (1 : Int32)), none, none]) rfl ?_
  refine X_iconst (v := (0 : Int32)) rfl rfl rfl ?_
  refine X_istore_n (i := 2) (ls' := [some (.ref 355), some (.int (1 : Int32)), some (.int (0 : Int32)), none]) rfl rfl rfl (Nat.le_of_ble_eq_true rfl) rfl ?_
  refine X_iconst (v := (0 : Int32)) rfl rfl rfl ?_
  refine X_istore_n (i := 3) (ls' := [some (.ref 355), some (.int (1 : Int32)), some (.int (0 : Int32)), some (.int (0 : Int32))]) rfl rfl rfl (Nat.le_of_ble_eq_true rfl) rfl ?_
  refine X_iload_n rfl rfl rfl rfl ?_
  refine X_aload_n rfl rfl rfl rfl ?_
  refine X_getR (a := 356) rfl rfl rfl ((congrFun F.1 355).trans s_355) rfl ((congrFun (F.2.1 355 (by decide)) 0).trans r_355_0) ?_
  refine X_iconst (v := (1 : Int32)) rfl rfl rfl ?_
  refine X_iald (v := (0 : Int32)) rfl rfl ((congrFun F.1 356).trans s_356) (vp_in_d rfl) ((congrFun (F.2.2 356 (by decide)).1 1).trans i_356_1) ?_
  refine X_icmp_ge (tgt := 38) rfl rfl rfl (fun _ => ?_) (fun q => absurd q (by decide))
  refine X_iload_n rfl rfl rfl rfl ?_
  refine LW_ireturn (st := []) rfl rfl rfl ?_
  refine X_icmp_le (tgt := 29) rfl rfl rfl (fun _ => ?_) (fun q => absurd q (by decide))
  refine X_iinc (v := (9 : Int32)) (ls' := [some (.ref 355), some (.int (0 : Int32)), some (.int (0 : Int32)), some (.int (9 : Int32))]) rfl rfl rfl rfl rfl ?_
  refine LW_goto (tgt := 4) rfl rfl ?_
  refine X_iload_n rfl rfl rfl rfl ?_
  refine X_bipush (v := (26 : Int32)) rfl rfl rfl ?_
  refine X_icmp_ge (tgt := 35) rfl rfl rfl (fun q => absurd q (by decide)) (fun _ => ?_)
  refine X_aload_n rfl rfl rfl rfl ?_
  refine X_iconst (v := (1 : Int32)) rfl rfl rfl ?_
  refine X_iload_n rfl rfl rfl rfl ?_
  refine X_ishl (v := (512 : Int32)) rfl rfl rfl ?_
  refine X_callV (as := [.int (512 : Int32)]) (st := []) rfl rfl rfl (by decide) rfl (Nat.le_of_ble_eq_true rfl) (by decide) (Nat.le_of_ble_eq_true rfl) rfl ((congrFun F.1 355).trans s_355) (by decide) ?_
  refine LW_ls (ls' := [some (.ref 355), some (.int (512 : Int32)), none, none]) rfl ?_
  refine X_iconst (v := (0 : Int32)) rfl rfl rfl ?_
  refine X_istore_n (i := 2) (ls' := [some (.ref 355), some (.int (512 : Int32)), some (.int (0 : Int32)), none]) rfl rfl rfl (Nat.le_of_ble_eq_true rfl) rfl ?_
  refine X_iconst (v := (0 : Int32)) rfl rfl rfl ?_
  refine X_istore_n (i := 3) (ls' := [some (.ref 355), some (.int (512 : Int32)), some (.int (0 : Int32)), some (.int (0 : Int32))]) rfl rfl rfl (Nat.le_of_ble_eq_true rfl) rfl ?_
  refine X_iload_n rfl rfl rfl rfl ?_
  refine X_aload_n rfl rfl rfl rfl ?_
  refine X_getR (a := 356) rfl rfl rfl ((congrFun F.1 355).trans s_355) rfl ((congrFun (F.2.1 355 (by decide)) 0).trans r_355_0) ?_
  refine X_iconst (v := (1 : Int32)) rfl rfl rfl ?_
  refine X_iald (v := (0 : Int32)) rfl rfl ((congrFun F.1 356).trans s_356) (vp_in_d rfl) ((congrFun (F.2.2 356 (by decide)).1 1).trans i_356_1) ?_
  refine X_icmp_ge (tgt := 38) rfl rfl rfl (fun _ => ?_) (fun q => absurd q (by decide))
  refine X_iload_n rfl rfl rfl rfl ?_
  refine LW_ireturn (st := []) rfl rfl rfl ?_
  refine X_aload_n rfl rfl rfl rfl ?_
  refine X_iconst (v := (1 : Int32)) rfl rfl rfl ?_
  refine X_iload_n rfl rfl rfl rfl ?_
  refine X_ishl (v := (1 : Int32)) rfl rfl rfl ?_
  refine X_callV (as := [.int (1 : Int32)]) (st := [.int (0 : Int32)]) rfl rfl rfl (by decide) rfl (Nat.le_of_ble_eq_true rfl) (by decide) (Nat.le_of_ble_eq_true rfl) rfl ((congrFun F.1 355).trans s_355) (by decide) ?_
  refine LW_ls (ls' := [some (.ref 355), some (.int (1 : Int32)), none, none]) rfl ?_
  refine X_iconst (v := (0 : Int32)) rfl rfl rfl ?_
  refine X_istore_n (i := 2) (ls' := [some (.ref 355), some (.int (1 : Int32)), some (.int (0 : Int32)), none]) rfl rfl rfl (Nat.le_of_ble_eq_true rfl) rfl ?_
  refine X_iconst (v := (0 : Int32)) rfl rfl rfl ?_
  refine X_istore_n (i := 3) (ls' := [some (.ref 355), some (.int (1 : Int32)), some (.int (0 : Int32)), some (.int (0 : Int32))]) rfl rfl rfl (Nat.le_of_ble_eq_true rfl) rfl ?_
  refine X_iload_n rfl rfl rfl rfl ?_
  refine X_aload_n rfl rfl rfl rfl ?_
  refine X_getR (a := 356) rfl rfl rfl ((congrFun F.1 355).trans s_355) rfl ((congrFun (F.2.1 355 (by decide)) 0).trans r_355_0) ?_
  refine X_iconst (v := (1 : Int32)) rfl rfl rfl ?_
  refine X_iald (v := (0 : Int32)) rfl rfl ((congrFun F.1 356).trans s_356) (vp_in_d rfl) ((congrFun (F.2.2 356 (by decide)).1 1).trans i_356_1) ?_
  refine X_icmp_ge (tgt := 38) rfl rfl rfl (fun _ => ?_) (fun q => absurd q (by decide))
  refine X_iload_n rfl rfl rfl rfl ?_
  refine LW_ireturn (st := []) rfl rfl rfl ?_
  refine X_icmp_le (tgt := 29) rfl rfl rfl (fun _ => ?_) (fun q => absurd q (by decide))
  refine X_iinc (v := (10 : Int32)) (ls' := [some (.ref 355), some (.int (0 : Int32)), some (.int (0 : Int32)), some (.int (10 : Int32))]) rfl rfl rfl rfl rfl ?_
  refine LW_goto (tgt := 4) rfl rfl ?_
  refine X_iload_n rfl rfl rfl rfl ?_
  refine X_bipush (v := (26 : Int32)) rfl rfl rfl ?_
  refine X_icmp_ge (tgt := 35) rfl rfl rfl (fun q => absurd q (by decide)) (fun _ => ?_)
  refine X_aload_n rfl rfl rfl rfl ?_
  refine X_iconst (v := (1 : Int32)) rfl rfl rfl ?_
  refine X_iload_n rfl rfl rfl rfl ?_
  refine X_ishl (v := (1024 : Int32)) rfl rfl rfl ?_
  refine X_callV (as := [.int (1024 : Int32)]) (st := []) rfl rfl rfl (by decide) rfl (Nat.le_of_ble_eq_true rfl) (by decide) (Nat.le_of_ble_eq_true rfl) rfl ((congrFun F.1 355).trans s_355) (by decide) ?_
  refine LW_ls (ls' := [some (.ref 355), some (.int (1024 : Int32)), none, none]) rfl ?_
  refine X_iconst (v := (0 : Int32)) rfl rfl rfl ?_
  refine X_istore_n (i := 2) (ls' := [some (.ref 355), some (.int (1024 : Int32)), some (.int (0 : Int32)), none]) rfl rfl rfl (Nat.le_of_ble_eq_true rfl) rfl ?_
  refine X_iconst (v := (0 : Int32)) rfl rfl rfl ?_
  refine X_istore_n (i := 3) (ls' := [some (.ref 355), some (.int (1024 : Int32)), some (.int (0 : Int32)), some (.int (0 : Int32))]) rfl rfl rfl (Nat.le_of_ble_eq_true rfl) rfl ?_
  refine X_iload_n rfl rfl rfl rfl ?_
  refine X_aload_n rfl rfl rfl rfl ?_
  refine X_getR (a := 356) rfl rfl rfl ((congrFun F.1 355).trans s_355) rfl ((congrFun (F.2.1 355 (by decide)) 0).trans r_355_0) ?_
  refine X_iconst (v := (1 : Int32)) rfl rfl rfl ?_
  refine X_iald (v := (0 : Int32)) rfl rfl ((congrFun F.1 356).trans s_356) (vp_in_d rfl) ((congrFun (F.2.2 356 (by decide)).1 1).trans i_356_1) ?_
  refine X_icmp_ge (tgt := 38) rfl rfl rfl (fun _ => ?_) (fun q => absurd q (by decide))
  refine X_iload_n rfl rfl rfl rfl ?_
  refine LW_ireturn (st := []) rfl rfl rfl ?_
  refine X_aload_n rfl rfl rfl rfl ?_
  refine X_iconst (v := (1 : Int32)) rfl rfl rfl ?_
  refine X_iload_n rfl rfl rfl rfl ?_
  refine X_ishl (v := (1 : Int32)) rfl rfl rfl ?_
  refine X_callV (as := [.int (1 : Int32)]) (st := [.int (0 : Int32)]) rfl rfl rfl (by decide) rfl (Nat.le_of_ble_eq_true rfl) (by decide) (Nat.le_of_ble_eq_true rfl) rfl ((congrFun F.1 355).trans s_355) (by decide) ?_
  refine LW_ls (ls' := [some (.ref 355), some (.int (1 : Int32)), none, none]) rfl ?_
  refine X_iconst (v := (0 : Int32)) rfl rfl rfl ?_
  refine X_istore_n (i := 2) (ls' := [some (.ref 355), some (.int (1 : Int32)), some (.int (0 : Int32)), none]) rfl rfl rfl (Nat.le_of_ble_eq_true rfl) rfl ?_
  refine X_iconst (v := (0 : Int32)) rfl rfl rfl ?_
  refine X_istore_n (i := 3) (ls' := [some (.ref 355), some (.int (1 : Int32)), some (.int (0 : Int32)), some (.int (0 : Int32))]) rfl rfl rfl (Nat.le_of_ble_eq_true rfl) rfl ?_
  refine X_iload_n rfl rfl rfl rfl ?_
  refine X_aload_n rfl rfl rfl rfl ?_
  refine X_getR (a := 356) rfl rfl rfl ((congrFun F.1 355).trans s_355) rfl ((congrFun (F.2.1 355 (by decide)) 0).trans r_355_0) ?_
  refine X_iconst (v := (1 : Int32)) rfl rfl rfl ?_
  refine X_iald (v := (0 : Int32)) rfl rfl ((congrFun F.1 356).trans s_356) (vp_in_d rfl) ((congrFun (F.2.2 356 (by decide)).1 1).trans i_356_1) ?_
  refine X_icmp_ge (tgt := 38) rfl rfl rfl (fun _ => ?_) (fun q => absurd q (by decide))
  refine X_iload_n rfl rfl rfl rfl ?_
  refine LW_ireturn (st := []) rfl rfl rfl ?_
  refine X_icmp_le (tgt := 29) rfl rfl rfl (fun _ => ?_) (fun q => absurd q (by decide))
  refine X_iinc (v := (11 : Int32)) (ls' := [some (.ref 355), some (.int (0 : Int32)), some (.int (0 : Int32)), some (.int (11 : Int32))]) rfl rfl rfl rfl rfl ?_
  refine LW_goto (tgt := 4) rfl rfl ?_
  refine X_iload_n rfl rfl rfl rfl ?_
  refine X_bipush (v := (26 : Int32)) rfl rfl rfl ?_
  refine X_icmp_ge (tgt := 35) rfl rfl rfl (fun q => absurd q (by decide)) (fun _ => ?_)
  refine X_aload_n rfl rfl rfl rfl ?_
  refine X_iconst (v := (1 : Int32)) rfl rfl rfl ?_
  refine X_iload_n rfl rfl rfl rfl ?_
  refine X_ishl (v := (2048 : Int32)) rfl rfl rfl ?_
  refine X_callV (as := [.int (2048 : Int32)]) (st := []) rfl rfl rfl (by decide) rfl (Nat.le_of_ble_eq_true rfl) (by decide) (Nat.le_of_ble_eq_true rfl) rfl ((congrFun F.1 355).trans s_355) (by decide) ?_
  refine LW_ls (ls' := [some (.ref 355), some (.int (2048 : Int32)), none, none]) rfl ?_
  refine X_iconst (v := (0 : Int32)) rfl rfl rfl ?_
  refine X_istore_n (i := 2) (ls' := [some (.ref 355), some (.int (2048 : Int32)), some (.int (0 : Int32)), none]) rfl rfl rfl (Nat.le_of_ble_eq_true rfl) rfl ?_
  refine X_iconst (v := (0 : Int32)) rfl rfl rfl ?_
  refine X_istore_n (i := 3) (ls' := [some (.ref 355), some (.int (2048 : Int32)), some (.int (0 : Int32)), some (.int (0 : Int32))]) rfl rfl rfl (Nat.le_of_ble_eq_true rfl) rfl ?_
  refine X_iload_n rfl rfl rfl rfl ?_
  refine X_aload_n rfl rfl rfl rfl ?_
  refine X_getR (a := 356) rfl rfl rfl ((congrFun F.1 355).trans s_355) rfl ((congrFun (F.2.1 355 (by decide)) 0).trans r_355_0) ?_
  refine X_iconst (v := (1 : Int32)) rfl rfl rfl ?_
  refine X_iald (v := (0 : Int32)) rfl rfl ((congrFun F.1 356).trans s_356) (vp_in_d rfl) ((congrFun (F.2.2 356 (by decide)).1 1).trans i_356_1) ?_
  refine X_icmp_ge (tgt := 38) rfl rfl rfl (fun _ => ?_) (fun q => absurd q (by decide))
  refine X_iload_n rfl rfl rfl rfl ?_
  refine LW_ireturn (st := []) rfl rfl rfl ?_
  refine X_aload_n rfl rfl rfl rfl ?_
  refine X_iconst (v := (1 : Int32)) rfl rfl rfl ?_
  refine X_iload_n rfl rfl rfl rfl ?_
  refine X_ishl (v := (1 : Int32)) rfl rfl rfl ?_
  refine X_callV (as := [.int (1 : Int32)]) (st := [.int (0 : Int32)]) rfl rfl rfl (by decide) rfl (Nat.le_of_ble_eq_true rfl) (by decide) (Nat.le_of_ble_eq_true rfl) rfl ((congrFun F.1 355).trans s_355) (by decide) ?_
  refine LW_ls (ls' := [some (.ref 355), some (.int (1 : Int32)), none, none]) rfl ?_
  refine X_iconst (v := (0 : Int32)) rfl rfl rfl ?_
  refine X_istore_n (i := 2) (ls' := [some (.ref 355), some (.int (1 : Int32)), some (.int (0 : Int32)), none]) rfl rfl rfl (Nat.le_of_ble_eq_true rfl) rfl ?_
  refine X_iconst (v := (0 : Int32)) rfl rfl rfl ?_
  refine X_istore_n (i := 3) (ls' := [some (.ref 355), some (.int (1 : Int32)), some (.int (0 : Int32)), some (.int (0 : Int32))]) rfl rfl rfl (Nat.le_of_ble_eq_true rfl) rfl ?_
  refine X_iload_n rfl rfl rfl rfl ?_
  refine X_aload_n rfl rfl rfl rfl ?_
  refine X_getR (a := 356) rfl rfl rfl ((congrFun F.1 355).trans s_355) rfl ((congrFun (F.2.1 355 (by decide)) 0).trans r_355_0) ?_
  refine X_iconst (v := (1 : Int32)) rfl rfl rfl ?_
  refine X_iald (v := (0 : Int32)) rfl rfl ((congrFun F.1 356).trans s_356) (vp_in_d rfl) ((congrFun (F.2.2 356 (by decide)).1 1).trans i_356_1) ?_
  refine X_icmp_ge (tgt := 38) rfl rfl rfl (fun _ => ?_) (fun q => absurd q (by decide))
  refine X_iload_n rfl rfl rfl rfl ?_
  refine LW_ireturn (st := []) rfl rfl rfl ?_
  refine X_icmp_le (tgt := 29) rfl rfl rfl (fun _ => ?_) (fun q => absurd q (by decide))
  refine X_iinc (v := (12 : Int32)) (ls' := [some (.ref 355), some (.int (0 : Int32)), some (.int (0 : Int32)), some (.int (12 : Int32))]) rfl rfl rfl rfl rfl ?_
  refine LW_goto (tgt := 4) rfl rfl ?_
  refine X_iload_n rfl rfl rfl rfl ?_
  refine X_bipush (v := (26 : Int32)) rfl rfl rfl ?_
  refine X_icmp_ge (tgt := 35) rfl rfl rfl (fun q => absurd q (by decide)) (fun _ => ?_)
  refine X_aload_n rfl rfl rfl rfl ?_
  refine X_iconst (v := (1 : Int32)) rfl rfl rfl ?_
  refine X_iload_n rfl rfl rfl rfl ?_
  refine X_ishl (v := (4096 : Int32)) rfl rfl rfl ?_
  refine X_callV (as := [.int (4096 : Int32)]) (st := []) rfl rfl rfl (by decide) rfl (Nat.le_of_ble_eq_true rfl) (by decide) (Nat.le_of_ble_eq_true rfl) rfl ((congrFun F.1 355).trans s_355) (by decide) ?_
  refine LW_ls (ls' := [some (.ref 355), some (.int (4096 : Int32)), none, none]) rfl ?_
  refine X_iconst (v := (0 : Int32)) rfl rfl rfl ?_
  refine X_istore_n (i := 2) (ls' := [some (.ref 355), some (.int (4096 : Int32)), some (.int (0 : Int32)), none]) rfl rfl rfl (Nat.le_of_ble_eq_true rfl) rfl ?_
  refine X_iconst (v := (0 : Int32)) rfl rfl rfl ?_
  refine X_istore_n (i := 3) (ls' := [some (.ref 355), some (.int (4096 : Int32)), some (.int (0 : Int32)), some (.int (0 : Int32))]) rfl rfl rfl (Nat.le_of_ble_eq_true rfl) rfl ?_
  refine X_iload_n rfl rfl rfl rfl ?_
  refine X_aload_n rfl rfl rfl rfl ?_
  refine X_getR (a := 356) rfl rfl rfl ((congrFun F.1 355).trans s_355) rfl ((congrFun (F.2.1 355 (by decide)) 0).trans r_355_0) ?_
  refine X_iconst (v := (1 : Int32)) rfl rfl rfl ?_
  refine X_iald (v := (0 : Int32)) rfl rfl ((congrFun F.1 356).trans s_356) (vp_in_d rfl) ((congrFun (F.2.2 356 (by decide)).1 1).trans i_356_1) ?_
  refine X_icmp_ge (tgt := 38) rfl rfl rfl (fun _ => ?_) (fun q => absurd q (by decide))
  refine X_iload_n rfl rfl rfl rfl ?_
  refine LW_ireturn (st := []) rfl rfl rfl ?_
  refine X_aload_n rfl rfl rfl rfl ?_
  refine X_iconst (v := (1 : Int32)) rfl rfl rfl ?_
  refine X_iload_n rfl rfl rfl rfl ?_
  refine X_ishl (v := (1 : Int32)) rfl rfl rfl ?_
  refine X_callV (as := [.int (1 : Int32)]) (st := [.int (0 : Int32)]) rfl rfl rfl (by decide) rfl (Nat.le_of_ble_eq_true rfl) (by decide) (Nat.le_of_ble_eq_true rfl) rfl ((congrFun F.1 355).trans s_355) (by decide) ?_
  refine LW_ls (ls' := [some (.ref 355), some (.int (1 : Int32)), none, none]) rfl ?_
  refine X_iconst (v := (0 : Int32)) rfl rfl rfl ?_
  refine X_istore_n (i := 2) (ls' := [some (.ref 355), some (.int (1 : Int32)), some (.int (0 : Int32)), none]) rfl rfl rfl (Nat.le_of_ble_eq_true rfl) rfl ?_
  refine X_iconst (v := (0 : Int32)) rfl rfl rfl ?_
  refine X_istore_n (i := 3) (ls' := [some (.ref 355), some (.int (1 : Int32)), some (.int (0 : Int32)), some (.int (0 : Int32))]) rfl rfl rfl (Nat.le_of_ble_eq_true rfl) rfl ?_
  refine X_iload_n rfl rfl rfl rfl ?_
  refine X_aload_n rfl rfl rfl rfl ?_
  refine X_getR (a := 356) rfl rfl rfl ((congrFun F.1 355).trans s_355) rfl ((congrFun (F.2.1 355 (by decide)) 0).trans r_355_0) ?_
  refine X_iconst (v := (1 : Int32)) rfl rfl rfl ?_
  refine X_iald (v := (0 : Int32)) rfl rfl ((congrFun F.1 356).trans s_356) (vp_in_d rfl) ((congrFun (F.2.2 356 (by decide)).1 1).trans i_356_1) ?_
  refine X_icmp_ge (tgt := 38) rfl rfl rfl (fun _ => ?_) (fun q => absurd q (by decide))
  refine X_iload_n rfl rfl rfl rfl ?_
  refine LW_ireturn (st := []) rfl rfl rfl ?_
  refine X_icmp_le (tgt := 29) rfl rfl rfl (fun _ => ?_) (fun q => absurd q (by decide))
  refine X_iinc (v := (13 : Int32)) (ls' := [some (.ref 355), some (.int (0 : Int32)), some (.int (0 : Int32)), some (.int (13 : Int32))]) rfl rfl rfl rfl rfl ?_
  refine LW_goto (tgt := 4) rfl rfl ?_
  refine X_iload_n rfl rfl rfl rfl ?_
  refine X_bipush (v := (26 : Int32)) rfl rfl rfl ?_
  refine X_icmp_ge (tgt := 35) rfl rfl rfl (fun q => absurd q (by decide)) (fun _ => ?_)
  refine X_aload_n rfl rfl rfl rfl ?_
  refine X_iconst (v := (1 : Int32)) rfl rfl rfl ?_
  refine X_iload_n rfl rfl rfl rfl ?_
  refine X_ishl (v := (8192 : Int32)) rfl rfl rfl ?_
  refine X_callV (as := [.int (8192 : Int32)]) (st := []) rfl rfl rfl (by decide) rfl (Nat.le_of_ble_eq_true rfl) (by decide) (Nat.le_of_ble_eq_true rfl) rfl ((congrFun F.1 355).trans s_355) (by decide) ?_
  refine LW_ls (ls' := [some (.ref 355), some (.int (8192 : Int32)), none, none]) rfl ?_
  refine X_iconst (v := (0 : Int32)) rfl rfl rfl ?_
  refine X_istore_n (i := 2) (ls' := [some (.ref 355), some (.int (8192 : Int32)), some (.int (0 : Int32)), none]) rfl rfl rfl (Nat.le_of_ble_eq_true rfl) rfl ?_
  refine X_iconst (v := (0 : Int32)) rfl rfl rfl ?_
  refine X_istore_n (i := 3) (ls' := [some (.ref 355), some (.int (8192 : Int32)), some (.int (0 : Int32)), some (.int (0 : Int32))]) rfl rfl rfl (Nat.le_of_ble_eq_true rfl) rfl ?_
  refine X_iload_n rfl rfl rfl rfl ?_
  refine X_aload_n rfl rfl rfl rfl ?_
  refine X_getR (a := 356) rfl rfl rfl ((congrFun F.1 355).trans s_355) rfl ((congrFun (F.2.1 355 (by decide)) 0).trans r_355_0) ?_
  refine X_iconst (v := (1 : Int32)) rfl rfl rfl ?_
  refine X_iald (v := (0 : Int32)) rfl rfl ((congrFun F.1 356).trans s_356) (vp_in_d rfl) ((congrFun (F.2.2 356 (by decide)).1 1).trans i_356_1) ?_
  refine X_icmp_ge (tgt := 38) rfl rfl rfl (fun _ => ?_) (fun q => absurd q (by decide))
  refine X_iload_n rfl rfl rfl rfl ?_
  refine LW_ireturn (st := []) rfl rfl rfl ?_
  refine X_aload_n rfl rfl rfl rfl ?_
  refine X_iconst (v := (1 : Int32)) rfl rfl rfl ?_
  refine X_iload_n rfl rfl rfl rfl ?_
  refine X_ishl (v := (1 : Int32)) rfl rfl rfl ?_
  refine X_callV (as := [.int (1 : Int32)]) (st := [.int (0 : Int32)]) rfl rfl rfl (by decide) rfl (Nat.le_of_ble_eq_true rfl) (by decide) (Nat.le_of_ble_eq_true rfl) rfl ((congrFun F.1 355).trans s_355) (by decide) ?_
  refine LW_ls (ls' := [some (.ref 355), some (.int (1 : Int32)), none, none]) rfl ?_
  refine X_iconst (v := (0 : Int32)) rfl rfl rfl ?_
  refine X_istore_n (i := 2) (ls' := [some (.ref 355), some (.int (1 : Int32)), some (.int (0 : Int32)), none]) rfl rfl rfl (Nat.le_of_ble_eq_true rfl) rfl ?_
  refine X_iconst (v := (0 : Int32)) rfl rfl rfl ?_
  refine X_istore_n (i := 3) (ls' := [some (.ref 355), some (.int (1 : Int32)), some (.int (0 : Int32)), some (.int (0 : Int32))]) rfl rfl rfl (Nat.le_of_ble_eq_true rfl) rfl ?_
  refine X_iload_n rfl rfl rfl rfl ?_
  refine X_aload_n rfl rfl rfl rfl ?_
  refine X_getR (a := 356) rfl rfl rfl ((congrFun F.1 355).trans s_355) rfl ((congrFun (F.2.1 355 (by decide)) 0).trans r_355_0) ?_
  refine X_iconst (v := (1 : Int32)) rfl rfl rfl ?_
  refine X_iald (v := (0 : Int32)) rfl rfl ((congrFun F.1 356).trans s_356) (vp_in_d rfl) ((congrFun (F.2.2 356 (by decide)).1 1).trans i_356_1) ?_
  refine X_icmp_ge (tgt := 38) rfl rfl rfl (fun _ => ?_) (fun q => absurd q (by decide))
  refine X_iload_n rfl rfl rfl rfl ?_
  refine LW_ireturn (st := []) rfl rfl rfl ?_
  refine X_icmp_le (tgt := 29) rfl rfl rfl (fun _ => ?_) (fun q => absurd q (by decide))
  refine X_iinc (v := (14 : Int32)) (ls' := [some (.ref 355), some (.int (0 : Int32)), some (.int (0 : Int32)), some (.int (14 : Int32))]) rfl rfl rfl rfl rfl ?_
  refine LW_goto (tgt := 4) rfl rfl ?_
  refine X_iload_n rfl rfl rfl rfl ?_
  refine X_bipush (v := (26 : Int32)) rfl rfl rfl ?_
  refine X_icmp_ge (tgt := 35) rfl rfl rfl (fun q => absurd q (by decide)) (fun _ => ?_)
  refine X_aload_n rfl rfl rfl rfl ?_
  refine X_iconst (v := (1 : Int32)) rfl rfl rfl ?_
  refine X_iload_n rfl rfl rfl rfl ?_
  refine X_ishl (v := (16384 : Int32)) rfl rfl rfl ?_
  refine X_callV (as := [.int (16384 : Int32)]) (st := []) rfl rfl rfl (by decide) rfl (Nat.le_of_ble_eq_true rfl) (by decide) (Nat.le_of_ble_eq_true rfl) rfl ((congrFun F.1 355).trans s_355) (by decide) ?_
  refine LW_ls (ls' := [some (.ref 355), some (.int (16384 : Int32)), none, none]) rfl ?_
  refine X_iconst (v := (0 : Int32)) rfl rfl rfl ?_
  refine X_istore_n (i := 2) (ls' := [some (.ref 355), some (.int (16384 : Int32)), some (.int (0 : Int32)), none]) rfl rfl rfl (Nat.le_of_ble_eq_true rfl) rfl ?_
  refine X_iconst (v := (0 : Int32)) rfl rfl rfl ?_
  refine X_istore_n (i := 3) (ls' := [some (.ref 355), some (.int (16384 : Int32)), some (.int (0 : Int32)), some (.int (0 : Int32))]) rfl rfl rfl (Nat.le_of_ble_eq_true rfl) rfl ?_
  refine X_iload_n rfl rfl rfl rfl ?_
  refine X_aload_n rfl rfl rfl rfl ?_
  refine X_getR (a := 356) rfl rfl rfl ((congrFun F.1 355).trans s_355) rfl ((congrFun (F.2.1 355 (by decide)) 0).trans r_355_0) ?_
  refine X_iconst (v := (1 : Int32)) rfl rfl rfl ?_
  refine X_iald (v := (0 : Int32)) rfl rfl ((congrFun F.1 356).trans s_356) (vp_in_d rfl) ((congrFun (F.2.2 356 (by decide)).1 1).trans i_356_1) ?_
  refine X_icmp_ge (tgt := 38) rfl rfl rfl (fun _ => ?_) (fun q => absurd q (by decide))
  refine X_iload_n rfl rfl rfl rfl ?_
  refine LW_ireturn (st := []) rfl rfl rfl ?_
  refine X_aload_n rfl rfl rfl rfl ?_
  refine X_iconst (v := (1 : Int32)) rfl rfl rfl ?_
  refine X_iload_n rfl rfl rfl rfl ?_
  refine X_ishl (v := (1 : Int32)) rfl rfl rfl ?_
  refine X_callV (as := [.int (1 : Int32)]) (st := [.int (0 : Int32)]) rfl rfl rfl (by decide) rfl (Nat.le_of_ble_eq_true rfl) (by decide) (Nat.le_of_ble_eq_true rfl) rfl ((congrFun F.1 355).trans s_355) (by decide) ?_
  refine LW_ls (ls' := [some (.ref 355), some (.int (1 : Int32)), none, none]) rfl ?_
  refine X_iconst (v := (0 : Int32)) rfl rfl rfl ?_
  refine X_istore_n (i := 2) (ls' := [some (.ref 355), some (.int (1 : Int32)), some (.int (0 : Int32)), none]) rfl rfl rfl (Nat.le_of_ble_eq_true rfl) rfl ?_
  refine X_iconst (v := (0 : Int32)) rfl rfl rfl ?_
  refine X_istore_n (i := 3) (ls' := [some (.ref 355), some (.int (1 : Int32)), some (.int (0 : Int32)), some (.int (0 : Int32))]) rfl rfl rfl (Nat.le_of_ble_eq_true rfl) rfl ?_
  refine X_iload_n rfl rfl rfl rfl ?_
  refine X_aload_n rfl rfl rfl rfl ?_
  refine X_getR (a := 356) rfl rfl rfl ((congrFun F.1 355).trans s_355) rfl ((congrFun (F.2.1 355 (by decide)) 0).trans r_355_0) ?_
  refine X_iconst (v := (1 : Int32)) rfl rfl rfl ?_
  refine X_iald (v := (0 : Int32)) rfl rfl ((congrFun F.1 356).trans s_356) (vp_in_d rfl) ((congrFun (F.2.2 356 (by decide)).1 1).trans i_356_1) ?_
  refine X_icmp_ge (tgt := 38) rfl rfl rfl (fun _ => ?_) (fun q => absurd q (by decide))
  refine X_iload_n rfl rfl rfl rfl ?_
  refine LW_ireturn (st := []) rfl rfl rfl ?_
  refine X_icmp_le (tgt := 29) rfl rfl rfl (fun _ => ?_) (fun q => absurd q (by decide))
  refine X_iinc (v := (15 : Int32)) (ls' := [some (.ref 355), some (.int (0 : Int32)), some (.int (0 : Int32)), some (.int (15 : Int32))]) rfl rfl rfl rfl rfl ?_
  refine LW_goto (tgt := 4) rfl rfl ?_
  refine X_iload_n rfl rfl rfl rfl ?_
  refine X_bipush (v := (26 : Int32)) rfl rfl rfl ?_
  refine X_icmp_ge (tgt := 35) rfl rfl rfl (fun q => absurd q (by decide)) (fun _ => ?_)
  refine X_aload_n rfl rfl rfl rfl ?_
  refine X_iconst (v := (1 : Int32)) rfl rfl rfl ?_
  refine X_iload_n rfl rfl rfl rfl ?_
  refine X_ishl (v := (32768 : Int32)) rfl rfl rfl ?_
  refine X_callV (as := [.int (32768 : Int32)]) (st := []) rfl rfl rfl (by decide) rfl (Nat.le_of_ble_eq_true rfl) (by decide) (Nat.le_of_ble_eq_true rfl) rfl ((congrFun F.1 355).trans s_355) (by decide) ?_
  refine LW_ls (ls' := [some (.ref 355), some (.int (32768 : Int32)), none, none]) rfl ?_
  refine X_iconst (v := (0 : Int32)) rfl rfl rfl ?_
  refine X_istore_n (i := 2) (ls' := [some (.ref 355), some (.int (32768 : Int32)), some (.int (0 : Int32)), none]) rfl rfl rfl (Nat.le_of_ble_eq_true rfl) rfl ?_
  refine X_iconst (v := (0 : Int32)) rfl rfl rfl ?_
  refine X_istore_n (i := 3) (ls' := [some (.ref 355), some (.int (32768 : Int32)), some (.int (0 : Int32)), some (.int (0 : Int32))]) rfl rfl rfl (Nat.le_of_ble_eq_true rfl) rfl ?_
  refine X_iload_n rfl rfl rfl rfl ?_
  refine X_aload_n rfl rfl rfl rfl ?_
  refine X_getR (a := 356) rfl rfl rfl ((congrFun F.1 355).trans s_355) rfl ((congrFun (F.2.1 355 (by decide)) 0).trans r_355_0) ?_
  refine X_iconst (v := (1 : Int32)) rfl rfl rfl ?_
  refine X_iald (v := (0 : Int32)) rfl rfl ((congrFun F.1 356).trans s_356) (vp_in_d rfl) ((congrFun (F.2.2 356 (by decide)).1 1).trans i_356_1) ?_
  refine X_icmp_ge (tgt := 38) rfl rfl rfl (fun _ => ?_) (fun q => absurd q (by decide))
  refine X_iload_n rfl rfl rfl rfl ?_
  refine LW_ireturn (st := []) rfl rfl rfl ?_
  refine X_aload_n rfl rfl rfl rfl ?_
  refine X_iconst (v := (1 : Int32)) rfl rfl rfl ?_
  refine X_iload_n rfl rfl rfl rfl ?_
  refine X_ishl (v := (1 : Int32)) rfl rfl rfl ?_
  refine X_callV (as := [.int (1 : Int32)]) (st := [.int (0 : Int32)]) rfl rfl rfl (by decide) rfl (Nat.le_of_ble_eq_true rfl) (by decide) (Nat.le_of_ble_eq_true rfl) rfl ((congrFun F.1 355).trans s_355) (by decide) ?_
  refine LW_ls (ls' := [some (.ref 355), some (.int (1 : Int32)), none, none]) rfl ?_
  refine X_iconst (v := (0 : Int32)) rfl rfl rfl ?_
  refine X_istore_n (i := 2) (ls' := [some (.ref 355), some (.int (1 : Int32)), some (.int (0 : Int32)), none]) rfl rfl rfl (Nat.le_of_ble_eq_true rfl) rfl ?_
  refine X_iconst (v := (0 : Int32)) rfl rfl rfl ?_
  refine X_istore_n (i := 3) (ls' := [some (.ref 355), some (.int (1 : Int32)), some (.int (0 : Int32)), some (.int (0 : Int32))]) rfl rfl rfl (Nat.le_of_ble_eq_true rfl) rfl ?_
  refine X_iload_n rfl rfl rfl rfl ?_
  refine X_aload_n rfl rfl rfl rfl ?_
  refine X_getR (a := 356) rfl rfl rfl ((congrFun F.1 355).trans s_355) rfl ((congrFun (F.2.1 355 (by decide)) 0).trans r_355_0) ?_
  refine X_iconst (v := (1 : Int32)) rfl rfl rfl ?_
  refine X_iald (v := (0 : Int32)) rfl rfl ((congrFun F.1 356).trans s_356) (vp_in_d rfl) ((congrFun (F.2.2 356 (by decide)).1 1).trans i_356_1) ?_
  refine X_icmp_ge (tgt := 38) rfl rfl rfl (fun _ => ?_) (fun q => absurd q (by decide))
  refine X_iload_n rfl rfl rfl rfl ?_
  refine LW_ireturn (st := []) rfl rfl rfl ?_
  refine X_icmp_le (tgt := 29) rfl rfl rfl (fun _ => ?_) (fun q => absurd q (by decide))
  refine X_iinc (v := (16 : Int32)) (ls' := [some (.ref 355), some (.int (0 : Int32)), some (.int (0 : Int32)), some (.int (16 : Int32))]) rfl rfl rfl rfl rfl ?_
  refine LW_goto (tgt := 4) rfl rfl ?_
  refine X_iload_n rfl rfl rfl rfl ?_
  refine X_bipush (v := (26 : Int32)) rfl rfl rfl ?_
  refine X_icmp_ge (tgt := 35) rfl rfl rfl (fun q => absurd q (by decide)) (fun _ => ?_)
  refine X_aload_n rfl rfl rfl rfl ?_
  refine X_iconst (v := (1 : Int32)) rfl rfl rfl ?_
  refine X_iload_n rfl rfl rfl rfl ?_
  refine X_ishl (v := (65536 : Int32)) rfl rfl rfl ?_
  refine X_callV (as := [.int (65536 : Int32)]) (st := []) rfl rfl rfl (by decide) rfl (Nat.le_of_ble_eq_true rfl) (by decide) (Nat.le_of_ble_eq_true rfl) rfl ((congrFun F.1 355).trans s_355) (by decide) ?_
  refine LW_ls (ls' := [some (.ref 355), some (.int (65536 : Int32)), none, none]) rfl ?_
  refine X_iconst (v := (0 : Int32)) rfl rfl rfl ?_
  refine X_istore_n (i := 2) (ls' := [some (.ref 355), some (.int (65536 : Int32)), some (.int (0 : Int32)), none]) rfl rfl rfl (Nat.le_of_ble_eq_true rfl) rfl ?_
  refine X_iconst (v := (0 : Int32)) rfl rfl rfl ?_
  refine X_istore_n (i := 3) (ls' := [some (.ref 355), some (.int (65536 : Int32)), some (.int (0 : Int32)), some (.int (0 : Int32))]) rfl rfl rfl (Nat.le_of_ble_eq_true rfl) rfl ?_
  refine X_iload_n rfl rfl rfl rfl ?_
  refine X_aload_n rfl rfl rfl rfl ?_
  refine X_getR (a := 356) rfl rfl rfl ((congrFun F.1 355).trans s_355) rfl ((congrFun (F.2.1 355 (by decide)) 0).trans r_355_0) ?_
  refine X_iconst (v := (1 : Int32)) rfl rfl rfl ?_
  refine X_iald (v := (0 : Int32)) rfl rfl ((congrFun F.1 356).trans s_356) (vp_in_d rfl) ((congrFun (F.2.2 356 (by decide)).1 1).trans i_356_1) ?_
  refine X_icmp_ge (tgt := 38) rfl rfl rfl (fun _ => ?_) (fun q => absurd q (by decide))
  refine X_iload_n rfl rfl rfl rfl ?_
  refine LW_ireturn (st := []) rfl rfl rfl ?_
  refine X_aload_n rfl rfl rfl rfl ?_
  refine X_iconst (v := (1 : Int32)) rfl rfl rfl ?_
  refine X_iload_n rfl rfl rfl rfl ?_
  refine X_ishl (v := (1 : Int32)) rfl rfl rfl ?_
  refine X_callV (as := [.int (1 : Int32)]) (st := [.int (0 : Int32)]) rfl rfl rfl (by decide) rfl (Nat.le_of_ble_eq_true rfl) (by decide) (Nat.le_of_ble_eq_true rfl) rfl ((congrFun F.1 355).trans s_355) (by decide) ?_
  refine LW_ls (ls' := [some (.ref 355), some (.int (1 : Int32)), none, none]) rfl ?_
  refine X_iconst (v := (0 : Int32)) rfl rfl rfl ?_
  refine X_istore_n (i := 2) (ls' := [some (.ref 355), some (.int (1 : Int32)), some (.int (0 : Int32)), none]) rfl rfl rfl (Nat.le_of_ble_eq_true rfl) rfl ?_
  refine X_iconst (v := (0 : Int32)) rfl rfl rfl ?_
  refine X_istore_n (i := 3) (ls' := [some (.ref 355), some (.int (1 : Int32)), some (.int (0 : Int32)), some (.int (0 : Int32))]) rfl rfl rfl (Nat.le_of_ble_eq_true rfl) rfl ?_
  refine X_iload_n rfl rfl rfl rfl ?_
  refine X_aload_n rfl rfl rfl rfl ?_
  refine X_getR (a := 356) rfl rfl rfl ((congrFun F.1 355).trans s_355) rfl ((congrFun (F.2.1 355 (by decide)) 0).trans r_355_0) ?_
  refine X_iconst (v := (1 : Int32)) rfl rfl rfl ?_
  refine X_iald (v := (0 : Int32)) rfl rfl ((congrFun F.1 356).trans s_356) (vp_in_d rfl) ((congrFun (F.2.2 356 (by decide)).1 1).trans i_356_1) ?_
  refine X_icmp_ge (tgt := 38) rfl rfl rfl (fun _ => ?_) (fun q => absurd q (by decide))
  refine X_iload_n rfl rfl rfl rfl ?_
  refine LW_ireturn (st := []) rfl rfl rfl ?_
  refine X_icmp_le (tgt := 29) rfl rfl rfl (fun _ => ?_) (fun q => absurd q (by decide))
  refine X_iinc (v := (17 : Int32)) (ls' := [some (.ref 355), some (.int (0 : Int32)), some (.int (0 : Int32)), some (.int (17 : Int32))]) rfl rfl rfl rfl rfl ?_
  refine LW_goto (tgt := 4) rfl rfl ?_
  refine X_iload_n rfl rfl rfl rfl ?_
  refine X_bipush (v := (26 : Int32)) rfl rfl rfl ?_
  refine X_icmp_ge (tgt := 35) rfl rfl rfl (fun q => absurd q (by decide)) (fun _ => ?_)
  refine X_aload_n rfl rfl rfl rfl ?_
  refine X_iconst (v := (1 : Int32)) rfl rfl rfl ?_
  refine X_iload_n rfl rfl rfl rfl ?_
  refine X_ishl (v := (131072 : Int32)) rfl rfl rfl ?_
  refine X_callV (as := [.int (131072 : Int32)]) (st := []) rfl rfl rfl (by decide) rfl (Nat.le_of_ble_eq_true rfl) (by decide) (Nat.le_of_ble_eq_true rfl) rfl ((congrFun F.1 355).trans s_355) (by decide) ?_
  refine LW_ls (ls' := [some (.ref 355), some (.int (131072 : Int32)), none, none]) rfl ?_
  refine X_iconst (v := (0 : Int32)) rfl rfl rfl ?_
  refine X_istore_n (i := 2) (ls' := [some (.ref 355), some (.int (131072 : Int32)), some (.int (0 : Int32)), none]) rfl rfl rfl (Nat.le_of_ble_eq_true rfl) rfl ?_
  refine X_iconst (v := (0 : Int32)) rfl rfl rfl ?_
  refine X_istore_n (i := 3) (ls' := [some (.ref 355), some (.int (131072 : Int32)), some (.int (0 : Int32)), some (.int (0 : Int32))]) rfl rfl rfl (Nat.le_of_ble_eq_true rfl) rfl ?_
  refine X_iload_n rfl rfl rfl rfl ?_
  refine X_aload_n rfl rfl rfl rfl ?_
  refine X_getR (a := 356) rfl rfl rfl ((congrFun F.1 355).trans s_355) rfl ((congrFun (F.2.1 355 (by decide)) 0).trans r_355_0) ?_
  refine X_iconst (v := (1 : Int32)) rfl rfl rfl ?_
  refine X_iald (v := (0 : Int32)) rfl rfl ((congrFun F.1 356).trans s_356) (vp_in_d rfl) ((congrFun (F.2.2 356 (by decide)).1 1).trans i_356_1) ?_
  refine X_icmp_ge (tgt := 38) rfl rfl rfl (fun _ => ?_) (fun q => absurd q (by decide))
  refine X_iload_n rfl rfl rfl rfl ?_
  refine LW_ireturn (st := []) rfl rfl rfl ?_
  refine X_aload_n rfl rfl rfl rfl ?_
  refine X_iconst (v := (1 : Int32)) rfl rfl rfl ?_
  refine X_iload_n rfl rfl rfl rfl ?_
  refine X_ishl (v := (1 : Int32)) rfl rfl rfl ?_
  refine X_callV (as := [.int (1 : Int32)]) (st := [.int (0 : Int32)]) rfl rfl rfl (by decide) rfl (Nat.le_of_ble_eq_true rfl) (by decide) (Nat.le_of_ble_eq_true rfl) rfl ((congrFun F.1 355).trans s_355) (by decide) ?_
  refine LW_ls (ls' := [some (.ref 355), some (.int (1 : Int32)), none, none]) rfl ?_
  refine X_iconst (v := (0 : Int32)) rfl rfl rfl ?_
  refine X_istore_n (i := 2) (ls' := [some (.ref 355), some (.int (1 : Int32)), some (.int (0 : Int32)), none]) rfl rfl rfl (Nat.le_of_ble_eq_true rfl) rfl ?_
  refine X_iconst (v := (0 : Int32)) rfl rfl rfl ?_
  refine X_istore_n (i := 3) (ls' := [some (.ref 355), some (.int (1 : Int32)), some (.int (0 : Int32)), some (.int (0 : Int32))]) rfl rfl rfl (Nat.le_of_ble_eq_true rfl) rfl ?_
  refine X_iload_n rfl rfl rfl rfl ?_
  refine X_aload_n rfl rfl rfl rfl ?_
  refine X_getR (a := 356) rfl rfl rfl ((congrFun F.1 355).trans s_355) rfl ((congrFun (F.2.1 355 (by decide)) 0).trans r_355_0) ?_
  refine X_iconst (v := (1 : Int32)) rfl rfl rfl ?_
  refine X_iald (v := (0 : Int32)) rfl rfl ((congrFun F.1 356).trans s_356) (vp_in_d rfl) ((congrFun (F.2.2 356 (by decide)).1 1).trans i_356_1) ?_
  refine X_icmp_ge (tgt := 38) rfl rfl rfl (fun _ => ?_) (fun q => absurd q (by decide))
  refine X_iload_n rfl rfl rfl rfl ?_
  refine LW_ireturn (st := []) rfl rfl rfl ?_
  refine X_icmp_le (tgt := 29) rfl rfl rfl (fun _ => ?_) (fun q => absurd q (by decide))
  refine X_iinc (v := (18 : Int32)) (ls' := [some (.ref 355), some (.int (0 : Int32)), some (.int (0 : Int32)), some (.int (18 : Int32))]) rfl rfl rfl rfl rfl ?_
  refine LW_goto (tgt := 4) rfl rfl ?_
  refine X_iload_n rfl rfl rfl rfl ?_
  refine X_bipush (v := (26 : Int32)) rfl rfl rfl ?_
  refine X_icmp_ge (tgt := 35) rfl rfl rfl (fun q => absurd q (by decide)) (fun _ => ?_)
  refine X_aload_n rfl rfl rfl rfl ?_
  refine X_iconst (v := (1 : Int32)) rfl rfl rfl ?_
  refine X_iload_n rfl rfl rfl rfl ?_
  refine X_ishl (v := (262144 : Int32)) rfl rfl rfl ?_
  refine X_callV (as := [.int (262144 : Int32)]) (st := []) rfl rfl rfl (by decide) rfl (Nat.le_of_ble_eq_true rfl) (by decide) (Nat.le_of_ble_eq_true rfl) rfl ((congrFun F.1 355).trans s_355) (by decide) ?_
  refine LW_ls (ls' := [some (.ref 355), some (.int (262144 : Int32)), none, none]) rfl ?_
  refine X_iconst (v := (0 : Int32)) rfl rfl rfl ?_
  refine X_istore_n (i := 2) (ls' := [some (.ref 355), some (.int (262144 : Int32)), some (.int (0 : Int32)), none]) rfl rfl rfl (Nat.le_of_ble_eq_true rfl) rfl ?_
  refine X_iconst (v := (0 : Int32)) rfl rfl rfl ?_
  refine X_istore_n (i := 3) (ls' := [some (.ref 355), some (.int (262144 : Int32)), some (.int (0 : Int32)), some (.int (0 : Int32))]) rfl rfl rfl (Nat.le_of_ble_eq_true rfl) rfl ?_
  refine X_iload_n rfl rfl rfl rfl ?_
  refine X_aload_n rfl rfl rfl rfl ?_
  refine X_getR (a := 356) rfl rfl rfl ((congrFun F.1 355).trans s_355) rfl ((congrFun (F.2.1 355 (by decide)) 0).trans r_355_0) ?_
  refine X_iconst (v := (1 : Int32)) rfl rfl rfl ?_
  refine X_iald (v := (0 : Int32)) rfl rfl ((congrFun F.1 356).trans s_356) (vp_in_d rfl) ((congrFun (F.2.2 356 (by decide)).1 1).trans i_356_1) ?_
  refine X_icmp_ge (tgt := 38) rfl rfl rfl (fun _ => ?_) (fun q => absurd q (by decide))
  refine X_iload_n rfl rfl rfl rfl ?_
  refine LW_ireturn (st := []) rfl rfl rfl ?_
  refine X_aload_n rfl rfl rfl rfl ?_
  refine X_iconst (v := (1 : Int32)) rfl rfl rfl ?_
  refine X_iload_n rfl rfl rfl rfl ?_
  refine X_ishl (v := (1 : Int32)) rfl rfl rfl ?_
  refine X_callV (as := [.int (1 : Int32)]) (st := [.int (0 : Int32)]) rfl rfl rfl (by decide) rfl (Nat.le_of_ble_eq_true rfl) (by decide) (Nat.le_of_ble_eq_true rfl) rfl ((congrFun F.1 355).trans s_355) (by decide) ?_
  refine LW_ls (ls' := [some (.ref 355), some (.int (1 : Int32)), none, none]) rfl ?_
  refine X_iconst (v := (0 : Int32)) rfl rfl rfl ?_
  refine X_istore_n (i := 2) (ls' := [some (.ref 355), some (.int (1 : Int32)), some (.int (0 : Int32)), none]) rfl rfl rfl (Nat.le_of_ble_eq_true rfl) rfl ?_
  refine X_iconst (v := (0 : Int32)) rfl rfl rfl ?_
  refine X_istore_n (i := 3) (ls' := [some (.ref 355), some (.int (1 : Int32)), some (.int (0 : Int32)), some (.int (0 : Int32))]) rfl rfl rfl (Nat.le_of_ble_eq_true rfl) rfl ?_
  refine X_iload_n rfl rfl rfl rfl ?_
  refine X_aload_n rfl rfl rfl rfl ?_
  refine X_getR (a := 356) rfl rfl rfl ((congrFun F.1 355).trans s_355) rfl ((congrFun (F.2.1 355 (by decide)) 0).trans r_355_0) ?_
  refine X_iconst (v := (1 : Int32)) rfl rfl rfl ?_
  refine X_iald (v := (0 : Int32)) rfl rfl ((congrFun F.1 356).trans s_356) (vp_in_d rfl) ((congrFun (F.2.2 356 (by decide)).1 1).trans i_356_1) ?_
  refine X_icmp_ge (tgt := 38) rfl rfl rfl (fun _ => ?_) (fun q => absurd q (by decide))
  refine X_iload_n rfl rfl rfl rfl ?_
  refine LW_ireturn (st := []) rfl rfl rfl ?_
  refine X_icmp_le (tgt := 29) rfl rfl rfl (fun _ => ?_) (fun q => absurd q (by decide))
  refine X_iinc (v := (19 : Int32)) (ls' := [some (.ref 355), some (.int (0 : Int32)), some (.int (0 : Int32)), some (.int (19 : Int32))]) rfl rfl rfl rfl rfl ?_
  refine LW_goto (tgt := 4) rfl rfl ?_
  refine X_iload_n rfl rfl rfl rfl ?_
  refine X_bipush (v := (26 : Int32)) rfl rfl rfl ?_
  refine X_icmp_ge (tgt := 35) rfl rfl rfl (fun q => absurd q (by decide)) (fun _ => ?_)
  refine X_aload_n rfl rfl rfl rfl ?_
  refine X_iconst (v := (1 : Int32)) rfl rfl rfl ?_
  refine X_iload_n rfl rfl rfl rfl ?_
  refine X_ishl (v := (524288 : Int32)) rfl rfl rfl ?_
  refine X_callV (as := [.int (524288 : Int32)]) (st := []) rfl rfl rfl (by decide) rfl (Nat.le_of_ble_eq_true rfl) (by decide) (Nat.le_of_ble_eq_true rfl) rfl ((congrFun F.1 355).trans s_355) (by decide) ?_
  refine LW_ls (ls' := [some (.ref 355), some (.int (524288 : Int32)), none, none]) rfl ?_
  refine X_iconst (v := (0 : Int32)) rfl rfl rfl ?_
  refine X_istore_n (i := 2) (ls' := [some (.ref 355), some (.int (524288 : Int32)), some (.int (0 : Int32)), none]) rfl rfl rfl (Nat.le_of_ble_eq_true rfl) rfl ?_
  refine X_iconst (v := (0 : Int32)) rfl rfl rfl ?_
  refine X_istore_n (i := 3) (ls' := [some (.ref 355), some (.int (524288 : Int32)), some (.int (0 : Int32)), some (.int (0 : Int32))]) rfl rfl rfl (Nat.le_of_ble_eq_true rfl) rfl ?_
  refine X_iload_n rfl rfl rfl rfl ?_
  refine X_aload_n rfl rfl rfl rfl ?_
  refine X_getR (a := 356) rfl rfl rfl ((congrFun F.1 355).trans s_355) rfl ((congrFun (F.2.1 355 (by decide)) 0).trans r_355_0) ?_
  refine X_iconst (v := (1 : Int32)) rfl rfl rfl ?_
  refine X_iald (v := (0 : Int32)) rfl rfl ((congrFun F.1 356).trans s_356) (vp_in_d rfl) ((congrFun (F.2.2 356 (by decide)).1 1).trans i_356_1) ?_
  refine X_icmp_ge (tgt := 38) rfl rfl rfl (fun _ => ?_) (fun q => absurd q (by decide))
  refine X_iload_n rfl rfl rfl rfl ?_
  refine LW_ireturn (st := []) rfl rfl rfl ?_
  refine X_aload_n rfl rfl rfl rfl ?_
  refine X_iconst (v := (1 : Int32)) rfl rfl rfl ?_
  refine X_iload_n rfl rfl rfl rfl ?_
  refine X_ishl (v := (1 : Int32)) rfl rfl rfl ?_
  refine X_callV (as := [.int (1 : Int32)]) (st := [.int (0 : Int32)]) rfl rfl rfl (by decide) rfl (Nat.le_of_ble_eq_true rfl) (by decide) (Nat.le_of_ble_eq_true rfl) rfl ((congrFun F.1 355).trans s_355) (by decide) ?_
  refine LW_ls (ls' := [some (.ref 355), some (.int (1 : Int32)), none, none]) rfl ?_
  refine X_iconst (v := (0 : Int32)) rfl rfl rfl ?_
  refine X_istore_n (i := 2) (ls' := [some (.ref 355), some (.int (1 : Int32)), some (.int (0 : Int32)), none]) rfl rfl rfl (Nat.le_of_ble_eq_true rfl) rfl ?_
  refine X_iconst (v := (0 : Int32)) rfl rfl rfl ?_
  refine X_istore_n (i := 3) (ls' := [some (.ref 355), some (.int (1 : Int32)), some (.int (0 : Int32)), some (.int (0 : Int32))]) rfl rfl rfl (Nat.le_of_ble_eq_true rfl) rfl ?_
  refine X_iload_n rfl rfl rfl rfl ?_
  refine X_aload_n rfl rfl rfl rfl ?_
  refine X_getR (a := 356) rfl rfl rfl ((congrFun F.1 355).trans s_355) rfl ((congrFun (F.2.1 355 (by decide)) 0).trans r_355_0) ?_
  refine X_iconst (v := (1 : Int32)) rfl rfl rfl ?_
  refine X_iald (v := (0 : Int32)) rfl rfl ((congrFun F.1 356).trans s_356) (vp_in_d rfl) ((congrFun (F.2.2 356 (by decide)).1 1).trans i_356_1) ?_
  refine X_icmp_ge (tgt := 38) rfl rfl rfl (fun _ => ?_) (fun q => absurd q (by decide))
  refine X_iload_n rfl rfl rfl rfl ?_
  refine LW_ireturn (st := []) rfl rfl rfl ?_
  refine X_icmp_le (tgt := 29) rfl rfl rfl (fun _ => ?_) (fun q => absurd q (by decide))
  refine X_iinc (v := (20 : Int32)) (ls' := [some (.ref 355), some (.int (0 : Int32)), some (.int (0 : Int32)), some (.int (20 : Int32))]) rfl rfl rfl rfl rfl ?_
  refine LW_goto (tgt := 4) rfl rfl ?_
  refine X_iload_n rfl rfl rfl rfl ?_
  refine X_bipush (v := (26 : Int32)) rfl rfl rfl ?_
  refine X_icmp_ge (tgt := 35) rfl rfl rfl (fun q => absurd q (by decide)) (fun _ => ?_)
  refine X_aload_n rfl rfl rfl rfl ?_
  refine X_iconst (v := (1 : Int32)) rfl rfl rfl ?_
  refine X_iload_n rfl rfl rfl rfl ?_
  refine X_ishl (v := (1048576 : Int32)) rfl rfl rfl ?_
  refine X_callV (as := [.int (1048576 : Int32)]) (st := []) rfl rfl rfl (by decide) rfl (Nat.le_of_ble_eq_true rfl) (by decide) (Nat.le_of_ble_eq_true rfl) rfl ((congrFun F.1 355).trans s_355) (by decide) ?_
  refine LW_ls (ls' := [some (.ref 355), some (.int (1048576 : Int32)), none, none]) rfl ?_
  refine X_iconst (v := (0 : Int32)) rfl rfl rfl ?_
  refine X_istore_n (i := 2) (ls' := [some (.ref 355), some (.int (1048576 : Int32)), some (.int (0 : Int32)), none]) rfl rfl rfl (Nat.le_of_ble_eq_true rfl) rfl ?_
  refine X_iconst (v := (0 : Int32)) rfl rfl rfl ?_
  refine X_istore_n (i := 3) (ls' := [some (.ref 355), some (.int (1048576 : Int32)), some (.int (0 : Int32)), some (.int (0 : Int32))]) rfl rfl rfl (Nat.le_of_ble_eq_true rfl) rfl ?_
  refine X_iload_n rfl rfl rfl rfl ?_
  refine X_aload_n rfl rfl rfl rfl ?_
  refine X_getR (a := 356) rfl rfl rfl ((congrFun F.1 355).trans s_355) rfl ((congrFun (F.2.1 355 (by decide)) 0).trans r_355_0) ?_
  refine X_iconst (v := (1 : Int32)) rfl rfl rfl ?_
  refine X_iald (v := (0 : Int32)) rfl rfl ((congrFun F.1 356).trans s_356) (vp_in_d rfl) ((congrFun (F.2.2 356 (by decide)).1 1).trans i_356_1) ?_
  refine X_icmp_ge (tgt := 38) rfl rfl rfl (fun _ => ?_) (fun q => absurd q (by decide))
  refine X_iload_n rfl rfl rfl rfl ?_
  refine LW_ireturn (st := []) rfl rfl rfl ?_
  refine X_aload_n rfl rfl rfl rfl ?_
  refine X_iconst (v := (1 : Int32)) rfl rfl rfl ?_
  refine X_iload_n rfl rfl rfl rfl ?_
  refine X_ishl (v := (1 : Int32)) rfl rfl rfl ?_
  refine X_callV (as := [.int (1 : Int32)]) (st := [.int (0 : Int32)]) rfl rfl rfl (by decide) rfl (Nat.le_of_ble_eq_true rfl) (by decide) (Nat.le_of_ble_eq_true rfl) rfl ((congrFun F.1 355).trans s_355) (by decide) ?_
  refine LW_ls (ls' := [some (.ref 355), some (.int (1 : Int32)), none, none]) rfl ?_
  refine X_iconst (v := (0 : Int32)) rfl rfl rfl ?_
  refine X_istore_n (i := 2) (ls' := [some (.ref 355), some (.int (1 : Int32)), some (.int (0 : Int32)), none]) rfl rfl rfl (Nat.le_of_ble_eq_true rfl) rfl ?_
  refine X_iconst (v := (0 : Int32)) rfl rfl rfl ?_
  refine X_istore_n (i := 3) (ls' := [some (.ref 355), some (.int (1 : Int32)), some (.int (0 : Int32)), some (.int (0 : Int32))]) rfl rfl rfl (Nat.le_of_ble_eq_true rfl) rfl ?_
  refine X_iload_n rfl rfl rfl rfl ?_
  refine X_aload_n rfl rfl rfl rfl ?_
  refine X_getR (a := 356) rfl rfl rfl ((congrFun F.1 355).trans s_355) rfl ((congrFun (F.2.1 355 (by decide)) 0).trans r_355_0) ?_
  refine X_iconst (v := (1 : Int32)) rfl rfl rfl ?_
  refine X_iald (v := (0 : Int32)) rfl rfl ((congrFun F.1 356).trans s_356) (vp_in_d rfl) ((congrFun (F.2.2 356 (by decide)).1 1).trans i_356_1) ?_
  refine X_icmp_ge (tgt := 38) rfl rfl rfl (fun _ => ?_) (fun q => absurd q (by decide))
  refine X_iload_n rfl rfl rfl rfl ?_
  refine LW_ireturn (st := []) rfl rfl rfl ?_
  refine X_icmp_le (tgt := 29) rfl rfl rfl (fun _ => ?_) (fun q => absurd q (by decide))
  refine X_iinc (v := (21 : Int32)) (ls' := [some (.ref 355), some (.int (0 : Int32)), some (.int (0 : Int32)), some (.int (21 : Int32))]) rfl rfl rfl rfl rfl ?_
  refine LW_goto (tgt := 4) rfl rfl ?_
  refine X_iload_n rfl rfl rfl rfl ?_
  refine X_bipush (v := (26 : Int32)) rfl rfl rfl ?_
  refine X_icmp_ge (tgt := 35) rfl rfl rfl (fun q => absurd q (by decide)) (fun _ => ?_)
  refine X_aload_n rfl rfl rfl rfl ?_
  refine X_iconst (v := (1 : Int32)) rfl rfl rfl ?_
  refine X_iload_n rfl rfl rfl rfl ?_
  refine X_ishl (v := (2097152 : Int32)) rfl rfl rfl ?_
  refine X_callV (as := [.int (2097152 : Int32)]) (st := []) rfl rfl rfl (by decide) rfl (Nat.le_of_ble_eq_true rfl) (by decide) (Nat.le_of_ble_eq_true rfl) rfl ((congrFun F.1 355).trans s_355) (by decide) ?_
  refine LW_ls (ls' := [some (.ref 355), some (.int (2097152 : Int32)), none, none]) rfl ?_
  refine X_iconst (v := (0 : Int32)) rfl rfl rfl ?_
  refine X_istore_n (i := 2) (ls' := [some (.ref 355), some (.int (2097152 : Int32)), some (.int (0 : Int32)), none]) rfl rfl rfl (Nat.le_of_ble_eq_true rfl) rfl ?_
  refine X_iconst (v := (0 : Int32)) rfl rfl rfl ?_
  refine X_istore_n (i := 3) (ls' := [some (.ref 355), some (.int (2097152 : Int32)), some (.int (0 : Int32)), some (.int (0 : Int32))]) rfl rfl rfl (Nat.le_of_ble_eq_true rfl) rfl ?_
  refine X_iload_n rfl rfl rfl rfl ?_
  refine X_aload_n rfl rfl rfl rfl ?_
  refine X_getR (a := 356) rfl rfl rfl ((congrFun F.1 355).trans s_355) rfl ((congrFun (F.2.1 355 (by decide)) 0).trans r_355_0) ?_
  refine X_iconst (v := (1 : Int32)) rfl rfl rfl ?_
  refine X_iald (v := (0 : Int32)) rfl rfl ((congrFun F.1 356).trans s_356) (vp_in_d rfl) ((congrFun (F.2.2 356 (by decide)).1 1).trans i_356_1) ?_
  refine X_icmp_ge (tgt := 38) rfl rfl rfl (fun _ => ?_) (fun q => absurd q (by decide))
  refine X_iload_n rfl rfl rfl rfl ?_
  refine LW_ireturn (st := []) rfl rfl rfl ?_
  refine X_aload_n rfl rfl rfl rfl ?_
  refine X_iconst (v := (1 : Int32)) rfl rfl rfl ?_
  refine X_iload_n rfl rfl rfl rfl ?_
  refine X_ishl (v := (1 : Int32)) rfl rfl rfl ?_
  refine X_callV (as := [.int (1 : Int32)]) (st := [.int (0 : Int32)]) rfl rfl rfl (by decide) rfl (Nat.le_of_ble_eq_true rfl) (by decide) (Nat.le_of_ble_eq_true rfl) rfl ((congrFun F.1 355).trans s_355) (by decide) ?_
  refine LW_ls (ls' := [some (.ref 355), some (.int (1 : Int32)), none, none]) rfl ?_
  refine X_iconst (v := (0 : Int32)) rfl rfl rfl ?_
  refine X_istore_n (i := 2) (ls' := [some (.ref 355), some (.int (1 : Int32)), some (.int (0 : Int32)), none]) rfl rfl rfl (Nat.le_of_ble_eq_true rfl) rfl ?_
  refine X_iconst (v := (0 : Int32)) rfl rfl rfl ?_
  refine X_istore_n (i := 3) (ls' := [some (.ref 355), some (.int (1 : Int32)), some (.int (0 : Int32)), some (.int (0 : Int32))]) rfl rfl rfl (Nat.le_of_ble_eq_true rfl) rfl ?_
  refine X_iload_n rfl rfl rfl rfl ?_
  refine X_aload_n rfl rfl rfl rfl ?_
  refine X_getR (a := 356) rfl rfl rfl ((congrFun F.1 355).trans s_355) rfl ((congrFun (F.2.1 355 (by decide)) 0).trans r_355_0) ?_
  refine X_iconst (v := (1 : Int32)) rfl rfl rfl ?_
  refine X_iald (v := (0 : Int32)) rfl rfl ((congrFun F.1 356).trans s_356) (vp_in_d rfl) ((congrFun (F.2.2 356 (by decide)).1 1).trans i_356_1) ?_
  refine X_icmp_ge (tgt := 38) rfl rfl rfl (fun _ => ?_) (fun q => absurd q (by decide))
  refine X_iload_n rfl rfl rfl rfl ?_
  refine LW_ireturn (st := []) rfl rfl rfl ?_
  refine X_icmp_le (tgt := 29) rfl rfl rfl (fun _ => ?_) (fun q => absurd q (by decide))
  refine X_iinc (v := (22 : Int32)) (ls' := [some (.ref 355), some (.int (0 : Int32)), some (.int (0 : Int32)), some (.int (22 : Int32))]) rfl rfl rfl rfl rfl ?_
  refine LW_goto (tgt := 4) rfl rfl ?_
  refine X_iload_n rfl rfl rfl rfl ?_
  refine X_bipush (v := (26 : Int32)) rfl rfl rfl ?_
  refine X_icmp_ge (tgt := 35) rfl rfl rfl (fun q => absurd q (by decide)) (fun _ => ?_)
  refine X_aload_n rfl rfl rfl rfl ?_
  refine X_iconst (v := (1 : Int32)) rfl rfl rfl ?_
  refine X_iload_n rfl rfl rfl rfl ?_
  refine X_ishl (v := (4194304 : Int32)) rfl rfl rfl ?_
  refine X_callV (as := [.int (4194304 : Int32)]) (st := []) rfl rfl rfl (by decide) rfl (Nat.le_of_ble_eq_true rfl) (by decide) (Nat.le_of_ble_eq_true rfl) rfl ((congrFun F.1 355).trans s_355) (by decide) ?_
  refine LW_ls (ls' := [some (.ref 355), some (.int (4194304 : Int32)), none, none]) rfl ?_
  refine X_iconst (v := (0 : Int32)) rfl rfl rfl ?_
  refine X_istore_n (i := 2) (ls' := [some (.ref 355), some (.int (4194304 : Int32)), some (.int (0 : Int32)), none]) rfl rfl rfl (Nat.le_of_ble_eq_true rfl) rfl ?_
  refine X_iconst (v := (0 : Int32)) rfl rfl rfl ?_
  refine X_istore_n (i := 3) (ls' := [some (.ref 355), some (.int (4194304 : Int32)), some (.int (0 : Int32)), some (.int (0 : Int32))]) rfl rfl rfl (Nat.le_of_ble_eq_true rfl) rfl ?_
  refine X_iload_n rfl rfl rfl rfl ?_
  refine X_aload_n rfl rfl rfl rfl ?_
  refine X_getR (a := 356) rfl rfl rfl ((congrFun F.1 355).trans s_355) rfl ((congrFun (F.2.1 355 (by decide)) 0).trans r_355_0) ?_
  refine X_iconst (v := (1 : Int32)) rfl rfl rfl ?_
  refine X_iald (v := (0 : Int32)) rfl rfl ((congrFun F.1 356).trans s_356) (vp_in_d rfl) ((congrFun (F.2.2 356 (by decide)).1 1).trans i_356_1) ?_
  refine X_icmp_ge (tgt := 38) rfl rfl rfl (fun _ => ?_) (fun q => absurd q (by decide))
  refine X_iload_n rfl rfl rfl rfl ?_
  refine LW_ireturn (st := []) rfl rfl rfl ?_
  refine X_aload_n rfl rfl rfl rfl ?_
  refine X_iconst (v := (1 : Int32)) rfl rfl rfl ?_
  refine X_iload_n rfl rfl rfl rfl ?_
  refine X_ishl (v := (1 : Int32)) rfl rfl rfl ?_
  refine X_callV (as := [.int (1 : Int32)]) (st := [.int (0 : Int32)]) rfl rfl rfl (by decide) rfl (Nat.le_of_ble_eq_true rfl) (by decide) (Nat.le_of_ble_eq_true rfl) rfl ((congrFun F.1 355).trans s_355) (by decide) ?_
  refine LW_ls (ls' := [some (.ref 355), some (.int (1 : Int32)), none, none]) rfl ?_
  refine X_iconst (v := (0 : Int32)) rfl rfl rfl ?_
  refine X_istore_n (i := 2) (ls' := [some (.ref 355), some (.int (1 : Int32)), some (.int (0 : Int32)), none]) rfl rfl rfl (Nat.le_of_ble_eq_true rfl) rfl ?_
  refine X_iconst (v := (0 : Int32)) rfl rfl rfl ?_
  refine X_istore_n (i := 3) (ls' := [some (.ref 355), some (.int (1 : Int32)), some (.int (0 : Int32)), some (.int (0 : Int32))]) rfl rfl rfl (Nat.le_of_ble_eq_true rfl) rfl ?_
  refine X_iload_n rfl rfl rfl rfl ?_
  refine X_aload_n rfl rfl rfl rfl ?_
  refine X_getR (a := 356) rfl rfl rfl ((congrFun F.1 355).trans s_355) rfl ((congrFun (F.2.1 355 (by decide)) 0).trans r_355_0) ?_
  refine X_iconst (v := (1 : Int32)) rfl rfl rfl ?_
  refine X_iald (v := (0 : Int32)) rfl rfl ((congrFun F.1 356).trans s_356) (vp_in_d rfl) ((congrFun (F.2.2 356 (by decide)).1 1).trans i_356_1) ?_
  refine X_icmp_ge (tgt := 38) rfl rfl rfl (fun _ => ?_) (fun q => absurd q (by decide))
  refine X_iload_n rfl rfl rfl rfl ?_
  refine LW_ireturn (st := []) rfl rfl rfl ?_
  refine X_icmp_le (tgt := 29) rfl rfl rfl (fun _ => ?_) (fun q => absurd q (by decide))
  refine X_iinc (v := (23 : Int32)) (ls' := [some (.ref 355), some (.int (0 : Int32)), some (.int (0 : Int32)), some (.int (23 : Int32))]) rfl rfl rfl rfl rfl ?_
  refine LW_goto (tgt := 4) rfl rfl ?_
  refine X_iload_n rfl rfl rfl rfl ?_
  refine X_bipush (v := (26 : Int32)) rfl rfl rfl ?_
  refine X_icmp_ge (tgt := 35) rfl rfl rfl (fun q => absurd q (by decide)) (fun _ => ?_)
  refine X_aload_n rfl rfl rfl rfl ?_
  refine X_iconst (v := (1 : Int32)) rfl rfl rfl ?_
  refine X_iload_n rfl rfl rfl rfl ?_
  refine X_ishl (v := (8388608 : Int32)) rfl rfl rfl ?_
  refine X_callV (as := [.int (8388608 : Int32)]) (st := []) rfl rfl rfl (by decide) rfl (Nat.le_of_ble_eq_true rfl) (by decide) (Nat.le_of_ble_eq_true rfl) rfl ((congrFun F.1 355).trans s_355) (by decide) ?_
  refine LW_ls (ls' := [some (.ref 355), some (.int (8388608 : Int32)), none, none]) rfl ?_
  refine X_iconst (v := (0 : Int32)) rfl rfl rfl ?_
  refine X_istore_n (i := 2) (ls' := [some (.ref 355), some (.int (8388608 : Int32)), some (.int (0 : Int32)), none]) rfl rfl rfl (Nat.le_of_ble_eq_true rfl) rfl ?_
  refine X_iconst (v := (0 : Int32)) rfl rfl rfl ?_
  refine X_istore_n (i := 3) (ls' := [some (.ref 355), some (.int (8388608 : Int32)), some (.int (0 : Int32)), some (.int (0 : Int32))]) rfl rfl rfl (Nat.le_of_ble_eq_true rfl) rfl ?_
  refine X_iload_n rfl rfl rfl rfl ?_
  refine X_aload_n rfl rfl rfl rfl ?_
  refine X_getR (a := 356) rfl rfl rfl ((congrFun F.1 355).trans s_355) rfl ((congrFun (F.2.1 355 (by decide)) 0).trans r_355_0) ?_
  refine X_iconst (v := (1 : Int32)) rfl rfl rfl ?_
  refine X_iald (v := (0 : Int32)) rfl rfl ((congrFun F.1 356).trans s_356) (vp_in_d rfl) ((congrFun (F.2.2 356 (by decide)).1 1).trans i_356_1) ?_
  refine X_icmp_ge (tgt := 38) rfl rfl rfl (fun _ => ?_) (fun q => absurd q (by decide))
  refine X_iload_n rfl rfl rfl rfl ?_
  refine LW_ireturn (st := []) rfl rfl rfl ?_
  refine X_aload_n rfl rfl rfl rfl ?_
  refine X_iconst (v := (1 : Int32)) rfl rfl rfl ?_
  refine X_iload_n rfl rfl rfl rfl ?_
  refine X_ishl (v := (1 : Int32)) rfl rfl rfl ?_
  refine X_callV (as := [.int (1 : Int32)]) (st := [.int (0 : Int32)]) rfl rfl rfl (by decide) rfl (Nat.le_of_ble_eq_true rfl) (by decide) (Nat.le_of_ble_eq_true rfl) rfl ((congrFun F.1 355).trans s_355) (by decide) ?_
  refine LW_ls (ls' := [some (.ref 355), some (.int (1 : Int32)), none, none]) rfl ?_
  refine X_iconst (v := (0 : Int32)) rfl rfl rfl ?_
  refine X_istore_n (i := 2) (ls' := [some (.ref 355), some (.int (1 : Int32)), some (.int (0 : Int32)), none]) rfl rfl rfl (Nat.le_of_ble_eq_true rfl) rfl ?_
  refine X_iconst (v := (0 : Int32)) rfl rfl rfl ?_
  refine X_istore_n (i := 3) (ls' := [some (.ref 355), some (.int (1 : Int32)), some (.int (0 : Int32)), some (.int (0 : Int32))]) rfl rfl rfl (Nat.le_of_ble_eq_true rfl) rfl ?_
  refine X_iload_n rfl rfl rfl rfl ?_
  refine X_aload_n rfl rfl rfl rfl ?_
  refine X_getR (a := 356) rfl rfl rfl ((congrFun F.1 355).trans s_355) rfl ((congrFun (F.2.1 355 (by decide)) 0).trans r_355_0) ?_
  refine X_iconst (v := (1 : Int32)) rfl rfl rfl ?_
  refine X_iald (v := (0 : Int32)) rfl rfl ((congrFun F.1 356).trans s_356) (vp_in_d rfl) ((congrFun (F.2.2 356 (by decide)).1 1).trans i_356_1) ?_
  refine X_icmp_ge (tgt := 38) rfl rfl rfl (fun _ => ?_) (fun q => absurd q (by decide))
  refine X_iload_n rfl rfl rfl rfl ?_
  refine LW_ireturn (st := []) rfl rfl rfl ?_
  refine X_icmp_le (tgt := 29) rfl rfl rfl (fun _ => ?_) (fun q => absurd q (by decide))
  refine X_iinc (v := (24 : Int32)) (ls' := [some (.ref 355), some (.int (0 : Int32)), some (.int (0 : Int32)), some (.int (24 : Int32))]) rfl rfl rfl rfl rfl ?_
  refine LW_goto (tgt := 4) rfl rfl ?_
  refine X_iload_n rfl rfl rfl rfl ?_
  refine X_bipush (v := (26 : Int32)) rfl rfl rfl ?_
  refine X_icmp_ge (tgt := 35) rfl rfl rfl (fun q => absurd q (by decide)) (fun _ => ?_)
  refine X_aload_n rfl rfl rfl rfl ?_
  refine X_iconst (v := (1 : Int32)) rfl rfl rfl ?_
  refine X_iload_n rfl rfl rfl rfl ?_
  refine X_ishl (v := (16777216 : Int32)) rfl rfl rfl ?_
  refine X_callV (as := [.int (16777216 : Int32)]) (st := []) rfl rfl rfl (by decide) rfl (Nat.le_of_ble_eq_true rfl) (by decide) (Nat.le_of_ble_eq_true rfl) rfl ((congrFun F.1 355).trans s_355) (by decide) ?_
  refine LW_ls (ls' := [some (.ref 355), some (.int (16777216 : Int32)), none, none]) rfl ?_
  refine X_iconst (v := (0 : Int32)) rfl rfl rfl ?_
  refine X_istore_n (i := 2) (ls' := [some (.ref 355), some (.int (16777216 : Int32)), some (.int (0 : Int32)), none]) rfl rfl rfl (Nat.le_of_ble_eq_true rfl) rfl ?_
  refine X_iconst (v := (0 : Int32)) rfl rfl rfl ?_
  refine X_istore_n (i := 3) (ls' := [some (.ref 355), some (.int (16777216 : Int32)), some (.int (0 : Int32)), some (.int (0 : Int32))]) rfl rfl rfl (Nat.le_of_ble_eq_true rfl) rfl ?_
  refine X_iload_n rfl rfl rfl rfl ?_
  refine X_aload_n rfl rfl rfl rfl ?_
  refine X_getR (a := 356) rfl rfl rfl ((congrFun F.1 355).trans s_355) rfl ((congrFun (F.2.1 355 (by decide)) 0).trans r_355_0) ?_
  refine X_iconst (v := (1 : Int32)) rfl rfl rfl ?_
  refine X_iald (v := (0 : Int32)) rfl rfl ((congrFun F.1 356).trans s_356) (vp_in_d rfl) ((congrFun (F.2.2 356 (by decide)).1 1).trans i_356_1) ?_
  refine X_icmp_ge (tgt := 38) rfl rfl rfl (fun _ => ?_) (fun q => absurd q (by decide))
  refine X_iload_n rfl rfl rfl rfl ?_
  refine LW_ireturn (st := []) rfl rfl rfl ?_
  refine X_aload_n rfl rfl rfl rfl ?_
  refine X_iconst (v := (1 : Int32)) rfl rfl rfl ?_
  refine X_iload_n rfl rfl rfl rfl ?_
  refine X_ishl (v := (1 : Int32)) rfl rfl rfl ?_
  refine X_callV (as := [.int (1 : Int32)]) (st := [.int (0 : Int32)]) rfl rfl rfl (by decide) rfl (Nat.le_of_ble_eq_true rfl) (by decide) (Nat.le_of_ble_eq_true rfl) rfl ((congrFun F.1 355).trans s_355) (by decide) ?_
  refine LW_ls (ls' := [some (.ref 355), some (.int (1 : Int32)), none, none]) rfl ?_
  refine X_iconst (v := (0 : Int32)) rfl rfl rfl ?_
  refine X_istore_n (i := 2) (ls' := [some (.ref 355), some (.int (1 : Int32)), some (.int (0 : Int32)), none]) rfl rfl rfl (Nat.le_of_ble_eq_true rfl) rfl ?_
  refine X_iconst (v := (0 : Int32)) rfl rfl rfl ?_
  refine X_istore_n (i := 3) (ls' := [some (.ref 355), some (.int (1 : Int32)), some (.int (0 : Int32)), some (.int (0 : Int32))]) rfl rfl rfl (Nat.le_of_ble_eq_true rfl) rfl ?_
  refine X_iload_n rfl rfl rfl rfl ?_
  refine X_aload_n rfl rfl rfl rfl ?_
  refine X_getR (a := 356) rfl rfl rfl ((congrFun F.1 355).trans s_355) rfl ((congrFun (F.2.1 355 (by decide)) 0).trans r_355_0) ?_
  refine X_iconst (v := (1 : Int32)) rfl rfl rfl ?_
  refine X_iald (v := (0 : Int32)) rfl rfl ((congrFun F.1 356).trans s_356) (vp_in_d rfl) ((congrFun (F.2.2 356 (by decide)).1 1).trans i_356_1) ?_
  refine X_icmp_ge (tgt := 38) rfl rfl rfl (fun _ => ?_) (fun q => absurd q (by decide))
  refine X_iload_n rfl rfl rfl rfl ?_
  refine LW_ireturn (st := []) rfl rfl rfl ?_
  refine X_icmp_le (tgt := 29) rfl rfl rfl (fun _ => ?_) (fun q => absurd q (by decide))
  refine X_iinc (v := (25 : Int32)) (ls' := [some (.ref 355), some (.int (0 : Int32)), some (.int (0 : Int32)), some (.int (25 : Int32))]) rfl rfl rfl rfl rfl ?_
  refine LW_goto (tgt := 4) rfl rfl ?_
  refine X_iload_n rfl rfl rfl rfl ?_
  refine X_bipush (v := (26 : Int32)) rfl rfl rfl ?_
  refine X_icmp_ge (tgt := 35) rfl rfl rfl (fun q => absurd q (by decide)) (fun _ => ?_)
  refine X_aload_n rfl rfl rfl rfl ?_
  refine X_iconst (v := (1 : Int32)) rfl rfl rfl ?_
  refine X_iload_n rfl rfl rfl rfl ?_
  refine X_ishl (v := (33554432 : Int32)) rfl rfl rfl ?_
  refine X_callV (as := [.int (33554432 : Int32)]) (st := []) rfl rfl rfl (by decide) rfl (Nat.le_of_ble_eq_true rfl) (by decide) (Nat.le_of_ble_eq_true rfl) rfl ((congrFun F.1 355).trans s_355) (by decide) ?_
  refine LW_ls (ls' := [some (.ref 355), some (.int (33554432 : Int32)), none, none]) rfl ?_
  refine X_iconst (v := (0 : Int32)) rfl rfl rfl ?_
  refine X_istore_n (i := 2) (ls' := [some (.ref 355), some (.int (33554432 : Int32)), some (.int (0 : Int32)), none]) rfl rfl rfl (Nat.le_of_ble_eq_true rfl) rfl ?_
  refine X_iconst (v := (0 : Int32)) rfl rfl rfl ?_
  refine X_istore_n (i := 3) (ls' := [some (.ref 355), some (.int (33554432 : Int32)), some (.int (0 : Int32)), some (.int (0 : Int32))]) rfl rfl rfl (Nat.le_of_ble_eq_true rfl) rfl ?_
  refine X_iload_n rfl rfl rfl rfl ?_
  refine X_aload_n rfl rfl rfl rfl ?_
  refine X_getR (a := 356) rfl rfl rfl ((congrFun F.1 355).trans s_355) rfl ((congrFun (F.2.1 355 (by decide)) 0).trans r_355_0) ?_
  refine X_iconst (v := (1 : Int32)) rfl rfl rfl ?_
  refine X_iald (v := (0 : Int32)) rfl rfl ((congrFun F.1 356).trans s_356) (vp_in_d rfl) ((congrFun (F.2.2 356 (by decide)).1 1).trans i_356_1) ?_
  refine X_icmp_ge (tgt := 38) rfl rfl rfl (fun _ => ?_) (fun q => absurd q (by decide))
  refine X_iload_n rfl rfl rfl rfl ?_
  refine LW_ireturn (st := []) rfl rfl rfl ?_
  refine X_aload_n rfl rfl rfl rfl ?_
  refine X_iconst (v := (1 : Int32)) rfl rfl rfl ?_
  refine X_iload_n rfl rfl rfl rfl ?_
  refine X_ishl (v := (1 : Int32)) rfl rfl rfl ?_
  refine X_callV (as := [.int (1 : Int32)]) (st := [.int (0 : Int32)]) rfl rfl rfl (by decide) rfl (Nat.le_of_ble_eq_true rfl) (by decide) (Nat.le_of_ble_eq_true rfl) rfl ((congrFun F.1 355).trans s_355) (by decide) ?_
  refine LW_ls (ls' := [some (.ref 355), some (.int (1 : Int32)), none, none]) rfl ?_
  refine X_iconst (v := (0 : Int32)) rfl rfl rfl ?_
  refine X_istore_n (i := 2) (ls' := [some (.ref 355), some (.int (1 : Int32)), some (.int (0 : Int32)), none]) rfl rfl rfl (Nat.le_of_ble_eq_true rfl) rfl ?_
  refine X_iconst (v := (0 : Int32)) rfl rfl rfl ?_
  refine X_istore_n (i := 3) (ls' := [some (.ref 355), some (.int (1 : Int32)), some (.int (0 : Int32)), some (.int (0 : Int32))]) rfl rfl rfl (Nat.le_of_ble_eq_true rfl) rfl ?_
  refine X_iload_n rfl rfl rfl rfl ?_
  refine X_aload_n rfl rfl rfl rfl ?_
  refine X_getR (a := 356) rfl rfl rfl ((congrFun F.1 355).trans s_355) rfl ((congrFun (F.2.1 355 (by decide)) 0).trans r_355_0) ?_
  refine X_iconst (v := (1 : Int32)) rfl rfl rfl ?_
  refine X_iald (v := (0 : Int32)) rfl rfl ((congrFun F.1 356).trans s_356) (vp_in_d rfl) ((congrFun (F.2.2 356 (by decide)).1 1).trans i_356_1) ?_
  refine X_icmp_ge (tgt := 38) rfl rfl rfl (fun _ => ?_) (fun q => absurd q (by decide))
  refine X_iload_n rfl rfl rfl rfl ?_
  refine LW_ireturn (st := []) rfl rfl rfl ?_
  refine X_icmp_le (tgt := 29) rfl rfl rfl (fun _ => ?_) (fun q => absurd q (by decide))
  refine X_iinc (v := (26 : Int32)) (ls' := [some (.ref 355), some (.int (0 : Int32)), some (.int (0 : Int32)), some (.int (26 : Int32))]) rfl rfl rfl rfl rfl ?_
  refine LW_goto (tgt := 4) rfl rfl ?_
  refine X_iload_n rfl rfl rfl rfl ?_
  refine X_bipush (v := (26 : Int32)) rfl rfl rfl ?_
  refine X_icmp_ge (tgt := 35) rfl rfl rfl (fun _ => ?_) (fun q => absurd q (by decide))
  refine X_iload_n rfl rfl rfl rfl ?_
  refine X_if_eq (tgt := 49) rfl rfl rfl (fun _ => ?_) (fun q => absurd q (by decide))
  refine X_iload_n rfl rfl rfl rfl ?_
  refine LW_ireturn (st := []) rfl rfl rfl (congrArg (fun z => some (Value.int z)) ?_)
  unfold f_spared0
  repeat' split
  all_goals first | rfl | (exfalso; omega) | (refine Int32.toInt_inj.mp ?_; rw [show (0 : Int32).toInt = 0 from rfl]; omega)
set_option maxRecDepth 10000 in
set_option maxHeartbeats 4000000 in
theorem c_spared1 {g : LH} (F : Fc g) (E : Fr g) : LW 150 30 0 0 0 (lEnt (mL 150) [.ref 0, .int (1 : Int32)]) [] g (fun v g' => v = some (.int (f_spared1)) ∧ Fr g') := by
  refine LW_ls (ls' := [some (.ref 0), some (.int (1 : Int32)), none, none, none, none]) rfl ?_
  refine X_iconst (v := (0 : Int32)) rfl rfl rfl ?_
  refine X_istore_n (i := 2) (ls' := [some (.ref 0), some (.int (1 : Int32)), some (.int (0 : Int32)), none, none, none]) rfl rfl rfl (Nat.le_of_ble_eq_true rfl) rfl ?_
  refine X_iconst (v := (-1 : Int32)) rfl rfl rfl ?_
  refine X_istore_n (i := 3) (ls' := [some (.ref 0), some (.int (1 : Int32)), some (.int (0 : Int32)), some (.int (-1 : Int32)), none, none]) rfl rfl rfl (Nat.le_of_ble_eq_true rfl) rfl ?_
  refine X_iconst (v := (0 : Int32)) rfl rfl rfl ?_
  refine X_istore (i := 4) (ls' := [some (.ref 0), some (.int (1 : Int32)), some (.int (0 : Int32)), some (.int (-1 : Int32)), some (.int (0 : Int32)), none]) rfl rfl (Nat.le_of_ble_eq_true rfl) rfl ?_
  refine X_iload rfl rfl rfl ?_
  refine X_bipush (v := (26 : Int32)) rfl rfl rfl ?_
  refine X_icmp_ge (tgt := 48) rfl rfl rfl (fun q => absurd q (by decide)) (fun _ => ?_)
  refine X_aload_n rfl rfl rfl rfl ?_
  refine X_getR (a := 1) rfl rfl rfl ((congrFun F.1 0).trans s_0) rfl ((congrFun (F.2.1 0 (by decide)) 0).trans r_0_0) ?_
  refine X_getR (a := 2) rfl rfl rfl ((congrFun F.1 1).trans s_1) rfl ((congrFun (F.2.1 1 (by decide)) 0).trans r_1_0) ?_
  refine X_iconst (v := (1 : Int32)) rfl rfl rfl ?_
  refine X_iload rfl rfl rfl ?_
  refine X_ishl (v := (1 : Int32)) rfl rfl rfl ?_
  refine X_callV (as := [.int (1 : Int32)]) (st := []) rfl rfl rfl (by decide) rfl (Nat.le_of_ble_eq_true rfl) (by decide) (Nat.le_of_ble_eq_true rfl) rfl ((congrFun F.1 2).trans s_2) (by decide) ?_
  refine LW_ls (ls' := [some (.ref 2), some (.int (1 : Int32)), none, none, none]) rfl ?_
  refine X_aload_n rfl rfl rfl rfl ?_
  refine X_iload_n rfl rfl rfl rfl ?_
  refine X_callV (as := [.int (1 : Int32)]) (st := []) rfl rfl rfl (by decide) rfl (Nat.le_of_ble_eq_true rfl) (by decide) (Nat.le_of_ble_eq_true rfl) rfl ((congrFun F.1 2).trans s_2) (by decide) ?_
  refine LW_ls (ls' := [some (.ref 2), some (.int (1 : Int32)), none, none]) rfl ?_
  refine X_iconst (v := (0 : Int32)) rfl rfl rfl ?_
  refine X_istore_n (i := 2) (ls' := [some (.ref 2), some (.int (1 : Int32)), some (.int (0 : Int32)), none]) rfl rfl rfl (Nat.le_of_ble_eq_true rfl) rfl ?_
  refine X_iconst (v := (0 : Int32)) rfl rfl rfl ?_
  refine X_istore_n (i := 3) (ls' := [some (.ref 2), some (.int (1 : Int32)), some (.int (0 : Int32)), some (.int (0 : Int32))]) rfl rfl rfl (Nat.le_of_ble_eq_true rfl) rfl ?_
  refine X_iload_n rfl rfl rfl rfl ?_
  refine X_aload_n rfl rfl rfl rfl ?_
  refine X_getI (v := (0 : Int32)) rfl rfl rfl ((congrFun F.1 2).trans s_2) rfl ((congrFun (F.2.2 2 (by decide)).1 0).trans i_2_0) ?_
  refine X_icmp_ge (tgt := 40) rfl rfl rfl (fun _ => ?_) (fun q => absurd q (by decide))
  refine X_iload_n rfl rfl rfl rfl ?_
  refine LW_ireturn (st := []) rfl rfl rfl ?_
  refine X_istore_n (i := 2) (ls' := [some (.ref 2), some (.int (1 : Int32)), some (.int (0 : Int32)), none, none]) rfl rfl rfl (Nat.le_of_ble_eq_true rfl) rfl ?_
  refine X_iconst (v := (0 : Int32)) rfl rfl rfl ?_
  refine X_istore_n (i := 3) (ls' := [some (.ref 2), some (.int (1 : Int32)), some (.int (0 : Int32)), some (.int (0 : Int32)), none]) rfl rfl rfl (Nat.le_of_ble_eq_true rfl) rfl ?_
  refine X_iconst (v := (0 : Int32)) rfl rfl rfl ?_
  refine X_istore (i := 4) (ls' := [some (.ref 2), some (.int (1 : Int32)), some (.int (0 : Int32)), some (.int (0 : Int32)), some (.int (0 : Int32))]) rfl rfl (Nat.le_of_ble_eq_true rfl) rfl ?_
  refine X_iload rfl rfl rfl ?_
  refine X_aload_n rfl rfl rfl rfl ?_
  refine X_getI (v := (0 : Int32)) rfl rfl rfl ((congrFun F.1 2).trans s_2) rfl ((congrFun (F.2.2 2 (by decide)).1 1).trans i_2_1) ?_
  refine X_icmp_ge (tgt := 48) rfl rfl rfl (fun _ => ?_) (fun q => absurd q (by decide))
  refine X_iload_n rfl rfl rfl rfl ?_
  refine LW_ireturn (st := []) rfl rfl rfl ?_
  refine X_istore (i := 5) (ls' := [some (.ref 0), some (.int (1 : Int32)), some (.int (0 : Int32)), some (.int (-1 : Int32)), some (.int (0 : Int32)), some (.int (0 : Int32))]) rfl rfl (Nat.le_of_ble_eq_true rfl) rfl ?_
  refine X_iload rfl rfl rfl ?_
  refine X_iload_n rfl rfl rfl rfl ?_
  refine X_icmp_le (tgt := 42) rfl rfl rfl (fun q => absurd q (by decide)) (fun _ => ?_)
  refine X_iload rfl rfl rfl ?_
  refine X_istore_n (i := 3) (ls' := [some (.ref 0), some (.int (1 : Int32)), some (.int (0 : Int32)), some (.int (0 : Int32)), some (.int (0 : Int32)), some (.int (0 : Int32))]) rfl rfl rfl (Nat.le_of_ble_eq_true rfl) rfl ?_
  refine X_iload rfl rfl rfl ?_
  refine X_istore_n (i := 2) (ls' := [some (.ref 0), some (.int (1 : Int32)), some (.int (0 : Int32)), some (.int (0 : Int32)), some (.int (0 : Int32)), some (.int (0 : Int32))]) rfl rfl rfl (Nat.le_of_ble_eq_true rfl) rfl ?_
  refine X_iinc (v := (1 : Int32)) (ls' := [some (.ref 0), some (.int (1 : Int32)), some (.int (0 : Int32)), some (.int (0 : Int32)), some (.int (1 : Int32)), some (.int (0 : Int32))]) rfl rfl rfl rfl rfl ?_
  refine LW_goto (tgt := 7) rfl rfl ?_
  refine X_iload rfl rfl rfl ?_
  refine X_bipush (v := (26 : Int32)) rfl rfl rfl ?_
  refine X_icmp_ge (tgt := 48) rfl rfl rfl (fun q => absurd q (by decide)) (fun _ => ?_)
  refine X_aload_n rfl rfl rfl rfl ?_
  refine X_getR (a := 1) rfl rfl rfl ((congrFun F.1 0).trans s_0) rfl ((congrFun (F.2.1 0 (by decide)) 0).trans r_0_0) ?_
  refine X_getR (a := 2) rfl rfl rfl ((congrFun F.1 1).trans s_1) rfl ((congrFun (F.2.1 1 (by decide)) 0).trans r_1_0) ?_
  refine X_iconst (v := (1 : Int32)) rfl rfl rfl ?_
  refine X_iload rfl rfl rfl ?_
  refine X_ishl (v := (2 : Int32)) rfl rfl rfl ?_
  refine X_callV (as := [.int (2 : Int32)]) (st := []) rfl rfl rfl (by decide) rfl (Nat.le_of_ble_eq_true rfl) (by decide) (Nat.le_of_ble_eq_true rfl) rfl ((congrFun F.1 2).trans s_2) (by decide) ?_
  refine LW_ls (ls' := [some (.ref 2), some (.int (2 : Int32)), none, none, none]) rfl ?_
  refine X_aload_n rfl rfl rfl rfl ?_
  refine X_iload_n rfl rfl rfl rfl ?_
  refine X_callV (as := [.int (2 : Int32)]) (st := []) rfl rfl rfl (by decide) rfl (Nat.le_of_ble_eq_true rfl) (by decide) (Nat.le_of_ble_eq_true rfl) rfl ((congrFun F.1 2).trans s_2) (by decide) ?_
  refine LW_ls (ls' := [some (.ref 2), some (.int (2 : Int32)), none, none]) rfl ?_
  refine X_iconst (v := (0 : Int32)) rfl rfl rfl ?_
  refine X_istore_n (i := 2) (ls' := [some (.ref 2), some (.int (2 : Int32)), some (.int (0 : Int32)), none]) rfl rfl rfl (Nat.le_of_ble_eq_true rfl) rfl ?_
  refine X_iconst (v := (0 : Int32)) rfl rfl rfl ?_
  refine X_istore_n (i := 3) (ls' := [some (.ref 2), some (.int (2 : Int32)), some (.int (0 : Int32)), some (.int (0 : Int32))]) rfl rfl rfl (Nat.le_of_ble_eq_true rfl) rfl ?_
  refine X_iload_n rfl rfl rfl rfl ?_
  refine X_aload_n rfl rfl rfl rfl ?_
  refine X_getI (v := (0 : Int32)) rfl rfl rfl ((congrFun F.1 2).trans s_2) rfl ((congrFun (F.2.2 2 (by decide)).1 0).trans i_2_0) ?_
  refine X_icmp_ge (tgt := 40) rfl rfl rfl (fun _ => ?_) (fun q => absurd q (by decide))
  refine X_iload_n rfl rfl rfl rfl ?_
  refine LW_ireturn (st := []) rfl rfl rfl ?_
  refine X_istore_n (i := 2) (ls' := [some (.ref 2), some (.int (2 : Int32)), some (.int (0 : Int32)), none, none]) rfl rfl rfl (Nat.le_of_ble_eq_true rfl) rfl ?_
  refine X_iconst (v := (0 : Int32)) rfl rfl rfl ?_
  refine X_istore_n (i := 3) (ls' := [some (.ref 2), some (.int (2 : Int32)), some (.int (0 : Int32)), some (.int (0 : Int32)), none]) rfl rfl rfl (Nat.le_of_ble_eq_true rfl) rfl ?_
  refine X_iconst (v := (0 : Int32)) rfl rfl rfl ?_
  refine X_istore (i := 4) (ls' := [some (.ref 2), some (.int (2 : Int32)), some (.int (0 : Int32)), some (.int (0 : Int32)), some (.int (0 : Int32))]) rfl rfl (Nat.le_of_ble_eq_true rfl) rfl ?_
  refine X_iload rfl rfl rfl ?_
  refine X_aload_n rfl rfl rfl rfl ?_
  refine X_getI (v := (0 : Int32)) rfl rfl rfl ((congrFun F.1 2).trans s_2) rfl ((congrFun (F.2.2 2 (by decide)).1 1).trans i_2_1) ?_
  refine X_icmp_ge (tgt := 48) rfl rfl rfl (fun _ => ?_) (fun q => absurd q (by decide))
  refine X_iload_n rfl rfl rfl rfl ?_
  refine LW_ireturn (st := []) rfl rfl rfl ?_
  refine X_istore (i := 5) (ls' := [some (.ref 0), some (.int (1 : Int32)), some (.int (0 : Int32)), some (.int (0 : Int32)), some (.int (1 : Int32)), some (.int (0 : Int32))]) rfl rfl (Nat.le_of_ble_eq_true rfl) rfl ?_
  refine X_iload rfl rfl rfl ?_
  refine X_iload_n rfl rfl rfl rfl ?_
  refine X_icmp_le (tgt := 42) rfl rfl rfl (fun _ => ?_) (fun q => absurd q (by decide))
  refine X_iinc (v := (2 : Int32)) (ls' := [some (.ref 0), some (.int (1 : Int32)), some (.int (0 : Int32)), some (.int (0 : Int32)), some (.int (2 : Int32)), some (.int (0 : Int32))]) rfl rfl rfl rfl rfl ?_
  refine LW_goto (tgt := 7) rfl rfl ?_
  refine X_iload rfl rfl rfl ?_
  refine X_bipush (v := (26 : Int32)) rfl rfl rfl ?_
  refine X_icmp_ge (tgt := 48) rfl rfl rfl (fun q => absurd q (by decide)) (fun _ => ?_)
  refine X_aload_n rfl rfl rfl rfl ?_
  refine X_getR (a := 1) rfl rfl rfl ((congrFun F.1 0).trans s_0) rfl ((congrFun (F.2.1 0 (by decide)) 0).trans r_0_0) ?_
  refine X_getR (a := 2) rfl rfl rfl ((congrFun F.1 1).trans s_1) rfl ((congrFun (F.2.1 1 (by decide)) 0).trans r_1_0) ?_
  refine X_iconst (v := (1 : Int32)) rfl rfl rfl ?_
  refine X_iload rfl rfl rfl ?_
  refine X_ishl (v := (4 : Int32)) rfl rfl rfl ?_
  refine X_callV (as := [.int (4 : Int32)]) (st := []) rfl rfl rfl (by decide) rfl (Nat.le_of_ble_eq_true rfl) (by decide) (Nat.le_of_ble_eq_true rfl) rfl ((congrFun F.1 2).trans s_2) (by decide) ?_
  refine LW_ls (ls' := [some (.ref 2), some (.int (4 : Int32)), none, none, none]) rfl ?_
  refine X_aload_n rfl rfl rfl rfl ?_
  refine X_iload_n rfl rfl rfl rfl ?_
  refine X_callV (as := [.int (4 : Int32)]) (st := []) rfl rfl rfl (by decide) rfl (Nat.le_of_ble_eq_true rfl) (by decide) (Nat.le_of_ble_eq_true rfl) rfl ((congrFun F.1 2).trans s_2) (by decide) ?_
  refine LW_ls (ls' := [some (.ref 2), some (.int (4 : Int32)), none, none]) rfl ?_
  refine X_iconst (v := (0 : Int32)) rfl rfl rfl ?_
  refine X_istore_n (i := 2) (ls' := [some (.ref 2), some (.int (4 : Int32)), some (.int (0 : Int32)), none]) rfl rfl rfl (Nat.le_of_ble_eq_true rfl) rfl ?_
  refine X_iconst (v := (0 : Int32)) rfl rfl rfl ?_
  refine X_istore_n (i := 3) (ls' := [some (.ref 2), some (.int (4 : Int32)), some (.int (0 : Int32)), some (.int (0 : Int32))]) rfl rfl rfl (Nat.le_of_ble_eq_true rfl) rfl ?_
  refine X_iload_n rfl rfl rfl rfl ?_
  refine X_aload_n rfl rfl rfl rfl ?_
  refine X_getI (v := (0 : Int32)) rfl rfl rfl ((congrFun F.1 2).trans s_2) rfl ((congrFun (F.2.2 2 (by decide)).1 0).trans i_2_0) ?_
  refine X_icmp_ge (tgt := 40) rfl rfl rfl (fun _ => ?_) (fun q => absurd q (by decide))
  refine X_iload_n rfl rfl rfl rfl ?_
  refine LW_ireturn (st := []) rfl rfl rfl ?_
  refine X_istore_n (i := 2) (ls' := [some (.ref 2), some (.int (4 : Int32)), some (.int (0 : Int32)), none, none]) rfl rfl rfl (Nat.le_of_ble_eq_true rfl) rfl ?_
  refine X_iconst (v := (0 : Int32)) rfl rfl rfl ?_
  refine X_istore_n (i := 3) (ls' := [some (.ref 2), some (.int (4 : Int32)), some (.int (0 : Int32)), some (.int (0 : Int32)), none]) rfl rfl rfl (Nat.le_of_ble_eq_true rfl) rfl ?_
  refine X_iconst (v := (0 : Int32)) rfl rfl rfl ?_
  refine X_istore (i := 4) (ls' := [some (.ref 2), some (.int (4 : Int32)), some (.int (0 : Int32)), some (.int (0 : Int32)), some (.int (0 : Int32))]) rfl rfl (Nat.le_of_ble_eq_true rfl) rfl ?_
  refine X_iload rfl rfl rfl ?_
  refine X_aload_n rfl rfl rfl rfl ?_
  refine X_getI (v := (0 : Int32)) rfl rfl rfl ((congrFun F.1 2).trans s_2) rfl ((congrFun (F.2.2 2 (by decide)).1 1).trans i_2_1) ?_
  refine X_icmp_ge (tgt := 48) rfl rfl rfl (fun _ => ?_) (fun q => absurd q (by decide))
  refine X_iload_n rfl rfl rfl rfl ?_
  refine LW_ireturn (st := []) rfl rfl rfl ?_
  refine X_istore (i := 5) (ls' := [some (.ref 0), some (.int (1 : Int32)), some (.int (0 : Int32)), some (.int (0 : Int32)), some (.int (2 : Int32)), some (.int (0 : Int32))]) rfl rfl (Nat.le_of_ble_eq_true rfl) rfl ?_
  refine X_iload rfl rfl rfl ?_
  refine X_iload_n rfl rfl rfl rfl ?_
  refine X_icmp_le (tgt := 42) rfl rfl rfl (fun _ => ?_) (fun q => absurd q (by decide))
  refine X_iinc (v := (3 : Int32)) (ls' := [some (.ref 0), some (.int (1 : Int32)), some (.int (0 : Int32)), some (.int (0 : Int32)), some (.int (3 : Int32)), some (.int (0 : Int32))]) rfl rfl rfl rfl rfl ?_
  refine LW_goto (tgt := 7) rfl rfl ?_
  refine X_iload rfl rfl rfl ?_
  refine X_bipush (v := (26 : Int32)) rfl rfl rfl ?_
  refine X_icmp_ge (tgt := 48) rfl rfl rfl (fun q => absurd q (by decide)) (fun _ => ?_)
  refine X_aload_n rfl rfl rfl rfl ?_
  refine X_getR (a := 1) rfl rfl rfl ((congrFun F.1 0).trans s_0) rfl ((congrFun (F.2.1 0 (by decide)) 0).trans r_0_0) ?_
  refine X_getR (a := 2) rfl rfl rfl ((congrFun F.1 1).trans s_1) rfl ((congrFun (F.2.1 1 (by decide)) 0).trans r_1_0) ?_
  refine X_iconst (v := (1 : Int32)) rfl rfl rfl ?_
  refine X_iload rfl rfl rfl ?_
  refine X_ishl (v := (8 : Int32)) rfl rfl rfl ?_
  refine X_callV (as := [.int (8 : Int32)]) (st := []) rfl rfl rfl (by decide) rfl (Nat.le_of_ble_eq_true rfl) (by decide) (Nat.le_of_ble_eq_true rfl) rfl ((congrFun F.1 2).trans s_2) (by decide) ?_
  refine LW_ls (ls' := [some (.ref 2), some (.int (8 : Int32)), none, none, none]) rfl ?_
  refine X_aload_n rfl rfl rfl rfl ?_
  refine X_iload_n rfl rfl rfl rfl ?_
  refine X_callV (as := [.int (8 : Int32)]) (st := []) rfl rfl rfl (by decide) rfl (Nat.le_of_ble_eq_true rfl) (by decide) (Nat.le_of_ble_eq_true rfl) rfl ((congrFun F.1 2).trans s_2) (by decide) ?_
  refine LW_ls (ls' := [some (.ref 2), some (.int (8 : Int32)), none, none]) rfl ?_
  refine X_iconst (v := (0 : Int32)) rfl rfl rfl ?_
  refine X_istore_n (i := 2) (ls' := [some (.ref 2), some (.int (8 : Int32)), some (.int (0 : Int32)), none]) rfl rfl rfl (Nat.le_of_ble_eq_true rfl) rfl ?_
  refine X_iconst (v := (0 : Int32)) rfl rfl rfl ?_
  refine X_istore_n (i := 3) (ls' := [some (.ref 2), some (.int (8 : Int32)), some (.int (0 : Int32)), some (.int (0 : Int32))]) rfl rfl rfl (Nat.le_of_ble_eq_true rfl) rfl ?_
  refine X_iload_n rfl rfl rfl rfl ?_
  refine X_aload_n rfl rfl rfl rfl ?_
  refine X_getI (v := (0 : Int32)) rfl rfl rfl ((congrFun F.1 2).trans s_2) rfl ((congrFun (F.2.2 2 (by decide)).1 0).trans i_2_0) ?_
  refine X_icmp_ge (tgt := 40) rfl rfl rfl (fun _ => ?_) (fun q => absurd q (by decide))
  refine X_iload_n rfl rfl rfl rfl ?_
  refine LW_ireturn (st := []) rfl rfl rfl ?_
  refine X_istore_n (i := 2) (ls' := [some (.ref 2), some (.int (8 : Int32)), some (.int (0 : Int32)), none, none]) rfl rfl rfl (Nat.le_of_ble_eq_true rfl) rfl ?_
  refine X_iconst (v := (0 : Int32)) rfl rfl rfl ?_
  refine X_istore_n (i := 3) (ls' := [some (.ref 2), some (.int (8 : Int32)), some (.int (0 : Int32)), some (.int (0 : Int32)), none]) rfl rfl rfl (Nat.le_of_ble_eq_true rfl) rfl ?_
  refine X_iconst (v := (0 : Int32)) rfl rfl rfl ?_
  refine X_istore (i := 4) (ls' := [some (.ref 2), some (.int (8 : Int32)), some (.int (0 : Int32)), some (.int (0 : Int32)), some (.int (0 : Int32))]) rfl rfl (Nat.le_of_ble_eq_true rfl) rfl ?_
  refine X_iload rfl rfl rfl ?_
  refine X_aload_n rfl rfl rfl rfl ?_
  refine X_getI (v := (0 : Int32)) rfl rfl rfl ((congrFun F.1 2).trans s_2) rfl ((congrFun (F.2.2 2 (by decide)).1 1).trans i_2_1) ?_
  refine X_icmp_ge (tgt := 48) rfl rfl rfl (fun _ => ?_) (fun q => absurd q (by decide))
  refine X_iload_n rfl rfl rfl rfl ?_
  refine LW_ireturn (st := []) rfl rfl rfl ?_
  refine X_istore (i := 5) (ls' := [some (.ref 0), some (.int (1 : Int32)), some (.int (0 : Int32)), some (.int (0 : Int32)), some (.int (3 : Int32)), some (.int (0 : Int32))]) rfl rfl (Nat.le_of_ble_eq_true rfl) rfl ?_
  refine X_iload rfl rfl rfl ?_
  refine X_iload_n rfl rfl rfl rfl ?_
  refine X_icmp_le (tgt := 42) rfl rfl rfl (fun _ => ?_) (fun q => absurd q (by decide))
  refine X_iinc (v := (4 : Int32)) (ls' := [some (.ref 0), some (.int (1 : Int32)), some (.int (0 : Int32)), some (.int (0 : Int32)), some (.int (4 : Int32)), some (.int (0 : Int32))]) rfl rfl rfl rfl rfl ?_
  refine LW_goto (tgt := 7) rfl rfl ?_
  refine X_iload rfl rfl rfl ?_
  refine X_bipush (v := (26 : Int32)) rfl rfl rfl ?_
  refine X_icmp_ge (tgt := 48) rfl rfl rfl (fun q => absurd q (by decide)) (fun _ => ?_)
  refine X_aload_n rfl rfl rfl rfl ?_
  refine X_getR (a := 1) rfl rfl rfl ((congrFun F.1 0).trans s_0) rfl ((congrFun (F.2.1 0 (by decide)) 0).trans r_0_0) ?_
  refine X_getR (a := 2) rfl rfl rfl ((congrFun F.1 1).trans s_1) rfl ((congrFun (F.2.1 1 (by decide)) 0).trans r_1_0) ?_
  refine X_iconst (v := (1 : Int32)) rfl rfl rfl ?_
  refine X_iload rfl rfl rfl ?_
  refine X_ishl (v := (16 : Int32)) rfl rfl rfl ?_
  refine X_callV (as := [.int (16 : Int32)]) (st := []) rfl rfl rfl (by decide) rfl (Nat.le_of_ble_eq_true rfl) (by decide) (Nat.le_of_ble_eq_true rfl) rfl ((congrFun F.1 2).trans s_2) (by decide) ?_
  refine LW_ls (ls' := [some (.ref 2), some (.int (16 : Int32)), none, none, none]) rfl ?_
  refine X_aload_n rfl rfl rfl rfl ?_
  refine X_iload_n rfl rfl rfl rfl ?_
  refine X_callV (as := [.int (16 : Int32)]) (st := []) rfl rfl rfl (by decide) rfl (Nat.le_of_ble_eq_true rfl) (by decide) (Nat.le_of_ble_eq_true rfl) rfl ((congrFun F.1 2).trans s_2) (by decide) ?_
  refine LW_ls (ls' := [some (.ref 2), some (.int (16 : Int32)), none, none]) rfl ?_
  refine X_iconst (v := (0 : Int32)) rfl rfl rfl ?_
  refine X_istore_n (i := 2) (ls' := [some (.ref 2), some (.int (16 : Int32)), some (.int (0 : Int32)), none]) rfl rfl rfl (Nat.le_of_ble_eq_true rfl) rfl ?_
  refine X_iconst (v := (0 : Int32)) rfl rfl rfl ?_
  refine X_istore_n (i := 3) (ls' := [some (.ref 2), some (.int (16 : Int32)), some (.int (0 : Int32)), some (.int (0 : Int32))]) rfl rfl rfl (Nat.le_of_ble_eq_true rfl) rfl ?_
  refine X_iload_n rfl rfl rfl rfl ?_
  refine X_aload_n rfl rfl rfl rfl ?_
  refine X_getI (v := (0 : Int32)) rfl rfl rfl ((congrFun F.1 2).trans s_2) rfl ((congrFun (F.2.2 2 (by decide)).1 0).trans i_2_0) ?_
  refine X_icmp_ge (tgt := 40) rfl rfl rfl (fun _ => ?_) (fun q => absurd q (by decide))
  refine X_iload_n rfl rfl rfl rfl ?_
  refine LW_ireturn (st := []) rfl rfl rfl ?_
  refine X_istore_n (i := 2) (ls' := [some (.ref 2), some (.int (16 : Int32)), some (.int (0 : Int32)), none, none]) rfl rfl rfl (Nat.le_of_ble_eq_true rfl) rfl ?_
  refine X_iconst (v := (0 : Int32)) rfl rfl rfl ?_
  refine X_istore_n (i := 3) (ls' := [some (.ref 2), some (.int (16 : Int32)), some (.int (0 : Int32)), some (.int (0 : Int32)), none]) rfl rfl rfl (Nat.le_of_ble_eq_true rfl) rfl ?_
  refine X_iconst (v := (0 : Int32)) rfl rfl rfl ?_
  refine X_istore (i := 4) (ls' := [some (.ref 2), some (.int (16 : Int32)), some (.int (0 : Int32)), some (.int (0 : Int32)), some (.int (0 : Int32))]) rfl rfl (Nat.le_of_ble_eq_true rfl) rfl ?_
  refine X_iload rfl rfl rfl ?_
  refine X_aload_n rfl rfl rfl rfl ?_
  refine X_getI (v := (0 : Int32)) rfl rfl rfl ((congrFun F.1 2).trans s_2) rfl ((congrFun (F.2.2 2 (by decide)).1 1).trans i_2_1) ?_
  refine X_icmp_ge (tgt := 48) rfl rfl rfl (fun _ => ?_) (fun q => absurd q (by decide))
  refine X_iload_n rfl rfl rfl rfl ?_
  refine LW_ireturn (st := []) rfl rfl rfl ?_
  refine X_istore (i := 5) (ls' := [some (.ref 0), some (.int (1 : Int32)), some (.int (0 : Int32)), some (.int (0 : Int32)), some (.int (4 : Int32)), some (.int (0 : Int32))]) rfl rfl (Nat.le_of_ble_eq_true rfl) rfl ?_
  refine X_iload rfl rfl rfl ?_
  refine X_iload_n rfl rfl rfl rfl ?_
  refine X_icmp_le (tgt := 42) rfl rfl rfl (fun _ => ?_) (fun q => absurd q (by decide))
  refine X_iinc (v := (5 : Int32)) (ls' := [some (.ref 0), some (.int (1 : Int32)), some (.int (0 : Int32)), some (.int (0 : Int32)), some (.int (5 : Int32)), some (.int (0 : Int32))]) rfl rfl rfl rfl rfl ?_
  refine LW_goto (tgt := 7) rfl rfl ?_
  refine X_iload rfl rfl rfl ?_
  refine X_bipush (v := (26 : Int32)) rfl rfl rfl ?_
  refine X_icmp_ge (tgt := 48) rfl rfl rfl (fun q => absurd q (by decide)) (fun _ => ?_)
  refine X_aload_n rfl rfl rfl rfl ?_
  refine X_getR (a := 1) rfl rfl rfl ((congrFun F.1 0).trans s_0) rfl ((congrFun (F.2.1 0 (by decide)) 0).trans r_0_0) ?_
  refine X_getR (a := 2) rfl rfl rfl ((congrFun F.1 1).trans s_1) rfl ((congrFun (F.2.1 1 (by decide)) 0).trans r_1_0) ?_
  refine X_iconst (v := (1 : Int32)) rfl rfl rfl ?_
  refine X_iload rfl rfl rfl ?_
  refine X_ishl (v := (32 : Int32)) rfl rfl rfl ?_
  refine X_callV (as := [.int (32 : Int32)]) (st := []) rfl rfl rfl (by decide) rfl (Nat.le_of_ble_eq_true rfl) (by decide) (Nat.le_of_ble_eq_true rfl) rfl ((congrFun F.1 2).trans s_2) (by decide) ?_
  refine LW_ls (ls' := [some (.ref 2), some (.int (32 : Int32)), none, none, none]) rfl ?_
  refine X_aload_n rfl rfl rfl rfl ?_
  refine X_iload_n rfl rfl rfl rfl ?_
  refine X_callV (as := [.int (32 : Int32)]) (st := []) rfl rfl rfl (by decide) rfl (Nat.le_of_ble_eq_true rfl) (by decide) (Nat.le_of_ble_eq_true rfl) rfl ((congrFun F.1 2).trans s_2) (by decide) ?_
  refine LW_ls (ls' := [some (.ref 2), some (.int (32 : Int32)), none, none]) rfl ?_
  refine X_iconst (v := (0 : Int32)) rfl rfl rfl ?_
  refine X_istore_n (i := 2) (ls' := [some (.ref 2), some (.int (32 : Int32)), some (.int (0 : Int32)), none]) rfl rfl rfl (Nat.le_of_ble_eq_true rfl) rfl ?_
  refine X_iconst (v := (0 : Int32)) rfl rfl rfl ?_
  refine X_istore_n (i := 3) (ls' := [some (.ref 2), some (.int (32 : Int32)), some (.int (0 : Int32)), some (.int (0 : Int32))]) rfl rfl rfl (Nat.le_of_ble_eq_true rfl) rfl ?_
  refine X_iload_n rfl rfl rfl rfl ?_
  refine X_aload_n rfl rfl rfl rfl ?_
  refine X_getI (v := (0 : Int32)) rfl rfl rfl ((congrFun F.1 2).trans s_2) rfl ((congrFun (F.2.2 2 (by decide)).1 0).trans i_2_0) ?_
  refine X_icmp_ge (tgt := 40) rfl rfl rfl (fun _ => ?_) (fun q => absurd q (by decide))
  refine X_iload_n rfl rfl rfl rfl ?_
  refine LW_ireturn (st := []) rfl rfl rfl ?_
  refine X_istore_n (i := 2) (ls' := [some (.ref 2), some (.int (32 : Int32)), some (.int (0 : Int32)), none, none]) rfl rfl rfl (Nat.le_of_ble_eq_true rfl) rfl ?_
  refine X_iconst (v := (0 : Int32)) rfl rfl rfl ?_
  refine X_istore_n (i := 3) (ls' := [some (.ref 2), some (.int (32 : Int32)), some (.int (0 : Int32)), some (.int (0 : Int32)), none]) rfl rfl rfl (Nat.le_of_ble_eq_true rfl) rfl ?_
  refine X_iconst (v := (0 : Int32)) rfl rfl rfl ?_
  refine X_istore (i := 4) (ls' := [some (.ref 2), some (.int (32 : Int32)), some (.int (0 : Int32)), some (.int (0 : Int32)), some (.int (0 : Int32))]) rfl rfl (Nat.le_of_ble_eq_true rfl) rfl ?_
  refine X_iload rfl rfl rfl ?_
  refine X_aload_n rfl rfl rfl rfl ?_
  refine X_getI (v := (0 : Int32)) rfl rfl rfl ((congrFun F.1 2).trans s_2) rfl ((congrFun (F.2.2 2 (by decide)).1 1).trans i_2_1) ?_
  refine X_icmp_ge (tgt := 48) rfl rfl rfl (fun _ => ?_) (fun q => absurd q (by decide))
  refine X_iload_n rfl rfl rfl rfl ?_
  refine LW_ireturn (st := []) rfl rfl rfl ?_
  refine X_istore (i := 5) (ls' := [some (.ref 0), some (.int (1 : Int32)), some (.int (0 : Int32)), some (.int (0 : Int32)), some (.int (5 : Int32)), some (.int (0 : Int32))]) rfl rfl (Nat.le_of_ble_eq_true rfl) rfl ?_
  refine X_iload rfl rfl rfl ?_
  refine X_iload_n rfl rfl rfl rfl ?_
  refine X_icmp_le (tgt := 42) rfl rfl rfl (fun _ => ?_) (fun q => absurd q (by decide))
  refine X_iinc (v := (6 : Int32)) (ls' := [some (.ref 0), some (.int (1 : Int32)), some (.int (0 : Int32)), some (.int (0 : Int32)), some (.int (6 : Int32)), some (.int (0 : Int32))]) rfl rfl rfl rfl rfl ?_
  refine LW_goto (tgt := 7) rfl rfl ?_
  refine X_iload rfl rfl rfl ?_
  refine X_bipush (v := (26 : Int32)) rfl rfl rfl ?_
  refine X_icmp_ge (tgt := 48) rfl rfl rfl (fun q => absurd q (by decide)) (fun _ => ?_)
  refine X_aload_n rfl rfl rfl rfl ?_
  refine X_getR (a := 1) rfl rfl rfl ((congrFun F.1 0).trans s_0) rfl ((congrFun (F.2.1 0 (by decide)) 0).trans r_0_0) ?_
  refine X_getR (a := 2) rfl rfl rfl ((congrFun F.1 1).trans s_1) rfl ((congrFun (F.2.1 1 (by decide)) 0).trans r_1_0) ?_
  refine X_iconst (v := (1 : Int32)) rfl rfl rfl ?_
  refine X_iload rfl rfl rfl ?_
  refine X_ishl (v := (64 : Int32)) rfl rfl rfl ?_
  refine X_callV (as := [.int (64 : Int32)]) (st := []) rfl rfl rfl (by decide) rfl (Nat.le_of_ble_eq_true rfl) (by decide) (Nat.le_of_ble_eq_true rfl) rfl ((congrFun F.1 2).trans s_2) (by decide) ?_
  refine LW_ls (ls' := [some (.ref 2), some (.int (64 : Int32)), none, none, none]) rfl ?_
  refine X_aload_n rfl rfl rfl rfl ?_
  refine X_iload_n rfl rfl rfl rfl ?_
  refine X_callV (as := [.int (64 : Int32)]) (st := []) rfl rfl rfl (by decide) rfl (Nat.le_of_ble_eq_true rfl) (by decide) (Nat.le_of_ble_eq_true rfl) rfl ((congrFun F.1 2).trans s_2) (by decide) ?_
  refine LW_ls (ls' := [some (.ref 2), some (.int (64 : Int32)), none, none]) rfl ?_
  refine X_iconst (v := (0 : Int32)) rfl rfl rfl ?_
  refine X_istore_n (i := 2) (ls' := [some (.ref 2), some (.int (64 : Int32)), some (.int (0 : Int32)), none]) rfl rfl rfl (Nat.le_of_ble_eq_true rfl) rfl ?_
  refine X_iconst (v := (0 : Int32)) rfl rfl rfl ?_
  refine X_istore_n (i := 3) (ls' := [some (.ref 2), some (.int (64 : Int32)), some (.int (0 : Int32)), some (.int (0 : Int32))]) rfl rfl rfl (Nat.le_of_ble_eq_true rfl) rfl ?_
  refine X_iload_n rfl rfl rfl rfl ?_
  refine X_aload_n rfl rfl rfl rfl ?_
  refine X_getI (v := (0 : Int32)) rfl rfl rfl ((congrFun F.1 2).trans s_2) rfl ((congrFun (F.2.2 2 (by decide)).1 0).trans i_2_0) ?_
  refine X_icmp_ge (tgt := 40) rfl rfl rfl (fun _ => ?_) (fun q => absurd q (by decide))
  refine X_iload_n rfl rfl rfl rfl ?_
  refine LW_ireturn (st := []) rfl rfl rfl ?_
  refine X_istore_n (i := 2) (ls' := [some (.ref 2), some (.int (64 : Int32)), some (.int (0 : Int32)), none, none]) rfl rfl rfl (Nat.le_of_ble_eq_true rfl) rfl ?_
  refine X_iconst (v := (0 : Int32)) rfl rfl rfl ?_
  refine X_istore_n (i := 3) (ls' := [some (.ref 2), some (.int (64 : Int32)), some (.int (0 : Int32)), some (.int (0 : Int32)), none]) rfl rfl rfl (Nat.le_of_ble_eq_true rfl) rfl ?_
  refine X_iconst (v := (0 : Int32)) rfl rfl rfl ?_
  refine X_istore (i := 4) (ls' := [some (.ref 2), some (.int (64 : Int32)), some (.int (0 : Int32)), some (.int (0 : Int32)), some (.int (0 : Int32))]) rfl rfl (Nat.le_of_ble_eq_true rfl) rfl ?_
  refine X_iload rfl rfl rfl ?_
  refine X_aload_n rfl rfl rfl rfl ?_
  refine X_getI (v := (0 : Int32)) rfl rfl rfl ((congrFun F.1 2).trans s_2) rfl ((congrFun (F.2.2 2 (by decide)).1 1).trans i_2_1) ?_
  refine X_icmp_ge (tgt := 48) rfl rfl rfl (fun _ => ?_) (fun q => absurd q (by decide))
  refine X_iload_n rfl rfl rfl rfl ?_
  refine LW_ireturn (st := []) rfl rfl rfl ?_
  refine X_istore (i := 5) (ls' := [some (.ref 0), some (.int (1 : Int32)), some (.int (0 : Int32)), some (.int (0 : Int32)), some (.int (6 : Int32)), some (.int (0 : Int32))]) rfl rfl (Nat.le_of_ble_eq_true rfl) rfl ?_
  refine X_iload rfl rfl rfl ?_
  refine X_iload_n rfl rfl rfl rfl ?_
  refine X_icmp_le (tgt := 42) rfl rfl rfl (fun _ => ?_) (fun q => absurd q (by decide))
  refine X_iinc (v := (7 : Int32)) (ls' := [some (.ref 0), some (.int (1 : Int32)), some (.int (0 : Int32)), some (.int (0 : Int32)), some (.int (7 : Int32)), some (.int (0 : Int32))]) rfl rfl rfl rfl rfl ?_
  refine LW_goto (tgt := 7) rfl rfl ?_
  refine X_iload rfl rfl rfl ?_
  refine X_bipush (v := (26 : Int32)) rfl rfl rfl ?_
  refine X_icmp_ge (tgt := 48) rfl rfl rfl (fun q => absurd q (by decide)) (fun _ => ?_)
  refine X_aload_n rfl rfl rfl rfl ?_
  refine X_getR (a := 1) rfl rfl rfl ((congrFun F.1 0).trans s_0) rfl ((congrFun (F.2.1 0 (by decide)) 0).trans r_0_0) ?_
  refine X_getR (a := 2) rfl rfl rfl ((congrFun F.1 1).trans s_1) rfl ((congrFun (F.2.1 1 (by decide)) 0).trans r_1_0) ?_
  refine X_iconst (v := (1 : Int32)) rfl rfl rfl ?_
  refine X_iload rfl rfl rfl ?_
  refine X_ishl (v := (128 : Int32)) rfl rfl rfl ?_
  refine X_callV (as := [.int (128 : Int32)]) (st := []) rfl rfl rfl (by decide) rfl (Nat.le_of_ble_eq_true rfl) (by decide) (Nat.le_of_ble_eq_true rfl) rfl ((congrFun F.1 2).trans s_2) (by decide) ?_
  refine LW_ls (ls' := [some (.ref 2), some (.int (128 : Int32)), none, none, none]) rfl ?_
  refine X_aload_n rfl rfl rfl rfl ?_
  refine X_iload_n rfl rfl rfl rfl ?_
  refine X_callV (as := [.int (128 : Int32)]) (st := []) rfl rfl rfl (by decide) rfl (Nat.le_of_ble_eq_true rfl) (by decide) (Nat.le_of_ble_eq_true rfl) rfl ((congrFun F.1 2).trans s_2) (by decide) ?_
  refine LW_ls (ls' := [some (.ref 2), some (.int (128 : Int32)), none, none]) rfl ?_
  refine X_iconst (v := (0 : Int32)) rfl rfl rfl ?_
  refine X_istore_n (i := 2) (ls' := [some (.ref 2), some (.int (128 : Int32)), some (.int (0 : Int32)), none]) rfl rfl rfl (Nat.le_of_ble_eq_true rfl) rfl ?_
  refine X_iconst (v := (0 : Int32)) rfl rfl rfl ?_
  refine X_istore_n (i := 3) (ls' := [some (.ref 2), some (.int (128 : Int32)), some (.int (0 : Int32)), some (.int (0 : Int32))]) rfl rfl rfl (Nat.le_of_ble_eq_true rfl) rfl ?_
  refine X_iload_n rfl rfl rfl rfl ?_
  refine X_aload_n rfl rfl rfl rfl ?_
  refine X_getI (v := (0 : Int32)) rfl rfl rfl ((congrFun F.1 2).trans s_2) rfl ((congrFun (F.2.2 2 (by decide)).1 0).trans i_2_0) ?_
  refine X_icmp_ge (tgt := 40) rfl rfl rfl (fun _ => ?_) (fun q => absurd q (by decide))
  refine X_iload_n rfl rfl rfl rfl ?_
  refine LW_ireturn (st := []) rfl rfl rfl ?_
  refine X_istore_n (i := 2) (ls' := [some (.ref 2), some (.int (128 : Int32)), some (.int (0 : Int32)), none, none]) rfl rfl rfl (Nat.le_of_ble_eq_true rfl) rfl ?_
  refine X_iconst (v := (0 : Int32)) rfl rfl rfl ?_
  refine X_istore_n (i := 3) (ls' := [some (.ref 2), some (.int (128 : Int32)), some (.int (0 : Int32)), some (.int (0 : Int32)), none]) rfl rfl rfl (Nat.le_of_ble_eq_true rfl) rfl ?_
  refine X_iconst (v := (0 : Int32)) rfl rfl rfl ?_
  refine X_istore (i := 4) (ls' := [some (.ref 2), some (.int (128 : Int32)), some (.int (0 : Int32)), some (.int (0 : Int32)), some (.int (0 : Int32))]) rfl rfl (Nat.le_of_ble_eq_true rfl) rfl ?_
  refine X_iload rfl rfl rfl ?_
  refine X_aload_n rfl rfl rfl rfl ?_
  refine X_getI (v := (0 : Int32)) rfl rfl rfl ((congrFun F.1 2).trans s_2) rfl ((congrFun (F.2.2 2 (by decide)).1 1).trans i_2_1) ?_
  refine X_icmp_ge (tgt := 48) rfl rfl rfl (fun _ => ?_) (fun q => absurd q (by decide))
  refine X_iload_n rfl rfl rfl rfl ?_
  refine LW_ireturn (st := []) rfl rfl rfl ?_
  refine X_istore (i := 5) (ls' := [some (.ref 0), some (.int (1 : Int32)), some (.int (0 : Int32)), some (.int (0 : Int32)), some (.int (7 : Int32)), some (.int (0 : Int32))]) rfl rfl (Nat.le_of_ble_eq_true rfl) rfl ?_
  refine X_iload rfl rfl rfl ?_
  refine X_iload_n rfl rfl rfl rfl ?_
  refine X_icmp_le (tgt := 42) rfl rfl rfl (fun _ => ?_) (fun q => absurd q (by decide))
  refine X_iinc (v := (8 : Int32)) (ls' := [some (.ref 0), some (.int (1 : Int32)), some (.int (0 : Int32)), some (.int (0 : Int32)), some (.int (8 : Int32)), some (.int (0 : Int32))]) rfl rfl rfl rfl rfl ?_
  refine LW_goto (tgt := 7) rfl rfl ?_
  refine X_iload rfl rfl rfl ?_
  refine X_bipush (v := (26 : Int32)) rfl rfl rfl ?_
  refine X_icmp_ge (tgt := 48) rfl rfl rfl (fun q => absurd q (by decide)) (fun _ => ?_)
  refine X_aload_n rfl rfl rfl rfl ?_
  refine X_getR (a := 1) rfl rfl rfl ((congrFun F.1 0).trans s_0) rfl ((congrFun (F.2.1 0 (by decide)) 0).trans r_0_0) ?_
  refine X_getR (a := 2) rfl rfl rfl ((congrFun F.1 1).trans s_1) rfl ((congrFun (F.2.1 1 (by decide)) 0).trans r_1_0) ?_
  refine X_iconst (v := (1 : Int32)) rfl rfl rfl ?_
  refine X_iload rfl rfl rfl ?_
  refine X_ishl (v := (256 : Int32)) rfl rfl rfl ?_
  refine X_callV (as := [.int (256 : Int32)]) (st := []) rfl rfl rfl (by decide) rfl (Nat.le_of_ble_eq_true rfl) (by decide) (Nat.le_of_ble_eq_true rfl) rfl ((congrFun F.1 2).trans s_2) (by decide) ?_
  refine LW_ls (ls' := [some (.ref 2), some (.int (256 : Int32)), none, none, none]) rfl ?_
  refine X_aload_n rfl rfl rfl rfl ?_
  refine X_iload_n rfl rfl rfl rfl ?_
  refine X_callV (as := [.int (256 : Int32)]) (st := []) rfl rfl rfl (by decide) rfl (Nat.le_of_ble_eq_true rfl) (by decide) (Nat.le_of_ble_eq_true rfl) rfl ((congrFun F.1 2).trans s_2) (by decide) ?_
  refine LW_ls (ls' := [some (.ref 2), some (.int (256 : Int32)), none, none]) rfl ?_
  refine X_iconst (v := (0 : Int32)) rfl rfl rfl ?_
  refine X_istore_n (i := 2) (ls' := [some (.ref 2), some (.int (256 : Int32)), some (.int (0 : Int32)), none]) rfl rfl rfl (Nat.le_of_ble_eq_true rfl) rfl ?_
  refine X_iconst (v := (0 : Int32)) rfl rfl rfl ?_
  refine X_istore_n (i := 3) (ls' := [some (.ref 2), some (.int (256 : Int32)), some (.int (0 : Int32)), some (.int (0 : Int32))]) rfl rfl rfl (Nat.le_of_ble_eq_true rfl) rfl ?_
  refine X_iload_n rfl rfl rfl rfl ?_
  refine X_aload_n rfl rfl rfl rfl ?_
  refine X_getI (v := (0 : Int32)) rfl rfl rfl ((congrFun F.1 2).trans s_2) rfl ((congrFun (F.2.2 2 (by decide)).1 0).trans i_2_0) ?_
  refine X_icmp_ge (tgt := 40) rfl rfl rfl (fun _ => ?_) (fun q => absurd q (by decide))
  refine X_iload_n rfl rfl rfl rfl ?_
  refine LW_ireturn (st := []) rfl rfl rfl ?_
  refine X_istore_n (i := 2) (ls' := [some (.ref 2), some (.int (256 : Int32)), some (.int (0 : Int32)), none, none]) rfl rfl rfl (Nat.le_of_ble_eq_true rfl) rfl ?_
  refine X_iconst (v := (0 : Int32)) rfl rfl rfl ?_
  refine X_istore_n (i := 3) (ls' := [some (.ref 2), some (.int (256 : Int32)), some (.int (0 : Int32)), some (.int (0 : Int32)), none]) rfl rfl rfl (Nat.le_of_ble_eq_true rfl) rfl ?_
  refine X_iconst (v := (0 : Int32)) rfl rfl rfl ?_
  refine X_istore (i := 4) (ls' := [some (.ref 2), some (.int (256 : Int32)), some (.int (0 : Int32)), some (.int (0 : Int32)), some (.int (0 : Int32))]) rfl rfl (Nat.le_of_ble_eq_true rfl) rfl ?_
  refine X_iload rfl rfl rfl ?_
  refine X_aload_n rfl rfl rfl rfl ?_
  refine X_getI (v := (0 : Int32)) rfl rfl rfl ((congrFun F.1 2).trans s_2) rfl ((congrFun (F.2.2 2 (by decide)).1 1).trans i_2_1) ?_
  refine X_icmp_ge (tgt := 48) rfl rfl rfl (fun _ => ?_) (fun q => absurd q (by decide))
  refine X_iload_n rfl rfl rfl rfl ?_
  refine LW_ireturn (st := []) rfl rfl rfl ?_
  refine X_istore (i := 5) (ls' := [some (.ref 0), some (.int (1 : Int32)), some (.int (0 : Int32)), some (.int (0 : Int32)), some (.int (8 : Int32)), some (.int (0 : Int32))]) rfl rfl (Nat.le_of_ble_eq_true rfl) rfl ?_
  refine X_iload rfl rfl rfl ?_
  refine X_iload_n rfl rfl rfl rfl ?_
  refine X_icmp_le (tgt := 42) rfl rfl rfl (fun _ => ?_) (fun q => absurd q (by decide))
  refine X_iinc (v := (9 : Int32)) (ls' := [some (.ref 0), some (.int (1 : Int32)), some (.int (0 : Int32)), some (.int (0 : Int32)), some (.int (9 : Int32)), some (.int (0 : Int32))]) rfl rfl rfl rfl rfl ?_
  refine LW_goto (tgt := 7) rfl rfl ?_
  refine X_iload rfl rfl rfl ?_
  refine X_bipush (v := (26 : Int32)) rfl rfl rfl ?_
  refine X_icmp_ge (tgt := 48) rfl rfl rfl (fun q => absurd q (by decide)) (fun _ => ?_)
  refine X_aload_n rfl rfl rfl rfl ?_
  refine X_getR (a := 1) rfl rfl rfl ((congrFun F.1 0).trans s_0) rfl ((congrFun (F.2.1 0 (by decide)) 0).trans r_0_0) ?_
  refine X_getR (a := 2) rfl rfl rfl ((congrFun F.1 1).trans s_1) rfl ((congrFun (F.2.1 1 (by decide)) 0).trans r_1_0) ?_
  refine X_iconst (v := (1 : Int32)) rfl rfl rfl ?_
  refine X_iload rfl rfl rfl ?_
  refine X_ishl (v := (512 : Int32)) rfl rfl rfl ?_
  refine X_callV (as := [.int (512 : Int32)]) (st := []) rfl rfl rfl (by decide) rfl (Nat.le_of_ble_eq_true rfl) (by decide) (Nat.le_of_ble_eq_true rfl) rfl ((congrFun F.1 2).trans s_2) (by decide) ?_
  refine LW_ls (ls' := [some (.ref 2), some (.int (512 : Int32)), none, none, none]) rfl ?_
  refine X_aload_n rfl rfl rfl rfl ?_
  refine X_iload_n rfl rfl rfl rfl ?_
  refine X_callV (as := [.int (512 : Int32)]) (st := []) rfl rfl rfl (by decide) rfl (Nat.le_of_ble_eq_true rfl) (by decide) (Nat.le_of_ble_eq_true rfl) rfl ((congrFun F.1 2).trans s_2) (by decide) ?_
  refine LW_ls (ls' := [some (.ref 2), some (.int (512 : Int32)), none, none]) rfl ?_
  refine X_iconst (v := (0 : Int32)) rfl rfl rfl ?_
  refine X_istore_n (i := 2) (ls' := [some (.ref 2), some (.int (512 : Int32)), some (.int (0 : Int32)), none]) rfl rfl rfl (Nat.le_of_ble_eq_true rfl) rfl ?_
  refine X_iconst (v := (0 : Int32)) rfl rfl rfl ?_
  refine X_istore_n (i := 3) (ls' := [some (.ref 2), some (.int (512 : Int32)), some (.int (0 : Int32)), some (.int (0 : Int32))]) rfl rfl rfl (Nat.le_of_ble_eq_true rfl) rfl ?_
  refine X_iload_n rfl rfl rfl rfl ?_
  refine X_aload_n rfl rfl rfl rfl ?_
  refine X_getI (v := (0 : Int32)) rfl rfl rfl ((congrFun F.1 2).trans s_2) rfl ((congrFun (F.2.2 2 (by decide)).1 0).trans i_2_0) ?_
  refine X_icmp_ge (tgt := 40) rfl rfl rfl (fun _ => ?_) (fun q => absurd q (by decide))
  refine X_iload_n rfl rfl rfl rfl ?_
  refine LW_ireturn (st := []) rfl rfl rfl ?_
  refine X_istore_n (i := 2) (ls' := [some (.ref 2), some (.int (512 : Int32)), some (.int (0 : Int32)), none, none]) rfl rfl rfl (Nat.le_of_ble_eq_true rfl) rfl ?_
  refine X_iconst (v := (0 : Int32)) rfl rfl rfl ?_
  refine X_istore_n (i := 3) (ls' := [some (.ref 2), some (.int (512 : Int32)), some (.int (0 : Int32)), some (.int (0 : Int32)), none]) rfl rfl rfl (Nat.le_of_ble_eq_true rfl) rfl ?_
  refine X_iconst (v := (0 : Int32)) rfl rfl rfl ?_
  refine X_istore (i := 4) (ls' := [some (.ref 2), some (.int (512 : Int32)), some (.int (0 : Int32)), some (.int (0 : Int32)), some (.int (0 : Int32))]) rfl rfl (Nat.le_of_ble_eq_true rfl) rfl ?_
  refine X_iload rfl rfl rfl ?_
  refine X_aload_n rfl rfl rfl rfl ?_
  refine X_getI (v := (0 : Int32)) rfl rfl rfl ((congrFun F.1 2).trans s_2) rfl ((congrFun (F.2.2 2 (by decide)).1 1).trans i_2_1) ?_
  refine X_icmp_ge (tgt := 48) rfl rfl rfl (fun _ => ?_) (fun q => absurd q (by decide))
  refine X_iload_n rfl rfl rfl rfl ?_
  refine LW_ireturn (st := []) rfl rfl rfl ?_
  refine X_istore (i := 5) (ls' := [some (.ref 0), some (.int (1 : Int32)), some (.int (0 : Int32)), some (.int (0 : Int32)), some (.int (9 : Int32)), some (.int (0 : Int32))]) rfl rfl (Nat.le_of_ble_eq_true rfl) rfl ?_
  refine X_iload rfl rfl rfl ?_
  refine X_iload_n rfl rfl rfl rfl ?_
  refine X_icmp_le (tgt := 42) rfl rfl rfl (fun _ => ?_) (fun q => absurd q (by decide))
  refine X_iinc (v := (10 : Int32)) (ls' := [some (.ref 0), some (.int (1 : Int32)), some (.int (0 : Int32)), some (.int (0 : Int32)), some (.int (10 : Int32)), some (.int (0 : Int32))]) rfl rfl rfl rfl rfl ?_
  refine LW_goto (tgt := 7) rfl rfl ?_
  refine X_iload rfl rfl rfl ?_
  refine X_bipush (v := (26 : Int32)) rfl rfl rfl ?_
  refine X_icmp_ge (tgt := 48) rfl rfl rfl (fun q => absurd q (by decide)) (fun _ => ?_)
  refine X_aload_n rfl rfl rfl rfl ?_
  refine X_getR (a := 1) rfl rfl rfl ((congrFun F.1 0).trans s_0) rfl ((congrFun (F.2.1 0 (by decide)) 0).trans r_0_0) ?_
  refine X_getR (a := 2) rfl rfl rfl ((congrFun F.1 1).trans s_1) rfl ((congrFun (F.2.1 1 (by decide)) 0).trans r_1_0) ?_
  refine X_iconst (v := (1 : Int32)) rfl rfl rfl ?_
  refine X_iload rfl rfl rfl ?_
  refine X_ishl (v := (1024 : Int32)) rfl rfl rfl ?_
  refine X_callV (as := [.int (1024 : Int32)]) (st := []) rfl rfl rfl (by decide) rfl (Nat.le_of_ble_eq_true rfl) (by decide) (Nat.le_of_ble_eq_true rfl) rfl ((congrFun F.1 2).trans s_2) (by decide) ?_
  refine LW_ls (ls' := [some (.ref 2), some (.int (1024 : Int32)), none, none, none]) rfl ?_
  refine X_aload_n rfl rfl rfl rfl ?_
  refine X_iload_n rfl rfl rfl rfl ?_
  refine X_callV (as := [.int (1024 : Int32)]) (st := []) rfl rfl rfl (by decide) rfl (Nat.le_of_ble_eq_true rfl) (by decide) (Nat.le_of_ble_eq_true rfl) rfl ((congrFun F.1 2).trans s_2) (by decide) ?_
  refine LW_ls (ls' := [some (.ref 2), some (.int (1024 : Int32)), none, none]) rfl ?_
  refine X_iconst (v := (0 : Int32)) rfl rfl rfl ?_
  refine X_istore_n (i := 2) (ls' := [some (.ref 2), some (.int (1024 : Int32)), some (.int (0 : Int32)), none]) rfl rfl rfl (Nat.le_of_ble_eq_true rfl) rfl ?_
  refine X_iconst (v := (0 : Int32)) rfl rfl rfl ?_
  refine X_istore_n (i := 3) (ls' := [some (.ref 2), some (.int (1024 : Int32)), some (.int (0 : Int32)), some (.int (0 : Int32))]) rfl rfl rfl (Nat.le_of_ble_eq_true rfl) rfl ?_
  refine X_iload_n rfl rfl rfl rfl ?_
  refine X_aload_n rfl rfl rfl rfl ?_
  refine X_getI (v := (0 : Int32)) rfl rfl rfl ((congrFun F.1 2).trans s_2) rfl ((congrFun (F.2.2 2 (by decide)).1 0).trans i_2_0) ?_
  refine X_icmp_ge (tgt := 40) rfl rfl rfl (fun _ => ?_) (fun q => absurd q (by decide))
  refine X_iload_n rfl rfl rfl rfl ?_
  refine LW_ireturn (st := []) rfl rfl rfl ?_
  refine X_istore_n (i := 2) (ls' := [some (.ref 2), some (.int (1024 : Int32)), some (.int (0 : Int32)), none, none]) rfl rfl rfl (Nat.le_of_ble_eq_true rfl) rfl ?_
  refine X_iconst (v := (0 : Int32)) rfl rfl rfl ?_
  refine X_istore_n (i := 3) (ls' := [some (.ref 2), some (.int (1024 : Int32)), some (.int (0 : Int32)), some (.int (0 : Int32)), none]) rfl rfl rfl (Nat.le_of_ble_eq_true rfl) rfl ?_
  refine X_iconst (v := (0 : Int32)) rfl rfl rfl ?_
  refine X_istore (i := 4) (ls' := [some (.ref 2), some (.int (1024 : Int32)), some (.int (0 : Int32)), some (.int (0 : Int32)), some (.int (0 : Int32))]) rfl rfl (Nat.le_of_ble_eq_true rfl) rfl ?_
  refine X_iload rfl rfl rfl ?_
  refine X_aload_n rfl rfl rfl rfl ?_
  refine X_getI (v := (0 : Int32)) rfl rfl rfl ((congrFun F.1 2).trans s_2) rfl ((congrFun (F.2.2 2 (by decide)).1 1).trans i_2_1) ?_
  refine X_icmp_ge (tgt := 48) rfl rfl rfl (fun _ => ?_) (fun q => absurd q (by decide))
  refine X_iload_n rfl rfl rfl rfl ?_
  refine LW_ireturn (st := []) rfl rfl rfl ?_
  refine X_istore (i := 5) (ls' := [some (.ref 0), some (.int (1 : Int32)), some (.int (0 : Int32)), some (.int (0 : Int32)), some (.int (10 : Int32)), some (.int (0 : Int32))]) rfl rfl (Nat.le_of_ble_eq_true rfl) rfl ?_
  refine X_iload rfl rfl rfl ?_
  refine X_iload_n rfl rfl rfl rfl ?_
  refine X_icmp_le (tgt := 42) rfl rfl rfl (fun _ => ?_) (fun q => absurd q (by decide))
  refine X_iinc (v := (11 : Int32)) (ls' := [some (.ref 0), some (.int (1 : Int32)), some (.int (0 : Int32)), some (.int (0 : Int32)), some (.int (11 : Int32)), some (.int (0 : Int32))]) rfl rfl rfl rfl rfl ?_
  refine LW_goto (tgt := 7) rfl rfl ?_
  refine X_iload rfl rfl rfl ?_
  refine X_bipush (v := (26 : Int32)) rfl rfl rfl ?_
  refine X_icmp_ge (tgt := 48) rfl rfl rfl (fun q => absurd q (by decide)) (fun _ => ?_)
  refine X_aload_n rfl rfl rfl rfl ?_
  refine X_getR (a := 1) rfl rfl rfl ((congrFun F.1 0).trans s_0) rfl ((congrFun (F.2.1 0 (by decide)) 0).trans r_0_0) ?_
  refine X_getR (a := 2) rfl rfl rfl ((congrFun F.1 1).trans s_1) rfl ((congrFun (F.2.1 1 (by decide)) 0).trans r_1_0) ?_
  refine X_iconst (v := (1 : Int32)) rfl rfl rfl ?_
  refine X_iload rfl rfl rfl ?_
  refine X_ishl (v := (2048 : Int32)) rfl rfl rfl ?_
  refine X_callV (as := [.int (2048 : Int32)]) (st := []) rfl rfl rfl (by decide) rfl (Nat.le_of_ble_eq_true rfl) (by decide) (Nat.le_of_ble_eq_true rfl) rfl ((congrFun F.1 2).trans s_2) (by decide) ?_
  refine LW_ls (ls' := [some (.ref 2), some (.int (2048 : Int32)), none, none, none]) rfl ?_
  refine X_aload_n rfl rfl rfl rfl ?_
  refine X_iload_n rfl rfl rfl rfl ?_
  refine X_callV (as := [.int (2048 : Int32)]) (st := []) rfl rfl rfl (by decide) rfl (Nat.le_of_ble_eq_true rfl) (by decide) (Nat.le_of_ble_eq_true rfl) rfl ((congrFun F.1 2).trans s_2) (by decide) ?_
  refine LW_ls (ls' := [some (.ref 2), some (.int (2048 : Int32)), none, none]) rfl ?_
  refine X_iconst (v := (0 : Int32)) rfl rfl rfl ?_
  refine X_istore_n (i := 2) (ls' := [some (.ref 2), some (.int (2048 : Int32)), some (.int (0 : Int32)), none]) rfl rfl rfl (Nat.le_of_ble_eq_true rfl) rfl ?_
  refine X_iconst (v := (0 : Int32)) rfl rfl rfl ?_
  refine X_istore_n (i := 3) (ls' := [some (.ref 2), some (.int (2048 : Int32)), some (.int (0 : Int32)), some (.int (0 : Int32))]) rfl rfl rfl (Nat.le_of_ble_eq_true rfl) rfl ?_
  refine X_iload_n rfl rfl rfl rfl ?_
  refine X_aload_n rfl rfl rfl rfl ?_
  refine X_getI (v := (0 : Int32)) rfl rfl rfl ((congrFun F.1 2).trans s_2) rfl ((congrFun (F.2.2 2 (by decide)).1 0).trans i_2_0) ?_
  refine X_icmp_ge (tgt := 40) rfl rfl rfl (fun _ => ?_) (fun q => absurd q (by decide))
  refine X_iload_n rfl rfl rfl rfl ?_
  refine LW_ireturn (st := []) rfl rfl rfl ?_
  refine X_istore_n (i := 2) (ls' := [some (.ref 2), some (.int (2048 : Int32)), some (.int (0 : Int32)), none, none]) rfl rfl rfl (Nat.le_of_ble_eq_true rfl) rfl ?_
  refine X_iconst (v := (0 : Int32)) rfl rfl rfl ?_
  refine X_istore_n (i := 3) (ls' := [some (.ref 2), some (.int (2048 : Int32)), some (.int (0 : Int32)), some (.int (0 : Int32)), none]) rfl rfl rfl (Nat.le_of_ble_eq_true rfl) rfl ?_
  refine X_iconst (v := (0 : Int32)) rfl rfl rfl ?_
  refine X_istore (i := 4) (ls' := [some (.ref 2), some (.int (2048 : Int32)), some (.int (0 : Int32)), some (.int (0 : Int32)), some (.int (0 : Int32))]) rfl rfl (Nat.le_of_ble_eq_true rfl) rfl ?_
  refine X_iload rfl rfl rfl ?_
  refine X_aload_n rfl rfl rfl rfl ?_
  refine X_getI (v := (0 : Int32)) rfl rfl rfl ((congrFun F.1 2).trans s_2) rfl ((congrFun (F.2.2 2 (by decide)).1 1).trans i_2_1) ?_
  refine X_icmp_ge (tgt := 48) rfl rfl rfl (fun _ => ?_) (fun q => absurd q (by decide))
  refine X_iload_n rfl rfl rfl rfl ?_
  refine LW_ireturn (st := []) rfl rfl rfl ?_
  refine X_istore (i := 5) (ls' := [some (.ref 0), some (.int (1 : Int32)), some (.int (0 : Int32)), some (.int (0 : Int32)), some (.int (11 : Int32)), some (.int (0 : Int32))]) rfl rfl (Nat.le_of_ble_eq_true rfl) rfl ?_
  refine X_iload rfl rfl rfl ?_
  refine X_iload_n rfl rfl rfl rfl ?_
  refine X_icmp_le (tgt := 42) rfl rfl rfl (fun _ => ?_) (fun q => absurd q (by decide))
  refine X_iinc (v := (12 : Int32)) (ls' := [some (.ref 0), some (.int (1 : Int32)), some (.int (0 : Int32)), some (.int (0 : Int32)), some (.int (12 : Int32)), some (.int (0 : Int32))]) rfl rfl rfl rfl rfl ?_
  refine LW_goto (tgt := 7) rfl rfl ?_
  refine X_iload rfl rfl rfl ?_
  refine X_bipush (v := (26 : Int32)) rfl rfl rfl ?_
  refine X_icmp_ge (tgt := 48) rfl rfl rfl (fun q => absurd q (by decide)) (fun _ => ?_)
  refine X_aload_n rfl rfl rfl rfl ?_
  refine X_getR (a := 1) rfl rfl rfl ((congrFun F.1 0).trans s_0) rfl ((congrFun (F.2.1 0 (by decide)) 0).trans r_0_0) ?_
  refine X_getR (a := 2) rfl rfl rfl ((congrFun F.1 1).trans s_1) rfl ((congrFun (F.2.1 1 (by decide)) 0).trans r_1_0) ?_
  refine X_iconst (v := (1 : Int32)) rfl rfl rfl ?_
  refine X_iload rfl rfl rfl ?_
  refine X_ishl (v := (4096 : Int32)) rfl rfl rfl ?_
  refine X_callV (as := [.int (4096 : Int32)]) (st := []) rfl rfl rfl (by decide) rfl (Nat.le_of_ble_eq_true rfl) (by decide) (Nat.le_of_ble_eq_true rfl) rfl ((congrFun F.1 2).trans s_2) (by decide) ?_
  refine LW_ls (ls' := [some (.ref 2), some (.int (4096 : Int32)), none, none, none]) rfl ?_
  refine X_aload_n rfl rfl rfl rfl ?_
  refine X_iload_n rfl rfl rfl rfl ?_
  refine X_callV (as := [.int (4096 : Int32)]) (st := []) rfl rfl rfl (by decide) rfl (Nat.le_of_ble_eq_true rfl) (by decide) (Nat.le_of_ble_eq_true rfl) rfl ((congrFun F.1 2).trans s_2) (by decide) ?_
  refine LW_ls (ls' := [some (.ref 2), some (.int (4096 : Int32)), none, none]) rfl ?_
  refine X_iconst (v := (0 : Int32)) rfl rfl rfl ?_
  refine X_istore_n (i := 2) (ls' := [some (.ref 2), some (.int (4096 : Int32)), some (.int (0 : Int32)), none]) rfl rfl rfl (Nat.le_of_ble_eq_true rfl) rfl ?_
  refine X_iconst (v := (0 : Int32)) rfl rfl rfl ?_
  refine X_istore_n (i := 3) (ls' := [some (.ref 2), some (.int (4096 : Int32)), some (.int (0 : Int32)), some (.int (0 : Int32))]) rfl rfl rfl (Nat.le_of_ble_eq_true rfl) rfl ?_
  refine X_iload_n rfl rfl rfl rfl ?_
  refine X_aload_n rfl rfl rfl rfl ?_
  refine X_getI (v := (0 : Int32)) rfl rfl rfl ((congrFun F.1 2).trans s_2) rfl ((congrFun (F.2.2 2 (by decide)).1 0).trans i_2_0) ?_
  refine X_icmp_ge (tgt := 40) rfl rfl rfl (fun _ => ?_) (fun q => absurd q (by decide))
  refine X_iload_n rfl rfl rfl rfl ?_
  refine LW_ireturn (st := []) rfl rfl rfl ?_
  refine X_istore_n (i := 2) (ls' := [some (.ref 2), some (.int (4096 : Int32)), some (.int (0 : Int32)), none, none]) rfl rfl rfl (Nat.le_of_ble_eq_true rfl) rfl ?_
  refine X_iconst (v := (0 : Int32)) rfl rfl rfl ?_
  refine X_istore_n (i := 3) (ls' := [some (.ref 2), some (.int (4096 : Int32)), some (.int (0 : Int32)), some (.int (0 : Int32)), none]) rfl rfl rfl (Nat.le_of_ble_eq_true rfl) rfl ?_
  refine X_iconst (v := (0 : Int32)) rfl rfl rfl ?_
  refine X_istore (i := 4) (ls' := [some (.ref 2), some (.int (4096 : Int32)), some (.int (0 : Int32)), some (.int (0 : Int32)), some (.int (0 : Int32))]) rfl rfl (Nat.le_of_ble_eq_true rfl) rfl ?_
  refine X_iload rfl rfl rfl ?_
  refine X_aload_n rfl rfl rfl rfl ?_
  refine X_getI (v := (0 : Int32)) rfl rfl rfl ((congrFun F.1 2).trans s_2) rfl ((congrFun (F.2.2 2 (by decide)).1 1).trans i_2_1) ?_
  refine X_icmp_ge (tgt := 48) rfl rfl rfl (fun _ => ?_) (fun q => absurd q (by decide))
  refine X_iload_n rfl rfl rfl rfl ?_
  refine LW_ireturn (st := []) rfl rfl rfl ?_
  refine X_istore (i := 5) (ls' := [some (.ref 0), some (.int (1 : Int32)), some (.int (0 : Int32)), some (.int (0 : Int32)), some (.int (12 : Int32)), some (.int (0 : Int32))]) rfl rfl (Nat.le_of_ble_eq_true rfl) rfl ?_
  refine X_iload rfl rfl rfl ?_
  refine X_iload_n rfl rfl rfl rfl ?_
  refine X_icmp_le (tgt := 42) rfl rfl rfl (fun _ => ?_) (fun q => absurd q (by decide))
  refine X_iinc (v := (13 : Int32)) (ls' := [some (.ref 0), some (.int (1 : Int32)), some (.int (0 : Int32)), some (.int (0 : Int32)), some (.int (13 : Int32)), some (.int (0 : Int32))]) rfl rfl rfl rfl rfl ?_
  refine LW_goto (tgt := 7) rfl rfl ?_
  refine X_iload rfl rfl rfl ?_
  refine X_bipush (v := (26 : Int32)) rfl rfl rfl ?_
  refine X_icmp_ge (tgt := 48) rfl rfl rfl (fun q => absurd q (by decide)) (fun _ => ?_)
  refine X_aload_n rfl rfl rfl rfl ?_
  refine X_getR (a := 1) rfl rfl rfl ((congrFun F.1 0).trans s_0) rfl ((congrFun (F.2.1 0 (by decide)) 0).trans r_0_0) ?_
  refine X_getR (a := 2) rfl rfl rfl ((congrFun F.1 1).trans s_1) rfl ((congrFun (F.2.1 1 (by decide)) 0).trans r_1_0) ?_
  refine X_iconst (v := (1 : Int32)) rfl rfl rfl ?_
  refine X_iload rfl rfl rfl ?_
  refine X_ishl (v := (8192 : Int32)) rfl rfl rfl ?_
  refine X_callV (as := [.int (8192 : Int32)]) (st := []) rfl rfl rfl (by decide) rfl (Nat.le_of_ble_eq_true rfl) (by decide) (Nat.le_of_ble_eq_true rfl) rfl ((congrFun F.1 2).trans s_2) (by decide) ?_
  refine LW_ls (ls' := [some (.ref 2), some (.int (8192 : Int32)), none, none, none]) rfl ?_
  refine X_aload_n rfl rfl rfl rfl ?_
  refine X_iload_n rfl rfl rfl rfl ?_
  refine X_callV (as := [.int (8192 : Int32)]) (st := []) rfl rfl rfl (by decide) rfl (Nat.le_of_ble_eq_true rfl) (by decide) (Nat.le_of_ble_eq_true rfl) rfl ((congrFun F.1 2).trans s_2) (by decide) ?_
  refine LW_ls (ls' := [some (.ref 2), some (.int (8192 : Int32)), none, none]) rfl ?_
  refine X_iconst (v := (0 : Int32)) rfl rfl rfl ?_
  refine X_istore_n (i := 2) (ls' := [some (.ref 2), some (.int (8192 : Int32)), some (.int (0 : Int32)), none]) rfl rfl rfl (Nat.le_of_ble_eq_true rfl) rfl ?_
  refine X_iconst (v := (0 : Int32)) rfl rfl rfl ?_
  refine X_istore_n (i := 3) (ls' := [some (.ref 2), some (.int (8192 : Int32)), some (.int (0 : Int32)), some (.int (0 : Int32))]) rfl rfl rfl (Nat.le_of_ble_eq_true rfl) rfl ?_
  refine X_iload_n rfl rfl rfl rfl ?_
  refine X_aload_n rfl rfl rfl rfl ?_
  refine X_getI (v := (0 : Int32)) rfl rfl rfl ((congrFun F.1 2).trans s_2) rfl ((congrFun (F.2.2 2 (by decide)).1 0).trans i_2_0) ?_
  refine X_icmp_ge (tgt := 40) rfl rfl rfl (fun _ => ?_) (fun q => absurd q (by decide))
  refine X_iload_n rfl rfl rfl rfl ?_
  refine LW_ireturn (st := []) rfl rfl rfl ?_
  refine X_istore_n (i := 2) (ls' := [some (.ref 2), some (.int (8192 : Int32)), some (.int (0 : Int32)), none, none]) rfl rfl rfl (Nat.le_of_ble_eq_true rfl) rfl ?_
  refine X_iconst (v := (0 : Int32)) rfl rfl rfl ?_
  refine X_istore_n (i := 3) (ls' := [some (.ref 2), some (.int (8192 : Int32)), some (.int (0 : Int32)), some (.int (0 : Int32)), none]) rfl rfl rfl (Nat.le_of_ble_eq_true rfl) rfl ?_
  refine X_iconst (v := (0 : Int32)) rfl rfl rfl ?_
  refine X_istore (i := 4) (ls' := [some (.ref 2), some (.int (8192 : Int32)), some (.int (0 : Int32)), some (.int (0 : Int32)), some (.int (0 : Int32))]) rfl rfl (Nat.le_of_ble_eq_true rfl) rfl ?_
  refine X_iload rfl rfl rfl ?_
  refine X_aload_n rfl rfl rfl rfl ?_
  refine X_getI (v := (0 : Int32)) rfl rfl rfl ((congrFun F.1 2).trans s_2) rfl ((congrFun (F.2.2 2 (by decide)).1 1).trans i_2_1) ?_
  refine X_icmp_ge (tgt := 48) rfl rfl rfl (fun _ => ?_) (fun q => absurd q (by decide))
  refine X_iload_n rfl rfl rfl rfl ?_
  refine LW_ireturn (st := []) rfl rfl rfl ?_
  refine X_istore (i := 5) (ls' := [some (.ref 0), some (.int (1 : Int32)), some (.int (0 : Int32)), some (.int (0 : Int32)), some (.int (13 : Int32)), some (.int (0 : Int32))]) rfl rfl (Nat.le_of_ble_eq_true rfl) rfl ?_
  refine X_iload rfl rfl rfl ?_
  refine X_iload_n rfl rfl rfl rfl ?_
  refine X_icmp_le (tgt := 42) rfl rfl rfl (fun _ => ?_) (fun q => absurd q (by decide))
  refine X_iinc (v := (14 : Int32)) (ls' := [some (.ref 0), some (.int (1 : Int32)), some (.int (0 : Int32)), some (.int (0 : Int32)), some (.int (14 : Int32)), some (.int (0 : Int32))]) rfl rfl rfl rfl rfl ?_
  refine LW_goto (tgt := 7) rfl rfl ?_
  refine X_iload rfl rfl rfl ?_
  refine X_bipush (v := (26 : Int32)) rfl rfl rfl ?_
  refine X_icmp_ge (tgt := 48) rfl rfl rfl (fun q => absurd q (by decide)) (fun _ => ?_)
  refine X_aload_n rfl rfl rfl rfl ?_
  refine X_getR (a := 1) rfl rfl rfl ((congrFun F.1 0).trans s_0) rfl ((congrFun (F.2.1 0 (by decide)) 0).trans r_0_0) ?_
  refine X_getR (a := 2) rfl rfl rfl ((congrFun F.1 1).trans s_1) rfl ((congrFun (F.2.1 1 (by decide)) 0).trans r_1_0) ?_
  refine X_iconst (v := (1 : Int32)) rfl rfl rfl ?_
  refine X_iload rfl rfl rfl ?_
  refine X_ishl (v := (16384 : Int32)) rfl rfl rfl ?_
  refine X_callV (as := [.int (16384 : Int32)]) (st := []) rfl rfl rfl (by decide) rfl (Nat.le_of_ble_eq_true rfl) (by decide) (Nat.le_of_ble_eq_true rfl) rfl ((congrFun F.1 2).trans s_2) (by decide) ?_
  refine LW_ls (ls' := [some (.ref 2), some (.int (16384 : Int32)), none, none, none]) rfl ?_
  refine X_aload_n rfl rfl rfl rfl ?_
  refine X_iload_n rfl rfl rfl rfl ?_
  refine X_callV (as := [.int (16384 : Int32)]) (st := []) rfl rfl rfl (by decide) rfl (Nat.le_of_ble_eq_true rfl) (by decide) (Nat.le_of_ble_eq_true rfl) rfl ((congrFun F.1 2).trans s_2) (by decide) ?_
  refine LW_ls (ls' := [some (.ref 2), some (.int (16384 : Int32)), none, none]) rfl ?_
  refine X_iconst (v := (0 : Int32)) rfl rfl rfl ?_
  refine X_istore_n (i := 2) (ls' := [some (.ref 2), some (.int (16384 : Int32)), some (.int (0 : Int32)), none]) rfl rfl rfl (Nat.le_of_ble_eq_true rfl) rfl ?_
  refine X_iconst (v := (0 : Int32)) rfl rfl rfl ?_
  refine X_istore_n (i := 3) (ls' := [some (.ref 2), some (.int (16384 : Int32)), some (.int (0 : Int32)), some (.int (0 : Int32))]) rfl rfl rfl (Nat.le_of_ble_eq_true rfl) rfl ?_
  refine X_iload_n rfl rfl rfl rfl ?_
  refine X_aload_n rfl rfl rfl rfl ?_
  refine X_getI (v := (0 : Int32)) rfl rfl rfl ((congrFun F.1 2).trans s_2) rfl ((congrFun (F.2.2 2 (by decide)).1 0).trans i_2_0) ?_
  refine X_icmp_ge (tgt := 40) rfl rfl rfl (fun _ => ?_) (fun q => absurd q (by decide))
  refine X_iload_n rfl rfl rfl rfl ?_
  refine LW_ireturn (st := []) rfl rfl rfl ?_
  refine X_istore_n (i := 2) (ls' := [some (.ref 2), some (.int (16384 : Int32)), some (.int (0 : Int32)), none, none]) rfl rfl rfl (Nat.le_of_ble_eq_true rfl) rfl ?_
  refine X_iconst (v := (0 : Int32)) rfl rfl rfl ?_
  refine X_istore_n (i := 3) (ls' := [some (.ref 2), some (.int (16384 : Int32)), some (.int (0 : Int32)), some (.int (0 : Int32)), none]) rfl rfl rfl (Nat.le_of_ble_eq_true rfl) rfl ?_
  refine X_iconst (v := (0 : Int32)) rfl rfl rfl ?_
  refine X_istore (i := 4) (ls' := [some (.ref 2), some (.int (16384 : Int32)), some (.int (0 : Int32)), some (.int (0 : Int32)), some (.int (0 : Int32))]) rfl rfl (Nat.le_of_ble_eq_true rfl) rfl ?_
  refine X_iload rfl rfl rfl ?_
  refine X_aload_n rfl rfl rfl rfl ?_
  refine X_getI (v := (0 : Int32)) rfl rfl rfl ((congrFun F.1 2).trans s_2) rfl ((congrFun (F.2.2 2 (by decide)).1 1).trans i_2_1) ?_
  refine X_icmp_ge (tgt := 48) rfl rfl rfl (fun _ => ?_) (fun q => absurd q (by decide))
  refine X_iload_n rfl rfl rfl rfl ?_
  refine LW_ireturn (st := []) rfl rfl rfl ?_
  refine X_istore (i := 5) (ls' := [some (.ref 0), some (.int (1 : Int32)), some (.int (0 : Int32)), some (.int (0 : Int32)), some (.int (14 : Int32)), some (.int (0 : Int32))]) rfl rfl (Nat.le_of_ble_eq_true rfl) rfl ?_
  refine X_iload rfl rfl rfl ?_
  refine X_iload_n rfl rfl rfl rfl ?_
  refine X_icmp_le (tgt := 42) rfl rfl rfl (fun _ => ?_) (fun q => absurd q (by decide))
  refine X_iinc (v := (15 : Int32)) (ls' := [some (.ref 0), some (.int (1 : Int32)), some (.int (0 : Int32)), some (.int (0 : Int32)), some (.int (15 : Int32)), some (.int (0 : Int32))]) rfl rfl rfl rfl rfl ?_
  refine LW_goto (tgt := 7) rfl rfl ?_
  refine X_iload rfl rfl rfl ?_
  refine X_bipush (v := (26 : Int32)) rfl rfl rfl ?_
  refine X_icmp_ge (tgt := 48) rfl rfl rfl (fun q => absurd q (by decide)) (fun _ => ?_)
  refine X_aload_n rfl rfl rfl rfl ?_
  refine X_getR (a := 1) rfl rfl rfl ((congrFun F.1 0).trans s_0) rfl ((congrFun (F.2.1 0 (by decide)) 0).trans r_0_0) ?_
  refine X_getR (a := 2) rfl rfl rfl ((congrFun F.1 1).trans s_1) rfl ((congrFun (F.2.1 1 (by decide)) 0).trans r_1_0) ?_
  refine X_iconst (v := (1 : Int32)) rfl rfl rfl ?_
  refine X_iload rfl rfl rfl ?_
  refine X_ishl (v := (32768 : Int32)) rfl rfl rfl ?_
  refine X_callV (as := [.int (32768 : Int32)]) (st := []) rfl rfl rfl (by decide) rfl (Nat.le_of_ble_eq_true rfl) (by decide) (Nat.le_of_ble_eq_true rfl) rfl ((congrFun F.1 2).trans s_2) (by decide) ?_
  refine LW_ls (ls' := [some (.ref 2), some (.int (32768 : Int32)), none, none, none]) rfl ?_
  refine X_aload_n rfl rfl rfl rfl ?_
  refine X_iload_n rfl rfl rfl rfl ?_
  refine X_callV (as := [.int (32768 : Int32)]) (st := []) rfl rfl rfl (by decide) rfl (Nat.le_of_ble_eq_true rfl) (by decide) (Nat.le_of_ble_eq_true rfl) rfl ((congrFun F.1 2).trans s_2) (by decide) ?_
  refine LW_ls (ls' := [some (.ref 2), some (.int (32768 : Int32)), none, none]) rfl ?_
  refine X_iconst (v := (0 : Int32)) rfl rfl rfl ?_
  refine X_istore_n (i := 2) (ls' := [some (.ref 2), some (.int (32768 : Int32)), some (.int (0 : Int32)), none]) rfl rfl rfl (Nat.le_of_ble_eq_true rfl) rfl ?_
  refine X_iconst (v := (0 : Int32)) rfl rfl rfl ?_
  refine X_istore_n (i := 3) (ls' := [some (.ref 2), some (.int (32768 : Int32)), some (.int (0 : Int32)), some (.int (0 : Int32))]) rfl rfl rfl (Nat.le_of_ble_eq_true rfl) rfl ?_
  refine X_iload_n rfl rfl rfl rfl ?_
  refine X_aload_n rfl rfl rfl rfl ?_
  refine X_getI (v := (0 : Int32)) rfl rfl rfl ((congrFun F.1 2).trans s_2) rfl ((congrFun (F.2.2 2 (by decide)).1 0).trans i_2_0) ?_
  refine X_icmp_ge (tgt := 40) rfl rfl rfl (fun _ => ?_) (fun q => absurd q (by decide))
  refine X_iload_n rfl rfl rfl rfl ?_
  refine LW_ireturn (st := []) rfl rfl rfl ?_
  refine X_istore_n (i := 2) (ls' := [some (.ref 2), some (.int (32768 : Int32)), some (.int (0 : Int32)), none, none]) rfl rfl rfl (Nat.le_of_ble_eq_true rfl) rfl ?_
  refine X_iconst (v := (0 : Int32)) rfl rfl rfl ?_
  refine X_istore_n (i := 3) (ls' := [some (.ref 2), some (.int (32768 : Int32)), some (.int (0 : Int32)), some (.int (0 : Int32)), none]) rfl rfl rfl (Nat.le_of_ble_eq_true rfl) rfl ?_
  refine X_iconst (v := (0 : Int32)) rfl rfl rfl ?_
  refine X_istore (i := 4) (ls' := [some (.ref 2), some (.int (32768 : Int32)), some (.int (0 : Int32)), some (.int (0 : Int32)), some (.int (0 : Int32))]) rfl rfl (Nat.le_of_ble_eq_true rfl) rfl ?_
  refine X_iload rfl rfl rfl ?_
  refine X_aload_n rfl rfl rfl rfl ?_
  refine X_getI (v := (0 : Int32)) rfl rfl rfl ((congrFun F.1 2).trans s_2) rfl ((congrFun (F.2.2 2 (by decide)).1 1).trans i_2_1) ?_
  refine X_icmp_ge (tgt := 48) rfl rfl rfl (fun _ => ?_) (fun q => absurd q (by decide))
  refine X_iload_n rfl rfl rfl rfl ?_
  refine LW_ireturn (st := []) rfl rfl rfl ?_
  refine X_istore (i := 5) (ls' := [some (.ref 0), some (.int (1 : Int32)), some (.int (0 : Int32)), some (.int (0 : Int32)), some (.int (15 : Int32)), some (.int (0 : Int32))]) rfl rfl (Nat.le_of_ble_eq_true rfl) rfl ?_
  refine X_iload rfl rfl rfl ?_
  refine X_iload_n rfl rfl rfl rfl ?_
  refine X_icmp_le (tgt := 42) rfl rfl rfl (fun _ => ?_) (fun q => absurd q (by decide))
  refine X_iinc (v := (16 : Int32)) (ls' := [some (.ref 0), some (.int (1 : Int32)), some (.int (0 : Int32)), some (.int (0 : Int32)), some (.int (16 : Int32)), some (.int (0 : Int32))]) rfl rfl rfl rfl rfl ?_
  refine LW_goto (tgt := 7) rfl rfl ?_
  refine X_iload rfl rfl rfl ?_
  refine X_bipush (v := (26 : Int32)) rfl rfl rfl ?_
  refine X_icmp_ge (tgt := 48) rfl rfl rfl (fun q => absurd q (by decide)) (fun _ => ?_)
  refine X_aload_n rfl rfl rfl rfl ?_
  refine X_getR (a := 1) rfl rfl rfl ((congrFun F.1 0).trans s_0) rfl ((congrFun (F.2.1 0 (by decide)) 0).trans r_0_0) ?_
  refine X_getR (a := 2) rfl rfl rfl ((congrFun F.1 1).trans s_1) rfl ((congrFun (F.2.1 1 (by decide)) 0).trans r_1_0) ?_
  refine X_iconst (v := (1 : Int32)) rfl rfl rfl ?_
  refine X_iload rfl rfl rfl ?_
  refine X_ishl (v := (65536 : Int32)) rfl rfl rfl ?_
  refine X_callV (as := [.int (65536 : Int32)]) (st := []) rfl rfl rfl (by decide) rfl (Nat.le_of_ble_eq_true rfl) (by decide) (Nat.le_of_ble_eq_true rfl) rfl ((congrFun F.1 2).trans s_2) (by decide) ?_
  refine LW_ls (ls' := [some (.ref 2), some (.int (65536 : Int32)), none, none, none]) rfl ?_
  refine X_aload_n rfl rfl rfl rfl ?_
  refine X_iload_n rfl rfl rfl rfl ?_
  refine X_callV (as := [.int (65536 : Int32)]) (st := []) rfl rfl rfl (by decide) rfl (Nat.le_of_ble_eq_true rfl) (by decide) (Nat.le_of_ble_eq_true rfl) rfl ((congrFun F.1 2).trans s_2) (by decide) ?_
  refine LW_ls (ls' := [some (.ref 2), some (.int (65536 : Int32)), none, none]) rfl ?_
  refine X_iconst (v := (0 : Int32)) rfl rfl rfl ?_
  refine X_istore_n (i := 2) (ls' := [some (.ref 2), some (.int (65536 : Int32)), some (.int (0 : Int32)), none]) rfl rfl rfl (Nat.le_of_ble_eq_true rfl) rfl ?_
  refine X_iconst (v := (0 : Int32)) rfl rfl rfl ?_
  refine X_istore_n (i := 3) (ls' := [some (.ref 2), some (.int (65536 : Int32)), some (.int (0 : Int32)), some (.int (0 : Int32))]) rfl rfl rfl (Nat.le_of_ble_eq_true rfl) rfl ?_
  refine X_iload_n rfl rfl rfl rfl ?_
  refine X_aload_n rfl rfl rfl rfl ?_
  refine X_getI (v := (0 : Int32)) rfl rfl rfl ((congrFun F.1 2).trans s_2) rfl ((congrFun (F.2.2 2 (by decide)).1 0).trans i_2_0) ?_
  refine X_icmp_ge (tgt := 40) rfl rfl rfl (fun _ => ?_) (fun q => absurd q (by decide))
  refine X_iload_n rfl rfl rfl rfl ?_
  refine LW_ireturn (st := []) rfl rfl rfl ?_
  refine X_istore_n (i := 2) (ls' := [some (.ref 2), some (.int (65536 : Int32)), some (.int (0 : Int32)), none, none]) rfl rfl rfl (Nat.le_of_ble_eq_true rfl) rfl ?_
  refine X_iconst (v := (0 : Int32)) rfl rfl rfl ?_
  refine X_istore_n (i := 3) (ls' := [some (.ref 2), some (.int (65536 : Int32)), some (.int (0 : Int32)), some (.int (0 : Int32)), none]) rfl rfl rfl (Nat.le_of_ble_eq_true rfl) rfl ?_
  refine X_iconst (v := (0 : Int32)) rfl rfl rfl ?_
  refine X_istore (i := 4) (ls' := [some (.ref 2), some (.int (65536 : Int32)), some (.int (0 : Int32)), some (.int (0 : Int32)), some (.int (0 : Int32))]) rfl rfl (Nat.le_of_ble_eq_true rfl) rfl ?_
  refine X_iload rfl rfl rfl ?_
  refine X_aload_n rfl rfl rfl rfl ?_
  refine X_getI (v := (0 : Int32)) rfl rfl rfl ((congrFun F.1 2).trans s_2) rfl ((congrFun (F.2.2 2 (by decide)).1 1).trans i_2_1) ?_
  refine X_icmp_ge (tgt := 48) rfl rfl rfl (fun _ => ?_) (fun q => absurd q (by decide))
  refine X_iload_n rfl rfl rfl rfl ?_
  refine LW_ireturn (st := []) rfl rfl rfl ?_
  refine X_istore (i := 5) (ls' := [some (.ref 0), some (.int (1 : Int32)), some (.int (0 : Int32)), some (.int (0 : Int32)), some (.int (16 : Int32)), some (.int (0 : Int32))]) rfl rfl (Nat.le_of_ble_eq_true rfl) rfl ?_
  refine X_iload rfl rfl rfl ?_
  refine X_iload_n rfl rfl rfl rfl ?_
  refine X_icmp_le (tgt := 42) rfl rfl rfl (fun _ => ?_) (fun q => absurd q (by decide))
  refine X_iinc (v := (17 : Int32)) (ls' := [some (.ref 0), some (.int (1 : Int32)), some (.int (0 : Int32)), some (.int (0 : Int32)), some (.int (17 : Int32)), some (.int (0 : Int32))]) rfl rfl rfl rfl rfl ?_
  refine LW_goto (tgt := 7) rfl rfl ?_
  refine X_iload rfl rfl rfl ?_
  refine X_bipush (v := (26 : Int32)) rfl rfl rfl ?_
  refine X_icmp_ge (tgt := 48) rfl rfl rfl (fun q => absurd q (by decide)) (fun _ => ?_)
  refine X_aload_n rfl rfl rfl rfl ?_
  refine X_getR (a := 1) rfl rfl rfl ((congrFun F.1 0).trans s_0) rfl ((congrFun (F.2.1 0 (by decide)) 0).trans r_0_0) ?_
  refine X_getR (a := 2) rfl rfl rfl ((congrFun F.1 1).trans s_1) rfl ((congrFun (F.2.1 1 (by decide)) 0).trans r_1_0) ?_
  refine X_iconst (v := (1 : Int32)) rfl rfl rfl ?_
  refine X_iload rfl rfl rfl ?_
  refine X_ishl (v := (131072 : Int32)) rfl rfl rfl ?_
  refine X_callV (as := [.int (131072 : Int32)]) (st := []) rfl rfl rfl (by decide) rfl (Nat.le_of_ble_eq_true rfl) (by decide) (Nat.le_of_ble_eq_true rfl) rfl ((congrFun F.1 2).trans s_2) (by decide) ?_
  refine LW_ls (ls' := [some (.ref 2), some (.int (131072 : Int32)), none, none, none]) rfl ?_
  refine X_aload_n rfl rfl rfl rfl ?_
  refine X_iload_n rfl rfl rfl rfl ?_
  refine X_callV (as := [.int (131072 : Int32)]) (st := []) rfl rfl rfl (by decide) rfl (Nat.le_of_ble_eq_true rfl) (by decide) (Nat.le_of_ble_eq_true rfl) rfl ((congrFun F.1 2).trans s_2) (by decide) ?_
  refine LW_ls (ls' := [some (.ref 2), some (.int (131072 : Int32)), none, none]) rfl ?_
  refine X_iconst (v := (0 : Int32)) rfl rfl rfl ?_
  refine X_istore_n (i := 2) (ls' := [some (.ref 2), some (.int (131072 : Int32)), some (.int (0 : Int32)), none]) rfl rfl rfl (Nat.le_of_ble_eq_true rfl) rfl ?_
  refine X_iconst (v := (0 : Int32)) rfl rfl rfl ?_
  refine X_istore_n (i := 3) (ls' := [some (.ref 2), some (.int (131072 : Int32)), some (.int (0 : Int32)), some (.int (0 : Int32))]) rfl rfl rfl (Nat.le_of_ble_eq_true rfl) rfl ?_
  refine X_iload_n rfl rfl rfl rfl ?_
  refine X_aload_n rfl rfl rfl rfl ?_
  refine X_getI (v := (0 : Int32)) rfl rfl rfl ((congrFun F.1 2).trans s_2) rfl ((congrFun (F.2.2 2 (by decide)).1 0).trans i_2_0) ?_
  refine X_icmp_ge (tgt := 40) rfl rfl rfl (fun _ => ?_) (fun q => absurd q (by decide))
  refine X_iload_n rfl rfl rfl rfl ?_
  refine LW_ireturn (st := []) rfl rfl rfl ?_
  refine X_istore_n (i := 2) (ls' := [some (.ref 2), some (.int (131072 : Int32)), some (.int (0 : Int32)), none, none]) rfl rfl rfl (Nat.le_of_ble_eq_true rfl) rfl ?_
  refine X_iconst (v := (0 : Int32)) rfl rfl rfl ?_
  refine X_istore_n (i := 3) (ls' := [some (.ref 2), some (.int (131072 : Int32)), some (.int (0 : Int32)), some (.int (0 : Int32)), none]) rfl rfl rfl (Nat.le_of_ble_eq_true rfl) rfl ?_
  refine X_iconst (v := (0 : Int32)) rfl rfl rfl ?_
  refine X_istore (i := 4) (ls' := [some (.ref 2), some (.int (131072 : Int32)), some (.int (0 : Int32)), some (.int (0 : Int32)), some (.int (0 : Int32))]) rfl rfl (Nat.le_of_ble_eq_true rfl) rfl ?_
  refine X_iload rfl rfl rfl ?_
  refine X_aload_n rfl rfl rfl rfl ?_
  refine X_getI (v := (0 : Int32)) rfl rfl rfl ((congrFun F.1 2).trans s_2) rfl ((congrFun (F.2.2 2 (by decide)).1 1).trans i_2_1) ?_
  refine X_icmp_ge (tgt := 48) rfl rfl rfl (fun _ => ?_) (fun q => absurd q (by decide))
  refine X_iload_n rfl rfl rfl rfl ?_
  refine LW_ireturn (st := []) rfl rfl rfl ?_
  refine X_istore (i := 5) (ls' := [some (.ref 0), some (.int (1 : Int32)), some (.int (0 : Int32)), some (.int (0 : Int32)), some (.int (17 : Int32)), some (.int (0 : Int32))]) rfl rfl (Nat.le_of_ble_eq_true rfl) rfl ?_
  refine X_iload rfl rfl rfl ?_
  refine X_iload_n rfl rfl rfl rfl ?_
  refine X_icmp_le (tgt := 42) rfl rfl rfl (fun _ => ?_) (fun q => absurd q (by decide))
  refine X_iinc (v := (18 : Int32)) (ls' := [some (.ref 0), some (.int (1 : Int32)), some (.int (0 : Int32)), some (.int (0 : Int32)), some (.int (18 : Int32)), some (.int (0 : Int32))]) rfl rfl rfl rfl rfl ?_
  refine LW_goto (tgt := 7) rfl rfl ?_
  refine X_iload rfl rfl rfl ?_
  refine X_bipush (v := (26 : Int32)) rfl rfl rfl ?_
  refine X_icmp_ge (tgt := 48) rfl rfl rfl (fun q => absurd q (by decide)) (fun _ => ?_)
  refine X_aload_n rfl rfl rfl rfl ?_
  refine X_getR (a := 1) rfl rfl rfl ((congrFun F.1 0).trans s_0) rfl ((congrFun (F.2.1 0 (by decide)) 0).trans r_0_0) ?_
  refine X_getR (a := 2) rfl rfl rfl ((congrFun F.1 1).trans s_1) rfl ((congrFun (F.2.1 1 (by decide)) 0).trans r_1_0) ?_
  refine X_iconst (v := (1 : Int32)) rfl rfl rfl ?_
  refine X_iload rfl rfl rfl ?_
  refine X_ishl (v := (262144 : Int32)) rfl rfl rfl ?_
  refine X_callV (as := [.int (262144 : Int32)]) (st := []) rfl rfl rfl (by decide) rfl (Nat.le_of_ble_eq_true rfl) (by decide) (Nat.le_of_ble_eq_true rfl) rfl ((congrFun F.1 2).trans s_2) (by decide) ?_
  refine LW_ls (ls' := [some (.ref 2), some (.int (262144 : Int32)), none, none, none]) rfl ?_
  refine X_aload_n rfl rfl rfl rfl ?_
  refine X_iload_n rfl rfl rfl rfl ?_
  refine X_callV (as := [.int (262144 : Int32)]) (st := []) rfl rfl rfl (by decide) rfl (Nat.le_of_ble_eq_true rfl) (by decide) (Nat.le_of_ble_eq_true rfl) rfl ((congrFun F.1 2).trans s_2) (by decide) ?_
  refine LW_ls (ls' := [some (.ref 2), some (.int (262144 : Int32)), none, none]) rfl ?_
  refine X_iconst (v := (0 : Int32)) rfl rfl rfl ?_
  refine X_istore_n (i := 2) (ls' := [some (.ref 2), some (.int (262144 : Int32)), some (.int (0 : Int32)), none]) rfl rfl rfl (Nat.le_of_ble_eq_true rfl) rfl ?_
  refine X_iconst (v := (0 : Int32)) rfl rfl rfl ?_
  refine X_istore_n (i := 3) (ls' := [some (.ref 2), some (.int (262144 : Int32)), some (.int (0 : Int32)), some (.int (0 : Int32))]) rfl rfl rfl (Nat.le_of_ble_eq_true rfl) rfl ?_
  refine X_iload_n rfl rfl rfl rfl ?_
  refine X_aload_n rfl rfl rfl rfl ?_
  refine X_getI (v := (0 : Int32)) rfl rfl rfl ((congrFun F.1 2).trans s_2) rfl ((congrFun (F.2.2 2 (by decide)).1 0).trans i_2_0) ?_
  refine X_icmp_ge (tgt := 40) rfl rfl rfl (fun _ => ?_) (fun q => absurd q (by decide))
  refine X_iload_n rfl rfl rfl rfl ?_
  refine LW_ireturn (st := []) rfl rfl rfl ?_
  refine X_istore_n (i := 2) (ls' := [some (.ref 2), some (.int (262144 : Int32)), some (.int (0 : Int32)), none, none]) rfl rfl rfl (Nat.le_of_ble_eq_true rfl) rfl ?_
  refine X_iconst (v := (0 : Int32)) rfl rfl rfl ?_
  refine X_istore_n (i := 3) (ls' := [some (.ref 2), some (.int (262144 : Int32)), some (.int (0 : Int32)), some (.int (0 : Int32)), none]) rfl rfl rfl (Nat.le_of_ble_eq_true rfl) rfl ?_
  refine X_iconst (v := (0 : Int32)) rfl rfl rfl ?_
  refine X_istore (i := 4) (ls' := [some (.ref 2), some (.int (262144 : Int32)), some (.int (0 : Int32)), some (.int (0 : Int32)), some (.int (0 : Int32))]) rfl rfl (Nat.le_of_ble_eq_true rfl) rfl ?_
  refine X_iload rfl rfl rfl ?_
  refine X_aload_n rfl rfl rfl rfl ?_
  refine X_getI (v := (0 : Int32)) rfl rfl rfl ((congrFun F.1 2).trans s_2) rfl ((congrFun (F.2.2 2 (by decide)).1 1).trans i_2_1) ?_
  refine X_icmp_ge (tgt := 48) rfl rfl rfl (fun _ => ?_) (fun q => absurd q (by decide))
  refine X_iload_n rfl rfl rfl rfl ?_
  refine LW_ireturn (st := []) rfl rfl rfl ?_
  refine X_istore (i := 5) (ls' := [some (.ref 0), some (.int (1 : Int32)), some (.int (0 : Int32)), some (.int (0 : Int32)), some (.int (18 : Int32)), some (.int (0 : Int32))]) rfl rfl (Nat.le_of_ble_eq_true rfl) rfl ?_
  refine X_iload rfl rfl rfl ?_
  refine X_iload_n rfl rfl rfl rfl ?_
  refine X_icmp_le (tgt := 42) rfl rfl rfl (fun _ => ?_) (fun q => absurd q (by decide))
  refine X_iinc (v := (19 : Int32)) (ls' := [some (.ref 0), some (.int (1 : Int32)), some (.int (0 : Int32)), some (.int (0 : Int32)), some (.int (19 : Int32)), some (.int (0 : Int32))]) rfl rfl rfl rfl rfl ?_
  refine LW_goto (tgt := 7) rfl rfl ?_
  refine X_iload rfl rfl rfl ?_
  refine X_bipush (v := (26 : Int32)) rfl rfl rfl ?_
  refine X_icmp_ge (tgt := 48) rfl rfl rfl (fun q => absurd q (by decide)) (fun _ => ?_)
  refine X_aload_n rfl rfl rfl rfl ?_
  refine X_getR (a := 1) rfl rfl rfl ((congrFun F.1 0).trans s_0) rfl ((congrFun (F.2.1 0 (by decide)) 0).trans r_0_0) ?_
  refine X_getR (a := 2) rfl rfl rfl ((congrFun F.1 1).trans s_1) rfl ((congrFun (F.2.1 1 (by decide)) 0).trans r_1_0) ?_
  refine X_iconst (v := (1 : Int32)) rfl rfl rfl ?_
  refine X_iload rfl rfl rfl ?_
  refine X_ishl (v := (524288 : Int32)) rfl rfl rfl ?_
  refine X_callV (as := [.int (524288 : Int32)]) (st := []) rfl rfl rfl (by decide) rfl (Nat.le_of_ble_eq_true rfl) (by decide) (Nat.le_of_ble_eq_true rfl) rfl ((congrFun F.1 2).trans s_2) (by decide) ?_
  refine LW_ls (ls' := [some (.ref 2), some (.int (524288 : Int32)), none, none, none]) rfl ?_
  refine X_aload_n rfl rfl rfl rfl ?_
  refine X_iload_n rfl rfl rfl rfl ?_
  refine X_callV (as := [.int (524288 : Int32)]) (st := []) rfl rfl rfl (by decide) rfl (Nat.le_of_ble_eq_true rfl) (by decide) (Nat.le_of_ble_eq_true rfl) rfl ((congrFun F.1 2).trans s_2) (by decide) ?_
  refine LW_ls (ls' := [some (.ref 2), some (.int (524288 : Int32)), none, none]) rfl ?_
  refine X_iconst (v := (0 : Int32)) rfl rfl rfl ?_
  refine X_istore_n (i := 2) (ls' := [some (.ref 2), some (.int (524288 : Int32)), some (.int (0 : Int32)), none]) rfl rfl rfl (Nat.le_of_ble_eq_true rfl) rfl ?_
  refine X_iconst (v := (0 : Int32)) rfl rfl rfl ?_
  refine X_istore_n (i := 3) (ls' := [some (.ref 2), some (.int (524288 : Int32)), some (.int (0 : Int32)), some (.int (0 : Int32))]) rfl rfl rfl (Nat.le_of_ble_eq_true rfl) rfl ?_
  refine X_iload_n rfl rfl rfl rfl ?_
  refine X_aload_n rfl rfl rfl rfl ?_
  refine X_getI (v := (0 : Int32)) rfl rfl rfl ((congrFun F.1 2).trans s_2) rfl ((congrFun (F.2.2 2 (by decide)).1 0).trans i_2_0) ?_
  refine X_icmp_ge (tgt := 40) rfl rfl rfl (fun _ => ?_) (fun q => absurd q (by decide))
  refine X_iload_n rfl rfl rfl rfl ?_
  refine LW_ireturn (st := []) rfl rfl rfl ?_
  refine X_istore_n (i := 2) (ls' := [some (.ref 2), some (.int (524288 : Int32)), some (.int (0 : Int32)), none, none]) rfl rfl rfl (Nat.le_of_ble_eq_true rfl) rfl ?_
  refine X_iconst (v := (0 : Int32)) rfl rfl rfl ?_
  refine X_istore_n (i := 3) (ls' := [some (.ref 2), some (.int (524288 : Int32)), some (.int (0 : Int32)), some (.int (0 : Int32)), none]) rfl rfl rfl (Nat.le_of_ble_eq_true rfl) rfl ?_
  refine X_iconst (v := (0 : Int32)) rfl rfl rfl ?_
  refine X_istore (i := 4) (ls' := [some (.ref 2), some (.int (524288 : Int32)), some (.int (0 : Int32)), some (.int (0 : Int32)), some (.int (0 : Int32))]) rfl rfl (Nat.le_of_ble_eq_true rfl) rfl ?_
  refine X_iload rfl rfl rfl ?_
  refine X_aload_n rfl rfl rfl rfl ?_
  refine X_getI (v := (0 : Int32)) rfl rfl rfl ((congrFun F.1 2).trans s_2) rfl ((congrFun (F.2.2 2 (by decide)).1 1).trans i_2_1) ?_
  refine X_icmp_ge (tgt := 48) rfl rfl rfl (fun _ => ?_) (fun q => absurd q (by decide))
  refine X_iload_n rfl rfl rfl rfl ?_
  refine LW_ireturn (st := []) rfl rfl rfl ?_
  refine X_istore (i := 5) (ls' := [some (.ref 0), some (.int (1 : Int32)), some (.int (0 : Int32)), some (.int (0 : Int32)), some (.int (19 : Int32)), some (.int (0 : Int32))]) rfl rfl (Nat.le_of_ble_eq_true rfl) rfl ?_
  refine X_iload rfl rfl rfl ?_
  refine X_iload_n rfl rfl rfl rfl ?_
  refine X_icmp_le (tgt := 42) rfl rfl rfl (fun _ => ?_) (fun q => absurd q (by decide))
  refine X_iinc (v := (20 : Int32)) (ls' := [some (.ref 0), some (.int (1 : Int32)), some (.int (0 : Int32)), some (.int (0 : Int32)), some (.int (20 : Int32)), some (.int (0 : Int32))]) rfl rfl rfl rfl rfl ?_
  refine LW_goto (tgt := 7) rfl rfl ?_
  refine X_iload rfl rfl rfl ?_
  refine X_bipush (v := (26 : Int32)) rfl rfl rfl ?_
  refine X_icmp_ge (tgt := 48) rfl rfl rfl (fun q => absurd q (by decide)) (fun _ => ?_)
  refine X_aload_n rfl rfl rfl rfl ?_
  refine X_getR (a := 1) rfl rfl rfl ((congrFun F.1 0).trans s_0) rfl ((congrFun (F.2.1 0 (by decide)) 0).trans r_0_0) ?_
  refine X_getR (a := 2) rfl rfl rfl ((congrFun F.1 1).trans s_1) rfl ((congrFun (F.2.1 1 (by decide)) 0).trans r_1_0) ?_
  refine X_iconst (v := (1 : Int32)) rfl rfl rfl ?_
  refine X_iload rfl rfl rfl ?_
  refine X_ishl (v := (1048576 : Int32)) rfl rfl rfl ?_
  refine X_callV (as := [.int (1048576 : Int32)]) (st := []) rfl rfl rfl (by decide) rfl (Nat.le_of_ble_eq_true rfl) (by decide) (Nat.le_of_ble_eq_true rfl) rfl ((congrFun F.1 2).trans s_2) (by decide) ?_
  refine LW_ls (ls' := [some (.ref 2), some (.int (1048576 : Int32)), none, none, none]) rfl ?_
  refine X_aload_n rfl rfl rfl rfl ?_
  refine X_iload_n rfl rfl rfl rfl ?_
  refine X_callV (as := [.int (1048576 : Int32)]) (st := []) rfl rfl rfl (by decide) rfl (Nat.le_of_ble_eq_true rfl) (by decide) (Nat.le_of_ble_eq_true rfl) rfl ((congrFun F.1 2).trans s_2) (by decide) ?_
  refine LW_ls (ls' := [some (.ref 2), some (.int (1048576 : Int32)), none, none]) rfl ?_
  refine X_iconst (v := (0 : Int32)) rfl rfl rfl ?_
  refine X_istore_n (i := 2) (ls' := [some (.ref 2), some (.int (1048576 : Int32)), some (.int (0 : Int32)), none]) rfl rfl rfl (Nat.le_of_ble_eq_true rfl) rfl ?_
  refine X_iconst (v := (0 : Int32)) rfl rfl rfl ?_
  refine X_istore_n (i := 3) (ls' := [some (.ref 2), some (.int (1048576 : Int32)), some (.int (0 : Int32)), some (.int (0 : Int32))]) rfl rfl rfl (Nat.le_of_ble_eq_true rfl) rfl ?_
  refine X_iload_n rfl rfl rfl rfl ?_
  refine X_aload_n rfl rfl rfl rfl ?_
  refine X_getI (v := (0 : Int32)) rfl rfl rfl ((congrFun F.1 2).trans s_2) rfl ((congrFun (F.2.2 2 (by decide)).1 0).trans i_2_0) ?_
  refine X_icmp_ge (tgt := 40) rfl rfl rfl (fun _ => ?_) (fun q => absurd q (by decide))
  refine X_iload_n rfl rfl rfl rfl ?_
  refine LW_ireturn (st := []) rfl rfl rfl ?_
  refine X_istore_n (i := 2) (ls' := [some (.ref 2), some (.int (1048576 : Int32)), some (.int (0 : Int32)), none, none]) rfl rfl rfl (Nat.le_of_ble_eq_true rfl) rfl ?_
  refine X_iconst (v := (0 : Int32)) rfl rfl rfl ?_
  refine X_istore_n (i := 3) (ls' := [some (.ref 2), some (.int (1048576 : Int32)), some (.int (0 : Int32)), some (.int (0 : Int32)), none]) rfl rfl rfl (Nat.le_of_ble_eq_true rfl) rfl ?_
  refine X_iconst (v := (0 : Int32)) rfl rfl rfl ?_
  refine X_istore (i := 4) (ls' := [some (.ref 2), some (.int (1048576 : Int32)), some (.int (0 : Int32)), some (.int (0 : Int32)), some (.int (0 : Int32))]) rfl rfl (Nat.le_of_ble_eq_true rfl) rfl ?_
  refine X_iload rfl rfl rfl ?_
  refine X_aload_n rfl rfl rfl rfl ?_
  refine X_getI (v := (0 : Int32)) rfl rfl rfl ((congrFun F.1 2).trans s_2) rfl ((congrFun (F.2.2 2 (by decide)).1 1).trans i_2_1) ?_
  refine X_icmp_ge (tgt := 48) rfl rfl rfl (fun _ => ?_) (fun q => absurd q (by decide))
  refine X_iload_n rfl rfl rfl rfl ?_
  refine LW_ireturn (st := []) rfl rfl rfl ?_
  refine X_istore (i := 5) (ls' := [some (.ref 0), some (.int (1 : Int32)), some (.int (0 : Int32)), some (.int (0 : Int32)), some (.int (20 : Int32)), some (.int (0 : Int32))]) rfl rfl (Nat.le_of_ble_eq_true rfl) rfl ?_
  refine X_iload rfl rfl rfl ?_
  refine X_iload_n rfl rfl rfl rfl ?_
  refine X_icmp_le (tgt := 42) rfl rfl rfl (fun _ => ?_) (fun q => absurd q (by decide))
  refine X_iinc (v := (21 : Int32)) (ls' := [some (.ref 0), some (.int (1 : Int32)), some (.int (0 : Int32)), some (.int (0 : Int32)), some (.int (21 : Int32)), some (.int (0 : Int32))]) rfl rfl rfl rfl rfl ?_
  refine LW_goto (tgt := 7) rfl rfl ?_
  refine X_iload rfl rfl rfl ?_
  refine X_bipush (v := (26 : Int32)) rfl rfl rfl ?_
  refine X_icmp_ge (tgt := 48) rfl rfl rfl (fun q => absurd q (by decide)) (fun _ => ?_)
  refine X_aload_n rfl rfl rfl rfl ?_
  refine X_getR (a := 1) rfl rfl rfl ((congrFun F.1 0).trans s_0) rfl ((congrFun (F.2.1 0 (by decide)) 0).trans r_0_0) ?_
  refine X_getR (a := 2) rfl rfl rfl ((congrFun F.1 1).trans s_1) rfl ((congrFun (F.2.1 1 (by decide)) 0).trans r_1_0) ?_
  refine X_iconst (v := (1 : Int32)) rfl rfl rfl ?_
  refine X_iload rfl rfl rfl ?_
  refine X_ishl (v := (2097152 : Int32)) rfl rfl rfl ?_
  refine X_callV (as := [.int (2097152 : Int32)]) (st := []) rfl rfl rfl (by decide) rfl (Nat.le_of_ble_eq_true rfl) (by decide) (Nat.le_of_ble_eq_true rfl) rfl ((congrFun F.1 2).trans s_2) (by decide) ?_
  refine LW_ls (ls' := [some (.ref 2), some (.int (2097152 : Int32)), none, none, none]) rfl ?_
  refine X_aload_n rfl rfl rfl rfl ?_
  refine X_iload_n rfl rfl rfl rfl ?_
  refine X_callV (as := [.int (2097152 : Int32)]) (st := []) rfl rfl rfl (by decide) rfl (Nat.le_of_ble_eq_true rfl) (by decide) (Nat.le_of_ble_eq_true rfl) rfl ((congrFun F.1 2).trans s_2) (by decide) ?_
  refine LW_ls (ls' := [some (.ref 2), some (.int (2097152 : Int32)), none, none]) rfl ?_
  refine X_iconst (v := (0 : Int32)) rfl rfl rfl ?_
  refine X_istore_n (i := 2) (ls' := [some (.ref 2), some (.int (2097152 : Int32)), some (.int (0 : Int32)), none]) rfl rfl rfl (Nat.le_of_ble_eq_true rfl) rfl ?_
  refine X_iconst (v := (0 : Int32)) rfl rfl rfl ?_
  refine X_istore_n (i := 3) (ls' := [some (.ref 2), some (.int (2097152 : Int32)), some (.int (0 : Int32)), some (.int (0 : Int32))]) rfl rfl rfl (Nat.le_of_ble_eq_true rfl) rfl ?_
  refine X_iload_n rfl rfl rfl rfl ?_
  refine X_aload_n rfl rfl rfl rfl ?_
  refine X_getI (v := (0 : Int32)) rfl rfl rfl ((congrFun F.1 2).trans s_2) rfl ((congrFun (F.2.2 2 (by decide)).1 0).trans i_2_0) ?_
  refine X_icmp_ge (tgt := 40) rfl rfl rfl (fun _ => ?_) (fun q => absurd q (by decide))
  refine X_iload_n rfl rfl rfl rfl ?_
  refine LW_ireturn (st := []) rfl rfl rfl ?_
  refine X_istore_n (i := 2) (ls' := [some (.ref 2), some (.int (2097152 : Int32)), some (.int (0 : Int32)), none, none]) rfl rfl rfl (Nat.le_of_ble_eq_true rfl) rfl ?_
  refine X_iconst (v := (0 : Int32)) rfl rfl rfl ?_
  refine X_istore_n (i := 3) (ls' := [some (.ref 2), some (.int (2097152 : Int32)), some (.int (0 : Int32)), some (.int (0 : Int32)), none]) rfl rfl rfl (Nat.le_of_ble_eq_true rfl) rfl ?_
  refine X_iconst (v := (0 : Int32)) rfl rfl rfl ?_
  refine X_istore (i := 4) (ls' := [some (.ref 2), some (.int (2097152 : Int32)), some (.int (0 : Int32)), some (.int (0 : Int32)), some (.int (0 : Int32))]) rfl rfl (Nat.le_of_ble_eq_true rfl) rfl ?_
  refine X_iload rfl rfl rfl ?_
  refine X_aload_n rfl rfl rfl rfl ?_
  refine X_getI (v := (0 : Int32)) rfl rfl rfl ((congrFun F.1 2).trans s_2) rfl ((congrFun (F.2.2 2 (by decide)).1 1).trans i_2_1) ?_
  refine X_icmp_ge (tgt := 48) rfl rfl rfl (fun _ => ?_) (fun q => absurd q (by decide))
  refine X_iload_n rfl rfl rfl rfl ?_
  refine LW_ireturn (st := []) rfl rfl rfl ?_
  refine X_istore (i := 5) (ls' := [some (.ref 0), some (.int (1 : Int32)), some (.int (0 : Int32)), some (.int (0 : Int32)), some (.int (21 : Int32)), some (.int (0 : Int32))]) rfl rfl (Nat.le_of_ble_eq_true rfl) rfl ?_
  refine X_iload rfl rfl rfl ?_
  refine X_iload_n rfl rfl rfl rfl ?_
  refine X_icmp_le (tgt := 42) rfl rfl rfl (fun _ => ?_) (fun q => absurd q (by decide))
  refine X_iinc (v := (22 : Int32)) (ls' := [some (.ref 0), some (.int (1 : Int32)), some (.int (0 : Int32)), some (.int (0 : Int32)), some (.int (22 : Int32)), some (.int (0 : Int32))]) rfl rfl rfl rfl rfl ?_
  refine LW_goto (tgt := 7) rfl rfl ?_
  refine X_iload rfl rfl rfl ?_
  refine X_bipush (v := (26 : Int32)) rfl rfl rfl ?_
  refine X_icmp_ge (tgt := 48) rfl rfl rfl (fun q => absurd q (by decide)) (fun _ => ?_)
  refine X_aload_n rfl rfl rfl rfl ?_
  refine X_getR (a := 1) rfl rfl rfl ((congrFun F.1 0).trans s_0) rfl ((congrFun (F.2.1 0 (by decide)) 0).trans r_0_0) ?_
  refine X_getR (a := 2) rfl rfl rfl ((congrFun F.1 1).trans s_1) rfl ((congrFun (F.2.1 1 (by decide)) 0).trans r_1_0) ?_
  refine X_iconst (v := (1 : Int32)) rfl rfl rfl ?_
  refine X_iload rfl rfl rfl ?_
  refine X_ishl (v := (4194304 : Int32)) rfl rfl rfl ?_
  refine X_callV (as := [.int (4194304 : Int32)]) (st := []) rfl rfl rfl (by decide) rfl (Nat.le_of_ble_eq_true rfl) (by decide) (Nat.le_of_ble_eq_true rfl) rfl ((congrFun F.1 2).trans s_2) (by decide) ?_
  refine LW_ls (ls' := [some (.ref 2), some (.int (4194304 : Int32)), none, none, none]) rfl ?_
  refine X_aload_n rfl rfl rfl rfl ?_
  refine X_iload_n rfl rfl rfl rfl ?_
  refine X_callV (as := [.int (4194304 : Int32)]) (st := []) rfl rfl rfl (by decide) rfl (Nat.le_of_ble_eq_true rfl) (by decide) (Nat.le_of_ble_eq_true rfl) rfl ((congrFun F.1 2).trans s_2) (by decide) ?_
  refine LW_ls (ls' := [some (.ref 2), some (.int (4194304 : Int32)), none, none]) rfl ?_
  refine X_iconst (v := (0 : Int32)) rfl rfl rfl ?_
  refine X_istore_n (i := 2) (ls' := [some (.ref 2), some (.int (4194304 : Int32)), some (.int (0 : Int32)), none]) rfl rfl rfl (Nat.le_of_ble_eq_true rfl) rfl ?_
  refine X_iconst (v := (0 : Int32)) rfl rfl rfl ?_
  refine X_istore_n (i := 3) (ls' := [some (.ref 2), some (.int (4194304 : Int32)), some (.int (0 : Int32)), some (.int (0 : Int32))]) rfl rfl rfl (Nat.le_of_ble_eq_true rfl) rfl ?_
  refine X_iload_n rfl rfl rfl rfl ?_
  refine X_aload_n rfl rfl rfl rfl ?_
  refine X_getI (v := (0 : Int32)) rfl rfl rfl ((congrFun F.1 2).trans s_2) rfl ((congrFun (F.2.2 2 (by decide)).1 0).trans i_2_0) ?_
  refine X_icmp_ge (tgt := 40) rfl rfl rfl (fun _ => ?_) (fun q => absurd q (by decide))
  refine X_iload_n rfl rfl rfl rfl ?_
  refine LW_ireturn (st := []) rfl rfl rfl ?_
  refine X_istore_n (i := 2) (ls' := [some (.ref 2), some (.int (4194304 : Int32)), some (.int (0 : Int32)), none, none]) rfl rfl rfl (Nat.le_of_ble_eq_true rfl) rfl ?_
  refine X_iconst (v := (0 : Int32)) rfl rfl rfl ?_
  refine X_istore_n (i := 3) (ls' := [some (.ref 2), some (.int (4194304 : Int32)), some (.int (0 : Int32)), some (.int (0 : Int32)), none]) rfl rfl rfl (Nat.le_of_ble_eq_true rfl) rfl ?_
  refine X_iconst (v := (0 : Int32)) rfl rfl rfl ?_
  refine X_istore (i := 4) (ls' := [some (.ref 2), some (.int (4194304 : Int32)), some (.int (0 : Int32)), some (.int (0 : Int32)), some (.int (0 : Int32))]) rfl rfl (Nat.le_of_ble_eq_true rfl) rfl ?_
  refine X_iload rfl rfl rfl ?_
  refine X_aload_n rfl rfl rfl rfl ?_
  refine X_getI (v := (0 : Int32)) rfl rfl rfl ((congrFun F.1 2).trans s_2) rfl ((congrFun (F.2.2 2 (by decide)).1 1).trans i_2_1) ?_
  refine X_icmp_ge (tgt := 48) rfl rfl rfl (fun _ => ?_) (fun q => absurd q (by decide))
  refine X_iload_n rfl rfl rfl rfl ?_
  refine LW_ireturn (st := []) rfl rfl rfl ?_
  refine X_istore (i := 5) (ls' := [some (.ref 0), some (.int (1 : Int32)), some (.int (0 : Int32)), some (.int (0 : Int32)), some (.int (22 : Int32)), some (.int (0 : Int32))]) rfl rfl (Nat.le_of_ble_eq_true rfl) rfl ?_
  refine X_iload rfl rfl rfl ?_
  refine X_iload_n rfl rfl rfl rfl ?_
  refine X_icmp_le (tgt := 42) rfl rfl rfl (fun _ => ?_) (fun q => absurd q (by decide))
  refine X_iinc (v := (23 : Int32)) (ls' := [some (.ref 0), some (.int (1 : Int32)), some (.int (0 : Int32)), some (.int (0 : Int32)), some (.int (23 : Int32)), some (.int (0 : Int32))]) rfl rfl rfl rfl rfl ?_
  refine LW_goto (tgt := 7) rfl rfl ?_
  refine X_iload rfl rfl rfl ?_
  refine X_bipush (v := (26 : Int32)) rfl rfl rfl ?_
  refine X_icmp_ge (tgt := 48) rfl rfl rfl (fun q => absurd q (by decide)) (fun _ => ?_)
  refine X_aload_n rfl rfl rfl rfl ?_
  refine X_getR (a := 1) rfl rfl rfl ((congrFun F.1 0).trans s_0) rfl ((congrFun (F.2.1 0 (by decide)) 0).trans r_0_0) ?_
  refine X_getR (a := 2) rfl rfl rfl ((congrFun F.1 1).trans s_1) rfl ((congrFun (F.2.1 1 (by decide)) 0).trans r_1_0) ?_
  refine X_iconst (v := (1 : Int32)) rfl rfl rfl ?_
  refine X_iload rfl rfl rfl ?_
  refine X_ishl (v := (8388608 : Int32)) rfl rfl rfl ?_
  refine X_callV (as := [.int (8388608 : Int32)]) (st := []) rfl rfl rfl (by decide) rfl (Nat.le_of_ble_eq_true rfl) (by decide) (Nat.le_of_ble_eq_true rfl) rfl ((congrFun F.1 2).trans s_2) (by decide) ?_
  refine LW_ls (ls' := [some (.ref 2), some (.int (8388608 : Int32)), none, none, none]) rfl ?_
  refine X_aload_n rfl rfl rfl rfl ?_
  refine X_iload_n rfl rfl rfl rfl ?_
  refine X_callV (as := [.int (8388608 : Int32)]) (st := []) rfl rfl rfl (by decide) rfl (Nat.le_of_ble_eq_true rfl) (by decide) (Nat.le_of_ble_eq_true rfl) rfl ((congrFun F.1 2).trans s_2) (by decide) ?_
  refine LW_ls (ls' := [some (.ref 2), some (.int (8388608 : Int32)), none, none]) rfl ?_
  refine X_iconst (v := (0 : Int32)) rfl rfl rfl ?_
  refine X_istore_n (i := 2) (ls' := [some (.ref 2), some (.int (8388608 : Int32)), some (.int (0 : Int32)), none]) rfl rfl rfl (Nat.le_of_ble_eq_true rfl) rfl ?_
  refine X_iconst (v := (0 : Int32)) rfl rfl rfl ?_
  refine X_istore_n (i := 3) (ls' := [some (.ref 2), some (.int (8388608 : Int32)), some (.int (0 : Int32)), some (.int (0 : Int32))]) rfl rfl rfl (Nat.le_of_ble_eq_true rfl) rfl ?_
  refine X_iload_n rfl rfl rfl rfl ?_
  refine X_aload_n rfl rfl rfl rfl ?_
  refine X_getI (v := (0 : Int32)) rfl rfl rfl ((congrFun F.1 2).trans s_2) rfl ((congrFun (F.2.2 2 (by decide)).1 0).trans i_2_0) ?_
  refine X_icmp_ge (tgt := 40) rfl rfl rfl (fun _ => ?_) (fun q => absurd q (by decide))
  refine X_iload_n rfl rfl rfl rfl ?_
  refine LW_ireturn (st := []) rfl rfl rfl ?_
  refine X_istore_n (i := 2) (ls' := [some (.ref 2), some (.int (8388608 : Int32)), some (.int (0 : Int32)), none, none]) rfl rfl rfl (Nat.le_of_ble_eq_true rfl) rfl ?_
  refine X_iconst (v := (0 : Int32)) rfl rfl rfl ?_
  refine X_istore_n (i := 3) (ls' := [some (.ref 2), some (.int (8388608 : Int32)), some (.int (0 : Int32)), some (.int (0 : Int32)), none]) rfl rfl rfl (Nat.le_of_ble_eq_true rfl) rfl ?_
  refine X_iconst (v := (0 : Int32)) rfl rfl rfl ?_
  refine X_istore (i := 4) (ls' := [some (.ref 2), some (.int (8388608 : Int32)), some (.int (0 : Int32)), some (.int (0 : Int32)), some (.int (0 : Int32))]) rfl rfl (Nat.le_of_ble_eq_true rfl) rfl ?_
  refine X_iload rfl rfl rfl ?_
  refine X_aload_n rfl rfl rfl rfl ?_
  refine X_getI (v := (0 : Int32)) rfl rfl rfl ((congrFun F.1 2).trans s_2) rfl ((congrFun (F.2.2 2 (by decide)).1 1).trans i_2_1) ?_
  refine X_icmp_ge (tgt := 48) rfl rfl rfl (fun _ => ?_) (fun q => absurd q (by decide))
  refine X_iload_n rfl rfl rfl rfl ?_
  refine LW_ireturn (st := []) rfl rfl rfl ?_
  refine X_istore (i := 5) (ls' := [some (.ref 0), some (.int (1 : Int32)), some (.int (0 : Int32)), some (.int (0 : Int32)), some (.int (23 : Int32)), some (.int (0 : Int32))]) rfl rfl (Nat.le_of_ble_eq_true rfl) rfl ?_
  refine X_iload rfl rfl rfl ?_
  refine X_iload_n rfl rfl rfl rfl ?_
  refine X_icmp_le (tgt := 42) rfl rfl rfl (fun _ => ?_) (fun q => absurd q (by decide))
  refine X_iinc (v := (24 : Int32)) (ls' := [some (.ref 0), some (.int (1 : Int32)), some (.int (0 : Int32)), some (.int (0 : Int32)), some (.int (24 : Int32)), some (.int (0 : Int32))]) rfl rfl rfl rfl rfl ?_
  refine LW_goto (tgt := 7) rfl rfl ?_
  refine X_iload rfl rfl rfl ?_
  refine X_bipush (v := (26 : Int32)) rfl rfl rfl ?_
  refine X_icmp_ge (tgt := 48) rfl rfl rfl (fun q => absurd q (by decide)) (fun _ => ?_)
  refine X_aload_n rfl rfl rfl rfl ?_
  refine X_getR (a := 1) rfl rfl rfl ((congrFun F.1 0).trans s_0) rfl ((congrFun (F.2.1 0 (by decide)) 0).trans r_0_0) ?_
  refine X_getR (a := 2) rfl rfl rfl ((congrFun F.1 1).trans s_1) rfl ((congrFun (F.2.1 1 (by decide)) 0).trans r_1_0) ?_
  refine X_iconst (v := (1 : Int32)) rfl rfl rfl ?_
  refine X_iload rfl rfl rfl ?_
  refine X_ishl (v := (16777216 : Int32)) rfl rfl rfl ?_
  refine X_callV (as := [.int (16777216 : Int32)]) (st := []) rfl rfl rfl (by decide) rfl (Nat.le_of_ble_eq_true rfl) (by decide) (Nat.le_of_ble_eq_true rfl) rfl ((congrFun F.1 2).trans s_2) (by decide) ?_
  refine LW_ls (ls' := [some (.ref 2), some (.int (16777216 : Int32)), none, none, none]) rfl ?_
  refine X_aload_n rfl rfl rfl rfl ?_
  refine X_iload_n rfl rfl rfl rfl ?_
  refine X_callV (as := [.int (16777216 : Int32)]) (st := []) rfl rfl rfl (by decide) rfl (Nat.le_of_ble_eq_true rfl) (by decide) (Nat.le_of_ble_eq_true rfl) rfl ((congrFun F.1 2).trans s_2) (by decide) ?_
  refine LW_ls (ls' := [some (.ref 2), some (.int (16777216 : Int32)), none, none]) rfl ?_
  refine X_iconst (v := (0 : Int32)) rfl rfl rfl ?_
  refine X_istore_n (i := 2) (ls' := [some (.ref 2), some (.int (16777216 : Int32)), some (.int (0 : Int32)), none]) rfl rfl rfl (Nat.le_of_ble_eq_true rfl) rfl ?_
  refine X_iconst (v := (0 : Int32)) rfl rfl rfl ?_
  refine X_istore_n (i := 3) (ls' := [some (.ref 2), some (.int (16777216 : Int32)), some (.int (0 : Int32)), some (.int (0 : Int32))]) rfl rfl rfl (Nat.le_of_ble_eq_true rfl) rfl ?_
  refine X_iload_n rfl rfl rfl rfl ?_
  refine X_aload_n rfl rfl rfl rfl ?_
  refine X_getI (v := (0 : Int32)) rfl rfl rfl ((congrFun F.1 2).trans s_2) rfl ((congrFun (F.2.2 2 (by decide)).1 0).trans i_2_0) ?_
  refine X_icmp_ge (tgt := 40) rfl rfl rfl (fun _ => ?_) (fun q => absurd q (by decide))
  refine X_iload_n rfl rfl rfl rfl ?_
  refine LW_ireturn (st := []) rfl rfl rfl ?_
  refine X_istore_n (i := 2) (ls' := [some (.ref 2), some (.int (16777216 : Int32)), some (.int (0 : Int32)), none, none]) rfl rfl rfl (Nat.le_of_ble_eq_true rfl) rfl ?_
  refine X_iconst (v := (0 : Int32)) rfl rfl rfl ?_
  refine X_istore_n (i := 3) (ls' := [some (.ref 2), some (.int (16777216 : Int32)), some (.int (0 : Int32)), some (.int (0 : Int32)), none]) rfl rfl rfl (Nat.le_of_ble_eq_true rfl) rfl ?_
  refine X_iconst (v := (0 : Int32)) rfl rfl rfl ?_
  refine X_istore (i := 4) (ls' := [some (.ref 2), some (.int (16777216 : Int32)), some (.int (0 : Int32)), some (.int (0 : Int32)), some (.int (0 : Int32))]) rfl rfl (Nat.le_of_ble_eq_true rfl) rfl ?_
  refine X_iload rfl rfl rfl ?_
  refine X_aload_n rfl rfl rfl rfl ?_
  refine X_getI (v := (0 : Int32)) rfl rfl rfl ((congrFun F.1 2).trans s_2) rfl ((congrFun (F.2.2 2 (by decide)).1 1).trans i_2_1) ?_
  refine X_icmp_ge (tgt := 48) rfl rfl rfl (fun _ => ?_) (fun q => absurd q (by decide))
  refine X_iload_n rfl rfl rfl rfl ?_
  refine LW_ireturn (st := []) rfl rfl rfl ?_
  refine X_istore (i := 5) (ls' := [some (.ref 0), some (.int (1 : Int32)), some (.int (0 : Int32)), some (.int (0 : Int32)), some (.int (24 : Int32)), some (.int (0 : Int32))]) rfl rfl (Nat.le_of_ble_eq_true rfl) rfl ?_
  refine X_iload rfl rfl rfl ?_
  refine X_iload_n rfl rfl rfl rfl ?_
  refine X_icmp_le (tgt := 42) rfl rfl rfl (fun _ => ?_) (fun q => absurd q (by decide))
  refine X_iinc (v := (25 : Int32)) (ls' := [some (.ref 0), some (.int (1 : Int32)), some (.int (0 : Int32)), some (.int (0 : Int32)), some (.int (25 : Int32)), some (.int (0 : Int32))]) rfl rfl rfl rfl rfl ?_
  refine LW_goto (tgt := 7) rfl rfl ?_
  refine X_iload rfl rfl rfl ?_
  refine X_bipush (v := (26 : Int32)) rfl rfl rfl ?_
  refine X_icmp_ge (tgt := 48) rfl rfl rfl (fun q => absurd q (by decide)) (fun _ => ?_)
  refine X_aload_n rfl rfl rfl rfl ?_
  refine X_getR (a := 1) rfl rfl rfl ((congrFun F.1 0).trans s_0) rfl ((congrFun (F.2.1 0 (by decide)) 0).trans r_0_0) ?_
  refine X_getR (a := 2) rfl rfl rfl ((congrFun F.1 1).trans s_1) rfl ((congrFun (F.2.1 1 (by decide)) 0).trans r_1_0) ?_
  refine X_iconst (v := (1 : Int32)) rfl rfl rfl ?_
  refine X_iload rfl rfl rfl ?_
  refine X_ishl (v := (33554432 : Int32)) rfl rfl rfl ?_
  refine X_callV (as := [.int (33554432 : Int32)]) (st := []) rfl rfl rfl (by decide) rfl (Nat.le_of_ble_eq_true rfl) (by decide) (Nat.le_of_ble_eq_true rfl) rfl ((congrFun F.1 2).trans s_2) (by decide) ?_
  refine LW_ls (ls' := [some (.ref 2), some (.int (33554432 : Int32)), none, none, none]) rfl ?_
  refine X_aload_n rfl rfl rfl rfl ?_
  refine X_iload_n rfl rfl rfl rfl ?_
  refine X_callV (as := [.int (33554432 : Int32)]) (st := []) rfl rfl rfl (by decide) rfl (Nat.le_of_ble_eq_true rfl) (by decide) (Nat.le_of_ble_eq_true rfl) rfl ((congrFun F.1 2).trans s_2) (by decide) ?_
  refine LW_ls (ls' := [some (.ref 2), some (.int (33554432 : Int32)), none, none]) rfl ?_
  refine X_iconst (v := (0 : Int32)) rfl rfl rfl ?_
  refine X_istore_n (i := 2) (ls' := [some (.ref 2), some (.int (33554432 : Int32)), some (.int (0 : Int32)), none]) rfl rfl rfl (Nat.le_of_ble_eq_true rfl) rfl ?_
  refine X_iconst (v := (0 : Int32)) rfl rfl rfl ?_
  refine X_istore_n (i := 3) (ls' := [some (.ref 2), some (.int (33554432 : Int32)), some (.int (0 : Int32)), some (.int (0 : Int32))]) rfl rfl rfl (Nat.le_of_ble_eq_true rfl) rfl ?_
  refine X_iload_n rfl rfl rfl rfl ?_
  refine X_aload_n rfl rfl rfl rfl ?_
  refine X_getI (v := (0 : Int32)) rfl rfl rfl ((congrFun F.1 2).trans s_2) rfl ((congrFun (F.2.2 2 (by decide)).1 0).trans i_2_0) ?_
  refine X_icmp_ge (tgt := 40) rfl rfl rfl (fun _ => ?_) (fun q => absurd q (by decide))
  refine X_iload_n rfl rfl rfl rfl ?_
  refine LW_ireturn (st := []) rfl rfl rfl ?_
  refine X_istore_n (i := 2) (ls' := [some (.ref 2), some (.int (33554432 : Int32)), some (.int (0 : Int32)), none, none]) rfl rfl rfl (Nat.le_of_ble_eq_true rfl) rfl ?_
  refine X_iconst (v := (0 : Int32)) rfl rfl rfl ?_
  refine X_istore_n (i := 3) (ls' := [some (.ref 2), some (.int (33554432 : Int32)), some (.int (0 : Int32)), some (.int (0 : Int32)), none]) rfl rfl rfl (Nat.le_of_ble_eq_true rfl) rfl ?_
  refine X_iconst (v := (0 : Int32)) rfl rfl rfl ?_
  refine X_istore (i := 4) (ls' := [some (.ref 2), some (.int (33554432 : Int32)), some (.int (0 : Int32)), some (.int (0 : Int32)), some (.int (0 : Int32))]) rfl rfl (Nat.le_of_ble_eq_true rfl) rfl ?_
  refine X_iload rfl rfl rfl ?_
  refine X_aload_n rfl rfl rfl rfl ?_
  refine X_getI (v := (0 : Int32)) rfl rfl rfl ((congrFun F.1 2).trans s_2) rfl ((congrFun (F.2.2 2 (by decide)).1 1).trans i_2_1) ?_
  refine X_icmp_ge (tgt := 48) rfl rfl rfl (fun _ => ?_) (fun q => absurd q (by decide))
  refine X_iload_n rfl rfl rfl rfl ?_
  refine LW_ireturn (st := []) rfl rfl rfl ?_
  refine X_istore (i := 5) (ls' := [some (.ref 0), some (.int (1 : Int32)), some (.int (0 : Int32)), some (.int (0 : Int32)), some (.int (25 : Int32)), some (.int (0 : Int32))]) rfl rfl (Nat.le_of_ble_eq_true rfl) rfl ?_
  refine X_iload rfl rfl rfl ?_
  refine X_iload_n rfl rfl rfl rfl ?_
  refine X_icmp_le (tgt := 42) rfl rfl rfl (fun _ => ?_) (fun q => absurd q (by decide))
  refine X_iinc (v := (26 : Int32)) (ls' := [some (.ref 0), some (.int (1 : Int32)), some (.int (0 : Int32)), some (.int (0 : Int32)), some (.int (26 : Int32)), some (.int (0 : Int32))]) rfl rfl rfl rfl rfl ?_
  refine LW_goto (tgt := 7) rfl rfl ?_
  refine X_iload rfl rfl rfl ?_
  refine X_bipush (v := (26 : Int32)) rfl rfl rfl ?_
  refine X_icmp_ge (tgt := 48) rfl rfl rfl (fun _ => ?_) (fun q => absurd q (by decide))
  refine X_iload_n rfl rfl rfl rfl ?_
  refine X_if_eq (tgt := 56) rfl rfl rfl (fun q => absurd q (by decide)) (fun _ => ?_)
  refine X_iload_n rfl rfl rfl rfl ?_
  refine LW_goto (tgt := 57) rfl rfl ?_
  refine LW_ireturn (st := []) rfl rfl rfl ⟨congrArg (fun z => some (Value.int z)) ?_, E⟩
  unfold f_spared1
  repeat' split
  all_goals first | rfl | (exfalso; omega) | (refine Int32.toInt_inj.mp ?_; rw [show (0 : Int32).toInt = 0 from rfl]; omega)
set_option maxRecDepth 10000 in
set_option maxHeartbeats 4000000 in
theorem r_spared1 {g : LH} (F : Fr g) : LW 283 30 0 0 0 (lEnt (mL 283) [.ref 355, .int (1 : Int32)]) [] g (fun v _ => v = some (.int (f_spared1))) := by
  refine LW_ls (ls' := [some (.ref 355), some (.int (1 : Int32)), none, none]) rfl ?_
  refine X_iconst (v := (0 : Int32)) rfl rfl rfl ?_
  refine X_istore_n (i := 2) (ls' := [some (.ref 355), some (.int (1 : Int32)), some (.int (0 : Int32)), none]) rfl rfl rfl (Nat.le_of_ble_eq_true rfl) rfl ?_
  refine X_iconst (v := (1 : Int32)) rfl rfl rfl ?_
  refine X_istore_n (i := 3) (ls' := [some (.ref 355), some (.int (1 : Int32)), some (.int (0 : Int32)), some (.int (1 : Int32))]) rfl rfl rfl (Nat.le_of_ble_eq_true rfl) rfl ?_
  refine X_iload_n rfl rfl rfl rfl ?_
  refine X_bipush (v := (26 : Int32)) rfl rfl rfl ?_
  refine X_icmp_ge (tgt := 35) rfl rfl rfl (fun q => absurd q (by decide)) (fun _ => ?_)
  refine X_aload_n rfl rfl rfl rfl ?_
  refine X_iconst (v := (1 : Int32)) rfl rfl rfl ?_
  refine X_iload_n rfl rfl rfl rfl ?_
  refine X_ishl (v := (2 : Int32)) rfl rfl rfl ?_
  refine X_callV (as := [.int (2 : Int32)]) (st := []) rfl rfl rfl (by decide) rfl (Nat.le_of_ble_eq_true rfl) (by decide) (Nat.le_of_ble_eq_true rfl) rfl ((congrFun F.1 355).trans s_355) (by decide) ?_
  refine LW_ls (ls' := [some (.ref 355), some (.int (2 : Int32)), none, none]) rfl ?_
  refine X_iconst (v := (0 : Int32)) rfl rfl rfl ?_
  refine X_istore_n (i := 2) (ls' := [some (.ref 355), some (.int (2 : Int32)), some (.int (0 : Int32)), none]) rfl rfl rfl (Nat.le_of_ble_eq_true rfl) rfl ?_
  refine X_iconst (v := (0 : Int32)) rfl rfl rfl ?_
  refine X_istore_n (i := 3) (ls' := [some (.ref 355), some (.int (2 : Int32)), some (.int (0 : Int32)), some (.int (0 : Int32))]) rfl rfl rfl (Nat.le_of_ble_eq_true rfl) rfl ?_
  refine X_iload_n rfl rfl rfl rfl ?_
  refine X_aload_n rfl rfl rfl rfl ?_
  refine X_getR (a := 356) rfl rfl rfl ((congrFun F.1 355).trans s_355) rfl ((congrFun (F.2.1 355 (by decide)) 0).trans r_355_0) ?_
  refine X_iconst (v := (1 : Int32)) rfl rfl rfl ?_
  refine X_iald (v := (0 : Int32)) rfl rfl ((congrFun F.1 356).trans s_356) (vp_in_d rfl) ((congrFun (F.2.2 356 (by decide)).1 1).trans i_356_1) ?_
  refine X_icmp_ge (tgt := 38) rfl rfl rfl (fun _ => ?_) (fun q => absurd q (by decide))
  refine X_iload_n rfl rfl rfl rfl ?_
  refine LW_ireturn (st := []) rfl rfl rfl ?_
  refine X_aload_n rfl rfl rfl rfl ?_
  refine X_iconst (v := (1 : Int32)) rfl rfl rfl ?_
  refine X_iload_n rfl rfl rfl rfl ?_
  refine X_ishl (v := (1 : Int32)) rfl rfl rfl ?_
  refine X_callV (as := [.int (1 : Int32)]) (st := [.int (0 : Int32)]) rfl rfl rfl (by decide) rfl (Nat.le_of_ble_eq_true rfl) (by decide) (Nat.le_of_ble_eq_true rfl) rfl ((congrFun F.1 355).trans s_355) (by decide) ?_
  refine LW_ls (ls' := [some (.ref 355), some (.int (1 : Int32)), none, none]) rfl ?_
  refine X_iconst (v := (0 : Int32)) rfl rfl rfl ?_
  refine X_istore_n (i := 2) (ls' := [some (.ref 355), some (.int (1 : Int32)), some (.int (0 : Int32)), none]) rfl rfl rfl (Nat.le_of_ble_eq_true rfl) rfl ?_
  refine X_iconst (v := (0 : Int32)) rfl rfl rfl ?_
  refine X_istore_n (i := 3) (ls' := [some (.ref 355), some (.int (1 : Int32)), some (.int (0 : Int32)), some (.int (0 : Int32))]) rfl rfl rfl (Nat.le_of_ble_eq_true rfl) rfl ?_
  refine X_iload_n rfl rfl rfl rfl ?_
  refine X_aload_n rfl rfl rfl rfl ?_
  refine X_getR (a := 356) rfl rfl rfl ((congrFun F.1 355).trans s_355) rfl ((congrFun (F.2.1 355 (by decide)) 0).trans r_355_0) ?_
  refine X_iconst (v := (1 : Int32)) rfl rfl rfl ?_
  refine X_iald (v := (0 : Int32)) rfl rfl ((congrFun F.1 356).trans s_356) (vp_in_d rfl) ((congrFun (F.2.2 356 (by decide)).1 1).trans i_356_1) ?_
  refine X_icmp_ge (tgt := 38) rfl rfl rfl (fun _ => ?_) (fun q => absurd q (by decide))
  refine X_iload_n rfl rfl rfl rfl ?_
  refine LW_ireturn (st := []) rfl rfl rfl ?_
  refine X_icmp_le (tgt := 29) rfl rfl rfl (fun _ => ?_) (fun q => absurd q (by decide))
  refine X_iinc (v := (2 : Int32)) (ls' := [some (.ref 355), some (.int (1 : Int32)), some (.int (0 : Int32)), some (.int (2 : Int32))]) rfl rfl rfl rfl rfl ?_
  refine LW_goto (tgt := 4) rfl rfl ?_
  refine X_iload_n rfl rfl rfl rfl ?_
  refine X_bipush (v := (26 : Int32)) rfl rfl rfl ?_
  refine X_icmp_ge (tgt := 35) rfl rfl rfl (fun q => absurd q (by decide)) (fun _ => ?_)
  refine X_aload_n rfl rfl rfl rfl ?_
  refine X_iconst (v := (1 : Int32)) rfl rfl rfl ?_
  refine X_iload_n rfl rfl rfl rfl ?_
  refine X_ishl (v := (4 : Int32)) rfl rfl rfl ?_
  refine X_callV (as := [.int (4 : Int32)]) (st := []) rfl rfl rfl (by decide) rfl (Nat.le_of_ble_eq_true rfl) (by decide) (Nat.le_of_ble_eq_true rfl) rfl ((congrFun F.1 355).trans s_355) (by decide) ?_
  refine LW_ls (ls' := [some (.ref 355), some (.int (4 : Int32)), none, none]) rfl ?_
  refine X_iconst (v := (0 : Int32)) rfl rfl rfl ?_
  refine X_istore_n (i := 2) (ls' := [some (.ref 355), some (.int (4 : Int32)), some (.int (0 : Int32)), none]) rfl rfl rfl (Nat.le_of_ble_eq_true rfl) rfl ?_
  refine X_iconst (v := (0 : Int32)) rfl rfl rfl ?_
  refine X_istore_n (i := 3) (ls' := [some (.ref 355), some (.int (4 : Int32)), some (.int (0 : Int32)), some (.int (0 : Int32))]) rfl rfl rfl (Nat.le_of_ble_eq_true rfl) rfl ?_
  refine X_iload_n rfl rfl rfl rfl ?_
  refine X_aload_n rfl rfl rfl rfl ?_
  refine X_getR (a := 356) rfl rfl rfl ((congrFun F.1 355).trans s_355) rfl ((congrFun (F.2.1 355 (by decide)) 0).trans r_355_0) ?_
  refine X_iconst (v := (1 : Int32)) rfl rfl rfl ?_
  refine X_iald (v := (0 : Int32)) rfl rfl ((congrFun F.1 356).trans s_356) (vp_in_d rfl) ((congrFun (F.2.2 356 (by decide)).1 1).trans i_356_1) ?_
  refine X_icmp_ge (tgt := 38) rfl rfl rfl (fun _ => ?_) (fun q => absurd q (by decide))
  refine X_iload_n rfl rfl rfl rfl ?_
  refine LW_ireturn (st := []) rfl rfl rfl ?_
  refine X_aload_n rfl rfl rfl rfl ?_
  refine X_iconst (v := (1 : Int32)) rfl rfl rfl ?_
  refine X_iload_n rfl rfl rfl rfl ?_
  refine X_ishl (v := (1 : Int32)) rfl rfl rfl ?_
  refine X_callV (as := [.int (1 : Int32)]) (st := [.int (0 : Int32)]) rfl rfl rfl (by decide) rfl (Nat.le_of_ble_eq_true rfl) (by decide) (Nat.le_of_ble_eq_true rfl) rfl ((congrFun F.1 355).trans s_355) (by decide) ?_
  refine LW_ls (ls' := [some (.ref 355), some (.int (1 : Int32)), none, none]) rfl ?_
  refine X_iconst (v := (0 : Int32)) rfl rfl rfl ?_
  refine X_istore_n (i := 2) (ls' := [some (.ref 355), some (.int (1 : Int32)), some (.int (0 : Int32)), none]) rfl rfl rfl (Nat.le_of_ble_eq_true rfl) rfl ?_
  refine X_iconst (v := (0 : Int32)) rfl rfl rfl ?_
  refine X_istore_n (i := 3) (ls' := [some (.ref 355), some (.int (1 : Int32)), some (.int (0 : Int32)), some (.int (0 : Int32))]) rfl rfl rfl (Nat.le_of_ble_eq_true rfl) rfl ?_
  refine X_iload_n rfl rfl rfl rfl ?_
  refine X_aload_n rfl rfl rfl rfl ?_
  refine X_getR (a := 356) rfl rfl rfl ((congrFun F.1 355).trans s_355) rfl ((congrFun (F.2.1 355 (by decide)) 0).trans r_355_0) ?_
  refine X_iconst (v := (1 : Int32)) rfl rfl rfl ?_
  refine X_iald (v := (0 : Int32)) rfl rfl ((congrFun F.1 356).trans s_356) (vp_in_d rfl) ((congrFun (F.2.2 356 (by decide)).1 1).trans i_356_1) ?_
  refine X_icmp_ge (tgt := 38) rfl rfl rfl (fun _ => ?_) (fun q => absurd q (by decide))
  refine X_iload_n rfl rfl rfl rfl ?_
  refine LW_ireturn (st := []) rfl rfl rfl ?_
  refine X_icmp_le (tgt := 29) rfl rfl rfl (fun _ => ?_) (fun q => absurd q (by decide))
  refine X_iinc (v := (3 : Int32)) (ls' := [some (.ref 355), some (.int (1 : Int32)), some (.int (0 : Int32)), some (.int (3 : Int32))]) rfl rfl rfl rfl rfl ?_
  refine LW_goto (tgt := 4) rfl rfl ?_
  refine X_iload_n rfl rfl rfl rfl ?_
  refine X_bipush (v := (26 : Int32)) rfl rfl rfl ?_
  refine X_icmp_ge (tgt := 35) rfl rfl rfl (fun q => absurd q (by decide)) (fun _ => ?_)
  refine X_aload_n rfl rfl rfl rfl ?_
  refine X_iconst (v := (1 : Int32)) rfl rfl rfl ?_
  refine X_iload_n rfl rfl rfl rfl ?_
  refine X_ishl (v := (8 : Int32)) rfl rfl rfl ?_
  refine X_callV (as := [.int (8 : Int32)]) (st := []) rfl rfl rfl (by decide) rfl (Nat.le_of_ble_eq_true rfl) (by decide) (Nat.le_of_ble_eq_true rfl) rfl ((congrFun F.1 355).trans s_355) (by decide) ?_
  refine LW_ls (ls' := [some (.ref 355), some (.int (8 : Int32)), none, none]) rfl ?_
  refine X_iconst (v := (0 : Int32)) rfl rfl rfl ?_
  refine X_istore_n (i := 2) (ls' := [some (.ref 355), some (.int (8 : Int32)), some (.int (0 : Int32)), none]) rfl rfl rfl (Nat.le_of_ble_eq_true rfl) rfl ?_
  refine X_iconst (v := (0 : Int32)) rfl rfl rfl ?_
  refine X_istore_n (i := 3) (ls' := [some (.ref 355), some (.int (8 : Int32)), some (.int (0 : Int32)), some (.int (0 : Int32))]) rfl rfl rfl (Nat.le_of_ble_eq_true rfl) rfl ?_
  refine X_iload_n rfl rfl rfl rfl ?_
  refine X_aload_n rfl rfl rfl rfl ?_
  refine X_getR (a := 356) rfl rfl rfl ((congrFun F.1 355).trans s_355) rfl ((congrFun (F.2.1 355 (by decide)) 0).trans r_355_0) ?_
  refine X_iconst (v := (1 : Int32)) rfl rfl rfl ?_
  refine X_iald (v := (0 : Int32)) rfl rfl ((congrFun F.1 356).trans s_356) (vp_in_d rfl) ((congrFun (F.2.2 356 (by decide)).1 1).trans i_356_1) ?_
  refine X_icmp_ge (tgt := 38) rfl rfl rfl (fun _ => ?_) (fun q => absurd q (by decide))
  refine X_iload_n rfl rfl rfl rfl ?_
  refine LW_ireturn (st := []) rfl rfl rfl ?_
  refine X_aload_n rfl rfl rfl rfl ?_
  refine X_iconst (v := (1 : Int32)) rfl rfl rfl ?_
  refine X_iload_n rfl rfl rfl rfl ?_
  refine X_ishl (v := (1 : Int32)) rfl rfl rfl ?_
  refine X_callV (as := [.int (1 : Int32)]) (st := [.int (0 : Int32)]) rfl rfl rfl (by decide) rfl (Nat.le_of_ble_eq_true rfl) (by decide) (Nat.le_of_ble_eq_true rfl) rfl ((congrFun F.1 355).trans s_355) (by decide) ?_
  refine LW_ls (ls' := [some (.ref 355), some (.int (1 : Int32)), none, none]) rfl ?_
  refine X_iconst (v := (0 : Int32)) rfl rfl rfl ?_
  refine X_istore_n (i := 2) (ls' := [some (.ref 355), some (.int (1 : Int32)), some (.int (0 : Int32)), none]) rfl rfl rfl (Nat.le_of_ble_eq_true rfl) rfl ?_
  refine X_iconst (v := (0 : Int32)) rfl rfl rfl ?_
  refine X_istore_n (i := 3) (ls' := [some (.ref 355), some (.int (1 : Int32)), some (.int (0 : Int32)), some (.int (0 : Int32))]) rfl rfl rfl (Nat.le_of_ble_eq_true rfl) rfl ?_
  refine X_iload_n rfl rfl rfl rfl ?_
  refine X_aload_n rfl rfl rfl rfl ?_
  refine X_getR (a := 356) rfl rfl rfl ((congrFun F.1 355).trans s_355) rfl ((congrFun (F.2.1 355 (by decide)) 0).trans r_355_0) ?_
  refine X_iconst (v := (1 : Int32)) rfl rfl rfl ?_
  refine X_iald (v := (0 : Int32)) rfl rfl ((congrFun F.1 356).trans s_356) (vp_in_d rfl) ((congrFun (F.2.2 356 (by decide)).1 1).trans i_356_1) ?_
  refine X_icmp_ge (tgt := 38) rfl rfl rfl (fun _ => ?_) (fun q => absurd q (by decide))
  refine X_iload_n rfl rfl rfl rfl ?_
  refine LW_ireturn (st := []) rfl rfl rfl ?_
  refine X_icmp_le (tgt := 29) rfl rfl rfl (fun _ => ?_) (fun q => absurd q (by decide))
  refine X_iinc (v := (4 : Int32)) (ls' := [some (.ref 355), some (.int (1 : Int32)), some (.int (0 : Int32)), some (.int (4 : Int32))]) rfl rfl rfl rfl rfl ?_
  refine LW_goto (tgt := 4) rfl rfl ?_
  refine X_iload_n rfl rfl rfl rfl ?_
  refine X_bipush (v := (26 : Int32)) rfl rfl rfl ?_
  refine X_icmp_ge (tgt := 35) rfl rfl rfl (fun q => absurd q (by decide)) (fun _ => ?_)
  refine X_aload_n rfl rfl rfl rfl ?_
  refine X_iconst (v := (1 : Int32)) rfl rfl rfl ?_
  refine X_iload_n rfl rfl rfl rfl ?_
  refine X_ishl (v := (16 : Int32)) rfl rfl rfl ?_
  refine X_callV (as := [.int (16 : Int32)]) (st := []) rfl rfl rfl (by decide) rfl (Nat.le_of_ble_eq_true rfl) (by decide) (Nat.le_of_ble_eq_true rfl) rfl ((congrFun F.1 355).trans s_355) (by decide) ?_
  refine LW_ls (ls' := [some (.ref 355), some (.int (16 : Int32)), none, none]) rfl ?_
  refine X_iconst (v := (0 : Int32)) rfl rfl rfl ?_
  refine X_istore_n (i := 2) (ls' := [some (.ref 355), some (.int (16 : Int32)), some (.int (0 : Int32)), none]) rfl rfl rfl (Nat.le_of_ble_eq_true rfl) rfl ?_
  refine X_iconst (v := (0 : Int32)) rfl rfl rfl ?_
  refine X_istore_n (i := 3) (ls' := [some (.ref 355), some (.int (16 : Int32)), some (.int (0 : Int32)), some (.int (0 : Int32))]) rfl rfl rfl (Nat.le_of_ble_eq_true rfl) rfl ?_
  refine X_iload_n rfl rfl rfl rfl ?_
  refine X_aload_n rfl rfl rfl rfl ?_
  refine X_getR (a := 356) rfl rfl rfl ((congrFun F.1 355).trans s_355) rfl ((congrFun (F.2.1 355 (by decide)) 0).trans r_355_0) ?_
  refine X_iconst (v := (1 : Int32)) rfl rfl rfl ?_
  refine X_iald (v := (0 : Int32)) rfl rfl ((congrFun F.1 356).trans s_356) (vp_in_d rfl) ((congrFun (F.2.2 356 (by decide)).1 1).trans i_356_1) ?_
  refine X_icmp_ge (tgt := 38) rfl rfl rfl (fun _ => ?_) (fun q => absurd q (by decide))
  refine X_iload_n rfl rfl rfl rfl ?_
  refine LW_ireturn (st := []) rfl rfl rfl ?_
  refine X_aload_n rfl rfl rfl rfl ?_
  refine X_iconst (v := (1 : Int32)) rfl rfl rfl ?_
  refine X_iload_n rfl rfl rfl rfl ?_
  refine X_ishl (v := (1 : Int32)) rfl rfl rfl ?_
  refine X_callV (as := [.int (1 : Int32)]) (st := [.int (0 : Int32)]) rfl rfl rfl (by decide) rfl (Nat.le_of_ble_eq_true rfl) (by decide) (Nat.le_of_ble_eq_true rfl) rfl ((congrFun F.1 355).trans s_355) (by decide) ?_
  refine LW_ls (ls' := [some (.ref 355), some (.int (1 : Int32)), none, none]) rfl ?_
  refine X_iconst (v := (0 : Int32)) rfl rfl rfl ?_
  refine X_istore_n (i := 2) (ls' := [some (.ref 355), some (.int (1 : Int32)), some (.int (0 : Int32)), none]) rfl rfl rfl (Nat.le_of_ble_eq_true rfl) rfl ?_
  refine X_iconst (v := (0 : Int32)) rfl rfl rfl ?_
  refine X_istore_n (i := 3) (ls' := [some (.ref 355), some (.int (1 : Int32)), some (.int (0 : Int32)), some (.int (0 : Int32))]) rfl rfl rfl (Nat.le_of_ble_eq_true rfl) rfl ?_
  refine X_iload_n rfl rfl rfl rfl ?_
  refine X_aload_n rfl rfl rfl rfl ?_
  refine X_getR (a := 356) rfl rfl rfl ((congrFun F.1 355).trans s_355) rfl ((congrFun (F.2.1 355 (by decide)) 0).trans r_355_0) ?_
  refine X_iconst (v := (1 : Int32)) rfl rfl rfl ?_
  refine X_iald (v := (0 : Int32)) rfl rfl ((congrFun F.1 356).trans s_356) (vp_in_d rfl) ((congrFun (F.2.2 356 (by decide)).1 1).trans i_356_1) ?_
  refine X_icmp_ge (tgt := 38) rfl rfl rfl (fun _ => ?_) (fun q => absurd q (by decide))
  refine X_iload_n rfl rfl rfl rfl ?_
  refine LW_ireturn (st := []) rfl rfl rfl ?_
  refine X_icmp_le (tgt := 29) rfl rfl rfl (fun _ => ?_) (fun q => absurd q (by decide))
  refine X_iinc (v := (5 : Int32)) (ls' := [some (.ref 355), some (.int (1 : Int32)), some (.int (0 : Int32)), some (.int (5 : Int32))]) rfl rfl rfl rfl rfl ?_
  refine LW_goto (tgt := 4) rfl rfl ?_
  refine X_iload_n rfl rfl rfl rfl ?_
  refine X_bipush (v := (26 : Int32)) rfl rfl rfl ?_
  refine X_icmp_ge (tgt := 35) rfl rfl rfl (fun q => absurd q (by decide)) (fun _ => ?_)
  refine X_aload_n rfl rfl rfl rfl ?_
  refine X_iconst (v := (1 : Int32)) rfl rfl rfl ?_
  refine X_iload_n rfl rfl rfl rfl ?_
  refine X_ishl (v := (32 : Int32)) rfl rfl rfl ?_
  refine X_callV (as := [.int (32 : Int32)]) (st := []) rfl rfl rfl (by decide) rfl (Nat.le_of_ble_eq_true rfl) (by decide) (Nat.le_of_ble_eq_true rfl) rfl ((congrFun F.1 355).trans s_355) (by decide) ?_
  refine LW_ls (ls' := [some (.ref 355), some (.int (32 : Int32)), none, none]) rfl ?_
  refine X_iconst (v := (0 : Int32)) rfl rfl rfl ?_
  refine X_istore_n (i := 2) (ls' := [some (.ref 355), some (.int (32 : Int32)), some (.int (0 : Int32)), none]) rfl rfl rfl (Nat.le_of_ble_eq_true rfl) rfl ?_
  refine X_iconst (v := (0 : Int32)) rfl rfl rfl ?_
  refine X_istore_n (i := 3) (ls' := [some (.ref 355), some (.int (32 : Int32)), some (.int (0 : Int32)), some (.int (0 : Int32))]) rfl rfl rfl (Nat.le_of_ble_eq_true rfl) rfl ?_
  refine X_iload_n rfl rfl rfl rfl ?_
  refine X_aload_n rfl rfl rfl rfl ?_
  refine X_getR (a := 356) rfl rfl rfl ((congrFun F.1 355).trans s_355) rfl ((congrFun (F.2.1 355 (by decide)) 0).trans r_355_0) ?_
  refine X_iconst (v := (1 : Int32)) rfl rfl rfl ?_
  refine X_iald (v := (0 : Int32)) rfl rfl ((congrFun F.1 356).trans s_356) (vp_in_d rfl) ((congrFun (F.2.2 356 (by decide)).1 1).trans i_356_1) ?_
  refine X_icmp_ge (tgt := 38) rfl rfl rfl (fun _ => ?_) (fun q => absurd q (by decide))
  refine X_iload_n rfl rfl rfl rfl ?_
  refine LW_ireturn (st := []) rfl rfl rfl ?_
  refine X_aload_n rfl rfl rfl rfl ?_
  refine X_iconst (v := (1 : Int32)) rfl rfl rfl ?_
  refine X_iload_n rfl rfl rfl rfl ?_
  refine X_ishl (v := (1 : Int32)) rfl rfl rfl ?_
  refine X_callV (as := [.int (1 : Int32)]) (st := [.int (0 : Int32)]) rfl rfl rfl (by decide) rfl (Nat.le_of_ble_eq_true rfl) (by decide) (Nat.le_of_ble_eq_true rfl) rfl ((congrFun F.1 355).trans s_355) (by decide) ?_
  refine LW_ls (ls' := [some (.ref 355), some (.int (1 : Int32)), none, none]) rfl ?_
  refine X_iconst (v := (0 : Int32)) rfl rfl rfl ?_
  refine X_istore_n (i := 2) (ls' := [some (.ref 355), some (.int (1 : Int32)), some (.int (0 : Int32)), none]) rfl rfl rfl (Nat.le_of_ble_eq_true rfl) rfl ?_
  refine X_iconst (v := (0 : Int32)) rfl rfl rfl ?_
  refine X_istore_n (i := 3) (ls' := [some (.ref 355), some (.int (1 : Int32)), some (.int (0 : Int32)), some (.int (0 : Int32))]) rfl rfl rfl (Nat.le_of_ble_eq_true rfl) rfl ?_
  refine X_iload_n rfl rfl rfl rfl ?_
  refine X_aload_n rfl rfl rfl rfl ?_
  refine X_getR (a := 356) rfl rfl rfl ((congrFun F.1 355).trans s_355) rfl ((congrFun (F.2.1 355 (by decide)) 0).trans r_355_0) ?_
  refine X_iconst (v := (1 : Int32)) rfl rfl rfl ?_
  refine X_iald (v := (0 : Int32)) rfl rfl ((congrFun F.1 356).trans s_356) (vp_in_d rfl) ((congrFun (F.2.2 356 (by decide)).1 1).trans i_356_1) ?_
  refine X_icmp_ge (tgt := 38) rfl rfl rfl (fun _ => ?_) (fun q => absurd q (by decide))
  refine X_iload_n rfl rfl rfl rfl ?_
  refine LW_ireturn (st := []) rfl rfl rfl ?_
  refine X_icmp_le (tgt := 29) rfl rfl rfl (fun _ => ?_) (fun q => absurd q (by decide))
  refine X_iinc (v := (6 : Int32)) (ls' := [some (.ref 355), some (.int (1 : Int32)), some (.int (0 : Int32)), some (.int (6 : Int32))]) rfl rfl rfl rfl rfl ?_
  refine LW_goto (tgt := 4) rfl rfl ?_
  refine X_iload_n rfl rfl rfl rfl ?_
  refine X_bipush (v := (26 : Int32)) rfl rfl rfl ?_
  refine X_icmp_ge (tgt := 35) rfl rfl rfl (fun q => absurd q (by decide)) (fun _ => ?_)
  refine X_aload_n rfl rfl rfl rfl ?_
  refine X_iconst (v := (1 : Int32)) rfl rfl rfl ?_
  refine X_iload_n rfl rfl rfl rfl ?_
  refine X_ishl (v := (64 : Int32)) rfl rfl rfl ?_
  refine X_callV (as := [.int (64 : Int32)]) (st := []) rfl rfl rfl (by decide) rfl (Nat.le_of_ble_eq_true rfl) (by decide) (Nat.le_of_ble_eq_true rfl) rfl ((congrFun F.1 355).trans s_355) (by decide) ?_
  refine LW_ls (ls' := [some (.ref 355), some (.int (64 : Int32)), none, none]) rfl ?_
  refine X_iconst (v := (0 : Int32)) rfl rfl rfl ?_
  refine X_istore_n (i := 2) (ls' := [some (.ref 355), some (.int (64 : Int32)), some (.int (0 : Int32)), none]) rfl rfl rfl (Nat.le_of_ble_eq_true rfl) rfl ?_
  refine X_iconst (v := (0 : Int32)) rfl rfl rfl ?_
  refine X_istore_n (i := 3) (ls' := [some (.ref 355), some (.int (64 : Int32)), some (.int (0 : Int32)), some (.int (0 : Int32))]) rfl rfl rfl (Nat.le_of_ble_eq_true rfl) rfl ?_
  refine X_iload_n rfl rfl rfl rfl ?_
  refine X_aload_n rfl rfl rfl rfl ?_
  refine X_getR (a := 356) rfl rfl rfl ((congrFun F.1 355).trans s_355) rfl ((congrFun (F.2.1 355 (by decide)) 0).trans r_355_0) ?_
  refine X_iconst (v := (1 : Int32)) rfl rfl rfl ?_
  refine X_iald (v := (0 : Int32)) rfl rfl ((congrFun F.1 356).trans s_356) (vp_in_d rfl) ((congrFun (F.2.2 356 (by decide)).1 1).trans i_356_1) ?_
  refine X_icmp_ge (tgt := 38) rfl rfl rfl (fun _ => ?_) (fun q => absurd q (by decide))
  refine X_iload_n rfl rfl rfl rfl ?_
  refine LW_ireturn (st := []) rfl rfl rfl ?_
  refine X_aload_n rfl rfl rfl rfl ?_
  refine X_iconst (v := (1 : Int32)) rfl rfl rfl ?_
  refine X_iload_n rfl rfl rfl rfl ?_
  refine X_ishl (v := (1 : Int32)) rfl rfl rfl ?_
  refine X_callV (as := [.int (1 : Int32)]) (st := [.int (0 : Int32)]) rfl rfl rfl (by decide) rfl (Nat.le_of_ble_eq_true rfl) (by decide) (Nat.le_of_ble_eq_true rfl) rfl ((congrFun F.1 355).trans s_355) (by decide) ?_
  refine LW_ls (ls' := [some (.ref 355), some (.int (1 : Int32)), none, none]) rfl ?_
  refine X_iconst (v := (0 : Int32)) rfl rfl rfl ?_
  refine X_istore_n (i := 2) (ls' := [some (.ref 355), some (.int (1 : Int32)), some (.int (0 : Int32)), none]) rfl rfl rfl (Nat.le_of_ble_eq_true rfl) rfl ?_
  refine X_iconst (v := (0 : Int32)) rfl rfl rfl ?_
  refine X_istore_n (i := 3) (ls' := [some (.ref 355), some (.int (1 : Int32)), some (.int (0 : Int32)), some (.int (0 : Int32))]) rfl rfl rfl (Nat.le_of_ble_eq_true rfl) rfl ?_
  refine X_iload_n rfl rfl rfl rfl ?_
  refine X_aload_n rfl rfl rfl rfl ?_
  refine X_getR (a := 356) rfl rfl rfl ((congrFun F.1 355).trans s_355) rfl ((congrFun (F.2.1 355 (by decide)) 0).trans r_355_0) ?_
  refine X_iconst (v := (1 : Int32)) rfl rfl rfl ?_
  refine X_iald (v := (0 : Int32)) rfl rfl ((congrFun F.1 356).trans s_356) (vp_in_d rfl) ((congrFun (F.2.2 356 (by decide)).1 1).trans i_356_1) ?_
  refine X_icmp_ge (tgt := 38) rfl rfl rfl (fun _ => ?_) (fun q => absurd q (by decide))
  refine X_iload_n rfl rfl rfl rfl ?_
  refine LW_ireturn (st := []) rfl rfl rfl ?_
  refine X_icmp_le (tgt := 29) rfl rfl rfl (fun _ => ?_) (fun q => absurd q (by decide))
  refine X_iinc (v := (7 : Int32)) (ls' := [some (.ref 355), some (.int (1 : Int32)), some (.int (0 : Int32)), some (.int (7 : Int32))]) rfl rfl rfl rfl rfl ?_
  refine LW_goto (tgt := 4) rfl rfl ?_
  refine X_iload_n rfl rfl rfl rfl ?_
  refine X_bipush (v := (26 : Int32)) rfl rfl rfl ?_
  refine X_icmp_ge (tgt := 35) rfl rfl rfl (fun q => absurd q (by decide)) (fun _ => ?_)
  refine X_aload_n rfl rfl rfl rfl ?_
  refine X_iconst (v := (1 : Int32)) rfl rfl rfl ?_
  refine X_iload_n rfl rfl rfl rfl ?_
  refine X_ishl (v := (128 : Int32)) rfl rfl rfl ?_
  refine X_callV (as := [.int (128 : Int32)]) (st := []) rfl rfl rfl (by decide) rfl (Nat.le_of_ble_eq_true rfl) (by decide) (Nat.le_of_ble_eq_true rfl) rfl ((congrFun F.1 355).trans s_355) (by decide) ?_
  refine LW_ls (ls' := [some (.ref 355), some (.int (128 : Int32)), none, none]) rfl ?_
  refine X_iconst (v := (0 : Int32)) rfl rfl rfl ?_
  refine X_istore_n (i := 2) (ls' := [some (.ref 355), some (.int (128 : Int32)), some (.int (0 : Int32)), none]) rfl rfl rfl (Nat.le_of_ble_eq_true rfl) rfl ?_
  refine X_iconst (v := (0 : Int32)) rfl rfl rfl ?_
  refine X_istore_n (i := 3) (ls' := [some (.ref 355), some (.int (128 : Int32)), some (.int (0 : Int32)), some (.int (0 : Int32))]) rfl rfl rfl (Nat.le_of_ble_eq_true rfl) rfl ?_
  refine X_iload_n rfl rfl rfl rfl ?_
  refine X_aload_n rfl rfl rfl rfl ?_
  refine X_getR (a := 356) rfl rfl rfl ((congrFun F.1 355).trans s_355) rfl ((congrFun (F.2.1 355 (by decide)) 0).trans r_355_0) ?_
  refine X_iconst (v := (1 : Int32)) rfl rfl rfl ?_
  refine X_iald (v := (0 : Int32)) rfl rfl ((congrFun F.1 356).trans s_356) (vp_in_d rfl) ((congrFun (F.2.2 356 (by decide)).1 1).trans i_356_1) ?_
  refine X_icmp_ge (tgt := 38) rfl rfl rfl (fun _ => ?_) (fun q => absurd q (by decide))
  refine X_iload_n rfl rfl rfl rfl ?_
  refine LW_ireturn (st := []) rfl rfl rfl ?_
  refine X_aload_n rfl rfl rfl rfl ?_
  refine X_iconst (v := (1 : Int32)) rfl rfl rfl ?_
  refine X_iload_n rfl rfl rfl rfl ?_
  refine X_ishl (v := (1 : Int32)) rfl rfl rfl ?_
  refine X_callV (as := [.int (1 : Int32)]) (st := [.int (0 : Int32)]) rfl rfl rfl (by decide) rfl (Nat.le_of_ble_eq_true rfl) (by decide) (Nat.le_of_ble_eq_true rfl) rfl ((congrFun F.1 355).trans s_355) (by decide) ?_
  refine LW_ls (ls' := [some (.ref 355), some (.int (1 : Int32)), none, none]) rfl ?_
  refine X_iconst (v := (0 : Int32)) rfl rfl rfl ?_
  refine X_istore_n (i := 2) (ls' := [some (.ref 355), some (.int (1 : Int32)), some (.int (0 : Int32)), none]) rfl rfl rfl (Nat.le_of_ble_eq_true rfl) rfl ?_
  refine X_iconst (v := (0 : Int32)) rfl rfl rfl ?_
  refine X_istore_n (i := 3) (ls' := [some (.ref 355), some (.int (1 : Int32)), some (.int (0 : Int32)), some (.int (0 : Int32))]) rfl rfl rfl (Nat.le_of_ble_eq_true rfl) rfl ?_
  refine X_iload_n rfl rfl rfl rfl ?_
  refine X_aload_n rfl rfl rfl rfl ?_
  refine X_getR (a := 356) rfl rfl rfl ((congrFun F.1 355).trans s_355) rfl ((congrFun (F.2.1 355 (by decide)) 0).trans r_355_0) ?_
  refine X_iconst (v := (1 : Int32)) rfl rfl rfl ?_
  refine X_iald (v := (0 : Int32)) rfl rfl ((congrFun F.1 356).trans s_356) (vp_in_d rfl) ((congrFun (F.2.2 356 (by decide)).1 1).trans i_356_1) ?_
  refine X_icmp_ge (tgt := 38) rfl rfl rfl (fun _ => ?_) (fun q => absurd q (by decide))
  refine X_iload_n rfl rfl rfl rfl ?_
  refine LW_ireturn (st := []) rfl rfl rfl ?_
  refine X_icmp_le (tgt := 29) rfl rfl rfl (fun _ => ?_) (fun q => absurd q (by decide))
  refine X_iinc (v := (8 : Int32)) (ls' := [some (.ref 355), some (.int (1 : Int32)), some (.int (0 : Int32)), some (.int (8 : Int32))]) rfl rfl rfl rfl rfl ?_
  refine LW_goto (tgt := 4) rfl rfl ?_
  refine X_iload_n rfl rfl rfl rfl ?_
  refine X_bipush (v := (26 : Int32)) rfl rfl rfl ?_
  refine X_icmp_ge (tgt := 35) rfl rfl rfl (fun q => absurd q (by decide)) (fun _ => ?_)
  refine X_aload_n rfl rfl rfl rfl ?_
  refine X_iconst (v := (1 : Int32)) rfl rfl rfl ?_
  refine X_iload_n rfl rfl rfl rfl ?_
  refine X_ishl (v := (256 : Int32)) rfl rfl rfl ?_
  refine X_callV (as := [.int (256 : Int32)]) (st := []) rfl rfl rfl (by decide) rfl (Nat.le_of_ble_eq_true rfl) (by decide) (Nat.le_of_ble_eq_true rfl) rfl ((congrFun F.1 355).trans s_355) (by decide) ?_
  refine LW_ls (ls' := [some (.ref 355), some (.int (256 : Int32)), none, none]) rfl ?_
  refine X_iconst (v := (0 : Int32)) rfl rfl rfl ?_
  refine X_istore_n (i := 2) (ls' := [some (.ref 355), some (.int (256 : Int32)), some (.int (0 : Int32)), none]) rfl rfl rfl (Nat.le_of_ble_eq_true rfl) rfl ?_
  refine X_iconst (v := (0 : Int32)) rfl rfl rfl ?_
  refine X_istore_n (i := 3) (ls' := [some (.ref 355), some (.int (256 : Int32)), some (.int (0 : Int32)), some (.int (0 : Int32))]) rfl rfl rfl (Nat.le_of_ble_eq_true rfl) rfl ?_
  refine X_iload_n rfl rfl rfl rfl ?_
  refine X_aload_n rfl rfl rfl rfl ?_
  refine X_getR (a := 356) rfl rfl rfl ((congrFun F.1 355).trans s_355) rfl ((congrFun (F.2.1 355 (by decide)) 0).trans r_355_0) ?_
  refine X_iconst (v := (1 : Int32)) rfl rfl rfl ?_
  refine X_iald (v := (0 : Int32)) rfl rfl ((congrFun F.1 356).trans s_356) (vp_in_d rfl) ((congrFun (F.2.2 356 (by decide)).1 1).trans i_356_1) ?_
  refine X_icmp_ge (tgt := 38) rfl rfl rfl (fun _ => ?_) (fun q => absurd q (by decide))
  refine X_iload_n rfl rfl rfl rfl ?_
  refine LW_ireturn (st := []) rfl rfl rfl ?_
  refine X_aload_n rfl rfl rfl rfl ?_
  refine X_iconst (v := (1 : Int32)) rfl rfl rfl ?_
  refine X_iload_n rfl rfl rfl rfl ?_
  refine X_ishl (v := (1 : Int32)) rfl rfl rfl ?_
  refine X_callV (as := [.int (1 : Int32)]) (st := [.int (0 : Int32)]) rfl rfl rfl (by decide) rfl (Nat.le_of_ble_eq_true rfl) (by decide) (Nat.le_of_ble_eq_true rfl) rfl ((congrFun F.1 355).trans s_355) (by decide) ?_
  refine LW_ls (ls' := [some (.ref 355), some (.int (1 : Int32)), none, none]) rfl ?_
  refine X_iconst (v := (0 : Int32)) rfl rfl rfl ?_
  refine X_istore_n (i := 2) (ls' := [some (.ref 355), some (.int (1 : Int32)), some (.int (0 : Int32)), none]) rfl rfl rfl (Nat.le_of_ble_eq_true rfl) rfl ?_
  refine X_iconst (v := (0 : Int32)) rfl rfl rfl ?_
  refine X_istore_n (i := 3) (ls' := [some (.ref 355), some (.int (1 : Int32)), some (.int (0 : Int32)), some (.int (0 : Int32))]) rfl rfl rfl (Nat.le_of_ble_eq_true rfl) rfl ?_
  refine X_iload_n rfl rfl rfl rfl ?_
  refine X_aload_n rfl rfl rfl rfl ?_
  refine X_getR (a := 356) rfl rfl rfl ((congrFun F.1 355).trans s_355) rfl ((congrFun (F.2.1 355 (by decide)) 0).trans r_355_0) ?_
  refine X_iconst (v := (1 : Int32)) rfl rfl rfl ?_
  refine X_iald (v := (0 : Int32)) rfl rfl ((congrFun F.1 356).trans s_356) (vp_in_d rfl) ((congrFun (F.2.2 356 (by decide)).1 1).trans i_356_1) ?_
  refine X_icmp_ge (tgt := 38) rfl rfl rfl (fun _ => ?_) (fun q => absurd q (by decide))
  refine X_iload_n rfl rfl rfl rfl ?_
  refine LW_ireturn (st := []) rfl rfl rfl ?_
  refine X_icmp_le (tgt := 29) rfl rfl rfl (fun _ => ?_) (fun q => absurd q (by decide))
  refine X_iinc (v := (9 : Int32)) (ls' := [some (.ref 355), some (.int (1 : Int32)), some (.int (0 : Int32)), some (.int (9 : Int32))]) rfl rfl rfl rfl rfl ?_
  refine LW_goto (tgt := 4) rfl rfl ?_
  refine X_iload_n rfl rfl rfl rfl ?_
  refine X_bipush (v := (26 : Int32)) rfl rfl rfl ?_
  refine X_icmp_ge (tgt := 35) rfl rfl rfl (fun q => absurd q (by decide)) (fun _ => ?_)
  refine X_aload_n rfl rfl rfl rfl ?_
  refine X_iconst (v := (1 : Int32)) rfl rfl rfl ?_
  refine X_iload_n rfl rfl rfl rfl ?_
  refine X_ishl (v := (512 : Int32)) rfl rfl rfl ?_
  refine X_callV (as := [.int (512 : Int32)]) (st := []) rfl rfl rfl (by decide) rfl (Nat.le_of_ble_eq_true rfl) (by decide) (Nat.le_of_ble_eq_true rfl) rfl ((congrFun F.1 355).trans s_355) (by decide) ?_
  refine LW_ls (ls' := [some (.ref 355), some (.int (512 : Int32)), none, none]) rfl ?_
  refine X_iconst (v := (0 : Int32)) rfl rfl rfl ?_
  refine X_istore_n (i := 2) (ls' := [some (.ref 355), some (.int (512 : Int32)), some (.int (0 : Int32)), none]) rfl rfl rfl (Nat.le_of_ble_eq_true rfl) rfl ?_
  refine X_iconst (v := (0 : Int32)) rfl rfl rfl ?_
  refine X_istore_n (i := 3) (ls' := [some (.ref 355), some (.int (512 : Int32)), some (.int (0 : Int32)), some (.int (0 : Int32))]) rfl rfl rfl (Nat.le_of_ble_eq_true rfl) rfl ?_
  refine X_iload_n rfl rfl rfl rfl ?_
  refine X_aload_n rfl rfl rfl rfl ?_
  refine X_getR (a := 356) rfl rfl rfl ((congrFun F.1 355).trans s_355) rfl ((congrFun (F.2.1 355 (by decide)) 0).trans r_355_0) ?_
  refine X_iconst (v := (1 : Int32)) rfl rfl rfl ?_
  refine X_iald (v := (0 : Int32)) rfl rfl ((congrFun F.1 356).trans s_356) (vp_in_d rfl) ((congrFun (F.2.2 356 (by decide)).1 1).trans i_356_1) ?_
  refine X_icmp_ge (tgt := 38) rfl rfl rfl (fun _ => ?_) (fun q => absurd q (by decide))
  refine X_iload_n rfl rfl rfl rfl ?_
  refine LW_ireturn (st := []) rfl rfl rfl ?_
  refine X_aload_n rfl rfl rfl rfl ?_
  refine X_iconst (v := (1 : Int32)) rfl rfl rfl ?_
  refine X_iload_n rfl rfl rfl rfl ?_
  refine X_ishl (v := (1 : Int32)) rfl rfl rfl ?_
  refine X_callV (as := [.int (1 : Int32)]) (st := [.int (0 : Int32)]) rfl rfl rfl (by decide) rfl (Nat.le_of_ble_eq_true rfl) (by decide) (Nat.le_of_ble_eq_true rfl) rfl ((congrFun F.1 355).trans s_355) (by decide) ?_
  refine LW_ls (ls' := [some (.ref 355), some (.int (1 : Int32)), none, none]) rfl ?_
  refine X_iconst (v := (0 : Int32)) rfl rfl rfl ?_
  refine X_istore_n (i := 2) (ls' := [some (.ref 355), some (.int (1 : Int32)), some (.int (0 : Int32)), none]) rfl rfl rfl (Nat.le_of_ble_eq_true rfl) rfl ?_
  refine X_iconst (v := (0 : Int32)) rfl rfl rfl ?_
  refine X_istore_n (i := 3) (ls' := [some (.ref 355), some (.int (1 : Int32)), some (.int (0 : Int32)), some (.int (0 : Int32))]) rfl rfl rfl (Nat.le_of_ble_eq_true rfl) rfl ?_
  refine X_iload_n rfl rfl rfl rfl ?_
  refine X_aload_n rfl rfl rfl rfl ?_
  refine X_getR (a := 356) rfl rfl rfl ((congrFun F.1 355).trans s_355) rfl ((congrFun (F.2.1 355 (by decide)) 0).trans r_355_0) ?_
  refine X_iconst (v := (1 : Int32)) rfl rfl rfl ?_
  refine X_iald (v := (0 : Int32)) rfl rfl ((congrFun F.1 356).trans s_356) (vp_in_d rfl) ((congrFun (F.2.2 356 (by decide)).1 1).trans i_356_1) ?_
  refine X_icmp_ge (tgt := 38) rfl rfl rfl (fun _ => ?_) (fun q => absurd q (by decide))
  refine X_iload_n rfl rfl rfl rfl ?_
  refine LW_ireturn (st := []) rfl rfl rfl ?_
  refine X_icmp_le (tgt := 29) rfl rfl rfl (fun _ => ?_) (fun q => absurd q (by decide))
  refine X_iinc (v := (10 : Int32)) (ls' := [some (.ref 355), some (.int (1 : Int32)), some (.int (0 : Int32)), some (.int (10 : Int32))]) rfl rfl rfl rfl rfl ?_
  refine LW_goto (tgt := 4) rfl rfl ?_
  refine X_iload_n rfl rfl rfl rfl ?_
  refine X_bipush (v := (26 : Int32)) rfl rfl rfl ?_
  refine X_icmp_ge (tgt := 35) rfl rfl rfl (fun q => absurd q (by decide)) (fun _ => ?_)
  refine X_aload_n rfl rfl rfl rfl ?_
  refine X_iconst (v := (1 : Int32)) rfl rfl rfl ?_
  refine X_iload_n rfl rfl rfl rfl ?_
  refine X_ishl (v := (1024 : Int32)) rfl rfl rfl ?_
  refine X_callV (as := [.int (1024 : Int32)]) (st := []) rfl rfl rfl (by decide) rfl (Nat.le_of_ble_eq_true rfl) (by decide) (Nat.le_of_ble_eq_true rfl) rfl ((congrFun F.1 355).trans s_355) (by decide) ?_
  refine LW_ls (ls' := [some (.ref 355), some (.int (1024 : Int32)), none, none]) rfl ?_
  refine X_iconst (v := (0 : Int32)) rfl rfl rfl ?_
  refine X_istore_n (i := 2) (ls' := [some (.ref 355), some (.int (1024 : Int32)), some (.int (0 : Int32)), none]) rfl rfl rfl (Nat.le_of_ble_eq_true rfl) rfl ?_
  refine X_iconst (v := (0 : Int32)) rfl rfl rfl ?_
  refine X_istore_n (i := 3) (ls' := [some (.ref 355), some (.int (1024 : Int32)), some (.int (0 : Int32)), some (.int (0 : Int32))]) rfl rfl rfl (Nat.le_of_ble_eq_true rfl) rfl ?_
  refine X_iload_n rfl rfl rfl rfl ?_
  refine X_aload_n rfl rfl rfl rfl ?_
  refine X_getR (a := 356) rfl rfl rfl ((congrFun F.1 355).trans s_355) rfl ((congrFun (F.2.1 355 (by decide)) 0).trans r_355_0) ?_
  refine X_iconst (v := (1 : Int32)) rfl rfl rfl ?_
  refine X_iald (v := (0 : Int32)) rfl rfl ((congrFun F.1 356).trans s_356) (vp_in_d rfl) ((congrFun (F.2.2 356 (by decide)).1 1).trans i_356_1) ?_
  refine X_icmp_ge (tgt := 38) rfl rfl rfl (fun _ => ?_) (fun q => absurd q (by decide))
  refine X_iload_n rfl rfl rfl rfl ?_
  refine LW_ireturn (st := []) rfl rfl rfl ?_
  refine X_aload_n rfl rfl rfl rfl ?_
  refine X_iconst (v := (1 : Int32)) rfl rfl rfl ?_
  refine X_iload_n rfl rfl rfl rfl ?_
  refine X_ishl (v := (1 : Int32)) rfl rfl rfl ?_
  refine X_callV (as := [.int (1 : Int32)]) (st := [.int (0 : Int32)]) rfl rfl rfl (by decide) rfl (Nat.le_of_ble_eq_true rfl) (by decide) (Nat.le_of_ble_eq_true rfl) rfl ((congrFun F.1 355).trans s_355) (by decide) ?_
  refine LW_ls (ls' := [some (.ref 355), some (.int (1 : Int32)), none, none]) rfl ?_
  refine X_iconst (v := (0 : Int32)) rfl rfl rfl ?_
  refine X_istore_n (i := 2) (ls' := [some (.ref 355), some (.int (1 : Int32)), some (.int (0 : Int32)), none]) rfl rfl rfl (Nat.le_of_ble_eq_true rfl) rfl ?_
  refine X_iconst (v := (0 : Int32)) rfl rfl rfl ?_
  refine X_istore_n (i := 3) (ls' := [some (.ref 355), some (.int (1 : Int32)), some (.int (0 : Int32)), some (.int (0 : Int32))]) rfl rfl rfl (Nat.le_of_ble_eq_true rfl) rfl ?_
  refine X_iload_n rfl rfl rfl rfl ?_
  refine X_aload_n rfl rfl rfl rfl ?_
  refine X_getR (a := 356) rfl rfl rfl ((congrFun F.1 355).trans s_355) rfl ((congrFun (F.2.1 355 (by decide)) 0).trans r_355_0) ?_
  refine X_iconst (v := (1 : Int32)) rfl rfl rfl ?_
  refine X_iald (v := (0 : Int32)) rfl rfl ((congrFun F.1 356).trans s_356) (vp_in_d rfl) ((congrFun (F.2.2 356 (by decide)).1 1).trans i_356_1) ?_
  refine X_icmp_ge (tgt := 38) rfl rfl rfl (fun _ => ?_) (fun q => absurd q (by decide))
  refine X_iload_n rfl rfl rfl rfl ?_
  refine LW_ireturn (st := []) rfl rfl rfl ?_
  refine X_icmp_le (tgt := 29) rfl rfl rfl (fun _ => ?_) (fun q => absurd q (by decide))
  refine X_iinc (v := (11 : Int32)) (ls' := [some (.ref 355), some (.int (1 : Int32)), some (.int (0 : Int32)), some (.int (11 : Int32))]) rfl rfl rfl rfl rfl ?_
  refine LW_goto (tgt := 4) rfl rfl ?_
  refine X_iload_n rfl rfl rfl rfl ?_
  refine X_bipush (v := (26 : Int32)) rfl rfl rfl ?_
  refine X_icmp_ge (tgt := 35) rfl rfl rfl (fun q => absurd q (by decide)) (fun _ => ?_)
  refine X_aload_n rfl rfl rfl rfl ?_
  refine X_iconst (v := (1 : Int32)) rfl rfl rfl ?_
  refine X_iload_n rfl rfl rfl rfl ?_
  refine X_ishl (v := (2048 : Int32)) rfl rfl rfl ?_
  refine X_callV (as := [.int (2048 : Int32)]) (st := []) rfl rfl rfl (by decide) rfl (Nat.le_of_ble_eq_true rfl) (by decide) (Nat.le_of_ble_eq_true rfl) rfl ((congrFun F.1 355).trans s_355) (by decide) ?_
  refine LW_ls (ls' := [some (.ref 355), some (.int (2048 : Int32)), none, none]) rfl ?_
  refine X_iconst (v := (0 : Int32)) rfl rfl rfl ?_
  refine X_istore_n (i := 2) (ls' := [some (.ref 355), some (.int (2048 : Int32)), some (.int (0 : Int32)), none]) rfl rfl rfl (Nat.le_of_ble_eq_true rfl) rfl ?_
  refine X_iconst (v := (0 : Int32)) rfl rfl rfl ?_
  refine X_istore_n (i := 3) (ls' := [some (.ref 355), some (.int (2048 : Int32)), some (.int (0 : Int32)), some (.int (0 : Int32))]) rfl rfl rfl (Nat.le_of_ble_eq_true rfl) rfl ?_
  refine X_iload_n rfl rfl rfl rfl ?_
  refine X_aload_n rfl rfl rfl rfl ?_
  refine X_getR (a := 356) rfl rfl rfl ((congrFun F.1 355).trans s_355) rfl ((congrFun (F.2.1 355 (by decide)) 0).trans r_355_0) ?_
  refine X_iconst (v := (1 : Int32)) rfl rfl rfl ?_
  refine X_iald (v := (0 : Int32)) rfl rfl ((congrFun F.1 356).trans s_356) (vp_in_d rfl) ((congrFun (F.2.2 356 (by decide)).1 1).trans i_356_1) ?_
  refine X_icmp_ge (tgt := 38) rfl rfl rfl (fun _ => ?_) (fun q => absurd q (by decide))
  refine X_iload_n rfl rfl rfl rfl ?_
  refine LW_ireturn (st := []) rfl rfl rfl ?_
  refine X_aload_n rfl rfl rfl rfl ?_
  refine X_iconst (v := (1 : Int32)) rfl rfl rfl ?_
  refine X_iload_n rfl rfl rfl rfl ?_
  refine X_ishl (v := (1 : Int32)) rfl rfl rfl ?_
  refine X_callV (as := [.int (1 : Int32)]) (st := [.int (0 : Int32)]) rfl rfl rfl (by decide) rfl (Nat.le_of_ble_eq_true rfl) (by decide) (Nat.le_of_ble_eq_true rfl) rfl ((congrFun F.1 355).trans s_355) (by decide) ?_
  refine LW_ls (ls' := [some (.ref 355), some (.int (1 : Int32)), none, none]) rfl ?_
  refine X_iconst (v := (0 : Int32)) rfl rfl rfl ?_
  refine X_istore_n (i := 2) (ls' := [some (.ref 355), some (.int (1 : Int32)), some (.int (0 : Int32)), none]) rfl rfl rfl (Nat.le_of_ble_eq_true rfl) rfl ?_
  refine X_iconst (v := (0 : Int32)) rfl rfl rfl ?_
  refine X_istore_n (i := 3) (ls' := [some (.ref 355), some (.int (1 : Int32)), some (.int (0 : Int32)), some (.int (0 : Int32))]) rfl rfl rfl (Nat.le_of_ble_eq_true rfl) rfl ?_
  refine X_iload_n rfl rfl rfl rfl ?_
  refine X_aload_n rfl rfl rfl rfl ?_
  refine X_getR (a := 356) rfl rfl rfl ((congrFun F.1 355).trans s_355) rfl ((congrFun (F.2.1 355 (by decide)) 0).trans r_355_0) ?_
  refine X_iconst (v := (1 : Int32)) rfl rfl rfl ?_
  refine X_iald (v := (0 : Int32)) rfl rfl ((congrFun F.1 356).trans s_356) (vp_in_d rfl) ((congrFun (F.2.2 356 (by decide)).1 1).trans i_356_1) ?_
  refine X_icmp_ge (tgt := 38) rfl rfl rfl (fun _ => ?_) (fun q => absurd q (by decide))
  refine X_iload_n rfl rfl rfl rfl ?_
  refine LW_ireturn (st := []) rfl rfl rfl ?_
  refine X_icmp_le (tgt := 29) rfl rfl rfl (fun _ => ?_) (fun q => absurd q (by decide))
  refine X_iinc (v := (12 : Int32)) (ls' := [some (.ref 355), some (.int (1 : Int32)), some (.int (0 : Int32)), some (.int (12 : Int32))]) rfl rfl rfl rfl rfl ?_
  refine LW_goto (tgt := 4) rfl rfl ?_
  refine X_iload_n rfl rfl rfl rfl ?_
  refine X_bipush (v := (26 : Int32)) rfl rfl rfl ?_
  refine X_icmp_ge (tgt := 35) rfl rfl rfl (fun q => absurd q (by decide)) (fun _ => ?_)
  refine X_aload_n rfl rfl rfl rfl ?_
  refine X_iconst (v := (1 : Int32)) rfl rfl rfl ?_
  refine X_iload_n rfl rfl rfl rfl ?_
  refine X_ishl (v := (4096 : Int32)) rfl rfl rfl ?_
  refine X_callV (as := [.int (4096 : Int32)]) (st := []) rfl rfl rfl (by decide) rfl (Nat.le_of_ble_eq_true rfl) (by decide) (Nat.le_of_ble_eq_true rfl) rfl ((congrFun F.1 355).trans s_355) (by decide) ?_
  refine LW_ls (ls' := [some (.ref 355), some (.int (4096 : Int32)), none, none]) rfl ?_
  refine X_iconst (v := (0 : Int32)) rfl rfl rfl ?_
  refine X_istore_n (i := 2) (ls' := [some (.ref 355), some (.int (4096 : Int32)), some (.int (0 : Int32)), none]) rfl rfl rfl (Nat.le_of_ble_eq_true rfl) rfl ?_
  refine X_iconst (v := (0 : Int32)) rfl rfl rfl ?_
  refine X_istore_n (i := 3) (ls' := [some (.ref 355), some (.int (4096 : Int32)), some (.int (0 : Int32)), some (.int (0 : Int32))]) rfl rfl rfl (Nat.le_of_ble_eq_true rfl) rfl ?_
  refine X_iload_n rfl rfl rfl rfl ?_
  refine X_aload_n rfl rfl rfl rfl ?_
  refine X_getR (a := 356) rfl rfl rfl ((congrFun F.1 355).trans s_355) rfl ((congrFun (F.2.1 355 (by decide)) 0).trans r_355_0) ?_
  refine X_iconst (v := (1 : Int32)) rfl rfl rfl ?_
  refine X_iald (v := (0 : Int32)) rfl rfl ((congrFun F.1 356).trans s_356) (vp_in_d rfl) ((congrFun (F.2.2 356 (by decide)).1 1).trans i_356_1) ?_
  refine X_icmp_ge (tgt := 38) rfl rfl rfl (fun _ => ?_) (fun q => absurd q (by decide))
  refine X_iload_n rfl rfl rfl rfl ?_
  refine LW_ireturn (st := []) rfl rfl rfl ?_
  refine X_aload_n rfl rfl rfl rfl ?_
  refine X_iconst (v := (1 : Int32)) rfl rfl rfl ?_
  refine X_iload_n rfl rfl rfl rfl ?_
  refine X_ishl (v := (1 : Int32)) rfl rfl rfl ?_
  refine X_callV (as := [.int (1 : Int32)]) (st := [.int (0 : Int32)]) rfl rfl rfl (by decide) rfl (Nat.le_of_ble_eq_true rfl) (by decide) (Nat.le_of_ble_eq_true rfl) rfl ((congrFun F.1 355).trans s_355) (by decide) ?_
  refine LW_ls (ls' := [some (.ref 355), some (.int (1 : Int32)), none, none]) rfl ?_
  refine X_iconst (v := (0 : Int32)) rfl rfl rfl ?_
  refine X_istore_n (i := 2) (ls' := [some (.ref 355), some (.int (1 : Int32)), some (.int (0 : Int32)), none]) rfl rfl rfl (Nat.le_of_ble_eq_true rfl) rfl ?_
  refine X_iconst (v := (0 : Int32)) rfl rfl rfl ?_
  refine X_istore_n (i := 3) (ls' := [some (.ref 355), some (.int (1 : Int32)), some (.int (0 : Int32)), some (.int (0 : Int32))]) rfl rfl rfl (Nat.le_of_ble_eq_true rfl) rfl ?_
  refine X_iload_n rfl rfl rfl rfl ?_
  refine X_aload_n rfl rfl rfl rfl ?_
  refine X_getR (a := 356) rfl rfl rfl ((congrFun F.1 355).trans s_355) rfl ((congrFun (F.2.1 355 (by decide)) 0).trans r_355_0) ?_
  refine X_iconst (v := (1 : Int32)) rfl rfl rfl ?_
  refine X_iald (v := (0 : Int32)) rfl rfl ((congrFun F.1 356).trans s_356) (vp_in_d rfl) ((congrFun (F.2.2 356 (by decide)).1 1).trans i_356_1) ?_
  refine X_icmp_ge (tgt := 38) rfl rfl rfl (fun _ => ?_) (fun q => absurd q (by decide))
  refine X_iload_n rfl rfl rfl rfl ?_
  refine LW_ireturn (st := []) rfl rfl rfl ?_
  refine X_icmp_le (tgt := 29) rfl rfl rfl (fun _ => ?_) (fun q => absurd q (by decide))
  refine X_iinc (v := (13 : Int32)) (ls' := [some (.ref 355), some (.int (1 : Int32)), some (.int (0 : Int32)), some (.int (13 : Int32))]) rfl rfl rfl rfl rfl ?_
  refine LW_goto (tgt := 4) rfl rfl ?_
  refine X_iload_n rfl rfl rfl rfl ?_
  refine X_bipush (v := (26 : Int32)) rfl rfl rfl ?_
  refine X_icmp_ge (tgt := 35) rfl rfl rfl (fun q => absurd q (by decide)) (fun _ => ?_)
  refine X_aload_n rfl rfl rfl rfl ?_
  refine X_iconst (v := (1 : Int32)) rfl rfl rfl ?_
  refine X_iload_n rfl rfl rfl rfl ?_
  refine X_ishl (v := (8192 : Int32)) rfl rfl rfl ?_
  refine X_callV (as := [.int (8192 : Int32)]) (st := []) rfl rfl rfl (by decide) rfl (Nat.le_of_ble_eq_true rfl) (by decide) (Nat.le_of_ble_eq_true rfl) rfl ((congrFun F.1 355).trans s_355) (by decide) ?_
  refine LW_ls (ls' := [some (.ref 355), some (.int (8192 : Int32)), none, none]) rfl ?_
  refine X_iconst (v := (0 : Int32)) rfl rfl rfl ?_
  refine X_istore_n (i := 2) (ls' := [some (.ref 355), some (.int (8192 : Int32)), some (.int (0 : Int32)), none]) rfl rfl rfl (Nat.le_of_ble_eq_true rfl) rfl ?_
  refine X_iconst (v := (0 : Int32)) rfl rfl rfl ?_
  refine X_istore_n (i := 3) (ls' := [some (.ref 355), some (.int (8192 : Int32)), some (.int (0 : Int32)), some (.int (0 : Int32))]) rfl rfl rfl (Nat.le_of_ble_eq_true rfl) rfl ?_
  refine X_iload_n rfl rfl rfl rfl ?_
  refine X_aload_n rfl rfl rfl rfl ?_
  refine X_getR (a := 356) rfl rfl rfl ((congrFun F.1 355).trans s_355) rfl ((congrFun (F.2.1 355 (by decide)) 0).trans r_355_0) ?_
  refine X_iconst (v := (1 : Int32)) rfl rfl rfl ?_
  refine X_iald (v := (0 : Int32)) rfl rfl ((congrFun F.1 356).trans s_356) (vp_in_d rfl) ((congrFun (F.2.2 356 (by decide)).1 1).trans i_356_1) ?_
  refine X_icmp_ge (tgt := 38) rfl rfl rfl (fun _ => ?_) (fun q => absurd q (by decide))
  refine X_iload_n rfl rfl rfl rfl ?_
  refine LW_ireturn (st := []) rfl rfl rfl ?_
  refine X_aload_n rfl rfl rfl rfl ?_
  refine X_iconst (v := (1 : Int32)) rfl rfl rfl ?_
  refine X_iload_n rfl rfl rfl rfl ?_
  refine X_ishl (v := (1 : Int32)) rfl rfl rfl ?_
  refine X_callV (as := [.int (1 : Int32)]) (st := [.int (0 : Int32)]) rfl rfl rfl (by decide) rfl (Nat.le_of_ble_eq_true rfl) (by decide) (Nat.le_of_ble_eq_true rfl) rfl ((congrFun F.1 355).trans s_355) (by decide) ?_
  refine LW_ls (ls' := [some (.ref 355), some (.int (1 : Int32)), none, none]) rfl ?_
  refine X_iconst (v := (0 : Int32)) rfl rfl rfl ?_
  refine X_istore_n (i := 2) (ls' := [some (.ref 355), some (.int (1 : Int32)), some (.int (0 : Int32)), none]) rfl rfl rfl (Nat.le_of_ble_eq_true rfl) rfl ?_
  refine X_iconst (v := (0 : Int32)) rfl rfl rfl ?_
  refine X_istore_n (i := 3) (ls' := [some (.ref 355), some (.int (1 : Int32)), some (.int (0 : Int32)), some (.int (0 : Int32))]) rfl rfl rfl (Nat.le_of_ble_eq_true rfl) rfl ?_
  refine X_iload_n rfl rfl rfl rfl ?_
  refine X_aload_n rfl rfl rfl rfl ?_
  refine X_getR (a := 356) rfl rfl rfl ((congrFun F.1 355).trans s_355) rfl ((congrFun (F.2.1 355 (by decide)) 0).trans r_355_0) ?_
  refine X_iconst (v := (1 : Int32)) rfl rfl rfl ?_
  refine X_iald (v := (0 : Int32)) rfl rfl ((congrFun F.1 356).trans s_356) (vp_in_d rfl) ((congrFun (F.2.2 356 (by decide)).1 1).trans i_356_1) ?_
  refine X_icmp_ge (tgt := 38) rfl rfl rfl (fun _ => ?_) (fun q => absurd q (by decide))
  refine X_iload_n rfl rfl rfl rfl ?_
  refine LW_ireturn (st := []) rfl rfl rfl ?_
  refine X_icmp_le (tgt := 29) rfl rfl rfl (fun _ => ?_) (fun q => absurd q (by decide))
  refine X_iinc (v := (14 : Int32)) (ls' := [some (.ref 355), some (.int (1 : Int32)), some (.int (0 : Int32)), some (.int (14 : Int32))]) rfl rfl rfl rfl rfl ?_
  refine LW_goto (tgt := 4) rfl rfl ?_
  refine X_iload_n rfl rfl rfl rfl ?_
  refine X_bipush (v := (26 : Int32)) rfl rfl rfl ?_
  refine X_icmp_ge (tgt := 35) rfl rfl rfl (fun q => absurd q (by decide)) (fun _ => ?_)
  refine X_aload_n rfl rfl rfl rfl ?_
  refine X_iconst (v := (1 : Int32)) rfl rfl rfl ?_
  refine X_iload_n rfl rfl rfl rfl ?_
  refine X_ishl (v := (16384 : Int32)) rfl rfl rfl ?_
  refine X_callV (as := [.int (16384 : Int32)]) (st := []) rfl rfl rfl (by decide) rfl (Nat.le_of_ble_eq_true rfl) (by decide) (Nat.le_of_ble_eq_true rfl) rfl ((congrFun F.1 355).trans s_355) (by decide) ?_
  refine LW_ls (ls' := [some (.ref 355), some (.int (16384 : Int32)), none, none]) rfl ?_
  refine X_iconst (v := (0 : Int32)) rfl rfl rfl ?_
  refine X_istore_n (i := 2) (ls' := [some (.ref 355), some (.int (16384 : Int32)), some (.int (0 : Int32)), none]) rfl rfl rfl (Nat.le_of_ble_eq_true rfl) rfl ?_
  refine X_iconst (v := (0 : Int32)) rfl rfl rfl ?_
  refine X_istore_n (i := 3) (ls' := [some (.ref 355), some (.int (16384 : Int32)), some (.int (0 : Int32)), some (.int (0 : Int32))]) rfl rfl rfl (Nat.le_of_ble_eq_true rfl) rfl ?_
  refine X_iload_n rfl rfl rfl rfl ?_
  refine X_aload_n rfl rfl rfl rfl ?_
  refine X_getR (a := 356) rfl rfl rfl ((congrFun F.1 355).trans s_355) rfl ((congrFun (F.2.1 355 (by decide)) 0).trans r_355_0) ?_
  refine X_iconst (v := (1 : Int32)) rfl rfl rfl ?_
  refine X_iald (v := (0 : Int32)) rfl rfl ((congrFun F.1 356).trans s_356) (vp_in_d rfl) ((congrFun (F.2.2 356 (by decide)).1 1).trans i_356_1) ?_
  refine X_icmp_ge (tgt := 38) rfl rfl rfl (fun _ => ?_) (fun q => absurd q (by decide))
  refine X_iload_n rfl rfl rfl rfl ?_
  refine LW_ireturn (st := []) rfl rfl rfl ?_
  refine X_aload_n rfl rfl rfl rfl ?_
  refine X_iconst (v := (1 : Int32)) rfl rfl rfl ?_
  refine X_iload_n rfl rfl rfl rfl ?_
  refine X_ishl (v := (1 : Int32)) rfl rfl rfl ?_
  refine X_callV (as := [.int (1 : Int32)]) (st := [.int (0 : Int32)]) rfl rfl rfl (by decide) rfl (Nat.le_of_ble_eq_true rfl) (by decide) (Nat.le_of_ble_eq_true rfl) rfl ((congrFun F.1 355).trans s_355) (by decide) ?_
  refine LW_ls (ls' := [some (.ref 355), some (.int (1 : Int32)), none, none]) rfl ?_
  refine X_iconst (v := (0 : Int32)) rfl rfl rfl ?_
  refine X_istore_n (i := 2) (ls' := [some (.ref 355), some (.int (1 : Int32)), some (.int (0 : Int32)), none]) rfl rfl rfl (Nat.le_of_ble_eq_true rfl) rfl ?_
  refine X_iconst (v := (0 : Int32)) rfl rfl rfl ?_
  refine X_istore_n (i := 3) (ls' := [some (.ref 355), some (.int (1 : Int32)), some (.int (0 : Int32)), some (.int (0 : Int32))]) rfl rfl rfl (Nat.le_of_ble_eq_true rfl) rfl ?_
  refine X_iload_n rfl rfl rfl rfl ?_
  refine X_aload_n rfl rfl rfl rfl ?_
  refine X_getR (a := 356) rfl rfl rfl ((congrFun F.1 355).trans s_355) rfl ((congrFun (F.2.1 355 (by decide)) 0).trans r_355_0) ?_
  refine X_iconst (v := (1 : Int32)) rfl rfl rfl ?_
  refine X_iald (v := (0 : Int32)) rfl rfl ((congrFun F.1 356).trans s_356) (vp_in_d rfl) ((congrFun (F.2.2 356 (by decide)).1 1).trans i_356_1) ?_
  refine X_icmp_ge (tgt := 38) rfl rfl rfl (fun _ => ?_) (fun q => absurd q (by decide))
  refine X_iload_n rfl rfl rfl rfl ?_
  refine LW_ireturn (st := []) rfl rfl rfl ?_
  refine X_icmp_le (tgt := 29) rfl rfl rfl (fun _ => ?_) (fun q => absurd q (by decide))
  refine X_iinc (v := (15 : Int32)) (ls' := [some (.ref 355), some (.int (1 : Int32)), some (.int (0 : Int32)), some (.int (15 : Int32))]) rfl rfl rfl rfl rfl ?_
  refine LW_goto (tgt := 4) rfl rfl ?_
  refine X_iload_n rfl rfl rfl rfl ?_
  refine X_bipush (v := (26 : Int32)) rfl rfl rfl ?_
  refine X_icmp_ge (tgt := 35) rfl rfl rfl (fun q => absurd q (by decide)) (fun _ => ?_)
  refine X_aload_n rfl rfl rfl rfl ?_
  refine X_iconst (v := (1 : Int32)) rfl rfl rfl ?_
  refine X_iload_n rfl rfl rfl rfl ?_
  refine X_ishl (v := (32768 : Int32)) rfl rfl rfl ?_
  refine X_callV (as := [.int (32768 : Int32)]) (st := []) rfl rfl rfl (by decide) rfl (Nat.le_of_ble_eq_true rfl) (by decide) (Nat.le_of_ble_eq_true rfl) rfl ((congrFun F.1 355).trans s_355) (by decide) ?_
  refine LW_ls (ls' := [some (.ref 355), some (.int (32768 : Int32)), none, none]) rfl ?_
  refine X_iconst (v := (0 : Int32)) rfl rfl rfl ?_
  refine X_istore_n (i := 2) (ls' := [some (.ref 355), some (.int (32768 : Int32)), some (.int (0 : Int32)), none]) rfl rfl rfl (Nat.le_of_ble_eq_true rfl) rfl ?_
  refine X_iconst (v := (0 : Int32)) rfl rfl rfl ?_
  refine X_istore_n (i := 3) (ls' := [some (.ref 355), some (.int (32768 : Int32)), some (.int (0 : Int32)), some (.int (0 : Int32))]) rfl rfl rfl (Nat.le_of_ble_eq_true rfl) rfl ?_
  refine X_iload_n rfl rfl rfl rfl ?_
  refine X_aload_n rfl rfl rfl rfl ?_
  refine X_getR (a := 356) rfl rfl rfl ((congrFun F.1 355).trans s_355) rfl ((congrFun (F.2.1 355 (by decide)) 0).trans r_355_0) ?_
  refine X_iconst (v := (1 : Int32)) rfl rfl rfl ?_
  refine X_iald (v := (0 : Int32)) rfl rfl ((congrFun F.1 356).trans s_356) (vp_in_d rfl) ((congrFun (F.2.2 356 (by decide)).1 1).trans i_356_1) ?_
  refine X_icmp_ge (tgt := 38) rfl rfl rfl (fun _ => ?_) (fun q => absurd q (by decide))
  refine X_iload_n rfl rfl rfl rfl ?_
  refine LW_ireturn (st := []) rfl rfl rfl ?_
  refine X_aload_n rfl rfl rfl rfl ?_
  refine X_iconst (v := (1 : Int32)) rfl rfl rfl ?_
  refine X_iload_n rfl rfl rfl rfl ?_
  refine X_ishl (v := (1 : Int32)) rfl rfl rfl ?_
  refine X_callV (as := [.int (1 : Int32)]) (st := [.int (0 : Int32)]) rfl rfl rfl (by decide) rfl (Nat.le_of_ble_eq_true rfl) (by decide) (Nat.le_of_ble_eq_true rfl) rfl ((congrFun F.1 355).trans s_355) (by decide) ?_
  refine LW_ls (ls' := [some (.ref 355), some (.int (1 : Int32)), none, none]) rfl ?_
  refine X_iconst (v := (0 : Int32)) rfl rfl rfl ?_
  refine X_istore_n (i := 2) (ls' := [some (.ref 355), some (.int (1 : Int32)), some (.int (0 : Int32)), none]) rfl rfl rfl (Nat.le_of_ble_eq_true rfl) rfl ?_
  refine X_iconst (v := (0 : Int32)) rfl rfl rfl ?_
  refine X_istore_n (i := 3) (ls' := [some (.ref 355), some (.int (1 : Int32)), some (.int (0 : Int32)), some (.int (0 : Int32))]) rfl rfl rfl (Nat.le_of_ble_eq_true rfl) rfl ?_
  refine X_iload_n rfl rfl rfl rfl ?_
  refine X_aload_n rfl rfl rfl rfl ?_
  refine X_getR (a := 356) rfl rfl rfl ((congrFun F.1 355).trans s_355) rfl ((congrFun (F.2.1 355 (by decide)) 0).trans r_355_0) ?_
  refine X_iconst (v := (1 : Int32)) rfl rfl rfl ?_
  refine X_iald (v := (0 : Int32)) rfl rfl ((congrFun F.1 356).trans s_356) (vp_in_d rfl) ((congrFun (F.2.2 356 (by decide)).1 1).trans i_356_1) ?_
  refine X_icmp_ge (tgt := 38) rfl rfl rfl (fun _ => ?_) (fun q => absurd q (by decide))
  refine X_iload_n rfl rfl rfl rfl ?_
  refine LW_ireturn (st := []) rfl rfl rfl ?_
  refine X_icmp_le (tgt := 29) rfl rfl rfl (fun _ => ?_) (fun q => absurd q (by decide))
  refine X_iinc (v := (16 : Int32)) (ls' := [some (.ref 355), some (.int (1 : Int32)), some (.int (0 : Int32)), some (.int (16 : Int32))]) rfl rfl rfl rfl rfl ?_
  refine LW_goto (tgt := 4) rfl rfl ?_
  refine X_iload_n rfl rfl rfl rfl ?_
  refine X_bipush (v := (26 : Int32)) rfl rfl rfl ?_
  refine X_icmp_ge (tgt := 35) rfl rfl rfl (fun q => absurd q (by decide)) (fun _ => ?_)
  refine X_aload_n rfl rfl rfl rfl ?_
  refine X_iconst (v := (1 : Int32)) rfl rfl rfl ?_
  refine X_iload_n rfl rfl rfl rfl ?_
  refine X_ishl (v := (65536 : Int32)) rfl rfl rfl ?_
  refine X_callV (as := [.int (65536 : Int32)]) (st := []) rfl rfl rfl (by decide) rfl (Nat.le_of_ble_eq_true rfl) (by decide) (Nat.le_of_ble_eq_true rfl) rfl ((congrFun F.1 355).trans s_355) (by decide) ?_
  refine LW_ls (ls' := [some (.ref 355), some (.int (65536 : Int32)), none, none]) rfl ?_
  refine X_iconst (v := (0 : Int32)) rfl rfl rfl ?_
  refine X_istore_n (i := 2) (ls' := [some (.ref 355), some (.int (65536 : Int32)), some (.int (0 : Int32)), none]) rfl rfl rfl (Nat.le_of_ble_eq_true rfl) rfl ?_
  refine X_iconst (v := (0 : Int32)) rfl rfl rfl ?_
  refine X_istore_n (i := 3) (ls' := [some (.ref 355), some (.int (65536 : Int32)), some (.int (0 : Int32)), some (.int (0 : Int32))]) rfl rfl rfl (Nat.le_of_ble_eq_true rfl) rfl ?_
  refine X_iload_n rfl rfl rfl rfl ?_
  refine X_aload_n rfl rfl rfl rfl ?_
  refine X_getR (a := 356) rfl rfl rfl ((congrFun F.1 355).trans s_355) rfl ((congrFun (F.2.1 355 (by decide)) 0).trans r_355_0) ?_
  refine X_iconst (v := (1 : Int32)) rfl rfl rfl ?_
  refine X_iald (v := (0 : Int32)) rfl rfl ((congrFun F.1 356).trans s_356) (vp_in_d rfl) ((congrFun (F.2.2 356 (by decide)).1 1).trans i_356_1) ?_
  refine X_icmp_ge (tgt := 38) rfl rfl rfl (fun _ => ?_) (fun q => absurd q (by decide))
  refine X_iload_n rfl rfl rfl rfl ?_
  refine LW_ireturn (st := []) rfl rfl rfl ?_
  refine X_aload_n rfl rfl rfl rfl ?_
  refine X_iconst (v := (1 : Int32)) rfl rfl rfl ?_
  refine X_iload_n rfl rfl rfl rfl ?_
  refine X_ishl (v := (1 : Int32)) rfl rfl rfl ?_
  refine X_callV (as := [.int (1 : Int32)]) (st := [.int (0 : Int32)]) rfl rfl rfl (by decide) rfl (Nat.le_of_ble_eq_true rfl) (by decide) (Nat.le_of_ble_eq_true rfl) rfl ((congrFun F.1 355).trans s_355) (by decide) ?_
  refine LW_ls (ls' := [some (.ref 355), some (.int (1 : Int32)), none, none]) rfl ?_
  refine X_iconst (v := (0 : Int32)) rfl rfl rfl ?_
  refine X_istore_n (i := 2) (ls' := [some (.ref 355), some (.int (1 : Int32)), some (.int (0 : Int32)), none]) rfl rfl rfl (Nat.le_of_ble_eq_true rfl) rfl ?_
  refine X_iconst (v := (0 : Int32)) rfl rfl rfl ?_
  refine X_istore_n (i := 3) (ls' := [some (.ref 355), some (.int (1 : Int32)), some (.int (0 : Int32)), some (.int (0 : Int32))]) rfl rfl rfl (Nat.le_of_ble_eq_true rfl) rfl ?_
  refine X_iload_n rfl rfl rfl rfl ?_
  refine X_aload_n rfl rfl rfl rfl ?_
  refine X_getR (a := 356) rfl rfl rfl ((congrFun F.1 355).trans s_355) rfl ((congrFun (F.2.1 355 (by decide)) 0).trans r_355_0) ?_
  refine X_iconst (v := (1 : Int32)) rfl rfl rfl ?_
  refine X_iald (v := (0 : Int32)) rfl rfl ((congrFun F.1 356).trans s_356) (vp_in_d rfl) ((congrFun (F.2.2 356 (by decide)).1 1).trans i_356_1) ?_
  refine X_icmp_ge (tgt := 38) rfl rfl rfl (fun _ => ?_) (fun q => absurd q (by decide))
  refine X_iload_n rfl rfl rfl rfl ?_
  refine LW_ireturn (st := []) rfl rfl rfl ?_
  refine X_icmp_le (tgt := 29) rfl rfl rfl (fun _ => ?_) (fun q => absurd q (by decide))
  refine X_iinc (v := (17 : Int32)) (ls' := [some (.ref 355), some (.int (1 : Int32)), some (.int (0 : Int32)), some (.int (17 : Int32))]) rfl rfl rfl rfl rfl ?_
  refine LW_goto (tgt := 4) rfl rfl ?_
  refine X_iload_n rfl rfl rfl rfl ?_
  refine X_bipush (v := (26 : Int32)) rfl rfl rfl ?_
  refine X_icmp_ge (tgt := 35) rfl rfl rfl (fun q => absurd q (by decide)) (fun _ => ?_)
  refine X_aload_n rfl rfl rfl rfl ?_
  refine X_iconst (v := (1 : Int32)) rfl rfl rfl ?_
  refine X_iload_n rfl rfl rfl rfl ?_
  refine X_ishl (v := (131072 : Int32)) rfl rfl rfl ?_
  refine X_callV (as := [.int (131072 : Int32)]) (st := []) rfl rfl rfl (by decide) rfl (Nat.le_of_ble_eq_true rfl) (by decide) (Nat.le_of_ble_eq_true rfl) rfl ((congrFun F.1 355).trans s_355) (by decide) ?_
  refine LW_ls (ls' := [some (.ref 355), some (.int (131072 : Int32)), none, none]) rfl ?_
  refine X_iconst (v := (0 : Int32)) rfl rfl rfl ?_
  refine X_istore_n (i := 2) (ls' := [some (.ref 355), some (.int (131072 : Int32)), some (.int (0 : Int32)), none]) rfl rfl rfl (Nat.le_of_ble_eq_true rfl) rfl ?_
  refine X_iconst (v := (0 : Int32)) rfl rfl rfl ?_
  refine X_istore_n (i := 3) (ls' := [some (.ref 355), some (.int (131072 : Int32)), some (.int (0 : Int32)), some (.int (0 : Int32))]) rfl rfl rfl (Nat.le_of_ble_eq_true rfl) rfl ?_
  refine X_iload_n rfl rfl rfl rfl ?_
  refine X_aload_n rfl rfl rfl rfl ?_
  refine X_getR (a := 356) rfl rfl rfl ((congrFun F.1 355).trans s_355) rfl ((congrFun (F.2.1 355 (by decide)) 0).trans r_355_0) ?_
  refine X_iconst (v := (1 : Int32)) rfl rfl rfl ?_
  refine X_iald (v := (0 : Int32)) rfl rfl ((congrFun F.1 356).trans s_356) (vp_in_d rfl) ((congrFun (F.2.2 356 (by decide)).1 1).trans i_356_1) ?_
  refine X_icmp_ge (tgt := 38) rfl rfl rfl (fun _ => ?_) (fun q => absurd q (by decide))
  refine X_iload_n rfl rfl rfl rfl ?_
  refine LW_ireturn (st := []) rfl rfl rfl ?_
  refine X_aload_n rfl rfl rfl rfl ?_
  refine X_iconst (v := (1 : Int32)) rfl rfl rfl ?_
  refine X_iload_n rfl rfl rfl rfl ?_
  refine X_ishl (v := (1 : Int32)) rfl rfl rfl ?_
  refine X_callV (as := [.int (1 : Int32)]) (st := [.int (0 : Int32)]) rfl rfl rfl (by decide) rfl (Nat.le_of_ble_eq_true rfl) (by decide) (Nat.le_of_ble_eq_true rfl) rfl ((congrFun F.1 355).trans s_355) (by decide) ?_
  refine LW_ls (ls' := [some (.ref 355), some (.int (1 : Int32)), none, none]) rfl ?_
  refine X_iconst (v := (0 : Int32)) rfl rfl rfl ?_
  refine X_istore_n (i := 2) (ls' := [some (.ref 355), some (.int (1 : Int32)), some (.int (0 : Int32)), none]) rfl rfl rfl (Nat.le_of_ble_eq_true rfl) rfl ?_
  refine X_iconst (v := (0 : Int32)) rfl rfl rfl ?_
  refine X_istore_n (i := 3) (ls' := [some (.ref 355), some (.int (1 : Int32)), some (.int (0 : Int32)), some (.int (0 : Int32))]) rfl rfl rfl (Nat.le_of_ble_eq_true rfl) rfl ?_
  refine X_iload_n rfl rfl rfl rfl ?_
  refine X_aload_n rfl rfl rfl rfl ?_
  refine X_getR (a := 356) rfl rfl rfl ((congrFun F.1 355).trans s_355) rfl ((congrFun (F.2.1 355 (by decide)) 0).trans r_355_0) ?_
  refine X_iconst (v := (1 : Int32)) rfl rfl rfl ?_
  refine X_iald (v := (0 : Int32)) rfl rfl ((congrFun F.1 356).trans s_356) (vp_in_d rfl) ((congrFun (F.2.2 356 (by decide)).1 1).trans i_356_1) ?_
  refine X_icmp_ge (tgt := 38) rfl rfl rfl (fun _ => ?_) (fun q => absurd q (by decide))
  refine X_iload_n rfl rfl rfl rfl ?_
  refine LW_ireturn (st := []) rfl rfl rfl ?_
  refine X_icmp_le (tgt := 29) rfl rfl rfl (fun _ => ?_) (fun q => absurd q (by decide))
  refine X_iinc (v := (18 : Int32)) (ls' := [some (.ref 355), some (.int (1 : Int32)), some (.int (0 : Int32)), some (.int (18 : Int32))]) rfl rfl rfl rfl rfl ?_
  refine LW_goto (tgt := 4) rfl rfl ?_
  refine X_iload_n rfl rfl rfl rfl ?_
  refine X_bipush (v := (26 : Int32)) rfl rfl rfl ?_
  refine X_icmp_ge (tgt := 35) rfl rfl rfl (fun q => absurd q (by decide)) (fun _ => ?_)
  refine X_aload_n rfl rfl rfl rfl ?_
  refine X_iconst (v := (1 : Int32)) rfl rfl rfl ?_
  refine X_iload_n rfl rfl rfl rfl ?_
  refine X_ishl (v := (262144 : Int32)) rfl rfl rfl ?_
  refine X_callV (as := [.int (262144 : Int32)]) (st := []) rfl rfl rfl (by decide) rfl (Nat.le_of_ble_eq_true rfl) (by decide) (Nat.le_of_ble_eq_true rfl) rfl ((congrFun F.1 355).trans s_355) (by decide) ?_
  refine LW_ls (ls' := [some (.ref 355), some (.int (262144 : Int32)), none, none]) rfl ?_
  refine X_iconst (v := (0 : Int32)) rfl rfl rfl ?_
  refine X_istore_n (i := 2) (ls' := [some (.ref 355), some (.int (262144 : Int32)), some (.int (0 : Int32)), none]) rfl rfl rfl (Nat.le_of_ble_eq_true rfl) rfl ?_
  refine X_iconst (v := (0 : Int32)) rfl rfl rfl ?_
  refine X_istore_n (i := 3) (ls' := [some (.ref 355), some (.int (262144 : Int32)), some (.int (0 : Int32)), some (.int (0 : Int32))]) rfl rfl rfl (Nat.le_of_ble_eq_true rfl) rfl ?_
  refine X_iload_n rfl rfl rfl rfl ?_
  refine X_aload_n rfl rfl rfl rfl ?_
  refine X_getR (a := 356) rfl rfl rfl ((congrFun F.1 355).trans s_355) rfl ((congrFun (F.2.1 355 (by decide)) 0).trans r_355_0) ?_
  refine X_iconst (v := (1 : Int32)) rfl rfl rfl ?_
  refine X_iald (v := (0 : Int32)) rfl rfl ((congrFun F.1 356).trans s_356) (vp_in_d rfl) ((congrFun (F.2.2 356 (by decide)).1 1).trans i_356_1) ?_
  refine X_icmp_ge (tgt := 38) rfl rfl rfl (fun _ => ?_) (fun q => absurd q (by decide))
  refine X_iload_n rfl rfl rfl rfl ?_
  refine LW_ireturn (st := []) rfl rfl rfl ?_
  refine X_aload_n rfl rfl rfl rfl ?_
  refine X_iconst (v := (1 : Int32)) rfl rfl rfl ?_
  refine X_iload_n rfl rfl rfl rfl ?_
  refine X_ishl (v := (1 : Int32)) rfl rfl rfl ?_
  refine X_callV (as := [.int (1 : Int32)]) (st := [.int (0 : Int32)]) rfl rfl rfl (by decide) rfl (Nat.le_of_ble_eq_true rfl) (by decide) (Nat.le_of_ble_eq_true rfl) rfl ((congrFun F.1 355).trans s_355) (by decide) ?_
  refine LW_ls (ls' := [some (.ref 355), some (.int (1 : Int32)), none, none]) rfl ?_
  refine X_iconst (v := (0 : Int32)) rfl rfl rfl ?_
  refine X_istore_n (i := 2) (ls' := [some (.ref 355), some (.int (1 : Int32)), some (.int (0 : Int32)), none]) rfl rfl rfl (Nat.le_of_ble_eq_true rfl) rfl ?_
  refine X_iconst (v := (0 : Int32)) rfl rfl rfl ?_
  refine X_istore_n (i := 3) (ls' := [some (.ref 355), some (.int (1 : Int32)), some (.int (0 : Int32)), some (.int (0 : Int32))]) rfl rfl rfl (Nat.le_of_ble_eq_true rfl) rfl ?_
  refine X_iload_n rfl rfl rfl rfl ?_
  refine X_aload_n rfl rfl rfl rfl ?_
  refine X_getR (a := 356) rfl rfl rfl ((congrFun F.1 355).trans s_355) rfl ((congrFun (F.2.1 355 (by decide)) 0).trans r_355_0) ?_
  refine X_iconst (v := (1 : Int32)) rfl rfl rfl ?_
  refine X_iald (v := (0 : Int32)) rfl rfl ((congrFun F.1 356).trans s_356) (vp_in_d rfl) ((congrFun (F.2.2 356 (by decide)).1 1).trans i_356_1) ?_
  refine X_icmp_ge (tgt := 38) rfl rfl rfl (fun _ => ?_) (fun q => absurd q (by decide))
  refine X_iload_n rfl rfl rfl rfl ?_
  refine LW_ireturn (st := []) rfl rfl rfl ?_
  refine X_icmp_le (tgt := 29) rfl rfl rfl (fun _ => ?_) (fun q => absurd q (by decide))
  refine X_iinc (v := (19 : Int32)) (ls' := [some (.ref 355), some (.int (1 : Int32)), some (.int (0 : Int32)), some (.int (19 : Int32))]) rfl rfl rfl rfl rfl ?_
  refine LW_goto (tgt := 4) rfl rfl ?_
  refine X_iload_n rfl rfl rfl rfl ?_
  refine X_bipush (v := (26 : Int32)) rfl rfl rfl ?_
  refine X_icmp_ge (tgt := 35) rfl rfl rfl (fun q => absurd q (by decide)) (fun _ => ?_)
  refine X_aload_n rfl rfl rfl rfl ?_
  refine X_iconst (v := (1 : Int32)) rfl rfl rfl ?_
  refine X_iload_n rfl rfl rfl rfl ?_
  refine X_ishl (v := (524288 : Int32)) rfl rfl rfl ?_
  refine X_callV (as := [.int (524288 : Int32)]) (st := []) rfl rfl rfl (by decide) rfl (Nat.le_of_ble_eq_true rfl) (by decide) (Nat.le_of_ble_eq_true rfl) rfl ((congrFun F.1 355).trans s_355) (by decide) ?_
  refine LW_ls (ls' := [some (.ref 355), some (.int (524288 : Int32)), none, none]) rfl ?_
  refine X_iconst (v := (0 : Int32)) rfl rfl rfl ?_
  refine X_istore_n (i := 2) (ls' := [some (.ref 355), some (.int (524288 : Int32)), some (.int (0 : Int32)), none]) rfl rfl rfl (Nat.le_of_ble_eq_true rfl) rfl ?_
  refine X_iconst (v := (0 : Int32)) rfl rfl rfl ?_
  refine X_istore_n (i := 3) (ls' := [some (.ref 355), some (.int (524288 : Int32)), some (.int (0 : Int32)), some (.int (0 : Int32))]) rfl rfl rfl (Nat.le_of_ble_eq_true rfl) rfl ?_
  refine X_iload_n rfl rfl rfl rfl ?_
  refine X_aload_n rfl rfl rfl rfl ?_
  refine X_getR (a := 356) rfl rfl rfl ((congrFun F.1 355).trans s_355) rfl ((congrFun (F.2.1 355 (by decide)) 0).trans r_355_0) ?_
  refine X_iconst (v := (1 : Int32)) rfl rfl rfl ?_
  refine X_iald (v := (0 : Int32)) rfl rfl ((congrFun F.1 356).trans s_356) (vp_in_d rfl) ((congrFun (F.2.2 356 (by decide)).1 1).trans i_356_1) ?_
  refine X_icmp_ge (tgt := 38) rfl rfl rfl (fun _ => ?_) (fun q => absurd q (by decide))
  refine X_iload_n rfl rfl rfl rfl ?_
  refine LW_ireturn (st := []) rfl rfl rfl ?_
  refine X_aload_n rfl rfl rfl rfl ?_
  refine X_iconst (v := (1 : Int32)) rfl rfl rfl ?_
  refine X_iload_n rfl rfl rfl rfl ?_
  refine X_ishl (v := (1 : Int32)) rfl rfl rfl ?_
  refine X_callV (as := [.int (1 : Int32)]) (st := [.int (0 : Int32)]) rfl rfl rfl (by decide) rfl (Nat.le_of_ble_eq_true rfl) (by decide) (Nat.le_of_ble_eq_true rfl) rfl ((congrFun F.1 355).trans s_355) (by decide) ?_
  refine LW_ls (ls' := [some (.ref 355), some (.int (1 : Int32)), none, none]) rfl ?_
  refine X_iconst (v := (0 : Int32)) rfl rfl rfl ?_
  refine X_istore_n (i := 2) (ls' := [some (.ref 355), some (.int (1 : Int32)), some (.int (0 : Int32)), none]) rfl rfl rfl (Nat.le_of_ble_eq_true rfl) rfl ?_
  refine X_iconst (v := (0 : Int32)) rfl rfl rfl ?_
  refine X_istore_n (i := 3) (ls' := [some (.ref 355), some (.int (1 : Int32)), some (.int (0 : Int32)), some (.int (0 : Int32))]) rfl rfl rfl (Nat.le_of_ble_eq_true rfl) rfl ?_
  refine X_iload_n rfl rfl rfl rfl ?_
  refine X_aload_n rfl rfl rfl rfl ?_
  refine X_getR (a := 356) rfl rfl rfl ((congrFun F.1 355).trans s_355) rfl ((congrFun (F.2.1 355 (by decide)) 0).trans r_355_0) ?_
  refine X_iconst (v := (1 : Int32)) rfl rfl rfl ?_
  refine X_iald (v := (0 : Int32)) rfl rfl ((congrFun F.1 356).trans s_356) (vp_in_d rfl) ((congrFun (F.2.2 356 (by decide)).1 1).trans i_356_1) ?_
  refine X_icmp_ge (tgt := 38) rfl rfl rfl (fun _ => ?_) (fun q => absurd q (by decide))
  refine X_iload_n rfl rfl rfl rfl ?_
  refine LW_ireturn (st := []) rfl rfl rfl ?_
  refine X_icmp_le (tgt := 29) rfl rfl rfl (fun _ => ?_) (fun q => absurd q (by decide))
  refine X_iinc (v := (20 : Int32)) (ls' := [some (.ref 355), some (.int (1 : Int32)), some (.int (0 : Int32)), some (.int (20 : Int32))]) rfl rfl rfl rfl rfl ?_
  refine LW_goto (tgt := 4) rfl rfl ?_
  refine X_iload_n rfl rfl rfl rfl ?_
  refine X_bipush (v := (26 : Int32)) rfl rfl rfl ?_
  refine X_icmp_ge (tgt := 35) rfl rfl rfl (fun q => absurd q (by decide)) (fun _ => ?_)
  refine X_aload_n rfl rfl rfl rfl ?_
  refine X_iconst (v := (1 : Int32)) rfl rfl rfl ?_
  refine X_iload_n rfl rfl rfl rfl ?_
  refine X_ishl (v := (1048576 : Int32)) rfl rfl rfl ?_
  refine X_callV (as := [.int (1048576 : Int32)]) (st := []) rfl rfl rfl (by decide) rfl (Nat.le_of_ble_eq_true rfl) (by decide) (Nat.le_of_ble_eq_true rfl) rfl ((congrFun F.1 355).trans s_355) (by decide) ?_
  refine LW_ls (ls' := [some (.ref 355), some (.int (1048576 : Int32)), none, none]) rfl ?_
  refine X_iconst (v := (0 : Int32)) rfl rfl rfl ?_
  refine X_istore_n (i := 2) (ls' := [some (.ref 355), some (.int (1048576 : Int32)), some (.int (0 : Int32)), none]) rfl rfl rfl (Nat.le_of_ble_eq_true rfl) rfl ?_
  refine X_iconst (v := (0 : Int32)) rfl rfl rfl ?_
  refine X_istore_n (i := 3) (ls' := [some (.ref 355), some (.int (1048576 : Int32)), some (.int (0 : Int32)), some (.int (0 : Int32))]) rfl rfl rfl (Nat.le_of_ble_eq_true rfl) rfl ?_
  refine X_iload_n rfl rfl rfl rfl ?_
  refine X_aload_n rfl rfl rfl rfl ?_
  refine X_getR (a := 356) rfl rfl rfl ((congrFun F.1 355).trans s_355) rfl ((congrFun (F.2.1 355 (by decide)) 0).trans r_355_0) ?_
  refine X_iconst (v := (1 : Int32)) rfl rfl rfl ?_
  refine X_iald (v := (0 : Int32)) rfl rfl ((congrFun F.1 356).trans s_356) (vp_in_d rfl) ((congrFun (F.2.2 356 (by decide)).1 1).trans i_356_1) ?_
  refine X_icmp_ge (tgt := 38) rfl rfl rfl (fun _ => ?_) (fun q => absurd q (by decide))
  refine X_iload_n rfl rfl rfl rfl ?_
  refine LW_ireturn (st := []) rfl rfl rfl ?_
  refine X_aload_n rfl rfl rfl rfl ?_
  refine X_iconst (v := (1 : Int32)) rfl rfl rfl ?_
  refine X_iload_n rfl rfl rfl rfl ?_
  refine X_ishl (v := (1 : Int32)) rfl rfl rfl ?_
  refine X_callV (as := [.int (1 : Int32)]) (st := [.int (0 : Int32)]) rfl rfl rfl (by decide) rfl (Nat.le_of_ble_eq_true rfl) (by decide) (Nat.le_of_ble_eq_true rfl) rfl ((congrFun F.1 355).trans s_355) (by decide) ?_
  refine LW_ls (ls' := [some (.ref 355), some (.int (1 : Int32)), none, none]) rfl ?_
  refine X_iconst (v := (0 : Int32)) rfl rfl rfl ?_
  refine X_istore_n (i := 2) (ls' := [some (.ref 355), some (.int (1 : Int32)), some (.int (0 : Int32)), none]) rfl rfl rfl (Nat.le_of_ble_eq_true rfl) rfl ?_
  refine X_iconst (v := (0 : Int32)) rfl rfl rfl ?_
  refine X_istore_n (i := 3) (ls' := [some (.ref 355), some (.int (1 : Int32)), some (.int (0 : Int32)), some (.int (0 : Int32))]) rfl rfl rfl (Nat.le_of_ble_eq_true rfl) rfl ?_
  refine X_iload_n rfl rfl rfl rfl ?_
  refine X_aload_n rfl rfl rfl rfl ?_
  refine X_getR (a := 356) rfl rfl rfl ((congrFun F.1 355).trans s_355) rfl ((congrFun (F.2.1 355 (by decide)) 0).trans r_355_0) ?_
  refine X_iconst (v := (1 : Int32)) rfl rfl rfl ?_
  refine X_iald (v := (0 : Int32)) rfl rfl ((congrFun F.1 356).trans s_356) (vp_in_d rfl) ((congrFun (F.2.2 356 (by decide)).1 1).trans i_356_1) ?_
  refine X_icmp_ge (tgt := 38) rfl rfl rfl (fun _ => ?_) (fun q => absurd q (by decide))
  refine X_iload_n rfl rfl rfl rfl ?_
  refine LW_ireturn (st := []) rfl rfl rfl ?_
  refine X_icmp_le (tgt := 29) rfl rfl rfl (fun _ => ?_) (fun q => absurd q (by decide))
  refine X_iinc (v := (21 : Int32)) (ls' := [some (.ref 355), some (.int (1 : Int32)), some (.int (0 : Int32)), some (.int (21 : Int32))]) rfl rfl rfl rfl rfl ?_
  refine LW_goto (tgt := 4) rfl rfl ?_
  refine X_iload_n rfl rfl rfl rfl ?_
  refine X_bipush (v := (26 : Int32)) rfl rfl rfl ?_
  refine X_icmp_ge (tgt := 35) rfl rfl rfl (fun q => absurd q (by decide)) (fun _ => ?_)
  refine X_aload_n rfl rfl rfl rfl ?_
  refine X_iconst (v := (1 : Int32)) rfl rfl rfl ?_
  refine X_iload_n rfl rfl rfl rfl ?_
  refine X_ishl (v := (2097152 : Int32)) rfl rfl rfl ?_
  refine X_callV (as := [.int (2097152 : Int32)]) (st := []) rfl rfl rfl (by decide) rfl (Nat.le_of_ble_eq_true rfl) (by decide) (Nat.le_of_ble_eq_true rfl) rfl ((congrFun F.1 355).trans s_355) (by decide) ?_
  refine LW_ls (ls' := [some (.ref 355), some (.int (2097152 : Int32)), none, none]) rfl ?_
  refine X_iconst (v := (0 : Int32)) rfl rfl rfl ?_
  refine X_istore_n (i := 2) (ls' := [some (.ref 355), some (.int (2097152 : Int32)), some (.int (0 : Int32)), none]) rfl rfl rfl (Nat.le_of_ble_eq_true rfl) rfl ?_
  refine X_iconst (v := (0 : Int32)) rfl rfl rfl ?_
  refine X_istore_n (i := 3) (ls' := [some (.ref 355), some (.int (2097152 : Int32)), some (.int (0 : Int32)), some (.int (0 : Int32))]) rfl rfl rfl (Nat.le_of_ble_eq_true rfl) rfl ?_
  refine X_iload_n rfl rfl rfl rfl ?_
  refine X_aload_n rfl rfl rfl rfl ?_
  refine X_getR (a := 356) rfl rfl rfl ((congrFun F.1 355).trans s_355) rfl ((congrFun (F.2.1 355 (by decide)) 0).trans r_355_0) ?_
  refine X_iconst (v := (1 : Int32)) rfl rfl rfl ?_
  refine X_iald (v := (0 : Int32)) rfl rfl ((congrFun F.1 356).trans s_356) (vp_in_d rfl) ((congrFun (F.2.2 356 (by decide)).1 1).trans i_356_1) ?_
  refine X_icmp_ge (tgt := 38) rfl rfl rfl (fun _ => ?_) (fun q => absurd q (by decide))
  refine X_iload_n rfl rfl rfl rfl ?_
  refine LW_ireturn (st := []) rfl rfl rfl ?_
  refine X_aload_n rfl rfl rfl rfl ?_
  refine X_iconst (v := (1 : Int32)) rfl rfl rfl ?_
  refine X_iload_n rfl rfl rfl rfl ?_
  refine X_ishl (v := (1 : Int32)) rfl rfl rfl ?_
  refine X_callV (as := [.int (1 : Int32)]) (st := [.int (0 : Int32)]) rfl rfl rfl (by decide) rfl (Nat.le_of_ble_eq_true rfl) (by decide) (Nat.le_of_ble_eq_true rfl) rfl ((congrFun F.1 355).trans s_355) (by decide) ?_
  refine LW_ls (ls' := [some (.ref 355), some (.int (1 : Int32)), none, none]) rfl ?_
  refine X_iconst (v := (0 : Int32)) rfl rfl rfl ?_
  refine X_istore_n (i := 2) (ls' := [some (.ref 355), some (.int (1 : Int32)), some (.int (0 : Int32)), none]) rfl rfl rfl (Nat.le_of_ble_eq_true rfl) rfl ?_
  refine X_iconst (v := (0 : Int32)) rfl rfl rfl ?_
  refine X_istore_n (i := 3) (ls' := [some (.ref 355), some (.int (1 : Int32)), some (.int (0 : Int32)), some (.int (0 : Int32))]) rfl rfl rfl (Nat.le_of_ble_eq_true rfl) rfl ?_
  refine X_iload_n rfl rfl rfl rfl ?_
  refine X_aload_n rfl rfl rfl rfl ?_
  refine X_getR (a := 356) rfl rfl rfl ((congrFun F.1 355).trans s_355) rfl ((congrFun (F.2.1 355 (by decide)) 0).trans r_355_0) ?_
  refine X_iconst (v := (1 : Int32)) rfl rfl rfl ?_
  refine X_iald (v := (0 : Int32)) rfl rfl ((congrFun F.1 356).trans s_356) (vp_in_d rfl) ((congrFun (F.2.2 356 (by decide)).1 1).trans i_356_1) ?_
  refine X_icmp_ge (tgt := 38) rfl rfl rfl (fun _ => ?_) (fun q => absurd q (by decide))
  refine X_iload_n rfl rfl rfl rfl ?_
  refine LW_ireturn (st := []) rfl rfl rfl ?_
  refine X_icmp_le (tgt := 29) rfl rfl rfl (fun _ => ?_) (fun q => absurd q (by decide))
  refine X_iinc (v := (22 : Int32)) (ls' := [some (.ref 355), some (.int (1 : Int32)), some (.int (0 : Int32)), some (.int (22 : Int32))]) rfl rfl rfl rfl rfl ?_
  refine LW_goto (tgt := 4) rfl rfl ?_
  refine X_iload_n rfl rfl rfl rfl ?_
  refine X_bipush (v := (26 : Int32)) rfl rfl rfl ?_
  refine X_icmp_ge (tgt := 35) rfl rfl rfl (fun q => absurd q (by decide)) (fun _ => ?_)
  refine X_aload_n rfl rfl rfl rfl ?_
  refine X_iconst (v := (1 : Int32)) rfl rfl rfl ?_
  refine X_iload_n rfl rfl rfl rfl ?_
  refine X_ishl (v := (4194304 : Int32)) rfl rfl rfl ?_
  refine X_callV (as := [.int (4194304 : Int32)]) (st := []) rfl rfl rfl (by decide) rfl (Nat.le_of_ble_eq_true rfl) (by decide) (Nat.le_of_ble_eq_true rfl) rfl ((congrFun F.1 355).trans s_355) (by decide) ?_
  refine LW_ls (ls' := [some (.ref 355), some (.int (4194304 : Int32)), none, none]) rfl ?_
  refine X_iconst (v := (0 : Int32)) rfl rfl rfl ?_
  refine X_istore_n (i := 2) (ls' := [some (.ref 355), some (.int (4194304 : Int32)), some (.int (0 : Int32)), none]) rfl rfl rfl (Nat.le_of_ble_eq_true rfl) rfl ?_
  refine X_iconst (v := (0 : Int32)) rfl rfl rfl ?_
  refine X_istore_n (i := 3) (ls' := [some (.ref 355), some (.int (4194304 : Int32)), some (.int (0 : Int32)), some (.int (0 : Int32))]) rfl rfl rfl (Nat.le_of_ble_eq_true rfl) rfl ?_
  refine X_iload_n rfl rfl rfl rfl ?_
  refine X_aload_n rfl rfl rfl rfl ?_
  refine X_getR (a := 356) rfl rfl rfl ((congrFun F.1 355).trans s_355) rfl ((congrFun (F.2.1 355 (by decide)) 0).trans r_355_0) ?_
  refine X_iconst (v := (1 : Int32)) rfl rfl rfl ?_
  refine X_iald (v := (0 : Int32)) rfl rfl ((congrFun F.1 356).trans s_356) (vp_in_d rfl) ((congrFun (F.2.2 356 (by decide)).1 1).trans i_356_1) ?_
  refine X_icmp_ge (tgt := 38) rfl rfl rfl (fun _ => ?_) (fun q => absurd q (by decide))
  refine X_iload_n rfl rfl rfl rfl ?_
  refine LW_ireturn (st := []) rfl rfl rfl ?_
  refine X_aload_n rfl rfl rfl rfl ?_
  refine X_iconst (v := (1 : Int32)) rfl rfl rfl ?_
  refine X_iload_n rfl rfl rfl rfl ?_
  refine X_ishl (v := (1 : Int32)) rfl rfl rfl ?_
  refine X_callV (as := [.int (1 : Int32)]) (st := [.int (0 : Int32)]) rfl rfl rfl (by decide) rfl (Nat.le_of_ble_eq_true rfl) (by decide) (Nat.le_of_ble_eq_true rfl) rfl ((congrFun F.1 355).trans s_355) (by decide) ?_
  refine LW_ls (ls' := [some (.ref 355), some (.int (1 : Int32)), none, none]) rfl ?_
  refine X_iconst (v := (0 : Int32)) rfl rfl rfl ?_
  refine X_istore_n (i := 2) (ls' := [some (.ref 355), some (.int (1 : Int32)), some (.int (0 : Int32)), none]) rfl rfl rfl (Nat.le_of_ble_eq_true rfl) rfl ?_
  refine X_iconst (v := (0 : Int32)) rfl rfl rfl ?_
  refine X_istore_n (i := 3) (ls' := [some (.ref 355), some (.int (1 : Int32)), some (.int (0 : Int32)), some (.int (0 : Int32))]) rfl rfl rfl (Nat.le_of_ble_eq_true rfl) rfl ?_
  refine X_iload_n rfl rfl rfl rfl ?_
  refine X_aload_n rfl rfl rfl rfl ?_
  refine X_getR (a := 356) rfl rfl rfl ((congrFun F.1 355).trans s_355) rfl ((congrFun (F.2.1 355 (by decide)) 0).trans r_355_0) ?_
  refine X_iconst (v := (1 : Int32)) rfl rfl rfl ?_
  refine X_iald (v := (0 : Int32)) rfl rfl ((congrFun F.1 356).trans s_356) (vp_in_d rfl) ((congrFun (F.2.2 356 (by decide)).1 1).trans i_356_1) ?_
  refine X_icmp_ge (tgt := 38) rfl rfl rfl (fun _ => ?_) (fun q => absurd q (by decide))
  refine X_iload_n rfl rfl rfl rfl ?_
  refine LW_ireturn (st := []) rfl rfl rfl ?_
  refine X_icmp_le (tgt := 29) rfl rfl rfl (fun _ => ?_) (fun q => absurd q (by decide))
  refine X_iinc (v := (23 : Int32)) (ls' := [some (.ref 355), some (.int (1 : Int32)), some (.int (0 : Int32)), some (.int (23 : Int32))]) rfl rfl rfl rfl rfl ?_
  refine LW_goto (tgt := 4) rfl rfl ?_
  refine X_iload_n rfl rfl rfl rfl ?_
  refine X_bipush (v := (26 : Int32)) rfl rfl rfl ?_
  refine X_icmp_ge (tgt := 35) rfl rfl rfl (fun q => absurd q (by decide)) (fun _ => ?_)
  refine X_aload_n rfl rfl rfl rfl ?_
  refine X_iconst (v := (1 : Int32)) rfl rfl rfl ?_
  refine X_iload_n rfl rfl rfl rfl ?_
  refine X_ishl (v := (8388608 : Int32)) rfl rfl rfl ?_
  refine X_callV (as := [.int (8388608 : Int32)]) (st := []) rfl rfl rfl (by decide) rfl (Nat.le_of_ble_eq_true rfl) (by decide) (Nat.le_of_ble_eq_true rfl) rfl ((congrFun F.1 355).trans s_355) (by decide) ?_
  refine LW_ls (ls' := [some (.ref 355), some (.int (8388608 : Int32)), none, none]) rfl ?_
  refine X_iconst (v := (0 : Int32)) rfl rfl rfl ?_
  refine X_istore_n (i := 2) (ls' := [some (.ref 355), some (.int (8388608 : Int32)), some (.int (0 : Int32)), none]) rfl rfl rfl (Nat.le_of_ble_eq_true rfl) rfl ?_
  refine X_iconst (v := (0 : Int32)) rfl rfl rfl ?_
  refine X_istore_n (i := 3) (ls' := [some (.ref 355), some (.int (8388608 : Int32)), some (.int (0 : Int32)), some (.int (0 : Int32))]) rfl rfl rfl (Nat.le_of_ble_eq_true rfl) rfl ?_
  refine X_iload_n rfl rfl rfl rfl ?_
  refine X_aload_n rfl rfl rfl rfl ?_
  refine X_getR (a := 356) rfl rfl rfl ((congrFun F.1 355).trans s_355) rfl ((congrFun (F.2.1 355 (by decide)) 0).trans r_355_0) ?_
  refine X_iconst (v := (1 : Int32)) rfl rfl rfl ?_
  refine X_iald (v := (0 : Int32)) rfl rfl ((congrFun F.1 356).trans s_356) (vp_in_d rfl) ((congrFun (F.2.2 356 (by decide)).1 1).trans i_356_1) ?_
  refine X_icmp_ge (tgt := 38) rfl rfl rfl (fun _ => ?_) (fun q => absurd q (by decide))
  refine X_iload_n rfl rfl rfl rfl ?_
  refine LW_ireturn (st := []) rfl rfl rfl ?_
  refine X_aload_n rfl rfl rfl rfl ?_
  refine X_iconst (v := (1 : Int32)) rfl rfl rfl ?_
  refine X_iload_n rfl rfl rfl rfl ?_
  refine X_ishl (v := (1 : Int32)) rfl rfl rfl ?_
  refine X_callV (as := [.int (1 : Int32)]) (st := [.int (0 : Int32)]) rfl rfl rfl (by decide) rfl (Nat.le_of_ble_eq_true rfl) (by decide) (Nat.le_of_ble_eq_true rfl) rfl ((congrFun F.1 355).trans s_355) (by decide) ?_
  refine LW_ls (ls' := [some (.ref 355), some (.int (1 : Int32)), none, none]) rfl ?_
  refine X_iconst (v := (0 : Int32)) rfl rfl rfl ?_
  refine X_istore_n (i := 2) (ls' := [some (.ref 355), some (.int (1 : Int32)), some (.int (0 : Int32)), none]) rfl rfl rfl (Nat.le_of_ble_eq_true rfl) rfl ?_
  refine X_iconst (v := (0 : Int32)) rfl rfl rfl ?_
  refine X_istore_n (i := 3) (ls' := [some (.ref 355), some (.int (1 : Int32)), some (.int (0 : Int32)), some (.int (0 : Int32))]) rfl rfl rfl (Nat.le_of_ble_eq_true rfl) rfl ?_
  refine X_iload_n rfl rfl rfl rfl ?_
  refine X_aload_n rfl rfl rfl rfl ?_
  refine X_getR (a := 356) rfl rfl rfl ((congrFun F.1 355).trans s_355) rfl ((congrFun (F.2.1 355 (by decide)) 0).trans r_355_0) ?_
  refine X_iconst (v := (1 : Int32)) rfl rfl rfl ?_
  refine X_iald (v := (0 : Int32)) rfl rfl ((congrFun F.1 356).trans s_356) (vp_in_d rfl) ((congrFun (F.2.2 356 (by decide)).1 1).trans i_356_1) ?_
  refine X_icmp_ge (tgt := 38) rfl rfl rfl (fun _ => ?_) (fun q => absurd q (by decide))
  refine X_iload_n rfl rfl rfl rfl ?_
  refine LW_ireturn (st := []) rfl rfl rfl ?_
  refine X_icmp_le (tgt := 29) rfl rfl rfl (fun _ => ?_) (fun q => absurd q (by decide))
  refine X_iinc (v := (24 : Int32)) (ls' := [some (.ref 355), some (.int (1 : Int32)), some (.int (0 : Int32)), some (.int (24 : Int32))]) rfl rfl rfl rfl rfl ?_
  refine LW_goto (tgt := 4) rfl rfl ?_
  refine X_iload_n rfl rfl rfl rfl ?_
  refine X_bipush (v := (26 : Int32)) rfl rfl rfl ?_
  refine X_icmp_ge (tgt := 35) rfl rfl rfl (fun q => absurd q (by decide)) (fun _ => ?_)
  refine X_aload_n rfl rfl rfl rfl ?_
  refine X_iconst (v := (1 : Int32)) rfl rfl rfl ?_
  refine X_iload_n rfl rfl rfl rfl ?_
  refine X_ishl (v := (16777216 : Int32)) rfl rfl rfl ?_
  refine X_callV (as := [.int (16777216 : Int32)]) (st := []) rfl rfl rfl (by decide) rfl (Nat.le_of_ble_eq_true rfl) (by decide) (Nat.le_of_ble_eq_true rfl) rfl ((congrFun F.1 355).trans s_355) (by decide) ?_
  refine LW_ls (ls' := [some (.ref 355), some (.int (16777216 : Int32)), none, none]) rfl ?_
  refine X_iconst (v := (0 : Int32)) rfl rfl rfl ?_
  refine X_istore_n (i := 2) (ls' := [some (.ref 355), some (.int (16777216 : Int32)), some (.int (0 : Int32)), none]) rfl rfl rfl (Nat.le_of_ble_eq_true rfl) rfl ?_
  refine X_iconst (v := (0 : Int32)) rfl rfl rfl ?_
  refine X_istore_n (i := 3) (ls' := [some (.ref 355), some (.int (16777216 : Int32)), some (.int (0 : Int32)), some (.int (0 : Int32))]) rfl rfl rfl (Nat.le_of_ble_eq_true rfl) rfl ?_
  refine X_iload_n rfl rfl rfl rfl ?_
  refine X_aload_n rfl rfl rfl rfl ?_
  refine X_getR (a := 356) rfl rfl rfl ((congrFun F.1 355).trans s_355) rfl ((congrFun (F.2.1 355 (by decide)) 0).trans r_355_0) ?_
  refine X_iconst (v := (1 : Int32)) rfl rfl rfl ?_
  refine X_iald (v := (0 : Int32)) rfl rfl ((congrFun F.1 356).trans s_356) (vp_in_d rfl) ((congrFun (F.2.2 356 (by decide)).1 1).trans i_356_1) ?_
  refine X_icmp_ge (tgt := 38) rfl rfl rfl (fun _ => ?_) (fun q => absurd q (by decide))
  refine X_iload_n rfl rfl rfl rfl ?_
  refine LW_ireturn (st := []) rfl rfl rfl ?_
  refine X_aload_n rfl rfl rfl rfl ?_
  refine X_iconst (v := (1 : Int32)) rfl rfl rfl ?_
  refine X_iload_n rfl rfl rfl rfl ?_
  refine X_ishl (v := (1 : Int32)) rfl rfl rfl ?_
  refine X_callV (as := [.int (1 : Int32)]) (st := [.int (0 : Int32)]) rfl rfl rfl (by decide) rfl (Nat.le_of_ble_eq_true rfl) (by decide) (Nat.le_of_ble_eq_true rfl) rfl ((congrFun F.1 355).trans s_355) (by decide) ?_
  refine LW_ls (ls' := [some (.ref 355), some (.int (1 : Int32)), none, none]) rfl ?_
  refine X_iconst (v := (0 : Int32)) rfl rfl rfl ?_
  refine X_istore_n (i := 2) (ls' := [some (.ref 355), some (.int (1 : Int32)), some (.int (0 : Int32)), none]) rfl rfl rfl (Nat.le_of_ble_eq_true rfl) rfl ?_
  refine X_iconst (v := (0 : Int32)) rfl rfl rfl ?_
  refine X_istore_n (i := 3) (ls' := [some (.ref 355), some (.int (1 : Int32)), some (.int (0 : Int32)), some (.int (0 : Int32))]) rfl rfl rfl (Nat.le_of_ble_eq_true rfl) rfl ?_
  refine X_iload_n rfl rfl rfl rfl ?_
  refine X_aload_n rfl rfl rfl rfl ?_
  refine X_getR (a := 356) rfl rfl rfl ((congrFun F.1 355).trans s_355) rfl ((congrFun (F.2.1 355 (by decide)) 0).trans r_355_0) ?_
  refine X_iconst (v := (1 : Int32)) rfl rfl rfl ?_
  refine X_iald (v := (0 : Int32)) rfl rfl ((congrFun F.1 356).trans s_356) (vp_in_d rfl) ((congrFun (F.2.2 356 (by decide)).1 1).trans i_356_1) ?_
  refine X_icmp_ge (tgt := 38) rfl rfl rfl (fun _ => ?_) (fun q => absurd q (by decide))
  refine X_iload_n rfl rfl rfl rfl ?_
  refine LW_ireturn (st := []) rfl rfl rfl ?_
  refine X_icmp_le (tgt := 29) rfl rfl rfl (fun _ => ?_) (fun q => absurd q (by decide))
  refine X_iinc (v := (25 : Int32)) (ls' := [some (.ref 355), some (.int (1 : Int32)), some (.int (0 : Int32)), some (.int (25 : Int32))]) rfl rfl rfl rfl rfl ?_
  refine LW_goto (tgt := 4) rfl rfl ?_
  refine X_iload_n rfl rfl rfl rfl ?_
  refine X_bipush (v := (26 : Int32)) rfl rfl rfl ?_
  refine X_icmp_ge (tgt := 35) rfl rfl rfl (fun q => absurd q (by decide)) (fun _ => ?_)
  refine X_aload_n rfl rfl rfl rfl ?_
  refine X_iconst (v := (1 : Int32)) rfl rfl rfl ?_
  refine X_iload_n rfl rfl rfl rfl ?_
  refine X_ishl (v := (33554432 : Int32)) rfl rfl rfl ?_
  refine X_callV (as := [.int (33554432 : Int32)]) (st := []) rfl rfl rfl (by decide) rfl (Nat.le_of_ble_eq_true rfl) (by decide) (Nat.le_of_ble_eq_true rfl) rfl ((congrFun F.1 355).trans s_355) (by decide) ?_
  refine LW_ls (ls' := [some (.ref 355), some (.int (33554432 : Int32)), none, none]) rfl ?_
  refine X_iconst (v := (0 : Int32)) rfl rfl rfl ?_
  refine X_istore_n (i := 2) (ls' := [some (.ref 355), some (.int (33554432 : Int32)), some (.int (0 : Int32)), none]) rfl rfl rfl (Nat.le_of_ble_eq_true rfl) rfl ?_
  refine X_iconst (v := (0 : Int32)) rfl rfl rfl ?_
  refine X_istore_n (i := 3) (ls' := [some (.ref 355), some (.int (33554432 : Int32)), some (.int (0 : Int32)), some (.int (0 : Int32))]) rfl rfl rfl (Nat.le_of_ble_eq_true rfl) rfl ?_
  refine X_iload_n rfl rfl rfl rfl ?_
  refine X_aload_n rfl rfl rfl rfl ?_
  refine X_getR (a := 356) rfl rfl rfl ((congrFun F.1 355).trans s_355) rfl ((congrFun (F.2.1 355 (by decide)) 0).trans r_355_0) ?_
  refine X_iconst (v := (1 : Int32)) rfl rfl rfl ?_
  refine X_iald (v := (0 : Int32)) rfl rfl ((congrFun F.1 356).trans s_356) (vp_in_d rfl) ((congrFun (F.2.2 356 (by decide)).1 1).trans i_356_1) ?_
  refine X_icmp_ge (tgt := 38) rfl rfl rfl (fun _ => ?_) (fun q => absurd q (by decide))
  refine X_iload_n rfl rfl rfl rfl ?_
  refine LW_ireturn (st := []) rfl rfl rfl ?_
  refine X_aload_n rfl rfl rfl rfl ?_
  refine X_iconst (v := (1 : Int32)) rfl rfl rfl ?_
  refine X_iload_n rfl rfl rfl rfl ?_
  refine X_ishl (v := (1 : Int32)) rfl rfl rfl ?_
  refine X_callV (as := [.int (1 : Int32)]) (st := [.int (0 : Int32)]) rfl rfl rfl (by decide) rfl (Nat.le_of_ble_eq_true rfl) (by decide) (Nat.le_of_ble_eq_true rfl) rfl ((congrFun F.1 355).trans s_355) (by decide) ?_
  refine LW_ls (ls' := [some (.ref 355), some (.int (1 : Int32)), none, none]) rfl ?_
  refine X_iconst (v := (0 : Int32)) rfl rfl rfl ?_
  refine X_istore_n (i := 2) (ls' := [some (.ref 355), some (.int (1 : Int32)), some (.int (0 : Int32)), none]) rfl rfl rfl (Nat.le_of_ble_eq_true rfl) rfl ?_
  refine X_iconst (v := (0 : Int32)) rfl rfl rfl ?_
  refine X_istore_n (i := 3) (ls' := [some (.ref 355), some (.int (1 : Int32)), some (.int (0 : Int32)), some (.int (0 : Int32))]) rfl rfl rfl (Nat.le_of_ble_eq_true rfl) rfl ?_
  refine X_iload_n rfl rfl rfl rfl ?_
  refine X_aload_n rfl rfl rfl rfl ?_
  refine X_getR (a := 356) rfl rfl rfl ((congrFun F.1 355).trans s_355) rfl ((congrFun (F.2.1 355 (by decide)) 0).trans r_355_0) ?_
  refine X_iconst (v := (1 : Int32)) rfl rfl rfl ?_
  refine X_iald (v := (0 : Int32)) rfl rfl ((congrFun F.1 356).trans s_356) (vp_in_d rfl) ((congrFun (F.2.2 356 (by decide)).1 1).trans i_356_1) ?_
  refine X_icmp_ge (tgt := 38) rfl rfl rfl (fun _ => ?_) (fun q => absurd q (by decide))
  refine X_iload_n rfl rfl rfl rfl ?_
  refine LW_ireturn (st := []) rfl rfl rfl ?_
  refine X_icmp_le (tgt := 29) rfl rfl rfl (fun _ => ?_) (fun q => absurd q (by decide))
  refine X_iinc (v := (26 : Int32)) (ls' := [some (.ref 355), some (.int (1 : Int32)), some (.int (0 : Int32)), some (.int (26 : Int32))]) rfl rfl rfl rfl rfl ?_
  refine LW_goto (tgt := 4) rfl rfl ?_
  refine X_iload_n rfl rfl rfl rfl ?_
  refine X_bipush (v := (26 : Int32)) rfl rfl rfl ?_
  refine X_icmp_ge (tgt := 35) rfl rfl rfl (fun _ => ?_) (fun q => absurd q (by decide))
  refine X_iload_n rfl rfl rfl rfl ?_
  refine X_if_eq (tgt := 49) rfl rfl rfl (fun q => absurd q (by decide)) (fun _ => ?_)
  refine X_aload_n rfl rfl rfl rfl ?_
  refine X_iconst (v := (1 : Int32)) rfl rfl rfl ?_
  refine X_iload_n rfl rfl rfl rfl ?_
  refine X_ishl (v := (1 : Int32)) rfl rfl rfl ?_
  refine X_callV (as := [.int (1 : Int32)]) (st := []) rfl rfl rfl (by decide) rfl (Nat.le_of_ble_eq_true rfl) (by decide) (Nat.le_of_ble_eq_true rfl) rfl ((congrFun F.1 355).trans s_355) (by decide) ?_
  refine LW_ls (ls' := [some (.ref 355), some (.int (1 : Int32)), none, none]) rfl ?_
  refine X_iconst (v := (0 : Int32)) rfl rfl rfl ?_
  refine X_istore_n (i := 2) (ls' := [some (.ref 355), some (.int (1 : Int32)), some (.int (0 : Int32)), none]) rfl rfl rfl (Nat.le_of_ble_eq_true rfl) rfl ?_
  refine X_iconst (v := (0 : Int32)) rfl rfl rfl ?_
  refine X_istore_n (i := 3) (ls' := [some (.ref 355), some (.int (1 : Int32)), some (.int (0 : Int32)), some (.int (0 : Int32))]) rfl rfl rfl (Nat.le_of_ble_eq_true rfl) rfl ?_
  refine X_iload_n rfl rfl rfl rfl ?_
  refine X_aload_n rfl rfl rfl rfl ?_
  refine X_getR (a := 356) rfl rfl rfl ((congrFun F.1 355).trans s_355) rfl ((congrFun (F.2.1 355 (by decide)) 0).trans r_355_0) ?_
  refine X_iconst (v := (1 : Int32)) rfl rfl rfl ?_
  refine X_iald (v := (0 : Int32)) rfl rfl ((congrFun F.1 356).trans s_356) (vp_in_d rfl) ((congrFun (F.2.2 356 (by decide)).1 1).trans i_356_1) ?_
  refine X_icmp_ge (tgt := 38) rfl rfl rfl (fun _ => ?_) (fun q => absurd q (by decide))
  refine X_iload_n rfl rfl rfl rfl ?_
  refine LW_ireturn (st := []) rfl rfl rfl ?_
  refine LW_goto (tgt := 50) rfl rfl ?_
  refine LW_ireturn (st := []) rfl rfl rfl (congrArg (fun z => some (Value.int z)) ?_)
  unfold f_spared1
  repeat' split
  all_goals first | rfl | (exfalso; omega) | (refine Int32.toInt_inj.mp ?_; rw [show (0 : Int32).toInt = 0 from rfl]; omega)
set_option maxRecDepth 10000 in
set_option maxHeartbeats 4000000 in
theorem c_power0 {g : LH} (F : Fc g) (E : Fr g) (a : Int32) (b : Int32) (c : Int32) : LW 151 30 0 0 0 (lEnt (mL 151) [.ref 0, .int a, .int b, .int c, .int (0 : Int32)]) [] g (fun v g' => v = some (.int (f_power0 a b c)) ∧ Fr g') := by
  refine LW_ls (ls' := [some (.ref 0), some (.int a), some (.int b), some (.int c), some (.int (0 : Int32)), none, none, none]) rfl ?_
  refine X_aload_n rfl rfl rfl rfl ?_
  refine X_getR (a := 1) rfl rfl rfl ((congrFun F.1 0).trans s_0) rfl ((congrFun (F.2.1 0 (by decide)) 0).trans r_0_0) ?_
  refine X_getR (a := 2) rfl rfl rfl ((congrFun F.1 1).trans s_1) rfl ((congrFun (F.2.1 1 (by decide)) 0).trans r_1_0) ?_
  refine X_iload_n rfl rfl rfl rfl ?_
  refine X_callV (as := [.int a]) (st := []) rfl rfl rfl (by decide) rfl (Nat.le_of_ble_eq_true rfl) (by decide) (Nat.le_of_ble_eq_true rfl) rfl ((congrFun F.1 2).trans s_2) (by decide) ?_
  refine LW_ls (ls' := [some (.ref 2), some (.int a)]) rfl ?_
  refine X_iload_n rfl rfl rfl rfl ?_
  refine X_if_lt (tgt := 22) rfl rfl rfl (fun h1 => ?_) (fun h1 => ?_)
  · refine X_iconst (v := (0 : Int32)) rfl rfl rfl ?_
    refine LW_ireturn (st := []) rfl rfl rfl ?_
    refine X_if_eq (tgt := 28) rfl rfl rfl (fun _ => ?_) (fun q => absurd q (by decide))
    refine X_iconst (v := (-1 : Int32)) rfl rfl rfl ?_
    refine LW_ireturn (st := []) rfl rfl rfl ⟨congrArg (fun z => some (Value.int z)) ?_, E⟩
    simp only [Int32.lt_iff_toInt_lt, Int32.le_iff_toInt_le, ← Int32.toInt_inj, (show (0 : Int32).toInt = 0 from rfl)] at h1
    unfold f_power0
    repeat' split
    all_goals first | rfl | (exfalso; omega) | (refine Int32.toInt_inj.mp ?_; rw [show (0 : Int32).toInt = 0 from rfl]; omega)
  · refine X_iload_n rfl rfl rfl rfl ?_
    refine X_aload_n rfl rfl rfl rfl ?_
    refine X_getI (v := (0 : Int32)) rfl rfl rfl ((congrFun F.1 2).trans s_2) rfl ((congrFun (F.2.2 2 (by decide)).1 1).trans i_2_1) ?_
    refine X_icmp_ge (tgt := 22) rfl rfl rfl (fun h2 => ?_) (fun h2 => ?_)
    · refine X_iconst (v := (0 : Int32)) rfl rfl rfl ?_
      refine LW_ireturn (st := []) rfl rfl rfl ?_
      refine X_if_eq (tgt := 28) rfl rfl rfl (fun _ => ?_) (fun q => absurd q (by decide))
      refine X_iconst (v := (-1 : Int32)) rfl rfl rfl ?_
      refine LW_ireturn (st := []) rfl rfl rfl ⟨congrArg (fun z => some (Value.int z)) ?_, E⟩
      simp only [Int32.lt_iff_toInt_lt, Int32.le_iff_toInt_le, ← Int32.toInt_inj, (show (0 : Int32).toInt = 0 from rfl)] at h1 h2
      unfold f_power0
      repeat' split
      all_goals first | rfl | (exfalso; omega) | (refine Int32.toInt_inj.mp ?_; rw [show (0 : Int32).toInt = 0 from rfl]; omega)
    · exfalso
      simp only [Int32.lt_iff_toInt_lt, Int32.le_iff_toInt_le, ← Int32.toInt_inj, (show (0 : Int32).toInt = 0 from rfl)] at h1 h2
      omega
set_option maxRecDepth 10000 in
set_option maxHeartbeats 4000000 in
theorem r_power0 {g : LH} (F : Fr g) (a : Int32) (b : Int32) (c : Int32) : LW 287 30 0 0 0 (lEnt (mL 287) [.ref 355, .int a, .int b, .int c, .int (0 : Int32)]) [] g (fun v _ => v = some (.int (f_power0 a b c))) := by
  refine LW_ls (ls' := [some (.ref 355), some (.int a), some (.int b), some (.int c), some (.int (0 : Int32)), none, none, none, none, none]) rfl ?_
  refine X_iload_n rfl rfl rfl rfl ?_
  refine X_callS (as := [.int c]) (st := []) rfl rfl rfl (by decide) rfl (Nat.le_of_ble_eq_true rfl) (by decide) (Nat.le_of_ble_eq_true rfl) rfl ?_
  refine LW_ls (ls' := [some (.int c)]) rfl ?_
  refine X_iload_n rfl rfl rfl rfl ?_
  refine X_iconst (v := (0 : Int32)) rfl rfl rfl ?_
  refine X_bipush (v := (25 : Int32)) rfl rfl rfl ?_
  refine X_callS (as := [.int c, .int (0 : Int32), .int (25 : Int32)]) (st := []) rfl rfl rfl (by decide) rfl (Nat.le_of_ble_eq_true rfl) (by decide) (Nat.le_of_ble_eq_true rfl) rfl ?_
  refine LW_ls (ls' := [some (.int c), some (.int (0 : Int32)), some (.int (25 : Int32))]) rfl ?_
  refine X_iload_n rfl rfl rfl rfl ?_
  refine X_iload_n rfl rfl rfl rfl ?_
  refine X_icmp_lt (tgt := 14) rfl rfl rfl (fun h1 => ?_) (fun h1 => ?_)
  · refine X_iconst (v := (0 : Int32)) rfl rfl rfl ?_
    refine LW_ireturn (st := []) rfl rfl rfl ?_
    refine LW_ireturn (st := []) rfl rfl rfl ?_
    refine X_if_eq (tgt := 31) rfl rfl rfl (fun _ => ?_) (fun q => absurd q (by decide))
    refine X_iconst (v := (-1 : Int32)) rfl rfl rfl ?_
    refine LW_ireturn (st := []) rfl rfl rfl (congrArg (fun z => some (Value.int z)) ?_)
    simp only [Int32.lt_iff_toInt_lt, Int32.le_iff_toInt_le, ← Int32.toInt_inj, (show (0 : Int32).toInt = 0 from rfl)] at h1
    unfold f_power0
    repeat' split
    all_goals first | rfl | (exfalso; omega) | (refine Int32.toInt_inj.mp ?_; rw [show (0 : Int32).toInt = 0 from rfl]; omega)
  · refine X_iload_n rfl rfl rfl rfl ?_
    refine X_iload_n rfl rfl rfl rfl ?_
    refine X_icmp_gt (tgt := 14) rfl rfl rfl (fun h2 => ?_) (fun h2 => ?_)
    · refine X_iconst (v := (0 : Int32)) rfl rfl rfl ?_
      refine LW_ireturn (st := []) rfl rfl rfl ?_
      refine LW_ireturn (st := []) rfl rfl rfl ?_
      refine X_if_eq (tgt := 31) rfl rfl rfl (fun _ => ?_) (fun q => absurd q (by decide))
      refine X_iconst (v := (-1 : Int32)) rfl rfl rfl ?_
      refine LW_ireturn (st := []) rfl rfl rfl (congrArg (fun z => some (Value.int z)) ?_)
      simp only [Int32.lt_iff_toInt_lt, Int32.le_iff_toInt_le, ← Int32.toInt_inj, (show (0 : Int32).toInt = 0 from rfl), (show (25 : Int32).toInt = 25 from rfl)] at h1 h2
      unfold f_power0
      repeat' split
      all_goals first | rfl | (exfalso; omega) | (refine Int32.toInt_inj.mp ?_; rw [show (0 : Int32).toInt = 0 from rfl]; omega)
    · refine X_iconst (v := (1 : Int32)) rfl rfl rfl ?_
      refine LW_goto (tgt := 15) rfl rfl ?_
      refine LW_ireturn (st := []) rfl rfl rfl ?_
      refine LW_ireturn (st := []) rfl rfl rfl ?_
      refine X_if_eq (tgt := 31) rfl rfl rfl (fun q => absurd q (by decide)) (fun _ => ?_)
      refine X_iload_n rfl rfl rfl rfl ?_
      refine X_callS (as := [.int b]) (st := []) rfl rfl rfl (by decide) rfl (Nat.le_of_ble_eq_true rfl) (by decide) (Nat.le_of_ble_eq_true rfl) rfl ?_
      refine LW_ls (ls' := [some (.int b)]) rfl ?_
      refine X_iload_n rfl rfl rfl rfl ?_
      refine X_iconst (v := (1 : Int32)) rfl rfl rfl ?_
      refine X_ldc (v := (67108863 : Int32)) rfl rfl rfl ?_
      refine X_callS (as := [.int b, .int (1 : Int32), .int (67108863 : Int32)]) (st := []) rfl rfl rfl (by decide) rfl (Nat.le_of_ble_eq_true rfl) (by decide) (Nat.le_of_ble_eq_true rfl) rfl ?_
      refine LW_ls (ls' := [some (.int b), some (.int (1 : Int32)), some (.int (67108863 : Int32))]) rfl ?_
      refine X_iload_n rfl rfl rfl rfl ?_
      refine X_iload_n rfl rfl rfl rfl ?_
      refine X_icmp_lt (tgt := 14) rfl rfl rfl (fun h3 => ?_) (fun h3 => ?_)
      · refine X_iconst (v := (0 : Int32)) rfl rfl rfl ?_
        refine LW_ireturn (st := []) rfl rfl rfl ?_
        refine LW_ireturn (st := []) rfl rfl rfl ?_
        refine X_if_eq (tgt := 31) rfl rfl rfl (fun _ => ?_) (fun q => absurd q (by decide))
        refine X_iconst (v := (-1 : Int32)) rfl rfl rfl ?_
        refine LW_ireturn (st := []) rfl rfl rfl (congrArg (fun z => some (Value.int z)) ?_)
        simp only [Int32.lt_iff_toInt_lt, Int32.le_iff_toInt_le, ← Int32.toInt_inj, (show (0 : Int32).toInt = 0 from rfl), (show (1 : Int32).toInt = 1 from rfl), (show (25 : Int32).toInt = 25 from rfl)] at h1 h2 h3
        unfold f_power0
        repeat' split
        all_goals first | rfl | (exfalso; omega) | (refine Int32.toInt_inj.mp ?_; rw [show (0 : Int32).toInt = 0 from rfl]; omega)
      · refine X_iload_n rfl rfl rfl rfl ?_
        refine X_iload_n rfl rfl rfl rfl ?_
        refine X_icmp_gt (tgt := 14) rfl rfl rfl (fun h4 => ?_) (fun h4 => ?_)
        · refine X_iconst (v := (0 : Int32)) rfl rfl rfl ?_
          refine LW_ireturn (st := []) rfl rfl rfl ?_
          refine LW_ireturn (st := []) rfl rfl rfl ?_
          refine X_if_eq (tgt := 31) rfl rfl rfl (fun _ => ?_) (fun q => absurd q (by decide))
          refine X_iconst (v := (-1 : Int32)) rfl rfl rfl ?_
          refine LW_ireturn (st := []) rfl rfl rfl (congrArg (fun z => some (Value.int z)) ?_)
          simp only [Int32.lt_iff_toInt_lt, Int32.le_iff_toInt_le, ← Int32.toInt_inj, (show (0 : Int32).toInt = 0 from rfl), (show (1 : Int32).toInt = 1 from rfl), (show (25 : Int32).toInt = 25 from rfl), (show (67108863 : Int32).toInt = 67108863 from rfl)] at h1 h2 h3 h4
          unfold f_power0
          repeat' split
          all_goals first | rfl | (exfalso; omega) | (refine Int32.toInt_inj.mp ?_; rw [show (0 : Int32).toInt = 0 from rfl]; omega)
        · refine X_iconst (v := (1 : Int32)) rfl rfl rfl ?_
          refine LW_goto (tgt := 15) rfl rfl ?_
          refine LW_ireturn (st := []) rfl rfl rfl ?_
          refine LW_ireturn (st := []) rfl rfl rfl ?_
          refine X_if_eq (tgt := 31) rfl rfl rfl (fun q => absurd q (by decide)) (fun _ => ?_)
          refine X_iload_n rfl rfl rfl rfl ?_
          refine X_iload_n rfl rfl rfl rfl ?_
          refine X_callS (as := [.int b, .int c]) (st := []) rfl rfl rfl (by decide) rfl (Nat.le_of_ble_eq_true rfl) (by decide) (Nat.le_of_ble_eq_true rfl) rfl ?_
          refine LW_ls (ls' := [some (.int b), some (.int c)]) rfl ?_
          refine X_iload_n rfl rfl rfl rfl ?_
          refine X_iload_n rfl rfl rfl rfl ?_
          refine X_ishr (v := (b >>> (c &&& 31))) rfl rfl rfl ?_
          refine X_iconst (v := (1 : Int32)) rfl rfl rfl ?_
          refine X_iand (v := ((b >>> (c &&& 31)) &&& (1 : Int32))) rfl rfl rfl ?_
          refine X_iconst (v := (1 : Int32)) rfl rfl rfl ?_
          refine X_icmp_ne (tgt := 13) rfl rfl rfl (fun h5 => ?_) (fun h5 => ?_)
          · refine X_iconst (v := (0 : Int32)) rfl rfl rfl ?_
            refine LW_ireturn (st := []) rfl rfl rfl ?_
            refine X_if_eq (tgt := 31) rfl rfl rfl (fun _ => ?_) (fun q => absurd q (by decide))
            refine X_iconst (v := (-1 : Int32)) rfl rfl rfl ?_
            refine LW_ireturn (st := []) rfl rfl rfl (congrArg (fun z => some (Value.int z)) ?_)
            simp only [Int32.lt_iff_toInt_lt, Int32.le_iff_toInt_le, ← Int32.toInt_inj, (show (0 : Int32).toInt = 0 from rfl), (show (1 : Int32).toInt = 1 from rfl), (show (25 : Int32).toInt = 25 from rfl), (show (67108863 : Int32).toInt = 67108863 from rfl)] at h1 h2 h3 h4 h5
            unfold f_power0
            repeat' split
            all_goals first | rfl | (exfalso; omega) | (refine Int32.toInt_inj.mp ?_; rw [show (0 : Int32).toInt = 0 from rfl]; omega)
          · refine X_iconst (v := (1 : Int32)) rfl rfl rfl ?_
            refine LW_goto (tgt := 14) rfl rfl ?_
            refine LW_ireturn (st := []) rfl rfl rfl ?_
            refine X_if_eq (tgt := 31) rfl rfl rfl (fun q => absurd q (by decide)) (fun _ => ?_)
            refine X_aload_n rfl rfl rfl rfl ?_
            refine X_iload_n rfl rfl rfl rfl ?_
            refine X_iload_n rfl rfl rfl rfl ?_
            refine X_callV (as := [.int a, .int b]) (st := []) rfl rfl rfl (by decide) rfl (Nat.le_of_ble_eq_true rfl) (by decide) (Nat.le_of_ble_eq_true rfl) rfl ((congrFun F.1 355).trans s_355) (by decide) ?_
            refine LW_ls (ls' := [some (.ref 355), some (.int a), some (.int b), none, none, none]) rfl ?_
            refine X_aload_n rfl rfl rfl rfl ?_
            refine X_iload_n rfl rfl rfl rfl ?_
            refine X_callV (as := [.int a]) (st := []) rfl rfl rfl (by decide) rfl (Nat.le_of_ble_eq_true rfl) (by decide) (Nat.le_of_ble_eq_true rfl) rfl ((congrFun F.1 355).trans s_355) (by decide) ?_
            refine LW_ls (ls' := [some (.ref 355), some (.int a)]) rfl ?_
            refine X_iload_n rfl rfl rfl rfl ?_
            refine X_iconst (v := (0 : Int32)) rfl rfl rfl ?_
            refine X_aload_n rfl rfl rfl rfl ?_
            refine X_getR (a := 356) rfl rfl rfl ((congrFun F.1 355).trans s_355) rfl ((congrFun (F.2.1 355 (by decide)) 0).trans r_355_0) ?_
            refine X_iconst (v := (1 : Int32)) rfl rfl rfl ?_
            refine X_iald (v := (0 : Int32)) rfl rfl ((congrFun F.1 356).trans s_356) (vp_in_d rfl) ((congrFun (F.2.2 356 (by decide)).1 1).trans i_356_1) ?_
            refine X_iconst (v := (1 : Int32)) rfl rfl rfl ?_
            refine X_isub (v := (-1 : Int32)) rfl rfl rfl ?_
            refine X_callS (as := [.int a, .int (0 : Int32), .int (-1 : Int32)]) (st := []) rfl rfl rfl (by decide) rfl (Nat.le_of_ble_eq_true rfl) (by decide) (Nat.le_of_ble_eq_true rfl) rfl ?_
            refine LW_ls (ls' := [some (.int a), some (.int (0 : Int32)), some (.int (-1 : Int32))]) rfl ?_
            refine X_iload_n rfl rfl rfl rfl ?_
            refine X_iload_n rfl rfl rfl rfl ?_
            refine X_icmp_lt (tgt := 14) rfl rfl rfl (fun h6 => ?_) (fun h6 => ?_)
            · refine X_iconst (v := (0 : Int32)) rfl rfl rfl ?_
              refine LW_ireturn (st := []) rfl rfl rfl ?_
              refine LW_ireturn (st := []) rfl rfl rfl ?_
              refine X_if_eq (tgt := 24) rfl rfl rfl (fun _ => ?_) (fun q => absurd q (by decide))
              refine X_iconst (v := (0 : Int32)) rfl rfl rfl ?_
              refine LW_ireturn (st := []) rfl rfl rfl ?_
              refine X_if_ne (tgt := 33) rfl rfl rfl (fun q => absurd q (by decide)) (fun _ => ?_)
              refine X_iconst (v := (-1 : Int32)) rfl rfl rfl ?_
              refine LW_ireturn (st := []) rfl rfl rfl (congrArg (fun z => some (Value.int z)) ?_)
              simp only [Int32.lt_iff_toInt_lt, Int32.le_iff_toInt_le, ← Int32.toInt_inj, (show (0 : Int32).toInt = 0 from rfl), (show (1 : Int32).toInt = 1 from rfl), (show (25 : Int32).toInt = 25 from rfl), (show (67108863 : Int32).toInt = 67108863 from rfl)] at h1 h2 h3 h4 h5 h6
              unfold f_power0
              repeat' split
              all_goals first | rfl | (exfalso; omega) | (refine Int32.toInt_inj.mp ?_; rw [show (0 : Int32).toInt = 0 from rfl]; omega)
            · refine X_iload_n rfl rfl rfl rfl ?_
              refine X_iload_n rfl rfl rfl rfl ?_
              refine X_icmp_gt (tgt := 14) rfl rfl rfl (fun h7 => ?_) (fun h7 => ?_)
              · refine X_iconst (v := (0 : Int32)) rfl rfl rfl ?_
                refine LW_ireturn (st := []) rfl rfl rfl ?_
                refine LW_ireturn (st := []) rfl rfl rfl ?_
                refine X_if_eq (tgt := 24) rfl rfl rfl (fun _ => ?_) (fun q => absurd q (by decide))
                refine X_iconst (v := (0 : Int32)) rfl rfl rfl ?_
                refine LW_ireturn (st := []) rfl rfl rfl ?_
                refine X_if_ne (tgt := 33) rfl rfl rfl (fun q => absurd q (by decide)) (fun _ => ?_)
                refine X_iconst (v := (-1 : Int32)) rfl rfl rfl ?_
                refine LW_ireturn (st := []) rfl rfl rfl (congrArg (fun z => some (Value.int z)) ?_)
                simp only [Int32.lt_iff_toInt_lt, Int32.le_iff_toInt_le, ← Int32.toInt_inj, (show (-1 : Int32).toInt = -1 from rfl), (show (0 : Int32).toInt = 0 from rfl), (show (1 : Int32).toInt = 1 from rfl), (show (25 : Int32).toInt = 25 from rfl), (show (67108863 : Int32).toInt = 67108863 from rfl)] at h1 h2 h3 h4 h5 h6 h7
                unfold f_power0
                repeat' split
                all_goals first | rfl | (exfalso; omega) | (refine Int32.toInt_inj.mp ?_; rw [show (0 : Int32).toInt = 0 from rfl]; omega)
              · exfalso
                simp only [Int32.lt_iff_toInt_lt, Int32.le_iff_toInt_le, ← Int32.toInt_inj, (show (-1 : Int32).toInt = -1 from rfl), (show (0 : Int32).toInt = 0 from rfl), (show (1 : Int32).toInt = 1 from rfl), (show (25 : Int32).toInt = 25 from rfl), (show (67108863 : Int32).toInt = 67108863 from rfl)] at h1 h2 h3 h4 h5 h6 h7
                omega
set_option maxRecDepth 10000 in
set_option maxHeartbeats 4000000 in
theorem c_power1 {g : LH} (F : Fc g) (E : Fr g) (a : Int32) (b : Int32) (c : Int32) : LW 151 30 0 0 0 (lEnt (mL 151) [.ref 0, .int a, .int b, .int c, .int (1 : Int32)]) [] g (fun v g' => v = some (.int (f_power1 a b c)) ∧ Fr g') := by
  refine LW_ls (ls' := [some (.ref 0), some (.int a), some (.int b), some (.int c), some (.int (1 : Int32)), none, none, none]) rfl ?_
  refine X_aload_n rfl rfl rfl rfl ?_
  refine X_getR (a := 1) rfl rfl rfl ((congrFun F.1 0).trans s_0) rfl ((congrFun (F.2.1 0 (by decide)) 0).trans r_0_0) ?_
  refine X_getR (a := 2) rfl rfl rfl ((congrFun F.1 1).trans s_1) rfl ((congrFun (F.2.1 1 (by decide)) 0).trans r_1_0) ?_
  refine X_iload_n rfl rfl rfl rfl ?_
  refine X_callV (as := [.int a]) (st := []) rfl rfl rfl (by decide) rfl (Nat.le_of_ble_eq_true rfl) (by decide) (Nat.le_of_ble_eq_true rfl) rfl ((congrFun F.1 2).trans s_2) (by decide) ?_
  refine LW_ls (ls' := [some (.ref 2), some (.int a)]) rfl ?_
  refine X_iload_n rfl rfl rfl rfl ?_
  refine X_if_lt (tgt := 22) rfl rfl rfl (fun h1 => ?_) (fun h1 => ?_)
  · refine X_iconst (v := (0 : Int32)) rfl rfl rfl ?_
    refine LW_ireturn (st := []) rfl rfl rfl ?_
    refine X_if_eq (tgt := 28) rfl rfl rfl (fun _ => ?_) (fun q => absurd q (by decide))
    refine X_iconst (v := (-1 : Int32)) rfl rfl rfl ?_
    refine LW_ireturn (st := []) rfl rfl rfl ⟨congrArg (fun z => some (Value.int z)) ?_, E⟩
    simp only [Int32.lt_iff_toInt_lt, Int32.le_iff_toInt_le, ← Int32.toInt_inj, (show (0 : Int32).toInt = 0 from rfl)] at h1
    unfold f_power1
    repeat' split
    all_goals first | rfl | (exfalso; omega) | (refine Int32.toInt_inj.mp ?_; rw [show (0 : Int32).toInt = 0 from rfl]; omega)
  · refine X_iload_n rfl rfl rfl rfl ?_
    refine X_aload_n rfl rfl rfl rfl ?_
    refine X_getI (v := (0 : Int32)) rfl rfl rfl ((congrFun F.1 2).trans s_2) rfl ((congrFun (F.2.2 2 (by decide)).1 1).trans i_2_1) ?_
    refine X_icmp_ge (tgt := 22) rfl rfl rfl (fun h2 => ?_) (fun h2 => ?_)
    · refine X_iconst (v := (0 : Int32)) rfl rfl rfl ?_
      refine LW_ireturn (st := []) rfl rfl rfl ?_
      refine X_if_eq (tgt := 28) rfl rfl rfl (fun _ => ?_) (fun q => absurd q (by decide))
      refine X_iconst (v := (-1 : Int32)) rfl rfl rfl ?_
      refine LW_ireturn (st := []) rfl rfl rfl ⟨congrArg (fun z => some (Value.int z)) ?_, E⟩
      simp only [Int32.lt_iff_toInt_lt, Int32.le_iff_toInt_le, ← Int32.toInt_inj, (show (0 : Int32).toInt = 0 from rfl)] at h1 h2
      unfold f_power1
      repeat' split
      all_goals first | rfl | (exfalso; omega) | (refine Int32.toInt_inj.mp ?_; rw [show (0 : Int32).toInt = 0 from rfl]; omega)
    · exfalso
      simp only [Int32.lt_iff_toInt_lt, Int32.le_iff_toInt_le, ← Int32.toInt_inj, (show (0 : Int32).toInt = 0 from rfl)] at h1 h2
      omega
set_option maxRecDepth 10000 in
set_option maxHeartbeats 4000000 in
theorem r_power1 {g : LH} (F : Fr g) (a : Int32) (b : Int32) (c : Int32) : LW 287 30 0 0 0 (lEnt (mL 287) [.ref 355, .int a, .int b, .int c, .int (1 : Int32)]) [] g (fun v _ => v = some (.int (f_power1 a b c))) := by
  refine LW_ls (ls' := [some (.ref 355), some (.int a), some (.int b), some (.int c), some (.int (1 : Int32)), none, none, none, none, none]) rfl ?_
  refine X_iload_n rfl rfl rfl rfl ?_
  refine X_callS (as := [.int c]) (st := []) rfl rfl rfl (by decide) rfl (Nat.le_of_ble_eq_true rfl) (by decide) (Nat.le_of_ble_eq_true rfl) rfl ?_
  refine LW_ls (ls' := [some (.int c)]) rfl ?_
  refine X_iload_n rfl rfl rfl rfl ?_
  refine X_iconst (v := (0 : Int32)) rfl rfl rfl ?_
  refine X_bipush (v := (25 : Int32)) rfl rfl rfl ?_
  refine X_callS (as := [.int c, .int (0 : Int32), .int (25 : Int32)]) (st := []) rfl rfl rfl (by decide) rfl (Nat.le_of_ble_eq_true rfl) (by decide) (Nat.le_of_ble_eq_true rfl) rfl ?_
  refine LW_ls (ls' := [some (.int c), some (.int (0 : Int32)), some (.int (25 : Int32))]) rfl ?_
  refine X_iload_n rfl rfl rfl rfl ?_
  refine X_iload_n rfl rfl rfl rfl ?_
  refine X_icmp_lt (tgt := 14) rfl rfl rfl (fun h1 => ?_) (fun h1 => ?_)
  · refine X_iconst (v := (0 : Int32)) rfl rfl rfl ?_
    refine LW_ireturn (st := []) rfl rfl rfl ?_
    refine LW_ireturn (st := []) rfl rfl rfl ?_
    refine X_if_eq (tgt := 31) rfl rfl rfl (fun _ => ?_) (fun q => absurd q (by decide))
    refine X_iconst (v := (-1 : Int32)) rfl rfl rfl ?_
    refine LW_ireturn (st := []) rfl rfl rfl (congrArg (fun z => some (Value.int z)) ?_)
    simp only [Int32.lt_iff_toInt_lt, Int32.le_iff_toInt_le, ← Int32.toInt_inj, (show (0 : Int32).toInt = 0 from rfl)] at h1
    unfold f_power1
    repeat' split
    all_goals first | rfl | (exfalso; omega) | (refine Int32.toInt_inj.mp ?_; rw [show (0 : Int32).toInt = 0 from rfl]; omega)
  · refine X_iload_n rfl rfl rfl rfl ?_
    refine X_iload_n rfl rfl rfl rfl ?_
    refine X_icmp_gt (tgt := 14) rfl rfl rfl (fun h2 => ?_) (fun h2 => ?_)
    · refine X_iconst (v := (0 : Int32)) rfl rfl rfl ?_
      refine LW_ireturn (st := []) rfl rfl rfl ?_
      refine LW_ireturn (st := []) rfl rfl rfl ?_
      refine X_if_eq (tgt := 31) rfl rfl rfl (fun _ => ?_) (fun q => absurd q (by decide))
      refine X_iconst (v := (-1 : Int32)) rfl rfl rfl ?_
      refine LW_ireturn (st := []) rfl rfl rfl (congrArg (fun z => some (Value.int z)) ?_)
      simp only [Int32.lt_iff_toInt_lt, Int32.le_iff_toInt_le, ← Int32.toInt_inj, (show (0 : Int32).toInt = 0 from rfl), (show (25 : Int32).toInt = 25 from rfl)] at h1 h2
      unfold f_power1
      repeat' split
      all_goals first | rfl | (exfalso; omega) | (refine Int32.toInt_inj.mp ?_; rw [show (0 : Int32).toInt = 0 from rfl]; omega)
    · refine X_iconst (v := (1 : Int32)) rfl rfl rfl ?_
      refine LW_goto (tgt := 15) rfl rfl ?_
      refine LW_ireturn (st := []) rfl rfl rfl ?_
      refine LW_ireturn (st := []) rfl rfl rfl ?_
      refine X_if_eq (tgt := 31) rfl rfl rfl (fun q => absurd q (by decide)) (fun _ => ?_)
      refine X_iload_n rfl rfl rfl rfl ?_
      refine X_callS (as := [.int b]) (st := []) rfl rfl rfl (by decide) rfl (Nat.le_of_ble_eq_true rfl) (by decide) (Nat.le_of_ble_eq_true rfl) rfl ?_
      refine LW_ls (ls' := [some (.int b)]) rfl ?_
      refine X_iload_n rfl rfl rfl rfl ?_
      refine X_iconst (v := (1 : Int32)) rfl rfl rfl ?_
      refine X_ldc (v := (67108863 : Int32)) rfl rfl rfl ?_
      refine X_callS (as := [.int b, .int (1 : Int32), .int (67108863 : Int32)]) (st := []) rfl rfl rfl (by decide) rfl (Nat.le_of_ble_eq_true rfl) (by decide) (Nat.le_of_ble_eq_true rfl) rfl ?_
      refine LW_ls (ls' := [some (.int b), some (.int (1 : Int32)), some (.int (67108863 : Int32))]) rfl ?_
      refine X_iload_n rfl rfl rfl rfl ?_
      refine X_iload_n rfl rfl rfl rfl ?_
      refine X_icmp_lt (tgt := 14) rfl rfl rfl (fun h3 => ?_) (fun h3 => ?_)
      · refine X_iconst (v := (0 : Int32)) rfl rfl rfl ?_
        refine LW_ireturn (st := []) rfl rfl rfl ?_
        refine LW_ireturn (st := []) rfl rfl rfl ?_
        refine X_if_eq (tgt := 31) rfl rfl rfl (fun _ => ?_) (fun q => absurd q (by decide))
        refine X_iconst (v := (-1 : Int32)) rfl rfl rfl ?_
        refine LW_ireturn (st := []) rfl rfl rfl (congrArg (fun z => some (Value.int z)) ?_)
        simp only [Int32.lt_iff_toInt_lt, Int32.le_iff_toInt_le, ← Int32.toInt_inj, (show (0 : Int32).toInt = 0 from rfl), (show (1 : Int32).toInt = 1 from rfl), (show (25 : Int32).toInt = 25 from rfl)] at h1 h2 h3
        unfold f_power1
        repeat' split
        all_goals first | rfl | (exfalso; omega) | (refine Int32.toInt_inj.mp ?_; rw [show (0 : Int32).toInt = 0 from rfl]; omega)
      · refine X_iload_n rfl rfl rfl rfl ?_
        refine X_iload_n rfl rfl rfl rfl ?_
        refine X_icmp_gt (tgt := 14) rfl rfl rfl (fun h4 => ?_) (fun h4 => ?_)
        · refine X_iconst (v := (0 : Int32)) rfl rfl rfl ?_
          refine LW_ireturn (st := []) rfl rfl rfl ?_
          refine LW_ireturn (st := []) rfl rfl rfl ?_
          refine X_if_eq (tgt := 31) rfl rfl rfl (fun _ => ?_) (fun q => absurd q (by decide))
          refine X_iconst (v := (-1 : Int32)) rfl rfl rfl ?_
          refine LW_ireturn (st := []) rfl rfl rfl (congrArg (fun z => some (Value.int z)) ?_)
          simp only [Int32.lt_iff_toInt_lt, Int32.le_iff_toInt_le, ← Int32.toInt_inj, (show (0 : Int32).toInt = 0 from rfl), (show (1 : Int32).toInt = 1 from rfl), (show (25 : Int32).toInt = 25 from rfl), (show (67108863 : Int32).toInt = 67108863 from rfl)] at h1 h2 h3 h4
          unfold f_power1
          repeat' split
          all_goals first | rfl | (exfalso; omega) | (refine Int32.toInt_inj.mp ?_; rw [show (0 : Int32).toInt = 0 from rfl]; omega)
        · refine X_iconst (v := (1 : Int32)) rfl rfl rfl ?_
          refine LW_goto (tgt := 15) rfl rfl ?_
          refine LW_ireturn (st := []) rfl rfl rfl ?_
          refine LW_ireturn (st := []) rfl rfl rfl ?_
          refine X_if_eq (tgt := 31) rfl rfl rfl (fun q => absurd q (by decide)) (fun _ => ?_)
          refine X_iload_n rfl rfl rfl rfl ?_
          refine X_iload_n rfl rfl rfl rfl ?_
          refine X_callS (as := [.int b, .int c]) (st := []) rfl rfl rfl (by decide) rfl (Nat.le_of_ble_eq_true rfl) (by decide) (Nat.le_of_ble_eq_true rfl) rfl ?_
          refine LW_ls (ls' := [some (.int b), some (.int c)]) rfl ?_
          refine X_iload_n rfl rfl rfl rfl ?_
          refine X_iload_n rfl rfl rfl rfl ?_
          refine X_ishr (v := (b >>> (c &&& 31))) rfl rfl rfl ?_
          refine X_iconst (v := (1 : Int32)) rfl rfl rfl ?_
          refine X_iand (v := ((b >>> (c &&& 31)) &&& (1 : Int32))) rfl rfl rfl ?_
          refine X_iconst (v := (1 : Int32)) rfl rfl rfl ?_
          refine X_icmp_ne (tgt := 13) rfl rfl rfl (fun h5 => ?_) (fun h5 => ?_)
          · refine X_iconst (v := (0 : Int32)) rfl rfl rfl ?_
            refine LW_ireturn (st := []) rfl rfl rfl ?_
            refine X_if_eq (tgt := 31) rfl rfl rfl (fun _ => ?_) (fun q => absurd q (by decide))
            refine X_iconst (v := (-1 : Int32)) rfl rfl rfl ?_
            refine LW_ireturn (st := []) rfl rfl rfl (congrArg (fun z => some (Value.int z)) ?_)
            simp only [Int32.lt_iff_toInt_lt, Int32.le_iff_toInt_le, ← Int32.toInt_inj, (show (0 : Int32).toInt = 0 from rfl), (show (1 : Int32).toInt = 1 from rfl), (show (25 : Int32).toInt = 25 from rfl), (show (67108863 : Int32).toInt = 67108863 from rfl)] at h1 h2 h3 h4 h5
            unfold f_power1
            repeat' split
            all_goals first | rfl | (exfalso; omega) | (refine Int32.toInt_inj.mp ?_; rw [show (0 : Int32).toInt = 0 from rfl]; omega)
          · refine X_iconst (v := (1 : Int32)) rfl rfl rfl ?_
            refine LW_goto (tgt := 14) rfl rfl ?_
            refine LW_ireturn (st := []) rfl rfl rfl ?_
            refine X_if_eq (tgt := 31) rfl rfl rfl (fun q => absurd q (by decide)) (fun _ => ?_)
            refine X_aload_n rfl rfl rfl rfl ?_
            refine X_iload_n rfl rfl rfl rfl ?_
            refine X_iload_n rfl rfl rfl rfl ?_
            refine X_callV (as := [.int a, .int b]) (st := []) rfl rfl rfl (by decide) rfl (Nat.le_of_ble_eq_true rfl) (by decide) (Nat.le_of_ble_eq_true rfl) rfl ((congrFun F.1 355).trans s_355) (by decide) ?_
            refine LW_ls (ls' := [some (.ref 355), some (.int a), some (.int b), none, none, none]) rfl ?_
            refine X_aload_n rfl rfl rfl rfl ?_
            refine X_iload_n rfl rfl rfl rfl ?_
            refine X_callV (as := [.int a]) (st := []) rfl rfl rfl (by decide) rfl (Nat.le_of_ble_eq_true rfl) (by decide) (Nat.le_of_ble_eq_true rfl) rfl ((congrFun F.1 355).trans s_355) (by decide) ?_
            refine LW_ls (ls' := [some (.ref 355), some (.int a)]) rfl ?_
            refine X_iload_n rfl rfl rfl rfl ?_
            refine X_iconst (v := (0 : Int32)) rfl rfl rfl ?_
            refine X_aload_n rfl rfl rfl rfl ?_
            refine X_getR (a := 356) rfl rfl rfl ((congrFun F.1 355).trans s_355) rfl ((congrFun (F.2.1 355 (by decide)) 0).trans r_355_0) ?_
            refine X_iconst (v := (1 : Int32)) rfl rfl rfl ?_
            refine X_iald (v := (0 : Int32)) rfl rfl ((congrFun F.1 356).trans s_356) (vp_in_d rfl) ((congrFun (F.2.2 356 (by decide)).1 1).trans i_356_1) ?_
            refine X_iconst (v := (1 : Int32)) rfl rfl rfl ?_
            refine X_isub (v := (-1 : Int32)) rfl rfl rfl ?_
            refine X_callS (as := [.int a, .int (0 : Int32), .int (-1 : Int32)]) (st := []) rfl rfl rfl (by decide) rfl (Nat.le_of_ble_eq_true rfl) (by decide) (Nat.le_of_ble_eq_true rfl) rfl ?_
            refine LW_ls (ls' := [some (.int a), some (.int (0 : Int32)), some (.int (-1 : Int32))]) rfl ?_
            refine X_iload_n rfl rfl rfl rfl ?_
            refine X_iload_n rfl rfl rfl rfl ?_
            refine X_icmp_lt (tgt := 14) rfl rfl rfl (fun h6 => ?_) (fun h6 => ?_)
            · refine X_iconst (v := (0 : Int32)) rfl rfl rfl ?_
              refine LW_ireturn (st := []) rfl rfl rfl ?_
              refine LW_ireturn (st := []) rfl rfl rfl ?_
              refine X_if_eq (tgt := 24) rfl rfl rfl (fun _ => ?_) (fun q => absurd q (by decide))
              refine X_iconst (v := (0 : Int32)) rfl rfl rfl ?_
              refine LW_ireturn (st := []) rfl rfl rfl ?_
              refine X_if_ne (tgt := 33) rfl rfl rfl (fun q => absurd q (by decide)) (fun _ => ?_)
              refine X_iconst (v := (-1 : Int32)) rfl rfl rfl ?_
              refine LW_ireturn (st := []) rfl rfl rfl (congrArg (fun z => some (Value.int z)) ?_)
              simp only [Int32.lt_iff_toInt_lt, Int32.le_iff_toInt_le, ← Int32.toInt_inj, (show (0 : Int32).toInt = 0 from rfl), (show (1 : Int32).toInt = 1 from rfl), (show (25 : Int32).toInt = 25 from rfl), (show (67108863 : Int32).toInt = 67108863 from rfl)] at h1 h2 h3 h4 h5 h6
              unfold f_power1
              repeat' split
              all_goals first | rfl | (exfalso; omega) | (refine Int32.toInt_inj.mp ?_; rw [show (0 : Int32).toInt = 0 from rfl]; omega)
            · refine X_iload_n rfl rfl rfl rfl ?_
              refine X_iload_n rfl rfl rfl rfl ?_
              refine X_icmp_gt (tgt := 14) rfl rfl rfl (fun h7 => ?_) (fun h7 => ?_)
              · refine X_iconst (v := (0 : Int32)) rfl rfl rfl ?_
                refine LW_ireturn (st := []) rfl rfl rfl ?_
                refine LW_ireturn (st := []) rfl rfl rfl ?_
                refine X_if_eq (tgt := 24) rfl rfl rfl (fun _ => ?_) (fun q => absurd q (by decide))
                refine X_iconst (v := (0 : Int32)) rfl rfl rfl ?_
                refine LW_ireturn (st := []) rfl rfl rfl ?_
                refine X_if_ne (tgt := 33) rfl rfl rfl (fun q => absurd q (by decide)) (fun _ => ?_)
                refine X_iconst (v := (-1 : Int32)) rfl rfl rfl ?_
                refine LW_ireturn (st := []) rfl rfl rfl (congrArg (fun z => some (Value.int z)) ?_)
                simp only [Int32.lt_iff_toInt_lt, Int32.le_iff_toInt_le, ← Int32.toInt_inj, (show (-1 : Int32).toInt = -1 from rfl), (show (0 : Int32).toInt = 0 from rfl), (show (1 : Int32).toInt = 1 from rfl), (show (25 : Int32).toInt = 25 from rfl), (show (67108863 : Int32).toInt = 67108863 from rfl)] at h1 h2 h3 h4 h5 h6 h7
                unfold f_power1
                repeat' split
                all_goals first | rfl | (exfalso; omega) | (refine Int32.toInt_inj.mp ?_; rw [show (0 : Int32).toInt = 0 from rfl]; omega)
              · exfalso
                simp only [Int32.lt_iff_toInt_lt, Int32.le_iff_toInt_le, ← Int32.toInt_inj, (show (-1 : Int32).toInt = -1 from rfl), (show (0 : Int32).toInt = 0 from rfl), (show (1 : Int32).toInt = 1 from rfl), (show (25 : Int32).toInt = 25 from rfl), (show (67108863 : Int32).toInt = 67108863 from rfl)] at h1 h2 h3 h4 h5 h6 h7
                omega
set_option maxRecDepth 10000 in
set_option maxHeartbeats 4000000 in
theorem c_game0 {g : LH} (F : Fc g) (E : Fr g) (a : Int32) (b : Int32) : LW 155 30 0 0 0 (lEnt (mL 155) [.ref 0, .int a, .int b, .int (0 : Int32)]) [] g (fun v g' => v = some (.int (f_game0 a b)) ∧ Fr g') := by
  refine LW_ls (ls' := [some (.ref 0), some (.int a), some (.int b), some (.int (0 : Int32)), none]) rfl ?_
  refine X_iload_n rfl rfl rfl rfl ?_
  refine X_callS (as := [.int b]) (st := []) rfl rfl rfl (by decide) rfl (Nat.le_of_ble_eq_true rfl) (by decide) (Nat.le_of_ble_eq_true rfl) rfl ?_
  refine LW_ls (ls' := [some (.int b)]) rfl ?_
  refine X_iload_n rfl rfl rfl rfl ?_
  refine X_if_le (tgt := 15) rfl rfl rfl (fun h1 => ?_) (fun h1 => ?_)
  · refine X_iconst (v := (0 : Int32)) rfl rfl rfl ?_
    refine LW_ireturn (st := []) rfl rfl rfl ?_
    refine X_if_eq (tgt := 16) rfl rfl rfl (fun _ => ?_) (fun q => absurd q (by decide))
    refine X_bipush (v := (-2 : Int32)) rfl rfl rfl ?_
    refine LW_ireturn (st := []) rfl rfl rfl ⟨congrArg (fun z => some (Value.int z)) ?_, E⟩
    simp only [Int32.lt_iff_toInt_lt, Int32.le_iff_toInt_le, ← Int32.toInt_inj, (show (0 : Int32).toInt = 0 from rfl)] at h1
    unfold f_game0
    repeat' split
    all_goals first | rfl | (exfalso; omega) | (refine Int32.toInt_inj.mp ?_; rw [show (0 : Int32).toInt = 0 from rfl]; omega)
  · refine X_iload_n rfl rfl rfl rfl ?_
    refine X_ldcw (v := (67108864 : Int32)) rfl rfl rfl ?_
    refine X_icmp_ge (tgt := 15) rfl rfl rfl (fun h2 => ?_) (fun h2 => ?_)
    · refine X_iconst (v := (0 : Int32)) rfl rfl rfl ?_
      refine LW_ireturn (st := []) rfl rfl rfl ?_
      refine X_if_eq (tgt := 16) rfl rfl rfl (fun _ => ?_) (fun q => absurd q (by decide))
      refine X_bipush (v := (-2 : Int32)) rfl rfl rfl ?_
      refine LW_ireturn (st := []) rfl rfl rfl ⟨congrArg (fun z => some (Value.int z)) ?_, E⟩
      simp only [Int32.lt_iff_toInt_lt, Int32.le_iff_toInt_le, ← Int32.toInt_inj, (show (0 : Int32).toInt = 0 from rfl), (show (67108864 : Int32).toInt = 67108864 from rfl)] at h1 h2
      unfold f_game0
      repeat' split
      all_goals first | rfl | (exfalso; omega) | (refine Int32.toInt_inj.mp ?_; rw [show (0 : Int32).toInt = 0 from rfl]; omega)
    · refine X_iconst (v := (1 : Int32)) rfl rfl rfl ?_
      refine LW_goto (tgt := 16) rfl rfl ?_
      refine LW_ireturn (st := []) rfl rfl rfl ?_
      refine X_if_eq (tgt := 16) rfl rfl rfl (fun q => absurd q (by decide)) (fun _ => ?_)
      refine X_iload_n rfl rfl rfl rfl ?_
      refine X_callS (as := [.int b]) (st := []) rfl rfl rfl (by decide) rfl (Nat.le_of_ble_eq_true rfl) (by decide) (Nat.le_of_ble_eq_true rfl) rfl ?_
      refine LW_ls (ls' := [some (.int b)]) rfl ?_
      refine X_iload_n rfl rfl rfl rfl ?_
      refine X_iload_n rfl rfl rfl rfl ?_
      refine X_iconst (v := (1 : Int32)) rfl rfl rfl ?_
      refine X_iushr (v := ((b).toUInt32 >>> (((1 : Int32)).toUInt32 &&& Int32.toUInt32 31)).toInt32) rfl rfl rfl ?_
      refine X_ldcw (v := (1431655765 : Int32)) rfl rfl rfl ?_
      refine X_iand (v := (((b).toUInt32 >>> (((1 : Int32)).toUInt32 &&& Int32.toUInt32 31)).toInt32 &&& (1431655765 : Int32))) rfl rfl rfl ?_
      refine X_isub (v := (b - (((b).toUInt32 >>> (((1 : Int32)).toUInt32 &&& Int32.toUInt32 31)).toInt32 &&& (1431655765 : Int32)))) rfl rfl rfl ?_
      refine X_istore_n (i := 0) (ls' := [some (.int (b - (((b).toUInt32 >>> (((1 : Int32)).toUInt32 &&& Int32.toUInt32 31)).toInt32 &&& (1431655765 : Int32))))]) rfl rfl rfl (Nat.le_of_ble_eq_true rfl) rfl ?_
      refine X_iload_n rfl rfl rfl rfl ?_
      refine X_ldcw (v := (858993459 : Int32)) rfl rfl rfl ?_
      refine X_iand (v := ((b - (((b).toUInt32 >>> (((1 : Int32)).toUInt32 &&& Int32.toUInt32 31)).toInt32 &&& (1431655765 : Int32))) &&& (858993459 : Int32))) rfl rfl rfl ?_
      refine X_iload_n rfl rfl rfl rfl ?_
      refine X_iconst (v := (2 : Int32)) rfl rfl rfl ?_
      refine X_iushr (v := (((b - (((b).toUInt32 >>> (((1 : Int32)).toUInt32 &&& Int32.toUInt32 31)).toInt32 &&& (1431655765 : Int32)))).toUInt32 >>> (((2 : Int32)).toUInt32 &&& Int32.toUInt32 31)).toInt32) rfl rfl rfl ?_
      refine X_ldcw (v := (858993459 : Int32)) rfl rfl rfl ?_
      refine X_iand (v := ((((b - (((b).toUInt32 >>> (((1 : Int32)).toUInt32 &&& Int32.toUInt32 31)).toInt32 &&& (1431655765 : Int32)))).toUInt32 >>> (((2 : Int32)).toUInt32 &&& Int32.toUInt32 31)).toInt32 &&& (858993459 : Int32))) rfl rfl rfl ?_
      refine X_iadd (v := (((b - (((b).toUInt32 >>> (((1 : Int32)).toUInt32 &&& Int32.toUInt32 31)).toInt32 &&& (1431655765 : Int32))) &&& (858993459 : Int32)) + ((((b - (((b).toUInt32 >>> (((1 : Int32)).toUInt32 &&& Int32.toUInt32 31)).toInt32 &&& (1431655765 : Int32)))).toUInt32 >>> (((2 : Int32)).toUInt32 &&& Int32.toUInt32 31)).toInt32 &&& (858993459 : Int32)))) rfl rfl rfl ?_
      refine X_istore_n (i := 0) (ls' := [some (.int (((b - (((b).toUInt32 >>> (((1 : Int32)).toUInt32 &&& Int32.toUInt32 31)).toInt32 &&& (1431655765 : Int32))) &&& (858993459 : Int32)) + ((((b - (((b).toUInt32 >>> (((1 : Int32)).toUInt32 &&& Int32.toUInt32 31)).toInt32 &&& (1431655765 : Int32)))).toUInt32 >>> (((2 : Int32)).toUInt32 &&& Int32.toUInt32 31)).toInt32 &&& (858993459 : Int32))))]) rfl rfl rfl (Nat.le_of_ble_eq_true rfl) rfl ?_
      refine X_iload_n rfl rfl rfl rfl ?_
      refine X_iload_n rfl rfl rfl rfl ?_
      refine X_iconst (v := (4 : Int32)) rfl rfl rfl ?_
      refine X_iushr (v := (((((b - (((b).toUInt32 >>> (((1 : Int32)).toUInt32 &&& Int32.toUInt32 31)).toInt32 &&& (1431655765 : Int32))) &&& (858993459 : Int32)) + ((((b - (((b).toUInt32 >>> (((1 : Int32)).toUInt32 &&& Int32.toUInt32 31)).toInt32 &&& (1431655765 : Int32)))).toUInt32 >>> (((2 : Int32)).toUInt32 &&& Int32.toUInt32 31)).toInt32 &&& (858993459 : Int32)))).toUInt32 >>> (((4 : Int32)).toUInt32 &&& Int32.toUInt32 31)).toInt32) rfl rfl rfl ?_
      refine X_iadd (v := ((((b - (((b).toUInt32 >>> (((1 : Int32)).toUInt32 &&& Int32.toUInt32 31)).toInt32 &&& (1431655765 : Int32))) &&& (858993459 : Int32)) + ((((b - (((b).toUInt32 >>> (((1 : Int32)).toUInt32 &&& Int32.toUInt32 31)).toInt32 &&& (1431655765 : Int32)))).toUInt32 >>> (((2 : Int32)).toUInt32 &&& Int32.toUInt32 31)).toInt32 &&& (858993459 : Int32))) + (((((b - (((b).toUInt32 >>> (((1 : Int32)).toUInt32 &&& Int32.toUInt32 31)).toInt32 &&& (1431655765 : Int32))) &&& (858993459 : Int32)) + ((((b - (((b).toUInt32 >>> (((1 : Int32)).toUInt32 &&& Int32.toUInt32 31)).toInt32 &&& (1431655765 : Int32)))).toUInt32 >>> (((2 : Int32)).toUInt32 &&& Int32.toUInt32 31)).toInt32 &&& (858993459 : Int32)))).toUInt32 >>> (((4 : Int32)).toUInt32 &&& Int32.toUInt32 31)).toInt32)) rfl rfl rfl ?_
      refine X_ldcw (v := (252645135 : Int32)) rfl rfl rfl ?_
      refine X_iand (v := (((((b - (((b).toUInt32 >>> (((1 : Int32)).toUInt32 &&& Int32.toUInt32 31)).toInt32 &&& (1431655765 : Int32))) &&& (858993459 : Int32)) + ((((b - (((b).toUInt32 >>> (((1 : Int32)).toUInt32 &&& Int32.toUInt32 31)).toInt32 &&& (1431655765 : Int32)))).toUInt32 >>> (((2 : Int32)).toUInt32 &&& Int32.toUInt32 31)).toInt32 &&& (858993459 : Int32))) + (((((b - (((b).toUInt32 >>> (((1 : Int32)).toUInt32 &&& Int32.toUInt32 31)).toInt32 &&& (1431655765 : Int32))) &&& (858993459 : Int32)) + ((((b - (((b).toUInt32 >>> (((1 : Int32)).toUInt32 &&& Int32.toUInt32 31)).toInt32 &&& (1431655765 : Int32)))).toUInt32 >>> (((2 : Int32)).toUInt32 &&& Int32.toUInt32 31)).toInt32 &&& (858993459 : Int32)))).toUInt32 >>> (((4 : Int32)).toUInt32 &&& Int32.toUInt32 31)).toInt32) &&& (252645135 : Int32))) rfl rfl rfl ?_
      refine X_istore_n (i := 0) (ls' := [some (.int (((((b - (((b).toUInt32 >>> (((1 : Int32)).toUInt32 &&& Int32.toUInt32 31)).toInt32 &&& (1431655765 : Int32))) &&& (858993459 : Int32)) + ((((b - (((b).toUInt32 >>> (((1 : Int32)).toUInt32 &&& Int32.toUInt32 31)).toInt32 &&& (1431655765 : Int32)))).toUInt32 >>> (((2 : Int32)).toUInt32 &&& Int32.toUInt32 31)).toInt32 &&& (858993459 : Int32))) + (((((b - (((b).toUInt32 >>> (((1 : Int32)).toUInt32 &&& Int32.toUInt32 31)).toInt32 &&& (1431655765 : Int32))) &&& (858993459 : Int32)) + ((((b - (((b).toUInt32 >>> (((1 : Int32)).toUInt32 &&& Int32.toUInt32 31)).toInt32 &&& (1431655765 : Int32)))).toUInt32 >>> (((2 : Int32)).toUInt32 &&& Int32.toUInt32 31)).toInt32 &&& (858993459 : Int32)))).toUInt32 >>> (((4 : Int32)).toUInt32 &&& Int32.toUInt32 31)).toInt32) &&& (252645135 : Int32)))]) rfl rfl rfl (Nat.le_of_ble_eq_true rfl) rfl ?_
      refine X_iload_n rfl rfl rfl rfl ?_
      refine X_iload_n rfl rfl rfl rfl ?_
      refine X_bipush (v := (8 : Int32)) rfl rfl rfl ?_
      refine X_iushr (v := (((((((b - (((b).toUInt32 >>> (((1 : Int32)).toUInt32 &&& Int32.toUInt32 31)).toInt32 &&& (1431655765 : Int32))) &&& (858993459 : Int32)) + ((((b - (((b).toUInt32 >>> (((1 : Int32)).toUInt32 &&& Int32.toUInt32 31)).toInt32 &&& (1431655765 : Int32)))).toUInt32 >>> (((2 : Int32)).toUInt32 &&& Int32.toUInt32 31)).toInt32 &&& (858993459 : Int32))) + (((((b - (((b).toUInt32 >>> (((1 : Int32)).toUInt32 &&& Int32.toUInt32 31)).toInt32 &&& (1431655765 : Int32))) &&& (858993459 : Int32)) + ((((b - (((b).toUInt32 >>> (((1 : Int32)).toUInt32 &&& Int32.toUInt32 31)).toInt32 &&& (1431655765 : Int32)))).toUInt32 >>> (((2 : Int32)).toUInt32 &&& Int32.toUInt32 31)).toInt32 &&& (858993459 : Int32)))).toUInt32 >>> (((4 : Int32)).toUInt32 &&& Int32.toUInt32 31)).toInt32) &&& (252645135 : Int32))).toUInt32 >>> (((8 : Int32)).toUInt32 &&& Int32.toUInt32 31)).toInt32) rfl rfl rfl ?_
      refine X_iadd (v := ((((((b - (((b).toUInt32 >>> (((1 : Int32)).toUInt32 &&& Int32.toUInt32 31)).toInt32 &&& (1431655765 : Int32))) &&& (858993459 : Int32)) + ((((b - (((b).toUInt32 >>> (((1 : Int32)).toUInt32 &&& Int32.toUInt32 31)).toInt32 &&& (1431655765 : Int32)))).toUInt32 >>> (((2 : Int32)).toUInt32 &&& Int32.toUInt32 31)).toInt32 &&& (858993459 : Int32))) + (((((b - (((b).toUInt32 >>> (((1 : Int32)).toUInt32 &&& Int32.toUInt32 31)).toInt32 &&& (1431655765 : Int32))) &&& (858993459 : Int32)) + ((((b - (((b).toUInt32 >>> (((1 : Int32)).toUInt32 &&& Int32.toUInt32 31)).toInt32 &&& (1431655765 : Int32)))).toUInt32 >>> (((2 : Int32)).toUInt32 &&& Int32.toUInt32 31)).toInt32 &&& (858993459 : Int32)))).toUInt32 >>> (((4 : Int32)).toUInt32 &&& Int32.toUInt32 31)).toInt32) &&& (252645135 : Int32)) + (((((((b - (((b).toUInt32 >>> (((1 : Int32)).toUInt32 &&& Int32.toUInt32 31)).toInt32 &&& (1431655765 : Int32))) &&& (858993459 : Int32)) + ((((b - (((b).toUInt32 >>> (((1 : Int32)).toUInt32 &&& Int32.toUInt32 31)).toInt32 &&& (1431655765 : Int32)))).toUInt32 >>> (((2 : Int32)).toUInt32 &&& Int32.toUInt32 31)).toInt32 &&& (858993459 : Int32))) + (((((b - (((b).toUInt32 >>> (((1 : Int32)).toUInt32 &&& Int32.toUInt32 31)).toInt32 &&& (1431655765 : Int32))) &&& (858993459 : Int32)) + ((((b - (((b).toUInt32 >>> (((1 : Int32)).toUInt32 &&& Int32.toUInt32 31)).toInt32 &&& (1431655765 : Int32)))).toUInt32 >>> (((2 : Int32)).toUInt32 &&& Int32.toUInt32 31)).toInt32 &&& (858993459 : Int32)))).toUInt32 >>> (((4 : Int32)).toUInt32 &&& Int32.toUInt32 31)).toInt32) &&& (252645135 : Int32))).toUInt32 >>> (((8 : Int32)).toUInt32 &&& Int32.toUInt32 31)).toInt32)) rfl rfl rfl ?_
      refine X_istore_n (i := 0) (ls' := [some (.int ((((((b - (((b).toUInt32 >>> (((1 : Int32)).toUInt32 &&& Int32.toUInt32 31)).toInt32 &&& (1431655765 : Int32))) &&& (858993459 : Int32)) + ((((b - (((b).toUInt32 >>> (((1 : Int32)).toUInt32 &&& Int32.toUInt32 31)).toInt32 &&& (1431655765 : Int32)))).toUInt32 >>> (((2 : Int32)).toUInt32 &&& Int32.toUInt32 31)).toInt32 &&& (858993459 : Int32))) + (((((b - (((b).toUInt32 >>> (((1 : Int32)).toUInt32 &&& Int32.toUInt32 31)).toInt32 &&& (1431655765 : Int32))) &&& (858993459 : Int32)) + ((((b - (((b).toUInt32 >>> (((1 : Int32)).toUInt32 &&& Int32.toUInt32 31)).toInt32 &&& (1431655765 : Int32)))).toUInt32 >>> (((2 : Int32)).toUInt32 &&& Int32.toUInt32 31)).toInt32 &&& (858993459 : Int32)))).toUInt32 >>> (((4 : Int32)).toUInt32 &&& Int32.toUInt32 31)).toInt32) &&& (252645135 : Int32)) + (((((((b - (((b).toUInt32 >>> (((1 : Int32)).toUInt32 &&& Int32.toUInt32 31)).toInt32 &&& (1431655765 : Int32))) &&& (858993459 : Int32)) + ((((b - (((b).toUInt32 >>> (((1 : Int32)).toUInt32 &&& Int32.toUInt32 31)).toInt32 &&& (1431655765 : Int32)))).toUInt32 >>> (((2 : Int32)).toUInt32 &&& Int32.toUInt32 31)).toInt32 &&& (858993459 : Int32))) + (((((b - (((b).toUInt32 >>> (((1 : Int32)).toUInt32 &&& Int32.toUInt32 31)).toInt32 &&& (1431655765 : Int32))) &&& (858993459 : Int32)) + ((((b - (((b).toUInt32 >>> (((1 : Int32)).toUInt32 &&& Int32.toUInt32 31)).toInt32 &&& (1431655765 : Int32)))).toUInt32 >>> (((2 : Int32)).toUInt32 &&& Int32.toUInt32 31)).toInt32 &&& (858993459 : Int32)))).toUInt32 >>> (((4 : Int32)).toUInt32 &&& Int32.toUInt32 31)).toInt32) &&& (252645135 : Int32))).toUInt32 >>> (((8 : Int32)).toUInt32 &&& Int32.toUInt32 31)).toInt32))]) rfl rfl rfl (Nat.le_of_ble_eq_true rfl) rfl ?_
      refine X_iload_n rfl rfl rfl rfl ?_
      refine X_iload_n rfl rfl rfl rfl ?_
      refine X_bipush (v := (16 : Int32)) rfl rfl rfl ?_
      refine X_iushr (v := ((((((((b - (((b).toUInt32 >>> (((1 : Int32)).toUInt32 &&& Int32.toUInt32 31)).toInt32 &&& (1431655765 : Int32))) &&& (858993459 : Int32)) + ((((b - (((b).toUInt32 >>> (((1 : Int32)).toUInt32 &&& Int32.toUInt32 31)).toInt32 &&& (1431655765 : Int32)))).toUInt32 >>> (((2 : Int32)).toUInt32 &&& Int32.toUInt32 31)).toInt32 &&& (858993459 : Int32))) + (((((b - (((b).toUInt32 >>> (((1 : Int32)).toUInt32 &&& Int32.toUInt32 31)).toInt32 &&& (1431655765 : Int32))) &&& (858993459 : Int32)) + ((((b - (((b).toUInt32 >>> (((1 : Int32)).toUInt32 &&& Int32.toUInt32 31)).toInt32 &&& (1431655765 : Int32)))).toUInt32 >>> (((2 : Int32)).toUInt32 &&& Int32.toUInt32 31)).toInt32 &&& (858993459 : Int32)))).toUInt32 >>> (((4 : Int32)).toUInt32 &&& Int32.toUInt32 31)).toInt32) &&& (252645135 : Int32)) + (((((((b - (((b).toUInt32 >>> (((1 : Int32)).toUInt32 &&& Int32.toUInt32 31)).toInt32 &&& (1431655765 : Int32))) &&& (858993459 : Int32)) + ((((b - (((b).toUInt32 >>> (((1 : Int32)).toUInt32 &&& Int32.toUInt32 31)).toInt32 &&& (1431655765 : Int32)))).toUInt32 >>> (((2 : Int32)).toUInt32 &&& Int32.toUInt32 31)).toInt32 &&& (858993459 : Int32))) + (((((b - (((b).toUInt32 >>> (((1 : Int32)).toUInt32 &&& Int32.toUInt32 31)).toInt32 &&& (1431655765 : Int32))) &&& (858993459 : Int32)) + ((((b - (((b).toUInt32 >>> (((1 : Int32)).toUInt32 &&& Int32.toUInt32 31)).toInt32 &&& (1431655765 : Int32)))).toUInt32 >>> (((2 : Int32)).toUInt32 &&& Int32.toUInt32 31)).toInt32 &&& (858993459 : Int32)))).toUInt32 >>> (((4 : Int32)).toUInt32 &&& Int32.toUInt32 31)).toInt32) &&& (252645135 : Int32))).toUInt32 >>> (((8 : Int32)).toUInt32 &&& Int32.toUInt32 31)).toInt32)).toUInt32 >>> (((16 : Int32)).toUInt32 &&& Int32.toUInt32 31)).toInt32) rfl rfl rfl ?_
      refine X_iadd (v := (((((((b - (((b).toUInt32 >>> (((1 : Int32)).toUInt32 &&& Int32.toUInt32 31)).toInt32 &&& (1431655765 : Int32))) &&& (858993459 : Int32)) + ((((b - (((b).toUInt32 >>> (((1 : Int32)).toUInt32 &&& Int32.toUInt32 31)).toInt32 &&& (1431655765 : Int32)))).toUInt32 >>> (((2 : Int32)).toUInt32 &&& Int32.toUInt32 31)).toInt32 &&& (858993459 : Int32))) + (((((b - (((b).toUInt32 >>> (((1 : Int32)).toUInt32 &&& Int32.toUInt32 31)).toInt32 &&& (1431655765 : Int32))) &&& (858993459 : Int32)) + ((((b - (((b).toUInt32 >>> (((1 : Int32)).toUInt32 &&& Int32.toUInt32 31)).toInt32 &&& (1431655765 : Int32)))).toUInt32 >>> (((2 : Int32)).toUInt32 &&& Int32.toUInt32 31)).toInt32 &&& (858993459 : Int32)))).toUInt32 >>> (((4 : Int32)).toUInt32 &&& Int32.toUInt32 31)).toInt32) &&& (252645135 : Int32)) + (((((((b - (((b).toUInt32 >>> (((1 : Int32)).toUInt32 &&& Int32.toUInt32 31)).toInt32 &&& (1431655765 : Int32))) &&& (858993459 : Int32)) + ((((b - (((b).toUInt32 >>> (((1 : Int32)).toUInt32 &&& Int32.toUInt32 31)).toInt32 &&& (1431655765 : Int32)))).toUInt32 >>> (((2 : Int32)).toUInt32 &&& Int32.toUInt32 31)).toInt32 &&& (858993459 : Int32))) + (((((b - (((b).toUInt32 >>> (((1 : Int32)).toUInt32 &&& Int32.toUInt32 31)).toInt32 &&& (1431655765 : Int32))) &&& (858993459 : Int32)) + ((((b - (((b).toUInt32 >>> (((1 : Int32)).toUInt32 &&& Int32.toUInt32 31)).toInt32 &&& (1431655765 : Int32)))).toUInt32 >>> (((2 : Int32)).toUInt32 &&& Int32.toUInt32 31)).toInt32 &&& (858993459 : Int32)))).toUInt32 >>> (((4 : Int32)).toUInt32 &&& Int32.toUInt32 31)).toInt32) &&& (252645135 : Int32))).toUInt32 >>> (((8 : Int32)).toUInt32 &&& Int32.toUInt32 31)).toInt32) + ((((((((b - (((b).toUInt32 >>> (((1 : Int32)).toUInt32 &&& Int32.toUInt32 31)).toInt32 &&& (1431655765 : Int32))) &&& (858993459 : Int32)) + ((((b - (((b).toUInt32 >>> (((1 : Int32)).toUInt32 &&& Int32.toUInt32 31)).toInt32 &&& (1431655765 : Int32)))).toUInt32 >>> (((2 : Int32)).toUInt32 &&& Int32.toUInt32 31)).toInt32 &&& (858993459 : Int32))) + (((((b - (((b).toUInt32 >>> (((1 : Int32)).toUInt32 &&& Int32.toUInt32 31)).toInt32 &&& (1431655765 : Int32))) &&& (858993459 : Int32)) + ((((b - (((b).toUInt32 >>> (((1 : Int32)).toUInt32 &&& Int32.toUInt32 31)).toInt32 &&& (1431655765 : Int32)))).toUInt32 >>> (((2 : Int32)).toUInt32 &&& Int32.toUInt32 31)).toInt32 &&& (858993459 : Int32)))).toUInt32 >>> (((4 : Int32)).toUInt32 &&& Int32.toUInt32 31)).toInt32) &&& (252645135 : Int32)) + (((((((b - (((b).toUInt32 >>> (((1 : Int32)).toUInt32 &&& Int32.toUInt32 31)).toInt32 &&& (1431655765 : Int32))) &&& (858993459 : Int32)) + ((((b - (((b).toUInt32 >>> (((1 : Int32)).toUInt32 &&& Int32.toUInt32 31)).toInt32 &&& (1431655765 : Int32)))).toUInt32 >>> (((2 : Int32)).toUInt32 &&& Int32.toUInt32 31)).toInt32 &&& (858993459 : Int32))) + (((((b - (((b).toUInt32 >>> (((1 : Int32)).toUInt32 &&& Int32.toUInt32 31)).toInt32 &&& (1431655765 : Int32))) &&& (858993459 : Int32)) + ((((b - (((b).toUInt32 >>> (((1 : Int32)).toUInt32 &&& Int32.toUInt32 31)).toInt32 &&& (1431655765 : Int32)))).toUInt32 >>> (((2 : Int32)).toUInt32 &&& Int32.toUInt32 31)).toInt32 &&& (858993459 : Int32)))).toUInt32 >>> (((4 : Int32)).toUInt32 &&& Int32.toUInt32 31)).toInt32) &&& (252645135 : Int32))).toUInt32 >>> (((8 : Int32)).toUInt32 &&& Int32.toUInt32 31)).toInt32)).toUInt32 >>> (((16 : Int32)).toUInt32 &&& Int32.toUInt32 31)).toInt32)) rfl rfl rfl ?_
      refine X_istore_n (i := 0) (ls' := [some (.int (((((((b - (((b).toUInt32 >>> (((1 : Int32)).toUInt32 &&& Int32.toUInt32 31)).toInt32 &&& (1431655765 : Int32))) &&& (858993459 : Int32)) + ((((b - (((b).toUInt32 >>> (((1 : Int32)).toUInt32 &&& Int32.toUInt32 31)).toInt32 &&& (1431655765 : Int32)))).toUInt32 >>> (((2 : Int32)).toUInt32 &&& Int32.toUInt32 31)).toInt32 &&& (858993459 : Int32))) + (((((b - (((b).toUInt32 >>> (((1 : Int32)).toUInt32 &&& Int32.toUInt32 31)).toInt32 &&& (1431655765 : Int32))) &&& (858993459 : Int32)) + ((((b - (((b).toUInt32 >>> (((1 : Int32)).toUInt32 &&& Int32.toUInt32 31)).toInt32 &&& (1431655765 : Int32)))).toUInt32 >>> (((2 : Int32)).toUInt32 &&& Int32.toUInt32 31)).toInt32 &&& (858993459 : Int32)))).toUInt32 >>> (((4 : Int32)).toUInt32 &&& Int32.toUInt32 31)).toInt32) &&& (252645135 : Int32)) + (((((((b - (((b).toUInt32 >>> (((1 : Int32)).toUInt32 &&& Int32.toUInt32 31)).toInt32 &&& (1431655765 : Int32))) &&& (858993459 : Int32)) + ((((b - (((b).toUInt32 >>> (((1 : Int32)).toUInt32 &&& Int32.toUInt32 31)).toInt32 &&& (1431655765 : Int32)))).toUInt32 >>> (((2 : Int32)).toUInt32 &&& Int32.toUInt32 31)).toInt32 &&& (858993459 : Int32))) + (((((b - (((b).toUInt32 >>> (((1 : Int32)).toUInt32 &&& Int32.toUInt32 31)).toInt32 &&& (1431655765 : Int32))) &&& (858993459 : Int32)) + ((((b - (((b).toUInt32 >>> (((1 : Int32)).toUInt32 &&& Int32.toUInt32 31)).toInt32 &&& (1431655765 : Int32)))).toUInt32 >>> (((2 : Int32)).toUInt32 &&& Int32.toUInt32 31)).toInt32 &&& (858993459 : Int32)))).toUInt32 >>> (((4 : Int32)).toUInt32 &&& Int32.toUInt32 31)).toInt32) &&& (252645135 : Int32))).toUInt32 >>> (((8 : Int32)).toUInt32 &&& Int32.toUInt32 31)).toInt32) + ((((((((b - (((b).toUInt32 >>> (((1 : Int32)).toUInt32 &&& Int32.toUInt32 31)).toInt32 &&& (1431655765 : Int32))) &&& (858993459 : Int32)) + ((((b - (((b).toUInt32 >>> (((1 : Int32)).toUInt32 &&& Int32.toUInt32 31)).toInt32 &&& (1431655765 : Int32)))).toUInt32 >>> (((2 : Int32)).toUInt32 &&& Int32.toUInt32 31)).toInt32 &&& (858993459 : Int32))) + (((((b - (((b).toUInt32 >>> (((1 : Int32)).toUInt32 &&& Int32.toUInt32 31)).toInt32 &&& (1431655765 : Int32))) &&& (858993459 : Int32)) + ((((b - (((b).toUInt32 >>> (((1 : Int32)).toUInt32 &&& Int32.toUInt32 31)).toInt32 &&& (1431655765 : Int32)))).toUInt32 >>> (((2 : Int32)).toUInt32 &&& Int32.toUInt32 31)).toInt32 &&& (858993459 : Int32)))).toUInt32 >>> (((4 : Int32)).toUInt32 &&& Int32.toUInt32 31)).toInt32) &&& (252645135 : Int32)) + (((((((b - (((b).toUInt32 >>> (((1 : Int32)).toUInt32 &&& Int32.toUInt32 31)).toInt32 &&& (1431655765 : Int32))) &&& (858993459 : Int32)) + ((((b - (((b).toUInt32 >>> (((1 : Int32)).toUInt32 &&& Int32.toUInt32 31)).toInt32 &&& (1431655765 : Int32)))).toUInt32 >>> (((2 : Int32)).toUInt32 &&& Int32.toUInt32 31)).toInt32 &&& (858993459 : Int32))) + (((((b - (((b).toUInt32 >>> (((1 : Int32)).toUInt32 &&& Int32.toUInt32 31)).toInt32 &&& (1431655765 : Int32))) &&& (858993459 : Int32)) + ((((b - (((b).toUInt32 >>> (((1 : Int32)).toUInt32 &&& Int32.toUInt32 31)).toInt32 &&& (1431655765 : Int32)))).toUInt32 >>> (((2 : Int32)).toUInt32 &&& Int32.toUInt32 31)).toInt32 &&& (858993459 : Int32)))).toUInt32 >>> (((4 : Int32)).toUInt32 &&& Int32.toUInt32 31)).toInt32) &&& (252645135 : Int32))).toUInt32 >>> (((8 : Int32)).toUInt32 &&& Int32.toUInt32 31)).toInt32)).toUInt32 >>> (((16 : Int32)).toUInt32 &&& Int32.toUInt32 31)).toInt32))]) rfl rfl rfl (Nat.le_of_ble_eq_true rfl) rfl ?_
      refine X_iload_n rfl rfl rfl rfl ?_
      refine X_bipush (v := (63 : Int32)) rfl rfl rfl ?_
      refine X_iand (v := ((((((((b - (((b).toUInt32 >>> (((1 : Int32)).toUInt32 &&& Int32.toUInt32 31)).toInt32 &&& (1431655765 : Int32))) &&& (858993459 : Int32)) + ((((b - (((b).toUInt32 >>> (((1 : Int32)).toUInt32 &&& Int32.toUInt32 31)).toInt32 &&& (1431655765 : Int32)))).toUInt32 >>> (((2 : Int32)).toUInt32 &&& Int32.toUInt32 31)).toInt32 &&& (858993459 : Int32))) + (((((b - (((b).toUInt32 >>> (((1 : Int32)).toUInt32 &&& Int32.toUInt32 31)).toInt32 &&& (1431655765 : Int32))) &&& (858993459 : Int32)) + ((((b - (((b).toUInt32 >>> (((1 : Int32)).toUInt32 &&& Int32.toUInt32 31)).toInt32 &&& (1431655765 : Int32)))).toUInt32 >>> (((2 : Int32)).toUInt32 &&& Int32.toUInt32 31)).toInt32 &&& (858993459 : Int32)))).toUInt32 >>> (((4 : Int32)).toUInt32 &&& Int32.toUInt32 31)).toInt32) &&& (252645135 : Int32)) + (((((((b - (((b).toUInt32 >>> (((1 : Int32)).toUInt32 &&& Int32.toUInt32 31)).toInt32 &&& (1431655765 : Int32))) &&& (858993459 : Int32)) + ((((b - (((b).toUInt32 >>> (((1 : Int32)).toUInt32 &&& Int32.toUInt32 31)).toInt32 &&& (1431655765 : Int32)))).toUInt32 >>> (((2 : Int32)).toUInt32 &&& Int32.toUInt32 31)).toInt32 &&& (858993459 : Int32))) + (((((b - (((b).toUInt32 >>> (((1 : Int32)).toUInt32 &&& Int32.toUInt32 31)).toInt32 &&& (1431655765 : Int32))) &&& (858993459 : Int32)) + ((((b - (((b).toUInt32 >>> (((1 : Int32)).toUInt32 &&& Int32.toUInt32 31)).toInt32 &&& (1431655765 : Int32)))).toUInt32 >>> (((2 : Int32)).toUInt32 &&& Int32.toUInt32 31)).toInt32 &&& (858993459 : Int32)))).toUInt32 >>> (((4 : Int32)).toUInt32 &&& Int32.toUInt32 31)).toInt32) &&& (252645135 : Int32))).toUInt32 >>> (((8 : Int32)).toUInt32 &&& Int32.toUInt32 31)).toInt32) + ((((((((b - (((b).toUInt32 >>> (((1 : Int32)).toUInt32 &&& Int32.toUInt32 31)).toInt32 &&& (1431655765 : Int32))) &&& (858993459 : Int32)) + ((((b - (((b).toUInt32 >>> (((1 : Int32)).toUInt32 &&& Int32.toUInt32 31)).toInt32 &&& (1431655765 : Int32)))).toUInt32 >>> (((2 : Int32)).toUInt32 &&& Int32.toUInt32 31)).toInt32 &&& (858993459 : Int32))) + (((((b - (((b).toUInt32 >>> (((1 : Int32)).toUInt32 &&& Int32.toUInt32 31)).toInt32 &&& (1431655765 : Int32))) &&& (858993459 : Int32)) + ((((b - (((b).toUInt32 >>> (((1 : Int32)).toUInt32 &&& Int32.toUInt32 31)).toInt32 &&& (1431655765 : Int32)))).toUInt32 >>> (((2 : Int32)).toUInt32 &&& Int32.toUInt32 31)).toInt32 &&& (858993459 : Int32)))).toUInt32 >>> (((4 : Int32)).toUInt32 &&& Int32.toUInt32 31)).toInt32) &&& (252645135 : Int32)) + (((((((b - (((b).toUInt32 >>> (((1 : Int32)).toUInt32 &&& Int32.toUInt32 31)).toInt32 &&& (1431655765 : Int32))) &&& (858993459 : Int32)) + ((((b - (((b).toUInt32 >>> (((1 : Int32)).toUInt32 &&& Int32.toUInt32 31)).toInt32 &&& (1431655765 : Int32)))).toUInt32 >>> (((2 : Int32)).toUInt32 &&& Int32.toUInt32 31)).toInt32 &&& (858993459 : Int32))) + (((((b - (((b).toUInt32 >>> (((1 : Int32)).toUInt32 &&& Int32.toUInt32 31)).toInt32 &&& (1431655765 : Int32))) &&& (858993459 : Int32)) + ((((b - (((b).toUInt32 >>> (((1 : Int32)).toUInt32 &&& Int32.toUInt32 31)).toInt32 &&& (1431655765 : Int32)))).toUInt32 >>> (((2 : Int32)).toUInt32 &&& Int32.toUInt32 31)).toInt32 &&& (858993459 : Int32)))).toUInt32 >>> (((4 : Int32)).toUInt32 &&& Int32.toUInt32 31)).toInt32) &&& (252645135 : Int32))).toUInt32 >>> (((8 : Int32)).toUInt32 &&& Int32.toUInt32 31)).toInt32)).toUInt32 >>> (((16 : Int32)).toUInt32 &&& Int32.toUInt32 31)).toInt32) &&& (63 : Int32))) rfl rfl rfl ?_
      refine LW_ireturn (st := []) rfl rfl rfl ?_
      refine X_bipush (v := (10 : Int32)) rfl rfl rfl ?_
      refine X_icmp_le (tgt := 19) rfl rfl rfl (fun h3 => ?_) (fun h3 => ?_)
      · refine X_aload_n rfl rfl rfl rfl ?_
        refine X_getR (a := 1) rfl rfl rfl ((congrFun F.1 0).trans s_0) rfl ((congrFun (F.2.1 0 (by decide)) 0).trans r_0_0) ?_
        refine X_getR (a := 2) rfl rfl rfl ((congrFun F.1 1).trans s_1) rfl ((congrFun (F.2.1 1 (by decide)) 0).trans r_1_0) ?_
        refine X_iload_n rfl rfl rfl rfl ?_
        refine X_iconst (v := (0 : Int32)) rfl rfl rfl ?_
        refine X_callV (as := [.int a, .int (0 : Int32)]) (st := []) rfl rfl rfl (by decide) rfl (Nat.le_of_ble_eq_true rfl) (by decide) (Nat.le_of_ble_eq_true rfl) rfl ((congrFun F.1 2).trans s_2) (by decide) ?_
        refine LW_ls (ls' := [some (.ref 2), some (.int a), some (.int (0 : Int32))]) rfl ?_
        refine X_aload_n rfl rfl rfl rfl ?_
        refine X_iload_n rfl rfl rfl rfl ?_
        refine X_callV (as := [.int a]) (st := []) rfl rfl rfl (by decide) rfl (Nat.le_of_ble_eq_true rfl) (by decide) (Nat.le_of_ble_eq_true rfl) rfl ((congrFun F.1 2).trans s_2) (by decide) ?_
        refine LW_ls (ls' := [some (.ref 2), some (.int a)]) rfl ?_
        refine X_iload_n rfl rfl rfl rfl ?_
        refine X_if_lt (tgt := 22) rfl rfl rfl (fun h4 => ?_) (fun h4 => ?_)
        · refine X_iconst (v := (0 : Int32)) rfl rfl rfl ?_
          refine LW_ireturn (st := []) rfl rfl rfl ?_
          refine X_if_eq (tgt := 29) rfl rfl rfl (fun _ => ?_) (fun q => absurd q (by decide))
          refine X_iconst (v := (0 : Int32)) rfl rfl rfl ?_
          refine LW_ireturn (st := []) rfl rfl rfl ?_
          refine X_if_ne (tgt := 37) rfl rfl rfl (fun q => absurd q (by decide)) (fun _ => ?_)
          refine X_bipush (v := (-2 : Int32)) rfl rfl rfl ?_
          refine LW_ireturn (st := []) rfl rfl rfl ⟨congrArg (fun z => some (Value.int z)) ?_, E⟩
          simp only [Int32.lt_iff_toInt_lt, Int32.le_iff_toInt_le, ← Int32.toInt_inj, (show (0 : Int32).toInt = 0 from rfl), (show (10 : Int32).toInt = 10 from rfl), (show (67108864 : Int32).toInt = 67108864 from rfl)] at h1 h2 h3 h4
          unfold f_game0
          repeat' split
          all_goals first | rfl | (exfalso; omega) | (refine Int32.toInt_inj.mp ?_; rw [show (0 : Int32).toInt = 0 from rfl]; omega)
        · refine X_iload_n rfl rfl rfl rfl ?_
          refine X_aload_n rfl rfl rfl rfl ?_
          refine X_getI (v := (0 : Int32)) rfl rfl rfl ((congrFun F.1 2).trans s_2) rfl ((congrFun (F.2.2 2 (by decide)).1 1).trans i_2_1) ?_
          refine X_icmp_ge (tgt := 22) rfl rfl rfl (fun h5 => ?_) (fun h5 => ?_)
          · refine X_iconst (v := (0 : Int32)) rfl rfl rfl ?_
            refine LW_ireturn (st := []) rfl rfl rfl ?_
            refine X_if_eq (tgt := 29) rfl rfl rfl (fun _ => ?_) (fun q => absurd q (by decide))
            refine X_iconst (v := (0 : Int32)) rfl rfl rfl ?_
            refine LW_ireturn (st := []) rfl rfl rfl ?_
            refine X_if_ne (tgt := 37) rfl rfl rfl (fun q => absurd q (by decide)) (fun _ => ?_)
            refine X_bipush (v := (-2 : Int32)) rfl rfl rfl ?_
            refine LW_ireturn (st := []) rfl rfl rfl ⟨congrArg (fun z => some (Value.int z)) ?_, E⟩
            simp only [Int32.lt_iff_toInt_lt, Int32.le_iff_toInt_le, ← Int32.toInt_inj, (show (0 : Int32).toInt = 0 from rfl), (show (10 : Int32).toInt = 10 from rfl), (show (67108864 : Int32).toInt = 67108864 from rfl)] at h1 h2 h3 h4 h5
            unfold f_game0
            repeat' split
            all_goals first | rfl | (exfalso; omega) | (refine Int32.toInt_inj.mp ?_; rw [show (0 : Int32).toInt = 0 from rfl]; omega)
          · exfalso
            simp only [Int32.lt_iff_toInt_lt, Int32.le_iff_toInt_le, ← Int32.toInt_inj, (show (0 : Int32).toInt = 0 from rfl), (show (10 : Int32).toInt = 10 from rfl), (show (67108864 : Int32).toInt = 67108864 from rfl)] at h1 h2 h3 h4 h5
            omega
      · refine X_bipush (v := (-2 : Int32)) rfl rfl rfl ?_
        refine LW_ireturn (st := []) rfl rfl rfl ⟨congrArg (fun z => some (Value.int z)) ?_, E⟩
        simp only [Int32.lt_iff_toInt_lt, Int32.le_iff_toInt_le, ← Int32.toInt_inj, (show (0 : Int32).toInt = 0 from rfl), (show (10 : Int32).toInt = 10 from rfl), (show (67108864 : Int32).toInt = 67108864 from rfl)] at h1 h2 h3
        unfold f_game0
        repeat' split
        all_goals first | rfl | (exfalso; omega) | (refine Int32.toInt_inj.mp ?_; rw [show (0 : Int32).toInt = 0 from rfl]; omega)
set_option maxRecDepth 10000 in
set_option maxHeartbeats 4000000 in
theorem r_game0 {g : LH} (F : Fr g) (a : Int32) (b : Int32) : LW 295 30 0 0 0 (lEnt (mL 295) [.ref 355, .int a, .int b, .int (0 : Int32)]) [] g (fun v _ => v = some (.int (f_game0 a b))) := by
  refine LW_ls (ls' := [some (.ref 355), some (.int a), some (.int b), some (.int (0 : Int32)), none, none, none]) rfl ?_
  refine X_aload_n rfl rfl rfl rfl ?_
  refine X_iload_n rfl rfl rfl rfl ?_
  refine X_iload_n rfl rfl rfl rfl ?_
  refine X_callV (as := [.int a, .int b]) (st := []) rfl rfl rfl (by decide) rfl (Nat.le_of_ble_eq_true rfl) (by decide) (Nat.le_of_ble_eq_true rfl) rfl ((congrFun F.1 355).trans s_355) (by decide) ?_
  refine LW_ls (ls' := [some (.ref 355), some (.int a), some (.int b), none, none, none]) rfl ?_
  refine X_aload_n rfl rfl rfl rfl ?_
  refine X_iload_n rfl rfl rfl rfl ?_
  refine X_callV (as := [.int a]) (st := []) rfl rfl rfl (by decide) rfl (Nat.le_of_ble_eq_true rfl) (by decide) (Nat.le_of_ble_eq_true rfl) rfl ((congrFun F.1 355).trans s_355) (by decide) ?_
  refine LW_ls (ls' := [some (.ref 355), some (.int a)]) rfl ?_
  refine X_iload_n rfl rfl rfl rfl ?_
  refine X_iconst (v := (0 : Int32)) rfl rfl rfl ?_
  refine X_aload_n rfl rfl rfl rfl ?_
  refine X_getR (a := 356) rfl rfl rfl ((congrFun F.1 355).trans s_355) rfl ((congrFun (F.2.1 355 (by decide)) 0).trans r_355_0) ?_
  refine X_iconst (v := (1 : Int32)) rfl rfl rfl ?_
  refine X_iald (v := (0 : Int32)) rfl rfl ((congrFun F.1 356).trans s_356) (vp_in_d rfl) ((congrFun (F.2.2 356 (by decide)).1 1).trans i_356_1) ?_
  refine X_iconst (v := (1 : Int32)) rfl rfl rfl ?_
  refine X_isub (v := (-1 : Int32)) rfl rfl rfl ?_
  refine X_callS (as := [.int a, .int (0 : Int32), .int (-1 : Int32)]) (st := []) rfl rfl rfl (by decide) rfl (Nat.le_of_ble_eq_true rfl) (by decide) (Nat.le_of_ble_eq_true rfl) rfl ?_
  refine LW_ls (ls' := [some (.int a), some (.int (0 : Int32)), some (.int (-1 : Int32))]) rfl ?_
  refine X_iload_n rfl rfl rfl rfl ?_
  refine X_iload_n rfl rfl rfl rfl ?_
  refine X_icmp_lt (tgt := 14) rfl rfl rfl (fun h1 => ?_) (fun h1 => ?_)
  · refine X_iconst (v := (0 : Int32)) rfl rfl rfl ?_
    refine LW_ireturn (st := []) rfl rfl rfl ?_
    refine LW_ireturn (st := []) rfl rfl rfl ?_
    refine X_if_eq (tgt := 24) rfl rfl rfl (fun _ => ?_) (fun q => absurd q (by decide))
    refine X_iconst (v := (0 : Int32)) rfl rfl rfl ?_
    refine LW_ireturn (st := []) rfl rfl rfl ?_
    refine X_if_eq (tgt := 18) rfl rfl rfl (fun _ => ?_) (fun q => absurd q (by decide))
    refine X_bipush (v := (-2 : Int32)) rfl rfl rfl ?_
    refine LW_ireturn (st := []) rfl rfl rfl (congrArg (fun z => some (Value.int z)) ?_)
    simp only [Int32.lt_iff_toInt_lt, Int32.le_iff_toInt_le, ← Int32.toInt_inj, (show (0 : Int32).toInt = 0 from rfl)] at h1
    unfold f_game0
    repeat' split
    all_goals first | rfl | (exfalso; omega) | (refine Int32.toInt_inj.mp ?_; rw [show (0 : Int32).toInt = 0 from rfl]; omega)
  · refine X_iload_n rfl rfl rfl rfl ?_
    refine X_iload_n rfl rfl rfl rfl ?_
    refine X_icmp_gt (tgt := 14) rfl rfl rfl (fun h2 => ?_) (fun h2 => ?_)
    · refine X_iconst (v := (0 : Int32)) rfl rfl rfl ?_
      refine LW_ireturn (st := []) rfl rfl rfl ?_
      refine LW_ireturn (st := []) rfl rfl rfl ?_
      refine X_if_eq (tgt := 24) rfl rfl rfl (fun _ => ?_) (fun q => absurd q (by decide))
      refine X_iconst (v := (0 : Int32)) rfl rfl rfl ?_
      refine LW_ireturn (st := []) rfl rfl rfl ?_
      refine X_if_eq (tgt := 18) rfl rfl rfl (fun _ => ?_) (fun q => absurd q (by decide))
      refine X_bipush (v := (-2 : Int32)) rfl rfl rfl ?_
      refine LW_ireturn (st := []) rfl rfl rfl (congrArg (fun z => some (Value.int z)) ?_)
      simp only [Int32.lt_iff_toInt_lt, Int32.le_iff_toInt_le, ← Int32.toInt_inj, (show (-1 : Int32).toInt = -1 from rfl), (show (0 : Int32).toInt = 0 from rfl)] at h1 h2
      unfold f_game0
      repeat' split
      all_goals first | rfl | (exfalso; omega) | (refine Int32.toInt_inj.mp ?_; rw [show (0 : Int32).toInt = 0 from rfl]; omega)
    · exfalso
      simp only [Int32.lt_iff_toInt_lt, Int32.le_iff_toInt_le, ← Int32.toInt_inj, (show (-1 : Int32).toInt = -1 from rfl), (show (0 : Int32).toInt = 0 from rfl)] at h1 h2
      omega
set_option maxRecDepth 10000 in
set_option maxHeartbeats 4000000 in
theorem c_game1 {g : LH} (F : Fc g) (E : Fr g) (a : Int32) (b : Int32) : LW 155 30 0 0 0 (lEnt (mL 155) [.ref 0, .int a, .int b, .int (1 : Int32)]) [] g (fun v g' => v = some (.int (f_game1 a b)) ∧ Fr g') := by
  refine LW_ls (ls' := [some (.ref 0), some (.int a), some (.int b), some (.int (1 : Int32)), none]) rfl ?_
  refine X_iload_n rfl rfl rfl rfl ?_
  refine X_callS (as := [.int b]) (st := []) rfl rfl rfl (by decide) rfl (Nat.le_of_ble_eq_true rfl) (by decide) (Nat.le_of_ble_eq_true rfl) rfl ?_
  refine LW_ls (ls' := [some (.int b)]) rfl ?_
  refine X_iload_n rfl rfl rfl rfl ?_
  refine X_if_le (tgt := 15) rfl rfl rfl (fun h1 => ?_) (fun h1 => ?_)
  · refine X_iconst (v := (0 : Int32)) rfl rfl rfl ?_
    refine LW_ireturn (st := []) rfl rfl rfl ?_
    refine X_if_eq (tgt := 16) rfl rfl rfl (fun _ => ?_) (fun q => absurd q (by decide))
    refine X_bipush (v := (-2 : Int32)) rfl rfl rfl ?_
    refine LW_ireturn (st := []) rfl rfl rfl ⟨congrArg (fun z => some (Value.int z)) ?_, E⟩
    simp only [Int32.lt_iff_toInt_lt, Int32.le_iff_toInt_le, ← Int32.toInt_inj, (show (0 : Int32).toInt = 0 from rfl)] at h1
    unfold f_game1
    repeat' split
    all_goals first | rfl | (exfalso; omega) | (refine Int32.toInt_inj.mp ?_; rw [show (0 : Int32).toInt = 0 from rfl]; omega)
  · refine X_iload_n rfl rfl rfl rfl ?_
    refine X_ldcw (v := (67108864 : Int32)) rfl rfl rfl ?_
    refine X_icmp_ge (tgt := 15) rfl rfl rfl (fun h2 => ?_) (fun h2 => ?_)
    · refine X_iconst (v := (0 : Int32)) rfl rfl rfl ?_
      refine LW_ireturn (st := []) rfl rfl rfl ?_
      refine X_if_eq (tgt := 16) rfl rfl rfl (fun _ => ?_) (fun q => absurd q (by decide))
      refine X_bipush (v := (-2 : Int32)) rfl rfl rfl ?_
      refine LW_ireturn (st := []) rfl rfl rfl ⟨congrArg (fun z => some (Value.int z)) ?_, E⟩
      simp only [Int32.lt_iff_toInt_lt, Int32.le_iff_toInt_le, ← Int32.toInt_inj, (show (0 : Int32).toInt = 0 from rfl), (show (67108864 : Int32).toInt = 67108864 from rfl)] at h1 h2
      unfold f_game1
      repeat' split
      all_goals first | rfl | (exfalso; omega) | (refine Int32.toInt_inj.mp ?_; rw [show (0 : Int32).toInt = 0 from rfl]; omega)
    · refine X_iconst (v := (1 : Int32)) rfl rfl rfl ?_
      refine LW_goto (tgt := 16) rfl rfl ?_
      refine LW_ireturn (st := []) rfl rfl rfl ?_
      refine X_if_eq (tgt := 16) rfl rfl rfl (fun q => absurd q (by decide)) (fun _ => ?_)
      refine X_iload_n rfl rfl rfl rfl ?_
      refine X_callS (as := [.int b]) (st := []) rfl rfl rfl (by decide) rfl (Nat.le_of_ble_eq_true rfl) (by decide) (Nat.le_of_ble_eq_true rfl) rfl ?_
      refine LW_ls (ls' := [some (.int b)]) rfl ?_
      refine X_iload_n rfl rfl rfl rfl ?_
      refine X_iload_n rfl rfl rfl rfl ?_
      refine X_iconst (v := (1 : Int32)) rfl rfl rfl ?_
      refine X_iushr (v := ((b).toUInt32 >>> (((1 : Int32)).toUInt32 &&& Int32.toUInt32 31)).toInt32) rfl rfl rfl ?_
      refine X_ldcw (v := (1431655765 : Int32)) rfl rfl rfl ?_
      refine X_iand (v := (((b).toUInt32 >>> (((1 : Int32)).toUInt32 &&& Int32.toUInt32 31)).toInt32 &&& (1431655765 : Int32))) rfl rfl rfl ?_
      refine X_isub (v := (b - (((b).toUInt32 >>> (((1 : Int32)).toUInt32 &&& Int32.toUInt32 31)).toInt32 &&& (1431655765 : Int32)))) rfl rfl rfl ?_
      refine X_istore_n (i := 0) (ls' := [some (.int (b - (((b).toUInt32 >>> (((1 : Int32)).toUInt32 &&& Int32.toUInt32 31)).toInt32 &&& (1431655765 : Int32))))]) rfl rfl rfl (Nat.le_of_ble_eq_true rfl) rfl ?_
      refine X_iload_n rfl rfl rfl rfl ?_
      refine X_ldcw (v := (858993459 : Int32)) rfl rfl rfl ?_
      refine X_iand (v := ((b - (((b).toUInt32 >>> (((1 : Int32)).toUInt32 &&& Int32.toUInt32 31)).toInt32 &&& (1431655765 : Int32))) &&& (858993459 : Int32))) rfl rfl rfl ?_
      refine X_iload_n rfl rfl rfl rfl ?_
      refine X_iconst (v := (2 : Int32)) rfl rfl rfl ?_
      refine X_iushr (v := (((b - (((b).toUInt32 >>> (((1 : Int32)).toUInt32 &&& Int32.toUInt32 31)).toInt32 &&& (1431655765 : Int32)))).toUInt32 >>> (((2 : Int32)).toUInt32 &&& Int32.toUInt32 31)).toInt32) rfl rfl rfl ?_
      refine X_ldcw (v := (858993459 : Int32)) rfl rfl rfl ?_
      refine X_iand (v := ((((b - (((b).toUInt32 >>> (((1 : Int32)).toUInt32 &&& Int32.toUInt32 31)).toInt32 &&& (1431655765 : Int32)))).toUInt32 >>> (((2 : Int32)).toUInt32 &&& Int32.toUInt32 31)).toInt32 &&& (858993459 : Int32))) rfl rfl rfl ?_
      refine X_iadd (v := (((b - (((b).toUInt32 >>> (((1 : Int32)).toUInt32 &&& Int32.toUInt32 31)).toInt32 &&& (1431655765 : Int32))) &&& (858993459 : Int32)) + ((((b - (((b).toUInt32 >>> (((1 : Int32)).toUInt32 &&& Int32.toUInt32 31)).toInt32 &&& (1431655765 : Int32)))).toUInt32 >>> (((2 : Int32)).toUInt32 &&& Int32.toUInt32 31)).toInt32 &&& (858993459 : Int32)))) rfl rfl rfl ?_
      refine X_istore_n (i := 0) (ls' := [some (.int (((b - (((b).toUInt32 >>> (((1 : Int32)).toUInt32 &&& Int32.toUInt32 31)).toInt32 &&& (1431655765 : Int32))) &&& (858993459 : Int32)) + ((((b - (((b).toUInt32 >>> (((1 : Int32)).toUInt32 &&& Int32.toUInt32 31)).toInt32 &&& (1431655765 : Int32)))).toUInt32 >>> (((2 : Int32)).toUInt32 &&& Int32.toUInt32 31)).toInt32 &&& (858993459 : Int32))))]) rfl rfl rfl (Nat.le_of_ble_eq_true rfl) rfl ?_
      refine X_iload_n rfl rfl rfl rfl ?_
      refine X_iload_n rfl rfl rfl rfl ?_
      refine X_iconst (v := (4 : Int32)) rfl rfl rfl ?_
      refine X_iushr (v := (((((b - (((b).toUInt32 >>> (((1 : Int32)).toUInt32 &&& Int32.toUInt32 31)).toInt32 &&& (1431655765 : Int32))) &&& (858993459 : Int32)) + ((((b - (((b).toUInt32 >>> (((1 : Int32)).toUInt32 &&& Int32.toUInt32 31)).toInt32 &&& (1431655765 : Int32)))).toUInt32 >>> (((2 : Int32)).toUInt32 &&& Int32.toUInt32 31)).toInt32 &&& (858993459 : Int32)))).toUInt32 >>> (((4 : Int32)).toUInt32 &&& Int32.toUInt32 31)).toInt32) rfl rfl rfl ?_
      refine X_iadd (v := ((((b - (((b).toUInt32 >>> (((1 : Int32)).toUInt32 &&& Int32.toUInt32 31)).toInt32 &&& (1431655765 : Int32))) &&& (858993459 : Int32)) + ((((b - (((b).toUInt32 >>> (((1 : Int32)).toUInt32 &&& Int32.toUInt32 31)).toInt32 &&& (1431655765 : Int32)))).toUInt32 >>> (((2 : Int32)).toUInt32 &&& Int32.toUInt32 31)).toInt32 &&& (858993459 : Int32))) + (((((b - (((b).toUInt32 >>> (((1 : Int32)).toUInt32 &&& Int32.toUInt32 31)).toInt32 &&& (1431655765 : Int32))) &&& (858993459 : Int32)) + ((((b - (((b).toUInt32 >>> (((1 : Int32)).toUInt32 &&& Int32.toUInt32 31)).toInt32 &&& (1431655765 : Int32)))).toUInt32 >>> (((2 : Int32)).toUInt32 &&& Int32.toUInt32 31)).toInt32 &&& (858993459 : Int32)))).toUInt32 >>> (((4 : Int32)).toUInt32 &&& Int32.toUInt32 31)).toInt32)) rfl rfl rfl ?_
      refine X_ldcw (v := (252645135 : Int32)) rfl rfl rfl ?_
      refine X_iand (v := (((((b - (((b).toUInt32 >>> (((1 : Int32)).toUInt32 &&& Int32.toUInt32 31)).toInt32 &&& (1431655765 : Int32))) &&& (858993459 : Int32)) + ((((b - (((b).toUInt32 >>> (((1 : Int32)).toUInt32 &&& Int32.toUInt32 31)).toInt32 &&& (1431655765 : Int32)))).toUInt32 >>> (((2 : Int32)).toUInt32 &&& Int32.toUInt32 31)).toInt32 &&& (858993459 : Int32))) + (((((b - (((b).toUInt32 >>> (((1 : Int32)).toUInt32 &&& Int32.toUInt32 31)).toInt32 &&& (1431655765 : Int32))) &&& (858993459 : Int32)) + ((((b - (((b).toUInt32 >>> (((1 : Int32)).toUInt32 &&& Int32.toUInt32 31)).toInt32 &&& (1431655765 : Int32)))).toUInt32 >>> (((2 : Int32)).toUInt32 &&& Int32.toUInt32 31)).toInt32 &&& (858993459 : Int32)))).toUInt32 >>> (((4 : Int32)).toUInt32 &&& Int32.toUInt32 31)).toInt32) &&& (252645135 : Int32))) rfl rfl rfl ?_
      refine X_istore_n (i := 0) (ls' := [some (.int (((((b - (((b).toUInt32 >>> (((1 : Int32)).toUInt32 &&& Int32.toUInt32 31)).toInt32 &&& (1431655765 : Int32))) &&& (858993459 : Int32)) + ((((b - (((b).toUInt32 >>> (((1 : Int32)).toUInt32 &&& Int32.toUInt32 31)).toInt32 &&& (1431655765 : Int32)))).toUInt32 >>> (((2 : Int32)).toUInt32 &&& Int32.toUInt32 31)).toInt32 &&& (858993459 : Int32))) + (((((b - (((b).toUInt32 >>> (((1 : Int32)).toUInt32 &&& Int32.toUInt32 31)).toInt32 &&& (1431655765 : Int32))) &&& (858993459 : Int32)) + ((((b - (((b).toUInt32 >>> (((1 : Int32)).toUInt32 &&& Int32.toUInt32 31)).toInt32 &&& (1431655765 : Int32)))).toUInt32 >>> (((2 : Int32)).toUInt32 &&& Int32.toUInt32 31)).toInt32 &&& (858993459 : Int32)))).toUInt32 >>> (((4 : Int32)).toUInt32 &&& Int32.toUInt32 31)).toInt32) &&& (252645135 : Int32)))]) rfl rfl rfl (Nat.le_of_ble_eq_true rfl) rfl ?_
      refine X_iload_n rfl rfl rfl rfl ?_
      refine X_iload_n rfl rfl rfl rfl ?_
      refine X_bipush (v := (8 : Int32)) rfl rfl rfl ?_
      refine X_iushr (v := (((((((b - (((b).toUInt32 >>> (((1 : Int32)).toUInt32 &&& Int32.toUInt32 31)).toInt32 &&& (1431655765 : Int32))) &&& (858993459 : Int32)) + ((((b - (((b).toUInt32 >>> (((1 : Int32)).toUInt32 &&& Int32.toUInt32 31)).toInt32 &&& (1431655765 : Int32)))).toUInt32 >>> (((2 : Int32)).toUInt32 &&& Int32.toUInt32 31)).toInt32 &&& (858993459 : Int32))) + (((((b - (((b).toUInt32 >>> (((1 : Int32)).toUInt32 &&& Int32.toUInt32 31)).toInt32 &&& (1431655765 : Int32))) &&& (858993459 : Int32)) + ((((b - (((b).toUInt32 >>> (((1 : Int32)).toUInt32 &&& Int32.toUInt32 31)).toInt32 &&& (1431655765 : Int32)))).toUInt32 >>> (((2 : Int32)).toUInt32 &&& Int32.toUInt32 31)).toInt32 &&& (858993459 : Int32)))).toUInt32 >>> (((4 : Int32)).toUInt32 &&& Int32.toUInt32 31)).toInt32) &&& (252645135 : Int32))).toUInt32 >>> (((8 : Int32)).toUInt32 &&& Int32.toUInt32 31)).toInt32) rfl rfl rfl ?_
      refine X_iadd (v := ((((((b - (((b).toUInt32 >>> (((1 : Int32)).toUInt32 &&& Int32.toUInt32 31)).toInt32 &&& (1431655765 : Int32))) &&& (858993459 : Int32)) + ((((b - (((b).toUInt32 >>> (((1 : Int32)).toUInt32 &&& Int32.toUInt32 31)).toInt32 &&& (1431655765 : Int32)))).toUInt32 >>> (((2 : Int32)).toUInt32 &&& Int32.toUInt32 31)).toInt32 &&& (858993459 : Int32))) + (((((b - (((b).toUInt32 >>> (((1 : Int32)).toUInt32 &&& Int32.toUInt32 31)).toInt32 &&& (1431655765 : Int32))) &&& (858993459 : Int32)) + ((((b - (((b).toUInt32 >>> (((1 : Int32)).toUInt32 &&& Int32.toUInt32 31)).toInt32 &&& (1431655765 : Int32)))).toUInt32 >>> (((2 : Int32)).toUInt32 &&& Int32.toUInt32 31)).toInt32 &&& (858993459 : Int32)))).toUInt32 >>> (((4 : Int32)).toUInt32 &&& Int32.toUInt32 31)).toInt32) &&& (252645135 : Int32)) + (((((((b - (((b).toUInt32 >>> (((1 : Int32)).toUInt32 &&& Int32.toUInt32 31)).toInt32 &&& (1431655765 : Int32))) &&& (858993459 : Int32)) + ((((b - (((b).toUInt32 >>> (((1 : Int32)).toUInt32 &&& Int32.toUInt32 31)).toInt32 &&& (1431655765 : Int32)))).toUInt32 >>> (((2 : Int32)).toUInt32 &&& Int32.toUInt32 31)).toInt32 &&& (858993459 : Int32))) + (((((b - (((b).toUInt32 >>> (((1 : Int32)).toUInt32 &&& Int32.toUInt32 31)).toInt32 &&& (1431655765 : Int32))) &&& (858993459 : Int32)) + ((((b - (((b).toUInt32 >>> (((1 : Int32)).toUInt32 &&& Int32.toUInt32 31)).toInt32 &&& (1431655765 : Int32)))).toUInt32 >>> (((2 : Int32)).toUInt32 &&& Int32.toUInt32 31)).toInt32 &&& (858993459 : Int32)))).toUInt32 >>> (((4 : Int32)).toUInt32 &&& Int32.toUInt32 31)).toInt32) &&& (252645135 : Int32))).toUInt32 >>> (((8 : Int32)).toUInt32 &&& Int32.toUInt32 31)).toInt32)) rfl rfl rfl ?_
      refine X_istore_n (i := 0) (ls' := [some (.int ((((((b - (((b).toUInt32 >>> (((1 : Int32)).toUInt32 &&& Int32.toUInt32 31)).toInt32 &&& (1431655765 : Int32))) &&& (858993459 : Int32)) + ((((b - (((b).toUInt32 >>> (((1 : Int32)).toUInt32 &&& Int32.toUInt32 31)).toInt32 &&& (1431655765 : Int32)))).toUInt32 >>> (((2 : Int32)).toUInt32 &&& Int32.toUInt32 31)).toInt32 &&& (858993459 : Int32))) + (((((b - (((b).toUInt32 >>> (((1 : Int32)).toUInt32 &&& Int32.toUInt32 31)).toInt32 &&& (1431655765 : Int32))) &&& (858993459 : Int32)) + ((((b - (((b).toUInt32 >>> (((1 : Int32)).toUInt32 &&& Int32.toUInt32 31)).toInt32 &&& (1431655765 : Int32)))).toUInt32 >>> (((2 : Int32)).toUInt32 &&& Int32.toUInt32 31)).toInt32 &&& (858993459 : Int32)))).toUInt32 >>> (((4 : Int32)).toUInt32 &&& Int32.toUInt32 31)).toInt32) &&& (252645135 : Int32)) + (((((((b - (((b).toUInt32 >>> (((1 : Int32)).toUInt32 &&& Int32.toUInt32 31)).toInt32 &&& (1431655765 : Int32))) &&& (858993459 : Int32)) + ((((b - (((b).toUInt32 >>> (((1 : Int32)).toUInt32 &&& Int32.toUInt32 31)).toInt32 &&& (1431655765 : Int32)))).toUInt32 >>> (((2 : Int32)).toUInt32 &&& Int32.toUInt32 31)).toInt32 &&& (858993459 : Int32))) + (((((b - (((b).toUInt32 >>> (((1 : Int32)).toUInt32 &&& Int32.toUInt32 31)).toInt32 &&& (1431655765 : Int32))) &&& (858993459 : Int32)) + ((((b - (((b).toUInt32 >>> (((1 : Int32)).toUInt32 &&& Int32.toUInt32 31)).toInt32 &&& (1431655765 : Int32)))).toUInt32 >>> (((2 : Int32)).toUInt32 &&& Int32.toUInt32 31)).toInt32 &&& (858993459 : Int32)))).toUInt32 >>> (((4 : Int32)).toUInt32 &&& Int32.toUInt32 31)).toInt32) &&& (252645135 : Int32))).toUInt32 >>> (((8 : Int32)).toUInt32 &&& Int32.toUInt32 31)).toInt32))]) rfl rfl rfl (Nat.le_of_ble_eq_true rfl) rfl ?_
      refine X_iload_n rfl rfl rfl rfl ?_
      refine X_iload_n rfl rfl rfl rfl ?_
      refine X_bipush (v := (16 : Int32)) rfl rfl rfl ?_
      refine X_iushr (v := ((((((((b - (((b).toUInt32 >>> (((1 : Int32)).toUInt32 &&& Int32.toUInt32 31)).toInt32 &&& (1431655765 : Int32))) &&& (858993459 : Int32)) + ((((b - (((b).toUInt32 >>> (((1 : Int32)).toUInt32 &&& Int32.toUInt32 31)).toInt32 &&& (1431655765 : Int32)))).toUInt32 >>> (((2 : Int32)).toUInt32 &&& Int32.toUInt32 31)).toInt32 &&& (858993459 : Int32))) + (((((b - (((b).toUInt32 >>> (((1 : Int32)).toUInt32 &&& Int32.toUInt32 31)).toInt32 &&& (1431655765 : Int32))) &&& (858993459 : Int32)) + ((((b - (((b).toUInt32 >>> (((1 : Int32)).toUInt32 &&& Int32.toUInt32 31)).toInt32 &&& (1431655765 : Int32)))).toUInt32 >>> (((2 : Int32)).toUInt32 &&& Int32.toUInt32 31)).toInt32 &&& (858993459 : Int32)))).toUInt32 >>> (((4 : Int32)).toUInt32 &&& Int32.toUInt32 31)).toInt32) &&& (252645135 : Int32)) + (((((((b - (((b).toUInt32 >>> (((1 : Int32)).toUInt32 &&& Int32.toUInt32 31)).toInt32 &&& (1431655765 : Int32))) &&& (858993459 : Int32)) + ((((b - (((b).toUInt32 >>> (((1 : Int32)).toUInt32 &&& Int32.toUInt32 31)).toInt32 &&& (1431655765 : Int32)))).toUInt32 >>> (((2 : Int32)).toUInt32 &&& Int32.toUInt32 31)).toInt32 &&& (858993459 : Int32))) + (((((b - (((b).toUInt32 >>> (((1 : Int32)).toUInt32 &&& Int32.toUInt32 31)).toInt32 &&& (1431655765 : Int32))) &&& (858993459 : Int32)) + ((((b - (((b).toUInt32 >>> (((1 : Int32)).toUInt32 &&& Int32.toUInt32 31)).toInt32 &&& (1431655765 : Int32)))).toUInt32 >>> (((2 : Int32)).toUInt32 &&& Int32.toUInt32 31)).toInt32 &&& (858993459 : Int32)))).toUInt32 >>> (((4 : Int32)).toUInt32 &&& Int32.toUInt32 31)).toInt32) &&& (252645135 : Int32))).toUInt32 >>> (((8 : Int32)).toUInt32 &&& Int32.toUInt32 31)).toInt32)).toUInt32 >>> (((16 : Int32)).toUInt32 &&& Int32.toUInt32 31)).toInt32) rfl rfl rfl ?_
      refine X_iadd (v := (((((((b - (((b).toUInt32 >>> (((1 : Int32)).toUInt32 &&& Int32.toUInt32 31)).toInt32 &&& (1431655765 : Int32))) &&& (858993459 : Int32)) + ((((b - (((b).toUInt32 >>> (((1 : Int32)).toUInt32 &&& Int32.toUInt32 31)).toInt32 &&& (1431655765 : Int32)))).toUInt32 >>> (((2 : Int32)).toUInt32 &&& Int32.toUInt32 31)).toInt32 &&& (858993459 : Int32))) + (((((b - (((b).toUInt32 >>> (((1 : Int32)).toUInt32 &&& Int32.toUInt32 31)).toInt32 &&& (1431655765 : Int32))) &&& (858993459 : Int32)) + ((((b - (((b).toUInt32 >>> (((1 : Int32)).toUInt32 &&& Int32.toUInt32 31)).toInt32 &&& (1431655765 : Int32)))).toUInt32 >>> (((2 : Int32)).toUInt32 &&& Int32.toUInt32 31)).toInt32 &&& (858993459 : Int32)))).toUInt32 >>> (((4 : Int32)).toUInt32 &&& Int32.toUInt32 31)).toInt32) &&& (252645135 : Int32)) + (((((((b - (((b).toUInt32 >>> (((1 : Int32)).toUInt32 &&& Int32.toUInt32 31)).toInt32 &&& (1431655765 : Int32))) &&& (858993459 : Int32)) + ((((b - (((b).toUInt32 >>> (((1 : Int32)).toUInt32 &&& Int32.toUInt32 31)).toInt32 &&& (1431655765 : Int32)))).toUInt32 >>> (((2 : Int32)).toUInt32 &&& Int32.toUInt32 31)).toInt32 &&& (858993459 : Int32))) + (((((b - (((b).toUInt32 >>> (((1 : Int32)).toUInt32 &&& Int32.toUInt32 31)).toInt32 &&& (1431655765 : Int32))) &&& (858993459 : Int32)) + ((((b - (((b).toUInt32 >>> (((1 : Int32)).toUInt32 &&& Int32.toUInt32 31)).toInt32 &&& (1431655765 : Int32)))).toUInt32 >>> (((2 : Int32)).toUInt32 &&& Int32.toUInt32 31)).toInt32 &&& (858993459 : Int32)))).toUInt32 >>> (((4 : Int32)).toUInt32 &&& Int32.toUInt32 31)).toInt32) &&& (252645135 : Int32))).toUInt32 >>> (((8 : Int32)).toUInt32 &&& Int32.toUInt32 31)).toInt32) + ((((((((b - (((b).toUInt32 >>> (((1 : Int32)).toUInt32 &&& Int32.toUInt32 31)).toInt32 &&& (1431655765 : Int32))) &&& (858993459 : Int32)) + ((((b - (((b).toUInt32 >>> (((1 : Int32)).toUInt32 &&& Int32.toUInt32 31)).toInt32 &&& (1431655765 : Int32)))).toUInt32 >>> (((2 : Int32)).toUInt32 &&& Int32.toUInt32 31)).toInt32 &&& (858993459 : Int32))) + (((((b - (((b).toUInt32 >>> (((1 : Int32)).toUInt32 &&& Int32.toUInt32 31)).toInt32 &&& (1431655765 : Int32))) &&& (858993459 : Int32)) + ((((b - (((b).toUInt32 >>> (((1 : Int32)).toUInt32 &&& Int32.toUInt32 31)).toInt32 &&& (1431655765 : Int32)))).toUInt32 >>> (((2 : Int32)).toUInt32 &&& Int32.toUInt32 31)).toInt32 &&& (858993459 : Int32)))).toUInt32 >>> (((4 : Int32)).toUInt32 &&& Int32.toUInt32 31)).toInt32) &&& (252645135 : Int32)) + (((((((b - (((b).toUInt32 >>> (((1 : Int32)).toUInt32 &&& Int32.toUInt32 31)).toInt32 &&& (1431655765 : Int32))) &&& (858993459 : Int32)) + ((((b - (((b).toUInt32 >>> (((1 : Int32)).toUInt32 &&& Int32.toUInt32 31)).toInt32 &&& (1431655765 : Int32)))).toUInt32 >>> (((2 : Int32)).toUInt32 &&& Int32.toUInt32 31)).toInt32 &&& (858993459 : Int32))) + (((((b - (((b).toUInt32 >>> (((1 : Int32)).toUInt32 &&& Int32.toUInt32 31)).toInt32 &&& (1431655765 : Int32))) &&& (858993459 : Int32)) + ((((b - (((b).toUInt32 >>> (((1 : Int32)).toUInt32 &&& Int32.toUInt32 31)).toInt32 &&& (1431655765 : Int32)))).toUInt32 >>> (((2 : Int32)).toUInt32 &&& Int32.toUInt32 31)).toInt32 &&& (858993459 : Int32)))).toUInt32 >>> (((4 : Int32)).toUInt32 &&& Int32.toUInt32 31)).toInt32) &&& (252645135 : Int32))).toUInt32 >>> (((8 : Int32)).toUInt32 &&& Int32.toUInt32 31)).toInt32)).toUInt32 >>> (((16 : Int32)).toUInt32 &&& Int32.toUInt32 31)).toInt32)) rfl rfl rfl ?_
      refine X_istore_n (i := 0) (ls' := [some (.int (((((((b - (((b).toUInt32 >>> (((1 : Int32)).toUInt32 &&& Int32.toUInt32 31)).toInt32 &&& (1431655765 : Int32))) &&& (858993459 : Int32)) + ((((b - (((b).toUInt32 >>> (((1 : Int32)).toUInt32 &&& Int32.toUInt32 31)).toInt32 &&& (1431655765 : Int32)))).toUInt32 >>> (((2 : Int32)).toUInt32 &&& Int32.toUInt32 31)).toInt32 &&& (858993459 : Int32))) + (((((b - (((b).toUInt32 >>> (((1 : Int32)).toUInt32 &&& Int32.toUInt32 31)).toInt32 &&& (1431655765 : Int32))) &&& (858993459 : Int32)) + ((((b - (((b).toUInt32 >>> (((1 : Int32)).toUInt32 &&& Int32.toUInt32 31)).toInt32 &&& (1431655765 : Int32)))).toUInt32 >>> (((2 : Int32)).toUInt32 &&& Int32.toUInt32 31)).toInt32 &&& (858993459 : Int32)))).toUInt32 >>> (((4 : Int32)).toUInt32 &&& Int32.toUInt32 31)).toInt32) &&& (252645135 : Int32)) + (((((((b - (((b).toUInt32 >>> (((1 : Int32)).toUInt32 &&& Int32.toUInt32 31)).toInt32 &&& (1431655765 : Int32))) &&& (858993459 : Int32)) + ((((b - (((b).toUInt32 >>> (((1 : Int32)).toUInt32 &&& Int32.toUInt32 31)).toInt32 &&& (1431655765 : Int32)))).toUInt32 >>> (((2 : Int32)).toUInt32 &&& Int32.toUInt32 31)).toInt32 &&& (858993459 : Int32))) + (((((b - (((b).toUInt32 >>> (((1 : Int32)).toUInt32 &&& Int32.toUInt32 31)).toInt32 &&& (1431655765 : Int32))) &&& (858993459 : Int32)) + ((((b - (((b).toUInt32 >>> (((1 : Int32)).toUInt32 &&& Int32.toUInt32 31)).toInt32 &&& (1431655765 : Int32)))).toUInt32 >>> (((2 : Int32)).toUInt32 &&& Int32.toUInt32 31)).toInt32 &&& (858993459 : Int32)))).toUInt32 >>> (((4 : Int32)).toUInt32 &&& Int32.toUInt32 31)).toInt32) &&& (252645135 : Int32))).toUInt32 >>> (((8 : Int32)).toUInt32 &&& Int32.toUInt32 31)).toInt32) + ((((((((b - (((b).toUInt32 >>> (((1 : Int32)).toUInt32 &&& Int32.toUInt32 31)).toInt32 &&& (1431655765 : Int32))) &&& (858993459 : Int32)) + ((((b - (((b).toUInt32 >>> (((1 : Int32)).toUInt32 &&& Int32.toUInt32 31)).toInt32 &&& (1431655765 : Int32)))).toUInt32 >>> (((2 : Int32)).toUInt32 &&& Int32.toUInt32 31)).toInt32 &&& (858993459 : Int32))) + (((((b - (((b).toUInt32 >>> (((1 : Int32)).toUInt32 &&& Int32.toUInt32 31)).toInt32 &&& (1431655765 : Int32))) &&& (858993459 : Int32)) + ((((b - (((b).toUInt32 >>> (((1 : Int32)).toUInt32 &&& Int32.toUInt32 31)).toInt32 &&& (1431655765 : Int32)))).toUInt32 >>> (((2 : Int32)).toUInt32 &&& Int32.toUInt32 31)).toInt32 &&& (858993459 : Int32)))).toUInt32 >>> (((4 : Int32)).toUInt32 &&& Int32.toUInt32 31)).toInt32) &&& (252645135 : Int32)) + (((((((b - (((b).toUInt32 >>> (((1 : Int32)).toUInt32 &&& Int32.toUInt32 31)).toInt32 &&& (1431655765 : Int32))) &&& (858993459 : Int32)) + ((((b - (((b).toUInt32 >>> (((1 : Int32)).toUInt32 &&& Int32.toUInt32 31)).toInt32 &&& (1431655765 : Int32)))).toUInt32 >>> (((2 : Int32)).toUInt32 &&& Int32.toUInt32 31)).toInt32 &&& (858993459 : Int32))) + (((((b - (((b).toUInt32 >>> (((1 : Int32)).toUInt32 &&& Int32.toUInt32 31)).toInt32 &&& (1431655765 : Int32))) &&& (858993459 : Int32)) + ((((b - (((b).toUInt32 >>> (((1 : Int32)).toUInt32 &&& Int32.toUInt32 31)).toInt32 &&& (1431655765 : Int32)))).toUInt32 >>> (((2 : Int32)).toUInt32 &&& Int32.toUInt32 31)).toInt32 &&& (858993459 : Int32)))).toUInt32 >>> (((4 : Int32)).toUInt32 &&& Int32.toUInt32 31)).toInt32) &&& (252645135 : Int32))).toUInt32 >>> (((8 : Int32)).toUInt32 &&& Int32.toUInt32 31)).toInt32)).toUInt32 >>> (((16 : Int32)).toUInt32 &&& Int32.toUInt32 31)).toInt32))]) rfl rfl rfl (Nat.le_of_ble_eq_true rfl) rfl ?_
      refine X_iload_n rfl rfl rfl rfl ?_
      refine X_bipush (v := (63 : Int32)) rfl rfl rfl ?_
      refine X_iand (v := ((((((((b - (((b).toUInt32 >>> (((1 : Int32)).toUInt32 &&& Int32.toUInt32 31)).toInt32 &&& (1431655765 : Int32))) &&& (858993459 : Int32)) + ((((b - (((b).toUInt32 >>> (((1 : Int32)).toUInt32 &&& Int32.toUInt32 31)).toInt32 &&& (1431655765 : Int32)))).toUInt32 >>> (((2 : Int32)).toUInt32 &&& Int32.toUInt32 31)).toInt32 &&& (858993459 : Int32))) + (((((b - (((b).toUInt32 >>> (((1 : Int32)).toUInt32 &&& Int32.toUInt32 31)).toInt32 &&& (1431655765 : Int32))) &&& (858993459 : Int32)) + ((((b - (((b).toUInt32 >>> (((1 : Int32)).toUInt32 &&& Int32.toUInt32 31)).toInt32 &&& (1431655765 : Int32)))).toUInt32 >>> (((2 : Int32)).toUInt32 &&& Int32.toUInt32 31)).toInt32 &&& (858993459 : Int32)))).toUInt32 >>> (((4 : Int32)).toUInt32 &&& Int32.toUInt32 31)).toInt32) &&& (252645135 : Int32)) + (((((((b - (((b).toUInt32 >>> (((1 : Int32)).toUInt32 &&& Int32.toUInt32 31)).toInt32 &&& (1431655765 : Int32))) &&& (858993459 : Int32)) + ((((b - (((b).toUInt32 >>> (((1 : Int32)).toUInt32 &&& Int32.toUInt32 31)).toInt32 &&& (1431655765 : Int32)))).toUInt32 >>> (((2 : Int32)).toUInt32 &&& Int32.toUInt32 31)).toInt32 &&& (858993459 : Int32))) + (((((b - (((b).toUInt32 >>> (((1 : Int32)).toUInt32 &&& Int32.toUInt32 31)).toInt32 &&& (1431655765 : Int32))) &&& (858993459 : Int32)) + ((((b - (((b).toUInt32 >>> (((1 : Int32)).toUInt32 &&& Int32.toUInt32 31)).toInt32 &&& (1431655765 : Int32)))).toUInt32 >>> (((2 : Int32)).toUInt32 &&& Int32.toUInt32 31)).toInt32 &&& (858993459 : Int32)))).toUInt32 >>> (((4 : Int32)).toUInt32 &&& Int32.toUInt32 31)).toInt32) &&& (252645135 : Int32))).toUInt32 >>> (((8 : Int32)).toUInt32 &&& Int32.toUInt32 31)).toInt32) + ((((((((b - (((b).toUInt32 >>> (((1 : Int32)).toUInt32 &&& Int32.toUInt32 31)).toInt32 &&& (1431655765 : Int32))) &&& (858993459 : Int32)) + ((((b - (((b).toUInt32 >>> (((1 : Int32)).toUInt32 &&& Int32.toUInt32 31)).toInt32 &&& (1431655765 : Int32)))).toUInt32 >>> (((2 : Int32)).toUInt32 &&& Int32.toUInt32 31)).toInt32 &&& (858993459 : Int32))) + (((((b - (((b).toUInt32 >>> (((1 : Int32)).toUInt32 &&& Int32.toUInt32 31)).toInt32 &&& (1431655765 : Int32))) &&& (858993459 : Int32)) + ((((b - (((b).toUInt32 >>> (((1 : Int32)).toUInt32 &&& Int32.toUInt32 31)).toInt32 &&& (1431655765 : Int32)))).toUInt32 >>> (((2 : Int32)).toUInt32 &&& Int32.toUInt32 31)).toInt32 &&& (858993459 : Int32)))).toUInt32 >>> (((4 : Int32)).toUInt32 &&& Int32.toUInt32 31)).toInt32) &&& (252645135 : Int32)) + (((((((b - (((b).toUInt32 >>> (((1 : Int32)).toUInt32 &&& Int32.toUInt32 31)).toInt32 &&& (1431655765 : Int32))) &&& (858993459 : Int32)) + ((((b - (((b).toUInt32 >>> (((1 : Int32)).toUInt32 &&& Int32.toUInt32 31)).toInt32 &&& (1431655765 : Int32)))).toUInt32 >>> (((2 : Int32)).toUInt32 &&& Int32.toUInt32 31)).toInt32 &&& (858993459 : Int32))) + (((((b - (((b).toUInt32 >>> (((1 : Int32)).toUInt32 &&& Int32.toUInt32 31)).toInt32 &&& (1431655765 : Int32))) &&& (858993459 : Int32)) + ((((b - (((b).toUInt32 >>> (((1 : Int32)).toUInt32 &&& Int32.toUInt32 31)).toInt32 &&& (1431655765 : Int32)))).toUInt32 >>> (((2 : Int32)).toUInt32 &&& Int32.toUInt32 31)).toInt32 &&& (858993459 : Int32)))).toUInt32 >>> (((4 : Int32)).toUInt32 &&& Int32.toUInt32 31)).toInt32) &&& (252645135 : Int32))).toUInt32 >>> (((8 : Int32)).toUInt32 &&& Int32.toUInt32 31)).toInt32)).toUInt32 >>> (((16 : Int32)).toUInt32 &&& Int32.toUInt32 31)).toInt32) &&& (63 : Int32))) rfl rfl rfl ?_
      refine LW_ireturn (st := []) rfl rfl rfl ?_
      refine X_bipush (v := (10 : Int32)) rfl rfl rfl ?_
      refine X_icmp_le (tgt := 19) rfl rfl rfl (fun h3 => ?_) (fun h3 => ?_)
      · refine X_aload_n rfl rfl rfl rfl ?_
        refine X_getR (a := 1) rfl rfl rfl ((congrFun F.1 0).trans s_0) rfl ((congrFun (F.2.1 0 (by decide)) 0).trans r_0_0) ?_
        refine X_getR (a := 2) rfl rfl rfl ((congrFun F.1 1).trans s_1) rfl ((congrFun (F.2.1 1 (by decide)) 0).trans r_1_0) ?_
        refine X_iload_n rfl rfl rfl rfl ?_
        refine X_iconst (v := (0 : Int32)) rfl rfl rfl ?_
        refine X_callV (as := [.int a, .int (0 : Int32)]) (st := []) rfl rfl rfl (by decide) rfl (Nat.le_of_ble_eq_true rfl) (by decide) (Nat.le_of_ble_eq_true rfl) rfl ((congrFun F.1 2).trans s_2) (by decide) ?_
        refine LW_ls (ls' := [some (.ref 2), some (.int a), some (.int (0 : Int32))]) rfl ?_
        refine X_aload_n rfl rfl rfl rfl ?_
        refine X_iload_n rfl rfl rfl rfl ?_
        refine X_callV (as := [.int a]) (st := []) rfl rfl rfl (by decide) rfl (Nat.le_of_ble_eq_true rfl) (by decide) (Nat.le_of_ble_eq_true rfl) rfl ((congrFun F.1 2).trans s_2) (by decide) ?_
        refine LW_ls (ls' := [some (.ref 2), some (.int a)]) rfl ?_
        refine X_iload_n rfl rfl rfl rfl ?_
        refine X_if_lt (tgt := 22) rfl rfl rfl (fun h4 => ?_) (fun h4 => ?_)
        · refine X_iconst (v := (0 : Int32)) rfl rfl rfl ?_
          refine LW_ireturn (st := []) rfl rfl rfl ?_
          refine X_if_eq (tgt := 29) rfl rfl rfl (fun _ => ?_) (fun q => absurd q (by decide))
          refine X_iconst (v := (0 : Int32)) rfl rfl rfl ?_
          refine LW_ireturn (st := []) rfl rfl rfl ?_
          refine X_if_ne (tgt := 37) rfl rfl rfl (fun q => absurd q (by decide)) (fun _ => ?_)
          refine X_bipush (v := (-2 : Int32)) rfl rfl rfl ?_
          refine LW_ireturn (st := []) rfl rfl rfl ⟨congrArg (fun z => some (Value.int z)) ?_, E⟩
          simp only [Int32.lt_iff_toInt_lt, Int32.le_iff_toInt_le, ← Int32.toInt_inj, (show (0 : Int32).toInt = 0 from rfl), (show (10 : Int32).toInt = 10 from rfl), (show (67108864 : Int32).toInt = 67108864 from rfl)] at h1 h2 h3 h4
          unfold f_game1
          repeat' split
          all_goals first | rfl | (exfalso; omega) | (refine Int32.toInt_inj.mp ?_; rw [show (0 : Int32).toInt = 0 from rfl]; omega)
        · refine X_iload_n rfl rfl rfl rfl ?_
          refine X_aload_n rfl rfl rfl rfl ?_
          refine X_getI (v := (0 : Int32)) rfl rfl rfl ((congrFun F.1 2).trans s_2) rfl ((congrFun (F.2.2 2 (by decide)).1 1).trans i_2_1) ?_
          refine X_icmp_ge (tgt := 22) rfl rfl rfl (fun h5 => ?_) (fun h5 => ?_)
          · refine X_iconst (v := (0 : Int32)) rfl rfl rfl ?_
            refine LW_ireturn (st := []) rfl rfl rfl ?_
            refine X_if_eq (tgt := 29) rfl rfl rfl (fun _ => ?_) (fun q => absurd q (by decide))
            refine X_iconst (v := (0 : Int32)) rfl rfl rfl ?_
            refine LW_ireturn (st := []) rfl rfl rfl ?_
            refine X_if_ne (tgt := 37) rfl rfl rfl (fun q => absurd q (by decide)) (fun _ => ?_)
            refine X_bipush (v := (-2 : Int32)) rfl rfl rfl ?_
            refine LW_ireturn (st := []) rfl rfl rfl ⟨congrArg (fun z => some (Value.int z)) ?_, E⟩
            simp only [Int32.lt_iff_toInt_lt, Int32.le_iff_toInt_le, ← Int32.toInt_inj, (show (0 : Int32).toInt = 0 from rfl), (show (10 : Int32).toInt = 10 from rfl), (show (67108864 : Int32).toInt = 67108864 from rfl)] at h1 h2 h3 h4 h5
            unfold f_game1
            repeat' split
            all_goals first | rfl | (exfalso; omega) | (refine Int32.toInt_inj.mp ?_; rw [show (0 : Int32).toInt = 0 from rfl]; omega)
          · exfalso
            simp only [Int32.lt_iff_toInt_lt, Int32.le_iff_toInt_le, ← Int32.toInt_inj, (show (0 : Int32).toInt = 0 from rfl), (show (10 : Int32).toInt = 10 from rfl), (show (67108864 : Int32).toInt = 67108864 from rfl)] at h1 h2 h3 h4 h5
            omega
      · refine X_bipush (v := (-2 : Int32)) rfl rfl rfl ?_
        refine LW_ireturn (st := []) rfl rfl rfl ⟨congrArg (fun z => some (Value.int z)) ?_, E⟩
        simp only [Int32.lt_iff_toInt_lt, Int32.le_iff_toInt_le, ← Int32.toInt_inj, (show (0 : Int32).toInt = 0 from rfl), (show (10 : Int32).toInt = 10 from rfl), (show (67108864 : Int32).toInt = 67108864 from rfl)] at h1 h2 h3
        unfold f_game1
        repeat' split
        all_goals first | rfl | (exfalso; omega) | (refine Int32.toInt_inj.mp ?_; rw [show (0 : Int32).toInt = 0 from rfl]; omega)
set_option maxRecDepth 10000 in
set_option maxHeartbeats 4000000 in
theorem r_game1 {g : LH} (F : Fr g) (a : Int32) (b : Int32) : LW 295 30 0 0 0 (lEnt (mL 295) [.ref 355, .int a, .int b, .int (1 : Int32)]) [] g (fun v _ => v = some (.int (f_game1 a b))) := by
  refine LW_ls (ls' := [some (.ref 355), some (.int a), some (.int b), some (.int (1 : Int32)), none, none, none]) rfl ?_
  refine X_aload_n rfl rfl rfl rfl ?_
  refine X_iload_n rfl rfl rfl rfl ?_
  refine X_iload_n rfl rfl rfl rfl ?_
  refine X_callV (as := [.int a, .int b]) (st := []) rfl rfl rfl (by decide) rfl (Nat.le_of_ble_eq_true rfl) (by decide) (Nat.le_of_ble_eq_true rfl) rfl ((congrFun F.1 355).trans s_355) (by decide) ?_
  refine LW_ls (ls' := [some (.ref 355), some (.int a), some (.int b), none, none, none]) rfl ?_
  refine X_aload_n rfl rfl rfl rfl ?_
  refine X_iload_n rfl rfl rfl rfl ?_
  refine X_callV (as := [.int a]) (st := []) rfl rfl rfl (by decide) rfl (Nat.le_of_ble_eq_true rfl) (by decide) (Nat.le_of_ble_eq_true rfl) rfl ((congrFun F.1 355).trans s_355) (by decide) ?_
  refine LW_ls (ls' := [some (.ref 355), some (.int a)]) rfl ?_
  refine X_iload_n rfl rfl rfl rfl ?_
  refine X_iconst (v := (0 : Int32)) rfl rfl rfl ?_
  refine X_aload_n rfl rfl rfl rfl ?_
  refine X_getR (a := 356) rfl rfl rfl ((congrFun F.1 355).trans s_355) rfl ((congrFun (F.2.1 355 (by decide)) 0).trans r_355_0) ?_
  refine X_iconst (v := (1 : Int32)) rfl rfl rfl ?_
  refine X_iald (v := (0 : Int32)) rfl rfl ((congrFun F.1 356).trans s_356) (vp_in_d rfl) ((congrFun (F.2.2 356 (by decide)).1 1).trans i_356_1) ?_
  refine X_iconst (v := (1 : Int32)) rfl rfl rfl ?_
  refine X_isub (v := (-1 : Int32)) rfl rfl rfl ?_
  refine X_callS (as := [.int a, .int (0 : Int32), .int (-1 : Int32)]) (st := []) rfl rfl rfl (by decide) rfl (Nat.le_of_ble_eq_true rfl) (by decide) (Nat.le_of_ble_eq_true rfl) rfl ?_
  refine LW_ls (ls' := [some (.int a), some (.int (0 : Int32)), some (.int (-1 : Int32))]) rfl ?_
  refine X_iload_n rfl rfl rfl rfl ?_
  refine X_iload_n rfl rfl rfl rfl ?_
  refine X_icmp_lt (tgt := 14) rfl rfl rfl (fun h1 => ?_) (fun h1 => ?_)
  · refine X_iconst (v := (0 : Int32)) rfl rfl rfl ?_
    refine LW_ireturn (st := []) rfl rfl rfl ?_
    refine LW_ireturn (st := []) rfl rfl rfl ?_
    refine X_if_eq (tgt := 24) rfl rfl rfl (fun _ => ?_) (fun q => absurd q (by decide))
    refine X_iconst (v := (0 : Int32)) rfl rfl rfl ?_
    refine LW_ireturn (st := []) rfl rfl rfl ?_
    refine X_if_eq (tgt := 18) rfl rfl rfl (fun _ => ?_) (fun q => absurd q (by decide))
    refine X_bipush (v := (-2 : Int32)) rfl rfl rfl ?_
    refine LW_ireturn (st := []) rfl rfl rfl (congrArg (fun z => some (Value.int z)) ?_)
    simp only [Int32.lt_iff_toInt_lt, Int32.le_iff_toInt_le, ← Int32.toInt_inj, (show (0 : Int32).toInt = 0 from rfl)] at h1
    unfold f_game1
    repeat' split
    all_goals first | rfl | (exfalso; omega) | (refine Int32.toInt_inj.mp ?_; rw [show (0 : Int32).toInt = 0 from rfl]; omega)
  · refine X_iload_n rfl rfl rfl rfl ?_
    refine X_iload_n rfl rfl rfl rfl ?_
    refine X_icmp_gt (tgt := 14) rfl rfl rfl (fun h2 => ?_) (fun h2 => ?_)
    · refine X_iconst (v := (0 : Int32)) rfl rfl rfl ?_
      refine LW_ireturn (st := []) rfl rfl rfl ?_
      refine LW_ireturn (st := []) rfl rfl rfl ?_
      refine X_if_eq (tgt := 24) rfl rfl rfl (fun _ => ?_) (fun q => absurd q (by decide))
      refine X_iconst (v := (0 : Int32)) rfl rfl rfl ?_
      refine LW_ireturn (st := []) rfl rfl rfl ?_
      refine X_if_eq (tgt := 18) rfl rfl rfl (fun _ => ?_) (fun q => absurd q (by decide))
      refine X_bipush (v := (-2 : Int32)) rfl rfl rfl ?_
      refine LW_ireturn (st := []) rfl rfl rfl (congrArg (fun z => some (Value.int z)) ?_)
      simp only [Int32.lt_iff_toInt_lt, Int32.le_iff_toInt_le, ← Int32.toInt_inj, (show (-1 : Int32).toInt = -1 from rfl), (show (0 : Int32).toInt = 0 from rfl)] at h1 h2
      unfold f_game1
      repeat' split
      all_goals first | rfl | (exfalso; omega) | (refine Int32.toInt_inj.mp ?_; rw [show (0 : Int32).toInt = 0 from rfl]; omega)
    · exfalso
      simp only [Int32.lt_iff_toInt_lt, Int32.le_iff_toInt_le, ← Int32.toInt_inj, (show (-1 : Int32).toInt = -1 from rfl), (show (0 : Int32).toInt = 0 from rfl)] at h1 h2
      omega
set_option maxRecDepth 10000 in
set_option maxHeartbeats 4000000 in
theorem c_settlement {g : LH} (F : Fc g) (E : Fr g) (a : Int32) (b : Int32) : LW 157 30 0 0 0 (lEnt (mL 157) [.ref 0, .int a, .int b]) [] g (fun v g' => v = some (.int (f_settlement a b)) ∧ Fr g') := by
  refine LW_ls (ls' := [some (.ref 0), some (.int a), some (.int b), none]) rfl ?_
  refine X_iload_n rfl rfl rfl rfl ?_
  refine X_callS (as := [.int a]) (st := []) rfl rfl rfl (by decide) rfl (Nat.le_of_ble_eq_true rfl) (by decide) (Nat.le_of_ble_eq_true rfl) rfl ?_
  refine LW_ls (ls' := [some (.int a)]) rfl ?_
  refine X_iload_n rfl rfl rfl rfl ?_
  refine X_if_le (tgt := 15) rfl rfl rfl (fun h1 => ?_) (fun h1 => ?_)
  · refine X_iconst (v := (0 : Int32)) rfl rfl rfl ?_
    refine LW_ireturn (st := []) rfl rfl rfl ?_
    refine X_if_eq (tgt := 17) rfl rfl rfl (fun _ => ?_) (fun q => absurd q (by decide))
    refine X_iconst (v := (-1 : Int32)) rfl rfl rfl ?_
    refine LW_ireturn (st := []) rfl rfl rfl ⟨congrArg (fun z => some (Value.int z)) ?_, E⟩
    simp only [Int32.lt_iff_toInt_lt, Int32.le_iff_toInt_le, ← Int32.toInt_inj, (show (0 : Int32).toInt = 0 from rfl)] at h1
    unfold f_settlement
    repeat' split
    all_goals first | rfl | (exfalso; omega) | (refine Int32.toInt_inj.mp ?_; rw [show (0 : Int32).toInt = 0 from rfl]; omega)
  · refine X_iload_n rfl rfl rfl rfl ?_
    refine X_ldcw (v := (67108864 : Int32)) rfl rfl rfl ?_
    refine X_icmp_ge (tgt := 15) rfl rfl rfl (fun h2 => ?_) (fun h2 => ?_)
    · refine X_iconst (v := (0 : Int32)) rfl rfl rfl ?_
      refine LW_ireturn (st := []) rfl rfl rfl ?_
      refine X_if_eq (tgt := 17) rfl rfl rfl (fun _ => ?_) (fun q => absurd q (by decide))
      refine X_iconst (v := (-1 : Int32)) rfl rfl rfl ?_
      refine LW_ireturn (st := []) rfl rfl rfl ⟨congrArg (fun z => some (Value.int z)) ?_, E⟩
      simp only [Int32.lt_iff_toInt_lt, Int32.le_iff_toInt_le, ← Int32.toInt_inj, (show (0 : Int32).toInt = 0 from rfl), (show (67108864 : Int32).toInt = 67108864 from rfl)] at h1 h2
      unfold f_settlement
      repeat' split
      all_goals first | rfl | (exfalso; omega) | (refine Int32.toInt_inj.mp ?_; rw [show (0 : Int32).toInt = 0 from rfl]; omega)
    · refine X_iconst (v := (1 : Int32)) rfl rfl rfl ?_
      refine LW_goto (tgt := 16) rfl rfl ?_
      refine LW_ireturn (st := []) rfl rfl rfl ?_
      refine X_if_eq (tgt := 17) rfl rfl rfl (fun q => absurd q (by decide)) (fun _ => ?_)
      refine X_iload_n rfl rfl rfl rfl ?_
      refine X_iconst (v := (-1 : Int32)) rfl rfl rfl ?_
      refine X_icmp_lt (tgt := 17) rfl rfl rfl (fun h3 => ?_) (fun h3 => ?_)
      · refine X_iconst (v := (-1 : Int32)) rfl rfl rfl ?_
        refine LW_ireturn (st := []) rfl rfl rfl ⟨congrArg (fun z => some (Value.int z)) ?_, E⟩
        simp only [Int32.lt_iff_toInt_lt, Int32.le_iff_toInt_le, ← Int32.toInt_inj, (show (-1 : Int32).toInt = -1 from rfl), (show (0 : Int32).toInt = 0 from rfl), (show (67108864 : Int32).toInt = 67108864 from rfl)] at h1 h2 h3
        unfold f_settlement
        repeat' split
        all_goals first | rfl | (exfalso; omega) | (refine Int32.toInt_inj.mp ?_; rw [show (0 : Int32).toInt = 0 from rfl]; omega)
      · refine X_iload_n rfl rfl rfl rfl ?_
        refine X_iconst (v := (4 : Int32)) rfl rfl rfl ?_
        refine X_icmp_lt (tgt := 19) rfl rfl rfl (fun h4 => ?_) (fun h4 => ?_)
        · refine X_aload_n rfl rfl rfl rfl ?_
          refine X_getR (a := 349) rfl rfl rfl ((congrFun F.1 0).trans s_0) rfl ((congrFun (F.2.1 0 (by decide)) 8).trans r_0_8) ?_
          refine X_iload_n rfl rfl rfl rfl ?_
          refine X_callV (as := [.int a]) (st := []) rfl rfl rfl (by decide) rfl (Nat.le_of_ble_eq_true rfl) (by decide) (Nat.le_of_ble_eq_true rfl) rfl ((congrFun F.1 349).trans s_349) (by decide) ?_
          refine LW_ls (ls' := [some (.ref 349), some (.int a), none]) rfl ?_
          refine X_aload_n rfl rfl rfl rfl ?_
          refine X_iconst (v := (-1 : Int32)) rfl rfl rfl ?_
          refine X_putI rfl rfl rfl ((congrFun F.1 349).trans s_349) rfl rfl rfl rfl ?_
          refine X_iconst (v := (0 : Int32)) rfl rfl rfl ?_
          refine X_istore_n (i := 2) (ls' := [some (.ref 349), some (.int a), some (.int (0 : Int32))]) rfl rfl rfl (Nat.le_of_ble_eq_true rfl) rfl ?_
          refine X_iload_n rfl rfl rfl rfl ?_
          refine X_iconst (v := (4 : Int32)) rfl rfl rfl ?_
          refine X_icmp_ge (tgt := 25) rfl rfl rfl (fun q => absurd q (by decide)) (fun _ => ?_)
          refine X_aload_n rfl rfl rfl rfl ?_
          refine X_getR (a := 351) rfl rfl rfl ((congrFun F.1 349).trans s_349) rfl ((congrFun (F.2.1 349 (by decide)) 2).trans r_349_2) ?_
          refine X_iload_n rfl rfl rfl rfl ?_
          refine X_iconst (v := (-1 : Int32)) rfl rfl rfl ?_
          refine X_iast (k0 := 0) rfl rfl ((congrFun F.1 351).trans s_351) (vp_in_d rfl) rfl ?_
          refine X_iinc (v := (1 : Int32)) (ls' := [some (.ref 349), some (.int a), some (.int (1 : Int32))]) rfl rfl rfl rfl rfl ?_
          refine LW_goto (tgt := 7) rfl rfl ?_
          refine X_iload_n rfl rfl rfl rfl ?_
          refine X_iconst (v := (4 : Int32)) rfl rfl rfl ?_
          refine X_icmp_ge (tgt := 25) rfl rfl rfl (fun q => absurd q (by decide)) (fun _ => ?_)
          refine X_aload_n rfl rfl rfl rfl ?_
          refine X_getR (a := 351) rfl rfl rfl ((congrFun F.1 349).trans s_349) rfl ((congrFun (F.2.1 349 (by decide)) 2).trans r_349_2) ?_
          refine X_iload_n rfl rfl rfl rfl ?_
          refine X_iconst (v := (-1 : Int32)) rfl rfl rfl ?_
          refine X_iast (k0 := 1) rfl rfl ((congrFun F.1 351).trans s_351) (vp_in_d rfl) rfl ?_
          refine X_iinc (v := (2 : Int32)) (ls' := [some (.ref 349), some (.int a), some (.int (2 : Int32))]) rfl rfl rfl rfl rfl ?_
          refine LW_goto (tgt := 7) rfl rfl ?_
          refine X_iload_n rfl rfl rfl rfl ?_
          refine X_iconst (v := (4 : Int32)) rfl rfl rfl ?_
          refine X_icmp_ge (tgt := 25) rfl rfl rfl (fun q => absurd q (by decide)) (fun _ => ?_)
          refine X_aload_n rfl rfl rfl rfl ?_
          refine X_getR (a := 351) rfl rfl rfl ((congrFun F.1 349).trans s_349) rfl ((congrFun (F.2.1 349 (by decide)) 2).trans r_349_2) ?_
          refine X_iload_n rfl rfl rfl rfl ?_
          refine X_iconst (v := (-1 : Int32)) rfl rfl rfl ?_
          refine X_iast (k0 := 2) rfl rfl ((congrFun F.1 351).trans s_351) (vp_in_d rfl) rfl ?_
          refine X_iinc (v := (3 : Int32)) (ls' := [some (.ref 349), some (.int a), some (.int (3 : Int32))]) rfl rfl rfl rfl rfl ?_
          refine LW_goto (tgt := 7) rfl rfl ?_
          refine X_iload_n rfl rfl rfl rfl ?_
          refine X_iconst (v := (4 : Int32)) rfl rfl rfl ?_
          refine X_icmp_ge (tgt := 25) rfl rfl rfl (fun q => absurd q (by decide)) (fun _ => ?_)
          refine X_aload_n rfl rfl rfl rfl ?_
          refine X_getR (a := 351) rfl rfl rfl ((congrFun F.1 349).trans s_349) rfl ((congrFun (F.2.1 349 (by decide)) 2).trans r_349_2) ?_
          refine X_iload_n rfl rfl rfl rfl ?_
          refine X_iconst (v := (-1 : Int32)) rfl rfl rfl ?_
          refine X_iast (k0 := 3) rfl rfl ((congrFun F.1 351).trans s_351) (vp_in_d rfl) rfl ?_
          refine X_iinc (v := (4 : Int32)) (ls' := [some (.ref 349), some (.int a), some (.int (4 : Int32))]) rfl rfl rfl rfl rfl ?_
          refine LW_goto (tgt := 7) rfl rfl ?_
          refine X_iload_n rfl rfl rfl rfl ?_
          refine X_iconst (v := (4 : Int32)) rfl rfl rfl ?_
          refine X_icmp_ge (tgt := 25) rfl rfl rfl (fun _ => ?_) (fun q => absurd q (by decide))
          refine X_iconst (v := (1 : Int32)) rfl rfl rfl ?_
          refine X_istore_n (i := 2) (ls' := [some (.ref 349), some (.int a), some (.int (1 : Int32))]) rfl rfl rfl (Nat.le_of_ble_eq_true rfl) rfl ?_
          refine X_iload_n rfl rfl rfl rfl ?_
          refine X_iconst (v := (4 : Int32)) rfl rfl rfl ?_
          refine X_icmp_gt (tgt := 46) rfl rfl rfl (fun q => absurd q (by decide)) (fun _ => ?_)
          refine X_aload_n rfl rfl rfl rfl ?_
          refine X_iload_n rfl rfl rfl rfl ?_
          refine X_iconst (v := (0 : Int32)) rfl rfl rfl ?_
          refine X_iload_n rfl rfl rfl rfl ?_
          refine X_iconst (v := (0 : Int32)) rfl rfl rfl ?_
          refine X_callV (as := [.int a, .int (0 : Int32), .int (1 : Int32), .int (0 : Int32)]) (st := []) rfl rfl rfl (by decide) rfl (Nat.le_of_ble_eq_true rfl) (by decide) (Nat.le_of_ble_eq_true rfl) rfl ((congrFun F.1 349).trans s_349) (by decide) ?_
          refine LW_ls (ls' := [some (.ref 349), some (.int a), some (.int (0 : Int32)), some (.int (1 : Int32)), some (.int (0 : Int32)), none, none]) rfl ?_
          refine X_aload_n rfl rfl rfl rfl ?_
          refine X_getR (a := 1) rfl rfl rfl ((congrFun F.1 349).trans s_349) rfl ((congrFun (F.2.1 349 (by decide)) 0).trans r_349_0) ?_
          refine X_getR (a := 2) rfl rfl rfl ((congrFun F.1 1).trans s_1) rfl ((congrFun (F.2.1 1 (by decide)) 0).trans r_1_0) ?_
          refine X_astore (i := 5) (ls' := [some (.ref 349), some (.int a), some (.int (0 : Int32)), some (.int (1 : Int32)), some (.int (0 : Int32)), some (.ref 2), none]) rfl rfl (Nat.le_of_ble_eq_true rfl) rfl ?_
          refine X_aload_n rfl rfl rfl rfl ?_
          refine X_getI (v := (-1 : Int32)) rfl rfl rfl ((congrFun F.1 349).trans s_349) rfl rfl ?_
          refine X_iconst (v := (-1 : Int32)) rfl rfl rfl ?_
          refine X_icmp_eq (tgt := 27) rfl rfl rfl (fun _ => ?_) (fun q => absurd q (by decide))
          refine X_iload_n rfl rfl rfl rfl ?_
          refine X_iload_n rfl rfl rfl rfl ?_
          refine X_icmp_ge (tgt := 37) rfl rfl rfl (fun q => absurd q (by decide)) (fun _ => ?_)
          refine X_iload_n rfl rfl rfl rfl ?_
          refine X_iconst (v := (4 : Int32)) rfl rfl rfl ?_
          refine X_icmp_lt (tgt := 66) rfl rfl rfl (fun _ => ?_) (fun q => absurd q (by decide))
          refine X_iload_n rfl rfl rfl rfl ?_
          refine X_if_ne (tgt := 74) rfl rfl rfl (fun q => absurd q (by decide)) (fun _ => ?_)
          refine X_iconst (v := (0 : Int32)) rfl rfl rfl ?_
          refine LW_goto (tgt := 84) rfl rfl ?_
          refine X_istore (i := 6) (ls' := [some (.ref 349), some (.int a), some (.int (0 : Int32)), some (.int (1 : Int32)), some (.int (0 : Int32)), some (.ref 2), some (.int (0 : Int32))]) rfl rfl (Nat.le_of_ble_eq_true rfl) rfl ?_
          refine X_iload rfl rfl rfl ?_
          refine X_aload rfl rfl rfl ?_
          refine X_getI (v := (0 : Int32)) rfl rfl rfl ((congrFun F.1 2).trans s_2) rfl ((congrFun (F.2.2 2 (by decide)).1 0).trans i_2_0) ?_
          refine X_icmp_ge (tgt := 141) rfl rfl rfl (fun _ => ?_) (fun q => absurd q (by decide))
          refine LW_return (st := []) rfl rfl ?_
          refine X_iinc (v := (2 : Int32)) (ls' := [some (.ref 349), some (.int a), some (.int (2 : Int32))]) rfl rfl rfl rfl rfl ?_
          refine LW_goto (tgt := 27) rfl rfl ?_
          refine X_iload_n rfl rfl rfl rfl ?_
          refine X_iconst (v := (4 : Int32)) rfl rfl rfl ?_
          refine X_icmp_gt (tgt := 46) rfl rfl rfl (fun q => absurd q (by decide)) (fun _ => ?_)
          refine X_aload_n rfl rfl rfl rfl ?_
          refine X_iload_n rfl rfl rfl rfl ?_
          refine X_iconst (v := (0 : Int32)) rfl rfl rfl ?_
          refine X_iload_n rfl rfl rfl rfl ?_
          refine X_iconst (v := (0 : Int32)) rfl rfl rfl ?_
          refine X_callV (as := [.int a, .int (0 : Int32), .int (2 : Int32), .int (0 : Int32)]) (st := []) rfl rfl rfl (by decide) rfl (Nat.le_of_ble_eq_true rfl) (by decide) (Nat.le_of_ble_eq_true rfl) rfl ((congrFun F.1 349).trans s_349) (by decide) ?_
          refine LW_ls (ls' := [some (.ref 349), some (.int a), some (.int (0 : Int32)), some (.int (2 : Int32)), some (.int (0 : Int32)), none, none]) rfl ?_
          refine X_aload_n rfl rfl rfl rfl ?_
          refine X_getR (a := 1) rfl rfl rfl ((congrFun F.1 349).trans s_349) rfl ((congrFun (F.2.1 349 (by decide)) 0).trans r_349_0) ?_
          refine X_getR (a := 2) rfl rfl rfl ((congrFun F.1 1).trans s_1) rfl ((congrFun (F.2.1 1 (by decide)) 0).trans r_1_0) ?_
          refine X_astore (i := 5) (ls' := [some (.ref 349), some (.int a), some (.int (0 : Int32)), some (.int (2 : Int32)), some (.int (0 : Int32)), some (.ref 2), none]) rfl rfl (Nat.le_of_ble_eq_true rfl) rfl ?_
          refine X_aload_n rfl rfl rfl rfl ?_
          refine X_getI (v := (-1 : Int32)) rfl rfl rfl ((congrFun F.1 349).trans s_349) rfl rfl ?_
          refine X_iconst (v := (-1 : Int32)) rfl rfl rfl ?_
          refine X_icmp_eq (tgt := 27) rfl rfl rfl (fun _ => ?_) (fun q => absurd q (by decide))
          refine X_iload_n rfl rfl rfl rfl ?_
          refine X_iload_n rfl rfl rfl rfl ?_
          refine X_icmp_ge (tgt := 37) rfl rfl rfl (fun q => absurd q (by decide)) (fun _ => ?_)
          refine X_iload_n rfl rfl rfl rfl ?_
          refine X_iconst (v := (4 : Int32)) rfl rfl rfl ?_
          refine X_icmp_lt (tgt := 66) rfl rfl rfl (fun _ => ?_) (fun q => absurd q (by decide))
          refine X_iload_n rfl rfl rfl rfl ?_
          refine X_if_ne (tgt := 74) rfl rfl rfl (fun q => absurd q (by decide)) (fun _ => ?_)
          refine X_iconst (v := (0 : Int32)) rfl rfl rfl ?_
          refine LW_goto (tgt := 84) rfl rfl ?_
          refine X_istore (i := 6) (ls' := [some (.ref 349), some (.int a), some (.int (0 : Int32)), some (.int (2 : Int32)), some (.int (0 : Int32)), some (.ref 2), some (.int (0 : Int32))]) rfl rfl (Nat.le_of_ble_eq_true rfl) rfl ?_
          refine X_iload rfl rfl rfl ?_
          refine X_aload rfl rfl rfl ?_
          refine X_getI (v := (0 : Int32)) rfl rfl rfl ((congrFun F.1 2).trans s_2) rfl ((congrFun (F.2.2 2 (by decide)).1 0).trans i_2_0) ?_
          refine X_icmp_ge (tgt := 141) rfl rfl rfl (fun _ => ?_) (fun q => absurd q (by decide))
          refine LW_return (st := []) rfl rfl ?_
          refine X_iinc (v := (3 : Int32)) (ls' := [some (.ref 349), some (.int a), some (.int (3 : Int32))]) rfl rfl rfl rfl rfl ?_
          refine LW_goto (tgt := 27) rfl rfl ?_
          refine X_iload_n rfl rfl rfl rfl ?_
          refine X_iconst (v := (4 : Int32)) rfl rfl rfl ?_
          refine X_icmp_gt (tgt := 46) rfl rfl rfl (fun q => absurd q (by decide)) (fun _ => ?_)
          refine X_aload_n rfl rfl rfl rfl ?_
          refine X_iload_n rfl rfl rfl rfl ?_
          refine X_iconst (v := (0 : Int32)) rfl rfl rfl ?_
          refine X_iload_n rfl rfl rfl rfl ?_
          refine X_iconst (v := (0 : Int32)) rfl rfl rfl ?_
          refine X_callV (as := [.int a, .int (0 : Int32), .int (3 : Int32), .int (0 : Int32)]) (st := []) rfl rfl rfl (by decide) rfl (Nat.le_of_ble_eq_true rfl) (by decide) (Nat.le_of_ble_eq_true rfl) rfl ((congrFun F.1 349).trans s_349) (by decide) ?_
          refine LW_ls (ls' := [some (.ref 349), some (.int a), some (.int (0 : Int32)), some (.int (3 : Int32)), some (.int (0 : Int32)), none, none]) rfl ?_
          refine X_aload_n rfl rfl rfl rfl ?_
          refine X_getR (a := 1) rfl rfl rfl ((congrFun F.1 349).trans s_349) rfl ((congrFun (F.2.1 349 (by decide)) 0).trans r_349_0) ?_
          refine X_getR (a := 2) rfl rfl rfl ((congrFun F.1 1).trans s_1) rfl ((congrFun (F.2.1 1 (by decide)) 0).trans r_1_0) ?_
          refine X_astore (i := 5) (ls' := [some (.ref 349), some (.int a), some (.int (0 : Int32)), some (.int (3 : Int32)), some (.int (0 : Int32)), some (.ref 2), none]) rfl rfl (Nat.le_of_ble_eq_true rfl) rfl ?_
          refine X_aload_n rfl rfl rfl rfl ?_
          refine X_getI (v := (-1 : Int32)) rfl rfl rfl ((congrFun F.1 349).trans s_349) rfl rfl ?_
          refine X_iconst (v := (-1 : Int32)) rfl rfl rfl ?_
          refine X_icmp_eq (tgt := 27) rfl rfl rfl (fun _ => ?_) (fun q => absurd q (by decide))
          refine X_iload_n rfl rfl rfl rfl ?_
          refine X_iload_n rfl rfl rfl rfl ?_
          refine X_icmp_ge (tgt := 37) rfl rfl rfl (fun q => absurd q (by decide)) (fun _ => ?_)
          refine X_iload_n rfl rfl rfl rfl ?_
          refine X_iconst (v := (4 : Int32)) rfl rfl rfl ?_
          refine X_icmp_lt (tgt := 66) rfl rfl rfl (fun _ => ?_) (fun q => absurd q (by decide))
          refine X_iload_n rfl rfl rfl rfl ?_
          refine X_if_ne (tgt := 74) rfl rfl rfl (fun q => absurd q (by decide)) (fun _ => ?_)
          refine X_iconst (v := (0 : Int32)) rfl rfl rfl ?_
          refine LW_goto (tgt := 84) rfl rfl ?_
          refine X_istore (i := 6) (ls' := [some (.ref 349), some (.int a), some (.int (0 : Int32)), some (.int (3 : Int32)), some (.int (0 : Int32)), some (.ref 2), some (.int (0 : Int32))]) rfl rfl (Nat.le_of_ble_eq_true rfl) rfl ?_
          refine X_iload rfl rfl rfl ?_
          refine X_aload rfl rfl rfl ?_
          refine X_getI (v := (0 : Int32)) rfl rfl rfl ((congrFun F.1 2).trans s_2) rfl ((congrFun (F.2.2 2 (by decide)).1 0).trans i_2_0) ?_
          refine X_icmp_ge (tgt := 141) rfl rfl rfl (fun _ => ?_) (fun q => absurd q (by decide))
          refine LW_return (st := []) rfl rfl ?_
          refine X_iinc (v := (4 : Int32)) (ls' := [some (.ref 349), some (.int a), some (.int (4 : Int32))]) rfl rfl rfl rfl rfl ?_
          refine LW_goto (tgt := 27) rfl rfl ?_
          refine X_iload_n rfl rfl rfl rfl ?_
          refine X_iconst (v := (4 : Int32)) rfl rfl rfl ?_
          refine X_icmp_gt (tgt := 46) rfl rfl rfl (fun q => absurd q (by decide)) (fun _ => ?_)
          refine X_aload_n rfl rfl rfl rfl ?_
          refine X_iload_n rfl rfl rfl rfl ?_
          refine X_iconst (v := (0 : Int32)) rfl rfl rfl ?_
          refine X_iload_n rfl rfl rfl rfl ?_
          refine X_iconst (v := (0 : Int32)) rfl rfl rfl ?_
          refine X_callV (as := [.int a, .int (0 : Int32), .int (4 : Int32), .int (0 : Int32)]) (st := []) rfl rfl rfl (by decide) rfl (Nat.le_of_ble_eq_true rfl) (by decide) (Nat.le_of_ble_eq_true rfl) rfl ((congrFun F.1 349).trans s_349) (by decide) ?_
          refine LW_ls (ls' := [some (.ref 349), some (.int a), some (.int (0 : Int32)), some (.int (4 : Int32)), some (.int (0 : Int32)), none, none]) rfl ?_
          refine X_aload_n rfl rfl rfl rfl ?_
          refine X_getR (a := 1) rfl rfl rfl ((congrFun F.1 349).trans s_349) rfl ((congrFun (F.2.1 349 (by decide)) 0).trans r_349_0) ?_
          refine X_getR (a := 2) rfl rfl rfl ((congrFun F.1 1).trans s_1) rfl ((congrFun (F.2.1 1 (by decide)) 0).trans r_1_0) ?_
          refine X_astore (i := 5) (ls' := [some (.ref 349), some (.int a), some (.int (0 : Int32)), some (.int (4 : Int32)), some (.int (0 : Int32)), some (.ref 2), none]) rfl rfl (Nat.le_of_ble_eq_true rfl) rfl ?_
          refine X_aload_n rfl rfl rfl rfl ?_
          refine X_getI (v := (-1 : Int32)) rfl rfl rfl ((congrFun F.1 349).trans s_349) rfl rfl ?_
          refine X_iconst (v := (-1 : Int32)) rfl rfl rfl ?_
          refine X_icmp_eq (tgt := 27) rfl rfl rfl (fun _ => ?_) (fun q => absurd q (by decide))
          refine X_iload_n rfl rfl rfl rfl ?_
          refine X_iload_n rfl rfl rfl rfl ?_
          refine X_icmp_ge (tgt := 37) rfl rfl rfl (fun q => absurd q (by decide)) (fun _ => ?_)
          refine X_iload_n rfl rfl rfl rfl ?_
          refine X_iconst (v := (4 : Int32)) rfl rfl rfl ?_
          refine X_icmp_lt (tgt := 66) rfl rfl rfl (fun _ => ?_) (fun q => absurd q (by decide))
          refine X_iload_n rfl rfl rfl rfl ?_
          refine X_if_ne (tgt := 74) rfl rfl rfl (fun q => absurd q (by decide)) (fun _ => ?_)
          refine X_iconst (v := (0 : Int32)) rfl rfl rfl ?_
          refine LW_goto (tgt := 84) rfl rfl ?_
          refine X_istore (i := 6) (ls' := [some (.ref 349), some (.int a), some (.int (0 : Int32)), some (.int (4 : Int32)), some (.int (0 : Int32)), some (.ref 2), some (.int (0 : Int32))]) rfl rfl (Nat.le_of_ble_eq_true rfl) rfl ?_
          refine X_iload rfl rfl rfl ?_
          refine X_aload rfl rfl rfl ?_
          refine X_getI (v := (0 : Int32)) rfl rfl rfl ((congrFun F.1 2).trans s_2) rfl ((congrFun (F.2.2 2 (by decide)).1 0).trans i_2_0) ?_
          refine X_icmp_ge (tgt := 141) rfl rfl rfl (fun _ => ?_) (fun q => absurd q (by decide))
          refine LW_return (st := []) rfl rfl ?_
          refine X_iinc (v := (5 : Int32)) (ls' := [some (.ref 349), some (.int a), some (.int (5 : Int32))]) rfl rfl rfl rfl rfl ?_
          refine LW_goto (tgt := 27) rfl rfl ?_
          refine X_iload_n rfl rfl rfl rfl ?_
          refine X_iconst (v := (4 : Int32)) rfl rfl rfl ?_
          refine X_icmp_gt (tgt := 46) rfl rfl rfl (fun _ => ?_) (fun q => absurd q (by decide))
          refine X_aload_n rfl rfl rfl rfl ?_
          refine X_getI (v := (-1 : Int32)) rfl rfl rfl ((congrFun F.1 349).trans s_349) rfl rfl ?_
          refine LW_ireturn (st := []) rfl rfl rfl ?_
          refine X_istore_n (i := 3) (ls' := [some (.ref 0), some (.int a), some (.int b), some (.int (-1 : Int32))]) rfl rfl rfl (Nat.le_of_ble_eq_true rfl) rfl ?_
          refine X_iload_n rfl rfl rfl rfl ?_
          refine X_iconst (v := (-1 : Int32)) rfl rfl rfl ?_
          refine X_icmp_eq (tgt := 38) rfl rfl rfl (fun h5 => ?_) (fun h5 => ?_)
          · refine X_iload_n rfl rfl rfl rfl ?_
            refine LW_goto (tgt := 51) rfl rfl ?_
            refine LW_ireturn (st := []) rfl rfl rfl ⟨congrArg (fun z => some (Value.int z)) ?_, (Fr_putI (Fr_putI (Fr_putI (Fr_putI (Fr_putI E (by decide)) (by decide)) (by decide)) (by decide)) (by decide))⟩
            simp only [Int32.lt_iff_toInt_lt, Int32.le_iff_toInt_le, ← Int32.toInt_inj, (show (-1 : Int32).toInt = -1 from rfl), (show (0 : Int32).toInt = 0 from rfl), (show (4 : Int32).toInt = 4 from rfl), (show (67108864 : Int32).toInt = 67108864 from rfl)] at h1 h2 h3 h4 h5
            unfold f_settlement
            repeat' split
            all_goals first | rfl | (exfalso; omega) | (refine Int32.toInt_inj.mp ?_; rw [show (0 : Int32).toInt = 0 from rfl]; omega)
          · refine X_iload_n rfl rfl rfl rfl ?_
            refine X_iconst (v := (-1 : Int32)) rfl rfl rfl ?_
            refine X_icmp_ne (tgt := 42) rfl rfl rfl (fun q => absurd q (by decide)) (fun _ => ?_)
            refine X_iload_n rfl rfl rfl rfl ?_
            refine LW_goto (tgt := 51) rfl rfl ?_
            refine LW_ireturn (st := []) rfl rfl rfl ⟨congrArg (fun z => some (Value.int z)) ?_, (Fr_putI (Fr_putI (Fr_putI (Fr_putI (Fr_putI E (by decide)) (by decide)) (by decide)) (by decide)) (by decide))⟩
            simp only [Int32.lt_iff_toInt_lt, Int32.le_iff_toInt_le, ← Int32.toInt_inj, (show (-1 : Int32).toInt = -1 from rfl), (show (0 : Int32).toInt = 0 from rfl), (show (4 : Int32).toInt = 4 from rfl), (show (67108864 : Int32).toInt = 67108864 from rfl)] at h1 h2 h3 h4 h5
            unfold f_settlement
            repeat' split
            all_goals first | rfl | (exfalso; omega) | (refine Int32.toInt_inj.mp ?_; rw [show (0 : Int32).toInt = 0 from rfl]; omega)
        · refine X_iconst (v := (-1 : Int32)) rfl rfl rfl ?_
          refine LW_ireturn (st := []) rfl rfl rfl ⟨congrArg (fun z => some (Value.int z)) ?_, E⟩
          simp only [Int32.lt_iff_toInt_lt, Int32.le_iff_toInt_le, ← Int32.toInt_inj, (show (-1 : Int32).toInt = -1 from rfl), (show (0 : Int32).toInt = 0 from rfl), (show (4 : Int32).toInt = 4 from rfl), (show (67108864 : Int32).toInt = 67108864 from rfl)] at h1 h2 h3 h4
          unfold f_settlement
          repeat' split
          all_goals first | rfl | (exfalso; omega) | (refine Int32.toInt_inj.mp ?_; rw [show (0 : Int32).toInt = 0 from rfl]; omega)
set_option maxRecDepth 10000 in
set_option maxHeartbeats 4000000 in
theorem r_settlement {g : LH} (F : Fr g) (a : Int32) (b : Int32) : LW 303 30 0 0 0 (lEnt (mL 303) [.ref 355, .int a, .int b]) [] g (fun v _ => v = some (.int (f_settlement a b))) := by
  refine LW_ls (ls' := [some (.ref 355), some (.int a), some (.int b), none, none]) rfl ?_
  refine X_iload_n rfl rfl rfl rfl ?_
  refine X_callS (as := [.int a]) (st := []) rfl rfl rfl (by decide) rfl (Nat.le_of_ble_eq_true rfl) (by decide) (Nat.le_of_ble_eq_true rfl) rfl ?_
  refine LW_ls (ls' := [some (.int a)]) rfl ?_
  refine X_iload_n rfl rfl rfl rfl ?_
  refine X_iconst (v := (1 : Int32)) rfl rfl rfl ?_
  refine X_ldc (v := (67108863 : Int32)) rfl rfl rfl ?_
  refine X_callS (as := [.int a, .int (1 : Int32), .int (67108863 : Int32)]) (st := []) rfl rfl rfl (by decide) rfl (Nat.le_of_ble_eq_true rfl) (by decide) (Nat.le_of_ble_eq_true rfl) rfl ?_
  refine LW_ls (ls' := [some (.int a), some (.int (1 : Int32)), some (.int (67108863 : Int32))]) rfl ?_
  refine X_iload_n rfl rfl rfl rfl ?_
  refine X_iload_n rfl rfl rfl rfl ?_
  refine X_icmp_lt (tgt := 14) rfl rfl rfl (fun h1 => ?_) (fun h1 => ?_)
  · refine X_iconst (v := (0 : Int32)) rfl rfl rfl ?_
    refine LW_ireturn (st := []) rfl rfl rfl ?_
    refine LW_ireturn (st := []) rfl rfl rfl ?_
    refine X_if_eq (tgt := 12) rfl rfl rfl (fun _ => ?_) (fun q => absurd q (by decide))
    refine X_iconst (v := (-1 : Int32)) rfl rfl rfl ?_
    refine LW_ireturn (st := []) rfl rfl rfl (congrArg (fun z => some (Value.int z)) ?_)
    simp only [Int32.lt_iff_toInt_lt, Int32.le_iff_toInt_le, ← Int32.toInt_inj, (show (1 : Int32).toInt = 1 from rfl)] at h1
    unfold f_settlement
    repeat' split
    all_goals first | rfl | (exfalso; omega) | (refine Int32.toInt_inj.mp ?_; rw [show (0 : Int32).toInt = 0 from rfl]; omega)
  · refine X_iload_n rfl rfl rfl rfl ?_
    refine X_iload_n rfl rfl rfl rfl ?_
    refine X_icmp_gt (tgt := 14) rfl rfl rfl (fun h2 => ?_) (fun h2 => ?_)
    · refine X_iconst (v := (0 : Int32)) rfl rfl rfl ?_
      refine LW_ireturn (st := []) rfl rfl rfl ?_
      refine LW_ireturn (st := []) rfl rfl rfl ?_
      refine X_if_eq (tgt := 12) rfl rfl rfl (fun _ => ?_) (fun q => absurd q (by decide))
      refine X_iconst (v := (-1 : Int32)) rfl rfl rfl ?_
      refine LW_ireturn (st := []) rfl rfl rfl (congrArg (fun z => some (Value.int z)) ?_)
      simp only [Int32.lt_iff_toInt_lt, Int32.le_iff_toInt_le, ← Int32.toInt_inj, (show (1 : Int32).toInt = 1 from rfl), (show (67108863 : Int32).toInt = 67108863 from rfl)] at h1 h2
      unfold f_settlement
      repeat' split
      all_goals first | rfl | (exfalso; omega) | (refine Int32.toInt_inj.mp ?_; rw [show (0 : Int32).toInt = 0 from rfl]; omega)
    · refine X_iconst (v := (1 : Int32)) rfl rfl rfl ?_
      refine LW_goto (tgt := 15) rfl rfl ?_
      refine LW_ireturn (st := []) rfl rfl rfl ?_
      refine LW_ireturn (st := []) rfl rfl rfl ?_
      refine X_if_eq (tgt := 12) rfl rfl rfl (fun q => absurd q (by decide)) (fun _ => ?_)
      refine X_iload_n rfl rfl rfl rfl ?_
      refine X_iconst (v := (-1 : Int32)) rfl rfl rfl ?_
      refine X_icmp_ge (tgt := 14) rfl rfl rfl (fun h3 => ?_) (fun h3 => ?_)
      · refine X_aload_n rfl rfl rfl rfl ?_
        refine X_ldcw (v := (1000000 : Int32)) rfl rfl rfl ?_
        refine X_putI rfl rfl rfl ((congrFun F.1 355).trans s_355) rfl rfl rfl rfl ?_
        refine X_aload_n rfl rfl rfl rfl ?_
        refine X_iconst (v := (0 : Int32)) rfl rfl rfl ?_
        refine X_putI rfl rfl rfl ((congrFun F.1 355).trans s_355) rfl rfl rfl rfl ?_
        refine X_iconst (v := (1 : Int32)) rfl rfl rfl ?_
        refine X_istore_n (i := 3) (ls' := [some (.ref 355), some (.int a), some (.int b), some (.int (1 : Int32)), none]) rfl rfl rfl (Nat.le_of_ble_eq_true rfl) rfl ?_
        refine X_iload_n rfl rfl rfl rfl ?_
        refine X_iconst (v := (4 : Int32)) rfl rfl rfl ?_
        refine X_icmp_gt (tgt := 84) rfl rfl rfl (fun q => absurd q (by decide)) (fun _ => ?_)
        refine X_iload_n rfl rfl rfl rfl ?_
        refine X_aload_n rfl rfl rfl rfl ?_
        refine X_getR (a := 356) rfl rfl rfl ((congrFun F.1 355).trans s_355) rfl ((congrFun (F.2.1 355 (by decide)) 0).trans r_355_0) ?_
        refine X_iconst (v := (0 : Int32)) rfl rfl rfl ?_
        refine X_iald (v := (0 : Int32)) rfl rfl ((congrFun F.1 356).trans s_356) (vp_in_d rfl) ((congrFun (F.2.2 356 (by decide)).1 0).trans i_356_0) ?_
        refine X_icmp_gt (tgt := 84) rfl rfl rfl (fun _ => ?_) (fun q => absurd q (by decide))
        refine X_aload_n rfl rfl rfl rfl ?_
        refine X_getI (v := (1000000 : Int32)) rfl rfl rfl ((congrFun F.1 355).trans s_355) rfl rfl ?_
        refine X_ldcw (v := (1000000 : Int32)) rfl rfl rfl ?_
        refine X_icmp_ne (tgt := 96) rfl rfl rfl (fun q => absurd q (by decide)) (fun _ => ?_)
        refine X_iconst (v := (-1 : Int32)) rfl rfl rfl ?_
        refine LW_ireturn (st := []) rfl rfl rfl (congrArg (fun z => some (Value.int z)) ?_)
        simp only [Int32.lt_iff_toInt_lt, Int32.le_iff_toInt_le, ← Int32.toInt_inj, (show (-1 : Int32).toInt = -1 from rfl), (show (1 : Int32).toInt = 1 from rfl), (show (67108863 : Int32).toInt = 67108863 from rfl)] at h1 h2 h3
        unfold f_settlement
        repeat' split
        all_goals first | rfl | (exfalso; omega) | (refine Int32.toInt_inj.mp ?_; rw [show (0 : Int32).toInt = 0 from rfl]; omega)
      · refine X_iconst (v := (-1 : Int32)) rfl rfl rfl ?_
        refine LW_ireturn (st := []) rfl rfl rfl (congrArg (fun z => some (Value.int z)) ?_)
        simp only [Int32.lt_iff_toInt_lt, Int32.le_iff_toInt_le, ← Int32.toInt_inj, (show (-1 : Int32).toInt = -1 from rfl), (show (1 : Int32).toInt = 1 from rfl), (show (67108863 : Int32).toInt = 67108863 from rfl)] at h1 h2 h3
        unfold f_settlement
        repeat' split
        all_goals first | rfl | (exfalso; omega) | (refine Int32.toInt_inj.mp ?_; rw [show (0 : Int32).toInt = 0 from rfl]; omega)
