/-! walks printed by wip/p1/walk.py: feed -/
def f_feed (a : Int32) (b : Int32) (c : Int32) (d : Int32) (e : Int32) : Int32 := 20
set_option maxRecDepth 10000 in
set_option maxHeartbeats 4000000 in
theorem c_feed {g : LH} (F : Fc g) (E : Fr g) (a : Int32) (b : Int32) (c : Int32) (d : Int32) (e : Int32) : LW 129 30 0 0 0 (lEnt (mL 129) [.ref 0, .int a, .int b, .int c, .int d, .int e]) [] g (fun v g' => v = some (.int (f_feed a b c d e)) ∧ Fr g') := by
  refine LW_ls (ls' := [some (.ref 0), some (.int a), some (.int b), some (.int c), some (.int d), some (.int e)]) rfl ?_
  refine X_aload_n rfl rfl rfl rfl ?_
  refine X_getR (a := 332) rfl rfl rfl ((congrFun F.1 0).trans s_0) rfl ((congrFun (F.2.1 0 (by decide)) 3).trans r_0_3) ?_
  refine X_bipush (v := (20 : Int32)) rfl rfl rfl ?_
  refine X_callV (as := [.int (20 : Int32)]) (st := []) rfl rfl rfl (by decide) rfl (Nat.le_of_ble_eq_true rfl) (by decide) (Nat.le_of_ble_eq_true rfl) rfl ((congrFun F.1 332).trans s_332) (by decide) ?_
  refine LW_ls (ls' := [some (.ref 332), some (.int (20 : Int32))]) rfl ?_
  refine X_aload_n rfl rfl rfl rfl ?_
  refine X_getI (v := (0 : Int32)) rfl rfl rfl ((congrFun F.1 332).trans s_332) rfl ((congrFun (F.2.2 332 (by decide)).1 0).trans i_332_0) ?_
  refine X_iload_n rfl rfl rfl rfl ?_
  refine X_iadd (v := (20 : Int32)) rfl rfl rfl ?_
  refine X_sipush (v := (300 : Int32)) rfl rfl rfl ?_
  refine X_icmp_gt (tgt := 16) rfl rfl rfl (fun q => absurd q (by decide)) (fun _ => ?_)
  refine X_iconst (v := (1 : Int32)) rfl rfl rfl ?_
  refine LW_goto (tgt := 17) rfl rfl ?_
  refine LW_ireturn (st := []) rfl rfl rfl ?_
  refine X_if_ne (tgt := 14) rfl rfl rfl (fun _ => ?_) (fun q => absurd q (by decide))
  refine X_aload_n rfl rfl rfl rfl ?_
  refine X_getR (a := 332) rfl rfl rfl ((congrFun F.1 0).trans s_0) rfl ((congrFun (F.2.1 0 (by decide)) 3).trans r_0_3) ?_
  refine X_iload_n rfl rfl rfl rfl ?_
  refine X_callV (as := [.int a]) (st := []) rfl rfl rfl (by decide) rfl (Nat.le_of_ble_eq_true rfl) (by decide) (Nat.le_of_ble_eq_true rfl) rfl ((congrFun F.1 332).trans s_332) (by decide) ?_
  refine LW_ls (ls' := [some (.ref 332), some (.int a), none]) rfl ?_
  refine X_bipush (v := (24 : Int32)) rfl rfl rfl ?_
  refine X_istore_n (i := 2) (ls' := [some (.ref 332), some (.int a), some (.int (24 : Int32))]) rfl rfl rfl (Nat.le_of_ble_eq_true rfl) rfl ?_
  refine X_iload_n rfl rfl rfl rfl ?_
  refine X_if_lt (tgt := 49) rfl rfl rfl (fun q => absurd q (by decide)) (fun _ => ?_)
  refine X_aload_n rfl rfl rfl rfl ?_
  refine X_getI (v := (0 : Int32)) rfl rfl rfl ((congrFun F.1 332).trans s_332) rfl ((congrFun (F.2.2 332 (by decide)).1 0).trans i_332_0) ?_
  refine X_sipush (v := (300 : Int32)) rfl rfl rfl ?_
  refine X_icmp_ge (tgt := 43) rfl rfl rfl (fun q => absurd q (by decide)) (fun _ => ?_)
  refine X_aload_n rfl rfl rfl rfl ?_
  refine X_getR (a := 333) rfl rfl rfl ((congrFun F.1 332).trans s_332) rfl ((congrFun (F.2.1 332 (by decide)) 1).trans r_332_1) ?_
  refine X_aload_n rfl rfl rfl rfl ?_
  refine X_getI (v := (0 : Int32)) rfl rfl rfl ((congrFun F.1 332).trans s_332) rfl ((congrFun (F.2.2 332 (by decide)).1 0).trans i_332_0) ?_
  refine X_iload_n rfl rfl rfl rfl ?_
  refine X_iload_n rfl rfl rfl rfl ?_
  refine X_iushr (v := ((a).toUInt32 >>> (((24 : Int32)).toUInt32 &&& Int32.toUInt32 31)).toInt32) rfl rfl rfl ?_
  refine X_sipush (v := (255 : Int32)) rfl rfl rfl ?_
  refine X_iand (v := (((a).toUInt32 >>> (((24 : Int32)).toUInt32 &&& Int32.toUInt32 31)).toInt32 &&& (255 : Int32))) rfl rfl rfl ?_
  refine X_iast (k0 := 0) rfl rfl ((congrFun F.1 333).trans s_333) (vp_in_d rfl) rfl ?_
  refine X_aload_n rfl rfl rfl rfl ?_
  refine X_dup rfl rfl rfl ?_
  refine X_getI (v := (0 : Int32)) rfl rfl rfl ((congrFun F.1 332).trans s_332) rfl ((congrFun (F.2.2 332 (by decide)).1 0).trans i_332_0) ?_
  refine X_iconst (v := (1 : Int32)) rfl rfl rfl ?_
  refine X_iadd (v := (1 : Int32)) rfl rfl rfl ?_
  refine X_putI rfl rfl rfl ((congrFun F.1 332).trans s_332) rfl rfl rfl rfl ?_
  refine X_iinc (v := (16 : Int32)) (ls' := [some (.ref 332), some (.int a), some (.int (16 : Int32))]) rfl rfl rfl rfl rfl ?_
  refine LW_goto (tgt := 3) rfl rfl ?_
  refine X_iload_n rfl rfl rfl rfl ?_
  refine X_if_lt (tgt := 49) rfl rfl rfl (fun q => absurd q (by decide)) (fun _ => ?_)
  refine X_aload_n rfl rfl rfl rfl ?_
  refine X_getI (v := (1 : Int32)) rfl rfl rfl ((congrFun F.1 332).trans s_332) rfl rfl ?_
  refine X_sipush (v := (300 : Int32)) rfl rfl rfl ?_
  refine X_icmp_ge (tgt := 43) rfl rfl rfl (fun q => absurd q (by decide)) (fun _ => ?_)
  refine X_aload_n rfl rfl rfl rfl ?_
  refine X_getR (a := 333) rfl rfl rfl ((congrFun F.1 332).trans s_332) rfl ((congrFun (F.2.1 332 (by decide)) 1).trans r_332_1) ?_
  refine X_aload_n rfl rfl rfl rfl ?_
  refine X_getI (v := (1 : Int32)) rfl rfl rfl ((congrFun F.1 332).trans s_332) rfl rfl ?_
  refine X_iload_n rfl rfl rfl rfl ?_
  refine X_iload_n rfl rfl rfl rfl ?_
  refine X_iushr (v := ((a).toUInt32 >>> (((16 : Int32)).toUInt32 &&& Int32.toUInt32 31)).toInt32) rfl rfl rfl ?_
  refine X_sipush (v := (255 : Int32)) rfl rfl rfl ?_
  refine X_iand (v := (((a).toUInt32 >>> (((16 : Int32)).toUInt32 &&& Int32.toUInt32 31)).toInt32 &&& (255 : Int32))) rfl rfl rfl ?_
  refine X_iast (k0 := 1) rfl rfl ((congrFun F.1 333).trans s_333) (vp_in_d rfl) rfl ?_
  refine X_aload_n rfl rfl rfl rfl ?_
  refine X_dup rfl rfl rfl ?_
  refine X_getI (v := (1 : Int32)) rfl rfl rfl ((congrFun F.1 332).trans s_332) rfl rfl ?_
  refine X_iconst (v := (1 : Int32)) rfl rfl rfl ?_
  refine X_iadd (v := (2 : Int32)) rfl rfl rfl ?_
  refine X_putI rfl rfl rfl ((congrFun F.1 332).trans s_332) rfl rfl rfl rfl ?_
  refine X_iinc (v := (8 : Int32)) (ls' := [some (.ref 332), some (.int a), some (.int (8 : Int32))]) rfl rfl rfl rfl rfl ?_
  refine LW_goto (tgt := 3) rfl rfl ?_
  refine X_iload_n rfl rfl rfl rfl ?_
  refine X_if_lt (tgt := 49) rfl rfl rfl (fun q => absurd q (by decide)) (fun _ => ?_)
  refine X_aload_n rfl rfl rfl rfl ?_
  refine X_getI (v := (2 : Int32)) rfl rfl rfl ((congrFun F.1 332).trans s_332) rfl rfl ?_
  refine X_sipush (v := (300 : Int32)) rfl rfl rfl ?_
  refine X_icmp_ge (tgt := 43) rfl rfl rfl (fun q => absurd q (by decide)) (fun _ => ?_)
  refine X_aload_n rfl rfl rfl rfl ?_
  refine X_getR (a := 333) rfl rfl rfl ((congrFun F.1 332).trans s_332) rfl ((congrFun (F.2.1 332 (by decide)) 1).trans r_332_1) ?_
  refine X_aload_n rfl rfl rfl rfl ?_
  refine X_getI (v := (2 : Int32)) rfl rfl rfl ((congrFun F.1 332).trans s_332) rfl rfl ?_
  refine X_iload_n rfl rfl rfl rfl ?_
  refine X_iload_n rfl rfl rfl rfl ?_
  refine X_iushr (v := ((a).toUInt32 >>> (((8 : Int32)).toUInt32 &&& Int32.toUInt32 31)).toInt32) rfl rfl rfl ?_
  refine X_sipush (v := (255 : Int32)) rfl rfl rfl ?_
  refine X_iand (v := (((a).toUInt32 >>> (((8 : Int32)).toUInt32 &&& Int32.toUInt32 31)).toInt32 &&& (255 : Int32))) rfl rfl rfl ?_
  refine X_iast (k0 := 2) rfl rfl ((congrFun F.1 333).trans s_333) (vp_in_d rfl) rfl ?_
  refine X_aload_n rfl rfl rfl rfl ?_
  refine X_dup rfl rfl rfl ?_
  refine X_getI (v := (2 : Int32)) rfl rfl rfl ((congrFun F.1 332).trans s_332) rfl rfl ?_
  refine X_iconst (v := (1 : Int32)) rfl rfl rfl ?_
  refine X_iadd (v := (3 : Int32)) rfl rfl rfl ?_
  refine X_putI rfl rfl rfl ((congrFun F.1 332).trans s_332) rfl rfl rfl rfl ?_
  refine X_iinc (v := (0 : Int32)) (ls' := [some (.ref 332), some (.int a), some (.int (0 : Int32))]) rfl rfl rfl rfl rfl ?_
  refine LW_goto (tgt := 3) rfl rfl ?_
  refine X_iload_n rfl rfl rfl rfl ?_
  refine X_if_lt (tgt := 49) rfl rfl rfl (fun q => absurd q (by decide)) (fun _ => ?_)
  refine X_aload_n rfl rfl rfl rfl ?_
  refine X_getI (v := (3 : Int32)) rfl rfl rfl ((congrFun F.1 332).trans s_332) rfl rfl ?_
  refine X_sipush (v := (300 : Int32)) rfl rfl rfl ?_
  refine X_icmp_ge (tgt := 43) rfl rfl rfl (fun q => absurd q (by decide)) (fun _ => ?_)
  refine X_aload_n rfl rfl rfl rfl ?_
  refine X_getR (a := 333) rfl rfl rfl ((congrFun F.1 332).trans s_332) rfl ((congrFun (F.2.1 332 (by decide)) 1).trans r_332_1) ?_
  refine X_aload_n rfl rfl rfl rfl ?_
  refine X_getI (v := (3 : Int32)) rfl rfl rfl ((congrFun F.1 332).trans s_332) rfl rfl ?_
  refine X_iload_n rfl rfl rfl rfl ?_
  refine X_iload_n rfl rfl rfl rfl ?_
  refine X_iushr (v := ((a).toUInt32 >>> (((0 : Int32)).toUInt32 &&& Int32.toUInt32 31)).toInt32) rfl rfl rfl ?_
  refine X_sipush (v := (255 : Int32)) rfl rfl rfl ?_
  refine X_iand (v := (((a).toUInt32 >>> (((0 : Int32)).toUInt32 &&& Int32.toUInt32 31)).toInt32 &&& (255 : Int32))) rfl rfl rfl ?_
  refine X_iast (k0 := 3) rfl rfl ((congrFun F.1 333).trans s_333) (vp_in_d rfl) rfl ?_
  refine X_aload_n rfl rfl rfl rfl ?_
  refine X_dup rfl rfl rfl ?_
  refine X_getI (v := (3 : Int32)) rfl rfl rfl ((congrFun F.1 332).trans s_332) rfl rfl ?_
  refine X_iconst (v := (1 : Int32)) rfl rfl rfl ?_
  refine X_iadd (v := (4 : Int32)) rfl rfl rfl ?_
  refine X_putI rfl rfl rfl ((congrFun F.1 332).trans s_332) rfl rfl rfl rfl ?_
  refine X_iinc (v := (-8 : Int32)) (ls' := [some (.ref 332), some (.int a), some (.int (-8 : Int32))]) rfl rfl rfl rfl rfl ?_
  refine LW_goto (tgt := 3) rfl rfl ?_
  refine X_iload_n rfl rfl rfl rfl ?_
  refine X_if_lt (tgt := 49) rfl rfl rfl (fun _ => ?_) (fun q => absurd q (by decide))
  refine LW_return (st := []) rfl rfl ?_
  refine X_aload_n rfl rfl rfl rfl ?_
  refine X_getR (a := 332) rfl rfl rfl ((congrFun F.1 0).trans s_0) rfl ((congrFun (F.2.1 0 (by decide)) 3).trans r_0_3) ?_
  refine X_iload_n rfl rfl rfl rfl ?_
  refine X_callV (as := [.int b]) (st := []) rfl rfl rfl (by decide) rfl (Nat.le_of_ble_eq_true rfl) (by decide) (Nat.le_of_ble_eq_true rfl) rfl ((congrFun F.1 332).trans s_332) (by decide) ?_
  refine LW_ls (ls' := [some (.ref 332), some (.int b), none]) rfl ?_
  refine X_bipush (v := (24 : Int32)) rfl rfl rfl ?_
  refine X_istore_n (i := 2) (ls' := [some (.ref 332), some (.int b), some (.int (24 : Int32))]) rfl rfl rfl (Nat.le_of_ble_eq_true rfl) rfl ?_
  refine X_iload_n rfl rfl rfl rfl ?_
  refine X_if_lt (tgt := 49) rfl rfl rfl (fun q => absurd q (by decide)) (fun _ => ?_)
  refine X_aload_n rfl rfl rfl rfl ?_
  refine X_getI (v := (4 : Int32)) rfl rfl rfl ((congrFun F.1 332).trans s_332) rfl rfl ?_
  refine X_sipush (v := (300 : Int32)) rfl rfl rfl ?_
  refine X_icmp_ge (tgt := 43) rfl rfl rfl (fun q => absurd q (by decide)) (fun _ => ?_)
  refine X_aload_n rfl rfl rfl rfl ?_
  refine X_getR (a := 333) rfl rfl rfl ((congrFun F.1 332).trans s_332) rfl ((congrFun (F.2.1 332 (by decide)) 1).trans r_332_1) ?_
  refine X_aload_n rfl rfl rfl rfl ?_
  refine X_getI (v := (4 : Int32)) rfl rfl rfl ((congrFun F.1 332).trans s_332) rfl rfl ?_
  refine X_iload_n rfl rfl rfl rfl ?_
  refine X_iload_n rfl rfl rfl rfl ?_
  refine X_iushr (v := ((b).toUInt32 >>> (((24 : Int32)).toUInt32 &&& Int32.toUInt32 31)).toInt32) rfl rfl rfl ?_
  refine X_sipush (v := (255 : Int32)) rfl rfl rfl ?_
  refine X_iand (v := (((b).toUInt32 >>> (((24 : Int32)).toUInt32 &&& Int32.toUInt32 31)).toInt32 &&& (255 : Int32))) rfl rfl rfl ?_
  refine X_iast (k0 := 4) rfl rfl ((congrFun F.1 333).trans s_333) (vp_in_d rfl) rfl ?_
  refine X_aload_n rfl rfl rfl rfl ?_
  refine X_dup rfl rfl rfl ?_
  refine X_getI (v := (4 : Int32)) rfl rfl rfl ((congrFun F.1 332).trans s_332) rfl rfl ?_
  refine X_iconst (v := (1 : Int32)) rfl rfl rfl ?_
  refine X_iadd (v := (5 : Int32)) rfl rfl rfl ?_
  refine X_putI rfl rfl rfl ((congrFun F.1 332).trans s_332) rfl rfl rfl rfl ?_
  refine X_iinc (v := (16 : Int32)) (ls' := [some (.ref 332), some (.int b), some (.int (16 : Int32))]) rfl rfl rfl rfl rfl ?_
  refine LW_goto (tgt := 3) rfl rfl ?_
  refine X_iload_n rfl rfl rfl rfl ?_
  refine X_if_lt (tgt := 49) rfl rfl rfl (fun q => absurd q (by decide)) (fun _ => ?_)
  refine X_aload_n rfl rfl rfl rfl ?_
  refine X_getI (v := (5 : Int32)) rfl rfl rfl ((congrFun F.1 332).trans s_332) rfl rfl ?_
  refine X_sipush (v := (300 : Int32)) rfl rfl rfl ?_
  refine X_icmp_ge (tgt := 43) rfl rfl rfl (fun q => absurd q (by decide)) (fun _ => ?_)
  refine X_aload_n rfl rfl rfl rfl ?_
  refine X_getR (a := 333) rfl rfl rfl ((congrFun F.1 332).trans s_332) rfl ((congrFun (F.2.1 332 (by decide)) 1).trans r_332_1) ?_
  refine X_aload_n rfl rfl rfl rfl ?_
  refine X_getI (v := (5 : Int32)) rfl rfl rfl ((congrFun F.1 332).trans s_332) rfl rfl ?_
  refine X_iload_n rfl rfl rfl rfl ?_
  refine X_iload_n rfl rfl rfl rfl ?_
  refine X_iushr (v := ((b).toUInt32 >>> (((16 : Int32)).toUInt32 &&& Int32.toUInt32 31)).toInt32) rfl rfl rfl ?_
  refine X_sipush (v := (255 : Int32)) rfl rfl rfl ?_
  refine X_iand (v := (((b).toUInt32 >>> (((16 : Int32)).toUInt32 &&& Int32.toUInt32 31)).toInt32 &&& (255 : Int32))) rfl rfl rfl ?_
  refine X_iast (k0 := 5) rfl rfl ((congrFun F.1 333).trans s_333) (vp_in_d rfl) rfl ?_
  refine X_aload_n rfl rfl rfl rfl ?_
  refine X_dup rfl rfl rfl ?_
  refine X_getI (v := (5 : Int32)) rfl rfl rfl ((congrFun F.1 332).trans s_332) rfl rfl ?_
  refine X_iconst (v := (1 : Int32)) rfl rfl rfl ?_
  refine X_iadd (v := (6 : Int32)) rfl rfl rfl ?_
  refine X_putI rfl rfl rfl ((congrFun F.1 332).trans s_332) rfl rfl rfl rfl ?_
  refine X_iinc (v := (8 : Int32)) (ls' := [some (.ref 332), some (.int b), some (.int (8 : Int32))]) rfl rfl rfl rfl rfl ?_
  refine LW_goto (tgt := 3) rfl rfl ?_
  refine X_iload_n rfl rfl rfl rfl ?_
  refine X_if_lt (tgt := 49) rfl rfl rfl (fun q => absurd q (by decide)) (fun _ => ?_)
  refine X_aload_n rfl rfl rfl rfl ?_
  refine X_getI (v := (6 : Int32)) rfl rfl rfl ((congrFun F.1 332).trans s_332) rfl rfl ?_
  refine X_sipush (v := (300 : Int32)) rfl rfl rfl ?_
  refine X_icmp_ge (tgt := 43) rfl rfl rfl (fun q => absurd q (by decide)) (fun _ => ?_)
  refine X_aload_n rfl rfl rfl rfl ?_
  refine X_getR (a := 333) rfl rfl rfl ((congrFun F.1 332).trans s_332) rfl ((congrFun (F.2.1 332 (by decide)) 1).trans r_332_1) ?_
  refine X_aload_n rfl rfl rfl rfl ?_
  refine X_getI (v := (6 : Int32)) rfl rfl rfl ((congrFun F.1 332).trans s_332) rfl rfl ?_
  refine X_iload_n rfl rfl rfl rfl ?_
  refine X_iload_n rfl rfl rfl rfl ?_
  refine X_iushr (v := ((b).toUInt32 >>> (((8 : Int32)).toUInt32 &&& Int32.toUInt32 31)).toInt32) rfl rfl rfl ?_
  refine X_sipush (v := (255 : Int32)) rfl rfl rfl ?_
  refine X_iand (v := (((b).toUInt32 >>> (((8 : Int32)).toUInt32 &&& Int32.toUInt32 31)).toInt32 &&& (255 : Int32))) rfl rfl rfl ?_
  refine X_iast (k0 := 6) rfl rfl ((congrFun F.1 333).trans s_333) (vp_in_d rfl) rfl ?_
  refine X_aload_n rfl rfl rfl rfl ?_
  refine X_dup rfl rfl rfl ?_
  refine X_getI (v := (6 : Int32)) rfl rfl rfl ((congrFun F.1 332).trans s_332) rfl rfl ?_
  refine X_iconst (v := (1 : Int32)) rfl rfl rfl ?_
  refine X_iadd (v := (7 : Int32)) rfl rfl rfl ?_
  refine X_putI rfl rfl rfl ((congrFun F.1 332).trans s_332) rfl rfl rfl rfl ?_
  refine X_iinc (v := (0 : Int32)) (ls' := [some (.ref 332), some (.int b), some (.int (0 : Int32))]) rfl rfl rfl rfl rfl ?_
  refine LW_goto (tgt := 3) rfl rfl ?_
  refine X_iload_n rfl rfl rfl rfl ?_
  refine X_if_lt (tgt := 49) rfl rfl rfl (fun q => absurd q (by decide)) (fun _ => ?_)
  refine X_aload_n rfl rfl rfl rfl ?_
  refine X_getI (v := (7 : Int32)) rfl rfl rfl ((congrFun F.1 332).trans s_332) rfl rfl ?_
  refine X_sipush (v := (300 : Int32)) rfl rfl rfl ?_
  refine X_icmp_ge (tgt := 43) rfl rfl rfl (fun q => absurd q (by decide)) (fun _ => ?_)
  refine X_aload_n rfl rfl rfl rfl ?_
  refine X_getR (a := 333) rfl rfl rfl ((congrFun F.1 332).trans s_332) rfl ((congrFun (F.2.1 332 (by decide)) 1).trans r_332_1) ?_
  refine X_aload_n rfl rfl rfl rfl ?_
  refine X_getI (v := (7 : Int32)) rfl rfl rfl ((congrFun F.1 332).trans s_332) rfl rfl ?_
  refine X_iload_n rfl rfl rfl rfl ?_
  refine X_iload_n rfl rfl rfl rfl ?_
  refine X_iushr (v := ((b).toUInt32 >>> (((0 : Int32)).toUInt32 &&& Int32.toUInt32 31)).toInt32) rfl rfl rfl ?_
  refine X_sipush (v := (255 : Int32)) rfl rfl rfl ?_
  refine X_iand (v := (((b).toUInt32 >>> (((0 : Int32)).toUInt32 &&& Int32.toUInt32 31)).toInt32 &&& (255 : Int32))) rfl rfl rfl ?_
  refine X_iast (k0 := 7) rfl rfl ((congrFun F.1 333).trans s_333) (vp_in_d rfl) rfl ?_
  refine X_aload_n rfl rfl rfl rfl ?_
  refine X_dup rfl rfl rfl ?_
  refine X_getI (v := (7 : Int32)) rfl rfl rfl ((congrFun F.1 332).trans s_332) rfl rfl ?_
  refine X_iconst (v := (1 : Int32)) rfl rfl rfl ?_
  refine X_iadd (v := (8 : Int32)) rfl rfl rfl ?_
  refine X_putI rfl rfl rfl ((congrFun F.1 332).trans s_332) rfl rfl rfl rfl ?_
  refine X_iinc (v := (-8 : Int32)) (ls' := [some (.ref 332), some (.int b), some (.int (-8 : Int32))]) rfl rfl rfl rfl rfl ?_
  refine LW_goto (tgt := 3) rfl rfl ?_
  refine X_iload_n rfl rfl rfl rfl ?_
  refine X_if_lt (tgt := 49) rfl rfl rfl (fun _ => ?_) (fun q => absurd q (by decide))
  refine LW_return (st := []) rfl rfl ?_
  refine X_aload_n rfl rfl rfl rfl ?_
  refine X_getR (a := 332) rfl rfl rfl ((congrFun F.1 0).trans s_0) rfl ((congrFun (F.2.1 0 (by decide)) 3).trans r_0_3) ?_
  refine X_iload_n rfl rfl rfl rfl ?_
  refine X_callV (as := [.int c]) (st := []) rfl rfl rfl (by decide) rfl (Nat.le_of_ble_eq_true rfl) (by decide) (Nat.le_of_ble_eq_true rfl) rfl ((congrFun F.1 332).trans s_332) (by decide) ?_
  refine LW_ls (ls' := [some (.ref 332), some (.int c), none]) rfl ?_
  refine X_bipush (v := (24 : Int32)) rfl rfl rfl ?_
  refine X_istore_n (i := 2) (ls' := [some (.ref 332), some (.int c), some (.int (24 : Int32))]) rfl rfl rfl (Nat.le_of_ble_eq_true rfl) rfl ?_
  refine X_iload_n rfl rfl rfl rfl ?_
  refine X_if_lt (tgt := 49) rfl rfl rfl (fun q => absurd q (by decide)) (fun _ => ?_)
  refine X_aload_n rfl rfl rfl rfl ?_
  refine X_getI (v := (8 : Int32)) rfl rfl rfl ((congrFun F.1 332).trans s_332) rfl rfl ?_
  refine X_sipush (v := (300 : Int32)) rfl rfl rfl ?_
  refine X_icmp_ge (tgt := 43) rfl rfl rfl (fun q => absurd q (by decide)) (fun _ => ?_)
  refine X_aload_n rfl rfl rfl rfl ?_
  refine X_getR (a := 333) rfl rfl rfl ((congrFun F.1 332).trans s_332) rfl ((congrFun (F.2.1 332 (by decide)) 1).trans r_332_1) ?_
  refine X_aload_n rfl rfl rfl rfl ?_
  refine X_getI (v := (8 : Int32)) rfl rfl rfl ((congrFun F.1 332).trans s_332) rfl rfl ?_
  refine X_iload_n rfl rfl rfl rfl ?_
  refine X_iload_n rfl rfl rfl rfl ?_
  refine X_iushr (v := ((c).toUInt32 >>> (((24 : Int32)).toUInt32 &&& Int32.toUInt32 31)).toInt32) rfl rfl rfl ?_
  refine X_sipush (v := (255 : Int32)) rfl rfl rfl ?_
  refine X_iand (v := (((c).toUInt32 >>> (((24 : Int32)).toUInt32 &&& Int32.toUInt32 31)).toInt32 &&& (255 : Int32))) rfl rfl rfl ?_
  refine X_iast (k0 := 8) rfl rfl ((congrFun F.1 333).trans s_333) (vp_in_d rfl) rfl ?_
  refine X_aload_n rfl rfl rfl rfl ?_
  refine X_dup rfl rfl rfl ?_
  refine X_getI (v := (8 : Int32)) rfl rfl rfl ((congrFun F.1 332).trans s_332) rfl rfl ?_
  refine X_iconst (v := (1 : Int32)) rfl rfl rfl ?_
  refine X_iadd (v := (9 : Int32)) rfl rfl rfl ?_
  refine X_putI rfl rfl rfl ((congrFun F.1 332).trans s_332) rfl rfl rfl rfl ?_
  refine X_iinc (v := (16 : Int32)) (ls' := [some (.ref 332), some (.int c), some (.int (16 : Int32))]) rfl rfl rfl rfl rfl ?_
  refine LW_goto (tgt := 3) rfl rfl ?_
  refine X_iload_n rfl rfl rfl rfl ?_
  refine X_if_lt (tgt := 49) rfl rfl rfl (fun q => absurd q (by decide)) (fun _ => ?_)
  refine X_aload_n rfl rfl rfl rfl ?_
  refine X_getI (v := (9 : Int32)) rfl rfl rfl ((congrFun F.1 332).trans s_332) rfl rfl ?_
  refine X_sipush (v := (300 : Int32)) rfl rfl rfl ?_
  refine X_icmp_ge (tgt := 43) rfl rfl rfl (fun q => absurd q (by decide)) (fun _ => ?_)
  refine X_aload_n rfl rfl rfl rfl ?_
  refine X_getR (a := 333) rfl rfl rfl ((congrFun F.1 332).trans s_332) rfl ((congrFun (F.2.1 332 (by decide)) 1).trans r_332_1) ?_
  refine X_aload_n rfl rfl rfl rfl ?_
  refine X_getI (v := (9 : Int32)) rfl rfl rfl ((congrFun F.1 332).trans s_332) rfl rfl ?_
  refine X_iload_n rfl rfl rfl rfl ?_
  refine X_iload_n rfl rfl rfl rfl ?_
  refine X_iushr (v := ((c).toUInt32 >>> (((16 : Int32)).toUInt32 &&& Int32.toUInt32 31)).toInt32) rfl rfl rfl ?_
  refine X_sipush (v := (255 : Int32)) rfl rfl rfl ?_
  refine X_iand (v := (((c).toUInt32 >>> (((16 : Int32)).toUInt32 &&& Int32.toUInt32 31)).toInt32 &&& (255 : Int32))) rfl rfl rfl ?_
  refine X_iast (k0 := 9) rfl rfl ((congrFun F.1 333).trans s_333) (vp_in_d rfl) rfl ?_
  refine X_aload_n rfl rfl rfl rfl ?_
  refine X_dup rfl rfl rfl ?_
  refine X_getI (v := (9 : Int32)) rfl rfl rfl ((congrFun F.1 332).trans s_332) rfl rfl ?_
  refine X_iconst (v := (1 : Int32)) rfl rfl rfl ?_
  refine X_iadd (v := (10 : Int32)) rfl rfl rfl ?_
  refine X_putI rfl rfl rfl ((congrFun F.1 332).trans s_332) rfl rfl rfl rfl ?_
  refine X_iinc (v := (8 : Int32)) (ls' := [some (.ref 332), some (.int c), some (.int (8 : Int32))]) rfl rfl rfl rfl rfl ?_
  refine LW_goto (tgt := 3) rfl rfl ?_
  refine X_iload_n rfl rfl rfl rfl ?_
  refine X_if_lt (tgt := 49) rfl rfl rfl (fun q => absurd q (by decide)) (fun _ => ?_)
  refine X_aload_n rfl rfl rfl rfl ?_
  refine X_getI (v := (10 : Int32)) rfl rfl rfl ((congrFun F.1 332).trans s_332) rfl rfl ?_
  refine X_sipush (v := (300 : Int32)) rfl rfl rfl ?_
  refine X_icmp_ge (tgt := 43) rfl rfl rfl (fun q => absurd q (by decide)) (fun _ => ?_)
  refine X_aload_n rfl rfl rfl rfl ?_
  refine X_getR (a := 333) rfl rfl rfl ((congrFun F.1 332).trans s_332) rfl ((congrFun (F.2.1 332 (by decide)) 1).trans r_332_1) ?_
  refine X_aload_n rfl rfl rfl rfl ?_
  refine X_getI (v := (10 : Int32)) rfl rfl rfl ((congrFun F.1 332).trans s_332) rfl rfl ?_
  refine X_iload_n rfl rfl rfl rfl ?_
  refine X_iload_n rfl rfl rfl rfl ?_
  refine X_iushr (v := ((c).toUInt32 >>> (((8 : Int32)).toUInt32 &&& Int32.toUInt32 31)).toInt32) rfl rfl rfl ?_
  refine X_sipush (v := (255 : Int32)) rfl rfl rfl ?_
  refine X_iand (v := (((c).toUInt32 >>> (((8 : Int32)).toUInt32 &&& Int32.toUInt32 31)).toInt32 &&& (255 : Int32))) rfl rfl rfl ?_
  refine X_iast (k0 := 10) rfl rfl ((congrFun F.1 333).trans s_333) (vp_in_d rfl) rfl ?_
  refine X_aload_n rfl rfl rfl rfl ?_
  refine X_dup rfl rfl rfl ?_
  refine X_getI (v := (10 : Int32)) rfl rfl rfl ((congrFun F.1 332).trans s_332) rfl rfl ?_
  refine X_iconst (v := (1 : Int32)) rfl rfl rfl ?_
  refine X_iadd (v := (11 : Int32)) rfl rfl rfl ?_
  refine X_putI rfl rfl rfl ((congrFun F.1 332).trans s_332) rfl rfl rfl rfl ?_
  refine X_iinc (v := (0 : Int32)) (ls' := [some (.ref 332), some (.int c), some (.int (0 : Int32))]) rfl rfl rfl rfl rfl ?_
  refine LW_goto (tgt := 3) rfl rfl ?_
  refine X_iload_n rfl rfl rfl rfl ?_
  refine X_if_lt (tgt := 49) rfl rfl rfl (fun q => absurd q (by decide)) (fun _ => ?_)
  refine X_aload_n rfl rfl rfl rfl ?_
  refine X_getI (v := (11 : Int32)) rfl rfl rfl ((congrFun F.1 332).trans s_332) rfl rfl ?_
  refine X_sipush (v := (300 : Int32)) rfl rfl rfl ?_
  refine X_icmp_ge (tgt := 43) rfl rfl rfl (fun q => absurd q (by decide)) (fun _ => ?_)
  refine X_aload_n rfl rfl rfl rfl ?_
  refine X_getR (a := 333) rfl rfl rfl ((congrFun F.1 332).trans s_332) rfl ((congrFun (F.2.1 332 (by decide)) 1).trans r_332_1) ?_
  refine X_aload_n rfl rfl rfl rfl ?_
  refine X_getI (v := (11 : Int32)) rfl rfl rfl ((congrFun F.1 332).trans s_332) rfl rfl ?_
  refine X_iload_n rfl rfl rfl rfl ?_
  refine X_iload_n rfl rfl rfl rfl ?_
  refine X_iushr (v := ((c).toUInt32 >>> (((0 : Int32)).toUInt32 &&& Int32.toUInt32 31)).toInt32) rfl rfl rfl ?_
  refine X_sipush (v := (255 : Int32)) rfl rfl rfl ?_
  refine X_iand (v := (((c).toUInt32 >>> (((0 : Int32)).toUInt32 &&& Int32.toUInt32 31)).toInt32 &&& (255 : Int32))) rfl rfl rfl ?_
  refine X_iast (k0 := 11) rfl rfl ((congrFun F.1 333).trans s_333) (vp_in_d rfl) rfl ?_
  refine X_aload_n rfl rfl rfl rfl ?_
  refine X_dup rfl rfl rfl ?_
  refine X_getI (v := (11 : Int32)) rfl rfl rfl ((congrFun F.1 332).trans s_332) rfl rfl ?_
  refine X_iconst (v := (1 : Int32)) rfl rfl rfl ?_
  refine X_iadd (v := (12 : Int32)) rfl rfl rfl ?_
  refine X_putI rfl rfl rfl ((congrFun F.1 332).trans s_332) rfl rfl rfl rfl ?_
  refine X_iinc (v := (-8 : Int32)) (ls' := [some (.ref 332), some (.int c), some (.int (-8 : Int32))]) rfl rfl rfl rfl rfl ?_
  refine LW_goto (tgt := 3) rfl rfl ?_
  refine X_iload_n rfl rfl rfl rfl ?_
  refine X_if_lt (tgt := 49) rfl rfl rfl (fun _ => ?_) (fun q => absurd q (by decide))
  refine LW_return (st := []) rfl rfl ?_
  refine X_aload_n rfl rfl rfl rfl ?_
  refine X_getR (a := 332) rfl rfl rfl ((congrFun F.1 0).trans s_0) rfl ((congrFun (F.2.1 0 (by decide)) 3).trans r_0_3) ?_
  refine X_iload rfl rfl rfl ?_
  refine X_callV (as := [.int d]) (st := []) rfl rfl rfl (by decide) rfl (Nat.le_of_ble_eq_true rfl) (by decide) (Nat.le_of_ble_eq_true rfl) rfl ((congrFun F.1 332).trans s_332) (by decide) ?_
  refine LW_ls (ls' := [some (.ref 332), some (.int d), none]) rfl ?_
  refine X_bipush (v := (24 : Int32)) rfl rfl rfl ?_
  refine X_istore_n (i := 2) (ls' := [some (.ref 332), some (.int d), some (.int (24 : Int32))]) rfl rfl rfl (Nat.le_of_ble_eq_true rfl) rfl ?_
  refine X_iload_n rfl rfl rfl rfl ?_
  refine X_if_lt (tgt := 49) rfl rfl rfl (fun q => absurd q (by decide)) (fun _ => ?_)
  refine X_aload_n rfl rfl rfl rfl ?_
  refine X_getI (v := (12 : Int32)) rfl rfl rfl ((congrFun F.1 332).trans s_332) rfl rfl ?_
  refine X_sipush (v := (300 : Int32)) rfl rfl rfl ?_
  refine X_icmp_ge (tgt := 43) rfl rfl rfl (fun q => absurd q (by decide)) (fun _ => ?_)
  refine X_aload_n rfl rfl rfl rfl ?_
  refine X_getR (a := 333) rfl rfl rfl ((congrFun F.1 332).trans s_332) rfl ((congrFun (F.2.1 332 (by decide)) 1).trans r_332_1) ?_
  refine X_aload_n rfl rfl rfl rfl ?_
  refine X_getI (v := (12 : Int32)) rfl rfl rfl ((congrFun F.1 332).trans s_332) rfl rfl ?_
  refine X_iload_n rfl rfl rfl rfl ?_
  refine X_iload_n rfl rfl rfl rfl ?_
  refine X_iushr (v := ((d).toUInt32 >>> (((24 : Int32)).toUInt32 &&& Int32.toUInt32 31)).toInt32) rfl rfl rfl ?_
  refine X_sipush (v := (255 : Int32)) rfl rfl rfl ?_
  refine X_iand (v := (((d).toUInt32 >>> (((24 : Int32)).toUInt32 &&& Int32.toUInt32 31)).toInt32 &&& (255 : Int32))) rfl rfl rfl ?_
  refine X_iast (k0 := 12) rfl rfl ((congrFun F.1 333).trans s_333) (vp_in_d rfl) rfl ?_
  refine X_aload_n rfl rfl rfl rfl ?_
  refine X_dup rfl rfl rfl ?_
  refine X_getI (v := (12 : Int32)) rfl rfl rfl ((congrFun F.1 332).trans s_332) rfl rfl ?_
  refine X_iconst (v := (1 : Int32)) rfl rfl rfl ?_
  refine X_iadd (v := (13 : Int32)) rfl rfl rfl ?_
  refine X_putI rfl rfl rfl ((congrFun F.1 332).trans s_332) rfl rfl rfl rfl ?_
  refine X_iinc (v := (16 : Int32)) (ls' := [some (.ref 332), some (.int d), some (.int (16 : Int32))]) rfl rfl rfl rfl rfl ?_
  refine LW_goto (tgt := 3) rfl rfl ?_
  refine X_iload_n rfl rfl rfl rfl ?_
  refine X_if_lt (tgt := 49) rfl rfl rfl (fun q => absurd q (by decide)) (fun _ => ?_)
  refine X_aload_n rfl rfl rfl rfl ?_
  refine X_getI (v := (13 : Int32)) rfl rfl rfl ((congrFun F.1 332).trans s_332) rfl rfl ?_
  refine X_sipush (v := (300 : Int32)) rfl rfl rfl ?_
  refine X_icmp_ge (tgt := 43) rfl rfl rfl (fun q => absurd q (by decide)) (fun _ => ?_)
  refine X_aload_n rfl rfl rfl rfl ?_
  refine X_getR (a := 333) rfl rfl rfl ((congrFun F.1 332).trans s_332) rfl ((congrFun (F.2.1 332 (by decide)) 1).trans r_332_1) ?_
  refine X_aload_n rfl rfl rfl rfl ?_
  refine X_getI (v := (13 : Int32)) rfl rfl rfl ((congrFun F.1 332).trans s_332) rfl rfl ?_
  refine X_iload_n rfl rfl rfl rfl ?_
  refine X_iload_n rfl rfl rfl rfl ?_
  refine X_iushr (v := ((d).toUInt32 >>> (((16 : Int32)).toUInt32 &&& Int32.toUInt32 31)).toInt32) rfl rfl rfl ?_
  refine X_sipush (v := (255 : Int32)) rfl rfl rfl ?_
  refine X_iand (v := (((d).toUInt32 >>> (((16 : Int32)).toUInt32 &&& Int32.toUInt32 31)).toInt32 &&& (255 : Int32))) rfl rfl rfl ?_
  refine X_iast (k0 := 13) rfl rfl ((congrFun F.1 333).trans s_333) (vp_in_d rfl) rfl ?_
  refine X_aload_n rfl rfl rfl rfl ?_
  refine X_dup rfl rfl rfl ?_
  refine X_getI (v := (13 : Int32)) rfl rfl rfl ((congrFun F.1 332).trans s_332) rfl rfl ?_
  refine X_iconst (v := (1 : Int32)) rfl rfl rfl ?_
  refine X_iadd (v := (14 : Int32)) rfl rfl rfl ?_
  refine X_putI rfl rfl rfl ((congrFun F.1 332).trans s_332) rfl rfl rfl rfl ?_
  refine X_iinc (v := (8 : Int32)) (ls' := [some (.ref 332), some (.int d), some (.int (8 : Int32))]) rfl rfl rfl rfl rfl ?_
  refine LW_goto (tgt := 3) rfl rfl ?_
  refine X_iload_n rfl rfl rfl rfl ?_
  refine X_if_lt (tgt := 49) rfl rfl rfl (fun q => absurd q (by decide)) (fun _ => ?_)
  refine X_aload_n rfl rfl rfl rfl ?_
  refine X_getI (v := (14 : Int32)) rfl rfl rfl ((congrFun F.1 332).trans s_332) rfl rfl ?_
  refine X_sipush (v := (300 : Int32)) rfl rfl rfl ?_
  refine X_icmp_ge (tgt := 43) rfl rfl rfl (fun q => absurd q (by decide)) (fun _ => ?_)
  refine X_aload_n rfl rfl rfl rfl ?_
  refine X_getR (a := 333) rfl rfl rfl ((congrFun F.1 332).trans s_332) rfl ((congrFun (F.2.1 332 (by decide)) 1).trans r_332_1) ?_
  refine X_aload_n rfl rfl rfl rfl ?_
  refine X_getI (v := (14 : Int32)) rfl rfl rfl ((congrFun F.1 332).trans s_332) rfl rfl ?_
  refine X_iload_n rfl rfl rfl rfl ?_
  refine X_iload_n rfl rfl rfl rfl ?_
  refine X_iushr (v := ((d).toUInt32 >>> (((8 : Int32)).toUInt32 &&& Int32.toUInt32 31)).toInt32) rfl rfl rfl ?_
  refine X_sipush (v := (255 : Int32)) rfl rfl rfl ?_
  refine X_iand (v := (((d).toUInt32 >>> (((8 : Int32)).toUInt32 &&& Int32.toUInt32 31)).toInt32 &&& (255 : Int32))) rfl rfl rfl ?_
  refine X_iast (k0 := 14) rfl rfl ((congrFun F.1 333).trans s_333) (vp_in_d rfl) rfl ?_
  refine X_aload_n rfl rfl rfl rfl ?_
  refine X_dup rfl rfl rfl ?_
  refine X_getI (v := (14 : Int32)) rfl rfl rfl ((congrFun F.1 332).trans s_332) rfl rfl ?_
  refine X_iconst (v := (1 : Int32)) rfl rfl rfl ?_
  refine X_iadd (v := (15 : Int32)) rfl rfl rfl ?_
  refine X_putI rfl rfl rfl ((congrFun F.1 332).trans s_332) rfl rfl rfl rfl ?_
  refine X_iinc (v := (0 : Int32)) (ls' := [some (.ref 332), some (.int d), some (.int (0 : Int32))]) rfl rfl rfl rfl rfl ?_
  refine LW_goto (tgt := 3) rfl rfl ?_
  refine X_iload_n rfl rfl rfl rfl ?_
  refine X_if_lt (tgt := 49) rfl rfl rfl (fun q => absurd q (by decide)) (fun _ => ?_)
  refine X_aload_n rfl rfl rfl rfl ?_
  refine X_getI (v := (15 : Int32)) rfl rfl rfl ((congrFun F.1 332).trans s_332) rfl rfl ?_
  refine X_sipush (v := (300 : Int32)) rfl rfl rfl ?_
  refine X_icmp_ge (tgt := 43) rfl rfl rfl (fun q => absurd q (by decide)) (fun _ => ?_)
  refine X_aload_n rfl rfl rfl rfl ?_
  refine X_getR (a := 333) rfl rfl rfl ((congrFun F.1 332).trans s_332) rfl ((congrFun (F.2.1 332 (by decide)) 1).trans r_332_1) ?_
  refine X_aload_n rfl rfl rfl rfl ?_
  refine X_getI (v := (15 : Int32)) rfl rfl rfl ((congrFun F.1 332).trans s_332) rfl rfl ?_
  refine X_iload_n rfl rfl rfl rfl ?_
  refine X_iload_n rfl rfl rfl rfl ?_
  refine X_iushr (v := ((d).toUInt32 >>> (((0 : Int32)).toUInt32 &&& Int32.toUInt32 31)).toInt32) rfl rfl rfl ?_
  refine X_sipush (v := (255 : Int32)) rfl rfl rfl ?_
  refine X_iand (v := (((d).toUInt32 >>> (((0 : Int32)).toUInt32 &&& Int32.toUInt32 31)).toInt32 &&& (255 : Int32))) rfl rfl rfl ?_
  refine X_iast (k0 := 15) rfl rfl ((congrFun F.1 333).trans s_333) (vp_in_d rfl) rfl ?_
  refine X_aload_n rfl rfl rfl rfl ?_
  refine X_dup rfl rfl rfl ?_
  refine X_getI (v := (15 : Int32)) rfl rfl rfl ((congrFun F.1 332).trans s_332) rfl rfl ?_
  refine X_iconst (v := (1 : Int32)) rfl rfl rfl ?_
  refine X_iadd (v := (16 : Int32)) rfl rfl rfl ?_
  refine X_putI rfl rfl rfl ((congrFun F.1 332).trans s_332) rfl rfl rfl rfl ?_
  refine X_iinc (v := (-8 : Int32)) (ls' := [some (.ref 332), some (.int d), some (.int (-8 : Int32))]) rfl rfl rfl rfl rfl ?_
  refine LW_goto (tgt := 3) rfl rfl ?_
  refine X_iload_n rfl rfl rfl rfl ?_
  refine X_if_lt (tgt := 49) rfl rfl rfl (fun _ => ?_) (fun q => absurd q (by decide))
  refine LW_return (st := []) rfl rfl ?_
  refine X_aload_n rfl rfl rfl rfl ?_
  refine X_getR (a := 332) rfl rfl rfl ((congrFun F.1 0).trans s_0) rfl ((congrFun (F.2.1 0 (by decide)) 3).trans r_0_3) ?_
  refine X_iload rfl rfl rfl ?_
  refine X_callV (as := [.int e]) (st := []) rfl rfl rfl (by decide) rfl (Nat.le_of_ble_eq_true rfl) (by decide) (Nat.le_of_ble_eq_true rfl) rfl ((congrFun F.1 332).trans s_332) (by decide) ?_
  refine LW_ls (ls' := [some (.ref 332), some (.int e), none]) rfl ?_
  refine X_bipush (v := (24 : Int32)) rfl rfl rfl ?_
  refine X_istore_n (i := 2) (ls' := [some (.ref 332), some (.int e), some (.int (24 : Int32))]) rfl rfl rfl (Nat.le_of_ble_eq_true rfl) rfl ?_
  refine X_iload_n rfl rfl rfl rfl ?_
  refine X_if_lt (tgt := 49) rfl rfl rfl (fun q => absurd q (by decide)) (fun _ => ?_)
  refine X_aload_n rfl rfl rfl rfl ?_
  refine X_getI (v := (16 : Int32)) rfl rfl rfl ((congrFun F.1 332).trans s_332) rfl rfl ?_
  refine X_sipush (v := (300 : Int32)) rfl rfl rfl ?_
  refine X_icmp_ge (tgt := 43) rfl rfl rfl (fun q => absurd q (by decide)) (fun _ => ?_)
  refine X_aload_n rfl rfl rfl rfl ?_
  refine X_getR (a := 333) rfl rfl rfl ((congrFun F.1 332).trans s_332) rfl ((congrFun (F.2.1 332 (by decide)) 1).trans r_332_1) ?_
  refine X_aload_n rfl rfl rfl rfl ?_
  refine X_getI (v := (16 : Int32)) rfl rfl rfl ((congrFun F.1 332).trans s_332) rfl rfl ?_
  refine X_iload_n rfl rfl rfl rfl ?_
  refine X_iload_n rfl rfl rfl rfl ?_
  refine X_iushr (v := ((e).toUInt32 >>> (((24 : Int32)).toUInt32 &&& Int32.toUInt32 31)).toInt32) rfl rfl rfl ?_
  refine X_sipush (v := (255 : Int32)) rfl rfl rfl ?_
  refine X_iand (v := (((e).toUInt32 >>> (((24 : Int32)).toUInt32 &&& Int32.toUInt32 31)).toInt32 &&& (255 : Int32))) rfl rfl rfl ?_
  refine X_iast (k0 := 16) rfl rfl ((congrFun F.1 333).trans s_333) (vp_in_d rfl) rfl ?_
  refine X_aload_n rfl rfl rfl rfl ?_
  refine X_dup rfl rfl rfl ?_
  refine X_getI (v := (16 : Int32)) rfl rfl rfl ((congrFun F.1 332).trans s_332) rfl rfl ?_
  refine X_iconst (v := (1 : Int32)) rfl rfl rfl ?_
  refine X_iadd (v := (17 : Int32)) rfl rfl rfl ?_
  refine X_putI rfl rfl rfl ((congrFun F.1 332).trans s_332) rfl rfl rfl rfl ?_
  refine X_iinc (v := (16 : Int32)) (ls' := [some (.ref 332), some (.int e), some (.int (16 : Int32))]) rfl rfl rfl rfl rfl ?_
  refine LW_goto (tgt := 3) rfl rfl ?_
  refine X_iload_n rfl rfl rfl rfl ?_
  refine X_if_lt (tgt := 49) rfl rfl rfl (fun q => absurd q (by decide)) (fun _ => ?_)
  refine X_aload_n rfl rfl rfl rfl ?_
  refine X_getI (v := (17 : Int32)) rfl rfl rfl ((congrFun F.1 332).trans s_332) rfl rfl ?_
  refine X_sipush (v := (300 : Int32)) rfl rfl rfl ?_
  refine X_icmp_ge (tgt := 43) rfl rfl rfl (fun q => absurd q (by decide)) (fun _ => ?_)
  refine X_aload_n rfl rfl rfl rfl ?_
  refine X_getR (a := 333) rfl rfl rfl ((congrFun F.1 332).trans s_332) rfl ((congrFun (F.2.1 332 (by decide)) 1).trans r_332_1) ?_
  refine X_aload_n rfl rfl rfl rfl ?_
  refine X_getI (v := (17 : Int32)) rfl rfl rfl ((congrFun F.1 332).trans s_332) rfl rfl ?_
  refine X_iload_n rfl rfl rfl rfl ?_
  refine X_iload_n rfl rfl rfl rfl ?_
  refine X_iushr (v := ((e).toUInt32 >>> (((16 : Int32)).toUInt32 &&& Int32.toUInt32 31)).toInt32) rfl rfl rfl ?_
  refine X_sipush (v := (255 : Int32)) rfl rfl rfl ?_
  refine X_iand (v := (((e).toUInt32 >>> (((16 : Int32)).toUInt32 &&& Int32.toUInt32 31)).toInt32 &&& (255 : Int32))) rfl rfl rfl ?_
  refine X_iast (k0 := 17) rfl rfl ((congrFun F.1 333).trans s_333) (vp_in_d rfl) rfl ?_
  refine X_aload_n rfl rfl rfl rfl ?_
  refine X_dup rfl rfl rfl ?_
  refine X_getI (v := (17 : Int32)) rfl rfl rfl ((congrFun F.1 332).trans s_332) rfl rfl ?_
  refine X_iconst (v := (1 : Int32)) rfl rfl rfl ?_
  refine X_iadd (v := (18 : Int32)) rfl rfl rfl ?_
  refine X_putI rfl rfl rfl ((congrFun F.1 332).trans s_332) rfl rfl rfl rfl ?_
  refine X_iinc (v := (8 : Int32)) (ls' := [some (.ref 332), some (.int e), some (.int (8 : Int32))]) rfl rfl rfl rfl rfl ?_
  refine LW_goto (tgt := 3) rfl rfl ?_
  refine X_iload_n rfl rfl rfl rfl ?_
  refine X_if_lt (tgt := 49) rfl rfl rfl (fun q => absurd q (by decide)) (fun _ => ?_)
  refine X_aload_n rfl rfl rfl rfl ?_
  refine X_getI (v := (18 : Int32)) rfl rfl rfl ((congrFun F.1 332).trans s_332) rfl rfl ?_
  refine X_sipush (v := (300 : Int32)) rfl rfl rfl ?_
  refine X_icmp_ge (tgt := 43) rfl rfl rfl (fun q => absurd q (by decide)) (fun _ => ?_)
  refine X_aload_n rfl rfl rfl rfl ?_
  refine X_getR (a := 333) rfl rfl rfl ((congrFun F.1 332).trans s_332) rfl ((congrFun (F.2.1 332 (by decide)) 1).trans r_332_1) ?_
  refine X_aload_n rfl rfl rfl rfl ?_
  refine X_getI (v := (18 : Int32)) rfl rfl rfl ((congrFun F.1 332).trans s_332) rfl rfl ?_
  refine X_iload_n rfl rfl rfl rfl ?_
  refine X_iload_n rfl rfl rfl rfl ?_
  refine X_iushr (v := ((e).toUInt32 >>> (((8 : Int32)).toUInt32 &&& Int32.toUInt32 31)).toInt32) rfl rfl rfl ?_
  refine X_sipush (v := (255 : Int32)) rfl rfl rfl ?_
  refine X_iand (v := (((e).toUInt32 >>> (((8 : Int32)).toUInt32 &&& Int32.toUInt32 31)).toInt32 &&& (255 : Int32))) rfl rfl rfl ?_
  refine X_iast (k0 := 18) rfl rfl ((congrFun F.1 333).trans s_333) (vp_in_d rfl) rfl ?_
  refine X_aload_n rfl rfl rfl rfl ?_
  refine X_dup rfl rfl rfl ?_
  refine X_getI (v := (18 : Int32)) rfl rfl rfl ((congrFun F.1 332).trans s_332) rfl rfl ?_
  refine X_iconst (v := (1 : Int32)) rfl rfl rfl ?_
  refine X_iadd (v := (19 : Int32)) rfl rfl rfl ?_
  refine X_putI rfl rfl rfl ((congrFun F.1 332).trans s_332) rfl rfl rfl rfl ?_
  refine X_iinc (v := (0 : Int32)) (ls' := [some (.ref 332), some (.int e), some (.int (0 : Int32))]) rfl rfl rfl rfl rfl ?_
  refine LW_goto (tgt := 3) rfl rfl ?_
  refine X_iload_n rfl rfl rfl rfl ?_
  refine X_if_lt (tgt := 49) rfl rfl rfl (fun q => absurd q (by decide)) (fun _ => ?_)
  refine X_aload_n rfl rfl rfl rfl ?_
  refine X_getI (v := (19 : Int32)) rfl rfl rfl ((congrFun F.1 332).trans s_332) rfl rfl ?_
  refine X_sipush (v := (300 : Int32)) rfl rfl rfl ?_
  refine X_icmp_ge (tgt := 43) rfl rfl rfl (fun q => absurd q (by decide)) (fun _ => ?_)
  refine X_aload_n rfl rfl rfl rfl ?_
  refine X_getR (a := 333) rfl rfl rfl ((congrFun F.1 332).trans s_332) rfl ((congrFun (F.2.1 332 (by decide)) 1).trans r_332_1) ?_
  refine X_aload_n rfl rfl rfl rfl ?_
  refine X_getI (v := (19 : Int32)) rfl rfl rfl ((congrFun F.1 332).trans s_332) rfl rfl ?_
  refine X_iload_n rfl rfl rfl rfl ?_
  refine X_iload_n rfl rfl rfl rfl ?_
  refine X_iushr (v := ((e).toUInt32 >>> (((0 : Int32)).toUInt32 &&& Int32.toUInt32 31)).toInt32) rfl rfl rfl ?_
  refine X_sipush (v := (255 : Int32)) rfl rfl rfl ?_
  refine X_iand (v := (((e).toUInt32 >>> (((0 : Int32)).toUInt32 &&& Int32.toUInt32 31)).toInt32 &&& (255 : Int32))) rfl rfl rfl ?_
  refine X_iast (k0 := 19) rfl rfl ((congrFun F.1 333).trans s_333) (vp_in_d rfl) rfl ?_
  refine X_aload_n rfl rfl rfl rfl ?_
  refine X_dup rfl rfl rfl ?_
  refine X_getI (v := (19 : Int32)) rfl rfl rfl ((congrFun F.1 332).trans s_332) rfl rfl ?_
  refine X_iconst (v := (1 : Int32)) rfl rfl rfl ?_
  refine X_iadd (v := (20 : Int32)) rfl rfl rfl ?_
  refine X_putI rfl rfl rfl ((congrFun F.1 332).trans s_332) rfl rfl rfl rfl ?_
  refine X_iinc (v := (-8 : Int32)) (ls' := [some (.ref 332), some (.int e), some (.int (-8 : Int32))]) rfl rfl rfl rfl rfl ?_
  refine LW_goto (tgt := 3) rfl rfl ?_
  refine X_iload_n rfl rfl rfl rfl ?_
  refine X_if_lt (tgt := 49) rfl rfl rfl (fun _ => ?_) (fun q => absurd q (by decide))
  refine LW_return (st := []) rfl rfl ?_
  refine X_aload_n rfl rfl rfl rfl ?_
  refine X_getR (a := 332) rfl rfl rfl ((congrFun F.1 0).trans s_0) rfl ((congrFun (F.2.1 0 (by decide)) 3).trans r_0_3) ?_
  refine X_getI (v := (20 : Int32)) rfl rfl rfl ((congrFun F.1 332).trans s_332) rfl rfl ?_
  refine LW_ireturn (st := []) rfl rfl rfl ⟨congrArg (fun z => some (Value.int z)) ?_, (Fr_putI (Fr_putI (Fr_putI (Fr_putI (Fr_putI (Fr_putI (Fr_putI (Fr_putI (Fr_putI (Fr_putI (Fr_putI (Fr_putI (Fr_putI (Fr_putI (Fr_putI (Fr_putI (Fr_putI (Fr_putI (Fr_putI (Fr_putI (Fr_putI (Fr_putI (Fr_putI (Fr_putI (Fr_putI (Fr_putI (Fr_putI (Fr_putI (Fr_putI (Fr_putI (Fr_putI (Fr_putI (Fr_putI (Fr_putI (Fr_putI (Fr_putI (Fr_putI (Fr_putI (Fr_putI (Fr_putI E (by decide)) (by decide)) (by decide)) (by decide)) (by decide)) (by decide)) (by decide)) (by decide)) (by decide)) (by decide)) (by decide)) (by decide)) (by decide)) (by decide)) (by decide)) (by decide)) (by decide)) (by decide)) (by decide)) (by decide)) (by decide)) (by decide)) (by decide)) (by decide)) (by decide)) (by decide)) (by decide)) (by decide)) (by decide)) (by decide)) (by decide)) (by decide)) (by decide)) (by decide)) (by decide)) (by decide)) (by decide)) (by decide)) (by decide)) (by decide))⟩
  unfold f_feed
  repeat' split
  all_goals first | rfl | (exfalso; omega) | (refine Int32.toInt_inj.mp ?_; rw [show (0 : Int32).toInt = 0 from rfl]; omega)
set_option maxRecDepth 10000 in
set_option maxHeartbeats 4000000 in
theorem r_feed {g : LH} (F : Fr g) (a : Int32) (b : Int32) (c : Int32) (d : Int32) (e : Int32) : LW 195 30 0 0 0 (lEnt (mL 195) [.ref 355, .int a, .int b, .int c, .int d, .int e]) [] g (fun v _ => v = some (.int (f_feed a b c d e))) := by
  refine LW_ls (ls' := [some (.ref 355), some (.int a), some (.int b), some (.int c), some (.int d), some (.int e)]) rfl ?_
  refine X_aload_n rfl rfl rfl rfl ?_
  refine X_getI (v := (0 : Int32)) rfl rfl rfl ((congrFun F.1 355).trans s_355) rfl ((congrFun (F.2.2 355 (by decide)).1 8).trans i_355_8) ?_
  refine X_bipush (v := (20 : Int32)) rfl rfl rfl ?_
  refine X_iadd (v := (20 : Int32)) rfl rfl rfl ?_
  refine X_sipush (v := (300 : Int32)) rfl rfl rfl ?_
  refine X_icmp_le (tgt := 15) rfl rfl rfl (fun _ => ?_) (fun q => absurd q (by decide))
  refine X_aload_n rfl rfl rfl rfl ?_
  refine X_iload_n rfl rfl rfl rfl ?_
  refine X_callV (as := [.int a]) (st := []) rfl rfl rfl (by decide) rfl (Nat.le_of_ble_eq_true rfl) (by decide) (Nat.le_of_ble_eq_true rfl) rfl ((congrFun F.1 355).trans s_355) (by decide) ?_
  refine LW_ls (ls' := [some (.ref 355), some (.int a), none]) rfl ?_
  refine X_bipush (v := (24 : Int32)) rfl rfl rfl ?_
  refine X_istore_n (i := 2) (ls' := [some (.ref 355), some (.int a), some (.int (24 : Int32))]) rfl rfl rfl (Nat.le_of_ble_eq_true rfl) rfl ?_
  refine X_iload_n rfl rfl rfl rfl ?_
  refine X_if_lt (tgt := 39) rfl rfl rfl (fun q => absurd q (by decide)) (fun _ => ?_)
  refine X_aload_n rfl rfl rfl rfl ?_
  refine X_getR (a := 361) rfl rfl rfl ((congrFun F.1 355).trans s_355) rfl ((congrFun (F.2.1 355 (by decide)) 7).trans r_355_7) ?_
  refine X_aload_n rfl rfl rfl rfl ?_
  refine X_getI (v := (0 : Int32)) rfl rfl rfl ((congrFun F.1 355).trans s_355) rfl ((congrFun (F.2.2 355 (by decide)).1 8).trans i_355_8) ?_
  refine X_iload_n rfl rfl rfl rfl ?_
  refine X_iload_n rfl rfl rfl rfl ?_
  refine X_ishr (v := (a >>> ((24 : Int32) &&& 31))) rfl rfl rfl ?_
  refine X_sipush (v := (255 : Int32)) rfl rfl rfl ?_
  refine X_iand (v := ((a >>> ((24 : Int32) &&& 31)) &&& (255 : Int32))) rfl rfl rfl ?_
  refine X_iast (k0 := 0) rfl rfl ((congrFun F.1 361).trans s_361) (vp_in_d rfl) rfl ?_
  refine X_aload_n rfl rfl rfl rfl ?_
  refine X_dup rfl rfl rfl ?_
  refine X_getI (v := (0 : Int32)) rfl rfl rfl ((congrFun F.1 355).trans s_355) rfl ((congrFun (F.2.2 355 (by decide)).1 8).trans i_355_8) ?_
  refine X_iconst (v := (1 : Int32)) rfl rfl rfl ?_
  refine X_iadd (v := (1 : Int32)) rfl rfl rfl ?_
  refine X_putI rfl rfl rfl ((congrFun F.1 355).trans s_355) rfl rfl rfl rfl ?_
  refine X_iinc (v := (16 : Int32)) (ls' := [some (.ref 355), some (.int a), some (.int (16 : Int32))]) rfl rfl rfl rfl rfl ?_
  refine LW_goto (tgt := 3) rfl rfl ?_
  refine X_iload_n rfl rfl rfl rfl ?_
  refine X_if_lt (tgt := 39) rfl rfl rfl (fun q => absurd q (by decide)) (fun _ => ?_)
  refine X_aload_n rfl rfl rfl rfl ?_
  refine X_getR (a := 361) rfl rfl rfl ((congrFun F.1 355).trans s_355) rfl ((congrFun (F.2.1 355 (by decide)) 7).trans r_355_7) ?_
  refine X_aload_n rfl rfl rfl rfl ?_
  refine X_getI (v := (1 : Int32)) rfl rfl rfl ((congrFun F.1 355).trans s_355) rfl rfl ?_
  refine X_iload_n rfl rfl rfl rfl ?_
  refine X_iload_n rfl rfl rfl rfl ?_
  refine X_ishr (v := (a >>> ((16 : Int32) &&& 31))) rfl rfl rfl ?_
  refine X_sipush (v := (255 : Int32)) rfl rfl rfl ?_
  refine X_iand (v := ((a >>> ((16 : Int32) &&& 31)) &&& (255 : Int32))) rfl rfl rfl ?_
  refine X_iast (k0 := 1) rfl rfl ((congrFun F.1 361).trans s_361) (vp_in_d rfl) rfl ?_
  refine X_aload_n rfl rfl rfl rfl ?_
  refine X_dup rfl rfl rfl ?_
  refine X_getI (v := (1 : Int32)) rfl rfl rfl ((congrFun F.1 355).trans s_355) rfl rfl ?_
  refine X_iconst (v := (1 : Int32)) rfl rfl rfl ?_
  refine X_iadd (v := (2 : Int32)) rfl rfl rfl ?_
  refine X_putI rfl rfl rfl ((congrFun F.1 355).trans s_355) rfl rfl rfl rfl ?_
  refine X_iinc (v := (8 : Int32)) (ls' := [some (.ref 355), some (.int a), some (.int (8 : Int32))]) rfl rfl rfl rfl rfl ?_
  refine LW_goto (tgt := 3) rfl rfl ?_
  refine X_iload_n rfl rfl rfl rfl ?_
  refine X_if_lt (tgt := 39) rfl rfl rfl (fun q => absurd q (by decide)) (fun _ => ?_)
  refine X_aload_n rfl rfl rfl rfl ?_
  refine X_getR (a := 361) rfl rfl rfl ((congrFun F.1 355).trans s_355) rfl ((congrFun (F.2.1 355 (by decide)) 7).trans r_355_7) ?_
  refine X_aload_n rfl rfl rfl rfl ?_
  refine X_getI (v := (2 : Int32)) rfl rfl rfl ((congrFun F.1 355).trans s_355) rfl rfl ?_
  refine X_iload_n rfl rfl rfl rfl ?_
  refine X_iload_n rfl rfl rfl rfl ?_
  refine X_ishr (v := (a >>> ((8 : Int32) &&& 31))) rfl rfl rfl ?_
  refine X_sipush (v := (255 : Int32)) rfl rfl rfl ?_
  refine X_iand (v := ((a >>> ((8 : Int32) &&& 31)) &&& (255 : Int32))) rfl rfl rfl ?_
  refine X_iast (k0 := 2) rfl rfl ((congrFun F.1 361).trans s_361) (vp_in_d rfl) rfl ?_
  refine X_aload_n rfl rfl rfl rfl ?_
  refine X_dup rfl rfl rfl ?_
  refine X_getI (v := (2 : Int32)) rfl rfl rfl ((congrFun F.1 355).trans s_355) rfl rfl ?_
  refine X_iconst (v := (1 : Int32)) rfl rfl rfl ?_
  refine X_iadd (v := (3 : Int32)) rfl rfl rfl ?_
  refine X_putI rfl rfl rfl ((congrFun F.1 355).trans s_355) rfl rfl rfl rfl ?_
  refine X_iinc (v := (0 : Int32)) (ls' := [some (.ref 355), some (.int a), some (.int (0 : Int32))]) rfl rfl rfl rfl rfl ?_
  refine LW_goto (tgt := 3) rfl rfl ?_
  refine X_iload_n rfl rfl rfl rfl ?_
  refine X_if_lt (tgt := 39) rfl rfl rfl (fun q => absurd q (by decide)) (fun _ => ?_)
  refine X_aload_n rfl rfl rfl rfl ?_
  refine X_getR (a := 361) rfl rfl rfl ((congrFun F.1 355).trans s_355) rfl ((congrFun (F.2.1 355 (by decide)) 7).trans r_355_7) ?_
  refine X_aload_n rfl rfl rfl rfl ?_
  refine X_getI (v := (3 : Int32)) rfl rfl rfl ((congrFun F.1 355).trans s_355) rfl rfl ?_
  refine X_iload_n rfl rfl rfl rfl ?_
  refine X_iload_n rfl rfl rfl rfl ?_
  refine X_ishr (v := (a >>> ((0 : Int32) &&& 31))) rfl rfl rfl ?_
  refine X_sipush (v := (255 : Int32)) rfl rfl rfl ?_
  refine X_iand (v := ((a >>> ((0 : Int32) &&& 31)) &&& (255 : Int32))) rfl rfl rfl ?_
  refine X_iast (k0 := 3) rfl rfl ((congrFun F.1 361).trans s_361) (vp_in_d rfl) rfl ?_
  refine X_aload_n rfl rfl rfl rfl ?_
  refine X_dup rfl rfl rfl ?_
  refine X_getI (v := (3 : Int32)) rfl rfl rfl ((congrFun F.1 355).trans s_355) rfl rfl ?_
  refine X_iconst (v := (1 : Int32)) rfl rfl rfl ?_
  refine X_iadd (v := (4 : Int32)) rfl rfl rfl ?_
  refine X_putI rfl rfl rfl ((congrFun F.1 355).trans s_355) rfl rfl rfl rfl ?_
  refine X_iinc (v := (-8 : Int32)) (ls' := [some (.ref 355), some (.int a), some (.int (-8 : Int32))]) rfl rfl rfl rfl rfl ?_
  refine LW_goto (tgt := 3) rfl rfl ?_
  refine X_iload_n rfl rfl rfl rfl ?_
  refine X_if_lt (tgt := 39) rfl rfl rfl (fun _ => ?_) (fun q => absurd q (by decide))
  refine LW_return (st := []) rfl rfl ?_
  refine X_aload_n rfl rfl rfl rfl ?_
  refine X_iload_n rfl rfl rfl rfl ?_
  refine X_callV (as := [.int b]) (st := []) rfl rfl rfl (by decide) rfl (Nat.le_of_ble_eq_true rfl) (by decide) (Nat.le_of_ble_eq_true rfl) rfl ((congrFun F.1 355).trans s_355) (by decide) ?_
  refine LW_ls (ls' := [some (.ref 355), some (.int b), none]) rfl ?_
  refine X_bipush (v := (24 : Int32)) rfl rfl rfl ?_
  refine X_istore_n (i := 2) (ls' := [some (.ref 355), some (.int b), some (.int (24 : Int32))]) rfl rfl rfl (Nat.le_of_ble_eq_true rfl) rfl ?_
  refine X_iload_n rfl rfl rfl rfl ?_
  refine X_if_lt (tgt := 39) rfl rfl rfl (fun q => absurd q (by decide)) (fun _ => ?_)
  refine X_aload_n rfl rfl rfl rfl ?_
  refine X_getR (a := 361) rfl rfl rfl ((congrFun F.1 355).trans s_355) rfl ((congrFun (F.2.1 355 (by decide)) 7).trans r_355_7) ?_
  refine X_aload_n rfl rfl rfl rfl ?_
  refine X_getI (v := (4 : Int32)) rfl rfl rfl ((congrFun F.1 355).trans s_355) rfl rfl ?_
  refine X_iload_n rfl rfl rfl rfl ?_
  refine X_iload_n rfl rfl rfl rfl ?_
  refine X_ishr (v := (b >>> ((24 : Int32) &&& 31))) rfl rfl rfl ?_
  refine X_sipush (v := (255 : Int32)) rfl rfl rfl ?_
  refine X_iand (v := ((b >>> ((24 : Int32) &&& 31)) &&& (255 : Int32))) rfl rfl rfl ?_
  refine X_iast (k0 := 4) rfl rfl ((congrFun F.1 361).trans s_361) (vp_in_d rfl) rfl ?_
  refine X_aload_n rfl rfl rfl rfl ?_
  refine X_dup rfl rfl rfl ?_
  refine X_getI (v := (4 : Int32)) rfl rfl rfl ((congrFun F.1 355).trans s_355) rfl rfl ?_
  refine X_iconst (v := (1 : Int32)) rfl rfl rfl ?_
  refine X_iadd (v := (5 : Int32)) rfl rfl rfl ?_
  refine X_putI rfl rfl rfl ((congrFun F.1 355).trans s_355) rfl rfl rfl rfl ?_
  refine X_iinc (v := (16 : Int32)) (ls' := [some (.ref 355), some (.int b), some (.int (16 : Int32))]) rfl rfl rfl rfl rfl ?_
  refine LW_goto (tgt := 3) rfl rfl ?_
  refine X_iload_n rfl rfl rfl rfl ?_
  refine X_if_lt (tgt := 39) rfl rfl rfl (fun q => absurd q (by decide)) (fun _ => ?_)
  refine X_aload_n rfl rfl rfl rfl ?_
  refine X_getR (a := 361) rfl rfl rfl ((congrFun F.1 355).trans s_355) rfl ((congrFun (F.2.1 355 (by decide)) 7).trans r_355_7) ?_
  refine X_aload_n rfl rfl rfl rfl ?_
  refine X_getI (v := (5 : Int32)) rfl rfl rfl ((congrFun F.1 355).trans s_355) rfl rfl ?_
  refine X_iload_n rfl rfl rfl rfl ?_
  refine X_iload_n rfl rfl rfl rfl ?_
  refine X_ishr (v := (b >>> ((16 : Int32) &&& 31))) rfl rfl rfl ?_
  refine X_sipush (v := (255 : Int32)) rfl rfl rfl ?_
  refine X_iand (v := ((b >>> ((16 : Int32) &&& 31)) &&& (255 : Int32))) rfl rfl rfl ?_
  refine X_iast (k0 := 5) rfl rfl ((congrFun F.1 361).trans s_361) (vp_in_d rfl) rfl ?_
  refine X_aload_n rfl rfl rfl rfl ?_
  refine X_dup rfl rfl rfl ?_
  refine X_getI (v := (5 : Int32)) rfl rfl rfl ((congrFun F.1 355).trans s_355) rfl rfl ?_
  refine X_iconst (v := (1 : Int32)) rfl rfl rfl ?_
  refine X_iadd (v := (6 : Int32)) rfl rfl rfl ?_
  refine X_putI rfl rfl rfl ((congrFun F.1 355).trans s_355) rfl rfl rfl rfl ?_
  refine X_iinc (v := (8 : Int32)) (ls' := [some (.ref 355), some (.int b), some (.int (8 : Int32))]) rfl rfl rfl rfl rfl ?_
  refine LW_goto (tgt := 3) rfl rfl ?_
  refine X_iload_n rfl rfl rfl rfl ?_
  refine X_if_lt (tgt := 39) rfl rfl rfl (fun q => absurd q (by decide)) (fun _ => ?_)
  refine X_aload_n rfl rfl rfl rfl ?_
  refine X_getR (a := 361) rfl rfl rfl ((congrFun F.1 355).trans s_355) rfl ((congrFun (F.2.1 355 (by decide)) 7).trans r_355_7) ?_
  refine X_aload_n rfl rfl rfl rfl ?_
  refine X_getI (v := (6 : Int32)) rfl rfl rfl ((congrFun F.1 355).trans s_355) rfl rfl ?_
  refine X_iload_n rfl rfl rfl rfl ?_
  refine X_iload_n rfl rfl rfl rfl ?_
  refine X_ishr (v := (b >>> ((8 : Int32) &&& 31))) rfl rfl rfl ?_
  refine X_sipush (v := (255 : Int32)) rfl rfl rfl ?_
  refine X_iand (v := ((b >>> ((8 : Int32) &&& 31)) &&& (255 : Int32))) rfl rfl rfl ?_
  refine X_iast (k0 := 6) rfl rfl ((congrFun F.1 361).trans s_361) (vp_in_d rfl) rfl ?_
  refine X_aload_n rfl rfl rfl rfl ?_
  refine X_dup rfl rfl rfl ?_
  refine X_getI (v := (6 : Int32)) rfl rfl rfl ((congrFun F.1 355).trans s_355) rfl rfl ?_
  refine X_iconst (v := (1 : Int32)) rfl rfl rfl ?_
  refine X_iadd (v := (7 : Int32)) rfl rfl rfl ?_
  refine X_putI rfl rfl rfl ((congrFun F.1 355).trans s_355) rfl rfl rfl rfl ?_
  refine X_iinc (v := (0 : Int32)) (ls' := [some (.ref 355), some (.int b), some (.int (0 : Int32))]) rfl rfl rfl rfl rfl ?_
  refine LW_goto (tgt := 3) rfl rfl ?_
  refine X_iload_n rfl rfl rfl rfl ?_
  refine X_if_lt (tgt := 39) rfl rfl rfl (fun q => absurd q (by decide)) (fun _ => ?_)
  refine X_aload_n rfl rfl rfl rfl ?_
  refine X_getR (a := 361) rfl rfl rfl ((congrFun F.1 355).trans s_355) rfl ((congrFun (F.2.1 355 (by decide)) 7).trans r_355_7) ?_
  refine X_aload_n rfl rfl rfl rfl ?_
  refine X_getI (v := (7 : Int32)) rfl rfl rfl ((congrFun F.1 355).trans s_355) rfl rfl ?_
  refine X_iload_n rfl rfl rfl rfl ?_
  refine X_iload_n rfl rfl rfl rfl ?_
  refine X_ishr (v := (b >>> ((0 : Int32) &&& 31))) rfl rfl rfl ?_
  refine X_sipush (v := (255 : Int32)) rfl rfl rfl ?_
  refine X_iand (v := ((b >>> ((0 : Int32) &&& 31)) &&& (255 : Int32))) rfl rfl rfl ?_
  refine X_iast (k0 := 7) rfl rfl ((congrFun F.1 361).trans s_361) (vp_in_d rfl) rfl ?_
  refine X_aload_n rfl rfl rfl rfl ?_
  refine X_dup rfl rfl rfl ?_
  refine X_getI (v := (7 : Int32)) rfl rfl rfl ((congrFun F.1 355).trans s_355) rfl rfl ?_
  refine X_iconst (v := (1 : Int32)) rfl rfl rfl ?_
  refine X_iadd (v := (8 : Int32)) rfl rfl rfl ?_
  refine X_putI rfl rfl rfl ((congrFun F.1 355).trans s_355) rfl rfl rfl rfl ?_
  refine X_iinc (v := (-8 : Int32)) (ls' := [some (.ref 355), some (.int b), some (.int (-8 : Int32))]) rfl rfl rfl rfl rfl ?_
  refine LW_goto (tgt := 3) rfl rfl ?_
  refine X_iload_n rfl rfl rfl rfl ?_
  refine X_if_lt (tgt := 39) rfl rfl rfl (fun _ => ?_) (fun q => absurd q (by decide))
  refine LW_return (st := []) rfl rfl ?_
  refine X_aload_n rfl rfl rfl rfl ?_
  refine X_iload_n rfl rfl rfl rfl ?_
  refine X_callV (as := [.int c]) (st := []) rfl rfl rfl (by decide) rfl (Nat.le_of_ble_eq_true rfl) (by decide) (Nat.le_of_ble_eq_true rfl) rfl ((congrFun F.1 355).trans s_355) (by decide) ?_
  refine LW_ls (ls' := [some (.ref 355), some (.int c), none]) rfl ?_
  refine X_bipush (v := (24 : Int32)) rfl rfl rfl ?_
  refine X_istore_n (i := 2) (ls' := [some (.ref 355), some (.int c), some (.int (24 : Int32))]) rfl rfl rfl (Nat.le_of_ble_eq_true rfl) rfl ?_
  refine X_iload_n rfl rfl rfl rfl ?_
  refine X_if_lt (tgt := 39) rfl rfl rfl (fun q => absurd q (by decide)) (fun _ => ?_)
  refine X_aload_n rfl rfl rfl rfl ?_
  refine X_getR (a := 361) rfl rfl rfl ((congrFun F.1 355).trans s_355) rfl ((congrFun (F.2.1 355 (by decide)) 7).trans r_355_7) ?_
  refine X_aload_n rfl rfl rfl rfl ?_
  refine X_getI (v := (8 : Int32)) rfl rfl rfl ((congrFun F.1 355).trans s_355) rfl rfl ?_
  refine X_iload_n rfl rfl rfl rfl ?_
  refine X_iload_n rfl rfl rfl rfl ?_
  refine X_ishr (v := (c >>> ((24 : Int32) &&& 31))) rfl rfl rfl ?_
  refine X_sipush (v := (255 : Int32)) rfl rfl rfl ?_
  refine X_iand (v := ((c >>> ((24 : Int32) &&& 31)) &&& (255 : Int32))) rfl rfl rfl ?_
  refine X_iast (k0 := 8) rfl rfl ((congrFun F.1 361).trans s_361) (vp_in_d rfl) rfl ?_
  refine X_aload_n rfl rfl rfl rfl ?_
  refine X_dup rfl rfl rfl ?_
  refine X_getI (v := (8 : Int32)) rfl rfl rfl ((congrFun F.1 355).trans s_355) rfl rfl ?_
  refine X_iconst (v := (1 : Int32)) rfl rfl rfl ?_
  refine X_iadd (v := (9 : Int32)) rfl rfl rfl ?_
  refine X_putI rfl rfl rfl ((congrFun F.1 355).trans s_355) rfl rfl rfl rfl ?_
  refine X_iinc (v := (16 : Int32)) (ls' := [some (.ref 355), some (.int c), some (.int (16 : Int32))]) rfl rfl rfl rfl rfl ?_
  refine LW_goto (tgt := 3) rfl rfl ?_
  refine X_iload_n rfl rfl rfl rfl ?_
  refine X_if_lt (tgt := 39) rfl rfl rfl (fun q => absurd q (by decide)) (fun _ => ?_)
  refine X_aload_n rfl rfl rfl rfl ?_
  refine X_getR (a := 361) rfl rfl rfl ((congrFun F.1 355).trans s_355) rfl ((congrFun (F.2.1 355 (by decide)) 7).trans r_355_7) ?_
  refine X_aload_n rfl rfl rfl rfl ?_
  refine X_getI (v := (9 : Int32)) rfl rfl rfl ((congrFun F.1 355).trans s_355) rfl rfl ?_
  refine X_iload_n rfl rfl rfl rfl ?_
  refine X_iload_n rfl rfl rfl rfl ?_
  refine X_ishr (v := (c >>> ((16 : Int32) &&& 31))) rfl rfl rfl ?_
  refine X_sipush (v := (255 : Int32)) rfl rfl rfl ?_
  refine X_iand (v := ((c >>> ((16 : Int32) &&& 31)) &&& (255 : Int32))) rfl rfl rfl ?_
  refine X_iast (k0 := 9) rfl rfl ((congrFun F.1 361).trans s_361) (vp_in_d rfl) rfl ?_
  refine X_aload_n rfl rfl rfl rfl ?_
  refine X_dup rfl rfl rfl ?_
  refine X_getI (v := (9 : Int32)) rfl rfl rfl ((congrFun F.1 355).trans s_355) rfl rfl ?_
  refine X_iconst (v := (1 : Int32)) rfl rfl rfl ?_
  refine X_iadd (v := (10 : Int32)) rfl rfl rfl ?_
  refine X_putI rfl rfl rfl ((congrFun F.1 355).trans s_355) rfl rfl rfl rfl ?_
  refine X_iinc (v := (8 : Int32)) (ls' := [some (.ref 355), some (.int c), some (.int (8 : Int32))]) rfl rfl rfl rfl rfl ?_
  refine LW_goto (tgt := 3) rfl rfl ?_
  refine X_iload_n rfl rfl rfl rfl ?_
  refine X_if_lt (tgt := 39) rfl rfl rfl (fun q => absurd q (by decide)) (fun _ => ?_)
  refine X_aload_n rfl rfl rfl rfl ?_
  refine X_getR (a := 361) rfl rfl rfl ((congrFun F.1 355).trans s_355) rfl ((congrFun (F.2.1 355 (by decide)) 7).trans r_355_7) ?_
  refine X_aload_n rfl rfl rfl rfl ?_
  refine X_getI (v := (10 : Int32)) rfl rfl rfl ((congrFun F.1 355).trans s_355) rfl rfl ?_
  refine X_iload_n rfl rfl rfl rfl ?_
  refine X_iload_n rfl rfl rfl rfl ?_
  refine X_ishr (v := (c >>> ((8 : Int32) &&& 31))) rfl rfl rfl ?_
  refine X_sipush (v := (255 : Int32)) rfl rfl rfl ?_
  refine X_iand (v := ((c >>> ((8 : Int32) &&& 31)) &&& (255 : Int32))) rfl rfl rfl ?_
  refine X_iast (k0 := 10) rfl rfl ((congrFun F.1 361).trans s_361) (vp_in_d rfl) rfl ?_
  refine X_aload_n rfl rfl rfl rfl ?_
  refine X_dup rfl rfl rfl ?_
  refine X_getI (v := (10 : Int32)) rfl rfl rfl ((congrFun F.1 355).trans s_355) rfl rfl ?_
  refine X_iconst (v := (1 : Int32)) rfl rfl rfl ?_
  refine X_iadd (v := (11 : Int32)) rfl rfl rfl ?_
  refine X_putI rfl rfl rfl ((congrFun F.1 355).trans s_355) rfl rfl rfl rfl ?_
  refine X_iinc (v := (0 : Int32)) (ls' := [some (.ref 355), some (.int c), some (.int (0 : Int32))]) rfl rfl rfl rfl rfl ?_
  refine LW_goto (tgt := 3) rfl rfl ?_
  refine X_iload_n rfl rfl rfl rfl ?_
  refine X_if_lt (tgt := 39) rfl rfl rfl (fun q => absurd q (by decide)) (fun _ => ?_)
  refine X_aload_n rfl rfl rfl rfl ?_
  refine X_getR (a := 361) rfl rfl rfl ((congrFun F.1 355).trans s_355) rfl ((congrFun (F.2.1 355 (by decide)) 7).trans r_355_7) ?_
  refine X_aload_n rfl rfl rfl rfl ?_
  refine X_getI (v := (11 : Int32)) rfl rfl rfl ((congrFun F.1 355).trans s_355) rfl rfl ?_
  refine X_iload_n rfl rfl rfl rfl ?_
  refine X_iload_n rfl rfl rfl rfl ?_
  refine X_ishr (v := (c >>> ((0 : Int32) &&& 31))) rfl rfl rfl ?_
  refine X_sipush (v := (255 : Int32)) rfl rfl rfl ?_
  refine X_iand (v := ((c >>> ((0 : Int32) &&& 31)) &&& (255 : Int32))) rfl rfl rfl ?_
  refine X_iast (k0 := 11) rfl rfl ((congrFun F.1 361).trans s_361) (vp_in_d rfl) rfl ?_
  refine X_aload_n rfl rfl rfl rfl ?_
  refine X_dup rfl rfl rfl ?_
  refine X_getI (v := (11 : Int32)) rfl rfl rfl ((congrFun F.1 355).trans s_355) rfl rfl ?_
  refine X_iconst (v := (1 : Int32)) rfl rfl rfl ?_
  refine X_iadd (v := (12 : Int32)) rfl rfl rfl ?_
  refine X_putI rfl rfl rfl ((congrFun F.1 355).trans s_355) rfl rfl rfl rfl ?_
  refine X_iinc (v := (-8 : Int32)) (ls' := [some (.ref 355), some (.int c), some (.int (-8 : Int32))]) rfl rfl rfl rfl rfl ?_
  refine LW_goto (tgt := 3) rfl rfl ?_
  refine X_iload_n rfl rfl rfl rfl ?_
  refine X_if_lt (tgt := 39) rfl rfl rfl (fun _ => ?_) (fun q => absurd q (by decide))
  refine LW_return (st := []) rfl rfl ?_
  refine X_aload_n rfl rfl rfl rfl ?_
  refine X_iload rfl rfl rfl ?_
  refine X_callV (as := [.int d]) (st := []) rfl rfl rfl (by decide) rfl (Nat.le_of_ble_eq_true rfl) (by decide) (Nat.le_of_ble_eq_true rfl) rfl ((congrFun F.1 355).trans s_355) (by decide) ?_
  refine LW_ls (ls' := [some (.ref 355), some (.int d), none]) rfl ?_
  refine X_bipush (v := (24 : Int32)) rfl rfl rfl ?_
  refine X_istore_n (i := 2) (ls' := [some (.ref 355), some (.int d), some (.int (24 : Int32))]) rfl rfl rfl (Nat.le_of_ble_eq_true rfl) rfl ?_
  refine X_iload_n rfl rfl rfl rfl ?_
  refine X_if_lt (tgt := 39) rfl rfl rfl (fun q => absurd q (by decide)) (fun _ => ?_)
  refine X_aload_n rfl rfl rfl rfl ?_
  refine X_getR (a := 361) rfl rfl rfl ((congrFun F.1 355).trans s_355) rfl ((congrFun (F.2.1 355 (by decide)) 7).trans r_355_7) ?_
  refine X_aload_n rfl rfl rfl rfl ?_
  refine X_getI (v := (12 : Int32)) rfl rfl rfl ((congrFun F.1 355).trans s_355) rfl rfl ?_
  refine X_iload_n rfl rfl rfl rfl ?_
  refine X_iload_n rfl rfl rfl rfl ?_
  refine X_ishr (v := (d >>> ((24 : Int32) &&& 31))) rfl rfl rfl ?_
  refine X_sipush (v := (255 : Int32)) rfl rfl rfl ?_
  refine X_iand (v := ((d >>> ((24 : Int32) &&& 31)) &&& (255 : Int32))) rfl rfl rfl ?_
  refine X_iast (k0 := 12) rfl rfl ((congrFun F.1 361).trans s_361) (vp_in_d rfl) rfl ?_
  refine X_aload_n rfl rfl rfl rfl ?_
  refine X_dup rfl rfl rfl ?_
  refine X_getI (v := (12 : Int32)) rfl rfl rfl ((congrFun F.1 355).trans s_355) rfl rfl ?_
  refine X_iconst (v := (1 : Int32)) rfl rfl rfl ?_
  refine X_iadd (v := (13 : Int32)) rfl rfl rfl ?_
  refine X_putI rfl rfl rfl ((congrFun F.1 355).trans s_355) rfl rfl rfl rfl ?_
  refine X_iinc (v := (16 : Int32)) (ls' := [some (.ref 355), some (.int d), some (.int (16 : Int32))]) rfl rfl rfl rfl rfl ?_
  refine LW_goto (tgt := 3) rfl rfl ?_
  refine X_iload_n rfl rfl rfl rfl ?_
  refine X_if_lt (tgt := 39) rfl rfl rfl (fun q => absurd q (by decide)) (fun _ => ?_)
  refine X_aload_n rfl rfl rfl rfl ?_
  refine X_getR (a := 361) rfl rfl rfl ((congrFun F.1 355).trans s_355) rfl ((congrFun (F.2.1 355 (by decide)) 7).trans r_355_7) ?_
  refine X_aload_n rfl rfl rfl rfl ?_
  refine X_getI (v := (13 : Int32)) rfl rfl rfl ((congrFun F.1 355).trans s_355) rfl rfl ?_
  refine X_iload_n rfl rfl rfl rfl ?_
  refine X_iload_n rfl rfl rfl rfl ?_
  refine X_ishr (v := (d >>> ((16 : Int32) &&& 31))) rfl rfl rfl ?_
  refine X_sipush (v := (255 : Int32)) rfl rfl rfl ?_
  refine X_iand (v := ((d >>> ((16 : Int32) &&& 31)) &&& (255 : Int32))) rfl rfl rfl ?_
  refine X_iast (k0 := 13) rfl rfl ((congrFun F.1 361).trans s_361) (vp_in_d rfl) rfl ?_
  refine X_aload_n rfl rfl rfl rfl ?_
  refine X_dup rfl rfl rfl ?_
  refine X_getI (v := (13 : Int32)) rfl rfl rfl ((congrFun F.1 355).trans s_355) rfl rfl ?_
  refine X_iconst (v := (1 : Int32)) rfl rfl rfl ?_
  refine X_iadd (v := (14 : Int32)) rfl rfl rfl ?_
  refine X_putI rfl rfl rfl ((congrFun F.1 355).trans s_355) rfl rfl rfl rfl ?_
  refine X_iinc (v := (8 : Int32)) (ls' := [some (.ref 355), some (.int d), some (.int (8 : Int32))]) rfl rfl rfl rfl rfl ?_
  refine LW_goto (tgt := 3) rfl rfl ?_
  refine X_iload_n rfl rfl rfl rfl ?_
  refine X_if_lt (tgt := 39) rfl rfl rfl (fun q => absurd q (by decide)) (fun _ => ?_)
  refine X_aload_n rfl rfl rfl rfl ?_
  refine X_getR (a := 361) rfl rfl rfl ((congrFun F.1 355).trans s_355) rfl ((congrFun (F.2.1 355 (by decide)) 7).trans r_355_7) ?_
  refine X_aload_n rfl rfl rfl rfl ?_
  refine X_getI (v := (14 : Int32)) rfl rfl rfl ((congrFun F.1 355).trans s_355) rfl rfl ?_
  refine X_iload_n rfl rfl rfl rfl ?_
  refine X_iload_n rfl rfl rfl rfl ?_
  refine X_ishr (v := (d >>> ((8 : Int32) &&& 31))) rfl rfl rfl ?_
  refine X_sipush (v := (255 : Int32)) rfl rfl rfl ?_
  refine X_iand (v := ((d >>> ((8 : Int32) &&& 31)) &&& (255 : Int32))) rfl rfl rfl ?_
  refine X_iast (k0 := 14) rfl rfl ((congrFun F.1 361).trans s_361) (vp_in_d rfl) rfl ?_
  refine X_aload_n rfl rfl rfl rfl ?_
  refine X_dup rfl rfl rfl ?_
  refine X_getI (v := (14 : Int32)) rfl rfl rfl ((congrFun F.1 355).trans s_355) rfl rfl ?_
  refine X_iconst (v := (1 : Int32)) rfl rfl rfl ?_
  refine X_iadd (v := (15 : Int32)) rfl rfl rfl ?_
  refine X_putI rfl rfl rfl ((congrFun F.1 355).trans s_355) rfl rfl rfl rfl ?_
  refine X_iinc (v := (0 : Int32)) (ls' := [some (.ref 355), some (.int d), some (.int (0 : Int32))]) rfl rfl rfl rfl rfl ?_
  refine LW_goto (tgt := 3) rfl rfl ?_
  refine X_iload_n rfl rfl rfl rfl ?_
  refine X_if_lt (tgt := 39) rfl rfl rfl (fun q => absurd q (by decide)) (fun _ => ?_)
  refine X_aload_n rfl rfl rfl rfl ?_
  refine X_getR (a := 361) rfl rfl rfl ((congrFun F.1 355).trans s_355) rfl ((congrFun (F.2.1 355 (by decide)) 7).trans r_355_7) ?_
  refine X_aload_n rfl rfl rfl rfl ?_
  refine X_getI (v := (15 : Int32)) rfl rfl rfl ((congrFun F.1 355).trans s_355) rfl rfl ?_
  refine X_iload_n rfl rfl rfl rfl ?_
  refine X_iload_n rfl rfl rfl rfl ?_
  refine X_ishr (v := (d >>> ((0 : Int32) &&& 31))) rfl rfl rfl ?_
  refine X_sipush (v := (255 : Int32)) rfl rfl rfl ?_
  refine X_iand (v := ((d >>> ((0 : Int32) &&& 31)) &&& (255 : Int32))) rfl rfl rfl ?_
  refine X_iast (k0 := 15) rfl rfl ((congrFun F.1 361).trans s_361) (vp_in_d rfl) rfl ?_
  refine X_aload_n rfl rfl rfl rfl ?_
  refine X_dup rfl rfl rfl ?_
  refine X_getI (v := (15 : Int32)) rfl rfl rfl ((congrFun F.1 355).trans s_355) rfl rfl ?_
  refine X_iconst (v := (1 : Int32)) rfl rfl rfl ?_
  refine X_iadd (v := (16 : Int32)) rfl rfl rfl ?_
  refine X_putI rfl rfl rfl ((congrFun F.1 355).trans s_355) rfl rfl rfl rfl ?_
  refine X_iinc (v := (-8 : Int32)) (ls' := [some (.ref 355), some (.int d), some (.int (-8 : Int32))]) rfl rfl rfl rfl rfl ?_
  refine LW_goto (tgt := 3) rfl rfl ?_
  refine X_iload_n rfl rfl rfl rfl ?_
  refine X_if_lt (tgt := 39) rfl rfl rfl (fun _ => ?_) (fun q => absurd q (by decide))
  refine LW_return (st := []) rfl rfl ?_
  refine X_aload_n rfl rfl rfl rfl ?_
  refine X_iload rfl rfl rfl ?_
  refine X_callV (as := [.int e]) (st := []) rfl rfl rfl (by decide) rfl (Nat.le_of_ble_eq_true rfl) (by decide) (Nat.le_of_ble_eq_true rfl) rfl ((congrFun F.1 355).trans s_355) (by decide) ?_
  refine LW_ls (ls' := [some (.ref 355), some (.int e), none]) rfl ?_
  refine X_bipush (v := (24 : Int32)) rfl rfl rfl ?_
  refine X_istore_n (i := 2) (ls' := [some (.ref 355), some (.int e), some (.int (24 : Int32))]) rfl rfl rfl (Nat.le_of_ble_eq_true rfl) rfl ?_
  refine X_iload_n rfl rfl rfl rfl ?_
  refine X_if_lt (tgt := 39) rfl rfl rfl (fun q => absurd q (by decide)) (fun _ => ?_)
  refine X_aload_n rfl rfl rfl rfl ?_
  refine X_getR (a := 361) rfl rfl rfl ((congrFun F.1 355).trans s_355) rfl ((congrFun (F.2.1 355 (by decide)) 7).trans r_355_7) ?_
  refine X_aload_n rfl rfl rfl rfl ?_
  refine X_getI (v := (16 : Int32)) rfl rfl rfl ((congrFun F.1 355).trans s_355) rfl rfl ?_
  refine X_iload_n rfl rfl rfl rfl ?_
  refine X_iload_n rfl rfl rfl rfl ?_
  refine X_ishr (v := (e >>> ((24 : Int32) &&& 31))) rfl rfl rfl ?_
  refine X_sipush (v := (255 : Int32)) rfl rfl rfl ?_
  refine X_iand (v := ((e >>> ((24 : Int32) &&& 31)) &&& (255 : Int32))) rfl rfl rfl ?_
  refine X_iast (k0 := 16) rfl rfl ((congrFun F.1 361).trans s_361) (vp_in_d rfl) rfl ?_
  refine X_aload_n rfl rfl rfl rfl ?_
  refine X_dup rfl rfl rfl ?_
  refine X_getI (v := (16 : Int32)) rfl rfl rfl ((congrFun F.1 355).trans s_355) rfl rfl ?_
  refine X_iconst (v := (1 : Int32)) rfl rfl rfl ?_
  refine X_iadd (v := (17 : Int32)) rfl rfl rfl ?_
  refine X_putI rfl rfl rfl ((congrFun F.1 355).trans s_355) rfl rfl rfl rfl ?_
  refine X_iinc (v := (16 : Int32)) (ls' := [some (.ref 355), some (.int e), some (.int (16 : Int32))]) rfl rfl rfl rfl rfl ?_
  refine LW_goto (tgt := 3) rfl rfl ?_
  refine X_iload_n rfl rfl rfl rfl ?_
  refine X_if_lt (tgt := 39) rfl rfl rfl (fun q => absurd q (by decide)) (fun _ => ?_)
  refine X_aload_n rfl rfl rfl rfl ?_
  refine X_getR (a := 361) rfl rfl rfl ((congrFun F.1 355).trans s_355) rfl ((congrFun (F.2.1 355 (by decide)) 7).trans r_355_7) ?_
  refine X_aload_n rfl rfl rfl rfl ?_
  refine X_getI (v := (17 : Int32)) rfl rfl rfl ((congrFun F.1 355).trans s_355) rfl rfl ?_
  refine X_iload_n rfl rfl rfl rfl ?_
  refine X_iload_n rfl rfl rfl rfl ?_
  refine X_ishr (v := (e >>> ((16 : Int32) &&& 31))) rfl rfl rfl ?_
  refine X_sipush (v := (255 : Int32)) rfl rfl rfl ?_
  refine X_iand (v := ((e >>> ((16 : Int32) &&& 31)) &&& (255 : Int32))) rfl rfl rfl ?_
  refine X_iast (k0 := 17) rfl rfl ((congrFun F.1 361).trans s_361) (vp_in_d rfl) rfl ?_
  refine X_aload_n rfl rfl rfl rfl ?_
  refine X_dup rfl rfl rfl ?_
  refine X_getI (v := (17 : Int32)) rfl rfl rfl ((congrFun F.1 355).trans s_355) rfl rfl ?_
  refine X_iconst (v := (1 : Int32)) rfl rfl rfl ?_
  refine X_iadd (v := (18 : Int32)) rfl rfl rfl ?_
  refine X_putI rfl rfl rfl ((congrFun F.1 355).trans s_355) rfl rfl rfl rfl ?_
  refine X_iinc (v := (8 : Int32)) (ls' := [some (.ref 355), some (.int e), some (.int (8 : Int32))]) rfl rfl rfl rfl rfl ?_
  refine LW_goto (tgt := 3) rfl rfl ?_
  refine X_iload_n rfl rfl rfl rfl ?_
  refine X_if_lt (tgt := 39) rfl rfl rfl (fun q => absurd q (by decide)) (fun _ => ?_)
  refine X_aload_n rfl rfl rfl rfl ?_
  refine X_getR (a := 361) rfl rfl rfl ((congrFun F.1 355).trans s_355) rfl ((congrFun (F.2.1 355 (by decide)) 7).trans r_355_7) ?_
  refine X_aload_n rfl rfl rfl rfl ?_
  refine X_getI (v := (18 : Int32)) rfl rfl rfl ((congrFun F.1 355).trans s_355) rfl rfl ?_
  refine X_iload_n rfl rfl rfl rfl ?_
  refine X_iload_n rfl rfl rfl rfl ?_
  refine X_ishr (v := (e >>> ((8 : Int32) &&& 31))) rfl rfl rfl ?_
  refine X_sipush (v := (255 : Int32)) rfl rfl rfl ?_
  refine X_iand (v := ((e >>> ((8 : Int32) &&& 31)) &&& (255 : Int32))) rfl rfl rfl ?_
  refine X_iast (k0 := 18) rfl rfl ((congrFun F.1 361).trans s_361) (vp_in_d rfl) rfl ?_
  refine X_aload_n rfl rfl rfl rfl ?_
  refine X_dup rfl rfl rfl ?_
  refine X_getI (v := (18 : Int32)) rfl rfl rfl ((congrFun F.1 355).trans s_355) rfl rfl ?_
  refine X_iconst (v := (1 : Int32)) rfl rfl rfl ?_
  refine X_iadd (v := (19 : Int32)) rfl rfl rfl ?_
  refine X_putI rfl rfl rfl ((congrFun F.1 355).trans s_355) rfl rfl rfl rfl ?_
  refine X_iinc (v := (0 : Int32)) (ls' := [some (.ref 355), some (.int e), some (.int (0 : Int32))]) rfl rfl rfl rfl rfl ?_
  refine LW_goto (tgt := 3) rfl rfl ?_
  refine X_iload_n rfl rfl rfl rfl ?_
  refine X_if_lt (tgt := 39) rfl rfl rfl (fun q => absurd q (by decide)) (fun _ => ?_)
  refine X_aload_n rfl rfl rfl rfl ?_
  refine X_getR (a := 361) rfl rfl rfl ((congrFun F.1 355).trans s_355) rfl ((congrFun (F.2.1 355 (by decide)) 7).trans r_355_7) ?_
  refine X_aload_n rfl rfl rfl rfl ?_
  refine X_getI (v := (19 : Int32)) rfl rfl rfl ((congrFun F.1 355).trans s_355) rfl rfl ?_
  refine X_iload_n rfl rfl rfl rfl ?_
  refine X_iload_n rfl rfl rfl rfl ?_
  refine X_ishr (v := (e >>> ((0 : Int32) &&& 31))) rfl rfl rfl ?_
  refine X_sipush (v := (255 : Int32)) rfl rfl rfl ?_
  refine X_iand (v := ((e >>> ((0 : Int32) &&& 31)) &&& (255 : Int32))) rfl rfl rfl ?_
  refine X_iast (k0 := 19) rfl rfl ((congrFun F.1 361).trans s_361) (vp_in_d rfl) rfl ?_
  refine X_aload_n rfl rfl rfl rfl ?_
  refine X_dup rfl rfl rfl ?_
  refine X_getI (v := (19 : Int32)) rfl rfl rfl ((congrFun F.1 355).trans s_355) rfl rfl ?_
  refine X_iconst (v := (1 : Int32)) rfl rfl rfl ?_
  refine X_iadd (v := (20 : Int32)) rfl rfl rfl ?_
  refine X_putI rfl rfl rfl ((congrFun F.1 355).trans s_355) rfl rfl rfl rfl ?_
  refine X_iinc (v := (-8 : Int32)) (ls' := [some (.ref 355), some (.int e), some (.int (-8 : Int32))]) rfl rfl rfl rfl rfl ?_
  refine LW_goto (tgt := 3) rfl rfl ?_
  refine X_iload_n rfl rfl rfl rfl ?_
  refine X_if_lt (tgt := 39) rfl rfl rfl (fun _ => ?_) (fun q => absurd q (by decide))
  refine LW_return (st := []) rfl rfl ?_
  refine X_aload_n rfl rfl rfl rfl ?_
  refine X_getI (v := (20 : Int32)) rfl rfl rfl ((congrFun F.1 355).trans s_355) rfl rfl ?_
  refine LW_ireturn (st := []) rfl rfl rfl (congrArg (fun z => some (Value.int z)) ?_)
  unfold f_feed
  repeat' split
  all_goals first | rfl | (exfalso; omega) | (refine Int32.toInt_inj.mp ?_; rw [show (0 : Int32).toInt = 0 from rfl]; omega)
