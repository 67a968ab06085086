/-! the reader: names -/
set_option maxRecDepth 10000 in
set_option maxHeartbeats 40000000 in
theorem C_X13_lawName {P : Par} {g : LH} {d : Nat}  (V : InvR P g)    : LW 210 (d + 6) 0 0 0 (lEnt (mL 210) [.ref 355]) [] g (fun v g' => ∃ r : Int32, v = some (.int r) ∧ (-1) ≤ r.toInt ∧ r.toInt ≤ 7 ∧ g = g' ∧ (r.toInt = vLN (Gj g 355 15))) := by
  refine LW_ls (ls' := [some (.ref 355)]) rfl ?_
  refine X_aload_n rfl rfl rfl rfl ?_
  refine X_getJ (v := Gj g 355 15) rfl rfl rfl ((congrFun V.1 355).trans s_355) rfl rfl ?_
  refine X_bipush (v := (100 : Int32)) rfl rfl rfl ?_
  refine X_bipush (v := (97 : Int32)) rfl rfl rfl ?_
  refine X_bipush (v := (121 : Int32)) rfl rfl rfl ?_
  refine X_callS (as := [.int (100 : Int32), .int (97 : Int32), .int (121 : Int32)]) (st := [.long (Gj g 355 15)]) rfl rfl rfl (by decide) rfl (Nat.le_of_ble_eq_true rfl) (by decide) (Nat.le_of_ble_eq_true rfl) rfl ?_
  refine LW_ls (ls' := [some (.int (100 : Int32)), some (.int (97 : Int32)), some (.int (121 : Int32))]) rfl ?_
  refine X_iload_n rfl rfl rfl rfl ?_
  refine X_i2l (v := (100 : Int64)) rfl rfl (by decide) ?_
  refine X_bipush (v := (8 : Int32)) rfl rfl rfl ?_
  refine X_lshl (v := (25600 : Int64)) rfl rfl (by decide) ?_
  refine X_iload_n rfl rfl rfl rfl ?_
  refine X_i2l (v := (97 : Int64)) rfl rfl (by decide) ?_
  refine X_lor (v := (25697 : Int64)) rfl rfl (by decide) ?_
  refine X_bipush (v := (8 : Int32)) rfl rfl rfl ?_
  refine X_lshl (v := (6578432 : Int64)) rfl rfl (by decide) ?_
  refine X_iload_n rfl rfl rfl rfl ?_
  refine X_i2l (v := (121 : Int64)) rfl rfl (by decide) ?_
  refine X_lor (v := (6578553 : Int64)) rfl rfl (by decide) ?_
  refine LW_lreturn (st := []) rfl rfl ?_
  refine S_lcmp rfl rfl (fun vz1 hvz1 => ?_)
  refine S_if_ne (tgt := 19) rfl rfl rfl rfl (fun vh2 => ?_) (fun vh2 => ?_)
  · refine X_aload_n rfl rfl rfl rfl ?_
    refine X_getJ (v := Gj g 355 15) rfl rfl rfl ((congrFun V.1 355).trans s_355) rfl rfl ?_
    refine X_bipush (v := (111 : Int32)) rfl rfl rfl ?_
    refine X_bipush (v := (117 : Int32)) rfl rfl rfl ?_
    refine X_bipush (v := (116 : Int32)) rfl rfl rfl ?_
    refine X_bipush (v := (115 : Int32)) rfl rfl rfl ?_
    refine X_callS (as := [.int (111 : Int32), .int (117 : Int32), .int (116 : Int32), .int (115 : Int32)]) (st := [.long (Gj g 355 15)]) rfl rfl rfl (by decide) rfl (Nat.le_of_ble_eq_true rfl) (by decide) (Nat.le_of_ble_eq_true rfl) rfl ?_
    refine LW_ls (ls' := [some (.int (111 : Int32)), some (.int (117 : Int32)), some (.int (116 : Int32)), some (.int (115 : Int32))]) rfl ?_
    refine X_iload_n rfl rfl rfl rfl ?_
    refine X_iload_n rfl rfl rfl rfl ?_
    refine X_iload_n rfl rfl rfl rfl ?_
    refine X_callS (as := [.int (111 : Int32), .int (117 : Int32), .int (116 : Int32)]) (st := []) rfl rfl rfl (by decide) rfl (Nat.le_of_ble_eq_true rfl) (by decide) (Nat.le_of_ble_eq_true rfl) rfl ?_
    refine LW_ls (ls' := [some (.int (111 : Int32)), some (.int (117 : Int32)), some (.int (116 : Int32))]) rfl ?_
    refine X_iload_n rfl rfl rfl rfl ?_
    refine X_i2l (v := (111 : Int64)) rfl rfl (by decide) ?_
    refine X_bipush (v := (8 : Int32)) rfl rfl rfl ?_
    refine X_lshl (v := (28416 : Int64)) rfl rfl (by decide) ?_
    refine X_iload_n rfl rfl rfl rfl ?_
    refine X_i2l (v := (117 : Int64)) rfl rfl (by decide) ?_
    refine X_lor (v := (28533 : Int64)) rfl rfl (by decide) ?_
    refine X_bipush (v := (8 : Int32)) rfl rfl rfl ?_
    refine X_lshl (v := (7304448 : Int64)) rfl rfl (by decide) ?_
    refine X_iload_n rfl rfl rfl rfl ?_
    refine X_i2l (v := (116 : Int64)) rfl rfl (by decide) ?_
    refine X_lor (v := (7304564 : Int64)) rfl rfl (by decide) ?_
    refine LW_lreturn (st := []) rfl rfl ?_
    refine X_bipush (v := (8 : Int32)) rfl rfl rfl ?_
    refine X_lshl (v := (1869968384 : Int64)) rfl rfl (by decide) ?_
    refine X_iload_n rfl rfl rfl rfl ?_
    refine X_i2l (v := (115 : Int64)) rfl rfl (by decide) ?_
    refine X_lor (v := (1869968499 : Int64)) rfl rfl (by decide) ?_
    refine LW_lreturn (st := []) rfl rfl ?_
    refine S_lcmp rfl rfl (fun vz3 hvz3 => ?_)
    refine S_if_ne (tgt := 40) rfl rfl rfl rfl (fun vh4 => ?_) (fun vh4 => ?_)
    · refine X_aload_n rfl rfl rfl rfl ?_
      refine X_getJ (v := Gj g 355 15) rfl rfl rfl ((congrFun V.1 355).trans s_355) rfl rfl ?_
      refine X_bipush (v := (108 : Int32)) rfl rfl rfl ?_
      refine X_bipush (v := (101 : Int32)) rfl rfl rfl ?_
      refine X_bipush (v := (116 : Int32)) rfl rfl rfl ?_
      refine X_bipush (v := (116 : Int32)) rfl rfl rfl ?_
      refine X_bipush (v := (101 : Int32)) rfl rfl rfl ?_
      refine X_bipush (v := (114 : Int32)) rfl rfl rfl ?_
      refine X_callS (as := [.int (108 : Int32), .int (101 : Int32), .int (116 : Int32), .int (116 : Int32), .int (101 : Int32), .int (114 : Int32)]) (st := [.long (Gj g 355 15)]) rfl rfl rfl (by decide) rfl (Nat.le_of_ble_eq_true rfl) (by decide) (Nat.le_of_ble_eq_true rfl) rfl ?_
      refine LW_ls (ls' := [some (.int (108 : Int32)), some (.int (101 : Int32)), some (.int (116 : Int32)), some (.int (116 : Int32)), some (.int (101 : Int32)), some (.int (114 : Int32))]) rfl ?_
      refine X_iload_n rfl rfl rfl rfl ?_
      refine X_iload_n rfl rfl rfl rfl ?_
      refine X_iload_n rfl rfl rfl rfl ?_
      refine X_iload_n rfl rfl rfl rfl ?_
      refine X_iload rfl rfl rfl ?_
      refine X_callS (as := [.int (108 : Int32), .int (101 : Int32), .int (116 : Int32), .int (116 : Int32), .int (101 : Int32)]) (st := []) rfl rfl rfl (by decide) rfl (Nat.le_of_ble_eq_true rfl) (by decide) (Nat.le_of_ble_eq_true rfl) rfl ?_
      refine LW_ls (ls' := [some (.int (108 : Int32)), some (.int (101 : Int32)), some (.int (116 : Int32)), some (.int (116 : Int32)), some (.int (101 : Int32))]) rfl ?_
      refine X_iload_n rfl rfl rfl rfl ?_
      refine X_iload_n rfl rfl rfl rfl ?_
      refine X_iload_n rfl rfl rfl rfl ?_
      refine X_callS (as := [.int (108 : Int32), .int (101 : Int32), .int (116 : Int32)]) (st := []) rfl rfl rfl (by decide) rfl (Nat.le_of_ble_eq_true rfl) (by decide) (Nat.le_of_ble_eq_true rfl) rfl ?_
      refine LW_ls (ls' := [some (.int (108 : Int32)), some (.int (101 : Int32)), some (.int (116 : Int32))]) rfl ?_
      refine X_iload_n rfl rfl rfl rfl ?_
      refine X_i2l (v := (108 : Int64)) rfl rfl (by decide) ?_
      refine X_bipush (v := (8 : Int32)) rfl rfl rfl ?_
      refine X_lshl (v := (27648 : Int64)) rfl rfl (by decide) ?_
      refine X_iload_n rfl rfl rfl rfl ?_
      refine X_i2l (v := (101 : Int64)) rfl rfl (by decide) ?_
      refine X_lor (v := (27749 : Int64)) rfl rfl (by decide) ?_
      refine X_bipush (v := (8 : Int32)) rfl rfl rfl ?_
      refine X_lshl (v := (7103744 : Int64)) rfl rfl (by decide) ?_
      refine X_iload_n rfl rfl rfl rfl ?_
      refine X_i2l (v := (116 : Int64)) rfl rfl (by decide) ?_
      refine X_lor (v := (7103860 : Int64)) rfl rfl (by decide) ?_
      refine LW_lreturn (st := []) rfl rfl ?_
      refine X_bipush (v := (8 : Int32)) rfl rfl rfl ?_
      refine X_lshl (v := (1818588160 : Int64)) rfl rfl (by decide) ?_
      refine X_iload_n rfl rfl rfl rfl ?_
      refine X_i2l (v := (116 : Int64)) rfl rfl (by decide) ?_
      refine X_lor (v := (1818588276 : Int64)) rfl rfl (by decide) ?_
      refine X_bipush (v := (8 : Int32)) rfl rfl rfl ?_
      refine X_lshl (v := (465558598656 : Int64)) rfl rfl (by decide) ?_
      refine X_iload rfl rfl rfl ?_
      refine X_i2l (v := (101 : Int64)) rfl rfl (by decide) ?_
      refine X_lor (v := (465558598757 : Int64)) rfl rfl (by decide) ?_
      refine LW_lreturn (st := []) rfl rfl ?_
      refine X_bipush (v := (8 : Int32)) rfl rfl rfl ?_
      refine X_lshl (v := (119183001281792 : Int64)) rfl rfl (by decide) ?_
      refine X_iload rfl rfl rfl ?_
      refine X_i2l (v := (114 : Int64)) rfl rfl (by decide) ?_
      refine X_lor (v := (119183001281906 : Int64)) rfl rfl (by decide) ?_
      refine LW_lreturn (st := []) rfl rfl ?_
      refine S_lcmp rfl rfl (fun vz5 hvz5 => ?_)
      refine S_if_ne (tgt := 65) rfl rfl rfl rfl (fun vh6 => ?_) (fun vh6 => ?_)
      · refine X_aload_n rfl rfl rfl rfl ?_
        refine X_getJ (v := Gj g 355 15) rfl rfl rfl ((congrFun V.1 355).trans s_355) rfl rfl ?_
        refine X_bipush (v := (119 : Int32)) rfl rfl rfl ?_
        refine X_bipush (v := (97 : Int32)) rfl rfl rfl ?_
        refine X_bipush (v := (103 : Int32)) rfl rfl rfl ?_
        refine X_bipush (v := (101 : Int32)) rfl rfl rfl ?_
        refine X_callS (as := [.int (119 : Int32), .int (97 : Int32), .int (103 : Int32), .int (101 : Int32)]) (st := [.long (Gj g 355 15)]) rfl rfl rfl (by decide) rfl (Nat.le_of_ble_eq_true rfl) (by decide) (Nat.le_of_ble_eq_true rfl) rfl ?_
        refine LW_ls (ls' := [some (.int (119 : Int32)), some (.int (97 : Int32)), some (.int (103 : Int32)), some (.int (101 : Int32))]) rfl ?_
        refine X_iload_n rfl rfl rfl rfl ?_
        refine X_iload_n rfl rfl rfl rfl ?_
        refine X_iload_n rfl rfl rfl rfl ?_
        refine X_callS (as := [.int (119 : Int32), .int (97 : Int32), .int (103 : Int32)]) (st := []) rfl rfl rfl (by decide) rfl (Nat.le_of_ble_eq_true rfl) (by decide) (Nat.le_of_ble_eq_true rfl) rfl ?_
        refine LW_ls (ls' := [some (.int (119 : Int32)), some (.int (97 : Int32)), some (.int (103 : Int32))]) rfl ?_
        refine X_iload_n rfl rfl rfl rfl ?_
        refine X_i2l (v := (119 : Int64)) rfl rfl (by decide) ?_
        refine X_bipush (v := (8 : Int32)) rfl rfl rfl ?_
        refine X_lshl (v := (30464 : Int64)) rfl rfl (by decide) ?_
        refine X_iload_n rfl rfl rfl rfl ?_
        refine X_i2l (v := (97 : Int64)) rfl rfl (by decide) ?_
        refine X_lor (v := (30561 : Int64)) rfl rfl (by decide) ?_
        refine X_bipush (v := (8 : Int32)) rfl rfl rfl ?_
        refine X_lshl (v := (7823616 : Int64)) rfl rfl (by decide) ?_
        refine X_iload_n rfl rfl rfl rfl ?_
        refine X_i2l (v := (103 : Int64)) rfl rfl (by decide) ?_
        refine X_lor (v := (7823719 : Int64)) rfl rfl (by decide) ?_
        refine LW_lreturn (st := []) rfl rfl ?_
        refine X_bipush (v := (8 : Int32)) rfl rfl rfl ?_
        refine X_lshl (v := (2002872064 : Int64)) rfl rfl (by decide) ?_
        refine X_iload_n rfl rfl rfl rfl ?_
        refine X_i2l (v := (101 : Int64)) rfl rfl (by decide) ?_
        refine X_lor (v := (2002872165 : Int64)) rfl rfl (by decide) ?_
        refine LW_lreturn (st := []) rfl rfl ?_
        refine S_lcmp rfl rfl (fun vz7 hvz7 => ?_)
        refine S_if_ne (tgt := 86) rfl rfl rfl rfl (fun vh8 => ?_) (fun vh8 => ?_)
        · refine X_aload_n rfl rfl rfl rfl ?_
          refine X_getJ (v := Gj g 355 15) rfl rfl rfl ((congrFun V.1 355).trans s_355) rfl rfl ?_
          refine X_bipush (v := (115 : Int32)) rfl rfl rfl ?_
          refine X_bipush (v := (105 : Int32)) rfl rfl rfl ?_
          refine X_bipush (v := (110 : Int32)) rfl rfl rfl ?_
          refine X_bipush (v := (99 : Int32)) rfl rfl rfl ?_
          refine X_bipush (v := (101 : Int32)) rfl rfl rfl ?_
          refine X_callS (as := [.int (115 : Int32), .int (105 : Int32), .int (110 : Int32), .int (99 : Int32), .int (101 : Int32)]) (st := [.long (Gj g 355 15)]) rfl rfl rfl (by decide) rfl (Nat.le_of_ble_eq_true rfl) (by decide) (Nat.le_of_ble_eq_true rfl) rfl ?_
          refine LW_ls (ls' := [some (.int (115 : Int32)), some (.int (105 : Int32)), some (.int (110 : Int32)), some (.int (99 : Int32)), some (.int (101 : Int32))]) rfl ?_
          refine X_iload_n rfl rfl rfl rfl ?_
          refine X_iload_n rfl rfl rfl rfl ?_
          refine X_iload_n rfl rfl rfl rfl ?_
          refine X_callS (as := [.int (115 : Int32), .int (105 : Int32), .int (110 : Int32)]) (st := []) rfl rfl rfl (by decide) rfl (Nat.le_of_ble_eq_true rfl) (by decide) (Nat.le_of_ble_eq_true rfl) rfl ?_
          refine LW_ls (ls' := [some (.int (115 : Int32)), some (.int (105 : Int32)), some (.int (110 : Int32))]) rfl ?_
          refine X_iload_n rfl rfl rfl rfl ?_
          refine X_i2l (v := (115 : Int64)) rfl rfl (by decide) ?_
          refine X_bipush (v := (8 : Int32)) rfl rfl rfl ?_
          refine X_lshl (v := (29440 : Int64)) rfl rfl (by decide) ?_
          refine X_iload_n rfl rfl rfl rfl ?_
          refine X_i2l (v := (105 : Int64)) rfl rfl (by decide) ?_
          refine X_lor (v := (29545 : Int64)) rfl rfl (by decide) ?_
          refine X_bipush (v := (8 : Int32)) rfl rfl rfl ?_
          refine X_lshl (v := (7563520 : Int64)) rfl rfl (by decide) ?_
          refine X_iload_n rfl rfl rfl rfl ?_
          refine X_i2l (v := (110 : Int64)) rfl rfl (by decide) ?_
          refine X_lor (v := (7563630 : Int64)) rfl rfl (by decide) ?_
          refine LW_lreturn (st := []) rfl rfl ?_
          refine X_bipush (v := (8 : Int32)) rfl rfl rfl ?_
          refine X_lshl (v := (1936289280 : Int64)) rfl rfl (by decide) ?_
          refine X_iload_n rfl rfl rfl rfl ?_
          refine X_i2l (v := (99 : Int64)) rfl rfl (by decide) ?_
          refine X_lor (v := (1936289379 : Int64)) rfl rfl (by decide) ?_
          refine X_bipush (v := (8 : Int32)) rfl rfl rfl ?_
          refine X_lshl (v := (495690081024 : Int64)) rfl rfl (by decide) ?_
          refine X_iload rfl rfl rfl ?_
          refine X_i2l (v := (101 : Int64)) rfl rfl (by decide) ?_
          refine X_lor (v := (495690081125 : Int64)) rfl rfl (by decide) ?_
          refine LW_lreturn (st := []) rfl rfl ?_
          refine S_lcmp rfl rfl (fun vz9 hvz9 => ?_)
          refine S_if_ne (tgt := 109) rfl rfl rfl rfl (fun vh10 => ?_) (fun vh10 => ?_)
          · refine X_aload_n rfl rfl rfl rfl ?_
            refine X_getJ (v := Gj g 355 15) rfl rfl rfl ((congrFun V.1 355).trans s_355) rfl rfl ?_
            refine X_bipush (v := (118 : Int32)) rfl rfl rfl ?_
            refine X_bipush (v := (111 : Int32)) rfl rfl rfl ?_
            refine X_bipush (v := (119 : Int32)) rfl rfl rfl ?_
            refine X_bipush (v := (101 : Int32)) rfl rfl rfl ?_
            refine X_bipush (v := (108 : Int32)) rfl rfl rfl ?_
            refine X_callS (as := [.int (118 : Int32), .int (111 : Int32), .int (119 : Int32), .int (101 : Int32), .int (108 : Int32)]) (st := [.long (Gj g 355 15)]) rfl rfl rfl (by decide) rfl (Nat.le_of_ble_eq_true rfl) (by decide) (Nat.le_of_ble_eq_true rfl) rfl ?_
            refine LW_ls (ls' := [some (.int (118 : Int32)), some (.int (111 : Int32)), some (.int (119 : Int32)), some (.int (101 : Int32)), some (.int (108 : Int32))]) rfl ?_
            refine X_iload_n rfl rfl rfl rfl ?_
            refine X_iload_n rfl rfl rfl rfl ?_
            refine X_iload_n rfl rfl rfl rfl ?_
            refine X_callS (as := [.int (118 : Int32), .int (111 : Int32), .int (119 : Int32)]) (st := []) rfl rfl rfl (by decide) rfl (Nat.le_of_ble_eq_true rfl) (by decide) (Nat.le_of_ble_eq_true rfl) rfl ?_
            refine LW_ls (ls' := [some (.int (118 : Int32)), some (.int (111 : Int32)), some (.int (119 : Int32))]) rfl ?_
            refine X_iload_n rfl rfl rfl rfl ?_
            refine X_i2l (v := (118 : Int64)) rfl rfl (by decide) ?_
            refine X_bipush (v := (8 : Int32)) rfl rfl rfl ?_
            refine X_lshl (v := (30208 : Int64)) rfl rfl (by decide) ?_
            refine X_iload_n rfl rfl rfl rfl ?_
            refine X_i2l (v := (111 : Int64)) rfl rfl (by decide) ?_
            refine X_lor (v := (30319 : Int64)) rfl rfl (by decide) ?_
            refine X_bipush (v := (8 : Int32)) rfl rfl rfl ?_
            refine X_lshl (v := (7761664 : Int64)) rfl rfl (by decide) ?_
            refine X_iload_n rfl rfl rfl rfl ?_
            refine X_i2l (v := (119 : Int64)) rfl rfl (by decide) ?_
            refine X_lor (v := (7761783 : Int64)) rfl rfl (by decide) ?_
            refine LW_lreturn (st := []) rfl rfl ?_
            refine X_bipush (v := (8 : Int32)) rfl rfl rfl ?_
            refine X_lshl (v := (1987016448 : Int64)) rfl rfl (by decide) ?_
            refine X_iload_n rfl rfl rfl rfl ?_
            refine X_i2l (v := (101 : Int64)) rfl rfl (by decide) ?_
            refine X_lor (v := (1987016549 : Int64)) rfl rfl (by decide) ?_
            refine X_bipush (v := (8 : Int32)) rfl rfl rfl ?_
            refine X_lshl (v := (508676236544 : Int64)) rfl rfl (by decide) ?_
            refine X_iload rfl rfl rfl ?_
            refine X_i2l (v := (108 : Int64)) rfl rfl (by decide) ?_
            refine X_lor (v := (508676236652 : Int64)) rfl rfl (by decide) ?_
            refine LW_lreturn (st := []) rfl rfl ?_
            refine S_lcmp rfl rfl (fun vz11 hvz11 => ?_)
            refine S_if_ne (tgt := 132) rfl rfl rfl rfl (fun vh12 => ?_) (fun vh12 => ?_)
            · refine X_aload_n rfl rfl rfl rfl ?_
              refine X_getJ (v := Gj g 355 15) rfl rfl rfl ((congrFun V.1 355).trans s_355) rfl rfl ?_
              refine X_bipush (v := (116 : Int32)) rfl rfl rfl ?_
              refine X_bipush (v := (105 : Int32)) rfl rfl rfl ?_
              refine X_bipush (v := (101 : Int32)) rfl rfl rfl ?_
              refine X_bipush (v := (100 : Int32)) rfl rfl rfl ?_
              refine X_callS (as := [.int (116 : Int32), .int (105 : Int32), .int (101 : Int32), .int (100 : Int32)]) (st := [.long (Gj g 355 15)]) rfl rfl rfl (by decide) rfl (Nat.le_of_ble_eq_true rfl) (by decide) (Nat.le_of_ble_eq_true rfl) rfl ?_
              refine LW_ls (ls' := [some (.int (116 : Int32)), some (.int (105 : Int32)), some (.int (101 : Int32)), some (.int (100 : Int32))]) rfl ?_
              refine X_iload_n rfl rfl rfl rfl ?_
              refine X_iload_n rfl rfl rfl rfl ?_
              refine X_iload_n rfl rfl rfl rfl ?_
              refine X_callS (as := [.int (116 : Int32), .int (105 : Int32), .int (101 : Int32)]) (st := []) rfl rfl rfl (by decide) rfl (Nat.le_of_ble_eq_true rfl) (by decide) (Nat.le_of_ble_eq_true rfl) rfl ?_
              refine LW_ls (ls' := [some (.int (116 : Int32)), some (.int (105 : Int32)), some (.int (101 : Int32))]) rfl ?_
              refine X_iload_n rfl rfl rfl rfl ?_
              refine X_i2l (v := (116 : Int64)) rfl rfl (by decide) ?_
              refine X_bipush (v := (8 : Int32)) rfl rfl rfl ?_
              refine X_lshl (v := (29696 : Int64)) rfl rfl (by decide) ?_
              refine X_iload_n rfl rfl rfl rfl ?_
              refine X_i2l (v := (105 : Int64)) rfl rfl (by decide) ?_
              refine X_lor (v := (29801 : Int64)) rfl rfl (by decide) ?_
              refine X_bipush (v := (8 : Int32)) rfl rfl rfl ?_
              refine X_lshl (v := (7629056 : Int64)) rfl rfl (by decide) ?_
              refine X_iload_n rfl rfl rfl rfl ?_
              refine X_i2l (v := (101 : Int64)) rfl rfl (by decide) ?_
              refine X_lor (v := (7629157 : Int64)) rfl rfl (by decide) ?_
              refine LW_lreturn (st := []) rfl rfl ?_
              refine X_bipush (v := (8 : Int32)) rfl rfl rfl ?_
              refine X_lshl (v := (1953064192 : Int64)) rfl rfl (by decide) ?_
              refine X_iload_n rfl rfl rfl rfl ?_
              refine X_i2l (v := (100 : Int64)) rfl rfl (by decide) ?_
              refine X_lor (v := (1953064292 : Int64)) rfl rfl (by decide) ?_
              refine LW_lreturn (st := []) rfl rfl ?_
              refine S_lcmp rfl rfl (fun vz13 hvz13 => ?_)
              refine S_if_ne (tgt := 156) rfl rfl rfl rfl (fun vh14 => ?_) (fun vh14 => ?_)
              · refine X_aload_n rfl rfl rfl rfl ?_
                refine X_getJ (v := Gj g 355 15) rfl rfl rfl ((congrFun V.1 355).trans s_355) rfl rfl ?_
                refine X_bipush (v := (117 : Int32)) rfl rfl rfl ?_
                refine X_bipush (v := (115 : Int32)) rfl rfl rfl ?_
                refine X_bipush (v := (101 : Int32)) rfl rfl rfl ?_
                refine X_bipush (v := (115 : Int32)) rfl rfl rfl ?_
                refine X_callS (as := [.int (117 : Int32), .int (115 : Int32), .int (101 : Int32), .int (115 : Int32)]) (st := [.long (Gj g 355 15)]) rfl rfl rfl (by decide) rfl (Nat.le_of_ble_eq_true rfl) (by decide) (Nat.le_of_ble_eq_true rfl) rfl ?_
                refine LW_ls (ls' := [some (.int (117 : Int32)), some (.int (115 : Int32)), some (.int (101 : Int32)), some (.int (115 : Int32))]) rfl ?_
                refine X_iload_n rfl rfl rfl rfl ?_
                refine X_iload_n rfl rfl rfl rfl ?_
                refine X_iload_n rfl rfl rfl rfl ?_
                refine X_callS (as := [.int (117 : Int32), .int (115 : Int32), .int (101 : Int32)]) (st := []) rfl rfl rfl (by decide) rfl (Nat.le_of_ble_eq_true rfl) (by decide) (Nat.le_of_ble_eq_true rfl) rfl ?_
                refine LW_ls (ls' := [some (.int (117 : Int32)), some (.int (115 : Int32)), some (.int (101 : Int32))]) rfl ?_
                refine X_iload_n rfl rfl rfl rfl ?_
                refine X_i2l (v := (117 : Int64)) rfl rfl (by decide) ?_
                refine X_bipush (v := (8 : Int32)) rfl rfl rfl ?_
                refine X_lshl (v := (29952 : Int64)) rfl rfl (by decide) ?_
                refine X_iload_n rfl rfl rfl rfl ?_
                refine X_i2l (v := (115 : Int64)) rfl rfl (by decide) ?_
                refine X_lor (v := (30067 : Int64)) rfl rfl (by decide) ?_
                refine X_bipush (v := (8 : Int32)) rfl rfl rfl ?_
                refine X_lshl (v := (7697152 : Int64)) rfl rfl (by decide) ?_
                refine X_iload_n rfl rfl rfl rfl ?_
                refine X_i2l (v := (101 : Int64)) rfl rfl (by decide) ?_
                refine X_lor (v := (7697253 : Int64)) rfl rfl (by decide) ?_
                refine LW_lreturn (st := []) rfl rfl ?_
                refine X_bipush (v := (8 : Int32)) rfl rfl rfl ?_
                refine X_lshl (v := (1970496768 : Int64)) rfl rfl (by decide) ?_
                refine X_iload_n rfl rfl rfl rfl ?_
                refine X_i2l (v := (115 : Int64)) rfl rfl (by decide) ?_
                refine X_lor (v := (1970496883 : Int64)) rfl rfl (by decide) ?_
                refine LW_lreturn (st := []) rfl rfl ?_
                refine S_lcmp rfl rfl (fun vz15 hvz15 => ?_)
                refine S_if_ne (tgt := 180) rfl rfl rfl rfl (fun vh16 => ?_) (fun vh16 => ?_)
                · refine X_iconst (v := (-1 : Int32)) rfl rfl rfl ?_
                  have vw17 : ¬ (Gj g 355 15) = (6578553 : Int64) := fun q => absurd (hvz1.1.mpr q) (by omega)
                  have vw18 : ¬ (Gj g 355 15) = (1869968499 : Int64) := fun q => absurd (hvz3.1.mpr q) (by omega)
                  have vw19 : ¬ (Gj g 355 15) = (119183001281906 : Int64) := fun q => absurd (hvz5.1.mpr q) (by omega)
                  have vw20 : ¬ (Gj g 355 15) = (2002872165 : Int64) := fun q => absurd (hvz7.1.mpr q) (by omega)
                  have vw21 : ¬ (Gj g 355 15) = (495690081125 : Int64) := fun q => absurd (hvz9.1.mpr q) (by omega)
                  have vw22 : ¬ (Gj g 355 15) = (508676236652 : Int64) := fun q => absurd (hvz11.1.mpr q) (by omega)
                  have vw23 : ¬ (Gj g 355 15) = (1953064292 : Int64) := fun q => absurd (hvz13.1.mpr q) (by omega)
                  have vw24 : ¬ (Gj g 355 15) = (1970496883 : Int64) := fun q => absurd (hvz15.1.mpr q) (by omega)
                  exact LW_ireturn (st := []) rfl rfl rfl ⟨_, rfl, by decide, by decide, rfl, (show (-1 : Int32).toInt = -1 from rfl).trans ((if_neg vw17).trans ((if_neg vw18).trans ((if_neg vw19).trans ((if_neg vw20).trans ((if_neg vw21).trans ((if_neg vw22).trans ((if_neg vw23).trans (if_neg vw24)))))))).symm⟩
                · refine X_bipush (v := (7 : Int32)) rfl rfl rfl ?_
                  refine LW_goto (tgt := 181) rfl rfl ?_
                  have vw25 : ¬ (Gj g 355 15) = (6578553 : Int64) := fun q => absurd (hvz1.1.mpr q) (by omega)
                  have vw26 : ¬ (Gj g 355 15) = (1869968499 : Int64) := fun q => absurd (hvz3.1.mpr q) (by omega)
                  have vw27 : ¬ (Gj g 355 15) = (119183001281906 : Int64) := fun q => absurd (hvz5.1.mpr q) (by omega)
                  have vw28 : ¬ (Gj g 355 15) = (2002872165 : Int64) := fun q => absurd (hvz7.1.mpr q) (by omega)
                  have vw29 : ¬ (Gj g 355 15) = (495690081125 : Int64) := fun q => absurd (hvz9.1.mpr q) (by omega)
                  have vw30 : ¬ (Gj g 355 15) = (508676236652 : Int64) := fun q => absurd (hvz11.1.mpr q) (by omega)
                  have vw31 : ¬ (Gj g 355 15) = (1953064292 : Int64) := fun q => absurd (hvz13.1.mpr q) (by omega)
                  have vw32 : (Gj g 355 15) = (1970496883 : Int64) := hvz15.1.mp (by omega)
                  exact LW_ireturn (st := []) rfl rfl rfl ⟨_, rfl, by decide, by decide, rfl, (show (7 : Int32).toInt = 7 from rfl).trans ((if_neg vw25).trans ((if_neg vw26).trans ((if_neg vw27).trans ((if_neg vw28).trans ((if_neg vw29).trans ((if_neg vw30).trans ((if_neg vw31).trans (if_pos vw32)))))))).symm⟩
              · refine X_bipush (v := (6 : Int32)) rfl rfl rfl ?_
                refine LW_goto (tgt := 181) rfl rfl ?_
                have vw33 : ¬ (Gj g 355 15) = (6578553 : Int64) := fun q => absurd (hvz1.1.mpr q) (by omega)
                have vw34 : ¬ (Gj g 355 15) = (1869968499 : Int64) := fun q => absurd (hvz3.1.mpr q) (by omega)
                have vw35 : ¬ (Gj g 355 15) = (119183001281906 : Int64) := fun q => absurd (hvz5.1.mpr q) (by omega)
                have vw36 : ¬ (Gj g 355 15) = (2002872165 : Int64) := fun q => absurd (hvz7.1.mpr q) (by omega)
                have vw37 : ¬ (Gj g 355 15) = (495690081125 : Int64) := fun q => absurd (hvz9.1.mpr q) (by omega)
                have vw38 : ¬ (Gj g 355 15) = (508676236652 : Int64) := fun q => absurd (hvz11.1.mpr q) (by omega)
                have vw39 : (Gj g 355 15) = (1953064292 : Int64) := hvz13.1.mp (by omega)
                exact LW_ireturn (st := []) rfl rfl rfl ⟨_, rfl, by decide, by decide, rfl, (show (6 : Int32).toInt = 6 from rfl).trans ((if_neg vw33).trans ((if_neg vw34).trans ((if_neg vw35).trans ((if_neg vw36).trans ((if_neg vw37).trans ((if_neg vw38).trans (if_pos vw39))))))).symm⟩
            · refine X_iconst (v := (5 : Int32)) rfl rfl rfl ?_
              have vw40 : ¬ (Gj g 355 15) = (6578553 : Int64) := fun q => absurd (hvz1.1.mpr q) (by omega)
              have vw41 : ¬ (Gj g 355 15) = (1869968499 : Int64) := fun q => absurd (hvz3.1.mpr q) (by omega)
              have vw42 : ¬ (Gj g 355 15) = (119183001281906 : Int64) := fun q => absurd (hvz5.1.mpr q) (by omega)
              have vw43 : ¬ (Gj g 355 15) = (2002872165 : Int64) := fun q => absurd (hvz7.1.mpr q) (by omega)
              have vw44 : ¬ (Gj g 355 15) = (495690081125 : Int64) := fun q => absurd (hvz9.1.mpr q) (by omega)
              have vw45 : (Gj g 355 15) = (508676236652 : Int64) := hvz11.1.mp (by omega)
              exact LW_ireturn (st := []) rfl rfl rfl ⟨_, rfl, by decide, by decide, rfl, (show (5 : Int32).toInt = 5 from rfl).trans ((if_neg vw40).trans ((if_neg vw41).trans ((if_neg vw42).trans ((if_neg vw43).trans ((if_neg vw44).trans (if_pos vw45)))))).symm⟩
          · refine X_iconst (v := (4 : Int32)) rfl rfl rfl ?_
            have vw46 : ¬ (Gj g 355 15) = (6578553 : Int64) := fun q => absurd (hvz1.1.mpr q) (by omega)
            have vw47 : ¬ (Gj g 355 15) = (1869968499 : Int64) := fun q => absurd (hvz3.1.mpr q) (by omega)
            have vw48 : ¬ (Gj g 355 15) = (119183001281906 : Int64) := fun q => absurd (hvz5.1.mpr q) (by omega)
            have vw49 : ¬ (Gj g 355 15) = (2002872165 : Int64) := fun q => absurd (hvz7.1.mpr q) (by omega)
            have vw50 : (Gj g 355 15) = (495690081125 : Int64) := hvz9.1.mp (by omega)
            exact LW_ireturn (st := []) rfl rfl rfl ⟨_, rfl, by decide, by decide, rfl, (show (4 : Int32).toInt = 4 from rfl).trans ((if_neg vw46).trans ((if_neg vw47).trans ((if_neg vw48).trans ((if_neg vw49).trans (if_pos vw50))))).symm⟩
        · refine X_iconst (v := (3 : Int32)) rfl rfl rfl ?_
          have vw51 : ¬ (Gj g 355 15) = (6578553 : Int64) := fun q => absurd (hvz1.1.mpr q) (by omega)
          have vw52 : ¬ (Gj g 355 15) = (1869968499 : Int64) := fun q => absurd (hvz3.1.mpr q) (by omega)
          have vw53 : ¬ (Gj g 355 15) = (119183001281906 : Int64) := fun q => absurd (hvz5.1.mpr q) (by omega)
          have vw54 : (Gj g 355 15) = (2002872165 : Int64) := hvz7.1.mp (by omega)
          exact LW_ireturn (st := []) rfl rfl rfl ⟨_, rfl, by decide, by decide, rfl, (show (3 : Int32).toInt = 3 from rfl).trans ((if_neg vw51).trans ((if_neg vw52).trans ((if_neg vw53).trans (if_pos vw54)))).symm⟩
      · refine X_iconst (v := (2 : Int32)) rfl rfl rfl ?_
        have vw55 : ¬ (Gj g 355 15) = (6578553 : Int64) := fun q => absurd (hvz1.1.mpr q) (by omega)
        have vw56 : ¬ (Gj g 355 15) = (1869968499 : Int64) := fun q => absurd (hvz3.1.mpr q) (by omega)
        have vw57 : (Gj g 355 15) = (119183001281906 : Int64) := hvz5.1.mp (by omega)
        exact LW_ireturn (st := []) rfl rfl rfl ⟨_, rfl, by decide, by decide, rfl, (show (2 : Int32).toInt = 2 from rfl).trans ((if_neg vw55).trans ((if_neg vw56).trans (if_pos vw57))).symm⟩
    · refine X_iconst (v := (1 : Int32)) rfl rfl rfl ?_
      have vw58 : ¬ (Gj g 355 15) = (6578553 : Int64) := fun q => absurd (hvz1.1.mpr q) (by omega)
      have vw59 : (Gj g 355 15) = (1869968499 : Int64) := hvz3.1.mp (by omega)
      exact LW_ireturn (st := []) rfl rfl rfl ⟨_, rfl, by decide, by decide, rfl, (show (1 : Int32).toInt = 1 from rfl).trans ((if_neg vw58).trans (if_pos vw59)).symm⟩
  · refine X_iconst (v := (0 : Int32)) rfl rfl rfl ?_
    have vw60 : (Gj g 355 15) = (6578553 : Int64) := hvz1.1.mp (by omega)
    exact LW_ireturn (st := []) rfl rfl rfl ⟨_, rfl, by decide, by decide, rfl, (show (0 : Int32).toInt = 0 from rfl).trans (if_pos vw60).symm⟩
set_option maxRecDepth 10000 in
set_option maxHeartbeats 40000000 in
theorem C_X13_nameOf {P : Par} {g : LH} {d : Nat}  (V : InvR P g)    : LW 211 (d + 9) 0 0 0 (lEnt (mL 211) [.ref 355]) [] g (fun v g' => ∃ r : Int32, v = some (.int r) ∧ (-1) ≤ r.toInt ∧ r.toInt ≤ 13 ∧ g = g' ∧ (r.toInt = vNO (Gi g 355 13).toInt (Gj g 355 15))) := by
  refine LW_ls (ls' := [some (.ref 355)]) rfl ?_
  refine X_aload_n rfl rfl rfl rfl ?_
  refine S_getI rfl rfl rfl ((congrFun V.1 355).trans s_355) rfl (fun vz1 evz1 => ?_)
  refine X_iconst (v := (2 : Int32)) rfl rfl rfl ?_
  refine S_icmp_eq (tgt := 10) rfl rfl rfl rfl (show (2 : Int32).toInt = 2 from rfl) (fun vh2 => ?_) (fun vh2 => ?_)
  · refine X_aload_n rfl rfl rfl rfl ?_
    refine Y_callV (as := []) (st := []) rfl rfl rfl (by decide) rfl (Nat.le_of_ble_eq_true rfl) (by decide) (Nat.le_of_ble_eq_true rfl) rfl ((congrFun V.1 355).trans s_355) (by decide) (C_X13_lawName V  ) ?_
    rintro _ g' ⟨vr3, rfl, hrvr30, hrvr31, hgg, vq4⟩
    subst hgg
    refine S_if_lt (tgt := 22) rfl rfl rfl rfl (fun vh5 => ?_) (fun vh5 => ?_)
    · refine X_aload_n rfl rfl rfl rfl ?_
      refine X_getJ (v := Gj g 355 15) rfl rfl rfl ((congrFun V.1 355).trans s_355) rfl rfl ?_
      refine X_bipush (v := (108 : Int32)) rfl rfl rfl ?_
      refine X_bipush (v := (101 : Int32)) rfl rfl rfl ?_
      refine X_bipush (v := (110 : Int32)) rfl rfl rfl ?_
      refine X_bipush (v := (103 : Int32)) rfl rfl rfl ?_
      refine X_bipush (v := (116 : Int32)) rfl rfl rfl ?_
      refine X_bipush (v := (104 : Int32)) rfl rfl rfl ?_
      refine X_callS (as := [.int (108 : Int32), .int (101 : Int32), .int (110 : Int32), .int (103 : Int32), .int (116 : Int32), .int (104 : Int32)]) (st := [.long (Gj g 355 15)]) rfl rfl rfl (by decide) rfl (Nat.le_of_ble_eq_true rfl) (by decide) (Nat.le_of_ble_eq_true rfl) rfl ?_
      refine LW_ls (ls' := [some (.int (108 : Int32)), some (.int (101 : Int32)), some (.int (110 : Int32)), some (.int (103 : Int32)), some (.int (116 : Int32)), some (.int (104 : Int32))]) rfl ?_
      refine X_iload_n rfl rfl rfl rfl ?_
      refine X_iload_n rfl rfl rfl rfl ?_
      refine X_iload_n rfl rfl rfl rfl ?_
      refine X_iload_n rfl rfl rfl rfl ?_
      refine X_iload rfl rfl rfl ?_
      refine X_callS (as := [.int (108 : Int32), .int (101 : Int32), .int (110 : Int32), .int (103 : Int32), .int (116 : Int32)]) (st := []) rfl rfl rfl (by decide) rfl (Nat.le_of_ble_eq_true rfl) (by decide) (Nat.le_of_ble_eq_true rfl) rfl ?_
      refine LW_ls (ls' := [some (.int (108 : Int32)), some (.int (101 : Int32)), some (.int (110 : Int32)), some (.int (103 : Int32)), some (.int (116 : Int32))]) rfl ?_
      refine X_iload_n rfl rfl rfl rfl ?_
      refine X_iload_n rfl rfl rfl rfl ?_
      refine X_iload_n rfl rfl rfl rfl ?_
      refine X_callS (as := [.int (108 : Int32), .int (101 : Int32), .int (110 : Int32)]) (st := []) rfl rfl rfl (by decide) rfl (Nat.le_of_ble_eq_true rfl) (by decide) (Nat.le_of_ble_eq_true rfl) rfl ?_
      refine LW_ls (ls' := [some (.int (108 : Int32)), some (.int (101 : Int32)), some (.int (110 : Int32))]) rfl ?_
      refine X_iload_n rfl rfl rfl rfl ?_
      refine X_i2l (v := (108 : Int64)) rfl rfl (by decide) ?_
      refine X_bipush (v := (8 : Int32)) rfl rfl rfl ?_
      refine X_lshl (v := (27648 : Int64)) rfl rfl (by decide) ?_
      refine X_iload_n rfl rfl rfl rfl ?_
      refine X_i2l (v := (101 : Int64)) rfl rfl (by decide) ?_
      refine X_lor (v := (27749 : Int64)) rfl rfl (by decide) ?_
      refine X_bipush (v := (8 : Int32)) rfl rfl rfl ?_
      refine X_lshl (v := (7103744 : Int64)) rfl rfl (by decide) ?_
      refine X_iload_n rfl rfl rfl rfl ?_
      refine X_i2l (v := (110 : Int64)) rfl rfl (by decide) ?_
      refine X_lor (v := (7103854 : Int64)) rfl rfl (by decide) ?_
      refine LW_lreturn (st := []) rfl rfl ?_
      refine X_bipush (v := (8 : Int32)) rfl rfl rfl ?_
      refine X_lshl (v := (1818586624 : Int64)) rfl rfl (by decide) ?_
      refine X_iload_n rfl rfl rfl rfl ?_
      refine X_i2l (v := (103 : Int64)) rfl rfl (by decide) ?_
      refine X_lor (v := (1818586727 : Int64)) rfl rfl (by decide) ?_
      refine X_bipush (v := (8 : Int32)) rfl rfl rfl ?_
      refine X_lshl (v := (465558202112 : Int64)) rfl rfl (by decide) ?_
      refine X_iload rfl rfl rfl ?_
      refine X_i2l (v := (116 : Int64)) rfl rfl (by decide) ?_
      refine X_lor (v := (465558202228 : Int64)) rfl rfl (by decide) ?_
      refine LW_lreturn (st := []) rfl rfl ?_
      refine X_bipush (v := (8 : Int32)) rfl rfl rfl ?_
      refine X_lshl (v := (119182899770368 : Int64)) rfl rfl (by decide) ?_
      refine X_iload rfl rfl rfl ?_
      refine X_i2l (v := (104 : Int64)) rfl rfl (by decide) ?_
      refine X_lor (v := (119182899770472 : Int64)) rfl rfl (by decide) ?_
      refine LW_lreturn (st := []) rfl rfl ?_
      refine S_lcmp rfl rfl (fun vz6 hvz6 => ?_)
      refine S_if_ne (tgt := 48) rfl rfl rfl rfl (fun vh7 => ?_) (fun vh7 => ?_)
      · refine X_aload_n rfl rfl rfl rfl ?_
        refine X_getJ (v := Gj g 355 15) rfl rfl rfl ((congrFun V.1 355).trans s_355) rfl rfl ?_
        refine X_bipush (v := (115 : Int32)) rfl rfl rfl ?_
        refine X_bipush (v := (101 : Int32)) rfl rfl rfl ?_
        refine X_bipush (v := (110 : Int32)) rfl rfl rfl ?_
        refine X_bipush (v := (115 : Int32)) rfl rfl rfl ?_
        refine X_bipush (v := (101 : Int32)) rfl rfl rfl ?_
        refine X_callS (as := [.int (115 : Int32), .int (101 : Int32), .int (110 : Int32), .int (115 : Int32), .int (101 : Int32)]) (st := [.long (Gj g 355 15)]) rfl rfl rfl (by decide) rfl (Nat.le_of_ble_eq_true rfl) (by decide) (Nat.le_of_ble_eq_true rfl) rfl ?_
        refine LW_ls (ls' := [some (.int (115 : Int32)), some (.int (101 : Int32)), some (.int (110 : Int32)), some (.int (115 : Int32)), some (.int (101 : Int32))]) rfl ?_
        refine X_iload_n rfl rfl rfl rfl ?_
        refine X_iload_n rfl rfl rfl rfl ?_
        refine X_iload_n rfl rfl rfl rfl ?_
        refine X_callS (as := [.int (115 : Int32), .int (101 : Int32), .int (110 : Int32)]) (st := []) rfl rfl rfl (by decide) rfl (Nat.le_of_ble_eq_true rfl) (by decide) (Nat.le_of_ble_eq_true rfl) rfl ?_
        refine LW_ls (ls' := [some (.int (115 : Int32)), some (.int (101 : Int32)), some (.int (110 : Int32))]) rfl ?_
        refine X_iload_n rfl rfl rfl rfl ?_
        refine X_i2l (v := (115 : Int64)) rfl rfl (by decide) ?_
        refine X_bipush (v := (8 : Int32)) rfl rfl rfl ?_
        refine X_lshl (v := (29440 : Int64)) rfl rfl (by decide) ?_
        refine X_iload_n rfl rfl rfl rfl ?_
        refine X_i2l (v := (101 : Int64)) rfl rfl (by decide) ?_
        refine X_lor (v := (29541 : Int64)) rfl rfl (by decide) ?_
        refine X_bipush (v := (8 : Int32)) rfl rfl rfl ?_
        refine X_lshl (v := (7562496 : Int64)) rfl rfl (by decide) ?_
        refine X_iload_n rfl rfl rfl rfl ?_
        refine X_i2l (v := (110 : Int64)) rfl rfl (by decide) ?_
        refine X_lor (v := (7562606 : Int64)) rfl rfl (by decide) ?_
        refine LW_lreturn (st := []) rfl rfl ?_
        refine X_bipush (v := (8 : Int32)) rfl rfl rfl ?_
        refine X_lshl (v := (1936027136 : Int64)) rfl rfl (by decide) ?_
        refine X_iload_n rfl rfl rfl rfl ?_
        refine X_i2l (v := (115 : Int64)) rfl rfl (by decide) ?_
        refine X_lor (v := (1936027251 : Int64)) rfl rfl (by decide) ?_
        refine X_bipush (v := (8 : Int32)) rfl rfl rfl ?_
        refine X_lshl (v := (495622976256 : Int64)) rfl rfl (by decide) ?_
        refine X_iload rfl rfl rfl ?_
        refine X_i2l (v := (101 : Int64)) rfl rfl (by decide) ?_
        refine X_lor (v := (495622976357 : Int64)) rfl rfl (by decide) ?_
        refine LW_lreturn (st := []) rfl rfl ?_
        refine S_lcmp rfl rfl (fun vz8 hvz8 => ?_)
        refine S_if_ne (tgt := 72) rfl rfl rfl rfl (fun vh9 => ?_) (fun vh9 => ?_)
        · refine X_aload_n rfl rfl rfl rfl ?_
          refine X_getJ (v := Gj g 355 15) rfl rfl rfl ((congrFun V.1 355).trans s_355) rfl rfl ?_
          refine X_bipush (v := (115 : Int32)) rfl rfl rfl ?_
          refine X_bipush (v := (105 : Int32)) rfl rfl rfl ?_
          refine X_bipush (v := (103 : Int32)) rfl rfl rfl ?_
          refine X_bipush (v := (110 : Int32)) rfl rfl rfl ?_
          refine X_bipush (v := (115 : Int32)) rfl rfl rfl ?_
          refine X_callS (as := [.int (115 : Int32), .int (105 : Int32), .int (103 : Int32), .int (110 : Int32), .int (115 : Int32)]) (st := [.long (Gj g 355 15)]) rfl rfl rfl (by decide) rfl (Nat.le_of_ble_eq_true rfl) (by decide) (Nat.le_of_ble_eq_true rfl) rfl ?_
          refine LW_ls (ls' := [some (.int (115 : Int32)), some (.int (105 : Int32)), some (.int (103 : Int32)), some (.int (110 : Int32)), some (.int (115 : Int32))]) rfl ?_
          refine X_iload_n rfl rfl rfl rfl ?_
          refine X_iload_n rfl rfl rfl rfl ?_
          refine X_iload_n rfl rfl rfl rfl ?_
          refine X_callS (as := [.int (115 : Int32), .int (105 : Int32), .int (103 : Int32)]) (st := []) rfl rfl rfl (by decide) rfl (Nat.le_of_ble_eq_true rfl) (by decide) (Nat.le_of_ble_eq_true rfl) rfl ?_
          refine LW_ls (ls' := [some (.int (115 : Int32)), some (.int (105 : Int32)), some (.int (103 : Int32))]) rfl ?_
          refine X_iload_n rfl rfl rfl rfl ?_
          refine X_i2l (v := (115 : Int64)) rfl rfl (by decide) ?_
          refine X_bipush (v := (8 : Int32)) rfl rfl rfl ?_
          refine X_lshl (v := (29440 : Int64)) rfl rfl (by decide) ?_
          refine X_iload_n rfl rfl rfl rfl ?_
          refine X_i2l (v := (105 : Int64)) rfl rfl (by decide) ?_
          refine X_lor (v := (29545 : Int64)) rfl rfl (by decide) ?_
          refine X_bipush (v := (8 : Int32)) rfl rfl rfl ?_
          refine X_lshl (v := (7563520 : Int64)) rfl rfl (by decide) ?_
          refine X_iload_n rfl rfl rfl rfl ?_
          refine X_i2l (v := (103 : Int64)) rfl rfl (by decide) ?_
          refine X_lor (v := (7563623 : Int64)) rfl rfl (by decide) ?_
          refine LW_lreturn (st := []) rfl rfl ?_
          refine X_bipush (v := (8 : Int32)) rfl rfl rfl ?_
          refine X_lshl (v := (1936287488 : Int64)) rfl rfl (by decide) ?_
          refine X_iload_n rfl rfl rfl rfl ?_
          refine X_i2l (v := (110 : Int64)) rfl rfl (by decide) ?_
          refine X_lor (v := (1936287598 : Int64)) rfl rfl (by decide) ?_
          refine X_bipush (v := (8 : Int32)) rfl rfl rfl ?_
          refine X_lshl (v := (495689625088 : Int64)) rfl rfl (by decide) ?_
          refine X_iload rfl rfl rfl ?_
          refine X_i2l (v := (115 : Int64)) rfl rfl (by decide) ?_
          refine X_lor (v := (495689625203 : Int64)) rfl rfl (by decide) ?_
          refine LW_lreturn (st := []) rfl rfl ?_
          refine S_lcmp rfl rfl (fun vz10 hvz10 => ?_)
          refine S_if_ne (tgt := 96) rfl rfl rfl rfl (fun vh11 => ?_) (fun vh11 => ?_)
          · refine X_aload_n rfl rfl rfl rfl ?_
            refine X_getJ (v := Gj g 355 15) rfl rfl rfl ((congrFun V.1 355).trans s_355) rfl rfl ?_
            refine X_bipush (v := (98 : Int32)) rfl rfl rfl ?_
            refine X_bipush (v := (114 : Int32)) rfl rfl rfl ?_
            refine X_bipush (v := (111 : Int32)) rfl rfl rfl ?_
            refine X_bipush (v := (107 : Int32)) rfl rfl rfl ?_
            refine X_bipush (v := (101 : Int32)) rfl rfl rfl ?_
            refine X_bipush (v := (110 : Int32)) rfl rfl rfl ?_
            refine X_callS (as := [.int (98 : Int32), .int (114 : Int32), .int (111 : Int32), .int (107 : Int32), .int (101 : Int32), .int (110 : Int32)]) (st := [.long (Gj g 355 15)]) rfl rfl rfl (by decide) rfl (Nat.le_of_ble_eq_true rfl) (by decide) (Nat.le_of_ble_eq_true rfl) rfl ?_
            refine LW_ls (ls' := [some (.int (98 : Int32)), some (.int (114 : Int32)), some (.int (111 : Int32)), some (.int (107 : Int32)), some (.int (101 : Int32)), some (.int (110 : Int32))]) rfl ?_
            refine X_iload_n rfl rfl rfl rfl ?_
            refine X_iload_n rfl rfl rfl rfl ?_
            refine X_iload_n rfl rfl rfl rfl ?_
            refine X_iload_n rfl rfl rfl rfl ?_
            refine X_iload rfl rfl rfl ?_
            refine X_callS (as := [.int (98 : Int32), .int (114 : Int32), .int (111 : Int32), .int (107 : Int32), .int (101 : Int32)]) (st := []) rfl rfl rfl (by decide) rfl (Nat.le_of_ble_eq_true rfl) (by decide) (Nat.le_of_ble_eq_true rfl) rfl ?_
            refine LW_ls (ls' := [some (.int (98 : Int32)), some (.int (114 : Int32)), some (.int (111 : Int32)), some (.int (107 : Int32)), some (.int (101 : Int32))]) rfl ?_
            refine X_iload_n rfl rfl rfl rfl ?_
            refine X_iload_n rfl rfl rfl rfl ?_
            refine X_iload_n rfl rfl rfl rfl ?_
            refine X_callS (as := [.int (98 : Int32), .int (114 : Int32), .int (111 : Int32)]) (st := []) rfl rfl rfl (by decide) rfl (Nat.le_of_ble_eq_true rfl) (by decide) (Nat.le_of_ble_eq_true rfl) rfl ?_
            refine LW_ls (ls' := [some (.int (98 : Int32)), some (.int (114 : Int32)), some (.int (111 : Int32))]) rfl ?_
            refine X_iload_n rfl rfl rfl rfl ?_
            refine X_i2l (v := (98 : Int64)) rfl rfl (by decide) ?_
            refine X_bipush (v := (8 : Int32)) rfl rfl rfl ?_
            refine X_lshl (v := (25088 : Int64)) rfl rfl (by decide) ?_
            refine X_iload_n rfl rfl rfl rfl ?_
            refine X_i2l (v := (114 : Int64)) rfl rfl (by decide) ?_
            refine X_lor (v := (25202 : Int64)) rfl rfl (by decide) ?_
            refine X_bipush (v := (8 : Int32)) rfl rfl rfl ?_
            refine X_lshl (v := (6451712 : Int64)) rfl rfl (by decide) ?_
            refine X_iload_n rfl rfl rfl rfl ?_
            refine X_i2l (v := (111 : Int64)) rfl rfl (by decide) ?_
            refine X_lor (v := (6451823 : Int64)) rfl rfl (by decide) ?_
            refine LW_lreturn (st := []) rfl rfl ?_
            refine X_bipush (v := (8 : Int32)) rfl rfl rfl ?_
            refine X_lshl (v := (1651666688 : Int64)) rfl rfl (by decide) ?_
            refine X_iload_n rfl rfl rfl rfl ?_
            refine X_i2l (v := (107 : Int64)) rfl rfl (by decide) ?_
            refine X_lor (v := (1651666795 : Int64)) rfl rfl (by decide) ?_
            refine X_bipush (v := (8 : Int32)) rfl rfl rfl ?_
            refine X_lshl (v := (422826699520 : Int64)) rfl rfl (by decide) ?_
            refine X_iload rfl rfl rfl ?_
            refine X_i2l (v := (101 : Int64)) rfl rfl (by decide) ?_
            refine X_lor (v := (422826699621 : Int64)) rfl rfl (by decide) ?_
            refine LW_lreturn (st := []) rfl rfl ?_
            refine X_bipush (v := (8 : Int32)) rfl rfl rfl ?_
            refine X_lshl (v := (108243635102976 : Int64)) rfl rfl (by decide) ?_
            refine X_iload rfl rfl rfl ?_
            refine X_i2l (v := (110 : Int64)) rfl rfl (by decide) ?_
            refine X_lor (v := (108243635103086 : Int64)) rfl rfl (by decide) ?_
            refine LW_lreturn (st := []) rfl rfl ?_
            refine S_lcmp rfl rfl (fun vz12 hvz12 => ?_)
            refine S_if_ne (tgt := 122) rfl rfl rfl rfl (fun vh13 => ?_) (fun vh13 => ?_)
            · refine X_aload_n rfl rfl rfl rfl ?_
              refine X_getJ (v := Gj g 355 15) rfl rfl rfl ((congrFun V.1 355).trans s_355) rfl rfl ?_
              refine X_bipush (v := (109 : Int32)) rfl rfl rfl ?_
              refine X_bipush (v := (97 : Int32)) rfl rfl rfl ?_
              refine X_bipush (v := (110 : Int32)) rfl rfl rfl ?_
              refine X_bipush (v := (121 : Int32)) rfl rfl rfl ?_
              refine X_callS (as := [.int (109 : Int32), .int (97 : Int32), .int (110 : Int32), .int (121 : Int32)]) (st := [.long (Gj g 355 15)]) rfl rfl rfl (by decide) rfl (Nat.le_of_ble_eq_true rfl) (by decide) (Nat.le_of_ble_eq_true rfl) rfl ?_
              refine LW_ls (ls' := [some (.int (109 : Int32)), some (.int (97 : Int32)), some (.int (110 : Int32)), some (.int (121 : Int32))]) rfl ?_
              refine X_iload_n rfl rfl rfl rfl ?_
              refine X_iload_n rfl rfl rfl rfl ?_
              refine X_iload_n rfl rfl rfl rfl ?_
              refine X_callS (as := [.int (109 : Int32), .int (97 : Int32), .int (110 : Int32)]) (st := []) rfl rfl rfl (by decide) rfl (Nat.le_of_ble_eq_true rfl) (by decide) (Nat.le_of_ble_eq_true rfl) rfl ?_
              refine LW_ls (ls' := [some (.int (109 : Int32)), some (.int (97 : Int32)), some (.int (110 : Int32))]) rfl ?_
              refine X_iload_n rfl rfl rfl rfl ?_
              refine X_i2l (v := (109 : Int64)) rfl rfl (by decide) ?_
              refine X_bipush (v := (8 : Int32)) rfl rfl rfl ?_
              refine X_lshl (v := (27904 : Int64)) rfl rfl (by decide) ?_
              refine X_iload_n rfl rfl rfl rfl ?_
              refine X_i2l (v := (97 : Int64)) rfl rfl (by decide) ?_
              refine X_lor (v := (28001 : Int64)) rfl rfl (by decide) ?_
              refine X_bipush (v := (8 : Int32)) rfl rfl rfl ?_
              refine X_lshl (v := (7168256 : Int64)) rfl rfl (by decide) ?_
              refine X_iload_n rfl rfl rfl rfl ?_
              refine X_i2l (v := (110 : Int64)) rfl rfl (by decide) ?_
              refine X_lor (v := (7168366 : Int64)) rfl rfl (by decide) ?_
              refine LW_lreturn (st := []) rfl rfl ?_
              refine X_bipush (v := (8 : Int32)) rfl rfl rfl ?_
              refine X_lshl (v := (1835101696 : Int64)) rfl rfl (by decide) ?_
              refine X_iload_n rfl rfl rfl rfl ?_
              refine X_i2l (v := (121 : Int64)) rfl rfl (by decide) ?_
              refine X_lor (v := (1835101817 : Int64)) rfl rfl (by decide) ?_
              refine LW_lreturn (st := []) rfl rfl ?_
              refine S_lcmp rfl rfl (fun vz14 hvz14 => ?_)
              refine S_if_ne (tgt := 146) rfl rfl rfl rfl (fun vh15 => ?_) (fun vh15 => ?_)
              · refine X_aload_n rfl rfl rfl rfl ?_
                refine X_getJ (v := Gj g 355 15) rfl rfl rfl ((congrFun V.1 355).trans s_355) rfl rfl ?_
                refine X_bipush (v := (100 : Int32)) rfl rfl rfl ?_
                refine X_bipush (v := (97 : Int32)) rfl rfl rfl ?_
                refine X_bipush (v := (121 : Int32)) rfl rfl rfl ?_
                refine X_bipush (v := (115 : Int32)) rfl rfl rfl ?_
                refine X_callS (as := [.int (100 : Int32), .int (97 : Int32), .int (121 : Int32), .int (115 : Int32)]) (st := [.long (Gj g 355 15)]) rfl rfl rfl (by decide) rfl (Nat.le_of_ble_eq_true rfl) (by decide) (Nat.le_of_ble_eq_true rfl) rfl ?_
                refine LW_ls (ls' := [some (.int (100 : Int32)), some (.int (97 : Int32)), some (.int (121 : Int32)), some (.int (115 : Int32))]) rfl ?_
                refine X_iload_n rfl rfl rfl rfl ?_
                refine X_iload_n rfl rfl rfl rfl ?_
                refine X_iload_n rfl rfl rfl rfl ?_
                refine X_callS (as := [.int (100 : Int32), .int (97 : Int32), .int (121 : Int32)]) (st := []) rfl rfl rfl (by decide) rfl (Nat.le_of_ble_eq_true rfl) (by decide) (Nat.le_of_ble_eq_true rfl) rfl ?_
                refine LW_ls (ls' := [some (.int (100 : Int32)), some (.int (97 : Int32)), some (.int (121 : Int32))]) rfl ?_
                refine X_iload_n rfl rfl rfl rfl ?_
                refine X_i2l (v := (100 : Int64)) rfl rfl (by decide) ?_
                refine X_bipush (v := (8 : Int32)) rfl rfl rfl ?_
                refine X_lshl (v := (25600 : Int64)) rfl rfl (by decide) ?_
                refine X_iload_n rfl rfl rfl rfl ?_
                refine X_i2l (v := (97 : Int64)) rfl rfl (by decide) ?_
                refine X_lor (v := (25697 : Int64)) rfl rfl (by decide) ?_
                refine X_bipush (v := (8 : Int32)) rfl rfl rfl ?_
                refine X_lshl (v := (6578432 : Int64)) rfl rfl (by decide) ?_
                refine X_iload_n rfl rfl rfl rfl ?_
                refine X_i2l (v := (121 : Int64)) rfl rfl (by decide) ?_
                refine X_lor (v := (6578553 : Int64)) rfl rfl (by decide) ?_
                refine LW_lreturn (st := []) rfl rfl ?_
                refine X_bipush (v := (8 : Int32)) rfl rfl rfl ?_
                refine X_lshl (v := (1684109568 : Int64)) rfl rfl (by decide) ?_
                refine X_iload_n rfl rfl rfl rfl ?_
                refine X_i2l (v := (115 : Int64)) rfl rfl (by decide) ?_
                refine X_lor (v := (1684109683 : Int64)) rfl rfl (by decide) ?_
                refine LW_lreturn (st := []) rfl rfl ?_
                refine S_lcmp rfl rfl (fun vz16 hvz16 => ?_)
                refine S_if_ne (tgt := 170) rfl rfl rfl rfl (fun vh17 => ?_) (fun vh17 => ?_)
                · refine X_iconst (v := (-1 : Int32)) rfl rfl rfl ?_
                  have vw18 : (Gi g 355 13).toInt = 2 := by rw [evz1]; omega
                  have vw19 : ¬ 0 ≤ vLN (Gj g 355 15) := by omega
                  have vw20 : ¬ (Gj g 355 15) = (119182899770472 : Int64) := fun q => absurd (hvz6.1.mpr q) (by omega)
                  have vw21 : ¬ (Gj g 355 15) = (495622976357 : Int64) := fun q => absurd (hvz8.1.mpr q) (by omega)
                  have vw22 : ¬ (Gj g 355 15) = (495689625203 : Int64) := fun q => absurd (hvz10.1.mpr q) (by omega)
                  have vw23 : ¬ (Gj g 355 15) = (108243635103086 : Int64) := fun q => absurd (hvz12.1.mpr q) (by omega)
                  have vw24 : ¬ (Gj g 355 15) = (1835101817 : Int64) := fun q => absurd (hvz14.1.mpr q) (by omega)
                  have vw25 : ¬ (Gj g 355 15) = (1684109683 : Int64) := fun q => absurd (hvz16.1.mpr q) (by omega)
                  exact LW_ireturn (st := []) rfl rfl rfl ⟨_, rfl, by decide, by decide, rfl, (show (-1 : Int32).toInt = -1 from rfl).trans ((if_pos vw18).trans ((if_neg vw19).trans ((if_neg vw20).trans ((if_neg vw21).trans ((if_neg vw22).trans ((if_neg vw23).trans ((if_neg vw24).trans (if_neg vw25)))))))).symm⟩
                · refine X_bipush (v := (13 : Int32)) rfl rfl rfl ?_
                  refine LW_goto (tgt := 171) rfl rfl ?_
                  have vw26 : (Gi g 355 13).toInt = 2 := by rw [evz1]; omega
                  have vw27 : ¬ 0 ≤ vLN (Gj g 355 15) := by omega
                  have vw28 : ¬ (Gj g 355 15) = (119182899770472 : Int64) := fun q => absurd (hvz6.1.mpr q) (by omega)
                  have vw29 : ¬ (Gj g 355 15) = (495622976357 : Int64) := fun q => absurd (hvz8.1.mpr q) (by omega)
                  have vw30 : ¬ (Gj g 355 15) = (495689625203 : Int64) := fun q => absurd (hvz10.1.mpr q) (by omega)
                  have vw31 : ¬ (Gj g 355 15) = (108243635103086 : Int64) := fun q => absurd (hvz12.1.mpr q) (by omega)
                  have vw32 : ¬ (Gj g 355 15) = (1835101817 : Int64) := fun q => absurd (hvz14.1.mpr q) (by omega)
                  have vw33 : (Gj g 355 15) = (1684109683 : Int64) := hvz16.1.mp (by omega)
                  exact LW_ireturn (st := []) rfl rfl rfl ⟨_, rfl, by decide, by decide, rfl, (show (13 : Int32).toInt = 13 from rfl).trans ((if_pos vw26).trans ((if_neg vw27).trans ((if_neg vw28).trans ((if_neg vw29).trans ((if_neg vw30).trans ((if_neg vw31).trans ((if_neg vw32).trans (if_pos vw33)))))))).symm⟩
              · refine X_bipush (v := (12 : Int32)) rfl rfl rfl ?_
                refine LW_goto (tgt := 171) rfl rfl ?_
                have vw34 : (Gi g 355 13).toInt = 2 := by rw [evz1]; omega
                have vw35 : ¬ 0 ≤ vLN (Gj g 355 15) := by omega
                have vw36 : ¬ (Gj g 355 15) = (119182899770472 : Int64) := fun q => absurd (hvz6.1.mpr q) (by omega)
                have vw37 : ¬ (Gj g 355 15) = (495622976357 : Int64) := fun q => absurd (hvz8.1.mpr q) (by omega)
                have vw38 : ¬ (Gj g 355 15) = (495689625203 : Int64) := fun q => absurd (hvz10.1.mpr q) (by omega)
                have vw39 : ¬ (Gj g 355 15) = (108243635103086 : Int64) := fun q => absurd (hvz12.1.mpr q) (by omega)
                have vw40 : (Gj g 355 15) = (1835101817 : Int64) := hvz14.1.mp (by omega)
                exact LW_ireturn (st := []) rfl rfl rfl ⟨_, rfl, by decide, by decide, rfl, (show (12 : Int32).toInt = 12 from rfl).trans ((if_pos vw34).trans ((if_neg vw35).trans ((if_neg vw36).trans ((if_neg vw37).trans ((if_neg vw38).trans ((if_neg vw39).trans (if_pos vw40))))))).symm⟩
            · refine X_bipush (v := (11 : Int32)) rfl rfl rfl ?_
              have vw41 : (Gi g 355 13).toInt = 2 := by rw [evz1]; omega
              have vw42 : ¬ 0 ≤ vLN (Gj g 355 15) := by omega
              have vw43 : ¬ (Gj g 355 15) = (119182899770472 : Int64) := fun q => absurd (hvz6.1.mpr q) (by omega)
              have vw44 : ¬ (Gj g 355 15) = (495622976357 : Int64) := fun q => absurd (hvz8.1.mpr q) (by omega)
              have vw45 : ¬ (Gj g 355 15) = (495689625203 : Int64) := fun q => absurd (hvz10.1.mpr q) (by omega)
              have vw46 : (Gj g 355 15) = (108243635103086 : Int64) := hvz12.1.mp (by omega)
              exact LW_ireturn (st := []) rfl rfl rfl ⟨_, rfl, by decide, by decide, rfl, (show (11 : Int32).toInt = 11 from rfl).trans ((if_pos vw41).trans ((if_neg vw42).trans ((if_neg vw43).trans ((if_neg vw44).trans ((if_neg vw45).trans (if_pos vw46)))))).symm⟩
          · refine X_bipush (v := (10 : Int32)) rfl rfl rfl ?_
            have vw47 : (Gi g 355 13).toInt = 2 := by rw [evz1]; omega
            have vw48 : ¬ 0 ≤ vLN (Gj g 355 15) := by omega
            have vw49 : ¬ (Gj g 355 15) = (119182899770472 : Int64) := fun q => absurd (hvz6.1.mpr q) (by omega)
            have vw50 : ¬ (Gj g 355 15) = (495622976357 : Int64) := fun q => absurd (hvz8.1.mpr q) (by omega)
            have vw51 : (Gj g 355 15) = (495689625203 : Int64) := hvz10.1.mp (by omega)
            exact LW_ireturn (st := []) rfl rfl rfl ⟨_, rfl, by decide, by decide, rfl, (show (10 : Int32).toInt = 10 from rfl).trans ((if_pos vw47).trans ((if_neg vw48).trans ((if_neg vw49).trans ((if_neg vw50).trans (if_pos vw51))))).symm⟩
        · refine X_bipush (v := (9 : Int32)) rfl rfl rfl ?_
          have vw52 : (Gi g 355 13).toInt = 2 := by rw [evz1]; omega
          have vw53 : ¬ 0 ≤ vLN (Gj g 355 15) := by omega
          have vw54 : ¬ (Gj g 355 15) = (119182899770472 : Int64) := fun q => absurd (hvz6.1.mpr q) (by omega)
          have vw55 : (Gj g 355 15) = (495622976357 : Int64) := hvz8.1.mp (by omega)
          exact LW_ireturn (st := []) rfl rfl rfl ⟨_, rfl, by decide, by decide, rfl, (show (9 : Int32).toInt = 9 from rfl).trans ((if_pos vw52).trans ((if_neg vw53).trans ((if_neg vw54).trans (if_pos vw55)))).symm⟩
      · refine X_bipush (v := (8 : Int32)) rfl rfl rfl ?_
        have vw56 : (Gi g 355 13).toInt = 2 := by rw [evz1]; omega
        have vw57 : ¬ 0 ≤ vLN (Gj g 355 15) := by omega
        have vw58 : (Gj g 355 15) = (119182899770472 : Int64) := hvz6.1.mp (by omega)
        exact LW_ireturn (st := []) rfl rfl rfl ⟨_, rfl, by decide, by decide, rfl, (show (8 : Int32).toInt = 8 from rfl).trans ((if_pos vw56).trans ((if_neg vw57).trans (if_pos vw58))).symm⟩
    · refine X_aload_n rfl rfl rfl rfl ?_
      refine Y_callV (as := []) (st := []) rfl rfl rfl (by decide) rfl (Nat.le_of_ble_eq_true rfl) (by decide) (Nat.le_of_ble_eq_true rfl) rfl ((congrFun V.1 355).trans s_355) (by decide) (C_X13_lawName V  ) ?_
      rintro _ g' ⟨vr59, rfl, hrvr590, hrvr591, hgg, vq60⟩
      subst hgg
      have vw61 : (Gi g 355 13).toInt = 2 := by rw [evz1]; omega
      have vw62 : 0 ≤ vLN (Gj g 355 15) := by omega
      exact LW_ireturn (st := []) rfl rfl rfl ⟨_, rfl, by omega, by omega, rfl, vq60.trans ((if_pos vw61).trans (if_pos vw62)).symm⟩
  · refine X_iconst (v := (-1 : Int32)) rfl rfl rfl ?_
    have vw63 : ¬ (Gi g 355 13).toInt = 2 := by rw [evz1]; omega
    exact LW_ireturn (st := []) rfl rfl rfl ⟨_, rfl, by decide, by decide, rfl, (show (-1 : Int32).toInt = -1 from rfl).trans (if_neg vw63).symm⟩
set_option maxRecDepth 10000 in
set_option maxHeartbeats 40000000 in
theorem C_X13_isBarred {P : Par} {g : LH} {d : Nat}  (V : InvR P g) (x1 : Int32) (y1 : Int) (hx1 : x1.toInt = y1) (hf1 : (-1) ≤ y1 ∧ y1 ≤ 13)   : LW 212 (d + 3) 0 0 0 (lEnt (mL 212) [.ref 355, .int x1]) [] g (fun v g' => ∃ r : Int32, v = some (.int r) ∧ 0 ≤ r.toInt ∧ r.toInt ≤ 1 ∧ g = g') := by
  refine LW_ls (ls' := [some (.ref 355), some (.int x1)]) rfl ?_
  refine X_iload_n rfl rfl rfl rfl ?_
  refine X_iconst (v := (1 : Int32)) rfl rfl rfl ?_
  refine S_icmp_le (tgt := 51) rfl rfl rfl hx1 (show (1 : Int32).toInt = 1 from rfl) (fun vh1 => ?_) (fun vh1 => ?_)
  · refine X_iconst (v := (0 : Int32)) rfl rfl rfl ?_
    exact LW_ireturn (st := []) rfl rfl rfl ⟨_, rfl, by decide, by decide, rfl⟩
  · refine X_iload_n rfl rfl rfl rfl ?_
    refine X_bipush (v := (8 : Int32)) rfl rfl rfl ?_
    refine S_icmp_ge (tgt := 22) rfl rfl rfl hx1 (show (8 : Int32).toInt = 8 from rfl) (fun vh2 => ?_) (fun vh2 => ?_)
    · refine X_iload_n rfl rfl rfl rfl ?_
      refine X_bipush (v := (11 : Int32)) rfl rfl rfl ?_
      refine S_icmp_ge (tgt := 39) rfl rfl rfl hx1 (show (11 : Int32).toInt = 11 from rfl) (fun vh3 => ?_) (fun vh3 => ?_)
      · refine X_aload_n rfl rfl rfl rfl ?_
        refine S_getI rfl rfl rfl ((congrFun V.1 355).trans s_355) rfl (fun vz4 evz4 => ?_)
        refine X_iconst (v := (3 : Int32)) rfl rfl rfl ?_
        refine S_icmp_eq (tgt := 51) rfl rfl rfl rfl (show (3 : Int32).toInt = 3 from rfl) (fun vh5 => ?_) (fun vh5 => ?_)
        · refine X_iconst (v := (0 : Int32)) rfl rfl rfl ?_
          exact LW_ireturn (st := []) rfl rfl rfl ⟨_, rfl, by decide, by decide, rfl⟩
        · refine X_iconst (v := (1 : Int32)) rfl rfl rfl ?_
          refine LW_goto (tgt := 52) rfl rfl ?_
          exact LW_ireturn (st := []) rfl rfl rfl ⟨_, rfl, by decide, by decide, rfl⟩
      · refine X_aload_n rfl rfl rfl rfl ?_
        refine S_getI rfl rfl rfl ((congrFun V.1 355).trans s_355) rfl (fun vz6 evz6 => ?_)
        refine X_iconst (v := (2 : Int32)) rfl rfl rfl ?_
        refine S_icmp_eq (tgt := 51) rfl rfl rfl rfl (show (2 : Int32).toInt = 2 from rfl) (fun vh7 => ?_) (fun vh7 => ?_)
        · refine X_iconst (v := (0 : Int32)) rfl rfl rfl ?_
          exact LW_ireturn (st := []) rfl rfl rfl ⟨_, rfl, by decide, by decide, rfl⟩
        · refine LW_goto (tgt := 47) rfl rfl ?_
          refine X_iconst (v := (1 : Int32)) rfl rfl rfl ?_
          refine LW_goto (tgt := 52) rfl rfl ?_
          exact LW_ireturn (st := []) rfl rfl rfl ⟨_, rfl, by decide, by decide, rfl⟩
    · refine X_aload_n rfl rfl rfl rfl ?_
      refine S_getI rfl rfl rfl ((congrFun V.1 355).trans s_355) rfl (fun vz8 evz8 => ?_)
      refine X_iconst (v := (1 : Int32)) rfl rfl rfl ?_
      refine S_icmp_le (tgt := 51) rfl rfl rfl rfl (show (1 : Int32).toInt = 1 from rfl) (fun vh9 => ?_) (fun vh9 => ?_)
      · refine X_iconst (v := (0 : Int32)) rfl rfl rfl ?_
        exact LW_ireturn (st := []) rfl rfl rfl ⟨_, rfl, by decide, by decide, rfl⟩
      · refine LW_goto (tgt := 47) rfl rfl ?_
        refine X_iconst (v := (1 : Int32)) rfl rfl rfl ?_
        refine LW_goto (tgt := 52) rfl rfl ?_
        exact LW_ireturn (st := []) rfl rfl rfl ⟨_, rfl, by decide, by decide, rfl⟩
set_option maxRecDepth 10000 in
set_option maxHeartbeats 40000000 in
theorem C_X13_hasParen_2 {P : Par} {g : LH} {d n : Nat}  (V : InvR P g) (x1 : Int32) (y1 : Int) (hx1 : x1.toInt = y1) (hf1 : 0 ≤ y1 ∧ y1 ≤ 255) (hq0 : 0 ≤ (Gi g 355 21).toInt) (hq1 : (Gi g 355 21).toInt ≤ 160) (hmu : (255 - y1) * 1 + 0 < (n : Int) + 1) (ih2 : ∀ (V : InvR P g) (x1 : Int32) (y1 : Int) (hx1 : x1.toInt = y1) (hf1 : 0 ≤ y1 ∧ y1 ≤ 255) (hq0 : 0 ≤ (Gi g 355 21).toInt) (hq1 : (Gi g 355 21).toInt ≤ 160), (255 - y1) * 1 + 0 < (n : Int) → LW 214 (d + 3) 0 0 2 [some (.ref 355), some (.int x1)] [] g (fun v g' => ∃ r : Int32, v = some (.int r) ∧ 0 ≤ r.toInt ∧ r.toInt ≤ 1 ∧ g = g' ∧ (r.toInt = 1 → ∃ k : Nat, ↑k < (Gi g 355 21).toInt ∧ (Gi g 362 k).toInt = 40))) : LW 214 (d + 3) 0 0 2 [some (.ref 355), some (.int x1)] [] g (fun v g' => ∃ r : Int32, v = some (.int r) ∧ 0 ≤ r.toInt ∧ r.toInt ≤ 1 ∧ g = g' ∧ (r.toInt = 1 → ∃ k : Nat, ↑k < (Gi g 355 21).toInt ∧ (Gi g 362 k).toInt = 40)) := by
  obtain ⟨vz1, evz1⟩ : ∃ z, Gi g 355 21 = z := ⟨_, rfl⟩
  rw [evz1] at hq0
  rw [evz1] at hq1
  refine X_iload_n rfl rfl rfl rfl ?_
  refine X_aload_n rfl rfl rfl rfl ?_
  refine X_getI (v := vz1) rfl rfl rfl ((congrFun V.1 355).trans s_355) rfl evz1 ?_
  refine S_icmp_ge (tgt := 29) rfl rfl rfl hx1 rfl (fun vh2 => ?_) (fun vh2 => ?_)
  · refine X_iconst (v := (0 : Int32)) rfl rfl rfl ?_
    exact LW_ireturn (st := []) rfl rfl rfl ⟨_, rfl, by decide, by decide, rfl, (fun q => absurd q (by decide))⟩
  · refine X_aload_n rfl rfl rfl rfl ?_
    refine X_getR (a := 362) rfl rfl rfl ((congrFun V.1 355).trans s_355) rfl ((congrFun (V.2.1 355 (by decide)) 20).trans r_355_20) ?_
    refine X_iload_n rfl rfl rfl rfl ?_
    refine S_iald rfl rfl ((congrFun V.1 362).trans s_362) hx1 (by omega) (fun vz3 evz3 => ?_)
    refine X_bipush (v := (40 : Int32)) rfl rfl rfl ?_
    refine S_icmp_ne (tgt := 23) rfl rfl rfl rfl (show (40 : Int32).toInt = 40 from rfl) (fun vh4 => ?_) (fun vh4 => ?_)
    · refine S_iinc (c := 1) rfl rfl rfl hx1 rfl (by omega) (fun vz5 hvz5 => ?_)
      refine LW_ls (ls' := [some (.ref 355), some (.int vz5)]) rfl ?_
      refine LW_goto (tgt := 2) rfl rfl ?_
      exact ih2 V vz5 vz5.toInt rfl (by omega)  (by rw [evz1] <;> omega) (by rw [evz1] <;> omega)  (by omega)
    · refine X_iconst (v := (1 : Int32)) rfl rfl rfl ?_
      exact LW_ireturn (st := []) rfl rfl rfl ⟨_, rfl, by decide, by decide, rfl, (by
            exact fun _ => ⟨Int.toNat y1, by rw [evz1]; omega, by rw [evz3]; omega⟩)⟩
theorem C_X13_hasParen_all {P : Par} {g : LH} {d : Nat}  : ∀ n : Nat, (∀ (V : InvR P g) (x1 : Int32) (y1 : Int) (hx1 : x1.toInt = y1) (hf1 : 0 ≤ y1 ∧ y1 ≤ 255) (hq0 : 0 ≤ (Gi g 355 21).toInt) (hq1 : (Gi g 355 21).toInt ≤ 160), (255 - y1) * 1 + 0 < (n : Int) → LW 214 (d + 3) 0 0 2 [some (.ref 355), some (.int x1)] [] g (fun v g' => ∃ r : Int32, v = some (.int r) ∧ 0 ≤ r.toInt ∧ r.toInt ≤ 1 ∧ g = g' ∧ (r.toInt = 1 → ∃ k : Nat, ↑k < (Gi g 355 21).toInt ∧ (Gi g 362 k).toInt = 40))) := by
  intro n
  induction n with
  | zero => exact fun V x1 y1 hx1 hf1 hq0 hq1 hmu => absurd hmu (by omega)
  | succ n ih => exact fun V x1 y1 hx1 hf1 hq0 hq1 hmu => C_X13_hasParen_2  V x1 y1 hx1 hf1 hq0 hq1 (by omega) ih
set_option maxRecDepth 10000 in
set_option maxHeartbeats 40000000 in
theorem C_X13_hasParen {P : Par} {g : LH} {d : Nat}  (V : InvR P g)  (hq0 : 0 ≤ (Gi g 355 21).toInt) (hq1 : (Gi g 355 21).toInt ≤ 160)  : LW 214 (d + 3) 0 0 0 (lEnt (mL 214) [.ref 355]) [] g (fun v g' => ∃ r : Int32, v = some (.int r) ∧ 0 ≤ r.toInt ∧ r.toInt ≤ 1 ∧ g = g' ∧ (r.toInt = 1 → ∃ k : Nat, ↑k < (Gi g 355 21).toInt ∧ (Gi g 362 k).toInt = 40)) := by
  refine LW_ls (ls' := [some (.ref 355), none]) rfl ?_
  obtain ⟨vz1, evz1⟩ : ∃ z, Gi g 355 21 = z := ⟨_, rfl⟩
  rw [evz1] at hq0
  rw [evz1] at hq1
  refine X_iconst (v := (0 : Int32)) rfl rfl rfl ?_
  refine X_istore_n (i := 1) (ls' := [some (.ref 355), some (.int (0 : Int32))]) rfl rfl rfl (Nat.le_of_ble_eq_true rfl) rfl ?_
  exact (C_X13_hasParen_all (((255 - 0) * 1 + 0) + 1 : Int).toNat) V (0 : Int32) 0 (show (0 : Int32).toInt = 0 from rfl) (by omega)  (by rw [evz1] <;> omega) (by rw [evz1] <;> omega)  (by omega)
set_option maxRecDepth 10000 in
set_option maxHeartbeats 40000000 in
theorem C_X13_goesOn {P : Par} {g : LH} {d : Nat}  (V : InvR P g)  (hq0 : 0 ≤ (Gi g 355 21).toInt) (hq1 : (Gi g 355 21).toInt ≤ 160)  : LW 215 (d + 7) 0 0 0 (lEnt (mL 215) [.ref 355]) [] g (fun v g' => ∃ r : Int32, v = some (.int r) ∧ 0 ≤ r.toInt ∧ r.toInt ≤ 1 ∧ g = g' ∧ (r.toInt = 1 → vGO g) ∧ (r.toInt = 0 ∨ ¬ (Gi g' 355 13).toInt = 0)) := by
  refine LW_ls (ls' := [some (.ref 355)]) rfl ?_
  obtain ⟨vz1, evz1⟩ : ∃ z, Gi g 355 21 = z := ⟨_, rfl⟩
  rw [evz1] at hq0
  rw [evz1] at hq1
  refine X_aload_n rfl rfl rfl rfl ?_
  refine S_getI rfl rfl rfl ((congrFun V.1 355).trans s_355) rfl (fun vz2 evz2 => ?_)
  refine X_bipush (v := (43 : Int32)) rfl rfl rfl ?_
  refine S_icmp_eq (tgt := 52) rfl rfl rfl rfl (show (43 : Int32).toInt = 43 from rfl) (fun vh3 => ?_) (fun vh3 => ?_)
  · refine X_iconst (v := (1 : Int32)) rfl rfl rfl ?_
    refine LW_goto (tgt := 57) rfl rfl ?_
    exact LW_ireturn (st := []) rfl rfl rfl ⟨_, rfl, by decide, by decide, rfl, (by
          exact fun _ => Or.inl (by rw [evz2]; omega)), (by have vkr := (show (1 : Int32).toInt = 1 from rfl); rw [evz2] <;> omega)⟩
  · refine X_aload_n rfl rfl rfl rfl ?_
    refine X_getI (v := vz2) rfl rfl rfl ((congrFun V.1 355).trans s_355) rfl evz2 ?_
    refine X_bipush (v := (45 : Int32)) rfl rfl rfl ?_
    refine S_icmp_eq (tgt := 52) rfl rfl rfl rfl (show (45 : Int32).toInt = 45 from rfl) (fun vh4 => ?_) (fun vh4 => ?_)
    · refine X_iconst (v := (1 : Int32)) rfl rfl rfl ?_
      refine LW_goto (tgt := 57) rfl rfl ?_
      exact LW_ireturn (st := []) rfl rfl rfl ⟨_, rfl, by decide, by decide, rfl, (by
            exact fun _ => Or.inl (by rw [evz2]; omega)), (by have vkr := (show (1 : Int32).toInt = 1 from rfl); rw [evz2] <;> omega)⟩
    · refine X_aload_n rfl rfl rfl rfl ?_
      refine X_getI (v := vz2) rfl rfl rfl ((congrFun V.1 355).trans s_355) rfl evz2 ?_
      refine X_bipush (v := (42 : Int32)) rfl rfl rfl ?_
      refine S_icmp_eq (tgt := 52) rfl rfl rfl rfl (show (42 : Int32).toInt = 42 from rfl) (fun vh5 => ?_) (fun vh5 => ?_)
      · refine X_iconst (v := (1 : Int32)) rfl rfl rfl ?_
        refine LW_goto (tgt := 57) rfl rfl ?_
        exact LW_ireturn (st := []) rfl rfl rfl ⟨_, rfl, by decide, by decide, rfl, (by
              exact fun _ => Or.inl (by rw [evz2]; omega)), (by have vkr := (show (1 : Int32).toInt = 1 from rfl); rw [evz2] <;> omega)⟩
      · refine X_aload_n rfl rfl rfl rfl ?_
        refine X_getI (v := vz2) rfl rfl rfl ((congrFun V.1 355).trans s_355) rfl evz2 ?_
        refine X_bipush (v := (47 : Int32)) rfl rfl rfl ?_
        refine S_icmp_eq (tgt := 52) rfl rfl rfl rfl (show (47 : Int32).toInt = 47 from rfl) (fun vh6 => ?_) (fun vh6 => ?_)
        · refine X_iconst (v := (1 : Int32)) rfl rfl rfl ?_
          refine LW_goto (tgt := 57) rfl rfl ?_
          exact LW_ireturn (st := []) rfl rfl rfl ⟨_, rfl, by decide, by decide, rfl, (by
                exact fun _ => Or.inl (by rw [evz2]; omega)), (by have vkr := (show (1 : Int32).toInt = 1 from rfl); rw [evz2] <;> omega)⟩
        · refine X_aload_n rfl rfl rfl rfl ?_
          refine X_getI (v := vz2) rfl rfl rfl ((congrFun V.1 355).trans s_355) rfl evz2 ?_
          refine X_bipush (v := (41 : Int32)) rfl rfl rfl ?_
          refine S_icmp_ne (tgt := 56) rfl rfl rfl rfl (show (41 : Int32).toInt = 41 from rfl) (fun vh7 => ?_) (fun vh7 => ?_)
          · refine X_iconst (v := (0 : Int32)) rfl rfl rfl ?_
            exact LW_ireturn (st := []) rfl rfl rfl ⟨_, rfl, by decide, by decide, rfl, (fun q => absurd q (by decide)), (by have vkr := (show (0 : Int32).toInt = 0 from rfl); rw [evz2] <;> omega)⟩
          · refine X_aload_n rfl rfl rfl rfl ?_
            refine Y_callV (as := []) (st := []) rfl rfl rfl (by decide) rfl (Nat.le_of_ble_eq_true rfl) (by decide) (Nat.le_of_ble_eq_true rfl) rfl ((congrFun V.1 355).trans s_355) (by decide) (C_X13_hasParen V  (by rw [evz1] <;> omega) (by rw [evz1] <;> omega)) ?_
            rintro _ g' ⟨vr8, rfl, hrvr80, hrvr81, hgg, vq9⟩
            subst hgg
            refine S_if_eq (tgt := 56) rfl rfl rfl rfl (fun vh10 => ?_) (fun vh10 => ?_)
            · refine X_iconst (v := (0 : Int32)) rfl rfl rfl ?_
              exact LW_ireturn (st := []) rfl rfl rfl ⟨_, rfl, by decide, by decide, rfl, (fun q => absurd q (by decide)), (by have vkr := (show (0 : Int32).toInt = 0 from rfl); rw [evz2] <;> omega)⟩
            · refine X_iconst (v := (1 : Int32)) rfl rfl rfl ?_
              refine LW_goto (tgt := 57) rfl rfl ?_
              exact LW_ireturn (st := []) rfl rfl rfl ⟨_, rfl, by decide, by decide, rfl, (by
                    exact fun _ => Or.inr ⟨by rw [evz2]; omega, vq9 (by omega)⟩), (by have vkr := (show (1 : Int32).toInt = 1 from rfl); rw [evz2] <;> omega)⟩
set_option maxRecDepth 10000 in
set_option maxHeartbeats 40000000 in
theorem C_X13_compareOf {P : Par} {g : LH} {d : Nat}  (V : InvR P g)    : LW 218 (d + 3) 0 0 0 (lEnt (mL 218) [.ref 355]) [] g (fun v g' => ∃ r : Int32, v = some (.int r) ∧ (-1) ≤ r.toInt ∧ r.toInt ≤ 15 ∧ g = g' ∧ (r.toInt = -1 ∨ (10 ≤ r.toInt ∧ ¬ (Gi g' 355 13).toInt = 0))) := by
  refine LW_ls (ls' := [some (.ref 355)]) rfl ?_
  refine X_aload_n rfl rfl rfl rfl ?_
  refine S_getI rfl rfl rfl ((congrFun V.1 355).trans s_355) rfl (fun vz1 evz1 => ?_)
  refine X_bipush (v := (60 : Int32)) rfl rfl rfl ?_
  refine S_icmp_ne (tgt := 14) rfl rfl rfl rfl (show (60 : Int32).toInt = 60 from rfl) (fun vh2 => ?_) (fun vh2 => ?_)
  · refine X_aload_n rfl rfl rfl rfl ?_
    refine X_getI (v := vz1) rfl rfl rfl ((congrFun V.1 355).trans s_355) rfl evz1 ?_
    refine X_iconst (v := (4 : Int32)) rfl rfl rfl ?_
    refine S_icmp_ne (tgt := 27) rfl rfl rfl rfl (show (4 : Int32).toInt = 4 from rfl) (fun vh3 => ?_) (fun vh3 => ?_)
    · refine X_aload_n rfl rfl rfl rfl ?_
      refine X_getI (v := vz1) rfl rfl rfl ((congrFun V.1 355).trans s_355) rfl evz1 ?_
      refine X_bipush (v := (62 : Int32)) rfl rfl rfl ?_
      refine S_icmp_ne (tgt := 41) rfl rfl rfl rfl (show (62 : Int32).toInt = 62 from rfl) (fun vh4 => ?_) (fun vh4 => ?_)
      · refine X_aload_n rfl rfl rfl rfl ?_
        refine X_getI (v := vz1) rfl rfl rfl ((congrFun V.1 355).trans s_355) rfl evz1 ?_
        refine X_iconst (v := (5 : Int32)) rfl rfl rfl ?_
        refine S_icmp_ne (tgt := 54) rfl rfl rfl rfl (show (5 : Int32).toInt = 5 from rfl) (fun vh5 => ?_) (fun vh5 => ?_)
        · refine X_aload_n rfl rfl rfl rfl ?_
          refine X_getI (v := vz1) rfl rfl rfl ((congrFun V.1 355).trans s_355) rfl evz1 ?_
          refine X_bipush (v := (61 : Int32)) rfl rfl rfl ?_
          refine S_icmp_ne (tgt := 68) rfl rfl rfl rfl (show (61 : Int32).toInt = 61 from rfl) (fun vh6 => ?_) (fun vh6 => ?_)
          · refine X_aload_n rfl rfl rfl rfl ?_
            refine X_getI (v := vz1) rfl rfl rfl ((congrFun V.1 355).trans s_355) rfl evz1 ?_
            refine X_bipush (v := (35 : Int32)) rfl rfl rfl ?_
            refine S_icmp_ne (tgt := 82) rfl rfl rfl rfl (show (35 : Int32).toInt = 35 from rfl) (fun vh7 => ?_) (fun vh7 => ?_)
            · refine X_iconst (v := (-1 : Int32)) rfl rfl rfl ?_
              exact LW_ireturn (st := []) rfl rfl rfl ⟨_, rfl, by decide, by decide, rfl, (by have vkr := (show (-1 : Int32).toInt = -1 from rfl); rw [evz1] <;> omega)⟩
            · refine X_bipush (v := (15 : Int32)) rfl rfl rfl ?_
              refine LW_goto (tgt := 83) rfl rfl ?_
              exact LW_ireturn (st := []) rfl rfl rfl ⟨_, rfl, by decide, by decide, rfl, (by have vkr := (show (15 : Int32).toInt = 15 from rfl); rw [evz1] <;> omega)⟩
          · refine X_bipush (v := (14 : Int32)) rfl rfl rfl ?_
            refine LW_goto (tgt := 83) rfl rfl ?_
            exact LW_ireturn (st := []) rfl rfl rfl ⟨_, rfl, by decide, by decide, rfl, (by have vkr := (show (14 : Int32).toInt = 14 from rfl); rw [evz1] <;> omega)⟩
        · refine X_bipush (v := (13 : Int32)) rfl rfl rfl ?_
          refine LW_goto (tgt := 83) rfl rfl ?_
          exact LW_ireturn (st := []) rfl rfl rfl ⟨_, rfl, by decide, by decide, rfl, (by have vkr := (show (13 : Int32).toInt = 13 from rfl); rw [evz1] <;> omega)⟩
      · refine X_bipush (v := (12 : Int32)) rfl rfl rfl ?_
        refine LW_goto (tgt := 83) rfl rfl ?_
        exact LW_ireturn (st := []) rfl rfl rfl ⟨_, rfl, by decide, by decide, rfl, (by have vkr := (show (12 : Int32).toInt = 12 from rfl); rw [evz1] <;> omega)⟩
    · refine X_bipush (v := (11 : Int32)) rfl rfl rfl ?_
      refine LW_goto (tgt := 83) rfl rfl ?_
      exact LW_ireturn (st := []) rfl rfl rfl ⟨_, rfl, by decide, by decide, rfl, (by have vkr := (show (11 : Int32).toInt = 11 from rfl); rw [evz1] <;> omega)⟩
  · refine X_bipush (v := (10 : Int32)) rfl rfl rfl ?_
    refine LW_goto (tgt := 83) rfl rfl ?_
    exact LW_ireturn (st := []) rfl rfl rfl ⟨_, rfl, by decide, by decide, rfl, (by have vkr := (show (10 : Int32).toInt = 10 from rfl); rw [evz1] <;> omega)⟩
set_option maxRecDepth 10000 in
set_option maxHeartbeats 40000000 in
theorem C_X13_w3 {P : Par} {g : LH} {d : Nat}  (V : InvR P g) (x0 : Int32) (y0 : Int) (hx0 : x0.toInt = y0) (x1 : Int32) (y1 : Int) (hx1 : x1.toInt = y1) (x2 : Int32) (y2 : Int) (hx2 : x2.toInt = y2)   : LW 201 (d + 5) 0 0 0 (lEnt (mL 201) [.int x0, .int x1, .int x2]) [] g (fun v g' => ∃ r : Int64, v = some (.long r) ∧ g = g') := by
  refine LW_ls (ls' := [some (.int x0), some (.int x1), some (.int x2)]) rfl ?_
  refine X_iload_n rfl rfl rfl rfl ?_
  refine S_i2lT rfl rfl (fun vz1 => ?_)
  refine X_bipush (v := (8 : Int32)) rfl rfl rfl ?_
  refine S_lshlT rfl rfl (fun vz2 => ?_)
  refine X_iload_n rfl rfl rfl rfl ?_
  refine S_i2lT rfl rfl (fun vz3 => ?_)
  refine S_lorT rfl rfl (fun vz4 => ?_)
  refine X_bipush (v := (8 : Int32)) rfl rfl rfl ?_
  refine S_lshlT rfl rfl (fun vz5 => ?_)
  refine X_iload_n rfl rfl rfl rfl ?_
  refine S_i2lT rfl rfl (fun vz6 => ?_)
  refine S_lorT rfl rfl (fun vz7 => ?_)
  exact LW_lreturn (st := []) rfl rfl ⟨_, rfl, rfl⟩
set_option maxRecDepth 10000 in
set_option maxHeartbeats 40000000 in
theorem C_X13_w4 {P : Par} {g : LH} {d : Nat}  (V : InvR P g) (x0 : Int32) (y0 : Int) (hx0 : x0.toInt = y0) (x1 : Int32) (y1 : Int) (hx1 : x1.toInt = y1) (x2 : Int32) (y2 : Int) (hx2 : x2.toInt = y2) (x3 : Int32) (y3 : Int) (hx3 : x3.toInt = y3)   : LW 203 (d + 6) 0 0 0 (lEnt (mL 203) [.int x0, .int x1, .int x2, .int x3]) [] g (fun v g' => ∃ r : Int64, v = some (.long r) ∧ g = g') := by
  refine LW_ls (ls' := [some (.int x0), some (.int x1), some (.int x2), some (.int x3)]) rfl ?_
  refine X_iload_n rfl rfl rfl rfl ?_
  refine X_iload_n rfl rfl rfl rfl ?_
  refine X_iload_n rfl rfl rfl rfl ?_
  refine Y_callS (as := [.int x0, .int x1, .int x2]) (st := []) rfl rfl rfl (by decide) rfl (Nat.le_of_ble_eq_true rfl) (by decide) (Nat.le_of_ble_eq_true rfl) rfl (C_X13_w3 V x0 y0 hx0 x1 y1 hx1 x2 y2 hx2 ) ?_
  rintro _ g' ⟨vr1, rfl, hgg⟩
  subst hgg
  refine X_bipush (v := (8 : Int32)) rfl rfl rfl ?_
  refine S_lshlT rfl rfl (fun vz2 => ?_)
  refine X_iload_n rfl rfl rfl rfl ?_
  refine S_i2lT rfl rfl (fun vz3 => ?_)
  refine S_lorT rfl rfl (fun vz4 => ?_)
  exact LW_lreturn (st := []) rfl rfl ⟨_, rfl, rfl⟩
set_option maxRecDepth 10000 in
set_option maxHeartbeats 40000000 in
theorem C_X13_w5 {P : Par} {g : LH} {d : Nat}  (V : InvR P g) (x0 : Int32) (y0 : Int) (hx0 : x0.toInt = y0) (x1 : Int32) (y1 : Int) (hx1 : x1.toInt = y1) (x2 : Int32) (y2 : Int) (hx2 : x2.toInt = y2) (x3 : Int32) (y3 : Int) (hx3 : x3.toInt = y3) (x4 : Int32) (y4 : Int) (hx4 : x4.toInt = y4)   : LW 202 (d + 7) 0 0 0 (lEnt (mL 202) [.int x0, .int x1, .int x2, .int x3, .int x4]) [] g (fun v g' => ∃ r : Int64, v = some (.long r) ∧ g = g') := by
  refine LW_ls (ls' := [some (.int x0), some (.int x1), some (.int x2), some (.int x3), some (.int x4)]) rfl ?_
  refine X_iload_n rfl rfl rfl rfl ?_
  refine X_iload_n rfl rfl rfl rfl ?_
  refine X_iload_n rfl rfl rfl rfl ?_
  refine Y_callS (as := [.int x0, .int x1, .int x2]) (st := []) rfl rfl rfl (by decide) rfl (Nat.le_of_ble_eq_true rfl) (by decide) (Nat.le_of_ble_eq_true rfl) rfl (C_X13_w3 V x0 y0 hx0 x1 y1 hx1 x2 y2 hx2 ) ?_
  rintro _ g' ⟨vr1, rfl, hgg⟩
  subst hgg
  refine X_bipush (v := (8 : Int32)) rfl rfl rfl ?_
  refine S_lshlT rfl rfl (fun vz2 => ?_)
  refine X_iload_n rfl rfl rfl rfl ?_
  refine S_i2lT rfl rfl (fun vz3 => ?_)
  refine S_lorT rfl rfl (fun vz4 => ?_)
  refine X_bipush (v := (8 : Int32)) rfl rfl rfl ?_
  refine S_lshlT rfl rfl (fun vz5 => ?_)
  refine X_iload rfl rfl rfl ?_
  refine S_i2lT rfl rfl (fun vz6 => ?_)
  refine S_lorT rfl rfl (fun vz7 => ?_)
  exact LW_lreturn (st := []) rfl rfl ⟨_, rfl, rfl⟩
set_option maxRecDepth 10000 in
set_option maxHeartbeats 40000000 in
theorem C_X13_w6 {P : Par} {g : LH} {d : Nat}  (V : InvR P g) (x0 : Int32) (y0 : Int) (hx0 : x0.toInt = y0) (x1 : Int32) (y1 : Int) (hx1 : x1.toInt = y1) (x2 : Int32) (y2 : Int) (hx2 : x2.toInt = y2) (x3 : Int32) (y3 : Int) (hx3 : x3.toInt = y3) (x4 : Int32) (y4 : Int) (hx4 : x4.toInt = y4) (x5 : Int32) (y5 : Int) (hx5 : x5.toInt = y5)   : LW 204 (d + 8) 0 0 0 (lEnt (mL 204) [.int x0, .int x1, .int x2, .int x3, .int x4, .int x5]) [] g (fun v g' => ∃ r : Int64, v = some (.long r) ∧ g = g') := by
  refine LW_ls (ls' := [some (.int x0), some (.int x1), some (.int x2), some (.int x3), some (.int x4), some (.int x5)]) rfl ?_
  refine X_iload_n rfl rfl rfl rfl ?_
  refine X_iload_n rfl rfl rfl rfl ?_
  refine X_iload_n rfl rfl rfl rfl ?_
  refine X_iload_n rfl rfl rfl rfl ?_
  refine X_iload rfl rfl rfl ?_
  refine Y_callS (as := [.int x0, .int x1, .int x2, .int x3, .int x4]) (st := []) rfl rfl rfl (by decide) rfl (Nat.le_of_ble_eq_true rfl) (by decide) (Nat.le_of_ble_eq_true rfl) rfl (C_X13_w5 V x0 y0 hx0 x1 y1 hx1 x2 y2 hx2 x3 y3 hx3 x4 y4 hx4 ) ?_
  rintro _ g' ⟨vr1, rfl, hgg⟩
  subst hgg
  refine X_bipush (v := (8 : Int32)) rfl rfl rfl ?_
  refine S_lshlT rfl rfl (fun vz2 => ?_)
  refine X_iload rfl rfl rfl ?_
  refine S_i2lT rfl rfl (fun vz3 => ?_)
  refine S_lorT rfl rfl (fun vz4 => ?_)
  exact LW_lreturn (st := []) rfl rfl ⟨_, rfl, rfl⟩
set_option maxRecDepth 10000 in
set_option maxHeartbeats 40000000 in
theorem C_X13_isWord {P : Par} {g : LH} {d : Nat}  (V : InvR P g) (x1 : Int64)   : LW 205 (d + 3) 0 0 0 (lEnt (mL 205) [.ref 355, .long x1]) [] g (fun v g' => ∃ r : Int32, v = some (.int r) ∧ 0 ≤ r.toInt ∧ r.toInt ≤ 1 ∧ g = g' ∧ (r.toInt = 0 ∨ (Gi g' 355 13).toInt = 2)) := by
  refine LW_ls (ls' := [some (.ref 355), some (.long x1), none]) rfl ?_
  refine X_aload_n rfl rfl rfl rfl ?_
  refine S_getI rfl rfl rfl ((congrFun V.1 355).trans s_355) rfl (fun vz1 evz1 => ?_)
  refine X_iconst (v := (2 : Int32)) rfl rfl rfl ?_
  refine S_icmp_ne (tgt := 21) rfl rfl rfl rfl (show (2 : Int32).toInt = 2 from rfl) (fun vh2 => ?_) (fun vh2 => ?_)
  · refine X_iconst (v := (0 : Int32)) rfl rfl rfl ?_
    exact LW_ireturn (st := []) rfl rfl rfl ⟨_, rfl, by decide, by decide, rfl, (by have vkr := (show (0 : Int32).toInt = 0 from rfl); rw [evz1] <;> omega)⟩
  · refine X_aload_n rfl rfl rfl rfl ?_
    refine S_getJ rfl rfl rfl ((congrFun V.1 355).trans s_355) rfl (fun vz3 => ?_)
    refine X_lload_n rfl rfl rfl rfl ?_
    refine S_lcmp rfl rfl (fun vz4 hvz4 => ?_)
    refine S_if_ne (tgt := 21) rfl rfl rfl rfl (fun vh5 => ?_) (fun vh5 => ?_)
    · refine X_iconst (v := (0 : Int32)) rfl rfl rfl ?_
      exact LW_ireturn (st := []) rfl rfl rfl ⟨_, rfl, by decide, by decide, rfl, (by have vkr := (show (0 : Int32).toInt = 0 from rfl); rw [evz1] <;> omega)⟩
    · refine X_iconst (v := (1 : Int32)) rfl rfl rfl ?_
      refine LW_goto (tgt := 22) rfl rfl ?_
      exact LW_ireturn (st := []) rfl rfl rfl ⟨_, rfl, by decide, by decide, rfl, (by have vkr := (show (1 : Int32).toInt = 1 from rfl); rw [evz1] <;> omega)⟩
set_option maxRecDepth 10000 in
set_option maxHeartbeats 40000000 in
theorem C_X13_isAct {P : Par} {g : LH} {d : Nat}  (V : InvR P g)  (hq0 : 0 ≤ (Gi g 355 12).toInt) (hq1 : (Gi g 355 12).toInt ≤ (Gi g 355 11).toInt) (hq2 : (Gi g 355 11).toInt ≤ (Gi g 355 8).toInt) (hq3 : (Gi g 355 8).toInt ≤ 300)  : LW 222 (d + 14) 0 0 0 (lEnt (mL 222) [.ref 355]) [] g (fun v g' => ∃ r : Int32, v = some (.int r) ∧ (-1) ≤ r.toInt ∧ r.toInt ≤ 12 ∧ g = g' ∧ (r.toInt < 0 ∨ (Gi g' 355 13).toInt = 2)) := by
  refine LW_ls (ls' := [some (.ref 355), none]) rfl ?_
  obtain ⟨vz1, evz1⟩ : ∃ z, Gi g 355 12 = z := ⟨_, rfl⟩
  rw [evz1] at hq0
  rw [evz1] at hq1
  obtain ⟨vz2, evz2⟩ : ∃ z, Gi g 355 11 = z := ⟨_, rfl⟩
  rw [evz2] at hq1
  rw [evz2] at hq2
  obtain ⟨vz3, evz3⟩ : ∃ z, Gi g 355 8 = z := ⟨_, rfl⟩
  have vf4 := O_355_8 (V.2.2.2.2.2.2.1 355 (8) (Nat.le_of_ble_eq_true rfl))
  rw [evz3] at vf4
  rw [evz3] at hq2
  rw [evz3] at hq3
  refine X_aload_n rfl rfl rfl rfl ?_
  refine S_getI rfl rfl rfl ((congrFun V.1 355).trans s_355) rfl (fun vz5 evz5 => ?_)
  refine X_iconst (v := (2 : Int32)) rfl rfl rfl ?_
  refine S_icmp_eq (tgt := 10) rfl rfl rfl rfl (show (2 : Int32).toInt = 2 from rfl) (fun vh6 => ?_) (fun vh6 => ?_)
  · refine X_aload_n rfl rfl rfl rfl ?_
    refine X_bipush (v := (109 : Int32)) rfl rfl rfl ?_
    refine X_bipush (v := (111 : Int32)) rfl rfl rfl ?_
    refine X_bipush (v := (114 : Int32)) rfl rfl rfl ?_
    refine Y_callS (as := [.int (109 : Int32), .int (111 : Int32), .int (114 : Int32)]) (st := [.ref 355]) rfl rfl rfl (by decide) rfl (Nat.le_of_ble_eq_true rfl) (by decide) (Nat.le_of_ble_eq_true rfl) rfl (C_X13_w3 V (109 : Int32) 109 (show (109 : Int32).toInt = 109 from rfl) (111 : Int32) 111 (show (111 : Int32).toInt = 111 from rfl) (114 : Int32) 114 (show (114 : Int32).toInt = 114 from rfl) ) ?_
    rintro _ g' ⟨vr7, rfl, hgg⟩
    subst hgg
    refine X_bipush (v := (32 : Int32)) rfl rfl rfl ?_
    refine S_lshlT rfl rfl (fun vz8 => ?_)
    refine X_bipush (v := (110 : Int32)) rfl rfl rfl ?_
    refine X_bipush (v := (105 : Int32)) rfl rfl rfl ?_
    refine X_bipush (v := (110 : Int32)) rfl rfl rfl ?_
    refine X_bipush (v := (103 : Int32)) rfl rfl rfl ?_
    refine Y_callS (as := [.int (110 : Int32), .int (105 : Int32), .int (110 : Int32), .int (103 : Int32)]) (st := [.long vz8, .ref 355]) rfl rfl rfl (by decide) rfl (Nat.le_of_ble_eq_true rfl) (by decide) (Nat.le_of_ble_eq_true rfl) rfl (C_X13_w4 V (110 : Int32) 110 (show (110 : Int32).toInt = 110 from rfl) (105 : Int32) 105 (show (105 : Int32).toInt = 105 from rfl) (110 : Int32) 110 (show (110 : Int32).toInt = 110 from rfl) (103 : Int32) 103 (show (103 : Int32).toInt = 103 from rfl) ) ?_
    rintro _ g' ⟨vr9, rfl, hgg⟩
    subst hgg
    refine S_lorT rfl rfl (fun vz10 => ?_)
    refine Y_callV (as := [.long vz10]) (st := []) rfl rfl rfl (by decide) rfl (Nat.le_of_ble_eq_true rfl) (by decide) (Nat.le_of_ble_eq_true rfl) rfl ((congrFun V.1 355).trans s_355) (by decide) (C_X13_isWord V vz10 ) ?_
    rintro _ g' ⟨vr11, rfl, hrvr110, hrvr111, hgg, vq12⟩
    subst hgg
    refine S_if_eq (tgt := 44) rfl rfl rfl rfl (fun vh13 => ?_) (fun vh13 => ?_)
    · refine X_aload_n rfl rfl rfl rfl ?_
      refine X_getI (v := vz2) rfl rfl rfl ((congrFun V.1 355).trans s_355) rfl evz2 ?_
      refine X_aload_n rfl rfl rfl rfl ?_
      refine X_getI (v := vz1) rfl rfl rfl ((congrFun V.1 355).trans s_355) rfl evz1 ?_
      refine S_isub rfl rfl rfl rfl (by omega) (fun vz14 hvz14 => ?_)
      refine X_bipush (v := (8 : Int32)) rfl rfl rfl ?_
      refine S_icmp_ne (tgt := 62) rfl rfl rfl rfl (show (8 : Int32).toInt = 8 from rfl) (fun vh15 => ?_) (fun vh15 => ?_)
      · refine X_iconst (v := (0 : Int32)) rfl rfl rfl ?_
        refine X_istore_n (i := 1) (ls' := [some (.ref 355), some (.int (0 : Int32))]) rfl rfl rfl (Nat.le_of_ble_eq_true rfl) rfl ?_
        refine X_iload_n rfl rfl rfl rfl ?_
        refine S_if_eq (tgt := 130) rfl rfl rfl (show (0 : Int32).toInt = 0 from rfl) (fun vh16 => ?_) (fun q => absurd q (by omega))
        refine X_iconst (v := (0 : Int32)) rfl rfl rfl ?_
        refine X_istore_n (i := 1) (ls' := [some (.ref 355), some (.int (0 : Int32))]) rfl rfl rfl (Nat.le_of_ble_eq_true rfl) rfl ?_
        refine X_iload_n rfl rfl rfl rfl ?_
        refine S_if_eq (tgt := 203) rfl rfl rfl (show (0 : Int32).toInt = 0 from rfl) (fun vh17 => ?_) (fun q => absurd q (by omega))
        refine X_iconst (v := (-1 : Int32)) rfl rfl rfl ?_
        exact LW_ireturn (st := []) rfl rfl rfl ⟨_, rfl, by decide, by decide, rfl, (by have vkr := (show (-1 : Int32).toInt = -1 from rfl); rw [evz5] <;> omega)⟩
      · refine X_iconst (v := (1 : Int32)) rfl rfl rfl ?_
        refine LW_goto (tgt := 63) rfl rfl ?_
        refine X_istore_n (i := 1) (ls' := [some (.ref 355), some (.int (1 : Int32))]) rfl rfl rfl (Nat.le_of_ble_eq_true rfl) rfl ?_
        refine X_iload_n rfl rfl rfl rfl ?_
        refine S_if_eq (tgt := 130) rfl rfl rfl (show (1 : Int32).toInt = 1 from rfl) (fun q => absurd q (by omega)) (fun vh18 => ?_)
        refine X_aload_n rfl rfl rfl rfl ?_
        refine X_aload_n rfl rfl rfl rfl ?_
        refine X_getI (v := vz1) rfl rfl rfl ((congrFun V.1 355).trans s_355) rfl evz1 ?_
        refine X_callV (as := [.int vz1]) (st := []) rfl rfl rfl (by decide) rfl (Nat.le_of_ble_eq_true rfl) (by decide) (Nat.le_of_ble_eq_true rfl) rfl ((congrFun V.1 355).trans s_355) (by decide) ?_
        refine LW_ls (ls' := [some (.ref 355), some (.int vz1)]) rfl ?_
        refine X_iload_n rfl rfl rfl rfl ?_
        refine X_aload_n rfl rfl rfl rfl ?_
        refine X_getI (v := vz3) rfl rfl rfl ((congrFun V.1 355).trans s_355) rfl evz3 ?_
        refine S_icmp_ge (tgt := 17) rfl rfl rfl rfl rfl (fun vh19 => ?_) (fun vh19 => ?_)
        · refine X_iconst (v := (-1 : Int32)) rfl rfl rfl ?_
          refine LW_ireturn (st := []) rfl rfl rfl ?_
          refine X_bipush (v := (99 : Int32)) rfl rfl rfl ?_
          refine S_icmp_ne (tgt := 130) rfl rfl rfl (show (-1 : Int32).toInt = -1 from rfl) (show (99 : Int32).toInt = 99 from rfl) (fun vh20 => ?_) (fun q => absurd q (by omega))
          refine X_iconst (v := (0 : Int32)) rfl rfl rfl ?_
          refine X_istore_n (i := 1) (ls' := [some (.ref 355), some (.int (0 : Int32))]) rfl rfl rfl (Nat.le_of_ble_eq_true rfl) rfl ?_
          refine X_iload_n rfl rfl rfl rfl ?_
          refine S_if_eq (tgt := 203) rfl rfl rfl (show (0 : Int32).toInt = 0 from rfl) (fun vh21 => ?_) (fun q => absurd q (by omega))
          refine X_iconst (v := (-1 : Int32)) rfl rfl rfl ?_
          exact LW_ireturn (st := []) rfl rfl rfl ⟨_, rfl, by decide, by decide, rfl, (by have vkr := (show (-1 : Int32).toInt = -1 from rfl); rw [evz5] <;> omega)⟩
        · refine X_aload_n rfl rfl rfl rfl ?_
          refine X_getR (a := 361) rfl rfl rfl ((congrFun V.1 355).trans s_355) rfl ((congrFun (V.2.1 355 (by decide)) 7).trans r_355_7) ?_
          refine X_iload_n rfl rfl rfl rfl ?_
          refine S_iald rfl rfl ((congrFun V.1 361).trans s_361) rfl (by omega) (fun vz22 evz22 => ?_)
          have vf23 := O_361 (V.2.2.2.2.2.2.1 361 ((vz1.toInt : Int).toNat) (Nat.le_of_ble_eq_true rfl))
          rw [evz22] at vf23
          refine LW_goto (tgt := 18) rfl rfl ?_
          refine LW_ireturn (st := []) rfl rfl rfl ?_
          refine X_bipush (v := (99 : Int32)) rfl rfl rfl ?_
          refine S_icmp_ne (tgt := 130) rfl rfl rfl rfl (show (99 : Int32).toInt = 99 from rfl) (fun vh24 => ?_) (fun vh24 => ?_)
          · refine X_iconst (v := (0 : Int32)) rfl rfl rfl ?_
            refine X_istore_n (i := 1) (ls' := [some (.ref 355), some (.int (0 : Int32))]) rfl rfl rfl (Nat.le_of_ble_eq_true rfl) rfl ?_
            refine X_iload_n rfl rfl rfl rfl ?_
            refine S_if_eq (tgt := 203) rfl rfl rfl (show (0 : Int32).toInt = 0 from rfl) (fun vh25 => ?_) (fun q => absurd q (by omega))
            refine X_iconst (v := (-1 : Int32)) rfl rfl rfl ?_
            exact LW_ireturn (st := []) rfl rfl rfl ⟨_, rfl, by decide, by decide, rfl, (by have vkr := (show (-1 : Int32).toInt = -1 from rfl); rw [evz5] <;> omega)⟩
          · refine X_aload_n rfl rfl rfl rfl ?_
            refine X_aload_n rfl rfl rfl rfl ?_
            refine X_getI (v := vz1) rfl rfl rfl ((congrFun V.1 355).trans s_355) rfl evz1 ?_
            refine X_iconst (v := (1 : Int32)) rfl rfl rfl ?_
            refine S_iadd rfl rfl rfl (show (1 : Int32).toInt = 1 from rfl) (by omega) (fun vz26 hvz26 => ?_)
            refine X_callV (as := [.int vz26]) (st := []) rfl rfl rfl (by decide) rfl (Nat.le_of_ble_eq_true rfl) (by decide) (Nat.le_of_ble_eq_true rfl) rfl ((congrFun V.1 355).trans s_355) (by decide) ?_
            refine LW_ls (ls' := [some (.ref 355), some (.int vz26)]) rfl ?_
            refine X_iload_n rfl rfl rfl rfl ?_
            refine X_aload_n rfl rfl rfl rfl ?_
            refine X_getI (v := vz3) rfl rfl rfl ((congrFun V.1 355).trans s_355) rfl evz3 ?_
            refine S_icmp_ge (tgt := 17) rfl rfl rfl rfl rfl (fun vh27 => ?_) (fun vh27 => ?_)
            · refine X_iconst (v := (-1 : Int32)) rfl rfl rfl ?_
              refine LW_ireturn (st := []) rfl rfl rfl ?_
              refine X_bipush (v := (111 : Int32)) rfl rfl rfl ?_
              refine S_icmp_ne (tgt := 130) rfl rfl rfl (show (-1 : Int32).toInt = -1 from rfl) (show (111 : Int32).toInt = 111 from rfl) (fun vh28 => ?_) (fun q => absurd q (by omega))
              refine X_iconst (v := (0 : Int32)) rfl rfl rfl ?_
              refine X_istore_n (i := 1) (ls' := [some (.ref 355), some (.int (0 : Int32))]) rfl rfl rfl (Nat.le_of_ble_eq_true rfl) rfl ?_
              refine X_iload_n rfl rfl rfl rfl ?_
              refine S_if_eq (tgt := 203) rfl rfl rfl (show (0 : Int32).toInt = 0 from rfl) (fun vh29 => ?_) (fun q => absurd q (by omega))
              refine X_iconst (v := (-1 : Int32)) rfl rfl rfl ?_
              exact LW_ireturn (st := []) rfl rfl rfl ⟨_, rfl, by decide, by decide, rfl, (by have vkr := (show (-1 : Int32).toInt = -1 from rfl); rw [evz5] <;> omega)⟩
            · refine X_aload_n rfl rfl rfl rfl ?_
              refine X_getR (a := 361) rfl rfl rfl ((congrFun V.1 355).trans s_355) rfl ((congrFun (V.2.1 355 (by decide)) 7).trans r_355_7) ?_
              refine X_iload_n rfl rfl rfl rfl ?_
              refine S_iald rfl rfl ((congrFun V.1 361).trans s_361) rfl (by omega) (fun vz30 evz30 => ?_)
              have vf31 := O_361 (V.2.2.2.2.2.2.1 361 ((vz26.toInt : Int).toNat) (Nat.le_of_ble_eq_true rfl))
              rw [evz30] at vf31
              refine LW_goto (tgt := 18) rfl rfl ?_
              refine LW_ireturn (st := []) rfl rfl rfl ?_
              refine X_bipush (v := (111 : Int32)) rfl rfl rfl ?_
              refine S_icmp_ne (tgt := 130) rfl rfl rfl rfl (show (111 : Int32).toInt = 111 from rfl) (fun vh32 => ?_) (fun vh32 => ?_)
              · refine X_iconst (v := (0 : Int32)) rfl rfl rfl ?_
                refine X_istore_n (i := 1) (ls' := [some (.ref 355), some (.int (0 : Int32))]) rfl rfl rfl (Nat.le_of_ble_eq_true rfl) rfl ?_
                refine X_iload_n rfl rfl rfl rfl ?_
                refine S_if_eq (tgt := 203) rfl rfl rfl (show (0 : Int32).toInt = 0 from rfl) (fun vh33 => ?_) (fun q => absurd q (by omega))
                refine X_iconst (v := (-1 : Int32)) rfl rfl rfl ?_
                exact LW_ireturn (st := []) rfl rfl rfl ⟨_, rfl, by decide, by decide, rfl, (by have vkr := (show (-1 : Int32).toInt = -1 from rfl); rw [evz5] <;> omega)⟩
              · refine X_aload_n rfl rfl rfl rfl ?_
                refine X_aload_n rfl rfl rfl rfl ?_
                refine X_getI (v := vz1) rfl rfl rfl ((congrFun V.1 355).trans s_355) rfl evz1 ?_
                refine X_iconst (v := (2 : Int32)) rfl rfl rfl ?_
                refine S_iadd rfl rfl rfl (show (2 : Int32).toInt = 2 from rfl) (by omega) (fun vz34 hvz34 => ?_)
                refine X_callV (as := [.int vz34]) (st := []) rfl rfl rfl (by decide) rfl (Nat.le_of_ble_eq_true rfl) (by decide) (Nat.le_of_ble_eq_true rfl) rfl ((congrFun V.1 355).trans s_355) (by decide) ?_
                refine LW_ls (ls' := [some (.ref 355), some (.int vz34)]) rfl ?_
                refine X_iload_n rfl rfl rfl rfl ?_
                refine X_aload_n rfl rfl rfl rfl ?_
                refine X_getI (v := vz3) rfl rfl rfl ((congrFun V.1 355).trans s_355) rfl evz3 ?_
                refine S_icmp_ge (tgt := 17) rfl rfl rfl rfl rfl (fun vh35 => ?_) (fun vh35 => ?_)
                · refine X_iconst (v := (-1 : Int32)) rfl rfl rfl ?_
                  refine LW_ireturn (st := []) rfl rfl rfl ?_
                  refine X_bipush (v := (110 : Int32)) rfl rfl rfl ?_
                  refine S_icmp_ne (tgt := 130) rfl rfl rfl (show (-1 : Int32).toInt = -1 from rfl) (show (110 : Int32).toInt = 110 from rfl) (fun vh36 => ?_) (fun q => absurd q (by omega))
                  refine X_iconst (v := (0 : Int32)) rfl rfl rfl ?_
                  refine X_istore_n (i := 1) (ls' := [some (.ref 355), some (.int (0 : Int32))]) rfl rfl rfl (Nat.le_of_ble_eq_true rfl) rfl ?_
                  refine X_iload_n rfl rfl rfl rfl ?_
                  refine S_if_eq (tgt := 203) rfl rfl rfl (show (0 : Int32).toInt = 0 from rfl) (fun vh37 => ?_) (fun q => absurd q (by omega))
                  refine X_iconst (v := (-1 : Int32)) rfl rfl rfl ?_
                  exact LW_ireturn (st := []) rfl rfl rfl ⟨_, rfl, by decide, by decide, rfl, (by have vkr := (show (-1 : Int32).toInt = -1 from rfl); rw [evz5] <;> omega)⟩
                · refine X_aload_n rfl rfl rfl rfl ?_
                  refine X_getR (a := 361) rfl rfl rfl ((congrFun V.1 355).trans s_355) rfl ((congrFun (V.2.1 355 (by decide)) 7).trans r_355_7) ?_
                  refine X_iload_n rfl rfl rfl rfl ?_
                  refine S_iald rfl rfl ((congrFun V.1 361).trans s_361) rfl (by omega) (fun vz38 evz38 => ?_)
                  have vf39 := O_361 (V.2.2.2.2.2.2.1 361 ((vz34.toInt : Int).toNat) (Nat.le_of_ble_eq_true rfl))
                  rw [evz38] at vf39
                  refine LW_goto (tgt := 18) rfl rfl ?_
                  refine LW_ireturn (st := []) rfl rfl rfl ?_
                  refine X_bipush (v := (110 : Int32)) rfl rfl rfl ?_
                  refine S_icmp_ne (tgt := 130) rfl rfl rfl rfl (show (110 : Int32).toInt = 110 from rfl) (fun vh40 => ?_) (fun vh40 => ?_)
                  · refine X_iconst (v := (0 : Int32)) rfl rfl rfl ?_
                    refine X_istore_n (i := 1) (ls' := [some (.ref 355), some (.int (0 : Int32))]) rfl rfl rfl (Nat.le_of_ble_eq_true rfl) rfl ?_
                    refine X_iload_n rfl rfl rfl rfl ?_
                    refine S_if_eq (tgt := 203) rfl rfl rfl (show (0 : Int32).toInt = 0 from rfl) (fun vh41 => ?_) (fun q => absurd q (by omega))
                    refine X_iconst (v := (-1 : Int32)) rfl rfl rfl ?_
                    exact LW_ireturn (st := []) rfl rfl rfl ⟨_, rfl, by decide, by decide, rfl, (by have vkr := (show (-1 : Int32).toInt = -1 from rfl); rw [evz5] <;> omega)⟩
                  · refine X_aload_n rfl rfl rfl rfl ?_
                    refine X_aload_n rfl rfl rfl rfl ?_
                    refine X_getI (v := vz1) rfl rfl rfl ((congrFun V.1 355).trans s_355) rfl evz1 ?_
                    refine X_iconst (v := (3 : Int32)) rfl rfl rfl ?_
                    refine S_iadd rfl rfl rfl (show (3 : Int32).toInt = 3 from rfl) (by omega) (fun vz42 hvz42 => ?_)
                    refine X_callV (as := [.int vz42]) (st := []) rfl rfl rfl (by decide) rfl (Nat.le_of_ble_eq_true rfl) (by decide) (Nat.le_of_ble_eq_true rfl) rfl ((congrFun V.1 355).trans s_355) (by decide) ?_
                    refine LW_ls (ls' := [some (.ref 355), some (.int vz42)]) rfl ?_
                    refine X_iload_n rfl rfl rfl rfl ?_
                    refine X_aload_n rfl rfl rfl rfl ?_
                    refine X_getI (v := vz3) rfl rfl rfl ((congrFun V.1 355).trans s_355) rfl evz3 ?_
                    refine S_icmp_ge (tgt := 17) rfl rfl rfl rfl rfl (fun vh43 => ?_) (fun vh43 => ?_)
                    · refine X_iconst (v := (-1 : Int32)) rfl rfl rfl ?_
                      refine LW_ireturn (st := []) rfl rfl rfl ?_
                      refine X_bipush (v := (116 : Int32)) rfl rfl rfl ?_
                      refine S_icmp_ne (tgt := 130) rfl rfl rfl (show (-1 : Int32).toInt = -1 from rfl) (show (116 : Int32).toInt = 116 from rfl) (fun vh44 => ?_) (fun q => absurd q (by omega))
                      refine X_iconst (v := (0 : Int32)) rfl rfl rfl ?_
                      refine X_istore_n (i := 1) (ls' := [some (.ref 355), some (.int (0 : Int32))]) rfl rfl rfl (Nat.le_of_ble_eq_true rfl) rfl ?_
                      refine X_iload_n rfl rfl rfl rfl ?_
                      refine S_if_eq (tgt := 203) rfl rfl rfl (show (0 : Int32).toInt = 0 from rfl) (fun vh45 => ?_) (fun q => absurd q (by omega))
                      refine X_iconst (v := (-1 : Int32)) rfl rfl rfl ?_
                      exact LW_ireturn (st := []) rfl rfl rfl ⟨_, rfl, by decide, by decide, rfl, (by have vkr := (show (-1 : Int32).toInt = -1 from rfl); rw [evz5] <;> omega)⟩
                    · refine X_aload_n rfl rfl rfl rfl ?_
                      refine X_getR (a := 361) rfl rfl rfl ((congrFun V.1 355).trans s_355) rfl ((congrFun (V.2.1 355 (by decide)) 7).trans r_355_7) ?_
                      refine X_iload_n rfl rfl rfl rfl ?_
                      refine S_iald rfl rfl ((congrFun V.1 361).trans s_361) rfl (by omega) (fun vz46 evz46 => ?_)
                      have vf47 := O_361 (V.2.2.2.2.2.2.1 361 ((vz42.toInt : Int).toNat) (Nat.le_of_ble_eq_true rfl))
                      rw [evz46] at vf47
                      refine LW_goto (tgt := 18) rfl rfl ?_
                      refine LW_ireturn (st := []) rfl rfl rfl ?_
                      refine X_bipush (v := (116 : Int32)) rfl rfl rfl ?_
                      refine S_icmp_ne (tgt := 130) rfl rfl rfl rfl (show (116 : Int32).toInt = 116 from rfl) (fun vh48 => ?_) (fun vh48 => ?_)
                      · refine X_iconst (v := (0 : Int32)) rfl rfl rfl ?_
                        refine X_istore_n (i := 1) (ls' := [some (.ref 355), some (.int (0 : Int32))]) rfl rfl rfl (Nat.le_of_ble_eq_true rfl) rfl ?_
                        refine X_iload_n rfl rfl rfl rfl ?_
                        refine S_if_eq (tgt := 203) rfl rfl rfl (show (0 : Int32).toInt = 0 from rfl) (fun vh49 => ?_) (fun q => absurd q (by omega))
                        refine X_iconst (v := (-1 : Int32)) rfl rfl rfl ?_
                        exact LW_ireturn (st := []) rfl rfl rfl ⟨_, rfl, by decide, by decide, rfl, (by have vkr := (show (-1 : Int32).toInt = -1 from rfl); rw [evz5] <;> omega)⟩
                      · refine X_iconst (v := (1 : Int32)) rfl rfl rfl ?_
                        refine LW_goto (tgt := 131) rfl rfl ?_
                        refine X_istore_n (i := 1) (ls' := [some (.ref 355), some (.int (1 : Int32))]) rfl rfl rfl (Nat.le_of_ble_eq_true rfl) rfl ?_
                        refine X_iload_n rfl rfl rfl rfl ?_
                        refine S_if_eq (tgt := 203) rfl rfl rfl (show (1 : Int32).toInt = 1 from rfl) (fun q => absurd q (by omega)) (fun vh50 => ?_)
                        refine X_aload_n rfl rfl rfl rfl ?_
                        refine X_aload_n rfl rfl rfl rfl ?_
                        refine X_getI (v := vz1) rfl rfl rfl ((congrFun V.1 355).trans s_355) rfl evz1 ?_
                        refine X_iconst (v := (4 : Int32)) rfl rfl rfl ?_
                        refine S_iadd rfl rfl rfl (show (4 : Int32).toInt = 4 from rfl) (by omega) (fun vz51 hvz51 => ?_)
                        refine X_callV (as := [.int vz51]) (st := []) rfl rfl rfl (by decide) rfl (Nat.le_of_ble_eq_true rfl) (by decide) (Nat.le_of_ble_eq_true rfl) rfl ((congrFun V.1 355).trans s_355) (by decide) ?_
                        refine LW_ls (ls' := [some (.ref 355), some (.int vz51)]) rfl ?_
                        refine X_iload_n rfl rfl rfl rfl ?_
                        refine X_aload_n rfl rfl rfl rfl ?_
                        refine X_getI (v := vz3) rfl rfl rfl ((congrFun V.1 355).trans s_355) rfl evz3 ?_
                        refine S_icmp_ge (tgt := 17) rfl rfl rfl rfl rfl (fun vh52 => ?_) (fun vh52 => ?_)
                        · refine X_iconst (v := (-1 : Int32)) rfl rfl rfl ?_
                          refine LW_ireturn (st := []) rfl rfl rfl ?_
                          refine X_bipush (v := (114 : Int32)) rfl rfl rfl ?_
                          refine S_icmp_ne (tgt := 203) rfl rfl rfl (show (-1 : Int32).toInt = -1 from rfl) (show (114 : Int32).toInt = 114 from rfl) (fun vh53 => ?_) (fun q => absurd q (by omega))
                          refine X_iconst (v := (-1 : Int32)) rfl rfl rfl ?_
                          exact LW_ireturn (st := []) rfl rfl rfl ⟨_, rfl, by decide, by decide, rfl, (by have vkr := (show (-1 : Int32).toInt = -1 from rfl); rw [evz5] <;> omega)⟩
                        · refine X_aload_n rfl rfl rfl rfl ?_
                          refine X_getR (a := 361) rfl rfl rfl ((congrFun V.1 355).trans s_355) rfl ((congrFun (V.2.1 355 (by decide)) 7).trans r_355_7) ?_
                          refine X_iload_n rfl rfl rfl rfl ?_
                          refine S_iald rfl rfl ((congrFun V.1 361).trans s_361) rfl (by omega) (fun vz54 evz54 => ?_)
                          have vf55 := O_361 (V.2.2.2.2.2.2.1 361 ((vz51.toInt : Int).toNat) (Nat.le_of_ble_eq_true rfl))
                          rw [evz54] at vf55
                          refine LW_goto (tgt := 18) rfl rfl ?_
                          refine LW_ireturn (st := []) rfl rfl rfl ?_
                          refine X_bipush (v := (114 : Int32)) rfl rfl rfl ?_
                          refine S_icmp_ne (tgt := 203) rfl rfl rfl rfl (show (114 : Int32).toInt = 114 from rfl) (fun vh56 => ?_) (fun vh56 => ?_)
                          · refine X_iconst (v := (-1 : Int32)) rfl rfl rfl ?_
                            exact LW_ireturn (st := []) rfl rfl rfl ⟨_, rfl, by decide, by decide, rfl, (by have vkr := (show (-1 : Int32).toInt = -1 from rfl); rw [evz5] <;> omega)⟩
                          · refine X_aload_n rfl rfl rfl rfl ?_
                            refine X_aload_n rfl rfl rfl rfl ?_
                            refine X_getI (v := vz1) rfl rfl rfl ((congrFun V.1 355).trans s_355) rfl evz1 ?_
                            refine X_iconst (v := (5 : Int32)) rfl rfl rfl ?_
                            refine S_iadd rfl rfl rfl (show (5 : Int32).toInt = 5 from rfl) (by omega) (fun vz57 hvz57 => ?_)
                            refine X_callV (as := [.int vz57]) (st := []) rfl rfl rfl (by decide) rfl (Nat.le_of_ble_eq_true rfl) (by decide) (Nat.le_of_ble_eq_true rfl) rfl ((congrFun V.1 355).trans s_355) (by decide) ?_
                            refine LW_ls (ls' := [some (.ref 355), some (.int vz57)]) rfl ?_
                            refine X_iload_n rfl rfl rfl rfl ?_
                            refine X_aload_n rfl rfl rfl rfl ?_
                            refine X_getI (v := vz3) rfl rfl rfl ((congrFun V.1 355).trans s_355) rfl evz3 ?_
                            refine S_icmp_ge (tgt := 17) rfl rfl rfl rfl rfl (fun vh58 => ?_) (fun vh58 => ?_)
                            · refine X_iconst (v := (-1 : Int32)) rfl rfl rfl ?_
                              refine LW_ireturn (st := []) rfl rfl rfl ?_
                              refine X_bipush (v := (97 : Int32)) rfl rfl rfl ?_
                              refine S_icmp_ne (tgt := 203) rfl rfl rfl (show (-1 : Int32).toInt = -1 from rfl) (show (97 : Int32).toInt = 97 from rfl) (fun vh59 => ?_) (fun q => absurd q (by omega))
                              refine X_iconst (v := (-1 : Int32)) rfl rfl rfl ?_
                              exact LW_ireturn (st := []) rfl rfl rfl ⟨_, rfl, by decide, by decide, rfl, (by have vkr := (show (-1 : Int32).toInt = -1 from rfl); rw [evz5] <;> omega)⟩
                            · refine X_aload_n rfl rfl rfl rfl ?_
                              refine X_getR (a := 361) rfl rfl rfl ((congrFun V.1 355).trans s_355) rfl ((congrFun (V.2.1 355 (by decide)) 7).trans r_355_7) ?_
                              refine X_iload_n rfl rfl rfl rfl ?_
                              refine S_iald rfl rfl ((congrFun V.1 361).trans s_361) rfl (by omega) (fun vz60 evz60 => ?_)
                              have vf61 := O_361 (V.2.2.2.2.2.2.1 361 ((vz57.toInt : Int).toNat) (Nat.le_of_ble_eq_true rfl))
                              rw [evz60] at vf61
                              refine LW_goto (tgt := 18) rfl rfl ?_
                              refine LW_ireturn (st := []) rfl rfl rfl ?_
                              refine X_bipush (v := (97 : Int32)) rfl rfl rfl ?_
                              refine S_icmp_ne (tgt := 203) rfl rfl rfl rfl (show (97 : Int32).toInt = 97 from rfl) (fun vh62 => ?_) (fun vh62 => ?_)
                              · refine X_iconst (v := (-1 : Int32)) rfl rfl rfl ?_
                                exact LW_ireturn (st := []) rfl rfl rfl ⟨_, rfl, by decide, by decide, rfl, (by have vkr := (show (-1 : Int32).toInt = -1 from rfl); rw [evz5] <;> omega)⟩
                              · refine X_aload_n rfl rfl rfl rfl ?_
                                refine X_aload_n rfl rfl rfl rfl ?_
                                refine X_getI (v := vz1) rfl rfl rfl ((congrFun V.1 355).trans s_355) rfl evz1 ?_
                                refine X_bipush (v := (6 : Int32)) rfl rfl rfl ?_
                                refine S_iadd rfl rfl rfl (show (6 : Int32).toInt = 6 from rfl) (by omega) (fun vz63 hvz63 => ?_)
                                refine X_callV (as := [.int vz63]) (st := []) rfl rfl rfl (by decide) rfl (Nat.le_of_ble_eq_true rfl) (by decide) (Nat.le_of_ble_eq_true rfl) rfl ((congrFun V.1 355).trans s_355) (by decide) ?_
                                refine LW_ls (ls' := [some (.ref 355), some (.int vz63)]) rfl ?_
                                refine X_iload_n rfl rfl rfl rfl ?_
                                refine X_aload_n rfl rfl rfl rfl ?_
                                refine X_getI (v := vz3) rfl rfl rfl ((congrFun V.1 355).trans s_355) rfl evz3 ?_
                                refine S_icmp_ge (tgt := 17) rfl rfl rfl rfl rfl (fun vh64 => ?_) (fun vh64 => ?_)
                                · refine X_iconst (v := (-1 : Int32)) rfl rfl rfl ?_
                                  refine LW_ireturn (st := []) rfl rfl rfl ?_
                                  refine X_bipush (v := (99 : Int32)) rfl rfl rfl ?_
                                  refine S_icmp_ne (tgt := 203) rfl rfl rfl (show (-1 : Int32).toInt = -1 from rfl) (show (99 : Int32).toInt = 99 from rfl) (fun vh65 => ?_) (fun q => absurd q (by omega))
                                  refine X_iconst (v := (-1 : Int32)) rfl rfl rfl ?_
                                  exact LW_ireturn (st := []) rfl rfl rfl ⟨_, rfl, by decide, by decide, rfl, (by have vkr := (show (-1 : Int32).toInt = -1 from rfl); rw [evz5] <;> omega)⟩
                                · refine X_aload_n rfl rfl rfl rfl ?_
                                  refine X_getR (a := 361) rfl rfl rfl ((congrFun V.1 355).trans s_355) rfl ((congrFun (V.2.1 355 (by decide)) 7).trans r_355_7) ?_
                                  refine X_iload_n rfl rfl rfl rfl ?_
                                  refine S_iald rfl rfl ((congrFun V.1 361).trans s_361) rfl (by omega) (fun vz66 evz66 => ?_)
                                  have vf67 := O_361 (V.2.2.2.2.2.2.1 361 ((vz63.toInt : Int).toNat) (Nat.le_of_ble_eq_true rfl))
                                  rw [evz66] at vf67
                                  refine LW_goto (tgt := 18) rfl rfl ?_
                                  refine LW_ireturn (st := []) rfl rfl rfl ?_
                                  refine X_bipush (v := (99 : Int32)) rfl rfl rfl ?_
                                  refine S_icmp_ne (tgt := 203) rfl rfl rfl rfl (show (99 : Int32).toInt = 99 from rfl) (fun vh68 => ?_) (fun vh68 => ?_)
                                  · refine X_iconst (v := (-1 : Int32)) rfl rfl rfl ?_
                                    exact LW_ireturn (st := []) rfl rfl rfl ⟨_, rfl, by decide, by decide, rfl, (by have vkr := (show (-1 : Int32).toInt = -1 from rfl); rw [evz5] <;> omega)⟩
                                  · refine X_aload_n rfl rfl rfl rfl ?_
                                    refine X_aload_n rfl rfl rfl rfl ?_
                                    refine X_getI (v := vz1) rfl rfl rfl ((congrFun V.1 355).trans s_355) rfl evz1 ?_
                                    refine X_bipush (v := (7 : Int32)) rfl rfl rfl ?_
                                    refine S_iadd rfl rfl rfl (show (7 : Int32).toInt = 7 from rfl) (by omega) (fun vz69 hvz69 => ?_)
                                    refine X_callV (as := [.int vz69]) (st := []) rfl rfl rfl (by decide) rfl (Nat.le_of_ble_eq_true rfl) (by decide) (Nat.le_of_ble_eq_true rfl) rfl ((congrFun V.1 355).trans s_355) (by decide) ?_
                                    refine LW_ls (ls' := [some (.ref 355), some (.int vz69)]) rfl ?_
                                    refine X_iload_n rfl rfl rfl rfl ?_
                                    refine X_aload_n rfl rfl rfl rfl ?_
                                    refine X_getI (v := vz3) rfl rfl rfl ((congrFun V.1 355).trans s_355) rfl evz3 ?_
                                    refine S_icmp_ge (tgt := 17) rfl rfl rfl rfl rfl (fun vh70 => ?_) (fun vh70 => ?_)
                                    · refine X_iconst (v := (-1 : Int32)) rfl rfl rfl ?_
                                      refine LW_ireturn (st := []) rfl rfl rfl ?_
                                      refine X_bipush (v := (116 : Int32)) rfl rfl rfl ?_
                                      refine S_icmp_ne (tgt := 203) rfl rfl rfl (show (-1 : Int32).toInt = -1 from rfl) (show (116 : Int32).toInt = 116 from rfl) (fun vh71 => ?_) (fun q => absurd q (by omega))
                                      refine X_iconst (v := (-1 : Int32)) rfl rfl rfl ?_
                                      exact LW_ireturn (st := []) rfl rfl rfl ⟨_, rfl, by decide, by decide, rfl, (by have vkr := (show (-1 : Int32).toInt = -1 from rfl); rw [evz5] <;> omega)⟩
                                    · refine X_aload_n rfl rfl rfl rfl ?_
                                      refine X_getR (a := 361) rfl rfl rfl ((congrFun V.1 355).trans s_355) rfl ((congrFun (V.2.1 355 (by decide)) 7).trans r_355_7) ?_
                                      refine X_iload_n rfl rfl rfl rfl ?_
                                      refine S_iald rfl rfl ((congrFun V.1 361).trans s_361) rfl (by omega) (fun vz72 evz72 => ?_)
                                      have vf73 := O_361 (V.2.2.2.2.2.2.1 361 ((vz69.toInt : Int).toNat) (Nat.le_of_ble_eq_true rfl))
                                      rw [evz72] at vf73
                                      refine LW_goto (tgt := 18) rfl rfl ?_
                                      refine LW_ireturn (st := []) rfl rfl rfl ?_
                                      refine X_bipush (v := (116 : Int32)) rfl rfl rfl ?_
                                      refine S_icmp_ne (tgt := 203) rfl rfl rfl rfl (show (116 : Int32).toInt = 116 from rfl) (fun vh74 => ?_) (fun vh74 => ?_)
                                      · refine X_iconst (v := (-1 : Int32)) rfl rfl rfl ?_
                                        exact LW_ireturn (st := []) rfl rfl rfl ⟨_, rfl, by decide, by decide, rfl, (by have vkr := (show (-1 : Int32).toInt = -1 from rfl); rw [evz5] <;> omega)⟩
                                      · refine X_bipush (v := (11 : Int32)) rfl rfl rfl ?_
                                        refine LW_goto (tgt := 204) rfl rfl ?_
                                        exact LW_ireturn (st := []) rfl rfl rfl ⟨_, rfl, by decide, by decide, rfl, (by have vkr := (show (11 : Int32).toInt = 11 from rfl); rw [evz5] <;> omega)⟩
    · refine X_bipush (v := (12 : Int32)) rfl rfl rfl ?_
      exact LW_ireturn (st := []) rfl rfl rfl ⟨_, rfl, by decide, by decide, rfl, (by have vkr := (show (12 : Int32).toInt = 12 from rfl); rw [evz5] <;> omega)⟩
  · refine X_iconst (v := (-1 : Int32)) rfl rfl rfl ?_
    exact LW_ireturn (st := []) rfl rfl rfl ⟨_, rfl, by decide, by decide, rfl, (by have vkr := (show (-1 : Int32).toInt = -1 from rfl); rw [evz5] <;> omega)⟩
set_option maxRecDepth 10000 in
set_option maxHeartbeats 40000000 in
theorem C_X13_sortOf {P : Par} {g : LH} {d : Nat}  (V : InvR P g)  (hq0 : 0 ≤ (Gi g 355 12).toInt) (hq1 : (Gi g 355 12).toInt ≤ (Gi g 355 11).toInt) (hq2 : (Gi g 355 11).toInt ≤ (Gi g 355 8).toInt) (hq3 : (Gi g 355 8).toInt ≤ 300)  : LW 221 (d + 20) 0 0 0 (lEnt (mL 221) [.ref 355]) [] g (fun v g' => ∃ r : Int32, v = some (.int r) ∧ (-1) ≤ r.toInt ∧ r.toInt ≤ 12 ∧ g = g' ∧ (r.toInt < 0 ∨ (Gi g' 355 13).toInt = 2)) := by
  refine LW_ls (ls' := [some (.ref 355)]) rfl ?_
  obtain ⟨vz1, evz1⟩ : ∃ z, Gi g 355 12 = z := ⟨_, rfl⟩
  rw [evz1] at hq0
  rw [evz1] at hq1
  obtain ⟨vz2, evz2⟩ : ∃ z, Gi g 355 11 = z := ⟨_, rfl⟩
  rw [evz2] at hq1
  rw [evz2] at hq2
  obtain ⟨vz3, evz3⟩ : ∃ z, Gi g 355 8 = z := ⟨_, rfl⟩
  have vf4 := O_355_8 (V.2.2.2.2.2.2.1 355 (8) (Nat.le_of_ble_eq_true rfl))
  rw [evz3] at vf4
  rw [evz3] at hq2
  rw [evz3] at hq3
  refine X_aload_n rfl rfl rfl rfl ?_
  refine X_bipush (v := (106 : Int32)) rfl rfl rfl ?_
  refine X_bipush (v := (111 : Int32)) rfl rfl rfl ?_
  refine X_bipush (v := (105 : Int32)) rfl rfl rfl ?_
  refine X_bipush (v := (110 : Int32)) rfl rfl rfl ?_
  refine X_bipush (v := (115 : Int32)) rfl rfl rfl ?_
  refine Y_callS (as := [.int (106 : Int32), .int (111 : Int32), .int (105 : Int32), .int (110 : Int32), .int (115 : Int32)]) (st := [.ref 355]) rfl rfl rfl (by decide) rfl (Nat.le_of_ble_eq_true rfl) (by decide) (Nat.le_of_ble_eq_true rfl) rfl (C_X13_w5 V (106 : Int32) 106 (show (106 : Int32).toInt = 106 from rfl) (111 : Int32) 111 (show (111 : Int32).toInt = 111 from rfl) (105 : Int32) 105 (show (105 : Int32).toInt = 105 from rfl) (110 : Int32) 110 (show (110 : Int32).toInt = 110 from rfl) (115 : Int32) 115 (show (115 : Int32).toInt = 115 from rfl) ) ?_
  rintro _ g' ⟨vr5, rfl, hgg⟩
  subst hgg
  refine Y_callV (as := [.long vr5]) (st := []) rfl rfl rfl (by decide) rfl (Nat.le_of_ble_eq_true rfl) (by decide) (Nat.le_of_ble_eq_true rfl) rfl ((congrFun V.1 355).trans s_355) (by decide) (C_X13_isWord V vr5 ) ?_
  rintro _ g' ⟨vr6, rfl, hrvr60, hrvr61, hgg, vq7⟩
  subst hgg
  refine S_if_eq (tgt := 22) rfl rfl rfl rfl (fun vh8 => ?_) (fun vh8 => ?_)
  · refine X_aload_n rfl rfl rfl rfl ?_
    refine X_bipush (v := (114 : Int32)) rfl rfl rfl ?_
    refine X_bipush (v := (101 : Int32)) rfl rfl rfl ?_
    refine X_bipush (v := (116 : Int32)) rfl rfl rfl ?_
    refine Y_callS (as := [.int (114 : Int32), .int (101 : Int32), .int (116 : Int32)]) (st := [.ref 355]) rfl rfl rfl (by decide) rfl (Nat.le_of_ble_eq_true rfl) (by decide) (Nat.le_of_ble_eq_true rfl) rfl (C_X13_w3 V (114 : Int32) 114 (show (114 : Int32).toInt = 114 from rfl) (101 : Int32) 101 (show (101 : Int32).toInt = 101 from rfl) (116 : Int32) 116 (show (116 : Int32).toInt = 116 from rfl) ) ?_
    rintro _ g' ⟨vr9, rfl, hgg⟩
    subst hgg
    refine X_bipush (v := (32 : Int32)) rfl rfl rfl ?_
    refine S_lshlT rfl rfl (fun vz10 => ?_)
    refine X_bipush (v := (117 : Int32)) rfl rfl rfl ?_
    refine X_bipush (v := (114 : Int32)) rfl rfl rfl ?_
    refine X_bipush (v := (110 : Int32)) rfl rfl rfl ?_
    refine X_bipush (v := (115 : Int32)) rfl rfl rfl ?_
    refine Y_callS (as := [.int (117 : Int32), .int (114 : Int32), .int (110 : Int32), .int (115 : Int32)]) (st := [.long vz10, .ref 355]) rfl rfl rfl (by decide) rfl (Nat.le_of_ble_eq_true rfl) (by decide) (Nat.le_of_ble_eq_true rfl) rfl (C_X13_w4 V (117 : Int32) 117 (show (117 : Int32).toInt = 117 from rfl) (114 : Int32) 114 (show (114 : Int32).toInt = 114 from rfl) (110 : Int32) 110 (show (110 : Int32).toInt = 110 from rfl) (115 : Int32) 115 (show (115 : Int32).toInt = 115 from rfl) ) ?_
    rintro _ g' ⟨vr11, rfl, hgg⟩
    subst hgg
    refine S_lorT rfl rfl (fun vz12 => ?_)
    refine Y_callV (as := [.long vz12]) (st := []) rfl rfl rfl (by decide) rfl (Nat.le_of_ble_eq_true rfl) (by decide) (Nat.le_of_ble_eq_true rfl) rfl ((congrFun V.1 355).trans s_355) (by decide) (C_X13_isWord V vz12 ) ?_
    rintro _ g' ⟨vr13, rfl, hrvr130, hrvr131, hgg, vq14⟩
    subst hgg
    refine S_if_eq (tgt := 55) rfl rfl rfl rfl (fun vh15 => ?_) (fun vh15 => ?_)
    · refine X_aload_n rfl rfl rfl rfl ?_
      refine X_bipush (v := (112 : Int32)) rfl rfl rfl ?_
      refine X_bipush (v := (114 : Int32)) rfl rfl rfl ?_
      refine X_bipush (v := (105 : Int32)) rfl rfl rfl ?_
      refine X_bipush (v := (99 : Int32)) rfl rfl rfl ?_
      refine X_bipush (v := (101 : Int32)) rfl rfl rfl ?_
      refine Y_callS (as := [.int (112 : Int32), .int (114 : Int32), .int (105 : Int32), .int (99 : Int32), .int (101 : Int32)]) (st := [.ref 355]) rfl rfl rfl (by decide) rfl (Nat.le_of_ble_eq_true rfl) (by decide) (Nat.le_of_ble_eq_true rfl) rfl (C_X13_w5 V (112 : Int32) 112 (show (112 : Int32).toInt = 112 from rfl) (114 : Int32) 114 (show (114 : Int32).toInt = 114 from rfl) (105 : Int32) 105 (show (105 : Int32).toInt = 105 from rfl) (99 : Int32) 99 (show (99 : Int32).toInt = 99 from rfl) (101 : Int32) 101 (show (101 : Int32).toInt = 101 from rfl) ) ?_
      rintro _ g' ⟨vr16, rfl, hgg⟩
      subst hgg
      refine Y_callV (as := [.long vr16]) (st := []) rfl rfl rfl (by decide) rfl (Nat.le_of_ble_eq_true rfl) (by decide) (Nat.le_of_ble_eq_true rfl) rfl ((congrFun V.1 355).trans s_355) (by decide) (C_X13_isWord V vr16 ) ?_
      rintro _ g' ⟨vr17, rfl, hrvr170, hrvr171, hgg, vq18⟩
      subst hgg
      refine S_if_eq (tgt := 77) rfl rfl rfl rfl (fun vh19 => ?_) (fun vh19 => ?_)
      · refine X_aload_n rfl rfl rfl rfl ?_
        refine X_bipush (v := (98 : Int32)) rfl rfl rfl ?_
        refine X_bipush (v := (105 : Int32)) rfl rfl rfl ?_
        refine X_bipush (v := (110 : Int32)) rfl rfl rfl ?_
        refine X_bipush (v := (100 : Int32)) rfl rfl rfl ?_
        refine X_bipush (v := (115 : Int32)) rfl rfl rfl ?_
        refine Y_callS (as := [.int (98 : Int32), .int (105 : Int32), .int (110 : Int32), .int (100 : Int32), .int (115 : Int32)]) (st := [.ref 355]) rfl rfl rfl (by decide) rfl (Nat.le_of_ble_eq_true rfl) (by decide) (Nat.le_of_ble_eq_true rfl) rfl (C_X13_w5 V (98 : Int32) 98 (show (98 : Int32).toInt = 98 from rfl) (105 : Int32) 105 (show (105 : Int32).toInt = 105 from rfl) (110 : Int32) 110 (show (110 : Int32).toInt = 110 from rfl) (100 : Int32) 100 (show (100 : Int32).toInt = 100 from rfl) (115 : Int32) 115 (show (115 : Int32).toInt = 115 from rfl) ) ?_
        rintro _ g' ⟨vr20, rfl, hgg⟩
        subst hgg
        refine Y_callV (as := [.long vr20]) (st := []) rfl rfl rfl (by decide) rfl (Nat.le_of_ble_eq_true rfl) (by decide) (Nat.le_of_ble_eq_true rfl) rfl ((congrFun V.1 355).trans s_355) (by decide) (C_X13_isWord V vr20 ) ?_
        rintro _ g' ⟨vr21, rfl, hrvr210, hrvr211, hgg, vq22⟩
        subst hgg
        refine S_if_eq (tgt := 99) rfl rfl rfl rfl (fun vh23 => ?_) (fun vh23 => ?_)
        · refine X_aload_n rfl rfl rfl rfl ?_
          refine X_bipush (v := (119 : Int32)) rfl rfl rfl ?_
          refine X_bipush (v := (111 : Int32)) rfl rfl rfl ?_
          refine X_bipush (v := (114 : Int32)) rfl rfl rfl ?_
          refine X_bipush (v := (100 : Int32)) rfl rfl rfl ?_
          refine Y_callS (as := [.int (119 : Int32), .int (111 : Int32), .int (114 : Int32), .int (100 : Int32)]) (st := [.ref 355]) rfl rfl rfl (by decide) rfl (Nat.le_of_ble_eq_true rfl) (by decide) (Nat.le_of_ble_eq_true rfl) rfl (C_X13_w4 V (119 : Int32) 119 (show (119 : Int32).toInt = 119 from rfl) (111 : Int32) 111 (show (111 : Int32).toInt = 111 from rfl) (114 : Int32) 114 (show (114 : Int32).toInt = 114 from rfl) (100 : Int32) 100 (show (100 : Int32).toInt = 100 from rfl) ) ?_
          rintro _ g' ⟨vr24, rfl, hgg⟩
          subst hgg
          refine Y_callV (as := [.long vr24]) (st := []) rfl rfl rfl (by decide) rfl (Nat.le_of_ble_eq_true rfl) (by decide) (Nat.le_of_ble_eq_true rfl) rfl ((congrFun V.1 355).trans s_355) (by decide) (C_X13_isWord V vr24 ) ?_
          rintro _ g' ⟨vr25, rfl, hrvr250, hrvr251, hgg, vq26⟩
          subst hgg
          refine S_if_eq (tgt := 119) rfl rfl rfl rfl (fun vh27 => ?_) (fun vh27 => ?_)
          · refine X_aload_n rfl rfl rfl rfl ?_
            refine X_bipush (v := (115 : Int32)) rfl rfl rfl ?_
            refine X_bipush (v := (97 : Int32)) rfl rfl rfl ?_
            refine X_bipush (v := (121 : Int32)) rfl rfl rfl ?_
            refine Y_callS (as := [.int (115 : Int32), .int (97 : Int32), .int (121 : Int32)]) (st := [.ref 355]) rfl rfl rfl (by decide) rfl (Nat.le_of_ble_eq_true rfl) (by decide) (Nat.le_of_ble_eq_true rfl) rfl (C_X13_w3 V (115 : Int32) 115 (show (115 : Int32).toInt = 115 from rfl) (97 : Int32) 97 (show (97 : Int32).toInt = 97 from rfl) (121 : Int32) 121 (show (121 : Int32).toInt = 121 from rfl) ) ?_
            rintro _ g' ⟨vr28, rfl, hgg⟩
            subst hgg
            refine Y_callV (as := [.long vr28]) (st := []) rfl rfl rfl (by decide) rfl (Nat.le_of_ble_eq_true rfl) (by decide) (Nat.le_of_ble_eq_true rfl) rfl ((congrFun V.1 355).trans s_355) (by decide) (C_X13_isWord V vr28 ) ?_
            rintro _ g' ⟨vr29, rfl, hrvr290, hrvr291, hgg, vq30⟩
            subst hgg
            refine S_if_eq (tgt := 137) rfl rfl rfl rfl (fun vh31 => ?_) (fun vh31 => ?_)
            · refine X_aload_n rfl rfl rfl rfl ?_
              refine X_bipush (v := (116 : Int32)) rfl rfl rfl ?_
              refine X_bipush (v := (105 : Int32)) rfl rfl rfl ?_
              refine X_bipush (v := (101 : Int32)) rfl rfl rfl ?_
              refine Y_callS (as := [.int (116 : Int32), .int (105 : Int32), .int (101 : Int32)]) (st := [.ref 355]) rfl rfl rfl (by decide) rfl (Nat.le_of_ble_eq_true rfl) (by decide) (Nat.le_of_ble_eq_true rfl) rfl (C_X13_w3 V (116 : Int32) 116 (show (116 : Int32).toInt = 116 from rfl) (105 : Int32) 105 (show (105 : Int32).toInt = 105 from rfl) (101 : Int32) 101 (show (101 : Int32).toInt = 101 from rfl) ) ?_
              rintro _ g' ⟨vr32, rfl, hgg⟩
              subst hgg
              refine Y_callV (as := [.long vr32]) (st := []) rfl rfl rfl (by decide) rfl (Nat.le_of_ble_eq_true rfl) (by decide) (Nat.le_of_ble_eq_true rfl) rfl ((congrFun V.1 355).trans s_355) (by decide) (C_X13_isWord V vr32 ) ?_
              rintro _ g' ⟨vr33, rfl, hrvr330, hrvr331, hgg, vq34⟩
              subst hgg
              refine S_if_eq (tgt := 156) rfl rfl rfl rfl (fun vh35 => ?_) (fun vh35 => ?_)
              · refine X_aload_n rfl rfl rfl rfl ?_
                refine X_bipush (v := (115 : Int32)) rfl rfl rfl ?_
                refine X_bipush (v := (116 : Int32)) rfl rfl rfl ?_
                refine X_bipush (v := (114 : Int32)) rfl rfl rfl ?_
                refine X_bipush (v := (105 : Int32)) rfl rfl rfl ?_
                refine X_bipush (v := (107 : Int32)) rfl rfl rfl ?_
                refine X_bipush (v := (101 : Int32)) rfl rfl rfl ?_
                refine Y_callS (as := [.int (115 : Int32), .int (116 : Int32), .int (114 : Int32), .int (105 : Int32), .int (107 : Int32), .int (101 : Int32)]) (st := [.ref 355]) rfl rfl rfl (by decide) rfl (Nat.le_of_ble_eq_true rfl) (by decide) (Nat.le_of_ble_eq_true rfl) rfl (C_X13_w6 V (115 : Int32) 115 (show (115 : Int32).toInt = 115 from rfl) (116 : Int32) 116 (show (116 : Int32).toInt = 116 from rfl) (114 : Int32) 114 (show (114 : Int32).toInt = 114 from rfl) (105 : Int32) 105 (show (105 : Int32).toInt = 105 from rfl) (107 : Int32) 107 (show (107 : Int32).toInt = 107 from rfl) (101 : Int32) 101 (show (101 : Int32).toInt = 101 from rfl) ) ?_
                rintro _ g' ⟨vr36, rfl, hgg⟩
                subst hgg
                refine Y_callV (as := [.long vr36]) (st := []) rfl rfl rfl (by decide) rfl (Nat.le_of_ble_eq_true rfl) (by decide) (Nat.le_of_ble_eq_true rfl) rfl ((congrFun V.1 355).trans s_355) (by decide) (C_X13_isWord V vr36 ) ?_
                rintro _ g' ⟨vr37, rfl, hrvr370, hrvr371, hgg, vq38⟩
                subst hgg
                refine S_if_eq (tgt := 181) rfl rfl rfl rfl (fun vh39 => ?_) (fun vh39 => ?_)
                · refine X_aload_n rfl rfl rfl rfl ?_
                  refine X_bipush (v := (98 : Int32)) rfl rfl rfl ?_
                  refine X_bipush (v := (97 : Int32)) rfl rfl rfl ?_
                  refine X_bipush (v := (99 : Int32)) rfl rfl rfl ?_
                  refine X_bipush (v := (107 : Int32)) rfl rfl rfl ?_
                  refine Y_callS (as := [.int (98 : Int32), .int (97 : Int32), .int (99 : Int32), .int (107 : Int32)]) (st := [.ref 355]) rfl rfl rfl (by decide) rfl (Nat.le_of_ble_eq_true rfl) (by decide) (Nat.le_of_ble_eq_true rfl) rfl (C_X13_w4 V (98 : Int32) 98 (show (98 : Int32).toInt = 98 from rfl) (97 : Int32) 97 (show (97 : Int32).toInt = 97 from rfl) (99 : Int32) 99 (show (99 : Int32).toInt = 99 from rfl) (107 : Int32) 107 (show (107 : Int32).toInt = 107 from rfl) ) ?_
                  rintro _ g' ⟨vr40, rfl, hgg⟩
                  subst hgg
                  refine Y_callV (as := [.long vr40]) (st := []) rfl rfl rfl (by decide) rfl (Nat.le_of_ble_eq_true rfl) (by decide) (Nat.le_of_ble_eq_true rfl) rfl ((congrFun V.1 355).trans s_355) (by decide) (C_X13_isWord V vr40 ) ?_
                  rintro _ g' ⟨vr41, rfl, hrvr410, hrvr411, hgg, vq42⟩
                  subst hgg
                  refine S_if_eq (tgt := 202) rfl rfl rfl rfl (fun vh43 => ?_) (fun vh43 => ?_)
                  · refine X_aload_n rfl rfl rfl rfl ?_
                    refine X_bipush (v := (114 : Int32)) rfl rfl rfl ?_
                    refine X_bipush (v := (97 : Int32)) rfl rfl rfl ?_
                    refine X_bipush (v := (105 : Int32)) rfl rfl rfl ?_
                    refine X_bipush (v := (115 : Int32)) rfl rfl rfl ?_
                    refine X_bipush (v := (101 : Int32)) rfl rfl rfl ?_
                    refine Y_callS (as := [.int (114 : Int32), .int (97 : Int32), .int (105 : Int32), .int (115 : Int32), .int (101 : Int32)]) (st := [.ref 355]) rfl rfl rfl (by decide) rfl (Nat.le_of_ble_eq_true rfl) (by decide) (Nat.le_of_ble_eq_true rfl) rfl (C_X13_w5 V (114 : Int32) 114 (show (114 : Int32).toInt = 114 from rfl) (97 : Int32) 97 (show (97 : Int32).toInt = 97 from rfl) (105 : Int32) 105 (show (105 : Int32).toInt = 105 from rfl) (115 : Int32) 115 (show (115 : Int32).toInt = 115 from rfl) (101 : Int32) 101 (show (101 : Int32).toInt = 101 from rfl) ) ?_
                    rintro _ g' ⟨vr44, rfl, hgg⟩
                    subst hgg
                    refine Y_callV (as := [.long vr44]) (st := []) rfl rfl rfl (by decide) rfl (Nat.le_of_ble_eq_true rfl) (by decide) (Nat.le_of_ble_eq_true rfl) rfl ((congrFun V.1 355).trans s_355) (by decide) (C_X13_isWord V vr44 ) ?_
                    rintro _ g' ⟨vr45, rfl, hrvr450, hrvr451, hgg, vq46⟩
                    subst hgg
                    refine S_if_eq (tgt := 225) rfl rfl rfl rfl (fun vh47 => ?_) (fun vh47 => ?_)
                    · refine X_aload_n rfl rfl rfl rfl ?_
                      refine X_bipush (v := (115 : Int32)) rfl rfl rfl ?_
                      refine X_bipush (v := (105 : Int32)) rfl rfl rfl ?_
                      refine X_bipush (v := (103 : Int32)) rfl rfl rfl ?_
                      refine X_bipush (v := (110 : Int32)) rfl rfl rfl ?_
                      refine Y_callS (as := [.int (115 : Int32), .int (105 : Int32), .int (103 : Int32), .int (110 : Int32)]) (st := [.ref 355]) rfl rfl rfl (by decide) rfl (Nat.le_of_ble_eq_true rfl) (by decide) (Nat.le_of_ble_eq_true rfl) rfl (C_X13_w4 V (115 : Int32) 115 (show (115 : Int32).toInt = 115 from rfl) (105 : Int32) 105 (show (105 : Int32).toInt = 105 from rfl) (103 : Int32) 103 (show (103 : Int32).toInt = 103 from rfl) (110 : Int32) 110 (show (110 : Int32).toInt = 110 from rfl) ) ?_
                      rintro _ g' ⟨vr48, rfl, hgg⟩
                      subst hgg
                      refine Y_callV (as := [.long vr48]) (st := []) rfl rfl rfl (by decide) rfl (Nat.le_of_ble_eq_true rfl) (by decide) (Nat.le_of_ble_eq_true rfl) rfl ((congrFun V.1 355).trans s_355) (by decide) (C_X13_isWord V vr48 ) ?_
                      rintro _ g' ⟨vr49, rfl, hrvr490, hrvr491, hgg, vq50⟩
                      subst hgg
                      refine S_if_eq (tgt := 248) rfl rfl rfl rfl (fun vh51 => ?_) (fun vh51 => ?_)
                      · refine X_aload_n rfl rfl rfl rfl ?_
                        refine Y_callV (as := []) (st := []) rfl rfl rfl (by decide) rfl (Nat.le_of_ble_eq_true rfl) (by decide) (Nat.le_of_ble_eq_true rfl) rfl ((congrFun V.1 355).trans s_355) (by decide) (C_X13_isAct V  (by rw [evz1] <;> omega) (by rw [evz1, evz2] <;> omega) (by rw [evz2, evz3] <;> omega) (by rw [evz3] <;> omega)) ?_
                        rintro _ g' ⟨vr52, rfl, hrvr520, hrvr521, hgg, vq53⟩
                        subst hgg
                        have hr := (rfl : vr52.toInt = vr52.toInt)
                        exact LW_ireturn (st := []) rfl rfl rfl ⟨_, rfl, by omega, by omega, rfl, (by omega)⟩
                      · refine X_bipush (v := (10 : Int32)) rfl rfl rfl ?_
                        refine LW_goto (tgt := 252) rfl rfl ?_
                        exact LW_ireturn (st := []) rfl rfl rfl ⟨_, rfl, by decide, by decide, rfl, (by have vkr := (show (10 : Int32).toInt = 10 from rfl); omega)⟩
                    · refine X_bipush (v := (9 : Int32)) rfl rfl rfl ?_
                      exact LW_ireturn (st := []) rfl rfl rfl ⟨_, rfl, by decide, by decide, rfl, (by have vkr := (show (9 : Int32).toInt = 9 from rfl); omega)⟩
                  · refine X_bipush (v := (8 : Int32)) rfl rfl rfl ?_
                    exact LW_ireturn (st := []) rfl rfl rfl ⟨_, rfl, by decide, by decide, rfl, (by have vkr := (show (8 : Int32).toInt = 8 from rfl); omega)⟩
                · refine X_bipush (v := (7 : Int32)) rfl rfl rfl ?_
                  exact LW_ireturn (st := []) rfl rfl rfl ⟨_, rfl, by decide, by decide, rfl, (by have vkr := (show (7 : Int32).toInt = 7 from rfl); omega)⟩
              · refine X_bipush (v := (6 : Int32)) rfl rfl rfl ?_
                exact LW_ireturn (st := []) rfl rfl rfl ⟨_, rfl, by decide, by decide, rfl, (by have vkr := (show (6 : Int32).toInt = 6 from rfl); omega)⟩
            · refine X_iconst (v := (5 : Int32)) rfl rfl rfl ?_
              exact LW_ireturn (st := []) rfl rfl rfl ⟨_, rfl, by decide, by decide, rfl, (by have vkr := (show (5 : Int32).toInt = 5 from rfl); omega)⟩
          · refine X_iconst (v := (4 : Int32)) rfl rfl rfl ?_
            exact LW_ireturn (st := []) rfl rfl rfl ⟨_, rfl, by decide, by decide, rfl, (by have vkr := (show (4 : Int32).toInt = 4 from rfl); omega)⟩
        · refine X_iconst (v := (3 : Int32)) rfl rfl rfl ?_
          exact LW_ireturn (st := []) rfl rfl rfl ⟨_, rfl, by decide, by decide, rfl, (by have vkr := (show (3 : Int32).toInt = 3 from rfl); omega)⟩
      · refine X_iconst (v := (2 : Int32)) rfl rfl rfl ?_
        exact LW_ireturn (st := []) rfl rfl rfl ⟨_, rfl, by decide, by decide, rfl, (by have vkr := (show (2 : Int32).toInt = 2 from rfl); omega)⟩
    · refine X_iconst (v := (1 : Int32)) rfl rfl rfl ?_
      exact LW_ireturn (st := []) rfl rfl rfl ⟨_, rfl, by decide, by decide, rfl, (by have vkr := (show (1 : Int32).toInt = 1 from rfl); omega)⟩
  · refine X_iconst (v := (0 : Int32)) rfl rfl rfl ?_
    exact LW_ireturn (st := []) rfl rfl rfl ⟨_, rfl, by decide, by decide, rfl, (by have vkr := (show (0 : Int32).toInt = 0 from rfl); omega)⟩
