/-! the reference's methods: each returns and keeps what every state keeps -/
set_option maxRecDepth 10000 in
set_option maxHeartbeats 40000000 in
theorem C_X13_strike {P : Par} {g : LH} {d : Nat}  (V : InvR P g) (x1 : Int32) (y1 : Int) (hx1 : x1.toInt = y1)   : LW 251 (d + 14) 0 0 0 (lEnt (mL 251) [.ref 355, .int x1]) [] g (fun v g' => ∃ r : Int32, v = some (.int r) ∧ (-1) ≤ r.toInt ∧ r.toInt ≤ 26 ∧ InvR P g' ∧ Gr g' = Gr g) := by
  refine LW_ls (ls' := [some (.ref 355), some (.int x1)]) rfl ?_
  have hG : Gr g = Gr g := rfl
  refine X_iload_n rfl rfl rfl rfl ?_
  refine X_callS (as := [.int x1]) (st := []) rfl rfl rfl (by decide) rfl (Nat.le_of_ble_eq_true rfl) (by decide) (Nat.le_of_ble_eq_true rfl) rfl ?_
  refine LW_ls (ls' := [some (.int x1)]) rfl ?_
  refine X_iload_n rfl rfl rfl rfl ?_
  refine X_iconst (v := (1 : Int32)) rfl rfl rfl ?_
  refine X_ldc (v := (67108863 : Int32)) rfl rfl rfl ?_
  refine X_callS (as := [.int x1, .int (1 : Int32), .int (67108863 : Int32)]) (st := []) rfl rfl rfl (by decide) rfl (Nat.le_of_ble_eq_true rfl) (by decide) (Nat.le_of_ble_eq_true rfl) rfl ?_
  refine LW_ls (ls' := [some (.int x1), some (.int (1 : Int32)), some (.int (67108863 : Int32))]) rfl ?_
  refine X_iload_n rfl rfl rfl rfl ?_
  refine X_iload_n rfl rfl rfl rfl ?_
  refine S_icmp_lt (tgt := 14) rfl rfl rfl hx1 (show (1 : Int32).toInt = 1 from rfl) (fun vh1 => ?_) (fun vh1 => ?_)
  · refine X_iconst (v := (0 : Int32)) rfl rfl rfl ?_
    refine LW_ireturn (st := []) rfl rfl rfl ?_
    refine LW_ireturn (st := []) rfl rfl rfl ?_
    refine S_if_eq (tgt := 25) rfl rfl rfl (show (0 : Int32).toInt = 0 from rfl) (fun vh2 => ?_) (fun q => absurd q (by omega))
    refine X_iconst (v := (-1 : Int32)) rfl rfl rfl ?_
    exact LW_ireturn (st := []) rfl rfl rfl ⟨_, rfl, by decide, by decide, V, hG⟩
  · refine X_iload_n rfl rfl rfl rfl ?_
    refine X_iload_n rfl rfl rfl rfl ?_
    refine S_icmp_gt (tgt := 14) rfl rfl rfl hx1 (show (67108863 : Int32).toInt = 67108863 from rfl) (fun vh3 => ?_) (fun vh3 => ?_)
    · refine X_iconst (v := (0 : Int32)) rfl rfl rfl ?_
      refine LW_ireturn (st := []) rfl rfl rfl ?_
      refine LW_ireturn (st := []) rfl rfl rfl ?_
      refine S_if_eq (tgt := 25) rfl rfl rfl (show (0 : Int32).toInt = 0 from rfl) (fun vh4 => ?_) (fun q => absurd q (by omega))
      refine X_iconst (v := (-1 : Int32)) rfl rfl rfl ?_
      exact LW_ireturn (st := []) rfl rfl rfl ⟨_, rfl, by decide, by decide, V, hG⟩
    · refine X_iconst (v := (1 : Int32)) rfl rfl rfl ?_
      refine LW_goto (tgt := 15) rfl rfl ?_
      refine LW_ireturn (st := []) rfl rfl rfl ?_
      refine LW_ireturn (st := []) rfl rfl rfl ?_
      refine S_if_eq (tgt := 25) rfl rfl rfl (show (1 : Int32).toInt = 1 from rfl) (fun q => absurd q (by omega)) (fun vh5 => ?_)
      refine X_aload_n rfl rfl rfl rfl ?_
      refine X_iload_n rfl rfl rfl rfl ?_
      refine X_aload_n rfl rfl rfl rfl ?_
      refine X_getR (a := 356) rfl rfl rfl ((congrFun V.1 355).trans s_355) rfl ((congrFun (V.2.1 355 (by decide)) 0).trans r_355_0) ?_
      refine X_bipush (v := (7 : Int32)) rfl rfl rfl ?_
      refine S_iald rfl rfl ((congrFun V.1 356).trans s_356) (show (7 : Int32).toInt = 7 from rfl) (by omega) (fun vz6 evz6 => ?_)
      have evz6 : Gi g 356 7 = vz6 := evz6
      refine X_iconst (v := (-1 : Int32)) rfl rfl rfl ?_
      refine S_ixorT rfl rfl (fun vz7 => ?_)
      refine S_iandT rfl rfl (fun vz8 => ?_)
      refine Y_callV (as := [.int vz8]) (st := []) rfl rfl rfl (by decide) rfl (Nat.le_of_ble_eq_true rfl) (by decide) (Nat.le_of_ble_eq_true rfl) rfl ((congrFun V.1 355).trans s_355) (by decide) (C_X13_call V vz8 vz8.toInt rfl ) ?_
      rintro _ g ⟨vr9, rfl, hrvr90, hrvr91, V, hq⟩
      have hG := hq.trans hG
      refine LW_goto (tgt := 26) rfl rfl ?_
      have hr := (rfl : vr9.toInt = vr9.toInt)
      exact LW_ireturn (st := []) rfl rfl rfl ⟨_, rfl, by omega, by omega, V, hG⟩
set_option maxRecDepth 10000 in
set_option maxHeartbeats 40000000 in
theorem C_X13_comeBack {P : Par} {g : LH} {d : Nat}  (V : InvR P g) (x1 : Int32) (y1 : Int) (hx1 : x1.toInt = y1)   : LW 252 (d + 14) 0 0 0 (lEnt (mL 252) [.ref 355, .int x1]) [] g (fun v g' => ∃ r : Int32, v = some (.int r) ∧ (-1) ≤ r.toInt ∧ r.toInt ≤ 26 ∧ InvR P g' ∧ Gr g' = Gr g) := by
  refine LW_ls (ls' := [some (.ref 355), some (.int x1)]) rfl ?_
  have hG : Gr g = Gr g := rfl
  refine X_iload_n rfl rfl rfl rfl ?_
  refine X_callS (as := [.int x1]) (st := []) rfl rfl rfl (by decide) rfl (Nat.le_of_ble_eq_true rfl) (by decide) (Nat.le_of_ble_eq_true rfl) rfl ?_
  refine LW_ls (ls' := [some (.int x1)]) rfl ?_
  refine X_iload_n rfl rfl rfl rfl ?_
  refine X_iconst (v := (1 : Int32)) rfl rfl rfl ?_
  refine X_ldc (v := (67108863 : Int32)) rfl rfl rfl ?_
  refine X_callS (as := [.int x1, .int (1 : Int32), .int (67108863 : Int32)]) (st := []) rfl rfl rfl (by decide) rfl (Nat.le_of_ble_eq_true rfl) (by decide) (Nat.le_of_ble_eq_true rfl) rfl ?_
  refine LW_ls (ls' := [some (.int x1), some (.int (1 : Int32)), some (.int (67108863 : Int32))]) rfl ?_
  refine X_iload_n rfl rfl rfl rfl ?_
  refine X_iload_n rfl rfl rfl rfl ?_
  refine S_icmp_lt (tgt := 14) rfl rfl rfl hx1 (show (1 : Int32).toInt = 1 from rfl) (fun vh1 => ?_) (fun vh1 => ?_)
  · refine X_iconst (v := (0 : Int32)) rfl rfl rfl ?_
    refine LW_ireturn (st := []) rfl rfl rfl ?_
    refine LW_ireturn (st := []) rfl rfl rfl ?_
    refine S_if_eq (tgt := 23) rfl rfl rfl (show (0 : Int32).toInt = 0 from rfl) (fun vh2 => ?_) (fun q => absurd q (by omega))
    refine X_iconst (v := (-1 : Int32)) rfl rfl rfl ?_
    exact LW_ireturn (st := []) rfl rfl rfl ⟨_, rfl, by decide, by decide, V, hG⟩
  · refine X_iload_n rfl rfl rfl rfl ?_
    refine X_iload_n rfl rfl rfl rfl ?_
    refine S_icmp_gt (tgt := 14) rfl rfl rfl hx1 (show (67108863 : Int32).toInt = 67108863 from rfl) (fun vh3 => ?_) (fun vh3 => ?_)
    · refine X_iconst (v := (0 : Int32)) rfl rfl rfl ?_
      refine LW_ireturn (st := []) rfl rfl rfl ?_
      refine LW_ireturn (st := []) rfl rfl rfl ?_
      refine S_if_eq (tgt := 23) rfl rfl rfl (show (0 : Int32).toInt = 0 from rfl) (fun vh4 => ?_) (fun q => absurd q (by omega))
      refine X_iconst (v := (-1 : Int32)) rfl rfl rfl ?_
      exact LW_ireturn (st := []) rfl rfl rfl ⟨_, rfl, by decide, by decide, V, hG⟩
    · refine X_iconst (v := (1 : Int32)) rfl rfl rfl ?_
      refine LW_goto (tgt := 15) rfl rfl ?_
      refine LW_ireturn (st := []) rfl rfl rfl ?_
      refine LW_ireturn (st := []) rfl rfl rfl ?_
      refine S_if_eq (tgt := 23) rfl rfl rfl (show (1 : Int32).toInt = 1 from rfl) (fun q => absurd q (by omega)) (fun vh5 => ?_)
      refine X_aload_n rfl rfl rfl rfl ?_
      refine X_iload_n rfl rfl rfl rfl ?_
      refine X_aload_n rfl rfl rfl rfl ?_
      refine X_getR (a := 356) rfl rfl rfl ((congrFun V.1 355).trans s_355) rfl ((congrFun (V.2.1 355 (by decide)) 0).trans r_355_0) ?_
      refine X_bipush (v := (7 : Int32)) rfl rfl rfl ?_
      refine S_iald rfl rfl ((congrFun V.1 356).trans s_356) (show (7 : Int32).toInt = 7 from rfl) (by omega) (fun vz6 evz6 => ?_)
      have evz6 : Gi g 356 7 = vz6 := evz6
      refine S_iandT rfl rfl (fun vz7 => ?_)
      refine Y_callV (as := [.int vz7]) (st := []) rfl rfl rfl (by decide) rfl (Nat.le_of_ble_eq_true rfl) (by decide) (Nat.le_of_ble_eq_true rfl) rfl ((congrFun V.1 355).trans s_355) (by decide) (C_X13_call V vz7 vz7.toInt rfl ) ?_
      rintro _ g ⟨vr8, rfl, hrvr80, hrvr81, V, hq⟩
      have hG := hq.trans hG
      refine LW_goto (tgt := 24) rfl rfl ?_
      have hr := (rfl : vr8.toInt = vr8.toInt)
      exact LW_ireturn (st := []) rfl rfl rfl ⟨_, rfl, by omega, by omega, V, hG⟩
set_option maxRecDepth 10000 in
set_option maxHeartbeats 40000000 in
theorem C_X13_raise {P : Par} {g : LH} {d : Nat}  (V : InvR P g) (x1 : Int32) (y1 : Int) (hx1 : x1.toInt = y1) (x2 : Int32) (y2 : Int) (hx2 : x2.toInt = y2)   : LW 253 (d + 9) 0 0 0 (lEnt (mL 253) [.ref 355, .int x1, .int x2]) [] g (fun v g' => ∃ r : Int32, v = some (.int r) ∧ 0 ≤ r.toInt ∧ r.toInt ≤ 1 ∧ InvR P g' ∧ Gr g' = Gr g) := by
  refine LW_ls (ls' := [some (.ref 355), some (.int x1), some (.int x2)]) rfl ?_
  have hG : Gr g = Gr g := rfl
  refine X_iload_n rfl rfl rfl rfl ?_
  refine X_callS (as := [.int x1]) (st := []) rfl rfl rfl (by decide) rfl (Nat.le_of_ble_eq_true rfl) (by decide) (Nat.le_of_ble_eq_true rfl) rfl ?_
  refine LW_ls (ls' := [some (.int x1)]) rfl ?_
  refine X_iload_n rfl rfl rfl rfl ?_
  refine X_iconst (v := (0 : Int32)) rfl rfl rfl ?_
  refine X_bipush (v := (25 : Int32)) rfl rfl rfl ?_
  refine X_callS (as := [.int x1, .int (0 : Int32), .int (25 : Int32)]) (st := []) rfl rfl rfl (by decide) rfl (Nat.le_of_ble_eq_true rfl) (by decide) (Nat.le_of_ble_eq_true rfl) rfl ?_
  refine LW_ls (ls' := [some (.int x1), some (.int (0 : Int32)), some (.int (25 : Int32))]) rfl ?_
  refine X_iload_n rfl rfl rfl rfl ?_
  refine X_iload_n rfl rfl rfl rfl ?_
  refine S_icmp_lt (tgt := 14) rfl rfl rfl hx1 (show (0 : Int32).toInt = 0 from rfl) (fun vh1 => ?_) (fun vh1 => ?_)
  · refine X_iconst (v := (0 : Int32)) rfl rfl rfl ?_
    refine LW_ireturn (st := []) rfl rfl rfl ?_
    refine LW_ireturn (st := []) rfl rfl rfl ?_
    refine S_if_eq (tgt := 30) rfl rfl rfl (show (0 : Int32).toInt = 0 from rfl) (fun vh2 => ?_) (fun q => absurd q (by omega))
    refine X_iconst (v := (0 : Int32)) rfl rfl rfl ?_
    exact LW_ireturn (st := []) rfl rfl rfl ⟨_, rfl, by decide, by decide, V, hG⟩
  · refine X_iload_n rfl rfl rfl rfl ?_
    refine X_iload_n rfl rfl rfl rfl ?_
    refine S_icmp_gt (tgt := 14) rfl rfl rfl hx1 (show (25 : Int32).toInt = 25 from rfl) (fun vh3 => ?_) (fun vh3 => ?_)
    · refine X_iconst (v := (0 : Int32)) rfl rfl rfl ?_
      refine LW_ireturn (st := []) rfl rfl rfl ?_
      refine LW_ireturn (st := []) rfl rfl rfl ?_
      refine S_if_eq (tgt := 30) rfl rfl rfl (show (0 : Int32).toInt = 0 from rfl) (fun vh4 => ?_) (fun q => absurd q (by omega))
      refine X_iconst (v := (0 : Int32)) rfl rfl rfl ?_
      exact LW_ireturn (st := []) rfl rfl rfl ⟨_, rfl, by decide, by decide, V, hG⟩
    · refine X_iconst (v := (1 : Int32)) rfl rfl rfl ?_
      refine LW_goto (tgt := 15) rfl rfl ?_
      refine LW_ireturn (st := []) rfl rfl rfl ?_
      refine LW_ireturn (st := []) rfl rfl rfl ?_
      refine S_if_eq (tgt := 30) rfl rfl rfl (show (1 : Int32).toInt = 1 from rfl) (fun q => absurd q (by omega)) (fun vh5 => ?_)
      refine X_iload_n rfl rfl rfl rfl ?_
      refine X_iconst (v := (0 : Int32)) rfl rfl rfl ?_
      refine X_bipush (v := (99 : Int32)) rfl rfl rfl ?_
      refine X_callS (as := [.int x2, .int (0 : Int32), .int (99 : Int32)]) (st := []) rfl rfl rfl (by decide) rfl (Nat.le_of_ble_eq_true rfl) (by decide) (Nat.le_of_ble_eq_true rfl) rfl ?_
      refine LW_ls (ls' := [some (.int x2), some (.int (0 : Int32)), some (.int (99 : Int32))]) rfl ?_
      refine X_iload_n rfl rfl rfl rfl ?_
      refine X_iload_n rfl rfl rfl rfl ?_
      refine S_icmp_lt (tgt := 14) rfl rfl rfl hx2 (show (0 : Int32).toInt = 0 from rfl) (fun vh6 => ?_) (fun vh6 => ?_)
      · refine X_iconst (v := (0 : Int32)) rfl rfl rfl ?_
        refine LW_ireturn (st := []) rfl rfl rfl ?_
        refine S_if_eq (tgt := 30) rfl rfl rfl (show (0 : Int32).toInt = 0 from rfl) (fun vh7 => ?_) (fun q => absurd q (by omega))
        refine X_iconst (v := (0 : Int32)) rfl rfl rfl ?_
        exact LW_ireturn (st := []) rfl rfl rfl ⟨_, rfl, by decide, by decide, V, hG⟩
      · refine X_iload_n rfl rfl rfl rfl ?_
        refine X_iload_n rfl rfl rfl rfl ?_
        refine S_icmp_gt (tgt := 14) rfl rfl rfl hx2 (show (99 : Int32).toInt = 99 from rfl) (fun vh8 => ?_) (fun vh8 => ?_)
        · refine X_iconst (v := (0 : Int32)) rfl rfl rfl ?_
          refine LW_ireturn (st := []) rfl rfl rfl ?_
          refine S_if_eq (tgt := 30) rfl rfl rfl (show (0 : Int32).toInt = 0 from rfl) (fun vh9 => ?_) (fun q => absurd q (by omega))
          refine X_iconst (v := (0 : Int32)) rfl rfl rfl ?_
          exact LW_ireturn (st := []) rfl rfl rfl ⟨_, rfl, by decide, by decide, V, hG⟩
        · refine X_iconst (v := (1 : Int32)) rfl rfl rfl ?_
          refine LW_goto (tgt := 15) rfl rfl ?_
          refine LW_ireturn (st := []) rfl rfl rfl ?_
          refine S_if_eq (tgt := 30) rfl rfl rfl (show (1 : Int32).toInt = 1 from rfl) (fun q => absurd q (by omega)) (fun vh10 => ?_)
          refine X_aload_n rfl rfl rfl rfl ?_
          refine X_getR (a := 356) rfl rfl rfl ((congrFun V.1 355).trans s_355) rfl ((congrFun (V.2.1 355 (by decide)) 0).trans r_355_0) ?_
          refine X_bipush (v := (12 : Int32)) rfl rfl rfl ?_
          refine X_iload_n rfl rfl rfl rfl ?_
          refine S_iadd rfl rfl (show (12 : Int32).toInt = 12 from rfl) hx1 (by omega) (fun vz11 hvz11 => ?_)
          refine S_iald rfl rfl ((congrFun V.1 356).trans s_356) rfl (by omega) (fun vz12 evz12 => ?_)
          refine X_iload_n rfl rfl rfl rfl ?_
          refine S_icmp_ne (tgt := 32) rfl rfl rfl rfl hx2 (fun vh13 => ?_) (fun vh13 => ?_)
          · refine X_aload_n rfl rfl rfl rfl ?_
            refine Y_callV (as := []) (st := []) rfl rfl rfl (by decide) rfl (Nat.le_of_ble_eq_true rfl) (by decide) (Nat.le_of_ble_eq_true rfl) rfl ((congrFun V.1 355).trans s_355) (by decide) (C_X13_keep V  ) ?_
            rintro _ g ⟨rfl, V, hq, chF⟩
            have hG := hq.trans hG
            refine X_aload_n rfl rfl rfl rfl ?_
            refine X_getR (a := 356) rfl rfl rfl ((congrFun V.1 355).trans s_355) rfl ((congrFun (V.2.1 355 (by decide)) 0).trans r_355_0) ?_
            refine X_bipush (v := (12 : Int32)) rfl rfl rfl ?_
            refine X_iload_n rfl rfl rfl rfl ?_
            refine S_iadd rfl rfl (show (12 : Int32).toInt = 12 from rfl) hx1 (by omega) (fun vz15 hvz15 => ?_)
            refine X_iload_n rfl rfl rfl rfl ?_
            refine S_iast (I := InvR _) rfl rfl ((congrFun V.1 356).trans s_356) rfl (by omega) (InvR_putA V (by omega) (B_FREE (by omega))) (fun g V ve16 vn17 hq => ?_)
            have hG := hq.trans hG
            refine X_iconst (v := (1 : Int32)) rfl rfl rfl ?_
            exact LW_ireturn (st := []) rfl rfl rfl ⟨_, rfl, by decide, by decide, V, hG⟩
          · refine X_iconst (v := (0 : Int32)) rfl rfl rfl ?_
            exact LW_ireturn (st := []) rfl rfl rfl ⟨_, rfl, by decide, by decide, V, hG⟩
set_option maxRecDepth 10000 in
set_option maxHeartbeats 40000000 in
theorem C_X13_sign {P : Par} {g : LH} {d : Nat}  (V : InvR P g) (x1 : Int32) (y1 : Int) (hx1 : x1.toInt = y1) (x2 : Int32) (y2 : Int) (hx2 : x2.toInt = y2)   : LW 254 (d + 9) 0 0 0 (lEnt (mL 254) [.ref 355, .int x1, .int x2]) [] g (fun v g' => ∃ r : Int32, v = some (.int r) ∧ 0 ≤ r.toInt ∧ r.toInt ≤ 1 ∧ InvR P g' ∧ Gr g' = Gr g) := by
  refine LW_ls (ls' := [some (.ref 355), some (.int x1), some (.int x2)]) rfl ?_
  have hG : Gr g = Gr g := rfl
  refine X_iload_n rfl rfl rfl rfl ?_
  refine X_callS (as := [.int x1]) (st := []) rfl rfl rfl (by decide) rfl (Nat.le_of_ble_eq_true rfl) (by decide) (Nat.le_of_ble_eq_true rfl) rfl ?_
  refine LW_ls (ls' := [some (.int x1)]) rfl ?_
  refine X_iload_n rfl rfl rfl rfl ?_
  refine X_iconst (v := (0 : Int32)) rfl rfl rfl ?_
  refine X_bipush (v := (25 : Int32)) rfl rfl rfl ?_
  refine X_callS (as := [.int x1, .int (0 : Int32), .int (25 : Int32)]) (st := []) rfl rfl rfl (by decide) rfl (Nat.le_of_ble_eq_true rfl) (by decide) (Nat.le_of_ble_eq_true rfl) rfl ?_
  refine LW_ls (ls' := [some (.int x1), some (.int (0 : Int32)), some (.int (25 : Int32))]) rfl ?_
  refine X_iload_n rfl rfl rfl rfl ?_
  refine X_iload_n rfl rfl rfl rfl ?_
  refine S_icmp_lt (tgt := 14) rfl rfl rfl hx1 (show (0 : Int32).toInt = 0 from rfl) (fun vh1 => ?_) (fun vh1 => ?_)
  · refine X_iconst (v := (0 : Int32)) rfl rfl rfl ?_
    refine LW_ireturn (st := []) rfl rfl rfl ?_
    refine LW_ireturn (st := []) rfl rfl rfl ?_
    refine S_if_eq (tgt := 30) rfl rfl rfl (show (0 : Int32).toInt = 0 from rfl) (fun vh2 => ?_) (fun q => absurd q (by omega))
    refine X_iconst (v := (0 : Int32)) rfl rfl rfl ?_
    exact LW_ireturn (st := []) rfl rfl rfl ⟨_, rfl, by decide, by decide, V, hG⟩
  · refine X_iload_n rfl rfl rfl rfl ?_
    refine X_iload_n rfl rfl rfl rfl ?_
    refine S_icmp_gt (tgt := 14) rfl rfl rfl hx1 (show (25 : Int32).toInt = 25 from rfl) (fun vh3 => ?_) (fun vh3 => ?_)
    · refine X_iconst (v := (0 : Int32)) rfl rfl rfl ?_
      refine LW_ireturn (st := []) rfl rfl rfl ?_
      refine LW_ireturn (st := []) rfl rfl rfl ?_
      refine S_if_eq (tgt := 30) rfl rfl rfl (show (0 : Int32).toInt = 0 from rfl) (fun vh4 => ?_) (fun q => absurd q (by omega))
      refine X_iconst (v := (0 : Int32)) rfl rfl rfl ?_
      exact LW_ireturn (st := []) rfl rfl rfl ⟨_, rfl, by decide, by decide, V, hG⟩
    · refine X_iconst (v := (1 : Int32)) rfl rfl rfl ?_
      refine LW_goto (tgt := 15) rfl rfl ?_
      refine LW_ireturn (st := []) rfl rfl rfl ?_
      refine LW_ireturn (st := []) rfl rfl rfl ?_
      refine S_if_eq (tgt := 30) rfl rfl rfl (show (1 : Int32).toInt = 1 from rfl) (fun q => absurd q (by omega)) (fun vh5 => ?_)
      refine X_iload_n rfl rfl rfl rfl ?_
      refine X_iconst (v := (-1 : Int32)) rfl rfl rfl ?_
      refine X_bipush (v := (9 : Int32)) rfl rfl rfl ?_
      refine X_callS (as := [.int x2, .int (-1 : Int32), .int (9 : Int32)]) (st := []) rfl rfl rfl (by decide) rfl (Nat.le_of_ble_eq_true rfl) (by decide) (Nat.le_of_ble_eq_true rfl) rfl ?_
      refine LW_ls (ls' := [some (.int x2), some (.int (-1 : Int32)), some (.int (9 : Int32))]) rfl ?_
      refine X_iload_n rfl rfl rfl rfl ?_
      refine X_iload_n rfl rfl rfl rfl ?_
      refine S_icmp_lt (tgt := 14) rfl rfl rfl hx2 (show (-1 : Int32).toInt = -1 from rfl) (fun vh6 => ?_) (fun vh6 => ?_)
      · refine X_iconst (v := (0 : Int32)) rfl rfl rfl ?_
        refine LW_ireturn (st := []) rfl rfl rfl ?_
        refine S_if_eq (tgt := 30) rfl rfl rfl (show (0 : Int32).toInt = 0 from rfl) (fun vh7 => ?_) (fun q => absurd q (by omega))
        refine X_iconst (v := (0 : Int32)) rfl rfl rfl ?_
        exact LW_ireturn (st := []) rfl rfl rfl ⟨_, rfl, by decide, by decide, V, hG⟩
      · refine X_iload_n rfl rfl rfl rfl ?_
        refine X_iload_n rfl rfl rfl rfl ?_
        refine S_icmp_gt (tgt := 14) rfl rfl rfl hx2 (show (9 : Int32).toInt = 9 from rfl) (fun vh8 => ?_) (fun vh8 => ?_)
        · refine X_iconst (v := (0 : Int32)) rfl rfl rfl ?_
          refine LW_ireturn (st := []) rfl rfl rfl ?_
          refine S_if_eq (tgt := 30) rfl rfl rfl (show (0 : Int32).toInt = 0 from rfl) (fun vh9 => ?_) (fun q => absurd q (by omega))
          refine X_iconst (v := (0 : Int32)) rfl rfl rfl ?_
          exact LW_ireturn (st := []) rfl rfl rfl ⟨_, rfl, by decide, by decide, V, hG⟩
        · refine X_iconst (v := (1 : Int32)) rfl rfl rfl ?_
          refine LW_goto (tgt := 15) rfl rfl ?_
          refine LW_ireturn (st := []) rfl rfl rfl ?_
          refine S_if_eq (tgt := 30) rfl rfl rfl (show (1 : Int32).toInt = 1 from rfl) (fun q => absurd q (by omega)) (fun vh10 => ?_)
          refine X_aload_n rfl rfl rfl rfl ?_
          refine X_getR (a := 356) rfl rfl rfl ((congrFun V.1 355).trans s_355) rfl ((congrFun (V.2.1 355 (by decide)) 0).trans r_355_0) ?_
          refine X_bipush (v := (64 : Int32)) rfl rfl rfl ?_
          refine X_iload_n rfl rfl rfl rfl ?_
          refine S_iadd rfl rfl (show (64 : Int32).toInt = 64 from rfl) hx1 (by omega) (fun vz11 hvz11 => ?_)
          refine S_iald rfl rfl ((congrFun V.1 356).trans s_356) rfl (by omega) (fun vz12 evz12 => ?_)
          refine X_iload_n rfl rfl rfl rfl ?_
          refine S_icmp_ne (tgt := 32) rfl rfl rfl rfl hx2 (fun vh13 => ?_) (fun vh13 => ?_)
          · refine X_aload_n rfl rfl rfl rfl ?_
            refine Y_callV (as := []) (st := []) rfl rfl rfl (by decide) rfl (Nat.le_of_ble_eq_true rfl) (by decide) (Nat.le_of_ble_eq_true rfl) rfl ((congrFun V.1 355).trans s_355) (by decide) (C_X13_keep V  ) ?_
            rintro _ g ⟨rfl, V, hq, chF⟩
            have hG := hq.trans hG
            refine X_aload_n rfl rfl rfl rfl ?_
            refine X_getR (a := 356) rfl rfl rfl ((congrFun V.1 355).trans s_355) rfl ((congrFun (V.2.1 355 (by decide)) 0).trans r_355_0) ?_
            refine X_bipush (v := (64 : Int32)) rfl rfl rfl ?_
            refine X_iload_n rfl rfl rfl rfl ?_
            refine S_iadd rfl rfl (show (64 : Int32).toInt = 64 from rfl) hx1 (by omega) (fun vz15 hvz15 => ?_)
            refine X_iload_n rfl rfl rfl rfl ?_
            refine S_iast (I := InvR _) rfl rfl ((congrFun V.1 356).trans s_356) rfl (by omega) (InvR_putA V (by omega) (B_FREE (by omega))) (fun g V ve16 vn17 hq => ?_)
            have hG := hq.trans hG
            refine X_iconst (v := (1 : Int32)) rfl rfl rfl ?_
            exact LW_ireturn (st := []) rfl rfl rfl ⟨_, rfl, by decide, by decide, V, hG⟩
          · refine X_iconst (v := (0 : Int32)) rfl rfl rfl ?_
            exact LW_ireturn (st := []) rfl rfl rfl ⟨_, rfl, by decide, by decide, V, hG⟩
set_option maxRecDepth 10000 in
set_option maxHeartbeats 40000000 in
theorem C_X13_undo_96 {P : Par} {g g0 : LH} {d n : Nat}  (V : InvR P g) (hG : Gr g = Gr g0) (x1 : Int32) (y1 : Int) (hx1 : x1.toInt = y1) (hf1 : 578 ≤ y1 ∧ y1 ≤ 2956) (x2 : Int32) (y2 : Int) (hx2 : x2.toInt = y2) (hf2 : 0 ≤ y2 ∧ y2 ≤ 98) (hc356_6 : 0 ≤ (Gi g 356 6).toInt ∧ (Gi g 356 6).toInt ≤ 29) (hc356_10 : 0 ≤ (Gi g 356 10).toInt ∧ (Gi g 356 10).toInt ≤ 10) (hmu : (98 - y2) * 1 + 0 < (n : Int) + 1) (ih96 : ∀ (g : LH) (V : InvR P g) (hG : Gr g = Gr g0) (x1 : Int32) (y1 : Int) (hx1 : x1.toInt = y1) (hf1 : 578 ≤ y1 ∧ y1 ≤ 2956) (x2 : Int32) (y2 : Int) (hx2 : x2.toInt = y2) (hf2 : 0 ≤ y2 ∧ y2 ≤ 98) (hc356_6 : 0 ≤ (Gi g 356 6).toInt ∧ (Gi g 356 6).toInt ≤ 29) (hc356_10 : 0 ≤ (Gi g 356 10).toInt ∧ (Gi g 356 10).toInt ≤ 10), (98 - y2) * 1 + 0 < (n : Int) → LW 246 (d + 3) 0 0 96 [some (.ref 355), some (.int x1), some (.int x2)] [] g (fun v g' => ∃ r : Int32, v = some (.int r) ∧ (-1) ≤ r.toInt ∧ r.toInt ≤ 29 ∧ InvR P g' ∧ Gr g' = Gr g0)) : LW 246 (d + 3) 0 0 96 [some (.ref 355), some (.int x1), some (.int x2)] [] g (fun v g' => ∃ r : Int32, v = some (.int r) ∧ (-1) ≤ r.toInt ∧ r.toInt ≤ 29 ∧ InvR P g' ∧ Gr g' = Gr g0) := by
  obtain ⟨vz1, evz1⟩ : ∃ z, Gi g 356 6 = z := ⟨_, rfl⟩
  rw [evz1] at hc356_6
  obtain ⟨vz2, evz2⟩ : ∃ z, Gi g 356 10 = z := ⟨_, rfl⟩
  rw [evz2] at hc356_10
  refine X_iload_n rfl rfl rfl rfl ?_
  refine X_bipush (v := (78 : Int32)) rfl rfl rfl ?_
  refine S_icmp_ge (tgt := 127) rfl rfl rfl hx2 (show (78 : Int32).toInt = 78 from rfl) (fun vh3 => ?_) (fun vh3 => ?_)
  · refine X_aload_n rfl rfl rfl rfl ?_
    refine X_getR (a := 356) rfl rfl rfl ((congrFun V.1 355).trans s_355) rfl ((congrFun (V.2.1 355 (by decide)) 0).trans r_355_0) ?_
    refine X_bipush (v := (6 : Int32)) rfl rfl rfl ?_
    refine S_iald_v rfl rfl ((congrFun V.1 356).trans s_356) (show (6 : Int32).toInt = 6 from rfl) (by omega) evz1 ?_
    have hr := (rfl : vz1.toInt = vz1.toInt)
    exact LW_ireturn (st := []) rfl rfl rfl ⟨_, rfl, by omega, by omega, V, hG⟩
  · refine X_aload_n rfl rfl rfl rfl ?_
    refine X_getR (a := 356) rfl rfl rfl ((congrFun V.1 355).trans s_355) rfl ((congrFun (V.2.1 355 (by decide)) 0).trans r_355_0) ?_
    refine X_bipush (v := (12 : Int32)) rfl rfl rfl ?_
    refine X_iload_n rfl rfl rfl rfl ?_
    refine S_iadd rfl rfl (show (12 : Int32).toInt = 12 from rfl) hx2 (by omega) (fun vz5 hvz5 => ?_)
    refine X_aload_n rfl rfl rfl rfl ?_
    refine X_getR (a := 356) rfl rfl rfl ((congrFun V.1 355).trans s_355) rfl ((congrFun (V.2.1 355 (by decide)) 0).trans r_355_0) ?_
    refine X_iload_n rfl rfl rfl rfl ?_
    refine X_iconst (v := (4 : Int32)) rfl rfl rfl ?_
    refine S_iadd rfl rfl hx1 (show (4 : Int32).toInt = 4 from rfl) (by omega) (fun vz6 hvz6 => ?_)
    refine X_iload_n rfl rfl rfl rfl ?_
    refine S_iadd rfl rfl rfl hx2 (by omega) (fun vz7 hvz7 => ?_)
    refine S_iald rfl rfl ((congrFun V.1 356).trans s_356) rfl (by omega) (fun vz8 evz8 => ?_)
    refine S_iast (I := InvR _) rfl rfl ((congrFun V.1 356).trans s_356) rfl (by omega) (InvR_putA V (by omega) (B_FREE (by omega))) (fun g V ve9 vn10 hq => ?_)
    have hG := hq.trans hG
    have evz1 := (vn10 (356) 6 (Or.inr (by omega))).trans evz1
    have evz2 := (vn10 (356) 10 (Or.inr (by omega))).trans evz2
    refine S_iinc (c := 1) rfl rfl rfl hx2 rfl (by omega) (fun vz11 hvz11 => ?_)
    refine LW_ls (ls' := [some (.ref 355), some (.int x1), some (.int vz11)]) rfl ?_
    refine LW_goto (tgt := 96) rfl rfl ?_
    exact ih96 _ V hG x1 y1 hx1 (by omega) vz11 vz11.toInt rfl (by omega) (by rw [evz1]; omega) (by rw [evz2]; omega)   (by omega)
theorem C_X13_undo_all {P : Par} {g0 : LH} {d : Nat}  : ∀ n : Nat, (∀ (g : LH) (V : InvR P g) (hG : Gr g = Gr g0) (x1 : Int32) (y1 : Int) (hx1 : x1.toInt = y1) (hf1 : 578 ≤ y1 ∧ y1 ≤ 2956) (x2 : Int32) (y2 : Int) (hx2 : x2.toInt = y2) (hf2 : 0 ≤ y2 ∧ y2 ≤ 98) (hc356_6 : 0 ≤ (Gi g 356 6).toInt ∧ (Gi g 356 6).toInt ≤ 29) (hc356_10 : 0 ≤ (Gi g 356 10).toInt ∧ (Gi g 356 10).toInt ≤ 10), (98 - y2) * 1 + 0 < (n : Int) → LW 246 (d + 3) 0 0 96 [some (.ref 355), some (.int x1), some (.int x2)] [] g (fun v g' => ∃ r : Int32, v = some (.int r) ∧ (-1) ≤ r.toInt ∧ r.toInt ≤ 29 ∧ InvR P g' ∧ Gr g' = Gr g0)) := by
  intro n
  induction n with
  | zero => exact fun g V hG x1 y1 hx1 hf1 x2 y2 hx2 hf2 hc356_6 hc356_10 hmu => absurd hmu (by omega)
  | succ n ih => exact fun g V hG x1 y1 hx1 hf1 x2 y2 hx2 hf2 hc356_6 hc356_10 hmu => C_X13_undo_96  V hG x1 y1 hx1 hf1 x2 y2 hx2 hf2 hc356_6 hc356_10 (by omega) ih
set_option maxRecDepth 10000 in
set_option maxHeartbeats 40000000 in
theorem C_X13_undo {P : Par} {g : LH} {d : Nat}  (V : InvR P g)    : LW 246 (d + 3) 0 0 0 (lEnt (mL 246) [.ref 355]) [] g (fun v g' => ∃ r : Int32, v = some (.int r) ∧ (-1) ≤ r.toInt ∧ r.toInt ≤ 29 ∧ InvR P g' ∧ Gr g' = Gr g) := by
  refine LW_ls (ls' := [some (.ref 355), none, none]) rfl ?_
  have hG : Gr g = Gr g := rfl
  refine X_aload_n rfl rfl rfl rfl ?_
  refine X_getR (a := 356) rfl rfl rfl ((congrFun V.1 355).trans s_355) rfl ((congrFun (V.2.1 355 (by decide)) 0).trans r_355_0) ?_
  refine X_bipush (v := (6 : Int32)) rfl rfl rfl ?_
  refine S_iald rfl rfl ((congrFun V.1 356).trans s_356) (show (6 : Int32).toInt = 6 from rfl) (by omega) (fun vz1 evz1 => ?_)
  have evz1 : Gi g 356 6 = vz1 := evz1
  have vf2 := A_STEPS (V.2.2.2.1 (6)) (by omega)
  rw [evz1] at vf2
  refine S_if_ne (tgt := 12) rfl rfl rfl rfl (fun vh3 => ?_) (fun vh3 => ?_)
  · refine X_aload_n rfl rfl rfl rfl ?_
    refine X_getR (a := 356) rfl rfl rfl ((congrFun V.1 355).trans s_355) rfl ((congrFun (V.2.1 355 (by decide)) 0).trans r_355_0) ?_
    refine X_bipush (v := (6 : Int32)) rfl rfl rfl ?_
    refine X_dup2 rfl rfl rfl rfl ?_
    refine S_iald_v rfl rfl ((congrFun V.1 356).trans s_356) (show (6 : Int32).toInt = 6 from rfl) (by omega) evz1 ?_
    refine X_iconst (v := (1 : Int32)) rfl rfl rfl ?_
    refine S_isub rfl rfl rfl (show (1 : Int32).toInt = 1 from rfl) (by omega) (fun vz5 hvz5 => ?_)
    refine S_iast (I := InvR _) rfl rfl ((congrFun V.1 356).trans s_356) (show (6 : Int32).toInt = 6 from rfl) (by omega) (InvR_putA V (by omega) (B_STEPS (by omega) (by omega))) (fun g V ve6 vn7 hq => ?_)
    have hG := hq.trans hG
    have ve6 : Gi g 356 6 = vz5 := ve6
    refine X_sipush (v := (578 : Int32)) rfl rfl rfl ?_
    refine X_bipush (v := (82 : Int32)) rfl rfl rfl ?_
    refine X_aload_n rfl rfl rfl rfl ?_
    refine X_getR (a := 356) rfl rfl rfl ((congrFun V.1 355).trans s_355) rfl ((congrFun (V.2.1 355 (by decide)) 0).trans r_355_0) ?_
    refine X_bipush (v := (6 : Int32)) rfl rfl rfl ?_
    refine S_iald_v rfl rfl ((congrFun V.1 356).trans s_356) (show (6 : Int32).toInt = 6 from rfl) (by omega) ve6 ?_
    refine S_imul rfl rfl (show (82 : Int32).toInt = 82 from rfl) rfl (by omega) (fun vz9 hvz9 => ?_)
    refine S_iadd rfl rfl (show (578 : Int32).toInt = 578 from rfl) rfl (by omega) (fun vz10 hvz10 => ?_)
    refine X_istore_n (i := 1) (ls' := [some (.ref 355), some (.int vz10), none]) rfl rfl rfl (Nat.le_of_ble_eq_true rfl) rfl ?_
    refine X_aload_n rfl rfl rfl rfl ?_
    refine X_getR (a := 356) rfl rfl rfl ((congrFun V.1 355).trans s_355) rfl ((congrFun (V.2.1 355 (by decide)) 0).trans r_355_0) ?_
    refine X_bipush (v := (7 : Int32)) rfl rfl rfl ?_
    refine X_aload_n rfl rfl rfl rfl ?_
    refine X_getR (a := 356) rfl rfl rfl ((congrFun V.1 355).trans s_355) rfl ((congrFun (V.2.1 355 (by decide)) 0).trans r_355_0) ?_
    refine X_iload_n rfl rfl rfl rfl ?_
    refine S_iald rfl rfl ((congrFun V.1 356).trans s_356) rfl (by omega) (fun vz11 evz11 => ?_)
    refine S_iast (I := InvR _) rfl rfl ((congrFun V.1 356).trans s_356) (show (7 : Int32).toInt = 7 from rfl) (by omega) (InvR_putA V (by omega) (B_FREE (by omega))) (fun g V ve12 vn13 hq => ?_)
    have hG := hq.trans hG
    have ve6 := (vn13 (356) 6 (Or.inr (by omega))).trans ve6
    have ve12 : Gi g 356 7 = vz11 := ve12
    refine X_aload_n rfl rfl rfl rfl ?_
    refine X_getR (a := 356) rfl rfl rfl ((congrFun V.1 355).trans s_355) rfl ((congrFun (V.2.1 355 (by decide)) 0).trans r_355_0) ?_
    refine X_bipush (v := (10 : Int32)) rfl rfl rfl ?_
    refine X_aload_n rfl rfl rfl rfl ?_
    refine X_getR (a := 356) rfl rfl rfl ((congrFun V.1 355).trans s_355) rfl ((congrFun (V.2.1 355 (by decide)) 0).trans r_355_0) ?_
    refine X_iload_n rfl rfl rfl rfl ?_
    refine X_iconst (v := (1 : Int32)) rfl rfl rfl ?_
    refine S_iadd rfl rfl rfl (show (1 : Int32).toInt = 1 from rfl) (by omega) (fun vz14 hvz14 => ?_)
    refine S_iald rfl rfl ((congrFun V.1 356).trans s_356) rfl (by omega) (fun vz15 evz15 => ?_)
    have vf16 := A_SCON (V.2.2.2.1 ((vz14.toInt : Int).toNat)) (by omega)
    rw [evz15] at vf16
    refine S_iast (I := InvR _) rfl rfl ((congrFun V.1 356).trans s_356) (show (10 : Int32).toInt = 10 from rfl) (by omega) (InvR_putA V (by omega) (B_CONS (by omega) (by omega))) (fun g V ve17 vn18 hq => ?_)
    have hG := hq.trans hG
    have ve6 := (vn18 (356) 6 (Or.inr (by omega))).trans ve6
    have ve12 := (vn18 (356) 7 (Or.inr (by omega))).trans ve12
    have ve17 : Gi g 356 10 = vz15 := ve17
    refine X_aload_n rfl rfl rfl rfl ?_
    refine X_getR (a := 356) rfl rfl rfl ((congrFun V.1 355).trans s_355) rfl ((congrFun (V.2.1 355 (by decide)) 0).trans r_355_0) ?_
    refine X_iconst (v := (2 : Int32)) rfl rfl rfl ?_
    refine X_aload_n rfl rfl rfl rfl ?_
    refine X_getR (a := 356) rfl rfl rfl ((congrFun V.1 355).trans s_355) rfl ((congrFun (V.2.1 355 (by decide)) 0).trans r_355_0) ?_
    refine X_iload_n rfl rfl rfl rfl ?_
    refine X_iconst (v := (2 : Int32)) rfl rfl rfl ?_
    refine S_iadd rfl rfl rfl (show (2 : Int32).toInt = 2 from rfl) (by omega) (fun vz19 hvz19 => ?_)
    refine S_iald rfl rfl ((congrFun V.1 356).trans s_356) rfl (by omega) (fun vz20 evz20 => ?_)
    refine S_iast (I := InvR _) rfl rfl ((congrFun V.1 356).trans s_356) (show (2 : Int32).toInt = 2 from rfl) (by omega) (InvR_putA V (by omega) (B_FREE (by omega))) (fun g V ve21 vn22 hq => ?_)
    have hG := hq.trans hG
    have ve6 := (vn22 (356) 6 (Or.inr (by omega))).trans ve6
    have ve12 := (vn22 (356) 7 (Or.inr (by omega))).trans ve12
    have ve17 := (vn22 (356) 10 (Or.inr (by omega))).trans ve17
    have ve21 : Gi g 356 2 = vz20 := ve21
    refine X_aload_n rfl rfl rfl rfl ?_
    refine X_getR (a := 356) rfl rfl rfl ((congrFun V.1 355).trans s_355) rfl ((congrFun (V.2.1 355 (by decide)) 0).trans r_355_0) ?_
    refine X_iconst (v := (3 : Int32)) rfl rfl rfl ?_
    refine X_aload_n rfl rfl rfl rfl ?_
    refine X_getR (a := 356) rfl rfl rfl ((congrFun V.1 355).trans s_355) rfl ((congrFun (V.2.1 355 (by decide)) 0).trans r_355_0) ?_
    refine X_iload_n rfl rfl rfl rfl ?_
    refine X_iconst (v := (3 : Int32)) rfl rfl rfl ?_
    refine S_iadd rfl rfl rfl (show (3 : Int32).toInt = 3 from rfl) (by omega) (fun vz23 hvz23 => ?_)
    refine S_iald rfl rfl ((congrFun V.1 356).trans s_356) rfl (by omega) (fun vz24 evz24 => ?_)
    refine S_iast (I := InvR _) rfl rfl ((congrFun V.1 356).trans s_356) (show (3 : Int32).toInt = 3 from rfl) (by omega) (InvR_putA V (by omega) (B_FREE (by omega))) (fun g V ve25 vn26 hq => ?_)
    have hG := hq.trans hG
    have ve6 := (vn26 (356) 6 (Or.inr (by omega))).trans ve6
    have ve12 := (vn26 (356) 7 (Or.inr (by omega))).trans ve12
    have ve17 := (vn26 (356) 10 (Or.inr (by omega))).trans ve17
    have ve21 := (vn26 (356) 2 (Or.inr (by omega))).trans ve21
    have ve25 : Gi g 356 3 = vz24 := ve25
    refine X_iconst (v := (0 : Int32)) rfl rfl rfl ?_
    refine X_istore_n (i := 2) (ls' := [some (.ref 355), some (.int vz10), some (.int (0 : Int32))]) rfl rfl rfl (Nat.le_of_ble_eq_true rfl) rfl ?_
    exact (C_X13_undo_all (((98 - 0) * 1 + 0) + 1 : Int).toNat) _ V hG vz10 vz10.toInt rfl (by omega) (0 : Int32) 0 (show (0 : Int32).toInt = 0 from rfl) (by omega) (by rw [ve6]; omega) (by rw [ve17]; omega)   (by omega)
  · refine X_iconst (v := (-1 : Int32)) rfl rfl rfl ?_
    exact LW_ireturn (st := []) rfl rfl rfl ⟨_, rfl, by decide, by decide, V, hG⟩
set_option maxRecDepth 10000 in
set_option maxHeartbeats 40000000 in
theorem C_X13_anew {P : Par} {g : LH} {d : Nat}  (V : InvR P g) (x0 : Int32) (y0 : Int) (hx0 : x0.toInt = y0) (hf0 : 0 ≤ y0 ∧ y0 ≤ 50012)   : LW 267 (d + 3) 0 0 0 (lEnt (mL 267) [.int x0]) [] g (fun v g' => ∃ r : Int32, v = some (.int r) ∧ 0 ≤ r.toInt ∧ r.toInt ≤ 30138 ∧ g = g') := by
  refine LW_ls (ls' := [some (.int x0)]) rfl ?_
  refine X_iload_n rfl rfl rfl rfl ?_
  refine X_sipush (v := (211 : Int32)) rfl rfl rfl ?_
  refine S_imul rfl rfl hx0 (show (211 : Int32).toInt = 211 from rfl) (by omega) (fun vz1 hvz1 => ?_)
  refine X_bipush (v := (97 : Int32)) rfl rfl rfl ?_
  refine S_iadd rfl rfl rfl (show (97 : Int32).toInt = 97 from rfl) (by omega) (fun vz2 hvz2 => ?_)
  refine X_sipush (v := (30139 : Int32)) rfl rfl rfl ?_
  refine S_irem rfl rfl rfl (show (30139 : Int32).toInt = 30139 from rfl) (by omega) (by omega) (fun vz3 hvz3 => ?_)
  have hr := (rfl : vz3.toInt = vz3.toInt)
  exact LW_ireturn (st := []) rfl rfl rfl ⟨_, rfl, by omega, by omega, rfl⟩
set_option maxRecDepth 10000 in
set_option maxHeartbeats 40000000 in
theorem C_X13_ofSaying {P : Par} {g : LH} {d : Nat}  (V : InvR P g) (x1 : Int32) (y1 : Int) (hx1 : x1.toInt = y1) (x2 : Int32) (y2 : Int) (hx2 : x2.toInt = y2)   : LW 272 (d + 5) 0 0 0 (lEnt (mL 272) [.ref 355, .int x1, .int x2]) [] g (fun v g' => ∃ r : Int32, v = some (.int r) ∧ g = g') := by
  refine LW_ls (ls' := [some (.ref 355), some (.int x1), some (.int x2)]) rfl ?_
  refine X_aload_n rfl rfl rfl rfl ?_
  refine X_iload_n rfl rfl rfl rfl ?_
  refine X_callV (as := [.int x1]) (st := []) rfl rfl rfl (by decide) rfl (Nat.le_of_ble_eq_true rfl) (by decide) (Nat.le_of_ble_eq_true rfl) rfl ((congrFun V.1 355).trans s_355) (by decide) ?_
  refine LW_ls (ls' := [some (.ref 355), some (.int x1)]) rfl ?_
  refine X_iload_n rfl rfl rfl rfl ?_
  refine X_iconst (v := (0 : Int32)) rfl rfl rfl ?_
  refine X_aload_n rfl rfl rfl rfl ?_
  refine X_getR (a := 356) rfl rfl rfl ((congrFun V.1 355).trans s_355) rfl ((congrFun (V.2.1 355 (by decide)) 0).trans r_355_0) ?_
  refine X_iconst (v := (1 : Int32)) rfl rfl rfl ?_
  refine S_iald rfl rfl ((congrFun V.1 356).trans s_356) (show (1 : Int32).toInt = 1 from rfl) (by omega) (fun vz1 evz1 => ?_)
  have evz1 : Gi g 356 1 = vz1 := evz1
  have vf2 := A_SAYS (V.2.2.2.1 (1)) (by omega)
  rw [evz1] at vf2
  refine X_iconst (v := (1 : Int32)) rfl rfl rfl ?_
  refine S_isub rfl rfl rfl (show (1 : Int32).toInt = 1 from rfl) (by omega) (fun vz3 hvz3 => ?_)
  refine X_callS (as := [.int x1, .int (0 : Int32), .int vz3]) (st := []) rfl rfl rfl (by decide) rfl (Nat.le_of_ble_eq_true rfl) (by decide) (Nat.le_of_ble_eq_true rfl) rfl ?_
  refine LW_ls (ls' := [some (.int x1), some (.int (0 : Int32)), some (.int vz3)]) rfl ?_
  refine X_iload_n rfl rfl rfl rfl ?_
  refine X_iload_n rfl rfl rfl rfl ?_
  refine S_icmp_lt (tgt := 14) rfl rfl rfl hx1 (show (0 : Int32).toInt = 0 from rfl) (fun vh4 => ?_) (fun vh4 => ?_)
  · refine X_iconst (v := (0 : Int32)) rfl rfl rfl ?_
    refine LW_ireturn (st := []) rfl rfl rfl ?_
    refine LW_ireturn (st := []) rfl rfl rfl ?_
    refine S_if_ne (tgt := 10) rfl rfl rfl (show (0 : Int32).toInt = 0 from rfl) (fun q => absurd q (by omega)) (fun vh5 => ?_)
    refine X_iconst (v := (-1 : Int32)) rfl rfl rfl ?_
    exact LW_ireturn (st := []) rfl rfl rfl ⟨_, rfl, rfl⟩
  · refine X_iload_n rfl rfl rfl rfl ?_
    refine X_iload_n rfl rfl rfl rfl ?_
    refine S_icmp_gt (tgt := 14) rfl rfl rfl hx1 rfl (fun vh6 => ?_) (fun vh6 => ?_)
    · refine X_iconst (v := (0 : Int32)) rfl rfl rfl ?_
      refine LW_ireturn (st := []) rfl rfl rfl ?_
      refine LW_ireturn (st := []) rfl rfl rfl ?_
      refine S_if_ne (tgt := 10) rfl rfl rfl (show (0 : Int32).toInt = 0 from rfl) (fun q => absurd q (by omega)) (fun vh7 => ?_)
      refine X_iconst (v := (-1 : Int32)) rfl rfl rfl ?_
      exact LW_ireturn (st := []) rfl rfl rfl ⟨_, rfl, rfl⟩
    · refine X_iconst (v := (1 : Int32)) rfl rfl rfl ?_
      refine LW_goto (tgt := 15) rfl rfl ?_
      refine LW_ireturn (st := []) rfl rfl rfl ?_
      refine LW_ireturn (st := []) rfl rfl rfl ?_
      refine S_if_ne (tgt := 10) rfl rfl rfl (show (1 : Int32).toInt = 1 from rfl) (fun vh8 => ?_) (fun q => absurd q (by omega))
      refine X_iload_n rfl rfl rfl rfl ?_
      refine S_if_ne (tgt := 20) rfl rfl rfl hx2 (fun vh9 => ?_) (fun vh9 => ?_)
      · refine X_iload_n rfl rfl rfl rfl ?_
        refine X_bipush (v := (10 : Int32)) rfl rfl rfl ?_
        refine X_bipush (v := (9 : Int32)) rfl rfl rfl ?_
        refine X_aload_n rfl rfl rfl rfl ?_
        refine X_iload_n rfl rfl rfl rfl ?_
        refine X_callV (as := [.int x1]) (st := [.int (9 : Int32), .int (10 : Int32), .int x2]) rfl rfl rfl (by decide) rfl (Nat.le_of_ble_eq_true rfl) (by decide) (Nat.le_of_ble_eq_true rfl) rfl ((congrFun V.1 355).trans s_355) (by decide) ?_
        refine LW_ls (ls' := [some (.ref 355), some (.int x1)]) rfl ?_
        refine X_aload_n rfl rfl rfl rfl ?_
        refine X_getR (a := 356) rfl rfl rfl ((congrFun V.1 355).trans s_355) rfl ((congrFun (V.2.1 355 (by decide)) 0).trans r_355_0) ?_
        refine X_sipush (v := (356 : Int32)) rfl rfl rfl ?_
        refine X_bipush (v := (9 : Int32)) rfl rfl rfl ?_
        refine X_iload_n rfl rfl rfl rfl ?_
        refine S_imul rfl rfl (show (9 : Int32).toInt = 9 from rfl) hx1 (by omega) (fun vz10 hvz10 => ?_)
        refine S_iadd rfl rfl (show (356 : Int32).toInt = 356 from rfl) rfl (by omega) (fun vz11 hvz11 => ?_)
        refine S_iald rfl rfl ((congrFun V.1 356).trans s_356) rfl (by omega) (fun vz12 evz12 => ?_)
        have vf13 := A_SCOUNT (V.2.2.2.1 ((vz11.toInt : Int).toNat)) (by omega)
        rw [evz12] at vf13
        refine LW_ireturn (st := []) rfl rfl rfl ?_
        refine S_iadd rfl rfl (show (9 : Int32).toInt = 9 from rfl) rfl (by omega) (fun vz14 hvz14 => ?_)
        refine X_callS (as := [.int x2, .int (10 : Int32), .int vz14]) (st := []) rfl rfl rfl (by decide) rfl (Nat.le_of_ble_eq_true rfl) (by decide) (Nat.le_of_ble_eq_true rfl) rfl ?_
        refine LW_ls (ls' := [some (.int x2), some (.int (10 : Int32)), some (.int vz14)]) rfl ?_
        refine X_iload_n rfl rfl rfl rfl ?_
        refine X_iload_n rfl rfl rfl rfl ?_
        refine S_icmp_lt (tgt := 14) rfl rfl rfl hx2 (show (10 : Int32).toInt = 10 from rfl) (fun vh15 => ?_) (fun vh15 => ?_)
        · refine X_iconst (v := (0 : Int32)) rfl rfl rfl ?_
          refine LW_ireturn (st := []) rfl rfl rfl ?_
          refine S_if_eq (tgt := 49) rfl rfl rfl (show (0 : Int32).toInt = 0 from rfl) (fun vh16 => ?_) (fun q => absurd q (by omega))
          refine X_iconst (v := (-1 : Int32)) rfl rfl rfl ?_
          exact LW_ireturn (st := []) rfl rfl rfl ⟨_, rfl, rfl⟩
        · refine X_iload_n rfl rfl rfl rfl ?_
          refine X_iload_n rfl rfl rfl rfl ?_
          refine S_icmp_gt (tgt := 14) rfl rfl rfl hx2 rfl (fun vh17 => ?_) (fun vh17 => ?_)
          · refine X_iconst (v := (0 : Int32)) rfl rfl rfl ?_
            refine LW_ireturn (st := []) rfl rfl rfl ?_
            refine S_if_eq (tgt := 49) rfl rfl rfl (show (0 : Int32).toInt = 0 from rfl) (fun vh18 => ?_) (fun q => absurd q (by omega))
            refine X_iconst (v := (-1 : Int32)) rfl rfl rfl ?_
            exact LW_ireturn (st := []) rfl rfl rfl ⟨_, rfl, rfl⟩
          · refine X_iconst (v := (1 : Int32)) rfl rfl rfl ?_
            refine LW_goto (tgt := 15) rfl rfl ?_
            refine LW_ireturn (st := []) rfl rfl rfl ?_
            refine S_if_eq (tgt := 49) rfl rfl rfl (show (1 : Int32).toInt = 1 from rfl) (fun q => absurd q (by omega)) (fun vh19 => ?_)
            refine X_aload_n rfl rfl rfl rfl ?_
            refine X_iload_n rfl rfl rfl rfl ?_
            refine X_iload_n rfl rfl rfl rfl ?_
            refine X_bipush (v := (10 : Int32)) rfl rfl rfl ?_
            refine S_isub rfl rfl hx2 (show (10 : Int32).toInt = 10 from rfl) (by omega) (fun vz20 hvz20 => ?_)
            refine X_callV (as := [.int x1, .int vz20]) (st := []) rfl rfl rfl (by decide) rfl (Nat.le_of_ble_eq_true rfl) (by decide) (Nat.le_of_ble_eq_true rfl) rfl ((congrFun V.1 355).trans s_355) (by decide) ?_
            refine LW_ls (ls' := [some (.ref 355), some (.int x1), some (.int vz20)]) rfl ?_
            refine X_aload_n rfl rfl rfl rfl ?_
            refine X_getR (a := 356) rfl rfl rfl ((congrFun V.1 355).trans s_355) rfl ((congrFun (V.2.1 355 (by decide)) 0).trans r_355_0) ?_
            refine X_sipush (v := (356 : Int32)) rfl rfl rfl ?_
            refine X_bipush (v := (9 : Int32)) rfl rfl rfl ?_
            refine X_iload_n rfl rfl rfl rfl ?_
            refine S_imul rfl rfl (show (9 : Int32).toInt = 9 from rfl) hx1 (by omega) (fun vz21 hvz21 => ?_)
            refine S_iadd rfl rfl (show (356 : Int32).toInt = 356 from rfl) rfl (by omega) (fun vz22 hvz22 => ?_)
            refine X_iconst (v := (1 : Int32)) rfl rfl rfl ?_
            refine S_iadd rfl rfl rfl (show (1 : Int32).toInt = 1 from rfl) (by omega) (fun vz23 hvz23 => ?_)
            refine X_iload_n rfl rfl rfl rfl ?_
            refine S_iadd rfl rfl rfl rfl (by omega) (fun vz24 hvz24 => ?_)
            refine S_iald rfl rfl ((congrFun V.1 356).trans s_356) rfl (by omega) (fun vz25 evz25 => ?_)
            refine LW_ireturn (st := []) rfl rfl rfl ?_
            refine LW_goto (tgt := 50) rfl rfl ?_
            exact LW_ireturn (st := []) rfl rfl rfl ⟨_, rfl, rfl⟩
      · refine X_aload_n rfl rfl rfl rfl ?_
        refine X_iload_n rfl rfl rfl rfl ?_
        refine X_callV (as := [.int x1]) (st := []) rfl rfl rfl (by decide) rfl (Nat.le_of_ble_eq_true rfl) (by decide) (Nat.le_of_ble_eq_true rfl) rfl ((congrFun V.1 355).trans s_355) (by decide) ?_
        refine LW_ls (ls' := [some (.ref 355), some (.int x1)]) rfl ?_
        refine X_aload_n rfl rfl rfl rfl ?_
        refine X_getR (a := 356) rfl rfl rfl ((congrFun V.1 355).trans s_355) rfl ((congrFun (V.2.1 355 (by decide)) 0).trans r_355_0) ?_
        refine X_sipush (v := (356 : Int32)) rfl rfl rfl ?_
        refine X_bipush (v := (9 : Int32)) rfl rfl rfl ?_
        refine X_iload_n rfl rfl rfl rfl ?_
        refine S_imul rfl rfl (show (9 : Int32).toInt = 9 from rfl) hx1 (by omega) (fun vz26 hvz26 => ?_)
        refine S_iadd rfl rfl (show (356 : Int32).toInt = 356 from rfl) rfl (by omega) (fun vz27 hvz27 => ?_)
        refine S_iald rfl rfl ((congrFun V.1 356).trans s_356) rfl (by omega) (fun vz28 evz28 => ?_)
        have vf29 := A_SCOUNT (V.2.2.2.1 ((vz27.toInt : Int).toNat)) (by omega)
        rw [evz28] at vf29
        refine LW_ireturn (st := []) rfl rfl rfl ?_
        exact LW_ireturn (st := []) rfl rfl rfl ⟨_, rfl, rfl⟩
set_option maxRecDepth 10000 in
set_option maxHeartbeats 40000000 in
theorem C_X13_written {P : Par} {g : LH} {d : Nat}  (V : InvR P g) (x1 : Int32) (y1 : Int) (hx1 : x1.toInt = y1) (hf1 : 0 ≤ y1 ∧ y1 ≤ 25)   : LW 273 (d + 5) 0 0 0 (lEnt (mL 273) [.ref 355, .int x1]) [] g (fun v g' => ∃ r : Int32, v = some (.int r) ∧ g = g') := by
  refine LW_ls (ls' := [some (.ref 355), some (.int x1)]) rfl ?_
  refine X_aload_n rfl rfl rfl rfl ?_
  refine X_iload_n rfl rfl rfl rfl ?_
  refine X_callV (as := [.int x1]) (st := []) rfl rfl rfl (by decide) rfl (Nat.le_of_ble_eq_true rfl) (by decide) (Nat.le_of_ble_eq_true rfl) rfl ((congrFun V.1 355).trans s_355) (by decide) ?_
  refine LW_ls (ls' := [some (.ref 355), some (.int x1)]) rfl ?_
  refine X_aload_n rfl rfl rfl rfl ?_
  refine X_getR (a := 356) rfl rfl rfl ((congrFun V.1 355).trans s_355) rfl ((congrFun (V.2.1 355 (by decide)) 0).trans r_355_0) ?_
  refine X_bipush (v := (7 : Int32)) rfl rfl rfl ?_
  refine S_iald rfl rfl ((congrFun V.1 356).trans s_356) (show (7 : Int32).toInt = 7 from rfl) (by omega) (fun vz1 evz1 => ?_)
  have evz1 : Gi g 356 7 = vz1 := evz1
  refine X_iload_n rfl rfl rfl rfl ?_
  refine X_callS (as := [.int vz1, .int x1]) (st := []) rfl rfl rfl (by decide) rfl (Nat.le_of_ble_eq_true rfl) (by decide) (Nat.le_of_ble_eq_true rfl) rfl ?_
  refine LW_ls (ls' := [some (.int vz1), some (.int x1)]) rfl ?_
  refine X_iload_n rfl rfl rfl rfl ?_
  refine X_iload_n rfl rfl rfl rfl ?_
  refine S_ishrT rfl rfl (fun vz2 => ?_)
  refine X_iconst (v := (1 : Int32)) rfl rfl rfl ?_
  refine S_iandR (k := 1) rfl rfl rfl (fun vz3 hvz3 => ?_)
  refine X_iconst (v := (1 : Int32)) rfl rfl rfl ?_
  refine S_icmp_ne (tgt := 13) rfl rfl rfl rfl (show (1 : Int32).toInt = 1 from rfl) (fun vh4 => ?_) (fun vh4 => ?_)
  · refine X_iconst (v := (0 : Int32)) rfl rfl rfl ?_
    refine LW_ireturn (st := []) rfl rfl rfl ?_
    refine LW_ireturn (st := []) rfl rfl rfl ?_
    refine S_if_eq (tgt := 35) rfl rfl rfl (show (0 : Int32).toInt = 0 from rfl) (fun vh5 => ?_) (fun q => absurd q (by omega))
    refine X_iload_n rfl rfl rfl rfl ?_
    exact LW_ireturn (st := []) rfl rfl rfl ⟨_, rfl, rfl⟩
  · refine X_iconst (v := (1 : Int32)) rfl rfl rfl ?_
    refine LW_goto (tgt := 14) rfl rfl ?_
    refine LW_ireturn (st := []) rfl rfl rfl ?_
    refine LW_ireturn (st := []) rfl rfl rfl ?_
    refine S_if_eq (tgt := 35) rfl rfl rfl (show (1 : Int32).toInt = 1 from rfl) (fun q => absurd q (by omega)) (fun vh6 => ?_)
    refine X_aload_n rfl rfl rfl rfl ?_
    refine X_getR (a := 356) rfl rfl rfl ((congrFun V.1 355).trans s_355) rfl ((congrFun (V.2.1 355 (by decide)) 0).trans r_355_0) ?_
    refine X_bipush (v := (64 : Int32)) rfl rfl rfl ?_
    refine X_iload_n rfl rfl rfl rfl ?_
    refine S_iadd rfl rfl (show (64 : Int32).toInt = 64 from rfl) hx1 (by omega) (fun vz7 hvz7 => ?_)
    refine S_iald rfl rfl ((congrFun V.1 356).trans s_356) rfl (by omega) (fun vz8 evz8 => ?_)
    refine S_if_lt (tgt := 35) rfl rfl rfl rfl (fun vh9 => ?_) (fun vh9 => ?_)
    · refine X_iload_n rfl rfl rfl rfl ?_
      exact LW_ireturn (st := []) rfl rfl rfl ⟨_, rfl, rfl⟩
    · refine X_bipush (v := (100 : Int32)) rfl rfl rfl ?_
      refine X_aload_n rfl rfl rfl rfl ?_
      refine X_getR (a := 356) rfl rfl rfl ((congrFun V.1 355).trans s_355) rfl ((congrFun (V.2.1 355 (by decide)) 0).trans r_355_0) ?_
      refine X_bipush (v := (64 : Int32)) rfl rfl rfl ?_
      refine X_iload_n rfl rfl rfl rfl ?_
      refine S_iadd rfl rfl (show (64 : Int32).toInt = 64 from rfl) hx1 (by omega) (fun vz10 hvz10 => ?_)
      refine S_iald rfl rfl ((congrFun V.1 356).trans s_356) rfl (by omega) (fun vz11 evz11 => ?_)
      refine S_iaddT rfl rfl (fun vz12 => ?_)
      refine LW_goto (tgt := 36) rfl rfl ?_
      exact LW_ireturn (st := []) rfl rfl rfl ⟨_, rfl, rfl⟩
set_option maxRecDepth 10000 in
set_option maxHeartbeats 40000000 in
theorem C_X13_mistaken_38 {P : Par} {g : LH} {d n : Nat}  (V : InvR P g) (x1 : Int32) (y1 : Int) (hx1 : x1.toInt = y1) (hf1 : 0 ≤ y1 ∧ y1 ≤ 23) (x2 : Int32) (y2 : Int) (hx2 : x2.toInt = y2) (hf2 : 0 ≤ y2 ∧ y2 ≤ 23) (x3 : Int32) (y3 : Int) (hx3 : x3.toInt = y3) (hf3 : 0 ≤ y3 ∧ y3 ≤ 8) (hc356_0 : 1 ≤ (Gi g 356 0).toInt ∧ (Gi g 356 0).toInt ≤ 24) (hmu : (8 - y3) * 1 + 0 < (n : Int) + 1) (ih38 : ∀ (V : InvR P g) (x1 : Int32) (y1 : Int) (hx1 : x1.toInt = y1) (hf1 : 0 ≤ y1 ∧ y1 ≤ 23) (x2 : Int32) (y2 : Int) (hx2 : x2.toInt = y2) (hf2 : 0 ≤ y2 ∧ y2 ≤ 23) (x3 : Int32) (y3 : Int) (hx3 : x3.toInt = y3) (hf3 : 0 ≤ y3 ∧ y3 ≤ 8) (hc356_0 : 1 ≤ (Gi g 356 0).toInt ∧ (Gi g 356 0).toInt ≤ 24), (8 - y3) * 1 + 0 < (n : Int) → LW 274 (d + 11) 0 0 38 [some (.ref 355), some (.int x1), some (.int x2), some (.int x3)] [] g (fun v g' => ∃ r : Int32, v = some (.int r) ∧ 0 ≤ r.toInt ∧ r.toInt ≤ 1 ∧ g = g')) : LW 274 (d + 11) 0 0 38 [some (.ref 355), some (.int x1), some (.int x2), some (.int x3)] [] g (fun v g' => ∃ r : Int32, v = some (.int r) ∧ 0 ≤ r.toInt ∧ r.toInt ≤ 1 ∧ g = g') := by
  obtain ⟨vz1, evz1⟩ : ∃ z, Gi g 356 0 = z := ⟨_, rfl⟩
  rw [evz1] at hc356_0
  refine X_iload_n rfl rfl rfl rfl ?_
  refine X_aload_n rfl rfl rfl rfl ?_
  refine X_iload_n rfl rfl rfl rfl ?_
  refine X_callV (as := [.int x1]) (st := [.int x3]) rfl rfl rfl (by decide) rfl (Nat.le_of_ble_eq_true rfl) (by decide) (Nat.le_of_ble_eq_true rfl) rfl ((congrFun V.1 355).trans s_355) (by decide) ?_
  refine LW_ls (ls' := [some (.ref 355), some (.int x1)]) rfl ?_
  refine X_aload_n rfl rfl rfl rfl ?_
  refine X_getR (a := 356) rfl rfl rfl ((congrFun V.1 355).trans s_355) rfl ((congrFun (V.2.1 355 (by decide)) 0).trans r_355_0) ?_
  refine X_bipush (v := (116 : Int32)) rfl rfl rfl ?_
  refine X_bipush (v := (10 : Int32)) rfl rfl rfl ?_
  refine X_iload_n rfl rfl rfl rfl ?_
  refine S_imul rfl rfl (show (10 : Int32).toInt = 10 from rfl) hx1 (by omega) (fun vz2 hvz2 => ?_)
  refine S_iadd rfl rfl (show (116 : Int32).toInt = 116 from rfl) rfl (by omega) (fun vz3 hvz3 => ?_)
  refine X_bipush (v := (8 : Int32)) rfl rfl rfl ?_
  refine S_iadd rfl rfl rfl (show (8 : Int32).toInt = 8 from rfl) (by omega) (fun vz4 hvz4 => ?_)
  refine S_iald rfl rfl ((congrFun V.1 356).trans s_356) rfl (by omega) (fun vz5 evz5 => ?_)
  have vf6 := A_LENGTH (V.2.2.2.1 ((vz4.toInt : Int).toNat)) (by omega)
  rw [evz5] at vf6
  refine LW_ireturn (st := []) rfl rfl rfl ?_
  refine S_icmp_ge (tgt := 78) rfl rfl rfl hx3 rfl (fun vh7 => ?_) (fun vh7 => ?_)
  · refine X_iconst (v := (1 : Int32)) rfl rfl rfl ?_
    exact LW_ireturn (st := []) rfl rfl rfl ⟨_, rfl, by decide, by decide, rfl⟩
  · refine X_aload_n rfl rfl rfl rfl ?_
    refine X_aload_n rfl rfl rfl rfl ?_
    refine X_iload_n rfl rfl rfl rfl ?_
    refine X_iload_n rfl rfl rfl rfl ?_
    refine X_callV (as := [.int x1, .int x3]) (st := [.ref 355]) rfl rfl rfl (by decide) rfl (Nat.le_of_ble_eq_true rfl) (by decide) (Nat.le_of_ble_eq_true rfl) rfl ((congrFun V.1 355).trans s_355) (by decide) ?_
    refine LW_ls (ls' := [some (.ref 355), some (.int x1), some (.int x3)]) rfl ?_
    refine X_aload_n rfl rfl rfl rfl ?_
    refine X_getR (a := 356) rfl rfl rfl ((congrFun V.1 355).trans s_355) rfl ((congrFun (V.2.1 355 (by decide)) 0).trans r_355_0) ?_
    refine X_bipush (v := (116 : Int32)) rfl rfl rfl ?_
    refine X_bipush (v := (10 : Int32)) rfl rfl rfl ?_
    refine X_iload_n rfl rfl rfl rfl ?_
    refine S_imul rfl rfl (show (10 : Int32).toInt = 10 from rfl) hx1 (by omega) (fun vz8 hvz8 => ?_)
    refine S_iadd rfl rfl (show (116 : Int32).toInt = 116 from rfl) rfl (by omega) (fun vz9 hvz9 => ?_)
    refine X_iload_n rfl rfl rfl rfl ?_
    refine S_iadd rfl rfl rfl hx3 (by omega) (fun vz10 hvz10 => ?_)
    refine S_iald rfl rfl ((congrFun V.1 356).trans s_356) rfl (by omega) (fun vz11 evz11 => ?_)
    have vf12 := A_LETTER (V.2.2.2.1 ((vz10.toInt : Int).toNat)) (by omega)
    rw [evz11] at vf12
    refine LW_ireturn (st := []) rfl rfl rfl ?_
    refine Y_callV (as := [.int vz11]) (st := []) rfl rfl rfl (by decide) rfl (Nat.le_of_ble_eq_true rfl) (by decide) (Nat.le_of_ble_eq_true rfl) rfl ((congrFun V.1 355).trans s_355) (by decide) (C_X13_written V vz11 vz11.toInt rfl (by omega) ) ?_
    rintro _ g' ⟨vr13, rfl, hgg⟩
    subst hgg
    refine X_aload_n rfl rfl rfl rfl ?_
    refine X_aload_n rfl rfl rfl rfl ?_
    refine X_iload_n rfl rfl rfl rfl ?_
    refine X_iload_n rfl rfl rfl rfl ?_
    refine X_callV (as := [.int x2, .int x3]) (st := [.ref 355, .int vr13]) rfl rfl rfl (by decide) rfl (Nat.le_of_ble_eq_true rfl) (by decide) (Nat.le_of_ble_eq_true rfl) rfl ((congrFun V.1 355).trans s_355) (by decide) ?_
    refine LW_ls (ls' := [some (.ref 355), some (.int x2), some (.int x3)]) rfl ?_
    refine X_aload_n rfl rfl rfl rfl ?_
    refine X_getR (a := 356) rfl rfl rfl ((congrFun V.1 355).trans s_355) rfl ((congrFun (V.2.1 355 (by decide)) 0).trans r_355_0) ?_
    refine X_bipush (v := (116 : Int32)) rfl rfl rfl ?_
    refine X_bipush (v := (10 : Int32)) rfl rfl rfl ?_
    refine X_iload_n rfl rfl rfl rfl ?_
    refine S_imul rfl rfl (show (10 : Int32).toInt = 10 from rfl) hx2 (by omega) (fun vz14 hvz14 => ?_)
    refine S_iadd rfl rfl (show (116 : Int32).toInt = 116 from rfl) rfl (by omega) (fun vz15 hvz15 => ?_)
    refine X_iload_n rfl rfl rfl rfl ?_
    refine S_iadd rfl rfl rfl hx3 (by omega) (fun vz16 hvz16 => ?_)
    refine S_iald rfl rfl ((congrFun V.1 356).trans s_356) rfl (by omega) (fun vz17 evz17 => ?_)
    have vf18 := A_LETTER (V.2.2.2.1 ((vz16.toInt : Int).toNat)) (by omega)
    rw [evz17] at vf18
    refine LW_ireturn (st := []) rfl rfl rfl ?_
    refine Y_callV (as := [.int vz17]) (st := [.int vr13]) rfl rfl rfl (by decide) rfl (Nat.le_of_ble_eq_true rfl) (by decide) (Nat.le_of_ble_eq_true rfl) rfl ((congrFun V.1 355).trans s_355) (by decide) (C_X13_written V vz17 vz17.toInt rfl (by omega) ) ?_
    rintro _ g' ⟨vr19, rfl, hgg⟩
    subst hgg
    refine S_icmp_eq (tgt := 72) rfl rfl rfl rfl rfl (fun vh20 => ?_) (fun vh20 => ?_)
    · refine S_iinc (c := 1) rfl rfl rfl hx3 rfl (by omega) (fun vz21 hvz21 => ?_)
      refine LW_ls (ls' := [some (.ref 355), some (.int x1), some (.int x2), some (.int vz21)]) rfl ?_
      refine LW_goto (tgt := 38) rfl rfl ?_
      exact ih38 V x1 y1 hx1 (by omega) x2 y2 hx2 (by omega) vz21 vz21.toInt rfl (by omega) (by rw [evz1]; omega)   (by omega)
    · refine X_iconst (v := (0 : Int32)) rfl rfl rfl ?_
      exact LW_ireturn (st := []) rfl rfl rfl ⟨_, rfl, by decide, by decide, rfl⟩
theorem C_X13_mistaken_all {P : Par} {g : LH} {d : Nat}  : ∀ n : Nat, (∀ (V : InvR P g) (x1 : Int32) (y1 : Int) (hx1 : x1.toInt = y1) (hf1 : 0 ≤ y1 ∧ y1 ≤ 23) (x2 : Int32) (y2 : Int) (hx2 : x2.toInt = y2) (hf2 : 0 ≤ y2 ∧ y2 ≤ 23) (x3 : Int32) (y3 : Int) (hx3 : x3.toInt = y3) (hf3 : 0 ≤ y3 ∧ y3 ≤ 8) (hc356_0 : 1 ≤ (Gi g 356 0).toInt ∧ (Gi g 356 0).toInt ≤ 24), (8 - y3) * 1 + 0 < (n : Int) → LW 274 (d + 11) 0 0 38 [some (.ref 355), some (.int x1), some (.int x2), some (.int x3)] [] g (fun v g' => ∃ r : Int32, v = some (.int r) ∧ 0 ≤ r.toInt ∧ r.toInt ≤ 1 ∧ g = g')) := by
  intro n
  induction n with
  | zero => exact fun V x1 y1 hx1 hf1 x2 y2 hx2 hf2 x3 y3 hx3 hf3 hc356_0 hmu => absurd hmu (by omega)
  | succ n ih => exact fun V x1 y1 hx1 hf1 x2 y2 hx2 hf2 x3 y3 hx3 hf3 hc356_0 hmu => C_X13_mistaken_38  V x1 y1 hx1 hf1 x2 y2 hx2 hf2 x3 y3 hx3 hf3 hc356_0 (by omega) ih
set_option maxRecDepth 10000 in
set_option maxHeartbeats 40000000 in
theorem C_X13_mistaken {P : Par} {g : LH} {d : Nat}  (V : InvR P g) (x1 : Int32) (y1 : Int) (hx1 : x1.toInt = y1) (x2 : Int32) (y2 : Int) (hx2 : x2.toInt = y2)   : LW 274 (d + 11) 0 0 0 (lEnt (mL 274) [.ref 355, .int x1, .int x2]) [] g (fun v g' => ∃ r : Int32, v = some (.int r) ∧ 0 ≤ r.toInt ∧ r.toInt ≤ 1 ∧ g = g') := by
  refine LW_ls (ls' := [some (.ref 355), some (.int x1), some (.int x2), none]) rfl ?_
  refine X_aload_n rfl rfl rfl rfl ?_
  refine X_iload_n rfl rfl rfl rfl ?_
  refine X_callV (as := [.int x1]) (st := []) rfl rfl rfl (by decide) rfl (Nat.le_of_ble_eq_true rfl) (by decide) (Nat.le_of_ble_eq_true rfl) rfl ((congrFun V.1 355).trans s_355) (by decide) ?_
  refine LW_ls (ls' := [some (.ref 355), some (.int x1)]) rfl ?_
  refine X_iload_n rfl rfl rfl rfl ?_
  refine X_iconst (v := (0 : Int32)) rfl rfl rfl ?_
  refine X_aload_n rfl rfl rfl rfl ?_
  refine X_getR (a := 356) rfl rfl rfl ((congrFun V.1 355).trans s_355) rfl ((congrFun (V.2.1 355 (by decide)) 0).trans r_355_0) ?_
  refine X_iconst (v := (0 : Int32)) rfl rfl rfl ?_
  refine S_iald rfl rfl ((congrFun V.1 356).trans s_356) (show (0 : Int32).toInt = 0 from rfl) (by omega) (fun vz1 evz1 => ?_)
  have evz1 : Gi g 356 0 = vz1 := evz1
  have vf2 := A_WORDS (V.2.2.2.1 (0)) (by omega)
  rw [evz1] at vf2
  refine X_iconst (v := (1 : Int32)) rfl rfl rfl ?_
  refine S_isub rfl rfl rfl (show (1 : Int32).toInt = 1 from rfl) (by omega) (fun vz3 hvz3 => ?_)
  refine X_callS (as := [.int x1, .int (0 : Int32), .int vz3]) (st := []) rfl rfl rfl (by decide) rfl (Nat.le_of_ble_eq_true rfl) (by decide) (Nat.le_of_ble_eq_true rfl) rfl ?_
  refine LW_ls (ls' := [some (.int x1), some (.int (0 : Int32)), some (.int vz3)]) rfl ?_
  refine X_iload_n rfl rfl rfl rfl ?_
  refine X_iload_n rfl rfl rfl rfl ?_
  refine S_icmp_lt (tgt := 14) rfl rfl rfl hx1 (show (0 : Int32).toInt = 0 from rfl) (fun vh4 => ?_) (fun vh4 => ?_)
  · refine X_iconst (v := (0 : Int32)) rfl rfl rfl ?_
    refine LW_ireturn (st := []) rfl rfl rfl ?_
    refine LW_ireturn (st := []) rfl rfl rfl ?_
    refine S_if_eq (tgt := 34) rfl rfl rfl (show (0 : Int32).toInt = 0 from rfl) (fun vh5 => ?_) (fun q => absurd q (by omega))
    refine X_iconst (v := (0 : Int32)) rfl rfl rfl ?_
    exact LW_ireturn (st := []) rfl rfl rfl ⟨_, rfl, by decide, by decide, rfl⟩
  · refine X_iload_n rfl rfl rfl rfl ?_
    refine X_iload_n rfl rfl rfl rfl ?_
    refine S_icmp_gt (tgt := 14) rfl rfl rfl hx1 rfl (fun vh6 => ?_) (fun vh6 => ?_)
    · refine X_iconst (v := (0 : Int32)) rfl rfl rfl ?_
      refine LW_ireturn (st := []) rfl rfl rfl ?_
      refine LW_ireturn (st := []) rfl rfl rfl ?_
      refine S_if_eq (tgt := 34) rfl rfl rfl (show (0 : Int32).toInt = 0 from rfl) (fun vh7 => ?_) (fun q => absurd q (by omega))
      refine X_iconst (v := (0 : Int32)) rfl rfl rfl ?_
      exact LW_ireturn (st := []) rfl rfl rfl ⟨_, rfl, by decide, by decide, rfl⟩
    · refine X_iconst (v := (1 : Int32)) rfl rfl rfl ?_
      refine LW_goto (tgt := 15) rfl rfl ?_
      refine LW_ireturn (st := []) rfl rfl rfl ?_
      refine LW_ireturn (st := []) rfl rfl rfl ?_
      refine S_if_eq (tgt := 34) rfl rfl rfl (show (1 : Int32).toInt = 1 from rfl) (fun q => absurd q (by omega)) (fun vh8 => ?_)
      refine X_aload_n rfl rfl rfl rfl ?_
      refine X_iload_n rfl rfl rfl rfl ?_
      refine X_callV (as := [.int x2]) (st := []) rfl rfl rfl (by decide) rfl (Nat.le_of_ble_eq_true rfl) (by decide) (Nat.le_of_ble_eq_true rfl) rfl ((congrFun V.1 355).trans s_355) (by decide) ?_
      refine LW_ls (ls' := [some (.ref 355), some (.int x2)]) rfl ?_
      refine X_iload_n rfl rfl rfl rfl ?_
      refine X_iconst (v := (0 : Int32)) rfl rfl rfl ?_
      refine X_aload_n rfl rfl rfl rfl ?_
      refine X_getR (a := 356) rfl rfl rfl ((congrFun V.1 355).trans s_355) rfl ((congrFun (V.2.1 355 (by decide)) 0).trans r_355_0) ?_
      refine X_iconst (v := (0 : Int32)) rfl rfl rfl ?_
      refine S_iald_v rfl rfl ((congrFun V.1 356).trans s_356) (show (0 : Int32).toInt = 0 from rfl) (by omega) evz1 ?_
      refine X_iconst (v := (1 : Int32)) rfl rfl rfl ?_
      refine S_isub rfl rfl rfl (show (1 : Int32).toInt = 1 from rfl) (by omega) (fun vz10 hvz10 => ?_)
      refine X_callS (as := [.int x2, .int (0 : Int32), .int vz10]) (st := []) rfl rfl rfl (by decide) rfl (Nat.le_of_ble_eq_true rfl) (by decide) (Nat.le_of_ble_eq_true rfl) rfl ?_
      refine LW_ls (ls' := [some (.int x2), some (.int (0 : Int32)), some (.int vz10)]) rfl ?_
      refine X_iload_n rfl rfl rfl rfl ?_
      refine X_iload_n rfl rfl rfl rfl ?_
      refine S_icmp_lt (tgt := 14) rfl rfl rfl hx2 (show (0 : Int32).toInt = 0 from rfl) (fun vh11 => ?_) (fun vh11 => ?_)
      · refine X_iconst (v := (0 : Int32)) rfl rfl rfl ?_
        refine LW_ireturn (st := []) rfl rfl rfl ?_
        refine LW_ireturn (st := []) rfl rfl rfl ?_
        refine S_if_eq (tgt := 34) rfl rfl rfl (show (0 : Int32).toInt = 0 from rfl) (fun vh12 => ?_) (fun q => absurd q (by omega))
        refine X_iconst (v := (0 : Int32)) rfl rfl rfl ?_
        exact LW_ireturn (st := []) rfl rfl rfl ⟨_, rfl, by decide, by decide, rfl⟩
      · refine X_iload_n rfl rfl rfl rfl ?_
        refine X_iload_n rfl rfl rfl rfl ?_
        refine S_icmp_gt (tgt := 14) rfl rfl rfl hx2 rfl (fun vh13 => ?_) (fun vh13 => ?_)
        · refine X_iconst (v := (0 : Int32)) rfl rfl rfl ?_
          refine LW_ireturn (st := []) rfl rfl rfl ?_
          refine LW_ireturn (st := []) rfl rfl rfl ?_
          refine S_if_eq (tgt := 34) rfl rfl rfl (show (0 : Int32).toInt = 0 from rfl) (fun vh14 => ?_) (fun q => absurd q (by omega))
          refine X_iconst (v := (0 : Int32)) rfl rfl rfl ?_
          exact LW_ireturn (st := []) rfl rfl rfl ⟨_, rfl, by decide, by decide, rfl⟩
        · refine X_iconst (v := (1 : Int32)) rfl rfl rfl ?_
          refine LW_goto (tgt := 15) rfl rfl ?_
          refine LW_ireturn (st := []) rfl rfl rfl ?_
          refine LW_ireturn (st := []) rfl rfl rfl ?_
          refine S_if_eq (tgt := 34) rfl rfl rfl (show (1 : Int32).toInt = 1 from rfl) (fun q => absurd q (by omega)) (fun vh15 => ?_)
          refine X_iload_n rfl rfl rfl rfl ?_
          refine X_iload_n rfl rfl rfl rfl ?_
          refine S_icmp_eq (tgt := 34) rfl rfl rfl hx1 hx2 (fun vh16 => ?_) (fun vh16 => ?_)
          · refine X_iconst (v := (0 : Int32)) rfl rfl rfl ?_
            exact LW_ireturn (st := []) rfl rfl rfl ⟨_, rfl, by decide, by decide, rfl⟩
          · refine X_aload_n rfl rfl rfl rfl ?_
            refine X_iload_n rfl rfl rfl rfl ?_
            refine X_callV (as := [.int x1]) (st := []) rfl rfl rfl (by decide) rfl (Nat.le_of_ble_eq_true rfl) (by decide) (Nat.le_of_ble_eq_true rfl) rfl ((congrFun V.1 355).trans s_355) (by decide) ?_
            refine LW_ls (ls' := [some (.ref 355), some (.int x1)]) rfl ?_
            refine X_aload_n rfl rfl rfl rfl ?_
            refine X_getR (a := 356) rfl rfl rfl ((congrFun V.1 355).trans s_355) rfl ((congrFun (V.2.1 355 (by decide)) 0).trans r_355_0) ?_
            refine X_bipush (v := (116 : Int32)) rfl rfl rfl ?_
            refine X_bipush (v := (10 : Int32)) rfl rfl rfl ?_
            refine X_iload_n rfl rfl rfl rfl ?_
            refine S_imul rfl rfl (show (10 : Int32).toInt = 10 from rfl) hx1 (by omega) (fun vz17 hvz17 => ?_)
            refine S_iadd rfl rfl (show (116 : Int32).toInt = 116 from rfl) rfl (by omega) (fun vz18 hvz18 => ?_)
            refine X_bipush (v := (8 : Int32)) rfl rfl rfl ?_
            refine S_iadd rfl rfl rfl (show (8 : Int32).toInt = 8 from rfl) (by omega) (fun vz19 hvz19 => ?_)
            refine S_iald rfl rfl ((congrFun V.1 356).trans s_356) rfl (by omega) (fun vz20 evz20 => ?_)
            have vf21 := A_LENGTH (V.2.2.2.1 ((vz19.toInt : Int).toNat)) (by omega)
            rw [evz20] at vf21
            refine LW_ireturn (st := []) rfl rfl rfl ?_
            refine X_aload_n rfl rfl rfl rfl ?_
            refine X_iload_n rfl rfl rfl rfl ?_
            refine X_callV (as := [.int x2]) (st := [.int vz20]) rfl rfl rfl (by decide) rfl (Nat.le_of_ble_eq_true rfl) (by decide) (Nat.le_of_ble_eq_true rfl) rfl ((congrFun V.1 355).trans s_355) (by decide) ?_
            refine LW_ls (ls' := [some (.ref 355), some (.int x2)]) rfl ?_
            refine X_aload_n rfl rfl rfl rfl ?_
            refine X_getR (a := 356) rfl rfl rfl ((congrFun V.1 355).trans s_355) rfl ((congrFun (V.2.1 355 (by decide)) 0).trans r_355_0) ?_
            refine X_bipush (v := (116 : Int32)) rfl rfl rfl ?_
            refine X_bipush (v := (10 : Int32)) rfl rfl rfl ?_
            refine X_iload_n rfl rfl rfl rfl ?_
            refine S_imul rfl rfl (show (10 : Int32).toInt = 10 from rfl) hx2 (by omega) (fun vz22 hvz22 => ?_)
            refine S_iadd rfl rfl (show (116 : Int32).toInt = 116 from rfl) rfl (by omega) (fun vz23 hvz23 => ?_)
            refine X_bipush (v := (8 : Int32)) rfl rfl rfl ?_
            refine S_iadd rfl rfl rfl (show (8 : Int32).toInt = 8 from rfl) (by omega) (fun vz24 hvz24 => ?_)
            refine S_iald rfl rfl ((congrFun V.1 356).trans s_356) rfl (by omega) (fun vz25 evz25 => ?_)
            have vf26 := A_LENGTH (V.2.2.2.1 ((vz24.toInt : Int).toNat)) (by omega)
            rw [evz25] at vf26
            refine LW_ireturn (st := []) rfl rfl rfl ?_
            refine S_icmp_eq (tgt := 36) rfl rfl rfl rfl rfl (fun vh27 => ?_) (fun vh27 => ?_)
            · refine X_iconst (v := (0 : Int32)) rfl rfl rfl ?_
              refine X_istore_n (i := 3) (ls' := [some (.ref 355), some (.int x1), some (.int x2), some (.int (0 : Int32))]) rfl rfl rfl (Nat.le_of_ble_eq_true rfl) rfl ?_
              exact (C_X13_mistaken_all (((8 - 0) * 1 + 0) + 1 : Int).toNat) V x1 y1 hx1 (by omega) x2 y2 hx2 (by omega) (0 : Int32) 0 (show (0 : Int32).toInt = 0 from rfl) (by omega) (by rw [evz1]; omega)   (by omega)
            · refine X_iconst (v := (0 : Int32)) rfl rfl rfl ?_
              exact LW_ireturn (st := []) rfl rfl rfl ⟨_, rfl, by decide, by decide, rfl⟩
set_option maxRecDepth 10000 in
set_option maxHeartbeats 40000000 in
theorem C_X13_firstRow_2 {P : Par} {g g0 : LH} {d n : Nat}  (V : InvR P g) (hG : Gr g = Gr g0) (x1 : Int32) (y1 : Int) (hx1 : x1.toInt = y1) (hf1 : 0 ≤ y1 ∧ y1 ≤ 4) (x2 : Int32) (y2 : Int) (hx2 : x2.toInt = y2) (hf2 : 0 ≤ y2 ∧ y2 ≤ 4)  (hmu : (4 - y2) * 1 + 0 < (n : Int) + 1) (ih2 : ∀ (g : LH) (V : InvR P g) (hG : Gr g = Gr g0) (x1 : Int32) (y1 : Int) (hx1 : x1.toInt = y1) (hf1 : 0 ≤ y1 ∧ y1 ≤ 4) (x2 : Int32) (y2 : Int) (hx2 : x2.toInt = y2) (hf2 : 0 ≤ y2 ∧ y2 ≤ 4) , (4 - y2) * 1 + 0 < (n : Int) → LW 278 (d + 3) 0 0 2 [some (.ref 355), some (.int x1), some (.int x2)] [] g (fun v g' => v = none ∧ InvR P g' ∧ Gr g' = Gr g0)) : LW 278 (d + 3) 0 0 2 [some (.ref 355), some (.int x1), some (.int x2)] [] g (fun v g' => v = none ∧ InvR P g' ∧ Gr g' = Gr g0) := by
  refine X_iload_n rfl rfl rfl rfl ?_
  refine X_iload_n rfl rfl rfl rfl ?_
  refine S_icmp_ge (tgt := 20) rfl rfl rfl hx2 hx1 (fun vh1 => ?_) (fun vh1 => ?_)
  · exact LW_return (st := []) rfl rfl ⟨rfl, V, hG⟩
  · refine X_aload_n rfl rfl rfl rfl ?_
    refine X_getR (a := 366) rfl rfl rfl ((congrFun V.1 355).trans s_355) rfl ((congrFun (V.2.1 355 (by decide)) 29).trans r_355_29) ?_
    refine X_iload_n rfl rfl rfl rfl ?_
    refine X_iload_n rfl rfl rfl rfl ?_
    refine S_iast (I := InvR _) rfl rfl ((congrFun V.1 366).trans s_366) hx2 (by omega) (InvR_putO V (by decide) trivial) (fun g V ve2 vn3 hq => ?_)
    have hG := hq.trans hG
    refine S_iinc (c := 1) rfl rfl rfl hx2 rfl (by omega) (fun vz4 hvz4 => ?_)
    refine LW_ls (ls' := [some (.ref 355), some (.int x1), some (.int vz4)]) rfl ?_
    refine LW_goto (tgt := 2) rfl rfl ?_
    exact ih2 _ V hG x1 y1 hx1 (by omega) vz4 vz4.toInt rfl (by omega)    (by omega)
theorem C_X13_firstRow_all {P : Par} {g0 : LH} {d : Nat}  : ∀ n : Nat, (∀ (g : LH) (V : InvR P g) (hG : Gr g = Gr g0) (x1 : Int32) (y1 : Int) (hx1 : x1.toInt = y1) (hf1 : 0 ≤ y1 ∧ y1 ≤ 4) (x2 : Int32) (y2 : Int) (hx2 : x2.toInt = y2) (hf2 : 0 ≤ y2 ∧ y2 ≤ 4) , (4 - y2) * 1 + 0 < (n : Int) → LW 278 (d + 3) 0 0 2 [some (.ref 355), some (.int x1), some (.int x2)] [] g (fun v g' => v = none ∧ InvR P g' ∧ Gr g' = Gr g0)) := by
  intro n
  induction n with
  | zero => exact fun g V hG x1 y1 hx1 hf1 x2 y2 hx2 hf2 hmu => absurd hmu (by omega)
  | succ n ih => exact fun g V hG x1 y1 hx1 hf1 x2 y2 hx2 hf2 hmu => C_X13_firstRow_2  V hG x1 y1 hx1 hf1 x2 y2 hx2 hf2 (by omega) ih
set_option maxRecDepth 10000 in
set_option maxHeartbeats 40000000 in
theorem C_X13_firstRow {P : Par} {g : LH} {d : Nat}  (V : InvR P g) (x1 : Int32) (y1 : Int) (hx1 : x1.toInt = y1) (hf1 : 0 ≤ y1 ∧ y1 ≤ 4)   : LW 278 (d + 3) 0 0 0 (lEnt (mL 278) [.ref 355, .int x1]) [] g (fun v g' => v = none ∧ InvR P g' ∧ Gr g' = Gr g) := by
  refine LW_ls (ls' := [some (.ref 355), some (.int x1), none]) rfl ?_
  have hG : Gr g = Gr g := rfl
  refine X_iconst (v := (0 : Int32)) rfl rfl rfl ?_
  refine X_istore_n (i := 2) (ls' := [some (.ref 355), some (.int x1), some (.int (0 : Int32))]) rfl rfl rfl (Nat.le_of_ble_eq_true rfl) rfl ?_
  exact (C_X13_firstRow_all (((4 - 0) * 1 + 0) + 1 : Int).toNat) _ V hG x1 y1 hx1 (by omega) (0 : Int32) 0 (show (0 : Int32).toInt = 0 from rfl) (by omega)    (by omega)
set_option maxRecDepth 10000 in
set_option maxHeartbeats 40000000 in
theorem C_X13_setOfRow_4 {P : Par} {g : LH} {d n : Nat}  (V : InvR P g) (x1 : Int32) (y1 : Int) (hx1 : x1.toInt = y1) (hf1 : 0 ≤ y1 ∧ y1 ≤ 4) (x2 : Int32) (y2 : Int) (hx2 : x2.toInt = y2) (x3 : Int32) (y3 : Int) (hx3 : x3.toInt = y3) (hf3 : 0 ≤ y3 ∧ y3 ≤ 4)  (hmu : (4 - y3) * 1 + 0 < (n : Int) + 1) (ih4 : ∀ (V : InvR P g) (x1 : Int32) (y1 : Int) (hx1 : x1.toInt = y1) (hf1 : 0 ≤ y1 ∧ y1 ≤ 4) (x2 : Int32) (y2 : Int) (hx2 : x2.toInt = y2) (x3 : Int32) (y3 : Int) (hx3 : x3.toInt = y3) (hf3 : 0 ≤ y3 ∧ y3 ≤ 4) , (4 - y3) * 1 + 0 < (n : Int) → LW 280 (d + 3) 0 0 4 [some (.ref 355), some (.int x1), some (.int x2), some (.int x3)] [] g (fun v g' => ∃ r : Int32, v = some (.int r) ∧ g = g')) : LW 280 (d + 3) 0 0 4 [some (.ref 355), some (.int x1), some (.int x2), some (.int x3)] [] g (fun v g' => ∃ r : Int32, v = some (.int r) ∧ g = g') := by
  refine X_iload_n rfl rfl rfl rfl ?_
  refine X_iload_n rfl rfl rfl rfl ?_
  refine S_icmp_ge (tgt := 26) rfl rfl rfl hx3 hx1 (fun vh1 => ?_) (fun vh1 => ?_)
  · refine X_iload_n rfl rfl rfl rfl ?_
    exact LW_ireturn (st := []) rfl rfl rfl ⟨_, rfl, rfl⟩
  · refine X_iload_n rfl rfl rfl rfl ?_
    refine X_iconst (v := (1 : Int32)) rfl rfl rfl ?_
    refine X_aload_n rfl rfl rfl rfl ?_
    refine X_getR (a := 366) rfl rfl rfl ((congrFun V.1 355).trans s_355) rfl ((congrFun (V.2.1 355 (by decide)) 29).trans r_355_29) ?_
    refine X_iload_n rfl rfl rfl rfl ?_
    refine S_iald rfl rfl ((congrFun V.1 366).trans s_366) hx3 (by omega) (fun vz2 evz2 => ?_)
    refine S_ishlT rfl rfl (fun vz3 => ?_)
    refine S_iorT rfl rfl (fun vz4 => ?_)
    refine X_istore_n (i := 2) (ls' := [some (.ref 355), some (.int x1), some (.int vz4), some (.int x3)]) rfl rfl rfl (Nat.le_of_ble_eq_true rfl) rfl ?_
    refine S_iinc (c := 1) rfl rfl rfl hx3 rfl (by omega) (fun vz5 hvz5 => ?_)
    refine LW_ls (ls' := [some (.ref 355), some (.int x1), some (.int vz4), some (.int vz5)]) rfl ?_
    refine LW_goto (tgt := 4) rfl rfl ?_
    exact ih4 V x1 y1 hx1 (by omega) vz4 vz4.toInt rfl vz5 vz5.toInt rfl (by omega)    (by omega)
theorem C_X13_setOfRow_all {P : Par} {g : LH} {d : Nat}  : ∀ n : Nat, (∀ (V : InvR P g) (x1 : Int32) (y1 : Int) (hx1 : x1.toInt = y1) (hf1 : 0 ≤ y1 ∧ y1 ≤ 4) (x2 : Int32) (y2 : Int) (hx2 : x2.toInt = y2) (x3 : Int32) (y3 : Int) (hx3 : x3.toInt = y3) (hf3 : 0 ≤ y3 ∧ y3 ≤ 4) , (4 - y3) * 1 + 0 < (n : Int) → LW 280 (d + 3) 0 0 4 [some (.ref 355), some (.int x1), some (.int x2), some (.int x3)] [] g (fun v g' => ∃ r : Int32, v = some (.int r) ∧ g = g')) := by
  intro n
  induction n with
  | zero => exact fun V x1 y1 hx1 hf1 x2 y2 hx2 x3 y3 hx3 hf3 hmu => absurd hmu (by omega)
  | succ n ih => exact fun V x1 y1 hx1 hf1 x2 y2 hx2 x3 y3 hx3 hf3 hmu => C_X13_setOfRow_4  V x1 y1 hx1 hf1 x2 y2 hx2 x3 y3 hx3 hf3 (by omega) ih
set_option maxRecDepth 10000 in
set_option maxHeartbeats 40000000 in
theorem C_X13_setOfRow {P : Par} {g : LH} {d : Nat}  (V : InvR P g) (x1 : Int32) (y1 : Int) (hx1 : x1.toInt = y1) (hf1 : 0 ≤ y1 ∧ y1 ≤ 4)   : LW 280 (d + 3) 0 0 0 (lEnt (mL 280) [.ref 355, .int x1]) [] g (fun v g' => ∃ r : Int32, v = some (.int r) ∧ g = g') := by
  refine LW_ls (ls' := [some (.ref 355), some (.int x1), none, none]) rfl ?_
  refine X_iconst (v := (0 : Int32)) rfl rfl rfl ?_
  refine X_istore_n (i := 2) (ls' := [some (.ref 355), some (.int x1), some (.int (0 : Int32)), none]) rfl rfl rfl (Nat.le_of_ble_eq_true rfl) rfl ?_
  refine X_iconst (v := (0 : Int32)) rfl rfl rfl ?_
  refine X_istore_n (i := 3) (ls' := [some (.ref 355), some (.int x1), some (.int (0 : Int32)), some (.int (0 : Int32))]) rfl rfl rfl (Nat.le_of_ble_eq_true rfl) rfl ?_
  exact (C_X13_setOfRow_all (((4 - 0) * 1 + 0) + 1 : Int).toNat) V x1 y1 hx1 (by omega) (0 : Int32) 0 (show (0 : Int32).toInt = 0 from rfl) (0 : Int32) 0 (show (0 : Int32).toInt = 0 from rfl) (by omega)    (by omega)
set_option maxRecDepth 10000 in
set_option maxHeartbeats 40000000 in
theorem C_X13_isHair_20 {P : Par} {g : LH} {d n : Nat}  (V : InvR P g) (x1 : Int32) (y1 : Int) (hx1 : x1.toInt = y1) (hf1 : 0 ≤ y1 ∧ y1 ≤ 23) (x2 : Int32) (y2 : Int) (hx2 : x2.toInt = y2) (hf2 : 0 ≤ y2 ∧ y2 ≤ 23) (x3 : Int32) (y3 : Int) (hx3 : x3.toInt = y3) (x4 : Int32) (y4 : Int) (hx4 : x4.toInt = y4) (hf4 : 0 ≤ y4 ∧ y4 ≤ 8)  (hmu : (8 - y4) * 1 + 0 < (n : Int) + 1) (ih20 : ∀ (V : InvR P g) (x1 : Int32) (y1 : Int) (hx1 : x1.toInt = y1) (hf1 : 0 ≤ y1 ∧ y1 ≤ 23) (x2 : Int32) (y2 : Int) (hx2 : x2.toInt = y2) (hf2 : 0 ≤ y2 ∧ y2 ≤ 23) (x3 : Int32) (y3 : Int) (hx3 : x3.toInt = y3) (x4 : Int32) (y4 : Int) (hx4 : x4.toInt = y4) (hf4 : 0 ≤ y4 ∧ y4 ≤ 8) , (8 - y4) * 1 + 0 < (n : Int) → LW 306 (d + 4) 0 0 20 [some (.ref 355), some (.int x1), some (.int x2), some (.int x3), some (.int x4)] [] g (fun v g' => ∃ r : Int32, v = some (.int r) ∧ 0 ≤ r.toInt ∧ r.toInt ≤ 1 ∧ g = g')) : LW 306 (d + 4) 0 0 20 [some (.ref 355), some (.int x1), some (.int x2), some (.int x3), some (.int x4)] [] g (fun v g' => ∃ r : Int32, v = some (.int r) ∧ 0 ≤ r.toInt ∧ r.toInt ≤ 1 ∧ g = g') := by
  refine X_iload rfl rfl rfl ?_
  refine X_aload_n rfl rfl rfl rfl ?_
  refine X_iload_n rfl rfl rfl rfl ?_
  refine X_callV (as := [.int x1]) (st := [.int x4]) rfl rfl rfl (by decide) rfl (Nat.le_of_ble_eq_true rfl) (by decide) (Nat.le_of_ble_eq_true rfl) rfl ((congrFun V.1 355).trans s_355) (by decide) ?_
  refine LW_ls (ls' := [some (.ref 355), some (.int x1)]) rfl ?_
  refine X_aload_n rfl rfl rfl rfl ?_
  refine X_getR (a := 356) rfl rfl rfl ((congrFun V.1 355).trans s_355) rfl ((congrFun (V.2.1 355 (by decide)) 0).trans r_355_0) ?_
  refine X_bipush (v := (116 : Int32)) rfl rfl rfl ?_
  refine X_bipush (v := (10 : Int32)) rfl rfl rfl ?_
  refine X_iload_n rfl rfl rfl rfl ?_
  refine S_imul rfl rfl (show (10 : Int32).toInt = 10 from rfl) hx1 (by omega) (fun vz1 hvz1 => ?_)
  refine S_iadd rfl rfl (show (116 : Int32).toInt = 116 from rfl) rfl (by omega) (fun vz2 hvz2 => ?_)
  refine X_bipush (v := (8 : Int32)) rfl rfl rfl ?_
  refine S_iadd rfl rfl rfl (show (8 : Int32).toInt = 8 from rfl) (by omega) (fun vz3 hvz3 => ?_)
  refine S_iald rfl rfl ((congrFun V.1 356).trans s_356) rfl (by omega) (fun vz4 evz4 => ?_)
  have vf5 := A_LENGTH (V.2.2.2.1 ((vz3.toInt : Int).toNat)) (by omega)
  rw [evz4] at vf5
  refine LW_ireturn (st := []) rfl rfl rfl ?_
  refine S_icmp_ge (tgt := 61) rfl rfl rfl hx4 rfl (fun vh6 => ?_) (fun vh6 => ?_)
  · refine X_iload_n rfl rfl rfl rfl ?_
    refine X_iconst (v := (1 : Int32)) rfl rfl rfl ?_
    refine S_icmp_ne (tgt := 70) rfl rfl rfl hx3 (show (1 : Int32).toInt = 1 from rfl) (fun vh7 => ?_) (fun vh7 => ?_)
    · refine X_iconst (v := (0 : Int32)) rfl rfl rfl ?_
      exact LW_ireturn (st := []) rfl rfl rfl ⟨_, rfl, by decide, by decide, rfl⟩
    · refine X_iconst (v := (1 : Int32)) rfl rfl rfl ?_
      refine LW_goto (tgt := 71) rfl rfl ?_
      exact LW_ireturn (st := []) rfl rfl rfl ⟨_, rfl, by decide, by decide, rfl⟩
  · refine X_iload_n rfl rfl rfl rfl ?_
    refine X_aload_n rfl rfl rfl rfl ?_
    refine X_iload_n rfl rfl rfl rfl ?_
    refine X_iload rfl rfl rfl ?_
    refine X_callV (as := [.int x1, .int x4]) (st := [.int x3]) rfl rfl rfl (by decide) rfl (Nat.le_of_ble_eq_true rfl) (by decide) (Nat.le_of_ble_eq_true rfl) rfl ((congrFun V.1 355).trans s_355) (by decide) ?_
    refine LW_ls (ls' := [some (.ref 355), some (.int x1), some (.int x4)]) rfl ?_
    refine X_aload_n rfl rfl rfl rfl ?_
    refine X_getR (a := 356) rfl rfl rfl ((congrFun V.1 355).trans s_355) rfl ((congrFun (V.2.1 355 (by decide)) 0).trans r_355_0) ?_
    refine X_bipush (v := (116 : Int32)) rfl rfl rfl ?_
    refine X_bipush (v := (10 : Int32)) rfl rfl rfl ?_
    refine X_iload_n rfl rfl rfl rfl ?_
    refine S_imul rfl rfl (show (10 : Int32).toInt = 10 from rfl) hx1 (by omega) (fun vz8 hvz8 => ?_)
    refine S_iadd rfl rfl (show (116 : Int32).toInt = 116 from rfl) rfl (by omega) (fun vz9 hvz9 => ?_)
    refine X_iload_n rfl rfl rfl rfl ?_
    refine S_iadd rfl rfl rfl hx4 (by omega) (fun vz10 hvz10 => ?_)
    refine S_iald rfl rfl ((congrFun V.1 356).trans s_356) rfl (by omega) (fun vz11 evz11 => ?_)
    have vf12 := A_LETTER (V.2.2.2.1 ((vz10.toInt : Int).toNat)) (by omega)
    rw [evz11] at vf12
    refine LW_ireturn (st := []) rfl rfl rfl ?_
    refine X_aload_n rfl rfl rfl rfl ?_
    refine X_iload_n rfl rfl rfl rfl ?_
    refine X_iload rfl rfl rfl ?_
    refine X_callV (as := [.int x2, .int x4]) (st := [.int vz11, .int x3]) rfl rfl rfl (by decide) rfl (Nat.le_of_ble_eq_true rfl) (by decide) (Nat.le_of_ble_eq_true rfl) rfl ((congrFun V.1 355).trans s_355) (by decide) ?_
    refine LW_ls (ls' := [some (.ref 355), some (.int x2), some (.int x4)]) rfl ?_
    refine X_aload_n rfl rfl rfl rfl ?_
    refine X_getR (a := 356) rfl rfl rfl ((congrFun V.1 355).trans s_355) rfl ((congrFun (V.2.1 355 (by decide)) 0).trans r_355_0) ?_
    refine X_bipush (v := (116 : Int32)) rfl rfl rfl ?_
    refine X_bipush (v := (10 : Int32)) rfl rfl rfl ?_
    refine X_iload_n rfl rfl rfl rfl ?_
    refine S_imul rfl rfl (show (10 : Int32).toInt = 10 from rfl) hx2 (by omega) (fun vz13 hvz13 => ?_)
    refine S_iadd rfl rfl (show (116 : Int32).toInt = 116 from rfl) rfl (by omega) (fun vz14 hvz14 => ?_)
    refine X_iload_n rfl rfl rfl rfl ?_
    refine S_iadd rfl rfl rfl hx4 (by omega) (fun vz15 hvz15 => ?_)
    refine S_iald rfl rfl ((congrFun V.1 356).trans s_356) rfl (by omega) (fun vz16 evz16 => ?_)
    have vf17 := A_LETTER (V.2.2.2.1 ((vz15.toInt : Int).toNat)) (by omega)
    rw [evz16] at vf17
    refine LW_ireturn (st := []) rfl rfl rfl ?_
    refine S_icmp_eq (tgt := 52) rfl rfl rfl rfl rfl (fun vh18 => ?_) (fun vh18 => ?_)
    · refine X_iconst (v := (0 : Int32)) rfl rfl rfl ?_
      refine S_iaddT rfl rfl (fun vz19 => ?_)
      refine X_istore_n (i := 3) (ls' := [some (.ref 355), some (.int x1), some (.int x2), some (.int vz19), some (.int x4)]) rfl rfl rfl (Nat.le_of_ble_eq_true rfl) rfl ?_
      refine S_iinc (c := 1) rfl rfl rfl hx4 rfl (by omega) (fun vz20 hvz20 => ?_)
      refine LW_ls (ls' := [some (.ref 355), some (.int x1), some (.int x2), some (.int vz19), some (.int vz20)]) rfl ?_
      refine LW_goto (tgt := 20) rfl rfl ?_
      exact ih20 V x1 y1 hx1 (by omega) x2 y2 hx2 (by omega) vz19 vz19.toInt rfl vz20 vz20.toInt rfl (by omega)    (by omega)
    · refine X_iconst (v := (1 : Int32)) rfl rfl rfl ?_
      refine LW_goto (tgt := 53) rfl rfl ?_
      refine S_iaddT rfl rfl (fun vz21 => ?_)
      refine X_istore_n (i := 3) (ls' := [some (.ref 355), some (.int x1), some (.int x2), some (.int vz21), some (.int x4)]) rfl rfl rfl (Nat.le_of_ble_eq_true rfl) rfl ?_
      refine S_iinc (c := 1) rfl rfl rfl hx4 rfl (by omega) (fun vz22 hvz22 => ?_)
      refine LW_ls (ls' := [some (.ref 355), some (.int x1), some (.int x2), some (.int vz21), some (.int vz22)]) rfl ?_
      refine LW_goto (tgt := 20) rfl rfl ?_
      exact ih20 V x1 y1 hx1 (by omega) x2 y2 hx2 (by omega) vz21 vz21.toInt rfl vz22 vz22.toInt rfl (by omega)    (by omega)
theorem C_X13_isHair_all {P : Par} {g : LH} {d : Nat}  : ∀ n : Nat, (∀ (V : InvR P g) (x1 : Int32) (y1 : Int) (hx1 : x1.toInt = y1) (hf1 : 0 ≤ y1 ∧ y1 ≤ 23) (x2 : Int32) (y2 : Int) (hx2 : x2.toInt = y2) (hf2 : 0 ≤ y2 ∧ y2 ≤ 23) (x3 : Int32) (y3 : Int) (hx3 : x3.toInt = y3) (x4 : Int32) (y4 : Int) (hx4 : x4.toInt = y4) (hf4 : 0 ≤ y4 ∧ y4 ≤ 8) , (8 - y4) * 1 + 0 < (n : Int) → LW 306 (d + 4) 0 0 20 [some (.ref 355), some (.int x1), some (.int x2), some (.int x3), some (.int x4)] [] g (fun v g' => ∃ r : Int32, v = some (.int r) ∧ 0 ≤ r.toInt ∧ r.toInt ≤ 1 ∧ g = g')) := by
  intro n
  induction n with
  | zero => exact fun V x1 y1 hx1 hf1 x2 y2 hx2 hf2 x3 y3 hx3 x4 y4 hx4 hf4 hmu => absurd hmu (by omega)
  | succ n ih => exact fun V x1 y1 hx1 hf1 x2 y2 hx2 hf2 x3 y3 hx3 x4 y4 hx4 hf4 hmu => C_X13_isHair_20  V x1 y1 hx1 hf1 x2 y2 hx2 hf2 x3 y3 hx3 x4 y4 hx4 hf4 (by omega) ih
set_option maxRecDepth 10000 in
set_option maxHeartbeats 40000000 in
theorem C_X13_isHair {P : Par} {g : LH} {d : Nat}  (V : InvR P g) (x1 : Int32) (y1 : Int) (hx1 : x1.toInt = y1) (hf1 : 0 ≤ y1 ∧ y1 ≤ 23) (x2 : Int32) (y2 : Int) (hx2 : x2.toInt = y2) (hf2 : 0 ≤ y2 ∧ y2 ≤ 23)   : LW 306 (d + 4) 0 0 0 (lEnt (mL 306) [.ref 355, .int x1, .int x2]) [] g (fun v g' => ∃ r : Int32, v = some (.int r) ∧ 0 ≤ r.toInt ∧ r.toInt ≤ 1 ∧ g = g') := by
  refine LW_ls (ls' := [some (.ref 355), some (.int x1), some (.int x2), none, none]) rfl ?_
  refine X_aload_n rfl rfl rfl rfl ?_
  refine X_iload_n rfl rfl rfl rfl ?_
  refine X_callV (as := [.int x1]) (st := []) rfl rfl rfl (by decide) rfl (Nat.le_of_ble_eq_true rfl) (by decide) (Nat.le_of_ble_eq_true rfl) rfl ((congrFun V.1 355).trans s_355) (by decide) ?_
  refine LW_ls (ls' := [some (.ref 355), some (.int x1)]) rfl ?_
  refine X_aload_n rfl rfl rfl rfl ?_
  refine X_getR (a := 356) rfl rfl rfl ((congrFun V.1 355).trans s_355) rfl ((congrFun (V.2.1 355 (by decide)) 0).trans r_355_0) ?_
  refine X_bipush (v := (116 : Int32)) rfl rfl rfl ?_
  refine X_bipush (v := (10 : Int32)) rfl rfl rfl ?_
  refine X_iload_n rfl rfl rfl rfl ?_
  refine S_imul rfl rfl (show (10 : Int32).toInt = 10 from rfl) hx1 (by omega) (fun vz1 hvz1 => ?_)
  refine S_iadd rfl rfl (show (116 : Int32).toInt = 116 from rfl) rfl (by omega) (fun vz2 hvz2 => ?_)
  refine X_bipush (v := (8 : Int32)) rfl rfl rfl ?_
  refine S_iadd rfl rfl rfl (show (8 : Int32).toInt = 8 from rfl) (by omega) (fun vz3 hvz3 => ?_)
  refine S_iald rfl rfl ((congrFun V.1 356).trans s_356) rfl (by omega) (fun vz4 evz4 => ?_)
  have vf5 := A_LENGTH (V.2.2.2.1 ((vz3.toInt : Int).toNat)) (by omega)
  rw [evz4] at vf5
  refine LW_ireturn (st := []) rfl rfl rfl ?_
  refine X_aload_n rfl rfl rfl rfl ?_
  refine X_iload_n rfl rfl rfl rfl ?_
  refine X_callV (as := [.int x2]) (st := [.int vz4]) rfl rfl rfl (by decide) rfl (Nat.le_of_ble_eq_true rfl) (by decide) (Nat.le_of_ble_eq_true rfl) rfl ((congrFun V.1 355).trans s_355) (by decide) ?_
  refine LW_ls (ls' := [some (.ref 355), some (.int x2)]) rfl ?_
  refine X_aload_n rfl rfl rfl rfl ?_
  refine X_getR (a := 356) rfl rfl rfl ((congrFun V.1 355).trans s_355) rfl ((congrFun (V.2.1 355 (by decide)) 0).trans r_355_0) ?_
  refine X_bipush (v := (116 : Int32)) rfl rfl rfl ?_
  refine X_bipush (v := (10 : Int32)) rfl rfl rfl ?_
  refine X_iload_n rfl rfl rfl rfl ?_
  refine S_imul rfl rfl (show (10 : Int32).toInt = 10 from rfl) hx2 (by omega) (fun vz6 hvz6 => ?_)
  refine S_iadd rfl rfl (show (116 : Int32).toInt = 116 from rfl) rfl (by omega) (fun vz7 hvz7 => ?_)
  refine X_bipush (v := (8 : Int32)) rfl rfl rfl ?_
  refine S_iadd rfl rfl rfl (show (8 : Int32).toInt = 8 from rfl) (by omega) (fun vz8 hvz8 => ?_)
  refine S_iald rfl rfl ((congrFun V.1 356).trans s_356) rfl (by omega) (fun vz9 evz9 => ?_)
  have vf10 := A_LENGTH (V.2.2.2.1 ((vz8.toInt : Int).toNat)) (by omega)
  rw [evz9] at vf10
  refine LW_ireturn (st := []) rfl rfl rfl ?_
  refine S_icmp_eq (tgt := 15) rfl rfl rfl rfl rfl (fun vh11 => ?_) (fun vh11 => ?_)
  · refine X_iconst (v := (0 : Int32)) rfl rfl rfl ?_
    refine X_istore_n (i := 3) (ls' := [some (.ref 355), some (.int x1), some (.int x2), some (.int (0 : Int32)), none]) rfl rfl rfl (Nat.le_of_ble_eq_true rfl) rfl ?_
    refine X_iconst (v := (0 : Int32)) rfl rfl rfl ?_
    refine X_istore (i := 4) (ls' := [some (.ref 355), some (.int x1), some (.int x2), some (.int (0 : Int32)), some (.int (0 : Int32))]) rfl rfl (Nat.le_of_ble_eq_true rfl) rfl ?_
    exact (C_X13_isHair_all (((8 - 0) * 1 + 0) + 1 : Int).toNat) V x1 y1 hx1 (by omega) x2 y2 hx2 (by omega) (0 : Int32) 0 (show (0 : Int32).toInt = 0 from rfl) (0 : Int32) 0 (show (0 : Int32).toInt = 0 from rfl) (by omega)    (by omega)
  · refine X_iconst (v := (0 : Int32)) rfl rfl rfl ?_
    exact LW_ireturn (st := []) rfl rfl rfl ⟨_, rfl, by decide, by decide, rfl⟩
set_option maxRecDepth 10000 in
set_option maxHeartbeats 40000000 in
theorem C_X13_hair_20 {P : Par} {g : LH} {d n : Nat}  (V : InvR P g) (x1 : Int32) (y1 : Int) (hx1 : x1.toInt = y1) (hf1 : 0 ≤ y1 ∧ y1 ≤ 23) (x2 : Int32) (y2 : Int) (hx2 : x2.toInt = y2) (hf2 : (-1) ≤ y2) (x3 : Int32) (y3 : Int) (hx3 : x3.toInt = y3) (x4 : Int32) (y4 : Int) (hx4 : x4.toInt = y4) (hf4 : 0 ≤ y4 ∧ y4 ≤ 24) (hc356_0 : 1 ≤ (Gi g 356 0).toInt ∧ (Gi g 356 0).toInt ≤ 24) (hmu : (24 - y4) * 1 + 0 < (n : Int) + 1) (ih20 : ∀ (V : InvR P g) (x1 : Int32) (y1 : Int) (hx1 : x1.toInt = y1) (hf1 : 0 ≤ y1 ∧ y1 ≤ 23) (x2 : Int32) (y2 : Int) (hx2 : x2.toInt = y2) (hf2 : (-1) ≤ y2) (x3 : Int32) (y3 : Int) (hx3 : x3.toInt = y3) (x4 : Int32) (y4 : Int) (hx4 : x4.toInt = y4) (hf4 : 0 ≤ y4 ∧ y4 ≤ 24) (hc356_0 : 1 ≤ (Gi g 356 0).toInt ∧ (Gi g 356 0).toInt ≤ 24), (24 - y4) * 1 + 0 < (n : Int) → LW 307 (d + 10) 0 0 20 [some (.ref 355), some (.int x1), some (.int x2), some (.int x3), some (.int x4)] [] g (fun v g' => ∃ r : Int32, v = some (.int r) ∧ g = g')) : LW 307 (d + 10) 0 0 20 [some (.ref 355), some (.int x1), some (.int x2), some (.int x3), some (.int x4)] [] g (fun v g' => ∃ r : Int32, v = some (.int r) ∧ g = g') := by
  obtain ⟨vz1, evz1⟩ : ∃ z, Gi g 356 0 = z := ⟨_, rfl⟩
  rw [evz1] at hc356_0
  refine X_iload rfl rfl rfl ?_
  refine X_aload_n rfl rfl rfl rfl ?_
  refine X_getR (a := 356) rfl rfl rfl ((congrFun V.1 355).trans s_355) rfl ((congrFun (V.2.1 355 (by decide)) 0).trans r_355_0) ?_
  refine X_iconst (v := (0 : Int32)) rfl rfl rfl ?_
  refine S_iald_v rfl rfl ((congrFun V.1 356).trans s_356) (show (0 : Int32).toInt = 0 from rfl) (by omega) evz1 ?_
  refine S_icmp_ge (tgt := 61) rfl rfl rfl hx4 rfl (fun vh3 => ?_) (fun vh3 => ?_)
  · refine X_iload_n rfl rfl rfl rfl ?_
    refine X_iconst (v := (-1 : Int32)) rfl rfl rfl ?_
    refine S_icmp_ne (tgt := 70) rfl rfl rfl hx2 (show (-1 : Int32).toInt = -1 from rfl) (fun vh4 => ?_) (fun vh4 => ?_)
    · refine X_iconst (v := (-1 : Int32)) rfl rfl rfl ?_
      exact LW_ireturn (st := []) rfl rfl rfl ⟨_, rfl, rfl⟩
    · refine X_iload_n rfl rfl rfl rfl ?_
      refine LW_goto (tgt := 71) rfl rfl ?_
      exact LW_ireturn (st := []) rfl rfl rfl ⟨_, rfl, rfl⟩
  · refine X_aload_n rfl rfl rfl rfl ?_
    refine X_iload rfl rfl rfl ?_
    refine X_iload_n rfl rfl rfl rfl ?_
    refine Y_callV (as := [.int x4, .int x1]) (st := []) rfl rfl rfl (by decide) rfl (Nat.le_of_ble_eq_true rfl) (by decide) (Nat.le_of_ble_eq_true rfl) rfl ((congrFun V.1 355).trans s_355) (by decide) (C_X13_isHair V x4 y4 hx4 (by omega) x1 y1 hx1 (by omega) ) ?_
    rintro _ g' ⟨vr5, rfl, hrvr50, hrvr51, hgg⟩
    subst hgg
    refine S_if_ne (tgt := 44) rfl rfl rfl rfl (fun vh6 => ?_) (fun vh6 => ?_)
    · refine X_iload_n rfl rfl rfl rfl ?_
      refine X_iload_n rfl rfl rfl rfl ?_
      refine S_icmp_ne (tgt := 52) rfl rfl rfl hx3 hx2 (fun vh7 => ?_) (fun vh7 => ?_)
      · refine S_iincT rfl rfl rfl (fun vz8 => ?_)
        refine LW_ls (ls' := [some (.ref 355), some (.int x1), some (.int x2), some (.int vz8), some (.int x4)]) rfl ?_
        refine S_iinc (c := 1) rfl rfl rfl hx4 rfl (by omega) (fun vz9 hvz9 => ?_)
        refine LW_ls (ls' := [some (.ref 355), some (.int x1), some (.int x2), some (.int vz8), some (.int vz9)]) rfl ?_
        refine LW_goto (tgt := 20) rfl rfl ?_
        exact ih20 V x1 y1 hx1 (by omega) x2 y2 hx2 (by omega) vz8 vz8.toInt rfl vz9 vz9.toInt rfl (by omega) (by rw [evz1]; omega)   (by omega)
      · refine X_iload rfl rfl rfl ?_
        exact LW_ireturn (st := []) rfl rfl rfl ⟨_, rfl, rfl⟩
    · refine LW_goto (tgt := 55) rfl rfl ?_
      refine S_iinc (c := 1) rfl rfl rfl hx4 rfl (by omega) (fun vz10 hvz10 => ?_)
      refine LW_ls (ls' := [some (.ref 355), some (.int x1), some (.int x2), some (.int x3), some (.int vz10)]) rfl ?_
      refine LW_goto (tgt := 20) rfl rfl ?_
      exact ih20 V x1 y1 hx1 (by omega) x2 y2 hx2 (by omega) x3 y3 hx3 vz10 vz10.toInt rfl (by omega) (by rw [evz1]; omega)   (by omega)
theorem C_X13_hair_all {P : Par} {g : LH} {d : Nat}  : ∀ n : Nat, (∀ (V : InvR P g) (x1 : Int32) (y1 : Int) (hx1 : x1.toInt = y1) (hf1 : 0 ≤ y1 ∧ y1 ≤ 23) (x2 : Int32) (y2 : Int) (hx2 : x2.toInt = y2) (hf2 : (-1) ≤ y2) (x3 : Int32) (y3 : Int) (hx3 : x3.toInt = y3) (x4 : Int32) (y4 : Int) (hx4 : x4.toInt = y4) (hf4 : 0 ≤ y4 ∧ y4 ≤ 24) (hc356_0 : 1 ≤ (Gi g 356 0).toInt ∧ (Gi g 356 0).toInt ≤ 24), (24 - y4) * 1 + 0 < (n : Int) → LW 307 (d + 10) 0 0 20 [some (.ref 355), some (.int x1), some (.int x2), some (.int x3), some (.int x4)] [] g (fun v g' => ∃ r : Int32, v = some (.int r) ∧ g = g')) := by
  intro n
  induction n with
  | zero => exact fun V x1 y1 hx1 hf1 x2 y2 hx2 hf2 x3 y3 hx3 x4 y4 hx4 hf4 hc356_0 hmu => absurd hmu (by have hb2 := ti_hi x2; omega)
  | succ n ih => exact fun V x1 y1 hx1 hf1 x2 y2 hx2 hf2 x3 y3 hx3 x4 y4 hx4 hf4 hc356_0 hmu => C_X13_hair_20  V x1 y1 hx1 hf1 x2 y2 hx2 hf2 x3 y3 hx3 x4 y4 hx4 hf4 hc356_0 (by omega) ih
set_option maxRecDepth 10000 in
set_option maxHeartbeats 40000000 in
theorem C_X13_hair {P : Par} {g : LH} {d : Nat}  (V : InvR P g) (x1 : Int32) (y1 : Int) (hx1 : x1.toInt = y1) (x2 : Int32) (y2 : Int) (hx2 : x2.toInt = y2)   : LW 307 (d + 10) 0 0 0 (lEnt (mL 307) [.ref 355, .int x1, .int x2]) [] g (fun v g' => ∃ r : Int32, v = some (.int r) ∧ g = g') := by
  refine LW_ls (ls' := [some (.ref 355), some (.int x1), some (.int x2), none, none]) rfl ?_
  refine X_aload_n rfl rfl rfl rfl ?_
  refine X_iload_n rfl rfl rfl rfl ?_
  refine X_callV (as := [.int x1]) (st := []) rfl rfl rfl (by decide) rfl (Nat.le_of_ble_eq_true rfl) (by decide) (Nat.le_of_ble_eq_true rfl) rfl ((congrFun V.1 355).trans s_355) (by decide) ?_
  refine LW_ls (ls' := [some (.ref 355), some (.int x1)]) rfl ?_
  refine X_iload_n rfl rfl rfl rfl ?_
  refine X_iconst (v := (0 : Int32)) rfl rfl rfl ?_
  refine X_aload_n rfl rfl rfl rfl ?_
  refine X_getR (a := 356) rfl rfl rfl ((congrFun V.1 355).trans s_355) rfl ((congrFun (V.2.1 355 (by decide)) 0).trans r_355_0) ?_
  refine X_iconst (v := (0 : Int32)) rfl rfl rfl ?_
  refine S_iald rfl rfl ((congrFun V.1 356).trans s_356) (show (0 : Int32).toInt = 0 from rfl) (by omega) (fun vz1 evz1 => ?_)
  have evz1 : Gi g 356 0 = vz1 := evz1
  have vf2 := A_WORDS (V.2.2.2.1 (0)) (by omega)
  rw [evz1] at vf2
  refine X_iconst (v := (1 : Int32)) rfl rfl rfl ?_
  refine S_isub rfl rfl rfl (show (1 : Int32).toInt = 1 from rfl) (by omega) (fun vz3 hvz3 => ?_)
  refine X_callS (as := [.int x1, .int (0 : Int32), .int vz3]) (st := []) rfl rfl rfl (by decide) rfl (Nat.le_of_ble_eq_true rfl) (by decide) (Nat.le_of_ble_eq_true rfl) rfl ?_
  refine LW_ls (ls' := [some (.int x1), some (.int (0 : Int32)), some (.int vz3)]) rfl ?_
  refine X_iload_n rfl rfl rfl rfl ?_
  refine X_iload_n rfl rfl rfl rfl ?_
  refine S_icmp_lt (tgt := 14) rfl rfl rfl hx1 (show (0 : Int32).toInt = 0 from rfl) (fun vh4 => ?_) (fun vh4 => ?_)
  · refine X_iconst (v := (0 : Int32)) rfl rfl rfl ?_
    refine LW_ireturn (st := []) rfl rfl rfl ?_
    refine LW_ireturn (st := []) rfl rfl rfl ?_
    refine S_if_eq (tgt := 13) rfl rfl rfl (show (0 : Int32).toInt = 0 from rfl) (fun vh5 => ?_) (fun q => absurd q (by omega))
    refine X_iconst (v := (-1 : Int32)) rfl rfl rfl ?_
    exact LW_ireturn (st := []) rfl rfl rfl ⟨_, rfl, rfl⟩
  · refine X_iload_n rfl rfl rfl rfl ?_
    refine X_iload_n rfl rfl rfl rfl ?_
    refine S_icmp_gt (tgt := 14) rfl rfl rfl hx1 rfl (fun vh6 => ?_) (fun vh6 => ?_)
    · refine X_iconst (v := (0 : Int32)) rfl rfl rfl ?_
      refine LW_ireturn (st := []) rfl rfl rfl ?_
      refine LW_ireturn (st := []) rfl rfl rfl ?_
      refine S_if_eq (tgt := 13) rfl rfl rfl (show (0 : Int32).toInt = 0 from rfl) (fun vh7 => ?_) (fun q => absurd q (by omega))
      refine X_iconst (v := (-1 : Int32)) rfl rfl rfl ?_
      exact LW_ireturn (st := []) rfl rfl rfl ⟨_, rfl, rfl⟩
    · refine X_iconst (v := (1 : Int32)) rfl rfl rfl ?_
      refine LW_goto (tgt := 15) rfl rfl ?_
      refine LW_ireturn (st := []) rfl rfl rfl ?_
      refine LW_ireturn (st := []) rfl rfl rfl ?_
      refine S_if_eq (tgt := 13) rfl rfl rfl (show (1 : Int32).toInt = 1 from rfl) (fun q => absurd q (by omega)) (fun vh8 => ?_)
      refine X_iload_n rfl rfl rfl rfl ?_
      refine X_iconst (v := (-1 : Int32)) rfl rfl rfl ?_
      refine S_icmp_ge (tgt := 15) rfl rfl rfl hx2 (show (-1 : Int32).toInt = -1 from rfl) (fun vh9 => ?_) (fun vh9 => ?_)
      · refine X_iconst (v := (0 : Int32)) rfl rfl rfl ?_
        refine X_istore_n (i := 3) (ls' := [some (.ref 355), some (.int x1), some (.int x2), some (.int (0 : Int32)), none]) rfl rfl rfl (Nat.le_of_ble_eq_true rfl) rfl ?_
        refine X_iconst (v := (0 : Int32)) rfl rfl rfl ?_
        refine X_istore (i := 4) (ls' := [some (.ref 355), some (.int x1), some (.int x2), some (.int (0 : Int32)), some (.int (0 : Int32))]) rfl rfl (Nat.le_of_ble_eq_true rfl) rfl ?_
        exact (C_X13_hair_all (((24 - 0) * 1 + 0) + 1 : Int).toNat) V x1 y1 hx1 (by omega) x2 y2 hx2 (by omega) (0 : Int32) 0 (show (0 : Int32).toInt = 0 from rfl) (0 : Int32) 0 (show (0 : Int32).toInt = 0 from rfl) (by omega) (by rw [evz1]; omega)   (by omega)
      · refine X_iconst (v := (-1 : Int32)) rfl rfl rfl ?_
        exact LW_ireturn (st := []) rfl rfl rfl ⟨_, rfl, rfl⟩
