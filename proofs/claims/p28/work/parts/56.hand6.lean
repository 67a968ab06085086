/-! the reference: by, party -/
set_option maxRecDepth 10000 in
set_option maxHeartbeats 40000000 in
theorem C_X13_by {P : Par} {g : LH} {d : Nat}  (V : InvR P g) (x1 : Int32) (y1 : Int) (hx1 : x1.toInt = y1)   : LW 237 (d + 4) 0 0 0 (lEnt (mL 237) [.ref 355, .int x1]) [] g (fun v g' => ∃ r : Int32, v = some (.int r) ∧ 0 ≤ r.toInt ∧ r.toInt ≤ 1 ∧ InvR P g' ∧ Gr g' = Gr g) := by
  refine LW_ls (ls' := [some (.ref 355), some (.int x1)]) rfl ?_
  have hG : Gr g = Gr g := rfl
  refine X_iload_n rfl rfl rfl rfl ?_
  refine X_iconst (v := (-1 : Int32)) rfl rfl rfl ?_
  refine X_aload_n rfl rfl rfl rfl ?_
  refine X_getR (a := 356) rfl rfl rfl ((congrFun V.1 355).trans s_355) rfl ((congrFun (V.2.1 355 (by decide)) 0).trans r_355_0) ?_
  refine X_iconst (v := (4 : Int32)) rfl rfl rfl ?_
  refine S_iald rfl rfl ((congrFun V.1 356).trans s_356) (show (4 : Int32).toInt = 4 from rfl) (by omega) (fun vz1 evz1 => ?_)
  have evz1 : Gi g 356 4 = vz1 := evz1
  have vf2 := A_TEXTS (V.2.2.2.1 (4)) (by omega)
  rw [evz1] at vf2
  refine X_iconst (v := (1 : Int32)) rfl rfl rfl ?_
  refine S_isub rfl rfl rfl (show (1 : Int32).toInt = 1 from rfl) (by omega) (fun vz3 hvz3 => ?_)
  refine X_callS (as := [.int x1, .int (-1 : Int32), .int vz3]) (st := []) rfl rfl rfl (by decide) rfl (Nat.le_of_ble_eq_true rfl) (by decide) (Nat.le_of_ble_eq_true rfl) rfl ?_
  refine LW_ls (ls' := [some (.int x1), some (.int (-1 : Int32)), some (.int vz3)]) rfl ?_
  refine X_iload_n rfl rfl rfl rfl ?_
  refine X_iload_n rfl rfl rfl rfl ?_
  refine S_icmp_lt (tgt := 14) rfl rfl rfl hx1 (show (-1 : Int32).toInt = -1 from rfl) (fun vh4 => ?_) (fun vh4 => ?_)
  · refine X_iconst (v := (0 : Int32)) rfl rfl rfl ?_
    refine LW_ireturn (st := []) rfl rfl rfl ?_
    refine S_if_ne (tgt := 18) rfl rfl rfl (show (0 : Int32).toInt = 0 from rfl) (fun q => absurd q (by omega)) (fun vh5 => ?_)
    refine X_iconst (v := (0 : Int32)) rfl rfl rfl ?_
    exact LW_ireturn (st := []) rfl rfl rfl ⟨_, rfl, by decide, by decide, V, hG⟩
  · refine X_iload_n rfl rfl rfl rfl ?_
    refine X_iload_n rfl rfl rfl rfl ?_
    refine S_icmp_gt (tgt := 14) rfl rfl rfl hx1 rfl (fun vh6 => ?_) (fun vh6 => ?_)
    · refine X_iconst (v := (0 : Int32)) rfl rfl rfl ?_
      refine LW_ireturn (st := []) rfl rfl rfl ?_
      refine S_if_ne (tgt := 18) rfl rfl rfl (show (0 : Int32).toInt = 0 from rfl) (fun q => absurd q (by omega)) (fun vh7 => ?_)
      refine X_iconst (v := (0 : Int32)) rfl rfl rfl ?_
      exact LW_ireturn (st := []) rfl rfl rfl ⟨_, rfl, by decide, by decide, V, hG⟩
    · refine X_iconst (v := (1 : Int32)) rfl rfl rfl ?_
      refine LW_goto (tgt := 15) rfl rfl ?_
      refine LW_ireturn (st := []) rfl rfl rfl ?_
      refine S_if_ne (tgt := 18) rfl rfl rfl (show (1 : Int32).toInt = 1 from rfl) (fun vh8 => ?_) (fun q => absurd q (by omega))
      refine X_aload_n rfl rfl rfl rfl ?_
      refine X_getR (a := 356) rfl rfl rfl ((congrFun V.1 355).trans s_355) rfl ((congrFun (V.2.1 355 (by decide)) 0).trans r_355_0) ?_
      refine X_iconst (v := (5 : Int32)) rfl rfl rfl ?_
      refine X_iload_n rfl rfl rfl rfl ?_
      refine S_iast (I := InvR _) rfl rfl ((congrFun V.1 356).trans s_356) (show (5 : Int32).toInt = 5 from rfl) (by omega) (InvR_putT V (by
        rw [evz1]
        omega)) (fun g V ve9 vn10 hq => ?_)
      have hG := hq.trans hG
      have evz1 := (vn10 (356) 4 (Or.inr (by omega))).trans evz1
      have ve9 : Gi g 356 5 = x1 := ve9
      refine X_iconst (v := (1 : Int32)) rfl rfl rfl ?_
      exact LW_ireturn (st := []) rfl rfl rfl ⟨_, rfl, by decide, by decide, V, hG⟩
set_option maxRecDepth 10000 in
set_option maxHeartbeats 40000000 in
theorem C_X13_party {P : Par} {g : LH} {d : Nat}  (V : InvR P g) (x1 : Int32) (y1 : Int) (hx1 : x1.toInt = y1)   : LW 288 (d + 4) 0 0 0 (lEnt (mL 288) [.ref 355, .int x1]) [] g (fun v g' => ∃ r : Int32, v = some (.int r) ∧ r.toInt = parA P.1 y1 ∧ InvR (parN P.1 y1, P.2) g' ∧ Gr g' = Gr g) := by
  refine LW_ls (ls' := [some (.ref 355), some (.int x1)]) rfl ?_
  have hG : Gr g = Gr g := rfl
  refine X_iload_n rfl rfl rfl rfl ?_
  refine X_iconst (v := (-1 : Int32)) rfl rfl rfl ?_
  refine S_icmp_ne (tgt := 15) rfl rfl rfl hx1 (show (-1 : Int32).toInt = -1 from rfl) (fun vh1 => ?_) (fun vh1 => ?_)
  · refine X_iload_n rfl rfl rfl rfl ?_
    refine X_callS (as := [.int x1]) (st := []) rfl rfl rfl (by decide) rfl (Nat.le_of_ble_eq_true rfl) (by decide) (Nat.le_of_ble_eq_true rfl) rfl ?_
    refine LW_ls (ls' := [some (.int x1)]) rfl ?_
    refine X_iload_n rfl rfl rfl rfl ?_
    refine X_iconst (v := (1 : Int32)) rfl rfl rfl ?_
    refine X_ldc (v := (67108863 : Int32)) rfl rfl rfl ?_
    refine X_callS (as := [.int x1, .int (1 : Int32), .int (67108863 : Int32)]) (st := []) rfl rfl rfl (by decide) rfl (Nat.le_of_ble_eq_true rfl) (by decide) (Nat.le_of_ble_eq_true rfl) rfl ?_
    refine LW_ls (ls' := [some (.int x1), some (.int (1 : Int32)), some (.int (67108863 : Int32))]) rfl ?_
    refine X_iload_n rfl rfl rfl rfl ?_
    refine X_iload_n rfl rfl rfl rfl ?_
    refine S_icmp_lt (tgt := 14) rfl rfl rfl hx1 (show (1 : Int32).toInt = 1 from rfl) (fun vh2 => ?_) (fun vh2 => ?_)
    · refine X_iconst (v := (0 : Int32)) rfl rfl rfl ?_
      refine LW_ireturn (st := []) rfl rfl rfl ?_
      refine LW_ireturn (st := []) rfl rfl rfl ?_
      refine S_if_eq (tgt := 33) rfl rfl rfl (show (0 : Int32).toInt = 0 from rfl) (fun vh3 => ?_) (fun q => absurd q (by omega))
      refine X_bipush (v := (-2 : Int32)) rfl rfl rfl ?_
      have ea : (-2 : Int32).toInt = parA P.1 y1 := by
        rw [show (-2 : Int32).toInt = -2 from rfl]
        unfold parA
        (repeat' split) <;> omega
      have en : parN P.1 y1 = P.1 := by
        unfold parN
        (repeat' split) <;> omega
      exact LW_ireturn (st := []) rfl rfl rfl ⟨_, rfl, ea, by rw [en]; exact V, hG⟩
    · refine X_iload_n rfl rfl rfl rfl ?_
      refine X_iload_n rfl rfl rfl rfl ?_
      refine S_icmp_gt (tgt := 14) rfl rfl rfl hx1 (show (67108863 : Int32).toInt = 67108863 from rfl) (fun vh4 => ?_) (fun vh4 => ?_)
      · refine X_iconst (v := (0 : Int32)) rfl rfl rfl ?_
        refine LW_ireturn (st := []) rfl rfl rfl ?_
        refine LW_ireturn (st := []) rfl rfl rfl ?_
        refine S_if_eq (tgt := 33) rfl rfl rfl (show (0 : Int32).toInt = 0 from rfl) (fun vh5 => ?_) (fun q => absurd q (by omega))
        refine X_bipush (v := (-2 : Int32)) rfl rfl rfl ?_
        have ea : (-2 : Int32).toInt = parA P.1 y1 := by
          rw [show (-2 : Int32).toInt = -2 from rfl]
          unfold parA
          (repeat' split) <;> omega
        have en : parN P.1 y1 = P.1 := by
          unfold parN
          (repeat' split) <;> omega
        exact LW_ireturn (st := []) rfl rfl rfl ⟨_, rfl, ea, by rw [en]; exact V, hG⟩
      · refine X_iconst (v := (1 : Int32)) rfl rfl rfl ?_
        refine LW_goto (tgt := 15) rfl rfl ?_
        refine LW_ireturn (st := []) rfl rfl rfl ?_
        refine LW_ireturn (st := []) rfl rfl rfl ?_
        refine S_if_eq (tgt := 33) rfl rfl rfl (show (1 : Int32).toInt = 1 from rfl) (fun q => absurd q (by omega)) (fun vh6 => ?_)
        refine X_aload_n rfl rfl rfl rfl ?_
        refine X_getR (a := 356) rfl rfl rfl ((congrFun V.1 355).trans s_355) rfl ((congrFun (V.2.1 355 (by decide)) 0).trans r_355_0) ?_
        refine X_bipush (v := (8 : Int32)) rfl rfl rfl ?_
        refine S_iald rfl rfl ((congrFun V.1 356).trans s_356) (show (8 : Int32).toInt = 8 from rfl) (by omega) (fun vz7 evz7 => ?_)
        have evz7 : Gi g 356 8 = vz7 := evz7
        have vf8 := A_PARTS (V.2.2.2.1 (8)) (by omega)
        rw [evz7] at vf8
        have pvz7 := V.2.2.2.2.2.2.2.2.1
        rw [evz7] at pvz7
        refine X_iconst (v := (4 : Int32)) rfl rfl rfl ?_
        refine S_icmp_ne (tgt := 36) rfl rfl rfl rfl (show (4 : Int32).toInt = 4 from rfl) (fun vh9 => ?_) (fun vh9 => ?_)
        · refine X_aload_n rfl rfl rfl rfl ?_
          refine X_getR (a := 356) rfl rfl rfl ((congrFun V.1 355).trans s_355) rfl ((congrFun (V.2.1 355 (by decide)) 0).trans r_355_0) ?_
          refine X_sipush (v := (538 : Int32)) rfl rfl rfl ?_
          refine X_aload_n rfl rfl rfl rfl ?_
          refine X_getR (a := 356) rfl rfl rfl ((congrFun V.1 355).trans s_355) rfl ((congrFun (V.2.1 355 (by decide)) 0).trans r_355_0) ?_
          refine X_bipush (v := (8 : Int32)) rfl rfl rfl ?_
          refine S_iald_v rfl rfl ((congrFun V.1 356).trans s_356) (show (8 : Int32).toInt = 8 from rfl) (by omega) evz7 ?_
          refine S_iadd rfl rfl (show (538 : Int32).toInt = 538 from rfl) rfl (by omega) (fun vz11 hvz11 => ?_)
          refine X_iload_n rfl rfl rfl rfl ?_
          refine S_iast (I := InvR _) rfl rfl ((congrFun V.1 356).trans s_356) rfl (by omega) (InvR_putA V (by omega) (B_FREE (by omega))) (fun g V ve12 vn13 hq => ?_)
          have hG := hq.trans hG
          have evz7 := (vn13 (356) 8 (Or.inr (by omega))).trans evz7
          refine X_aload_n rfl rfl rfl rfl ?_
          refine X_getR (a := 356) rfl rfl rfl ((congrFun V.1 355).trans s_355) rfl ((congrFun (V.2.1 355 (by decide)) 0).trans r_355_0) ?_
          refine X_bipush (v := (8 : Int32)) rfl rfl rfl ?_
          refine X_dup2 rfl rfl rfl rfl ?_
          refine S_iald_v rfl rfl ((congrFun V.1 356).trans s_356) (show (8 : Int32).toInt = 8 from rfl) (by omega) evz7 ?_
          refine X_iconst (v := (1 : Int32)) rfl rfl rfl ?_
          refine S_iadd rfl rfl rfl (show (1 : Int32).toInt = 1 from rfl) (by omega) (fun vz15 hvz15 => ?_)
          refine S_iast (I := InvR _) rfl rfl ((congrFun V.1 356).trans s_356) (show (8 : Int32).toInt = 8 from rfl) (by omega) (InvR_parN V (n := (P.1 + 1)) (by omega) (by omega)) (fun g V ve16 vn17 hq => ?_)
          have hG := hq.trans hG
          have ve16 : Gi g 356 8 = vz15 := ve16
          refine X_aload_n rfl rfl rfl rfl ?_
          refine X_getR (a := 356) rfl rfl rfl ((congrFun V.1 355).trans s_355) rfl ((congrFun (V.2.1 355 (by decide)) 0).trans r_355_0) ?_
          refine X_bipush (v := (8 : Int32)) rfl rfl rfl ?_
          refine S_iald_v rfl rfl ((congrFun V.1 356).trans s_356) (show (8 : Int32).toInt = 8 from rfl) (by omega) ve16 ?_
          have ea : vz15.toInt = parA P.1 y1 := by
            unfold parA
            (repeat' split) <;> omega
          have en : parN P.1 y1 = (P.1 + 1) := by
            unfold parN
            (repeat' split) <;> omega
          exact LW_ireturn (st := []) rfl rfl rfl ⟨_, rfl, ea, by rw [en]; exact V, hG⟩
        · refine X_bipush (v := (-2 : Int32)) rfl rfl rfl ?_
          have ea : (-2 : Int32).toInt = parA P.1 y1 := by
            rw [show (-2 : Int32).toInt = -2 from rfl]
            unfold parA
            (repeat' split) <;> omega
          have en : parN P.1 y1 = P.1 := by
            unfold parN
            (repeat' split) <;> omega
          exact LW_ireturn (st := []) rfl rfl rfl ⟨_, rfl, ea, by rw [en]; exact V, hG⟩
  · refine X_aload_n rfl rfl rfl rfl ?_
    refine X_getR (a := 356) rfl rfl rfl ((congrFun V.1 355).trans s_355) rfl ((congrFun (V.2.1 355 (by decide)) 0).trans r_355_0) ?_
    refine X_bipush (v := (8 : Int32)) rfl rfl rfl ?_
    refine X_iconst (v := (0 : Int32)) rfl rfl rfl ?_
    refine S_iast (I := InvR _) rfl rfl ((congrFun V.1 356).trans s_356) (show (8 : Int32).toInt = 8 from rfl) (by omega) (InvR_parN V (n := 0) (by rfl) (by omega)) (fun g V ve19 vn20 hq => ?_)
    have hG := hq.trans hG
    have ve19 : Gi g 356 8 = (0 : Int32) := ve19
    refine X_iconst (v := (0 : Int32)) rfl rfl rfl ?_
    have ea : (0 : Int32).toInt = parA P.1 y1 := by
      rw [show (0 : Int32).toInt = 0 from rfl]
      unfold parA
      (repeat' split) <;> omega
    have en : parN P.1 y1 = 0 := by
      unfold parN
      (repeat' split) <;> omega
    exact LW_ireturn (st := []) rfl rfl rfl ⟨_, rfl, ea, by rw [en]; exact V, hG⟩
