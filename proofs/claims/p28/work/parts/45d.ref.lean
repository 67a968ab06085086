/-! the reference's methods: each returns and keeps what every state keeps -/
set_option maxRecDepth 10000 in
set_option maxHeartbeats 40000000 in
theorem C_X13_printed {P : Par} {g : LH} {d : Nat}  (V : InvR P g) (x1 : Int32) (y1 : Int) (hx1 : x1.toInt = y1) (x2 : Int32) (y2 : Int) (hx2 : x2.toInt = y2) (x3 : Int32) (y3 : Int) (hx3 : x3.toInt = y3) (hf3 : 0 ≤ y3 ∧ y3 ≤ 1)   : LW 308 (d + 5) 0 0 0 (lEnt (mL 308) [.ref 355, .int x1, .int x2, .int x3]) [] g (fun v g' => ∃ r : Int32, v = some (.int r) ∧ (-2) ≤ r.toInt ∧ r.toInt ≤ 12 ∧ InvR P g' ∧ Gr g' = Gr g) := by
  refine LW_ls (ls' := [some (.ref 355), some (.int x1), some (.int x2), some (.int x3), none]) rfl ?_
  have hG : Gr g = Gr g := rfl
  refine X_iload_n rfl rfl rfl rfl ?_
  refine X_iconst (v := (-1 : Int32)) rfl rfl rfl ?_
  refine S_icmp_ne (tgt := 15) rfl rfl rfl hx1 (show (-1 : Int32).toInt = -1 from rfl) (fun vh1 => ?_) (fun vh1 => ?_)
  · refine X_aload_n rfl rfl rfl rfl ?_
    refine X_iload_n rfl rfl rfl rfl ?_
    refine X_callV (as := [.int x1]) (st := []) rfl rfl rfl (by decide) rfl (Nat.le_of_ble_eq_true rfl) (by decide) (Nat.le_of_ble_eq_true rfl) rfl ((congrFun V.1 355).trans s_355) (by decide) ?_
    refine LW_ls (ls' := [some (.ref 355), some (.int x1)]) rfl ?_
    refine X_iload_n rfl rfl rfl rfl ?_
    refine X_iconst (v := (0 : Int32)) rfl rfl rfl ?_
    refine X_aload_n rfl rfl rfl rfl ?_
    refine X_getR (a := 356) rfl rfl rfl ((congrFun V.1 355).trans s_355) rfl ((congrFun (V.2.1 355 (by decide)) 0).trans r_355_0) ?_
    refine X_iconst (v := (0 : Int32)) rfl rfl rfl ?_
    refine S_iald rfl rfl ((congrFun V.1 356).trans s_356) (show (0 : Int32).toInt = 0 from rfl) (by omega) (fun vz2 evz2 => ?_)
    have evz2 : Gi g 356 0 = vz2 := evz2
    have vf3 := A_WORDS (V.2.2.2.1 (0)) (by omega)
    rw [evz2] at vf3
    refine X_iconst (v := (1 : Int32)) rfl rfl rfl ?_
    refine S_isub rfl rfl rfl (show (1 : Int32).toInt = 1 from rfl) (by omega) (fun vz4 hvz4 => ?_)
    refine X_callS (as := [.int x1, .int (0 : Int32), .int vz4]) (st := []) rfl rfl rfl (by decide) rfl (Nat.le_of_ble_eq_true rfl) (by decide) (Nat.le_of_ble_eq_true rfl) rfl ?_
    refine LW_ls (ls' := [some (.int x1), some (.int (0 : Int32)), some (.int vz4)]) rfl ?_
    refine X_iload_n rfl rfl rfl rfl ?_
    refine X_iload_n rfl rfl rfl rfl ?_
    refine S_icmp_lt (tgt := 14) rfl rfl rfl hx1 (show (0 : Int32).toInt = 0 from rfl) (fun vh5 => ?_) (fun vh5 => ?_)
    · refine X_iconst (v := (0 : Int32)) rfl rfl rfl ?_
      refine LW_ireturn (st := []) rfl rfl rfl ?_
      refine LW_ireturn (st := []) rfl rfl rfl ?_
      refine S_if_eq (tgt := 45) rfl rfl rfl (show (0 : Int32).toInt = 0 from rfl) (fun vh6 => ?_) (fun q => absurd q (by omega))
      refine X_bipush (v := (-2 : Int32)) rfl rfl rfl ?_
      exact LW_ireturn (st := []) rfl rfl rfl ⟨_, rfl, by decide, by decide, V, hG⟩
    · refine X_iload_n rfl rfl rfl rfl ?_
      refine X_iload_n rfl rfl rfl rfl ?_
      refine S_icmp_gt (tgt := 14) rfl rfl rfl hx1 rfl (fun vh7 => ?_) (fun vh7 => ?_)
      · refine X_iconst (v := (0 : Int32)) rfl rfl rfl ?_
        refine LW_ireturn (st := []) rfl rfl rfl ?_
        refine LW_ireturn (st := []) rfl rfl rfl ?_
        refine S_if_eq (tgt := 45) rfl rfl rfl (show (0 : Int32).toInt = 0 from rfl) (fun vh8 => ?_) (fun q => absurd q (by omega))
        refine X_bipush (v := (-2 : Int32)) rfl rfl rfl ?_
        exact LW_ireturn (st := []) rfl rfl rfl ⟨_, rfl, by decide, by decide, V, hG⟩
      · refine X_iconst (v := (1 : Int32)) rfl rfl rfl ?_
        refine LW_goto (tgt := 15) rfl rfl ?_
        refine LW_ireturn (st := []) rfl rfl rfl ?_
        refine LW_ireturn (st := []) rfl rfl rfl ?_
        refine S_if_eq (tgt := 45) rfl rfl rfl (show (1 : Int32).toInt = 1 from rfl) (fun q => absurd q (by omega)) (fun vh9 => ?_)
        refine X_iload_n rfl rfl rfl rfl ?_
        refine X_iconst (v := (0 : Int32)) rfl rfl rfl ?_
        refine X_bipush (v := (30 : Int32)) rfl rfl rfl ?_
        refine X_callS (as := [.int x2, .int (0 : Int32), .int (30 : Int32)]) (st := []) rfl rfl rfl (by decide) rfl (Nat.le_of_ble_eq_true rfl) (by decide) (Nat.le_of_ble_eq_true rfl) rfl ?_
        refine LW_ls (ls' := [some (.int x2), some (.int (0 : Int32)), some (.int (30 : Int32))]) rfl ?_
        refine X_iload_n rfl rfl rfl rfl ?_
        refine X_iload_n rfl rfl rfl rfl ?_
        refine S_icmp_lt (tgt := 14) rfl rfl rfl hx2 (show (0 : Int32).toInt = 0 from rfl) (fun vh10 => ?_) (fun vh10 => ?_)
        · refine X_iconst (v := (0 : Int32)) rfl rfl rfl ?_
          refine LW_ireturn (st := []) rfl rfl rfl ?_
          refine S_if_eq (tgt := 45) rfl rfl rfl (show (0 : Int32).toInt = 0 from rfl) (fun vh11 => ?_) (fun q => absurd q (by omega))
          refine X_bipush (v := (-2 : Int32)) rfl rfl rfl ?_
          exact LW_ireturn (st := []) rfl rfl rfl ⟨_, rfl, by decide, by decide, V, hG⟩
        · refine X_iload_n rfl rfl rfl rfl ?_
          refine X_iload_n rfl rfl rfl rfl ?_
          refine S_icmp_gt (tgt := 14) rfl rfl rfl hx2 (show (30 : Int32).toInt = 30 from rfl) (fun vh12 => ?_) (fun vh12 => ?_)
          · refine X_iconst (v := (0 : Int32)) rfl rfl rfl ?_
            refine LW_ireturn (st := []) rfl rfl rfl ?_
            refine S_if_eq (tgt := 45) rfl rfl rfl (show (0 : Int32).toInt = 0 from rfl) (fun vh13 => ?_) (fun q => absurd q (by omega))
            refine X_bipush (v := (-2 : Int32)) rfl rfl rfl ?_
            exact LW_ireturn (st := []) rfl rfl rfl ⟨_, rfl, by decide, by decide, V, hG⟩
          · refine X_iconst (v := (1 : Int32)) rfl rfl rfl ?_
            refine LW_goto (tgt := 15) rfl rfl ?_
            refine LW_ireturn (st := []) rfl rfl rfl ?_
            refine S_if_eq (tgt := 45) rfl rfl rfl (show (1 : Int32).toInt = 1 from rfl) (fun q => absurd q (by omega)) (fun vh14 => ?_)
            refine X_aload_n rfl rfl rfl rfl ?_
            refine X_getR (a := 356) rfl rfl rfl ((congrFun V.1 355).trans s_355) rfl ((congrFun (V.2.1 355 (by decide)) 0).trans r_355_0) ?_
            refine X_bipush (v := (9 : Int32)) rfl rfl rfl ?_
            refine S_iald rfl rfl ((congrFun V.1 356).trans s_356) (show (9 : Int32).toInt = 9 from rfl) (by omega) (fun vz15 evz15 => ?_)
            have evz15 : Gi g 356 9 = vz15 := evz15
            have vf16 := A_PRINTS (V.2.2.2.1 (9)) (by omega)
            rw [evz15] at vf16
            refine X_bipush (v := (12 : Int32)) rfl rfl rfl ?_
            refine S_icmp_ne (tgt := 48) rfl rfl rfl rfl (show (12 : Int32).toInt = 12 from rfl) (fun vh17 => ?_) (fun vh17 => ?_)
            · refine X_sipush (v := (542 : Int32)) rfl rfl rfl ?_
              refine X_iconst (v := (3 : Int32)) rfl rfl rfl ?_
              refine X_aload_n rfl rfl rfl rfl ?_
              refine X_getR (a := 356) rfl rfl rfl ((congrFun V.1 355).trans s_355) rfl ((congrFun (V.2.1 355 (by decide)) 0).trans r_355_0) ?_
              refine X_bipush (v := (9 : Int32)) rfl rfl rfl ?_
              refine S_iald_v rfl rfl ((congrFun V.1 356).trans s_356) (show (9 : Int32).toInt = 9 from rfl) (by omega) evz15 ?_
              refine S_imul rfl rfl (show (3 : Int32).toInt = 3 from rfl) rfl (by omega) (fun vz19 hvz19 => ?_)
              refine S_iadd rfl rfl (show (542 : Int32).toInt = 542 from rfl) rfl (by omega) (fun vz20 hvz20 => ?_)
              refine X_istore (i := 4) (ls' := [some (.ref 355), some (.int x1), some (.int x2), some (.int x3), some (.int vz20)]) rfl rfl (Nat.le_of_ble_eq_true rfl) rfl ?_
              refine X_aload_n rfl rfl rfl rfl ?_
              refine X_getR (a := 356) rfl rfl rfl ((congrFun V.1 355).trans s_355) rfl ((congrFun (V.2.1 355 (by decide)) 0).trans r_355_0) ?_
              refine X_iload rfl rfl rfl ?_
              refine X_iload_n rfl rfl rfl rfl ?_
              refine S_iast (I := InvR _) rfl rfl ((congrFun V.1 356).trans s_356) rfl (by omega) (InvR_putA V (by omega) (B_PWORD (by omega) (by omega))) (fun g V ve21 vn22 hq => ?_)
              have hG := hq.trans hG
              have evz2 := (vn22 (356) 0 (Or.inr (by omega))).trans evz2
              have evz15 := (vn22 (356) 9 (Or.inr (by omega))).trans evz15
              refine X_aload_n rfl rfl rfl rfl ?_
              refine X_getR (a := 356) rfl rfl rfl ((congrFun V.1 355).trans s_355) rfl ((congrFun (V.2.1 355 (by decide)) 0).trans r_355_0) ?_
              refine X_iload rfl rfl rfl ?_
              refine X_iconst (v := (1 : Int32)) rfl rfl rfl ?_
              refine S_iadd rfl rfl rfl (show (1 : Int32).toInt = 1 from rfl) (by omega) (fun vz23 hvz23 => ?_)
              refine X_iload_n rfl rfl rfl rfl ?_
              refine S_iast (I := InvR _) rfl rfl ((congrFun V.1 356).trans s_356) rfl (by omega) (InvR_putA V (by omega) (B_FREE (by omega))) (fun g V ve24 vn25 hq => ?_)
              have hG := hq.trans hG
              have evz2 := (vn25 (356) 0 (Or.inr (by omega))).trans evz2
              have evz15 := (vn25 (356) 9 (Or.inr (by omega))).trans evz15
              refine X_aload_n rfl rfl rfl rfl ?_
              refine X_getR (a := 356) rfl rfl rfl ((congrFun V.1 355).trans s_355) rfl ((congrFun (V.2.1 355 (by decide)) 0).trans r_355_0) ?_
              refine X_iload rfl rfl rfl ?_
              refine X_iconst (v := (2 : Int32)) rfl rfl rfl ?_
              refine S_iadd rfl rfl rfl (show (2 : Int32).toInt = 2 from rfl) (by omega) (fun vz26 hvz26 => ?_)
              refine X_iload_n rfl rfl rfl rfl ?_
              refine S_if_eq (tgt := 97) rfl rfl rfl hx3 (fun vh27 => ?_) (fun vh27 => ?_)
              · refine X_iconst (v := (0 : Int32)) rfl rfl rfl ?_
                refine S_iast (I := InvR _) rfl rfl ((congrFun V.1 356).trans s_356) rfl (by omega) (InvR_putA V (by omega) (B_FREE (by omega))) (fun g V ve28 vn29 hq => ?_)
                have hG := hq.trans hG
                have evz2 := (vn29 (356) 0 (Or.inr (by omega))).trans evz2
                have evz15 := (vn29 (356) 9 (Or.inr (by omega))).trans evz15
                refine X_aload_n rfl rfl rfl rfl ?_
                refine X_getR (a := 356) rfl rfl rfl ((congrFun V.1 355).trans s_355) rfl ((congrFun (V.2.1 355 (by decide)) 0).trans r_355_0) ?_
                refine X_bipush (v := (9 : Int32)) rfl rfl rfl ?_
                refine X_dup2 rfl rfl rfl rfl ?_
                refine S_iald_v rfl rfl ((congrFun V.1 356).trans s_356) (show (9 : Int32).toInt = 9 from rfl) (by omega) evz15 ?_
                refine X_iconst (v := (1 : Int32)) rfl rfl rfl ?_
                refine S_iadd rfl rfl rfl (show (1 : Int32).toInt = 1 from rfl) (by omega) (fun vz31 hvz31 => ?_)
                refine S_iast (I := InvR _) rfl rfl ((congrFun V.1 356).trans s_356) (show (9 : Int32).toInt = 9 from rfl) (by omega) (InvR_putA V (by omega) (B_PRINTS (by omega) (by omega))) (fun g V ve32 vn33 hq => ?_)
                have hG := hq.trans hG
                have evz2 := (vn33 (356) 0 (Or.inr (by omega))).trans evz2
                have ve32 : Gi g 356 9 = vz31 := ve32
                refine X_aload_n rfl rfl rfl rfl ?_
                refine X_getR (a := 356) rfl rfl rfl ((congrFun V.1 355).trans s_355) rfl ((congrFun (V.2.1 355 (by decide)) 0).trans r_355_0) ?_
                refine X_bipush (v := (9 : Int32)) rfl rfl rfl ?_
                refine S_iald_v rfl rfl ((congrFun V.1 356).trans s_356) (show (9 : Int32).toInt = 9 from rfl) (by omega) ve32 ?_
                have hr := (rfl : vz31.toInt = vz31.toInt)
                exact LW_ireturn (st := []) rfl rfl rfl ⟨_, rfl, by omega, by omega, V, hG⟩
              · refine X_iconst (v := (1 : Int32)) rfl rfl rfl ?_
                refine LW_goto (tgt := 98) rfl rfl ?_
                refine S_iast (I := InvR _) rfl rfl ((congrFun V.1 356).trans s_356) rfl (by omega) (InvR_putA V (by omega) (B_FREE (by omega))) (fun g V ve35 vn36 hq => ?_)
                have hG := hq.trans hG
                have evz2 := (vn36 (356) 0 (Or.inr (by omega))).trans evz2
                have evz15 := (vn36 (356) 9 (Or.inr (by omega))).trans evz15
                refine X_aload_n rfl rfl rfl rfl ?_
                refine X_getR (a := 356) rfl rfl rfl ((congrFun V.1 355).trans s_355) rfl ((congrFun (V.2.1 355 (by decide)) 0).trans r_355_0) ?_
                refine X_bipush (v := (9 : Int32)) rfl rfl rfl ?_
                refine X_dup2 rfl rfl rfl rfl ?_
                refine S_iald_v rfl rfl ((congrFun V.1 356).trans s_356) (show (9 : Int32).toInt = 9 from rfl) (by omega) evz15 ?_
                refine X_iconst (v := (1 : Int32)) rfl rfl rfl ?_
                refine S_iadd rfl rfl rfl (show (1 : Int32).toInt = 1 from rfl) (by omega) (fun vz38 hvz38 => ?_)
                refine S_iast (I := InvR _) rfl rfl ((congrFun V.1 356).trans s_356) (show (9 : Int32).toInt = 9 from rfl) (by omega) (InvR_putA V (by omega) (B_PRINTS (by omega) (by omega))) (fun g V ve39 vn40 hq => ?_)
                have hG := hq.trans hG
                have evz2 := (vn40 (356) 0 (Or.inr (by omega))).trans evz2
                have ve39 : Gi g 356 9 = vz38 := ve39
                refine X_aload_n rfl rfl rfl rfl ?_
                refine X_getR (a := 356) rfl rfl rfl ((congrFun V.1 355).trans s_355) rfl ((congrFun (V.2.1 355 (by decide)) 0).trans r_355_0) ?_
                refine X_bipush (v := (9 : Int32)) rfl rfl rfl ?_
                refine S_iald_v rfl rfl ((congrFun V.1 356).trans s_356) (show (9 : Int32).toInt = 9 from rfl) (by omega) ve39 ?_
                have hr := (rfl : vz38.toInt = vz38.toInt)
                exact LW_ireturn (st := []) rfl rfl rfl ⟨_, rfl, by omega, by omega, V, hG⟩
            · refine X_bipush (v := (-2 : Int32)) rfl rfl rfl ?_
              exact LW_ireturn (st := []) rfl rfl rfl ⟨_, rfl, by decide, by decide, V, hG⟩
  · refine X_aload_n rfl rfl rfl rfl ?_
    refine X_getR (a := 356) rfl rfl rfl ((congrFun V.1 355).trans s_355) rfl ((congrFun (V.2.1 355 (by decide)) 0).trans r_355_0) ?_
    refine X_bipush (v := (9 : Int32)) rfl rfl rfl ?_
    refine X_iconst (v := (0 : Int32)) rfl rfl rfl ?_
    refine S_iast (I := InvR _) rfl rfl ((congrFun V.1 356).trans s_356) (show (9 : Int32).toInt = 9 from rfl) (by omega) (InvR_putA V (by omega) (B_PRINTS (by omega) (by decide))) (fun g V ve42 vn43 hq => ?_)
    have hG := hq.trans hG
    have ve42 : Gi g 356 9 = (0 : Int32) := ve42
    refine X_iconst (v := (0 : Int32)) rfl rfl rfl ?_
    exact LW_ireturn (st := []) rfl rfl rfl ⟨_, rfl, by decide, by decide, V, hG⟩
set_option maxRecDepth 10000 in
set_option maxHeartbeats 40000000 in
theorem C_X13_setThere_4 {P : Par} {g : LH} {d n : Nat}  (V : InvR P g) (x1 : Int32) (y1 : Int) (hx1 : x1.toInt = y1) (x2 : Int32) (y2 : Int) (hx2 : x2.toInt = y2) (x3 : Int32) (y3 : Int) (hx3 : x3.toInt = y3) (hf3 : 0 ≤ y3 ∧ y3 ≤ 12)  (hmu : (12 - y3) * 1 + 0 < (n : Int) + 1) (ih4 : ∀ (V : InvR P g) (x1 : Int32) (y1 : Int) (hx1 : x1.toInt = y1) (x2 : Int32) (y2 : Int) (hx2 : x2.toInt = y2) (x3 : Int32) (y3 : Int) (hx3 : x3.toInt = y3) (hf3 : 0 ≤ y3 ∧ y3 ≤ 12) , (12 - y3) * 1 + 0 < (n : Int) → LW 309 (d + 8) 0 0 4 [some (.ref 355), some (.int x1), some (.int x2), some (.int x3)] [] g (fun v g' => ∃ r : Int32, v = some (.int r) ∧ g = g')) : LW 309 (d + 8) 0 0 4 [some (.ref 355), some (.int x1), some (.int x2), some (.int x3)] [] g (fun v g' => ∃ r : Int32, v = some (.int r) ∧ g = g') := by
  refine X_iload_n rfl rfl rfl rfl ?_
  refine X_aload_n rfl rfl rfl rfl ?_
  refine X_getR (a := 356) rfl rfl rfl ((congrFun V.1 355).trans s_355) rfl ((congrFun (V.2.1 355 (by decide)) 0).trans r_355_0) ?_
  refine X_bipush (v := (9 : Int32)) rfl rfl rfl ?_
  refine S_iald rfl rfl ((congrFun V.1 356).trans s_356) (show (9 : Int32).toInt = 9 from rfl) (by omega) (fun vz1 evz1 => ?_)
  have evz1 : Gi g 356 9 = vz1 := evz1
  have vf2 := A_PRINTS (V.2.2.2.1 (9)) (by omega)
  rw [evz1] at vf2
  refine S_icmp_ge (tgt := 76) rfl rfl rfl hx3 rfl (fun vh3 => ?_) (fun vh3 => ?_)
  · refine X_iload_n rfl rfl rfl rfl ?_
    exact LW_ireturn (st := []) rfl rfl rfl ⟨_, rfl, rfl⟩
  · refine X_aload_n rfl rfl rfl rfl ?_
    refine X_getR (a := 356) rfl rfl rfl ((congrFun V.1 355).trans s_355) rfl ((congrFun (V.2.1 355 (by decide)) 0).trans r_355_0) ?_
    refine X_sipush (v := (542 : Int32)) rfl rfl rfl ?_
    refine X_iconst (v := (3 : Int32)) rfl rfl rfl ?_
    refine X_iload_n rfl rfl rfl rfl ?_
    refine S_imul rfl rfl (show (3 : Int32).toInt = 3 from rfl) hx3 (by omega) (fun vz4 hvz4 => ?_)
    refine S_iadd rfl rfl (show (542 : Int32).toInt = 542 from rfl) rfl (by omega) (fun vz5 hvz5 => ?_)
    refine X_iconst (v := (1 : Int32)) rfl rfl rfl ?_
    refine S_iadd rfl rfl rfl (show (1 : Int32).toInt = 1 from rfl) (by omega) (fun vz6 hvz6 => ?_)
    refine S_iald rfl rfl ((congrFun V.1 356).trans s_356) rfl (by omega) (fun vz7 evz7 => ?_)
    refine X_iload_n rfl rfl rfl rfl ?_
    refine S_icmp_ne (tgt := 70) rfl rfl rfl rfl hx1 (fun vh8 => ?_) (fun vh8 => ?_)
    · refine S_iinc (c := 1) rfl rfl rfl hx3 rfl (by omega) (fun vz9 hvz9 => ?_)
      refine LW_ls (ls' := [some (.ref 355), some (.int x1), some (.int x2), some (.int vz9)]) rfl ?_
      refine LW_goto (tgt := 4) rfl rfl ?_
      exact ih4 V x1 y1 hx1 x2 y2 hx2 vz9 vz9.toInt rfl (by omega)    (by omega)
    · refine X_aload_n rfl rfl rfl rfl ?_
      refine X_getR (a := 356) rfl rfl rfl ((congrFun V.1 355).trans s_355) rfl ((congrFun (V.2.1 355 (by decide)) 0).trans r_355_0) ?_
      refine X_sipush (v := (542 : Int32)) rfl rfl rfl ?_
      refine X_iconst (v := (3 : Int32)) rfl rfl rfl ?_
      refine X_iload_n rfl rfl rfl rfl ?_
      refine S_imul rfl rfl (show (3 : Int32).toInt = 3 from rfl) hx3 (by omega) (fun vz10 hvz10 => ?_)
      refine S_iadd rfl rfl (show (542 : Int32).toInt = 542 from rfl) rfl (by omega) (fun vz11 hvz11 => ?_)
      refine X_iconst (v := (2 : Int32)) rfl rfl rfl ?_
      refine S_iadd rfl rfl rfl (show (2 : Int32).toInt = 2 from rfl) (by omega) (fun vz12 hvz12 => ?_)
      refine S_iald rfl rfl ((congrFun V.1 356).trans s_356) rfl (by omega) (fun vz13 evz13 => ?_)
      refine X_iconst (v := (1 : Int32)) rfl rfl rfl ?_
      refine S_icmp_ne (tgt := 70) rfl rfl rfl rfl (show (1 : Int32).toInt = 1 from rfl) (fun vh14 => ?_) (fun vh14 => ?_)
      · refine S_iinc (c := 1) rfl rfl rfl hx3 rfl (by omega) (fun vz15 hvz15 => ?_)
        refine LW_ls (ls' := [some (.ref 355), some (.int x1), some (.int x2), some (.int vz15)]) rfl ?_
        refine LW_goto (tgt := 4) rfl rfl ?_
        exact ih4 V x1 y1 hx1 x2 y2 hx2 vz15 vz15.toInt rfl (by omega)    (by omega)
      · refine X_iload_n rfl rfl rfl rfl ?_
        refine X_aload_n rfl rfl rfl rfl ?_
        refine X_aload_n rfl rfl rfl rfl ?_
        refine X_getR (a := 356) rfl rfl rfl ((congrFun V.1 355).trans s_355) rfl ((congrFun (V.2.1 355 (by decide)) 0).trans r_355_0) ?_
        refine X_sipush (v := (542 : Int32)) rfl rfl rfl ?_
        refine X_iconst (v := (3 : Int32)) rfl rfl rfl ?_
        refine X_iload_n rfl rfl rfl rfl ?_
        refine S_imul rfl rfl (show (3 : Int32).toInt = 3 from rfl) hx3 (by omega) (fun vz16 hvz16 => ?_)
        refine S_iadd rfl rfl (show (542 : Int32).toInt = 542 from rfl) rfl (by omega) (fun vz17 hvz17 => ?_)
        refine S_iald rfl rfl ((congrFun V.1 356).trans s_356) rfl (by omega) (fun vz18 evz18 => ?_)
        have vf19 := A_PWORD (V.2.2.2.1 ((vz17.toInt : Int).toNat)) (by omega)
        rw [evz18] at vf19
        refine Y_callV (as := [.int vz18]) (st := [.int x2]) rfl rfl rfl (by decide) rfl (Nat.le_of_ble_eq_true rfl) (by decide) (Nat.le_of_ble_eq_true rfl) rfl ((congrFun V.1 355).trans s_355) (by decide) (C_X13_setOf V vz18 vz18.toInt rfl (by omega) ) ?_
        rintro _ g' ⟨vr20, rfl, hgg⟩
        subst hgg
        refine S_iorT rfl rfl (fun vz21 => ?_)
        refine X_istore_n (i := 2) (ls' := [some (.ref 355), some (.int x1), some (.int vz21), some (.int x3)]) rfl rfl rfl (Nat.le_of_ble_eq_true rfl) rfl ?_
        refine S_iinc (c := 1) rfl rfl rfl hx3 rfl (by omega) (fun vz22 hvz22 => ?_)
        refine LW_ls (ls' := [some (.ref 355), some (.int x1), some (.int vz21), some (.int vz22)]) rfl ?_
        refine LW_goto (tgt := 4) rfl rfl ?_
        exact ih4 V x1 y1 hx1 vz21 vz21.toInt rfl vz22 vz22.toInt rfl (by omega)    (by omega)
theorem C_X13_setThere_all {P : Par} {g : LH} {d : Nat}  : ∀ n : Nat, (∀ (V : InvR P g) (x1 : Int32) (y1 : Int) (hx1 : x1.toInt = y1) (x2 : Int32) (y2 : Int) (hx2 : x2.toInt = y2) (x3 : Int32) (y3 : Int) (hx3 : x3.toInt = y3) (hf3 : 0 ≤ y3 ∧ y3 ≤ 12) , (12 - y3) * 1 + 0 < (n : Int) → LW 309 (d + 8) 0 0 4 [some (.ref 355), some (.int x1), some (.int x2), some (.int x3)] [] g (fun v g' => ∃ r : Int32, v = some (.int r) ∧ g = g')) := by
  intro n
  induction n with
  | zero => exact fun V x1 y1 hx1 x2 y2 hx2 x3 y3 hx3 hf3 hmu => absurd hmu (by omega)
  | succ n ih => exact fun V x1 y1 hx1 x2 y2 hx2 x3 y3 hx3 hf3 hmu => C_X13_setThere_4  V x1 y1 hx1 x2 y2 hx2 x3 y3 hx3 hf3 (by omega) ih
set_option maxRecDepth 10000 in
set_option maxHeartbeats 40000000 in
theorem C_X13_setThere {P : Par} {g : LH} {d : Nat}  (V : InvR P g) (x1 : Int32) (y1 : Int) (hx1 : x1.toInt = y1)   : LW 309 (d + 8) 0 0 0 (lEnt (mL 309) [.ref 355, .int x1]) [] g (fun v g' => ∃ r : Int32, v = some (.int r) ∧ g = g') := by
  refine LW_ls (ls' := [some (.ref 355), some (.int x1), none, none]) rfl ?_
  refine X_iconst (v := (0 : Int32)) rfl rfl rfl ?_
  refine X_istore_n (i := 2) (ls' := [some (.ref 355), some (.int x1), some (.int (0 : Int32)), none]) rfl rfl rfl (Nat.le_of_ble_eq_true rfl) rfl ?_
  refine X_iconst (v := (0 : Int32)) rfl rfl rfl ?_
  refine X_istore_n (i := 3) (ls' := [some (.ref 355), some (.int x1), some (.int (0 : Int32)), some (.int (0 : Int32))]) rfl rfl rfl (Nat.le_of_ble_eq_true rfl) rfl ?_
  exact (C_X13_setThere_all (((12 - 0) * 1 + 0) + 1 : Int).toNat) V x1 y1 hx1 (0 : Int32) 0 (show (0 : Int32).toInt = 0 from rfl) (0 : Int32) 0 (show (0 : Int32).toInt = 0 from rfl) (by omega)    (by omega)
set_option maxRecDepth 10000 in
set_option maxHeartbeats 40000000 in
theorem C_X13_canBe_3 {P : Par} {g : LH} {d n : Nat}  (V : InvR P g) (x1 : Int32) (y1 : Int) (hx1 : x1.toInt = y1) (hf1 : 0 ≤ y1 ∧ y1 ≤ 25) (x2 : Int32) (y2 : Int) (hx2 : x2.toInt = y2) (hf2 : 0 ≤ y2 ∧ y2 ≤ 30) (x3 : Int32) (y3 : Int) (hx3 : x3.toInt = y3) (hf3 : 0 ≤ y3 ∧ y3 ≤ 30) (x4 : Int32) (y4 : Int) (hx4 : x4.toInt = y4) (hf4 : 0 ≤ y4 ∧ y4 ≤ 12) (o5 : Option Value) (o6 : Option Value) (o7 : Option Value) (o8 : Option Value)  (hmu : (12 - y4) * 1 + 0 < (n : Int) + 1) (ih3 : ∀ (V : InvR P g) (x1 : Int32) (y1 : Int) (hx1 : x1.toInt = y1) (hf1 : 0 ≤ y1 ∧ y1 ≤ 25) (x2 : Int32) (y2 : Int) (hx2 : x2.toInt = y2) (hf2 : 0 ≤ y2 ∧ y2 ≤ 30) (x3 : Int32) (y3 : Int) (hx3 : x3.toInt = y3) (hf3 : 0 ≤ y3 ∧ y3 ≤ 30) (x4 : Int32) (y4 : Int) (hx4 : x4.toInt = y4) (hf4 : 0 ≤ y4 ∧ y4 ≤ 12) (o5 : Option Value) (o6 : Option Value) (o7 : Option Value) (o8 : Option Value) , (12 - y4) * 1 + 0 < (n : Int) → LW 310 (d + 13) 0 0 3 [some (.ref 355), some (.int x1), some (.int x2), some (.int x3), some (.int x4), o5, o6, o7, o8] [] g (fun v g' => ∃ r : Int32, v = some (.int r) ∧ 0 ≤ r.toInt ∧ r.toInt ≤ 1 ∧ g = g')) : LW 310 (d + 13) 0 0 3 [some (.ref 355), some (.int x1), some (.int x2), some (.int x3), some (.int x4), o5, o6, o7, o8] [] g (fun v g' => ∃ r : Int32, v = some (.int r) ∧ 0 ≤ r.toInt ∧ r.toInt ≤ 1 ∧ g = g') := by
  refine X_iload rfl rfl rfl ?_
  refine X_aload_n rfl rfl rfl rfl ?_
  refine X_getR (a := 356) rfl rfl rfl ((congrFun V.1 355).trans s_355) rfl ((congrFun (V.2.1 355 (by decide)) 0).trans r_355_0) ?_
  refine X_bipush (v := (9 : Int32)) rfl rfl rfl ?_
  refine S_iald rfl rfl ((congrFun V.1 356).trans s_356) (show (9 : Int32).toInt = 9 from rfl) (by omega) (fun vz1 evz1 => ?_)
  have evz1 : Gi g 356 9 = vz1 := evz1
  have vf2 := A_PRINTS (V.2.2.2.1 (9)) (by omega)
  rw [evz1] at vf2
  refine S_icmp_ge (tgt := 141) rfl rfl rfl hx4 rfl (fun vh3 => ?_) (fun vh3 => ?_)
  · refine X_iconst (v := (1 : Int32)) rfl rfl rfl ?_
    exact LW_ireturn (st := []) rfl rfl rfl ⟨_, rfl, by decide, by decide, rfl⟩
  · refine X_aload_n rfl rfl rfl rfl ?_
    refine X_getR (a := 356) rfl rfl rfl ((congrFun V.1 355).trans s_355) rfl ((congrFun (V.2.1 355 (by decide)) 0).trans r_355_0) ?_
    refine X_sipush (v := (542 : Int32)) rfl rfl rfl ?_
    refine X_iconst (v := (3 : Int32)) rfl rfl rfl ?_
    refine X_iload rfl rfl rfl ?_
    refine S_imul rfl rfl (show (3 : Int32).toInt = 3 from rfl) hx4 (by omega) (fun vz4 hvz4 => ?_)
    refine S_iadd rfl rfl (show (542 : Int32).toInt = 542 from rfl) rfl (by omega) (fun vz5 hvz5 => ?_)
    refine X_iconst (v := (1 : Int32)) rfl rfl rfl ?_
    refine S_iadd rfl rfl rfl (show (1 : Int32).toInt = 1 from rfl) (by omega) (fun vz6 hvz6 => ?_)
    refine S_iald rfl rfl ((congrFun V.1 356).trans s_356) rfl (by omega) (fun vz7 evz7 => ?_)
    refine X_istore (i := 5) (ls' := [some (.ref 355), some (.int x1), some (.int x2), some (.int x3), some (.int x4), some (.int vz7), o6, o7, o8]) rfl rfl (Nat.le_of_ble_eq_true rfl) rfl ?_
    refine X_aload_n rfl rfl rfl rfl ?_
    refine X_aload_n rfl rfl rfl rfl ?_
    refine X_getR (a := 356) rfl rfl rfl ((congrFun V.1 355).trans s_355) rfl ((congrFun (V.2.1 355 (by decide)) 0).trans r_355_0) ?_
    refine X_sipush (v := (542 : Int32)) rfl rfl rfl ?_
    refine X_iconst (v := (3 : Int32)) rfl rfl rfl ?_
    refine X_iload rfl rfl rfl ?_
    refine S_imul rfl rfl (show (3 : Int32).toInt = 3 from rfl) hx4 (by omega) (fun vz8 hvz8 => ?_)
    refine S_iadd rfl rfl (show (542 : Int32).toInt = 542 from rfl) rfl (by omega) (fun vz9 hvz9 => ?_)
    refine S_iald rfl rfl ((congrFun V.1 356).trans s_356) rfl (by omega) (fun vz10 evz10 => ?_)
    have vf11 := A_PWORD (V.2.2.2.1 ((vz9.toInt : Int).toNat)) (by omega)
    rw [evz10] at vf11
    refine Y_callV (as := [.int vz10]) (st := []) rfl rfl rfl (by decide) rfl (Nat.le_of_ble_eq_true rfl) (by decide) (Nat.le_of_ble_eq_true rfl) rfl ((congrFun V.1 355).trans s_355) (by decide) (C_X13_setOf V vz10 vz10.toInt rfl (by omega) ) ?_
    rintro _ g' ⟨vr12, rfl, hgg⟩
    subst hgg
    refine X_istore (i := 6) (ls' := [some (.ref 355), some (.int x1), some (.int x2), some (.int x3), some (.int x4), some (.int vz7), some (.int vr12), o7, o8]) rfl rfl (Nat.le_of_ble_eq_true rfl) rfl ?_
    refine X_iload rfl rfl rfl ?_
    refine X_iload_n rfl rfl rfl rfl ?_
    refine X_iload_n rfl rfl rfl rfl ?_
    refine X_callS (as := [.int vz7, .int x2, .int x3]) (st := []) rfl rfl rfl (by decide) rfl (Nat.le_of_ble_eq_true rfl) (by decide) (Nat.le_of_ble_eq_true rfl) rfl ?_
    refine LW_ls (ls' := [some (.int vz7), some (.int x2), some (.int x3)]) rfl ?_
    refine X_iload_n rfl rfl rfl rfl ?_
    refine X_iload_n rfl rfl rfl rfl ?_
    refine S_icmp_lt (tgt := 14) rfl rfl rfl rfl hx2 (fun vh13 => ?_) (fun vh13 => ?_)
    · refine X_iconst (v := (0 : Int32)) rfl rfl rfl ?_
      refine LW_ireturn (st := []) rfl rfl rfl ?_
      refine X_istore (i := 7) (ls' := [some (.ref 355), some (.int x1), some (.int x2), some (.int x3), some (.int x4), some (.int vz7), some (.int vr12), some (.int (0 : Int32)), o8]) rfl rfl (Nat.le_of_ble_eq_true rfl) rfl ?_
      refine X_aload_n rfl rfl rfl rfl ?_
      refine X_getR (a := 356) rfl rfl rfl ((congrFun V.1 355).trans s_355) rfl ((congrFun (V.2.1 355 (by decide)) 0).trans r_355_0) ?_
      refine X_sipush (v := (542 : Int32)) rfl rfl rfl ?_
      refine X_iconst (v := (3 : Int32)) rfl rfl rfl ?_
      refine X_iload rfl rfl rfl ?_
      refine S_imul rfl rfl (show (3 : Int32).toInt = 3 from rfl) hx4 (by omega) (fun vz14 hvz14 => ?_)
      refine S_iadd rfl rfl (show (542 : Int32).toInt = 542 from rfl) rfl (by omega) (fun vz15 hvz15 => ?_)
      refine X_iconst (v := (2 : Int32)) rfl rfl rfl ?_
      refine S_iadd rfl rfl rfl (show (2 : Int32).toInt = 2 from rfl) (by omega) (fun vz16 hvz16 => ?_)
      refine S_iald rfl rfl ((congrFun V.1 356).trans s_356) rfl (by omega) (fun vz17 evz17 => ?_)
      refine X_iconst (v := (1 : Int32)) rfl rfl rfl ?_
      refine S_icmp_ne (tgt := 95) rfl rfl rfl rfl (show (1 : Int32).toInt = 1 from rfl) (fun vh18 => ?_) (fun vh18 => ?_)
      · refine X_iload rfl rfl rfl ?_
        refine X_aload_n rfl rfl rfl rfl ?_
        refine X_iload rfl rfl rfl ?_
        refine Y_callV (as := [.int vz7]) (st := [.int vr12]) rfl rfl rfl (by decide) rfl (Nat.le_of_ble_eq_true rfl) (by decide) (Nat.le_of_ble_eq_true rfl) rfl ((congrFun V.1 355).trans s_355) (by decide) (C_X13_setThere V vz7 vz7.toInt rfl ) ?_
        rintro _ g' ⟨vr19, rfl, hgg⟩
        subst hgg
        refine X_iconst (v := (-1 : Int32)) rfl rfl rfl ?_
        refine S_ixorT rfl rfl (fun vz20 => ?_)
        refine S_iandT rfl rfl (fun vz21 => ?_)
        refine X_iconst (v := (1 : Int32)) rfl rfl rfl ?_
        refine X_iload_n rfl rfl rfl rfl ?_
        refine S_ishlT rfl rfl (fun vz22 => ?_)
        refine X_iconst (v := (-1 : Int32)) rfl rfl rfl ?_
        refine S_ixorT rfl rfl (fun vz23 => ?_)
        refine S_iandT rfl rfl (fun vz24 => ?_)
        refine X_istore (i := 8) (ls' := [some (.ref 355), some (.int x1), some (.int x2), some (.int x3), some (.int x4), some (.int vz7), some (.int vr12), some (.int (0 : Int32)), some (.int vz24)]) rfl rfl (Nat.le_of_ble_eq_true rfl) rfl ?_
        refine X_iload rfl rfl rfl ?_
        refine S_if_ne (tgt := 135) rfl rfl rfl rfl (fun vh25 => ?_) (fun vh25 => ?_)
        · refine S_iinc (c := 1) rfl rfl rfl hx4 rfl (by omega) (fun vz26 hvz26 => ?_)
          refine LW_ls (ls' := [some (.ref 355), some (.int x1), some (.int x2), some (.int x3), some (.int vz26), some (.int vz7), some (.int vr12), some (.int (0 : Int32)), some (.int vz24)]) rfl ?_
          refine LW_goto (tgt := 3) rfl rfl ?_
          exact ih3 V x1 y1 hx1 (by omega) x2 y2 hx2 (by omega) x3 y3 hx3 (by omega) vz26 vz26.toInt rfl (by omega) (some (.int vz7)) (some (.int vr12)) (some (.int (0 : Int32))) (some (.int vz24))    (by omega)
        · refine X_iload rfl rfl rfl ?_
          refine S_if_eq (tgt := 133) rfl rfl rfl (show (0 : Int32).toInt = 0 from rfl) (fun vh27 => ?_) (fun q => absurd q (by omega))
          refine X_iconst (v := (0 : Int32)) rfl rfl rfl ?_
          exact LW_ireturn (st := []) rfl rfl rfl ⟨_, rfl, by decide, by decide, rfl⟩
      · refine X_iload rfl rfl rfl ?_
        refine S_if_eq (tgt := 135) rfl rfl rfl (show (0 : Int32).toInt = 0 from rfl) (fun vh28 => ?_) (fun q => absurd q (by omega))
        refine S_iinc (c := 1) rfl rfl rfl hx4 rfl (by omega) (fun vz29 hvz29 => ?_)
        refine LW_ls (ls' := [some (.ref 355), some (.int x1), some (.int x2), some (.int x3), some (.int vz29), some (.int vz7), some (.int vr12), some (.int (0 : Int32)), o8]) rfl ?_
        refine LW_goto (tgt := 3) rfl rfl ?_
        exact ih3 V x1 y1 hx1 (by omega) x2 y2 hx2 (by omega) x3 y3 hx3 (by omega) vz29 vz29.toInt rfl (by omega) (some (.int vz7)) (some (.int vr12)) (some (.int (0 : Int32))) o8    (by omega)
    · refine X_iload_n rfl rfl rfl rfl ?_
      refine X_iload_n rfl rfl rfl rfl ?_
      refine S_icmp_gt (tgt := 14) rfl rfl rfl rfl hx3 (fun vh30 => ?_) (fun vh30 => ?_)
      · refine X_iconst (v := (0 : Int32)) rfl rfl rfl ?_
        refine LW_ireturn (st := []) rfl rfl rfl ?_
        refine X_istore (i := 7) (ls' := [some (.ref 355), some (.int x1), some (.int x2), some (.int x3), some (.int x4), some (.int vz7), some (.int vr12), some (.int (0 : Int32)), o8]) rfl rfl (Nat.le_of_ble_eq_true rfl) rfl ?_
        refine X_aload_n rfl rfl rfl rfl ?_
        refine X_getR (a := 356) rfl rfl rfl ((congrFun V.1 355).trans s_355) rfl ((congrFun (V.2.1 355 (by decide)) 0).trans r_355_0) ?_
        refine X_sipush (v := (542 : Int32)) rfl rfl rfl ?_
        refine X_iconst (v := (3 : Int32)) rfl rfl rfl ?_
        refine X_iload rfl rfl rfl ?_
        refine S_imul rfl rfl (show (3 : Int32).toInt = 3 from rfl) hx4 (by omega) (fun vz31 hvz31 => ?_)
        refine S_iadd rfl rfl (show (542 : Int32).toInt = 542 from rfl) rfl (by omega) (fun vz32 hvz32 => ?_)
        refine X_iconst (v := (2 : Int32)) rfl rfl rfl ?_
        refine S_iadd rfl rfl rfl (show (2 : Int32).toInt = 2 from rfl) (by omega) (fun vz33 hvz33 => ?_)
        refine S_iald rfl rfl ((congrFun V.1 356).trans s_356) rfl (by omega) (fun vz34 evz34 => ?_)
        refine X_iconst (v := (1 : Int32)) rfl rfl rfl ?_
        refine S_icmp_ne (tgt := 95) rfl rfl rfl rfl (show (1 : Int32).toInt = 1 from rfl) (fun vh35 => ?_) (fun vh35 => ?_)
        · refine X_iload rfl rfl rfl ?_
          refine X_aload_n rfl rfl rfl rfl ?_
          refine X_iload rfl rfl rfl ?_
          refine Y_callV (as := [.int vz7]) (st := [.int vr12]) rfl rfl rfl (by decide) rfl (Nat.le_of_ble_eq_true rfl) (by decide) (Nat.le_of_ble_eq_true rfl) rfl ((congrFun V.1 355).trans s_355) (by decide) (C_X13_setThere V vz7 vz7.toInt rfl ) ?_
          rintro _ g' ⟨vr36, rfl, hgg⟩
          subst hgg
          refine X_iconst (v := (-1 : Int32)) rfl rfl rfl ?_
          refine S_ixorT rfl rfl (fun vz37 => ?_)
          refine S_iandT rfl rfl (fun vz38 => ?_)
          refine X_iconst (v := (1 : Int32)) rfl rfl rfl ?_
          refine X_iload_n rfl rfl rfl rfl ?_
          refine S_ishlT rfl rfl (fun vz39 => ?_)
          refine X_iconst (v := (-1 : Int32)) rfl rfl rfl ?_
          refine S_ixorT rfl rfl (fun vz40 => ?_)
          refine S_iandT rfl rfl (fun vz41 => ?_)
          refine X_istore (i := 8) (ls' := [some (.ref 355), some (.int x1), some (.int x2), some (.int x3), some (.int x4), some (.int vz7), some (.int vr12), some (.int (0 : Int32)), some (.int vz41)]) rfl rfl (Nat.le_of_ble_eq_true rfl) rfl ?_
          refine X_iload rfl rfl rfl ?_
          refine S_if_ne (tgt := 135) rfl rfl rfl rfl (fun vh42 => ?_) (fun vh42 => ?_)
          · refine S_iinc (c := 1) rfl rfl rfl hx4 rfl (by omega) (fun vz43 hvz43 => ?_)
            refine LW_ls (ls' := [some (.ref 355), some (.int x1), some (.int x2), some (.int x3), some (.int vz43), some (.int vz7), some (.int vr12), some (.int (0 : Int32)), some (.int vz41)]) rfl ?_
            refine LW_goto (tgt := 3) rfl rfl ?_
            exact ih3 V x1 y1 hx1 (by omega) x2 y2 hx2 (by omega) x3 y3 hx3 (by omega) vz43 vz43.toInt rfl (by omega) (some (.int vz7)) (some (.int vr12)) (some (.int (0 : Int32))) (some (.int vz41))    (by omega)
          · refine X_iload rfl rfl rfl ?_
            refine S_if_eq (tgt := 133) rfl rfl rfl (show (0 : Int32).toInt = 0 from rfl) (fun vh44 => ?_) (fun q => absurd q (by omega))
            refine X_iconst (v := (0 : Int32)) rfl rfl rfl ?_
            exact LW_ireturn (st := []) rfl rfl rfl ⟨_, rfl, by decide, by decide, rfl⟩
        · refine X_iload rfl rfl rfl ?_
          refine S_if_eq (tgt := 135) rfl rfl rfl (show (0 : Int32).toInt = 0 from rfl) (fun vh45 => ?_) (fun q => absurd q (by omega))
          refine S_iinc (c := 1) rfl rfl rfl hx4 rfl (by omega) (fun vz46 hvz46 => ?_)
          refine LW_ls (ls' := [some (.ref 355), some (.int x1), some (.int x2), some (.int x3), some (.int vz46), some (.int vz7), some (.int vr12), some (.int (0 : Int32)), o8]) rfl ?_
          refine LW_goto (tgt := 3) rfl rfl ?_
          exact ih3 V x1 y1 hx1 (by omega) x2 y2 hx2 (by omega) x3 y3 hx3 (by omega) vz46 vz46.toInt rfl (by omega) (some (.int vz7)) (some (.int vr12)) (some (.int (0 : Int32))) o8    (by omega)
      · refine X_iconst (v := (1 : Int32)) rfl rfl rfl ?_
        refine LW_goto (tgt := 15) rfl rfl ?_
        refine LW_ireturn (st := []) rfl rfl rfl ?_
        refine X_istore (i := 7) (ls' := [some (.ref 355), some (.int x1), some (.int x2), some (.int x3), some (.int x4), some (.int vz7), some (.int vr12), some (.int (1 : Int32)), o8]) rfl rfl (Nat.le_of_ble_eq_true rfl) rfl ?_
        refine X_aload_n rfl rfl rfl rfl ?_
        refine X_getR (a := 356) rfl rfl rfl ((congrFun V.1 355).trans s_355) rfl ((congrFun (V.2.1 355 (by decide)) 0).trans r_355_0) ?_
        refine X_sipush (v := (542 : Int32)) rfl rfl rfl ?_
        refine X_iconst (v := (3 : Int32)) rfl rfl rfl ?_
        refine X_iload rfl rfl rfl ?_
        refine S_imul rfl rfl (show (3 : Int32).toInt = 3 from rfl) hx4 (by omega) (fun vz47 hvz47 => ?_)
        refine S_iadd rfl rfl (show (542 : Int32).toInt = 542 from rfl) rfl (by omega) (fun vz48 hvz48 => ?_)
        refine X_iconst (v := (2 : Int32)) rfl rfl rfl ?_
        refine S_iadd rfl rfl rfl (show (2 : Int32).toInt = 2 from rfl) (by omega) (fun vz49 hvz49 => ?_)
        refine S_iald rfl rfl ((congrFun V.1 356).trans s_356) rfl (by omega) (fun vz50 evz50 => ?_)
        refine X_iconst (v := (1 : Int32)) rfl rfl rfl ?_
        refine S_icmp_ne (tgt := 95) rfl rfl rfl rfl (show (1 : Int32).toInt = 1 from rfl) (fun vh51 => ?_) (fun vh51 => ?_)
        · refine X_iload rfl rfl rfl ?_
          refine X_aload_n rfl rfl rfl rfl ?_
          refine X_iload rfl rfl rfl ?_
          refine Y_callV (as := [.int vz7]) (st := [.int vr12]) rfl rfl rfl (by decide) rfl (Nat.le_of_ble_eq_true rfl) (by decide) (Nat.le_of_ble_eq_true rfl) rfl ((congrFun V.1 355).trans s_355) (by decide) (C_X13_setThere V vz7 vz7.toInt rfl ) ?_
          rintro _ g' ⟨vr52, rfl, hgg⟩
          subst hgg
          refine X_iconst (v := (-1 : Int32)) rfl rfl rfl ?_
          refine S_ixorT rfl rfl (fun vz53 => ?_)
          refine S_iandT rfl rfl (fun vz54 => ?_)
          refine X_iconst (v := (1 : Int32)) rfl rfl rfl ?_
          refine X_iload_n rfl rfl rfl rfl ?_
          refine S_ishlT rfl rfl (fun vz55 => ?_)
          refine X_iconst (v := (-1 : Int32)) rfl rfl rfl ?_
          refine S_ixorT rfl rfl (fun vz56 => ?_)
          refine S_iandT rfl rfl (fun vz57 => ?_)
          refine X_istore (i := 8) (ls' := [some (.ref 355), some (.int x1), some (.int x2), some (.int x3), some (.int x4), some (.int vz7), some (.int vr12), some (.int (1 : Int32)), some (.int vz57)]) rfl rfl (Nat.le_of_ble_eq_true rfl) rfl ?_
          refine X_iload rfl rfl rfl ?_
          refine S_if_ne (tgt := 135) rfl rfl rfl rfl (fun vh58 => ?_) (fun vh58 => ?_)
          · refine S_iinc (c := 1) rfl rfl rfl hx4 rfl (by omega) (fun vz59 hvz59 => ?_)
            refine LW_ls (ls' := [some (.ref 355), some (.int x1), some (.int x2), some (.int x3), some (.int vz59), some (.int vz7), some (.int vr12), some (.int (1 : Int32)), some (.int vz57)]) rfl ?_
            refine LW_goto (tgt := 3) rfl rfl ?_
            exact ih3 V x1 y1 hx1 (by omega) x2 y2 hx2 (by omega) x3 y3 hx3 (by omega) vz59 vz59.toInt rfl (by omega) (some (.int vz7)) (some (.int vr12)) (some (.int (1 : Int32))) (some (.int vz57))    (by omega)
          · refine X_iload rfl rfl rfl ?_
            refine S_if_eq (tgt := 133) rfl rfl rfl (show (1 : Int32).toInt = 1 from rfl) (fun q => absurd q (by omega)) (fun vh60 => ?_)
            refine X_iload rfl rfl rfl ?_
            refine X_iload_n rfl rfl rfl rfl ?_
            refine X_callS (as := [.int vr12, .int x1]) (st := []) rfl rfl rfl (by decide) rfl (Nat.le_of_ble_eq_true rfl) (by decide) (Nat.le_of_ble_eq_true rfl) rfl ?_
            refine LW_ls (ls' := [some (.int vr12), some (.int x1)]) rfl ?_
            refine X_iload_n rfl rfl rfl rfl ?_
            refine X_iload_n rfl rfl rfl rfl ?_
            refine S_ishrT rfl rfl (fun vz61 => ?_)
            refine X_iconst (v := (1 : Int32)) rfl rfl rfl ?_
            refine S_iandR (k := 1) rfl rfl rfl (fun vz62 hvz62 => ?_)
            refine X_iconst (v := (1 : Int32)) rfl rfl rfl ?_
            refine S_icmp_ne (tgt := 13) rfl rfl rfl rfl (show (1 : Int32).toInt = 1 from rfl) (fun vh63 => ?_) (fun vh63 => ?_)
            · refine X_iconst (v := (0 : Int32)) rfl rfl rfl ?_
              refine LW_ireturn (st := []) rfl rfl rfl ?_
              refine S_if_ne (tgt := 135) rfl rfl rfl (show (0 : Int32).toInt = 0 from rfl) (fun q => absurd q (by omega)) (fun vh64 => ?_)
              refine X_iconst (v := (0 : Int32)) rfl rfl rfl ?_
              exact LW_ireturn (st := []) rfl rfl rfl ⟨_, rfl, by decide, by decide, rfl⟩
            · refine X_iconst (v := (1 : Int32)) rfl rfl rfl ?_
              refine LW_goto (tgt := 14) rfl rfl ?_
              refine LW_ireturn (st := []) rfl rfl rfl ?_
              refine S_if_ne (tgt := 135) rfl rfl rfl (show (1 : Int32).toInt = 1 from rfl) (fun vh65 => ?_) (fun q => absurd q (by omega))
              refine S_iinc (c := 1) rfl rfl rfl hx4 rfl (by omega) (fun vz66 hvz66 => ?_)
              refine LW_ls (ls' := [some (.ref 355), some (.int x1), some (.int x2), some (.int x3), some (.int vz66), some (.int vz7), some (.int vr12), some (.int (1 : Int32)), some (.int vz57)]) rfl ?_
              refine LW_goto (tgt := 3) rfl rfl ?_
              exact ih3 V x1 y1 hx1 (by omega) x2 y2 hx2 (by omega) x3 y3 hx3 (by omega) vz66 vz66.toInt rfl (by omega) (some (.int vz7)) (some (.int vr12)) (some (.int (1 : Int32))) (some (.int vz57))    (by omega)
        · refine X_iload rfl rfl rfl ?_
          refine S_if_eq (tgt := 135) rfl rfl rfl (show (1 : Int32).toInt = 1 from rfl) (fun q => absurd q (by omega)) (fun vh67 => ?_)
          refine X_iload rfl rfl rfl ?_
          refine X_iload_n rfl rfl rfl rfl ?_
          refine X_callS (as := [.int vr12, .int x1]) (st := []) rfl rfl rfl (by decide) rfl (Nat.le_of_ble_eq_true rfl) (by decide) (Nat.le_of_ble_eq_true rfl) rfl ?_
          refine LW_ls (ls' := [some (.int vr12), some (.int x1)]) rfl ?_
          refine X_iload_n rfl rfl rfl rfl ?_
          refine X_iload_n rfl rfl rfl rfl ?_
          refine S_ishrT rfl rfl (fun vz68 => ?_)
          refine X_iconst (v := (1 : Int32)) rfl rfl rfl ?_
          refine S_iandR (k := 1) rfl rfl rfl (fun vz69 hvz69 => ?_)
          refine X_iconst (v := (1 : Int32)) rfl rfl rfl ?_
          refine S_icmp_ne (tgt := 13) rfl rfl rfl rfl (show (1 : Int32).toInt = 1 from rfl) (fun vh70 => ?_) (fun vh70 => ?_)
          · refine X_iconst (v := (0 : Int32)) rfl rfl rfl ?_
            refine LW_ireturn (st := []) rfl rfl rfl ?_
            refine S_if_eq (tgt := 135) rfl rfl rfl (show (0 : Int32).toInt = 0 from rfl) (fun vh71 => ?_) (fun q => absurd q (by omega))
            refine S_iinc (c := 1) rfl rfl rfl hx4 rfl (by omega) (fun vz72 hvz72 => ?_)
            refine LW_ls (ls' := [some (.ref 355), some (.int x1), some (.int x2), some (.int x3), some (.int vz72), some (.int vz7), some (.int vr12), some (.int (1 : Int32)), o8]) rfl ?_
            refine LW_goto (tgt := 3) rfl rfl ?_
            exact ih3 V x1 y1 hx1 (by omega) x2 y2 hx2 (by omega) x3 y3 hx3 (by omega) vz72 vz72.toInt rfl (by omega) (some (.int vz7)) (some (.int vr12)) (some (.int (1 : Int32))) o8    (by omega)
          · refine X_iconst (v := (1 : Int32)) rfl rfl rfl ?_
            refine LW_goto (tgt := 14) rfl rfl ?_
            refine LW_ireturn (st := []) rfl rfl rfl ?_
            refine S_if_eq (tgt := 135) rfl rfl rfl (show (1 : Int32).toInt = 1 from rfl) (fun q => absurd q (by omega)) (fun vh73 => ?_)
            refine X_iconst (v := (0 : Int32)) rfl rfl rfl ?_
            exact LW_ireturn (st := []) rfl rfl rfl ⟨_, rfl, by decide, by decide, rfl⟩
theorem C_X13_canBe_all {P : Par} {g : LH} {d : Nat}  : ∀ n : Nat, (∀ (V : InvR P g) (x1 : Int32) (y1 : Int) (hx1 : x1.toInt = y1) (hf1 : 0 ≤ y1 ∧ y1 ≤ 25) (x2 : Int32) (y2 : Int) (hx2 : x2.toInt = y2) (hf2 : 0 ≤ y2 ∧ y2 ≤ 30) (x3 : Int32) (y3 : Int) (hx3 : x3.toInt = y3) (hf3 : 0 ≤ y3 ∧ y3 ≤ 30) (x4 : Int32) (y4 : Int) (hx4 : x4.toInt = y4) (hf4 : 0 ≤ y4 ∧ y4 ≤ 12) (o5 : Option Value) (o6 : Option Value) (o7 : Option Value) (o8 : Option Value) , (12 - y4) * 1 + 0 < (n : Int) → LW 310 (d + 13) 0 0 3 [some (.ref 355), some (.int x1), some (.int x2), some (.int x3), some (.int x4), o5, o6, o7, o8] [] g (fun v g' => ∃ r : Int32, v = some (.int r) ∧ 0 ≤ r.toInt ∧ r.toInt ≤ 1 ∧ g = g')) := by
  intro n
  induction n with
  | zero => exact fun V x1 y1 hx1 hf1 x2 y2 hx2 hf2 x3 y3 hx3 hf3 x4 y4 hx4 hf4 o5 o6 o7 o8 hmu => absurd hmu (by omega)
  | succ n ih => exact fun V x1 y1 hx1 hf1 x2 y2 hx2 hf2 x3 y3 hx3 hf3 x4 y4 hx4 hf4 o5 o6 o7 o8 hmu => C_X13_canBe_3  V x1 y1 hx1 hf1 x2 y2 hx2 hf2 x3 y3 hx3 hf3 x4 y4 hx4 hf4 o5 o6 o7 o8 (by omega) ih
set_option maxRecDepth 10000 in
set_option maxHeartbeats 40000000 in
theorem C_X13_canBe {P : Par} {g : LH} {d : Nat}  (V : InvR P g) (x1 : Int32) (y1 : Int) (hx1 : x1.toInt = y1) (hf1 : 0 ≤ y1 ∧ y1 ≤ 25) (x2 : Int32) (y2 : Int) (hx2 : x2.toInt = y2) (hf2 : 0 ≤ y2 ∧ y2 ≤ 30) (x3 : Int32) (y3 : Int) (hx3 : x3.toInt = y3) (hf3 : 0 ≤ y3 ∧ y3 ≤ 30)   : LW 310 (d + 13) 0 0 0 (lEnt (mL 310) [.ref 355, .int x1, .int x2, .int x3]) [] g (fun v g' => ∃ r : Int32, v = some (.int r) ∧ 0 ≤ r.toInt ∧ r.toInt ≤ 1 ∧ g = g') := by
  refine LW_ls (ls' := [some (.ref 355), some (.int x1), some (.int x2), some (.int x3), none, none, none, none, none]) rfl ?_
  refine X_iconst (v := (0 : Int32)) rfl rfl rfl ?_
  refine X_istore (i := 4) (ls' := [some (.ref 355), some (.int x1), some (.int x2), some (.int x3), some (.int (0 : Int32)), none, none, none, none]) rfl rfl (Nat.le_of_ble_eq_true rfl) rfl ?_
  exact (C_X13_canBe_all (((12 - 0) * 1 + 0) + 1 : Int).toNat) V x1 y1 hx1 (by omega) x2 y2 hx2 (by omega) x3 y3 hx3 (by omega) (0 : Int32) 0 (show (0 : Int32).toInt = 0 from rfl) (by omega) none none none none    (by omega)
set_option maxRecDepth 10000 in
set_option maxHeartbeats 40000000 in
theorem C_X13_spells_39 {P : Par} {g : LH} {d n : Nat}  (V : InvR P g) (x1 : Int32) (y1 : Int) (hx1 : x1.toInt = y1) (hf1 : 0 ≤ y1 ∧ y1 ≤ 25) (x2 : Int32) (y2 : Int) (hx2 : x2.toInt = y2) (hf2 : (-1) ≤ y2) (x3 : Int32) (y3 : Int) (hx3 : x3.toInt = y3) (x4 : Int32) (y4 : Int) (hx4 : x4.toInt = y4) (hf4 : 0 ≤ y4 ∧ y4 ≤ 31) (o5 : Option Value)  (hmu : (31 - y4) * 35 + 34 < (n : Int) + 1) (ih39 : ∀ (V : InvR P g) (x1 : Int32) (y1 : Int) (hx1 : x1.toInt = y1) (hf1 : 0 ≤ y1 ∧ y1 ≤ 25) (x2 : Int32) (y2 : Int) (hx2 : x2.toInt = y2) (hf2 : (-1) ≤ y2) (x3 : Int32) (y3 : Int) (hx3 : x3.toInt = y3) (x4 : Int32) (y4 : Int) (hx4 : x4.toInt = y4) (hf4 : 0 ≤ y4 ∧ y4 ≤ 31) (o5 : Option Value) , (31 - y4) * 35 + 34 < (n : Int) → LW 311 (d + 19) 0 0 39 [some (.ref 355), some (.int x1), some (.int x2), some (.int x3), some (.int x4), o5] [] g (fun v g' => ∃ r : Int32, v = some (.int r) ∧ g = g')) (ih50 : ∀ (V : InvR P g) (x1 : Int32) (y1 : Int) (hx1 : x1.toInt = y1) (hf1 : 0 ≤ y1 ∧ y1 ≤ 25) (x2 : Int32) (y2 : Int) (hx2 : x2.toInt = y2) (hf2 : (-1) ≤ y2) (x3 : Int32) (y3 : Int) (hx3 : x3.toInt = y3) (x4 : Int32) (y4 : Int) (hx4 : x4.toInt = y4) (hf4 : 0 ≤ y4 ∧ y4 ≤ 30) (x5 : Int32) (y5 : Int) (hx5 : x5.toInt = y5) (hf5 : 0 ≤ y5 ∧ y5 ≤ 31) , (31 - y4) * 35 + 0 + (31 - y5) * 1 + 0 < (n : Int) → LW 311 (d + 19) 0 0 50 [some (.ref 355), some (.int x1), some (.int x2), some (.int x3), some (.int x4), some (.int x5)] [] g (fun v g' => ∃ r : Int32, v = some (.int r) ∧ g = g')) : LW 311 (d + 19) 0 0 39 [some (.ref 355), some (.int x1), some (.int x2), some (.int x3), some (.int x4), o5] [] g (fun v g' => ∃ r : Int32, v = some (.int r) ∧ g = g') := by
  refine X_iload rfl rfl rfl ?_
  refine X_bipush (v := (31 : Int32)) rfl rfl rfl ?_
  refine S_icmp_ge (tgt := 101) rfl rfl rfl hx4 (show (31 : Int32).toInt = 31 from rfl) (fun vh1 => ?_) (fun vh1 => ?_)
  · refine X_iload_n rfl rfl rfl rfl ?_
    refine X_iconst (v := (-1 : Int32)) rfl rfl rfl ?_
    refine S_icmp_ne (tgt := 110) rfl rfl rfl hx2 (show (-1 : Int32).toInt = -1 from rfl) (fun vh2 => ?_) (fun vh2 => ?_)
    · refine X_bipush (v := (-2 : Int32)) rfl rfl rfl ?_
      exact LW_ireturn (st := []) rfl rfl rfl ⟨_, rfl, rfl⟩
    · refine X_iload_n rfl rfl rfl rfl ?_
      refine LW_goto (tgt := 112) rfl rfl ?_
      exact LW_ireturn (st := []) rfl rfl rfl ⟨_, rfl, rfl⟩
  · refine X_iload rfl rfl rfl ?_
    refine X_istore (i := 5) (ls' := [some (.ref 355), some (.int x1), some (.int x2), some (.int x3), some (.int x4), some (.int x4)]) rfl rfl (Nat.le_of_ble_eq_true rfl) rfl ?_
    exact ih50 V x1 y1 hx1 (by omega) x2 y2 hx2 (by omega) x3 y3 hx3 x4 y4 hx4 (by omega) x4 y4 hx4 (by omega)    (by omega)
set_option maxRecDepth 10000 in
set_option maxHeartbeats 40000000 in
theorem C_X13_spells_50 {P : Par} {g : LH} {d n : Nat}  (V : InvR P g) (x1 : Int32) (y1 : Int) (hx1 : x1.toInt = y1) (hf1 : 0 ≤ y1 ∧ y1 ≤ 25) (x2 : Int32) (y2 : Int) (hx2 : x2.toInt = y2) (hf2 : (-1) ≤ y2) (x3 : Int32) (y3 : Int) (hx3 : x3.toInt = y3) (x4 : Int32) (y4 : Int) (hx4 : x4.toInt = y4) (hf4 : 0 ≤ y4 ∧ y4 ≤ 30) (x5 : Int32) (y5 : Int) (hx5 : x5.toInt = y5) (hf5 : 0 ≤ y5 ∧ y5 ≤ 31)  (hmu : (31 - y4) * 35 + 0 + (31 - y5) * 1 + 0 < (n : Int) + 1) (ih39 : ∀ (V : InvR P g) (x1 : Int32) (y1 : Int) (hx1 : x1.toInt = y1) (hf1 : 0 ≤ y1 ∧ y1 ≤ 25) (x2 : Int32) (y2 : Int) (hx2 : x2.toInt = y2) (hf2 : (-1) ≤ y2) (x3 : Int32) (y3 : Int) (hx3 : x3.toInt = y3) (x4 : Int32) (y4 : Int) (hx4 : x4.toInt = y4) (hf4 : 0 ≤ y4 ∧ y4 ≤ 31) (o5 : Option Value) , (31 - y4) * 35 + 34 < (n : Int) → LW 311 (d + 19) 0 0 39 [some (.ref 355), some (.int x1), some (.int x2), some (.int x3), some (.int x4), o5] [] g (fun v g' => ∃ r : Int32, v = some (.int r) ∧ g = g')) (ih50 : ∀ (V : InvR P g) (x1 : Int32) (y1 : Int) (hx1 : x1.toInt = y1) (hf1 : 0 ≤ y1 ∧ y1 ≤ 25) (x2 : Int32) (y2 : Int) (hx2 : x2.toInt = y2) (hf2 : (-1) ≤ y2) (x3 : Int32) (y3 : Int) (hx3 : x3.toInt = y3) (x4 : Int32) (y4 : Int) (hx4 : x4.toInt = y4) (hf4 : 0 ≤ y4 ∧ y4 ≤ 30) (x5 : Int32) (y5 : Int) (hx5 : x5.toInt = y5) (hf5 : 0 ≤ y5 ∧ y5 ≤ 31) , (31 - y4) * 35 + 0 + (31 - y5) * 1 + 0 < (n : Int) → LW 311 (d + 19) 0 0 50 [some (.ref 355), some (.int x1), some (.int x2), some (.int x3), some (.int x4), some (.int x5)] [] g (fun v g' => ∃ r : Int32, v = some (.int r) ∧ g = g')) : LW 311 (d + 19) 0 0 50 [some (.ref 355), some (.int x1), some (.int x2), some (.int x3), some (.int x4), some (.int x5)] [] g (fun v g' => ∃ r : Int32, v = some (.int r) ∧ g = g') := by
  refine X_iload rfl rfl rfl ?_
  refine X_bipush (v := (31 : Int32)) rfl rfl rfl ?_
  refine S_icmp_ge (tgt := 95) rfl rfl rfl hx5 (show (31 : Int32).toInt = 31 from rfl) (fun vh1 => ?_) (fun vh1 => ?_)
  · refine S_iinc (c := 1) rfl rfl rfl hx4 rfl (by omega) (fun vz2 hvz2 => ?_)
    refine LW_ls (ls' := [some (.ref 355), some (.int x1), some (.int x2), some (.int x3), some (.int vz2), some (.int x5)]) rfl ?_
    refine LW_goto (tgt := 39) rfl rfl ?_
    exact ih39 V x1 y1 hx1 (by omega) x2 y2 hx2 (by omega) x3 y3 hx3 vz2 vz2.toInt rfl (by omega) (some (.int x5))    (by omega)
  · refine X_aload_n rfl rfl rfl rfl ?_
    refine X_iload_n rfl rfl rfl rfl ?_
    refine X_iload rfl rfl rfl ?_
    refine X_iload rfl rfl rfl ?_
    refine Y_callV (as := [.int x1, .int x4, .int x5]) (st := []) rfl rfl rfl (by decide) rfl (Nat.le_of_ble_eq_true rfl) (by decide) (Nat.le_of_ble_eq_true rfl) rfl ((congrFun V.1 355).trans s_355) (by decide) (C_X13_canBe V x1 y1 hx1 (by omega) x4 y4 hx4 (by omega) x5 y5 hx5 (by omega) ) ?_
    rintro _ g' ⟨vr3, rfl, hrvr30, hrvr31, hgg⟩
    subst hgg
    refine S_if_ne (tgt := 72) rfl rfl rfl rfl (fun vh4 => ?_) (fun vh4 => ?_)
    · refine X_iload_n rfl rfl rfl rfl ?_
      refine X_iload_n rfl rfl rfl rfl ?_
      refine S_icmp_ne (tgt := 86) rfl rfl rfl hx3 hx2 (fun vh5 => ?_) (fun vh5 => ?_)
      · refine S_iincT rfl rfl rfl (fun vz6 => ?_)
        refine LW_ls (ls' := [some (.ref 355), some (.int x1), some (.int x2), some (.int vz6), some (.int x4), some (.int x5)]) rfl ?_
        refine S_iinc (c := 1) rfl rfl rfl hx5 rfl (by omega) (fun vz7 hvz7 => ?_)
        refine LW_ls (ls' := [some (.ref 355), some (.int x1), some (.int x2), some (.int vz6), some (.int x4), some (.int vz7)]) rfl ?_
        refine LW_goto (tgt := 50) rfl rfl ?_
        exact ih50 V x1 y1 hx1 (by omega) x2 y2 hx2 (by omega) vz6 vz6.toInt rfl x4 y4 hx4 (by omega) vz7 vz7.toInt rfl (by omega)    (by omega)
      · refine X_bipush (v := (31 : Int32)) rfl rfl rfl ?_
        refine X_iload rfl rfl rfl ?_
        refine S_imul rfl rfl (show (31 : Int32).toInt = 31 from rfl) hx4 (by omega) (fun vz8 hvz8 => ?_)
        refine X_iload rfl rfl rfl ?_
        refine S_iadd rfl rfl rfl hx5 (by omega) (fun vz9 hvz9 => ?_)
        exact LW_ireturn (st := []) rfl rfl rfl ⟨_, rfl, rfl⟩
    · refine LW_goto (tgt := 89) rfl rfl ?_
      refine S_iinc (c := 1) rfl rfl rfl hx5 rfl (by omega) (fun vz10 hvz10 => ?_)
      refine LW_ls (ls' := [some (.ref 355), some (.int x1), some (.int x2), some (.int x3), some (.int x4), some (.int vz10)]) rfl ?_
      refine LW_goto (tgt := 50) rfl rfl ?_
      exact ih50 V x1 y1 hx1 (by omega) x2 y2 hx2 (by omega) x3 y3 hx3 x4 y4 hx4 (by omega) vz10 vz10.toInt rfl (by omega)    (by omega)
theorem C_X13_spells_all {P : Par} {g : LH} {d : Nat}  : ∀ n : Nat, (∀ (V : InvR P g) (x1 : Int32) (y1 : Int) (hx1 : x1.toInt = y1) (hf1 : 0 ≤ y1 ∧ y1 ≤ 25) (x2 : Int32) (y2 : Int) (hx2 : x2.toInt = y2) (hf2 : (-1) ≤ y2) (x3 : Int32) (y3 : Int) (hx3 : x3.toInt = y3) (x4 : Int32) (y4 : Int) (hx4 : x4.toInt = y4) (hf4 : 0 ≤ y4 ∧ y4 ≤ 31) (o5 : Option Value) , (31 - y4) * 35 + 34 < (n : Int) → LW 311 (d + 19) 0 0 39 [some (.ref 355), some (.int x1), some (.int x2), some (.int x3), some (.int x4), o5] [] g (fun v g' => ∃ r : Int32, v = some (.int r) ∧ g = g')) ∧ (∀ (V : InvR P g) (x1 : Int32) (y1 : Int) (hx1 : x1.toInt = y1) (hf1 : 0 ≤ y1 ∧ y1 ≤ 25) (x2 : Int32) (y2 : Int) (hx2 : x2.toInt = y2) (hf2 : (-1) ≤ y2) (x3 : Int32) (y3 : Int) (hx3 : x3.toInt = y3) (x4 : Int32) (y4 : Int) (hx4 : x4.toInt = y4) (hf4 : 0 ≤ y4 ∧ y4 ≤ 30) (x5 : Int32) (y5 : Int) (hx5 : x5.toInt = y5) (hf5 : 0 ≤ y5 ∧ y5 ≤ 31) , (31 - y4) * 35 + 0 + (31 - y5) * 1 + 0 < (n : Int) → LW 311 (d + 19) 0 0 50 [some (.ref 355), some (.int x1), some (.int x2), some (.int x3), some (.int x4), some (.int x5)] [] g (fun v g' => ∃ r : Int32, v = some (.int r) ∧ g = g')) := by
  intro n
  induction n with
  | zero => exact ⟨fun V x1 y1 hx1 hf1 x2 y2 hx2 hf2 x3 y3 hx3 x4 y4 hx4 hf4 o5 hmu => absurd hmu (by have hb2 := ti_hi x2; omega), fun V x1 y1 hx1 hf1 x2 y2 hx2 hf2 x3 y3 hx3 x4 y4 hx4 hf4 x5 y5 hx5 hf5 hmu => absurd hmu (by have hb2 := ti_hi x2; omega)⟩
  | succ n ih => exact ⟨fun V x1 y1 hx1 hf1 x2 y2 hx2 hf2 x3 y3 hx3 x4 y4 hx4 hf4 o5 hmu => C_X13_spells_39  V x1 y1 hx1 hf1 x2 y2 hx2 hf2 x3 y3 hx3 x4 y4 hx4 hf4 o5 (by omega) ih.1 ih.2, fun V x1 y1 hx1 hf1 x2 y2 hx2 hf2 x3 y3 hx3 x4 y4 hx4 hf4 x5 y5 hx5 hf5 hmu => C_X13_spells_50  V x1 y1 hx1 hf1 x2 y2 hx2 hf2 x3 y3 hx3 x4 y4 hx4 hf4 x5 y5 hx5 hf5 (by omega) ih.1 ih.2⟩
set_option maxRecDepth 10000 in
set_option maxHeartbeats 40000000 in
theorem C_X13_spells {P : Par} {g : LH} {d : Nat}  (V : InvR P g) (x1 : Int32) (y1 : Int) (hx1 : x1.toInt = y1) (x2 : Int32) (y2 : Int) (hx2 : x2.toInt = y2)   : LW 311 (d + 19) 0 0 0 (lEnt (mL 311) [.ref 355, .int x1, .int x2]) [] g (fun v g' => ∃ r : Int32, v = some (.int r) ∧ g = g') := by
  refine LW_ls (ls' := [some (.ref 355), some (.int x1), some (.int x2), none, none, none]) rfl ?_
  refine X_iload_n rfl rfl rfl rfl ?_
  refine X_callS (as := [.int x1]) (st := []) rfl rfl rfl (by decide) rfl (Nat.le_of_ble_eq_true rfl) (by decide) (Nat.le_of_ble_eq_true rfl) rfl ?_
  refine LW_ls (ls' := [some (.int x1)]) rfl ?_
  refine X_iload_n rfl rfl rfl rfl ?_
  refine X_iconst (v := (0 : Int32)) rfl rfl rfl ?_
  refine X_bipush (v := (25 : Int32)) rfl rfl rfl ?_
  refine X_callS (as := [.int x1, .int (0 : Int32), .int (25 : Int32)]) (st := []) rfl rfl rfl (by decide) rfl (Nat.le_of_ble_eq_true rfl) (by decide) (Nat.le_of_ble_eq_true rfl) rfl ?_
  refine LW_ls (ls' := [some (.int x1), some (.int (0 : Int32)), some (.int (25 : Int32))]) rfl ?_
  refine X_iload_n rfl rfl rfl rfl ?_
  refine X_iload_n rfl rfl rfl rfl ?_
  refine S_icmp_lt (tgt := 14) rfl rfl rfl hx1 (show (0 : Int32).toInt = 0 from rfl) (fun vh1 => ?_) (fun vh1 => ?_)
  · refine X_iconst (v := (0 : Int32)) rfl rfl rfl ?_
    refine LW_ireturn (st := []) rfl rfl rfl ?_
    refine LW_ireturn (st := []) rfl rfl rfl ?_
    refine S_if_eq (tgt := 12) rfl rfl rfl (show (0 : Int32).toInt = 0 from rfl) (fun vh2 => ?_) (fun q => absurd q (by omega))
    refine X_bipush (v := (-2 : Int32)) rfl rfl rfl ?_
    exact LW_ireturn (st := []) rfl rfl rfl ⟨_, rfl, rfl⟩
  · refine X_iload_n rfl rfl rfl rfl ?_
    refine X_iload_n rfl rfl rfl rfl ?_
    refine S_icmp_gt (tgt := 14) rfl rfl rfl hx1 (show (25 : Int32).toInt = 25 from rfl) (fun vh3 => ?_) (fun vh3 => ?_)
    · refine X_iconst (v := (0 : Int32)) rfl rfl rfl ?_
      refine LW_ireturn (st := []) rfl rfl rfl ?_
      refine LW_ireturn (st := []) rfl rfl rfl ?_
      refine S_if_eq (tgt := 12) rfl rfl rfl (show (0 : Int32).toInt = 0 from rfl) (fun vh4 => ?_) (fun q => absurd q (by omega))
      refine X_bipush (v := (-2 : Int32)) rfl rfl rfl ?_
      exact LW_ireturn (st := []) rfl rfl rfl ⟨_, rfl, rfl⟩
    · refine X_iconst (v := (1 : Int32)) rfl rfl rfl ?_
      refine LW_goto (tgt := 15) rfl rfl ?_
      refine LW_ireturn (st := []) rfl rfl rfl ?_
      refine LW_ireturn (st := []) rfl rfl rfl ?_
      refine S_if_eq (tgt := 12) rfl rfl rfl (show (1 : Int32).toInt = 1 from rfl) (fun q => absurd q (by omega)) (fun vh5 => ?_)
      refine X_iload_n rfl rfl rfl rfl ?_
      refine X_iconst (v := (-1 : Int32)) rfl rfl rfl ?_
      refine S_icmp_ge (tgt := 15) rfl rfl rfl hx2 (show (-1 : Int32).toInt = -1 from rfl) (fun vh6 => ?_) (fun vh6 => ?_)
      · refine X_iconst (v := (0 : Int32)) rfl rfl rfl ?_
        refine X_istore_n (i := 3) (ls' := [some (.ref 355), some (.int x1), some (.int x2), some (.int (0 : Int32)), none, none]) rfl rfl rfl (Nat.le_of_ble_eq_true rfl) rfl ?_
        refine X_aload_n rfl rfl rfl rfl ?_
        refine X_iload_n rfl rfl rfl rfl ?_
        refine X_iconst (v := (1 : Int32)) rfl rfl rfl ?_
        refine X_iconst (v := (0 : Int32)) rfl rfl rfl ?_
        refine Y_callV (as := [.int x1, .int (1 : Int32), .int (0 : Int32)]) (st := []) rfl rfl rfl (by decide) rfl (Nat.le_of_ble_eq_true rfl) (by decide) (Nat.le_of_ble_eq_true rfl) rfl ((congrFun V.1 355).trans s_355) (by decide) (C_X13_canBe V x1 y1 hx1 (by omega) (1 : Int32) 1 (show (1 : Int32).toInt = 1 from rfl) (by omega) (0 : Int32) 0 (show (0 : Int32).toInt = 0 from rfl) (by omega) ) ?_
        rintro _ g' ⟨vr7, rfl, hrvr70, hrvr71, hgg⟩
        subst hgg
        refine S_if_eq (tgt := 36) rfl rfl rfl rfl (fun vh8 => ?_) (fun vh8 => ?_)
        · refine X_iconst (v := (0 : Int32)) rfl rfl rfl ?_
          refine X_istore (i := 4) (ls' := [some (.ref 355), some (.int x1), some (.int x2), some (.int (0 : Int32)), some (.int (0 : Int32)), none]) rfl rfl (Nat.le_of_ble_eq_true rfl) rfl ?_
          exact (C_X13_spells_all (((31 - 0) * 35 + 34) + 1 : Int).toNat).1 V x1 y1 hx1 (by omega) x2 y2 hx2 (by omega) (0 : Int32) 0 (show (0 : Int32).toInt = 0 from rfl) (0 : Int32) 0 (show (0 : Int32).toInt = 0 from rfl) (by omega) none    (by omega)
        · refine X_iload_n rfl rfl rfl rfl ?_
          refine S_if_ne (tgt := 33) rfl rfl rfl hx2 (fun vh9 => ?_) (fun vh9 => ?_)
          · refine X_iinc (v := (1 : Int32)) (ls' := [some (.ref 355), some (.int x1), some (.int x2), some (.int (1 : Int32)), none, none]) rfl rfl rfl rfl rfl ?_
            refine X_iconst (v := (0 : Int32)) rfl rfl rfl ?_
            refine X_istore (i := 4) (ls' := [some (.ref 355), some (.int x1), some (.int x2), some (.int (1 : Int32)), some (.int (0 : Int32)), none]) rfl rfl (Nat.le_of_ble_eq_true rfl) rfl ?_
            exact (C_X13_spells_all (((31 - 0) * 35 + 34) + 1 : Int).toNat).1 V x1 y1 hx1 (by omega) x2 y2 hx2 (by omega) (1 : Int32) 1 (show (1 : Int32).toInt = 1 from rfl) (0 : Int32) 0 (show (0 : Int32).toInt = 0 from rfl) (by omega) none    (by omega)
          · refine X_iconst (v := (-1 : Int32)) rfl rfl rfl ?_
            exact LW_ireturn (st := []) rfl rfl rfl ⟨_, rfl, rfl⟩
      · refine X_bipush (v := (-2 : Int32)) rfl rfl rfl ?_
        exact LW_ireturn (st := []) rfl rfl rfl ⟨_, rfl, rfl⟩
set_option maxRecDepth 10000 in
set_option maxHeartbeats 40000000 in
theorem C_X13_about {P : Par} {g : LH} {d : Nat}  (V : InvR P g) (x1 : Int32) (y1 : Int) (hx1 : x1.toInt = y1)   : LW 318 (d + 8) 0 0 0 (lEnt (mL 318) [.ref 355, .int x1]) [] g (fun v g' => ∃ r : Int32, v = some (.int r) ∧ g = g') := by
  refine LW_ls (ls' := [some (.ref 355), some (.int x1)]) rfl ?_
  refine X_iload_n rfl rfl rfl rfl ?_
  refine X_iconst (v := (0 : Int32)) rfl rfl rfl ?_
  refine X_bipush (v := (9 : Int32)) rfl rfl rfl ?_
  refine X_callS (as := [.int x1, .int (0 : Int32), .int (9 : Int32)]) (st := []) rfl rfl rfl (by decide) rfl (Nat.le_of_ble_eq_true rfl) (by decide) (Nat.le_of_ble_eq_true rfl) rfl ?_
  refine LW_ls (ls' := [some (.int x1), some (.int (0 : Int32)), some (.int (9 : Int32))]) rfl ?_
  refine X_iload_n rfl rfl rfl rfl ?_
  refine X_iload_n rfl rfl rfl rfl ?_
  refine S_icmp_lt (tgt := 14) rfl rfl rfl hx1 (show (0 : Int32).toInt = 0 from rfl) (fun vh1 => ?_) (fun vh1 => ?_)
  · refine X_iconst (v := (0 : Int32)) rfl rfl rfl ?_
    refine LW_ireturn (st := []) rfl rfl rfl ?_
    refine S_if_eq (tgt := 19) rfl rfl rfl (show (0 : Int32).toInt = 0 from rfl) (fun vh2 => ?_) (fun q => absurd q (by omega))
    refine X_iload_n rfl rfl rfl rfl ?_
    refine X_bipush (v := (10 : Int32)) rfl rfl rfl ?_
    refine S_icmp_ne (tgt := 32) rfl rfl rfl hx1 (show (10 : Int32).toInt = 10 from rfl) (fun vh3 => ?_) (fun q => absurd q (by omega))
    refine X_iload_n rfl rfl rfl rfl ?_
    refine X_bipush (v := (11 : Int32)) rfl rfl rfl ?_
    refine S_icmp_ne (tgt := 51) rfl rfl rfl hx1 (show (11 : Int32).toInt = 11 from rfl) (fun vh4 => ?_) (fun q => absurd q (by omega))
    refine X_bipush (v := (-2 : Int32)) rfl rfl rfl ?_
    exact LW_ireturn (st := []) rfl rfl rfl ⟨_, rfl, rfl⟩
  · refine X_iload_n rfl rfl rfl rfl ?_
    refine X_iload_n rfl rfl rfl rfl ?_
    refine S_icmp_gt (tgt := 14) rfl rfl rfl hx1 (show (9 : Int32).toInt = 9 from rfl) (fun vh5 => ?_) (fun vh5 => ?_)
    · refine X_iconst (v := (0 : Int32)) rfl rfl rfl ?_
      refine LW_ireturn (st := []) rfl rfl rfl ?_
      refine S_if_eq (tgt := 19) rfl rfl rfl (show (0 : Int32).toInt = 0 from rfl) (fun vh6 => ?_) (fun q => absurd q (by omega))
      refine X_iload_n rfl rfl rfl rfl ?_
      refine X_bipush (v := (10 : Int32)) rfl rfl rfl ?_
      refine S_icmp_ne (tgt := 32) rfl rfl rfl hx1 (show (10 : Int32).toInt = 10 from rfl) (fun vh7 => ?_) (fun vh7 => ?_)
      · refine X_iload_n rfl rfl rfl rfl ?_
        refine X_bipush (v := (11 : Int32)) rfl rfl rfl ?_
        refine S_icmp_ne (tgt := 51) rfl rfl rfl hx1 (show (11 : Int32).toInt = 11 from rfl) (fun vh8 => ?_) (fun vh8 => ?_)
        · refine X_bipush (v := (-2 : Int32)) rfl rfl rfl ?_
          exact LW_ireturn (st := []) rfl rfl rfl ⟨_, rfl, rfl⟩
        · refine X_aload_n rfl rfl rfl rfl ?_
          refine X_getR (a := 356) rfl rfl rfl ((congrFun V.1 355).trans s_355) rfl ((congrFun (V.2.1 355 (by decide)) 0).trans r_355_0) ?_
          refine X_bipush (v := (7 : Int32)) rfl rfl rfl ?_
          refine S_iald rfl rfl ((congrFun V.1 356).trans s_356) (show (7 : Int32).toInt = 7 from rfl) (by omega) (fun vz9 evz9 => ?_)
          have evz9 : Gi g 356 7 = vz9 := evz9
          refine Y_callS (as := [.int vz9]) (st := []) rfl rfl rfl (by decide) rfl (Nat.le_of_ble_eq_true rfl) (by decide) (Nat.le_of_ble_eq_true rfl) rfl (C_X13_bits V vz9 vz9.toInt rfl ) ?_
          rintro _ g' ⟨vr10, rfl, hrvr100, hrvr101, hgg⟩
          subst hgg
          refine LW_goto (tgt := 53) rfl rfl ?_
          exact LW_ireturn (st := []) rfl rfl rfl ⟨_, rfl, rfl⟩
      · refine X_aload_n rfl rfl rfl rfl ?_
        refine S_getI rfl rfl rfl ((congrFun V.1 355).trans s_355) rfl (fun vz11 evz11 => ?_)
        have vf12 := O_355_8 (V.2.2.2.2.2.2.1 355 (8) (Nat.le_of_ble_eq_true rfl))
        rw [evz11] at vf12
        refine LW_goto (tgt := 53) rfl rfl ?_
        exact LW_ireturn (st := []) rfl rfl rfl ⟨_, rfl, rfl⟩
    · refine X_iconst (v := (1 : Int32)) rfl rfl rfl ?_
      refine LW_goto (tgt := 15) rfl rfl ?_
      refine LW_ireturn (st := []) rfl rfl rfl ?_
      refine S_if_eq (tgt := 19) rfl rfl rfl (show (1 : Int32).toInt = 1 from rfl) (fun q => absurd q (by omega)) (fun vh13 => ?_)
      refine X_aload_n rfl rfl rfl rfl ?_
      refine X_getR (a := 356) rfl rfl rfl ((congrFun V.1 355).trans s_355) rfl ((congrFun (V.2.1 355 (by decide)) 0).trans r_355_0) ?_
      refine X_iload_n rfl rfl rfl rfl ?_
      refine S_iald rfl rfl ((congrFun V.1 356).trans s_356) hx1 (by omega) (fun vz14 evz14 => ?_)
      refine LW_goto (tgt := 53) rfl rfl ?_
      exact LW_ireturn (st := []) rfl rfl rfl ⟨_, rfl, rfl⟩
