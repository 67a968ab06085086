/-! the reference's methods: each returns and keeps what every state keeps -/
set_option maxRecDepth 10000 in
set_option maxHeartbeats 40000000 in
theorem C_X13_feed {P : Par} {g : LH} {d : Nat}  (V : InvR P g) (x1 : Int32) (y1 : Int) (hx1 : x1.toInt = y1) (x2 : Int32) (y2 : Int) (hx2 : x2.toInt = y2) (x3 : Int32) (y3 : Int) (hx3 : x3.toInt = y3) (x4 : Int32) (y4 : Int) (hx4 : x4.toInt = y4) (x5 : Int32) (y5 : Int) (hx5 : x5.toInt = y5)   : LW 195 (d + 4) 0 0 0 (lEnt (mL 195) [.ref 355, .int x1, .int x2, .int x3, .int x4, .int x5]) [] g (fun v g' => ∃ r : Int32, v = some (.int r) ∧ (-1) ≤ r.toInt ∧ r.toInt ≤ 300 ∧ InvR P g' ∧ Gr g' = Gr g) := by
  refine LW_ls (ls' := [some (.ref 355), some (.int x1), some (.int x2), some (.int x3), some (.int x4), some (.int x5)]) rfl ?_
  have hG : Gr g = Gr g := rfl
  refine X_aload_n rfl rfl rfl rfl ?_
  refine S_getI rfl rfl rfl ((congrFun V.1 355).trans s_355) rfl (fun vz1 evz1 => ?_)
  have vf2 := O_355_8 (V.2.2.2.2.2.2.1 355 (8) (Nat.le_of_ble_eq_true rfl))
  rw [evz1] at vf2
  refine X_bipush (v := (20 : Int32)) rfl rfl rfl ?_
  refine S_iadd rfl rfl rfl (show (20 : Int32).toInt = 20 from rfl) (by omega) (fun vz3 hvz3 => ?_)
  refine X_sipush (v := (300 : Int32)) rfl rfl rfl ?_
  refine S_icmp_le (tgt := 15) rfl rfl rfl rfl (show (300 : Int32).toInt = 300 from rfl) (fun vh4 => ?_) (fun vh4 => ?_)
  · refine X_aload_n rfl rfl rfl rfl ?_
    refine X_iload_n rfl rfl rfl rfl ?_
    refine X_callV (as := [.int x1]) (st := []) rfl rfl rfl (by decide) rfl (Nat.le_of_ble_eq_true rfl) (by decide) (Nat.le_of_ble_eq_true rfl) rfl ((congrFun V.1 355).trans s_355) (by decide) ?_
    refine LW_ls (ls' := [some (.ref 355), some (.int x1), none]) rfl ?_
    refine X_bipush (v := (24 : Int32)) rfl rfl rfl ?_
    refine X_istore_n (i := 2) (ls' := [some (.ref 355), some (.int x1), some (.int (24 : Int32))]) rfl rfl rfl (Nat.le_of_ble_eq_true rfl) rfl ?_
    refine X_iload_n rfl rfl rfl rfl ?_
    refine S_if_lt (tgt := 39) rfl rfl rfl (show (24 : Int32).toInt = 24 from rfl) (fun q => absurd q (by omega)) (fun vh5 => ?_)
    refine X_aload_n rfl rfl rfl rfl ?_
    refine X_getR (a := 361) rfl rfl rfl ((congrFun V.1 355).trans s_355) rfl ((congrFun (V.2.1 355 (by decide)) 7).trans r_355_7) ?_
    refine X_aload_n rfl rfl rfl rfl ?_
    refine X_getI (v := vz1) rfl rfl rfl ((congrFun V.1 355).trans s_355) rfl evz1 ?_
    refine X_iload_n rfl rfl rfl rfl ?_
    refine X_iload_n rfl rfl rfl rfl ?_
    refine S_ishrT rfl rfl (fun vz6 => ?_)
    refine X_sipush (v := (255 : Int32)) rfl rfl rfl ?_
    refine S_iandR (k := 8) rfl rfl rfl (fun vz7 hvz7 => ?_)
    refine S_iast (I := InvR _) rfl rfl ((congrFun V.1 361).trans s_361) rfl (by omega) (InvR_putO V (by decide) (show okO 361 _ _ from (show 0 ≤ vz7.toInt ∧ vz7.toInt ≤ 255 by omega))) (fun g V ve8 vn9 hq => ?_)
    have hG := hq.trans hG
    have evz1 := (vn9 (355) 8 (Or.inl (by decide))).trans evz1
    refine X_aload_n rfl rfl rfl rfl ?_
    refine X_dup rfl rfl rfl ?_
    refine X_getI (v := vz1) rfl rfl rfl ((congrFun V.1 355).trans s_355) rfl evz1 ?_
    refine X_iconst (v := (1 : Int32)) rfl rfl rfl ?_
    refine S_iadd rfl rfl rfl (show (1 : Int32).toInt = 1 from rfl) (by omega) (fun vz10 hvz10 => ?_)
    refine S_putI (I := InvR _) rfl rfl rfl ((congrFun V.1 355).trans s_355) rfl rfl rfl rfl (InvR_putO V (by decide) (show okO 355 _ _ from (show 0 ≤ vz10.toInt ∧ vz10.toInt ≤ 300 by omega))) (fun g V ve11 vn12 hq => ?_)
    have hG := hq.trans hG
    refine X_iinc (v := (16 : Int32)) (ls' := [some (.ref 355), some (.int x1), some (.int (16 : Int32))]) rfl rfl rfl rfl rfl ?_
    refine LW_goto (tgt := 3) rfl rfl ?_
    refine X_iload_n rfl rfl rfl rfl ?_
    refine S_if_lt (tgt := 39) rfl rfl rfl (show (16 : Int32).toInt = 16 from rfl) (fun q => absurd q (by omega)) (fun vh13 => ?_)
    refine X_aload_n rfl rfl rfl rfl ?_
    refine X_getR (a := 361) rfl rfl rfl ((congrFun V.1 355).trans s_355) rfl ((congrFun (V.2.1 355 (by decide)) 7).trans r_355_7) ?_
    refine X_aload_n rfl rfl rfl rfl ?_
    refine X_getI (v := vz10) rfl rfl rfl ((congrFun V.1 355).trans s_355) rfl ve11 ?_
    refine X_iload_n rfl rfl rfl rfl ?_
    refine X_iload_n rfl rfl rfl rfl ?_
    refine S_ishrT rfl rfl (fun vz14 => ?_)
    refine X_sipush (v := (255 : Int32)) rfl rfl rfl ?_
    refine S_iandR (k := 8) rfl rfl rfl (fun vz15 hvz15 => ?_)
    refine S_iast (I := InvR _) rfl rfl ((congrFun V.1 361).trans s_361) rfl (by omega) (InvR_putO V (by decide) (show okO 361 _ _ from (show 0 ≤ vz15.toInt ∧ vz15.toInt ≤ 255 by omega))) (fun g V ve16 vn17 hq => ?_)
    have hG := hq.trans hG
    have ve11 := (vn17 (355) 8 (Or.inl (by decide))).trans ve11
    refine X_aload_n rfl rfl rfl rfl ?_
    refine X_dup rfl rfl rfl ?_
    refine X_getI (v := vz10) rfl rfl rfl ((congrFun V.1 355).trans s_355) rfl ve11 ?_
    refine X_iconst (v := (1 : Int32)) rfl rfl rfl ?_
    refine S_iadd rfl rfl rfl (show (1 : Int32).toInt = 1 from rfl) (by omega) (fun vz18 hvz18 => ?_)
    refine S_putI (I := InvR _) rfl rfl rfl ((congrFun V.1 355).trans s_355) rfl rfl rfl rfl (InvR_putO V (by decide) (show okO 355 _ _ from (show 0 ≤ vz18.toInt ∧ vz18.toInt ≤ 300 by omega))) (fun g V ve19 vn20 hq => ?_)
    have hG := hq.trans hG
    refine X_iinc (v := (8 : Int32)) (ls' := [some (.ref 355), some (.int x1), some (.int (8 : Int32))]) rfl rfl rfl rfl rfl ?_
    refine LW_goto (tgt := 3) rfl rfl ?_
    refine X_iload_n rfl rfl rfl rfl ?_
    refine S_if_lt (tgt := 39) rfl rfl rfl (show (8 : Int32).toInt = 8 from rfl) (fun q => absurd q (by omega)) (fun vh21 => ?_)
    refine X_aload_n rfl rfl rfl rfl ?_
    refine X_getR (a := 361) rfl rfl rfl ((congrFun V.1 355).trans s_355) rfl ((congrFun (V.2.1 355 (by decide)) 7).trans r_355_7) ?_
    refine X_aload_n rfl rfl rfl rfl ?_
    refine X_getI (v := vz18) rfl rfl rfl ((congrFun V.1 355).trans s_355) rfl ve19 ?_
    refine X_iload_n rfl rfl rfl rfl ?_
    refine X_iload_n rfl rfl rfl rfl ?_
    refine S_ishrT rfl rfl (fun vz22 => ?_)
    refine X_sipush (v := (255 : Int32)) rfl rfl rfl ?_
    refine S_iandR (k := 8) rfl rfl rfl (fun vz23 hvz23 => ?_)
    refine S_iast (I := InvR _) rfl rfl ((congrFun V.1 361).trans s_361) rfl (by omega) (InvR_putO V (by decide) (show okO 361 _ _ from (show 0 ≤ vz23.toInt ∧ vz23.toInt ≤ 255 by omega))) (fun g V ve24 vn25 hq => ?_)
    have hG := hq.trans hG
    have ve19 := (vn25 (355) 8 (Or.inl (by decide))).trans ve19
    refine X_aload_n rfl rfl rfl rfl ?_
    refine X_dup rfl rfl rfl ?_
    refine X_getI (v := vz18) rfl rfl rfl ((congrFun V.1 355).trans s_355) rfl ve19 ?_
    refine X_iconst (v := (1 : Int32)) rfl rfl rfl ?_
    refine S_iadd rfl rfl rfl (show (1 : Int32).toInt = 1 from rfl) (by omega) (fun vz26 hvz26 => ?_)
    refine S_putI (I := InvR _) rfl rfl rfl ((congrFun V.1 355).trans s_355) rfl rfl rfl rfl (InvR_putO V (by decide) (show okO 355 _ _ from (show 0 ≤ vz26.toInt ∧ vz26.toInt ≤ 300 by omega))) (fun g V ve27 vn28 hq => ?_)
    have hG := hq.trans hG
    refine X_iinc (v := (0 : Int32)) (ls' := [some (.ref 355), some (.int x1), some (.int (0 : Int32))]) rfl rfl rfl rfl rfl ?_
    refine LW_goto (tgt := 3) rfl rfl ?_
    refine X_iload_n rfl rfl rfl rfl ?_
    refine S_if_lt (tgt := 39) rfl rfl rfl (show (0 : Int32).toInt = 0 from rfl) (fun q => absurd q (by omega)) (fun vh29 => ?_)
    refine X_aload_n rfl rfl rfl rfl ?_
    refine X_getR (a := 361) rfl rfl rfl ((congrFun V.1 355).trans s_355) rfl ((congrFun (V.2.1 355 (by decide)) 7).trans r_355_7) ?_
    refine X_aload_n rfl rfl rfl rfl ?_
    refine X_getI (v := vz26) rfl rfl rfl ((congrFun V.1 355).trans s_355) rfl ve27 ?_
    refine X_iload_n rfl rfl rfl rfl ?_
    refine X_iload_n rfl rfl rfl rfl ?_
    refine S_ishrT rfl rfl (fun vz30 => ?_)
    refine X_sipush (v := (255 : Int32)) rfl rfl rfl ?_
    refine S_iandR (k := 8) rfl rfl rfl (fun vz31 hvz31 => ?_)
    refine S_iast (I := InvR _) rfl rfl ((congrFun V.1 361).trans s_361) rfl (by omega) (InvR_putO V (by decide) (show okO 361 _ _ from (show 0 ≤ vz31.toInt ∧ vz31.toInt ≤ 255 by omega))) (fun g V ve32 vn33 hq => ?_)
    have hG := hq.trans hG
    have ve27 := (vn33 (355) 8 (Or.inl (by decide))).trans ve27
    refine X_aload_n rfl rfl rfl rfl ?_
    refine X_dup rfl rfl rfl ?_
    refine X_getI (v := vz26) rfl rfl rfl ((congrFun V.1 355).trans s_355) rfl ve27 ?_
    refine X_iconst (v := (1 : Int32)) rfl rfl rfl ?_
    refine S_iadd rfl rfl rfl (show (1 : Int32).toInt = 1 from rfl) (by omega) (fun vz34 hvz34 => ?_)
    refine S_putI (I := InvR _) rfl rfl rfl ((congrFun V.1 355).trans s_355) rfl rfl rfl rfl (InvR_putO V (by decide) (show okO 355 _ _ from (show 0 ≤ vz34.toInt ∧ vz34.toInt ≤ 300 by omega))) (fun g V ve35 vn36 hq => ?_)
    have hG := hq.trans hG
    refine X_iinc (v := (-8 : Int32)) (ls' := [some (.ref 355), some (.int x1), some (.int (-8 : Int32))]) rfl rfl rfl rfl rfl ?_
    refine LW_goto (tgt := 3) rfl rfl ?_
    refine X_iload_n rfl rfl rfl rfl ?_
    refine S_if_lt (tgt := 39) rfl rfl rfl (show (-8 : Int32).toInt = -8 from rfl) (fun vh37 => ?_) (fun q => absurd q (by omega))
    refine LW_return (st := []) rfl rfl ?_
    refine X_aload_n rfl rfl rfl rfl ?_
    refine X_iload_n rfl rfl rfl rfl ?_
    refine X_callV (as := [.int x2]) (st := []) rfl rfl rfl (by decide) rfl (Nat.le_of_ble_eq_true rfl) (by decide) (Nat.le_of_ble_eq_true rfl) rfl ((congrFun V.1 355).trans s_355) (by decide) ?_
    refine LW_ls (ls' := [some (.ref 355), some (.int x2), none]) rfl ?_
    refine X_bipush (v := (24 : Int32)) rfl rfl rfl ?_
    refine X_istore_n (i := 2) (ls' := [some (.ref 355), some (.int x2), some (.int (24 : Int32))]) rfl rfl rfl (Nat.le_of_ble_eq_true rfl) rfl ?_
    refine X_iload_n rfl rfl rfl rfl ?_
    refine S_if_lt (tgt := 39) rfl rfl rfl (show (24 : Int32).toInt = 24 from rfl) (fun q => absurd q (by omega)) (fun vh38 => ?_)
    refine X_aload_n rfl rfl rfl rfl ?_
    refine X_getR (a := 361) rfl rfl rfl ((congrFun V.1 355).trans s_355) rfl ((congrFun (V.2.1 355 (by decide)) 7).trans r_355_7) ?_
    refine X_aload_n rfl rfl rfl rfl ?_
    refine X_getI (v := vz34) rfl rfl rfl ((congrFun V.1 355).trans s_355) rfl ve35 ?_
    refine X_iload_n rfl rfl rfl rfl ?_
    refine X_iload_n rfl rfl rfl rfl ?_
    refine S_ishrT rfl rfl (fun vz39 => ?_)
    refine X_sipush (v := (255 : Int32)) rfl rfl rfl ?_
    refine S_iandR (k := 8) rfl rfl rfl (fun vz40 hvz40 => ?_)
    refine S_iast (I := InvR _) rfl rfl ((congrFun V.1 361).trans s_361) rfl (by omega) (InvR_putO V (by decide) (show okO 361 _ _ from (show 0 ≤ vz40.toInt ∧ vz40.toInt ≤ 255 by omega))) (fun g V ve41 vn42 hq => ?_)
    have hG := hq.trans hG
    have ve35 := (vn42 (355) 8 (Or.inl (by decide))).trans ve35
    refine X_aload_n rfl rfl rfl rfl ?_
    refine X_dup rfl rfl rfl ?_
    refine X_getI (v := vz34) rfl rfl rfl ((congrFun V.1 355).trans s_355) rfl ve35 ?_
    refine X_iconst (v := (1 : Int32)) rfl rfl rfl ?_
    refine S_iadd rfl rfl rfl (show (1 : Int32).toInt = 1 from rfl) (by omega) (fun vz43 hvz43 => ?_)
    refine S_putI (I := InvR _) rfl rfl rfl ((congrFun V.1 355).trans s_355) rfl rfl rfl rfl (InvR_putO V (by decide) (show okO 355 _ _ from (show 0 ≤ vz43.toInt ∧ vz43.toInt ≤ 300 by omega))) (fun g V ve44 vn45 hq => ?_)
    have hG := hq.trans hG
    refine X_iinc (v := (16 : Int32)) (ls' := [some (.ref 355), some (.int x2), some (.int (16 : Int32))]) rfl rfl rfl rfl rfl ?_
    refine LW_goto (tgt := 3) rfl rfl ?_
    refine X_iload_n rfl rfl rfl rfl ?_
    refine S_if_lt (tgt := 39) rfl rfl rfl (show (16 : Int32).toInt = 16 from rfl) (fun q => absurd q (by omega)) (fun vh46 => ?_)
    refine X_aload_n rfl rfl rfl rfl ?_
    refine X_getR (a := 361) rfl rfl rfl ((congrFun V.1 355).trans s_355) rfl ((congrFun (V.2.1 355 (by decide)) 7).trans r_355_7) ?_
    refine X_aload_n rfl rfl rfl rfl ?_
    refine X_getI (v := vz43) rfl rfl rfl ((congrFun V.1 355).trans s_355) rfl ve44 ?_
    refine X_iload_n rfl rfl rfl rfl ?_
    refine X_iload_n rfl rfl rfl rfl ?_
    refine S_ishrT rfl rfl (fun vz47 => ?_)
    refine X_sipush (v := (255 : Int32)) rfl rfl rfl ?_
    refine S_iandR (k := 8) rfl rfl rfl (fun vz48 hvz48 => ?_)
    refine S_iast (I := InvR _) rfl rfl ((congrFun V.1 361).trans s_361) rfl (by omega) (InvR_putO V (by decide) (show okO 361 _ _ from (show 0 ≤ vz48.toInt ∧ vz48.toInt ≤ 255 by omega))) (fun g V ve49 vn50 hq => ?_)
    have hG := hq.trans hG
    have ve44 := (vn50 (355) 8 (Or.inl (by decide))).trans ve44
    refine X_aload_n rfl rfl rfl rfl ?_
    refine X_dup rfl rfl rfl ?_
    refine X_getI (v := vz43) rfl rfl rfl ((congrFun V.1 355).trans s_355) rfl ve44 ?_
    refine X_iconst (v := (1 : Int32)) rfl rfl rfl ?_
    refine S_iadd rfl rfl rfl (show (1 : Int32).toInt = 1 from rfl) (by omega) (fun vz51 hvz51 => ?_)
    refine S_putI (I := InvR _) rfl rfl rfl ((congrFun V.1 355).trans s_355) rfl rfl rfl rfl (InvR_putO V (by decide) (show okO 355 _ _ from (show 0 ≤ vz51.toInt ∧ vz51.toInt ≤ 300 by omega))) (fun g V ve52 vn53 hq => ?_)
    have hG := hq.trans hG
    refine X_iinc (v := (8 : Int32)) (ls' := [some (.ref 355), some (.int x2), some (.int (8 : Int32))]) rfl rfl rfl rfl rfl ?_
    refine LW_goto (tgt := 3) rfl rfl ?_
    refine X_iload_n rfl rfl rfl rfl ?_
    refine S_if_lt (tgt := 39) rfl rfl rfl (show (8 : Int32).toInt = 8 from rfl) (fun q => absurd q (by omega)) (fun vh54 => ?_)
    refine X_aload_n rfl rfl rfl rfl ?_
    refine X_getR (a := 361) rfl rfl rfl ((congrFun V.1 355).trans s_355) rfl ((congrFun (V.2.1 355 (by decide)) 7).trans r_355_7) ?_
    refine X_aload_n rfl rfl rfl rfl ?_
    refine X_getI (v := vz51) rfl rfl rfl ((congrFun V.1 355).trans s_355) rfl ve52 ?_
    refine X_iload_n rfl rfl rfl rfl ?_
    refine X_iload_n rfl rfl rfl rfl ?_
    refine S_ishrT rfl rfl (fun vz55 => ?_)
    refine X_sipush (v := (255 : Int32)) rfl rfl rfl ?_
    refine S_iandR (k := 8) rfl rfl rfl (fun vz56 hvz56 => ?_)
    refine S_iast (I := InvR _) rfl rfl ((congrFun V.1 361).trans s_361) rfl (by omega) (InvR_putO V (by decide) (show okO 361 _ _ from (show 0 ≤ vz56.toInt ∧ vz56.toInt ≤ 255 by omega))) (fun g V ve57 vn58 hq => ?_)
    have hG := hq.trans hG
    have ve52 := (vn58 (355) 8 (Or.inl (by decide))).trans ve52
    refine X_aload_n rfl rfl rfl rfl ?_
    refine X_dup rfl rfl rfl ?_
    refine X_getI (v := vz51) rfl rfl rfl ((congrFun V.1 355).trans s_355) rfl ve52 ?_
    refine X_iconst (v := (1 : Int32)) rfl rfl rfl ?_
    refine S_iadd rfl rfl rfl (show (1 : Int32).toInt = 1 from rfl) (by omega) (fun vz59 hvz59 => ?_)
    refine S_putI (I := InvR _) rfl rfl rfl ((congrFun V.1 355).trans s_355) rfl rfl rfl rfl (InvR_putO V (by decide) (show okO 355 _ _ from (show 0 ≤ vz59.toInt ∧ vz59.toInt ≤ 300 by omega))) (fun g V ve60 vn61 hq => ?_)
    have hG := hq.trans hG
    refine X_iinc (v := (0 : Int32)) (ls' := [some (.ref 355), some (.int x2), some (.int (0 : Int32))]) rfl rfl rfl rfl rfl ?_
    refine LW_goto (tgt := 3) rfl rfl ?_
    refine X_iload_n rfl rfl rfl rfl ?_
    refine S_if_lt (tgt := 39) rfl rfl rfl (show (0 : Int32).toInt = 0 from rfl) (fun q => absurd q (by omega)) (fun vh62 => ?_)
    refine X_aload_n rfl rfl rfl rfl ?_
    refine X_getR (a := 361) rfl rfl rfl ((congrFun V.1 355).trans s_355) rfl ((congrFun (V.2.1 355 (by decide)) 7).trans r_355_7) ?_
    refine X_aload_n rfl rfl rfl rfl ?_
    refine X_getI (v := vz59) rfl rfl rfl ((congrFun V.1 355).trans s_355) rfl ve60 ?_
    refine X_iload_n rfl rfl rfl rfl ?_
    refine X_iload_n rfl rfl rfl rfl ?_
    refine S_ishrT rfl rfl (fun vz63 => ?_)
    refine X_sipush (v := (255 : Int32)) rfl rfl rfl ?_
    refine S_iandR (k := 8) rfl rfl rfl (fun vz64 hvz64 => ?_)
    refine S_iast (I := InvR _) rfl rfl ((congrFun V.1 361).trans s_361) rfl (by omega) (InvR_putO V (by decide) (show okO 361 _ _ from (show 0 ≤ vz64.toInt ∧ vz64.toInt ≤ 255 by omega))) (fun g V ve65 vn66 hq => ?_)
    have hG := hq.trans hG
    have ve60 := (vn66 (355) 8 (Or.inl (by decide))).trans ve60
    refine X_aload_n rfl rfl rfl rfl ?_
    refine X_dup rfl rfl rfl ?_
    refine X_getI (v := vz59) rfl rfl rfl ((congrFun V.1 355).trans s_355) rfl ve60 ?_
    refine X_iconst (v := (1 : Int32)) rfl rfl rfl ?_
    refine S_iadd rfl rfl rfl (show (1 : Int32).toInt = 1 from rfl) (by omega) (fun vz67 hvz67 => ?_)
    refine S_putI (I := InvR _) rfl rfl rfl ((congrFun V.1 355).trans s_355) rfl rfl rfl rfl (InvR_putO V (by decide) (show okO 355 _ _ from (show 0 ≤ vz67.toInt ∧ vz67.toInt ≤ 300 by omega))) (fun g V ve68 vn69 hq => ?_)
    have hG := hq.trans hG
    refine X_iinc (v := (-8 : Int32)) (ls' := [some (.ref 355), some (.int x2), some (.int (-8 : Int32))]) rfl rfl rfl rfl rfl ?_
    refine LW_goto (tgt := 3) rfl rfl ?_
    refine X_iload_n rfl rfl rfl rfl ?_
    refine S_if_lt (tgt := 39) rfl rfl rfl (show (-8 : Int32).toInt = -8 from rfl) (fun vh70 => ?_) (fun q => absurd q (by omega))
    refine LW_return (st := []) rfl rfl ?_
    refine X_aload_n rfl rfl rfl rfl ?_
    refine X_iload_n rfl rfl rfl rfl ?_
    refine X_callV (as := [.int x3]) (st := []) rfl rfl rfl (by decide) rfl (Nat.le_of_ble_eq_true rfl) (by decide) (Nat.le_of_ble_eq_true rfl) rfl ((congrFun V.1 355).trans s_355) (by decide) ?_
    refine LW_ls (ls' := [some (.ref 355), some (.int x3), none]) rfl ?_
    refine X_bipush (v := (24 : Int32)) rfl rfl rfl ?_
    refine X_istore_n (i := 2) (ls' := [some (.ref 355), some (.int x3), some (.int (24 : Int32))]) rfl rfl rfl (Nat.le_of_ble_eq_true rfl) rfl ?_
    refine X_iload_n rfl rfl rfl rfl ?_
    refine S_if_lt (tgt := 39) rfl rfl rfl (show (24 : Int32).toInt = 24 from rfl) (fun q => absurd q (by omega)) (fun vh71 => ?_)
    refine X_aload_n rfl rfl rfl rfl ?_
    refine X_getR (a := 361) rfl rfl rfl ((congrFun V.1 355).trans s_355) rfl ((congrFun (V.2.1 355 (by decide)) 7).trans r_355_7) ?_
    refine X_aload_n rfl rfl rfl rfl ?_
    refine X_getI (v := vz67) rfl rfl rfl ((congrFun V.1 355).trans s_355) rfl ve68 ?_
    refine X_iload_n rfl rfl rfl rfl ?_
    refine X_iload_n rfl rfl rfl rfl ?_
    refine S_ishrT rfl rfl (fun vz72 => ?_)
    refine X_sipush (v := (255 : Int32)) rfl rfl rfl ?_
    refine S_iandR (k := 8) rfl rfl rfl (fun vz73 hvz73 => ?_)
    refine S_iast (I := InvR _) rfl rfl ((congrFun V.1 361).trans s_361) rfl (by omega) (InvR_putO V (by decide) (show okO 361 _ _ from (show 0 ≤ vz73.toInt ∧ vz73.toInt ≤ 255 by omega))) (fun g V ve74 vn75 hq => ?_)
    have hG := hq.trans hG
    have ve68 := (vn75 (355) 8 (Or.inl (by decide))).trans ve68
    refine X_aload_n rfl rfl rfl rfl ?_
    refine X_dup rfl rfl rfl ?_
    refine X_getI (v := vz67) rfl rfl rfl ((congrFun V.1 355).trans s_355) rfl ve68 ?_
    refine X_iconst (v := (1 : Int32)) rfl rfl rfl ?_
    refine S_iadd rfl rfl rfl (show (1 : Int32).toInt = 1 from rfl) (by omega) (fun vz76 hvz76 => ?_)
    refine S_putI (I := InvR _) rfl rfl rfl ((congrFun V.1 355).trans s_355) rfl rfl rfl rfl (InvR_putO V (by decide) (show okO 355 _ _ from (show 0 ≤ vz76.toInt ∧ vz76.toInt ≤ 300 by omega))) (fun g V ve77 vn78 hq => ?_)
    have hG := hq.trans hG
    refine X_iinc (v := (16 : Int32)) (ls' := [some (.ref 355), some (.int x3), some (.int (16 : Int32))]) rfl rfl rfl rfl rfl ?_
    refine LW_goto (tgt := 3) rfl rfl ?_
    refine X_iload_n rfl rfl rfl rfl ?_
    refine S_if_lt (tgt := 39) rfl rfl rfl (show (16 : Int32).toInt = 16 from rfl) (fun q => absurd q (by omega)) (fun vh79 => ?_)
    refine X_aload_n rfl rfl rfl rfl ?_
    refine X_getR (a := 361) rfl rfl rfl ((congrFun V.1 355).trans s_355) rfl ((congrFun (V.2.1 355 (by decide)) 7).trans r_355_7) ?_
    refine X_aload_n rfl rfl rfl rfl ?_
    refine X_getI (v := vz76) rfl rfl rfl ((congrFun V.1 355).trans s_355) rfl ve77 ?_
    refine X_iload_n rfl rfl rfl rfl ?_
    refine X_iload_n rfl rfl rfl rfl ?_
    refine S_ishrT rfl rfl (fun vz80 => ?_)
    refine X_sipush (v := (255 : Int32)) rfl rfl rfl ?_
    refine S_iandR (k := 8) rfl rfl rfl (fun vz81 hvz81 => ?_)
    refine S_iast (I := InvR _) rfl rfl ((congrFun V.1 361).trans s_361) rfl (by omega) (InvR_putO V (by decide) (show okO 361 _ _ from (show 0 ≤ vz81.toInt ∧ vz81.toInt ≤ 255 by omega))) (fun g V ve82 vn83 hq => ?_)
    have hG := hq.trans hG
    have ve77 := (vn83 (355) 8 (Or.inl (by decide))).trans ve77
    refine X_aload_n rfl rfl rfl rfl ?_
    refine X_dup rfl rfl rfl ?_
    refine X_getI (v := vz76) rfl rfl rfl ((congrFun V.1 355).trans s_355) rfl ve77 ?_
    refine X_iconst (v := (1 : Int32)) rfl rfl rfl ?_
    refine S_iadd rfl rfl rfl (show (1 : Int32).toInt = 1 from rfl) (by omega) (fun vz84 hvz84 => ?_)
    refine S_putI (I := InvR _) rfl rfl rfl ((congrFun V.1 355).trans s_355) rfl rfl rfl rfl (InvR_putO V (by decide) (show okO 355 _ _ from (show 0 ≤ vz84.toInt ∧ vz84.toInt ≤ 300 by omega))) (fun g V ve85 vn86 hq => ?_)
    have hG := hq.trans hG
    refine X_iinc (v := (8 : Int32)) (ls' := [some (.ref 355), some (.int x3), some (.int (8 : Int32))]) rfl rfl rfl rfl rfl ?_
    refine LW_goto (tgt := 3) rfl rfl ?_
    refine X_iload_n rfl rfl rfl rfl ?_
    refine S_if_lt (tgt := 39) rfl rfl rfl (show (8 : Int32).toInt = 8 from rfl) (fun q => absurd q (by omega)) (fun vh87 => ?_)
    refine X_aload_n rfl rfl rfl rfl ?_
    refine X_getR (a := 361) rfl rfl rfl ((congrFun V.1 355).trans s_355) rfl ((congrFun (V.2.1 355 (by decide)) 7).trans r_355_7) ?_
    refine X_aload_n rfl rfl rfl rfl ?_
    refine X_getI (v := vz84) rfl rfl rfl ((congrFun V.1 355).trans s_355) rfl ve85 ?_
    refine X_iload_n rfl rfl rfl rfl ?_
    refine X_iload_n rfl rfl rfl rfl ?_
    refine S_ishrT rfl rfl (fun vz88 => ?_)
    refine X_sipush (v := (255 : Int32)) rfl rfl rfl ?_
    refine S_iandR (k := 8) rfl rfl rfl (fun vz89 hvz89 => ?_)
    refine S_iast (I := InvR _) rfl rfl ((congrFun V.1 361).trans s_361) rfl (by omega) (InvR_putO V (by decide) (show okO 361 _ _ from (show 0 ≤ vz89.toInt ∧ vz89.toInt ≤ 255 by omega))) (fun g V ve90 vn91 hq => ?_)
    have hG := hq.trans hG
    have ve85 := (vn91 (355) 8 (Or.inl (by decide))).trans ve85
    refine X_aload_n rfl rfl rfl rfl ?_
    refine X_dup rfl rfl rfl ?_
    refine X_getI (v := vz84) rfl rfl rfl ((congrFun V.1 355).trans s_355) rfl ve85 ?_
    refine X_iconst (v := (1 : Int32)) rfl rfl rfl ?_
    refine S_iadd rfl rfl rfl (show (1 : Int32).toInt = 1 from rfl) (by omega) (fun vz92 hvz92 => ?_)
    refine S_putI (I := InvR _) rfl rfl rfl ((congrFun V.1 355).trans s_355) rfl rfl rfl rfl (InvR_putO V (by decide) (show okO 355 _ _ from (show 0 ≤ vz92.toInt ∧ vz92.toInt ≤ 300 by omega))) (fun g V ve93 vn94 hq => ?_)
    have hG := hq.trans hG
    refine X_iinc (v := (0 : Int32)) (ls' := [some (.ref 355), some (.int x3), some (.int (0 : Int32))]) rfl rfl rfl rfl rfl ?_
    refine LW_goto (tgt := 3) rfl rfl ?_
    refine X_iload_n rfl rfl rfl rfl ?_
    refine S_if_lt (tgt := 39) rfl rfl rfl (show (0 : Int32).toInt = 0 from rfl) (fun q => absurd q (by omega)) (fun vh95 => ?_)
    refine X_aload_n rfl rfl rfl rfl ?_
    refine X_getR (a := 361) rfl rfl rfl ((congrFun V.1 355).trans s_355) rfl ((congrFun (V.2.1 355 (by decide)) 7).trans r_355_7) ?_
    refine X_aload_n rfl rfl rfl rfl ?_
    refine X_getI (v := vz92) rfl rfl rfl ((congrFun V.1 355).trans s_355) rfl ve93 ?_
    refine X_iload_n rfl rfl rfl rfl ?_
    refine X_iload_n rfl rfl rfl rfl ?_
    refine S_ishrT rfl rfl (fun vz96 => ?_)
    refine X_sipush (v := (255 : Int32)) rfl rfl rfl ?_
    refine S_iandR (k := 8) rfl rfl rfl (fun vz97 hvz97 => ?_)
    refine S_iast (I := InvR _) rfl rfl ((congrFun V.1 361).trans s_361) rfl (by omega) (InvR_putO V (by decide) (show okO 361 _ _ from (show 0 ≤ vz97.toInt ∧ vz97.toInt ≤ 255 by omega))) (fun g V ve98 vn99 hq => ?_)
    have hG := hq.trans hG
    have ve93 := (vn99 (355) 8 (Or.inl (by decide))).trans ve93
    refine X_aload_n rfl rfl rfl rfl ?_
    refine X_dup rfl rfl rfl ?_
    refine X_getI (v := vz92) rfl rfl rfl ((congrFun V.1 355).trans s_355) rfl ve93 ?_
    refine X_iconst (v := (1 : Int32)) rfl rfl rfl ?_
    refine S_iadd rfl rfl rfl (show (1 : Int32).toInt = 1 from rfl) (by omega) (fun vz100 hvz100 => ?_)
    refine S_putI (I := InvR _) rfl rfl rfl ((congrFun V.1 355).trans s_355) rfl rfl rfl rfl (InvR_putO V (by decide) (show okO 355 _ _ from (show 0 ≤ vz100.toInt ∧ vz100.toInt ≤ 300 by omega))) (fun g V ve101 vn102 hq => ?_)
    have hG := hq.trans hG
    refine X_iinc (v := (-8 : Int32)) (ls' := [some (.ref 355), some (.int x3), some (.int (-8 : Int32))]) rfl rfl rfl rfl rfl ?_
    refine LW_goto (tgt := 3) rfl rfl ?_
    refine X_iload_n rfl rfl rfl rfl ?_
    refine S_if_lt (tgt := 39) rfl rfl rfl (show (-8 : Int32).toInt = -8 from rfl) (fun vh103 => ?_) (fun q => absurd q (by omega))
    refine LW_return (st := []) rfl rfl ?_
    refine X_aload_n rfl rfl rfl rfl ?_
    refine X_iload rfl rfl rfl ?_
    refine X_callV (as := [.int x4]) (st := []) rfl rfl rfl (by decide) rfl (Nat.le_of_ble_eq_true rfl) (by decide) (Nat.le_of_ble_eq_true rfl) rfl ((congrFun V.1 355).trans s_355) (by decide) ?_
    refine LW_ls (ls' := [some (.ref 355), some (.int x4), none]) rfl ?_
    refine X_bipush (v := (24 : Int32)) rfl rfl rfl ?_
    refine X_istore_n (i := 2) (ls' := [some (.ref 355), some (.int x4), some (.int (24 : Int32))]) rfl rfl rfl (Nat.le_of_ble_eq_true rfl) rfl ?_
    refine X_iload_n rfl rfl rfl rfl ?_
    refine S_if_lt (tgt := 39) rfl rfl rfl (show (24 : Int32).toInt = 24 from rfl) (fun q => absurd q (by omega)) (fun vh104 => ?_)
    refine X_aload_n rfl rfl rfl rfl ?_
    refine X_getR (a := 361) rfl rfl rfl ((congrFun V.1 355).trans s_355) rfl ((congrFun (V.2.1 355 (by decide)) 7).trans r_355_7) ?_
    refine X_aload_n rfl rfl rfl rfl ?_
    refine X_getI (v := vz100) rfl rfl rfl ((congrFun V.1 355).trans s_355) rfl ve101 ?_
    refine X_iload_n rfl rfl rfl rfl ?_
    refine X_iload_n rfl rfl rfl rfl ?_
    refine S_ishrT rfl rfl (fun vz105 => ?_)
    refine X_sipush (v := (255 : Int32)) rfl rfl rfl ?_
    refine S_iandR (k := 8) rfl rfl rfl (fun vz106 hvz106 => ?_)
    refine S_iast (I := InvR _) rfl rfl ((congrFun V.1 361).trans s_361) rfl (by omega) (InvR_putO V (by decide) (show okO 361 _ _ from (show 0 ≤ vz106.toInt ∧ vz106.toInt ≤ 255 by omega))) (fun g V ve107 vn108 hq => ?_)
    have hG := hq.trans hG
    have ve101 := (vn108 (355) 8 (Or.inl (by decide))).trans ve101
    refine X_aload_n rfl rfl rfl rfl ?_
    refine X_dup rfl rfl rfl ?_
    refine X_getI (v := vz100) rfl rfl rfl ((congrFun V.1 355).trans s_355) rfl ve101 ?_
    refine X_iconst (v := (1 : Int32)) rfl rfl rfl ?_
    refine S_iadd rfl rfl rfl (show (1 : Int32).toInt = 1 from rfl) (by omega) (fun vz109 hvz109 => ?_)
    refine S_putI (I := InvR _) rfl rfl rfl ((congrFun V.1 355).trans s_355) rfl rfl rfl rfl (InvR_putO V (by decide) (show okO 355 _ _ from (show 0 ≤ vz109.toInt ∧ vz109.toInt ≤ 300 by omega))) (fun g V ve110 vn111 hq => ?_)
    have hG := hq.trans hG
    refine X_iinc (v := (16 : Int32)) (ls' := [some (.ref 355), some (.int x4), some (.int (16 : Int32))]) rfl rfl rfl rfl rfl ?_
    refine LW_goto (tgt := 3) rfl rfl ?_
    refine X_iload_n rfl rfl rfl rfl ?_
    refine S_if_lt (tgt := 39) rfl rfl rfl (show (16 : Int32).toInt = 16 from rfl) (fun q => absurd q (by omega)) (fun vh112 => ?_)
    refine X_aload_n rfl rfl rfl rfl ?_
    refine X_getR (a := 361) rfl rfl rfl ((congrFun V.1 355).trans s_355) rfl ((congrFun (V.2.1 355 (by decide)) 7).trans r_355_7) ?_
    refine X_aload_n rfl rfl rfl rfl ?_
    refine X_getI (v := vz109) rfl rfl rfl ((congrFun V.1 355).trans s_355) rfl ve110 ?_
    refine X_iload_n rfl rfl rfl rfl ?_
    refine X_iload_n rfl rfl rfl rfl ?_
    refine S_ishrT rfl rfl (fun vz113 => ?_)
    refine X_sipush (v := (255 : Int32)) rfl rfl rfl ?_
    refine S_iandR (k := 8) rfl rfl rfl (fun vz114 hvz114 => ?_)
    refine S_iast (I := InvR _) rfl rfl ((congrFun V.1 361).trans s_361) rfl (by omega) (InvR_putO V (by decide) (show okO 361 _ _ from (show 0 ≤ vz114.toInt ∧ vz114.toInt ≤ 255 by omega))) (fun g V ve115 vn116 hq => ?_)
    have hG := hq.trans hG
    have ve110 := (vn116 (355) 8 (Or.inl (by decide))).trans ve110
    refine X_aload_n rfl rfl rfl rfl ?_
    refine X_dup rfl rfl rfl ?_
    refine X_getI (v := vz109) rfl rfl rfl ((congrFun V.1 355).trans s_355) rfl ve110 ?_
    refine X_iconst (v := (1 : Int32)) rfl rfl rfl ?_
    refine S_iadd rfl rfl rfl (show (1 : Int32).toInt = 1 from rfl) (by omega) (fun vz117 hvz117 => ?_)
    refine S_putI (I := InvR _) rfl rfl rfl ((congrFun V.1 355).trans s_355) rfl rfl rfl rfl (InvR_putO V (by decide) (show okO 355 _ _ from (show 0 ≤ vz117.toInt ∧ vz117.toInt ≤ 300 by omega))) (fun g V ve118 vn119 hq => ?_)
    have hG := hq.trans hG
    refine X_iinc (v := (8 : Int32)) (ls' := [some (.ref 355), some (.int x4), some (.int (8 : Int32))]) rfl rfl rfl rfl rfl ?_
    refine LW_goto (tgt := 3) rfl rfl ?_
    refine X_iload_n rfl rfl rfl rfl ?_
    refine S_if_lt (tgt := 39) rfl rfl rfl (show (8 : Int32).toInt = 8 from rfl) (fun q => absurd q (by omega)) (fun vh120 => ?_)
    refine X_aload_n rfl rfl rfl rfl ?_
    refine X_getR (a := 361) rfl rfl rfl ((congrFun V.1 355).trans s_355) rfl ((congrFun (V.2.1 355 (by decide)) 7).trans r_355_7) ?_
    refine X_aload_n rfl rfl rfl rfl ?_
    refine X_getI (v := vz117) rfl rfl rfl ((congrFun V.1 355).trans s_355) rfl ve118 ?_
    refine X_iload_n rfl rfl rfl rfl ?_
    refine X_iload_n rfl rfl rfl rfl ?_
    refine S_ishrT rfl rfl (fun vz121 => ?_)
    refine X_sipush (v := (255 : Int32)) rfl rfl rfl ?_
    refine S_iandR (k := 8) rfl rfl rfl (fun vz122 hvz122 => ?_)
    refine S_iast (I := InvR _) rfl rfl ((congrFun V.1 361).trans s_361) rfl (by omega) (InvR_putO V (by decide) (show okO 361 _ _ from (show 0 ≤ vz122.toInt ∧ vz122.toInt ≤ 255 by omega))) (fun g V ve123 vn124 hq => ?_)
    have hG := hq.trans hG
    have ve118 := (vn124 (355) 8 (Or.inl (by decide))).trans ve118
    refine X_aload_n rfl rfl rfl rfl ?_
    refine X_dup rfl rfl rfl ?_
    refine X_getI (v := vz117) rfl rfl rfl ((congrFun V.1 355).trans s_355) rfl ve118 ?_
    refine X_iconst (v := (1 : Int32)) rfl rfl rfl ?_
    refine S_iadd rfl rfl rfl (show (1 : Int32).toInt = 1 from rfl) (by omega) (fun vz125 hvz125 => ?_)
    refine S_putI (I := InvR _) rfl rfl rfl ((congrFun V.1 355).trans s_355) rfl rfl rfl rfl (InvR_putO V (by decide) (show okO 355 _ _ from (show 0 ≤ vz125.toInt ∧ vz125.toInt ≤ 300 by omega))) (fun g V ve126 vn127 hq => ?_)
    have hG := hq.trans hG
    refine X_iinc (v := (0 : Int32)) (ls' := [some (.ref 355), some (.int x4), some (.int (0 : Int32))]) rfl rfl rfl rfl rfl ?_
    refine LW_goto (tgt := 3) rfl rfl ?_
    refine X_iload_n rfl rfl rfl rfl ?_
    refine S_if_lt (tgt := 39) rfl rfl rfl (show (0 : Int32).toInt = 0 from rfl) (fun q => absurd q (by omega)) (fun vh128 => ?_)
    refine X_aload_n rfl rfl rfl rfl ?_
    refine X_getR (a := 361) rfl rfl rfl ((congrFun V.1 355).trans s_355) rfl ((congrFun (V.2.1 355 (by decide)) 7).trans r_355_7) ?_
    refine X_aload_n rfl rfl rfl rfl ?_
    refine X_getI (v := vz125) rfl rfl rfl ((congrFun V.1 355).trans s_355) rfl ve126 ?_
    refine X_iload_n rfl rfl rfl rfl ?_
    refine X_iload_n rfl rfl rfl rfl ?_
    refine S_ishrT rfl rfl (fun vz129 => ?_)
    refine X_sipush (v := (255 : Int32)) rfl rfl rfl ?_
    refine S_iandR (k := 8) rfl rfl rfl (fun vz130 hvz130 => ?_)
    refine S_iast (I := InvR _) rfl rfl ((congrFun V.1 361).trans s_361) rfl (by omega) (InvR_putO V (by decide) (show okO 361 _ _ from (show 0 ≤ vz130.toInt ∧ vz130.toInt ≤ 255 by omega))) (fun g V ve131 vn132 hq => ?_)
    have hG := hq.trans hG
    have ve126 := (vn132 (355) 8 (Or.inl (by decide))).trans ve126
    refine X_aload_n rfl rfl rfl rfl ?_
    refine X_dup rfl rfl rfl ?_
    refine X_getI (v := vz125) rfl rfl rfl ((congrFun V.1 355).trans s_355) rfl ve126 ?_
    refine X_iconst (v := (1 : Int32)) rfl rfl rfl ?_
    refine S_iadd rfl rfl rfl (show (1 : Int32).toInt = 1 from rfl) (by omega) (fun vz133 hvz133 => ?_)
    refine S_putI (I := InvR _) rfl rfl rfl ((congrFun V.1 355).trans s_355) rfl rfl rfl rfl (InvR_putO V (by decide) (show okO 355 _ _ from (show 0 ≤ vz133.toInt ∧ vz133.toInt ≤ 300 by omega))) (fun g V ve134 vn135 hq => ?_)
    have hG := hq.trans hG
    refine X_iinc (v := (-8 : Int32)) (ls' := [some (.ref 355), some (.int x4), some (.int (-8 : Int32))]) rfl rfl rfl rfl rfl ?_
    refine LW_goto (tgt := 3) rfl rfl ?_
    refine X_iload_n rfl rfl rfl rfl ?_
    refine S_if_lt (tgt := 39) rfl rfl rfl (show (-8 : Int32).toInt = -8 from rfl) (fun vh136 => ?_) (fun q => absurd q (by omega))
    refine LW_return (st := []) rfl rfl ?_
    refine X_aload_n rfl rfl rfl rfl ?_
    refine X_iload rfl rfl rfl ?_
    refine X_callV (as := [.int x5]) (st := []) rfl rfl rfl (by decide) rfl (Nat.le_of_ble_eq_true rfl) (by decide) (Nat.le_of_ble_eq_true rfl) rfl ((congrFun V.1 355).trans s_355) (by decide) ?_
    refine LW_ls (ls' := [some (.ref 355), some (.int x5), none]) rfl ?_
    refine X_bipush (v := (24 : Int32)) rfl rfl rfl ?_
    refine X_istore_n (i := 2) (ls' := [some (.ref 355), some (.int x5), some (.int (24 : Int32))]) rfl rfl rfl (Nat.le_of_ble_eq_true rfl) rfl ?_
    refine X_iload_n rfl rfl rfl rfl ?_
    refine S_if_lt (tgt := 39) rfl rfl rfl (show (24 : Int32).toInt = 24 from rfl) (fun q => absurd q (by omega)) (fun vh137 => ?_)
    refine X_aload_n rfl rfl rfl rfl ?_
    refine X_getR (a := 361) rfl rfl rfl ((congrFun V.1 355).trans s_355) rfl ((congrFun (V.2.1 355 (by decide)) 7).trans r_355_7) ?_
    refine X_aload_n rfl rfl rfl rfl ?_
    refine X_getI (v := vz133) rfl rfl rfl ((congrFun V.1 355).trans s_355) rfl ve134 ?_
    refine X_iload_n rfl rfl rfl rfl ?_
    refine X_iload_n rfl rfl rfl rfl ?_
    refine S_ishrT rfl rfl (fun vz138 => ?_)
    refine X_sipush (v := (255 : Int32)) rfl rfl rfl ?_
    refine S_iandR (k := 8) rfl rfl rfl (fun vz139 hvz139 => ?_)
    refine S_iast (I := InvR _) rfl rfl ((congrFun V.1 361).trans s_361) rfl (by omega) (InvR_putO V (by decide) (show okO 361 _ _ from (show 0 ≤ vz139.toInt ∧ vz139.toInt ≤ 255 by omega))) (fun g V ve140 vn141 hq => ?_)
    have hG := hq.trans hG
    have ve134 := (vn141 (355) 8 (Or.inl (by decide))).trans ve134
    refine X_aload_n rfl rfl rfl rfl ?_
    refine X_dup rfl rfl rfl ?_
    refine X_getI (v := vz133) rfl rfl rfl ((congrFun V.1 355).trans s_355) rfl ve134 ?_
    refine X_iconst (v := (1 : Int32)) rfl rfl rfl ?_
    refine S_iadd rfl rfl rfl (show (1 : Int32).toInt = 1 from rfl) (by omega) (fun vz142 hvz142 => ?_)
    refine S_putI (I := InvR _) rfl rfl rfl ((congrFun V.1 355).trans s_355) rfl rfl rfl rfl (InvR_putO V (by decide) (show okO 355 _ _ from (show 0 ≤ vz142.toInt ∧ vz142.toInt ≤ 300 by omega))) (fun g V ve143 vn144 hq => ?_)
    have hG := hq.trans hG
    refine X_iinc (v := (16 : Int32)) (ls' := [some (.ref 355), some (.int x5), some (.int (16 : Int32))]) rfl rfl rfl rfl rfl ?_
    refine LW_goto (tgt := 3) rfl rfl ?_
    refine X_iload_n rfl rfl rfl rfl ?_
    refine S_if_lt (tgt := 39) rfl rfl rfl (show (16 : Int32).toInt = 16 from rfl) (fun q => absurd q (by omega)) (fun vh145 => ?_)
    refine X_aload_n rfl rfl rfl rfl ?_
    refine X_getR (a := 361) rfl rfl rfl ((congrFun V.1 355).trans s_355) rfl ((congrFun (V.2.1 355 (by decide)) 7).trans r_355_7) ?_
    refine X_aload_n rfl rfl rfl rfl ?_
    refine X_getI (v := vz142) rfl rfl rfl ((congrFun V.1 355).trans s_355) rfl ve143 ?_
    refine X_iload_n rfl rfl rfl rfl ?_
    refine X_iload_n rfl rfl rfl rfl ?_
    refine S_ishrT rfl rfl (fun vz146 => ?_)
    refine X_sipush (v := (255 : Int32)) rfl rfl rfl ?_
    refine S_iandR (k := 8) rfl rfl rfl (fun vz147 hvz147 => ?_)
    refine S_iast (I := InvR _) rfl rfl ((congrFun V.1 361).trans s_361) rfl (by omega) (InvR_putO V (by decide) (show okO 361 _ _ from (show 0 ≤ vz147.toInt ∧ vz147.toInt ≤ 255 by omega))) (fun g V ve148 vn149 hq => ?_)
    have hG := hq.trans hG
    have ve143 := (vn149 (355) 8 (Or.inl (by decide))).trans ve143
    refine X_aload_n rfl rfl rfl rfl ?_
    refine X_dup rfl rfl rfl ?_
    refine X_getI (v := vz142) rfl rfl rfl ((congrFun V.1 355).trans s_355) rfl ve143 ?_
    refine X_iconst (v := (1 : Int32)) rfl rfl rfl ?_
    refine S_iadd rfl rfl rfl (show (1 : Int32).toInt = 1 from rfl) (by omega) (fun vz150 hvz150 => ?_)
    refine S_putI (I := InvR _) rfl rfl rfl ((congrFun V.1 355).trans s_355) rfl rfl rfl rfl (InvR_putO V (by decide) (show okO 355 _ _ from (show 0 ≤ vz150.toInt ∧ vz150.toInt ≤ 300 by omega))) (fun g V ve151 vn152 hq => ?_)
    have hG := hq.trans hG
    refine X_iinc (v := (8 : Int32)) (ls' := [some (.ref 355), some (.int x5), some (.int (8 : Int32))]) rfl rfl rfl rfl rfl ?_
    refine LW_goto (tgt := 3) rfl rfl ?_
    refine X_iload_n rfl rfl rfl rfl ?_
    refine S_if_lt (tgt := 39) rfl rfl rfl (show (8 : Int32).toInt = 8 from rfl) (fun q => absurd q (by omega)) (fun vh153 => ?_)
    refine X_aload_n rfl rfl rfl rfl ?_
    refine X_getR (a := 361) rfl rfl rfl ((congrFun V.1 355).trans s_355) rfl ((congrFun (V.2.1 355 (by decide)) 7).trans r_355_7) ?_
    refine X_aload_n rfl rfl rfl rfl ?_
    refine X_getI (v := vz150) rfl rfl rfl ((congrFun V.1 355).trans s_355) rfl ve151 ?_
    refine X_iload_n rfl rfl rfl rfl ?_
    refine X_iload_n rfl rfl rfl rfl ?_
    refine S_ishrT rfl rfl (fun vz154 => ?_)
    refine X_sipush (v := (255 : Int32)) rfl rfl rfl ?_
    refine S_iandR (k := 8) rfl rfl rfl (fun vz155 hvz155 => ?_)
    refine S_iast (I := InvR _) rfl rfl ((congrFun V.1 361).trans s_361) rfl (by omega) (InvR_putO V (by decide) (show okO 361 _ _ from (show 0 ≤ vz155.toInt ∧ vz155.toInt ≤ 255 by omega))) (fun g V ve156 vn157 hq => ?_)
    have hG := hq.trans hG
    have ve151 := (vn157 (355) 8 (Or.inl (by decide))).trans ve151
    refine X_aload_n rfl rfl rfl rfl ?_
    refine X_dup rfl rfl rfl ?_
    refine X_getI (v := vz150) rfl rfl rfl ((congrFun V.1 355).trans s_355) rfl ve151 ?_
    refine X_iconst (v := (1 : Int32)) rfl rfl rfl ?_
    refine S_iadd rfl rfl rfl (show (1 : Int32).toInt = 1 from rfl) (by omega) (fun vz158 hvz158 => ?_)
    refine S_putI (I := InvR _) rfl rfl rfl ((congrFun V.1 355).trans s_355) rfl rfl rfl rfl (InvR_putO V (by decide) (show okO 355 _ _ from (show 0 ≤ vz158.toInt ∧ vz158.toInt ≤ 300 by omega))) (fun g V ve159 vn160 hq => ?_)
    have hG := hq.trans hG
    refine X_iinc (v := (0 : Int32)) (ls' := [some (.ref 355), some (.int x5), some (.int (0 : Int32))]) rfl rfl rfl rfl rfl ?_
    refine LW_goto (tgt := 3) rfl rfl ?_
    refine X_iload_n rfl rfl rfl rfl ?_
    refine S_if_lt (tgt := 39) rfl rfl rfl (show (0 : Int32).toInt = 0 from rfl) (fun q => absurd q (by omega)) (fun vh161 => ?_)
    refine X_aload_n rfl rfl rfl rfl ?_
    refine X_getR (a := 361) rfl rfl rfl ((congrFun V.1 355).trans s_355) rfl ((congrFun (V.2.1 355 (by decide)) 7).trans r_355_7) ?_
    refine X_aload_n rfl rfl rfl rfl ?_
    refine X_getI (v := vz158) rfl rfl rfl ((congrFun V.1 355).trans s_355) rfl ve159 ?_
    refine X_iload_n rfl rfl rfl rfl ?_
    refine X_iload_n rfl rfl rfl rfl ?_
    refine S_ishrT rfl rfl (fun vz162 => ?_)
    refine X_sipush (v := (255 : Int32)) rfl rfl rfl ?_
    refine S_iandR (k := 8) rfl rfl rfl (fun vz163 hvz163 => ?_)
    refine S_iast (I := InvR _) rfl rfl ((congrFun V.1 361).trans s_361) rfl (by omega) (InvR_putO V (by decide) (show okO 361 _ _ from (show 0 ≤ vz163.toInt ∧ vz163.toInt ≤ 255 by omega))) (fun g V ve164 vn165 hq => ?_)
    have hG := hq.trans hG
    have ve159 := (vn165 (355) 8 (Or.inl (by decide))).trans ve159
    refine X_aload_n rfl rfl rfl rfl ?_
    refine X_dup rfl rfl rfl ?_
    refine X_getI (v := vz158) rfl rfl rfl ((congrFun V.1 355).trans s_355) rfl ve159 ?_
    refine X_iconst (v := (1 : Int32)) rfl rfl rfl ?_
    refine S_iadd rfl rfl rfl (show (1 : Int32).toInt = 1 from rfl) (by omega) (fun vz166 hvz166 => ?_)
    refine S_putI (I := InvR _) rfl rfl rfl ((congrFun V.1 355).trans s_355) rfl rfl rfl rfl (InvR_putO V (by decide) (show okO 355 _ _ from (show 0 ≤ vz166.toInt ∧ vz166.toInt ≤ 300 by omega))) (fun g V ve167 vn168 hq => ?_)
    have hG := hq.trans hG
    refine X_iinc (v := (-8 : Int32)) (ls' := [some (.ref 355), some (.int x5), some (.int (-8 : Int32))]) rfl rfl rfl rfl rfl ?_
    refine LW_goto (tgt := 3) rfl rfl ?_
    refine X_iload_n rfl rfl rfl rfl ?_
    refine S_if_lt (tgt := 39) rfl rfl rfl (show (-8 : Int32).toInt = -8 from rfl) (fun vh169 => ?_) (fun q => absurd q (by omega))
    refine LW_return (st := []) rfl rfl ?_
    refine X_aload_n rfl rfl rfl rfl ?_
    refine X_getI (v := vz166) rfl rfl rfl ((congrFun V.1 355).trans s_355) rfl ve167 ?_
    have hr := (rfl : vz166.toInt = vz166.toInt)
    exact LW_ireturn (st := []) rfl rfl rfl ⟨_, rfl, by omega, by omega, V, hG⟩
  · refine X_iconst (v := (-1 : Int32)) rfl rfl rfl ?_
    exact LW_ireturn (st := []) rfl rfl rfl ⟨_, rfl, by decide, by decide, V, hG⟩
set_option maxRecDepth 10000 in
set_option maxHeartbeats 40000000 in
theorem C_X13_end {P : Par} {g : LH} {d : Nat}  (V : InvR P g) (x1 : Int32) (y1 : Int) (hx1 : x1.toInt = y1)   : LW 196 (d + 4) 0 0 0 (lEnt (mL 196) [.ref 355, .int x1]) [] g (fun v g' => ∃ r : Int32, v = some (.int r) ∧ (-1) ≤ r.toInt ∧ r.toInt ≤ 300 ∧ InvR P g' ∧ Gr g' = Gr g) := by
  refine LW_ls (ls' := [some (.ref 355), some (.int x1)]) rfl ?_
  have hG : Gr g = Gr g := rfl
  refine X_iload_n rfl rfl rfl rfl ?_
  refine X_iconst (v := (0 : Int32)) rfl rfl rfl ?_
  refine X_aload_n rfl rfl rfl rfl ?_
  refine S_getI rfl rfl rfl ((congrFun V.1 355).trans s_355) rfl (fun vz1 evz1 => ?_)
  have vf2 := O_355_8 (V.2.2.2.2.2.2.1 355 (8) (Nat.le_of_ble_eq_true rfl))
  rw [evz1] at vf2
  refine X_callS (as := [.int x1, .int (0 : Int32), .int vz1]) (st := []) rfl rfl rfl (by decide) rfl (Nat.le_of_ble_eq_true rfl) (by decide) (Nat.le_of_ble_eq_true rfl) rfl ?_
  refine LW_ls (ls' := [some (.int x1), some (.int (0 : Int32)), some (.int vz1)]) rfl ?_
  refine X_iload_n rfl rfl rfl rfl ?_
  refine X_iload_n rfl rfl rfl rfl ?_
  refine S_icmp_lt (tgt := 14) rfl rfl rfl hx1 (show (0 : Int32).toInt = 0 from rfl) (fun vh3 => ?_) (fun vh3 => ?_)
  · refine X_iconst (v := (0 : Int32)) rfl rfl rfl ?_
    refine LW_ireturn (st := []) rfl rfl rfl ?_
    refine S_if_ne (tgt := 14) rfl rfl rfl (show (0 : Int32).toInt = 0 from rfl) (fun q => absurd q (by omega)) (fun vh4 => ?_)
    refine X_iconst (v := (-1 : Int32)) rfl rfl rfl ?_
    exact LW_ireturn (st := []) rfl rfl rfl ⟨_, rfl, by decide, by decide, V, hG⟩
  · refine X_iload_n rfl rfl rfl rfl ?_
    refine X_iload_n rfl rfl rfl rfl ?_
    refine S_icmp_gt (tgt := 14) rfl rfl rfl hx1 rfl (fun vh5 => ?_) (fun vh5 => ?_)
    · refine X_iconst (v := (0 : Int32)) rfl rfl rfl ?_
      refine LW_ireturn (st := []) rfl rfl rfl ?_
      refine S_if_ne (tgt := 14) rfl rfl rfl (show (0 : Int32).toInt = 0 from rfl) (fun q => absurd q (by omega)) (fun vh6 => ?_)
      refine X_iconst (v := (-1 : Int32)) rfl rfl rfl ?_
      exact LW_ireturn (st := []) rfl rfl rfl ⟨_, rfl, by decide, by decide, V, hG⟩
    · refine X_iconst (v := (1 : Int32)) rfl rfl rfl ?_
      refine LW_goto (tgt := 15) rfl rfl ?_
      refine LW_ireturn (st := []) rfl rfl rfl ?_
      refine S_if_ne (tgt := 14) rfl rfl rfl (show (1 : Int32).toInt = 1 from rfl) (fun vh7 => ?_) (fun q => absurd q (by omega))
      refine X_aload_n rfl rfl rfl rfl ?_
      refine X_iload_n rfl rfl rfl rfl ?_
      refine S_putI (I := InvR _) rfl rfl rfl ((congrFun V.1 355).trans s_355) rfl rfl rfl rfl (InvR_putO V (by decide) (show okO 355 _ _ from (show 0 ≤ x1.toInt ∧ x1.toInt ≤ 300 by omega))) (fun g V ve8 vn9 hq => ?_)
      have hG := hq.trans hG
      refine X_iload_n rfl rfl rfl rfl ?_
      have hr := hx1
      exact LW_ireturn (st := []) rfl rfl rfl ⟨_, rfl, by omega, by omega, V, hG⟩
set_option maxRecDepth 10000 in
set_option maxHeartbeats 40000000 in
theorem C_X13_fault {P : Par} {g : LH} {d : Nat}  (V : InvR P g) (x1 : Int32) (y1 : Int) (hx1 : x1.toInt = y1)   : LW 236 (d + 3) 0 0 0 (lEnt (mL 236) [.ref 355, .int x1]) [] g (fun v g' => ∃ r : Int32, v = some (.int r) ∧ g = g') := by
  refine LW_ls (ls' := [some (.ref 355), some (.int x1)]) rfl ?_
  refine X_iload_n rfl rfl rfl rfl ?_
  refine S_if_ne (tgt := 11) rfl rfl rfl hx1 (fun vh1 => ?_) (fun vh1 => ?_)
  · refine X_iload_n rfl rfl rfl rfl ?_
    refine X_iconst (v := (1 : Int32)) rfl rfl rfl ?_
    refine S_icmp_ne (tgt := 23) rfl rfl rfl hx1 (show (1 : Int32).toInt = 1 from rfl) (fun vh2 => ?_) (fun vh2 => ?_)
    · refine X_iconst (v := (-1 : Int32)) rfl rfl rfl ?_
      exact LW_ireturn (st := []) rfl rfl rfl ⟨_, rfl, rfl⟩
    · refine X_aload_n rfl rfl rfl rfl ?_
      refine S_getI rfl rfl rfl ((congrFun V.1 355).trans s_355) rfl (fun vz3 evz3 => ?_)
      refine LW_goto (tgt := 24) rfl rfl ?_
      exact LW_ireturn (st := []) rfl rfl rfl ⟨_, rfl, rfl⟩
  · refine X_aload_n rfl rfl rfl rfl ?_
    refine S_getI rfl rfl rfl ((congrFun V.1 355).trans s_355) rfl (fun vz4 evz4 => ?_)
    refine LW_goto (tgt := 24) rfl rfl ?_
    exact LW_ireturn (st := []) rfl rfl rfl ⟨_, rfl, rfl⟩
set_option maxRecDepth 10000 in
set_option maxHeartbeats 40000000 in
theorem C_X13_bits_4 {P : Par} {g : LH} {d n : Nat}  (V : InvR P g) (x0 : Int32) (y0 : Int) (hx0 : x0.toInt = y0) (x1 : Int32) (y1 : Int) (hx1 : x1.toInt = y1) (hf1 : 0 ≤ y1 ∧ y1 ≤ 26) (x2 : Int32) (y2 : Int) (hx2 : x2.toInt = y2) (hf2 : 0 ≤ y2 ∧ y2 ≤ 26) (hq0 : y1 ≤ y2) (hmu : (26 - y2) * 1 + 0 < (n : Int) + 1) (ih4 : ∀ (V : InvR P g) (x0 : Int32) (y0 : Int) (hx0 : x0.toInt = y0) (x1 : Int32) (y1 : Int) (hx1 : x1.toInt = y1) (hf1 : 0 ≤ y1 ∧ y1 ≤ 26) (x2 : Int32) (y2 : Int) (hx2 : x2.toInt = y2) (hf2 : 0 ≤ y2 ∧ y2 ≤ 26) (hq0 : y1 ≤ y2), (26 - y2) * 1 + 0 < (n : Int) → LW 174 (d + 3) 0 0 4 [some (.int x0), some (.int x1), some (.int x2)] [] g (fun v g' => ∃ r : Int32, v = some (.int r) ∧ 0 ≤ r.toInt ∧ r.toInt ≤ 26 ∧ g = g')) : LW 174 (d + 3) 0 0 4 [some (.int x0), some (.int x1), some (.int x2)] [] g (fun v g' => ∃ r : Int32, v = some (.int r) ∧ 0 ≤ r.toInt ∧ r.toInt ≤ 26 ∧ g = g') := by
  refine X_iload_n rfl rfl rfl rfl ?_
  refine X_bipush (v := (26 : Int32)) rfl rfl rfl ?_
  refine S_icmp_ge (tgt := 24) rfl rfl rfl hx2 (show (26 : Int32).toInt = 26 from rfl) (fun vh1 => ?_) (fun vh1 => ?_)
  · refine X_iload_n rfl rfl rfl rfl ?_
    have hr := hx1
    exact LW_ireturn (st := []) rfl rfl rfl ⟨_, rfl, by omega, by omega, rfl⟩
  · refine X_iload_n rfl rfl rfl rfl ?_
    refine X_iload_n rfl rfl rfl rfl ?_
    refine X_iload_n rfl rfl rfl rfl ?_
    refine S_ishrT rfl rfl (fun vz2 => ?_)
    refine X_iconst (v := (1 : Int32)) rfl rfl rfl ?_
    refine S_iandR (k := 1) rfl rfl rfl (fun vz3 hvz3 => ?_)
    refine S_iadd rfl rfl hx1 rfl (by omega) (fun vz4 hvz4 => ?_)
    refine X_istore_n (i := 1) (ls' := [some (.int x0), some (.int vz4), some (.int x2)]) rfl rfl rfl (Nat.le_of_ble_eq_true rfl) rfl ?_
    refine S_iinc (c := 1) rfl rfl rfl hx2 rfl (by omega) (fun vz5 hvz5 => ?_)
    refine LW_ls (ls' := [some (.int x0), some (.int vz4), some (.int vz5)]) rfl ?_
    refine LW_goto (tgt := 4) rfl rfl ?_
    exact ih4 V x0 y0 hx0 vz4 vz4.toInt rfl (by omega) vz5 vz5.toInt rfl (by omega)  (by omega)  (by omega)
theorem C_X13_bits_all {P : Par} {g : LH} {d : Nat}  : ∀ n : Nat, (∀ (V : InvR P g) (x0 : Int32) (y0 : Int) (hx0 : x0.toInt = y0) (x1 : Int32) (y1 : Int) (hx1 : x1.toInt = y1) (hf1 : 0 ≤ y1 ∧ y1 ≤ 26) (x2 : Int32) (y2 : Int) (hx2 : x2.toInt = y2) (hf2 : 0 ≤ y2 ∧ y2 ≤ 26) (hq0 : y1 ≤ y2), (26 - y2) * 1 + 0 < (n : Int) → LW 174 (d + 3) 0 0 4 [some (.int x0), some (.int x1), some (.int x2)] [] g (fun v g' => ∃ r : Int32, v = some (.int r) ∧ 0 ≤ r.toInt ∧ r.toInt ≤ 26 ∧ g = g')) := by
  intro n
  induction n with
  | zero => exact fun V x0 y0 hx0 x1 y1 hx1 hf1 x2 y2 hx2 hf2 hq0 hmu => absurd hmu (by omega)
  | succ n ih => exact fun V x0 y0 hx0 x1 y1 hx1 hf1 x2 y2 hx2 hf2 hq0 hmu => C_X13_bits_4  V x0 y0 hx0 x1 y1 hx1 hf1 x2 y2 hx2 hf2 hq0 (by omega) ih
set_option maxRecDepth 10000 in
set_option maxHeartbeats 40000000 in
theorem C_X13_bits {P : Par} {g : LH} {d : Nat}  (V : InvR P g) (x0 : Int32) (y0 : Int) (hx0 : x0.toInt = y0)   : LW 174 (d + 3) 0 0 0 (lEnt (mL 174) [.int x0]) [] g (fun v g' => ∃ r : Int32, v = some (.int r) ∧ 0 ≤ r.toInt ∧ r.toInt ≤ 26 ∧ g = g') := by
  refine LW_ls (ls' := [some (.int x0), none, none]) rfl ?_
  refine X_iconst (v := (0 : Int32)) rfl rfl rfl ?_
  refine X_istore_n (i := 1) (ls' := [some (.int x0), some (.int (0 : Int32)), none]) rfl rfl rfl (Nat.le_of_ble_eq_true rfl) rfl ?_
  refine X_iconst (v := (0 : Int32)) rfl rfl rfl ?_
  refine X_istore_n (i := 2) (ls' := [some (.int x0), some (.int (0 : Int32)), some (.int (0 : Int32))]) rfl rfl rfl (Nat.le_of_ble_eq_true rfl) rfl ?_
  exact (C_X13_bits_all (((26 - 0) * 1 + 0) + 1 : Int).toNat) V x0 y0 hx0 (0 : Int32) 0 (show (0 : Int32).toInt = 0 from rfl) (by omega) (0 : Int32) 0 (show (0 : Int32).toInt = 0 from rfl) (by omega)  (by omega)  (by omega)
set_option maxRecDepth 10000 in
set_option maxHeartbeats 40000000 in
theorem C_X13_keep_14 {P : Par} {g g0 : LH} {d n : Nat}  (V : InvR P g) (hG : Gr g = Gr g0) (hF : FrK g g0) (x1 : Int32) (y1 : Int) (hx1 : x1.toInt = y1) (hf1 : 0 ≤ y1 ∧ y1 ≤ 2619) (o2 : Option Value) (hc356_6 : 30 ≤ (Gi g 356 6).toInt ∧ (Gi g 356 6).toInt ≤ 30) (hmu : (2619 - y1) * 1 + 100 < (n : Int) + 1) (ih14 : ∀ (g : LH) (V : InvR P g) (hG : Gr g = Gr g0) (hF : FrK g g0) (x1 : Int32) (y1 : Int) (hx1 : x1.toInt = y1) (hf1 : 0 ≤ y1 ∧ y1 ≤ 2619) (o2 : Option Value) (hc356_6 : 30 ≤ (Gi g 356 6).toInt ∧ (Gi g 356 6).toInt ≤ 30), (2619 - y1) * 1 + 100 < (n : Int) → LW 245 (d + 3) 0 0 14 [some (.ref 355), some (.int x1), o2] [] g (fun v g' => v = none ∧ InvR P g' ∧ Gr g' = Gr g0 ∧ FrK g' g0)) (ih131 : ∀ (g : LH) (V : InvR P g) (hG : Gr g = Gr g0) (hF : FrK g g0) (x1 : Int32) (y1 : Int) (hx1 : x1.toInt = y1) (hf1 : 578 ≤ y1 ∧ y1 ≤ 2956) (x2 : Int32) (y2 : Int) (hx2 : x2.toInt = y2) (hf2 : 0 ≤ y2 ∧ y2 ≤ 98) (hc356_6 : 0 ≤ (Gi g 356 6).toInt ∧ (Gi g 356 6).toInt ≤ 29) (hc356_10 : 0 ≤ (Gi g 356 10).toInt ∧ (Gi g 356 10).toInt ≤ 10) (hq0 : y1 = 578 + 82 * (Gi g 356 6).toInt), (98 - y2) * 1 + 0 < (n : Int) → LW 245 (d + 3) 0 0 131 [some (.ref 355), some (.int x1), some (.int x2)] [] g (fun v g' => v = none ∧ InvR P g' ∧ Gr g' = Gr g0 ∧ FrK g' g0)) : LW 245 (d + 3) 0 0 14 [some (.ref 355), some (.int x1), o2] [] g (fun v g' => v = none ∧ InvR P g' ∧ Gr g' = Gr g0 ∧ FrK g' g0) := by
  obtain ⟨vz1, evz1⟩ : ∃ z, Gi g 356 6 = z := ⟨_, rfl⟩
  rw [evz1] at hc356_6
  refine X_iload_n rfl rfl rfl rfl ?_
  refine X_sipush (v := (2378 : Int32)) rfl rfl rfl ?_
  refine S_icmp_ge (tgt := 47) rfl rfl rfl hx1 (show (2378 : Int32).toInt = 2378 from rfl) (fun vh2 => ?_) (fun vh2 => ?_)
  · refine X_aload_n rfl rfl rfl rfl ?_
    refine X_getR (a := 356) rfl rfl rfl ((congrFun V.1 355).trans s_355) rfl ((congrFun (V.2.1 355 (by decide)) 0).trans r_355_0) ?_
    refine X_bipush (v := (6 : Int32)) rfl rfl rfl ?_
    refine X_dup2 rfl rfl rfl rfl ?_
    refine S_iald_v rfl rfl ((congrFun V.1 356).trans s_356) (show (6 : Int32).toInt = 6 from rfl) (by omega) evz1 ?_
    refine X_iconst (v := (1 : Int32)) rfl rfl rfl ?_
    refine S_isub rfl rfl rfl (show (1 : Int32).toInt = 1 from rfl) (by omega) (fun vz4 hvz4 => ?_)
    refine S_iast (I := InvR _) rfl rfl ((congrFun V.1 356).trans s_356) (show (6 : Int32).toInt = 6 from rfl) (by omega) (InvR_putA V (by omega) (B_STEPS (by omega) (by omega))) (fun g V ve5 vn6 hq => ?_)
    have hG := hq.trans hG
    have hF := hF.put (i := (6 : Int).toNat) vn6 (by omega)
    have ve5 : Gi g 356 6 = vz4 := ve5
    refine X_sipush (v := (578 : Int32)) rfl rfl rfl ?_
    refine X_bipush (v := (82 : Int32)) rfl rfl rfl ?_
    refine X_aload_n rfl rfl rfl rfl ?_
    refine X_getR (a := 356) rfl rfl rfl ((congrFun V.1 355).trans s_355) rfl ((congrFun (V.2.1 355 (by decide)) 0).trans r_355_0) ?_
    refine X_bipush (v := (6 : Int32)) rfl rfl rfl ?_
    refine S_iald_v rfl rfl ((congrFun V.1 356).trans s_356) (show (6 : Int32).toInt = 6 from rfl) (by omega) ve5 ?_
    refine S_imul rfl rfl (show (82 : Int32).toInt = 82 from rfl) rfl (by omega) (fun vz8 hvz8 => ?_)
    refine S_iadd rfl rfl (show (578 : Int32).toInt = 578 from rfl) rfl (by omega) (fun vz9 hvz9 => ?_)
    refine X_istore_n (i := 1) (ls' := [some (.ref 355), some (.int vz9), o2]) rfl rfl rfl (Nat.le_of_ble_eq_true rfl) rfl ?_
    refine X_aload_n rfl rfl rfl rfl ?_
    refine X_getR (a := 356) rfl rfl rfl ((congrFun V.1 355).trans s_355) rfl ((congrFun (V.2.1 355 (by decide)) 0).trans r_355_0) ?_
    refine X_iload_n rfl rfl rfl rfl ?_
    refine X_aload_n rfl rfl rfl rfl ?_
    refine X_getR (a := 356) rfl rfl rfl ((congrFun V.1 355).trans s_355) rfl ((congrFun (V.2.1 355 (by decide)) 0).trans r_355_0) ?_
    refine X_bipush (v := (7 : Int32)) rfl rfl rfl ?_
    refine S_iald rfl rfl ((congrFun V.1 356).trans s_356) (show (7 : Int32).toInt = 7 from rfl) (by omega) (fun vz10 evz10 => ?_)
    have evz10 : Gi g 356 7 = vz10 := evz10
    refine S_iast (I := InvR _) rfl rfl ((congrFun V.1 356).trans s_356) rfl (by omega) (InvR_putA V (by omega) (B_FREE (by omega))) (fun g V ve11 vn12 hq => ?_)
    have hG := hq.trans hG
    have hF := hF.put (i := (vz9.toInt : Int).toNat) vn12 (by omega)
    have ve5 := (vn12 (356) 6 (Or.inr (by omega))).trans ve5
    have evz10 := (vn12 (356) 7 (Or.inr (by omega))).trans evz10
    refine X_aload_n rfl rfl rfl rfl ?_
    refine X_getR (a := 356) rfl rfl rfl ((congrFun V.1 355).trans s_355) rfl ((congrFun (V.2.1 355 (by decide)) 0).trans r_355_0) ?_
    refine X_iload_n rfl rfl rfl rfl ?_
    refine X_iconst (v := (1 : Int32)) rfl rfl rfl ?_
    refine S_iadd rfl rfl rfl (show (1 : Int32).toInt = 1 from rfl) (by omega) (fun vz13 hvz13 => ?_)
    refine X_aload_n rfl rfl rfl rfl ?_
    refine X_getR (a := 356) rfl rfl rfl ((congrFun V.1 355).trans s_355) rfl ((congrFun (V.2.1 355 (by decide)) 0).trans r_355_0) ?_
    refine X_bipush (v := (10 : Int32)) rfl rfl rfl ?_
    refine S_iald rfl rfl ((congrFun V.1 356).trans s_356) (show (10 : Int32).toInt = 10 from rfl) (by omega) (fun vz14 evz14 => ?_)
    have evz14 : Gi g 356 10 = vz14 := evz14
    have vf15 := A_CONS (V.2.2.2.1 (10)) (by omega)
    rw [evz14] at vf15
    refine S_iast (I := InvR _) rfl rfl ((congrFun V.1 356).trans s_356) rfl (by omega) (InvR_putA V (by omega) (B_SCON (by omega) (by omega))) (fun g V ve16 vn17 hq => ?_)
    have hG := hq.trans hG
    have hF := hF.put (i := (vz13.toInt : Int).toNat) vn17 (by omega)
    have ve5 := (vn17 (356) 6 (Or.inr (by omega))).trans ve5
    have evz10 := (vn17 (356) 7 (Or.inr (by omega))).trans evz10
    have evz14 := (vn17 (356) 10 (Or.inr (by omega))).trans evz14
    refine X_aload_n rfl rfl rfl rfl ?_
    refine X_getR (a := 356) rfl rfl rfl ((congrFun V.1 355).trans s_355) rfl ((congrFun (V.2.1 355 (by decide)) 0).trans r_355_0) ?_
    refine X_iload_n rfl rfl rfl rfl ?_
    refine X_iconst (v := (2 : Int32)) rfl rfl rfl ?_
    refine S_iadd rfl rfl rfl (show (2 : Int32).toInt = 2 from rfl) (by omega) (fun vz18 hvz18 => ?_)
    refine X_aload_n rfl rfl rfl rfl ?_
    refine X_getR (a := 356) rfl rfl rfl ((congrFun V.1 355).trans s_355) rfl ((congrFun (V.2.1 355 (by decide)) 0).trans r_355_0) ?_
    refine X_iconst (v := (2 : Int32)) rfl rfl rfl ?_
    refine S_iald rfl rfl ((congrFun V.1 356).trans s_356) (show (2 : Int32).toInt = 2 from rfl) (by omega) (fun vz19 evz19 => ?_)
    have evz19 : Gi g 356 2 = vz19 := evz19
    refine S_iast (I := InvR _) rfl rfl ((congrFun V.1 356).trans s_356) rfl (by omega) (InvR_putA V (by omega) (B_FREE (by omega))) (fun g V ve20 vn21 hq => ?_)
    have hG := hq.trans hG
    have hF := hF.put (i := (vz18.toInt : Int).toNat) vn21 (by omega)
    have ve5 := (vn21 (356) 6 (Or.inr (by omega))).trans ve5
    have evz10 := (vn21 (356) 7 (Or.inr (by omega))).trans evz10
    have evz14 := (vn21 (356) 10 (Or.inr (by omega))).trans evz14
    have evz19 := (vn21 (356) 2 (Or.inr (by omega))).trans evz19
    refine X_aload_n rfl rfl rfl rfl ?_
    refine X_getR (a := 356) rfl rfl rfl ((congrFun V.1 355).trans s_355) rfl ((congrFun (V.2.1 355 (by decide)) 0).trans r_355_0) ?_
    refine X_iload_n rfl rfl rfl rfl ?_
    refine X_iconst (v := (3 : Int32)) rfl rfl rfl ?_
    refine S_iadd rfl rfl rfl (show (3 : Int32).toInt = 3 from rfl) (by omega) (fun vz22 hvz22 => ?_)
    refine X_aload_n rfl rfl rfl rfl ?_
    refine X_getR (a := 356) rfl rfl rfl ((congrFun V.1 355).trans s_355) rfl ((congrFun (V.2.1 355 (by decide)) 0).trans r_355_0) ?_
    refine X_iconst (v := (3 : Int32)) rfl rfl rfl ?_
    refine S_iald rfl rfl ((congrFun V.1 356).trans s_356) (show (3 : Int32).toInt = 3 from rfl) (by omega) (fun vz23 evz23 => ?_)
    have evz23 : Gi g 356 3 = vz23 := evz23
    refine S_iast (I := InvR _) rfl rfl ((congrFun V.1 356).trans s_356) rfl (by omega) (InvR_putA V (by omega) (B_FREE (by omega))) (fun g V ve24 vn25 hq => ?_)
    have hG := hq.trans hG
    have hF := hF.put (i := (vz22.toInt : Int).toNat) vn25 (by omega)
    have ve5 := (vn25 (356) 6 (Or.inr (by omega))).trans ve5
    have evz10 := (vn25 (356) 7 (Or.inr (by omega))).trans evz10
    have evz14 := (vn25 (356) 10 (Or.inr (by omega))).trans evz14
    have evz19 := (vn25 (356) 2 (Or.inr (by omega))).trans evz19
    have evz23 := (vn25 (356) 3 (Or.inr (by omega))).trans evz23
    refine X_iconst (v := (0 : Int32)) rfl rfl rfl ?_
    refine X_istore_n (i := 2) (ls' := [some (.ref 355), some (.int vz9), some (.int (0 : Int32))]) rfl rfl rfl (Nat.le_of_ble_eq_true rfl) rfl ?_
    exact ih131 _ V hG hF vz9 vz9.toInt rfl (by omega) (0 : Int32) 0 (show (0 : Int32).toInt = 0 from rfl) (by omega) (by rw [ve5]; omega) (by rw [evz14]; omega) (by rw [ve5]; omega)  (by omega)
  · refine X_aload_n rfl rfl rfl rfl ?_
    refine X_getR (a := 356) rfl rfl rfl ((congrFun V.1 355).trans s_355) rfl ((congrFun (V.2.1 355 (by decide)) 0).trans r_355_0) ?_
    refine X_sipush (v := (578 : Int32)) rfl rfl rfl ?_
    refine X_iload_n rfl rfl rfl rfl ?_
    refine S_iadd rfl rfl (show (578 : Int32).toInt = 578 from rfl) hx1 (by omega) (fun vz26 hvz26 => ?_)
    refine X_aload_n rfl rfl rfl rfl ?_
    refine X_getR (a := 356) rfl rfl rfl ((congrFun V.1 355).trans s_355) rfl ((congrFun (V.2.1 355 (by decide)) 0).trans r_355_0) ?_
    refine X_sipush (v := (660 : Int32)) rfl rfl rfl ?_
    refine X_iload_n rfl rfl rfl rfl ?_
    refine S_iadd rfl rfl (show (660 : Int32).toInt = 660 from rfl) hx1 (by omega) (fun vz27 hvz27 => ?_)
    refine S_iald rfl rfl ((congrFun V.1 356).trans s_356) rfl (by omega) (fun vz28 evz28 => ?_)
    refine S_iast (I := InvR _) rfl rfl ((congrFun V.1 356).trans s_356) rfl (by omega) (InvR_putA V (by omega) (B_STEP (by omega) (by have vhb := V.2.2.2.1 ((vz27.toInt : Int).toNat); rw [evz28] at vhb; rw [show (vz26.toInt : Int).toNat + 82 = (vz27.toInt : Int).toNat by omega]; exact vhb))) (fun g V ve29 vn30 hq => ?_)
    have hG := hq.trans hG
    have hF := hF.put (i := (vz26.toInt : Int).toNat) vn30 (by omega)
    have evz1 := (vn30 (356) 6 (Or.inr (by omega))).trans evz1
    refine S_iinc (c := 1) rfl rfl rfl hx1 rfl (by omega) (fun vz31 hvz31 => ?_)
    refine LW_ls (ls' := [some (.ref 355), some (.int vz31), o2]) rfl ?_
    refine LW_goto (tgt := 14) rfl rfl ?_
    exact ih14 _ V hG hF vz31 vz31.toInt rfl (by omega) o2 (by rw [evz1]; omega)   (by omega)
set_option maxRecDepth 10000 in
set_option maxHeartbeats 40000000 in
theorem C_X13_keep_131 {P : Par} {g g0 : LH} {d n : Nat}  (V : InvR P g) (hG : Gr g = Gr g0) (hF : FrK g g0) (x1 : Int32) (y1 : Int) (hx1 : x1.toInt = y1) (hf1 : 578 ≤ y1 ∧ y1 ≤ 2956) (x2 : Int32) (y2 : Int) (hx2 : x2.toInt = y2) (hf2 : 0 ≤ y2 ∧ y2 ≤ 98) (hc356_6 : 0 ≤ (Gi g 356 6).toInt ∧ (Gi g 356 6).toInt ≤ 29) (hc356_10 : 0 ≤ (Gi g 356 10).toInt ∧ (Gi g 356 10).toInt ≤ 10) (hq0 : y1 = 578 + 82 * (Gi g 356 6).toInt) (hmu : (98 - y2) * 1 + 0 < (n : Int) + 1) (ih14 : ∀ (g : LH) (V : InvR P g) (hG : Gr g = Gr g0) (hF : FrK g g0) (x1 : Int32) (y1 : Int) (hx1 : x1.toInt = y1) (hf1 : 0 ≤ y1 ∧ y1 ≤ 2619) (o2 : Option Value) (hc356_6 : 30 ≤ (Gi g 356 6).toInt ∧ (Gi g 356 6).toInt ≤ 30), (2619 - y1) * 1 + 100 < (n : Int) → LW 245 (d + 3) 0 0 14 [some (.ref 355), some (.int x1), o2] [] g (fun v g' => v = none ∧ InvR P g' ∧ Gr g' = Gr g0 ∧ FrK g' g0)) (ih131 : ∀ (g : LH) (V : InvR P g) (hG : Gr g = Gr g0) (hF : FrK g g0) (x1 : Int32) (y1 : Int) (hx1 : x1.toInt = y1) (hf1 : 578 ≤ y1 ∧ y1 ≤ 2956) (x2 : Int32) (y2 : Int) (hx2 : x2.toInt = y2) (hf2 : 0 ≤ y2 ∧ y2 ≤ 98) (hc356_6 : 0 ≤ (Gi g 356 6).toInt ∧ (Gi g 356 6).toInt ≤ 29) (hc356_10 : 0 ≤ (Gi g 356 10).toInt ∧ (Gi g 356 10).toInt ≤ 10) (hq0 : y1 = 578 + 82 * (Gi g 356 6).toInt), (98 - y2) * 1 + 0 < (n : Int) → LW 245 (d + 3) 0 0 131 [some (.ref 355), some (.int x1), some (.int x2)] [] g (fun v g' => v = none ∧ InvR P g' ∧ Gr g' = Gr g0 ∧ FrK g' g0)) : LW 245 (d + 3) 0 0 131 [some (.ref 355), some (.int x1), some (.int x2)] [] g (fun v g' => v = none ∧ InvR P g' ∧ Gr g' = Gr g0 ∧ FrK g' g0) := by
  obtain ⟨vz1, evz1⟩ : ∃ z, Gi g 356 6 = z := ⟨_, rfl⟩
  rw [evz1] at hc356_6
  obtain ⟨vz2, evz2⟩ : ∃ z, Gi g 356 10 = z := ⟨_, rfl⟩
  rw [evz2] at hc356_10
  rw [evz1] at hq0
  refine X_iload_n rfl rfl rfl rfl ?_
  refine X_bipush (v := (78 : Int32)) rfl rfl rfl ?_
  refine S_icmp_ge (tgt := 162) rfl rfl rfl hx2 (show (78 : Int32).toInt = 78 from rfl) (fun vh3 => ?_) (fun vh3 => ?_)
  · refine X_aload_n rfl rfl rfl rfl ?_
    refine X_getR (a := 356) rfl rfl rfl ((congrFun V.1 355).trans s_355) rfl ((congrFun (V.2.1 355 (by decide)) 0).trans r_355_0) ?_
    refine X_bipush (v := (6 : Int32)) rfl rfl rfl ?_
    refine X_dup2 rfl rfl rfl rfl ?_
    refine S_iald_v rfl rfl ((congrFun V.1 356).trans s_356) (show (6 : Int32).toInt = 6 from rfl) (by omega) evz1 ?_
    refine X_iconst (v := (1 : Int32)) rfl rfl rfl ?_
    refine S_iadd rfl rfl rfl (show (1 : Int32).toInt = 1 from rfl) (by omega) (fun vz5 hvz5 => ?_)
    refine S_iast (I := InvR _) rfl rfl ((congrFun V.1 356).trans s_356) (show (6 : Int32).toInt = 6 from rfl) (by omega) (InvR_putA V (by omega) (B_STEPS (by omega) (by omega))) (fun g V ve6 vn7 hq => ?_)
    have hG := hq.trans hG
    have hF := hF.put (i := (6 : Int).toNat) vn7 (by omega)
    have evz2 := (vn7 (356) 10 (Or.inr (by omega))).trans evz2
    have ve6 : Gi g 356 6 = vz5 := ve6
    exact LW_return (st := []) rfl rfl ⟨rfl, V, hG, hF⟩
  · refine X_aload_n rfl rfl rfl rfl ?_
    refine X_getR (a := 356) rfl rfl rfl ((congrFun V.1 355).trans s_355) rfl ((congrFun (V.2.1 355 (by decide)) 0).trans r_355_0) ?_
    refine X_iload_n rfl rfl rfl rfl ?_
    refine X_iconst (v := (4 : Int32)) rfl rfl rfl ?_
    refine S_iadd rfl rfl hx1 (show (4 : Int32).toInt = 4 from rfl) (by omega) (fun vz8 hvz8 => ?_)
    refine X_iload_n rfl rfl rfl rfl ?_
    refine S_iadd rfl rfl rfl hx2 (by omega) (fun vz9 hvz9 => ?_)
    refine X_aload_n rfl rfl rfl rfl ?_
    refine X_getR (a := 356) rfl rfl rfl ((congrFun V.1 355).trans s_355) rfl ((congrFun (V.2.1 355 (by decide)) 0).trans r_355_0) ?_
    refine X_bipush (v := (12 : Int32)) rfl rfl rfl ?_
    refine X_iload_n rfl rfl rfl rfl ?_
    refine S_iadd rfl rfl (show (12 : Int32).toInt = 12 from rfl) hx2 (by omega) (fun vz10 hvz10 => ?_)
    refine S_iald rfl rfl ((congrFun V.1 356).trans s_356) rfl (by omega) (fun vz11 evz11 => ?_)
    refine S_iast (I := InvR _) rfl rfl ((congrFun V.1 356).trans s_356) rfl (by omega) (InvR_putA V (by omega) (B_FREE (by omega))) (fun g V ve12 vn13 hq => ?_)
    have hG := hq.trans hG
    have hF := hF.put (i := (vz9.toInt : Int).toNat) vn13 (by omega)
    have evz1 := (vn13 (356) 6 (Or.inr (by omega))).trans evz1
    have evz2 := (vn13 (356) 10 (Or.inr (by omega))).trans evz2
    refine S_iinc (c := 1) rfl rfl rfl hx2 rfl (by omega) (fun vz14 hvz14 => ?_)
    refine LW_ls (ls' := [some (.ref 355), some (.int x1), some (.int vz14)]) rfl ?_
    refine LW_goto (tgt := 131) rfl rfl ?_
    exact ih131 _ V hG hF x1 y1 hx1 (by omega) vz14 vz14.toInt rfl (by omega) (by rw [evz1]; omega) (by rw [evz2]; omega) (by rw [evz1]; omega)  (by omega)
theorem C_X13_keep_all {P : Par} {g0 : LH} {d : Nat}  : ∀ n : Nat, (∀ (g : LH) (V : InvR P g) (hG : Gr g = Gr g0) (hF : FrK g g0) (x1 : Int32) (y1 : Int) (hx1 : x1.toInt = y1) (hf1 : 0 ≤ y1 ∧ y1 ≤ 2619) (o2 : Option Value) (hc356_6 : 30 ≤ (Gi g 356 6).toInt ∧ (Gi g 356 6).toInt ≤ 30), (2619 - y1) * 1 + 100 < (n : Int) → LW 245 (d + 3) 0 0 14 [some (.ref 355), some (.int x1), o2] [] g (fun v g' => v = none ∧ InvR P g' ∧ Gr g' = Gr g0 ∧ FrK g' g0)) ∧ (∀ (g : LH) (V : InvR P g) (hG : Gr g = Gr g0) (hF : FrK g g0) (x1 : Int32) (y1 : Int) (hx1 : x1.toInt = y1) (hf1 : 578 ≤ y1 ∧ y1 ≤ 2956) (x2 : Int32) (y2 : Int) (hx2 : x2.toInt = y2) (hf2 : 0 ≤ y2 ∧ y2 ≤ 98) (hc356_6 : 0 ≤ (Gi g 356 6).toInt ∧ (Gi g 356 6).toInt ≤ 29) (hc356_10 : 0 ≤ (Gi g 356 10).toInt ∧ (Gi g 356 10).toInt ≤ 10) (hq0 : y1 = 578 + 82 * (Gi g 356 6).toInt), (98 - y2) * 1 + 0 < (n : Int) → LW 245 (d + 3) 0 0 131 [some (.ref 355), some (.int x1), some (.int x2)] [] g (fun v g' => v = none ∧ InvR P g' ∧ Gr g' = Gr g0 ∧ FrK g' g0)) := by
  intro n
  induction n with
  | zero => exact ⟨fun g V hG hF x1 y1 hx1 hf1 o2 hc356_6 hmu => absurd hmu (by omega), fun g V hG hF x1 y1 hx1 hf1 x2 y2 hx2 hf2 hc356_6 hc356_10 hq0 hmu => absurd hmu (by omega)⟩
  | succ n ih => exact ⟨fun g V hG hF x1 y1 hx1 hf1 o2 hc356_6 hmu => C_X13_keep_14  V hG hF x1 y1 hx1 hf1 o2 hc356_6 (by omega) ih.1 ih.2, fun g V hG hF x1 y1 hx1 hf1 x2 y2 hx2 hf2 hc356_6 hc356_10 hq0 hmu => C_X13_keep_131  V hG hF x1 y1 hx1 hf1 x2 y2 hx2 hf2 hc356_6 hc356_10 hq0 (by omega) ih.1 ih.2⟩
set_option maxRecDepth 10000 in
set_option maxHeartbeats 40000000 in
theorem C_X13_keep {P : Par} {g : LH} {d : Nat}  (V : InvR P g)    : LW 245 (d + 3) 0 0 0 (lEnt (mL 245) [.ref 355]) [] g (fun v g' => v = none ∧ InvR P g' ∧ Gr g' = Gr g ∧ FrK g' g) := by
  refine LW_ls (ls' := [some (.ref 355), none, none]) rfl ?_
  have hG : Gr g = Gr g := rfl
  have hF : FrK g g := FrK.refl
  refine X_aload_n rfl rfl rfl rfl ?_
  refine X_getR (a := 356) rfl rfl rfl ((congrFun V.1 355).trans s_355) rfl ((congrFun (V.2.1 355 (by decide)) 0).trans r_355_0) ?_
  refine X_bipush (v := (6 : Int32)) rfl rfl rfl ?_
  refine S_iald rfl rfl ((congrFun V.1 356).trans s_356) (show (6 : Int32).toInt = 6 from rfl) (by omega) (fun vz1 evz1 => ?_)
  have evz1 : Gi g 356 6 = vz1 := evz1
  have vf2 := A_STEPS (V.2.2.2.1 (6)) (by omega)
  rw [evz1] at vf2
  refine X_bipush (v := (30 : Int32)) rfl rfl rfl ?_
  refine S_icmp_ne (tgt := 58) rfl rfl rfl rfl (show (30 : Int32).toInt = 30 from rfl) (fun vh3 => ?_) (fun vh3 => ?_)
  · refine X_sipush (v := (578 : Int32)) rfl rfl rfl ?_
    refine X_bipush (v := (82 : Int32)) rfl rfl rfl ?_
    refine X_aload_n rfl rfl rfl rfl ?_
    refine X_getR (a := 356) rfl rfl rfl ((congrFun V.1 355).trans s_355) rfl ((congrFun (V.2.1 355 (by decide)) 0).trans r_355_0) ?_
    refine X_bipush (v := (6 : Int32)) rfl rfl rfl ?_
    refine S_iald_v rfl rfl ((congrFun V.1 356).trans s_356) (show (6 : Int32).toInt = 6 from rfl) (by omega) evz1 ?_
    refine S_imul rfl rfl (show (82 : Int32).toInt = 82 from rfl) rfl (by omega) (fun vz5 hvz5 => ?_)
    refine S_iadd rfl rfl (show (578 : Int32).toInt = 578 from rfl) rfl (by omega) (fun vz6 hvz6 => ?_)
    refine X_istore_n (i := 1) (ls' := [some (.ref 355), some (.int vz6), none]) rfl rfl rfl (Nat.le_of_ble_eq_true rfl) rfl ?_
    refine X_aload_n rfl rfl rfl rfl ?_
    refine X_getR (a := 356) rfl rfl rfl ((congrFun V.1 355).trans s_355) rfl ((congrFun (V.2.1 355 (by decide)) 0).trans r_355_0) ?_
    refine X_iload_n rfl rfl rfl rfl ?_
    refine X_aload_n rfl rfl rfl rfl ?_
    refine X_getR (a := 356) rfl rfl rfl ((congrFun V.1 355).trans s_355) rfl ((congrFun (V.2.1 355 (by decide)) 0).trans r_355_0) ?_
    refine X_bipush (v := (7 : Int32)) rfl rfl rfl ?_
    refine S_iald rfl rfl ((congrFun V.1 356).trans s_356) (show (7 : Int32).toInt = 7 from rfl) (by omega) (fun vz7 evz7 => ?_)
    have evz7 : Gi g 356 7 = vz7 := evz7
    refine S_iast (I := InvR _) rfl rfl ((congrFun V.1 356).trans s_356) rfl (by omega) (InvR_putA V (by omega) (B_FREE (by omega))) (fun g V ve8 vn9 hq => ?_)
    have hG := hq.trans hG
    have hF := hF.put (i := (vz6.toInt : Int).toNat) vn9 (by omega)
    have evz1 := (vn9 (356) 6 (Or.inr (by omega))).trans evz1
    have evz7 := (vn9 (356) 7 (Or.inr (by omega))).trans evz7
    refine X_aload_n rfl rfl rfl rfl ?_
    refine X_getR (a := 356) rfl rfl rfl ((congrFun V.1 355).trans s_355) rfl ((congrFun (V.2.1 355 (by decide)) 0).trans r_355_0) ?_
    refine X_iload_n rfl rfl rfl rfl ?_
    refine X_iconst (v := (1 : Int32)) rfl rfl rfl ?_
    refine S_iadd rfl rfl rfl (show (1 : Int32).toInt = 1 from rfl) (by omega) (fun vz10 hvz10 => ?_)
    refine X_aload_n rfl rfl rfl rfl ?_
    refine X_getR (a := 356) rfl rfl rfl ((congrFun V.1 355).trans s_355) rfl ((congrFun (V.2.1 355 (by decide)) 0).trans r_355_0) ?_
    refine X_bipush (v := (10 : Int32)) rfl rfl rfl ?_
    refine S_iald rfl rfl ((congrFun V.1 356).trans s_356) (show (10 : Int32).toInt = 10 from rfl) (by omega) (fun vz11 evz11 => ?_)
    have evz11 : Gi g 356 10 = vz11 := evz11
    have vf12 := A_CONS (V.2.2.2.1 (10)) (by omega)
    rw [evz11] at vf12
    refine S_iast (I := InvR _) rfl rfl ((congrFun V.1 356).trans s_356) rfl (by omega) (InvR_putA V (by omega) (B_SCON (by omega) (by omega))) (fun g V ve13 vn14 hq => ?_)
    have hG := hq.trans hG
    have hF := hF.put (i := (vz10.toInt : Int).toNat) vn14 (by omega)
    have evz1 := (vn14 (356) 6 (Or.inr (by omega))).trans evz1
    have evz7 := (vn14 (356) 7 (Or.inr (by omega))).trans evz7
    have evz11 := (vn14 (356) 10 (Or.inr (by omega))).trans evz11
    refine X_aload_n rfl rfl rfl rfl ?_
    refine X_getR (a := 356) rfl rfl rfl ((congrFun V.1 355).trans s_355) rfl ((congrFun (V.2.1 355 (by decide)) 0).trans r_355_0) ?_
    refine X_iload_n rfl rfl rfl rfl ?_
    refine X_iconst (v := (2 : Int32)) rfl rfl rfl ?_
    refine S_iadd rfl rfl rfl (show (2 : Int32).toInt = 2 from rfl) (by omega) (fun vz15 hvz15 => ?_)
    refine X_aload_n rfl rfl rfl rfl ?_
    refine X_getR (a := 356) rfl rfl rfl ((congrFun V.1 355).trans s_355) rfl ((congrFun (V.2.1 355 (by decide)) 0).trans r_355_0) ?_
    refine X_iconst (v := (2 : Int32)) rfl rfl rfl ?_
    refine S_iald rfl rfl ((congrFun V.1 356).trans s_356) (show (2 : Int32).toInt = 2 from rfl) (by omega) (fun vz16 evz16 => ?_)
    have evz16 : Gi g 356 2 = vz16 := evz16
    refine S_iast (I := InvR _) rfl rfl ((congrFun V.1 356).trans s_356) rfl (by omega) (InvR_putA V (by omega) (B_FREE (by omega))) (fun g V ve17 vn18 hq => ?_)
    have hG := hq.trans hG
    have hF := hF.put (i := (vz15.toInt : Int).toNat) vn18 (by omega)
    have evz1 := (vn18 (356) 6 (Or.inr (by omega))).trans evz1
    have evz7 := (vn18 (356) 7 (Or.inr (by omega))).trans evz7
    have evz11 := (vn18 (356) 10 (Or.inr (by omega))).trans evz11
    have evz16 := (vn18 (356) 2 (Or.inr (by omega))).trans evz16
    refine X_aload_n rfl rfl rfl rfl ?_
    refine X_getR (a := 356) rfl rfl rfl ((congrFun V.1 355).trans s_355) rfl ((congrFun (V.2.1 355 (by decide)) 0).trans r_355_0) ?_
    refine X_iload_n rfl rfl rfl rfl ?_
    refine X_iconst (v := (3 : Int32)) rfl rfl rfl ?_
    refine S_iadd rfl rfl rfl (show (3 : Int32).toInt = 3 from rfl) (by omega) (fun vz19 hvz19 => ?_)
    refine X_aload_n rfl rfl rfl rfl ?_
    refine X_getR (a := 356) rfl rfl rfl ((congrFun V.1 355).trans s_355) rfl ((congrFun (V.2.1 355 (by decide)) 0).trans r_355_0) ?_
    refine X_iconst (v := (3 : Int32)) rfl rfl rfl ?_
    refine S_iald rfl rfl ((congrFun V.1 356).trans s_356) (show (3 : Int32).toInt = 3 from rfl) (by omega) (fun vz20 evz20 => ?_)
    have evz20 : Gi g 356 3 = vz20 := evz20
    refine S_iast (I := InvR _) rfl rfl ((congrFun V.1 356).trans s_356) rfl (by omega) (InvR_putA V (by omega) (B_FREE (by omega))) (fun g V ve21 vn22 hq => ?_)
    have hG := hq.trans hG
    have hF := hF.put (i := (vz19.toInt : Int).toNat) vn22 (by omega)
    have evz1 := (vn22 (356) 6 (Or.inr (by omega))).trans evz1
    have evz7 := (vn22 (356) 7 (Or.inr (by omega))).trans evz7
    have evz11 := (vn22 (356) 10 (Or.inr (by omega))).trans evz11
    have evz16 := (vn22 (356) 2 (Or.inr (by omega))).trans evz16
    have evz20 := (vn22 (356) 3 (Or.inr (by omega))).trans evz20
    refine X_iconst (v := (0 : Int32)) rfl rfl rfl ?_
    refine X_istore_n (i := 2) (ls' := [some (.ref 355), some (.int vz6), some (.int (0 : Int32))]) rfl rfl rfl (Nat.le_of_ble_eq_true rfl) rfl ?_
    exact (C_X13_keep_all (((98 - 0) * 1 + 0) + 1 : Int).toNat).2 _ V hG hF vz6 vz6.toInt rfl (by omega) (0 : Int32) 0 (show (0 : Int32).toInt = 0 from rfl) (by omega) (by rw [evz1]; omega) (by rw [evz11]; omega) (by rw [evz1]; omega)  (by omega)
  · refine X_iconst (v := (0 : Int32)) rfl rfl rfl ?_
    refine X_istore_n (i := 1) (ls' := [some (.ref 355), some (.int (0 : Int32)), none]) rfl rfl rfl (Nat.le_of_ble_eq_true rfl) rfl ?_
    exact (C_X13_keep_all (((2619 - 0) * 1 + 100) + 1 : Int).toNat).1 _ V hG hF (0 : Int32) 0 (show (0 : Int32).toInt = 0 from rfl) (by omega) none (by rw [evz1]; omega)   (by omega)
set_option maxRecDepth 10000 in
set_option maxHeartbeats 40000000 in
theorem C_X13_setOf_4 {P : Par} {g : LH} {d n : Nat}  (V : InvR P g) (x1 : Int32) (y1 : Int) (hx1 : x1.toInt = y1) (hf1 : 0 ≤ y1 ∧ y1 ≤ 23) (x2 : Int32) (y2 : Int) (hx2 : x2.toInt = y2) (x3 : Int32) (y3 : Int) (hx3 : x3.toInt = y3) (hf3 : 0 ≤ y3 ∧ y3 ≤ 8)  (hmu : (8 - y3) * 1 + 0 < (n : Int) + 1) (ih4 : ∀ (V : InvR P g) (x1 : Int32) (y1 : Int) (hx1 : x1.toInt = y1) (hf1 : 0 ≤ y1 ∧ y1 ≤ 23) (x2 : Int32) (y2 : Int) (hx2 : x2.toInt = y2) (x3 : Int32) (y3 : Int) (hx3 : x3.toInt = y3) (hf3 : 0 ≤ y3 ∧ y3 ≤ 8) , (8 - y3) * 1 + 0 < (n : Int) → LW 183 (d + 4) 0 0 4 [some (.ref 355), some (.int x1), some (.int x2), some (.int x3)] [] g (fun v g' => ∃ r : Int32, v = some (.int r) ∧ g = g')) : LW 183 (d + 4) 0 0 4 [some (.ref 355), some (.int x1), some (.int x2), some (.int x3)] [] g (fun v g' => ∃ r : Int32, v = some (.int r) ∧ g = g') := by
  refine X_iload_n rfl rfl rfl rfl ?_
  refine X_aload_n rfl rfl rfl rfl ?_
  refine X_iload_n rfl rfl rfl rfl ?_
  refine X_callV (as := [.int x1]) (st := [.int x3]) rfl rfl rfl (by decide) rfl (Nat.le_of_ble_eq_true rfl) (by decide) (Nat.le_of_ble_eq_true rfl) rfl ((congrFun V.1 355).trans s_355) (by decide) ?_
  refine LW_ls (ls' := [some (.ref 355), some (.int x1)]) rfl ?_
  refine X_aload_n rfl rfl rfl rfl ?_
  refine X_getR (a := 356) rfl rfl rfl ((congrFun V.1 355).trans s_355) rfl ((congrFun (V.2.1 355 (by decide)) 0).trans r_355_0) ?_
  refine X_bipush (v := (116 : Int32)) rfl rfl rfl ?_
  refine X_bipush (v := (10 : Int32)) rfl rfl rfl ?_
  refine X_iload_n rfl rfl rfl rfl ?_
  refine S_imul rfl rfl (show (10 : Int32).toInt = 10 from rfl) hx1 (by omega) (fun vz1 hvz1 => ?_)
  refine S_iadd rfl rfl (show (116 : Int32).toInt = 116 from rfl) rfl (by omega) (fun vz2 hvz2 => ?_)
  refine X_bipush (v := (8 : Int32)) rfl rfl rfl ?_
  refine S_iadd rfl rfl rfl (show (8 : Int32).toInt = 8 from rfl) (by omega) (fun vz3 hvz3 => ?_)
  refine S_iald rfl rfl ((congrFun V.1 356).trans s_356) rfl (by omega) (fun vz4 evz4 => ?_)
  have vf5 := A_LENGTH (V.2.2.2.1 ((vz3.toInt : Int).toNat)) (by omega)
  rw [evz4] at vf5
  refine LW_ireturn (st := []) rfl rfl rfl ?_
  refine S_icmp_ge (tgt := 30) rfl rfl rfl hx3 rfl (fun vh6 => ?_) (fun vh6 => ?_)
  · refine X_iload_n rfl rfl rfl rfl ?_
    exact LW_ireturn (st := []) rfl rfl rfl ⟨_, rfl, rfl⟩
  · refine X_iload_n rfl rfl rfl rfl ?_
    refine X_iconst (v := (1 : Int32)) rfl rfl rfl ?_
    refine X_aload_n rfl rfl rfl rfl ?_
    refine X_iload_n rfl rfl rfl rfl ?_
    refine X_iload_n rfl rfl rfl rfl ?_
    refine X_callV (as := [.int x1, .int x3]) (st := [.int (1 : Int32), .int x2]) rfl rfl rfl (by decide) rfl (Nat.le_of_ble_eq_true rfl) (by decide) (Nat.le_of_ble_eq_true rfl) rfl ((congrFun V.1 355).trans s_355) (by decide) ?_
    refine LW_ls (ls' := [some (.ref 355), some (.int x1), some (.int x3)]) rfl ?_
    refine X_aload_n rfl rfl rfl rfl ?_
    refine X_getR (a := 356) rfl rfl rfl ((congrFun V.1 355).trans s_355) rfl ((congrFun (V.2.1 355 (by decide)) 0).trans r_355_0) ?_
    refine X_bipush (v := (116 : Int32)) rfl rfl rfl ?_
    refine X_bipush (v := (10 : Int32)) rfl rfl rfl ?_
    refine X_iload_n rfl rfl rfl rfl ?_
    refine S_imul rfl rfl (show (10 : Int32).toInt = 10 from rfl) hx1 (by omega) (fun vz7 hvz7 => ?_)
    refine S_iadd rfl rfl (show (116 : Int32).toInt = 116 from rfl) rfl (by omega) (fun vz8 hvz8 => ?_)
    refine X_iload_n rfl rfl rfl rfl ?_
    refine S_iadd rfl rfl rfl hx3 (by omega) (fun vz9 hvz9 => ?_)
    refine S_iald rfl rfl ((congrFun V.1 356).trans s_356) rfl (by omega) (fun vz10 evz10 => ?_)
    have vf11 := A_LETTER (V.2.2.2.1 ((vz9.toInt : Int).toNat)) (by omega)
    rw [evz10] at vf11
    refine LW_ireturn (st := []) rfl rfl rfl ?_
    refine S_ishlT rfl rfl (fun vz12 => ?_)
    refine S_iorT rfl rfl (fun vz13 => ?_)
    refine X_istore_n (i := 2) (ls' := [some (.ref 355), some (.int x1), some (.int vz13), some (.int x3)]) rfl rfl rfl (Nat.le_of_ble_eq_true rfl) rfl ?_
    refine S_iinc (c := 1) rfl rfl rfl hx3 rfl (by omega) (fun vz14 hvz14 => ?_)
    refine LW_ls (ls' := [some (.ref 355), some (.int x1), some (.int vz13), some (.int vz14)]) rfl ?_
    refine LW_goto (tgt := 4) rfl rfl ?_
    exact ih4 V x1 y1 hx1 (by omega) vz13 vz13.toInt rfl vz14 vz14.toInt rfl (by omega)    (by omega)
theorem C_X13_setOf_all {P : Par} {g : LH} {d : Nat}  : ∀ n : Nat, (∀ (V : InvR P g) (x1 : Int32) (y1 : Int) (hx1 : x1.toInt = y1) (hf1 : 0 ≤ y1 ∧ y1 ≤ 23) (x2 : Int32) (y2 : Int) (hx2 : x2.toInt = y2) (x3 : Int32) (y3 : Int) (hx3 : x3.toInt = y3) (hf3 : 0 ≤ y3 ∧ y3 ≤ 8) , (8 - y3) * 1 + 0 < (n : Int) → LW 183 (d + 4) 0 0 4 [some (.ref 355), some (.int x1), some (.int x2), some (.int x3)] [] g (fun v g' => ∃ r : Int32, v = some (.int r) ∧ g = g')) := by
  intro n
  induction n with
  | zero => exact fun V x1 y1 hx1 hf1 x2 y2 hx2 x3 y3 hx3 hf3 hmu => absurd hmu (by omega)
  | succ n ih => exact fun V x1 y1 hx1 hf1 x2 y2 hx2 x3 y3 hx3 hf3 hmu => C_X13_setOf_4  V x1 y1 hx1 hf1 x2 y2 hx2 x3 y3 hx3 hf3 (by omega) ih
set_option maxRecDepth 10000 in
set_option maxHeartbeats 40000000 in
theorem C_X13_setOf {P : Par} {g : LH} {d : Nat}  (V : InvR P g) (x1 : Int32) (y1 : Int) (hx1 : x1.toInt = y1) (hf1 : 0 ≤ y1 ∧ y1 ≤ 23)   : LW 183 (d + 4) 0 0 0 (lEnt (mL 183) [.ref 355, .int x1]) [] g (fun v g' => ∃ r : Int32, v = some (.int r) ∧ g = g') := by
  refine LW_ls (ls' := [some (.ref 355), some (.int x1), none, none]) rfl ?_
  refine X_iconst (v := (0 : Int32)) rfl rfl rfl ?_
  refine X_istore_n (i := 2) (ls' := [some (.ref 355), some (.int x1), some (.int (0 : Int32)), none]) rfl rfl rfl (Nat.le_of_ble_eq_true rfl) rfl ?_
  refine X_iconst (v := (0 : Int32)) rfl rfl rfl ?_
  refine X_istore_n (i := 3) (ls' := [some (.ref 355), some (.int x1), some (.int (0 : Int32)), some (.int (0 : Int32))]) rfl rfl rfl (Nat.le_of_ble_eq_true rfl) rfl ?_
  exact (C_X13_setOf_all (((8 - 0) * 1 + 0) + 1 : Int).toNat) V x1 y1 hx1 (by omega) (0 : Int32) 0 (show (0 : Int32).toInt = 0 from rfl) (0 : Int32) 0 (show (0 : Int32).toInt = 0 from rfl) (by omega)    (by omega)
set_option maxRecDepth 10000 in
set_option maxHeartbeats 40000000 in
theorem C_X13_usesOf_4 {P : Par} {g : LH} {d n : Nat}  (V : InvR P g) (x1 : Int32) (y1 : Int) (hx1 : x1.toInt = y1) (hf1 : 0 ≤ y1 ∧ y1 ≤ 25) (x2 : Int32) (y2 : Int) (hx2 : x2.toInt = y2) (x3 : Int32) (y3 : Int) (hx3 : x3.toInt = y3) (hf3 : 0 ≤ y3 ∧ y3 ≤ 24)  (hmu : (24 - y3) * 1 + 0 < (n : Int) + 1) (ih4 : ∀ (V : InvR P g) (x1 : Int32) (y1 : Int) (hx1 : x1.toInt = y1) (hf1 : 0 ≤ y1 ∧ y1 ≤ 25) (x2 : Int32) (y2 : Int) (hx2 : x2.toInt = y2) (x3 : Int32) (y3 : Int) (hx3 : x3.toInt = y3) (hf3 : 0 ≤ y3 ∧ y3 ≤ 24) , (24 - y3) * 1 + 0 < (n : Int) → LW 184 (d + 9) 0 0 4 [some (.ref 355), some (.int x1), some (.int x2), some (.int x3)] [] g (fun v g' => ∃ r : Int32, v = some (.int r) ∧ g = g')) : LW 184 (d + 9) 0 0 4 [some (.ref 355), some (.int x1), some (.int x2), some (.int x3)] [] g (fun v g' => ∃ r : Int32, v = some (.int r) ∧ g = g') := by
  refine X_iload_n rfl rfl rfl rfl ?_
  refine X_aload_n rfl rfl rfl rfl ?_
  refine X_getR (a := 356) rfl rfl rfl ((congrFun V.1 355).trans s_355) rfl ((congrFun (V.2.1 355 (by decide)) 0).trans r_355_0) ?_
  refine X_iconst (v := (0 : Int32)) rfl rfl rfl ?_
  refine S_iald rfl rfl ((congrFun V.1 356).trans s_356) (show (0 : Int32).toInt = 0 from rfl) (by omega) (fun vz1 evz1 => ?_)
  have evz1 : Gi g 356 0 = vz1 := evz1
  have vf2 := A_WORDS (V.2.2.2.1 (0)) (by omega)
  rw [evz1] at vf2
  refine S_icmp_ge (tgt := 40) rfl rfl rfl hx3 rfl (fun vh3 => ?_) (fun vh3 => ?_)
  · refine X_iload_n rfl rfl rfl rfl ?_
    exact LW_ireturn (st := []) rfl rfl rfl ⟨_, rfl, rfl⟩
  · refine X_iload_n rfl rfl rfl rfl ?_
    refine X_aload_n rfl rfl rfl rfl ?_
    refine X_iload_n rfl rfl rfl rfl ?_
    refine Y_callV (as := [.int x3]) (st := [.int x2]) rfl rfl rfl (by decide) rfl (Nat.le_of_ble_eq_true rfl) (by decide) (Nat.le_of_ble_eq_true rfl) rfl ((congrFun V.1 355).trans s_355) (by decide) (C_X13_setOf V x3 y3 hx3 (by omega) ) ?_
    rintro _ g' ⟨vr4, rfl, hgg⟩
    subst hgg
    refine X_iload_n rfl rfl rfl rfl ?_
    refine X_callS (as := [.int vr4, .int x1]) (st := [.int x2]) rfl rfl rfl (by decide) rfl (Nat.le_of_ble_eq_true rfl) (by decide) (Nat.le_of_ble_eq_true rfl) rfl ?_
    refine LW_ls (ls' := [some (.int vr4), some (.int x1)]) rfl ?_
    refine X_iload_n rfl rfl rfl rfl ?_
    refine X_iload_n rfl rfl rfl rfl ?_
    refine S_ishrT rfl rfl (fun vz5 => ?_)
    refine X_iconst (v := (1 : Int32)) rfl rfl rfl ?_
    refine S_iandR (k := 1) rfl rfl rfl (fun vz6 hvz6 => ?_)
    refine X_iconst (v := (1 : Int32)) rfl rfl rfl ?_
    refine S_icmp_ne (tgt := 13) rfl rfl rfl rfl (show (1 : Int32).toInt = 1 from rfl) (fun vh7 => ?_) (fun vh7 => ?_)
    · refine X_iconst (v := (0 : Int32)) rfl rfl rfl ?_
      refine LW_ireturn (st := []) rfl rfl rfl ?_
      refine S_if_eq (tgt := 31) rfl rfl rfl (show (0 : Int32).toInt = 0 from rfl) (fun vh8 => ?_) (fun q => absurd q (by omega))
      refine X_iconst (v := (0 : Int32)) rfl rfl rfl ?_
      refine S_iaddT rfl rfl (fun vz9 => ?_)
      refine X_istore_n (i := 2) (ls' := [some (.ref 355), some (.int x1), some (.int vz9), some (.int x3)]) rfl rfl rfl (Nat.le_of_ble_eq_true rfl) rfl ?_
      refine S_iinc (c := 1) rfl rfl rfl hx3 rfl (by omega) (fun vz10 hvz10 => ?_)
      refine LW_ls (ls' := [some (.ref 355), some (.int x1), some (.int vz9), some (.int vz10)]) rfl ?_
      refine LW_goto (tgt := 4) rfl rfl ?_
      exact ih4 V x1 y1 hx1 (by omega) vz9 vz9.toInt rfl vz10 vz10.toInt rfl (by omega)    (by omega)
    · refine X_iconst (v := (1 : Int32)) rfl rfl rfl ?_
      refine LW_goto (tgt := 14) rfl rfl ?_
      refine LW_ireturn (st := []) rfl rfl rfl ?_
      refine S_if_eq (tgt := 31) rfl rfl rfl (show (1 : Int32).toInt = 1 from rfl) (fun q => absurd q (by omega)) (fun vh11 => ?_)
      refine X_iconst (v := (1 : Int32)) rfl rfl rfl ?_
      refine LW_goto (tgt := 32) rfl rfl ?_
      refine S_iaddT rfl rfl (fun vz12 => ?_)
      refine X_istore_n (i := 2) (ls' := [some (.ref 355), some (.int x1), some (.int vz12), some (.int x3)]) rfl rfl rfl (Nat.le_of_ble_eq_true rfl) rfl ?_
      refine S_iinc (c := 1) rfl rfl rfl hx3 rfl (by omega) (fun vz13 hvz13 => ?_)
      refine LW_ls (ls' := [some (.ref 355), some (.int x1), some (.int vz12), some (.int vz13)]) rfl ?_
      refine LW_goto (tgt := 4) rfl rfl ?_
      exact ih4 V x1 y1 hx1 (by omega) vz12 vz12.toInt rfl vz13 vz13.toInt rfl (by omega)    (by omega)
theorem C_X13_usesOf_all {P : Par} {g : LH} {d : Nat}  : ∀ n : Nat, (∀ (V : InvR P g) (x1 : Int32) (y1 : Int) (hx1 : x1.toInt = y1) (hf1 : 0 ≤ y1 ∧ y1 ≤ 25) (x2 : Int32) (y2 : Int) (hx2 : x2.toInt = y2) (x3 : Int32) (y3 : Int) (hx3 : x3.toInt = y3) (hf3 : 0 ≤ y3 ∧ y3 ≤ 24) , (24 - y3) * 1 + 0 < (n : Int) → LW 184 (d + 9) 0 0 4 [some (.ref 355), some (.int x1), some (.int x2), some (.int x3)] [] g (fun v g' => ∃ r : Int32, v = some (.int r) ∧ g = g')) := by
  intro n
  induction n with
  | zero => exact fun V x1 y1 hx1 hf1 x2 y2 hx2 x3 y3 hx3 hf3 hmu => absurd hmu (by omega)
  | succ n ih => exact fun V x1 y1 hx1 hf1 x2 y2 hx2 x3 y3 hx3 hf3 hmu => C_X13_usesOf_4  V x1 y1 hx1 hf1 x2 y2 hx2 x3 y3 hx3 hf3 (by omega) ih
set_option maxRecDepth 10000 in
set_option maxHeartbeats 40000000 in
theorem C_X13_usesOf {P : Par} {g : LH} {d : Nat}  (V : InvR P g) (x1 : Int32) (y1 : Int) (hx1 : x1.toInt = y1) (hf1 : 0 ≤ y1 ∧ y1 ≤ 25)   : LW 184 (d + 9) 0 0 0 (lEnt (mL 184) [.ref 355, .int x1]) [] g (fun v g' => ∃ r : Int32, v = some (.int r) ∧ g = g') := by
  refine LW_ls (ls' := [some (.ref 355), some (.int x1), none, none]) rfl ?_
  refine X_iconst (v := (0 : Int32)) rfl rfl rfl ?_
  refine X_istore_n (i := 2) (ls' := [some (.ref 355), some (.int x1), some (.int (0 : Int32)), none]) rfl rfl rfl (Nat.le_of_ble_eq_true rfl) rfl ?_
  refine X_iconst (v := (0 : Int32)) rfl rfl rfl ?_
  refine X_istore_n (i := 3) (ls' := [some (.ref 355), some (.int x1), some (.int (0 : Int32)), some (.int (0 : Int32))]) rfl rfl rfl (Nat.le_of_ble_eq_true rfl) rfl ?_
  exact (C_X13_usesOf_all (((24 - 0) * 1 + 0) + 1 : Int).toNat) V x1 y1 hx1 (by omega) (0 : Int32) 0 (show (0 : Int32).toInt = 0 from rfl) (0 : Int32) 0 (show (0 : Int32).toInt = 0 from rfl) (by omega)    (by omega)
set_option maxRecDepth 10000 in
set_option maxHeartbeats 40000000 in
theorem C_X13_isVowel {P : Par} {g : LH} {d : Nat}  (V : InvR P g) (x0 : Int32) (y0 : Int) (hx0 : x0.toInt = y0) (hf0 : 0 ≤ y0 ∧ y0 ≤ 25)   : LW 243 (d + 3) 0 0 0 (lEnt (mL 243) [.int x0]) [] g (fun v g' => ∃ r : Int32, v = some (.int r) ∧ 0 ≤ r.toInt ∧ r.toInt ≤ 1 ∧ g = g') := by
  refine LW_ls (ls' := [some (.int x0)]) rfl ?_
  refine X_iload_n rfl rfl rfl rfl ?_
  refine S_if_eq (tgt := 27) rfl rfl rfl hx0 (fun vh1 => ?_) (fun vh1 => ?_)
  · refine X_iconst (v := (1 : Int32)) rfl rfl rfl ?_
    refine LW_goto (tgt := 32) rfl rfl ?_
    exact LW_ireturn (st := []) rfl rfl rfl ⟨_, rfl, by decide, by decide, rfl⟩
  · refine X_iload_n rfl rfl rfl rfl ?_
    refine X_iconst (v := (4 : Int32)) rfl rfl rfl ?_
    refine S_icmp_eq (tgt := 27) rfl rfl rfl hx0 (show (4 : Int32).toInt = 4 from rfl) (fun vh2 => ?_) (fun vh2 => ?_)
    · refine X_iconst (v := (1 : Int32)) rfl rfl rfl ?_
      refine LW_goto (tgt := 32) rfl rfl ?_
      exact LW_ireturn (st := []) rfl rfl rfl ⟨_, rfl, by decide, by decide, rfl⟩
    · refine X_iload_n rfl rfl rfl rfl ?_
      refine X_bipush (v := (8 : Int32)) rfl rfl rfl ?_
      refine S_icmp_eq (tgt := 27) rfl rfl rfl hx0 (show (8 : Int32).toInt = 8 from rfl) (fun vh3 => ?_) (fun vh3 => ?_)
      · refine X_iconst (v := (1 : Int32)) rfl rfl rfl ?_
        refine LW_goto (tgt := 32) rfl rfl ?_
        exact LW_ireturn (st := []) rfl rfl rfl ⟨_, rfl, by decide, by decide, rfl⟩
      · refine X_iload_n rfl rfl rfl rfl ?_
        refine X_bipush (v := (14 : Int32)) rfl rfl rfl ?_
        refine S_icmp_eq (tgt := 27) rfl rfl rfl hx0 (show (14 : Int32).toInt = 14 from rfl) (fun vh4 => ?_) (fun vh4 => ?_)
        · refine X_iconst (v := (1 : Int32)) rfl rfl rfl ?_
          refine LW_goto (tgt := 32) rfl rfl ?_
          exact LW_ireturn (st := []) rfl rfl rfl ⟨_, rfl, by decide, by decide, rfl⟩
        · refine X_iload_n rfl rfl rfl rfl ?_
          refine X_bipush (v := (20 : Int32)) rfl rfl rfl ?_
          refine S_icmp_ne (tgt := 31) rfl rfl rfl hx0 (show (20 : Int32).toInt = 20 from rfl) (fun vh5 => ?_) (fun vh5 => ?_)
          · refine X_iconst (v := (0 : Int32)) rfl rfl rfl ?_
            exact LW_ireturn (st := []) rfl rfl rfl ⟨_, rfl, by decide, by decide, rfl⟩
          · refine X_iconst (v := (1 : Int32)) rfl rfl rfl ?_
            refine LW_goto (tgt := 32) rfl rfl ?_
            exact LW_ireturn (st := []) rfl rfl rfl ⟨_, rfl, by decide, by decide, rfl⟩
set_option maxRecDepth 10000 in
set_option maxHeartbeats 40000000 in
theorem C_X13_call_12 {P : Par} {g g0 : LH} {d n : Nat}  (V : InvR P g) (hG : Gr g = Gr g0) (x1 : Int32) (y1 : Int) (hx1 : x1.toInt = y1) (x2 : Int32) (y2 : Int) (hx2 : x2.toInt = y2) (hf2 : 0 ≤ y2 ∧ y2 ≤ 26)  (hmu : (26 - y2) * 1 + 0 < (n : Int) + 1) (ih12 : ∀ (g : LH) (V : InvR P g) (hG : Gr g = Gr g0) (x1 : Int32) (y1 : Int) (hx1 : x1.toInt = y1) (x2 : Int32) (y2 : Int) (hx2 : x2.toInt = y2) (hf2 : 0 ≤ y2 ∧ y2 ≤ 26) , (26 - y2) * 1 + 0 < (n : Int) → LW 250 (d + 8) 0 0 12 [some (.ref 355), some (.int x1), some (.int x2)] [] g (fun v g' => ∃ r : Int32, v = some (.int r) ∧ (-1) ≤ r.toInt ∧ r.toInt ≤ 26 ∧ InvR P g' ∧ Gr g' = Gr g0)) : LW 250 (d + 8) 0 0 12 [some (.ref 355), some (.int x1), some (.int x2)] [] g (fun v g' => ∃ r : Int32, v = some (.int r) ∧ (-1) ≤ r.toInt ∧ r.toInt ≤ 26 ∧ InvR P g' ∧ Gr g' = Gr g0) := by
  refine X_iload_n rfl rfl rfl rfl ?_
  refine X_bipush (v := (26 : Int32)) rfl rfl rfl ?_
  refine S_icmp_ge (tgt := 42) rfl rfl rfl hx2 (show (26 : Int32).toInt = 26 from rfl) (fun vh1 => ?_) (fun vh1 => ?_)
  · refine X_aload_n rfl rfl rfl rfl ?_
    refine X_getR (a := 356) rfl rfl rfl ((congrFun V.1 355).trans s_355) rfl ((congrFun (V.2.1 355 (by decide)) 0).trans r_355_0) ?_
    refine X_bipush (v := (7 : Int32)) rfl rfl rfl ?_
    refine X_dup2 rfl rfl rfl rfl ?_
    refine S_iald rfl rfl ((congrFun V.1 356).trans s_356) (show (7 : Int32).toInt = 7 from rfl) (by omega) (fun vz2 evz2 => ?_)
    have evz2 : Gi g 356 7 = vz2 := evz2
    refine X_iload_n rfl rfl rfl rfl ?_
    refine S_ixorT rfl rfl (fun vz3 => ?_)
    refine S_iast (I := InvR _) rfl rfl ((congrFun V.1 356).trans s_356) (show (7 : Int32).toInt = 7 from rfl) (by omega) (InvR_putA V (by omega) (B_FREE (by omega))) (fun g V ve4 vn5 hq => ?_)
    have hG := hq.trans hG
    have ve4 : Gi g 356 7 = vz3 := ve4
    refine X_iload_n rfl rfl rfl rfl ?_
    refine Y_callS (as := [.int x1]) (st := []) rfl rfl rfl (by decide) rfl (Nat.le_of_ble_eq_true rfl) (by decide) (Nat.le_of_ble_eq_true rfl) rfl (C_X13_bits V x1 y1 hx1 ) ?_
    rintro _ g' ⟨vr6, rfl, hrvr60, hrvr61, hgg⟩
    subst hgg
    have hr := (rfl : vr6.toInt = vr6.toInt)
    exact LW_ireturn (st := []) rfl rfl rfl ⟨_, rfl, by omega, by omega, V, hG⟩
  · refine X_iload_n rfl rfl rfl rfl ?_
    refine X_iload_n rfl rfl rfl rfl ?_
    refine X_callS (as := [.int x1, .int x2]) (st := []) rfl rfl rfl (by decide) rfl (Nat.le_of_ble_eq_true rfl) (by decide) (Nat.le_of_ble_eq_true rfl) rfl ?_
    refine LW_ls (ls' := [some (.int x1), some (.int x2)]) rfl ?_
    refine X_iload_n rfl rfl rfl rfl ?_
    refine X_iload_n rfl rfl rfl rfl ?_
    refine S_ishrT rfl rfl (fun vz7 => ?_)
    refine X_iconst (v := (1 : Int32)) rfl rfl rfl ?_
    refine S_iandR (k := 1) rfl rfl rfl (fun vz8 hvz8 => ?_)
    refine X_iconst (v := (1 : Int32)) rfl rfl rfl ?_
    refine S_icmp_ne (tgt := 13) rfl rfl rfl rfl (show (1 : Int32).toInt = 1 from rfl) (fun vh9 => ?_) (fun vh9 => ?_)
    · refine X_iconst (v := (0 : Int32)) rfl rfl rfl ?_
      refine LW_ireturn (st := []) rfl rfl rfl ?_
      refine S_if_eq (tgt := 36) rfl rfl rfl (show (0 : Int32).toInt = 0 from rfl) (fun vh10 => ?_) (fun q => absurd q (by omega))
      refine S_iinc (c := 1) rfl rfl rfl hx2 rfl (by omega) (fun vz11 hvz11 => ?_)
      refine LW_ls (ls' := [some (.ref 355), some (.int x1), some (.int vz11)]) rfl ?_
      refine LW_goto (tgt := 12) rfl rfl ?_
      exact ih12 _ V hG x1 y1 hx1 vz11 vz11.toInt rfl (by omega)    (by omega)
    · refine X_iconst (v := (1 : Int32)) rfl rfl rfl ?_
      refine LW_goto (tgt := 14) rfl rfl ?_
      refine LW_ireturn (st := []) rfl rfl rfl ?_
      refine S_if_eq (tgt := 36) rfl rfl rfl (show (1 : Int32).toInt = 1 from rfl) (fun q => absurd q (by omega)) (fun vh12 => ?_)
      refine X_aload_n rfl rfl rfl rfl ?_
      refine X_getR (a := 356) rfl rfl rfl ((congrFun V.1 355).trans s_355) rfl ((congrFun (V.2.1 355 (by decide)) 0).trans r_355_0) ?_
      refine X_bipush (v := (38 : Int32)) rfl rfl rfl ?_
      refine X_iload_n rfl rfl rfl rfl ?_
      refine S_iadd rfl rfl (show (38 : Int32).toInt = 38 from rfl) hx2 (by omega) (fun vz13 hvz13 => ?_)
      refine X_iconst (v := (0 : Int32)) rfl rfl rfl ?_
      refine S_iast (I := InvR _) rfl rfl ((congrFun V.1 356).trans s_356) rfl (by omega) (InvR_putA V (by omega) (B_FREE (by omega))) (fun g V ve14 vn15 hq => ?_)
      have hG := hq.trans hG
      refine S_iinc (c := 1) rfl rfl rfl hx2 rfl (by omega) (fun vz16 hvz16 => ?_)
      refine LW_ls (ls' := [some (.ref 355), some (.int x1), some (.int vz16)]) rfl ?_
      refine LW_goto (tgt := 12) rfl rfl ?_
      exact ih12 _ V hG x1 y1 hx1 vz16 vz16.toInt rfl (by omega)    (by omega)
theorem C_X13_call_all {P : Par} {g0 : LH} {d : Nat}  : ∀ n : Nat, (∀ (g : LH) (V : InvR P g) (hG : Gr g = Gr g0) (x1 : Int32) (y1 : Int) (hx1 : x1.toInt = y1) (x2 : Int32) (y2 : Int) (hx2 : x2.toInt = y2) (hf2 : 0 ≤ y2 ∧ y2 ≤ 26) , (26 - y2) * 1 + 0 < (n : Int) → LW 250 (d + 8) 0 0 12 [some (.ref 355), some (.int x1), some (.int x2)] [] g (fun v g' => ∃ r : Int32, v = some (.int r) ∧ (-1) ≤ r.toInt ∧ r.toInt ≤ 26 ∧ InvR P g' ∧ Gr g' = Gr g0)) := by
  intro n
  induction n with
  | zero => exact fun g V hG x1 y1 hx1 x2 y2 hx2 hf2 hmu => absurd hmu (by omega)
  | succ n ih => exact fun g V hG x1 y1 hx1 x2 y2 hx2 hf2 hmu => C_X13_call_12  V hG x1 y1 hx1 x2 y2 hx2 hf2 (by omega) ih
set_option maxRecDepth 10000 in
set_option maxHeartbeats 40000000 in
theorem C_X13_call {P : Par} {g : LH} {d : Nat}  (V : InvR P g) (x1 : Int32) (y1 : Int) (hx1 : x1.toInt = y1)   : LW 250 (d + 8) 0 0 0 (lEnt (mL 250) [.ref 355, .int x1]) [] g (fun v g' => ∃ r : Int32, v = some (.int r) ∧ (-1) ≤ r.toInt ∧ r.toInt ≤ 26 ∧ InvR P g' ∧ Gr g' = Gr g) := by
  refine LW_ls (ls' := [some (.ref 355), some (.int x1), none]) rfl ?_
  have hG : Gr g = Gr g := rfl
  refine X_iload_n rfl rfl rfl rfl ?_
  refine S_if_ne (tgt := 6) rfl rfl rfl hx1 (fun vh1 => ?_) (fun vh1 => ?_)
  · refine X_aload_n rfl rfl rfl rfl ?_
    refine Y_callV (as := []) (st := []) rfl rfl rfl (by decide) rfl (Nat.le_of_ble_eq_true rfl) (by decide) (Nat.le_of_ble_eq_true rfl) rfl ((congrFun V.1 355).trans s_355) (by decide) (C_X13_keep V  ) ?_
    rintro _ g ⟨rfl, V, hq, chF⟩
    have hG := hq.trans hG
    refine X_iconst (v := (0 : Int32)) rfl rfl rfl ?_
    refine X_istore_n (i := 2) (ls' := [some (.ref 355), some (.int x1), some (.int (0 : Int32))]) rfl rfl rfl (Nat.le_of_ble_eq_true rfl) rfl ?_
    exact (C_X13_call_all (((26 - 0) * 1 + 0) + 1 : Int).toNat) _ V hG x1 y1 hx1 (0 : Int32) 0 (show (0 : Int32).toInt = 0 from rfl) (by omega)    (by omega)
  · refine X_iconst (v := (-1 : Int32)) rfl rfl rfl ?_
    exact LW_ireturn (st := []) rfl rfl rfl ⟨_, rfl, by decide, by decide, V, hG⟩
