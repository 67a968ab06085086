/-! the class's methods: each returns and keeps what every state keeps -/
set_option maxRecDepth 10000 in
set_option maxHeartbeats 40000000 in
theorem C_X1_dawn_22 {P : Par} {g g0 : LH} {d n : Nat}  (V : Inv P g) (hG : Gr g = Gr g0) (x1 : Int32) (y1 : Int) (hx1 : x1.toInt = y1) (hf1 : 0 ≤ y1 ∧ y1 ≤ 1) (x2 : Int32) (y2 : Int) (hx2 : x2.toInt = y2) (x3 : Int32) (y3 : Int) (hx3 : x3.toInt = y3) (hf3 : 0 ≤ y3 ∧ y3 ≤ 26)  (hmu : (26 - y3) * 1 + 28 < (n : Int) + 1) (ih22 : ∀ (g : LH) (V : Inv P g) (hG : Gr g = Gr g0) (x1 : Int32) (y1 : Int) (hx1 : x1.toInt = y1) (hf1 : 0 ≤ y1 ∧ y1 ≤ 1) (x2 : Int32) (y2 : Int) (hx2 : x2.toInt = y2) (x3 : Int32) (y3 : Int) (hx3 : x3.toInt = y3) (hf3 : 0 ≤ y3 ∧ y3 ≤ 26) , (26 - y3) * 1 + 28 < (n : Int) → LW 5 (d + 16) 0 0 22 [some (.ref 342), some (.int x1), some (.int x2), some (.int x3)] [] g (fun v g' => v = none ∧ Inv P g' ∧ Gr g' = Gr g0)) (ih57 : ∀ (g : LH) (V : Inv P g) (hG : Gr g = Gr g0) (x1 : Int32) (y1 : Int) (hx1 : x1.toInt = y1) (hf1 : 0 ≤ y1 ∧ y1 ≤ 1) (x2 : Int32) (y2 : Int) (hx2 : x2.toInt = y2) (x3 : Int32) (y3 : Int) (hx3 : x3.toInt = y3) (hf3 : 0 ≤ y3 ∧ y3 ≤ 26) , (26 - y3) * 1 + 0 < (n : Int) → LW 5 (d + 16) 0 0 57 [some (.ref 342), some (.int x1), some (.int x2), some (.int x3)] [] g (fun v g' => v = none ∧ Inv P g' ∧ Gr g' = Gr g0)) : LW 5 (d + 16) 0 0 22 [some (.ref 342), some (.int x1), some (.int x2), some (.int x3)] [] g (fun v g' => v = none ∧ Inv P g' ∧ Gr g' = Gr g0) := by
  refine X_iload_n rfl rfl rfl rfl ?_
  refine X_bipush (v := (26 : Int32)) rfl rfl rfl ?_
  refine S_icmp_ge (tgt := 55) rfl rfl rfl hx3 (show (26 : Int32).toInt = 26 from rfl) (fun vh1 => ?_) (fun vh1 => ?_)
  · refine X_iconst (v := (0 : Int32)) rfl rfl rfl ?_
    refine X_istore_n (i := 3) (ls' := [some (.ref 342), some (.int x1), some (.int x2), some (.int (0 : Int32))]) rfl rfl rfl (Nat.le_of_ble_eq_true rfl) rfl ?_
    exact ih57 _ V hG x1 y1 hx1 (by omega) x2 y2 hx2 (0 : Int32) 0 (show (0 : Int32).toInt = 0 from rfl) (by omega)    (by omega)
  · refine X_iload_n rfl rfl rfl rfl ?_
    refine X_aload_n rfl rfl rfl rfl ?_
    refine X_getR (a := 339) rfl rfl rfl ((congrFun V.1 342).trans s_342) rfl ((congrFun (V.2.1 342 (by decide)) 2).trans r_342_2) ?_
    refine X_iload_n rfl rfl rfl rfl ?_
    refine Y_callV (as := [.int x3]) (st := [.int x2]) rfl rfl rfl (by decide) rfl (Nat.le_of_ble_eq_true rfl) (by decide) (Nat.le_of_ble_eq_true rfl) rfl ((congrFun V.1 339).trans s_339) (by decide) (C_X4_moves V x3 y3 hx3 (by omega) ) ?_
    rintro _ g ⟨vr2, rfl, hrvr20, hrvr21, V, hq⟩
    have hG := hq.trans hG
    refine S_if_eq (tgt := 46) rfl rfl rfl rfl (fun vh3 => ?_) (fun vh3 => ?_)
    · refine X_iconst (v := (0 : Int32)) rfl rfl rfl ?_
      refine S_iorT rfl rfl (fun vz4 => ?_)
      refine X_istore_n (i := 2) (ls' := [some (.ref 342), some (.int x1), some (.int vz4), some (.int x3)]) rfl rfl rfl (Nat.le_of_ble_eq_true rfl) rfl ?_
      refine S_iinc (c := 1) rfl rfl rfl hx3 rfl (by omega) (fun vz5 hvz5 => ?_)
      refine LW_ls (ls' := [some (.ref 342), some (.int x1), some (.int vz4), some (.int vz5)]) rfl ?_
      refine LW_goto (tgt := 22) rfl rfl ?_
      exact ih22 _ V hG x1 y1 hx1 (by omega) vz4 vz4.toInt rfl vz5 vz5.toInt rfl (by omega)    (by omega)
    · refine X_iconst (v := (1 : Int32)) rfl rfl rfl ?_
      refine X_iload_n rfl rfl rfl rfl ?_
      refine S_ishlT rfl rfl (fun vz6 => ?_)
      refine LW_goto (tgt := 47) rfl rfl ?_
      refine S_iorT rfl rfl (fun vz7 => ?_)
      refine X_istore_n (i := 2) (ls' := [some (.ref 342), some (.int x1), some (.int vz7), some (.int x3)]) rfl rfl rfl (Nat.le_of_ble_eq_true rfl) rfl ?_
      refine S_iinc (c := 1) rfl rfl rfl hx3 rfl (by omega) (fun vz8 hvz8 => ?_)
      refine LW_ls (ls' := [some (.ref 342), some (.int x1), some (.int vz7), some (.int vz8)]) rfl ?_
      refine LW_goto (tgt := 22) rfl rfl ?_
      exact ih22 _ V hG x1 y1 hx1 (by omega) vz7 vz7.toInt rfl vz8 vz8.toInt rfl (by omega)    (by omega)
set_option maxRecDepth 10000 in
set_option maxHeartbeats 40000000 in
theorem C_X1_dawn_57 {P : Par} {g g0 : LH} {d n : Nat}  (V : Inv P g) (hG : Gr g = Gr g0) (x1 : Int32) (y1 : Int) (hx1 : x1.toInt = y1) (hf1 : 0 ≤ y1 ∧ y1 ≤ 1) (x2 : Int32) (y2 : Int) (hx2 : x2.toInt = y2) (x3 : Int32) (y3 : Int) (hx3 : x3.toInt = y3) (hf3 : 0 ≤ y3 ∧ y3 ≤ 26)  (hmu : (26 - y3) * 1 + 0 < (n : Int) + 1) (ih22 : ∀ (g : LH) (V : Inv P g) (hG : Gr g = Gr g0) (x1 : Int32) (y1 : Int) (hx1 : x1.toInt = y1) (hf1 : 0 ≤ y1 ∧ y1 ≤ 1) (x2 : Int32) (y2 : Int) (hx2 : x2.toInt = y2) (x3 : Int32) (y3 : Int) (hx3 : x3.toInt = y3) (hf3 : 0 ≤ y3 ∧ y3 ≤ 26) , (26 - y3) * 1 + 28 < (n : Int) → LW 5 (d + 16) 0 0 22 [some (.ref 342), some (.int x1), some (.int x2), some (.int x3)] [] g (fun v g' => v = none ∧ Inv P g' ∧ Gr g' = Gr g0)) (ih57 : ∀ (g : LH) (V : Inv P g) (hG : Gr g = Gr g0) (x1 : Int32) (y1 : Int) (hx1 : x1.toInt = y1) (hf1 : 0 ≤ y1 ∧ y1 ≤ 1) (x2 : Int32) (y2 : Int) (hx2 : x2.toInt = y2) (x3 : Int32) (y3 : Int) (hx3 : x3.toInt = y3) (hf3 : 0 ≤ y3 ∧ y3 ≤ 26) , (26 - y3) * 1 + 0 < (n : Int) → LW 5 (d + 16) 0 0 57 [some (.ref 342), some (.int x1), some (.int x2), some (.int x3)] [] g (fun v g' => v = none ∧ Inv P g' ∧ Gr g' = Gr g0)) : LW 5 (d + 16) 0 0 57 [some (.ref 342), some (.int x1), some (.int x2), some (.int x3)] [] g (fun v g' => v = none ∧ Inv P g' ∧ Gr g' = Gr g0) := by
  refine X_iload_n rfl rfl rfl rfl ?_
  refine X_bipush (v := (26 : Int32)) rfl rfl rfl ?_
  refine S_icmp_ge (tgt := 95) rfl rfl rfl hx3 (show (26 : Int32).toInt = 26 from rfl) (fun vh1 => ?_) (fun vh1 => ?_)
  · refine X_aload_n rfl rfl rfl rfl ?_
    refine X_getR (a := 10) rfl rfl rfl ((congrFun V.1 342).trans s_342) rfl ((congrFun (V.2.1 342 (by decide)) 1).trans r_342_1) ?_
    refine X_iload_n rfl rfl rfl rfl ?_
    refine Y_callV (as := [.int x2]) (st := []) rfl rfl rfl (by decide) rfl (Nat.le_of_ble_eq_true rfl) (by decide) (Nat.le_of_ble_eq_true rfl) rfl ((congrFun V.1 10).trans s_10) (by decide) (C_X9_move V x2 y2 hx2 ) ?_
    rintro _ g ⟨rfl, V, hq⟩
    have hG := hq.trans hG
    refine X_aload_n rfl rfl rfl rfl ?_
    refine X_getR (a := 10) rfl rfl rfl ((congrFun V.1 342).trans s_342) rfl ((congrFun (V.2.1 342 (by decide)) 1).trans r_342_1) ?_
    refine X_dup rfl rfl rfl ?_
    refine S_getI rfl rfl rfl ((congrFun V.1 10).trans s_10) rfl (fun vz3 evz3 => ?_)
    have vf4 := K_11_1 (V.2.2.2.2.1 (10) (1) (Nat.le_of_ble_eq_true rfl)) rk_10
    rw [evz3] at vf4
    refine X_iconst (v := (1 : Int32)) rfl rfl rfl ?_
    refine S_iadd rfl rfl rfl (show (1 : Int32).toInt = 1 from rfl) (by omega) (fun vz5 hvz5 => ?_)
    refine S_putI (I := Inv _) rfl rfl rfl ((congrFun V.1 10).trans s_10) rfl rfl rfl rfl (Inv_putI V (Nat.le_of_ble_eq_true rfl) (Or.inl (by decide)) (Q_11_1 rk_10 (by omega))) (fun g V ve6 vn7 hq => ?_)
    have hG := hq.trans hG
    exact LW_return (st := []) rfl rfl ⟨rfl, V, hG⟩
  · refine X_aload_n rfl rfl rfl rfl ?_
    refine X_getR (a := 10) rfl rfl rfl ((congrFun V.1 342).trans s_342) rfl ((congrFun (V.2.1 342 (by decide)) 1).trans r_342_1) ?_
    refine X_getR (a := 12) rfl rfl rfl ((congrFun V.1 10).trans s_10) rfl ((congrFun (V.2.1 10 (by decide)) 5).trans r_10_5) ?_
    refine X_iload_n rfl rfl rfl rfl ?_
    refine X_sipush (v := (999 : Int32)) rfl rfl rfl ?_
    refine X_aload_n rfl rfl rfl rfl ?_
    refine X_getR (a := 10) rfl rfl rfl ((congrFun V.1 342).trans s_342) rfl ((congrFun (V.2.1 342 (by decide)) 1).trans r_342_1) ?_
    refine X_getR (a := 12) rfl rfl rfl ((congrFun V.1 10).trans s_10) rfl ((congrFun (V.2.1 10 (by decide)) 5).trans r_10_5) ?_
    refine X_iload_n rfl rfl rfl rfl ?_
    refine S_iald rfl rfl ((congrFun V.1 12).trans s_12) hx3 (by omega) (fun vz8 evz8 => ?_)
    refine X_iconst (v := (1 : Int32)) rfl rfl rfl ?_
    refine S_iaddT rfl rfl (fun vz9 => ?_)
    refine S_min rfl rfl rfl (Nat.le_of_ble_eq_true rfl) (show (999 : Int32).toInt = 999 from rfl) rfl (fun vz10 hvz10 => ?_)
    refine S_iast (I := Inv _) rfl rfl ((congrFun V.1 12).trans s_12) hx3 (by omega) (Inv_putI V (Nat.le_of_ble_eq_true rfl) (Or.inl (by decide)) (Q_0 rk_12)) (fun g V ve11 vn12 hq => ?_)
    have hG := hq.trans hG
    refine S_iinc (c := 1) rfl rfl rfl hx3 rfl (by omega) (fun vz13 hvz13 => ?_)
    refine LW_ls (ls' := [some (.ref 342), some (.int x1), some (.int x2), some (.int vz13)]) rfl ?_
    refine LW_goto (tgt := 57) rfl rfl ?_
    exact ih57 _ V hG x1 y1 hx1 (by omega) x2 y2 hx2 vz13 vz13.toInt rfl (by omega)    (by omega)
theorem C_X1_dawn_all {P : Par} {g0 : LH} {d : Nat}  : ∀ n : Nat, (∀ (g : LH) (V : Inv P g) (hG : Gr g = Gr g0) (x1 : Int32) (y1 : Int) (hx1 : x1.toInt = y1) (hf1 : 0 ≤ y1 ∧ y1 ≤ 1) (x2 : Int32) (y2 : Int) (hx2 : x2.toInt = y2) (x3 : Int32) (y3 : Int) (hx3 : x3.toInt = y3) (hf3 : 0 ≤ y3 ∧ y3 ≤ 26) , (26 - y3) * 1 + 28 < (n : Int) → LW 5 (d + 16) 0 0 22 [some (.ref 342), some (.int x1), some (.int x2), some (.int x3)] [] g (fun v g' => v = none ∧ Inv P g' ∧ Gr g' = Gr g0)) ∧ (∀ (g : LH) (V : Inv P g) (hG : Gr g = Gr g0) (x1 : Int32) (y1 : Int) (hx1 : x1.toInt = y1) (hf1 : 0 ≤ y1 ∧ y1 ≤ 1) (x2 : Int32) (y2 : Int) (hx2 : x2.toInt = y2) (x3 : Int32) (y3 : Int) (hx3 : x3.toInt = y3) (hf3 : 0 ≤ y3 ∧ y3 ≤ 26) , (26 - y3) * 1 + 0 < (n : Int) → LW 5 (d + 16) 0 0 57 [some (.ref 342), some (.int x1), some (.int x2), some (.int x3)] [] g (fun v g' => v = none ∧ Inv P g' ∧ Gr g' = Gr g0)) := by
  intro n
  induction n with
  | zero => exact ⟨fun g V hG x1 y1 hx1 hf1 x2 y2 hx2 x3 y3 hx3 hf3 hmu => absurd hmu (by omega), fun g V hG x1 y1 hx1 hf1 x2 y2 hx2 x3 y3 hx3 hf3 hmu => absurd hmu (by omega)⟩
  | succ n ih => exact ⟨fun g V hG x1 y1 hx1 hf1 x2 y2 hx2 x3 y3 hx3 hf3 hmu => C_X1_dawn_22  V hG x1 y1 hx1 hf1 x2 y2 hx2 x3 y3 hx3 hf3 (by omega) ih.1 ih.2, fun g V hG x1 y1 hx1 hf1 x2 y2 hx2 x3 y3 hx3 hf3 hmu => C_X1_dawn_57  V hG x1 y1 hx1 hf1 x2 y2 hx2 x3 y3 hx3 hf3 (by omega) ih.1 ih.2⟩
set_option maxRecDepth 10000 in
set_option maxHeartbeats 40000000 in
theorem C_X1_dawn {P : Par} {g : LH} {d : Nat}  (V : Inv P g) (x1 : Int32) (y1 : Int) (hx1 : x1.toInt = y1) (hf1 : 0 ≤ y1 ∧ y1 ≤ 1)   : LW 5 (d + 16) 0 0 0 (lEnt (mL 5) [.ref 342, .int x1]) [] g (fun v g' => v = none ∧ Inv P g' ∧ Gr g' = Gr g) := by
  refine LW_ls (ls' := [some (.ref 342), some (.int x1), none, none]) rfl ?_
  have hG : Gr g = Gr g := rfl
  refine X_iload_n rfl rfl rfl rfl ?_
  refine S_if_eq (tgt := 18) rfl rfl rfl hx1 (fun vh1 => ?_) (fun vh1 => ?_)
  · refine X_iconst (v := (0 : Int32)) rfl rfl rfl ?_
    refine X_istore_n (i := 2) (ls' := [some (.ref 342), some (.int x1), some (.int (0 : Int32)), none]) rfl rfl rfl (Nat.le_of_ble_eq_true rfl) rfl ?_
    refine X_iconst (v := (0 : Int32)) rfl rfl rfl ?_
    refine X_istore_n (i := 3) (ls' := [some (.ref 342), some (.int x1), some (.int (0 : Int32)), some (.int (0 : Int32))]) rfl rfl rfl (Nat.le_of_ble_eq_true rfl) rfl ?_
    exact (C_X1_dawn_all (((26 - 0) * 1 + 28) + 1 : Int).toNat).1 _ V hG x1 y1 hx1 (by omega) (0 : Int32) 0 (show (0 : Int32).toInt = 0 from rfl) (0 : Int32) 0 (show (0 : Int32).toInt = 0 from rfl) (by omega)    (by omega)
  · refine X_aload_n rfl rfl rfl rfl ?_
    refine X_getR (a := 1) rfl rfl rfl ((congrFun V.1 342).trans s_342) rfl ((congrFun (V.2.1 342 (by decide)) 0).trans r_342_0) ?_
    refine X_getR (a := 14) rfl rfl rfl ((congrFun V.1 1).trans s_1) rfl ((congrFun (V.2.1 1 (by decide)) 2).trans r_1_2) ?_
    refine X_aload_n rfl rfl rfl rfl ?_
    refine X_getR (a := 10) rfl rfl rfl ((congrFun V.1 342).trans s_342) rfl ((congrFun (V.2.1 342 (by decide)) 1).trans r_342_1) ?_
    refine Y_callV (as := [.ref 10]) (st := []) rfl rfl rfl (by decide) rfl (Nat.le_of_ble_eq_true rfl) (by decide) (Nat.le_of_ble_eq_true rfl) rfl ((congrFun V.1 14).trans s_14) (by decide) (C_X3_keep_14_10 V  ) ?_
    rintro _ g ⟨rfl, V, hq⟩
    have hG := hq.trans hG
    refine X_iconst (v := (0 : Int32)) rfl rfl rfl ?_
    refine X_istore_n (i := 2) (ls' := [some (.ref 342), some (.int x1), some (.int (0 : Int32)), none]) rfl rfl rfl (Nat.le_of_ble_eq_true rfl) rfl ?_
    refine X_iconst (v := (0 : Int32)) rfl rfl rfl ?_
    refine X_istore_n (i := 3) (ls' := [some (.ref 342), some (.int x1), some (.int (0 : Int32)), some (.int (0 : Int32))]) rfl rfl rfl (Nat.le_of_ble_eq_true rfl) rfl ?_
    exact (C_X1_dawn_all (((26 - 0) * 1 + 28) + 1 : Int).toNat).1 _ V hG x1 y1 hx1 (by omega) (0 : Int32) 0 (show (0 : Int32).toInt = 0 from rfl) (0 : Int32) 0 (show (0 : Int32).toInt = 0 from rfl) (by omega)    (by omega)
set_option maxRecDepth 10000 in
set_option maxHeartbeats 40000000 in
theorem C_X1_passMornings_18 {P : Par} {g g0 : LH} {d n : Nat}  (V : Inv P g) (hG : Gr g = Gr g0) (x1 : Int32) (y1 : Int) (hx1 : x1.toInt = y1) (x2 : Int32) (y2 : Int) (hx2 : x2.toInt = y2) (hf2 : y2 ≤ 999) (x3 : Int32) (y3 : Int) (hx3 : x3.toInt = y3) (hf3 : 0 ≤ y3 ∧ y3 ≤ 999)  (hmu : (999 - y3) * 1 + 0 < (n : Int) + 1) (ih18 : ∀ (g : LH) (V : Inv P g) (hG : Gr g = Gr g0) (x1 : Int32) (y1 : Int) (hx1 : x1.toInt = y1) (x2 : Int32) (y2 : Int) (hx2 : x2.toInt = y2) (hf2 : y2 ≤ 999) (x3 : Int32) (y3 : Int) (hx3 : x3.toInt = y3) (hf3 : 0 ≤ y3 ∧ y3 ≤ 999) , (999 - y3) * 1 + 0 < (n : Int) → LW 4 (d + 20) 0 0 18 [some (.ref 342), some (.int x1), some (.int x2), some (.int x3)] [] g (fun v g' => ∃ r : Int32, v = some (.int r) ∧ r.toInt ≤ 999 ∧ Inv P g' ∧ Gr g' = Gr g0)) : LW 4 (d + 20) 0 0 18 [some (.ref 342), some (.int x1), some (.int x2), some (.int x3)] [] g (fun v g' => ∃ r : Int32, v = some (.int r) ∧ r.toInt ≤ 999 ∧ Inv P g' ∧ Gr g' = Gr g0) := by
  refine X_iload_n rfl rfl rfl rfl ?_
  refine X_iload_n rfl rfl rfl rfl ?_
  refine S_icmp_ge (tgt := 34) rfl rfl rfl hx3 hx2 (fun vh1 => ?_) (fun vh1 => ?_)
  · refine X_iload_n rfl rfl rfl rfl ?_
    have hr := hx2
    exact LW_ireturn (st := []) rfl rfl rfl ⟨_, rfl, by omega, V, hG⟩
  · refine X_aload_n rfl rfl rfl rfl ?_
    refine X_iconst (v := (1 : Int32)) rfl rfl rfl ?_
    refine Y_callV (as := [.int (1 : Int32)]) (st := []) rfl rfl rfl (by decide) rfl (Nat.le_of_ble_eq_true rfl) (by decide) (Nat.le_of_ble_eq_true rfl) rfl ((congrFun V.1 342).trans s_342) (by decide) (C_X1_dawn V (1 : Int32) 1 (show (1 : Int32).toInt = 1 from rfl) (by omega) ) ?_
    rintro _ g ⟨rfl, V, hq⟩
    have hG := hq.trans hG
    refine S_iinc (c := 1) rfl rfl rfl hx3 rfl (by omega) (fun vz3 hvz3 => ?_)
    refine LW_ls (ls' := [some (.ref 342), some (.int x1), some (.int x2), some (.int vz3)]) rfl ?_
    refine LW_goto (tgt := 18) rfl rfl ?_
    exact ih18 _ V hG x1 y1 hx1 x2 y2 hx2 (by omega) vz3 vz3.toInt rfl (by omega)    (by omega)
theorem C_X1_passMornings_all {P : Par} {g0 : LH} {d : Nat}  : ∀ n : Nat, (∀ (g : LH) (V : Inv P g) (hG : Gr g = Gr g0) (x1 : Int32) (y1 : Int) (hx1 : x1.toInt = y1) (x2 : Int32) (y2 : Int) (hx2 : x2.toInt = y2) (hf2 : y2 ≤ 999) (x3 : Int32) (y3 : Int) (hx3 : x3.toInt = y3) (hf3 : 0 ≤ y3 ∧ y3 ≤ 999) , (999 - y3) * 1 + 0 < (n : Int) → LW 4 (d + 20) 0 0 18 [some (.ref 342), some (.int x1), some (.int x2), some (.int x3)] [] g (fun v g' => ∃ r : Int32, v = some (.int r) ∧ r.toInt ≤ 999 ∧ Inv P g' ∧ Gr g' = Gr g0)) := by
  intro n
  induction n with
  | zero => exact fun g V hG x1 y1 hx1 x2 y2 hx2 hf2 x3 y3 hx3 hf3 hmu => absurd hmu (by omega)
  | succ n ih => exact fun g V hG x1 y1 hx1 x2 y2 hx2 hf2 x3 y3 hx3 hf3 hmu => C_X1_passMornings_18  V hG x1 y1 hx1 x2 y2 hx2 hf2 x3 y3 hx3 hf3 (by omega) ih
set_option maxRecDepth 10000 in
set_option maxHeartbeats 40000000 in
theorem C_X1_passMornings {P : Par} {g : LH} {d : Nat}  (V : Inv P g) (x1 : Int32) (y1 : Int) (hx1 : x1.toInt = y1)   : LW 4 (d + 20) 0 0 0 (lEnt (mL 4) [.ref 342, .int x1]) [] g (fun v g' => ∃ r : Int32, v = some (.int r) ∧ r.toInt ≤ 999 ∧ Inv P g' ∧ Gr g' = Gr g) := by
  refine LW_ls (ls' := [some (.ref 342), some (.int x1), none, none]) rfl ?_
  have hG : Gr g = Gr g := rfl
  refine X_iload_n rfl rfl rfl rfl ?_
  refine X_sipush (v := (999 : Int32)) rfl rfl rfl ?_
  refine X_aload_n rfl rfl rfl rfl ?_
  refine X_getR (a := 10) rfl rfl rfl ((congrFun V.1 342).trans s_342) rfl ((congrFun (V.2.1 342 (by decide)) 1).trans r_342_1) ?_
  refine S_getI rfl rfl rfl ((congrFun V.1 10).trans s_10) rfl (fun vz1 evz1 => ?_)
  have vf2 := K_11_1 (V.2.2.2.2.1 (10) (1) (Nat.le_of_ble_eq_true rfl)) rk_10
  rw [evz1] at vf2
  refine S_isub rfl rfl (show (999 : Int32).toInt = 999 from rfl) rfl (by omega) (fun vz3 hvz3 => ?_)
  refine S_min rfl rfl rfl (Nat.le_of_ble_eq_true rfl) hx1 rfl (fun vz4 hvz4 => ?_)
  refine X_istore_n (i := 2) (ls' := [some (.ref 342), some (.int x1), some (.int vz4), none]) rfl rfl rfl (Nat.le_of_ble_eq_true rfl) rfl ?_
  refine X_iconst (v := (0 : Int32)) rfl rfl rfl ?_
  refine X_istore_n (i := 3) (ls' := [some (.ref 342), some (.int x1), some (.int vz4), some (.int (0 : Int32))]) rfl rfl rfl (Nat.le_of_ble_eq_true rfl) rfl ?_
  exact (C_X1_passMornings_all (((999 - 0) * 1 + 0) + 1 : Int).toNat) _ V hG x1 y1 hx1 vz4 vz4.toInt rfl (by omega) (0 : Int32) 0 (show (0 : Int32).toInt = 0 from rfl) (by omega)    (by omega)
set_option maxRecDepth 10000 in
set_option maxHeartbeats 40000000 in
theorem C_X12_morning {P : Par} {g : LH} {d : Nat}  (V : Inv P g) (x1 : Int32) (y1 : Int) (hx1 : x1.toInt = y1)   : LW 134 (d + 24) 0 0 0 (lEnt (mL 134) [.ref 0, .int x1]) [] g (fun v g' => ∃ r : Int32, v = some (.int r) ∧ (-1) ≤ r.toInt ∧ r.toInt ≤ 63 ∧ Inv P g' ∧ Gr g' = Gr g) := by
  refine LW_ls (ls' := [some (.ref 0), some (.int x1)]) rfl ?_
  have hG : Gr g = Gr g := rfl
  refine X_iload_n rfl rfl rfl rfl ?_
  refine X_iconst (v := (1 : Int32)) rfl rfl rfl ?_
  refine S_icmp_lt (tgt := 29) rfl rfl rfl hx1 (show (1 : Int32).toInt = 1 from rfl) (fun vh1 => ?_) (fun vh1 => ?_)
  · refine X_iconst (v := (-1 : Int32)) rfl rfl rfl ?_
    exact LW_ireturn (st := []) rfl rfl rfl ⟨_, rfl, by decide, by decide, V, hG⟩
  · refine X_iload_n rfl rfl rfl rfl ?_
    refine X_bipush (v := (99 : Int32)) rfl rfl rfl ?_
    refine S_icmp_gt (tgt := 29) rfl rfl rfl hx1 (show (99 : Int32).toInt = 99 from rfl) (fun vh2 => ?_) (fun vh2 => ?_)
    · refine X_iconst (v := (-1 : Int32)) rfl rfl rfl ?_
      exact LW_ireturn (st := []) rfl rfl rfl ⟨_, rfl, by decide, by decide, V, hG⟩
    · refine X_aload_n rfl rfl rfl rfl ?_
      refine X_getR (a := 1) rfl rfl rfl ((congrFun V.1 0).trans s_0) rfl ((congrFun (V.2.1 0 (by decide)) 0).trans r_0_0) ?_
      refine X_getR (a := 10) rfl rfl rfl ((congrFun V.1 1).trans s_1) rfl ((congrFun (V.2.1 1 (by decide)) 1).trans r_1_1) ?_
      refine S_getI rfl rfl rfl ((congrFun V.1 10).trans s_10) rfl (fun vz3 evz3 => ?_)
      have vf4 := K_11_1 (V.2.2.2.2.1 (10) (1) (Nat.le_of_ble_eq_true rfl)) rk_10
      rw [evz3] at vf4
      refine X_iload_n rfl rfl rfl rfl ?_
      refine S_iadd rfl rfl rfl hx1 (by omega) (fun vz5 hvz5 => ?_)
      refine X_sipush (v := (999 : Int32)) rfl rfl rfl ?_
      refine S_icmp_le (tgt := 31) rfl rfl rfl rfl (show (999 : Int32).toInt = 999 from rfl) (fun vh6 => ?_) (fun vh6 => ?_)
      · refine X_aload_n rfl rfl rfl rfl ?_
        refine X_getR (a := 342) rfl rfl rfl ((congrFun V.1 0).trans s_0) rfl ((congrFun (V.2.1 0 (by decide)) 6).trans r_0_6) ?_
        refine X_iload_n rfl rfl rfl rfl ?_
        refine Y_callV (as := [.int x1]) (st := []) rfl rfl rfl (by decide) rfl (Nat.le_of_ble_eq_true rfl) (by decide) (Nat.le_of_ble_eq_true rfl) rfl ((congrFun V.1 342).trans s_342) (by decide) (C_X1_passMornings V x1 y1 hx1 ) ?_
        rintro _ g ⟨vr7, rfl, hrvr70, V, hq⟩
        have hG := hq.trans hG
        refine X_pop rfl rfl rfl ?_
        refine X_aload_n rfl rfl rfl rfl ?_
        refine X_getR (a := 1) rfl rfl rfl ((congrFun V.1 0).trans s_0) rfl ((congrFun (V.2.1 0 (by decide)) 0).trans r_0_0) ?_
        refine X_getR (a := 10) rfl rfl rfl ((congrFun V.1 1).trans s_1) rfl ((congrFun (V.2.1 1 (by decide)) 1).trans r_1_1) ?_
        refine Y_callV (as := []) (st := []) rfl rfl rfl (by decide) rfl (Nat.le_of_ble_eq_true rfl) (by decide) (Nat.le_of_ble_eq_true rfl) rfl ((congrFun V.1 10).trans s_10) (by decide) (C_X9_outs V  ) ?_
        rintro _ g' ⟨vr8, rfl, hrvr80, hrvr81, hgg⟩
        subst hgg
        have hr := (rfl : vr8.toInt = vr8.toInt)
        exact LW_ireturn (st := []) rfl rfl rfl ⟨_, rfl, by omega, by omega, V, hG⟩
      · refine X_iconst (v := (-1 : Int32)) rfl rfl rfl ?_
        exact LW_ireturn (st := []) rfl rfl rfl ⟨_, rfl, by decide, by decide, V, hG⟩
set_option maxRecDepth 10000 in
set_option maxHeartbeats 40000000 in
theorem C_X1_call {P : Par} {g : LH} {d : Nat}  (V : Inv P g) (x1 : Int32) (y1 : Int) (hx1 : x1.toInt = y1)   : LW 8 (d + 12) 0 0 0 (lEnt (mL 8) [.ref 342, .int x1]) [] g (fun v g' => ∃ r : Int32, v = some (.int r) ∧ 0 ≤ r.toInt ∧ r.toInt ≤ 63 ∧ Inv P g' ∧ Gr g' = Gr g) := by
  refine LW_ls (ls' := [some (.ref 342), some (.int x1)]) rfl ?_
  have hG : Gr g = Gr g := rfl
  refine X_iload_n rfl rfl rfl rfl ?_
  refine S_if_eq (tgt := 26) rfl rfl rfl hx1 (fun vh1 => ?_) (fun vh1 => ?_)
  · refine X_iload_n rfl rfl rfl rfl ?_
    refine Y_callS (as := [.int x1]) (st := []) rfl rfl rfl (by decide) rfl (Nat.le_of_ble_eq_true rfl) (by decide) (Nat.le_of_ble_eq_true rfl) rfl (c_bc hx1 0 (by omega) (by decide)) ?_
    rintro _ g' ⟨vr2, rfl, hrvr20, hrvr21, hgg⟩
    subst hgg
    have hr := (rfl : vr2.toInt = vr2.toInt)
    exact LW_ireturn (st := []) rfl rfl rfl ⟨_, rfl, by omega, by omega, V, hG⟩
  · refine X_aload_n rfl rfl rfl rfl ?_
    refine X_getR (a := 1) rfl rfl rfl ((congrFun V.1 342).trans s_342) rfl ((congrFun (V.2.1 342 (by decide)) 0).trans r_342_0) ?_
    refine X_getR (a := 14) rfl rfl rfl ((congrFun V.1 1).trans s_1) rfl ((congrFun (V.2.1 1 (by decide)) 2).trans r_1_2) ?_
    refine X_aload_n rfl rfl rfl rfl ?_
    refine X_getR (a := 10) rfl rfl rfl ((congrFun V.1 342).trans s_342) rfl ((congrFun (V.2.1 342 (by decide)) 1).trans r_342_1) ?_
    refine Y_callV (as := [.ref 10]) (st := []) rfl rfl rfl (by decide) rfl (Nat.le_of_ble_eq_true rfl) (by decide) (Nat.le_of_ble_eq_true rfl) rfl ((congrFun V.1 14).trans s_14) (by decide) (C_X3_keep_14_10 V  ) ?_
    rintro _ g ⟨rfl, V, hq⟩
    have hG := hq.trans hG
    refine X_aload_n rfl rfl rfl rfl ?_
    refine X_getR (a := 10) rfl rfl rfl ((congrFun V.1 342).trans s_342) rfl ((congrFun (V.2.1 342 (by decide)) 1).trans r_342_1) ?_
    refine X_iload_n rfl rfl rfl rfl ?_
    refine Y_callV (as := [.int x1]) (st := []) rfl rfl rfl (by decide) rfl (Nat.le_of_ble_eq_true rfl) (by decide) (Nat.le_of_ble_eq_true rfl) rfl ((congrFun V.1 10).trans s_10) (by decide) (C_X9_move V x1 y1 hx1 ) ?_
    rintro _ g ⟨rfl, V, hq⟩
    have hG := hq.trans hG
    refine X_iload_n rfl rfl rfl rfl ?_
    refine Y_callS (as := [.int x1]) (st := []) rfl rfl rfl (by decide) rfl (Nat.le_of_ble_eq_true rfl) (by decide) (Nat.le_of_ble_eq_true rfl) rfl (C_J6_bitCount_0f7a4 V x1 y1 hx1 ) ?_
    rintro _ g' ⟨vr5, rfl, hrvr50, hrvr51, hgg⟩
    subst hgg
    have hr := (rfl : vr5.toInt = vr5.toInt)
    exact LW_ireturn (st := []) rfl rfl rfl ⟨_, rfl, by omega, by omega, V, hG⟩
set_option maxRecDepth 10000 in
set_option maxHeartbeats 40000000 in
theorem C_X1_callOut {P : Par} {g : LH} {d : Nat}  (V : Inv P g) (x1 : Int32) (y1 : Int) (hx1 : x1.toInt = y1)   : LW 6 (d + 16) 0 0 0 (lEnt (mL 6) [.ref 342, .int x1]) [] g (fun v g' => ∃ r : Int32, v = some (.int r) ∧ 0 ≤ r.toInt ∧ r.toInt ≤ 63 ∧ Inv P g' ∧ Gr g' = Gr g) := by
  refine LW_ls (ls' := [some (.ref 342), some (.int x1)]) rfl ?_
  have hG : Gr g = Gr g := rfl
  refine X_aload_n rfl rfl rfl rfl ?_
  refine X_iload_n rfl rfl rfl rfl ?_
  refine X_aload_n rfl rfl rfl rfl ?_
  refine X_getR (a := 10) rfl rfl rfl ((congrFun V.1 342).trans s_342) rfl ((congrFun (V.2.1 342 (by decide)) 1).trans r_342_1) ?_
  refine S_getI rfl rfl rfl ((congrFun V.1 10).trans s_10) rfl (fun vz1 evz1 => ?_)
  refine X_iconst (v := (-1 : Int32)) rfl rfl rfl ?_
  refine S_ixorT rfl rfl (fun vz2 => ?_)
  refine S_iandT rfl rfl (fun vz3 => ?_)
  refine Y_callV (as := [.int vz3]) (st := []) rfl rfl rfl (by decide) rfl (Nat.le_of_ble_eq_true rfl) (by decide) (Nat.le_of_ble_eq_true rfl) rfl ((congrFun V.1 342).trans s_342) (by decide) (C_X1_call V vz3 vz3.toInt rfl ) ?_
  rintro _ g ⟨vr4, rfl, hrvr40, hrvr41, V, hq⟩
  have hG := hq.trans hG
  have hr := (rfl : vr4.toInt = vr4.toInt)
  exact LW_ireturn (st := []) rfl rfl rfl ⟨_, rfl, by omega, by omega, V, hG⟩
set_option maxRecDepth 10000 in
set_option maxHeartbeats 40000000 in
theorem C_X12_strike {P : Par} {g : LH} {d : Nat}  (V : Inv P g) (x1 : Int32) (y1 : Int) (hx1 : x1.toInt = y1)   : LW 135 (d + 21) 0 0 0 (lEnt (mL 135) [.ref 0, .int x1]) [] g (fun v g' => ∃ r : Int32, v = some (.int r) ∧ (-1) ≤ r.toInt ∧ r.toInt ≤ 63 ∧ Inv P g' ∧ Gr g' = Gr g) := by
  refine LW_ls (ls' := [some (.ref 0), some (.int x1), none]) rfl ?_
  have hG : Gr g = Gr g := rfl
  refine X_iload_n rfl rfl rfl rfl ?_
  refine X_callS (as := [.int x1]) (st := []) rfl rfl rfl (by decide) rfl (Nat.le_of_ble_eq_true rfl) (by decide) (Nat.le_of_ble_eq_true rfl) rfl ?_
  refine LW_ls (ls' := [some (.int x1)]) rfl ?_
  refine X_iload_n rfl rfl rfl rfl ?_
  refine S_if_le (tgt := 15) rfl rfl rfl hx1 (fun vh1 => ?_) (fun vh1 => ?_)
  · refine X_iconst (v := (0 : Int32)) rfl rfl rfl ?_
    refine LW_ireturn (st := []) rfl rfl rfl ?_
    refine S_if_eq (tgt := 18) rfl rfl rfl (show (0 : Int32).toInt = 0 from rfl) (fun vh2 => ?_) (fun q => absurd q (by omega))
    refine X_iconst (v := (0 : Int32)) rfl rfl rfl ?_
    refine X_istore_n (i := 2) (ls' := [some (.ref 0), some (.int x1), some (.int (0 : Int32))]) rfl rfl rfl (Nat.le_of_ble_eq_true rfl) rfl ?_
    refine X_iload_n rfl rfl rfl rfl ?_
    refine S_if_le (tgt := 28) rfl rfl rfl (show (0 : Int32).toInt = 0 from rfl) (fun vh3 => ?_) (fun q => absurd q (by omega))
    refine X_iconst (v := (-1 : Int32)) rfl rfl rfl ?_
    exact LW_ireturn (st := []) rfl rfl rfl ⟨_, rfl, by decide, by decide, V, hG⟩
  · refine X_iload_n rfl rfl rfl rfl ?_
    refine X_ldcw (v := (67108864 : Int32)) rfl rfl rfl ?_
    refine S_icmp_ge (tgt := 15) rfl rfl rfl hx1 (show (67108864 : Int32).toInt = 67108864 from rfl) (fun vh4 => ?_) (fun vh4 => ?_)
    · refine X_iconst (v := (0 : Int32)) rfl rfl rfl ?_
      refine LW_ireturn (st := []) rfl rfl rfl ?_
      refine S_if_eq (tgt := 18) rfl rfl rfl (show (0 : Int32).toInt = 0 from rfl) (fun vh5 => ?_) (fun q => absurd q (by omega))
      refine X_iconst (v := (0 : Int32)) rfl rfl rfl ?_
      refine X_istore_n (i := 2) (ls' := [some (.ref 0), some (.int x1), some (.int (0 : Int32))]) rfl rfl rfl (Nat.le_of_ble_eq_true rfl) rfl ?_
      refine X_iload_n rfl rfl rfl rfl ?_
      refine S_if_le (tgt := 28) rfl rfl rfl (show (0 : Int32).toInt = 0 from rfl) (fun vh6 => ?_) (fun q => absurd q (by omega))
      refine X_iconst (v := (-1 : Int32)) rfl rfl rfl ?_
      exact LW_ireturn (st := []) rfl rfl rfl ⟨_, rfl, by decide, by decide, V, hG⟩
    · refine X_iconst (v := (1 : Int32)) rfl rfl rfl ?_
      refine LW_goto (tgt := 16) rfl rfl ?_
      refine LW_ireturn (st := []) rfl rfl rfl ?_
      refine S_if_eq (tgt := 18) rfl rfl rfl (show (1 : Int32).toInt = 1 from rfl) (fun q => absurd q (by omega)) (fun vh7 => ?_)
      refine X_aload_n rfl rfl rfl rfl ?_
      refine X_getR (a := 342) rfl rfl rfl ((congrFun V.1 0).trans s_0) rfl ((congrFun (V.2.1 0 (by decide)) 6).trans r_0_6) ?_
      refine X_iload_n rfl rfl rfl rfl ?_
      refine Y_callV (as := [.int x1]) (st := []) rfl rfl rfl (by decide) rfl (Nat.le_of_ble_eq_true rfl) (by decide) (Nat.le_of_ble_eq_true rfl) rfl ((congrFun V.1 342).trans s_342) (by decide) (C_X1_callOut V x1 y1 hx1 ) ?_
      rintro _ g ⟨vr8, rfl, hrvr80, hrvr81, V, hq⟩
      have hG := hq.trans hG
      refine LW_goto (tgt := 19) rfl rfl ?_
      refine X_istore_n (i := 2) (ls' := [some (.ref 0), some (.int x1), some (.int vr8)]) rfl rfl rfl (Nat.le_of_ble_eq_true rfl) rfl ?_
      refine X_iload_n rfl rfl rfl rfl ?_
      refine S_if_le (tgt := 28) rfl rfl rfl rfl (fun vh9 => ?_) (fun vh9 => ?_)
      · refine X_iconst (v := (-1 : Int32)) rfl rfl rfl ?_
        exact LW_ireturn (st := []) rfl rfl rfl ⟨_, rfl, by decide, by decide, V, hG⟩
      · refine X_iload_n rfl rfl rfl rfl ?_
        refine LW_goto (tgt := 29) rfl rfl ?_
        have hr := (rfl : vr8.toInt = vr8.toInt)
        exact LW_ireturn (st := []) rfl rfl rfl ⟨_, rfl, by omega, by omega, V, hG⟩
set_option maxRecDepth 10000 in
set_option maxHeartbeats 40000000 in
theorem C_X1_callBack {P : Par} {g : LH} {d : Nat}  (V : Inv P g) (x1 : Int32) (y1 : Int) (hx1 : x1.toInt = y1)   : LW 7 (d + 16) 0 0 0 (lEnt (mL 7) [.ref 342, .int x1]) [] g (fun v g' => ∃ r : Int32, v = some (.int r) ∧ 0 ≤ r.toInt ∧ r.toInt ≤ 63 ∧ Inv P g' ∧ Gr g' = Gr g) := by
  refine LW_ls (ls' := [some (.ref 342), some (.int x1)]) rfl ?_
  have hG : Gr g = Gr g := rfl
  refine X_aload_n rfl rfl rfl rfl ?_
  refine X_iload_n rfl rfl rfl rfl ?_
  refine X_aload_n rfl rfl rfl rfl ?_
  refine X_getR (a := 10) rfl rfl rfl ((congrFun V.1 342).trans s_342) rfl ((congrFun (V.2.1 342 (by decide)) 1).trans r_342_1) ?_
  refine S_getI rfl rfl rfl ((congrFun V.1 10).trans s_10) rfl (fun vz1 evz1 => ?_)
  refine S_iandT rfl rfl (fun vz2 => ?_)
  refine Y_callV (as := [.int vz2]) (st := []) rfl rfl rfl (by decide) rfl (Nat.le_of_ble_eq_true rfl) (by decide) (Nat.le_of_ble_eq_true rfl) rfl ((congrFun V.1 342).trans s_342) (by decide) (C_X1_call V vz2 vz2.toInt rfl ) ?_
  rintro _ g ⟨vr3, rfl, hrvr30, hrvr31, V, hq⟩
  have hG := hq.trans hG
  have hr := (rfl : vr3.toInt = vr3.toInt)
  exact LW_ireturn (st := []) rfl rfl rfl ⟨_, rfl, by omega, by omega, V, hG⟩
set_option maxRecDepth 10000 in
set_option maxHeartbeats 40000000 in
theorem C_X12_comeBack {P : Par} {g : LH} {d : Nat}  (V : Inv P g) (x1 : Int32) (y1 : Int) (hx1 : x1.toInt = y1)   : LW 136 (d + 21) 0 0 0 (lEnt (mL 136) [.ref 0, .int x1]) [] g (fun v g' => ∃ r : Int32, v = some (.int r) ∧ (-1) ≤ r.toInt ∧ r.toInt ≤ 63 ∧ Inv P g' ∧ Gr g' = Gr g) := by
  refine LW_ls (ls' := [some (.ref 0), some (.int x1), none]) rfl ?_
  have hG : Gr g = Gr g := rfl
  refine X_iload_n rfl rfl rfl rfl ?_
  refine X_callS (as := [.int x1]) (st := []) rfl rfl rfl (by decide) rfl (Nat.le_of_ble_eq_true rfl) (by decide) (Nat.le_of_ble_eq_true rfl) rfl ?_
  refine LW_ls (ls' := [some (.int x1)]) rfl ?_
  refine X_iload_n rfl rfl rfl rfl ?_
  refine S_if_le (tgt := 15) rfl rfl rfl hx1 (fun vh1 => ?_) (fun vh1 => ?_)
  · refine X_iconst (v := (0 : Int32)) rfl rfl rfl ?_
    refine LW_ireturn (st := []) rfl rfl rfl ?_
    refine S_if_eq (tgt := 18) rfl rfl rfl (show (0 : Int32).toInt = 0 from rfl) (fun vh2 => ?_) (fun q => absurd q (by omega))
    refine X_iconst (v := (0 : Int32)) rfl rfl rfl ?_
    refine X_istore_n (i := 2) (ls' := [some (.ref 0), some (.int x1), some (.int (0 : Int32))]) rfl rfl rfl (Nat.le_of_ble_eq_true rfl) rfl ?_
    refine X_iload_n rfl rfl rfl rfl ?_
    refine S_if_le (tgt := 28) rfl rfl rfl (show (0 : Int32).toInt = 0 from rfl) (fun vh3 => ?_) (fun q => absurd q (by omega))
    refine X_iconst (v := (-1 : Int32)) rfl rfl rfl ?_
    exact LW_ireturn (st := []) rfl rfl rfl ⟨_, rfl, by decide, by decide, V, hG⟩
  · refine X_iload_n rfl rfl rfl rfl ?_
    refine X_ldcw (v := (67108864 : Int32)) rfl rfl rfl ?_
    refine S_icmp_ge (tgt := 15) rfl rfl rfl hx1 (show (67108864 : Int32).toInt = 67108864 from rfl) (fun vh4 => ?_) (fun vh4 => ?_)
    · refine X_iconst (v := (0 : Int32)) rfl rfl rfl ?_
      refine LW_ireturn (st := []) rfl rfl rfl ?_
      refine S_if_eq (tgt := 18) rfl rfl rfl (show (0 : Int32).toInt = 0 from rfl) (fun vh5 => ?_) (fun q => absurd q (by omega))
      refine X_iconst (v := (0 : Int32)) rfl rfl rfl ?_
      refine X_istore_n (i := 2) (ls' := [some (.ref 0), some (.int x1), some (.int (0 : Int32))]) rfl rfl rfl (Nat.le_of_ble_eq_true rfl) rfl ?_
      refine X_iload_n rfl rfl rfl rfl ?_
      refine S_if_le (tgt := 28) rfl rfl rfl (show (0 : Int32).toInt = 0 from rfl) (fun vh6 => ?_) (fun q => absurd q (by omega))
      refine X_iconst (v := (-1 : Int32)) rfl rfl rfl ?_
      exact LW_ireturn (st := []) rfl rfl rfl ⟨_, rfl, by decide, by decide, V, hG⟩
    · refine X_iconst (v := (1 : Int32)) rfl rfl rfl ?_
      refine LW_goto (tgt := 16) rfl rfl ?_
      refine LW_ireturn (st := []) rfl rfl rfl ?_
      refine S_if_eq (tgt := 18) rfl rfl rfl (show (1 : Int32).toInt = 1 from rfl) (fun q => absurd q (by omega)) (fun vh7 => ?_)
      refine X_aload_n rfl rfl rfl rfl ?_
      refine X_getR (a := 342) rfl rfl rfl ((congrFun V.1 0).trans s_0) rfl ((congrFun (V.2.1 0 (by decide)) 6).trans r_0_6) ?_
      refine X_iload_n rfl rfl rfl rfl ?_
      refine Y_callV (as := [.int x1]) (st := []) rfl rfl rfl (by decide) rfl (Nat.le_of_ble_eq_true rfl) (by decide) (Nat.le_of_ble_eq_true rfl) rfl ((congrFun V.1 342).trans s_342) (by decide) (C_X1_callBack V x1 y1 hx1 ) ?_
      rintro _ g ⟨vr8, rfl, hrvr80, hrvr81, V, hq⟩
      have hG := hq.trans hG
      refine LW_goto (tgt := 19) rfl rfl ?_
      refine X_istore_n (i := 2) (ls' := [some (.ref 0), some (.int x1), some (.int vr8)]) rfl rfl rfl (Nat.le_of_ble_eq_true rfl) rfl ?_
      refine X_iload_n rfl rfl rfl rfl ?_
      refine S_if_le (tgt := 28) rfl rfl rfl rfl (fun vh9 => ?_) (fun vh9 => ?_)
      · refine X_iconst (v := (-1 : Int32)) rfl rfl rfl ?_
        exact LW_ireturn (st := []) rfl rfl rfl ⟨_, rfl, by decide, by decide, V, hG⟩
      · refine X_iload_n rfl rfl rfl rfl ?_
        refine LW_goto (tgt := 29) rfl rfl ?_
        have hr := (rfl : vr8.toInt = vr8.toInt)
        exact LW_ireturn (st := []) rfl rfl rfl ⟨_, rfl, by omega, by omega, V, hG⟩
set_option maxRecDepth 10000 in
set_option maxHeartbeats 40000000 in
theorem C_X1_setWage {P : Par} {g : LH} {d : Nat}  (V : Inv P g) (x1 : Int32) (y1 : Int) (hx1 : x1.toInt = y1) (hf1 : 0 ≤ y1 ∧ y1 ≤ 25) (x2 : Int32) (y2 : Int) (hx2 : x2.toInt = y2) (hf2 : y2 ≤ 99)   : LW 9 (d + 12) 0 0 0 (lEnt (mL 9) [.ref 342, .int x1, .int x2]) [] g (fun v g' => ∃ r : Int32, v = some (.int r) ∧ 0 ≤ r.toInt ∧ r.toInt ≤ 1 ∧ Inv P g' ∧ Gr g' = Gr g) := by
  refine LW_ls (ls' := [some (.ref 342), some (.int x1), some (.int x2)]) rfl ?_
  have hG : Gr g = Gr g := rfl
  refine X_aload_n rfl rfl rfl rfl ?_
  refine X_getR (a := 10) rfl rfl rfl ((congrFun V.1 342).trans s_342) rfl ((congrFun (V.2.1 342 (by decide)) 1).trans r_342_1) ?_
  refine X_getR (a := 11) rfl rfl rfl ((congrFun V.1 10).trans s_10) rfl ((congrFun (V.2.1 10 (by decide)) 4).trans r_10_4) ?_
  refine X_iload_n rfl rfl rfl rfl ?_
  refine S_iald rfl rfl ((congrFun V.1 11).trans s_11) hx1 (by omega) (fun vz1 evz1 => ?_)
  refine X_iload_n rfl rfl rfl rfl ?_
  refine S_icmp_ne (tgt := 15) rfl rfl rfl rfl hx2 (fun vh2 => ?_) (fun vh2 => ?_)
  · refine X_aload_n rfl rfl rfl rfl ?_
    refine X_getR (a := 1) rfl rfl rfl ((congrFun V.1 342).trans s_342) rfl ((congrFun (V.2.1 342 (by decide)) 0).trans r_342_0) ?_
    refine X_getR (a := 14) rfl rfl rfl ((congrFun V.1 1).trans s_1) rfl ((congrFun (V.2.1 1 (by decide)) 2).trans r_1_2) ?_
    refine X_aload_n rfl rfl rfl rfl ?_
    refine X_getR (a := 10) rfl rfl rfl ((congrFun V.1 342).trans s_342) rfl ((congrFun (V.2.1 342 (by decide)) 1).trans r_342_1) ?_
    refine Y_callV (as := [.ref 10]) (st := []) rfl rfl rfl (by decide) rfl (Nat.le_of_ble_eq_true rfl) (by decide) (Nat.le_of_ble_eq_true rfl) rfl ((congrFun V.1 14).trans s_14) (by decide) (C_X3_keep_14_10 V  ) ?_
    rintro _ g ⟨rfl, V, hq⟩
    have hG := hq.trans hG
    refine X_aload_n rfl rfl rfl rfl ?_
    refine X_getR (a := 10) rfl rfl rfl ((congrFun V.1 342).trans s_342) rfl ((congrFun (V.2.1 342 (by decide)) 1).trans r_342_1) ?_
    refine X_getR (a := 11) rfl rfl rfl ((congrFun V.1 10).trans s_10) rfl ((congrFun (V.2.1 10 (by decide)) 4).trans r_10_4) ?_
    refine X_iload_n rfl rfl rfl rfl ?_
    refine X_iload_n rfl rfl rfl rfl ?_
    refine S_iast (I := Inv _) rfl rfl ((congrFun V.1 11).trans s_11) hx1 (by omega) (Inv_putI V (Nat.le_of_ble_eq_true rfl) (Or.inl (by decide)) (Q_0 rk_11)) (fun g V ve4 vn5 hq => ?_)
    have hG := hq.trans hG
    refine X_iconst (v := (1 : Int32)) rfl rfl rfl ?_
    exact LW_ireturn (st := []) rfl rfl rfl ⟨_, rfl, by decide, by decide, V, hG⟩
  · refine X_iconst (v := (0 : Int32)) rfl rfl rfl ?_
    exact LW_ireturn (st := []) rfl rfl rfl ⟨_, rfl, by decide, by decide, V, hG⟩
set_option maxRecDepth 10000 in
set_option maxHeartbeats 40000000 in
theorem C_X12_raise {P : Par} {g : LH} {d : Nat}  (V : Inv P g) (x1 : Int32) (y1 : Int) (hx1 : x1.toInt = y1) (x2 : Int32) (y2 : Int) (hx2 : x2.toInt = y2)   : LW 137 (d + 17) 0 0 0 (lEnt (mL 137) [.ref 0, .int x1, .int x2]) [] g (fun v g' => ∃ r : Int32, v = some (.int r) ∧ 0 ≤ r.toInt ∧ r.toInt ≤ 1 ∧ Inv P g' ∧ Gr g' = Gr g) := by
  refine LW_ls (ls' := [some (.ref 0), some (.int x1), some (.int x2)]) rfl ?_
  have hG : Gr g = Gr g := rfl
  refine X_iload_n rfl rfl rfl rfl ?_
  refine X_callS (as := [.int x1]) (st := []) rfl rfl rfl (by decide) rfl (Nat.le_of_ble_eq_true rfl) (by decide) (Nat.le_of_ble_eq_true rfl) rfl ?_
  refine LW_ls (ls' := [some (.int x1)]) rfl ?_
  refine X_iload_n rfl rfl rfl rfl ?_
  refine S_if_lt (tgt := 14) rfl rfl rfl hx1 (fun vh1 => ?_) (fun vh1 => ?_)
  · refine X_iconst (v := (0 : Int32)) rfl rfl rfl ?_
    refine LW_ireturn (st := []) rfl rfl rfl ?_
    refine S_if_eq (tgt := 33) rfl rfl rfl (show (0 : Int32).toInt = 0 from rfl) (fun vh2 => ?_) (fun q => absurd q (by omega))
    refine X_iconst (v := (0 : Int32)) rfl rfl rfl ?_
    exact LW_ireturn (st := []) rfl rfl rfl ⟨_, rfl, by decide, by decide, V, hG⟩
  · refine X_iload_n rfl rfl rfl rfl ?_
    refine X_bipush (v := (26 : Int32)) rfl rfl rfl ?_
    refine S_icmp_ge (tgt := 14) rfl rfl rfl hx1 (show (26 : Int32).toInt = 26 from rfl) (fun vh3 => ?_) (fun vh3 => ?_)
    · refine X_iconst (v := (0 : Int32)) rfl rfl rfl ?_
      refine LW_ireturn (st := []) rfl rfl rfl ?_
      refine S_if_eq (tgt := 33) rfl rfl rfl (show (0 : Int32).toInt = 0 from rfl) (fun vh4 => ?_) (fun q => absurd q (by omega))
      refine X_iconst (v := (0 : Int32)) rfl rfl rfl ?_
      exact LW_ireturn (st := []) rfl rfl rfl ⟨_, rfl, by decide, by decide, V, hG⟩
    · refine X_iconst (v := (1 : Int32)) rfl rfl rfl ?_
      refine LW_goto (tgt := 15) rfl rfl ?_
      refine LW_ireturn (st := []) rfl rfl rfl ?_
      refine S_if_eq (tgt := 33) rfl rfl rfl (show (1 : Int32).toInt = 1 from rfl) (fun q => absurd q (by omega)) (fun vh5 => ?_)
      refine X_iload_n rfl rfl rfl rfl ?_
      refine S_if_lt (tgt := 33) rfl rfl rfl hx2 (fun vh6 => ?_) (fun vh6 => ?_)
      · refine X_iconst (v := (0 : Int32)) rfl rfl rfl ?_
        exact LW_ireturn (st := []) rfl rfl rfl ⟨_, rfl, by decide, by decide, V, hG⟩
      · refine X_iload_n rfl rfl rfl rfl ?_
        refine X_bipush (v := (99 : Int32)) rfl rfl rfl ?_
        refine S_icmp_gt (tgt := 33) rfl rfl rfl hx2 (show (99 : Int32).toInt = 99 from rfl) (fun vh7 => ?_) (fun vh7 => ?_)
        · refine X_iconst (v := (0 : Int32)) rfl rfl rfl ?_
          exact LW_ireturn (st := []) rfl rfl rfl ⟨_, rfl, by decide, by decide, V, hG⟩
        · refine X_aload_n rfl rfl rfl rfl ?_
          refine X_getR (a := 342) rfl rfl rfl ((congrFun V.1 0).trans s_0) rfl ((congrFun (V.2.1 0 (by decide)) 6).trans r_0_6) ?_
          refine X_iload_n rfl rfl rfl rfl ?_
          refine X_iload_n rfl rfl rfl rfl ?_
          refine Y_callV (as := [.int x1, .int x2]) (st := []) rfl rfl rfl (by decide) rfl (Nat.le_of_ble_eq_true rfl) (by decide) (Nat.le_of_ble_eq_true rfl) rfl ((congrFun V.1 342).trans s_342) (by decide) (C_X1_setWage V x1 y1 hx1 (by omega) x2 y2 hx2 (by omega) ) ?_
          rintro _ g ⟨vr8, rfl, hrvr80, hrvr81, V, hq⟩
          have hG := hq.trans hG
          refine S_if_eq (tgt := 33) rfl rfl rfl rfl (fun vh9 => ?_) (fun vh9 => ?_)
          · refine X_iconst (v := (0 : Int32)) rfl rfl rfl ?_
            exact LW_ireturn (st := []) rfl rfl rfl ⟨_, rfl, by decide, by decide, V, hG⟩
          · refine X_iconst (v := (1 : Int32)) rfl rfl rfl ?_
            refine LW_goto (tgt := 34) rfl rfl ?_
            exact LW_ireturn (st := []) rfl rfl rfl ⟨_, rfl, by decide, by decide, V, hG⟩
set_option maxRecDepth 10000 in
set_option maxHeartbeats 40000000 in
theorem C_X1_putSign {P : Par} {g : LH} {d : Nat}  (V : Inv P g) (x1 : Int32) (y1 : Int) (hx1 : x1.toInt = y1) (hf1 : 0 ≤ y1 ∧ y1 ≤ 25) (x2 : Int32) (y2 : Int) (hx2 : x2.toInt = y2)   : LW 10 (d + 12) 0 0 0 (lEnt (mL 10) [.ref 342, .int x1, .int x2]) [] g (fun v g' => ∃ r : Int32, v = some (.int r) ∧ 0 ≤ r.toInt ∧ r.toInt ≤ 1 ∧ Inv P g' ∧ Gr g' = Gr g) := by
  refine LW_ls (ls' := [some (.ref 342), some (.int x1), some (.int x2)]) rfl ?_
  have hG : Gr g = Gr g := rfl
  refine X_aload_n rfl rfl rfl rfl ?_
  refine X_getR (a := 10) rfl rfl rfl ((congrFun V.1 342).trans s_342) rfl ((congrFun (V.2.1 342 (by decide)) 1).trans r_342_1) ?_
  refine X_getR (a := 13) rfl rfl rfl ((congrFun V.1 10).trans s_10) rfl ((congrFun (V.2.1 10 (by decide)) 6).trans r_10_6) ?_
  refine X_iload_n rfl rfl rfl rfl ?_
  refine S_iald rfl rfl ((congrFun V.1 13).trans s_13) hx1 (by omega) (fun vz1 evz1 => ?_)
  refine X_iload_n rfl rfl rfl rfl ?_
  refine S_icmp_ne (tgt := 15) rfl rfl rfl rfl hx2 (fun vh2 => ?_) (fun vh2 => ?_)
  · refine X_aload_n rfl rfl rfl rfl ?_
    refine X_getR (a := 1) rfl rfl rfl ((congrFun V.1 342).trans s_342) rfl ((congrFun (V.2.1 342 (by decide)) 0).trans r_342_0) ?_
    refine X_getR (a := 14) rfl rfl rfl ((congrFun V.1 1).trans s_1) rfl ((congrFun (V.2.1 1 (by decide)) 2).trans r_1_2) ?_
    refine X_aload_n rfl rfl rfl rfl ?_
    refine X_getR (a := 10) rfl rfl rfl ((congrFun V.1 342).trans s_342) rfl ((congrFun (V.2.1 342 (by decide)) 1).trans r_342_1) ?_
    refine Y_callV (as := [.ref 10]) (st := []) rfl rfl rfl (by decide) rfl (Nat.le_of_ble_eq_true rfl) (by decide) (Nat.le_of_ble_eq_true rfl) rfl ((congrFun V.1 14).trans s_14) (by decide) (C_X3_keep_14_10 V  ) ?_
    rintro _ g ⟨rfl, V, hq⟩
    have hG := hq.trans hG
    refine X_aload_n rfl rfl rfl rfl ?_
    refine X_getR (a := 10) rfl rfl rfl ((congrFun V.1 342).trans s_342) rfl ((congrFun (V.2.1 342 (by decide)) 1).trans r_342_1) ?_
    refine X_getR (a := 13) rfl rfl rfl ((congrFun V.1 10).trans s_10) rfl ((congrFun (V.2.1 10 (by decide)) 6).trans r_10_6) ?_
    refine X_iload_n rfl rfl rfl rfl ?_
    refine X_iload_n rfl rfl rfl rfl ?_
    refine S_iast (I := Inv _) rfl rfl ((congrFun V.1 13).trans s_13) hx1 (by omega) (Inv_putI V (Nat.le_of_ble_eq_true rfl) (Or.inl (by decide)) (Q_0 rk_13)) (fun g V ve4 vn5 hq => ?_)
    have hG := hq.trans hG
    refine X_iconst (v := (1 : Int32)) rfl rfl rfl ?_
    exact LW_ireturn (st := []) rfl rfl rfl ⟨_, rfl, by decide, by decide, V, hG⟩
  · refine X_iconst (v := (0 : Int32)) rfl rfl rfl ?_
    exact LW_ireturn (st := []) rfl rfl rfl ⟨_, rfl, by decide, by decide, V, hG⟩
set_option maxRecDepth 10000 in
set_option maxHeartbeats 40000000 in
theorem C_X12_sign {P : Par} {g : LH} {d : Nat}  (V : Inv P g) (x1 : Int32) (y1 : Int) (hx1 : x1.toInt = y1) (x2 : Int32) (y2 : Int) (hx2 : x2.toInt = y2)   : LW 138 (d + 17) 0 0 0 (lEnt (mL 138) [.ref 0, .int x1, .int x2]) [] g (fun v g' => ∃ r : Int32, v = some (.int r) ∧ 0 ≤ r.toInt ∧ r.toInt ≤ 1 ∧ Inv P g' ∧ Gr g' = Gr g) := by
  refine LW_ls (ls' := [some (.ref 0), some (.int x1), some (.int x2)]) rfl ?_
  have hG : Gr g = Gr g := rfl
  refine X_iload_n rfl rfl rfl rfl ?_
  refine X_callS (as := [.int x1]) (st := []) rfl rfl rfl (by decide) rfl (Nat.le_of_ble_eq_true rfl) (by decide) (Nat.le_of_ble_eq_true rfl) rfl ?_
  refine LW_ls (ls' := [some (.int x1)]) rfl ?_
  refine X_iload_n rfl rfl rfl rfl ?_
  refine S_if_lt (tgt := 14) rfl rfl rfl hx1 (fun vh1 => ?_) (fun vh1 => ?_)
  · refine X_iconst (v := (0 : Int32)) rfl rfl rfl ?_
    refine LW_ireturn (st := []) rfl rfl rfl ?_
    refine S_if_eq (tgt := 34) rfl rfl rfl (show (0 : Int32).toInt = 0 from rfl) (fun vh2 => ?_) (fun q => absurd q (by omega))
    refine X_iconst (v := (0 : Int32)) rfl rfl rfl ?_
    exact LW_ireturn (st := []) rfl rfl rfl ⟨_, rfl, by decide, by decide, V, hG⟩
  · refine X_iload_n rfl rfl rfl rfl ?_
    refine X_bipush (v := (26 : Int32)) rfl rfl rfl ?_
    refine S_icmp_ge (tgt := 14) rfl rfl rfl hx1 (show (26 : Int32).toInt = 26 from rfl) (fun vh3 => ?_) (fun vh3 => ?_)
    · refine X_iconst (v := (0 : Int32)) rfl rfl rfl ?_
      refine LW_ireturn (st := []) rfl rfl rfl ?_
      refine S_if_eq (tgt := 34) rfl rfl rfl (show (0 : Int32).toInt = 0 from rfl) (fun vh4 => ?_) (fun q => absurd q (by omega))
      refine X_iconst (v := (0 : Int32)) rfl rfl rfl ?_
      exact LW_ireturn (st := []) rfl rfl rfl ⟨_, rfl, by decide, by decide, V, hG⟩
    · refine X_iconst (v := (1 : Int32)) rfl rfl rfl ?_
      refine LW_goto (tgt := 15) rfl rfl ?_
      refine LW_ireturn (st := []) rfl rfl rfl ?_
      refine S_if_eq (tgt := 34) rfl rfl rfl (show (1 : Int32).toInt = 1 from rfl) (fun q => absurd q (by omega)) (fun vh5 => ?_)
      refine X_iload_n rfl rfl rfl rfl ?_
      refine X_iconst (v := (-1 : Int32)) rfl rfl rfl ?_
      refine S_icmp_lt (tgt := 34) rfl rfl rfl hx2 (show (-1 : Int32).toInt = -1 from rfl) (fun vh6 => ?_) (fun vh6 => ?_)
      · refine X_iconst (v := (0 : Int32)) rfl rfl rfl ?_
        exact LW_ireturn (st := []) rfl rfl rfl ⟨_, rfl, by decide, by decide, V, hG⟩
      · refine X_iload_n rfl rfl rfl rfl ?_
        refine X_bipush (v := (9 : Int32)) rfl rfl rfl ?_
        refine S_icmp_gt (tgt := 34) rfl rfl rfl hx2 (show (9 : Int32).toInt = 9 from rfl) (fun vh7 => ?_) (fun vh7 => ?_)
        · refine X_iconst (v := (0 : Int32)) rfl rfl rfl ?_
          exact LW_ireturn (st := []) rfl rfl rfl ⟨_, rfl, by decide, by decide, V, hG⟩
        · refine X_aload_n rfl rfl rfl rfl ?_
          refine X_getR (a := 342) rfl rfl rfl ((congrFun V.1 0).trans s_0) rfl ((congrFun (V.2.1 0 (by decide)) 6).trans r_0_6) ?_
          refine X_iload_n rfl rfl rfl rfl ?_
          refine X_iload_n rfl rfl rfl rfl ?_
          refine Y_callV (as := [.int x1, .int x2]) (st := []) rfl rfl rfl (by decide) rfl (Nat.le_of_ble_eq_true rfl) (by decide) (Nat.le_of_ble_eq_true rfl) rfl ((congrFun V.1 342).trans s_342) (by decide) (C_X1_putSign V x1 y1 hx1 (by omega) x2 y2 hx2 ) ?_
          rintro _ g ⟨vr8, rfl, hrvr80, hrvr81, V, hq⟩
          have hG := hq.trans hG
          refine S_if_eq (tgt := 34) rfl rfl rfl rfl (fun vh9 => ?_) (fun vh9 => ?_)
          · refine X_iconst (v := (0 : Int32)) rfl rfl rfl ?_
            exact LW_ireturn (st := []) rfl rfl rfl ⟨_, rfl, by decide, by decide, V, hG⟩
          · refine X_iconst (v := (1 : Int32)) rfl rfl rfl ?_
            refine LW_goto (tgt := 35) rfl rfl ?_
            exact LW_ireturn (st := []) rfl rfl rfl ⟨_, rfl, by decide, by decide, V, hG⟩
set_option maxRecDepth 10000 in
set_option maxHeartbeats 40000000 in
theorem C_X9_missing_7 {P : Par} {g : LH} {d n : Nat}  (V : Inv P g) (x1 : Int32) (y1 : Int) (hx1 : x1.toInt = y1) (x2 : Int32) (y2 : Int) (hx2 : x2.toInt = y2) (hf2 : 0 ≤ y2 ∧ y2 ≤ 26) (hc10_0 : ) (hmu : (26 - y2) * 1 + 0 < (n : Int) + 1) (ih7 : ∀ (V : Inv P g) (x1 : Int32) (y1 : Int) (hx1 : x1.toInt = y1) (x2 : Int32) (y2 : Int) (hx2 : x2.toInt = y2) (hf2 : 0 ≤ y2 ∧ y2 ≤ 26) (hc10_0 : ), (26 - y2) * 1 + 0 < (n : Int) → LW 108 (d + 3) 0 0 7 [some (.ref 10), some (.int x1), some (.int x2)] [] g (fun v g' => ∃ r : Int32, v = some (.int r) ∧ g = g')) : LW 108 (d + 3) 0 0 7 [some (.ref 10), some (.int x1), some (.int x2)] [] g (fun v g' => ∃ r : Int32, v = some (.int r) ∧ g = g') := by
  obtain ⟨vz1, evz1⟩ : ∃ z, Gi g 10 0 = z := ⟨_, rfl⟩
  rw [evz1] at hc10_0
  refine X_iload_n rfl rfl rfl rfl ?_
  refine X_bipush (v := (26 : Int32)) rfl rfl rfl ?_
  refine S_icmp_ge (tgt := 37) rfl rfl rfl hx2 (show (26 : Int32).toInt = 26 from rfl) (fun vh2 => ?_) (fun vh2 => ?_)
  · refine X_iload_n rfl rfl rfl rfl ?_
    exact LW_ireturn (st := []) rfl rfl rfl ⟨_, rfl, rfl⟩
  · refine X_aload_n rfl rfl rfl rfl ?_
    refine X_getR (a := 13) rfl rfl rfl ((congrFun V.1 10).trans s_10) rfl ((congrFun (V.2.1 10 (by decide)) 6).trans r_10_6) ?_
    refine X_iload_n rfl rfl rfl rfl ?_
    refine S_iald rfl rfl ((congrFun V.1 13).trans s_13) hx2 (by omega) (fun vz3 evz3 => ?_)
    refine X_iconst (v := (-1 : Int32)) rfl rfl rfl ?_
    refine S_icmp_eq (tgt := 31) rfl rfl rfl rfl (show (-1 : Int32).toInt = -1 from rfl) (fun vh4 => ?_) (fun vh4 => ?_)
    · refine S_iinc (c := 1) rfl rfl rfl hx2 rfl (by omega) (fun vz5 hvz5 => ?_)
      refine LW_ls (ls' := [some (.ref 10), some (.int x1), some (.int vz5)]) rfl ?_
      refine LW_goto (tgt := 7) rfl rfl ?_
      exact ih7 V x1 y1 hx1 vz5 vz5.toInt rfl (by omega) (by rw [evz1]; omega)   (by omega)
    · refine X_iload_n rfl rfl rfl rfl ?_
      refine X_iconst (v := (1 : Int32)) rfl rfl rfl ?_
      refine X_iload_n rfl rfl rfl rfl ?_
      refine S_ishlT rfl rfl (fun vz6 => ?_)
      refine X_iconst (v := (-1 : Int32)) rfl rfl rfl ?_
      refine S_ixorT rfl rfl (fun vz7 => ?_)
      refine S_iandT rfl rfl (fun vz8 => ?_)
      refine X_istore_n (i := 1) (ls' := [some (.ref 10), some (.int vz8), some (.int x2)]) rfl rfl rfl (Nat.le_of_ble_eq_true rfl) rfl ?_
      refine S_iinc (c := 1) rfl rfl rfl hx2 rfl (by omega) (fun vz9 hvz9 => ?_)
      refine LW_ls (ls' := [some (.ref 10), some (.int vz8), some (.int vz9)]) rfl ?_
      refine LW_goto (tgt := 7) rfl rfl ?_
      exact ih7 V vz8 vz8.toInt rfl vz9 vz9.toInt rfl (by omega) (by rw [evz1]; omega)   (by omega)
theorem C_X9_missing_all {P : Par} {g : LH} {d : Nat}  : ∀ n : Nat, (∀ (V : Inv P g) (x1 : Int32) (y1 : Int) (hx1 : x1.toInt = y1) (x2 : Int32) (y2 : Int) (hx2 : x2.toInt = y2) (hf2 : 0 ≤ y2 ∧ y2 ≤ 26) (hc10_0 : ), (26 - y2) * 1 + 0 < (n : Int) → LW 108 (d + 3) 0 0 7 [some (.ref 10), some (.int x1), some (.int x2)] [] g (fun v g' => ∃ r : Int32, v = some (.int r) ∧ g = g')) := by
  intro n
  induction n with
  | zero => exact fun V x1 y1 hx1 x2 y2 hx2 hf2 hc10_0 hmu => absurd hmu (by omega)
  | succ n ih => exact fun V x1 y1 hx1 x2 y2 hx2 hf2 hc10_0 hmu => C_X9_missing_7  V x1 y1 hx1 x2 y2 hx2 hf2 hc10_0 (by omega) ih
set_option maxRecDepth 10000 in
set_option maxHeartbeats 40000000 in
theorem C_X9_missing {P : Par} {g : LH} {d : Nat}  (V : Inv P g)    : LW 108 (d + 3) 0 0 0 (lEnt (mL 108) [.ref 10]) [] g (fun v g' => ∃ r : Int32, v = some (.int r) ∧ g = g') := by
  refine LW_ls (ls' := [some (.ref 10), none, none]) rfl ?_
  refine X_aload_n rfl rfl rfl rfl ?_
  refine S_getI rfl rfl rfl ((congrFun V.1 10).trans s_10) rfl (fun vz1 evz1 => ?_)
  refine X_istore_n (i := 1) (ls' := [some (.ref 10), some (.int vz1), none]) rfl rfl rfl (Nat.le_of_ble_eq_true rfl) rfl ?_
  refine X_iconst (v := (0 : Int32)) rfl rfl rfl ?_
  refine X_istore_n (i := 2) (ls' := [some (.ref 10), some (.int vz1), some (.int (0 : Int32))]) rfl rfl rfl (Nat.le_of_ble_eq_true rfl) rfl ?_
  exact (C_X9_missing_all (((26 - 0) * 1 + 0) + 1 : Int).toNat) V vz1 vz1.toInt rfl (0 : Int32) 0 (show (0 : Int32).toInt = 0 from rfl) (by omega) (by rw [evz1]; omega)   (by omega)
set_option maxRecDepth 10000 in
set_option maxHeartbeats 40000000 in
theorem C_X5_wordFor_5 {P : Par} {g : LH} {d n : Nat}  (V : Inv P g) (x1 : Int32) (y1 : Int) (hx1 : x1.toInt = y1) (hf1 : 0 ≤ y1 ∧ y1 ≤ 25) (x2 : Int32) (y2 : Int) (hx2 : x2.toInt = y2) (x3 : Int32) (y3 : Int) (hx3 : x3.toInt = y3) (hf3 : (-1) ≤ y3 ∧ y3 ≤ 23) (x4 : Int32) (y4 : Int) (hx4 : x4.toInt = y4) (hf4 : 0 ≤ y4 ∧ y4 ≤ 24)  (hmu : (24 - y4) * 1 + 0 < (n : Int) + 1) (ih5 : ∀ (V : Inv P g) (x1 : Int32) (y1 : Int) (hx1 : x1.toInt = y1) (hf1 : 0 ≤ y1 ∧ y1 ≤ 25) (x2 : Int32) (y2 : Int) (hx2 : x2.toInt = y2) (x3 : Int32) (y3 : Int) (hx3 : x3.toInt = y3) (hf3 : (-1) ≤ y3 ∧ y3 ≤ 23) (x4 : Int32) (y4 : Int) (hx4 : x4.toInt = y4) (hf4 : 0 ≤ y4 ∧ y4 ≤ 24) , (24 - y4) * 1 + 0 < (n : Int) → LW 48 (d + 3) 0 0 5 [some (.ref 2), some (.int x1), some (.int x2), some (.int x3), some (.int x4)] [] g (fun v g' => ∃ r : Int32, v = some (.int r) ∧ (-1) ≤ r.toInt ∧ r.toInt ≤ 23 ∧ g = g')) : LW 48 (d + 3) 0 0 5 [some (.ref 2), some (.int x1), some (.int x2), some (.int x3), some (.int x4)] [] g (fun v g' => ∃ r : Int32, v = some (.int r) ∧ (-1) ≤ r.toInt ∧ r.toInt ≤ 23 ∧ g = g') := by
  refine X_iload rfl rfl rfl ?_
  refine X_aload_n rfl rfl rfl rfl ?_
  refine S_getI rfl rfl rfl ((congrFun V.1 2).trans s_2) rfl (fun vz1 evz1 => ?_)
  have vf2 := K_10_0 (V.2.2.2.2.1 (2) (0) (Nat.le_of_ble_eq_true rfl)) rk_2
  rw [evz1] at vf2
  refine S_icmp_ge (tgt := 67) rfl rfl rfl hx4 rfl (fun vh3 => ?_) (fun vh3 => ?_)
  · refine X_iload_n rfl rfl rfl rfl ?_
    have hr := hx3
    exact LW_ireturn (st := []) rfl rfl rfl ⟨_, rfl, by omega, by omega, rfl⟩
  · refine X_aload_n rfl rfl rfl rfl ?_
    refine X_getR (a := 4) rfl rfl rfl ((congrFun V.1 2).trans s_2) rfl ((congrFun (V.2.1 2 (by decide)) 3).trans r_2_3) ?_
    refine X_iload rfl rfl rfl ?_
    refine S_iald rfl rfl ((congrFun V.1 4).trans s_4) hx4 (by omega) (fun vz4 evz4 => ?_)
    have vf5 := K_2 (V.2.2.2.2.1 (4) ((y4).toNat) (Nat.le_of_ble_eq_true rfl)) rk_4
    rw [evz4] at vf5
    refine X_iload_n rfl rfl rfl rfl ?_
    refine S_icmp_ne (tgt := 61) rfl rfl rfl rfl hx1 (fun vh6 => ?_) (fun vh6 => ?_)
    · refine S_iinc (c := 1) rfl rfl rfl hx4 rfl (by omega) (fun vz7 hvz7 => ?_)
      refine LW_ls (ls' := [some (.ref 2), some (.int x1), some (.int x2), some (.int x3), some (.int vz7)]) rfl ?_
      refine LW_goto (tgt := 5) rfl rfl ?_
      exact ih5 V x1 y1 hx1 (by omega) x2 y2 hx2 x3 y3 hx3 (by omega) vz7 vz7.toInt rfl (by omega)    (by omega)
    · refine X_aload_n rfl rfl rfl rfl ?_
      refine X_getR (a := 5) rfl rfl rfl ((congrFun V.1 2).trans s_2) rfl ((congrFun (V.2.1 2 (by decide)) 4).trans r_2_4) ?_
      refine X_iload rfl rfl rfl ?_
      refine S_iald rfl rfl ((congrFun V.1 5).trans s_5) hx4 (by omega) (fun vz8 evz8 => ?_)
      refine X_iload_n rfl rfl rfl rfl ?_
      refine S_iandT rfl rfl (fun vz9 => ?_)
      refine S_if_ne (tgt := 61) rfl rfl rfl rfl (fun vh10 => ?_) (fun vh10 => ?_)
      · refine S_iinc (c := 1) rfl rfl rfl hx4 rfl (by omega) (fun vz11 hvz11 => ?_)
        refine LW_ls (ls' := [some (.ref 2), some (.int x1), some (.int x2), some (.int x3), some (.int vz11)]) rfl ?_
        refine LW_goto (tgt := 5) rfl rfl ?_
        exact ih5 V x1 y1 hx1 (by omega) x2 y2 hx2 x3 y3 hx3 (by omega) vz11 vz11.toInt rfl (by omega)    (by omega)
      · refine X_iload_n rfl rfl rfl rfl ?_
        refine X_iconst (v := (-1 : Int32)) rfl rfl rfl ?_
        refine S_icmp_eq (tgt := 58) rfl rfl rfl hx3 (show (-1 : Int32).toInt = -1 from rfl) (fun vh12 => ?_) (fun vh12 => ?_)
        · refine X_iload rfl rfl rfl ?_
          refine X_istore_n (i := 3) (ls' := [some (.ref 2), some (.int x1), some (.int x2), some (.int x4), some (.int x4)]) rfl rfl rfl (Nat.le_of_ble_eq_true rfl) rfl ?_
          refine S_iinc (c := 1) rfl rfl rfl hx4 rfl (by omega) (fun vz13 hvz13 => ?_)
          refine LW_ls (ls' := [some (.ref 2), some (.int x1), some (.int x2), some (.int x4), some (.int vz13)]) rfl ?_
          refine LW_goto (tgt := 5) rfl rfl ?_
          exact ih5 V x1 y1 hx1 (by omega) x2 y2 hx2 x4 y4 hx4 (by omega) vz13 vz13.toInt rfl (by omega)    (by omega)
        · refine X_aload_n rfl rfl rfl rfl ?_
          refine X_getR (a := 3) rfl rfl rfl ((congrFun V.1 2).trans s_2) rfl ((congrFun (V.2.1 2 (by decide)) 2).trans r_2_2) ?_
          refine X_iload rfl rfl rfl ?_
          refine S_iald rfl rfl ((congrFun V.1 3).trans s_3) hx4 (by omega) (fun vz14 evz14 => ?_)
          have vf15 := K_1 (V.2.2.2.2.1 (3) ((y4).toNat) (Nat.le_of_ble_eq_true rfl)) rk_3
          rw [evz14] at vf15
          refine X_aload_n rfl rfl rfl rfl ?_
          refine X_getR (a := 3) rfl rfl rfl ((congrFun V.1 2).trans s_2) rfl ((congrFun (V.2.1 2 (by decide)) 2).trans r_2_2) ?_
          refine X_iload_n rfl rfl rfl rfl ?_
          refine S_iald rfl rfl ((congrFun V.1 3).trans s_3) hx3 (by omega) (fun vz16 evz16 => ?_)
          have vf17 := K_1 (V.2.2.2.2.1 (3) ((y3).toNat) (Nat.le_of_ble_eq_true rfl)) rk_3
          rw [evz16] at vf17
          refine S_icmp_ge (tgt := 61) rfl rfl rfl rfl rfl (fun vh18 => ?_) (fun vh18 => ?_)
          · refine S_iinc (c := 1) rfl rfl rfl hx4 rfl (by omega) (fun vz19 hvz19 => ?_)
            refine LW_ls (ls' := [some (.ref 2), some (.int x1), some (.int x2), some (.int x3), some (.int vz19)]) rfl ?_
            refine LW_goto (tgt := 5) rfl rfl ?_
            exact ih5 V x1 y1 hx1 (by omega) x2 y2 hx2 x3 y3 hx3 (by omega) vz19 vz19.toInt rfl (by omega)    (by omega)
          · refine X_iload rfl rfl rfl ?_
            refine X_istore_n (i := 3) (ls' := [some (.ref 2), some (.int x1), some (.int x2), some (.int x4), some (.int x4)]) rfl rfl rfl (Nat.le_of_ble_eq_true rfl) rfl ?_
            refine S_iinc (c := 1) rfl rfl rfl hx4 rfl (by omega) (fun vz20 hvz20 => ?_)
            refine LW_ls (ls' := [some (.ref 2), some (.int x1), some (.int x2), some (.int x4), some (.int vz20)]) rfl ?_
            refine LW_goto (tgt := 5) rfl rfl ?_
            exact ih5 V x1 y1 hx1 (by omega) x2 y2 hx2 x4 y4 hx4 (by omega) vz20 vz20.toInt rfl (by omega)    (by omega)
theorem C_X5_wordFor_all {P : Par} {g : LH} {d : Nat}  : ∀ n : Nat, (∀ (V : Inv P g) (x1 : Int32) (y1 : Int) (hx1 : x1.toInt = y1) (hf1 : 0 ≤ y1 ∧ y1 ≤ 25) (x2 : Int32) (y2 : Int) (hx2 : x2.toInt = y2) (x3 : Int32) (y3 : Int) (hx3 : x3.toInt = y3) (hf3 : (-1) ≤ y3 ∧ y3 ≤ 23) (x4 : Int32) (y4 : Int) (hx4 : x4.toInt = y4) (hf4 : 0 ≤ y4 ∧ y4 ≤ 24) , (24 - y4) * 1 + 0 < (n : Int) → LW 48 (d + 3) 0 0 5 [some (.ref 2), some (.int x1), some (.int x2), some (.int x3), some (.int x4)] [] g (fun v g' => ∃ r : Int32, v = some (.int r) ∧ (-1) ≤ r.toInt ∧ r.toInt ≤ 23 ∧ g = g')) := by
  intro n
  induction n with
  | zero => exact fun V x1 y1 hx1 hf1 x2 y2 hx2 x3 y3 hx3 hf3 x4 y4 hx4 hf4 hmu => absurd hmu (by omega)
  | succ n ih => exact fun V x1 y1 hx1 hf1 x2 y2 hx2 x3 y3 hx3 hf3 x4 y4 hx4 hf4 hmu => C_X5_wordFor_5  V x1 y1 hx1 hf1 x2 y2 hx2 x3 y3 hx3 hf3 x4 y4 hx4 hf4 (by omega) ih
set_option maxRecDepth 10000 in
set_option maxHeartbeats 40000000 in
theorem C_X5_wordFor {P : Par} {g : LH} {d : Nat}  (V : Inv P g) (x1 : Int32) (y1 : Int) (hx1 : x1.toInt = y1) (hf1 : 0 ≤ y1 ∧ y1 ≤ 25) (x2 : Int32) (y2 : Int) (hx2 : x2.toInt = y2)   : LW 48 (d + 3) 0 0 0 (lEnt (mL 48) [.ref 2, .int x1, .int x2]) [] g (fun v g' => ∃ r : Int32, v = some (.int r) ∧ (-1) ≤ r.toInt ∧ r.toInt ≤ 23 ∧ g = g') := by
  refine LW_ls (ls' := [some (.ref 2), some (.int x1), some (.int x2), none, none]) rfl ?_
  refine X_iconst (v := (-1 : Int32)) rfl rfl rfl ?_
  refine X_istore_n (i := 3) (ls' := [some (.ref 2), some (.int x1), some (.int x2), some (.int (-1 : Int32)), none]) rfl rfl rfl (Nat.le_of_ble_eq_true rfl) rfl ?_
  refine X_iconst (v := (0 : Int32)) rfl rfl rfl ?_
  refine X_istore (i := 4) (ls' := [some (.ref 2), some (.int x1), some (.int x2), some (.int (-1 : Int32)), some (.int (0 : Int32))]) rfl rfl (Nat.le_of_ble_eq_true rfl) rfl ?_
  exact (C_X5_wordFor_all (((24 - 0) * 1 + 0) + 1 : Int).toNat) V x1 y1 hx1 (by omega) x2 y2 hx2 (-1 : Int32) (-1) (show (-1 : Int32).toInt = -1 from rfl) (by omega) (0 : Int32) 0 (show (0 : Int32).toInt = 0 from rfl) (by omega)    (by omega)
set_option maxRecDepth 10000 in
set_option maxHeartbeats 40000000 in
theorem C_X5_wordSaid {P : Par} {g : LH} {d : Nat}  (V : Inv P g) (x1 : Int32) (y1 : Int) (hx1 : x1.toInt = y1) (hf1 : 0 ≤ y1 ∧ y1 ≤ 7) (x2 : Int32) (y2 : Int) (hx2 : x2.toInt = y2) (hf2 : 0 ≤ y2) (x3 : Int32) (y3 : Int) (hx3 : x3.toInt = y3)   : LW 49 (d + 9) 0 0 0 (lEnt (mL 49) [.ref 2, .int x1, .int x2, .int x3]) [] g (fun v g' => ∃ r : Int32, v = some (.int r) ∧ (-1) ≤ r.toInt ∧ r.toInt ≤ 23 ∧ g = g') := by
  refine LW_ls (ls' := [some (.ref 2), some (.int x1), some (.int x2), some (.int x3), none]) rfl ?_
  refine X_aload_n rfl rfl rfl rfl ?_
  refine X_iload_n rfl rfl rfl rfl ?_
  refine X_iload_n rfl rfl rfl rfl ?_
  refine X_callV (as := [.int x1, .int x2]) (st := []) rfl rfl rfl (by decide) rfl (Nat.le_of_ble_eq_true rfl) (by decide) (Nat.le_of_ble_eq_true rfl) rfl ((congrFun V.1 2).trans s_2) (by decide) ?_
  refine LW_ls (ls' := [some (.ref 2), some (.int x1), some (.int x2)]) rfl ?_
  refine X_aload_n rfl rfl rfl rfl ?_
  refine X_iload_n rfl rfl rfl rfl ?_
  refine X_callV (as := [.int x1]) (st := []) rfl rfl rfl (by decide) rfl (Nat.le_of_ble_eq_true rfl) (by decide) (Nat.le_of_ble_eq_true rfl) rfl ((congrFun V.1 2).trans s_2) (by decide) ?_
  refine LW_ls (ls' := [some (.ref 2), some (.int x1)]) rfl ?_
  refine X_iload_n rfl rfl rfl rfl ?_
  refine S_if_lt (tgt := 22) rfl rfl rfl hx1 (fun q => absurd q (by omega)) (fun vh1 => ?_)
  refine X_iload_n rfl rfl rfl rfl ?_
  refine X_aload_n rfl rfl rfl rfl ?_
  refine S_getI rfl rfl rfl ((congrFun V.1 2).trans s_2) rfl (fun vz2 evz2 => ?_)
  have vf3 := K_10_1 (V.2.2.2.2.1 (2) (1) (Nat.le_of_ble_eq_true rfl)) rk_2
  rw [evz2] at vf3
  refine S_icmp_ge (tgt := 22) rfl rfl rfl hx1 rfl (fun vh4 => ?_) (fun vh4 => ?_)
  · refine X_iconst (v := (0 : Int32)) rfl rfl rfl ?_
    refine LW_ireturn (st := []) rfl rfl rfl ?_
    refine S_if_eq (tgt := 36) rfl rfl rfl (show (0 : Int32).toInt = 0 from rfl) (fun vh5 => ?_) (fun q => absurd q (by omega))
    refine X_iconst (v := (-1 : Int32)) rfl rfl rfl ?_
    refine LW_ireturn (st := []) rfl rfl rfl ?_
    refine X_istore (i := 4) (ls' := [some (.ref 2), some (.int x1), some (.int x2), some (.int x3), some (.int (-1 : Int32))]) rfl rfl (Nat.le_of_ble_eq_true rfl) rfl ?_
    refine X_iload rfl rfl rfl ?_
    refine X_iconst (v := (-1 : Int32)) rfl rfl rfl ?_
    refine S_icmp_ne (tgt := 18) rfl rfl rfl (show (-1 : Int32).toInt = -1 from rfl) (show (-1 : Int32).toInt = -1 from rfl) (fun q => absurd q (by omega)) (fun vh6 => ?_)
    refine X_iconst (v := (-1 : Int32)) rfl rfl rfl ?_
    refine LW_goto (tgt := 25) rfl rfl ?_
    exact LW_ireturn (st := []) rfl rfl rfl ⟨_, rfl, by decide, by decide, rfl⟩
  · refine X_iload_n rfl rfl rfl rfl ?_
    refine X_bipush (v := (8 : Int32)) rfl rfl rfl ?_
    refine S_icmp_ge (tgt := 22) rfl rfl rfl hx1 (show (8 : Int32).toInt = 8 from rfl) (fun q => absurd q (by omega)) (fun vh7 => ?_)
    refine X_iconst (v := (1 : Int32)) rfl rfl rfl ?_
    refine LW_goto (tgt := 23) rfl rfl ?_
    refine LW_ireturn (st := []) rfl rfl rfl ?_
    refine S_if_eq (tgt := 36) rfl rfl rfl (show (1 : Int32).toInt = 1 from rfl) (fun q => absurd q (by omega)) (fun vh8 => ?_)
    refine X_iload_n rfl rfl rfl rfl ?_
    refine S_if_lt (tgt := 36) rfl rfl rfl hx2 (fun q => absurd q (by omega)) (fun vh9 => ?_)
    refine X_iload_n rfl rfl rfl rfl ?_
    refine X_aload_n rfl rfl rfl rfl ?_
    refine X_getR (a := 7) rfl rfl rfl ((congrFun V.1 2).trans s_2) rfl ((congrFun (V.2.1 2 (by decide)) 6).trans r_2_6) ?_
    refine X_iload_n rfl rfl rfl rfl ?_
    refine S_iald rfl rfl ((congrFun V.1 7).trans s_7) hx1 (by omega) (fun vz10 evz10 => ?_)
    have vf11 := K_1 (V.2.2.2.2.1 (7) ((y1).toNat) (Nat.le_of_ble_eq_true rfl)) rk_7
    rw [evz10] at vf11
    refine S_icmp_ge (tgt := 36) rfl rfl rfl hx2 rfl (fun vh12 => ?_) (fun vh12 => ?_)
    · refine X_iconst (v := (-1 : Int32)) rfl rfl rfl ?_
      refine LW_ireturn (st := []) rfl rfl rfl ?_
      refine X_istore (i := 4) (ls' := [some (.ref 2), some (.int x1), some (.int x2), some (.int x3), some (.int (-1 : Int32))]) rfl rfl (Nat.le_of_ble_eq_true rfl) rfl ?_
      refine X_iload rfl rfl rfl ?_
      refine X_iconst (v := (-1 : Int32)) rfl rfl rfl ?_
      refine S_icmp_ne (tgt := 18) rfl rfl rfl (show (-1 : Int32).toInt = -1 from rfl) (show (-1 : Int32).toInt = -1 from rfl) (fun q => absurd q (by omega)) (fun vh13 => ?_)
      refine X_iconst (v := (-1 : Int32)) rfl rfl rfl ?_
      refine LW_goto (tgt := 25) rfl rfl ?_
      exact LW_ireturn (st := []) rfl rfl rfl ⟨_, rfl, by decide, by decide, rfl⟩
    · refine X_aload_n rfl rfl rfl rfl ?_
      refine X_getR (a := 9) rfl rfl rfl ((congrFun V.1 2).trans s_2) rfl ((congrFun (V.2.1 2 (by decide)) 8).trans r_2_8) ?_
      refine X_iload_n rfl rfl rfl rfl ?_
      refine X_bipush (v := (8 : Int32)) rfl rfl rfl ?_
      refine S_imul rfl rfl hx1 (show (8 : Int32).toInt = 8 from rfl) (by omega) (fun vz14 hvz14 => ?_)
      refine X_iload_n rfl rfl rfl rfl ?_
      refine S_iadd rfl rfl rfl hx2 (by omega) (fun vz15 hvz15 => ?_)
      refine S_iald rfl rfl ((congrFun V.1 9).trans s_9) rfl (by omega) (fun vz16 evz16 => ?_)
      have vf17 := K_3 (V.2.2.2.2.1 (9) ((vz15.toInt).toNat) (Nat.le_of_ble_eq_true rfl)) rk_9
      rw [evz16] at vf17
      refine LW_goto (tgt := 37) rfl rfl ?_
      refine LW_ireturn (st := []) rfl rfl rfl ?_
      refine X_istore (i := 4) (ls' := [some (.ref 2), some (.int x1), some (.int x2), some (.int x3), some (.int vz16)]) rfl rfl (Nat.le_of_ble_eq_true rfl) rfl ?_
      refine X_iload rfl rfl rfl ?_
      refine X_iconst (v := (-1 : Int32)) rfl rfl rfl ?_
      refine S_icmp_ne (tgt := 18) rfl rfl rfl rfl (show (-1 : Int32).toInt = -1 from rfl) (fun vh18 => ?_) (fun q => absurd q (by omega))
      refine X_aload_n rfl rfl rfl rfl ?_
      refine X_iload rfl rfl rfl ?_
      refine X_iload_n rfl rfl rfl rfl ?_
      refine Y_callV (as := [.int vz16, .int x3]) (st := []) rfl rfl rfl (by decide) rfl (Nat.le_of_ble_eq_true rfl) (by decide) (Nat.le_of_ble_eq_true rfl) rfl ((congrFun V.1 2).trans s_2) (by decide) (C_X5_wordFor V vz16 vz16.toInt rfl (by omega) x3 y3 hx3 ) ?_
      rintro _ g' ⟨vr19, rfl, hrvr190, hrvr191, hgg⟩
      subst hgg
      have hr := (rfl : vr19.toInt = vr19.toInt)
      exact LW_ireturn (st := []) rfl rfl rfl ⟨_, rfl, by omega, by omega, rfl⟩
set_option maxRecDepth 10000 in
set_option maxHeartbeats 40000000 in
theorem C_X5_sensesLeft_4 {P : Par} {g : LH} {d n : Nat}  (V : Inv P g) (x1 : Int32) (y1 : Int) (hx1 : x1.toInt = y1) (x2 : Int32) (y2 : Int) (hx2 : x2.toInt = y2) (hf2 : 0 ≤ y2 ∧ y2 ≤ 1023) (x3 : Int32) (y3 : Int) (hx3 : x3.toInt = y3) (hf3 : 0 ≤ y3 ∧ y3 ≤ 24)  (hmu : (24 - y3) * 1 + 0 < (n : Int) + 1) (ih4 : ∀ (V : Inv P g) (x1 : Int32) (y1 : Int) (hx1 : x1.toInt = y1) (x2 : Int32) (y2 : Int) (hx2 : x2.toInt = y2) (hf2 : 0 ≤ y2 ∧ y2 ≤ 1023) (x3 : Int32) (y3 : Int) (hx3 : x3.toInt = y3) (hf3 : 0 ≤ y3 ∧ y3 ≤ 24) , (24 - y3) * 1 + 0 < (n : Int) → LW 51 (d + 3) 0 0 4 [some (.ref 2), some (.int x1), some (.int x2), some (.int x3)] [] g (fun v g' => ∃ r : Int32, v = some (.int r) ∧ 0 ≤ r.toInt ∧ r.toInt ≤ 1023 ∧ g = g')) : LW 51 (d + 3) 0 0 4 [some (.ref 2), some (.int x1), some (.int x2), some (.int x3)] [] g (fun v g' => ∃ r : Int32, v = some (.int r) ∧ 0 ≤ r.toInt ∧ r.toInt ≤ 1023 ∧ g = g') := by
  refine X_iload_n rfl rfl rfl rfl ?_
  refine X_aload_n rfl rfl rfl rfl ?_
  refine S_getI rfl rfl rfl ((congrFun V.1 2).trans s_2) rfl (fun vz1 evz1 => ?_)
  have vf2 := K_10_0 (V.2.2.2.2.1 (2) (0) (Nat.le_of_ble_eq_true rfl)) rk_2
  rw [evz1] at vf2
  refine S_icmp_ge (tgt := 40) rfl rfl rfl hx3 rfl (fun vh3 => ?_) (fun vh3 => ?_)
  · refine X_iload_n rfl rfl rfl rfl ?_
    have hr := hx2
    exact LW_ireturn (st := []) rfl rfl rfl ⟨_, rfl, by omega, by omega, rfl⟩
  · refine X_aload_n rfl rfl rfl rfl ?_
    refine X_getR (a := 5) rfl rfl rfl ((congrFun V.1 2).trans s_2) rfl ((congrFun (V.2.1 2 (by decide)) 4).trans r_2_4) ?_
    refine X_iload_n rfl rfl rfl rfl ?_
    refine S_iald rfl rfl ((congrFun V.1 5).trans s_5) hx3 (by omega) (fun vz4 evz4 => ?_)
    refine X_iload_n rfl rfl rfl rfl ?_
    refine S_iandT rfl rfl (fun vz5 => ?_)
    refine S_if_ne (tgt := 34) rfl rfl rfl rfl (fun vh6 => ?_) (fun vh6 => ?_)
    · refine S_iinc (c := 1) rfl rfl rfl hx3 rfl (by omega) (fun vz7 hvz7 => ?_)
      refine LW_ls (ls' := [some (.ref 2), some (.int x1), some (.int x2), some (.int vz7)]) rfl ?_
      refine LW_goto (tgt := 4) rfl rfl ?_
      exact ih4 V x1 y1 hx1 x2 y2 hx2 (by omega) vz7 vz7.toInt rfl (by omega)    (by omega)
    · refine X_iload_n rfl rfl rfl rfl ?_
      refine X_iconst (v := (1 : Int32)) rfl rfl rfl ?_
      refine X_aload_n rfl rfl rfl rfl ?_
      refine X_getR (a := 4) rfl rfl rfl ((congrFun V.1 2).trans s_2) rfl ((congrFun (V.2.1 2 (by decide)) 3).trans r_2_3) ?_
      refine X_iload_n rfl rfl rfl rfl ?_
      refine S_iald rfl rfl ((congrFun V.1 4).trans s_4) hx3 (by omega) (fun vz8 evz8 => ?_)
      have vf9 := K_2 (V.2.2.2.2.1 (4) ((y3).toNat) (Nat.le_of_ble_eq_true rfl)) rk_4
      rw [evz8] at vf9
      refine S_shl1 (n := 9) rfl rfl rfl (by omega) (fun vz10 hvz10 => ?_)
      refine S_ior (n := 10) rfl rfl hx2 rfl (by omega) (by omega) (fun vz11 hvz11 => ?_)
      refine X_istore_n (i := 2) (ls' := [some (.ref 2), some (.int x1), some (.int vz11), some (.int x3)]) rfl rfl rfl (Nat.le_of_ble_eq_true rfl) rfl ?_
      refine S_iinc (c := 1) rfl rfl rfl hx3 rfl (by omega) (fun vz12 hvz12 => ?_)
      refine LW_ls (ls' := [some (.ref 2), some (.int x1), some (.int vz11), some (.int vz12)]) rfl ?_
      refine LW_goto (tgt := 4) rfl rfl ?_
      exact ih4 V x1 y1 hx1 vz11 vz11.toInt rfl (by omega) vz12 vz12.toInt rfl (by omega)    (by omega)
theorem C_X5_sensesLeft_all {P : Par} {g : LH} {d : Nat}  : ∀ n : Nat, (∀ (V : Inv P g) (x1 : Int32) (y1 : Int) (hx1 : x1.toInt = y1) (x2 : Int32) (y2 : Int) (hx2 : x2.toInt = y2) (hf2 : 0 ≤ y2 ∧ y2 ≤ 1023) (x3 : Int32) (y3 : Int) (hx3 : x3.toInt = y3) (hf3 : 0 ≤ y3 ∧ y3 ≤ 24) , (24 - y3) * 1 + 0 < (n : Int) → LW 51 (d + 3) 0 0 4 [some (.ref 2), some (.int x1), some (.int x2), some (.int x3)] [] g (fun v g' => ∃ r : Int32, v = some (.int r) ∧ 0 ≤ r.toInt ∧ r.toInt ≤ 1023 ∧ g = g')) := by
  intro n
  induction n with
  | zero => exact fun V x1 y1 hx1 x2 y2 hx2 hf2 x3 y3 hx3 hf3 hmu => absurd hmu (by omega)
  | succ n ih => exact fun V x1 y1 hx1 x2 y2 hx2 hf2 x3 y3 hx3 hf3 hmu => C_X5_sensesLeft_4  V x1 y1 hx1 x2 y2 hx2 hf2 x3 y3 hx3 hf3 (by omega) ih
set_option maxRecDepth 10000 in
set_option maxHeartbeats 40000000 in
theorem C_X5_sensesLeft {P : Par} {g : LH} {d : Nat}  (V : Inv P g) (x1 : Int32) (y1 : Int) (hx1 : x1.toInt = y1)   : LW 51 (d + 3) 0 0 0 (lEnt (mL 51) [.ref 2, .int x1]) [] g (fun v g' => ∃ r : Int32, v = some (.int r) ∧ 0 ≤ r.toInt ∧ r.toInt ≤ 1023 ∧ g = g') := by
  refine LW_ls (ls' := [some (.ref 2), some (.int x1), none, none]) rfl ?_
  refine X_iconst (v := (0 : Int32)) rfl rfl rfl ?_
  refine X_istore_n (i := 2) (ls' := [some (.ref 2), some (.int x1), some (.int (0 : Int32)), none]) rfl rfl rfl (Nat.le_of_ble_eq_true rfl) rfl ?_
  refine X_iconst (v := (0 : Int32)) rfl rfl rfl ?_
  refine X_istore_n (i := 3) (ls' := [some (.ref 2), some (.int x1), some (.int (0 : Int32)), some (.int (0 : Int32))]) rfl rfl rfl (Nat.le_of_ble_eq_true rfl) rfl ?_
  exact (C_X5_sensesLeft_all (((24 - 0) * 1 + 0) + 1 : Int).toNat) V x1 y1 hx1 (0 : Int32) 0 (show (0 : Int32).toInt = 0 from rfl) (by omega) (0 : Int32) 0 (show (0 : Int32).toInt = 0 from rfl) (by omega)    (by omega)
set_option maxRecDepth 10000 in
set_option maxHeartbeats 40000000 in
theorem C_X1_conclude_110 {P : Par} {g g0 : LH} {d n : Nat}  (V : Inv P g) (hG : Gr g = Gr g0) (x1 : Int32) (y1 : Int) (hx1 : x1.toInt = y1) (hf1 : 0 ≤ y1 ∧ y1 ≤ 7) (x4 : Int32) (y4 : Int) (hx4 : x4.toInt = y4) (hf4 : 0 ≤ y4 ∧ y4 ≤ 9) (x5 : Int32) (y5 : Int) (hx5 : x5.toInt = y5) (x6 : Int32) (y6 : Int) (hx6 : x6.toInt = y6) (hf6 : 0 ≤ y6 ∧ y6 ≤ 8) (hc10_1 : 0 ≤ (Gi g 10 1).toInt ∧ (Gi g 10 1).toInt ≤ 999) (hmu : (8 - y6) * 1 + 0 < (n : Int) + 1) (ih110 : ∀ (g : LH) (V : Inv P g) (hG : Gr g = Gr g0) (x1 : Int32) (y1 : Int) (hx1 : x1.toInt = y1) (hf1 : 0 ≤ y1 ∧ y1 ≤ 7) (x4 : Int32) (y4 : Int) (hx4 : x4.toInt = y4) (hf4 : 0 ≤ y4 ∧ y4 ≤ 9) (x5 : Int32) (y5 : Int) (hx5 : x5.toInt = y5) (x6 : Int32) (y6 : Int) (hx6 : x6.toInt = y6) (hf6 : 0 ≤ y6 ∧ y6 ≤ 8) (hc10_1 : 0 ≤ (Gi g 10 1).toInt ∧ (Gi g 10 1).toInt ≤ 999), (8 - y6) * 1 + 0 < (n : Int) → LW 11 (d + 15) 0 0 110 [some (.ref 342), some (.int x1), some (.ref 2), some (.ref 136), some (.int x4), some (.int x5), some (.int x6)] [] g (fun v g' => ∃ r : Int32, v = some (.int r) ∧ (-1) ≤ r.toInt ∧ r.toInt ≤ 9 ∧ Inv P g' ∧ Gr g' = Gr g0)) : LW 11 (d + 15) 0 0 110 [some (.ref 342), some (.int x1), some (.ref 2), some (.ref 136), some (.int x4), some (.int x5), some (.int x6)] [] g (fun v g' => ∃ r : Int32, v = some (.int r) ∧ (-1) ≤ r.toInt ∧ r.toInt ≤ 9 ∧ Inv P g' ∧ Gr g' = Gr g0) := by
  obtain ⟨vz1, evz1⟩ : ∃ z, Gi g 10 1 = z := ⟨_, rfl⟩
  rw [evz1] at hc10_1
  refine X_iload rfl rfl rfl ?_
  refine X_aload_n rfl rfl rfl rfl ?_
  refine X_getR (a := 7) rfl rfl rfl ((congrFun V.1 2).trans s_2) rfl ((congrFun (V.2.1 2 (by decide)) 6).trans r_2_6) ?_
  refine X_iload_n rfl rfl rfl rfl ?_
  refine S_iald rfl rfl ((congrFun V.1 7).trans s_7) hx1 (by omega) (fun vz2 evz2 => ?_)
  have vf3 := K_1 (V.2.2.2.2.1 (7) ((y1).toNat) (Nat.le_of_ble_eq_true rfl)) rk_7
  rw [evz2] at vf3
  refine S_icmp_ge (tgt := 149) rfl rfl rfl hx6 rfl (fun vh4 => ?_) (fun vh4 => ?_)
  · refine X_aload_n rfl rfl rfl rfl ?_
    refine X_getR (a := 10) rfl rfl rfl ((congrFun V.1 342).trans s_342) rfl ((congrFun (V.2.1 342 (by decide)) 1).trans r_342_1) ?_
    refine X_dup rfl rfl rfl ?_
    refine S_getI rfl rfl rfl ((congrFun V.1 10).trans s_10) rfl (fun vz5 evz5 => ?_)
    have vf6 := K_11_3 (V.2.2.2.2.1 (10) (3) (Nat.le_of_ble_eq_true rfl)) rk_10
    rw [evz5] at vf6
    refine X_iconst (v := (1 : Int32)) rfl rfl rfl ?_
    refine S_iadd rfl rfl rfl (show (1 : Int32).toInt = 1 from rfl) (by omega) (fun vz7 hvz7 => ?_)
    refine S_putI (I := Inv _) rfl rfl rfl ((congrFun V.1 10).trans s_10) rfl rfl rfl rfl (Inv_putI V (Nat.le_of_ble_eq_true rfl) (Or.inl (by decide)) (Q_11_3 rk_10 (by omega))) (fun g V ve8 vn9 hq => ?_)
    have hG := hq.trans hG
    have evz1 := (vn9 (10) 1 (Or.inr (by decide))).trans evz1
    have evz2 := (vn9 (7) ((y1).toNat) (Or.inl (by decide))).trans evz2
    refine X_iload rfl rfl rfl ?_
    have hr := hx4
    exact LW_ireturn (st := []) rfl rfl rfl ⟨_, rfl, by omega, by omega, V, hG⟩
  · refine X_aload_n rfl rfl rfl rfl ?_
    refine X_getR (a := 140) rfl rfl rfl ((congrFun V.1 136).trans s_136) rfl ((congrFun (V.2.1 136 (by decide)) 3).trans r_136_3) ?_
    refine X_iload rfl rfl rfl ?_
    refine X_bipush (v := (8 : Int32)) rfl rfl rfl ?_
    refine S_imul rfl rfl hx4 (show (8 : Int32).toInt = 8 from rfl) (by omega) (fun vz10 hvz10 => ?_)
    refine X_iload rfl rfl rfl ?_
    refine S_iadd rfl rfl rfl hx6 (by omega) (fun vz11 hvz11 => ?_)
    refine X_aload_n rfl rfl rfl rfl ?_
    refine X_iload_n rfl rfl rfl rfl ?_
    refine X_iload rfl rfl rfl ?_
    refine X_iload rfl rfl rfl ?_
    refine Y_callV (as := [.int x1, .int x6, .int x5]) (st := [.int vz11, .ref 140]) rfl rfl rfl (by decide) rfl (Nat.le_of_ble_eq_true rfl) (by decide) (Nat.le_of_ble_eq_true rfl) rfl ((congrFun V.1 2).trans s_2) (by decide) (C_X5_wordSaid V x1 y1 hx1 (by omega) x6 y6 hx6 (by omega) x5 y5 hx5 ) ?_
    rintro _ g' ⟨vr12, rfl, hrvr120, hrvr121, hgg⟩
    subst hgg
    refine S_iast (I := Inv _) rfl rfl ((congrFun V.1 140).trans s_140) rfl (by omega) (Inv_putI V (Nat.le_of_ble_eq_true rfl) (Or.inl (by decide)) (Q_0 rk_140)) (fun g V ve13 vn14 hq => ?_)
    have hG := hq.trans hG
    have evz1 := (vn14 (10) 1 (Or.inl (by decide))).trans evz1
    have evz2 := (vn14 (7) ((y1).toNat) (Or.inl (by decide))).trans evz2
    refine S_iinc (c := 1) rfl rfl rfl hx6 rfl (by omega) (fun vz15 hvz15 => ?_)
    refine LW_ls (ls' := [some (.ref 342), some (.int x1), some (.ref 2), some (.ref 136), some (.int x4), some (.int x5), some (.int vz15)]) rfl ?_
    refine LW_goto (tgt := 110) rfl rfl ?_
    exact ih110 _ V hG x1 y1 hx1 (by omega) x4 y4 hx4 (by omega) x5 y5 hx5 vz15 vz15.toInt rfl (by omega) (by rw [evz1]; omega)   (by omega)
theorem C_X1_conclude_all {P : Par} {g0 : LH} {d : Nat}  : ∀ n : Nat, (∀ (g : LH) (V : Inv P g) (hG : Gr g = Gr g0) (x1 : Int32) (y1 : Int) (hx1 : x1.toInt = y1) (hf1 : 0 ≤ y1 ∧ y1 ≤ 7) (x4 : Int32) (y4 : Int) (hx4 : x4.toInt = y4) (hf4 : 0 ≤ y4 ∧ y4 ≤ 9) (x5 : Int32) (y5 : Int) (hx5 : x5.toInt = y5) (x6 : Int32) (y6 : Int) (hx6 : x6.toInt = y6) (hf6 : 0 ≤ y6 ∧ y6 ≤ 8) (hc10_1 : 0 ≤ (Gi g 10 1).toInt ∧ (Gi g 10 1).toInt ≤ 999), (8 - y6) * 1 + 0 < (n : Int) → LW 11 (d + 15) 0 0 110 [some (.ref 342), some (.int x1), some (.ref 2), some (.ref 136), some (.int x4), some (.int x5), some (.int x6)] [] g (fun v g' => ∃ r : Int32, v = some (.int r) ∧ (-1) ≤ r.toInt ∧ r.toInt ≤ 9 ∧ Inv P g' ∧ Gr g' = Gr g0)) := by
  intro n
  induction n with
  | zero => exact fun g V hG x1 y1 hx1 hf1 x4 y4 hx4 hf4 x5 y5 hx5 x6 y6 hx6 hf6 hc10_1 hmu => absurd hmu (by omega)
  | succ n ih => exact fun g V hG x1 y1 hx1 hf1 x4 y4 hx4 hf4 x5 y5 hx5 x6 y6 hx6 hf6 hc10_1 hmu => C_X1_conclude_110  V hG x1 y1 hx1 hf1 x4 y4 hx4 hf4 x5 y5 hx5 x6 y6 hx6 hf6 hc10_1 (by omega) ih
set_option maxRecDepth 10000 in
set_option maxHeartbeats 40000000 in
theorem C_X1_conclude {P : Par} {g : LH} {d : Nat}  (V : Inv P g) (x1 : Int32) (y1 : Int) (hx1 : x1.toInt = y1)   : LW 11 (d + 15) 0 0 0 (lEnt (mL 11) [.ref 342, .int x1]) [] g (fun v g' => ∃ r : Int32, v = some (.int r) ∧ (-1) ≤ r.toInt ∧ r.toInt ≤ 9 ∧ Inv P g' ∧ Gr g' = Gr g) := by
  refine LW_ls (ls' := [some (.ref 342), some (.int x1), none, none, none, none, none]) rfl ?_
  have hG : Gr g = Gr g := rfl
  refine X_aload_n rfl rfl rfl rfl ?_
  refine X_getR (a := 1) rfl rfl rfl ((congrFun V.1 342).trans s_342) rfl ((congrFun (V.2.1 342 (by decide)) 0).trans r_342_0) ?_
  refine X_getR (a := 2) rfl rfl rfl ((congrFun V.1 1).trans s_1) rfl ((congrFun (V.2.1 1 (by decide)) 0).trans r_1_0) ?_
  refine X_astore_n (i := 2) (ls' := [some (.ref 342), some (.int x1), some (.ref 2), none, none, none, none]) rfl rfl rfl (Nat.le_of_ble_eq_true rfl) rfl ?_
  refine X_aload_n rfl rfl rfl rfl ?_
  refine X_getR (a := 1) rfl rfl rfl ((congrFun V.1 342).trans s_342) rfl ((congrFun (V.2.1 342 (by decide)) 0).trans r_342_0) ?_
  refine X_getR (a := 136) rfl rfl rfl ((congrFun V.1 1).trans s_1) rfl ((congrFun (V.2.1 1 (by decide)) 3).trans r_1_3) ?_
  refine X_astore_n (i := 3) (ls' := [some (.ref 342), some (.int x1), some (.ref 2), some (.ref 136), none, none, none]) rfl rfl rfl (Nat.le_of_ble_eq_true rfl) rfl ?_
  refine X_aload_n rfl rfl rfl rfl ?_
  refine X_getR (a := 10) rfl rfl rfl ((congrFun V.1 342).trans s_342) rfl ((congrFun (V.2.1 342 (by decide)) 1).trans r_342_1) ?_
  refine S_getI rfl rfl rfl ((congrFun V.1 10).trans s_10) rfl (fun vz1 evz1 => ?_)
  have vf2 := K_11_3 (V.2.2.2.2.1 (10) (3) (Nat.le_of_ble_eq_true rfl)) rk_10
  rw [evz1] at vf2
  refine X_istore (i := 4) (ls' := [some (.ref 342), some (.int x1), some (.ref 2), some (.ref 136), some (.int vz1), none, none]) rfl rfl (Nat.le_of_ble_eq_true rfl) rfl ?_
  refine X_aload_n rfl rfl rfl rfl ?_
  refine X_getR (a := 10) rfl rfl rfl ((congrFun V.1 342).trans s_342) rfl ((congrFun (V.2.1 342 (by decide)) 1).trans r_342_1) ?_
  refine Y_callV (as := []) (st := []) rfl rfl rfl (by decide) rfl (Nat.le_of_ble_eq_true rfl) (by decide) (Nat.le_of_ble_eq_true rfl) rfl ((congrFun V.1 10).trans s_10) (by decide) (C_X9_missing V  ) ?_
  rintro _ g' ⟨vr3, rfl, hgg⟩
  subst hgg
  refine X_istore (i := 5) (ls' := [some (.ref 342), some (.int x1), some (.ref 2), some (.ref 136), some (.int vz1), some (.int vr3), none]) rfl rfl (Nat.le_of_ble_eq_true rfl) rfl ?_
  refine X_iload rfl rfl rfl ?_
  refine S_if_lt (tgt := 56) rfl rfl rfl rfl (fun q => absurd q (by omega)) (fun vh4 => ?_)
  refine X_iload rfl rfl rfl ?_
  refine X_bipush (v := (10 : Int32)) rfl rfl rfl ?_
  refine S_icmp_ge (tgt := 56) rfl rfl rfl rfl (show (10 : Int32).toInt = 10 from rfl) (fun vh5 => ?_) (fun vh5 => ?_)
  · refine X_iconst (v := (-1 : Int32)) rfl rfl rfl ?_
    exact LW_ireturn (st := []) rfl rfl rfl ⟨_, rfl, by decide, by decide, V, hG⟩
  · refine X_aload_n rfl rfl rfl rfl ?_
    refine X_iload_n rfl rfl rfl rfl ?_
    refine X_iload rfl rfl rfl ?_
    refine X_callV (as := [.int x1, .int vr3]) (st := []) rfl rfl rfl (by decide) rfl (Nat.le_of_ble_eq_true rfl) (by decide) (Nat.le_of_ble_eq_true rfl) rfl ((congrFun V.1 2).trans s_2) (by decide) ?_
    refine LW_ls (ls' := [some (.ref 2), some (.int x1), some (.int vr3)]) rfl ?_
    refine X_aload_n rfl rfl rfl rfl ?_
    refine X_iload_n rfl rfl rfl rfl ?_
    refine X_callV (as := [.int x1]) (st := []) rfl rfl rfl (by decide) rfl (Nat.le_of_ble_eq_true rfl) (by decide) (Nat.le_of_ble_eq_true rfl) rfl ((congrFun V.1 2).trans s_2) (by decide) ?_
    refine LW_ls (ls' := [some (.ref 2), some (.int x1)]) rfl ?_
    refine X_iload_n rfl rfl rfl rfl ?_
    refine S_if_lt (tgt := 22) rfl rfl rfl hx1 (fun vh6 => ?_) (fun vh6 => ?_)
    · refine X_iconst (v := (0 : Int32)) rfl rfl rfl ?_
      refine LW_ireturn (st := []) rfl rfl rfl ?_
      refine S_if_eq (tgt := 29) rfl rfl rfl (show (0 : Int32).toInt = 0 from rfl) (fun vh7 => ?_) (fun q => absurd q (by omega))
      refine X_iconst (v := (0 : Int32)) rfl rfl rfl ?_
      refine LW_ireturn (st := []) rfl rfl rfl ?_
      refine S_if_ne (tgt := 58) rfl rfl rfl (show (0 : Int32).toInt = 0 from rfl) (fun q => absurd q (by omega)) (fun vh8 => ?_)
      refine X_iconst (v := (-1 : Int32)) rfl rfl rfl ?_
      exact LW_ireturn (st := []) rfl rfl rfl ⟨_, rfl, by decide, by decide, V, hG⟩
    · refine X_iload_n rfl rfl rfl rfl ?_
      refine X_aload_n rfl rfl rfl rfl ?_
      refine S_getI rfl rfl rfl ((congrFun V.1 2).trans s_2) rfl (fun vz9 evz9 => ?_)
      have vf10 := K_10_1 (V.2.2.2.2.1 (2) (1) (Nat.le_of_ble_eq_true rfl)) rk_2
      rw [evz9] at vf10
      refine S_icmp_ge (tgt := 22) rfl rfl rfl hx1 rfl (fun vh11 => ?_) (fun vh11 => ?_)
      · refine X_iconst (v := (0 : Int32)) rfl rfl rfl ?_
        refine LW_ireturn (st := []) rfl rfl rfl ?_
        refine S_if_eq (tgt := 29) rfl rfl rfl (show (0 : Int32).toInt = 0 from rfl) (fun vh12 => ?_) (fun q => absurd q (by omega))
        refine X_iconst (v := (0 : Int32)) rfl rfl rfl ?_
        refine LW_ireturn (st := []) rfl rfl rfl ?_
        refine S_if_ne (tgt := 58) rfl rfl rfl (show (0 : Int32).toInt = 0 from rfl) (fun q => absurd q (by omega)) (fun vh13 => ?_)
        refine X_iconst (v := (-1 : Int32)) rfl rfl rfl ?_
        exact LW_ireturn (st := []) rfl rfl rfl ⟨_, rfl, by decide, by decide, V, hG⟩
      · refine X_iload_n rfl rfl rfl rfl ?_
        refine X_bipush (v := (8 : Int32)) rfl rfl rfl ?_
        refine S_icmp_ge (tgt := 22) rfl rfl rfl hx1 (show (8 : Int32).toInt = 8 from rfl) (fun q => absurd q (by omega)) (fun vh14 => ?_)
        refine X_iconst (v := (1 : Int32)) rfl rfl rfl ?_
        refine LW_goto (tgt := 23) rfl rfl ?_
        refine LW_ireturn (st := []) rfl rfl rfl ?_
        refine S_if_eq (tgt := 29) rfl rfl rfl (show (1 : Int32).toInt = 1 from rfl) (fun q => absurd q (by omega)) (fun vh15 => ?_)
        refine X_aload_n rfl rfl rfl rfl ?_
        refine X_getR (a := 8) rfl rfl rfl ((congrFun V.1 2).trans s_2) rfl ((congrFun (V.2.1 2 (by decide)) 7).trans r_2_7) ?_
        refine X_iload_n rfl rfl rfl rfl ?_
        refine S_iald rfl rfl ((congrFun V.1 8).trans s_8) hx1 (by omega) (fun vz16 evz16 => ?_)
        refine X_aload_n rfl rfl rfl rfl ?_
        refine X_iload_n rfl rfl rfl rfl ?_
        refine Y_callV (as := [.int vr3]) (st := [.int vz16]) rfl rfl rfl (by decide) rfl (Nat.le_of_ble_eq_true rfl) (by decide) (Nat.le_of_ble_eq_true rfl) rfl ((congrFun V.1 2).trans s_2) (by decide) (C_X5_sensesLeft V vr3 vr3.toInt rfl ) ?_
        rintro _ g' ⟨vr17, rfl, hrvr170, hrvr171, hgg⟩
        subst hgg
        refine X_iconst (v := (-1 : Int32)) rfl rfl rfl ?_
        refine S_ixorT rfl rfl (fun vz18 => ?_)
        refine S_iandT rfl rfl (fun vz19 => ?_)
        refine S_if_ne (tgt := 29) rfl rfl rfl rfl (fun vh20 => ?_) (fun vh20 => ?_)
        · refine X_iconst (v := (0 : Int32)) rfl rfl rfl ?_
          refine LW_ireturn (st := []) rfl rfl rfl ?_
          refine S_if_ne (tgt := 58) rfl rfl rfl (show (0 : Int32).toInt = 0 from rfl) (fun q => absurd q (by omega)) (fun vh21 => ?_)
          refine X_iconst (v := (-1 : Int32)) rfl rfl rfl ?_
          exact LW_ireturn (st := []) rfl rfl rfl ⟨_, rfl, by decide, by decide, V, hG⟩
        · refine X_iconst (v := (1 : Int32)) rfl rfl rfl ?_
          refine LW_goto (tgt := 30) rfl rfl ?_
          refine LW_ireturn (st := []) rfl rfl rfl ?_
          refine S_if_ne (tgt := 58) rfl rfl rfl (show (1 : Int32).toInt = 1 from rfl) (fun vh22 => ?_) (fun q => absurd q (by omega))
          refine X_aload_n rfl rfl rfl rfl ?_
          refine X_getR (a := 1) rfl rfl rfl ((congrFun V.1 342).trans s_342) rfl ((congrFun (V.2.1 342 (by decide)) 0).trans r_342_0) ?_
          refine X_getR (a := 14) rfl rfl rfl ((congrFun V.1 1).trans s_1) rfl ((congrFun (V.2.1 1 (by decide)) 2).trans r_1_2) ?_
          refine X_aload_n rfl rfl rfl rfl ?_
          refine X_getR (a := 10) rfl rfl rfl ((congrFun V.1 342).trans s_342) rfl ((congrFun (V.2.1 342 (by decide)) 1).trans r_342_1) ?_
          refine Y_callV (as := [.ref 10]) (st := []) rfl rfl rfl (by decide) rfl (Nat.le_of_ble_eq_true rfl) (by decide) (Nat.le_of_ble_eq_true rfl) rfl ((congrFun V.1 14).trans s_14) (by decide) (C_X3_keep_14_10 V  ) ?_
          rintro _ g ⟨rfl, V, hq⟩
          have hG := hq.trans hG
          refine X_aload_n rfl rfl rfl rfl ?_
          refine X_getR (a := 137) rfl rfl rfl ((congrFun V.1 136).trans s_136) rfl ((congrFun (V.2.1 136 (by decide)) 0).trans r_136_0) ?_
          refine X_iload rfl rfl rfl ?_
          refine X_iload_n rfl rfl rfl rfl ?_
          refine S_iast (I := Inv _) rfl rfl ((congrFun V.1 137).trans s_137) rfl (by omega) (Inv_putI V (Nat.le_of_ble_eq_true rfl) (Or.inl (by decide)) (Q_0 rk_137)) (fun g V ve24 vn25 hq => ?_)
          have hG := hq.trans hG
          refine X_aload_n rfl rfl rfl rfl ?_
          refine X_getR (a := 138) rfl rfl rfl ((congrFun V.1 136).trans s_136) rfl ((congrFun (V.2.1 136 (by decide)) 1).trans r_136_1) ?_
          refine X_iload rfl rfl rfl ?_
          refine X_aload_n rfl rfl rfl rfl ?_
          refine X_getR (a := 10) rfl rfl rfl ((congrFun V.1 342).trans s_342) rfl ((congrFun (V.2.1 342 (by decide)) 1).trans r_342_1) ?_
          refine S_getI rfl rfl rfl ((congrFun V.1 10).trans s_10) rfl (fun vz26 evz26 => ?_)
          have vf27 := K_11_1 (V.2.2.2.2.1 (10) (1) (Nat.le_of_ble_eq_true rfl)) rk_10
          rw [evz26] at vf27
          refine S_iast (I := Inv _) rfl rfl ((congrFun V.1 138).trans s_138) rfl (by omega) (Inv_putI V (Nat.le_of_ble_eq_true rfl) (Or.inl (by decide)) (Q_0 rk_138)) (fun g V ve28 vn29 hq => ?_)
          have hG := hq.trans hG
          have evz26 := (vn29 (10) 1 (Or.inl (by decide))).trans evz26
          refine X_aload_n rfl rfl rfl rfl ?_
          refine X_getR (a := 139) rfl rfl rfl ((congrFun V.1 136).trans s_136) rfl ((congrFun (V.2.1 136 (by decide)) 2).trans r_136_2) ?_
          refine X_iload rfl rfl rfl ?_
          refine X_aload_n rfl rfl rfl rfl ?_
          refine X_getR (a := 7) rfl rfl rfl ((congrFun V.1 2).trans s_2) rfl ((congrFun (V.2.1 2 (by decide)) 6).trans r_2_6) ?_
          refine X_iload_n rfl rfl rfl rfl ?_
          refine S_iald rfl rfl ((congrFun V.1 7).trans s_7) hx1 (by omega) (fun vz30 evz30 => ?_)
          have vf31 := K_1 (V.2.2.2.2.1 (7) ((y1).toNat) (Nat.le_of_ble_eq_true rfl)) rk_7
          rw [evz30] at vf31
          refine S_iast (I := Inv _) rfl rfl ((congrFun V.1 139).trans s_139) rfl (by omega) (Inv_putI V (Nat.le_of_ble_eq_true rfl) (Or.inl (by decide)) (Q_1 rk_139 (by omega))) (fun g V ve32 vn33 hq => ?_)
          have hG := hq.trans hG
          have evz26 := (vn33 (10) 1 (Or.inl (by decide))).trans evz26
          have evz30 := (vn33 (7) ((y1).toNat) (Or.inl (by decide))).trans evz30
          refine X_iconst (v := (0 : Int32)) rfl rfl rfl ?_
          refine X_istore (i := 6) (ls' := [some (.ref 342), some (.int x1), some (.ref 2), some (.ref 136), some (.int vz1), some (.int vr3), some (.int (0 : Int32))]) rfl rfl (Nat.le_of_ble_eq_true rfl) rfl ?_
          exact (C_X1_conclude_all (((8 - 0) * 1 + 0) + 1 : Int).toNat) _ V hG x1 y1 hx1 (by omega) vz1 vz1.toInt rfl (by omega) vr3 vr3.toInt rfl (0 : Int32) 0 (show (0 : Int32).toInt = 0 from rfl) (by omega) (by rw [evz26]; omega)   (by omega)
set_option maxRecDepth 10000 in
set_option maxHeartbeats 40000000 in
theorem C_X12_contract {P : Par} {g : LH} {d : Nat}  (V : Inv P g) (x1 : Int32) (y1 : Int) (hx1 : x1.toInt = y1)   : LW 139 (d + 19) 0 0 0 (lEnt (mL 139) [.ref 0, .int x1]) [] g (fun v g' => ∃ r : Int32, v = some (.int r) ∧ (-1) ≤ r.toInt ∧ r.toInt ≤ 9 ∧ Inv P g' ∧ Gr g' = Gr g) := by
  refine LW_ls (ls' := [some (.ref 0), some (.int x1)]) rfl ?_
  have hG : Gr g = Gr g := rfl
  refine X_aload_n rfl rfl rfl rfl ?_
  refine X_getR (a := 342) rfl rfl rfl ((congrFun V.1 0).trans s_0) rfl ((congrFun (V.2.1 0 (by decide)) 6).trans r_0_6) ?_
  refine X_iload_n rfl rfl rfl rfl ?_
  refine Y_callV (as := [.int x1]) (st := []) rfl rfl rfl (by decide) rfl (Nat.le_of_ble_eq_true rfl) (by decide) (Nat.le_of_ble_eq_true rfl) rfl ((congrFun V.1 342).trans s_342) (by decide) (C_X1_conclude V x1 y1 hx1 ) ?_
  rintro _ g ⟨vr1, rfl, hrvr10, hrvr11, V, hq⟩
  have hG := hq.trans hG
  have hr := (rfl : vr1.toInt = vr1.toInt)
  exact LW_ireturn (st := []) rfl rfl rfl ⟨_, rfl, by omega, by omega, V, hG⟩
set_option maxRecDepth 10000 in
set_option maxHeartbeats 40000000 in
theorem C_X1_raiseAll_5 {P : Par} {g g0 : LH} {d n : Nat}  (V : Inv P g) (hG : Gr g = Gr g0) (x1 : Int32) (y1 : Int) (hx1 : x1.toInt = y1) (x2 : Int32) (y2 : Int) (hx2 : x2.toInt = y2) (x3 : Int32) (y3 : Int) (hx3 : x3.toInt = y3) (hf3 : 0 ≤ y3 ∧ y3 ≤ 1) (x4 : Int32) (y4 : Int) (hx4 : x4.toInt = y4) (hf4 : 0 ≤ y4 ∧ y4 ≤ 26)  (hmu : (26 - y4) * 1 + 0 < (n : Int) + 1) (ih5 : ∀ (g : LH) (V : Inv P g) (hG : Gr g = Gr g0) (x1 : Int32) (y1 : Int) (hx1 : x1.toInt = y1) (x2 : Int32) (y2 : Int) (hx2 : x2.toInt = y2) (x3 : Int32) (y3 : Int) (hx3 : x3.toInt = y3) (hf3 : 0 ≤ y3 ∧ y3 ≤ 1) (x4 : Int32) (y4 : Int) (hx4 : x4.toInt = y4) (hf4 : 0 ≤ y4 ∧ y4 ≤ 26) , (26 - y4) * 1 + 0 < (n : Int) → LW 17 (d + 16) 0 0 5 [some (.ref 342), some (.int x1), some (.int x2), some (.int x3), some (.int x4)] [] g (fun v g' => ∃ r : Int32, v = some (.int r) ∧ 0 ≤ r.toInt ∧ r.toInt ≤ 1 ∧ Inv P g' ∧ Gr g' = Gr g0)) : LW 17 (d + 16) 0 0 5 [some (.ref 342), some (.int x1), some (.int x2), some (.int x3), some (.int x4)] [] g (fun v g' => ∃ r : Int32, v = some (.int r) ∧ 0 ≤ r.toInt ∧ r.toInt ≤ 1 ∧ Inv P g' ∧ Gr g' = Gr g0) := by
  refine X_iload rfl rfl rfl ?_
  refine X_bipush (v := (26 : Int32)) rfl rfl rfl ?_
  refine S_icmp_ge (tgt := 53) rfl rfl rfl hx4 (show (26 : Int32).toInt = 26 from rfl) (fun vh1 => ?_) (fun vh1 => ?_)
  · refine X_iload_n rfl rfl rfl rfl ?_
    have hr := hx3
    exact LW_ireturn (st := []) rfl rfl (nbool hx3 (by omega)) ⟨_, rfl, by omega, by omega, V, hG⟩
  · refine X_iload_n rfl rfl rfl rfl ?_
    refine X_iload rfl rfl rfl ?_
    refine S_ishrT rfl rfl (fun vz2 => ?_)
    refine X_iconst (v := (1 : Int32)) rfl rfl rfl ?_
    refine S_iandR (k := 1) rfl rfl rfl (fun vz3 hvz3 => ?_)
    refine S_if_eq (tgt := 47) rfl rfl rfl rfl (fun vh4 => ?_) (fun vh4 => ?_)
    · refine S_iinc (c := 1) rfl rfl rfl hx4 rfl (by omega) (fun vz5 hvz5 => ?_)
      refine LW_ls (ls' := [some (.ref 342), some (.int x1), some (.int x2), some (.int x3), some (.int vz5)]) rfl ?_
      refine LW_goto (tgt := 5) rfl rfl ?_
      exact ih5 _ V hG x1 y1 hx1 x2 y2 hx2 x3 y3 hx3 (by omega) vz5 vz5.toInt rfl (by omega)    (by omega)
    · refine X_iload_n rfl rfl rfl rfl ?_
      refine X_aload_n rfl rfl rfl rfl ?_
      refine X_iload rfl rfl rfl ?_
      refine X_bipush (v := (99 : Int32)) rfl rfl rfl ?_
      refine X_aload_n rfl rfl rfl rfl ?_
      refine X_getR (a := 10) rfl rfl rfl ((congrFun V.1 342).trans s_342) rfl ((congrFun (V.2.1 342 (by decide)) 1).trans r_342_1) ?_
      refine X_getR (a := 11) rfl rfl rfl ((congrFun V.1 10).trans s_10) rfl ((congrFun (V.2.1 10 (by decide)) 4).trans r_10_4) ?_
      refine X_iload rfl rfl rfl ?_
      refine S_iald rfl rfl ((congrFun V.1 11).trans s_11) hx4 (by omega) (fun vz6 evz6 => ?_)
      refine X_iload_n rfl rfl rfl rfl ?_
      refine S_iaddT rfl rfl (fun vz7 => ?_)
      refine S_min rfl rfl rfl (Nat.le_of_ble_eq_true rfl) (show (99 : Int32).toInt = 99 from rfl) rfl (fun vz8 hvz8 => ?_)
      refine Y_callV (as := [.int x4, .int vz8]) (st := [.int x3]) rfl rfl rfl (by decide) rfl (Nat.le_of_ble_eq_true rfl) (by decide) (Nat.le_of_ble_eq_true rfl) rfl ((congrFun V.1 342).trans s_342) (by decide) (C_X1_setWage V x4 y4 hx4 (by omega) vz8 vz8.toInt rfl (by omega) ) ?_
      rintro _ g ⟨vr9, rfl, hrvr90, hrvr91, V, hq⟩
      have hG := hq.trans hG
      refine S_ior (n := 1) rfl rfl hx3 rfl (by omega) (by omega) (fun vz10 hvz10 => ?_)
      refine X_istore_n (i := 3) (ls' := [some (.ref 342), some (.int x1), some (.int x2), some (.int vz10), some (.int x4)]) rfl rfl rfl (Nat.le_of_ble_eq_true rfl) rfl ?_
      refine S_iinc (c := 1) rfl rfl rfl hx4 rfl (by omega) (fun vz11 hvz11 => ?_)
      refine LW_ls (ls' := [some (.ref 342), some (.int x1), some (.int x2), some (.int vz10), some (.int vz11)]) rfl ?_
      refine LW_goto (tgt := 5) rfl rfl ?_
      exact ih5 _ V hG x1 y1 hx1 x2 y2 hx2 vz10 vz10.toInt rfl (by omega) vz11 vz11.toInt rfl (by omega)    (by omega)
theorem C_X1_raiseAll_all {P : Par} {g0 : LH} {d : Nat}  : ∀ n : Nat, (∀ (g : LH) (V : Inv P g) (hG : Gr g = Gr g0) (x1 : Int32) (y1 : Int) (hx1 : x1.toInt = y1) (x2 : Int32) (y2 : Int) (hx2 : x2.toInt = y2) (x3 : Int32) (y3 : Int) (hx3 : x3.toInt = y3) (hf3 : 0 ≤ y3 ∧ y3 ≤ 1) (x4 : Int32) (y4 : Int) (hx4 : x4.toInt = y4) (hf4 : 0 ≤ y4 ∧ y4 ≤ 26) , (26 - y4) * 1 + 0 < (n : Int) → LW 17 (d + 16) 0 0 5 [some (.ref 342), some (.int x1), some (.int x2), some (.int x3), some (.int x4)] [] g (fun v g' => ∃ r : Int32, v = some (.int r) ∧ 0 ≤ r.toInt ∧ r.toInt ≤ 1 ∧ Inv P g' ∧ Gr g' = Gr g0)) := by
  intro n
  induction n with
  | zero => exact fun g V hG x1 y1 hx1 x2 y2 hx2 x3 y3 hx3 hf3 x4 y4 hx4 hf4 hmu => absurd hmu (by omega)
  | succ n ih => exact fun g V hG x1 y1 hx1 x2 y2 hx2 x3 y3 hx3 hf3 x4 y4 hx4 hf4 hmu => C_X1_raiseAll_5  V hG x1 y1 hx1 x2 y2 hx2 x3 y3 hx3 hf3 x4 y4 hx4 hf4 (by omega) ih
set_option maxRecDepth 10000 in
set_option maxHeartbeats 40000000 in
theorem C_X1_raiseAll {P : Par} {g : LH} {d : Nat}  (V : Inv P g) (x1 : Int32) (y1 : Int) (hx1 : x1.toInt = y1) (x2 : Int32) (y2 : Int) (hx2 : x2.toInt = y2)   : LW 17 (d + 16) 0 0 0 (lEnt (mL 17) [.ref 342, .int x1, .int x2]) [] g (fun v g' => ∃ r : Int32, v = some (.int r) ∧ 0 ≤ r.toInt ∧ r.toInt ≤ 1 ∧ Inv P g' ∧ Gr g' = Gr g) := by
  refine LW_ls (ls' := [some (.ref 342), some (.int x1), some (.int x2), none, none]) rfl ?_
  have hG : Gr g = Gr g := rfl
  refine X_iconst (v := (0 : Int32)) rfl rfl rfl ?_
  refine X_istore_n (i := 3) (ls' := [some (.ref 342), some (.int x1), some (.int x2), some (.int (0 : Int32)), none]) rfl rfl rfl (Nat.le_of_ble_eq_true rfl) rfl ?_
  refine X_iconst (v := (0 : Int32)) rfl rfl rfl ?_
  refine X_istore (i := 4) (ls' := [some (.ref 342), some (.int x1), some (.int x2), some (.int (0 : Int32)), some (.int (0 : Int32))]) rfl rfl (Nat.le_of_ble_eq_true rfl) rfl ?_
  exact (C_X1_raiseAll_all (((26 - 0) * 1 + 0) + 1 : Int).toNat) _ V hG x1 y1 hx1 x2 y2 hx2 (0 : Int32) 0 (show (0 : Int32).toInt = 0 from rfl) (by omega) (0 : Int32) 0 (show (0 : Int32).toInt = 0 from rfl) (by omega)    (by omega)
