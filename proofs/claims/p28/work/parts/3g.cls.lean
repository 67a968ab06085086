/-! the class's methods: each returns and keeps what every state keeps -/
set_option maxRecDepth 10000 in
set_option maxHeartbeats 40000000 in
theorem C_X1_dawn_22 {P : Par} {g g0 : LH} {d n : Nat}  (V : Inv P g) (hG : Gr g = Gr g0) (x1 : Int32) (y1 : Int) (hx1 : x1.toInt = y1) (hf1 : 0 ≤ y1 ∧ y1 ≤ 1) (x2 : Int32) (y2 : Int) (hx2 : x2.toInt = y2) (x3 : Int32) (y3 : Int) (hx3 : x3.toInt = y3) (hf3 : 0 ≤ y3 ∧ y3 ≤ 26)  (hmu : (26 - y3) * 1 + 28 < (n : Int) + 1) (ih22 : ∀ (g : LH) (V : Inv P g) (hG : Gr g = Gr g0) (x1 : Int32) (y1 : Int) (hx1 : x1.toInt = y1) (hf1 : 0 ≤ y1 ∧ y1 ≤ 1) (x2 : Int32) (y2 : Int) (hx2 : x2.toInt = y2) (x3 : Int32) (y3 : Int) (hx3 : x3.toInt = y3) (hf3 : 0 ≤ y3 ∧ y3 ≤ 26) , (26 - y3) * 1 + 28 < (n : Int) → LW 5 (d + 19) 0 0 22 [some (.ref 342), some (.int x1), some (.int x2), some (.int x3)] [] g (fun v g' => v = none ∧ Inv P g' ∧ Gr g' = Gr g0)) (ih57 : ∀ (g : LH) (V : Inv P g) (hG : Gr g = Gr g0) (x1 : Int32) (y1 : Int) (hx1 : x1.toInt = y1) (hf1 : 0 ≤ y1 ∧ y1 ≤ 1) (x2 : Int32) (y2 : Int) (hx2 : x2.toInt = y2) (x3 : Int32) (y3 : Int) (hx3 : x3.toInt = y3) (hf3 : 0 ≤ y3 ∧ y3 ≤ 26) , (26 - y3) * 1 + 0 < (n : Int) → LW 5 (d + 19) 0 0 57 [some (.ref 342), some (.int x1), some (.int x2), some (.int x3)] [] g (fun v g' => v = none ∧ Inv P g' ∧ Gr g' = Gr g0)) : LW 5 (d + 19) 0 0 22 [some (.ref 342), some (.int x1), some (.int x2), some (.int x3)] [] g (fun v g' => v = none ∧ Inv P g' ∧ Gr g' = Gr g0) := by
  refine X_iload_n rfl rfl rfl rfl ?_
  refine X_bipush (v := (26 : Int32)) rfl rfl rfl ?_
  refine S_icmp_ge (tgt := 55) rfl rfl rfl hx3 (show (26 : Int32).toInt = 26 from rfl) (fun vh1 => ?_) (fun vh1 => ?_)
  · refine X_iconst (v := (0 : Int32)) rfl rfl rfl ?_
    refine X_istore_n (i := 3) (ls' := [some (.ref 342), some (.int x1), some (.int x2), some (.int (0 : Int32))]) rfl rfl rfl (Nat.le_of_ble_eq_true rfl) rfl ?_
    exact ih57 _ V hG x1 y1 hx1 (by omega) x2 y2 hx2 (0 : Int32) 0 (show (0 : Int32).toInt = 0 from rfl) (by omega)    (by omega)
  · refine X_iload_n rfl rfl rfl rfl ?_
    refine X_aload_n rfl rfl rfl rfl ?_
    refine X_getR (a := 339) rfl rfl rfl ((congrFun V.1 342).trans s_342) rfl ((congrFun (V.2.1 342 (by decide)) 2).trans r_342_2) ?_
    refine X_iload_n rfl rfl rfl rfl ?_
    refine Y_callV (as := [.int x3]) (st := [.int x2]) rfl rfl rfl (by decide) rfl (Nat.le_of_ble_eq_true rfl) (by decide) (Nat.le_of_ble_eq_true rfl) rfl ((congrFun V.1 339).trans s_339) (by decide) (C_X4_moves V x3 y3 hx3 (by omega) ) ?_
    rintro _ g ⟨vr2, rfl, hrvr20, hrvr21, V, hq⟩
    have hG := hq.trans hG
    refine S_if_eq (tgt := 46) rfl rfl rfl rfl (fun vh3 => ?_) (fun vh3 => ?_)
    · refine X_iconst (v := (0 : Int32)) rfl rfl rfl ?_
      refine S_iorT rfl rfl (fun vz4 => ?_)
      refine X_istore_n (i := 2) (ls' := [some (.ref 342), some (.int x1), some (.int vz4), some (.int x3)]) rfl rfl rfl (Nat.le_of_ble_eq_true rfl) rfl ?_
      refine S_iinc (c := 1) rfl rfl rfl hx3 rfl (by omega) (fun vz5 hvz5 => ?_)
      refine LW_ls (ls' := [some (.ref 342), some (.int x1), some (.int vz4), some (.int vz5)]) rfl ?_
      refine LW_goto (tgt := 22) rfl rfl ?_
      exact ih22 _ V hG x1 y1 hx1 (by omega) vz4 vz4.toInt rfl vz5 vz5.toInt rfl (by omega)    (by omega)
    · refine X_iconst (v := (1 : Int32)) rfl rfl rfl ?_
      refine X_iload_n rfl rfl rfl rfl ?_
      refine S_ishlT rfl rfl (fun vz6 => ?_)
      refine LW_goto (tgt := 47) rfl rfl ?_
      refine S_iorT rfl rfl (fun vz7 => ?_)
      refine X_istore_n (i := 2) (ls' := [some (.ref 342), some (.int x1), some (.int vz7), some (.int x3)]) rfl rfl rfl (Nat.le_of_ble_eq_true rfl) rfl ?_
      refine S_iinc (c := 1) rfl rfl rfl hx3 rfl (by omega) (fun vz8 hvz8 => ?_)
      refine LW_ls (ls' := [some (.ref 342), some (.int x1), some (.int vz7), some (.int vz8)]) rfl ?_
      refine LW_goto (tgt := 22) rfl rfl ?_
      exact ih22 _ V hG x1 y1 hx1 (by omega) vz7 vz7.toInt rfl vz8 vz8.toInt rfl (by omega)    (by omega)
set_option maxRecDepth 10000 in
set_option maxHeartbeats 40000000 in
theorem C_X1_dawn_57 {P : Par} {g g0 : LH} {d n : Nat}  (V : Inv P g) (hG : Gr g = Gr g0) (x1 : Int32) (y1 : Int) (hx1 : x1.toInt = y1) (hf1 : 0 ≤ y1 ∧ y1 ≤ 1) (x2 : Int32) (y2 : Int) (hx2 : x2.toInt = y2) (x3 : Int32) (y3 : Int) (hx3 : x3.toInt = y3) (hf3 : 0 ≤ y3 ∧ y3 ≤ 26)  (hmu : (26 - y3) * 1 + 0 < (n : Int) + 1) (ih22 : ∀ (g : LH) (V : Inv P g) (hG : Gr g = Gr g0) (x1 : Int32) (y1 : Int) (hx1 : x1.toInt = y1) (hf1 : 0 ≤ y1 ∧ y1 ≤ 1) (x2 : Int32) (y2 : Int) (hx2 : x2.toInt = y2) (x3 : Int32) (y3 : Int) (hx3 : x3.toInt = y3) (hf3 : 0 ≤ y3 ∧ y3 ≤ 26) , (26 - y3) * 1 + 28 < (n : Int) → LW 5 (d + 19) 0 0 22 [some (.ref 342), some (.int x1), some (.int x2), some (.int x3)] [] g (fun v g' => v = none ∧ Inv P g' ∧ Gr g' = Gr g0)) (ih57 : ∀ (g : LH) (V : Inv P g) (hG : Gr g = Gr g0) (x1 : Int32) (y1 : Int) (hx1 : x1.toInt = y1) (hf1 : 0 ≤ y1 ∧ y1 ≤ 1) (x2 : Int32) (y2 : Int) (hx2 : x2.toInt = y2) (x3 : Int32) (y3 : Int) (hx3 : x3.toInt = y3) (hf3 : 0 ≤ y3 ∧ y3 ≤ 26) , (26 - y3) * 1 + 0 < (n : Int) → LW 5 (d + 19) 0 0 57 [some (.ref 342), some (.int x1), some (.int x2), some (.int x3)] [] g (fun v g' => v = none ∧ Inv P g' ∧ Gr g' = Gr g0)) : LW 5 (d + 19) 0 0 57 [some (.ref 342), some (.int x1), some (.int x2), some (.int x3)] [] g (fun v g' => v = none ∧ Inv P g' ∧ Gr g' = Gr g0) := by
  refine X_iload_n rfl rfl rfl rfl ?_
  refine X_bipush (v := (26 : Int32)) rfl rfl rfl ?_
  refine S_icmp_ge (tgt := 95) rfl rfl rfl hx3 (show (26 : Int32).toInt = 26 from rfl) (fun vh1 => ?_) (fun vh1 => ?_)
  · refine X_aload_n rfl rfl rfl rfl ?_
    refine X_getR (a := 10) rfl rfl rfl ((congrFun V.1 342).trans s_342) rfl ((congrFun (V.2.1 342 (by decide)) 1).trans r_342_1) ?_
    refine X_iload_n rfl rfl rfl rfl ?_
    refine Y_callV (as := [.int x2]) (st := []) rfl rfl rfl (by decide) rfl (Nat.le_of_ble_eq_true rfl) (by decide) (Nat.le_of_ble_eq_true rfl) rfl ((congrFun V.1 10).trans s_10) (by decide) (C_X9_move V x2 y2 hx2 ) ?_
    rintro _ g ⟨rfl, V, hq⟩
    have hG := hq.trans hG
    refine X_aload_n rfl rfl rfl rfl ?_
    refine X_getR (a := 10) rfl rfl rfl ((congrFun V.1 342).trans s_342) rfl ((congrFun (V.2.1 342 (by decide)) 1).trans r_342_1) ?_
    refine X_dup rfl rfl rfl ?_
    refine S_getI rfl rfl rfl ((congrFun V.1 10).trans s_10) rfl (fun vz3 evz3 => ?_)
    refine X_iconst (v := (1 : Int32)) rfl rfl rfl ?_
    refine S_iaddT rfl rfl (fun vz4 => ?_)
    refine S_putI (I := Inv _) rfl rfl rfl ((congrFun V.1 10).trans s_10) rfl rfl rfl rfl (Inv_putI V (Nat.le_of_ble_eq_true rfl) (Or.inl (by decide)) (Q_11_1 rk_10)) (fun g V ve5 vn6 hq => ?_)
    have hG := hq.trans hG
    exact LW_return (st := []) rfl rfl ⟨rfl, V, hG⟩
  · refine X_aload_n rfl rfl rfl rfl ?_
    refine X_getR (a := 10) rfl rfl rfl ((congrFun V.1 342).trans s_342) rfl ((congrFun (V.2.1 342 (by decide)) 1).trans r_342_1) ?_
    refine X_getR (a := 12) rfl rfl rfl ((congrFun V.1 10).trans s_10) rfl ((congrFun (V.2.1 10 (by decide)) 5).trans r_10_5) ?_
    refine X_iload_n rfl rfl rfl rfl ?_
    refine X_sipush (v := (999 : Int32)) rfl rfl rfl ?_
    refine X_aload_n rfl rfl rfl rfl ?_
    refine X_getR (a := 10) rfl rfl rfl ((congrFun V.1 342).trans s_342) rfl ((congrFun (V.2.1 342 (by decide)) 1).trans r_342_1) ?_
    refine X_getR (a := 12) rfl rfl rfl ((congrFun V.1 10).trans s_10) rfl ((congrFun (V.2.1 10 (by decide)) 5).trans r_10_5) ?_
    refine X_iload_n rfl rfl rfl rfl ?_
    refine S_iald rfl rfl ((congrFun V.1 12).trans s_12) hx3 (by omega) (fun vz7 evz7 => ?_)
    refine X_iconst (v := (1 : Int32)) rfl rfl rfl ?_
    refine S_iaddT rfl rfl (fun vz8 => ?_)
    refine S_min rfl rfl rfl (Nat.le_of_ble_eq_true rfl) (show (999 : Int32).toInt = 999 from rfl) rfl (fun vz9 hvz9 => ?_)
    refine S_iast (I := Inv _) rfl rfl ((congrFun V.1 12).trans s_12) hx3 (by omega) (Inv_putI V (Nat.le_of_ble_eq_true rfl) (Or.inl (by decide)) (Q_0 rk_12)) (fun g V ve10 vn11 hq => ?_)
    have hG := hq.trans hG
    refine S_iinc (c := 1) rfl rfl rfl hx3 rfl (by omega) (fun vz12 hvz12 => ?_)
    refine LW_ls (ls' := [some (.ref 342), some (.int x1), some (.int x2), some (.int vz12)]) rfl ?_
    refine LW_goto (tgt := 57) rfl rfl ?_
    exact ih57 _ V hG x1 y1 hx1 (by omega) x2 y2 hx2 vz12 vz12.toInt rfl (by omega)    (by omega)
theorem C_X1_dawn_all {P : Par} {g0 : LH} {d : Nat}  : ∀ n : Nat, (∀ (g : LH) (V : Inv P g) (hG : Gr g = Gr g0) (x1 : Int32) (y1 : Int) (hx1 : x1.toInt = y1) (hf1 : 0 ≤ y1 ∧ y1 ≤ 1) (x2 : Int32) (y2 : Int) (hx2 : x2.toInt = y2) (x3 : Int32) (y3 : Int) (hx3 : x3.toInt = y3) (hf3 : 0 ≤ y3 ∧ y3 ≤ 26) , (26 - y3) * 1 + 28 < (n : Int) → LW 5 (d + 19) 0 0 22 [some (.ref 342), some (.int x1), some (.int x2), some (.int x3)] [] g (fun v g' => v = none ∧ Inv P g' ∧ Gr g' = Gr g0)) ∧ (∀ (g : LH) (V : Inv P g) (hG : Gr g = Gr g0) (x1 : Int32) (y1 : Int) (hx1 : x1.toInt = y1) (hf1 : 0 ≤ y1 ∧ y1 ≤ 1) (x2 : Int32) (y2 : Int) (hx2 : x2.toInt = y2) (x3 : Int32) (y3 : Int) (hx3 : x3.toInt = y3) (hf3 : 0 ≤ y3 ∧ y3 ≤ 26) , (26 - y3) * 1 + 0 < (n : Int) → LW 5 (d + 19) 0 0 57 [some (.ref 342), some (.int x1), some (.int x2), some (.int x3)] [] g (fun v g' => v = none ∧ Inv P g' ∧ Gr g' = Gr g0)) := by
  intro n
  induction n with
  | zero => exact ⟨fun g V hG x1 y1 hx1 hf1 x2 y2 hx2 x3 y3 hx3 hf3 hmu => absurd hmu (by omega), fun g V hG x1 y1 hx1 hf1 x2 y2 hx2 x3 y3 hx3 hf3 hmu => absurd hmu (by omega)⟩
  | succ n ih => exact ⟨fun g V hG x1 y1 hx1 hf1 x2 y2 hx2 x3 y3 hx3 hf3 hmu => C_X1_dawn_22  V hG x1 y1 hx1 hf1 x2 y2 hx2 x3 y3 hx3 hf3 (by omega) ih.1 ih.2, fun g V hG x1 y1 hx1 hf1 x2 y2 hx2 x3 y3 hx3 hf3 hmu => C_X1_dawn_57  V hG x1 y1 hx1 hf1 x2 y2 hx2 x3 y3 hx3 hf3 (by omega) ih.1 ih.2⟩
set_option maxRecDepth 10000 in
set_option maxHeartbeats 40000000 in
theorem C_X1_dawn {P : Par} {g : LH} {d : Nat}  (V : Inv P g) (x1 : Int32) (y1 : Int) (hx1 : x1.toInt = y1) (hf1 : 0 ≤ y1 ∧ y1 ≤ 1)   : LW 5 (d + 19) 0 0 0 (lEnt (mL 5) [.ref 342, .int x1]) [] g (fun v g' => v = none ∧ Inv P g' ∧ Gr g' = Gr g) := by
  refine LW_ls (ls' := [some (.ref 342), some (.int x1), none, none]) rfl ?_
  have hG : Gr g = Gr g := rfl
  refine X_iload_n rfl rfl rfl rfl ?_
  refine S_if_eq (tgt := 18) rfl rfl rfl hx1 (fun vh1 => ?_) (fun vh1 => ?_)
  · refine X_iconst (v := (0 : Int32)) rfl rfl rfl ?_
    refine X_istore_n (i := 2) (ls' := [some (.ref 342), some (.int x1), some (.int (0 : Int32)), none]) rfl rfl rfl (Nat.le_of_ble_eq_true rfl) rfl ?_
    refine X_iconst (v := (0 : Int32)) rfl rfl rfl ?_
    refine X_istore_n (i := 3) (ls' := [some (.ref 342), some (.int x1), some (.int (0 : Int32)), some (.int (0 : Int32))]) rfl rfl rfl (Nat.le_of_ble_eq_true rfl) rfl ?_
    exact (C_X1_dawn_all (((26 - 0) * 1 + 28) + 1 : Int).toNat).1 _ V hG x1 y1 hx1 (by omega) (0 : Int32) 0 (show (0 : Int32).toInt = 0 from rfl) (0 : Int32) 0 (show (0 : Int32).toInt = 0 from rfl) (by omega)    (by omega)
  · refine X_aload_n rfl rfl rfl rfl ?_
    refine X_getR (a := 1) rfl rfl rfl ((congrFun V.1 342).trans s_342) rfl ((congrFun (V.2.1 342 (by decide)) 0).trans r_342_0) ?_
    refine X_getR (a := 14) rfl rfl rfl ((congrFun V.1 1).trans s_1) rfl ((congrFun (V.2.1 1 (by decide)) 2).trans r_1_2) ?_
    refine X_aload_n rfl rfl rfl rfl ?_
    refine X_getR (a := 10) rfl rfl rfl ((congrFun V.1 342).trans s_342) rfl ((congrFun (V.2.1 342 (by decide)) 1).trans r_342_1) ?_
    refine X_callV (as := [.ref 10]) (st := []) rfl rfl rfl (by decide) rfl (Nat.le_of_ble_eq_true rfl) (by decide) (Nat.le_of_ble_eq_true rfl) rfl ((congrFun V.1 14).trans s_14) (by decide) ?_
    refine LW_ls (ls' := [some (.ref 14), some (.ref 10)]) rfl ?_
    refine X_aload_n rfl rfl rfl rfl ?_
    refine S_getI rfl rfl rfl ((congrFun V.1 14).trans s_14) rfl (fun vz2 evz2 => ?_)
    have vf3 := K_12_0 (V.2.2.2.2.1 (14) (0) (Nat.le_of_ble_eq_true rfl)) rk_14
    rw [evz2] at vf3
    refine X_bipush (v := (30 : Int32)) rfl rfl rfl ?_
    refine S_icmp_ne (tgt := 32) rfl rfl rfl rfl (show (30 : Int32).toInt = 30 from rfl) (fun vh4 => ?_) (fun vh4 => ?_)
    · refine X_aload_n rfl rfl rfl rfl ?_
      refine X_getR (a := 15) rfl rfl rfl ((congrFun V.1 14).trans s_14) rfl ((congrFun (V.2.1 14 (by decide)) 2).trans r_14_2) ?_
      refine X_aload_n rfl rfl rfl rfl ?_
      refine S_getI rfl rfl rfl ((congrFun V.1 14).trans s_14) rfl (fun vz5 evz5 => ?_)
      have vf6 := K_12_1 (V.2.2.2.2.1 (14) (1) (Nat.le_of_ble_eq_true rfl)) rk_14
      rw [evz5] at vf6
      refine X_aload_n rfl rfl rfl rfl ?_
      refine X_getI (v := vz2) rfl rfl rfl ((congrFun V.1 14).trans s_14) rfl evz2 ?_
      refine S_iadd rfl rfl rfl rfl (by omega) (fun vz7 hvz7 => ?_)
      refine X_bipush (v := (30 : Int32)) rfl rfl rfl ?_
      refine S_irem rfl rfl rfl (show (30 : Int32).toInt = 30 from rfl) (by omega) (by omega) (fun vz8 hvz8 => ?_)
      obtain ⟨t, ht, et⟩ : ∃ t : Nat, t < 30 ∧ (t : Int) = vz8.toInt := ⟨(vz8.toInt : Int).toNat, by omega, by omega⟩
      refine X_aald (a := 16 + 4 * t) (t0 := 3) rfl rfl ((congrFun V.1 15).trans s_15) rfl (ti_idx (n := 30) rfl (by omega)).1 (by rw [(ti_idx (n := 30) rfl (by omega)).2, show (vz8.toInt : Int).toNat = t by omega]; exact (congrFun (V.2.1 15 (by decide)) t).trans (sp_a t ht)) ?_
      refine X_aload_n rfl rfl rfl rfl ?_
      refine X_callV (as := [.ref 10]) (st := []) rfl rfl rfl (by decide) rfl (Nat.le_of_ble_eq_true rfl) (by decide) (Nat.le_of_ble_eq_true rfl) rfl ((congrFun V.1 _).trans (sp_s t ht)) (by decide) ?_
      refine LW_ls (ls' := [some (.ref (16 + 4 * t)), some (.ref 10)]) rfl ?_
      refine X_aload_n rfl rfl rfl rfl ?_
      refine X_aload_n rfl rfl rfl rfl ?_
      refine S_getI rfl rfl rfl ((congrFun V.1 10).trans s_10) rfl (fun vz9 evz9 => ?_)
      refine S_putI (I := Inv _) rfl rfl rfl ((congrFun V.1 _).trans (sp_s t ht)) rfl rfl rfl rfl (Inv_putI V (by omega) (Or.inl (by omega)) (Q_11_0 (sp_k t ht))) (fun g V ve10 vn11 hq => ?_)
      have hG := hq.trans hG
      have evz2 := (vn11 (14) 0 (Or.inl (by omega))).trans evz2
      have evz5 := (vn11 (14) 1 (Or.inl (by omega))).trans evz5
      have evz9 := (vn11 (10) 0 (Or.inl (by omega))).trans evz9
      refine X_aload_n rfl rfl rfl rfl ?_
      refine X_aload_n rfl rfl rfl rfl ?_
      refine S_getI rfl rfl rfl ((congrFun V.1 10).trans s_10) rfl (fun vz12 evz12 => ?_)
      refine S_putI (I := Inv _) rfl rfl rfl ((congrFun V.1 _).trans (sp_s t ht)) rfl rfl rfl rfl (Inv_putI V (by omega) (Or.inl (by omega)) (Q_11_1 (sp_k t ht))) (fun g V ve13 vn14 hq => ?_)
      have hG := hq.trans hG
      have evz2 := (vn14 (14) 0 (Or.inl (by omega))).trans evz2
      have evz5 := (vn14 (14) 1 (Or.inl (by omega))).trans evz5
      have evz9 := (vn14 (10) 0 (Or.inl (by omega))).trans evz9
      have ve10 := (vn14 (16 + 4 * t) 0 (Or.inr (by decide))).trans ve10
      have evz12 := (vn14 (10) 1 (Or.inl (by omega))).trans evz12
      refine X_aload_n rfl rfl rfl rfl ?_
      refine X_aload_n rfl rfl rfl rfl ?_
      refine S_getI rfl rfl rfl ((congrFun V.1 10).trans s_10) rfl (fun vz15 evz15 => ?_)
      refine S_putI (I := Inv _) rfl rfl rfl ((congrFun V.1 _).trans (sp_s t ht)) rfl rfl rfl rfl (Inv_putI V (by omega) (Or.inl (by omega)) (Q_11_2 (sp_k t ht))) (fun g V ve16 vn17 hq => ?_)
      have hG := hq.trans hG
      have evz2 := (vn17 (14) 0 (Or.inl (by omega))).trans evz2
      have evz5 := (vn17 (14) 1 (Or.inl (by omega))).trans evz5
      have evz9 := (vn17 (10) 0 (Or.inl (by omega))).trans evz9
      have ve10 := (vn17 (16 + 4 * t) 0 (Or.inr (by decide))).trans ve10
      have evz12 := (vn17 (10) 1 (Or.inl (by omega))).trans evz12
      have ve13 := (vn17 (16 + 4 * t) 1 (Or.inr (by decide))).trans ve13
      have evz15 := (vn17 (10) 2 (Or.inl (by omega))).trans evz15
      refine X_aload_n rfl rfl rfl rfl ?_
      refine X_aload_n rfl rfl rfl rfl ?_
      refine S_getI rfl rfl rfl ((congrFun V.1 10).trans s_10) rfl (fun vz18 evz18 => ?_)
      have vf19 := K_11_3 (V.2.2.2.2.1 (10) (3) (Nat.le_of_ble_eq_true rfl)) rk_10
      rw [evz18] at vf19
      refine S_putI (I := Inv _) rfl rfl rfl ((congrFun V.1 _).trans (sp_s t ht)) rfl rfl rfl rfl (Inv_putI V (by omega) (Or.inl (by omega)) (Q_11_3 (sp_k t ht) (by omega))) (fun g V ve20 vn21 hq => ?_)
      have hG := hq.trans hG
      have evz2 := (vn21 (14) 0 (Or.inl (by omega))).trans evz2
      have evz5 := (vn21 (14) 1 (Or.inl (by omega))).trans evz5
      have evz9 := (vn21 (10) 0 (Or.inl (by omega))).trans evz9
      have ve10 := (vn21 (16 + 4 * t) 0 (Or.inr (by decide))).trans ve10
      have evz12 := (vn21 (10) 1 (Or.inl (by omega))).trans evz12
      have ve13 := (vn21 (16 + 4 * t) 1 (Or.inr (by decide))).trans ve13
      have evz15 := (vn21 (10) 2 (Or.inl (by omega))).trans evz15
      have ve16 := (vn21 (16 + 4 * t) 2 (Or.inr (by decide))).trans ve16
      have evz18 := (vn21 (10) 3 (Or.inl (by omega))).trans evz18
      refine X_aload_n rfl rfl rfl rfl ?_
      refine X_getR (a := 11) rfl rfl rfl ((congrFun V.1 10).trans s_10) rfl ((congrFun (V.2.1 10 (by decide)) 4).trans r_10_4) ?_
      refine X_iconst (v := (0 : Int32)) rfl rfl rfl ?_
      refine X_aload_n rfl rfl rfl rfl ?_
      refine X_getR (a := 17 + 4 * t) rfl rfl rfl ((congrFun V.1 _).trans (sp_s t ht)) rfl ((congrFun (V.2.1 (16 + 4 * t) (by omega)) 4).trans (sp_r4 t ht)) ?_
      refine X_iconst (v := (0 : Int32)) rfl rfl rfl ?_
      refine X_bipush (v := (26 : Int32)) rfl rfl rfl ?_
      refine S_copy (I := Inv _) (sp' := 0) (dp' := 0) (n' := 26) rfl rfl rfl ((congrFun V.1 11).trans s_11) ((congrFun V.1 _).trans (sp_s4 t ht)) (by decide) (by decide) (by decide) rfl rfl rfl (by decide) (by decide) (Nat.le_of_ble_eq_true rfl) (Inv_cpy V (Nat.le_of_ble_eq_true rfl) (by omega) (by omega) (U_0 rk_11 (sp_k4 t ht))) (fun g V vn22 hq => ?_)
      have hG := hq.trans hG
      have evz2 := (vn22 (14) 0 (by omega)).trans evz2
      have evz5 := (vn22 (14) 1 (by omega)).trans evz5
      have evz9 := (vn22 (10) 0 (by omega)).trans evz9
      have ve10 := (vn22 (16 + 4 * t) 0 (by omega)).trans ve10
      have evz12 := (vn22 (10) 1 (by omega)).trans evz12
      have ve13 := (vn22 (16 + 4 * t) 1 (by omega)).trans ve13
      have evz15 := (vn22 (10) 2 (by omega)).trans evz15
      have ve16 := (vn22 (16 + 4 * t) 2 (by omega)).trans ve16
      have evz18 := (vn22 (10) 3 (by omega)).trans evz18
      have ve20 := (vn22 (16 + 4 * t) 3 (by omega)).trans ve20
      refine X_aload_n rfl rfl rfl rfl ?_
      refine X_getR (a := 12) rfl rfl rfl ((congrFun V.1 10).trans s_10) rfl ((congrFun (V.2.1 10 (by decide)) 5).trans r_10_5) ?_
      refine X_iconst (v := (0 : Int32)) rfl rfl rfl ?_
      refine X_aload_n rfl rfl rfl rfl ?_
      refine X_getR (a := 18 + 4 * t) rfl rfl rfl ((congrFun V.1 _).trans (sp_s t ht)) rfl ((congrFun (V.2.1 (16 + 4 * t) (by omega)) 5).trans (sp_r5 t ht)) ?_
      refine X_iconst (v := (0 : Int32)) rfl rfl rfl ?_
      refine X_bipush (v := (26 : Int32)) rfl rfl rfl ?_
      refine S_copy (I := Inv _) (sp' := 0) (dp' := 0) (n' := 26) rfl rfl rfl ((congrFun V.1 12).trans s_12) ((congrFun V.1 _).trans (sp_s5 t ht)) (by decide) (by decide) (by decide) rfl rfl rfl (by decide) (by decide) (Nat.le_of_ble_eq_true rfl) (Inv_cpy V (Nat.le_of_ble_eq_true rfl) (by omega) (by omega) (U_0 rk_12 (sp_k5 t ht))) (fun g V vn23 hq => ?_)
      have hG := hq.trans hG
      have evz2 := (vn23 (14) 0 (by omega)).trans evz2
      have evz5 := (vn23 (14) 1 (by omega)).trans evz5
      have evz9 := (vn23 (10) 0 (by omega)).trans evz9
      have ve10 := (vn23 (16 + 4 * t) 0 (by omega)).trans ve10
      have evz12 := (vn23 (10) 1 (by omega)).trans evz12
      have ve13 := (vn23 (16 + 4 * t) 1 (by omega)).trans ve13
      have evz15 := (vn23 (10) 2 (by omega)).trans evz15
      have ve16 := (vn23 (16 + 4 * t) 2 (by omega)).trans ve16
      have evz18 := (vn23 (10) 3 (by omega)).trans evz18
      have ve20 := (vn23 (16 + 4 * t) 3 (by omega)).trans ve20
      refine X_aload_n rfl rfl rfl rfl ?_
      refine X_getR (a := 13) rfl rfl rfl ((congrFun V.1 10).trans s_10) rfl ((congrFun (V.2.1 10 (by decide)) 6).trans r_10_6) ?_
      refine X_iconst (v := (0 : Int32)) rfl rfl rfl ?_
      refine X_aload_n rfl rfl rfl rfl ?_
      refine X_getR (a := 19 + 4 * t) rfl rfl rfl ((congrFun V.1 _).trans (sp_s t ht)) rfl ((congrFun (V.2.1 (16 + 4 * t) (by omega)) 6).trans (sp_r6 t ht)) ?_
      refine X_iconst (v := (0 : Int32)) rfl rfl rfl ?_
      refine X_bipush (v := (26 : Int32)) rfl rfl rfl ?_
      refine S_copy (I := Inv _) (sp' := 0) (dp' := 0) (n' := 26) rfl rfl rfl ((congrFun V.1 13).trans s_13) ((congrFun V.1 _).trans (sp_s6 t ht)) (by decide) (by decide) (by decide) rfl rfl rfl (by decide) (by decide) (Nat.le_of_ble_eq_true rfl) (Inv_cpy V (Nat.le_of_ble_eq_true rfl) (by omega) (by omega) (U_0 rk_13 (sp_k6 t ht))) (fun g V vn24 hq => ?_)
      have hG := hq.trans hG
      have evz2 := (vn24 (14) 0 (by omega)).trans evz2
      have evz5 := (vn24 (14) 1 (by omega)).trans evz5
      have evz9 := (vn24 (10) 0 (by omega)).trans evz9
      have ve10 := (vn24 (16 + 4 * t) 0 (by omega)).trans ve10
      have evz12 := (vn24 (10) 1 (by omega)).trans evz12
      have ve13 := (vn24 (16 + 4 * t) 1 (by omega)).trans ve13
      have evz15 := (vn24 (10) 2 (by omega)).trans evz15
      have ve16 := (vn24 (16 + 4 * t) 2 (by omega)).trans ve16
      have evz18 := (vn24 (10) 3 (by omega)).trans evz18
      have ve20 := (vn24 (16 + 4 * t) 3 (by omega)).trans ve20
      refine LW_return (st := []) rfl rfl ?_
      refine X_aload_n rfl rfl rfl rfl ?_
      refine X_dup rfl rfl rfl ?_
      refine X_getI (v := vz2) rfl rfl rfl ((congrFun V.1 14).trans s_14) rfl evz2 ?_
      refine X_iconst (v := (1 : Int32)) rfl rfl rfl ?_
      refine S_iadd rfl rfl rfl (show (1 : Int32).toInt = 1 from rfl) (by omega) (fun vz25 hvz25 => ?_)
      refine S_putI (I := Inv _) rfl rfl rfl ((congrFun V.1 14).trans s_14) rfl rfl rfl rfl (Inv_putI V (Nat.le_of_ble_eq_true rfl) (Or.inl (by decide)) (Q_12_0 rk_14 (by omega))) (fun g V ve26 vn27 hq => ?_)
      have hG := hq.trans hG
      have evz5 := (vn27 (14) 1 (Or.inr (by decide))).trans evz5
      have evz9 := (vn27 (10) 0 (Or.inl (by decide))).trans evz9
      have ve10 := (vn27 (16 + 4 * t) 0 (Or.inl (by omega))).trans ve10
      have evz12 := (vn27 (10) 1 (Or.inl (by decide))).trans evz12
      have ve13 := (vn27 (16 + 4 * t) 1 (Or.inl (by omega))).trans ve13
      have evz15 := (vn27 (10) 2 (Or.inl (by decide))).trans evz15
      have ve16 := (vn27 (16 + 4 * t) 2 (Or.inl (by omega))).trans ve16
      have evz18 := (vn27 (10) 3 (Or.inl (by decide))).trans evz18
      have ve20 := (vn27 (16 + 4 * t) 3 (Or.inl (by omega))).trans ve20
      refine LW_return (st := []) rfl rfl ?_
      refine X_iconst (v := (0 : Int32)) rfl rfl rfl ?_
      refine X_istore_n (i := 2) (ls' := [some (.ref 342), some (.int x1), some (.int (0 : Int32)), none]) rfl rfl rfl (Nat.le_of_ble_eq_true rfl) rfl ?_
      refine X_iconst (v := (0 : Int32)) rfl rfl rfl ?_
      refine X_istore_n (i := 3) (ls' := [some (.ref 342), some (.int x1), some (.int (0 : Int32)), some (.int (0 : Int32))]) rfl rfl rfl (Nat.le_of_ble_eq_true rfl) rfl ?_
      exact (C_X1_dawn_all (((26 - 0) * 1 + 28) + 1 : Int).toNat).1 _ V hG x1 y1 hx1 (by omega) (0 : Int32) 0 (show (0 : Int32).toInt = 0 from rfl) (0 : Int32) 0 (show (0 : Int32).toInt = 0 from rfl) (by omega)    (by omega)
    · refine X_aload_n rfl rfl rfl rfl ?_
      refine X_aload_n rfl rfl rfl rfl ?_
      refine S_getI rfl rfl rfl ((congrFun V.1 14).trans s_14) rfl (fun vz28 evz28 => ?_)
      have vf29 := K_12_1 (V.2.2.2.2.1 (14) (1) (Nat.le_of_ble_eq_true rfl)) rk_14
      rw [evz28] at vf29
      refine X_iconst (v := (1 : Int32)) rfl rfl rfl ?_
      refine S_iadd rfl rfl rfl (show (1 : Int32).toInt = 1 from rfl) (by omega) (fun vz30 hvz30 => ?_)
      refine X_bipush (v := (30 : Int32)) rfl rfl rfl ?_
      refine S_irem rfl rfl rfl (show (30 : Int32).toInt = 30 from rfl) (by omega) (by omega) (fun vz31 hvz31 => ?_)
      refine S_putI (I := Inv _) rfl rfl rfl ((congrFun V.1 14).trans s_14) rfl rfl rfl rfl (Inv_putI V (Nat.le_of_ble_eq_true rfl) (Or.inl (by decide)) (Q_12_1 rk_14 (by omega))) (fun g V ve32 vn33 hq => ?_)
      have hG := hq.trans hG
      have evz2 := (vn33 (14) 0 (Or.inr (by decide))).trans evz2
      refine X_aload_n rfl rfl rfl rfl ?_
      refine X_dup rfl rfl rfl ?_
      refine X_getI (v := vz2) rfl rfl rfl ((congrFun V.1 14).trans s_14) rfl evz2 ?_
      refine X_iconst (v := (1 : Int32)) rfl rfl rfl ?_
      refine S_isub rfl rfl rfl (show (1 : Int32).toInt = 1 from rfl) (by omega) (fun vz34 hvz34 => ?_)
      refine S_putI (I := Inv _) rfl rfl rfl ((congrFun V.1 14).trans s_14) rfl rfl rfl rfl (Inv_putI V (Nat.le_of_ble_eq_true rfl) (Or.inl (by decide)) (Q_12_0 rk_14 (by omega))) (fun g V ve35 vn36 hq => ?_)
      have hG := hq.trans hG
      have ve32 := (vn36 (14) 1 (Or.inr (by decide))).trans ve32
      refine X_aload_n rfl rfl rfl rfl ?_
      refine X_getR (a := 15) rfl rfl rfl ((congrFun V.1 14).trans s_14) rfl ((congrFun (V.2.1 14 (by decide)) 2).trans r_14_2) ?_
      refine X_aload_n rfl rfl rfl rfl ?_
      refine X_getI (v := vz31) rfl rfl rfl ((congrFun V.1 14).trans s_14) rfl ve32 ?_
      refine X_aload_n rfl rfl rfl rfl ?_
      refine X_getI (v := vz34) rfl rfl rfl ((congrFun V.1 14).trans s_14) rfl ve35 ?_
      refine S_iadd rfl rfl rfl rfl (by omega) (fun vz37 hvz37 => ?_)
      refine X_bipush (v := (30 : Int32)) rfl rfl rfl ?_
      refine S_irem rfl rfl rfl (show (30 : Int32).toInt = 30 from rfl) (by omega) (by omega) (fun vz38 hvz38 => ?_)
      obtain ⟨t, ht, et⟩ : ∃ t : Nat, t < 30 ∧ (t : Int) = vz38.toInt := ⟨(vz38.toInt : Int).toNat, by omega, by omega⟩
      refine X_aald (a := 16 + 4 * t) (t0 := 3) rfl rfl ((congrFun V.1 15).trans s_15) rfl (ti_idx (n := 30) rfl (by omega)).1 (by rw [(ti_idx (n := 30) rfl (by omega)).2, show (vz38.toInt : Int).toNat = t by omega]; exact (congrFun (V.2.1 15 (by decide)) t).trans (sp_a t ht)) ?_
      refine X_aload_n rfl rfl rfl rfl ?_
      refine X_callV (as := [.ref 10]) (st := []) rfl rfl rfl (by decide) rfl (Nat.le_of_ble_eq_true rfl) (by decide) (Nat.le_of_ble_eq_true rfl) rfl ((congrFun V.1 _).trans (sp_s t ht)) (by decide) ?_
      refine LW_ls (ls' := [some (.ref (16 + 4 * t)), some (.ref 10)]) rfl ?_
      refine X_aload_n rfl rfl rfl rfl ?_
      refine X_aload_n rfl rfl rfl rfl ?_
      refine S_getI rfl rfl rfl ((congrFun V.1 10).trans s_10) rfl (fun vz39 evz39 => ?_)
      refine S_putI (I := Inv _) rfl rfl rfl ((congrFun V.1 _).trans (sp_s t ht)) rfl rfl rfl rfl (Inv_putI V (by omega) (Or.inl (by omega)) (Q_11_0 (sp_k t ht))) (fun g V ve40 vn41 hq => ?_)
      have hG := hq.trans hG
      have ve32 := (vn41 (14) 1 (Or.inl (by omega))).trans ve32
      have ve35 := (vn41 (14) 0 (Or.inl (by omega))).trans ve35
      have evz39 := (vn41 (10) 0 (Or.inl (by omega))).trans evz39
      refine X_aload_n rfl rfl rfl rfl ?_
      refine X_aload_n rfl rfl rfl rfl ?_
      refine S_getI rfl rfl rfl ((congrFun V.1 10).trans s_10) rfl (fun vz42 evz42 => ?_)
      refine S_putI (I := Inv _) rfl rfl rfl ((congrFun V.1 _).trans (sp_s t ht)) rfl rfl rfl rfl (Inv_putI V (by omega) (Or.inl (by omega)) (Q_11_1 (sp_k t ht))) (fun g V ve43 vn44 hq => ?_)
      have hG := hq.trans hG
      have ve32 := (vn44 (14) 1 (Or.inl (by omega))).trans ve32
      have ve35 := (vn44 (14) 0 (Or.inl (by omega))).trans ve35
      have evz39 := (vn44 (10) 0 (Or.inl (by omega))).trans evz39
      have ve40 := (vn44 (16 + 4 * t) 0 (Or.inr (by decide))).trans ve40
      have evz42 := (vn44 (10) 1 (Or.inl (by omega))).trans evz42
      refine X_aload_n rfl rfl rfl rfl ?_
      refine X_aload_n rfl rfl rfl rfl ?_
      refine S_getI rfl rfl rfl ((congrFun V.1 10).trans s_10) rfl (fun vz45 evz45 => ?_)
      refine S_putI (I := Inv _) rfl rfl rfl ((congrFun V.1 _).trans (sp_s t ht)) rfl rfl rfl rfl (Inv_putI V (by omega) (Or.inl (by omega)) (Q_11_2 (sp_k t ht))) (fun g V ve46 vn47 hq => ?_)
      have hG := hq.trans hG
      have ve32 := (vn47 (14) 1 (Or.inl (by omega))).trans ve32
      have ve35 := (vn47 (14) 0 (Or.inl (by omega))).trans ve35
      have evz39 := (vn47 (10) 0 (Or.inl (by omega))).trans evz39
      have ve40 := (vn47 (16 + 4 * t) 0 (Or.inr (by decide))).trans ve40
      have evz42 := (vn47 (10) 1 (Or.inl (by omega))).trans evz42
      have ve43 := (vn47 (16 + 4 * t) 1 (Or.inr (by decide))).trans ve43
      have evz45 := (vn47 (10) 2 (Or.inl (by omega))).trans evz45
      refine X_aload_n rfl rfl rfl rfl ?_
      refine X_aload_n rfl rfl rfl rfl ?_
      refine S_getI rfl rfl rfl ((congrFun V.1 10).trans s_10) rfl (fun vz48 evz48 => ?_)
      have vf49 := K_11_3 (V.2.2.2.2.1 (10) (3) (Nat.le_of_ble_eq_true rfl)) rk_10
      rw [evz48] at vf49
      refine S_putI (I := Inv _) rfl rfl rfl ((congrFun V.1 _).trans (sp_s t ht)) rfl rfl rfl rfl (Inv_putI V (by omega) (Or.inl (by omega)) (Q_11_3 (sp_k t ht) (by omega))) (fun g V ve50 vn51 hq => ?_)
      have hG := hq.trans hG
      have ve32 := (vn51 (14) 1 (Or.inl (by omega))).trans ve32
      have ve35 := (vn51 (14) 0 (Or.inl (by omega))).trans ve35
      have evz39 := (vn51 (10) 0 (Or.inl (by omega))).trans evz39
      have ve40 := (vn51 (16 + 4 * t) 0 (Or.inr (by decide))).trans ve40
      have evz42 := (vn51 (10) 1 (Or.inl (by omega))).trans evz42
      have ve43 := (vn51 (16 + 4 * t) 1 (Or.inr (by decide))).trans ve43
      have evz45 := (vn51 (10) 2 (Or.inl (by omega))).trans evz45
      have ve46 := (vn51 (16 + 4 * t) 2 (Or.inr (by decide))).trans ve46
      have evz48 := (vn51 (10) 3 (Or.inl (by omega))).trans evz48
      refine X_aload_n rfl rfl rfl rfl ?_
      refine X_getR (a := 11) rfl rfl rfl ((congrFun V.1 10).trans s_10) rfl ((congrFun (V.2.1 10 (by decide)) 4).trans r_10_4) ?_
      refine X_iconst (v := (0 : Int32)) rfl rfl rfl ?_
      refine X_aload_n rfl rfl rfl rfl ?_
      refine X_getR (a := 17 + 4 * t) rfl rfl rfl ((congrFun V.1 _).trans (sp_s t ht)) rfl ((congrFun (V.2.1 (16 + 4 * t) (by omega)) 4).trans (sp_r4 t ht)) ?_
      refine X_iconst (v := (0 : Int32)) rfl rfl rfl ?_
      refine X_bipush (v := (26 : Int32)) rfl rfl rfl ?_
      refine S_copy (I := Inv _) (sp' := 0) (dp' := 0) (n' := 26) rfl rfl rfl ((congrFun V.1 11).trans s_11) ((congrFun V.1 _).trans (sp_s4 t ht)) (by decide) (by decide) (by decide) rfl rfl rfl (by decide) (by decide) (Nat.le_of_ble_eq_true rfl) (Inv_cpy V (Nat.le_of_ble_eq_true rfl) (by omega) (by omega) (U_0 rk_11 (sp_k4 t ht))) (fun g V vn52 hq => ?_)
      have hG := hq.trans hG
      have ve32 := (vn52 (14) 1 (by omega)).trans ve32
      have ve35 := (vn52 (14) 0 (by omega)).trans ve35
      have evz39 := (vn52 (10) 0 (by omega)).trans evz39
      have ve40 := (vn52 (16 + 4 * t) 0 (by omega)).trans ve40
      have evz42 := (vn52 (10) 1 (by omega)).trans evz42
      have ve43 := (vn52 (16 + 4 * t) 1 (by omega)).trans ve43
      have evz45 := (vn52 (10) 2 (by omega)).trans evz45
      have ve46 := (vn52 (16 + 4 * t) 2 (by omega)).trans ve46
      have evz48 := (vn52 (10) 3 (by omega)).trans evz48
      have ve50 := (vn52 (16 + 4 * t) 3 (by omega)).trans ve50
      refine X_aload_n rfl rfl rfl rfl ?_
      refine X_getR (a := 12) rfl rfl rfl ((congrFun V.1 10).trans s_10) rfl ((congrFun (V.2.1 10 (by decide)) 5).trans r_10_5) ?_
      refine X_iconst (v := (0 : Int32)) rfl rfl rfl ?_
      refine X_aload_n rfl rfl rfl rfl ?_
      refine X_getR (a := 18 + 4 * t) rfl rfl rfl ((congrFun V.1 _).trans (sp_s t ht)) rfl ((congrFun (V.2.1 (16 + 4 * t) (by omega)) 5).trans (sp_r5 t ht)) ?_
      refine X_iconst (v := (0 : Int32)) rfl rfl rfl ?_
      refine X_bipush (v := (26 : Int32)) rfl rfl rfl ?_
      refine S_copy (I := Inv _) (sp' := 0) (dp' := 0) (n' := 26) rfl rfl rfl ((congrFun V.1 12).trans s_12) ((congrFun V.1 _).trans (sp_s5 t ht)) (by decide) (by decide) (by decide) rfl rfl rfl (by decide) (by decide) (Nat.le_of_ble_eq_true rfl) (Inv_cpy V (Nat.le_of_ble_eq_true rfl) (by omega) (by omega) (U_0 rk_12 (sp_k5 t ht))) (fun g V vn53 hq => ?_)
      have hG := hq.trans hG
      have ve32 := (vn53 (14) 1 (by omega)).trans ve32
      have ve35 := (vn53 (14) 0 (by omega)).trans ve35
      have evz39 := (vn53 (10) 0 (by omega)).trans evz39
      have ve40 := (vn53 (16 + 4 * t) 0 (by omega)).trans ve40
      have evz42 := (vn53 (10) 1 (by omega)).trans evz42
      have ve43 := (vn53 (16 + 4 * t) 1 (by omega)).trans ve43
      have evz45 := (vn53 (10) 2 (by omega)).trans evz45
      have ve46 := (vn53 (16 + 4 * t) 2 (by omega)).trans ve46
      have evz48 := (vn53 (10) 3 (by omega)).trans evz48
      have ve50 := (vn53 (16 + 4 * t) 3 (by omega)).trans ve50
      refine X_aload_n rfl rfl rfl rfl ?_
      refine X_getR (a := 13) rfl rfl rfl ((congrFun V.1 10).trans s_10) rfl ((congrFun (V.2.1 10 (by decide)) 6).trans r_10_6) ?_
      refine X_iconst (v := (0 : Int32)) rfl rfl rfl ?_
      refine X_aload_n rfl rfl rfl rfl ?_
      refine X_getR (a := 19 + 4 * t) rfl rfl rfl ((congrFun V.1 _).trans (sp_s t ht)) rfl ((congrFun (V.2.1 (16 + 4 * t) (by omega)) 6).trans (sp_r6 t ht)) ?_
      refine X_iconst (v := (0 : Int32)) rfl rfl rfl ?_
      refine X_bipush (v := (26 : Int32)) rfl rfl rfl ?_
      refine S_copy (I := Inv _) (sp' := 0) (dp' := 0) (n' := 26) rfl rfl rfl ((congrFun V.1 13).trans s_13) ((congrFun V.1 _).trans (sp_s6 t ht)) (by decide) (by decide) (by decide) rfl rfl rfl (by decide) (by decide) (Nat.le_of_ble_eq_true rfl) (Inv_cpy V (Nat.le_of_ble_eq_true rfl) (by omega) (by omega) (U_0 rk_13 (sp_k6 t ht))) (fun g V vn54 hq => ?_)
      have hG := hq.trans hG
      have ve32 := (vn54 (14) 1 (by omega)).trans ve32
      have ve35 := (vn54 (14) 0 (by omega)).trans ve35
      have evz39 := (vn54 (10) 0 (by omega)).trans evz39
      have ve40 := (vn54 (16 + 4 * t) 0 (by omega)).trans ve40
      have evz42 := (vn54 (10) 1 (by omega)).trans evz42
      have ve43 := (vn54 (16 + 4 * t) 1 (by omega)).trans ve43
      have evz45 := (vn54 (10) 2 (by omega)).trans evz45
      have ve46 := (vn54 (16 + 4 * t) 2 (by omega)).trans ve46
      have evz48 := (vn54 (10) 3 (by omega)).trans evz48
      have ve50 := (vn54 (16 + 4 * t) 3 (by omega)).trans ve50
      refine LW_return (st := []) rfl rfl ?_
      refine X_aload_n rfl rfl rfl rfl ?_
      refine X_dup rfl rfl rfl ?_
      refine X_getI (v := vz34) rfl rfl rfl ((congrFun V.1 14).trans s_14) rfl ve35 ?_
      refine X_iconst (v := (1 : Int32)) rfl rfl rfl ?_
      refine S_iadd rfl rfl rfl (show (1 : Int32).toInt = 1 from rfl) (by omega) (fun vz55 hvz55 => ?_)
      refine S_putI (I := Inv _) rfl rfl rfl ((congrFun V.1 14).trans s_14) rfl rfl rfl rfl (Inv_putI V (Nat.le_of_ble_eq_true rfl) (Or.inl (by decide)) (Q_12_0 rk_14 (by omega))) (fun g V ve56 vn57 hq => ?_)
      have hG := hq.trans hG
      have ve32 := (vn57 (14) 1 (Or.inr (by decide))).trans ve32
      have evz39 := (vn57 (10) 0 (Or.inl (by decide))).trans evz39
      have ve40 := (vn57 (16 + 4 * t) 0 (Or.inl (by omega))).trans ve40
      have evz42 := (vn57 (10) 1 (Or.inl (by decide))).trans evz42
      have ve43 := (vn57 (16 + 4 * t) 1 (Or.inl (by omega))).trans ve43
      have evz45 := (vn57 (10) 2 (Or.inl (by decide))).trans evz45
      have ve46 := (vn57 (16 + 4 * t) 2 (Or.inl (by omega))).trans ve46
      have evz48 := (vn57 (10) 3 (Or.inl (by decide))).trans evz48
      have ve50 := (vn57 (16 + 4 * t) 3 (Or.inl (by omega))).trans ve50
      refine LW_return (st := []) rfl rfl ?_
      refine X_iconst (v := (0 : Int32)) rfl rfl rfl ?_
      refine X_istore_n (i := 2) (ls' := [some (.ref 342), some (.int x1), some (.int (0 : Int32)), none]) rfl rfl rfl (Nat.le_of_ble_eq_true rfl) rfl ?_
      refine X_iconst (v := (0 : Int32)) rfl rfl rfl ?_
      refine X_istore_n (i := 3) (ls' := [some (.ref 342), some (.int x1), some (.int (0 : Int32)), some (.int (0 : Int32))]) rfl rfl rfl (Nat.le_of_ble_eq_true rfl) rfl ?_
      exact (C_X1_dawn_all (((26 - 0) * 1 + 28) + 1 : Int).toNat).1 _ V hG x1 y1 hx1 (by omega) (0 : Int32) 0 (show (0 : Int32).toInt = 0 from rfl) (0 : Int32) 0 (show (0 : Int32).toInt = 0 from rfl) (by omega)    (by omega)
set_option maxRecDepth 10000 in
set_option maxHeartbeats 40000000 in
theorem C_X1_passMornings_18 {P : Par} {g g0 : LH} {d n : Nat}  (V : Inv P g) (hG : Gr g = Gr g0) (x1 : Int32) (y1 : Int) (hx1 : x1.toInt = y1) (x2 : Int32) (y2 : Int) (hx2 : x2.toInt = y2) (x3 : Int32) (y3 : Int) (hx3 : x3.toInt = y3) (hf3 : 0 ≤ y3)  (hmu : (2147483647 - y3) * 1 + 0 < (n : Int) + 1) (ih18 : ∀ (g : LH) (V : Inv P g) (hG : Gr g = Gr g0) (x1 : Int32) (y1 : Int) (hx1 : x1.toInt = y1) (x2 : Int32) (y2 : Int) (hx2 : x2.toInt = y2) (x3 : Int32) (y3 : Int) (hx3 : x3.toInt = y3) (hf3 : 0 ≤ y3) , (2147483647 - y3) * 1 + 0 < (n : Int) → LW 4 (d + 23) 0 0 18 [some (.ref 342), some (.int x1), some (.int x2), some (.int x3)] [] g (fun v g' => ∃ r : Int32, v = some (.int r) ∧ Inv P g' ∧ Gr g' = Gr g0)) : LW 4 (d + 23) 0 0 18 [some (.ref 342), some (.int x1), some (.int x2), some (.int x3)] [] g (fun v g' => ∃ r : Int32, v = some (.int r) ∧ Inv P g' ∧ Gr g' = Gr g0) := by
  refine X_iload_n rfl rfl rfl rfl ?_
  refine X_iload_n rfl rfl rfl rfl ?_
  refine S_icmp_ge (tgt := 34) rfl rfl rfl hx3 hx2 (fun vh1 => ?_) (fun vh1 => ?_)
  · refine X_iload_n rfl rfl rfl rfl ?_
    exact LW_ireturn (st := []) rfl rfl rfl ⟨_, rfl, V, hG⟩
  · refine X_aload_n rfl rfl rfl rfl ?_
    refine X_iconst (v := (1 : Int32)) rfl rfl rfl ?_
    refine Y_callV (as := [.int (1 : Int32)]) (st := []) rfl rfl rfl (by decide) rfl (Nat.le_of_ble_eq_true rfl) (by decide) (Nat.le_of_ble_eq_true rfl) rfl ((congrFun V.1 342).trans s_342) (by decide) (C_X1_dawn V (1 : Int32) 1 (show (1 : Int32).toInt = 1 from rfl) (by omega) ) ?_
    rintro _ g ⟨rfl, V, hq⟩
    have hG := hq.trans hG
    have hbvz3 := ti_hi x2
    refine S_iinc (c := 1) rfl rfl rfl hx3 rfl (by omega) (fun vz3 hvz3 => ?_)
    refine LW_ls (ls' := [some (.ref 342), some (.int x1), some (.int x2), some (.int vz3)]) rfl ?_
    refine LW_goto (tgt := 18) rfl rfl ?_
    exact ih18 _ V hG x1 y1 hx1 x2 y2 hx2 vz3 vz3.toInt rfl (by omega)    (by omega)
theorem C_X1_passMornings_all {P : Par} {g0 : LH} {d : Nat}  : ∀ n : Nat, (∀ (g : LH) (V : Inv P g) (hG : Gr g = Gr g0) (x1 : Int32) (y1 : Int) (hx1 : x1.toInt = y1) (x2 : Int32) (y2 : Int) (hx2 : x2.toInt = y2) (x3 : Int32) (y3 : Int) (hx3 : x3.toInt = y3) (hf3 : 0 ≤ y3) , (2147483647 - y3) * 1 + 0 < (n : Int) → LW 4 (d + 23) 0 0 18 [some (.ref 342), some (.int x1), some (.int x2), some (.int x3)] [] g (fun v g' => ∃ r : Int32, v = some (.int r) ∧ Inv P g' ∧ Gr g' = Gr g0)) := by
  intro n
  induction n with
  | zero => exact fun g V hG x1 y1 hx1 x2 y2 hx2 x3 y3 hx3 hf3 hmu => absurd hmu (by have hb3 := ti_hi x3; omega)
  | succ n ih => exact fun g V hG x1 y1 hx1 x2 y2 hx2 x3 y3 hx3 hf3 hmu => C_X1_passMornings_18  V hG x1 y1 hx1 x2 y2 hx2 x3 y3 hx3 hf3 (by omega) ih
set_option maxRecDepth 10000 in
set_option maxHeartbeats 40000000 in
theorem C_X1_passMornings {P : Par} {g : LH} {d : Nat}  (V : Inv P g) (x1 : Int32) (y1 : Int) (hx1 : x1.toInt = y1)   : LW 4 (d + 23) 0 0 0 (lEnt (mL 4) [.ref 342, .int x1]) [] g (fun v g' => ∃ r : Int32, v = some (.int r) ∧ Inv P g' ∧ Gr g' = Gr g) := by
  refine LW_ls (ls' := [some (.ref 342), some (.int x1), none, none]) rfl ?_
  have hG : Gr g = Gr g := rfl
  refine X_iload_n rfl rfl rfl rfl ?_
  refine X_sipush (v := (999 : Int32)) rfl rfl rfl ?_
  refine X_aload_n rfl rfl rfl rfl ?_
  refine X_getR (a := 10) rfl rfl rfl ((congrFun V.1 342).trans s_342) rfl ((congrFun (V.2.1 342 (by decide)) 1).trans r_342_1) ?_
  refine S_getI rfl rfl rfl ((congrFun V.1 10).trans s_10) rfl (fun vz1 evz1 => ?_)
  refine S_isubT rfl rfl (fun vz2 => ?_)
  refine S_min rfl rfl rfl (Nat.le_of_ble_eq_true rfl) hx1 rfl (fun vz3 hvz3 => ?_)
  refine X_istore_n (i := 2) (ls' := [some (.ref 342), some (.int x1), some (.int vz3), none]) rfl rfl rfl (Nat.le_of_ble_eq_true rfl) rfl ?_
  refine X_iconst (v := (0 : Int32)) rfl rfl rfl ?_
  refine X_istore_n (i := 3) (ls' := [some (.ref 342), some (.int x1), some (.int vz3), some (.int (0 : Int32))]) rfl rfl rfl (Nat.le_of_ble_eq_true rfl) rfl ?_
  exact (C_X1_passMornings_all (((2147483647 - 0) * 1 + 0) + 1 : Int).toNat) _ V hG x1 y1 hx1 vz3 vz3.toInt rfl (0 : Int32) 0 (show (0 : Int32).toInt = 0 from rfl) (by omega)    (by omega)
set_option maxRecDepth 10000 in
set_option maxHeartbeats 40000000 in
theorem C_X12_morning {P : Par} {g : LH} {d : Nat}  (V : Inv P g) (x1 : Int32) (y1 : Int) (hx1 : x1.toInt = y1)   : LW 134 (d + 27) 0 0 0 (lEnt (mL 134) [.ref 0, .int x1]) [] g (fun v g' => ∃ r : Int32, v = some (.int r) ∧ (-1) ≤ r.toInt ∧ r.toInt ≤ 63 ∧ Inv P g' ∧ Gr g' = Gr g) := by
  refine LW_ls (ls' := [some (.ref 0), some (.int x1)]) rfl ?_
  have hG : Gr g = Gr g := rfl
  refine X_iload_n rfl rfl rfl rfl ?_
  refine X_iconst (v := (1 : Int32)) rfl rfl rfl ?_
  refine S_icmp_lt (tgt := 29) rfl rfl rfl hx1 (show (1 : Int32).toInt = 1 from rfl) (fun vh1 => ?_) (fun vh1 => ?_)
  · refine X_iconst (v := (-1 : Int32)) rfl rfl rfl ?_
    exact LW_ireturn (st := []) rfl rfl rfl ⟨_, rfl, by decide, by decide, V, hG⟩
  · refine X_iload_n rfl rfl rfl rfl ?_
    refine X_bipush (v := (99 : Int32)) rfl rfl rfl ?_
    refine S_icmp_gt (tgt := 29) rfl rfl rfl hx1 (show (99 : Int32).toInt = 99 from rfl) (fun vh2 => ?_) (fun vh2 => ?_)
    · refine X_iconst (v := (-1 : Int32)) rfl rfl rfl ?_
      exact LW_ireturn (st := []) rfl rfl rfl ⟨_, rfl, by decide, by decide, V, hG⟩
    · refine X_aload_n rfl rfl rfl rfl ?_
      refine X_getR (a := 1) rfl rfl rfl ((congrFun V.1 0).trans s_0) rfl ((congrFun (V.2.1 0 (by decide)) 0).trans r_0_0) ?_
      refine X_getR (a := 10) rfl rfl rfl ((congrFun V.1 1).trans s_1) rfl ((congrFun (V.2.1 1 (by decide)) 1).trans r_1_1) ?_
      refine S_getI rfl rfl rfl ((congrFun V.1 10).trans s_10) rfl (fun vz3 evz3 => ?_)
      refine X_iload_n rfl rfl rfl rfl ?_
      refine S_iaddT rfl rfl (fun vz4 => ?_)
      refine X_sipush (v := (999 : Int32)) rfl rfl rfl ?_
      refine S_icmp_le (tgt := 31) rfl rfl rfl rfl (show (999 : Int32).toInt = 999 from rfl) (fun vh5 => ?_) (fun vh5 => ?_)
      · refine X_aload_n rfl rfl rfl rfl ?_
        refine X_getR (a := 342) rfl rfl rfl ((congrFun V.1 0).trans s_0) rfl ((congrFun (V.2.1 0 (by decide)) 6).trans r_0_6) ?_
        refine X_iload_n rfl rfl rfl rfl ?_
        refine Y_callV (as := [.int x1]) (st := []) rfl rfl rfl (by decide) rfl (Nat.le_of_ble_eq_true rfl) (by decide) (Nat.le_of_ble_eq_true rfl) rfl ((congrFun V.1 342).trans s_342) (by decide) (C_X1_passMornings V x1 y1 hx1 ) ?_
        rintro _ g ⟨vr6, rfl, V, hq⟩
        have hG := hq.trans hG
        refine X_pop rfl rfl rfl ?_
        refine X_aload_n rfl rfl rfl rfl ?_
        refine X_getR (a := 1) rfl rfl rfl ((congrFun V.1 0).trans s_0) rfl ((congrFun (V.2.1 0 (by decide)) 0).trans r_0_0) ?_
        refine X_getR (a := 10) rfl rfl rfl ((congrFun V.1 1).trans s_1) rfl ((congrFun (V.2.1 1 (by decide)) 1).trans r_1_1) ?_
        refine Y_callV (as := []) (st := []) rfl rfl rfl (by decide) rfl (Nat.le_of_ble_eq_true rfl) (by decide) (Nat.le_of_ble_eq_true rfl) rfl ((congrFun V.1 10).trans s_10) (by decide) (C_X9_outs V  ) ?_
        rintro _ g' ⟨vr7, rfl, hrvr70, hrvr71, hgg⟩
        subst hgg
        have hr := (rfl : vr7.toInt = vr7.toInt)
        exact LW_ireturn (st := []) rfl rfl rfl ⟨_, rfl, by omega, by omega, V, hG⟩
      · refine X_iconst (v := (-1 : Int32)) rfl rfl rfl ?_
        exact LW_ireturn (st := []) rfl rfl rfl ⟨_, rfl, by decide, by decide, V, hG⟩
set_option maxRecDepth 10000 in
set_option maxHeartbeats 40000000 in
theorem C_X1_call {P : Par} {g : LH} {d : Nat}  (V : Inv P g) (x1 : Int32) (y1 : Int) (hx1 : x1.toInt = y1)   : LW 8 (d + 10) 0 0 0 (lEnt (mL 8) [.ref 342, .int x1]) [] g (fun v g' => ∃ r : Int32, v = some (.int r) ∧ 0 ≤ r.toInt ∧ r.toInt ≤ 63 ∧ Inv P g' ∧ Gr g' = Gr g) := by
  refine LW_ls (ls' := [some (.ref 342), some (.int x1)]) rfl ?_
  have hG : Gr g = Gr g := rfl
  refine X_iload_n rfl rfl rfl rfl ?_
  refine S_if_eq (tgt := 26) rfl rfl rfl hx1 (fun vh1 => ?_) (fun vh1 => ?_)
  · refine X_iload_n rfl rfl rfl rfl ?_
    refine Y_callS (as := [.int x1]) (st := []) rfl rfl rfl (by decide) rfl (Nat.le_of_ble_eq_true rfl) (by decide) (Nat.le_of_ble_eq_true rfl) rfl (c_bc hx1 0 (by omega) (by decide)) ?_
    rintro _ g' ⟨vr2, rfl, hrvr20, hrvr21, hgg⟩
    subst hgg
    have hr := (rfl : vr2.toInt = vr2.toInt)
    exact LW_ireturn (st := []) rfl rfl rfl ⟨_, rfl, by omega, by omega, V, hG⟩
  · refine X_aload_n rfl rfl rfl rfl ?_
    refine X_getR (a := 1) rfl rfl rfl ((congrFun V.1 342).trans s_342) rfl ((congrFun (V.2.1 342 (by decide)) 0).trans r_342_0) ?_
    refine X_getR (a := 14) rfl rfl rfl ((congrFun V.1 1).trans s_1) rfl ((congrFun (V.2.1 1 (by decide)) 2).trans r_1_2) ?_
    refine X_aload_n rfl rfl rfl rfl ?_
    refine X_getR (a := 10) rfl rfl rfl ((congrFun V.1 342).trans s_342) rfl ((congrFun (V.2.1 342 (by decide)) 1).trans r_342_1) ?_
    refine X_callV (as := [.ref 10]) (st := []) rfl rfl rfl (by decide) rfl (Nat.le_of_ble_eq_true rfl) (by decide) (Nat.le_of_ble_eq_true rfl) rfl ((congrFun V.1 14).trans s_14) (by decide) ?_
    refine LW_ls (ls' := [some (.ref 14), some (.ref 10)]) rfl ?_
    refine X_aload_n rfl rfl rfl rfl ?_
    refine S_getI rfl rfl rfl ((congrFun V.1 14).trans s_14) rfl (fun vz3 evz3 => ?_)
    have vf4 := K_12_0 (V.2.2.2.2.1 (14) (0) (Nat.le_of_ble_eq_true rfl)) rk_14
    rw [evz3] at vf4
    refine X_bipush (v := (30 : Int32)) rfl rfl rfl ?_
    refine S_icmp_ne (tgt := 32) rfl rfl rfl rfl (show (30 : Int32).toInt = 30 from rfl) (fun vh5 => ?_) (fun vh5 => ?_)
    · refine X_aload_n rfl rfl rfl rfl ?_
      refine X_getR (a := 15) rfl rfl rfl ((congrFun V.1 14).trans s_14) rfl ((congrFun (V.2.1 14 (by decide)) 2).trans r_14_2) ?_
      refine X_aload_n rfl rfl rfl rfl ?_
      refine S_getI rfl rfl rfl ((congrFun V.1 14).trans s_14) rfl (fun vz6 evz6 => ?_)
      have vf7 := K_12_1 (V.2.2.2.2.1 (14) (1) (Nat.le_of_ble_eq_true rfl)) rk_14
      rw [evz6] at vf7
      refine X_aload_n rfl rfl rfl rfl ?_
      refine X_getI (v := vz3) rfl rfl rfl ((congrFun V.1 14).trans s_14) rfl evz3 ?_
      refine S_iadd rfl rfl rfl rfl (by omega) (fun vz8 hvz8 => ?_)
      refine X_bipush (v := (30 : Int32)) rfl rfl rfl ?_
      refine S_irem rfl rfl rfl (show (30 : Int32).toInt = 30 from rfl) (by omega) (by omega) (fun vz9 hvz9 => ?_)
      obtain ⟨t, ht, et⟩ : ∃ t : Nat, t < 30 ∧ (t : Int) = vz9.toInt := ⟨(vz9.toInt : Int).toNat, by omega, by omega⟩
      refine X_aald (a := 16 + 4 * t) (t0 := 3) rfl rfl ((congrFun V.1 15).trans s_15) rfl (ti_idx (n := 30) rfl (by omega)).1 (by rw [(ti_idx (n := 30) rfl (by omega)).2, show (vz9.toInt : Int).toNat = t by omega]; exact (congrFun (V.2.1 15 (by decide)) t).trans (sp_a t ht)) ?_
      refine X_aload_n rfl rfl rfl rfl ?_
      refine X_callV (as := [.ref 10]) (st := []) rfl rfl rfl (by decide) rfl (Nat.le_of_ble_eq_true rfl) (by decide) (Nat.le_of_ble_eq_true rfl) rfl ((congrFun V.1 _).trans (sp_s t ht)) (by decide) ?_
      refine LW_ls (ls' := [some (.ref (16 + 4 * t)), some (.ref 10)]) rfl ?_
      refine X_aload_n rfl rfl rfl rfl ?_
      refine X_aload_n rfl rfl rfl rfl ?_
      refine S_getI rfl rfl rfl ((congrFun V.1 10).trans s_10) rfl (fun vz10 evz10 => ?_)
      refine S_putI (I := Inv _) rfl rfl rfl ((congrFun V.1 _).trans (sp_s t ht)) rfl rfl rfl rfl (Inv_putI V (by omega) (Or.inl (by omega)) (Q_11_0 (sp_k t ht))) (fun g V ve11 vn12 hq => ?_)
      have hG := hq.trans hG
      have evz3 := (vn12 (14) 0 (Or.inl (by omega))).trans evz3
      have evz6 := (vn12 (14) 1 (Or.inl (by omega))).trans evz6
      have evz10 := (vn12 (10) 0 (Or.inl (by omega))).trans evz10
      refine X_aload_n rfl rfl rfl rfl ?_
      refine X_aload_n rfl rfl rfl rfl ?_
      refine S_getI rfl rfl rfl ((congrFun V.1 10).trans s_10) rfl (fun vz13 evz13 => ?_)
      refine S_putI (I := Inv _) rfl rfl rfl ((congrFun V.1 _).trans (sp_s t ht)) rfl rfl rfl rfl (Inv_putI V (by omega) (Or.inl (by omega)) (Q_11_1 (sp_k t ht))) (fun g V ve14 vn15 hq => ?_)
      have hG := hq.trans hG
      have evz3 := (vn15 (14) 0 (Or.inl (by omega))).trans evz3
      have evz6 := (vn15 (14) 1 (Or.inl (by omega))).trans evz6
      have evz10 := (vn15 (10) 0 (Or.inl (by omega))).trans evz10
      have ve11 := (vn15 (16 + 4 * t) 0 (Or.inr (by decide))).trans ve11
      have evz13 := (vn15 (10) 1 (Or.inl (by omega))).trans evz13
      refine X_aload_n rfl rfl rfl rfl ?_
      refine X_aload_n rfl rfl rfl rfl ?_
      refine S_getI rfl rfl rfl ((congrFun V.1 10).trans s_10) rfl (fun vz16 evz16 => ?_)
      refine S_putI (I := Inv _) rfl rfl rfl ((congrFun V.1 _).trans (sp_s t ht)) rfl rfl rfl rfl (Inv_putI V (by omega) (Or.inl (by omega)) (Q_11_2 (sp_k t ht))) (fun g V ve17 vn18 hq => ?_)
      have hG := hq.trans hG
      have evz3 := (vn18 (14) 0 (Or.inl (by omega))).trans evz3
      have evz6 := (vn18 (14) 1 (Or.inl (by omega))).trans evz6
      have evz10 := (vn18 (10) 0 (Or.inl (by omega))).trans evz10
      have ve11 := (vn18 (16 + 4 * t) 0 (Or.inr (by decide))).trans ve11
      have evz13 := (vn18 (10) 1 (Or.inl (by omega))).trans evz13
      have ve14 := (vn18 (16 + 4 * t) 1 (Or.inr (by decide))).trans ve14
      have evz16 := (vn18 (10) 2 (Or.inl (by omega))).trans evz16
      refine X_aload_n rfl rfl rfl rfl ?_
      refine X_aload_n rfl rfl rfl rfl ?_
      refine S_getI rfl rfl rfl ((congrFun V.1 10).trans s_10) rfl (fun vz19 evz19 => ?_)
      have vf20 := K_11_3 (V.2.2.2.2.1 (10) (3) (Nat.le_of_ble_eq_true rfl)) rk_10
      rw [evz19] at vf20
      refine S_putI (I := Inv _) rfl rfl rfl ((congrFun V.1 _).trans (sp_s t ht)) rfl rfl rfl rfl (Inv_putI V (by omega) (Or.inl (by omega)) (Q_11_3 (sp_k t ht) (by omega))) (fun g V ve21 vn22 hq => ?_)
      have hG := hq.trans hG
      have evz3 := (vn22 (14) 0 (Or.inl (by omega))).trans evz3
      have evz6 := (vn22 (14) 1 (Or.inl (by omega))).trans evz6
      have evz10 := (vn22 (10) 0 (Or.inl (by omega))).trans evz10
      have ve11 := (vn22 (16 + 4 * t) 0 (Or.inr (by decide))).trans ve11
      have evz13 := (vn22 (10) 1 (Or.inl (by omega))).trans evz13
      have ve14 := (vn22 (16 + 4 * t) 1 (Or.inr (by decide))).trans ve14
      have evz16 := (vn22 (10) 2 (Or.inl (by omega))).trans evz16
      have ve17 := (vn22 (16 + 4 * t) 2 (Or.inr (by decide))).trans ve17
      have evz19 := (vn22 (10) 3 (Or.inl (by omega))).trans evz19
      refine X_aload_n rfl rfl rfl rfl ?_
      refine X_getR (a := 11) rfl rfl rfl ((congrFun V.1 10).trans s_10) rfl ((congrFun (V.2.1 10 (by decide)) 4).trans r_10_4) ?_
      refine X_iconst (v := (0 : Int32)) rfl rfl rfl ?_
      refine X_aload_n rfl rfl rfl rfl ?_
      refine X_getR (a := 17 + 4 * t) rfl rfl rfl ((congrFun V.1 _).trans (sp_s t ht)) rfl ((congrFun (V.2.1 (16 + 4 * t) (by omega)) 4).trans (sp_r4 t ht)) ?_
      refine X_iconst (v := (0 : Int32)) rfl rfl rfl ?_
      refine X_bipush (v := (26 : Int32)) rfl rfl rfl ?_
      refine S_copy (I := Inv _) (sp' := 0) (dp' := 0) (n' := 26) rfl rfl rfl ((congrFun V.1 11).trans s_11) ((congrFun V.1 _).trans (sp_s4 t ht)) (by decide) (by decide) (by decide) rfl rfl rfl (by decide) (by decide) (Nat.le_of_ble_eq_true rfl) (Inv_cpy V (Nat.le_of_ble_eq_true rfl) (by omega) (by omega) (U_0 rk_11 (sp_k4 t ht))) (fun g V vn23 hq => ?_)
      have hG := hq.trans hG
      have evz3 := (vn23 (14) 0 (by omega)).trans evz3
      have evz6 := (vn23 (14) 1 (by omega)).trans evz6
      have evz10 := (vn23 (10) 0 (by omega)).trans evz10
      have ve11 := (vn23 (16 + 4 * t) 0 (by omega)).trans ve11
      have evz13 := (vn23 (10) 1 (by omega)).trans evz13
      have ve14 := (vn23 (16 + 4 * t) 1 (by omega)).trans ve14
      have evz16 := (vn23 (10) 2 (by omega)).trans evz16
      have ve17 := (vn23 (16 + 4 * t) 2 (by omega)).trans ve17
      have evz19 := (vn23 (10) 3 (by omega)).trans evz19
      have ve21 := (vn23 (16 + 4 * t) 3 (by omega)).trans ve21
      refine X_aload_n rfl rfl rfl rfl ?_
      refine X_getR (a := 12) rfl rfl rfl ((congrFun V.1 10).trans s_10) rfl ((congrFun (V.2.1 10 (by decide)) 5).trans r_10_5) ?_
      refine X_iconst (v := (0 : Int32)) rfl rfl rfl ?_
      refine X_aload_n rfl rfl rfl rfl ?_
      refine X_getR (a := 18 + 4 * t) rfl rfl rfl ((congrFun V.1 _).trans (sp_s t ht)) rfl ((congrFun (V.2.1 (16 + 4 * t) (by omega)) 5).trans (sp_r5 t ht)) ?_
      refine X_iconst (v := (0 : Int32)) rfl rfl rfl ?_
      refine X_bipush (v := (26 : Int32)) rfl rfl rfl ?_
      refine S_copy (I := Inv _) (sp' := 0) (dp' := 0) (n' := 26) rfl rfl rfl ((congrFun V.1 12).trans s_12) ((congrFun V.1 _).trans (sp_s5 t ht)) (by decide) (by decide) (by decide) rfl rfl rfl (by decide) (by decide) (Nat.le_of_ble_eq_true rfl) (Inv_cpy V (Nat.le_of_ble_eq_true rfl) (by omega) (by omega) (U_0 rk_12 (sp_k5 t ht))) (fun g V vn24 hq => ?_)
      have hG := hq.trans hG
      have evz3 := (vn24 (14) 0 (by omega)).trans evz3
      have evz6 := (vn24 (14) 1 (by omega)).trans evz6
      have evz10 := (vn24 (10) 0 (by omega)).trans evz10
      have ve11 := (vn24 (16 + 4 * t) 0 (by omega)).trans ve11
      have evz13 := (vn24 (10) 1 (by omega)).trans evz13
      have ve14 := (vn24 (16 + 4 * t) 1 (by omega)).trans ve14
      have evz16 := (vn24 (10) 2 (by omega)).trans evz16
      have ve17 := (vn24 (16 + 4 * t) 2 (by omega)).trans ve17
      have evz19 := (vn24 (10) 3 (by omega)).trans evz19
      have ve21 := (vn24 (16 + 4 * t) 3 (by omega)).trans ve21
      refine X_aload_n rfl rfl rfl rfl ?_
      refine X_getR (a := 13) rfl rfl rfl ((congrFun V.1 10).trans s_10) rfl ((congrFun (V.2.1 10 (by decide)) 6).trans r_10_6) ?_
      refine X_iconst (v := (0 : Int32)) rfl rfl rfl ?_
      refine X_aload_n rfl rfl rfl rfl ?_
      refine X_getR (a := 19 + 4 * t) rfl rfl rfl ((congrFun V.1 _).trans (sp_s t ht)) rfl ((congrFun (V.2.1 (16 + 4 * t) (by omega)) 6).trans (sp_r6 t ht)) ?_
      refine X_iconst (v := (0 : Int32)) rfl rfl rfl ?_
      refine X_bipush (v := (26 : Int32)) rfl rfl rfl ?_
      refine S_copy (I := Inv _) (sp' := 0) (dp' := 0) (n' := 26) rfl rfl rfl ((congrFun V.1 13).trans s_13) ((congrFun V.1 _).trans (sp_s6 t ht)) (by decide) (by decide) (by decide) rfl rfl rfl (by decide) (by decide) (Nat.le_of_ble_eq_true rfl) (Inv_cpy V (Nat.le_of_ble_eq_true rfl) (by omega) (by omega) (U_0 rk_13 (sp_k6 t ht))) (fun g V vn25 hq => ?_)
      have hG := hq.trans hG
      have evz3 := (vn25 (14) 0 (by omega)).trans evz3
      have evz6 := (vn25 (14) 1 (by omega)).trans evz6
      have evz10 := (vn25 (10) 0 (by omega)).trans evz10
      have ve11 := (vn25 (16 + 4 * t) 0 (by omega)).trans ve11
      have evz13 := (vn25 (10) 1 (by omega)).trans evz13
      have ve14 := (vn25 (16 + 4 * t) 1 (by omega)).trans ve14
      have evz16 := (vn25 (10) 2 (by omega)).trans evz16
      have ve17 := (vn25 (16 + 4 * t) 2 (by omega)).trans ve17
      have evz19 := (vn25 (10) 3 (by omega)).trans evz19
      have ve21 := (vn25 (16 + 4 * t) 3 (by omega)).trans ve21
      refine LW_return (st := []) rfl rfl ?_
      refine X_aload_n rfl rfl rfl rfl ?_
      refine X_dup rfl rfl rfl ?_
      refine X_getI (v := vz3) rfl rfl rfl ((congrFun V.1 14).trans s_14) rfl evz3 ?_
      refine X_iconst (v := (1 : Int32)) rfl rfl rfl ?_
      refine S_iadd rfl rfl rfl (show (1 : Int32).toInt = 1 from rfl) (by omega) (fun vz26 hvz26 => ?_)
      refine S_putI (I := Inv _) rfl rfl rfl ((congrFun V.1 14).trans s_14) rfl rfl rfl rfl (Inv_putI V (Nat.le_of_ble_eq_true rfl) (Or.inl (by decide)) (Q_12_0 rk_14 (by omega))) (fun g V ve27 vn28 hq => ?_)
      have hG := hq.trans hG
      have evz6 := (vn28 (14) 1 (Or.inr (by decide))).trans evz6
      have evz10 := (vn28 (10) 0 (Or.inl (by decide))).trans evz10
      have ve11 := (vn28 (16 + 4 * t) 0 (Or.inl (by omega))).trans ve11
      have evz13 := (vn28 (10) 1 (Or.inl (by decide))).trans evz13
      have ve14 := (vn28 (16 + 4 * t) 1 (Or.inl (by omega))).trans ve14
      have evz16 := (vn28 (10) 2 (Or.inl (by decide))).trans evz16
      have ve17 := (vn28 (16 + 4 * t) 2 (Or.inl (by omega))).trans ve17
      have evz19 := (vn28 (10) 3 (Or.inl (by decide))).trans evz19
      have ve21 := (vn28 (16 + 4 * t) 3 (Or.inl (by omega))).trans ve21
      refine LW_return (st := []) rfl rfl ?_
      refine X_aload_n rfl rfl rfl rfl ?_
      refine X_getR (a := 10) rfl rfl rfl ((congrFun V.1 342).trans s_342) rfl ((congrFun (V.2.1 342 (by decide)) 1).trans r_342_1) ?_
      refine X_iload_n rfl rfl rfl rfl ?_
      refine Y_callV (as := [.int x1]) (st := []) rfl rfl rfl (by decide) rfl (Nat.le_of_ble_eq_true rfl) (by decide) (Nat.le_of_ble_eq_true rfl) rfl ((congrFun V.1 10).trans s_10) (by decide) (C_X9_move V x1 y1 hx1 ) ?_
      rintro _ g ⟨rfl, V, hq⟩
      have hG := hq.trans hG
      refine X_iload_n rfl rfl rfl rfl ?_
      refine Y_callS (as := [.int x1]) (st := []) rfl rfl rfl (by decide) rfl (Nat.le_of_ble_eq_true rfl) (by decide) (Nat.le_of_ble_eq_true rfl) rfl (C_J6_bitCount_0f7a4 V x1 y1 hx1 ) ?_
      rintro _ g' ⟨vr30, rfl, hrvr300, hrvr301, hgg⟩
      subst hgg
      have hr := (rfl : vr30.toInt = vr30.toInt)
      exact LW_ireturn (st := []) rfl rfl rfl ⟨_, rfl, by omega, by omega, V, hG⟩
    · refine X_aload_n rfl rfl rfl rfl ?_
      refine X_aload_n rfl rfl rfl rfl ?_
      refine S_getI rfl rfl rfl ((congrFun V.1 14).trans s_14) rfl (fun vz31 evz31 => ?_)
      have vf32 := K_12_1 (V.2.2.2.2.1 (14) (1) (Nat.le_of_ble_eq_true rfl)) rk_14
      rw [evz31] at vf32
      refine X_iconst (v := (1 : Int32)) rfl rfl rfl ?_
      refine S_iadd rfl rfl rfl (show (1 : Int32).toInt = 1 from rfl) (by omega) (fun vz33 hvz33 => ?_)
      refine X_bipush (v := (30 : Int32)) rfl rfl rfl ?_
      refine S_irem rfl rfl rfl (show (30 : Int32).toInt = 30 from rfl) (by omega) (by omega) (fun vz34 hvz34 => ?_)
      refine S_putI (I := Inv _) rfl rfl rfl ((congrFun V.1 14).trans s_14) rfl rfl rfl rfl (Inv_putI V (Nat.le_of_ble_eq_true rfl) (Or.inl (by decide)) (Q_12_1 rk_14 (by omega))) (fun g V ve35 vn36 hq => ?_)
      have hG := hq.trans hG
      have evz3 := (vn36 (14) 0 (Or.inr (by decide))).trans evz3
      refine X_aload_n rfl rfl rfl rfl ?_
      refine X_dup rfl rfl rfl ?_
      refine X_getI (v := vz3) rfl rfl rfl ((congrFun V.1 14).trans s_14) rfl evz3 ?_
      refine X_iconst (v := (1 : Int32)) rfl rfl rfl ?_
      refine S_isub rfl rfl rfl (show (1 : Int32).toInt = 1 from rfl) (by omega) (fun vz37 hvz37 => ?_)
      refine S_putI (I := Inv _) rfl rfl rfl ((congrFun V.1 14).trans s_14) rfl rfl rfl rfl (Inv_putI V (Nat.le_of_ble_eq_true rfl) (Or.inl (by decide)) (Q_12_0 rk_14 (by omega))) (fun g V ve38 vn39 hq => ?_)
      have hG := hq.trans hG
      have ve35 := (vn39 (14) 1 (Or.inr (by decide))).trans ve35
      refine X_aload_n rfl rfl rfl rfl ?_
      refine X_getR (a := 15) rfl rfl rfl ((congrFun V.1 14).trans s_14) rfl ((congrFun (V.2.1 14 (by decide)) 2).trans r_14_2) ?_
      refine X_aload_n rfl rfl rfl rfl ?_
      refine X_getI (v := vz34) rfl rfl rfl ((congrFun V.1 14).trans s_14) rfl ve35 ?_
      refine X_aload_n rfl rfl rfl rfl ?_
      refine X_getI (v := vz37) rfl rfl rfl ((congrFun V.1 14).trans s_14) rfl ve38 ?_
      refine S_iadd rfl rfl rfl rfl (by omega) (fun vz40 hvz40 => ?_)
      refine X_bipush (v := (30 : Int32)) rfl rfl rfl ?_
      refine S_irem rfl rfl rfl (show (30 : Int32).toInt = 30 from rfl) (by omega) (by omega) (fun vz41 hvz41 => ?_)
      obtain ⟨t, ht, et⟩ : ∃ t : Nat, t < 30 ∧ (t : Int) = vz41.toInt := ⟨(vz41.toInt : Int).toNat, by omega, by omega⟩
      refine X_aald (a := 16 + 4 * t) (t0 := 3) rfl rfl ((congrFun V.1 15).trans s_15) rfl (ti_idx (n := 30) rfl (by omega)).1 (by rw [(ti_idx (n := 30) rfl (by omega)).2, show (vz41.toInt : Int).toNat = t by omega]; exact (congrFun (V.2.1 15 (by decide)) t).trans (sp_a t ht)) ?_
      refine X_aload_n rfl rfl rfl rfl ?_
      refine X_callV (as := [.ref 10]) (st := []) rfl rfl rfl (by decide) rfl (Nat.le_of_ble_eq_true rfl) (by decide) (Nat.le_of_ble_eq_true rfl) rfl ((congrFun V.1 _).trans (sp_s t ht)) (by decide) ?_
      refine LW_ls (ls' := [some (.ref (16 + 4 * t)), some (.ref 10)]) rfl ?_
      refine X_aload_n rfl rfl rfl rfl ?_
      refine X_aload_n rfl rfl rfl rfl ?_
      refine S_getI rfl rfl rfl ((congrFun V.1 10).trans s_10) rfl (fun vz42 evz42 => ?_)
      refine S_putI (I := Inv _) rfl rfl rfl ((congrFun V.1 _).trans (sp_s t ht)) rfl rfl rfl rfl (Inv_putI V (by omega) (Or.inl (by omega)) (Q_11_0 (sp_k t ht))) (fun g V ve43 vn44 hq => ?_)
      have hG := hq.trans hG
      have ve35 := (vn44 (14) 1 (Or.inl (by omega))).trans ve35
      have ve38 := (vn44 (14) 0 (Or.inl (by omega))).trans ve38
      have evz42 := (vn44 (10) 0 (Or.inl (by omega))).trans evz42
      refine X_aload_n rfl rfl rfl rfl ?_
      refine X_aload_n rfl rfl rfl rfl ?_
      refine S_getI rfl rfl rfl ((congrFun V.1 10).trans s_10) rfl (fun vz45 evz45 => ?_)
      refine S_putI (I := Inv _) rfl rfl rfl ((congrFun V.1 _).trans (sp_s t ht)) rfl rfl rfl rfl (Inv_putI V (by omega) (Or.inl (by omega)) (Q_11_1 (sp_k t ht))) (fun g V ve46 vn47 hq => ?_)
      have hG := hq.trans hG
      have ve35 := (vn47 (14) 1 (Or.inl (by omega))).trans ve35
      have ve38 := (vn47 (14) 0 (Or.inl (by omega))).trans ve38
      have evz42 := (vn47 (10) 0 (Or.inl (by omega))).trans evz42
      have ve43 := (vn47 (16 + 4 * t) 0 (Or.inr (by decide))).trans ve43
      have evz45 := (vn47 (10) 1 (Or.inl (by omega))).trans evz45
      refine X_aload_n rfl rfl rfl rfl ?_
      refine X_aload_n rfl rfl rfl rfl ?_
      refine S_getI rfl rfl rfl ((congrFun V.1 10).trans s_10) rfl (fun vz48 evz48 => ?_)
      refine S_putI (I := Inv _) rfl rfl rfl ((congrFun V.1 _).trans (sp_s t ht)) rfl rfl rfl rfl (Inv_putI V (by omega) (Or.inl (by omega)) (Q_11_2 (sp_k t ht))) (fun g V ve49 vn50 hq => ?_)
      have hG := hq.trans hG
      have ve35 := (vn50 (14) 1 (Or.inl (by omega))).trans ve35
      have ve38 := (vn50 (14) 0 (Or.inl (by omega))).trans ve38
      have evz42 := (vn50 (10) 0 (Or.inl (by omega))).trans evz42
      have ve43 := (vn50 (16 + 4 * t) 0 (Or.inr (by decide))).trans ve43
      have evz45 := (vn50 (10) 1 (Or.inl (by omega))).trans evz45
      have ve46 := (vn50 (16 + 4 * t) 1 (Or.inr (by decide))).trans ve46
      have evz48 := (vn50 (10) 2 (Or.inl (by omega))).trans evz48
      refine X_aload_n rfl rfl rfl rfl ?_
      refine X_aload_n rfl rfl rfl rfl ?_
      refine S_getI rfl rfl rfl ((congrFun V.1 10).trans s_10) rfl (fun vz51 evz51 => ?_)
      have vf52 := K_11_3 (V.2.2.2.2.1 (10) (3) (Nat.le_of_ble_eq_true rfl)) rk_10
      rw [evz51] at vf52
      refine S_putI (I := Inv _) rfl rfl rfl ((congrFun V.1 _).trans (sp_s t ht)) rfl rfl rfl rfl (Inv_putI V (by omega) (Or.inl (by omega)) (Q_11_3 (sp_k t ht) (by omega))) (fun g V ve53 vn54 hq => ?_)
      have hG := hq.trans hG
      have ve35 := (vn54 (14) 1 (Or.inl (by omega))).trans ve35
      have ve38 := (vn54 (14) 0 (Or.inl (by omega))).trans ve38
      have evz42 := (vn54 (10) 0 (Or.inl (by omega))).trans evz42
      have ve43 := (vn54 (16 + 4 * t) 0 (Or.inr (by decide))).trans ve43
      have evz45 := (vn54 (10) 1 (Or.inl (by omega))).trans evz45
      have ve46 := (vn54 (16 + 4 * t) 1 (Or.inr (by decide))).trans ve46
      have evz48 := (vn54 (10) 2 (Or.inl (by omega))).trans evz48
      have ve49 := (vn54 (16 + 4 * t) 2 (Or.inr (by decide))).trans ve49
      have evz51 := (vn54 (10) 3 (Or.inl (by omega))).trans evz51
      refine X_aload_n rfl rfl rfl rfl ?_
      refine X_getR (a := 11) rfl rfl rfl ((congrFun V.1 10).trans s_10) rfl ((congrFun (V.2.1 10 (by decide)) 4).trans r_10_4) ?_
      refine X_iconst (v := (0 : Int32)) rfl rfl rfl ?_
      refine X_aload_n rfl rfl rfl rfl ?_
      refine X_getR (a := 17 + 4 * t) rfl rfl rfl ((congrFun V.1 _).trans (sp_s t ht)) rfl ((congrFun (V.2.1 (16 + 4 * t) (by omega)) 4).trans (sp_r4 t ht)) ?_
      refine X_iconst (v := (0 : Int32)) rfl rfl rfl ?_
      refine X_bipush (v := (26 : Int32)) rfl rfl rfl ?_
      refine S_copy (I := Inv _) (sp' := 0) (dp' := 0) (n' := 26) rfl rfl rfl ((congrFun V.1 11).trans s_11) ((congrFun V.1 _).trans (sp_s4 t ht)) (by decide) (by decide) (by decide) rfl rfl rfl (by decide) (by decide) (Nat.le_of_ble_eq_true rfl) (Inv_cpy V (Nat.le_of_ble_eq_true rfl) (by omega) (by omega) (U_0 rk_11 (sp_k4 t ht))) (fun g V vn55 hq => ?_)
      have hG := hq.trans hG
      have ve35 := (vn55 (14) 1 (by omega)).trans ve35
      have ve38 := (vn55 (14) 0 (by omega)).trans ve38
      have evz42 := (vn55 (10) 0 (by omega)).trans evz42
      have ve43 := (vn55 (16 + 4 * t) 0 (by omega)).trans ve43
      have evz45 := (vn55 (10) 1 (by omega)).trans evz45
      have ve46 := (vn55 (16 + 4 * t) 1 (by omega)).trans ve46
      have evz48 := (vn55 (10) 2 (by omega)).trans evz48
      have ve49 := (vn55 (16 + 4 * t) 2 (by omega)).trans ve49
      have evz51 := (vn55 (10) 3 (by omega)).trans evz51
      have ve53 := (vn55 (16 + 4 * t) 3 (by omega)).trans ve53
      refine X_aload_n rfl rfl rfl rfl ?_
      refine X_getR (a := 12) rfl rfl rfl ((congrFun V.1 10).trans s_10) rfl ((congrFun (V.2.1 10 (by decide)) 5).trans r_10_5) ?_
      refine X_iconst (v := (0 : Int32)) rfl rfl rfl ?_
      refine X_aload_n rfl rfl rfl rfl ?_
      refine X_getR (a := 18 + 4 * t) rfl rfl rfl ((congrFun V.1 _).trans (sp_s t ht)) rfl ((congrFun (V.2.1 (16 + 4 * t) (by omega)) 5).trans (sp_r5 t ht)) ?_
      refine X_iconst (v := (0 : Int32)) rfl rfl rfl ?_
      refine X_bipush (v := (26 : Int32)) rfl rfl rfl ?_
      refine S_copy (I := Inv _) (sp' := 0) (dp' := 0) (n' := 26) rfl rfl rfl ((congrFun V.1 12).trans s_12) ((congrFun V.1 _).trans (sp_s5 t ht)) (by decide) (by decide) (by decide) rfl rfl rfl (by decide) (by decide) (Nat.le_of_ble_eq_true rfl) (Inv_cpy V (Nat.le_of_ble_eq_true rfl) (by omega) (by omega) (U_0 rk_12 (sp_k5 t ht))) (fun g V vn56 hq => ?_)
      have hG := hq.trans hG
      have ve35 := (vn56 (14) 1 (by omega)).trans ve35
      have ve38 := (vn56 (14) 0 (by omega)).trans ve38
      have evz42 := (vn56 (10) 0 (by omega)).trans evz42
      have ve43 := (vn56 (16 + 4 * t) 0 (by omega)).trans ve43
      have evz45 := (vn56 (10) 1 (by omega)).trans evz45
      have ve46 := (vn56 (16 + 4 * t) 1 (by omega)).trans ve46
      have evz48 := (vn56 (10) 2 (by omega)).trans evz48
      have ve49 := (vn56 (16 + 4 * t) 2 (by omega)).trans ve49
      have evz51 := (vn56 (10) 3 (by omega)).trans evz51
      have ve53 := (vn56 (16 + 4 * t) 3 (by omega)).trans ve53
      refine X_aload_n rfl rfl rfl rfl ?_
      refine X_getR (a := 13) rfl rfl rfl ((congrFun V.1 10).trans s_10) rfl ((congrFun (V.2.1 10 (by decide)) 6).trans r_10_6) ?_
      refine X_iconst (v := (0 : Int32)) rfl rfl rfl ?_
      refine X_aload_n rfl rfl rfl rfl ?_
      refine X_getR (a := 19 + 4 * t) rfl rfl rfl ((congrFun V.1 _).trans (sp_s t ht)) rfl ((congrFun (V.2.1 (16 + 4 * t) (by omega)) 6).trans (sp_r6 t ht)) ?_
      refine X_iconst (v := (0 : Int32)) rfl rfl rfl ?_
      refine X_bipush (v := (26 : Int32)) rfl rfl rfl ?_
      refine S_copy (I := Inv _) (sp' := 0) (dp' := 0) (n' := 26) rfl rfl rfl ((congrFun V.1 13).trans s_13) ((congrFun V.1 _).trans (sp_s6 t ht)) (by decide) (by decide) (by decide) rfl rfl rfl (by decide) (by decide) (Nat.le_of_ble_eq_true rfl) (Inv_cpy V (Nat.le_of_ble_eq_true rfl) (by omega) (by omega) (U_0 rk_13 (sp_k6 t ht))) (fun g V vn57 hq => ?_)
      have hG := hq.trans hG
      have ve35 := (vn57 (14) 1 (by omega)).trans ve35
      have ve38 := (vn57 (14) 0 (by omega)).trans ve38
      have evz42 := (vn57 (10) 0 (by omega)).trans evz42
      have ve43 := (vn57 (16 + 4 * t) 0 (by omega)).trans ve43
      have evz45 := (vn57 (10) 1 (by omega)).trans evz45
      have ve46 := (vn57 (16 + 4 * t) 1 (by omega)).trans ve46
      have evz48 := (vn57 (10) 2 (by omega)).trans evz48
      have ve49 := (vn57 (16 + 4 * t) 2 (by omega)).trans ve49
      have evz51 := (vn57 (10) 3 (by omega)).trans evz51
      have ve53 := (vn57 (16 + 4 * t) 3 (by omega)).trans ve53
      refine LW_return (st := []) rfl rfl ?_
      refine X_aload_n rfl rfl rfl rfl ?_
      refine X_dup rfl rfl rfl ?_
      refine X_getI (v := vz37) rfl rfl rfl ((congrFun V.1 14).trans s_14) rfl ve38 ?_
      refine X_iconst (v := (1 : Int32)) rfl rfl rfl ?_
      refine S_iadd rfl rfl rfl (show (1 : Int32).toInt = 1 from rfl) (by omega) (fun vz58 hvz58 => ?_)
      refine S_putI (I := Inv _) rfl rfl rfl ((congrFun V.1 14).trans s_14) rfl rfl rfl rfl (Inv_putI V (Nat.le_of_ble_eq_true rfl) (Or.inl (by decide)) (Q_12_0 rk_14 (by omega))) (fun g V ve59 vn60 hq => ?_)
      have hG := hq.trans hG
      have ve35 := (vn60 (14) 1 (Or.inr (by decide))).trans ve35
      have evz42 := (vn60 (10) 0 (Or.inl (by decide))).trans evz42
      have ve43 := (vn60 (16 + 4 * t) 0 (Or.inl (by omega))).trans ve43
      have evz45 := (vn60 (10) 1 (Or.inl (by decide))).trans evz45
      have ve46 := (vn60 (16 + 4 * t) 1 (Or.inl (by omega))).trans ve46
      have evz48 := (vn60 (10) 2 (Or.inl (by decide))).trans evz48
      have ve49 := (vn60 (16 + 4 * t) 2 (Or.inl (by omega))).trans ve49
      have evz51 := (vn60 (10) 3 (Or.inl (by decide))).trans evz51
      have ve53 := (vn60 (16 + 4 * t) 3 (Or.inl (by omega))).trans ve53
      refine LW_return (st := []) rfl rfl ?_
      refine X_aload_n rfl rfl rfl rfl ?_
      refine X_getR (a := 10) rfl rfl rfl ((congrFun V.1 342).trans s_342) rfl ((congrFun (V.2.1 342 (by decide)) 1).trans r_342_1) ?_
      refine X_iload_n rfl rfl rfl rfl ?_
      refine Y_callV (as := [.int x1]) (st := []) rfl rfl rfl (by decide) rfl (Nat.le_of_ble_eq_true rfl) (by decide) (Nat.le_of_ble_eq_true rfl) rfl ((congrFun V.1 10).trans s_10) (by decide) (C_X9_move V x1 y1 hx1 ) ?_
      rintro _ g ⟨rfl, V, hq⟩
      have hG := hq.trans hG
      refine X_iload_n rfl rfl rfl rfl ?_
      refine Y_callS (as := [.int x1]) (st := []) rfl rfl rfl (by decide) rfl (Nat.le_of_ble_eq_true rfl) (by decide) (Nat.le_of_ble_eq_true rfl) rfl (C_J6_bitCount_0f7a4 V x1 y1 hx1 ) ?_
      rintro _ g' ⟨vr62, rfl, hrvr620, hrvr621, hgg⟩
      subst hgg
      have hr := (rfl : vr62.toInt = vr62.toInt)
      exact LW_ireturn (st := []) rfl rfl rfl ⟨_, rfl, by omega, by omega, V, hG⟩
set_option maxRecDepth 10000 in
set_option maxHeartbeats 40000000 in
theorem C_X1_callOut {P : Par} {g : LH} {d : Nat}  (V : Inv P g) (x1 : Int32) (y1 : Int) (hx1 : x1.toInt = y1)   : LW 6 (d + 14) 0 0 0 (lEnt (mL 6) [.ref 342, .int x1]) [] g (fun v g' => ∃ r : Int32, v = some (.int r) ∧ 0 ≤ r.toInt ∧ r.toInt ≤ 63 ∧ Inv P g' ∧ Gr g' = Gr g) := by
  refine LW_ls (ls' := [some (.ref 342), some (.int x1)]) rfl ?_
  have hG : Gr g = Gr g := rfl
  refine X_aload_n rfl rfl rfl rfl ?_
  refine X_iload_n rfl rfl rfl rfl ?_
  refine X_aload_n rfl rfl rfl rfl ?_
  refine X_getR (a := 10) rfl rfl rfl ((congrFun V.1 342).trans s_342) rfl ((congrFun (V.2.1 342 (by decide)) 1).trans r_342_1) ?_
  refine S_getI rfl rfl rfl ((congrFun V.1 10).trans s_10) rfl (fun vz1 evz1 => ?_)
  refine X_iconst (v := (-1 : Int32)) rfl rfl rfl ?_
  refine S_ixorT rfl rfl (fun vz2 => ?_)
  refine S_iandT rfl rfl (fun vz3 => ?_)
  refine Y_callV (as := [.int vz3]) (st := []) rfl rfl rfl (by decide) rfl (Nat.le_of_ble_eq_true rfl) (by decide) (Nat.le_of_ble_eq_true rfl) rfl ((congrFun V.1 342).trans s_342) (by decide) (C_X1_call V vz3 vz3.toInt rfl ) ?_
  rintro _ g ⟨vr4, rfl, hrvr40, hrvr41, V, hq⟩
  have hG := hq.trans hG
  have hr := (rfl : vr4.toInt = vr4.toInt)
  exact LW_ireturn (st := []) rfl rfl rfl ⟨_, rfl, by omega, by omega, V, hG⟩
set_option maxRecDepth 10000 in
set_option maxHeartbeats 40000000 in
theorem C_X12_strike {P : Par} {g : LH} {d : Nat}  (V : Inv P g) (x1 : Int32) (y1 : Int) (hx1 : x1.toInt = y1)   : LW 135 (d + 19) 0 0 0 (lEnt (mL 135) [.ref 0, .int x1]) [] g (fun v g' => ∃ r : Int32, v = some (.int r) ∧ (-1) ≤ r.toInt ∧ r.toInt ≤ 63 ∧ Inv P g' ∧ Gr g' = Gr g) := by
  refine LW_ls (ls' := [some (.ref 0), some (.int x1), none]) rfl ?_
  have hG : Gr g = Gr g := rfl
  refine X_iload_n rfl rfl rfl rfl ?_
  refine X_callS (as := [.int x1]) (st := []) rfl rfl rfl (by decide) rfl (Nat.le_of_ble_eq_true rfl) (by decide) (Nat.le_of_ble_eq_true rfl) rfl ?_
  refine LW_ls (ls' := [some (.int x1)]) rfl ?_
  refine X_iload_n rfl rfl rfl rfl ?_
  refine S_if_le (tgt := 15) rfl rfl rfl hx1 (fun vh1 => ?_) (fun vh1 => ?_)
  · refine X_iconst (v := (0 : Int32)) rfl rfl rfl ?_
    refine LW_ireturn (st := []) rfl rfl rfl ?_
    refine S_if_eq (tgt := 18) rfl rfl rfl (show (0 : Int32).toInt = 0 from rfl) (fun vh2 => ?_) (fun q => absurd q (by omega))
    refine X_iconst (v := (0 : Int32)) rfl rfl rfl ?_
    refine X_istore_n (i := 2) (ls' := [some (.ref 0), some (.int x1), some (.int (0 : Int32))]) rfl rfl rfl (Nat.le_of_ble_eq_true rfl) rfl ?_
    refine X_iload_n rfl rfl rfl rfl ?_
    refine S_if_le (tgt := 28) rfl rfl rfl (show (0 : Int32).toInt = 0 from rfl) (fun vh3 => ?_) (fun q => absurd q (by omega))
    refine X_iconst (v := (-1 : Int32)) rfl rfl rfl ?_
    exact LW_ireturn (st := []) rfl rfl rfl ⟨_, rfl, by decide, by decide, V, hG⟩
  · refine X_iload_n rfl rfl rfl rfl ?_
    refine X_ldcw (v := (67108864 : Int32)) rfl rfl rfl ?_
    refine S_icmp_ge (tgt := 15) rfl rfl rfl hx1 (show (67108864 : Int32).toInt = 67108864 from rfl) (fun vh4 => ?_) (fun vh4 => ?_)
    · refine X_iconst (v := (0 : Int32)) rfl rfl rfl ?_
      refine LW_ireturn (st := []) rfl rfl rfl ?_
      refine S_if_eq (tgt := 18) rfl rfl rfl (show (0 : Int32).toInt = 0 from rfl) (fun vh5 => ?_) (fun q => absurd q (by omega))
      refine X_iconst (v := (0 : Int32)) rfl rfl rfl ?_
      refine X_istore_n (i := 2) (ls' := [some (.ref 0), some (.int x1), some (.int (0 : Int32))]) rfl rfl rfl (Nat.le_of_ble_eq_true rfl) rfl ?_
      refine X_iload_n rfl rfl rfl rfl ?_
      refine S_if_le (tgt := 28) rfl rfl rfl (show (0 : Int32).toInt = 0 from rfl) (fun vh6 => ?_) (fun q => absurd q (by omega))
      refine X_iconst (v := (-1 : Int32)) rfl rfl rfl ?_
      exact LW_ireturn (st := []) rfl rfl rfl ⟨_, rfl, by decide, by decide, V, hG⟩
    · refine X_iconst (v := (1 : Int32)) rfl rfl rfl ?_
      refine LW_goto (tgt := 16) rfl rfl ?_
      refine LW_ireturn (st := []) rfl rfl rfl ?_
      refine S_if_eq (tgt := 18) rfl rfl rfl (show (1 : Int32).toInt = 1 from rfl) (fun q => absurd q (by omega)) (fun vh7 => ?_)
      refine X_aload_n rfl rfl rfl rfl ?_
      refine X_getR (a := 342) rfl rfl rfl ((congrFun V.1 0).trans s_0) rfl ((congrFun (V.2.1 0 (by decide)) 6).trans r_0_6) ?_
      refine X_iload_n rfl rfl rfl rfl ?_
      refine Y_callV (as := [.int x1]) (st := []) rfl rfl rfl (by decide) rfl (Nat.le_of_ble_eq_true rfl) (by decide) (Nat.le_of_ble_eq_true rfl) rfl ((congrFun V.1 342).trans s_342) (by decide) (C_X1_callOut V x1 y1 hx1 ) ?_
      rintro _ g ⟨vr8, rfl, hrvr80, hrvr81, V, hq⟩
      have hG := hq.trans hG
      refine LW_goto (tgt := 19) rfl rfl ?_
      refine X_istore_n (i := 2) (ls' := [some (.ref 0), some (.int x1), some (.int vr8)]) rfl rfl rfl (Nat.le_of_ble_eq_true rfl) rfl ?_
      refine X_iload_n rfl rfl rfl rfl ?_
      refine S_if_le (tgt := 28) rfl rfl rfl rfl (fun vh9 => ?_) (fun vh9 => ?_)
      · refine X_iconst (v := (-1 : Int32)) rfl rfl rfl ?_
        exact LW_ireturn (st := []) rfl rfl rfl ⟨_, rfl, by decide, by decide, V, hG⟩
      · refine X_iload_n rfl rfl rfl rfl ?_
        refine LW_goto (tgt := 29) rfl rfl ?_
        have hr := (rfl : vr8.toInt = vr8.toInt)
        exact LW_ireturn (st := []) rfl rfl rfl ⟨_, rfl, by omega, by omega, V, hG⟩
set_option maxRecDepth 10000 in
set_option maxHeartbeats 40000000 in
theorem C_X1_callBack {P : Par} {g : LH} {d : Nat}  (V : Inv P g) (x1 : Int32) (y1 : Int) (hx1 : x1.toInt = y1)   : LW 7 (d + 14) 0 0 0 (lEnt (mL 7) [.ref 342, .int x1]) [] g (fun v g' => ∃ r : Int32, v = some (.int r) ∧ 0 ≤ r.toInt ∧ r.toInt ≤ 63 ∧ Inv P g' ∧ Gr g' = Gr g) := by
  refine LW_ls (ls' := [some (.ref 342), some (.int x1)]) rfl ?_
  have hG : Gr g = Gr g := rfl
  refine X_aload_n rfl rfl rfl rfl ?_
  refine X_iload_n rfl rfl rfl rfl ?_
  refine X_aload_n rfl rfl rfl rfl ?_
  refine X_getR (a := 10) rfl rfl rfl ((congrFun V.1 342).trans s_342) rfl ((congrFun (V.2.1 342 (by decide)) 1).trans r_342_1) ?_
  refine S_getI rfl rfl rfl ((congrFun V.1 10).trans s_10) rfl (fun vz1 evz1 => ?_)
  refine S_iandT rfl rfl (fun vz2 => ?_)
  refine Y_callV (as := [.int vz2]) (st := []) rfl rfl rfl (by decide) rfl (Nat.le_of_ble_eq_true rfl) (by decide) (Nat.le_of_ble_eq_true rfl) rfl ((congrFun V.1 342).trans s_342) (by decide) (C_X1_call V vz2 vz2.toInt rfl ) ?_
  rintro _ g ⟨vr3, rfl, hrvr30, hrvr31, V, hq⟩
  have hG := hq.trans hG
  have hr := (rfl : vr3.toInt = vr3.toInt)
  exact LW_ireturn (st := []) rfl rfl rfl ⟨_, rfl, by omega, by omega, V, hG⟩
set_option maxRecDepth 10000 in
set_option maxHeartbeats 40000000 in
theorem C_X12_comeBack {P : Par} {g : LH} {d : Nat}  (V : Inv P g) (x1 : Int32) (y1 : Int) (hx1 : x1.toInt = y1)   : LW 136 (d + 19) 0 0 0 (lEnt (mL 136) [.ref 0, .int x1]) [] g (fun v g' => ∃ r : Int32, v = some (.int r) ∧ (-1) ≤ r.toInt ∧ r.toInt ≤ 63 ∧ Inv P g' ∧ Gr g' = Gr g) := by
  refine LW_ls (ls' := [some (.ref 0), some (.int x1), none]) rfl ?_
  have hG : Gr g = Gr g := rfl
  refine X_iload_n rfl rfl rfl rfl ?_
  refine X_callS (as := [.int x1]) (st := []) rfl rfl rfl (by decide) rfl (Nat.le_of_ble_eq_true rfl) (by decide) (Nat.le_of_ble_eq_true rfl) rfl ?_
  refine LW_ls (ls' := [some (.int x1)]) rfl ?_
  refine X_iload_n rfl rfl rfl rfl ?_
  refine S_if_le (tgt := 15) rfl rfl rfl hx1 (fun vh1 => ?_) (fun vh1 => ?_)
  · refine X_iconst (v := (0 : Int32)) rfl rfl rfl ?_
    refine LW_ireturn (st := []) rfl rfl rfl ?_
    refine S_if_eq (tgt := 18) rfl rfl rfl (show (0 : Int32).toInt = 0 from rfl) (fun vh2 => ?_) (fun q => absurd q (by omega))
    refine X_iconst (v := (0 : Int32)) rfl rfl rfl ?_
    refine X_istore_n (i := 2) (ls' := [some (.ref 0), some (.int x1), some (.int (0 : Int32))]) rfl rfl rfl (Nat.le_of_ble_eq_true rfl) rfl ?_
    refine X_iload_n rfl rfl rfl rfl ?_
    refine S_if_le (tgt := 28) rfl rfl rfl (show (0 : Int32).toInt = 0 from rfl) (fun vh3 => ?_) (fun q => absurd q (by omega))
    refine X_iconst (v := (-1 : Int32)) rfl rfl rfl ?_
    exact LW_ireturn (st := []) rfl rfl rfl ⟨_, rfl, by decide, by decide, V, hG⟩
  · refine X_iload_n rfl rfl rfl rfl ?_
    refine X_ldcw (v := (67108864 : Int32)) rfl rfl rfl ?_
    refine S_icmp_ge (tgt := 15) rfl rfl rfl hx1 (show (67108864 : Int32).toInt = 67108864 from rfl) (fun vh4 => ?_) (fun vh4 => ?_)
    · refine X_iconst (v := (0 : Int32)) rfl rfl rfl ?_
      refine LW_ireturn (st := []) rfl rfl rfl ?_
      refine S_if_eq (tgt := 18) rfl rfl rfl (show (0 : Int32).toInt = 0 from rfl) (fun vh5 => ?_) (fun q => absurd q (by omega))
      refine X_iconst (v := (0 : Int32)) rfl rfl rfl ?_
      refine X_istore_n (i := 2) (ls' := [some (.ref 0), some (.int x1), some (.int (0 : Int32))]) rfl rfl rfl (Nat.le_of_ble_eq_true rfl) rfl ?_
      refine X_iload_n rfl rfl rfl rfl ?_
      refine S_if_le (tgt := 28) rfl rfl rfl (show (0 : Int32).toInt = 0 from rfl) (fun vh6 => ?_) (fun q => absurd q (by omega))
      refine X_iconst (v := (-1 : Int32)) rfl rfl rfl ?_
      exact LW_ireturn (st := []) rfl rfl rfl ⟨_, rfl, by decide, by decide, V, hG⟩
    · refine X_iconst (v := (1 : Int32)) rfl rfl rfl ?_
      refine LW_goto (tgt := 16) rfl rfl ?_
      refine LW_ireturn (st := []) rfl rfl rfl ?_
      refine S_if_eq (tgt := 18) rfl rfl rfl (show (1 : Int32).toInt = 1 from rfl) (fun q => absurd q (by omega)) (fun vh7 => ?_)
      refine X_aload_n rfl rfl rfl rfl ?_
      refine X_getR (a := 342) rfl rfl rfl ((congrFun V.1 0).trans s_0) rfl ((congrFun (V.2.1 0 (by decide)) 6).trans r_0_6) ?_
      refine X_iload_n rfl rfl rfl rfl ?_
      refine Y_callV (as := [.int x1]) (st := []) rfl rfl rfl (by decide) rfl (Nat.le_of_ble_eq_true rfl) (by decide) (Nat.le_of_ble_eq_true rfl) rfl ((congrFun V.1 342).trans s_342) (by decide) (C_X1_callBack V x1 y1 hx1 ) ?_
      rintro _ g ⟨vr8, rfl, hrvr80, hrvr81, V, hq⟩
      have hG := hq.trans hG
      refine LW_goto (tgt := 19) rfl rfl ?_
      refine X_istore_n (i := 2) (ls' := [some (.ref 0), some (.int x1), some (.int vr8)]) rfl rfl rfl (Nat.le_of_ble_eq_true rfl) rfl ?_
      refine X_iload_n rfl rfl rfl rfl ?_
      refine S_if_le (tgt := 28) rfl rfl rfl rfl (fun vh9 => ?_) (fun vh9 => ?_)
      · refine X_iconst (v := (-1 : Int32)) rfl rfl rfl ?_
        exact LW_ireturn (st := []) rfl rfl rfl ⟨_, rfl, by decide, by decide, V, hG⟩
      · refine X_iload_n rfl rfl rfl rfl ?_
        refine LW_goto (tgt := 29) rfl rfl ?_
        have hr := (rfl : vr8.toInt = vr8.toInt)
        exact LW_ireturn (st := []) rfl rfl rfl ⟨_, rfl, by omega, by omega, V, hG⟩
set_option maxRecDepth 10000 in
set_option maxHeartbeats 40000000 in
theorem C_X1_setWage {P : Par} {g : LH} {d : Nat}  (V : Inv P g) (x1 : Int32) (y1 : Int) (hx1 : x1.toInt = y1) (hf1 : 0 ≤ y1 ∧ y1 ≤ 25) (x2 : Int32) (y2 : Int) (hx2 : x2.toInt = y2) (hf2 : y2 ≤ 99)   : LW 9 (d + 6) 0 0 0 (lEnt (mL 9) [.ref 342, .int x1, .int x2]) [] g (fun v g' => ∃ r : Int32, v = some (.int r) ∧ 0 ≤ r.toInt ∧ r.toInt ≤ 1 ∧ Inv P g' ∧ Gr g' = Gr g) := by
  refine LW_ls (ls' := [some (.ref 342), some (.int x1), some (.int x2)]) rfl ?_
  have hG : Gr g = Gr g := rfl
  refine X_aload_n rfl rfl rfl rfl ?_
  refine X_getR (a := 10) rfl rfl rfl ((congrFun V.1 342).trans s_342) rfl ((congrFun (V.2.1 342 (by decide)) 1).trans r_342_1) ?_
  refine X_getR (a := 11) rfl rfl rfl ((congrFun V.1 10).trans s_10) rfl ((congrFun (V.2.1 10 (by decide)) 4).trans r_10_4) ?_
  refine X_iload_n rfl rfl rfl rfl ?_
  refine S_iald rfl rfl ((congrFun V.1 11).trans s_11) hx1 (by omega) (fun vz1 evz1 => ?_)
  refine X_iload_n rfl rfl rfl rfl ?_
  refine S_icmp_ne (tgt := 15) rfl rfl rfl rfl hx2 (fun vh2 => ?_) (fun vh2 => ?_)
  · refine X_aload_n rfl rfl rfl rfl ?_
    refine X_getR (a := 1) rfl rfl rfl ((congrFun V.1 342).trans s_342) rfl ((congrFun (V.2.1 342 (by decide)) 0).trans r_342_0) ?_
    refine X_getR (a := 14) rfl rfl rfl ((congrFun V.1 1).trans s_1) rfl ((congrFun (V.2.1 1 (by decide)) 2).trans r_1_2) ?_
    refine X_aload_n rfl rfl rfl rfl ?_
    refine X_getR (a := 10) rfl rfl rfl ((congrFun V.1 342).trans s_342) rfl ((congrFun (V.2.1 342 (by decide)) 1).trans r_342_1) ?_
    refine X_callV (as := [.ref 10]) (st := []) rfl rfl rfl (by decide) rfl (Nat.le_of_ble_eq_true rfl) (by decide) (Nat.le_of_ble_eq_true rfl) rfl ((congrFun V.1 14).trans s_14) (by decide) ?_
    refine LW_ls (ls' := [some (.ref 14), some (.ref 10)]) rfl ?_
    refine X_aload_n rfl rfl rfl rfl ?_
    refine S_getI rfl rfl rfl ((congrFun V.1 14).trans s_14) rfl (fun vz3 evz3 => ?_)
    have vf4 := K_12_0 (V.2.2.2.2.1 (14) (0) (Nat.le_of_ble_eq_true rfl)) rk_14
    rw [evz3] at vf4
    refine X_bipush (v := (30 : Int32)) rfl rfl rfl ?_
    refine S_icmp_ne (tgt := 32) rfl rfl rfl rfl (show (30 : Int32).toInt = 30 from rfl) (fun vh5 => ?_) (fun vh5 => ?_)
    · refine X_aload_n rfl rfl rfl rfl ?_
      refine X_getR (a := 15) rfl rfl rfl ((congrFun V.1 14).trans s_14) rfl ((congrFun (V.2.1 14 (by decide)) 2).trans r_14_2) ?_
      refine X_aload_n rfl rfl rfl rfl ?_
      refine S_getI rfl rfl rfl ((congrFun V.1 14).trans s_14) rfl (fun vz6 evz6 => ?_)
      have vf7 := K_12_1 (V.2.2.2.2.1 (14) (1) (Nat.le_of_ble_eq_true rfl)) rk_14
      rw [evz6] at vf7
      refine X_aload_n rfl rfl rfl rfl ?_
      refine X_getI (v := vz3) rfl rfl rfl ((congrFun V.1 14).trans s_14) rfl evz3 ?_
      refine S_iadd rfl rfl rfl rfl (by omega) (fun vz8 hvz8 => ?_)
      refine X_bipush (v := (30 : Int32)) rfl rfl rfl ?_
      refine S_irem rfl rfl rfl (show (30 : Int32).toInt = 30 from rfl) (by omega) (by omega) (fun vz9 hvz9 => ?_)
      obtain ⟨t, ht, et⟩ : ∃ t : Nat, t < 30 ∧ (t : Int) = vz9.toInt := ⟨(vz9.toInt : Int).toNat, by omega, by omega⟩
      refine X_aald (a := 16 + 4 * t) (t0 := 3) rfl rfl ((congrFun V.1 15).trans s_15) rfl (ti_idx (n := 30) rfl (by omega)).1 (by rw [(ti_idx (n := 30) rfl (by omega)).2, show (vz9.toInt : Int).toNat = t by omega]; exact (congrFun (V.2.1 15 (by decide)) t).trans (sp_a t ht)) ?_
      refine X_aload_n rfl rfl rfl rfl ?_
      refine X_callV (as := [.ref 10]) (st := []) rfl rfl rfl (by decide) rfl (Nat.le_of_ble_eq_true rfl) (by decide) (Nat.le_of_ble_eq_true rfl) rfl ((congrFun V.1 _).trans (sp_s t ht)) (by decide) ?_
      refine LW_ls (ls' := [some (.ref (16 + 4 * t)), some (.ref 10)]) rfl ?_
      refine X_aload_n rfl rfl rfl rfl ?_
      refine X_aload_n rfl rfl rfl rfl ?_
      refine S_getI rfl rfl rfl ((congrFun V.1 10).trans s_10) rfl (fun vz10 evz10 => ?_)
      refine S_putI (I := Inv _) rfl rfl rfl ((congrFun V.1 _).trans (sp_s t ht)) rfl rfl rfl rfl (Inv_putI V (by omega) (Or.inl (by omega)) (Q_11_0 (sp_k t ht))) (fun g V ve11 vn12 hq => ?_)
      have hG := hq.trans hG
      have evz1 := (vn12 (11) ((y1 : Int).toNat) (Or.inl (by omega))).trans evz1
      have evz3 := (vn12 (14) 0 (Or.inl (by omega))).trans evz3
      have evz6 := (vn12 (14) 1 (Or.inl (by omega))).trans evz6
      have evz10 := (vn12 (10) 0 (Or.inl (by omega))).trans evz10
      refine X_aload_n rfl rfl rfl rfl ?_
      refine X_aload_n rfl rfl rfl rfl ?_
      refine S_getI rfl rfl rfl ((congrFun V.1 10).trans s_10) rfl (fun vz13 evz13 => ?_)
      refine S_putI (I := Inv _) rfl rfl rfl ((congrFun V.1 _).trans (sp_s t ht)) rfl rfl rfl rfl (Inv_putI V (by omega) (Or.inl (by omega)) (Q_11_1 (sp_k t ht))) (fun g V ve14 vn15 hq => ?_)
      have hG := hq.trans hG
      have evz1 := (vn15 (11) ((y1 : Int).toNat) (Or.inl (by omega))).trans evz1
      have evz3 := (vn15 (14) 0 (Or.inl (by omega))).trans evz3
      have evz6 := (vn15 (14) 1 (Or.inl (by omega))).trans evz6
      have evz10 := (vn15 (10) 0 (Or.inl (by omega))).trans evz10
      have ve11 := (vn15 (16 + 4 * t) 0 (Or.inr (by decide))).trans ve11
      have evz13 := (vn15 (10) 1 (Or.inl (by omega))).trans evz13
      refine X_aload_n rfl rfl rfl rfl ?_
      refine X_aload_n rfl rfl rfl rfl ?_
      refine S_getI rfl rfl rfl ((congrFun V.1 10).trans s_10) rfl (fun vz16 evz16 => ?_)
      refine S_putI (I := Inv _) rfl rfl rfl ((congrFun V.1 _).trans (sp_s t ht)) rfl rfl rfl rfl (Inv_putI V (by omega) (Or.inl (by omega)) (Q_11_2 (sp_k t ht))) (fun g V ve17 vn18 hq => ?_)
      have hG := hq.trans hG
      have evz1 := (vn18 (11) ((y1 : Int).toNat) (Or.inl (by omega))).trans evz1
      have evz3 := (vn18 (14) 0 (Or.inl (by omega))).trans evz3
      have evz6 := (vn18 (14) 1 (Or.inl (by omega))).trans evz6
      have evz10 := (vn18 (10) 0 (Or.inl (by omega))).trans evz10
      have ve11 := (vn18 (16 + 4 * t) 0 (Or.inr (by decide))).trans ve11
      have evz13 := (vn18 (10) 1 (Or.inl (by omega))).trans evz13
      have ve14 := (vn18 (16 + 4 * t) 1 (Or.inr (by decide))).trans ve14
      have evz16 := (vn18 (10) 2 (Or.inl (by omega))).trans evz16
      refine X_aload_n rfl rfl rfl rfl ?_
      refine X_aload_n rfl rfl rfl rfl ?_
      refine S_getI rfl rfl rfl ((congrFun V.1 10).trans s_10) rfl (fun vz19 evz19 => ?_)
      have vf20 := K_11_3 (V.2.2.2.2.1 (10) (3) (Nat.le_of_ble_eq_true rfl)) rk_10
      rw [evz19] at vf20
      refine S_putI (I := Inv _) rfl rfl rfl ((congrFun V.1 _).trans (sp_s t ht)) rfl rfl rfl rfl (Inv_putI V (by omega) (Or.inl (by omega)) (Q_11_3 (sp_k t ht) (by omega))) (fun g V ve21 vn22 hq => ?_)
      have hG := hq.trans hG
      have evz1 := (vn22 (11) ((y1 : Int).toNat) (Or.inl (by omega))).trans evz1
      have evz3 := (vn22 (14) 0 (Or.inl (by omega))).trans evz3
      have evz6 := (vn22 (14) 1 (Or.inl (by omega))).trans evz6
      have evz10 := (vn22 (10) 0 (Or.inl (by omega))).trans evz10
      have ve11 := (vn22 (16 + 4 * t) 0 (Or.inr (by decide))).trans ve11
      have evz13 := (vn22 (10) 1 (Or.inl (by omega))).trans evz13
      have ve14 := (vn22 (16 + 4 * t) 1 (Or.inr (by decide))).trans ve14
      have evz16 := (vn22 (10) 2 (Or.inl (by omega))).trans evz16
      have ve17 := (vn22 (16 + 4 * t) 2 (Or.inr (by decide))).trans ve17
      have evz19 := (vn22 (10) 3 (Or.inl (by omega))).trans evz19
      refine X_aload_n rfl rfl rfl rfl ?_
      refine X_getR (a := 11) rfl rfl rfl ((congrFun V.1 10).trans s_10) rfl ((congrFun (V.2.1 10 (by decide)) 4).trans r_10_4) ?_
      refine X_iconst (v := (0 : Int32)) rfl rfl rfl ?_
      refine X_aload_n rfl rfl rfl rfl ?_
      refine X_getR (a := 17 + 4 * t) rfl rfl rfl ((congrFun V.1 _).trans (sp_s t ht)) rfl ((congrFun (V.2.1 (16 + 4 * t) (by omega)) 4).trans (sp_r4 t ht)) ?_
      refine X_iconst (v := (0 : Int32)) rfl rfl rfl ?_
      refine X_bipush (v := (26 : Int32)) rfl rfl rfl ?_
      refine S_copy (I := Inv _) (sp' := 0) (dp' := 0) (n' := 26) rfl rfl rfl ((congrFun V.1 11).trans s_11) ((congrFun V.1 _).trans (sp_s4 t ht)) (by decide) (by decide) (by decide) rfl rfl rfl (by decide) (by decide) (Nat.le_of_ble_eq_true rfl) (Inv_cpy V (Nat.le_of_ble_eq_true rfl) (by omega) (by omega) (U_0 rk_11 (sp_k4 t ht))) (fun g V vn23 hq => ?_)
      have hG := hq.trans hG
      have evz3 := (vn23 (14) 0 (by omega)).trans evz3
      have evz6 := (vn23 (14) 1 (by omega)).trans evz6
      have evz10 := (vn23 (10) 0 (by omega)).trans evz10
      have ve11 := (vn23 (16 + 4 * t) 0 (by omega)).trans ve11
      have evz13 := (vn23 (10) 1 (by omega)).trans evz13
      have ve14 := (vn23 (16 + 4 * t) 1 (by omega)).trans ve14
      have evz16 := (vn23 (10) 2 (by omega)).trans evz16
      have ve17 := (vn23 (16 + 4 * t) 2 (by omega)).trans ve17
      have evz19 := (vn23 (10) 3 (by omega)).trans evz19
      have ve21 := (vn23 (16 + 4 * t) 3 (by omega)).trans ve21
      refine X_aload_n rfl rfl rfl rfl ?_
      refine X_getR (a := 12) rfl rfl rfl ((congrFun V.1 10).trans s_10) rfl ((congrFun (V.2.1 10 (by decide)) 5).trans r_10_5) ?_
      refine X_iconst (v := (0 : Int32)) rfl rfl rfl ?_
      refine X_aload_n rfl rfl rfl rfl ?_
      refine X_getR (a := 18 + 4 * t) rfl rfl rfl ((congrFun V.1 _).trans (sp_s t ht)) rfl ((congrFun (V.2.1 (16 + 4 * t) (by omega)) 5).trans (sp_r5 t ht)) ?_
      refine X_iconst (v := (0 : Int32)) rfl rfl rfl ?_
      refine X_bipush (v := (26 : Int32)) rfl rfl rfl ?_
      refine S_copy (I := Inv _) (sp' := 0) (dp' := 0) (n' := 26) rfl rfl rfl ((congrFun V.1 12).trans s_12) ((congrFun V.1 _).trans (sp_s5 t ht)) (by decide) (by decide) (by decide) rfl rfl rfl (by decide) (by decide) (Nat.le_of_ble_eq_true rfl) (Inv_cpy V (Nat.le_of_ble_eq_true rfl) (by omega) (by omega) (U_0 rk_12 (sp_k5 t ht))) (fun g V vn24 hq => ?_)
      have hG := hq.trans hG
      have evz3 := (vn24 (14) 0 (by omega)).trans evz3
      have evz6 := (vn24 (14) 1 (by omega)).trans evz6
      have evz10 := (vn24 (10) 0 (by omega)).trans evz10
      have ve11 := (vn24 (16 + 4 * t) 0 (by omega)).trans ve11
      have evz13 := (vn24 (10) 1 (by omega)).trans evz13
      have ve14 := (vn24 (16 + 4 * t) 1 (by omega)).trans ve14
      have evz16 := (vn24 (10) 2 (by omega)).trans evz16
      have ve17 := (vn24 (16 + 4 * t) 2 (by omega)).trans ve17
      have evz19 := (vn24 (10) 3 (by omega)).trans evz19
      have ve21 := (vn24 (16 + 4 * t) 3 (by omega)).trans ve21
      refine X_aload_n rfl rfl rfl rfl ?_
      refine X_getR (a := 13) rfl rfl rfl ((congrFun V.1 10).trans s_10) rfl ((congrFun (V.2.1 10 (by decide)) 6).trans r_10_6) ?_
      refine X_iconst (v := (0 : Int32)) rfl rfl rfl ?_
      refine X_aload_n rfl rfl rfl rfl ?_
      refine X_getR (a := 19 + 4 * t) rfl rfl rfl ((congrFun V.1 _).trans (sp_s t ht)) rfl ((congrFun (V.2.1 (16 + 4 * t) (by omega)) 6).trans (sp_r6 t ht)) ?_
      refine X_iconst (v := (0 : Int32)) rfl rfl rfl ?_
      refine X_bipush (v := (26 : Int32)) rfl rfl rfl ?_
      refine S_copy (I := Inv _) (sp' := 0) (dp' := 0) (n' := 26) rfl rfl rfl ((congrFun V.1 13).trans s_13) ((congrFun V.1 _).trans (sp_s6 t ht)) (by decide) (by decide) (by decide) rfl rfl rfl (by decide) (by decide) (Nat.le_of_ble_eq_true rfl) (Inv_cpy V (Nat.le_of_ble_eq_true rfl) (by omega) (by omega) (U_0 rk_13 (sp_k6 t ht))) (fun g V vn25 hq => ?_)
      have hG := hq.trans hG
      have evz3 := (vn25 (14) 0 (by omega)).trans evz3
      have evz6 := (vn25 (14) 1 (by omega)).trans evz6
      have evz10 := (vn25 (10) 0 (by omega)).trans evz10
      have ve11 := (vn25 (16 + 4 * t) 0 (by omega)).trans ve11
      have evz13 := (vn25 (10) 1 (by omega)).trans evz13
      have ve14 := (vn25 (16 + 4 * t) 1 (by omega)).trans ve14
      have evz16 := (vn25 (10) 2 (by omega)).trans evz16
      have ve17 := (vn25 (16 + 4 * t) 2 (by omega)).trans ve17
      have evz19 := (vn25 (10) 3 (by omega)).trans evz19
      have ve21 := (vn25 (16 + 4 * t) 3 (by omega)).trans ve21
      refine LW_return (st := []) rfl rfl ?_
      refine X_aload_n rfl rfl rfl rfl ?_
      refine X_dup rfl rfl rfl ?_
      refine X_getI (v := vz3) rfl rfl rfl ((congrFun V.1 14).trans s_14) rfl evz3 ?_
      refine X_iconst (v := (1 : Int32)) rfl rfl rfl ?_
      refine S_iadd rfl rfl rfl (show (1 : Int32).toInt = 1 from rfl) (by omega) (fun vz26 hvz26 => ?_)
      refine S_putI (I := Inv _) rfl rfl rfl ((congrFun V.1 14).trans s_14) rfl rfl rfl rfl (Inv_putI V (Nat.le_of_ble_eq_true rfl) (Or.inl (by decide)) (Q_12_0 rk_14 (by omega))) (fun g V ve27 vn28 hq => ?_)
      have hG := hq.trans hG
      have evz6 := (vn28 (14) 1 (Or.inr (by decide))).trans evz6
      have evz10 := (vn28 (10) 0 (Or.inl (by decide))).trans evz10
      have ve11 := (vn28 (16 + 4 * t) 0 (Or.inl (by omega))).trans ve11
      have evz13 := (vn28 (10) 1 (Or.inl (by decide))).trans evz13
      have ve14 := (vn28 (16 + 4 * t) 1 (Or.inl (by omega))).trans ve14
      have evz16 := (vn28 (10) 2 (Or.inl (by decide))).trans evz16
      have ve17 := (vn28 (16 + 4 * t) 2 (Or.inl (by omega))).trans ve17
      have evz19 := (vn28 (10) 3 (Or.inl (by decide))).trans evz19
      have ve21 := (vn28 (16 + 4 * t) 3 (Or.inl (by omega))).trans ve21
      refine LW_return (st := []) rfl rfl ?_
      refine X_aload_n rfl rfl rfl rfl ?_
      refine X_getR (a := 10) rfl rfl rfl ((congrFun V.1 342).trans s_342) rfl ((congrFun (V.2.1 342 (by decide)) 1).trans r_342_1) ?_
      refine X_getR (a := 11) rfl rfl rfl ((congrFun V.1 10).trans s_10) rfl ((congrFun (V.2.1 10 (by decide)) 4).trans r_10_4) ?_
      refine X_iload_n rfl rfl rfl rfl ?_
      refine X_iload_n rfl rfl rfl rfl ?_
      refine S_iast (I := Inv _) rfl rfl ((congrFun V.1 11).trans s_11) hx1 (by omega) (Inv_putI V (Nat.le_of_ble_eq_true rfl) (Or.inl (by decide)) (Q_0 rk_11)) (fun g V ve29 vn30 hq => ?_)
      have hG := hq.trans hG
      have evz6 := (vn30 (14) 1 (Or.inl (by decide))).trans evz6
      have evz10 := (vn30 (10) 0 (Or.inl (by decide))).trans evz10
      have ve11 := (vn30 (16 + 4 * t) 0 (Or.inl (by omega))).trans ve11
      have evz13 := (vn30 (10) 1 (Or.inl (by decide))).trans evz13
      have ve14 := (vn30 (16 + 4 * t) 1 (Or.inl (by omega))).trans ve14
      have evz16 := (vn30 (10) 2 (Or.inl (by decide))).trans evz16
      have ve17 := (vn30 (16 + 4 * t) 2 (Or.inl (by omega))).trans ve17
      have evz19 := (vn30 (10) 3 (Or.inl (by decide))).trans evz19
      have ve21 := (vn30 (16 + 4 * t) 3 (Or.inl (by omega))).trans ve21
      have ve27 := (vn30 (14) 0 (Or.inl (by decide))).trans ve27
      refine X_iconst (v := (1 : Int32)) rfl rfl rfl ?_
      exact LW_ireturn (st := []) rfl rfl rfl ⟨_, rfl, by decide, by decide, V, hG⟩
    · refine X_aload_n rfl rfl rfl rfl ?_
      refine X_aload_n rfl rfl rfl rfl ?_
      refine S_getI rfl rfl rfl ((congrFun V.1 14).trans s_14) rfl (fun vz31 evz31 => ?_)
      have vf32 := K_12_1 (V.2.2.2.2.1 (14) (1) (Nat.le_of_ble_eq_true rfl)) rk_14
      rw [evz31] at vf32
      refine X_iconst (v := (1 : Int32)) rfl rfl rfl ?_
      refine S_iadd rfl rfl rfl (show (1 : Int32).toInt = 1 from rfl) (by omega) (fun vz33 hvz33 => ?_)
      refine X_bipush (v := (30 : Int32)) rfl rfl rfl ?_
      refine S_irem rfl rfl rfl (show (30 : Int32).toInt = 30 from rfl) (by omega) (by omega) (fun vz34 hvz34 => ?_)
      refine S_putI (I := Inv _) rfl rfl rfl ((congrFun V.1 14).trans s_14) rfl rfl rfl rfl (Inv_putI V (Nat.le_of_ble_eq_true rfl) (Or.inl (by decide)) (Q_12_1 rk_14 (by omega))) (fun g V ve35 vn36 hq => ?_)
      have hG := hq.trans hG
      have evz1 := (vn36 (11) ((y1 : Int).toNat) (Or.inl (by decide))).trans evz1
      have evz3 := (vn36 (14) 0 (Or.inr (by decide))).trans evz3
      refine X_aload_n rfl rfl rfl rfl ?_
      refine X_dup rfl rfl rfl ?_
      refine X_getI (v := vz3) rfl rfl rfl ((congrFun V.1 14).trans s_14) rfl evz3 ?_
      refine X_iconst (v := (1 : Int32)) rfl rfl rfl ?_
      refine S_isub rfl rfl rfl (show (1 : Int32).toInt = 1 from rfl) (by omega) (fun vz37 hvz37 => ?_)
      refine S_putI (I := Inv _) rfl rfl rfl ((congrFun V.1 14).trans s_14) rfl rfl rfl rfl (Inv_putI V (Nat.le_of_ble_eq_true rfl) (Or.inl (by decide)) (Q_12_0 rk_14 (by omega))) (fun g V ve38 vn39 hq => ?_)
      have hG := hq.trans hG
      have evz1 := (vn39 (11) ((y1 : Int).toNat) (Or.inl (by decide))).trans evz1
      have ve35 := (vn39 (14) 1 (Or.inr (by decide))).trans ve35
      refine X_aload_n rfl rfl rfl rfl ?_
      refine X_getR (a := 15) rfl rfl rfl ((congrFun V.1 14).trans s_14) rfl ((congrFun (V.2.1 14 (by decide)) 2).trans r_14_2) ?_
      refine X_aload_n rfl rfl rfl rfl ?_
      refine X_getI (v := vz34) rfl rfl rfl ((congrFun V.1 14).trans s_14) rfl ve35 ?_
      refine X_aload_n rfl rfl rfl rfl ?_
      refine X_getI (v := vz37) rfl rfl rfl ((congrFun V.1 14).trans s_14) rfl ve38 ?_
      refine S_iadd rfl rfl rfl rfl (by omega) (fun vz40 hvz40 => ?_)
      refine X_bipush (v := (30 : Int32)) rfl rfl rfl ?_
      refine S_irem rfl rfl rfl (show (30 : Int32).toInt = 30 from rfl) (by omega) (by omega) (fun vz41 hvz41 => ?_)
      obtain ⟨t, ht, et⟩ : ∃ t : Nat, t < 30 ∧ (t : Int) = vz41.toInt := ⟨(vz41.toInt : Int).toNat, by omega, by omega⟩
      refine X_aald (a := 16 + 4 * t) (t0 := 3) rfl rfl ((congrFun V.1 15).trans s_15) rfl (ti_idx (n := 30) rfl (by omega)).1 (by rw [(ti_idx (n := 30) rfl (by omega)).2, show (vz41.toInt : Int).toNat = t by omega]; exact (congrFun (V.2.1 15 (by decide)) t).trans (sp_a t ht)) ?_
      refine X_aload_n rfl rfl rfl rfl ?_
      refine X_callV (as := [.ref 10]) (st := []) rfl rfl rfl (by decide) rfl (Nat.le_of_ble_eq_true rfl) (by decide) (Nat.le_of_ble_eq_true rfl) rfl ((congrFun V.1 _).trans (sp_s t ht)) (by decide) ?_
      refine LW_ls (ls' := [some (.ref (16 + 4 * t)), some (.ref 10)]) rfl ?_
      refine X_aload_n rfl rfl rfl rfl ?_
      refine X_aload_n rfl rfl rfl rfl ?_
      refine S_getI rfl rfl rfl ((congrFun V.1 10).trans s_10) rfl (fun vz42 evz42 => ?_)
      refine S_putI (I := Inv _) rfl rfl rfl ((congrFun V.1 _).trans (sp_s t ht)) rfl rfl rfl rfl (Inv_putI V (by omega) (Or.inl (by omega)) (Q_11_0 (sp_k t ht))) (fun g V ve43 vn44 hq => ?_)
      have hG := hq.trans hG
      have evz1 := (vn44 (11) ((y1 : Int).toNat) (Or.inl (by omega))).trans evz1
      have ve35 := (vn44 (14) 1 (Or.inl (by omega))).trans ve35
      have ve38 := (vn44 (14) 0 (Or.inl (by omega))).trans ve38
      have evz42 := (vn44 (10) 0 (Or.inl (by omega))).trans evz42
      refine X_aload_n rfl rfl rfl rfl ?_
      refine X_aload_n rfl rfl rfl rfl ?_
      refine S_getI rfl rfl rfl ((congrFun V.1 10).trans s_10) rfl (fun vz45 evz45 => ?_)
      refine S_putI (I := Inv _) rfl rfl rfl ((congrFun V.1 _).trans (sp_s t ht)) rfl rfl rfl rfl (Inv_putI V (by omega) (Or.inl (by omega)) (Q_11_1 (sp_k t ht))) (fun g V ve46 vn47 hq => ?_)
      have hG := hq.trans hG
      have evz1 := (vn47 (11) ((y1 : Int).toNat) (Or.inl (by omega))).trans evz1
      have ve35 := (vn47 (14) 1 (Or.inl (by omega))).trans ve35
      have ve38 := (vn47 (14) 0 (Or.inl (by omega))).trans ve38
      have evz42 := (vn47 (10) 0 (Or.inl (by omega))).trans evz42
      have ve43 := (vn47 (16 + 4 * t) 0 (Or.inr (by decide))).trans ve43
      have evz45 := (vn47 (10) 1 (Or.inl (by omega))).trans evz45
      refine X_aload_n rfl rfl rfl rfl ?_
      refine X_aload_n rfl rfl rfl rfl ?_
      refine S_getI rfl rfl rfl ((congrFun V.1 10).trans s_10) rfl (fun vz48 evz48 => ?_)
      refine S_putI (I := Inv _) rfl rfl rfl ((congrFun V.1 _).trans (sp_s t ht)) rfl rfl rfl rfl (Inv_putI V (by omega) (Or.inl (by omega)) (Q_11_2 (sp_k t ht))) (fun g V ve49 vn50 hq => ?_)
      have hG := hq.trans hG
      have evz1 := (vn50 (11) ((y1 : Int).toNat) (Or.inl (by omega))).trans evz1
      have ve35 := (vn50 (14) 1 (Or.inl (by omega))).trans ve35
      have ve38 := (vn50 (14) 0 (Or.inl (by omega))).trans ve38
      have evz42 := (vn50 (10) 0 (Or.inl (by omega))).trans evz42
      have ve43 := (vn50 (16 + 4 * t) 0 (Or.inr (by decide))).trans ve43
      have evz45 := (vn50 (10) 1 (Or.inl (by omega))).trans evz45
      have ve46 := (vn50 (16 + 4 * t) 1 (Or.inr (by decide))).trans ve46
      have evz48 := (vn50 (10) 2 (Or.inl (by omega))).trans evz48
      refine X_aload_n rfl rfl rfl rfl ?_
      refine X_aload_n rfl rfl rfl rfl ?_
      refine S_getI rfl rfl rfl ((congrFun V.1 10).trans s_10) rfl (fun vz51 evz51 => ?_)
      have vf52 := K_11_3 (V.2.2.2.2.1 (10) (3) (Nat.le_of_ble_eq_true rfl)) rk_10
      rw [evz51] at vf52
      refine S_putI (I := Inv _) rfl rfl rfl ((congrFun V.1 _).trans (sp_s t ht)) rfl rfl rfl rfl (Inv_putI V (by omega) (Or.inl (by omega)) (Q_11_3 (sp_k t ht) (by omega))) (fun g V ve53 vn54 hq => ?_)
      have hG := hq.trans hG
      have evz1 := (vn54 (11) ((y1 : Int).toNat) (Or.inl (by omega))).trans evz1
      have ve35 := (vn54 (14) 1 (Or.inl (by omega))).trans ve35
      have ve38 := (vn54 (14) 0 (Or.inl (by omega))).trans ve38
      have evz42 := (vn54 (10) 0 (Or.inl (by omega))).trans evz42
      have ve43 := (vn54 (16 + 4 * t) 0 (Or.inr (by decide))).trans ve43
      have evz45 := (vn54 (10) 1 (Or.inl (by omega))).trans evz45
      have ve46 := (vn54 (16 + 4 * t) 1 (Or.inr (by decide))).trans ve46
      have evz48 := (vn54 (10) 2 (Or.inl (by omega))).trans evz48
      have ve49 := (vn54 (16 + 4 * t) 2 (Or.inr (by decide))).trans ve49
      have evz51 := (vn54 (10) 3 (Or.inl (by omega))).trans evz51
      refine X_aload_n rfl rfl rfl rfl ?_
      refine X_getR (a := 11) rfl rfl rfl ((congrFun V.1 10).trans s_10) rfl ((congrFun (V.2.1 10 (by decide)) 4).trans r_10_4) ?_
      refine X_iconst (v := (0 : Int32)) rfl rfl rfl ?_
      refine X_aload_n rfl rfl rfl rfl ?_
      refine X_getR (a := 17 + 4 * t) rfl rfl rfl ((congrFun V.1 _).trans (sp_s t ht)) rfl ((congrFun (V.2.1 (16 + 4 * t) (by omega)) 4).trans (sp_r4 t ht)) ?_
      refine X_iconst (v := (0 : Int32)) rfl rfl rfl ?_
      refine X_bipush (v := (26 : Int32)) rfl rfl rfl ?_
      refine S_copy (I := Inv _) (sp' := 0) (dp' := 0) (n' := 26) rfl rfl rfl ((congrFun V.1 11).trans s_11) ((congrFun V.1 _).trans (sp_s4 t ht)) (by decide) (by decide) (by decide) rfl rfl rfl (by decide) (by decide) (Nat.le_of_ble_eq_true rfl) (Inv_cpy V (Nat.le_of_ble_eq_true rfl) (by omega) (by omega) (U_0 rk_11 (sp_k4 t ht))) (fun g V vn55 hq => ?_)
      have hG := hq.trans hG
      have ve35 := (vn55 (14) 1 (by omega)).trans ve35
      have ve38 := (vn55 (14) 0 (by omega)).trans ve38
      have evz42 := (vn55 (10) 0 (by omega)).trans evz42
      have ve43 := (vn55 (16 + 4 * t) 0 (by omega)).trans ve43
      have evz45 := (vn55 (10) 1 (by omega)).trans evz45
      have ve46 := (vn55 (16 + 4 * t) 1 (by omega)).trans ve46
      have evz48 := (vn55 (10) 2 (by omega)).trans evz48
      have ve49 := (vn55 (16 + 4 * t) 2 (by omega)).trans ve49
      have evz51 := (vn55 (10) 3 (by omega)).trans evz51
      have ve53 := (vn55 (16 + 4 * t) 3 (by omega)).trans ve53
      refine X_aload_n rfl rfl rfl rfl ?_
      refine X_getR (a := 12) rfl rfl rfl ((congrFun V.1 10).trans s_10) rfl ((congrFun (V.2.1 10 (by decide)) 5).trans r_10_5) ?_
      refine X_iconst (v := (0 : Int32)) rfl rfl rfl ?_
      refine X_aload_n rfl rfl rfl rfl ?_
      refine X_getR (a := 18 + 4 * t) rfl rfl rfl ((congrFun V.1 _).trans (sp_s t ht)) rfl ((congrFun (V.2.1 (16 + 4 * t) (by omega)) 5).trans (sp_r5 t ht)) ?_
      refine X_iconst (v := (0 : Int32)) rfl rfl rfl ?_
      refine X_bipush (v := (26 : Int32)) rfl rfl rfl ?_
      refine S_copy (I := Inv _) (sp' := 0) (dp' := 0) (n' := 26) rfl rfl rfl ((congrFun V.1 12).trans s_12) ((congrFun V.1 _).trans (sp_s5 t ht)) (by decide) (by decide) (by decide) rfl rfl rfl (by decide) (by decide) (Nat.le_of_ble_eq_true rfl) (Inv_cpy V (Nat.le_of_ble_eq_true rfl) (by omega) (by omega) (U_0 rk_12 (sp_k5 t ht))) (fun g V vn56 hq => ?_)
      have hG := hq.trans hG
      have ve35 := (vn56 (14) 1 (by omega)).trans ve35
      have ve38 := (vn56 (14) 0 (by omega)).trans ve38
      have evz42 := (vn56 (10) 0 (by omega)).trans evz42
      have ve43 := (vn56 (16 + 4 * t) 0 (by omega)).trans ve43
      have evz45 := (vn56 (10) 1 (by omega)).trans evz45
      have ve46 := (vn56 (16 + 4 * t) 1 (by omega)).trans ve46
      have evz48 := (vn56 (10) 2 (by omega)).trans evz48
      have ve49 := (vn56 (16 + 4 * t) 2 (by omega)).trans ve49
      have evz51 := (vn56 (10) 3 (by omega)).trans evz51
      have ve53 := (vn56 (16 + 4 * t) 3 (by omega)).trans ve53
      refine X_aload_n rfl rfl rfl rfl ?_
      refine X_getR (a := 13) rfl rfl rfl ((congrFun V.1 10).trans s_10) rfl ((congrFun (V.2.1 10 (by decide)) 6).trans r_10_6) ?_
      refine X_iconst (v := (0 : Int32)) rfl rfl rfl ?_
      refine X_aload_n rfl rfl rfl rfl ?_
      refine X_getR (a := 19 + 4 * t) rfl rfl rfl ((congrFun V.1 _).trans (sp_s t ht)) rfl ((congrFun (V.2.1 (16 + 4 * t) (by omega)) 6).trans (sp_r6 t ht)) ?_
      refine X_iconst (v := (0 : Int32)) rfl rfl rfl ?_
      refine X_bipush (v := (26 : Int32)) rfl rfl rfl ?_
      refine S_copy (I := Inv _) (sp' := 0) (dp' := 0) (n' := 26) rfl rfl rfl ((congrFun V.1 13).trans s_13) ((congrFun V.1 _).trans (sp_s6 t ht)) (by decide) (by decide) (by decide) rfl rfl rfl (by decide) (by decide) (Nat.le_of_ble_eq_true rfl) (Inv_cpy V (Nat.le_of_ble_eq_true rfl) (by omega) (by omega) (U_0 rk_13 (sp_k6 t ht))) (fun g V vn57 hq => ?_)
      have hG := hq.trans hG
      have ve35 := (vn57 (14) 1 (by omega)).trans ve35
      have ve38 := (vn57 (14) 0 (by omega)).trans ve38
      have evz42 := (vn57 (10) 0 (by omega)).trans evz42
      have ve43 := (vn57 (16 + 4 * t) 0 (by omega)).trans ve43
      have evz45 := (vn57 (10) 1 (by omega)).trans evz45
      have ve46 := (vn57 (16 + 4 * t) 1 (by omega)).trans ve46
      have evz48 := (vn57 (10) 2 (by omega)).trans evz48
      have ve49 := (vn57 (16 + 4 * t) 2 (by omega)).trans ve49
      have evz51 := (vn57 (10) 3 (by omega)).trans evz51
      have ve53 := (vn57 (16 + 4 * t) 3 (by omega)).trans ve53
      refine LW_return (st := []) rfl rfl ?_
      refine X_aload_n rfl rfl rfl rfl ?_
      refine X_dup rfl rfl rfl ?_
      refine X_getI (v := vz37) rfl rfl rfl ((congrFun V.1 14).trans s_14) rfl ve38 ?_
      refine X_iconst (v := (1 : Int32)) rfl rfl rfl ?_
      refine S_iadd rfl rfl rfl (show (1 : Int32).toInt = 1 from rfl) (by omega) (fun vz58 hvz58 => ?_)
      refine S_putI (I := Inv _) rfl rfl rfl ((congrFun V.1 14).trans s_14) rfl rfl rfl rfl (Inv_putI V (Nat.le_of_ble_eq_true rfl) (Or.inl (by decide)) (Q_12_0 rk_14 (by omega))) (fun g V ve59 vn60 hq => ?_)
      have hG := hq.trans hG
      have ve35 := (vn60 (14) 1 (Or.inr (by decide))).trans ve35
      have evz42 := (vn60 (10) 0 (Or.inl (by decide))).trans evz42
      have ve43 := (vn60 (16 + 4 * t) 0 (Or.inl (by omega))).trans ve43
      have evz45 := (vn60 (10) 1 (Or.inl (by decide))).trans evz45
      have ve46 := (vn60 (16 + 4 * t) 1 (Or.inl (by omega))).trans ve46
      have evz48 := (vn60 (10) 2 (Or.inl (by decide))).trans evz48
      have ve49 := (vn60 (16 + 4 * t) 2 (Or.inl (by omega))).trans ve49
      have evz51 := (vn60 (10) 3 (Or.inl (by decide))).trans evz51
      have ve53 := (vn60 (16 + 4 * t) 3 (Or.inl (by omega))).trans ve53
      refine LW_return (st := []) rfl rfl ?_
      refine X_aload_n rfl rfl rfl rfl ?_
      refine X_getR (a := 10) rfl rfl rfl ((congrFun V.1 342).trans s_342) rfl ((congrFun (V.2.1 342 (by decide)) 1).trans r_342_1) ?_
      refine X_getR (a := 11) rfl rfl rfl ((congrFun V.1 10).trans s_10) rfl ((congrFun (V.2.1 10 (by decide)) 4).trans r_10_4) ?_
      refine X_iload_n rfl rfl rfl rfl ?_
      refine X_iload_n rfl rfl rfl rfl ?_
      refine S_iast (I := Inv _) rfl rfl ((congrFun V.1 11).trans s_11) hx1 (by omega) (Inv_putI V (Nat.le_of_ble_eq_true rfl) (Or.inl (by decide)) (Q_0 rk_11)) (fun g V ve61 vn62 hq => ?_)
      have hG := hq.trans hG
      have ve35 := (vn62 (14) 1 (Or.inl (by decide))).trans ve35
      have evz42 := (vn62 (10) 0 (Or.inl (by decide))).trans evz42
      have ve43 := (vn62 (16 + 4 * t) 0 (Or.inl (by omega))).trans ve43
      have evz45 := (vn62 (10) 1 (Or.inl (by decide))).trans evz45
      have ve46 := (vn62 (16 + 4 * t) 1 (Or.inl (by omega))).trans ve46
      have evz48 := (vn62 (10) 2 (Or.inl (by decide))).trans evz48
      have ve49 := (vn62 (16 + 4 * t) 2 (Or.inl (by omega))).trans ve49
      have evz51 := (vn62 (10) 3 (Or.inl (by decide))).trans evz51
      have ve53 := (vn62 (16 + 4 * t) 3 (Or.inl (by omega))).trans ve53
      have ve59 := (vn62 (14) 0 (Or.inl (by decide))).trans ve59
      refine X_iconst (v := (1 : Int32)) rfl rfl rfl ?_
      exact LW_ireturn (st := []) rfl rfl rfl ⟨_, rfl, by decide, by decide, V, hG⟩
  · refine X_iconst (v := (0 : Int32)) rfl rfl rfl ?_
    exact LW_ireturn (st := []) rfl rfl rfl ⟨_, rfl, by decide, by decide, V, hG⟩
