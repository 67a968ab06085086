/-! the class's methods: each returns and keeps what every state keeps -/
set_option maxRecDepth 10000 in
set_option maxHeartbeats 40000000 in
theorem C_X5_sensesLeft_4 {P : Par} {g : LH} {d n : Nat}  (V : Inv P g) (x1 : Int32) (y1 : Int) (hx1 : x1.toInt = y1) (x2 : Int32) (y2 : Int) (hx2 : x2.toInt = y2) (hf2 : 0 ≤ y2 ∧ y2 ≤ 1023) (x3 : Int32) (y3 : Int) (hx3 : x3.toInt = y3) (hf3 : 0 ≤ y3 ∧ y3 ≤ 24)  (hmu : (24 - y3) * 1 + 0 < (n : Int) + 1) (ih4 : ∀ (V : Inv P g) (x1 : Int32) (y1 : Int) (hx1 : x1.toInt = y1) (x2 : Int32) (y2 : Int) (hx2 : x2.toInt = y2) (hf2 : 0 ≤ y2 ∧ y2 ≤ 1023) (x3 : Int32) (y3 : Int) (hx3 : x3.toInt = y3) (hf3 : 0 ≤ y3 ∧ y3 ≤ 24) , (24 - y3) * 1 + 0 < (n : Int) → LW 51 (d + 3) 0 0 4 [some (.ref 2), some (.int x1), some (.int x2), some (.int x3)] [] g (fun v g' => ∃ r : Int32, v = some (.int r) ∧ 0 ≤ r.toInt ∧ r.toInt ≤ 1023 ∧ g = g')) : LW 51 (d + 3) 0 0 4 [some (.ref 2), some (.int x1), some (.int x2), some (.int x3)] [] g (fun v g' => ∃ r : Int32, v = some (.int r) ∧ 0 ≤ r.toInt ∧ r.toInt ≤ 1023 ∧ g = g') := by
  refine X_iload_n rfl rfl rfl rfl ?_
  refine X_aload_n rfl rfl rfl rfl ?_
  refine S_getI rfl rfl rfl ((congrFun V.1 2).trans s_2) rfl (fun vz1 evz1 => ?_)
  have vf2 := K_10_0 (V.2.2.2.2.1 (2) (0) (Nat.le_of_ble_eq_true rfl)) rk_2
  rw [evz1] at vf2
  refine S_icmp_ge (tgt := 40) rfl rfl rfl hx3 rfl (fun vh3 => ?_) (fun vh3 => ?_)
  · refine X_iload_n rfl rfl rfl rfl ?_
    have hr := hx2
    exact LW_ireturn (st := []) rfl rfl rfl ⟨_, rfl, by omega, by omega, rfl⟩
  · refine X_aload_n rfl rfl rfl rfl ?_
    refine X_getR (a := 5) rfl rfl rfl ((congrFun V.1 2).trans s_2) rfl ((congrFun (V.2.1 2 (by decide)) 4).trans r_2_4) ?_
    refine X_iload_n rfl rfl rfl rfl ?_
    refine S_iald rfl rfl ((congrFun V.1 5).trans s_5) hx3 (by omega) (fun vz4 evz4 => ?_)
    refine X_iload_n rfl rfl rfl rfl ?_
    refine S_iandT rfl rfl (fun vz5 => ?_)
    refine S_if_ne (tgt := 34) rfl rfl rfl rfl (fun vh6 => ?_) (fun vh6 => ?_)
    · refine S_iinc (c := 1) rfl rfl rfl hx3 rfl (by omega) (fun vz7 hvz7 => ?_)
      refine LW_ls (ls' := [some (.ref 2), some (.int x1), some (.int x2), some (.int vz7)]) rfl ?_
      refine LW_goto (tgt := 4) rfl rfl ?_
      exact ih4 V x1 y1 hx1 x2 y2 hx2 (by omega) vz7 vz7.toInt rfl (by omega)    (by omega)
    · refine X_iload_n rfl rfl rfl rfl ?_
      refine X_iconst (v := (1 : Int32)) rfl rfl rfl ?_
      refine X_aload_n rfl rfl rfl rfl ?_
      refine X_getR (a := 4) rfl rfl rfl ((congrFun V.1 2).trans s_2) rfl ((congrFun (V.2.1 2 (by decide)) 3).trans r_2_3) ?_
      refine X_iload_n rfl rfl rfl rfl ?_
      refine S_iald rfl rfl ((congrFun V.1 4).trans s_4) hx3 (by omega) (fun vz8 evz8 => ?_)
      have vf9 := K_2 (V.2.2.2.2.1 (4) ((y3 : Int).toNat) (Nat.le_of_ble_eq_true rfl)) rk_4
      rw [evz8] at vf9
      refine S_shl1 (n := 9) rfl rfl rfl (by omega) (fun vz10 hvz10 => ?_)
      refine S_ior (n := 10) rfl rfl hx2 rfl (by omega) (by omega) (fun vz11 hvz11 => ?_)
      refine X_istore_n (i := 2) (ls' := [some (.ref 2), some (.int x1), some (.int vz11), some (.int x3)]) rfl rfl rfl (Nat.le_of_ble_eq_true rfl) rfl ?_
      refine S_iinc (c := 1) rfl rfl rfl hx3 rfl (by omega) (fun vz12 hvz12 => ?_)
      refine LW_ls (ls' := [some (.ref 2), some (.int x1), some (.int vz11), some (.int vz12)]) rfl ?_
      refine LW_goto (tgt := 4) rfl rfl ?_
      exact ih4 V x1 y1 hx1 vz11 vz11.toInt rfl (by omega) vz12 vz12.toInt rfl (by omega)    (by omega)
theorem C_X5_sensesLeft_all {P : Par} {g : LH} {d : Nat}  : ∀ n : Nat, (∀ (V : Inv P g) (x1 : Int32) (y1 : Int) (hx1 : x1.toInt = y1) (x2 : Int32) (y2 : Int) (hx2 : x2.toInt = y2) (hf2 : 0 ≤ y2 ∧ y2 ≤ 1023) (x3 : Int32) (y3 : Int) (hx3 : x3.toInt = y3) (hf3 : 0 ≤ y3 ∧ y3 ≤ 24) , (24 - y3) * 1 + 0 < (n : Int) → LW 51 (d + 3) 0 0 4 [some (.ref 2), some (.int x1), some (.int x2), some (.int x3)] [] g (fun v g' => ∃ r : Int32, v = some (.int r) ∧ 0 ≤ r.toInt ∧ r.toInt ≤ 1023 ∧ g = g')) := by
  intro n
  induction n with
  | zero => exact fun V x1 y1 hx1 x2 y2 hx2 hf2 x3 y3 hx3 hf3 hmu => absurd hmu (by omega)
  | succ n ih => exact fun V x1 y1 hx1 x2 y2 hx2 hf2 x3 y3 hx3 hf3 hmu => C_X5_sensesLeft_4  V x1 y1 hx1 x2 y2 hx2 hf2 x3 y3 hx3 hf3 (by omega) ih
set_option maxRecDepth 10000 in
set_option maxHeartbeats 40000000 in
theorem C_X5_sensesLeft {P : Par} {g : LH} {d : Nat}  (V : Inv P g) (x1 : Int32) (y1 : Int) (hx1 : x1.toInt = y1)   : LW 51 (d + 3) 0 0 0 (lEnt (mL 51) [.ref 2, .int x1]) [] g (fun v g' => ∃ r : Int32, v = some (.int r) ∧ 0 ≤ r.toInt ∧ r.toInt ≤ 1023 ∧ g = g') := by
  refine LW_ls (ls' := [some (.ref 2), some (.int x1), none, none]) rfl ?_
  refine X_iconst (v := (0 : Int32)) rfl rfl rfl ?_
  refine X_istore_n (i := 2) (ls' := [some (.ref 2), some (.int x1), some (.int (0 : Int32)), none]) rfl rfl rfl (Nat.le_of_ble_eq_true rfl) rfl ?_
  refine X_iconst (v := (0 : Int32)) rfl rfl rfl ?_
  refine X_istore_n (i := 3) (ls' := [some (.ref 2), some (.int x1), some (.int (0 : Int32)), some (.int (0 : Int32))]) rfl rfl rfl (Nat.le_of_ble_eq_true rfl) rfl ?_
  exact (C_X5_sensesLeft_all (((24 - 0) * 1 + 0) + 1 : Int).toNat) V x1 y1 hx1 (0 : Int32) 0 (show (0 : Int32).toInt = 0 from rfl) (by omega) (0 : Int32) 0 (show (0 : Int32).toInt = 0 from rfl) (by omega)    (by omega)
set_option maxRecDepth 10000 in
set_option maxHeartbeats 40000000 in
theorem C_X1_conclude_110 {P : Par} {g g0 : LH} {d n : Nat}  (V : Inv P g) (hG : Gr g = Gr g0) (x1 : Int32) (y1 : Int) (hx1 : x1.toInt = y1) (hf1 : 0 ≤ y1 ∧ y1 ≤ 7) (x4 : Int32) (y4 : Int) (hx4 : x4.toInt = y4) (hf4 : 0 ≤ y4 ∧ y4 ≤ 9) (x5 : Int32) (y5 : Int) (hx5 : x5.toInt = y5) (x6 : Int32) (y6 : Int) (hx6 : x6.toInt = y6) (hf6 : 0 ≤ y6 ∧ y6 ≤ 8)  (hmu : (8 - y6) * 1 + 0 < (n : Int) + 1) (ih110 : ∀ (g : LH) (V : Inv P g) (hG : Gr g = Gr g0) (x1 : Int32) (y1 : Int) (hx1 : x1.toInt = y1) (hf1 : 0 ≤ y1 ∧ y1 ≤ 7) (x4 : Int32) (y4 : Int) (hx4 : x4.toInt = y4) (hf4 : 0 ≤ y4 ∧ y4 ≤ 9) (x5 : Int32) (y5 : Int) (hx5 : x5.toInt = y5) (x6 : Int32) (y6 : Int) (hx6 : x6.toInt = y6) (hf6 : 0 ≤ y6 ∧ y6 ≤ 8) , (8 - y6) * 1 + 0 < (n : Int) → LW 11 (d + 15) 0 0 110 [some (.ref 342), some (.int x1), some (.ref 2), some (.ref 136), some (.int x4), some (.int x5), some (.int x6)] [] g (fun v g' => ∃ r : Int32, v = some (.int r) ∧ (-1) ≤ r.toInt ∧ r.toInt ≤ 9 ∧ Inv P g' ∧ Gr g' = Gr g0)) : LW 11 (d + 15) 0 0 110 [some (.ref 342), some (.int x1), some (.ref 2), some (.ref 136), some (.int x4), some (.int x5), some (.int x6)] [] g (fun v g' => ∃ r : Int32, v = some (.int r) ∧ (-1) ≤ r.toInt ∧ r.toInt ≤ 9 ∧ Inv P g' ∧ Gr g' = Gr g0) := by
  refine X_iload rfl rfl rfl ?_
  refine X_aload_n rfl rfl rfl rfl ?_
  refine X_getR (a := 7) rfl rfl rfl ((congrFun V.1 2).trans s_2) rfl ((congrFun (V.2.1 2 (by decide)) 6).trans r_2_6) ?_
  refine X_iload_n rfl rfl rfl rfl ?_
  refine S_iald rfl rfl ((congrFun V.1 7).trans s_7) hx1 (by omega) (fun vz1 evz1 => ?_)
  have vf2 := K_1 (V.2.2.2.2.1 (7) ((y1 : Int).toNat) (Nat.le_of_ble_eq_true rfl)) rk_7
  rw [evz1] at vf2
  refine S_icmp_ge (tgt := 149) rfl rfl rfl hx6 rfl (fun vh3 => ?_) (fun vh3 => ?_)
  · refine X_aload_n rfl rfl rfl rfl ?_
    refine X_getR (a := 10) rfl rfl rfl ((congrFun V.1 342).trans s_342) rfl ((congrFun (V.2.1 342 (by decide)) 1).trans r_342_1) ?_
    refine X_dup rfl rfl rfl ?_
    refine S_getI rfl rfl rfl ((congrFun V.1 10).trans s_10) rfl (fun vz4 evz4 => ?_)
    have vf5 := K_11_3 (V.2.2.2.2.1 (10) (3) (Nat.le_of_ble_eq_true rfl)) rk_10
    rw [evz4] at vf5
    refine X_iconst (v := (1 : Int32)) rfl rfl rfl ?_
    refine S_iadd rfl rfl rfl (show (1 : Int32).toInt = 1 from rfl) (by omega) (fun vz6 hvz6 => ?_)
    refine S_putI (I := Inv _) rfl rfl rfl ((congrFun V.1 10).trans s_10) rfl rfl rfl rfl (Inv_putI V (Nat.le_of_ble_eq_true rfl) (Or.inl (by decide)) (Q_11_3 rk_10 (by omega))) (fun g V ve7 vn8 hq => ?_)
    have hG := hq.trans hG
    have evz1 := (vn8 (7) ((y1 : Int).toNat) (Or.inl (by decide))).trans evz1
    refine X_iload rfl rfl rfl ?_
    have hr := hx4
    exact LW_ireturn (st := []) rfl rfl rfl ⟨_, rfl, by omega, by omega, V, hG⟩
  · refine X_aload_n rfl rfl rfl rfl ?_
    refine X_getR (a := 140) rfl rfl rfl ((congrFun V.1 136).trans s_136) rfl ((congrFun (V.2.1 136 (by decide)) 3).trans r_136_3) ?_
    refine X_iload rfl rfl rfl ?_
    refine X_bipush (v := (8 : Int32)) rfl rfl rfl ?_
    refine S_imul rfl rfl hx4 (show (8 : Int32).toInt = 8 from rfl) (by omega) (fun vz9 hvz9 => ?_)
    refine X_iload rfl rfl rfl ?_
    refine S_iadd rfl rfl rfl hx6 (by omega) (fun vz10 hvz10 => ?_)
    refine X_aload_n rfl rfl rfl rfl ?_
    refine X_iload_n rfl rfl rfl rfl ?_
    refine X_iload rfl rfl rfl ?_
    refine X_iload rfl rfl rfl ?_
    refine Y_callV (as := [.int x1, .int x6, .int x5]) (st := [.int vz10, .ref 140]) rfl rfl rfl (by decide) rfl (Nat.le_of_ble_eq_true rfl) (by decide) (Nat.le_of_ble_eq_true rfl) rfl ((congrFun V.1 2).trans s_2) (by decide) (C_X5_wordSaid V x1 y1 hx1 (by omega) x6 y6 hx6 (by omega) x5 y5 hx5 ) ?_
    rintro _ g' ⟨vr11, rfl, hrvr110, hrvr111, hgg⟩
    subst hgg
    refine S_iast (I := Inv _) rfl rfl ((congrFun V.1 140).trans s_140) rfl (by omega) (Inv_putI V (Nat.le_of_ble_eq_true rfl) (Or.inl (by decide)) (Q_0 rk_140)) (fun g V ve12 vn13 hq => ?_)
    have hG := hq.trans hG
    have evz1 := (vn13 (7) ((y1 : Int).toNat) (Or.inl (by decide))).trans evz1
    refine S_iinc (c := 1) rfl rfl rfl hx6 rfl (by omega) (fun vz14 hvz14 => ?_)
    refine LW_ls (ls' := [some (.ref 342), some (.int x1), some (.ref 2), some (.ref 136), some (.int x4), some (.int x5), some (.int vz14)]) rfl ?_
    refine LW_goto (tgt := 110) rfl rfl ?_
    exact ih110 _ V hG x1 y1 hx1 (by omega) x4 y4 hx4 (by omega) x5 y5 hx5 vz14 vz14.toInt rfl (by omega)    (by omega)
theorem C_X1_conclude_all {P : Par} {g0 : LH} {d : Nat}  : ∀ n : Nat, (∀ (g : LH) (V : Inv P g) (hG : Gr g = Gr g0) (x1 : Int32) (y1 : Int) (hx1 : x1.toInt = y1) (hf1 : 0 ≤ y1 ∧ y1 ≤ 7) (x4 : Int32) (y4 : Int) (hx4 : x4.toInt = y4) (hf4 : 0 ≤ y4 ∧ y4 ≤ 9) (x5 : Int32) (y5 : Int) (hx5 : x5.toInt = y5) (x6 : Int32) (y6 : Int) (hx6 : x6.toInt = y6) (hf6 : 0 ≤ y6 ∧ y6 ≤ 8) , (8 - y6) * 1 + 0 < (n : Int) → LW 11 (d + 15) 0 0 110 [some (.ref 342), some (.int x1), some (.ref 2), some (.ref 136), some (.int x4), some (.int x5), some (.int x6)] [] g (fun v g' => ∃ r : Int32, v = some (.int r) ∧ (-1) ≤ r.toInt ∧ r.toInt ≤ 9 ∧ Inv P g' ∧ Gr g' = Gr g0)) := by
  intro n
  induction n with
  | zero => exact fun g V hG x1 y1 hx1 hf1 x4 y4 hx4 hf4 x5 y5 hx5 x6 y6 hx6 hf6 hmu => absurd hmu (by omega)
  | succ n ih => exact fun g V hG x1 y1 hx1 hf1 x4 y4 hx4 hf4 x5 y5 hx5 x6 y6 hx6 hf6 hmu => C_X1_conclude_110  V hG x1 y1 hx1 hf1 x4 y4 hx4 hf4 x5 y5 hx5 x6 y6 hx6 hf6 (by omega) ih
set_option maxRecDepth 10000 in
set_option maxHeartbeats 40000000 in
theorem C_X1_conclude {P : Par} {g : LH} {d : Nat}  (V : Inv P g) (x1 : Int32) (y1 : Int) (hx1 : x1.toInt = y1)   : LW 11 (d + 15) 0 0 0 (lEnt (mL 11) [.ref 342, .int x1]) [] g (fun v g' => ∃ r : Int32, v = some (.int r) ∧ (-1) ≤ r.toInt ∧ r.toInt ≤ 9 ∧ Inv P g' ∧ Gr g' = Gr g) := by
  refine LW_ls (ls' := [some (.ref 342), some (.int x1), none, none, none, none, none]) rfl ?_
  have hG : Gr g = Gr g := rfl
  refine X_aload_n rfl rfl rfl rfl ?_
  refine X_getR (a := 1) rfl rfl rfl ((congrFun V.1 342).trans s_342) rfl ((congrFun (V.2.1 342 (by decide)) 0).trans r_342_0) ?_
  refine X_getR (a := 2) rfl rfl rfl ((congrFun V.1 1).trans s_1) rfl ((congrFun (V.2.1 1 (by decide)) 0).trans r_1_0) ?_
  refine X_astore_n (i := 2) (ls' := [some (.ref 342), some (.int x1), some (.ref 2), none, none, none, none]) rfl rfl rfl (Nat.le_of_ble_eq_true rfl) rfl ?_
  refine X_aload_n rfl rfl rfl rfl ?_
  refine X_getR (a := 1) rfl rfl rfl ((congrFun V.1 342).trans s_342) rfl ((congrFun (V.2.1 342 (by decide)) 0).trans r_342_0) ?_
  refine X_getR (a := 136) rfl rfl rfl ((congrFun V.1 1).trans s_1) rfl ((congrFun (V.2.1 1 (by decide)) 3).trans r_1_3) ?_
  refine X_astore_n (i := 3) (ls' := [some (.ref 342), some (.int x1), some (.ref 2), some (.ref 136), none, none, none]) rfl rfl rfl (Nat.le_of_ble_eq_true rfl) rfl ?_
  refine X_aload_n rfl rfl rfl rfl ?_
  refine X_getR (a := 10) rfl rfl rfl ((congrFun V.1 342).trans s_342) rfl ((congrFun (V.2.1 342 (by decide)) 1).trans r_342_1) ?_
  refine S_getI rfl rfl rfl ((congrFun V.1 10).trans s_10) rfl (fun vz1 evz1 => ?_)
  have vf2 := K_11_3 (V.2.2.2.2.1 (10) (3) (Nat.le_of_ble_eq_true rfl)) rk_10
  rw [evz1] at vf2
  refine X_istore (i := 4) (ls' := [some (.ref 342), some (.int x1), some (.ref 2), some (.ref 136), some (.int vz1), none, none]) rfl rfl (Nat.le_of_ble_eq_true rfl) rfl ?_
  refine X_aload_n rfl rfl rfl rfl ?_
  refine X_getR (a := 10) rfl rfl rfl ((congrFun V.1 342).trans s_342) rfl ((congrFun (V.2.1 342 (by decide)) 1).trans r_342_1) ?_
  refine Y_callV (as := []) (st := []) rfl rfl rfl (by decide) rfl (Nat.le_of_ble_eq_true rfl) (by decide) (Nat.le_of_ble_eq_true rfl) rfl ((congrFun V.1 10).trans s_10) (by decide) (C_X9_missing V  ) ?_
  rintro _ g' ⟨vr3, rfl, hgg⟩
  subst hgg
  refine X_istore (i := 5) (ls' := [some (.ref 342), some (.int x1), some (.ref 2), some (.ref 136), some (.int vz1), some (.int vr3), none]) rfl rfl (Nat.le_of_ble_eq_true rfl) rfl ?_
  refine X_iload rfl rfl rfl ?_
  refine S_if_lt (tgt := 56) rfl rfl rfl rfl (fun q => absurd q (by omega)) (fun vh4 => ?_)
  refine X_iload rfl rfl rfl ?_
  refine X_bipush (v := (10 : Int32)) rfl rfl rfl ?_
  refine S_icmp_ge (tgt := 56) rfl rfl rfl rfl (show (10 : Int32).toInt = 10 from rfl) (fun vh5 => ?_) (fun vh5 => ?_)
  · refine X_iconst (v := (-1 : Int32)) rfl rfl rfl ?_
    exact LW_ireturn (st := []) rfl rfl rfl ⟨_, rfl, by decide, by decide, V, hG⟩
  · refine X_aload_n rfl rfl rfl rfl ?_
    refine X_iload_n rfl rfl rfl rfl ?_
    refine X_iload rfl rfl rfl ?_
    refine X_callV (as := [.int x1, .int vr3]) (st := []) rfl rfl rfl (by decide) rfl (Nat.le_of_ble_eq_true rfl) (by decide) (Nat.le_of_ble_eq_true rfl) rfl ((congrFun V.1 2).trans s_2) (by decide) ?_
    refine LW_ls (ls' := [some (.ref 2), some (.int x1), some (.int vr3)]) rfl ?_
    refine X_aload_n rfl rfl rfl rfl ?_
    refine X_iload_n rfl rfl rfl rfl ?_
    refine X_callV (as := [.int x1]) (st := []) rfl rfl rfl (by decide) rfl (Nat.le_of_ble_eq_true rfl) (by decide) (Nat.le_of_ble_eq_true rfl) rfl ((congrFun V.1 2).trans s_2) (by decide) ?_
    refine LW_ls (ls' := [some (.ref 2), some (.int x1)]) rfl ?_
    refine X_iload_n rfl rfl rfl rfl ?_
    refine S_if_lt (tgt := 22) rfl rfl rfl hx1 (fun vh6 => ?_) (fun vh6 => ?_)
    · refine X_iconst (v := (0 : Int32)) rfl rfl rfl ?_
      refine LW_ireturn (st := []) rfl rfl rfl ?_
      refine S_if_eq (tgt := 29) rfl rfl rfl (show (0 : Int32).toInt = 0 from rfl) (fun vh7 => ?_) (fun q => absurd q (by omega))
      refine X_iconst (v := (0 : Int32)) rfl rfl rfl ?_
      refine LW_ireturn (st := []) rfl rfl rfl ?_
      refine S_if_ne (tgt := 58) rfl rfl rfl (show (0 : Int32).toInt = 0 from rfl) (fun q => absurd q (by omega)) (fun vh8 => ?_)
      refine X_iconst (v := (-1 : Int32)) rfl rfl rfl ?_
      exact LW_ireturn (st := []) rfl rfl rfl ⟨_, rfl, by decide, by decide, V, hG⟩
    · refine X_iload_n rfl rfl rfl rfl ?_
      refine X_aload_n rfl rfl rfl rfl ?_
      refine S_getI rfl rfl rfl ((congrFun V.1 2).trans s_2) rfl (fun vz9 evz9 => ?_)
      have vf10 := K_10_1 (V.2.2.2.2.1 (2) (1) (Nat.le_of_ble_eq_true rfl)) rk_2
      rw [evz9] at vf10
      refine S_icmp_ge (tgt := 22) rfl rfl rfl hx1 rfl (fun vh11 => ?_) (fun vh11 => ?_)
      · refine X_iconst (v := (0 : Int32)) rfl rfl rfl ?_
        refine LW_ireturn (st := []) rfl rfl rfl ?_
        refine S_if_eq (tgt := 29) rfl rfl rfl (show (0 : Int32).toInt = 0 from rfl) (fun vh12 => ?_) (fun q => absurd q (by omega))
        refine X_iconst (v := (0 : Int32)) rfl rfl rfl ?_
        refine LW_ireturn (st := []) rfl rfl rfl ?_
        refine S_if_ne (tgt := 58) rfl rfl rfl (show (0 : Int32).toInt = 0 from rfl) (fun q => absurd q (by omega)) (fun vh13 => ?_)
        refine X_iconst (v := (-1 : Int32)) rfl rfl rfl ?_
        exact LW_ireturn (st := []) rfl rfl rfl ⟨_, rfl, by decide, by decide, V, hG⟩
      · refine X_iload_n rfl rfl rfl rfl ?_
        refine X_bipush (v := (8 : Int32)) rfl rfl rfl ?_
        refine S_icmp_ge (tgt := 22) rfl rfl rfl hx1 (show (8 : Int32).toInt = 8 from rfl) (fun q => absurd q (by omega)) (fun vh14 => ?_)
        refine X_iconst (v := (1 : Int32)) rfl rfl rfl ?_
        refine LW_goto (tgt := 23) rfl rfl ?_
        refine LW_ireturn (st := []) rfl rfl rfl ?_
        refine S_if_eq (tgt := 29) rfl rfl rfl (show (1 : Int32).toInt = 1 from rfl) (fun q => absurd q (by omega)) (fun vh15 => ?_)
        refine X_aload_n rfl rfl rfl rfl ?_
        refine X_getR (a := 8) rfl rfl rfl ((congrFun V.1 2).trans s_2) rfl ((congrFun (V.2.1 2 (by decide)) 7).trans r_2_7) ?_
        refine X_iload_n rfl rfl rfl rfl ?_
        refine S_iald rfl rfl ((congrFun V.1 8).trans s_8) hx1 (by omega) (fun vz16 evz16 => ?_)
        refine X_aload_n rfl rfl rfl rfl ?_
        refine X_iload_n rfl rfl rfl rfl ?_
        refine Y_callV (as := [.int vr3]) (st := [.int vz16]) rfl rfl rfl (by decide) rfl (Nat.le_of_ble_eq_true rfl) (by decide) (Nat.le_of_ble_eq_true rfl) rfl ((congrFun V.1 2).trans s_2) (by decide) (C_X5_sensesLeft V vr3 vr3.toInt rfl ) ?_
        rintro _ g' ⟨vr17, rfl, hrvr170, hrvr171, hgg⟩
        subst hgg
        refine X_iconst (v := (-1 : Int32)) rfl rfl rfl ?_
        refine S_ixorT rfl rfl (fun vz18 => ?_)
        refine S_iandT rfl rfl (fun vz19 => ?_)
        refine S_if_ne (tgt := 29) rfl rfl rfl rfl (fun vh20 => ?_) (fun vh20 => ?_)
        · refine X_iconst (v := (0 : Int32)) rfl rfl rfl ?_
          refine LW_ireturn (st := []) rfl rfl rfl ?_
          refine S_if_ne (tgt := 58) rfl rfl rfl (show (0 : Int32).toInt = 0 from rfl) (fun q => absurd q (by omega)) (fun vh21 => ?_)
          refine X_iconst (v := (-1 : Int32)) rfl rfl rfl ?_
          exact LW_ireturn (st := []) rfl rfl rfl ⟨_, rfl, by decide, by decide, V, hG⟩
        · refine X_iconst (v := (1 : Int32)) rfl rfl rfl ?_
          refine LW_goto (tgt := 30) rfl rfl ?_
          refine LW_ireturn (st := []) rfl rfl rfl ?_
          refine S_if_ne (tgt := 58) rfl rfl rfl (show (1 : Int32).toInt = 1 from rfl) (fun vh22 => ?_) (fun q => absurd q (by omega))
          refine X_aload_n rfl rfl rfl rfl ?_
          refine X_getR (a := 1) rfl rfl rfl ((congrFun V.1 342).trans s_342) rfl ((congrFun (V.2.1 342 (by decide)) 0).trans r_342_0) ?_
          refine X_getR (a := 14) rfl rfl rfl ((congrFun V.1 1).trans s_1) rfl ((congrFun (V.2.1 1 (by decide)) 2).trans r_1_2) ?_
          refine X_aload_n rfl rfl rfl rfl ?_
          refine X_getR (a := 10) rfl rfl rfl ((congrFun V.1 342).trans s_342) rfl ((congrFun (V.2.1 342 (by decide)) 1).trans r_342_1) ?_
          refine Y_callV (as := [.ref 10]) (st := []) rfl rfl rfl (by decide) rfl (Nat.le_of_ble_eq_true rfl) (by decide) (Nat.le_of_ble_eq_true rfl) rfl ((congrFun V.1 14).trans s_14) (by decide) (C_X3_keep_14_10 V  ) ?_
          rintro _ g ⟨rfl, V, hq⟩
          have hG := hq.trans hG
          refine X_aload_n rfl rfl rfl rfl ?_
          refine X_getR (a := 137) rfl rfl rfl ((congrFun V.1 136).trans s_136) rfl ((congrFun (V.2.1 136 (by decide)) 0).trans r_136_0) ?_
          refine X_iload rfl rfl rfl ?_
          refine X_iload_n rfl rfl rfl rfl ?_
          refine S_iast (I := Inv _) rfl rfl ((congrFun V.1 137).trans s_137) rfl (by omega) (Inv_putI V (Nat.le_of_ble_eq_true rfl) (Or.inl (by decide)) (Q_0 rk_137)) (fun g V ve24 vn25 hq => ?_)
          have hG := hq.trans hG
          refine X_aload_n rfl rfl rfl rfl ?_
          refine X_getR (a := 138) rfl rfl rfl ((congrFun V.1 136).trans s_136) rfl ((congrFun (V.2.1 136 (by decide)) 1).trans r_136_1) ?_
          refine X_iload rfl rfl rfl ?_
          refine X_aload_n rfl rfl rfl rfl ?_
          refine X_getR (a := 10) rfl rfl rfl ((congrFun V.1 342).trans s_342) rfl ((congrFun (V.2.1 342 (by decide)) 1).trans r_342_1) ?_
          refine S_getI rfl rfl rfl ((congrFun V.1 10).trans s_10) rfl (fun vz26 evz26 => ?_)
          refine S_iast (I := Inv _) rfl rfl ((congrFun V.1 138).trans s_138) rfl (by omega) (Inv_putI V (Nat.le_of_ble_eq_true rfl) (Or.inl (by decide)) (Q_0 rk_138)) (fun g V ve27 vn28 hq => ?_)
          have hG := hq.trans hG
          have evz26 := (vn28 (10) 1 (Or.inl (by decide))).trans evz26
          refine X_aload_n rfl rfl rfl rfl ?_
          refine X_getR (a := 139) rfl rfl rfl ((congrFun V.1 136).trans s_136) rfl ((congrFun (V.2.1 136 (by decide)) 2).trans r_136_2) ?_
          refine X_iload rfl rfl rfl ?_
          refine X_aload_n rfl rfl rfl rfl ?_
          refine X_getR (a := 7) rfl rfl rfl ((congrFun V.1 2).trans s_2) rfl ((congrFun (V.2.1 2 (by decide)) 6).trans r_2_6) ?_
          refine X_iload_n rfl rfl rfl rfl ?_
          refine S_iald rfl rfl ((congrFun V.1 7).trans s_7) hx1 (by omega) (fun vz29 evz29 => ?_)
          have vf30 := K_1 (V.2.2.2.2.1 (7) ((y1 : Int).toNat) (Nat.le_of_ble_eq_true rfl)) rk_7
          rw [evz29] at vf30
          refine S_iast (I := Inv _) rfl rfl ((congrFun V.1 139).trans s_139) rfl (by omega) (Inv_putI V (Nat.le_of_ble_eq_true rfl) (Or.inl (by decide)) (Q_1 rk_139 (by omega))) (fun g V ve31 vn32 hq => ?_)
          have hG := hq.trans hG
          have evz26 := (vn32 (10) 1 (Or.inl (by decide))).trans evz26
          have evz29 := (vn32 (7) ((y1 : Int).toNat) (Or.inl (by decide))).trans evz29
          refine X_iconst (v := (0 : Int32)) rfl rfl rfl ?_
          refine X_istore (i := 6) (ls' := [some (.ref 342), some (.int x1), some (.ref 2), some (.ref 136), some (.int vz1), some (.int vr3), some (.int (0 : Int32))]) rfl rfl (Nat.le_of_ble_eq_true rfl) rfl ?_
          exact (C_X1_conclude_all (((8 - 0) * 1 + 0) + 1 : Int).toNat) _ V hG x1 y1 hx1 (by omega) vz1 vz1.toInt rfl (by omega) vr3 vr3.toInt rfl (0 : Int32) 0 (show (0 : Int32).toInt = 0 from rfl) (by omega)    (by omega)
set_option maxRecDepth 10000 in
set_option maxHeartbeats 40000000 in
theorem C_X12_contract {P : Par} {g : LH} {d : Nat}  (V : Inv P g) (x1 : Int32) (y1 : Int) (hx1 : x1.toInt = y1)   : LW 139 (d + 19) 0 0 0 (lEnt (mL 139) [.ref 0, .int x1]) [] g (fun v g' => ∃ r : Int32, v = some (.int r) ∧ (-1) ≤ r.toInt ∧ r.toInt ≤ 9 ∧ Inv P g' ∧ Gr g' = Gr g) := by
  refine LW_ls (ls' := [some (.ref 0), some (.int x1)]) rfl ?_
  have hG : Gr g = Gr g := rfl
  refine X_aload_n rfl rfl rfl rfl ?_
  refine X_getR (a := 342) rfl rfl rfl ((congrFun V.1 0).trans s_0) rfl ((congrFun (V.2.1 0 (by decide)) 6).trans r_0_6) ?_
  refine X_iload_n rfl rfl rfl rfl ?_
  refine Y_callV (as := [.int x1]) (st := []) rfl rfl rfl (by decide) rfl (Nat.le_of_ble_eq_true rfl) (by decide) (Nat.le_of_ble_eq_true rfl) rfl ((congrFun V.1 342).trans s_342) (by decide) (C_X1_conclude V x1 y1 hx1 ) ?_
  rintro _ g ⟨vr1, rfl, hrvr10, hrvr11, V, hq⟩
  have hG := hq.trans hG
  have hr := (rfl : vr1.toInt = vr1.toInt)
  exact LW_ireturn (st := []) rfl rfl rfl ⟨_, rfl, by omega, by omega, V, hG⟩
set_option maxRecDepth 10000 in
set_option maxHeartbeats 40000000 in
theorem C_X1_raiseAll_5 {P : Par} {g g0 : LH} {d n : Nat}  (V : Inv P g) (hG : Gr g = Gr g0) (x1 : Int32) (y1 : Int) (hx1 : x1.toInt = y1) (x2 : Int32) (y2 : Int) (hx2 : x2.toInt = y2) (x3 : Int32) (y3 : Int) (hx3 : x3.toInt = y3) (hf3 : 0 ≤ y3 ∧ y3 ≤ 1) (x4 : Int32) (y4 : Int) (hx4 : x4.toInt = y4) (hf4 : 0 ≤ y4 ∧ y4 ≤ 26)  (hmu : (26 - y4) * 1 + 0 < (n : Int) + 1) (ih5 : ∀ (g : LH) (V : Inv P g) (hG : Gr g = Gr g0) (x1 : Int32) (y1 : Int) (hx1 : x1.toInt = y1) (x2 : Int32) (y2 : Int) (hx2 : x2.toInt = y2) (x3 : Int32) (y3 : Int) (hx3 : x3.toInt = y3) (hf3 : 0 ≤ y3 ∧ y3 ≤ 1) (x4 : Int32) (y4 : Int) (hx4 : x4.toInt = y4) (hf4 : 0 ≤ y4 ∧ y4 ≤ 26) , (26 - y4) * 1 + 0 < (n : Int) → LW 17 (d + 13) 0 0 5 [some (.ref 342), some (.int x1), some (.int x2), some (.int x3), some (.int x4)] [] g (fun v g' => ∃ r : Int32, v = some (.int r) ∧ 0 ≤ r.toInt ∧ r.toInt ≤ 1 ∧ Inv P g' ∧ Gr g' = Gr g0)) : LW 17 (d + 13) 0 0 5 [some (.ref 342), some (.int x1), some (.int x2), some (.int x3), some (.int x4)] [] g (fun v g' => ∃ r : Int32, v = some (.int r) ∧ 0 ≤ r.toInt ∧ r.toInt ≤ 1 ∧ Inv P g' ∧ Gr g' = Gr g0) := by
  refine X_iload rfl rfl rfl ?_
  refine X_bipush (v := (26 : Int32)) rfl rfl rfl ?_
  refine S_icmp_ge (tgt := 53) rfl rfl rfl hx4 (show (26 : Int32).toInt = 26 from rfl) (fun vh1 => ?_) (fun vh1 => ?_)
  · refine X_iload_n rfl rfl rfl rfl ?_
    have hr := hx3
    exact LW_ireturn (st := []) rfl rfl (nbool hx3 (by omega)) ⟨_, rfl, by omega, by omega, V, hG⟩
  · refine X_iload_n rfl rfl rfl rfl ?_
    refine X_iload rfl rfl rfl ?_
    refine S_ishrT rfl rfl (fun vz2 => ?_)
    refine X_iconst (v := (1 : Int32)) rfl rfl rfl ?_
    refine S_iandR (k := 1) rfl rfl rfl (fun vz3 hvz3 => ?_)
    refine S_if_eq (tgt := 47) rfl rfl rfl rfl (fun vh4 => ?_) (fun vh4 => ?_)
    · refine S_iinc (c := 1) rfl rfl rfl hx4 rfl (by omega) (fun vz5 hvz5 => ?_)
      refine LW_ls (ls' := [some (.ref 342), some (.int x1), some (.int x2), some (.int x3), some (.int vz5)]) rfl ?_
      refine LW_goto (tgt := 5) rfl rfl ?_
      exact ih5 _ V hG x1 y1 hx1 x2 y2 hx2 x3 y3 hx3 (by omega) vz5 vz5.toInt rfl (by omega)    (by omega)
    · refine X_iload_n rfl rfl rfl rfl ?_
      refine X_aload_n rfl rfl rfl rfl ?_
      refine X_iload rfl rfl rfl ?_
      refine X_bipush (v := (99 : Int32)) rfl rfl rfl ?_
      refine X_aload_n rfl rfl rfl rfl ?_
      refine X_getR (a := 10) rfl rfl rfl ((congrFun V.1 342).trans s_342) rfl ((congrFun (V.2.1 342 (by decide)) 1).trans r_342_1) ?_
      refine X_getR (a := 11) rfl rfl rfl ((congrFun V.1 10).trans s_10) rfl ((congrFun (V.2.1 10 (by decide)) 4).trans r_10_4) ?_
      refine X_iload rfl rfl rfl ?_
      refine S_iald rfl rfl ((congrFun V.1 11).trans s_11) hx4 (by omega) (fun vz6 evz6 => ?_)
      refine X_iload_n rfl rfl rfl rfl ?_
      refine S_iaddT rfl rfl (fun vz7 => ?_)
      refine S_min rfl rfl rfl (Nat.le_of_ble_eq_true rfl) (show (99 : Int32).toInt = 99 from rfl) rfl (fun vz8 hvz8 => ?_)
      refine Y_callV (as := [.int x4, .int vz8]) (st := [.int x3]) rfl rfl rfl (by decide) rfl (Nat.le_of_ble_eq_true rfl) (by decide) (Nat.le_of_ble_eq_true rfl) rfl ((congrFun V.1 342).trans s_342) (by decide) (C_X1_setWage V x4 y4 hx4 (by omega) vz8 vz8.toInt rfl (by omega) ) ?_
      rintro _ g ⟨vr9, rfl, hrvr90, hrvr91, V, hq⟩
      have hG := hq.trans hG
      refine S_ior (n := 1) rfl rfl hx3 rfl (by omega) (by omega) (fun vz10 hvz10 => ?_)
      refine X_istore_n (i := 3) (ls' := [some (.ref 342), some (.int x1), some (.int x2), some (.int vz10), some (.int x4)]) rfl rfl rfl (Nat.le_of_ble_eq_true rfl) rfl ?_
      refine S_iinc (c := 1) rfl rfl rfl hx4 rfl (by omega) (fun vz11 hvz11 => ?_)
      refine LW_ls (ls' := [some (.ref 342), some (.int x1), some (.int x2), some (.int vz10), some (.int vz11)]) rfl ?_
      refine LW_goto (tgt := 5) rfl rfl ?_
      exact ih5 _ V hG x1 y1 hx1 x2 y2 hx2 vz10 vz10.toInt rfl (by omega) vz11 vz11.toInt rfl (by omega)    (by omega)
theorem C_X1_raiseAll_all {P : Par} {g0 : LH} {d : Nat}  : ∀ n : Nat, (∀ (g : LH) (V : Inv P g) (hG : Gr g = Gr g0) (x1 : Int32) (y1 : Int) (hx1 : x1.toInt = y1) (x2 : Int32) (y2 : Int) (hx2 : x2.toInt = y2) (x3 : Int32) (y3 : Int) (hx3 : x3.toInt = y3) (hf3 : 0 ≤ y3 ∧ y3 ≤ 1) (x4 : Int32) (y4 : Int) (hx4 : x4.toInt = y4) (hf4 : 0 ≤ y4 ∧ y4 ≤ 26) , (26 - y4) * 1 + 0 < (n : Int) → LW 17 (d + 13) 0 0 5 [some (.ref 342), some (.int x1), some (.int x2), some (.int x3), some (.int x4)] [] g (fun v g' => ∃ r : Int32, v = some (.int r) ∧ 0 ≤ r.toInt ∧ r.toInt ≤ 1 ∧ Inv P g' ∧ Gr g' = Gr g0)) := by
  intro n
  induction n with
  | zero => exact fun g V hG x1 y1 hx1 x2 y2 hx2 x3 y3 hx3 hf3 x4 y4 hx4 hf4 hmu => absurd hmu (by omega)
  | succ n ih => exact fun g V hG x1 y1 hx1 x2 y2 hx2 x3 y3 hx3 hf3 x4 y4 hx4 hf4 hmu => C_X1_raiseAll_5  V hG x1 y1 hx1 x2 y2 hx2 x3 y3 hx3 hf3 x4 y4 hx4 hf4 (by omega) ih
set_option maxRecDepth 10000 in
set_option maxHeartbeats 40000000 in
theorem C_X1_raiseAll {P : Par} {g : LH} {d : Nat}  (V : Inv P g) (x1 : Int32) (y1 : Int) (hx1 : x1.toInt = y1) (x2 : Int32) (y2 : Int) (hx2 : x2.toInt = y2)   : LW 17 (d + 13) 0 0 0 (lEnt (mL 17) [.ref 342, .int x1, .int x2]) [] g (fun v g' => ∃ r : Int32, v = some (.int r) ∧ 0 ≤ r.toInt ∧ r.toInt ≤ 1 ∧ Inv P g' ∧ Gr g' = Gr g) := by
  refine LW_ls (ls' := [some (.ref 342), some (.int x1), some (.int x2), none, none]) rfl ?_
  have hG : Gr g = Gr g := rfl
  refine X_iconst (v := (0 : Int32)) rfl rfl rfl ?_
  refine X_istore_n (i := 3) (ls' := [some (.ref 342), some (.int x1), some (.int x2), some (.int (0 : Int32)), none]) rfl rfl rfl (Nat.le_of_ble_eq_true rfl) rfl ?_
  refine X_iconst (v := (0 : Int32)) rfl rfl rfl ?_
  refine X_istore (i := 4) (ls' := [some (.ref 342), some (.int x1), some (.int x2), some (.int (0 : Int32)), some (.int (0 : Int32))]) rfl rfl (Nat.le_of_ble_eq_true rfl) rfl ?_
  exact (C_X1_raiseAll_all (((26 - 0) * 1 + 0) + 1 : Int).toNat) _ V hG x1 y1 hx1 x2 y2 hx2 (0 : Int32) 0 (show (0 : Int32).toInt = 0 from rfl) (by omega) (0 : Int32) 0 (show (0 : Int32).toInt = 0 from rfl) (by omega)    (by omega)
set_option maxRecDepth 10000 in
set_option maxHeartbeats 40000000 in
theorem C_X1_signAll_5 {P : Par} {g g0 : LH} {d n : Nat}  (V : Inv P g) (hG : Gr g = Gr g0) (x1 : Int32) (y1 : Int) (hx1 : x1.toInt = y1) (x2 : Int32) (y2 : Int) (hx2 : x2.toInt = y2) (x3 : Int32) (y3 : Int) (hx3 : x3.toInt = y3) (hf3 : 0 ≤ y3 ∧ y3 ≤ 1) (x4 : Int32) (y4 : Int) (hx4 : x4.toInt = y4) (hf4 : 0 ≤ y4 ∧ y4 ≤ 26)  (hmu : (26 - y4) * 1 + 0 < (n : Int) + 1) (ih5 : ∀ (g : LH) (V : Inv P g) (hG : Gr g = Gr g0) (x1 : Int32) (y1 : Int) (hx1 : x1.toInt = y1) (x2 : Int32) (y2 : Int) (hx2 : x2.toInt = y2) (x3 : Int32) (y3 : Int) (hx3 : x3.toInt = y3) (hf3 : 0 ≤ y3 ∧ y3 ≤ 1) (x4 : Int32) (y4 : Int) (hx4 : x4.toInt = y4) (hf4 : 0 ≤ y4 ∧ y4 ≤ 26) , (26 - y4) * 1 + 0 < (n : Int) → LW 18 (d + 13) 0 0 5 [some (.ref 342), some (.int x1), some (.int x2), some (.int x3), some (.int x4)] [] g (fun v g' => ∃ r : Int32, v = some (.int r) ∧ 0 ≤ r.toInt ∧ r.toInt ≤ 1 ∧ Inv P g' ∧ Gr g' = Gr g0)) : LW 18 (d + 13) 0 0 5 [some (.ref 342), some (.int x1), some (.int x2), some (.int x3), some (.int x4)] [] g (fun v g' => ∃ r : Int32, v = some (.int r) ∧ 0 ≤ r.toInt ∧ r.toInt ≤ 1 ∧ Inv P g' ∧ Gr g' = Gr g0) := by
  refine X_iload rfl rfl rfl ?_
  refine X_bipush (v := (26 : Int32)) rfl rfl rfl ?_
  refine S_icmp_ge (tgt := 37) rfl rfl rfl hx4 (show (26 : Int32).toInt = 26 from rfl) (fun vh1 => ?_) (fun vh1 => ?_)
  · refine X_iload_n rfl rfl rfl rfl ?_
    have hr := hx3
    exact LW_ireturn (st := []) rfl rfl (nbool hx3 (by omega)) ⟨_, rfl, by omega, by omega, V, hG⟩
  · refine X_iload_n rfl rfl rfl rfl ?_
    refine X_iload rfl rfl rfl ?_
    refine S_ishrT rfl rfl (fun vz2 => ?_)
    refine X_iconst (v := (1 : Int32)) rfl rfl rfl ?_
    refine S_iandR (k := 1) rfl rfl rfl (fun vz3 hvz3 => ?_)
    refine S_if_eq (tgt := 31) rfl rfl rfl rfl (fun vh4 => ?_) (fun vh4 => ?_)
    · refine S_iinc (c := 1) rfl rfl rfl hx4 rfl (by omega) (fun vz5 hvz5 => ?_)
      refine LW_ls (ls' := [some (.ref 342), some (.int x1), some (.int x2), some (.int x3), some (.int vz5)]) rfl ?_
      refine LW_goto (tgt := 5) rfl rfl ?_
      exact ih5 _ V hG x1 y1 hx1 x2 y2 hx2 x3 y3 hx3 (by omega) vz5 vz5.toInt rfl (by omega)    (by omega)
    · refine X_iload_n rfl rfl rfl rfl ?_
      refine X_aload_n rfl rfl rfl rfl ?_
      refine X_iload rfl rfl rfl ?_
      refine X_iload_n rfl rfl rfl rfl ?_
      refine Y_callV (as := [.int x4, .int x2]) (st := [.int x3]) rfl rfl rfl (by decide) rfl (Nat.le_of_ble_eq_true rfl) (by decide) (Nat.le_of_ble_eq_true rfl) rfl ((congrFun V.1 342).trans s_342) (by decide) (C_X1_putSign V x4 y4 hx4 (by omega) x2 y2 hx2 ) ?_
      rintro _ g ⟨vr6, rfl, hrvr60, hrvr61, V, hq⟩
      have hG := hq.trans hG
      refine S_ior (n := 1) rfl rfl hx3 rfl (by omega) (by omega) (fun vz7 hvz7 => ?_)
      refine X_istore_n (i := 3) (ls' := [some (.ref 342), some (.int x1), some (.int x2), some (.int vz7), some (.int x4)]) rfl rfl rfl (Nat.le_of_ble_eq_true rfl) rfl ?_
      refine S_iinc (c := 1) rfl rfl rfl hx4 rfl (by omega) (fun vz8 hvz8 => ?_)
      refine LW_ls (ls' := [some (.ref 342), some (.int x1), some (.int x2), some (.int vz7), some (.int vz8)]) rfl ?_
      refine LW_goto (tgt := 5) rfl rfl ?_
      exact ih5 _ V hG x1 y1 hx1 x2 y2 hx2 vz7 vz7.toInt rfl (by omega) vz8 vz8.toInt rfl (by omega)    (by omega)
theorem C_X1_signAll_all {P : Par} {g0 : LH} {d : Nat}  : ∀ n : Nat, (∀ (g : LH) (V : Inv P g) (hG : Gr g = Gr g0) (x1 : Int32) (y1 : Int) (hx1 : x1.toInt = y1) (x2 : Int32) (y2 : Int) (hx2 : x2.toInt = y2) (x3 : Int32) (y3 : Int) (hx3 : x3.toInt = y3) (hf3 : 0 ≤ y3 ∧ y3 ≤ 1) (x4 : Int32) (y4 : Int) (hx4 : x4.toInt = y4) (hf4 : 0 ≤ y4 ∧ y4 ≤ 26) , (26 - y4) * 1 + 0 < (n : Int) → LW 18 (d + 13) 0 0 5 [some (.ref 342), some (.int x1), some (.int x2), some (.int x3), some (.int x4)] [] g (fun v g' => ∃ r : Int32, v = some (.int r) ∧ 0 ≤ r.toInt ∧ r.toInt ≤ 1 ∧ Inv P g' ∧ Gr g' = Gr g0)) := by
  intro n
  induction n with
  | zero => exact fun g V hG x1 y1 hx1 x2 y2 hx2 x3 y3 hx3 hf3 x4 y4 hx4 hf4 hmu => absurd hmu (by omega)
  | succ n ih => exact fun g V hG x1 y1 hx1 x2 y2 hx2 x3 y3 hx3 hf3 x4 y4 hx4 hf4 hmu => C_X1_signAll_5  V hG x1 y1 hx1 x2 y2 hx2 x3 y3 hx3 hf3 x4 y4 hx4 hf4 (by omega) ih
set_option maxRecDepth 10000 in
set_option maxHeartbeats 40000000 in
theorem C_X1_signAll {P : Par} {g : LH} {d : Nat}  (V : Inv P g) (x1 : Int32) (y1 : Int) (hx1 : x1.toInt = y1) (x2 : Int32) (y2 : Int) (hx2 : x2.toInt = y2)   : LW 18 (d + 13) 0 0 0 (lEnt (mL 18) [.ref 342, .int x1, .int x2]) [] g (fun v g' => ∃ r : Int32, v = some (.int r) ∧ 0 ≤ r.toInt ∧ r.toInt ≤ 1 ∧ Inv P g' ∧ Gr g' = Gr g) := by
  refine LW_ls (ls' := [some (.ref 342), some (.int x1), some (.int x2), none, none]) rfl ?_
  have hG : Gr g = Gr g := rfl
  refine X_iconst (v := (0 : Int32)) rfl rfl rfl ?_
  refine X_istore_n (i := 3) (ls' := [some (.ref 342), some (.int x1), some (.int x2), some (.int (0 : Int32)), none]) rfl rfl rfl (Nat.le_of_ble_eq_true rfl) rfl ?_
  refine X_iconst (v := (0 : Int32)) rfl rfl rfl ?_
  refine X_istore (i := 4) (ls' := [some (.ref 342), some (.int x1), some (.int x2), some (.int (0 : Int32)), some (.int (0 : Int32))]) rfl rfl (Nat.le_of_ble_eq_true rfl) rfl ?_
  exact (C_X1_signAll_all (((26 - 0) * 1 + 0) + 1 : Int).toNat) _ V hG x1 y1 hx1 x2 y2 hx2 (0 : Int32) 0 (show (0 : Int32).toInt = 0 from rfl) (by omega) (0 : Int32) 0 (show (0 : Int32).toInt = 0 from rfl) (by omega)    (by omega)
set_option maxRecDepth 10000 in
set_option maxHeartbeats 40000000 in
theorem C_X5_isTold_2_Tt6_3 {P : Par} {g : LH} {d n : Nat}  {u : Nat} (hu : u < 4) (V : Inv P g) (x2 : Int32) (y2 : Int) (hx2 : x2.toInt = y2) (hf2 : 0 ≤ y2 ∧ y2 ≤ 184) (x3 : Int32) (y3 : Int) (hx3 : x3.toInt = y3) (hf3 : 1 ≤ y3 ∧ y3 ≤ 8) (x4 : Int32) (y4 : Int) (hx4 : x4.toInt = y4) (hf4 : 0 ≤ y4 ∧ y4 ≤ 24) (o5 : Option Value) (o6 : Option Value)  (hmu : (24 - y4) * 12 + 11 < (n : Int) + 1) (ih3 : ∀ {u : Nat} (hu : u < 4) (V : Inv P g) (x2 : Int32) (y2 : Int) (hx2 : x2.toInt = y2) (hf2 : 0 ≤ y2 ∧ y2 ≤ 184) (x3 : Int32) (y3 : Int) (hx3 : x3.toInt = y3) (hf3 : 1 ≤ y3 ∧ y3 ≤ 8) (x4 : Int32) (y4 : Int) (hx4 : x4.toInt = y4) (hf4 : 0 ≤ y4 ∧ y4 ≤ 24) (o5 : Option Value) (o6 : Option Value) , (24 - y4) * 12 + 11 < (n : Int) → LW 45 (d + 5) 0 0 3 [some (.ref 2), some (.ref (298 + 10 * u)), some (.int x2), some (.int x3), some (.int x4), o5, o6] [] g (fun v g' => ∃ r : Int32, v = some (.int r) ∧ 0 ≤ r.toInt ∧ r.toInt ≤ 1 ∧ g = g')) (ih18 : ∀ {u : Nat} (hu : u < 4) (V : Inv P g) (x2 : Int32) (y2 : Int) (hx2 : x2.toInt = y2) (hf2 : 0 ≤ y2 ∧ y2 ≤ 184) (x3 : Int32) (y3 : Int) (hx3 : x3.toInt = y3) (hf3 : 1 ≤ y3 ∧ y3 ≤ 8) (x4 : Int32) (y4 : Int) (hx4 : x4.toInt = y4) (hf4 : 0 ≤ y4 ∧ y4 ≤ 23) (x5 : Int32) (y5 : Int) (hx5 : x5.toInt = y5) (x6 : Int32) (y6 : Int) (hx6 : x6.toInt = y6) (hf6 : 0 ≤ y6 ∧ y6 ≤ 8) (hc2_0 : 1 ≤ (Gi g 2 0).toInt ∧ (Gi g 2 0).toInt ≤ 24), (24 - y4) * 12 + 0 + (8 - y6) * 1 + 0 < (n : Int) → LW 45 (d + 5) 0 0 18 [some (.ref 2), some (.ref (298 + 10 * u)), some (.int x2), some (.int x3), some (.int x4), some (.int x5), some (.int x6)] [] g (fun v g' => ∃ r : Int32, v = some (.int r) ∧ 0 ≤ r.toInt ∧ r.toInt ≤ 1 ∧ g = g')) : LW 45 (d + 5) 0 0 3 [some (.ref 2), some (.ref (298 + 10 * u)), some (.int x2), some (.int x3), some (.int x4), o5, o6] [] g (fun v g' => ∃ r : Int32, v = some (.int r) ∧ 0 ≤ r.toInt ∧ r.toInt ≤ 1 ∧ g = g') := by
  refine X_iload rfl rfl rfl ?_
  refine X_aload_n rfl rfl rfl rfl ?_
  refine S_getI rfl rfl rfl ((congrFun V.1 2).trans s_2) rfl (fun vz1 evz1 => ?_)
  have vf2 := K_10_0 (V.2.2.2.2.1 (2) (0) (Nat.le_of_ble_eq_true rfl)) rk_2
  rw [evz1] at vf2
  refine S_icmp_ge (tgt := 91) rfl rfl rfl hx4 rfl (fun vh3 => ?_) (fun vh3 => ?_)
  · refine X_iconst (v := (0 : Int32)) rfl rfl rfl ?_
    exact LW_ireturn (st := []) rfl rfl rfl ⟨_, rfl, by decide, by decide, rfl⟩
  · refine X_iconst (v := (0 : Int32)) rfl rfl rfl ?_
    refine X_istore (i := 5) (ls' := [some (.ref 2), some (.ref (298 + 10 * u)), some (.int x2), some (.int x3), some (.int x4), some (.int (0 : Int32)), o6]) rfl rfl (Nat.le_of_ble_eq_true rfl) rfl ?_
    refine X_iconst (v := (0 : Int32)) rfl rfl rfl ?_
    refine X_istore (i := 6) (ls' := [some (.ref 2), some (.ref (298 + 10 * u)), some (.int x2), some (.int x3), some (.int x4), some (.int (0 : Int32)), some (.int (0 : Int32))]) rfl rfl (Nat.le_of_ble_eq_true rfl) rfl ?_
    exact ih18 hu V x2 y2 hx2 (by omega) x3 y3 hx3 (by omega) x4 y4 hx4 (by omega) (0 : Int32) 0 (show (0 : Int32).toInt = 0 from rfl) (0 : Int32) 0 (show (0 : Int32).toInt = 0 from rfl) (by omega) (by rw [evz1]; omega)   (by omega)
set_option maxRecDepth 10000 in
set_option maxHeartbeats 40000000 in
theorem C_X5_isTold_2_Tt6_18 {P : Par} {g : LH} {d n : Nat}  {u : Nat} (hu : u < 4) (V : Inv P g) (x2 : Int32) (y2 : Int) (hx2 : x2.toInt = y2) (hf2 : 0 ≤ y2 ∧ y2 ≤ 184) (x3 : Int32) (y3 : Int) (hx3 : x3.toInt = y3) (hf3 : 1 ≤ y3 ∧ y3 ≤ 8) (x4 : Int32) (y4 : Int) (hx4 : x4.toInt = y4) (hf4 : 0 ≤ y4 ∧ y4 ≤ 23) (x5 : Int32) (y5 : Int) (hx5 : x5.toInt = y5) (x6 : Int32) (y6 : Int) (hx6 : x6.toInt = y6) (hf6 : 0 ≤ y6 ∧ y6 ≤ 8) (hc2_0 : 1 ≤ (Gi g 2 0).toInt ∧ (Gi g 2 0).toInt ≤ 24) (hmu : (24 - y4) * 12 + 0 + (8 - y6) * 1 + 0 < (n : Int) + 1) (ih3 : ∀ {u : Nat} (hu : u < 4) (V : Inv P g) (x2 : Int32) (y2 : Int) (hx2 : x2.toInt = y2) (hf2 : 0 ≤ y2 ∧ y2 ≤ 184) (x3 : Int32) (y3 : Int) (hx3 : x3.toInt = y3) (hf3 : 1 ≤ y3 ∧ y3 ≤ 8) (x4 : Int32) (y4 : Int) (hx4 : x4.toInt = y4) (hf4 : 0 ≤ y4 ∧ y4 ≤ 24) (o5 : Option Value) (o6 : Option Value) , (24 - y4) * 12 + 11 < (n : Int) → LW 45 (d + 5) 0 0 3 [some (.ref 2), some (.ref (298 + 10 * u)), some (.int x2), some (.int x3), some (.int x4), o5, o6] [] g (fun v g' => ∃ r : Int32, v = some (.int r) ∧ 0 ≤ r.toInt ∧ r.toInt ≤ 1 ∧ g = g')) (ih18 : ∀ {u : Nat} (hu : u < 4) (V : Inv P g) (x2 : Int32) (y2 : Int) (hx2 : x2.toInt = y2) (hf2 : 0 ≤ y2 ∧ y2 ≤ 184) (x3 : Int32) (y3 : Int) (hx3 : x3.toInt = y3) (hf3 : 1 ≤ y3 ∧ y3 ≤ 8) (x4 : Int32) (y4 : Int) (hx4 : x4.toInt = y4) (hf4 : 0 ≤ y4 ∧ y4 ≤ 23) (x5 : Int32) (y5 : Int) (hx5 : x5.toInt = y5) (x6 : Int32) (y6 : Int) (hx6 : x6.toInt = y6) (hf6 : 0 ≤ y6 ∧ y6 ≤ 8) (hc2_0 : 1 ≤ (Gi g 2 0).toInt ∧ (Gi g 2 0).toInt ≤ 24), (24 - y4) * 12 + 0 + (8 - y6) * 1 + 0 < (n : Int) → LW 45 (d + 5) 0 0 18 [some (.ref 2), some (.ref (298 + 10 * u)), some (.int x2), some (.int x3), some (.int x4), some (.int x5), some (.int x6)] [] g (fun v g' => ∃ r : Int32, v = some (.int r) ∧ 0 ≤ r.toInt ∧ r.toInt ≤ 1 ∧ g = g')) : LW 45 (d + 5) 0 0 18 [some (.ref 2), some (.ref (298 + 10 * u)), some (.int x2), some (.int x3), some (.int x4), some (.int x5), some (.int x6)] [] g (fun v g' => ∃ r : Int32, v = some (.int r) ∧ 0 ≤ r.toInt ∧ r.toInt ≤ 1 ∧ g = g') := by
  obtain ⟨vz1, evz1⟩ : ∃ z, Gi g 2 0 = z := ⟨_, rfl⟩
  rw [evz1] at hc2_0
  refine X_iload rfl rfl rfl ?_
  refine X_iload_n rfl rfl rfl rfl ?_
  refine S_icmp_ge (tgt := 66) rfl rfl rfl hx6 hx3 (fun vh2 => ?_) (fun vh2 => ?_)
  · refine X_iload rfl rfl rfl ?_
    refine X_iload_n rfl rfl rfl rfl ?_
    refine S_icmp_ne (tgt := 85) rfl rfl rfl hx5 hx3 (fun vh3 => ?_) (fun vh3 => ?_)
    · refine S_iinc (c := 1) rfl rfl rfl hx4 rfl (by omega) (fun vz4 hvz4 => ?_)
      refine LW_ls (ls' := [some (.ref 2), some (.ref (298 + 10 * u)), some (.int x2), some (.int x3), some (.int vz4), some (.int x5), some (.int x6)]) rfl ?_
      refine LW_goto (tgt := 3) rfl rfl ?_
      exact ih3 hu V x2 y2 hx2 (by omega) x3 y3 hx3 (by omega) vz4 vz4.toInt rfl (by omega) (some (.int x5)) (some (.int x6))    (by omega)
    · refine X_aload_n rfl rfl rfl rfl ?_
      refine X_getR (a := 3) rfl rfl rfl ((congrFun V.1 2).trans s_2) rfl ((congrFun (V.2.1 2 (by decide)) 2).trans r_2_2) ?_
      refine X_iload rfl rfl rfl ?_
      refine S_iald rfl rfl ((congrFun V.1 3).trans s_3) hx4 (by omega) (fun vz5 evz5 => ?_)
      have vf6 := K_1 (V.2.2.2.2.1 (3) ((y4 : Int).toNat) (Nat.le_of_ble_eq_true rfl)) rk_3
      rw [evz5] at vf6
      refine X_iload_n rfl rfl rfl rfl ?_
      refine S_icmp_ne (tgt := 85) rfl rfl rfl rfl hx3 (fun vh7 => ?_) (fun vh7 => ?_)
      · refine S_iinc (c := 1) rfl rfl rfl hx4 rfl (by omega) (fun vz8 hvz8 => ?_)
        refine LW_ls (ls' := [some (.ref 2), some (.ref (298 + 10 * u)), some (.int x2), some (.int x3), some (.int vz8), some (.int x5), some (.int x6)]) rfl ?_
        refine LW_goto (tgt := 3) rfl rfl ?_
        exact ih3 hu V x2 y2 hx2 (by omega) x3 y3 hx3 (by omega) vz8 vz8.toInt rfl (by omega) (some (.int x5)) (some (.int x6))    (by omega)
      · refine X_iconst (v := (1 : Int32)) rfl rfl rfl ?_
        exact LW_ireturn (st := []) rfl rfl rfl ⟨_, rfl, by decide, by decide, rfl⟩
  · refine X_iload_n rfl rfl rfl rfl ?_
    refine X_iload rfl rfl rfl ?_
    refine S_iadd rfl rfl hx2 hx6 (by omega) (fun vz9 hvz9 => ?_)
    refine X_aload_n rfl rfl rfl rfl ?_
    refine X_alen (t0 := 0) (v := (192 : Int32)) rfl rfl ((congrFun V.1 _).trans (tx_s6 u hu)) rfl rfl ?_
    refine S_icmp_ge (tgt := 66) rfl rfl rfl rfl (show (192 : Int32).toInt = 192 from rfl) (fun q => absurd q (by omega)) (fun vh10 => ?_)
    refine X_iload rfl rfl rfl ?_
    refine X_aload_n rfl rfl rfl rfl ?_
    refine X_iload rfl rfl rfl ?_
    refine X_iload rfl rfl rfl ?_
    refine X_callV (as := [.int x4, .int x6]) (st := [.int x5]) rfl rfl rfl (by decide) rfl (Nat.le_of_ble_eq_true rfl) (by decide) (Nat.le_of_ble_eq_true rfl) rfl ((congrFun V.1 2).trans s_2) (by decide) ?_
    refine LW_ls (ls' := [some (.ref 2), some (.int x4), some (.int x6)]) rfl ?_
    refine X_aload_n rfl rfl rfl rfl ?_
    refine X_iload_n rfl rfl rfl rfl ?_
    refine X_callV (as := [.int x4]) (st := []) rfl rfl rfl (by decide) rfl (Nat.le_of_ble_eq_true rfl) (by decide) (Nat.le_of_ble_eq_true rfl) rfl ((congrFun V.1 2).trans s_2) (by decide) ?_
    refine LW_ls (ls' := [some (.ref 2), some (.int x4)]) rfl ?_
    refine X_iload_n rfl rfl rfl rfl ?_
    refine S_if_lt (tgt := 22) rfl rfl rfl hx4 (fun q => absurd q (by omega)) (fun vh11 => ?_)
    refine X_iload_n rfl rfl rfl rfl ?_
    refine X_aload_n rfl rfl rfl rfl ?_
    refine X_getI (v := vz1) rfl rfl rfl ((congrFun V.1 2).trans s_2) rfl evz1 ?_
    refine S_icmp_ge (tgt := 22) rfl rfl rfl hx4 rfl (fun vh12 => ?_) (fun vh12 => ?_)
    · refine X_iconst (v := (0 : Int32)) rfl rfl rfl ?_
      refine LW_ireturn (st := []) rfl rfl rfl ?_
      refine S_if_eq (tgt := 36) rfl rfl rfl (show (0 : Int32).toInt = 0 from rfl) (fun vh13 => ?_) (fun q => absurd q (by omega))
      refine X_iconst (v := (-1 : Int32)) rfl rfl rfl ?_
      refine LW_ireturn (st := []) rfl rfl rfl ?_
      refine X_aload_n rfl rfl rfl rfl ?_
      refine X_iload_n rfl rfl rfl rfl ?_
      refine X_iload rfl rfl rfl ?_
      refine S_iadd rfl rfl hx2 hx6 (by omega) (fun vz14 hvz14 => ?_)
      refine S_iald rfl rfl ((congrFun V.1 _).trans (tx_s6 u hu)) rfl (by omega) (fun vz15 evz15 => ?_)
      have vf16 := K_3 (V.2.2.2.2.1 (298 + 10 * u) ((vz14.toInt : Int).toNat) (by omega)) (tx_k6 u hu)
      rw [evz15] at vf16
      refine S_icmp_ne (tgt := 56) rfl rfl rfl (show (-1 : Int32).toInt = -1 from rfl) rfl (fun vh17 => ?_) (fun q => absurd q (by omega))
      refine X_iconst (v := (0 : Int32)) rfl rfl rfl ?_
      refine S_iaddT rfl rfl (fun vz18 => ?_)
      refine X_istore (i := 5) (ls' := [some (.ref 2), some (.ref (298 + 10 * u)), some (.int x2), some (.int x3), some (.int x4), some (.int vz18), some (.int x6)]) rfl rfl (Nat.le_of_ble_eq_true rfl) rfl ?_
      refine S_iinc (c := 1) rfl rfl rfl hx6 rfl (by omega) (fun vz19 hvz19 => ?_)
      refine LW_ls (ls' := [some (.ref 2), some (.ref (298 + 10 * u)), some (.int x2), some (.int x3), some (.int x4), some (.int vz18), some (.int vz19)]) rfl ?_
      refine LW_goto (tgt := 18) rfl rfl ?_
      exact ih18 hu V x2 y2 hx2 (by omega) x3 y3 hx3 (by omega) x4 y4 hx4 (by omega) vz18 vz18.toInt rfl vz19 vz19.toInt rfl (by omega) (by rw [evz1]; omega)   (by omega)
    · refine X_iload_n rfl rfl rfl rfl ?_
      refine X_bipush (v := (24 : Int32)) rfl rfl rfl ?_
      refine S_icmp_ge (tgt := 22) rfl rfl rfl hx4 (show (24 : Int32).toInt = 24 from rfl) (fun q => absurd q (by omega)) (fun vh20 => ?_)
      refine X_iconst (v := (1 : Int32)) rfl rfl rfl ?_
      refine LW_goto (tgt := 23) rfl rfl ?_
      refine LW_ireturn (st := []) rfl rfl rfl ?_
      refine S_if_eq (tgt := 36) rfl rfl rfl (show (1 : Int32).toInt = 1 from rfl) (fun q => absurd q (by omega)) (fun vh21 => ?_)
      refine X_iload_n rfl rfl rfl rfl ?_
      refine S_if_lt (tgt := 36) rfl rfl rfl hx6 (fun q => absurd q (by omega)) (fun vh22 => ?_)
      refine X_iload_n rfl rfl rfl rfl ?_
      refine X_aload_n rfl rfl rfl rfl ?_
      refine X_getR (a := 3) rfl rfl rfl ((congrFun V.1 2).trans s_2) rfl ((congrFun (V.2.1 2 (by decide)) 2).trans r_2_2) ?_
      refine X_iload_n rfl rfl rfl rfl ?_
      refine S_iald rfl rfl ((congrFun V.1 3).trans s_3) hx4 (by omega) (fun vz23 evz23 => ?_)
      have vf24 := K_1 (V.2.2.2.2.1 (3) ((y4 : Int).toNat) (Nat.le_of_ble_eq_true rfl)) rk_3
      rw [evz23] at vf24
      refine S_icmp_ge (tgt := 36) rfl rfl rfl hx6 rfl (fun vh25 => ?_) (fun vh25 => ?_)
      · refine X_iconst (v := (-1 : Int32)) rfl rfl rfl ?_
        refine LW_ireturn (st := []) rfl rfl rfl ?_
        refine X_aload_n rfl rfl rfl rfl ?_
        refine X_iload_n rfl rfl rfl rfl ?_
        refine X_iload rfl rfl rfl ?_
        refine S_iadd rfl rfl hx2 hx6 (by omega) (fun vz26 hvz26 => ?_)
        refine S_iald rfl rfl ((congrFun V.1 _).trans (tx_s6 u hu)) rfl (by omega) (fun vz27 evz27 => ?_)
        have vf28 := K_3 (V.2.2.2.2.1 (298 + 10 * u) ((vz26.toInt : Int).toNat) (by omega)) (tx_k6 u hu)
        rw [evz27] at vf28
        refine S_icmp_ne (tgt := 56) rfl rfl rfl (show (-1 : Int32).toInt = -1 from rfl) rfl (fun vh29 => ?_) (fun q => absurd q (by omega))
        refine X_iconst (v := (0 : Int32)) rfl rfl rfl ?_
        refine S_iaddT rfl rfl (fun vz30 => ?_)
        refine X_istore (i := 5) (ls' := [some (.ref 2), some (.ref (298 + 10 * u)), some (.int x2), some (.int x3), some (.int x4), some (.int vz30), some (.int x6)]) rfl rfl (Nat.le_of_ble_eq_true rfl) rfl ?_
        refine S_iinc (c := 1) rfl rfl rfl hx6 rfl (by omega) (fun vz31 hvz31 => ?_)
        refine LW_ls (ls' := [some (.ref 2), some (.ref (298 + 10 * u)), some (.int x2), some (.int x3), some (.int x4), some (.int vz30), some (.int vz31)]) rfl ?_
        refine LW_goto (tgt := 18) rfl rfl ?_
        exact ih18 hu V x2 y2 hx2 (by omega) x3 y3 hx3 (by omega) x4 y4 hx4 (by omega) vz30 vz30.toInt rfl vz31 vz31.toInt rfl (by omega) (by rw [evz1]; omega)   (by omega)
      · refine X_aload_n rfl rfl rfl rfl ?_
        refine X_getR (a := 6) rfl rfl rfl ((congrFun V.1 2).trans s_2) rfl ((congrFun (V.2.1 2 (by decide)) 5).trans r_2_5) ?_
        refine X_iload_n rfl rfl rfl rfl ?_
        refine X_bipush (v := (8 : Int32)) rfl rfl rfl ?_
        refine S_imul rfl rfl hx4 (show (8 : Int32).toInt = 8 from rfl) (by omega) (fun vz32 hvz32 => ?_)
        refine X_iload_n rfl rfl rfl rfl ?_
        refine S_iadd rfl rfl rfl hx6 (by omega) (fun vz33 hvz33 => ?_)
        refine S_iald rfl rfl ((congrFun V.1 6).trans s_6) rfl (by omega) (fun vz34 evz34 => ?_)
        have vf35 := K_3 (V.2.2.2.2.1 (6) ((vz33.toInt : Int).toNat) (Nat.le_of_ble_eq_true rfl)) rk_6
        rw [evz34] at vf35
        refine LW_goto (tgt := 37) rfl rfl ?_
        refine LW_ireturn (st := []) rfl rfl rfl ?_
        refine X_aload_n rfl rfl rfl rfl ?_
        refine X_iload_n rfl rfl rfl rfl ?_
        refine X_iload rfl rfl rfl ?_
        refine S_iadd rfl rfl hx2 hx6 (by omega) (fun vz36 hvz36 => ?_)
        refine S_iald rfl rfl ((congrFun V.1 _).trans (tx_s6 u hu)) rfl (by omega) (fun vz37 evz37 => ?_)
        have vf38 := K_3 (V.2.2.2.2.1 (298 + 10 * u) ((vz36.toInt : Int).toNat) (by omega)) (tx_k6 u hu)
        rw [evz37] at vf38
        refine S_icmp_ne (tgt := 56) rfl rfl rfl rfl rfl (fun vh39 => ?_) (fun vh39 => ?_)
        · refine X_iconst (v := (0 : Int32)) rfl rfl rfl ?_
          refine S_iaddT rfl rfl (fun vz40 => ?_)
          refine X_istore (i := 5) (ls' := [some (.ref 2), some (.ref (298 + 10 * u)), some (.int x2), some (.int x3), some (.int x4), some (.int vz40), some (.int x6)]) rfl rfl (Nat.le_of_ble_eq_true rfl) rfl ?_
          refine S_iinc (c := 1) rfl rfl rfl hx6 rfl (by omega) (fun vz41 hvz41 => ?_)
          refine LW_ls (ls' := [some (.ref 2), some (.ref (298 + 10 * u)), some (.int x2), some (.int x3), some (.int x4), some (.int vz40), some (.int vz41)]) rfl ?_
          refine LW_goto (tgt := 18) rfl rfl ?_
          exact ih18 hu V x2 y2 hx2 (by omega) x3 y3 hx3 (by omega) x4 y4 hx4 (by omega) vz40 vz40.toInt rfl vz41 vz41.toInt rfl (by omega) (by rw [evz1]; omega)   (by omega)
        · refine X_iconst (v := (1 : Int32)) rfl rfl rfl ?_
          refine LW_goto (tgt := 57) rfl rfl ?_
          refine S_iaddT rfl rfl (fun vz42 => ?_)
          refine X_istore (i := 5) (ls' := [some (.ref 2), some (.ref (298 + 10 * u)), some (.int x2), some (.int x3), some (.int x4), some (.int vz42), some (.int x6)]) rfl rfl (Nat.le_of_ble_eq_true rfl) rfl ?_
          refine S_iinc (c := 1) rfl rfl rfl hx6 rfl (by omega) (fun vz43 hvz43 => ?_)
          refine LW_ls (ls' := [some (.ref 2), some (.ref (298 + 10 * u)), some (.int x2), some (.int x3), some (.int x4), some (.int vz42), some (.int vz43)]) rfl ?_
          refine LW_goto (tgt := 18) rfl rfl ?_
          exact ih18 hu V x2 y2 hx2 (by omega) x3 y3 hx3 (by omega) x4 y4 hx4 (by omega) vz42 vz42.toInt rfl vz43 vz43.toInt rfl (by omega) (by rw [evz1]; omega)   (by omega)
theorem C_X5_isTold_2_Tt6_all {P : Par} {g : LH} {d : Nat}  : ∀ n : Nat, (∀ {u : Nat} (hu : u < 4) (V : Inv P g) (x2 : Int32) (y2 : Int) (hx2 : x2.toInt = y2) (hf2 : 0 ≤ y2 ∧ y2 ≤ 184) (x3 : Int32) (y3 : Int) (hx3 : x3.toInt = y3) (hf3 : 1 ≤ y3 ∧ y3 ≤ 8) (x4 : Int32) (y4 : Int) (hx4 : x4.toInt = y4) (hf4 : 0 ≤ y4 ∧ y4 ≤ 24) (o5 : Option Value) (o6 : Option Value) , (24 - y4) * 12 + 11 < (n : Int) → LW 45 (d + 5) 0 0 3 [some (.ref 2), some (.ref (298 + 10 * u)), some (.int x2), some (.int x3), some (.int x4), o5, o6] [] g (fun v g' => ∃ r : Int32, v = some (.int r) ∧ 0 ≤ r.toInt ∧ r.toInt ≤ 1 ∧ g = g')) ∧ (∀ {u : Nat} (hu : u < 4) (V : Inv P g) (x2 : Int32) (y2 : Int) (hx2 : x2.toInt = y2) (hf2 : 0 ≤ y2 ∧ y2 ≤ 184) (x3 : Int32) (y3 : Int) (hx3 : x3.toInt = y3) (hf3 : 1 ≤ y3 ∧ y3 ≤ 8) (x4 : Int32) (y4 : Int) (hx4 : x4.toInt = y4) (hf4 : 0 ≤ y4 ∧ y4 ≤ 23) (x5 : Int32) (y5 : Int) (hx5 : x5.toInt = y5) (x6 : Int32) (y6 : Int) (hx6 : x6.toInt = y6) (hf6 : 0 ≤ y6 ∧ y6 ≤ 8) (hc2_0 : 1 ≤ (Gi g 2 0).toInt ∧ (Gi g 2 0).toInt ≤ 24), (24 - y4) * 12 + 0 + (8 - y6) * 1 + 0 < (n : Int) → LW 45 (d + 5) 0 0 18 [some (.ref 2), some (.ref (298 + 10 * u)), some (.int x2), some (.int x3), some (.int x4), some (.int x5), some (.int x6)] [] g (fun v g' => ∃ r : Int32, v = some (.int r) ∧ 0 ≤ r.toInt ∧ r.toInt ≤ 1 ∧ g = g')) := by
  intro n
  induction n with
  | zero => exact ⟨fun u hu V x2 y2 hx2 hf2 x3 y3 hx3 hf3 x4 y4 hx4 hf4 o5 o6 hmu => absurd hmu (by omega), fun u hu V x2 y2 hx2 hf2 x3 y3 hx3 hf3 x4 y4 hx4 hf4 x5 y5 hx5 x6 y6 hx6 hf6 hc2_0 hmu => absurd hmu (by omega)⟩
  | succ n ih => exact ⟨fun u hu V x2 y2 hx2 hf2 x3 y3 hx3 hf3 x4 y4 hx4 hf4 o5 o6 hmu => C_X5_isTold_2_Tt6_3  hu V x2 y2 hx2 hf2 x3 y3 hx3 hf3 x4 y4 hx4 hf4 o5 o6 (by omega) ih.1 ih.2, fun u hu V x2 y2 hx2 hf2 x3 y3 hx3 hf3 x4 y4 hx4 hf4 x5 y5 hx5 x6 y6 hx6 hf6 hc2_0 hmu => C_X5_isTold_2_Tt6_18  hu V x2 y2 hx2 hf2 x3 y3 hx3 hf3 x4 y4 hx4 hf4 x5 y5 hx5 x6 y6 hx6 hf6 hc2_0 (by omega) ih.1 ih.2⟩
set_option maxRecDepth 10000 in
set_option maxHeartbeats 40000000 in
theorem C_X5_isTold_2_Tt6 {P : Par} {g : LH} {d : Nat}  {u : Nat} (hu : u < 4) (V : Inv P g) (x2 : Int32) (y2 : Int) (hx2 : x2.toInt = y2) (hf2 : 0 ≤ y2 ∧ y2 ≤ 184) (x3 : Int32) (y3 : Int) (hx3 : x3.toInt = y3) (hf3 : 1 ≤ y3 ∧ y3 ≤ 8)   : LW 45 (d + 5) 0 0 0 (lEnt (mL 45) [.ref 2, .ref (298 + 10 * u), .int x2, .int x3]) [] g (fun v g' => ∃ r : Int32, v = some (.int r) ∧ 0 ≤ r.toInt ∧ r.toInt ≤ 1 ∧ g = g') := by
  refine LW_ls (ls' := [some (.ref 2), some (.ref (298 + 10 * u)), some (.int x2), some (.int x3), none, none, none]) rfl ?_
  refine X_iconst (v := (0 : Int32)) rfl rfl rfl ?_
  refine X_istore (i := 4) (ls' := [some (.ref 2), some (.ref (298 + 10 * u)), some (.int x2), some (.int x3), some (.int (0 : Int32)), none, none]) rfl rfl (Nat.le_of_ble_eq_true rfl) rfl ?_
  exact (C_X5_isTold_2_Tt6_all (((24 - 0) * 12 + 11) + 1 : Int).toNat).1 hu V x2 y2 hx2 (by omega) x3 y3 hx3 (by omega) (0 : Int32) 0 (show (0 : Int32).toInt = 0 from rfl) (by omega) none none    (by omega)
set_option maxRecDepth 10000 in
set_option maxHeartbeats 40000000 in
theorem C_X5_tellWord_2_Tt6_66 {P : Par} {g g0 : LH} {d n : Nat}  {u : Nat} (hu : u < 4) (V : Inv P g) (hG : Gr g = Gr g0) (x2 : Int32) (y2 : Int) (hx2 : x2.toInt = y2) (hf2 : 0 ≤ y2 ∧ y2 ≤ 184) (x3 : Int32) (y3 : Int) (hx3 : x3.toInt = y3) (hf3 : 1 ≤ y3 ∧ y3 ≤ 8) (x4 : Int32) (y4 : Int) (hx4 : x4.toInt = y4) (hf4 : 0 ≤ y4 ∧ y4 ≤ 9) (x5 : Int32) (y5 : Int) (hx5 : x5.toInt = y5) (x6 : Int32) (y6 : Int) (hx6 : x6.toInt = y6) (hf6 : 0 ≤ y6 ∧ y6 ≤ 8) (hc2_0 : 0 ≤ (Gi g 2 0).toInt ∧ (Gi g 2 0).toInt ≤ 23) (hmu : (8 - y6) * 1 + 0 < (n : Int) + 1) (ih66 : ∀ (g : LH) {u : Nat} (hu : u < 4) (V : Inv P g) (hG : Gr g = Gr g0) (x2 : Int32) (y2 : Int) (hx2 : x2.toInt = y2) (hf2 : 0 ≤ y2 ∧ y2 ≤ 184) (x3 : Int32) (y3 : Int) (hx3 : x3.toInt = y3) (hf3 : 1 ≤ y3 ∧ y3 ≤ 8) (x4 : Int32) (y4 : Int) (hx4 : x4.toInt = y4) (hf4 : 0 ≤ y4 ∧ y4 ≤ 9) (x5 : Int32) (y5 : Int) (hx5 : x5.toInt = y5) (x6 : Int32) (y6 : Int) (hx6 : x6.toInt = y6) (hf6 : 0 ≤ y6 ∧ y6 ≤ 8) (hc2_0 : 0 ≤ (Gi g 2 0).toInt ∧ (Gi g 2 0).toInt ≤ 23), (8 - y6) * 1 + 0 < (n : Int) → LW 44 (d + 9) 0 0 66 [some (.ref 2), some (.ref (298 + 10 * u)), some (.int x2), some (.int x3), some (.int x4), some (.int x5), some (.int x6)] [] g (fun v g' => ∃ r : Int32, v = some (.int r) ∧ (-1) ≤ r.toInt ∧ r.toInt ≤ 23 ∧ Inv P g' ∧ Gr g' = Gr g0)) : LW 44 (d + 9) 0 0 66 [some (.ref 2), some (.ref (298 + 10 * u)), some (.int x2), some (.int x3), some (.int x4), some (.int x5), some (.int x6)] [] g (fun v g' => ∃ r : Int32, v = some (.int r) ∧ (-1) ≤ r.toInt ∧ r.toInt ≤ 23 ∧ Inv P g' ∧ Gr g' = Gr g0) := by
  obtain ⟨vz1, evz1⟩ : ∃ z, Gi g 2 0 = z := ⟨_, rfl⟩
  rw [evz1] at hc2_0
  refine X_iload rfl rfl rfl ?_
  refine X_iload_n rfl rfl rfl rfl ?_
  refine S_icmp_ge (tgt := 112) rfl rfl rfl hx6 hx3 (fun vh2 => ?_) (fun vh2 => ?_)
  · refine X_aload_n rfl rfl rfl rfl ?_
    refine X_getR (a := 3) rfl rfl rfl ((congrFun V.1 2).trans s_2) rfl ((congrFun (V.2.1 2 (by decide)) 2).trans r_2_2) ?_
    refine X_aload_n rfl rfl rfl rfl ?_
    refine X_getI (v := vz1) rfl rfl rfl ((congrFun V.1 2).trans s_2) rfl evz1 ?_
    refine X_iload_n rfl rfl rfl rfl ?_
    refine S_iast (I := Inv _) rfl rfl ((congrFun V.1 3).trans s_3) rfl (by omega) (Inv_putI V (Nat.le_of_ble_eq_true rfl) (Or.inl (by decide)) (Q_1 rk_3 (by omega))) (fun g V ve3 vn4 hq => ?_)
    have hG := hq.trans hG
    have evz1 := (vn4 (2) 0 (Or.inl (by decide))).trans evz1
    refine X_aload_n rfl rfl rfl rfl ?_
    refine X_getR (a := 4) rfl rfl rfl ((congrFun V.1 2).trans s_2) rfl ((congrFun (V.2.1 2 (by decide)) 3).trans r_2_3) ?_
    refine X_aload_n rfl rfl rfl rfl ?_
    refine X_getI (v := vz1) rfl rfl rfl ((congrFun V.1 2).trans s_2) rfl evz1 ?_
    refine X_iload rfl rfl rfl ?_
    refine S_iast (I := Inv _) rfl rfl ((congrFun V.1 4).trans s_4) rfl (by omega) (Inv_putI V (Nat.le_of_ble_eq_true rfl) (Or.inl (by decide)) (Q_2 rk_4 (by omega))) (fun g V ve5 vn6 hq => ?_)
    have hG := hq.trans hG
    have evz1 := (vn6 (2) 0 (Or.inl (by decide))).trans evz1
    refine X_aload_n rfl rfl rfl rfl ?_
    refine X_getR (a := 5) rfl rfl rfl ((congrFun V.1 2).trans s_2) rfl ((congrFun (V.2.1 2 (by decide)) 4).trans r_2_4) ?_
    refine X_aload_n rfl rfl rfl rfl ?_
    refine X_getI (v := vz1) rfl rfl rfl ((congrFun V.1 2).trans s_2) rfl evz1 ?_
    refine X_iload rfl rfl rfl ?_
    refine S_iast (I := Inv _) rfl rfl ((congrFun V.1 5).trans s_5) rfl (by omega) (Inv_putI V (Nat.le_of_ble_eq_true rfl) (Or.inl (by decide)) (Q_0 rk_5)) (fun g V ve7 vn8 hq => ?_)
    have hG := hq.trans hG
    have evz1 := (vn8 (2) 0 (Or.inl (by decide))).trans evz1
    refine X_aload_n rfl rfl rfl rfl ?_
    refine X_dup rfl rfl rfl ?_
    refine X_getI (v := vz1) rfl rfl rfl ((congrFun V.1 2).trans s_2) rfl evz1 ?_
    refine X_iconst (v := (1 : Int32)) rfl rfl rfl ?_
    refine S_iadd rfl rfl rfl (show (1 : Int32).toInt = 1 from rfl) (by omega) (fun vz9 hvz9 => ?_)
    refine S_putI (I := Inv _) rfl rfl rfl ((congrFun V.1 2).trans s_2) rfl rfl rfl rfl (Inv_putI V (Nat.le_of_ble_eq_true rfl) (Or.inl (by decide)) (Q_10_0 rk_2 (by omega))) (fun g V ve10 vn11 hq => ?_)
    have hG := hq.trans hG
    refine X_aload_n rfl rfl rfl rfl ?_
    refine X_getI (v := vz9) rfl rfl rfl ((congrFun V.1 2).trans s_2) rfl ve10 ?_
    refine X_iconst (v := (1 : Int32)) rfl rfl rfl ?_
    refine S_isub rfl rfl rfl (show (1 : Int32).toInt = 1 from rfl) (by omega) (fun vz12 hvz12 => ?_)
    have hr := (rfl : vz12.toInt = vz12.toInt)
    exact LW_ireturn (st := []) rfl rfl rfl ⟨_, rfl, by omega, by omega, V, hG⟩
  · refine X_aload_n rfl rfl rfl rfl ?_
    refine X_getR (a := 6) rfl rfl rfl ((congrFun V.1 2).trans s_2) rfl ((congrFun (V.2.1 2 (by decide)) 5).trans r_2_5) ?_
    refine X_aload_n rfl rfl rfl rfl ?_
    refine X_getI (v := vz1) rfl rfl rfl ((congrFun V.1 2).trans s_2) rfl evz1 ?_
    refine X_bipush (v := (8 : Int32)) rfl rfl rfl ?_
    refine S_imul rfl rfl rfl (show (8 : Int32).toInt = 8 from rfl) (by omega) (fun vz13 hvz13 => ?_)
    refine X_iload rfl rfl rfl ?_
    refine S_iadd rfl rfl rfl hx6 (by omega) (fun vz14 hvz14 => ?_)
    refine X_aload_n rfl rfl rfl rfl ?_
    refine X_iload_n rfl rfl rfl rfl ?_
    refine X_iload rfl rfl rfl ?_
    refine S_iadd rfl rfl hx2 hx6 (by omega) (fun vz15 hvz15 => ?_)
    refine S_iald rfl rfl ((congrFun V.1 _).trans (tx_s6 u hu)) rfl (by omega) (fun vz16 evz16 => ?_)
    have vf17 := K_3 (V.2.2.2.2.1 (298 + 10 * u) ((vz15.toInt : Int).toNat) (by omega)) (tx_k6 u hu)
    rw [evz16] at vf17
    refine S_iast (I := Inv _) rfl rfl ((congrFun V.1 6).trans s_6) rfl (by omega) (Inv_putI V (Nat.le_of_ble_eq_true rfl) (Or.inl (by decide)) (Q_3 rk_6 (by omega))) (fun g V ve18 vn19 hq => ?_)
    have hG := hq.trans hG
    have evz1 := (vn19 (2) 0 (Or.inl (by decide))).trans evz1
    have evz16 := (vn19 (298 + 10 * u) ((vz15.toInt : Int).toNat) (Or.inl (by omega))).trans evz16
    refine X_iload rfl rfl rfl ?_
    refine X_iconst (v := (1 : Int32)) rfl rfl rfl ?_
    refine X_aload_n rfl rfl rfl rfl ?_
    refine X_iload_n rfl rfl rfl rfl ?_
    refine X_iload rfl rfl rfl ?_
    refine S_iadd rfl rfl hx2 hx6 (by omega) (fun vz20 hvz20 => ?_)
    refine S_iald rfl rfl ((congrFun V.1 _).trans (tx_s6 u hu)) rfl (by omega) (fun vz21 evz21 => ?_)
    have vf22 := K_3 (V.2.2.2.2.1 (298 + 10 * u) ((vz20.toInt : Int).toNat) (by omega)) (tx_k6 u hu)
    rw [evz21] at vf22
    refine S_ishlT rfl rfl (fun vz23 => ?_)
    refine S_iorT rfl rfl (fun vz24 => ?_)
    refine X_istore (i := 5) (ls' := [some (.ref 2), some (.ref (298 + 10 * u)), some (.int x2), some (.int x3), some (.int x4), some (.int vz24), some (.int x6)]) rfl rfl (Nat.le_of_ble_eq_true rfl) rfl ?_
    refine S_iinc (c := 1) rfl rfl rfl hx6 rfl (by omega) (fun vz25 hvz25 => ?_)
    refine LW_ls (ls' := [some (.ref 2), some (.ref (298 + 10 * u)), some (.int x2), some (.int x3), some (.int x4), some (.int vz24), some (.int vz25)]) rfl ?_
    refine LW_goto (tgt := 66) rfl rfl ?_
    exact ih66 _ hu V hG x2 y2 hx2 (by omega) x3 y3 hx3 (by omega) x4 y4 hx4 (by omega) vz24 vz24.toInt rfl vz25 vz25.toInt rfl (by omega) (by rw [evz1]; omega)   (by omega)
theorem C_X5_tellWord_2_Tt6_all {P : Par} {g0 : LH} {d : Nat}  : ∀ n : Nat, (∀ (g : LH) {u : Nat} (hu : u < 4) (V : Inv P g) (hG : Gr g = Gr g0) (x2 : Int32) (y2 : Int) (hx2 : x2.toInt = y2) (hf2 : 0 ≤ y2 ∧ y2 ≤ 184) (x3 : Int32) (y3 : Int) (hx3 : x3.toInt = y3) (hf3 : 1 ≤ y3 ∧ y3 ≤ 8) (x4 : Int32) (y4 : Int) (hx4 : x4.toInt = y4) (hf4 : 0 ≤ y4 ∧ y4 ≤ 9) (x5 : Int32) (y5 : Int) (hx5 : x5.toInt = y5) (x6 : Int32) (y6 : Int) (hx6 : x6.toInt = y6) (hf6 : 0 ≤ y6 ∧ y6 ≤ 8) (hc2_0 : 0 ≤ (Gi g 2 0).toInt ∧ (Gi g 2 0).toInt ≤ 23), (8 - y6) * 1 + 0 < (n : Int) → LW 44 (d + 9) 0 0 66 [some (.ref 2), some (.ref (298 + 10 * u)), some (.int x2), some (.int x3), some (.int x4), some (.int x5), some (.int x6)] [] g (fun v g' => ∃ r : Int32, v = some (.int r) ∧ (-1) ≤ r.toInt ∧ r.toInt ≤ 23 ∧ Inv P g' ∧ Gr g' = Gr g0)) := by
  intro n
  induction n with
  | zero => exact fun g u hu V hG x2 y2 hx2 hf2 x3 y3 hx3 hf3 x4 y4 hx4 hf4 x5 y5 hx5 x6 y6 hx6 hf6 hc2_0 hmu => absurd hmu (by omega)
  | succ n ih => exact fun g u hu V hG x2 y2 hx2 hf2 x3 y3 hx3 hf3 x4 y4 hx4 hf4 x5 y5 hx5 x6 y6 hx6 hf6 hc2_0 hmu => C_X5_tellWord_2_Tt6_66  hu V hG x2 y2 hx2 hf2 x3 y3 hx3 hf3 x4 y4 hx4 hf4 x5 y5 hx5 x6 y6 hx6 hf6 hc2_0 (by omega) ih
set_option maxRecDepth 10000 in
set_option maxHeartbeats 40000000 in
theorem C_X5_tellWord_2_Tt6 {P : Par} {g : LH} {d : Nat}  {u : Nat} (hu : u < 4) (V : Inv P g) (x2 : Int32) (y2 : Int) (hx2 : x2.toInt = y2) (hf2 : 0 ≤ y2 ∧ y2 ≤ 184) (x3 : Int32) (y3 : Int) (hx3 : x3.toInt = y3) (hf3 : 0 ≤ y3 ∧ y3 ≤ 8) (x4 : Int32) (y4 : Int) (hx4 : x4.toInt = y4)   : LW 44 (d + 9) 0 0 0 (lEnt (mL 44) [.ref 2, .ref (298 + 10 * u), .int x2, .int x3, .int x4]) [] g (fun v g' => ∃ r : Int32, v = some (.int r) ∧ (-1) ≤ r.toInt ∧ r.toInt ≤ 23 ∧ Inv P g' ∧ Gr g' = Gr g) := by
  refine LW_ls (ls' := [some (.ref 2), some (.ref (298 + 10 * u)), some (.int x2), some (.int x3), some (.int x4), none, none]) rfl ?_
  have hG : Gr g = Gr g := rfl
  refine X_iload_n rfl rfl rfl rfl ?_
  refine X_iconst (v := (1 : Int32)) rfl rfl rfl ?_
  refine S_icmp_lt (tgt := 23) rfl rfl rfl hx3 (show (1 : Int32).toInt = 1 from rfl) (fun vh1 => ?_) (fun vh1 => ?_)
  · refine X_iconst (v := (-1 : Int32)) rfl rfl rfl ?_
    exact LW_ireturn (st := []) rfl rfl rfl ⟨_, rfl, by decide, by decide, V, hG⟩
  · refine X_iload_n rfl rfl rfl rfl ?_
    refine X_bipush (v := (8 : Int32)) rfl rfl rfl ?_
    refine S_icmp_gt (tgt := 23) rfl rfl rfl hx3 (show (8 : Int32).toInt = 8 from rfl) (fun q => absurd q (by omega)) (fun vh2 => ?_)
    refine X_iload_n rfl rfl rfl rfl ?_
    refine S_if_lt (tgt := 23) rfl rfl rfl hx2 (fun q => absurd q (by omega)) (fun vh3 => ?_)
    refine X_iload_n rfl rfl rfl rfl ?_
    refine X_iload_n rfl rfl rfl rfl ?_
    refine S_iadd rfl rfl hx2 hx3 (by omega) (fun vz4 hvz4 => ?_)
    refine X_aload_n rfl rfl rfl rfl ?_
    refine X_alen (t0 := 0) (v := (192 : Int32)) rfl rfl ((congrFun V.1 _).trans (tx_s6 u hu)) rfl rfl ?_
    refine S_icmp_le (tgt := 25) rfl rfl rfl rfl (show (192 : Int32).toInt = 192 from rfl) (fun vh5 => ?_) (fun q => absurd q (by omega))
    refine X_iload rfl rfl rfl ?_
    refine S_if_lt (tgt := 46) rfl rfl rfl hx4 (fun vh6 => ?_) (fun vh6 => ?_)
    · refine X_iconst (v := (-1 : Int32)) rfl rfl rfl ?_
      exact LW_ireturn (st := []) rfl rfl rfl ⟨_, rfl, by decide, by decide, V, hG⟩
    · refine X_iload rfl rfl rfl ?_
      refine X_bipush (v := (9 : Int32)) rfl rfl rfl ?_
      refine S_icmp_gt (tgt := 46) rfl rfl rfl hx4 (show (9 : Int32).toInt = 9 from rfl) (fun vh7 => ?_) (fun vh7 => ?_)
      · refine X_iconst (v := (-1 : Int32)) rfl rfl rfl ?_
        exact LW_ireturn (st := []) rfl rfl rfl ⟨_, rfl, by decide, by decide, V, hG⟩
      · refine X_aload_n rfl rfl rfl rfl ?_
        refine S_getI rfl rfl rfl ((congrFun V.1 2).trans s_2) rfl (fun vz8 evz8 => ?_)
        have vf9 := K_10_0 (V.2.2.2.2.1 (2) (0) (Nat.le_of_ble_eq_true rfl)) rk_2
        rw [evz8] at vf9
        refine X_bipush (v := (24 : Int32)) rfl rfl rfl ?_
        refine S_icmp_lt (tgt := 48) rfl rfl rfl rfl (show (24 : Int32).toInt = 24 from rfl) (fun vh10 => ?_) (fun vh10 => ?_)
        · refine X_aload_n rfl rfl rfl rfl ?_
          refine X_aload_n rfl rfl rfl rfl ?_
          refine X_iload_n rfl rfl rfl rfl ?_
          refine X_iload_n rfl rfl rfl rfl ?_
          refine Y_callV (as := [.ref (298 + 10 * u), .int x2, .int x3]) (st := []) rfl rfl rfl (by decide) rfl (Nat.le_of_ble_eq_true rfl) (by decide) (Nat.le_of_ble_eq_true rfl) rfl ((congrFun V.1 2).trans s_2) (by decide) (C_X5_isTold_2_Tt6 hu V x2 y2 hx2 (by omega) x3 y3 hx3 (by omega) ) ?_
          rintro _ g' ⟨vr11, rfl, hrvr110, hrvr111, hgg⟩
          subst hgg
          refine S_if_eq (tgt := 60) rfl rfl rfl rfl (fun vh12 => ?_) (fun vh12 => ?_)
          · refine X_iconst (v := (0 : Int32)) rfl rfl rfl ?_
            refine X_istore (i := 5) (ls' := [some (.ref 2), some (.ref (298 + 10 * u)), some (.int x2), some (.int x3), some (.int x4), some (.int (0 : Int32)), none]) rfl rfl (Nat.le_of_ble_eq_true rfl) rfl ?_
            refine X_iconst (v := (0 : Int32)) rfl rfl rfl ?_
            refine X_istore (i := 6) (ls' := [some (.ref 2), some (.ref (298 + 10 * u)), some (.int x2), some (.int x3), some (.int x4), some (.int (0 : Int32)), some (.int (0 : Int32))]) rfl rfl (Nat.le_of_ble_eq_true rfl) rfl ?_
            exact (C_X5_tellWord_2_Tt6_all (((8 - 0) * 1 + 0) + 1 : Int).toNat) _ hu V hG x2 y2 hx2 (by omega) x3 y3 hx3 (by omega) x4 y4 hx4 (by omega) (0 : Int32) 0 (show (0 : Int32).toInt = 0 from rfl) (0 : Int32) 0 (show (0 : Int32).toInt = 0 from rfl) (by omega) (by rw [evz8]; omega)   (by omega)
          · refine X_iconst (v := (-1 : Int32)) rfl rfl rfl ?_
            exact LW_ireturn (st := []) rfl rfl rfl ⟨_, rfl, by decide, by decide, V, hG⟩
        · refine X_iconst (v := (-1 : Int32)) rfl rfl rfl ?_
          exact LW_ireturn (st := []) rfl rfl rfl ⟨_, rfl, by decide, by decide, V, hG⟩
set_option maxRecDepth 10000 in
set_option maxHeartbeats 40000000 in
theorem C_X5_tellSaying_2_Tt6_42 {P : Par} {g g0 : LH} {d n : Nat}  {u : Nat} (hu : u < 4) (V : Inv P g) (hG : Gr g = Gr g0) (x2 : Int32) (y2 : Int) (hx2 : x2.toInt = y2) (hf2 : 0 ≤ y2 ∧ y2 ≤ 184) (x3 : Int32) (y3 : Int) (hx3 : x3.toInt = y3) (hf3 : 1 ≤ y3 ∧ y3 ≤ 8) (x4 : Int32) (y4 : Int) (hx4 : x4.toInt = y4) (x5 : Int32) (y5 : Int) (hx5 : x5.toInt = y5) (hf5 : 0 ≤ y5 ∧ y5 ≤ 8) (hc2_1 : 0 ≤ (Gi g 2 1).toInt ∧ (Gi g 2 1).toInt ≤ 7) (hmu : (8 - y5) * 1 + 0 < (n : Int) + 1) (ih42 : ∀ (g : LH) {u : Nat} (hu : u < 4) (V : Inv P g) (hG : Gr g = Gr g0) (x2 : Int32) (y2 : Int) (hx2 : x2.toInt = y2) (hf2 : 0 ≤ y2 ∧ y2 ≤ 184) (x3 : Int32) (y3 : Int) (hx3 : x3.toInt = y3) (hf3 : 1 ≤ y3 ∧ y3 ≤ 8) (x4 : Int32) (y4 : Int) (hx4 : x4.toInt = y4) (x5 : Int32) (y5 : Int) (hx5 : x5.toInt = y5) (hf5 : 0 ≤ y5 ∧ y5 ≤ 8) (hc2_1 : 0 ≤ (Gi g 2 1).toInt ∧ (Gi g 2 1).toInt ≤ 7), (8 - y5) * 1 + 0 < (n : Int) → LW 46 (d + 3) 0 0 42 [some (.ref 2), some (.ref (298 + 10 * u)), some (.int x2), some (.int x3), some (.int x4), some (.int x5)] [] g (fun v g' => ∃ r : Int32, v = some (.int r) ∧ (-1) ≤ r.toInt ∧ r.toInt ≤ 7 ∧ Inv P g' ∧ Gr g' = Gr g0)) : LW 46 (d + 3) 0 0 42 [some (.ref 2), some (.ref (298 + 10 * u)), some (.int x2), some (.int x3), some (.int x4), some (.int x5)] [] g (fun v g' => ∃ r : Int32, v = some (.int r) ∧ (-1) ≤ r.toInt ∧ r.toInt ≤ 7 ∧ Inv P g' ∧ Gr g' = Gr g0) := by
  obtain ⟨vz1, evz1⟩ : ∃ z, Gi g 2 1 = z := ⟨_, rfl⟩
  rw [evz1] at hc2_1
  refine X_iload rfl rfl rfl ?_
  refine X_iload_n rfl rfl rfl rfl ?_
  refine S_icmp_ge (tgt := 88) rfl rfl rfl hx5 hx3 (fun vh2 => ?_) (fun vh2 => ?_)
  · refine X_aload_n rfl rfl rfl rfl ?_
    refine X_getR (a := 7) rfl rfl rfl ((congrFun V.1 2).trans s_2) rfl ((congrFun (V.2.1 2 (by decide)) 6).trans r_2_6) ?_
    refine X_aload_n rfl rfl rfl rfl ?_
    refine X_getI (v := vz1) rfl rfl rfl ((congrFun V.1 2).trans s_2) rfl evz1 ?_
    refine X_iload_n rfl rfl rfl rfl ?_
    refine S_iast (I := Inv _) rfl rfl ((congrFun V.1 7).trans s_7) rfl (by omega) (Inv_putI V (Nat.le_of_ble_eq_true rfl) (Or.inl (by decide)) (Q_1 rk_7 (by omega))) (fun g V ve3 vn4 hq => ?_)
    have hG := hq.trans hG
    have evz1 := (vn4 (2) 1 (Or.inl (by decide))).trans evz1
    refine X_aload_n rfl rfl rfl rfl ?_
    refine X_getR (a := 8) rfl rfl rfl ((congrFun V.1 2).trans s_2) rfl ((congrFun (V.2.1 2 (by decide)) 7).trans r_2_7) ?_
    refine X_aload_n rfl rfl rfl rfl ?_
    refine X_getI (v := vz1) rfl rfl rfl ((congrFun V.1 2).trans s_2) rfl evz1 ?_
    refine X_iload rfl rfl rfl ?_
    refine S_iast (I := Inv _) rfl rfl ((congrFun V.1 8).trans s_8) rfl (by omega) (Inv_putI V (Nat.le_of_ble_eq_true rfl) (Or.inl (by decide)) (Q_0 rk_8)) (fun g V ve5 vn6 hq => ?_)
    have hG := hq.trans hG
    have evz1 := (vn6 (2) 1 (Or.inl (by decide))).trans evz1
    refine X_aload_n rfl rfl rfl rfl ?_
    refine X_dup rfl rfl rfl ?_
    refine X_getI (v := vz1) rfl rfl rfl ((congrFun V.1 2).trans s_2) rfl evz1 ?_
    refine X_iconst (v := (1 : Int32)) rfl rfl rfl ?_
    refine S_iadd rfl rfl rfl (show (1 : Int32).toInt = 1 from rfl) (by omega) (fun vz7 hvz7 => ?_)
    refine S_putI (I := Inv _) rfl rfl rfl ((congrFun V.1 2).trans s_2) rfl rfl rfl rfl (Inv_putI V (Nat.le_of_ble_eq_true rfl) (Or.inl (by decide)) (Q_10_1 rk_2 (by omega))) (fun g V ve8 vn9 hq => ?_)
    have hG := hq.trans hG
    refine X_aload_n rfl rfl rfl rfl ?_
    refine X_getI (v := vz7) rfl rfl rfl ((congrFun V.1 2).trans s_2) rfl ve8 ?_
    refine X_iconst (v := (1 : Int32)) rfl rfl rfl ?_
    refine S_isub rfl rfl rfl (show (1 : Int32).toInt = 1 from rfl) (by omega) (fun vz10 hvz10 => ?_)
    have hr := (rfl : vz10.toInt = vz10.toInt)
    exact LW_ireturn (st := []) rfl rfl rfl ⟨_, rfl, by omega, by omega, V, hG⟩
  · refine X_aload_n rfl rfl rfl rfl ?_
    refine X_getR (a := 9) rfl rfl rfl ((congrFun V.1 2).trans s_2) rfl ((congrFun (V.2.1 2 (by decide)) 8).trans r_2_8) ?_
    refine X_aload_n rfl rfl rfl rfl ?_
    refine X_getI (v := vz1) rfl rfl rfl ((congrFun V.1 2).trans s_2) rfl evz1 ?_
    refine X_bipush (v := (8 : Int32)) rfl rfl rfl ?_
    refine S_imul rfl rfl rfl (show (8 : Int32).toInt = 8 from rfl) (by omega) (fun vz11 hvz11 => ?_)
    refine X_iload rfl rfl rfl ?_
    refine S_iadd rfl rfl rfl hx5 (by omega) (fun vz12 hvz12 => ?_)
    refine X_aload_n rfl rfl rfl rfl ?_
    refine X_iload_n rfl rfl rfl rfl ?_
    refine X_iload rfl rfl rfl ?_
    refine S_iadd rfl rfl hx2 hx5 (by omega) (fun vz13 hvz13 => ?_)
    refine S_iald rfl rfl ((congrFun V.1 _).trans (tx_s6 u hu)) rfl (by omega) (fun vz14 evz14 => ?_)
    have vf15 := K_3 (V.2.2.2.2.1 (298 + 10 * u) ((vz13.toInt : Int).toNat) (by omega)) (tx_k6 u hu)
    rw [evz14] at vf15
    refine S_iast (I := Inv _) rfl rfl ((congrFun V.1 9).trans s_9) rfl (by omega) (Inv_putI V (Nat.le_of_ble_eq_true rfl) (Or.inl (by decide)) (Q_3 rk_9 (by omega))) (fun g V ve16 vn17 hq => ?_)
    have hG := hq.trans hG
    have evz1 := (vn17 (2) 1 (Or.inl (by decide))).trans evz1
    have evz14 := (vn17 (298 + 10 * u) ((vz13.toInt : Int).toNat) (Or.inl (by omega))).trans evz14
    refine X_iload rfl rfl rfl ?_
    refine X_iconst (v := (1 : Int32)) rfl rfl rfl ?_
    refine X_aload_n rfl rfl rfl rfl ?_
    refine X_iload_n rfl rfl rfl rfl ?_
    refine X_iload rfl rfl rfl ?_
    refine S_iadd rfl rfl hx2 hx5 (by omega) (fun vz18 hvz18 => ?_)
    refine S_iald rfl rfl ((congrFun V.1 _).trans (tx_s6 u hu)) rfl (by omega) (fun vz19 evz19 => ?_)
    have vf20 := K_3 (V.2.2.2.2.1 (298 + 10 * u) ((vz18.toInt : Int).toNat) (by omega)) (tx_k6 u hu)
    rw [evz19] at vf20
    refine S_ishlT rfl rfl (fun vz21 => ?_)
    refine S_iorT rfl rfl (fun vz22 => ?_)
    refine X_istore (i := 4) (ls' := [some (.ref 2), some (.ref (298 + 10 * u)), some (.int x2), some (.int x3), some (.int vz22), some (.int x5)]) rfl rfl (Nat.le_of_ble_eq_true rfl) rfl ?_
    refine S_iinc (c := 1) rfl rfl rfl hx5 rfl (by omega) (fun vz23 hvz23 => ?_)
    refine LW_ls (ls' := [some (.ref 2), some (.ref (298 + 10 * u)), some (.int x2), some (.int x3), some (.int vz22), some (.int vz23)]) rfl ?_
    refine LW_goto (tgt := 42) rfl rfl ?_
    exact ih42 _ hu V hG x2 y2 hx2 (by omega) x3 y3 hx3 (by omega) vz22 vz22.toInt rfl vz23 vz23.toInt rfl (by omega) (by rw [evz1]; omega)   (by omega)
theorem C_X5_tellSaying_2_Tt6_all {P : Par} {g0 : LH} {d : Nat}  : ∀ n : Nat, (∀ (g : LH) {u : Nat} (hu : u < 4) (V : Inv P g) (hG : Gr g = Gr g0) (x2 : Int32) (y2 : Int) (hx2 : x2.toInt = y2) (hf2 : 0 ≤ y2 ∧ y2 ≤ 184) (x3 : Int32) (y3 : Int) (hx3 : x3.toInt = y3) (hf3 : 1 ≤ y3 ∧ y3 ≤ 8) (x4 : Int32) (y4 : Int) (hx4 : x4.toInt = y4) (x5 : Int32) (y5 : Int) (hx5 : x5.toInt = y5) (hf5 : 0 ≤ y5 ∧ y5 ≤ 8) (hc2_1 : 0 ≤ (Gi g 2 1).toInt ∧ (Gi g 2 1).toInt ≤ 7), (8 - y5) * 1 + 0 < (n : Int) → LW 46 (d + 3) 0 0 42 [some (.ref 2), some (.ref (298 + 10 * u)), some (.int x2), some (.int x3), some (.int x4), some (.int x5)] [] g (fun v g' => ∃ r : Int32, v = some (.int r) ∧ (-1) ≤ r.toInt ∧ r.toInt ≤ 7 ∧ Inv P g' ∧ Gr g' = Gr g0)) := by
  intro n
  induction n with
  | zero => exact fun g u hu V hG x2 y2 hx2 hf2 x3 y3 hx3 hf3 x4 y4 hx4 x5 y5 hx5 hf5 hc2_1 hmu => absurd hmu (by omega)
  | succ n ih => exact fun g u hu V hG x2 y2 hx2 hf2 x3 y3 hx3 hf3 x4 y4 hx4 x5 y5 hx5 hf5 hc2_1 hmu => C_X5_tellSaying_2_Tt6_42  hu V hG x2 y2 hx2 hf2 x3 y3 hx3 hf3 x4 y4 hx4 x5 y5 hx5 hf5 hc2_1 (by omega) ih
set_option maxRecDepth 10000 in
set_option maxHeartbeats 40000000 in
theorem C_X5_tellSaying_2_Tt6 {P : Par} {g : LH} {d : Nat}  {u : Nat} (hu : u < 4) (V : Inv P g) (x2 : Int32) (y2 : Int) (hx2 : x2.toInt = y2) (hf2 : 0 ≤ y2 ∧ y2 ≤ 184) (x3 : Int32) (y3 : Int) (hx3 : x3.toInt = y3) (hf3 : 0 ≤ y3 ∧ y3 ≤ 8)   : LW 46 (d + 3) 0 0 0 (lEnt (mL 46) [.ref 2, .ref (298 + 10 * u), .int x2, .int x3]) [] g (fun v g' => ∃ r : Int32, v = some (.int r) ∧ (-1) ≤ r.toInt ∧ r.toInt ≤ 7 ∧ Inv P g' ∧ Gr g' = Gr g) := by
  refine LW_ls (ls' := [some (.ref 2), some (.ref (298 + 10 * u)), some (.int x2), some (.int x3), none, none]) rfl ?_
  have hG : Gr g = Gr g := rfl
  refine X_iload_n rfl rfl rfl rfl ?_
  refine X_iconst (v := (1 : Int32)) rfl rfl rfl ?_
  refine S_icmp_lt (tgt := 23) rfl rfl rfl hx3 (show (1 : Int32).toInt = 1 from rfl) (fun vh1 => ?_) (fun vh1 => ?_)
  · refine X_iconst (v := (-1 : Int32)) rfl rfl rfl ?_
    exact LW_ireturn (st := []) rfl rfl rfl ⟨_, rfl, by decide, by decide, V, hG⟩
  · refine X_iload_n rfl rfl rfl rfl ?_
    refine X_bipush (v := (8 : Int32)) rfl rfl rfl ?_
    refine S_icmp_gt (tgt := 23) rfl rfl rfl hx3 (show (8 : Int32).toInt = 8 from rfl) (fun q => absurd q (by omega)) (fun vh2 => ?_)
    refine X_iload_n rfl rfl rfl rfl ?_
    refine S_if_lt (tgt := 23) rfl rfl rfl hx2 (fun q => absurd q (by omega)) (fun vh3 => ?_)
    refine X_iload_n rfl rfl rfl rfl ?_
    refine X_iload_n rfl rfl rfl rfl ?_
    refine S_iadd rfl rfl hx2 hx3 (by omega) (fun vz4 hvz4 => ?_)
    refine X_aload_n rfl rfl rfl rfl ?_
    refine X_alen (t0 := 0) (v := (192 : Int32)) rfl rfl ((congrFun V.1 _).trans (tx_s6 u hu)) rfl rfl ?_
    refine S_icmp_le (tgt := 25) rfl rfl rfl rfl (show (192 : Int32).toInt = 192 from rfl) (fun vh5 => ?_) (fun q => absurd q (by omega))
    refine X_aload_n rfl rfl rfl rfl ?_
    refine S_getI rfl rfl rfl ((congrFun V.1 2).trans s_2) rfl (fun vz6 evz6 => ?_)
    have vf7 := K_10_1 (V.2.2.2.2.1 (2) (1) (Nat.le_of_ble_eq_true rfl)) rk_2
    rw [evz6] at vf7
    refine X_bipush (v := (8 : Int32)) rfl rfl rfl ?_
    refine S_icmp_lt (tgt := 36) rfl rfl rfl rfl (show (8 : Int32).toInt = 8 from rfl) (fun vh8 => ?_) (fun vh8 => ?_)
    · refine X_iconst (v := (0 : Int32)) rfl rfl rfl ?_
      refine X_istore (i := 4) (ls' := [some (.ref 2), some (.ref (298 + 10 * u)), some (.int x2), some (.int x3), some (.int (0 : Int32)), none]) rfl rfl (Nat.le_of_ble_eq_true rfl) rfl ?_
      refine X_iconst (v := (0 : Int32)) rfl rfl rfl ?_
      refine X_istore (i := 5) (ls' := [some (.ref 2), some (.ref (298 + 10 * u)), some (.int x2), some (.int x3), some (.int (0 : Int32)), some (.int (0 : Int32))]) rfl rfl (Nat.le_of_ble_eq_true rfl) rfl ?_
      exact (C_X5_tellSaying_2_Tt6_all (((8 - 0) * 1 + 0) + 1 : Int).toNat) _ hu V hG x2 y2 hx2 (by omega) x3 y3 hx3 (by omega) (0 : Int32) 0 (show (0 : Int32).toInt = 0 from rfl) (0 : Int32) 0 (show (0 : Int32).toInt = 0 from rfl) (by omega) (by rw [evz6]; omega)   (by omega)
    · refine X_iconst (v := (-1 : Int32)) rfl rfl rfl ?_
      exact LW_ireturn (st := []) rfl rfl rfl ⟨_, rfl, by decide, by decide, V, hG⟩
set_option maxRecDepth 10000 in
set_option maxHeartbeats 40000000 in
theorem C_X1_playClause_342_T {P : Par} {g : LH} {d : Nat}  {u : Nat} (hu : u < 4) (V : Inv P g) (x2 : Int32) (y2 : Int) (hx2 : x2.toInt = y2) (hf2 : 0 ≤ y2 ∧ y2 ≤ 23)   : LW 16 (d + 24) 0 0 0 (lEnt (mL 16) [.ref 342, .ref (292 + 10 * u), .int x2]) [] g (fun v g' => ∃ r : Int32, v = some (.int r) ∧ 0 ≤ r.toInt ∧ r.toInt ≤ 1 ∧ Inv P g' ∧ Gr g' = Gr g) := by
  refine LW_ls (ls' := [some (.ref 342), some (.ref (292 + 10 * u)), some (.int x2), none, none, none]) rfl ?_
  have hG : Gr g = Gr g := rfl
  refine X_aload_n rfl rfl rfl rfl ?_
  refine X_getR (a := 294 + 10 * u) rfl rfl rfl ((congrFun V.1 _).trans (tx_s u hu)) rfl ((congrFun (V.2.1 (292 + 10 * u) (by omega)) 2).trans (tx_r2 u hu)) ?_
  refine X_iload_n rfl rfl rfl rfl ?_
  refine S_iald rfl rfl ((congrFun V.1 _).trans (tx_s2 u hu)) hx2 (by omega) (fun vz1 evz1 => ?_)
  refine X_istore_n (i := 3) (ls' := [some (.ref 342), some (.ref (292 + 10 * u)), some (.int x2), some (.int vz1), none, none]) rfl rfl rfl (Nat.le_of_ble_eq_true rfl) rfl ?_
  refine X_aload_n rfl rfl rfl rfl ?_
  refine X_getR (a := 296 + 10 * u) rfl rfl rfl ((congrFun V.1 _).trans (tx_s u hu)) rfl ((congrFun (V.2.1 (292 + 10 * u) (by omega)) 4).trans (tx_r4 u hu)) ?_
  refine X_iload_n rfl rfl rfl rfl ?_
  refine S_iald rfl rfl ((congrFun V.1 _).trans (tx_s4 u hu)) hx2 (by omega) (fun vz2 evz2 => ?_)
  refine X_istore (i := 4) (ls' := [some (.ref 342), some (.ref (292 + 10 * u)), some (.int x2), some (.int vz1), some (.int vz2), none]) rfl rfl (Nat.le_of_ble_eq_true rfl) rfl ?_
  refine X_iload_n rfl rfl rfl rfl ?_
  refine X_bipush (v := (8 : Int32)) rfl rfl rfl ?_
  refine S_imul rfl rfl hx2 (show (8 : Int32).toInt = 8 from rfl) (by omega) (fun vz3 hvz3 => ?_)
  refine X_istore (i := 5) (ls' := [some (.ref 342), some (.ref (292 + 10 * u)), some (.int x2), some (.int vz1), some (.int vz2), some (.int vz3)]) rfl rfl (Nat.le_of_ble_eq_true rfl) rfl ?_
  refine X_aload_n rfl rfl rfl rfl ?_
  refine X_getR (a := 293 + 10 * u) rfl rfl rfl ((congrFun V.1 _).trans (tx_s u hu)) rfl ((congrFun (V.2.1 (292 + 10 * u) (by omega)) 1).trans (tx_r1 u hu)) ?_
  refine X_iload_n rfl rfl rfl rfl ?_
  refine S_iald rfl rfl ((congrFun V.1 _).trans (tx_s1 u hu)) hx2 (by omega) (fun vz4 evz4 => ?_)
  by_cases vh5 : vz4.toInt = 4
  · refine S_tableIn (tgt := 76) (c := 4) rfl ((rfl : _ = vz4.toInt).trans vh5) (by decide) (by decide) rfl rfl ?_
    refine X_aload_n rfl rfl rfl rfl ?_
    refine X_getR (a := 1) rfl rfl rfl ((congrFun V.1 342).trans s_342) rfl ((congrFun (V.2.1 342 (by decide)) 0).trans r_342_0) ?_
    refine X_getR (a := 2) rfl rfl rfl ((congrFun V.1 1).trans s_1) rfl ((congrFun (V.2.1 1 (by decide)) 0).trans r_1_0) ?_
    refine X_aload_n rfl rfl rfl rfl ?_
    refine X_getR (a := 298 + 10 * u) rfl rfl rfl ((congrFun V.1 _).trans (tx_s u hu)) rfl ((congrFun (V.2.1 (292 + 10 * u) (by omega)) 6).trans (tx_r6 u hu)) ?_
    refine X_iload rfl rfl rfl ?_
    refine X_aload_n rfl rfl rfl rfl ?_
    refine X_getR (a := 297 + 10 * u) rfl rfl rfl ((congrFun V.1 _).trans (tx_s u hu)) rfl ((congrFun (V.2.1 (292 + 10 * u) (by omega)) 5).trans (tx_r5 u hu)) ?_
    refine X_iload_n rfl rfl rfl rfl ?_
    refine S_iald rfl rfl ((congrFun V.1 _).trans (tx_s5 u hu)) hx2 (by omega) (fun vz6 evz6 => ?_)
    have vf7 := K_1 (V.2.2.2.2.1 (297 + 10 * u) ((y2 : Int).toNat) (by omega)) (tx_k5 u hu)
    rw [evz6] at vf7
    refine X_iload rfl rfl rfl ?_
    refine Y_callV (as := [.ref (298 + 10 * u), .int vz3, .int vz6, .int vz2]) (st := []) rfl rfl rfl (by decide) rfl (Nat.le_of_ble_eq_true rfl) (by decide) (Nat.le_of_ble_eq_true rfl) rfl ((congrFun V.1 2).trans s_2) (by decide) (C_X5_tellWord_2_Tt6 hu V vz3 vz3.toInt rfl (by omega) vz6 vz6.toInt rfl (by omega) vz2 vz2.toInt rfl ) ?_
    rintro _ g ⟨vr8, rfl, hrvr80, hrvr81, V, hq⟩
    have hG := hq.trans hG
    refine X_iconst (v := (-1 : Int32)) rfl rfl rfl ?_
    refine S_icmp_eq (tgt := 108) rfl rfl rfl rfl (show (-1 : Int32).toInt = -1 from rfl) (fun vh9 => ?_) (fun vh9 => ?_)
    · refine X_iconst (v := (0 : Int32)) rfl rfl rfl ?_
      exact LW_ireturn (st := []) rfl rfl rfl ⟨_, rfl, by decide, by decide, V, hG⟩
    · refine X_iconst (v := (1 : Int32)) rfl rfl rfl ?_
      refine LW_goto (tgt := 109) rfl rfl ?_
      exact LW_ireturn (st := []) rfl rfl rfl ⟨_, rfl, by decide, by decide, V, hG⟩
  by_cases vh10 : vz4.toInt = 5
  · refine S_tableIn (tgt := 110) (c := 5) rfl ((rfl : _ = vz4.toInt).trans vh10) (by decide) (by decide) rfl rfl ?_
    refine X_aload_n rfl rfl rfl rfl ?_
    refine X_getR (a := 1) rfl rfl rfl ((congrFun V.1 342).trans s_342) rfl ((congrFun (V.2.1 342 (by decide)) 0).trans r_342_0) ?_
    refine X_getR (a := 2) rfl rfl rfl ((congrFun V.1 1).trans s_1) rfl ((congrFun (V.2.1 1 (by decide)) 0).trans r_1_0) ?_
    refine X_aload_n rfl rfl rfl rfl ?_
    refine X_getR (a := 298 + 10 * u) rfl rfl rfl ((congrFun V.1 _).trans (tx_s u hu)) rfl ((congrFun (V.2.1 (292 + 10 * u) (by omega)) 6).trans (tx_r6 u hu)) ?_
    refine X_iload rfl rfl rfl ?_
    refine X_aload_n rfl rfl rfl rfl ?_
    refine X_getR (a := 297 + 10 * u) rfl rfl rfl ((congrFun V.1 _).trans (tx_s u hu)) rfl ((congrFun (V.2.1 (292 + 10 * u) (by omega)) 5).trans (tx_r5 u hu)) ?_
    refine X_iload_n rfl rfl rfl rfl ?_
    refine S_iald rfl rfl ((congrFun V.1 _).trans (tx_s5 u hu)) hx2 (by omega) (fun vz11 evz11 => ?_)
    have vf12 := K_1 (V.2.2.2.2.1 (297 + 10 * u) ((y2 : Int).toNat) (by omega)) (tx_k5 u hu)
    rw [evz11] at vf12
    refine Y_callV (as := [.ref (298 + 10 * u), .int vz3, .int vz11]) (st := []) rfl rfl rfl (by decide) rfl (Nat.le_of_ble_eq_true rfl) (by decide) (Nat.le_of_ble_eq_true rfl) rfl ((congrFun V.1 2).trans s_2) (by decide) (C_X5_tellSaying_2_Tt6 hu V vz3 vz3.toInt rfl (by omega) vz11 vz11.toInt rfl (by omega) ) ?_
    rintro _ g ⟨vr13, rfl, hrvr130, hrvr131, V, hq⟩
    have hG := hq.trans hG
    refine X_iconst (v := (-1 : Int32)) rfl rfl rfl ?_
    refine S_icmp_eq (tgt := 140) rfl rfl rfl rfl (show (-1 : Int32).toInt = -1 from rfl) (fun vh14 => ?_) (fun vh14 => ?_)
    · refine X_iconst (v := (0 : Int32)) rfl rfl rfl ?_
      exact LW_ireturn (st := []) rfl rfl rfl ⟨_, rfl, by decide, by decide, V, hG⟩
    · refine X_iconst (v := (1 : Int32)) rfl rfl rfl ?_
      refine LW_goto (tgt := 141) rfl rfl ?_
      exact LW_ireturn (st := []) rfl rfl rfl ⟨_, rfl, by decide, by decide, V, hG⟩
  by_cases vh15 : vz4.toInt = 6
  · refine S_tableIn (tgt := 142) (c := 6) rfl ((rfl : _ = vz4.toInt).trans vh15) (by decide) (by decide) rfl rfl ?_
    refine X_aload_n rfl rfl rfl rfl ?_
    refine X_getR (a := 1) rfl rfl rfl ((congrFun V.1 342).trans s_342) rfl ((congrFun (V.2.1 342 (by decide)) 0).trans r_342_0) ?_
    refine X_iload_n rfl rfl rfl rfl ?_
    refine X_aload_n rfl rfl rfl rfl ?_
    refine X_getR (a := 295 + 10 * u) rfl rfl rfl ((congrFun V.1 _).trans (tx_s u hu)) rfl ((congrFun (V.2.1 (292 + 10 * u) (by omega)) 3).trans (tx_r3 u hu)) ?_
    refine X_iload_n rfl rfl rfl rfl ?_
    refine S_iald rfl rfl ((congrFun V.1 _).trans (tx_s3 u hu)) hx2 (by omega) (fun vz16 evz16 => ?_)
    refine Y_callV (as := [.int vz1, .int vz16]) (st := []) rfl rfl rfl (by decide) rfl (Nat.le_of_ble_eq_true rfl) (by decide) (Nat.le_of_ble_eq_true rfl) rfl ((congrFun V.1 1).trans s_1) (by decide) (C_X2_tieAll V vz1 vz1.toInt rfl vz16 vz16.toInt rfl ) ?_
    rintro _ g ⟨vr17, rfl, hrvr170, hrvr171, V, hq⟩
    have hG := hq.trans hG
    have hr := (rfl : vr17.toInt = vr17.toInt)
    exact LW_ireturn (st := []) rfl rfl (nbool rfl (by omega)) ⟨_, rfl, by omega, by omega, V, hG⟩
  by_cases vh18 : vz4.toInt = 7
  · refine S_tableIn (tgt := 157) (c := 7) rfl ((rfl : _ = vz4.toInt).trans vh18) (by decide) (by decide) rfl rfl ?_
    refine X_aload_n rfl rfl rfl rfl ?_
    refine X_iload_n rfl rfl rfl rfl ?_
    refine Y_callV (as := [.int vz1]) (st := []) rfl rfl rfl (by decide) rfl (Nat.le_of_ble_eq_true rfl) (by decide) (Nat.le_of_ble_eq_true rfl) rfl ((congrFun V.1 342).trans s_342) (by decide) (C_X1_callOut V vz1 vz1.toInt rfl ) ?_
    rintro _ g ⟨vr19, rfl, hrvr190, hrvr191, V, hq⟩
    have hG := hq.trans hG
    refine S_if_le (tgt := 169) rfl rfl rfl rfl (fun vh20 => ?_) (fun vh20 => ?_)
    · refine X_iconst (v := (0 : Int32)) rfl rfl rfl ?_
      exact LW_ireturn (st := []) rfl rfl rfl ⟨_, rfl, by decide, by decide, V, hG⟩
    · refine X_iconst (v := (1 : Int32)) rfl rfl rfl ?_
      refine LW_goto (tgt := 170) rfl rfl ?_
      exact LW_ireturn (st := []) rfl rfl rfl ⟨_, rfl, by decide, by decide, V, hG⟩
  by_cases vh21 : vz4.toInt = 8
  · refine S_tableIn (tgt := 171) (c := 8) rfl ((rfl : _ = vz4.toInt).trans vh21) (by decide) (by decide) rfl rfl ?_
    refine X_aload_n rfl rfl rfl rfl ?_
    refine X_iload_n rfl rfl rfl rfl ?_
    refine Y_callV (as := [.int vz1]) (st := []) rfl rfl rfl (by decide) rfl (Nat.le_of_ble_eq_true rfl) (by decide) (Nat.le_of_ble_eq_true rfl) rfl ((congrFun V.1 342).trans s_342) (by decide) (C_X1_callBack V vz1 vz1.toInt rfl ) ?_
    rintro _ g ⟨vr22, rfl, hrvr220, hrvr221, V, hq⟩
    have hG := hq.trans hG
    refine S_if_le (tgt := 183) rfl rfl rfl rfl (fun vh23 => ?_) (fun vh23 => ?_)
    · refine X_iconst (v := (0 : Int32)) rfl rfl rfl ?_
      exact LW_ireturn (st := []) rfl rfl rfl ⟨_, rfl, by decide, by decide, V, hG⟩
    · refine X_iconst (v := (1 : Int32)) rfl rfl rfl ?_
      refine LW_goto (tgt := 184) rfl rfl ?_
      exact LW_ireturn (st := []) rfl rfl rfl ⟨_, rfl, by decide, by decide, V, hG⟩
  by_cases vh24 : vz4.toInt = 9
  · refine S_tableIn (tgt := 185) (c := 9) rfl ((rfl : _ = vz4.toInt).trans vh24) (by decide) (by decide) rfl rfl ?_
    refine X_aload_n rfl rfl rfl rfl ?_
    refine X_iload_n rfl rfl rfl rfl ?_
    refine X_iload rfl rfl rfl ?_
    refine Y_callV (as := [.int vz1, .int vz2]) (st := []) rfl rfl rfl (by decide) rfl (Nat.le_of_ble_eq_true rfl) (by decide) (Nat.le_of_ble_eq_true rfl) rfl ((congrFun V.1 342).trans s_342) (by decide) (C_X1_raiseAll V vz1 vz1.toInt rfl vz2 vz2.toInt rfl ) ?_
    rintro _ g ⟨vr25, rfl, hrvr250, hrvr251, V, hq⟩
    have hG := hq.trans hG
    have hr := (rfl : vr25.toInt = vr25.toInt)
    exact LW_ireturn (st := []) rfl rfl (nbool rfl (by omega)) ⟨_, rfl, by omega, by omega, V, hG⟩
  by_cases vh26 : vz4.toInt = 10
  · refine S_tableIn (tgt := 193) (c := 10) rfl ((rfl : _ = vz4.toInt).trans vh26) (by decide) (by decide) rfl rfl ?_
    refine X_aload_n rfl rfl rfl rfl ?_
    refine X_iload_n rfl rfl rfl rfl ?_
    refine X_iload rfl rfl rfl ?_
    refine Y_callV (as := [.int vz1, .int vz2]) (st := []) rfl rfl rfl (by decide) rfl (Nat.le_of_ble_eq_true rfl) (by decide) (Nat.le_of_ble_eq_true rfl) rfl ((congrFun V.1 342).trans s_342) (by decide) (C_X1_signAll V vz1 vz1.toInt rfl vz2 vz2.toInt rfl ) ?_
    rintro _ g ⟨vr27, rfl, hrvr270, hrvr271, V, hq⟩
    have hG := hq.trans hG
    have hr := (rfl : vr27.toInt = vr27.toInt)
    exact LW_ireturn (st := []) rfl rfl (nbool rfl (by omega)) ⟨_, rfl, by omega, by omega, V, hG⟩
  by_cases vh28 : vz4.toInt = 11
  · refine S_tableIn (tgt := 201) (c := 11) rfl ((rfl : _ = vz4.toInt).trans vh28) (by decide) (by decide) rfl rfl ?_
    refine X_aload_n rfl rfl rfl rfl ?_
    refine X_iload rfl rfl rfl ?_
    refine Y_callV (as := [.int vz2]) (st := []) rfl rfl rfl (by decide) rfl (Nat.le_of_ble_eq_true rfl) (by decide) (Nat.le_of_ble_eq_true rfl) rfl ((congrFun V.1 342).trans s_342) (by decide) (C_X1_conclude V vz2 vz2.toInt rfl ) ?_
    rintro _ g ⟨vr29, rfl, hrvr290, hrvr291, V, hq⟩
    have hG := hq.trans hG
    refine X_iconst (v := (-1 : Int32)) rfl rfl rfl ?_
    refine S_icmp_eq (tgt := 215) rfl rfl rfl rfl (show (-1 : Int32).toInt = -1 from rfl) (fun vh30 => ?_) (fun vh30 => ?_)
    · refine X_iconst (v := (0 : Int32)) rfl rfl rfl ?_
      exact LW_ireturn (st := []) rfl rfl rfl ⟨_, rfl, by decide, by decide, V, hG⟩
    · refine X_iconst (v := (1 : Int32)) rfl rfl rfl ?_
      refine LW_goto (tgt := 216) rfl rfl ?_
      exact LW_ireturn (st := []) rfl rfl rfl ⟨_, rfl, by decide, by decide, V, hG⟩
  by_cases vh31 : vz4.toInt = 12
  · refine S_tableIn (tgt := 217) (c := 12) rfl ((rfl : _ = vz4.toInt).trans vh31) (by decide) (by decide) rfl rfl ?_
    refine X_aload_n rfl rfl rfl rfl ?_
    refine X_iload rfl rfl rfl ?_
    refine Y_callV (as := [.int vz2]) (st := []) rfl rfl rfl (by decide) rfl (Nat.le_of_ble_eq_true rfl) (by decide) (Nat.le_of_ble_eq_true rfl) rfl ((congrFun V.1 342).trans s_342) (by decide) (C_X1_passMornings V vz2 vz2.toInt rfl ) ?_
    rintro _ g ⟨vr32, rfl, V, hq⟩
    have hG := hq.trans hG
    refine X_iload rfl rfl rfl ?_
    refine S_icmp_ne (tgt := 232) rfl rfl rfl rfl rfl (fun vh33 => ?_) (fun vh33 => ?_)
    · refine X_iconst (v := (0 : Int32)) rfl rfl rfl ?_
      exact LW_ireturn (st := []) rfl rfl rfl ⟨_, rfl, by decide, by decide, V, hG⟩
    · refine X_iconst (v := (1 : Int32)) rfl rfl rfl ?_
      refine LW_goto (tgt := 233) rfl rfl ?_
      exact LW_ireturn (st := []) rfl rfl rfl ⟨_, rfl, by decide, by decide, V, hG⟩
  refine S_tableOut (tgt := 234) rfl rfl (by omega) rfl ?_
  refine X_iconst (v := (0 : Int32)) rfl rfl rfl ?_
  exact LW_ireturn (st := []) rfl rfl rfl ⟨_, rfl, by decide, by decide, V, hG⟩
