/-! the class's methods: each returns and keeps what every state keeps -/
set_option maxRecDepth 10000 in
set_option maxHeartbeats 40000000 in
theorem C_X12_back {P : Par} {g : LH} {d : Nat}  (V : Inv P g)    : LW 164 (d + 17) 0 0 0 (lEnt (mL 164) [.ref 0]) [] g (fun v g' => ∃ r : Int32, v = some (.int r) ∧ 0 ≤ r.toInt ∧ r.toInt ≤ 999 ∧ Inv (P.2.1, P.2.1, P.2.2) g' ∧ Gr g' = Gr g) := by
  refine LW_ls (ls' := [some (.ref 0)]) rfl ?_
  have hG : Gr g = Gr g := rfl
  refine X_aload_n rfl rfl rfl rfl ?_
  refine X_getR (a := 1) rfl rfl rfl ((congrFun V.1 0).trans s_0) rfl ((congrFun (V.2.1 0 (by decide)) 0).trans r_0_0) ?_
  refine X_aload_n rfl rfl rfl rfl ?_
  refine X_getR (a := 146) rfl rfl rfl ((congrFun V.1 0).trans s_0) rfl ((congrFun (V.2.1 0 (by decide)) 1).trans r_0_1) ?_
  refine Y_callV (as := [.ref 146]) (st := []) rfl rfl rfl (by decide) rfl (Nat.le_of_ble_eq_true rfl) (by decide) (Nat.le_of_ble_eq_true rfl) rfl ((congrFun V.1 1).trans s_1) (by decide) (C_X2_copyFrom_1_146 V  ) ?_
  rintro _ g ⟨rfl, V, hq⟩
  have hG := hq.trans hG
  refine X_aload_n rfl rfl rfl rfl ?_
  refine X_getR (a := 1) rfl rfl rfl ((congrFun V.1 0).trans s_0) rfl ((congrFun (V.2.1 0 (by decide)) 0).trans r_0_0) ?_
  refine X_getR (a := 10) rfl rfl rfl ((congrFun V.1 1).trans s_1) rfl ((congrFun (V.2.1 1 (by decide)) 1).trans r_1_1) ?_
  refine S_getI rfl rfl rfl ((congrFun V.1 10).trans s_10) rfl (fun vz2 evz2 => ?_)
  have vf3 := K_11_1 (V.2.2.2.2.1 (10) (1) (Nat.le_of_ble_eq_true rfl)) rk_10
  rw [evz2] at vf3
  have V : Inv (P.2.1, P.2.1, P.2.2) _ := V
  have hr := (rfl : vz2.toInt = vz2.toInt)
  exact LW_ireturn (st := []) rfl rfl rfl ⟨_, rfl, by omega, by omega, V, hG⟩
set_option maxRecDepth 10000 in
set_option maxHeartbeats 40000000 in
theorem C_X12_about {P : Par} {g : LH} {d : Nat}  (V : Inv P g) (x1 : Int32) (y1 : Int) (hx1 : x1.toInt = y1)   : LW 165 (d + 11) 0 0 0 (lEnt (mL 165) [.ref 0, .int x1]) [] g (fun v g' => ∃ r : Int32, v = some (.int r) ∧ g = g') := by
  refine LW_ls (ls' := [some (.ref 0), some (.int x1)]) rfl ?_
  refine X_iload_n rfl rfl rfl rfl ?_
  by_cases vh1 : y1 = 0
  · refine S_tableIn (tgt := 64) (c := 0) rfl (hx1.trans vh1) (by decide) (by decide) rfl rfl ?_
    refine X_aload_n rfl rfl rfl rfl ?_
    refine X_getR (a := 1) rfl rfl rfl ((congrFun V.1 0).trans s_0) rfl ((congrFun (V.2.1 0 (by decide)) 0).trans r_0_0) ?_
    refine X_getR (a := 2) rfl rfl rfl ((congrFun V.1 1).trans s_1) rfl ((congrFun (V.2.1 1 (by decide)) 0).trans r_1_0) ?_
    refine S_getI rfl rfl rfl ((congrFun V.1 2).trans s_2) rfl (fun vz2 evz2 => ?_)
    have vf3 := K_10_0 (V.2.2.2.2.1 (2) (0) (Nat.le_of_ble_eq_true rfl)) rk_2
    rw [evz2] at vf3
    exact LW_ireturn (st := []) rfl rfl rfl ⟨_, rfl, rfl⟩
  by_cases vh4 : y1 = 1
  · refine S_tableIn (tgt := 75) (c := 1) rfl (hx1.trans vh4) (by decide) (by decide) rfl rfl ?_
    refine X_aload_n rfl rfl rfl rfl ?_
    refine X_getR (a := 1) rfl rfl rfl ((congrFun V.1 0).trans s_0) rfl ((congrFun (V.2.1 0 (by decide)) 0).trans r_0_0) ?_
    refine X_getR (a := 2) rfl rfl rfl ((congrFun V.1 1).trans s_1) rfl ((congrFun (V.2.1 1 (by decide)) 0).trans r_1_0) ?_
    refine S_getI rfl rfl rfl ((congrFun V.1 2).trans s_2) rfl (fun vz5 evz5 => ?_)
    have vf6 := K_10_1 (V.2.2.2.2.1 (2) (1) (Nat.le_of_ble_eq_true rfl)) rk_2
    rw [evz5] at vf6
    exact LW_ireturn (st := []) rfl rfl rfl ⟨_, rfl, rfl⟩
  by_cases vh7 : y1 = 2
  · refine S_tableIn (tgt := 86) (c := 2) rfl (hx1.trans vh7) (by decide) (by decide) rfl rfl ?_
    refine X_aload_n rfl rfl rfl rfl ?_
    refine X_getR (a := 1) rfl rfl rfl ((congrFun V.1 0).trans s_0) rfl ((congrFun (V.2.1 0 (by decide)) 0).trans r_0_0) ?_
    refine X_getR (a := 10) rfl rfl rfl ((congrFun V.1 1).trans s_1) rfl ((congrFun (V.2.1 1 (by decide)) 1).trans r_1_1) ?_
    refine S_getI rfl rfl rfl ((congrFun V.1 10).trans s_10) rfl (fun vz8 evz8 => ?_)
    have vf9 := K_11_1 (V.2.2.2.2.1 (10) (1) (Nat.le_of_ble_eq_true rfl)) rk_10
    rw [evz8] at vf9
    exact LW_ireturn (st := []) rfl rfl rfl ⟨_, rfl, rfl⟩
  by_cases vh10 : y1 = 3
  · refine S_tableIn (tgt := 97) (c := 3) rfl (hx1.trans vh10) (by decide) (by decide) rfl rfl ?_
    refine X_aload_n rfl rfl rfl rfl ?_
    refine X_getR (a := 1) rfl rfl rfl ((congrFun V.1 0).trans s_0) rfl ((congrFun (V.2.1 0 (by decide)) 0).trans r_0_0) ?_
    refine X_getR (a := 10) rfl rfl rfl ((congrFun V.1 1).trans s_1) rfl ((congrFun (V.2.1 1 (by decide)) 1).trans r_1_1) ?_
    refine S_getI rfl rfl rfl ((congrFun V.1 10).trans s_10) rfl (fun vz11 evz11 => ?_)
    exact LW_ireturn (st := []) rfl rfl rfl ⟨_, rfl, rfl⟩
  by_cases vh12 : y1 = 4
  · refine S_tableIn (tgt := 108) (c := 4) rfl (hx1.trans vh12) (by decide) (by decide) rfl rfl ?_
    refine X_aload_n rfl rfl rfl rfl ?_
    refine X_getR (a := 1) rfl rfl rfl ((congrFun V.1 0).trans s_0) rfl ((congrFun (V.2.1 0 (by decide)) 0).trans r_0_0) ?_
    refine S_getI rfl rfl rfl ((congrFun V.1 1).trans s_1) rfl (fun vz13 evz13 => ?_)
    have vf14 := K_13_5 (V.2.2.2.2.1 (1) (5) (Nat.le_of_ble_eq_true rfl)) rk_1
    rw [evz13] at vf14
    exact LW_ireturn (st := []) rfl rfl rfl ⟨_, rfl, rfl⟩
  by_cases vh15 : y1 = 5
  · refine S_tableIn (tgt := 116) (c := 5) rfl (hx1.trans vh15) (by decide) (by decide) rfl rfl ?_
    refine X_aload_n rfl rfl rfl rfl ?_
    refine X_getR (a := 1) rfl rfl rfl ((congrFun V.1 0).trans s_0) rfl ((congrFun (V.2.1 0 (by decide)) 0).trans r_0_0) ?_
    refine S_getI rfl rfl rfl ((congrFun V.1 1).trans s_1) rfl (fun vz16 evz16 => ?_)
    have vf17 := K_13_6 (V.2.2.2.2.1 (1) (6) (Nat.le_of_ble_eq_true rfl)) rk_1
    rw [evz16] at vf17
    exact LW_ireturn (st := []) rfl rfl rfl ⟨_, rfl, rfl⟩
  by_cases vh18 : y1 = 6
  · refine S_tableIn (tgt := 124) (c := 6) rfl (hx1.trans vh18) (by decide) (by decide) rfl rfl ?_
    refine X_aload_n rfl rfl rfl rfl ?_
    refine X_getR (a := 1) rfl rfl rfl ((congrFun V.1 0).trans s_0) rfl ((congrFun (V.2.1 0 (by decide)) 0).trans r_0_0) ?_
    refine X_getR (a := 14) rfl rfl rfl ((congrFun V.1 1).trans s_1) rfl ((congrFun (V.2.1 1 (by decide)) 2).trans r_1_2) ?_
    refine S_getI rfl rfl rfl ((congrFun V.1 14).trans s_14) rfl (fun vz19 evz19 => ?_)
    have vf20 := K_12_0 (V.2.2.2.2.1 (14) (0) (Nat.le_of_ble_eq_true rfl)) rk_14
    rw [evz19] at vf20
    exact LW_ireturn (st := []) rfl rfl rfl ⟨_, rfl, rfl⟩
  by_cases vh21 : y1 = 7
  · refine S_tableIn (tgt := 135) (c := 7) rfl (hx1.trans vh21) (by decide) (by decide) rfl rfl ?_
    refine X_aload_n rfl rfl rfl rfl ?_
    refine X_getR (a := 1) rfl rfl rfl ((congrFun V.1 0).trans s_0) rfl ((congrFun (V.2.1 0 (by decide)) 0).trans r_0_0) ?_
    refine X_getR (a := 10) rfl rfl rfl ((congrFun V.1 1).trans s_1) rfl ((congrFun (V.2.1 1 (by decide)) 1).trans r_1_1) ?_
    refine S_getI rfl rfl rfl ((congrFun V.1 10).trans s_10) rfl (fun vz22 evz22 => ?_)
    exact LW_ireturn (st := []) rfl rfl rfl ⟨_, rfl, rfl⟩
  by_cases vh23 : y1 = 8
  · refine S_tableIn (tgt := 146) (c := 8) rfl (hx1.trans vh23) (by decide) (by decide) rfl rfl ?_
    refine X_aload_n rfl rfl rfl rfl ?_
    refine X_getR (a := 1) rfl rfl rfl ((congrFun V.1 0).trans s_0) rfl ((congrFun (V.2.1 0 (by decide)) 0).trans r_0_0) ?_
    refine S_getI rfl rfl rfl ((congrFun V.1 1).trans s_1) rfl (fun vz24 evz24 => ?_)
    have vf25 := K_13_7 (V.2.2.2.2.1 (1) (7) (Nat.le_of_ble_eq_true rfl)) rk_1
    rw [evz24] at vf25
    have pvz24 := V.2.2.2.2.2.2.1
    rw [evz24] at pvz24
    exact LW_ireturn (st := []) rfl rfl rfl ⟨_, rfl, rfl⟩
  by_cases vh26 : y1 = 9
  · refine S_tableIn (tgt := 154) (c := 9) rfl (hx1.trans vh26) (by decide) (by decide) rfl rfl ?_
    refine X_aload_n rfl rfl rfl rfl ?_
    refine X_getR (a := 1) rfl rfl rfl ((congrFun V.1 0).trans s_0) rfl ((congrFun (V.2.1 0 (by decide)) 0).trans r_0_0) ?_
    refine S_getI rfl rfl rfl ((congrFun V.1 1).trans s_1) rfl (fun vz27 evz27 => ?_)
    have vf28 := K_13_9 (V.2.2.2.2.1 (1) (9) (Nat.le_of_ble_eq_true rfl)) rk_1
    rw [evz27] at vf28
    exact LW_ireturn (st := []) rfl rfl rfl ⟨_, rfl, rfl⟩
  by_cases vh29 : y1 = 10
  · refine S_tableIn (tgt := 162) (c := 10) rfl (hx1.trans vh29) (by decide) (by decide) rfl rfl ?_
    refine X_aload_n rfl rfl rfl rfl ?_
    refine X_getR (a := 332) rfl rfl rfl ((congrFun V.1 0).trans s_0) rfl ((congrFun (V.2.1 0 (by decide)) 3).trans r_0_3) ?_
    refine S_getI rfl rfl rfl ((congrFun V.1 332).trans s_332) rfl (fun vz30 evz30 => ?_)
    have vf31 := K_16_0 (V.2.2.2.2.1 (332) (0) (Nat.le_of_ble_eq_true rfl)) rk_332
    rw [evz30] at vf31
    exact LW_ireturn (st := []) rfl rfl rfl ⟨_, rfl, rfl⟩
  by_cases vh32 : y1 = 11
  · refine S_tableIn (tgt := 170) (c := 11) rfl (hx1.trans vh32) (by decide) (by decide) rfl rfl ?_
    refine X_aload_n rfl rfl rfl rfl ?_
    refine X_getR (a := 1) rfl rfl rfl ((congrFun V.1 0).trans s_0) rfl ((congrFun (V.2.1 0 (by decide)) 0).trans r_0_0) ?_
    refine X_getR (a := 10) rfl rfl rfl ((congrFun V.1 1).trans s_1) rfl ((congrFun (V.2.1 1 (by decide)) 1).trans r_1_1) ?_
    refine Y_callV (as := []) (st := []) rfl rfl rfl (by decide) rfl (Nat.le_of_ble_eq_true rfl) (by decide) (Nat.le_of_ble_eq_true rfl) rfl ((congrFun V.1 10).trans s_10) (by decide) (C_X9_outs V  ) ?_
    rintro _ g' ⟨vr33, rfl, hrvr330, hrvr331, hgg⟩
    subst hgg
    exact LW_ireturn (st := []) rfl rfl rfl ⟨_, rfl, rfl⟩
  refine S_tableOut (tgt := 181) rfl hx1 (by omega) rfl ?_
  refine X_bipush (v := (-2 : Int32)) rfl rfl rfl ?_
  exact LW_ireturn (st := []) rfl rfl rfl ⟨_, rfl, rfl⟩
