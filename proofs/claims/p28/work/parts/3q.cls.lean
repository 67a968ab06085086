/-! the class's methods: each returns and keeps what every state keeps -/
set_option maxRecDepth 10000 in
set_option maxHeartbeats 40000000 in
theorem C_X2_copyFrom_1_146 {P : Par} {g : LH} {d : Nat}  (V : Inv P g)    : LW 20 (d + 11) 0 0 0 (lEnt (mL 20) [.ref 1, .ref 146]) [] g (fun v g' => v = none ∧ Inv (P.2.1, P.2.1, P.2.2) g' ∧ Gr g' = Gr g) := by
  refine LW_ls (ls' := [some (.ref 1), some (.ref 146)]) rfl ?_
  have hG : Gr g = Gr g := rfl
  refine X_aload_n rfl rfl rfl rfl ?_
  refine X_getR (a := 2) rfl rfl rfl ((congrFun V.1 1).trans s_1) rfl ((congrFun (V.2.1 1 (by decide)) 0).trans r_1_0) ?_
  refine X_aload_n rfl rfl rfl rfl ?_
  refine X_getR (a := 147) rfl rfl rfl ((congrFun V.1 146).trans s_146) rfl ((congrFun (V.2.1 146 (by decide)) 0).trans r_146_0) ?_
  refine Y_callV (as := [.ref 147]) (st := []) rfl rfl rfl (by decide) rfl (Nat.le_of_ble_eq_true rfl) (by decide) (Nat.le_of_ble_eq_true rfl) rfl ((congrFun V.1 2).trans s_2) (by decide) (C_X5_copyFrom_2_147 V  ) ?_
  rintro _ g ⟨rfl, V, hq⟩
  have hG := hq.trans hG
  refine X_aload_n rfl rfl rfl rfl ?_
  refine X_getR (a := 10) rfl rfl rfl ((congrFun V.1 1).trans s_1) rfl ((congrFun (V.2.1 1 (by decide)) 1).trans r_1_1) ?_
  refine X_aload_n rfl rfl rfl rfl ?_
  refine X_getR (a := 155) rfl rfl rfl ((congrFun V.1 146).trans s_146) rfl ((congrFun (V.2.1 146 (by decide)) 1).trans r_146_1) ?_
  refine X_callV (as := [.ref 155]) (st := []) rfl rfl rfl (by decide) rfl (Nat.le_of_ble_eq_true rfl) (by decide) (Nat.le_of_ble_eq_true rfl) rfl ((congrFun V.1 10).trans s_10) (by decide) ?_
  refine LW_ls (ls' := [some (.ref 10), some (.ref 155)]) rfl ?_
  refine X_aload_n rfl rfl rfl rfl ?_
  refine X_aload_n rfl rfl rfl rfl ?_
  refine S_getI rfl rfl rfl ((congrFun V.1 155).trans s_155) rfl (fun vz2 evz2 => ?_)
  refine S_putI (I := Inv _) rfl rfl rfl ((congrFun V.1 10).trans s_10) rfl rfl rfl rfl (Inv_putI V (Nat.le_of_ble_eq_true rfl) (Or.inl (by decide)) (Q_11_0 rk_10)) (fun g V ve3 vn4 hq => ?_)
  have hG := hq.trans hG
  have evz2 := (vn4 (155) 0 (Or.inl (by decide))).trans evz2
  refine X_aload_n rfl rfl rfl rfl ?_
  refine X_aload_n rfl rfl rfl rfl ?_
  refine S_getI rfl rfl rfl ((congrFun V.1 155).trans s_155) rfl (fun vz5 evz5 => ?_)
  refine S_putI (I := Inv _) rfl rfl rfl ((congrFun V.1 10).trans s_10) rfl rfl rfl rfl (Inv_putI V (Nat.le_of_ble_eq_true rfl) (Or.inl (by decide)) (Q_11_1 rk_10)) (fun g V ve6 vn7 hq => ?_)
  have hG := hq.trans hG
  have evz2 := (vn7 (155) 0 (Or.inl (by decide))).trans evz2
  have ve3 := (vn7 (10) 0 (Or.inr (by decide))).trans ve3
  have evz5 := (vn7 (155) 1 (Or.inl (by decide))).trans evz5
  refine X_aload_n rfl rfl rfl rfl ?_
  refine X_aload_n rfl rfl rfl rfl ?_
  refine S_getI rfl rfl rfl ((congrFun V.1 155).trans s_155) rfl (fun vz8 evz8 => ?_)
  refine S_putI (I := Inv _) rfl rfl rfl ((congrFun V.1 10).trans s_10) rfl rfl rfl rfl (Inv_putI V (Nat.le_of_ble_eq_true rfl) (Or.inl (by decide)) (Q_11_2 rk_10)) (fun g V ve9 vn10 hq => ?_)
  have hG := hq.trans hG
  have evz2 := (vn10 (155) 0 (Or.inl (by decide))).trans evz2
  have ve3 := (vn10 (10) 0 (Or.inr (by decide))).trans ve3
  have evz5 := (vn10 (155) 1 (Or.inl (by decide))).trans evz5
  have ve6 := (vn10 (10) 1 (Or.inr (by decide))).trans ve6
  have evz8 := (vn10 (155) 2 (Or.inl (by decide))).trans evz8
  refine X_aload_n rfl rfl rfl rfl ?_
  refine X_aload_n rfl rfl rfl rfl ?_
  refine S_getI rfl rfl rfl ((congrFun V.1 155).trans s_155) rfl (fun vz11 evz11 => ?_)
  have vf12 := K_11_3 (V.2.2.2.2.1 (155) (3) (Nat.le_of_ble_eq_true rfl)) rk_155
  rw [evz11] at vf12
  refine S_putI (I := Inv _) rfl rfl rfl ((congrFun V.1 10).trans s_10) rfl rfl rfl rfl (Inv_putI V (Nat.le_of_ble_eq_true rfl) (Or.inl (by decide)) (Q_11_3 rk_10 (by omega))) (fun g V ve13 vn14 hq => ?_)
  have hG := hq.trans hG
  have evz2 := (vn14 (155) 0 (Or.inl (by decide))).trans evz2
  have ve3 := (vn14 (10) 0 (Or.inr (by decide))).trans ve3
  have evz5 := (vn14 (155) 1 (Or.inl (by decide))).trans evz5
  have ve6 := (vn14 (10) 1 (Or.inr (by decide))).trans ve6
  have evz8 := (vn14 (155) 2 (Or.inl (by decide))).trans evz8
  have ve9 := (vn14 (10) 2 (Or.inr (by decide))).trans ve9
  have evz11 := (vn14 (155) 3 (Or.inl (by decide))).trans evz11
  refine X_aload_n rfl rfl rfl rfl ?_
  refine X_getR (a := 156) rfl rfl rfl ((congrFun V.1 155).trans s_155) rfl ((congrFun (V.2.1 155 (by decide)) 4).trans r_155_4) ?_
  refine X_iconst (v := (0 : Int32)) rfl rfl rfl ?_
  refine X_aload_n rfl rfl rfl rfl ?_
  refine X_getR (a := 11) rfl rfl rfl ((congrFun V.1 10).trans s_10) rfl ((congrFun (V.2.1 10 (by decide)) 4).trans r_10_4) ?_
  refine X_iconst (v := (0 : Int32)) rfl rfl rfl ?_
  refine X_bipush (v := (26 : Int32)) rfl rfl rfl ?_
  refine S_copy (I := Inv _) (sp' := 0) (dp' := 0) (n' := 26) rfl rfl rfl ((congrFun V.1 156).trans s_156) ((congrFun V.1 11).trans s_11) (by decide) (by decide) (by decide) rfl rfl rfl (by decide) (by decide) (Nat.le_of_ble_eq_true rfl) (Inv_cpy V (Nat.le_of_ble_eq_true rfl) (Nat.le_of_ble_eq_true rfl) (by omega) (U_0 rk_156 rk_11)) (fun g V vn15 hq => ?_)
  have hG := hq.trans hG
  have evz2 := (vn15 (155) 0 (by decide)).trans evz2
  have ve3 := (vn15 (10) 0 (by decide)).trans ve3
  have evz5 := (vn15 (155) 1 (by decide)).trans evz5
  have ve6 := (vn15 (10) 1 (by decide)).trans ve6
  have evz8 := (vn15 (155) 2 (by decide)).trans evz8
  have ve9 := (vn15 (10) 2 (by decide)).trans ve9
  have evz11 := (vn15 (155) 3 (by decide)).trans evz11
  have ve13 := (vn15 (10) 3 (by decide)).trans ve13
  refine X_aload_n rfl rfl rfl rfl ?_
  refine X_getR (a := 157) rfl rfl rfl ((congrFun V.1 155).trans s_155) rfl ((congrFun (V.2.1 155 (by decide)) 5).trans r_155_5) ?_
  refine X_iconst (v := (0 : Int32)) rfl rfl rfl ?_
  refine X_aload_n rfl rfl rfl rfl ?_
  refine X_getR (a := 12) rfl rfl rfl ((congrFun V.1 10).trans s_10) rfl ((congrFun (V.2.1 10 (by decide)) 5).trans r_10_5) ?_
  refine X_iconst (v := (0 : Int32)) rfl rfl rfl ?_
  refine X_bipush (v := (26 : Int32)) rfl rfl rfl ?_
  refine S_copy (I := Inv _) (sp' := 0) (dp' := 0) (n' := 26) rfl rfl rfl ((congrFun V.1 157).trans s_157) ((congrFun V.1 12).trans s_12) (by decide) (by decide) (by decide) rfl rfl rfl (by decide) (by decide) (Nat.le_of_ble_eq_true rfl) (Inv_cpy V (Nat.le_of_ble_eq_true rfl) (Nat.le_of_ble_eq_true rfl) (by omega) (U_0 rk_157 rk_12)) (fun g V vn16 hq => ?_)
  have hG := hq.trans hG
  have evz2 := (vn16 (155) 0 (by decide)).trans evz2
  have ve3 := (vn16 (10) 0 (by decide)).trans ve3
  have evz5 := (vn16 (155) 1 (by decide)).trans evz5
  have ve6 := (vn16 (10) 1 (by decide)).trans ve6
  have evz8 := (vn16 (155) 2 (by decide)).trans evz8
  have ve9 := (vn16 (10) 2 (by decide)).trans ve9
  have evz11 := (vn16 (155) 3 (by decide)).trans evz11
  have ve13 := (vn16 (10) 3 (by decide)).trans ve13
  refine X_aload_n rfl rfl rfl rfl ?_
  refine X_getR (a := 158) rfl rfl rfl ((congrFun V.1 155).trans s_155) rfl ((congrFun (V.2.1 155 (by decide)) 6).trans r_155_6) ?_
  refine X_iconst (v := (0 : Int32)) rfl rfl rfl ?_
  refine X_aload_n rfl rfl rfl rfl ?_
  refine X_getR (a := 13) rfl rfl rfl ((congrFun V.1 10).trans s_10) rfl ((congrFun (V.2.1 10 (by decide)) 6).trans r_10_6) ?_
  refine X_iconst (v := (0 : Int32)) rfl rfl rfl ?_
  refine X_bipush (v := (26 : Int32)) rfl rfl rfl ?_
  refine S_copy (I := Inv _) (sp' := 0) (dp' := 0) (n' := 26) rfl rfl rfl ((congrFun V.1 158).trans s_158) ((congrFun V.1 13).trans s_13) (by decide) (by decide) (by decide) rfl rfl rfl (by decide) (by decide) (Nat.le_of_ble_eq_true rfl) (Inv_cpy V (Nat.le_of_ble_eq_true rfl) (Nat.le_of_ble_eq_true rfl) (by omega) (U_0 rk_158 rk_13)) (fun g V vn17 hq => ?_)
  have hG := hq.trans hG
  have evz2 := (vn17 (155) 0 (by decide)).trans evz2
  have ve3 := (vn17 (10) 0 (by decide)).trans ve3
  have evz5 := (vn17 (155) 1 (by decide)).trans evz5
  have ve6 := (vn17 (10) 1 (by decide)).trans ve6
  have evz8 := (vn17 (155) 2 (by decide)).trans evz8
  have ve9 := (vn17 (10) 2 (by decide)).trans ve9
  have evz11 := (vn17 (155) 3 (by decide)).trans evz11
  have ve13 := (vn17 (10) 3 (by decide)).trans ve13
  refine LW_return (st := []) rfl rfl ?_
  refine X_aload_n rfl rfl rfl rfl ?_
  refine X_getR (a := 14) rfl rfl rfl ((congrFun V.1 1).trans s_1) rfl ((congrFun (V.2.1 1 (by decide)) 2).trans r_1_2) ?_
  refine X_aload_n rfl rfl rfl rfl ?_
  refine X_getR (a := 159) rfl rfl rfl ((congrFun V.1 146).trans s_146) rfl ((congrFun (V.2.1 146 (by decide)) 2).trans r_146_2) ?_
  refine Y_callV (as := [.ref 159]) (st := []) rfl rfl rfl (by decide) rfl (Nat.le_of_ble_eq_true rfl) (by decide) (Nat.le_of_ble_eq_true rfl) rfl ((congrFun V.1 14).trans s_14) (by decide) (C_X3_copyFrom_14_159 V  ) ?_
  rintro _ g ⟨rfl, V, hq⟩
  have hG := hq.trans hG
  refine X_aload_n rfl rfl rfl rfl ?_
  refine X_getR (a := 136) rfl rfl rfl ((congrFun V.1 1).trans s_1) rfl ((congrFun (V.2.1 1 (by decide)) 3).trans r_1_3) ?_
  refine X_aload_n rfl rfl rfl rfl ?_
  refine X_getR (a := 281) rfl rfl rfl ((congrFun V.1 146).trans s_146) rfl ((congrFun (V.2.1 146 (by decide)) 3).trans r_146_3) ?_
  refine Y_callV (as := [.ref 281]) (st := []) rfl rfl rfl (by decide) rfl (Nat.le_of_ble_eq_true rfl) (by decide) (Nat.le_of_ble_eq_true rfl) rfl ((congrFun V.1 136).trans s_136) (by decide) (C_X0_copyFrom_136_281 V  ) ?_
  rintro _ g ⟨rfl, V, hq⟩
  have hG := hq.trans hG
  refine X_aload_n rfl rfl rfl rfl ?_
  refine X_getR (a := 286) rfl rfl rfl ((congrFun V.1 146).trans s_146) rfl ((congrFun (V.2.1 146 (by decide)) 4).trans r_146_4) ?_
  refine X_iconst (v := (0 : Int32)) rfl rfl rfl ?_
  refine X_aload_n rfl rfl rfl rfl ?_
  refine X_getR (a := 141) rfl rfl rfl ((congrFun V.1 1).trans s_1) rfl ((congrFun (V.2.1 1 (by decide)) 4).trans r_1_4) ?_
  refine X_iconst (v := (0 : Int32)) rfl rfl rfl ?_
  refine X_bipush (v := (26 : Int32)) rfl rfl rfl ?_
  refine S_copy (I := Inv _) (sp' := 0) (dp' := 0) (n' := 26) rfl rfl rfl ((congrFun V.1 286).trans s_286) ((congrFun V.1 141).trans s_141) (by decide) (by decide) (by decide) rfl rfl rfl (by decide) (by decide) (Nat.le_of_ble_eq_true rfl) (Inv_cpy V (Nat.le_of_ble_eq_true rfl) (Nat.le_of_ble_eq_true rfl) (by omega) (U_0 rk_286 rk_141)) (fun g V vn20 hq => ?_)
  have hG := hq.trans hG
  refine X_aload_n rfl rfl rfl rfl ?_
  refine X_aload_n rfl rfl rfl rfl ?_
  refine S_getI rfl rfl rfl ((congrFun V.1 146).trans s_146) rfl (fun vz21 evz21 => ?_)
  have vf22 := K_14_5 (V.2.2.2.2.1 (146) (5) (Nat.le_of_ble_eq_true rfl)) rk_146
  rw [evz21] at vf22
  refine S_putI (I := Inv _) rfl rfl rfl ((congrFun V.1 1).trans s_1) rfl rfl rfl rfl (Inv_putI V (Nat.le_of_ble_eq_true rfl) (Or.inr (by decide)) (Q_13_5 rk_1 (by omega))) (fun g V ve23 vn24 hq => ?_)
  have hG := hq.trans hG
  have evz21 := (vn24 (146) 5 (Or.inl (by decide))).trans evz21
  refine X_aload_n rfl rfl rfl rfl ?_
  refine X_aload_n rfl rfl rfl rfl ?_
  refine S_getI rfl rfl rfl ((congrFun V.1 146).trans s_146) rfl (fun vz25 evz25 => ?_)
  have vf26 := K_14_6 (V.2.2.2.2.1 (146) (6) (Nat.le_of_ble_eq_true rfl)) rk_146
  rw [evz25] at vf26
  refine S_putI (I := Inv _) rfl rfl rfl ((congrFun V.1 1).trans s_1) rfl rfl rfl rfl (Inv_putI V (Nat.le_of_ble_eq_true rfl) (Or.inr (by decide)) (Q_13_6 rk_1 (by omega))) (fun g V ve27 vn28 hq => ?_)
  have hG := hq.trans hG
  have evz21 := (vn28 (146) 5 (Or.inl (by decide))).trans evz21
  have ve23 := (vn28 (1) 5 (Or.inr (by decide))).trans ve23
  have evz25 := (vn28 (146) 6 (Or.inl (by decide))).trans evz25
  refine X_aload_n rfl rfl rfl rfl ?_
  refine X_aload_n rfl rfl rfl rfl ?_
  refine S_getI rfl rfl rfl ((congrFun V.1 146).trans s_146) rfl (fun vz29 evz29 => ?_)
  have vf30 := K_14_7 (V.2.2.2.2.1 (146) (7) (Nat.le_of_ble_eq_true rfl)) rk_146
  rw [evz29] at vf30
  have pvz29 := V.2.2.2.2.2.2.2
  rw [evz29] at pvz29
  refine S_putI (I := Inv _) rfl rfl rfl ((congrFun V.1 1).trans s_1) rfl rfl rfl rfl (Inv_parN V (n := P.2.1) (by omega) (by omega)) (fun g V ve31 vn32 hq => ?_)
  have hG := hq.trans hG
  have evz21 := (vn32 (146) 5 (Or.inl (by decide))).trans evz21
  have ve23 := (vn32 (1) 5 (Or.inr (by decide))).trans ve23
  have evz25 := (vn32 (146) 6 (Or.inl (by decide))).trans evz25
  have ve27 := (vn32 (1) 6 (Or.inr (by decide))).trans ve27
  have evz29 := (vn32 (146) 7 (Or.inl (by decide))).trans evz29
  refine X_aload_n rfl rfl rfl rfl ?_
  refine X_getR (a := 287) rfl rfl rfl ((congrFun V.1 146).trans s_146) rfl ((congrFun (V.2.1 146 (by decide)) 8).trans r_146_8) ?_
  refine X_iconst (v := (0 : Int32)) rfl rfl rfl ?_
  refine X_aload_n rfl rfl rfl rfl ?_
  refine X_getR (a := 142) rfl rfl rfl ((congrFun V.1 1).trans s_1) rfl ((congrFun (V.2.1 1 (by decide)) 8).trans r_1_8) ?_
  refine X_iconst (v := (0 : Int32)) rfl rfl rfl ?_
  refine X_iconst (v := (4 : Int32)) rfl rfl rfl ?_
  refine S_copy (I := Inv _) (sp' := 0) (dp' := 0) (n' := 4) rfl rfl rfl ((congrFun V.1 287).trans s_287) ((congrFun V.1 142).trans s_142) (by decide) (by decide) (by decide) rfl rfl rfl (by decide) (by decide) (Nat.le_of_ble_eq_true rfl) (Inv_cpy V (Nat.le_of_ble_eq_true rfl) (Nat.le_of_ble_eq_true rfl) (by omega) (U_0 rk_287 rk_142)) (fun g V vn33 hq => ?_)
  have hG := hq.trans hG
  have evz21 := (vn33 (146) 5 (by decide)).trans evz21
  have ve23 := (vn33 (1) 5 (by decide)).trans ve23
  have evz25 := (vn33 (146) 6 (by decide)).trans evz25
  have ve27 := (vn33 (1) 6 (by decide)).trans ve27
  have evz29 := (vn33 (146) 7 (by decide)).trans evz29
  have ve31 := (vn33 (1) 7 (by decide)).trans ve31
  refine X_aload_n rfl rfl rfl rfl ?_
  refine X_aload_n rfl rfl rfl rfl ?_
  refine S_getI rfl rfl rfl ((congrFun V.1 146).trans s_146) rfl (fun vz34 evz34 => ?_)
  have vf35 := K_14_9 (V.2.2.2.2.1 (146) (9) (Nat.le_of_ble_eq_true rfl)) rk_146
  rw [evz34] at vf35
  refine S_putI (I := Inv _) rfl rfl rfl ((congrFun V.1 1).trans s_1) rfl rfl rfl rfl (Inv_putI V (Nat.le_of_ble_eq_true rfl) (Or.inr (by decide)) (Q_13_9 rk_1 (by omega))) (fun g V ve36 vn37 hq => ?_)
  have hG := hq.trans hG
  have evz21 := (vn37 (146) 5 (Or.inl (by decide))).trans evz21
  have ve23 := (vn37 (1) 5 (Or.inr (by decide))).trans ve23
  have evz25 := (vn37 (146) 6 (Or.inl (by decide))).trans evz25
  have ve27 := (vn37 (1) 6 (Or.inr (by decide))).trans ve27
  have evz29 := (vn37 (146) 7 (Or.inl (by decide))).trans evz29
  have ve31 := (vn37 (1) 7 (Or.inr (by decide))).trans ve31
  have evz34 := (vn37 (146) 9 (Or.inl (by decide))).trans evz34
  refine X_aload_n rfl rfl rfl rfl ?_
  refine X_getR (a := 288) rfl rfl rfl ((congrFun V.1 146).trans s_146) rfl ((congrFun (V.2.1 146 (by decide)) 10).trans r_146_10) ?_
  refine X_iconst (v := (0 : Int32)) rfl rfl rfl ?_
  refine X_aload_n rfl rfl rfl rfl ?_
  refine X_getR (a := 143) rfl rfl rfl ((congrFun V.1 1).trans s_1) rfl ((congrFun (V.2.1 1 (by decide)) 10).trans r_1_10) ?_
  refine X_iconst (v := (0 : Int32)) rfl rfl rfl ?_
  refine X_bipush (v := (12 : Int32)) rfl rfl rfl ?_
  refine S_copy (I := Inv _) (sp' := 0) (dp' := 0) (n' := 12) rfl rfl rfl ((congrFun V.1 288).trans s_288) ((congrFun V.1 143).trans s_143) (by decide) (by decide) (by decide) rfl rfl rfl (by decide) (by decide) (Nat.le_of_ble_eq_true rfl) (Inv_cpy V (Nat.le_of_ble_eq_true rfl) (Nat.le_of_ble_eq_true rfl) (by omega) (U_4 rk_288 rk_143)) (fun g V vn38 hq => ?_)
  have hG := hq.trans hG
  have evz21 := (vn38 (146) 5 (by decide)).trans evz21
  have ve23 := (vn38 (1) 5 (by decide)).trans ve23
  have evz25 := (vn38 (146) 6 (by decide)).trans evz25
  have ve27 := (vn38 (1) 6 (by decide)).trans ve27
  have evz29 := (vn38 (146) 7 (by decide)).trans evz29
  have ve31 := (vn38 (1) 7 (by decide)).trans ve31
  have evz34 := (vn38 (146) 9 (by decide)).trans evz34
  have ve36 := (vn38 (1) 9 (by decide)).trans ve36
  refine X_aload_n rfl rfl rfl rfl ?_
  refine X_getR (a := 289) rfl rfl rfl ((congrFun V.1 146).trans s_146) rfl ((congrFun (V.2.1 146 (by decide)) 11).trans r_146_11) ?_
  refine X_iconst (v := (0 : Int32)) rfl rfl rfl ?_
  refine X_aload_n rfl rfl rfl rfl ?_
  refine X_getR (a := 144) rfl rfl rfl ((congrFun V.1 1).trans s_1) rfl ((congrFun (V.2.1 1 (by decide)) 11).trans r_1_11) ?_
  refine X_iconst (v := (0 : Int32)) rfl rfl rfl ?_
  refine X_bipush (v := (12 : Int32)) rfl rfl rfl ?_
  refine S_copy (I := Inv _) (sp' := 0) (dp' := 0) (n' := 12) rfl rfl rfl ((congrFun V.1 289).trans s_289) ((congrFun V.1 144).trans s_144) (by decide) (by decide) (by decide) rfl rfl rfl (by decide) (by decide) (Nat.le_of_ble_eq_true rfl) (Inv_cpy V (Nat.le_of_ble_eq_true rfl) (Nat.le_of_ble_eq_true rfl) (by omega) (U_5 rk_289 rk_144)) (fun g V vn39 hq => ?_)
  have hG := hq.trans hG
  have evz21 := (vn39 (146) 5 (by decide)).trans evz21
  have ve23 := (vn39 (1) 5 (by decide)).trans ve23
  have evz25 := (vn39 (146) 6 (by decide)).trans evz25
  have ve27 := (vn39 (1) 6 (by decide)).trans ve27
  have evz29 := (vn39 (146) 7 (by decide)).trans evz29
  have ve31 := (vn39 (1) 7 (by decide)).trans ve31
  have evz34 := (vn39 (146) 9 (by decide)).trans evz34
  have ve36 := (vn39 (1) 9 (by decide)).trans ve36
  refine X_aload_n rfl rfl rfl rfl ?_
  refine X_getR (a := 290) rfl rfl rfl ((congrFun V.1 146).trans s_146) rfl ((congrFun (V.2.1 146 (by decide)) 12).trans r_146_12) ?_
  refine X_iconst (v := (0 : Int32)) rfl rfl rfl ?_
  refine X_aload_n rfl rfl rfl rfl ?_
  refine X_getR (a := 145) rfl rfl rfl ((congrFun V.1 1).trans s_1) rfl ((congrFun (V.2.1 1 (by decide)) 12).trans r_1_12) ?_
  refine X_iconst (v := (0 : Int32)) rfl rfl rfl ?_
  refine X_bipush (v := (12 : Int32)) rfl rfl rfl ?_
  refine S_copy (I := Inv _) (sp' := 0) (dp' := 0) (n' := 12) rfl rfl rfl ((congrFun V.1 290).trans s_290) ((congrFun V.1 145).trans s_145) (by decide) (by decide) (by decide) rfl rfl rfl (by decide) (by decide) (Nat.le_of_ble_eq_true rfl) (Inv_cpy V (Nat.le_of_ble_eq_true rfl) (Nat.le_of_ble_eq_true rfl) (by omega) (U_0 rk_290 rk_145)) (fun g V vn40 hq => ?_)
  have hG := hq.trans hG
  have evz21 := (vn40 (146) 5 (by decide)).trans evz21
  have ve23 := (vn40 (1) 5 (by decide)).trans ve23
  have evz25 := (vn40 (146) 6 (by decide)).trans evz25
  have ve27 := (vn40 (1) 6 (by decide)).trans ve27
  have evz29 := (vn40 (146) 7 (by decide)).trans evz29
  have ve31 := (vn40 (1) 7 (by decide)).trans ve31
  have evz34 := (vn40 (146) 9 (by decide)).trans evz34
  have ve36 := (vn40 (1) 9 (by decide)).trans ve36
  have V : Inv (P.2.1, P.2.1, P.2.2) _ := V
  exact LW_return (st := []) rfl rfl ⟨rfl, V, hG⟩
set_option maxRecDepth 10000 in
set_option maxHeartbeats 40000000 in
theorem C_X12_back {P : Par} {g : LH} {d : Nat}  (V : Inv P g)    : LW 164 (d + 15) 0 0 0 (lEnt (mL 164) [.ref 0]) [] g (fun v g' => ∃ r : Int32, v = some (.int r) ∧ Inv (P.2.1, P.2.1, P.2.2) g' ∧ Gr g' = Gr g) := by
  refine LW_ls (ls' := [some (.ref 0)]) rfl ?_
  have hG : Gr g = Gr g := rfl
  refine X_aload_n rfl rfl rfl rfl ?_
  refine X_getR (a := 1) rfl rfl rfl ((congrFun V.1 0).trans s_0) rfl ((congrFun (V.2.1 0 (by decide)) 0).trans r_0_0) ?_
  refine X_aload_n rfl rfl rfl rfl ?_
  refine X_getR (a := 146) rfl rfl rfl ((congrFun V.1 0).trans s_0) rfl ((congrFun (V.2.1 0 (by decide)) 1).trans r_0_1) ?_
  refine Y_callV (as := [.ref 146]) (st := []) rfl rfl rfl (by decide) rfl (Nat.le_of_ble_eq_true rfl) (by decide) (Nat.le_of_ble_eq_true rfl) rfl ((congrFun V.1 1).trans s_1) (by decide) (C_X2_copyFrom_1_146 V  ) ?_
  rintro _ g ⟨rfl, V, hq⟩
  have hG := hq.trans hG
  refine X_aload_n rfl rfl rfl rfl ?_
  refine X_getR (a := 1) rfl rfl rfl ((congrFun V.1 0).trans s_0) rfl ((congrFun (V.2.1 0 (by decide)) 0).trans r_0_0) ?_
  refine X_getR (a := 10) rfl rfl rfl ((congrFun V.1 1).trans s_1) rfl ((congrFun (V.2.1 1 (by decide)) 1).trans r_1_1) ?_
  refine S_getI rfl rfl rfl ((congrFun V.1 10).trans s_10) rfl (fun vz2 evz2 => ?_)
  have V : Inv (P.2.1, P.2.1, P.2.2) _ := V
  exact LW_ireturn (st := []) rfl rfl rfl ⟨_, rfl, V, hG⟩
set_option maxRecDepth 10000 in
set_option maxHeartbeats 40000000 in
theorem C_X12_about {P : Par} {g : LH} {d : Nat}  (V : Inv P g) (x1 : Int32) (y1 : Int) (hx1 : x1.toInt = y1)   : LW 165 (d + 11) 0 0 0 (lEnt (mL 165) [.ref 0, .int x1]) [] g (fun v g' => ∃ r : Int32, v = some (.int r) ∧ g = g') := by
  refine LW_ls (ls' := [some (.ref 0), some (.int x1)]) rfl ?_
  refine X_iload_n rfl rfl rfl rfl ?_
  by_cases vh1 : y1 = 0
  · refine S_tableIn (tgt := 64) (c := 0) rfl (hx1.trans vh1) (by decide) (by decide) rfl rfl ?_
    refine X_aload_n rfl rfl rfl rfl ?_
    refine X_getR (a := 1) rfl rfl rfl ((congrFun V.1 0).trans s_0) rfl ((congrFun (V.2.1 0 (by decide)) 0).trans r_0_0) ?_
    refine X_getR (a := 2) rfl rfl rfl ((congrFun V.1 1).trans s_1) rfl ((congrFun (V.2.1 1 (by decide)) 0).trans r_1_0) ?_
    refine S_getI rfl rfl rfl ((congrFun V.1 2).trans s_2) rfl (fun vz2 evz2 => ?_)
    have vf3 := K_10_0 (V.2.2.2.2.1 (2) (0) (Nat.le_of_ble_eq_true rfl)) rk_2
    rw [evz2] at vf3
    exact LW_ireturn (st := []) rfl rfl rfl ⟨_, rfl, rfl⟩
  by_cases vh4 : y1 = 1
  · refine S_tableIn (tgt := 75) (c := 1) rfl (hx1.trans vh4) (by decide) (by decide) rfl rfl ?_
    refine X_aload_n rfl rfl rfl rfl ?_
    refine X_getR (a := 1) rfl rfl rfl ((congrFun V.1 0).trans s_0) rfl ((congrFun (V.2.1 0 (by decide)) 0).trans r_0_0) ?_
    refine X_getR (a := 2) rfl rfl rfl ((congrFun V.1 1).trans s_1) rfl ((congrFun (V.2.1 1 (by decide)) 0).trans r_1_0) ?_
    refine S_getI rfl rfl rfl ((congrFun V.1 2).trans s_2) rfl (fun vz5 evz5 => ?_)
    have vf6 := K_10_1 (V.2.2.2.2.1 (2) (1) (Nat.le_of_ble_eq_true rfl)) rk_2
    rw [evz5] at vf6
    exact LW_ireturn (st := []) rfl rfl rfl ⟨_, rfl, rfl⟩
  by_cases vh7 : y1 = 2
  · refine S_tableIn (tgt := 86) (c := 2) rfl (hx1.trans vh7) (by decide) (by decide) rfl rfl ?_
    refine X_aload_n rfl rfl rfl rfl ?_
    refine X_getR (a := 1) rfl rfl rfl ((congrFun V.1 0).trans s_0) rfl ((congrFun (V.2.1 0 (by decide)) 0).trans r_0_0) ?_
    refine X_getR (a := 10) rfl rfl rfl ((congrFun V.1 1).trans s_1) rfl ((congrFun (V.2.1 1 (by decide)) 1).trans r_1_1) ?_
    refine S_getI rfl rfl rfl ((congrFun V.1 10).trans s_10) rfl (fun vz8 evz8 => ?_)
    exact LW_ireturn (st := []) rfl rfl rfl ⟨_, rfl, rfl⟩
  by_cases vh9 : y1 = 3
  · refine S_tableIn (tgt := 97) (c := 3) rfl (hx1.trans vh9) (by decide) (by decide) rfl rfl ?_
    refine X_aload_n rfl rfl rfl rfl ?_
    refine X_getR (a := 1) rfl rfl rfl ((congrFun V.1 0).trans s_0) rfl ((congrFun (V.2.1 0 (by decide)) 0).trans r_0_0) ?_
    refine X_getR (a := 10) rfl rfl rfl ((congrFun V.1 1).trans s_1) rfl ((congrFun (V.2.1 1 (by decide)) 1).trans r_1_1) ?_
    refine S_getI rfl rfl rfl ((congrFun V.1 10).trans s_10) rfl (fun vz10 evz10 => ?_)
    exact LW_ireturn (st := []) rfl rfl rfl ⟨_, rfl, rfl⟩
  by_cases vh11 : y1 = 4
  · refine S_tableIn (tgt := 108) (c := 4) rfl (hx1.trans vh11) (by decide) (by decide) rfl rfl ?_
    refine X_aload_n rfl rfl rfl rfl ?_
    refine X_getR (a := 1) rfl rfl rfl ((congrFun V.1 0).trans s_0) rfl ((congrFun (V.2.1 0 (by decide)) 0).trans r_0_0) ?_
    refine S_getI rfl rfl rfl ((congrFun V.1 1).trans s_1) rfl (fun vz12 evz12 => ?_)
    have vf13 := K_13_5 (V.2.2.2.2.1 (1) (5) (Nat.le_of_ble_eq_true rfl)) rk_1
    rw [evz12] at vf13
    exact LW_ireturn (st := []) rfl rfl rfl ⟨_, rfl, rfl⟩
  by_cases vh14 : y1 = 5
  · refine S_tableIn (tgt := 116) (c := 5) rfl (hx1.trans vh14) (by decide) (by decide) rfl rfl ?_
    refine X_aload_n rfl rfl rfl rfl ?_
    refine X_getR (a := 1) rfl rfl rfl ((congrFun V.1 0).trans s_0) rfl ((congrFun (V.2.1 0 (by decide)) 0).trans r_0_0) ?_
    refine S_getI rfl rfl rfl ((congrFun V.1 1).trans s_1) rfl (fun vz15 evz15 => ?_)
    have vf16 := K_13_6 (V.2.2.2.2.1 (1) (6) (Nat.le_of_ble_eq_true rfl)) rk_1
    rw [evz15] at vf16
    exact LW_ireturn (st := []) rfl rfl rfl ⟨_, rfl, rfl⟩
  by_cases vh17 : y1 = 6
  · refine S_tableIn (tgt := 124) (c := 6) rfl (hx1.trans vh17) (by decide) (by decide) rfl rfl ?_
    refine X_aload_n rfl rfl rfl rfl ?_
    refine X_getR (a := 1) rfl rfl rfl ((congrFun V.1 0).trans s_0) rfl ((congrFun (V.2.1 0 (by decide)) 0).trans r_0_0) ?_
    refine X_getR (a := 14) rfl rfl rfl ((congrFun V.1 1).trans s_1) rfl ((congrFun (V.2.1 1 (by decide)) 2).trans r_1_2) ?_
    refine S_getI rfl rfl rfl ((congrFun V.1 14).trans s_14) rfl (fun vz18 evz18 => ?_)
    have vf19 := K_12_0 (V.2.2.2.2.1 (14) (0) (Nat.le_of_ble_eq_true rfl)) rk_14
    rw [evz18] at vf19
    exact LW_ireturn (st := []) rfl rfl rfl ⟨_, rfl, rfl⟩
  by_cases vh20 : y1 = 7
  · refine S_tableIn (tgt := 135) (c := 7) rfl (hx1.trans vh20) (by decide) (by decide) rfl rfl ?_
    refine X_aload_n rfl rfl rfl rfl ?_
    refine X_getR (a := 1) rfl rfl rfl ((congrFun V.1 0).trans s_0) rfl ((congrFun (V.2.1 0 (by decide)) 0).trans r_0_0) ?_
    refine X_getR (a := 10) rfl rfl rfl ((congrFun V.1 1).trans s_1) rfl ((congrFun (V.2.1 1 (by decide)) 1).trans r_1_1) ?_
    refine S_getI rfl rfl rfl ((congrFun V.1 10).trans s_10) rfl (fun vz21 evz21 => ?_)
    exact LW_ireturn (st := []) rfl rfl rfl ⟨_, rfl, rfl⟩
  by_cases vh22 : y1 = 8
  · refine S_tableIn (tgt := 146) (c := 8) rfl (hx1.trans vh22) (by decide) (by decide) rfl rfl ?_
    refine X_aload_n rfl rfl rfl rfl ?_
    refine X_getR (a := 1) rfl rfl rfl ((congrFun V.1 0).trans s_0) rfl ((congrFun (V.2.1 0 (by decide)) 0).trans r_0_0) ?_
    refine S_getI rfl rfl rfl ((congrFun V.1 1).trans s_1) rfl (fun vz23 evz23 => ?_)
    have vf24 := K_13_7 (V.2.2.2.2.1 (1) (7) (Nat.le_of_ble_eq_true rfl)) rk_1
    rw [evz23] at vf24
    have pvz23 := V.2.2.2.2.2.2.1
    rw [evz23] at pvz23
    exact LW_ireturn (st := []) rfl rfl rfl ⟨_, rfl, rfl⟩
  by_cases vh25 : y1 = 9
  · refine S_tableIn (tgt := 154) (c := 9) rfl (hx1.trans vh25) (by decide) (by decide) rfl rfl ?_
    refine X_aload_n rfl rfl rfl rfl ?_
    refine X_getR (a := 1) rfl rfl rfl ((congrFun V.1 0).trans s_0) rfl ((congrFun (V.2.1 0 (by decide)) 0).trans r_0_0) ?_
    refine S_getI rfl rfl rfl ((congrFun V.1 1).trans s_1) rfl (fun vz26 evz26 => ?_)
    have vf27 := K_13_9 (V.2.2.2.2.1 (1) (9) (Nat.le_of_ble_eq_true rfl)) rk_1
    rw [evz26] at vf27
    exact LW_ireturn (st := []) rfl rfl rfl ⟨_, rfl, rfl⟩
  by_cases vh28 : y1 = 10
  · refine S_tableIn (tgt := 162) (c := 10) rfl (hx1.trans vh28) (by decide) (by decide) rfl rfl ?_
    refine X_aload_n rfl rfl rfl rfl ?_
    refine X_getR (a := 332) rfl rfl rfl ((congrFun V.1 0).trans s_0) rfl ((congrFun (V.2.1 0 (by decide)) 3).trans r_0_3) ?_
    refine S_getI rfl rfl rfl ((congrFun V.1 332).trans s_332) rfl (fun vz29 evz29 => ?_)
    have vf30 := K_16_0 (V.2.2.2.2.1 (332) (0) (Nat.le_of_ble_eq_true rfl)) rk_332
    rw [evz29] at vf30
    exact LW_ireturn (st := []) rfl rfl rfl ⟨_, rfl, rfl⟩
  by_cases vh31 : y1 = 11
  · refine S_tableIn (tgt := 170) (c := 11) rfl (hx1.trans vh31) (by decide) (by decide) rfl rfl ?_
    refine X_aload_n rfl rfl rfl rfl ?_
    refine X_getR (a := 1) rfl rfl rfl ((congrFun V.1 0).trans s_0) rfl ((congrFun (V.2.1 0 (by decide)) 0).trans r_0_0) ?_
    refine X_getR (a := 10) rfl rfl rfl ((congrFun V.1 1).trans s_1) rfl ((congrFun (V.2.1 1 (by decide)) 1).trans r_1_1) ?_
    refine Y_callV (as := []) (st := []) rfl rfl rfl (by decide) rfl (Nat.le_of_ble_eq_true rfl) (by decide) (Nat.le_of_ble_eq_true rfl) rfl ((congrFun V.1 10).trans s_10) (by decide) (C_X9_outs V  ) ?_
    rintro _ g' ⟨vr32, rfl, hrvr320, hrvr321, hgg⟩
    subst hgg
    exact LW_ireturn (st := []) rfl rfl rfl ⟨_, rfl, rfl⟩
  refine S_tableOut (tgt := 181) rfl hx1 (by omega) rfl ?_
  refine X_bipush (v := (-2 : Int32)) rfl rfl rfl ?_
  exact LW_ireturn (st := []) rfl rfl rfl ⟨_, rfl, rfl⟩
