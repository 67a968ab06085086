/-! the class's methods: each returns and keeps what every state keeps -/
set_option maxRecDepth 10000 in
set_option maxHeartbeats 40000000 in
theorem C_X12_feed {P : Par} {g : LH} {d : Nat}  (V : Inv P g) (x1 : Int32) (y1 : Int) (hx1 : x1.toInt = y1) (x2 : Int32) (y2 : Int) (hx2 : x2.toInt = y2) (x3 : Int32) (y3 : Int) (hx3 : x3.toInt = y3) (x4 : Int32) (y4 : Int) (hx4 : x4.toInt = y4) (x5 : Int32) (y5 : Int) (hx5 : x5.toInt = y5)   : LW 129 (d + 7) 0 0 0 (lEnt (mL 129) [.ref 0, .int x1, .int x2, .int x3, .int x4, .int x5]) [] g (fun v g' => ∃ r : Int32, v = some (.int r) ∧ (-1) ≤ r.toInt ∧ r.toInt ≤ 300 ∧ Inv P g' ∧ Gr g' = Gr g) := by
  refine LW_ls (ls' := [some (.ref 0), some (.int x1), some (.int x2), some (.int x3), some (.int x4), some (.int x5)]) rfl ?_
  have hG : Gr g = Gr g := rfl
  refine X_aload_n rfl rfl rfl rfl ?_
  refine X_getR (a := 332) rfl rfl rfl ((congrFun V.1 0).trans s_0) rfl ((congrFun (V.2.1 0 (by decide)) 3).trans r_0_3) ?_
  refine X_bipush (v := (20 : Int32)) rfl rfl rfl ?_
  refine Y_callV (as := [.int (20 : Int32)]) (st := []) rfl rfl rfl (by decide) rfl (Nat.le_of_ble_eq_true rfl) (by decide) (Nat.le_of_ble_eq_true rfl) rfl ((congrFun V.1 332).trans s_332) (by decide) (C_X10_hasRoom V (20 : Int32) 20 (show (20 : Int32).toInt = 20 from rfl) (by omega) ) ?_
  rintro _ g' ⟨vr1, rfl, hrvr10, hrvr11, hgg⟩
  subst hgg
  refine S_if_ne (tgt := 14) rfl rfl rfl rfl (fun vh2 => ?_) (fun vh2 => ?_)
  · refine X_aload_n rfl rfl rfl rfl ?_
    refine X_getR (a := 332) rfl rfl rfl ((congrFun V.1 0).trans s_0) rfl ((congrFun (V.2.1 0 (by decide)) 3).trans r_0_3) ?_
    refine X_iload_n rfl rfl rfl rfl ?_
    refine Y_callV (as := [.int x1]) (st := []) rfl rfl rfl (by decide) rfl (Nat.le_of_ble_eq_true rfl) (by decide) (Nat.le_of_ble_eq_true rfl) rfl ((congrFun V.1 332).trans s_332) (by decide) (C_X10_put V x1 y1 hx1 ) ?_
    rintro _ g ⟨rfl, V, hq, hk⟩
    have hG := hq.trans hG
    refine X_aload_n rfl rfl rfl rfl ?_
    refine X_getR (a := 332) rfl rfl rfl ((congrFun V.1 0).trans s_0) rfl ((congrFun (V.2.1 0 (by decide)) 3).trans r_0_3) ?_
    refine X_iload_n rfl rfl rfl rfl ?_
    refine Y_callV (as := [.int x2]) (st := []) rfl rfl rfl (by decide) rfl (Nat.le_of_ble_eq_true rfl) (by decide) (Nat.le_of_ble_eq_true rfl) rfl ((congrFun V.1 332).trans s_332) (by decide) (C_X10_put V x2 y2 hx2 ) ?_
    rintro _ g ⟨rfl, V, hq, hk⟩
    have hG := hq.trans hG
    refine X_aload_n rfl rfl rfl rfl ?_
    refine X_getR (a := 332) rfl rfl rfl ((congrFun V.1 0).trans s_0) rfl ((congrFun (V.2.1 0 (by decide)) 3).trans r_0_3) ?_
    refine X_iload_n rfl rfl rfl rfl ?_
    refine Y_callV (as := [.int x3]) (st := []) rfl rfl rfl (by decide) rfl (Nat.le_of_ble_eq_true rfl) (by decide) (Nat.le_of_ble_eq_true rfl) rfl ((congrFun V.1 332).trans s_332) (by decide) (C_X10_put V x3 y3 hx3 ) ?_
    rintro _ g ⟨rfl, V, hq, hk⟩
    have hG := hq.trans hG
    refine X_aload_n rfl rfl rfl rfl ?_
    refine X_getR (a := 332) rfl rfl rfl ((congrFun V.1 0).trans s_0) rfl ((congrFun (V.2.1 0 (by decide)) 3).trans r_0_3) ?_
    refine X_iload rfl rfl rfl ?_
    refine Y_callV (as := [.int x4]) (st := []) rfl rfl rfl (by decide) rfl (Nat.le_of_ble_eq_true rfl) (by decide) (Nat.le_of_ble_eq_true rfl) rfl ((congrFun V.1 332).trans s_332) (by decide) (C_X10_put V x4 y4 hx4 ) ?_
    rintro _ g ⟨rfl, V, hq, hk⟩
    have hG := hq.trans hG
    refine X_aload_n rfl rfl rfl rfl ?_
    refine X_getR (a := 332) rfl rfl rfl ((congrFun V.1 0).trans s_0) rfl ((congrFun (V.2.1 0 (by decide)) 3).trans r_0_3) ?_
    refine X_iload rfl rfl rfl ?_
    refine Y_callV (as := [.int x5]) (st := []) rfl rfl rfl (by decide) rfl (Nat.le_of_ble_eq_true rfl) (by decide) (Nat.le_of_ble_eq_true rfl) rfl ((congrFun V.1 332).trans s_332) (by decide) (C_X10_put V x5 y5 hx5 ) ?_
    rintro _ g ⟨rfl, V, hq, hk⟩
    have hG := hq.trans hG
    refine X_aload_n rfl rfl rfl rfl ?_
    refine X_getR (a := 332) rfl rfl rfl ((congrFun V.1 0).trans s_0) rfl ((congrFun (V.2.1 0 (by decide)) 3).trans r_0_3) ?_
    refine S_getI rfl rfl rfl ((congrFun V.1 332).trans s_332) rfl (fun vz8 evz8 => ?_)
    have vf9 := K_16_0 (V.2.2.2.2.1 (332) (0) (Nat.le_of_ble_eq_true rfl)) rk_332
    rw [evz8] at vf9
    have hr := (rfl : vz8.toInt = vz8.toInt)
    exact LW_ireturn (st := []) rfl rfl rfl ⟨_, rfl, by omega, by omega, V, hG⟩
  · refine X_iconst (v := (-1 : Int32)) rfl rfl rfl ?_
    exact LW_ireturn (st := []) rfl rfl rfl ⟨_, rfl, by decide, by decide, V, hG⟩
set_option maxRecDepth 10000 in
set_option maxHeartbeats 40000000 in
theorem C_X12_end {P : Par} {g : LH} {d : Nat}  (V : Inv P g) (x1 : Int32) (y1 : Int) (hx1 : x1.toInt = y1)   : LW 130 (d + 3) 0 0 0 (lEnt (mL 130) [.ref 0, .int x1]) [] g (fun v g' => ∃ r : Int32, v = some (.int r) ∧ (-1) ≤ r.toInt ∧ r.toInt ≤ 300 ∧ Inv P g' ∧ Gr g' = Gr g) := by
  refine LW_ls (ls' := [some (.ref 0), some (.int x1)]) rfl ?_
  have hG : Gr g = Gr g := rfl
  refine X_iload_n rfl rfl rfl rfl ?_
  refine S_if_lt (tgt := 15) rfl rfl rfl hx1 (fun vh1 => ?_) (fun vh1 => ?_)
  · refine X_iconst (v := (-1 : Int32)) rfl rfl rfl ?_
    exact LW_ireturn (st := []) rfl rfl rfl ⟨_, rfl, by decide, by decide, V, hG⟩
  · refine X_iload_n rfl rfl rfl rfl ?_
    refine X_aload_n rfl rfl rfl rfl ?_
    refine X_getR (a := 332) rfl rfl rfl ((congrFun V.1 0).trans s_0) rfl ((congrFun (V.2.1 0 (by decide)) 3).trans r_0_3) ?_
    refine S_getI rfl rfl rfl ((congrFun V.1 332).trans s_332) rfl (fun vz2 evz2 => ?_)
    have vf3 := K_16_0 (V.2.2.2.2.1 (332) (0) (Nat.le_of_ble_eq_true rfl)) rk_332
    rw [evz2] at vf3
    refine S_icmp_le (tgt := 17) rfl rfl rfl hx1 rfl (fun vh4 => ?_) (fun vh4 => ?_)
    · refine X_aload_n rfl rfl rfl rfl ?_
      refine X_getR (a := 332) rfl rfl rfl ((congrFun V.1 0).trans s_0) rfl ((congrFun (V.2.1 0 (by decide)) 3).trans r_0_3) ?_
      refine X_iload_n rfl rfl rfl rfl ?_
      refine S_putI (I := Inv _) rfl rfl rfl ((congrFun V.1 332).trans s_332) rfl rfl rfl rfl (Inv_putI V (Nat.le_of_ble_eq_true rfl) (Or.inl (by decide)) (Q_16_0 rk_332 (by omega))) (fun g V ve5 vn6 hq => ?_)
      have hG := hq.trans hG
      refine X_iload_n rfl rfl rfl rfl ?_
      have hr := hx1
      exact LW_ireturn (st := []) rfl rfl rfl ⟨_, rfl, by omega, by omega, V, hG⟩
    · refine X_iconst (v := (-1 : Int32)) rfl rfl rfl ?_
      exact LW_ireturn (st := []) rfl rfl rfl ⟨_, rfl, by decide, by decide, V, hG⟩
set_option maxRecDepth 10000 in
set_option maxHeartbeats 40000000 in
theorem C_X10_add {P : Par} {g : LH} {d : Nat}  (V : Inv P g) (x1 : Int32) (y1 : Int) (hx1 : x1.toInt = y1) (hf1 : 0 ≤ y1 ∧ y1 ≤ 4) (x2 : Int32) (y2 : Int) (hx2 : x2.toInt = y2) (hf2 : 0 ≤ y2 ∧ y2 ≤ 300) (x3 : Int32) (y3 : Int) (hx3 : x3.toInt = y3) (hf3 : 0 ≤ y3 ∧ y3 ≤ 300) (x4 : Int32) (y4 : Int) (hx4 : x4.toInt = y4)   : LW 115 (d + 3) 0 0 0 (lEnt (mL 115) [.ref 332, .int x1, .int x2, .int x3, .int x4]) [] g (fun v g' => v = none ∧ Inv P g' ∧ Gr g' = Gr g ∧ Gi g' 1 5 = Gi g 1 5) := by
  refine LW_ls (ls' := [some (.ref 332), some (.int x1), some (.int x2), some (.int x3), some (.int x4)]) rfl ?_
  have hG : Gr g = Gr g := rfl
  have hK : Gi g 1 5 = Gi g 1 5 := rfl
  refine X_aload_n rfl rfl rfl rfl ?_
  refine S_getI rfl rfl rfl ((congrFun V.1 332).trans s_332) rfl (fun vz1 evz1 => ?_)
  have vf2 := K_16_2 (V.2.2.2.2.1 (332) (2) (Nat.le_of_ble_eq_true rfl)) rk_332
  rw [evz1] at vf2
  refine X_sipush (v := (300 : Int32)) rfl rfl rfl ?_
  refine S_icmp_gt (tgt := 63) rfl rfl rfl rfl (show (300 : Int32).toInt = 300 from rfl) (fun vh3 => ?_) (fun vh3 => ?_)
  · exact LW_return (st := []) rfl rfl ⟨rfl, V, hG, hK⟩
  · refine X_aload_n rfl rfl rfl rfl ?_
    refine X_getR (a := 334) rfl rfl rfl ((congrFun V.1 332).trans s_332) rfl ((congrFun (V.2.1 332 (by decide)) 3).trans r_332_3) ?_
    refine X_aload_n rfl rfl rfl rfl ?_
    refine X_getI (v := vz1) rfl rfl rfl ((congrFun V.1 332).trans s_332) rfl evz1 ?_
    refine X_iload_n rfl rfl rfl rfl ?_
    refine S_iast (I := Inv _) rfl rfl ((congrFun V.1 334).trans s_334) rfl (by omega) (Inv_putI V (Nat.le_of_ble_eq_true rfl) (Or.inl (by decide)) (Q_0 rk_334)) (fun g V ve4 vn5 hq => ?_)
    have hG := hq.trans hG
    have hK := (vn5 1 5 (Or.inl (by decide))).trans hK
    have evz1 := (vn5 (332) 2 (Or.inl (by decide))).trans evz1
    refine X_aload_n rfl rfl rfl rfl ?_
    refine X_getR (a := 335) rfl rfl rfl ((congrFun V.1 332).trans s_332) rfl ((congrFun (V.2.1 332 (by decide)) 4).trans r_332_4) ?_
    refine X_aload_n rfl rfl rfl rfl ?_
    refine X_getI (v := vz1) rfl rfl rfl ((congrFun V.1 332).trans s_332) rfl evz1 ?_
    refine X_iload_n rfl rfl rfl rfl ?_
    refine S_iast (I := Inv _) rfl rfl ((congrFun V.1 335).trans s_335) rfl (by omega) (Inv_putI V (Nat.le_of_ble_eq_true rfl) (Or.inl (by decide)) (Q_8 rk_335 (by omega))) (fun g V ve6 vn7 hq => ?_)
    have hG := hq.trans hG
    have hK := (vn7 1 5 (Or.inl (by decide))).trans hK
    have evz1 := (vn7 (332) 2 (Or.inl (by decide))).trans evz1
    refine X_aload_n rfl rfl rfl rfl ?_
    refine X_getR (a := 336) rfl rfl rfl ((congrFun V.1 332).trans s_332) rfl ((congrFun (V.2.1 332 (by decide)) 5).trans r_332_5) ?_
    refine X_aload_n rfl rfl rfl rfl ?_
    refine X_getI (v := vz1) rfl rfl rfl ((congrFun V.1 332).trans s_332) rfl evz1 ?_
    refine X_iload_n rfl rfl rfl rfl ?_
    refine X_iload_n rfl rfl rfl rfl ?_
    refine S_isub rfl rfl hx3 hx2 (by omega) (fun vz8 hvz8 => ?_)
    refine S_iast (I := Inv _) rfl rfl ((congrFun V.1 336).trans s_336) rfl (by omega) (Inv_putI V (Nat.le_of_ble_eq_true rfl) (Or.inl (by decide)) (Q_0 rk_336)) (fun g V ve9 vn10 hq => ?_)
    have hG := hq.trans hG
    have hK := (vn10 1 5 (Or.inl (by decide))).trans hK
    have evz1 := (vn10 (332) 2 (Or.inl (by decide))).trans evz1
    refine X_aload_n rfl rfl rfl rfl ?_
    refine X_getR (a := 337) rfl rfl rfl ((congrFun V.1 332).trans s_332) rfl ((congrFun (V.2.1 332 (by decide)) 6).trans r_332_6) ?_
    refine X_aload_n rfl rfl rfl rfl ?_
    refine X_getI (v := vz1) rfl rfl rfl ((congrFun V.1 332).trans s_332) rfl evz1 ?_
    refine X_iload rfl rfl rfl ?_
    refine S_iast (I := Inv _) rfl rfl ((congrFun V.1 337).trans s_337) rfl (by omega) (Inv_putI V (Nat.le_of_ble_eq_true rfl) (Or.inl (by decide)) (Q_0 rk_337)) (fun g V ve11 vn12 hq => ?_)
    have hG := hq.trans hG
    have hK := (vn12 1 5 (Or.inl (by decide))).trans hK
    have evz1 := (vn12 (332) 2 (Or.inl (by decide))).trans evz1
    refine X_aload_n rfl rfl rfl rfl ?_
    refine X_dup rfl rfl rfl ?_
    refine X_getI (v := vz1) rfl rfl rfl ((congrFun V.1 332).trans s_332) rfl evz1 ?_
    refine X_iconst (v := (1 : Int32)) rfl rfl rfl ?_
    refine S_iadd rfl rfl rfl (show (1 : Int32).toInt = 1 from rfl) (by omega) (fun vz13 hvz13 => ?_)
    refine S_putI (I := Inv _) rfl rfl rfl ((congrFun V.1 332).trans s_332) rfl rfl rfl rfl (Inv_putI V (Nat.le_of_ble_eq_true rfl) (Or.inl (by decide)) (Q_16_2 rk_332 (by omega))) (fun g V ve14 vn15 hq => ?_)
    have hG := hq.trans hG
    have hK := (vn15 1 5 (Or.inl (by decide))).trans hK
    exact LW_return (st := []) rfl rfl ⟨rfl, V, hG, hK⟩
set_option maxRecDepth 10000 in
set_option maxHeartbeats 40000000 in
theorem C_X10_keyOf_11 {P : Par} {g : LH} {d n : Nat}  (V : Inv P g) (x1 : Int32) (y1 : Int) (hx1 : x1.toInt = y1) (hf1 : 0 ≤ y1 ∧ y1 ≤ 299) (x2 : Int32) (y2 : Int) (hx2 : x2.toInt = y2) (hf2 : 1 ≤ y2 ∧ y2 ≤ 300) (x3 : Int32) (y3 : Int) (hx3 : x3.toInt = y3) (x4 : Int32) (y4 : Int) (hx4 : x4.toInt = y4) (hf4 : 0 ≤ y4 ∧ y4 ≤ 255) (x5 : Int32) (y5 : Int) (hx5 : x5.toInt = y5) (hf5 : 0 ≤ y5 ∧ y5 ≤ 1) (x6 : Int32) (y6 : Int) (hx6 : x6.toInt = y6) (hf6 : 0 ≤ y6 ∧ y6 ≤ 255) (o7 : Option Value) (hq0 : y4 ≤ y6) (hmu : (255 - y6) * 1 + 0 < (n : Int) + 1) (ih11 : ∀ (V : Inv P g) (x1 : Int32) (y1 : Int) (hx1 : x1.toInt = y1) (hf1 : 0 ≤ y1 ∧ y1 ≤ 299) (x2 : Int32) (y2 : Int) (hx2 : x2.toInt = y2) (hf2 : 1 ≤ y2 ∧ y2 ≤ 300) (x3 : Int32) (y3 : Int) (hx3 : x3.toInt = y3) (x4 : Int32) (y4 : Int) (hx4 : x4.toInt = y4) (hf4 : 0 ≤ y4 ∧ y4 ≤ 255) (x5 : Int32) (y5 : Int) (hx5 : x5.toInt = y5) (hf5 : 0 ≤ y5 ∧ y5 ≤ 1) (x6 : Int32) (y6 : Int) (hx6 : x6.toInt = y6) (hf6 : 0 ≤ y6 ∧ y6 ≤ 255) (o7 : Option Value) (hq0 : y4 ≤ y6), (255 - y6) * 1 + 0 < (n : Int) → LW 116 (d + 7) 0 0 11 [some (.ref 332), some (.int x1), some (.int x2), some (.int x3), some (.int x4), some (.int x5), some (.int x6), o7] [] g (fun v g' => ∃ r : Int32, v = some (.int r) ∧ g = g')) : LW 116 (d + 7) 0 0 11 [some (.ref 332), some (.int x1), some (.int x2), some (.int x3), some (.int x4), some (.int x5), some (.int x6), o7] [] g (fun v g' => ∃ r : Int32, v = some (.int r) ∧ g = g') := by
  refine X_iload rfl rfl rfl ?_
  refine X_ldcS (r := 2) rfl rfl (fun _ _ _ _ h => h.2.2.2.1.1) ?_
  refine Y_callVO (i := 0) (as := []) (st := [.int x6]) (by decide) rfl rfl rfl (by decide) rfl rfl (Nat.le_of_ble_eq_true rfl) (by decide) (Nat.le_of_ble_eq_true rfl) rfl (c_length (i := 0) (by decide)) ?_
  rintro _ g' ⟨rfl, hgg⟩
  subst hgg
  refine LW_eqv (v := (189 : Int32)) (by decide +kernel) ?_
  refine S_icmp_ge (tgt := 107) rfl rfl rfl hx6 (show (189 : Int32).toInt = 189 from rfl) (fun vh1 => ?_) (fun vh1 => ?_)
  · refine X_iconst (v := (-1 : Int32)) rfl rfl rfl ?_
    exact LW_ireturn (st := []) rfl rfl rfl ⟨_, rfl, rfl⟩
  · refine X_ldcS (r := 2) rfl rfl (fun _ _ _ _ h => h.2.2.2.1.1) ?_
    refine X_iload rfl rfl rfl ?_
    refine Y_callVO (i := 0) (as := [.int x6]) (st := []) (by decide) rfl rfl rfl (by decide) rfl rfl (Nat.le_of_ble_eq_true rfl) (by decide) (Nat.le_of_ble_eq_true rfl) rfl (c_charAt (i := 0) (by decide) (ti_idx (n := 189) hx6 (by omega)).1) ?_
    rintro _ g' ⟨rfl, hgg⟩
    subst hgg
    have vb3 := (tx_ch 0 (by decide) _ (vp_lt (ti_idx (n := 189) hx6 (by omega)).1)).2
    obtain ⟨vz2, evz2⟩ : ∃ z, txC 0 x6.toNatClampNeg = z := ⟨_, rfl⟩
    rw [evz2] at vb3
    refine LW_eqv (v := vz2) evz2 ?_
    refine X_istore (i := 7) (ls' := [some (.ref 332), some (.int x1), some (.int x2), some (.int x3), some (.int x4), some (.int x5), some (.int x6), some (.int vz2)]) rfl rfl (Nat.le_of_ble_eq_true rfl) rfl ?_
    refine X_iload rfl rfl rfl ?_
    refine X_bipush (v := (32 : Int32)) rfl rfl rfl ?_
    refine S_icmp_ne (tgt := 64) rfl rfl rfl rfl (show (32 : Int32).toInt = 32 from rfl) (fun vh4 => ?_) (fun vh4 => ?_)
    · refine X_iload rfl rfl rfl ?_
      refine S_if_eq (tgt := 95) rfl rfl rfl hx5 (fun vh5 => ?_) (fun vh5 => ?_)
      · refine X_iconst (v := (0 : Int32)) rfl rfl rfl ?_
        refine X_istore (i := 5) (ls' := [some (.ref 332), some (.int x1), some (.int x2), some (.int x3), some (.int x4), some (.int (0 : Int32)), some (.int x6), some (.int vz2)]) rfl rfl (Nat.le_of_ble_eq_true rfl) rfl ?_
        refine S_iinc (c := 1) rfl rfl rfl hx4 rfl (by omega) (fun vz6 hvz6 => ?_)
        refine LW_ls (ls' := [some (.ref 332), some (.int x1), some (.int x2), some (.int x3), some (.int vz6), some (.int (0 : Int32)), some (.int x6), some (.int vz2)]) rfl ?_
        refine S_iinc (c := 1) rfl rfl rfl hx6 rfl (by omega) (fun vz7 hvz7 => ?_)
        refine LW_ls (ls' := [some (.ref 332), some (.int x1), some (.int x2), some (.int x3), some (.int vz6), some (.int (0 : Int32)), some (.int vz7), some (.int vz2)]) rfl ?_
        refine LW_goto (tgt := 11) rfl rfl ?_
        exact ih11 V x1 y1 hx1 (by omega) x2 y2 hx2 (by omega) x3 y3 hx3 vz6 vz6.toInt rfl (by omega) (0 : Int32) 0 (show (0 : Int32).toInt = 0 from rfl) (by omega) vz7 vz7.toInt rfl (by omega) (some (.int vz2))  (by omega)  (by omega)
      · refine X_iload_n rfl rfl rfl rfl ?_
        refine X_iload rfl rfl rfl ?_
        refine S_iadd rfl rfl hx1 hx4 (by omega) (fun vz8 hvz8 => ?_)
        refine X_iload_n rfl rfl rfl rfl ?_
        refine S_icmp_ge (tgt := 95) rfl rfl rfl rfl hx2 (fun vh9 => ?_) (fun vh9 => ?_)
        · refine X_iconst (v := (0 : Int32)) rfl rfl rfl ?_
          refine X_istore (i := 5) (ls' := [some (.ref 332), some (.int x1), some (.int x2), some (.int x3), some (.int x4), some (.int (0 : Int32)), some (.int x6), some (.int vz2)]) rfl rfl (Nat.le_of_ble_eq_true rfl) rfl ?_
          refine S_iinc (c := 1) rfl rfl rfl hx4 rfl (by omega) (fun vz10 hvz10 => ?_)
          refine LW_ls (ls' := [some (.ref 332), some (.int x1), some (.int x2), some (.int x3), some (.int vz10), some (.int (0 : Int32)), some (.int x6), some (.int vz2)]) rfl ?_
          refine S_iinc (c := 1) rfl rfl rfl hx6 rfl (by omega) (fun vz11 hvz11 => ?_)
          refine LW_ls (ls' := [some (.ref 332), some (.int x1), some (.int x2), some (.int x3), some (.int vz10), some (.int (0 : Int32)), some (.int vz11), some (.int vz2)]) rfl ?_
          refine LW_goto (tgt := 11) rfl rfl ?_
          exact ih11 V x1 y1 hx1 (by omega) x2 y2 hx2 (by omega) x3 y3 hx3 vz10 vz10.toInt rfl (by omega) (0 : Int32) 0 (show (0 : Int32).toInt = 0 from rfl) (by omega) vz11 vz11.toInt rfl (by omega) (some (.int vz2))  (by omega)  (by omega)
        · refine X_aload_n rfl rfl rfl rfl ?_
          refine X_getR (a := 333) rfl rfl rfl ((congrFun V.1 332).trans s_332) rfl ((congrFun (V.2.1 332 (by decide)) 1).trans r_332_1) ?_
          refine X_iload_n rfl rfl rfl rfl ?_
          refine X_iload rfl rfl rfl ?_
          refine S_iadd rfl rfl hx1 hx4 (by omega) (fun vz12 hvz12 => ?_)
          refine S_iald rfl rfl ((congrFun V.1 333).trans s_333) rfl (by omega) (fun vz13 evz13 => ?_)
          have vf14 := K_7 (V.2.2.2.2.1 (333) ((vz12.toInt : Int).toNat) (Nat.le_of_ble_eq_true rfl)) rk_333
          rw [evz13] at vf14
          refine X_iload rfl rfl rfl ?_
          refine S_icmp_ne (tgt := 95) rfl rfl rfl rfl rfl (fun vh15 => ?_) (fun vh15 => ?_)
          · refine X_iconst (v := (0 : Int32)) rfl rfl rfl ?_
            refine X_istore (i := 5) (ls' := [some (.ref 332), some (.int x1), some (.int x2), some (.int x3), some (.int x4), some (.int (0 : Int32)), some (.int x6), some (.int vz2)]) rfl rfl (Nat.le_of_ble_eq_true rfl) rfl ?_
            refine S_iinc (c := 1) rfl rfl rfl hx4 rfl (by omega) (fun vz16 hvz16 => ?_)
            refine LW_ls (ls' := [some (.ref 332), some (.int x1), some (.int x2), some (.int x3), some (.int vz16), some (.int (0 : Int32)), some (.int x6), some (.int vz2)]) rfl ?_
            refine S_iinc (c := 1) rfl rfl rfl hx6 rfl (by omega) (fun vz17 hvz17 => ?_)
            refine LW_ls (ls' := [some (.ref 332), some (.int x1), some (.int x2), some (.int x3), some (.int vz16), some (.int (0 : Int32)), some (.int vz17), some (.int vz2)]) rfl ?_
            refine LW_goto (tgt := 11) rfl rfl ?_
            exact ih11 V x1 y1 hx1 (by omega) x2 y2 hx2 (by omega) x3 y3 hx3 vz16 vz16.toInt rfl (by omega) (0 : Int32) 0 (show (0 : Int32).toInt = 0 from rfl) (by omega) vz17 vz17.toInt rfl (by omega) (some (.int vz2))  (by omega)  (by omega)
          · refine X_iconst (v := (1 : Int32)) rfl rfl rfl ?_
            refine LW_goto (tgt := 96) rfl rfl ?_
            refine X_istore (i := 5) (ls' := [some (.ref 332), some (.int x1), some (.int x2), some (.int x3), some (.int x4), some (.int (1 : Int32)), some (.int x6), some (.int vz2)]) rfl rfl (Nat.le_of_ble_eq_true rfl) rfl ?_
            refine S_iinc (c := 1) rfl rfl rfl hx4 rfl (by omega) (fun vz18 hvz18 => ?_)
            refine LW_ls (ls' := [some (.ref 332), some (.int x1), some (.int x2), some (.int x3), some (.int vz18), some (.int (1 : Int32)), some (.int x6), some (.int vz2)]) rfl ?_
            refine S_iinc (c := 1) rfl rfl rfl hx6 rfl (by omega) (fun vz19 hvz19 => ?_)
            refine LW_ls (ls' := [some (.ref 332), some (.int x1), some (.int x2), some (.int x3), some (.int vz18), some (.int (1 : Int32)), some (.int vz19), some (.int vz2)]) rfl ?_
            refine LW_goto (tgt := 11) rfl rfl ?_
            exact ih11 V x1 y1 hx1 (by omega) x2 y2 hx2 (by omega) x3 y3 hx3 vz18 vz18.toInt rfl (by omega) (1 : Int32) 1 (show (1 : Int32).toInt = 1 from rfl) (by omega) vz19 vz19.toInt rfl (by omega) (some (.int vz2))  (by omega)  (by omega)
    · refine X_iload rfl rfl rfl ?_
      refine S_if_eq (tgt := 52) rfl rfl rfl hx5 (fun vh20 => ?_) (fun vh20 => ?_)
      · refine S_iincT rfl rfl rfl (fun vz21 => ?_)
        refine LW_ls (ls' := [some (.ref 332), some (.int x1), some (.int x2), some (.int vz21), some (.int x4), some (.int x5), some (.int x6), some (.int vz2)]) rfl ?_
        refine X_iconst (v := (0 : Int32)) rfl rfl rfl ?_
        refine X_istore (i := 4) (ls' := [some (.ref 332), some (.int x1), some (.int x2), some (.int vz21), some (.int (0 : Int32)), some (.int x5), some (.int x6), some (.int vz2)]) rfl rfl (Nat.le_of_ble_eq_true rfl) rfl ?_
        refine X_iconst (v := (1 : Int32)) rfl rfl rfl ?_
        refine X_istore (i := 5) (ls' := [some (.ref 332), some (.int x1), some (.int x2), some (.int vz21), some (.int (0 : Int32)), some (.int (1 : Int32)), some (.int x6), some (.int vz2)]) rfl rfl (Nat.le_of_ble_eq_true rfl) rfl ?_
        refine LW_goto (tgt := 101) rfl rfl ?_
        refine S_iinc (c := 1) rfl rfl rfl hx6 rfl (by omega) (fun vz22 hvz22 => ?_)
        refine LW_ls (ls' := [some (.ref 332), some (.int x1), some (.int x2), some (.int vz21), some (.int (0 : Int32)), some (.int (1 : Int32)), some (.int vz22), some (.int vz2)]) rfl ?_
        refine LW_goto (tgt := 11) rfl rfl ?_
        exact ih11 V x1 y1 hx1 (by omega) x2 y2 hx2 (by omega) vz21 vz21.toInt rfl (0 : Int32) 0 (show (0 : Int32).toInt = 0 from rfl) (by omega) (1 : Int32) 1 (show (1 : Int32).toInt = 1 from rfl) (by omega) vz22 vz22.toInt rfl (by omega) (some (.int vz2))  (by omega)  (by omega)
      · refine X_iload_n rfl rfl rfl rfl ?_
        refine X_iload rfl rfl rfl ?_
        refine S_iadd rfl rfl hx1 hx4 (by omega) (fun vz23 hvz23 => ?_)
        refine X_iload_n rfl rfl rfl rfl ?_
        refine S_icmp_ne (tgt := 52) rfl rfl rfl rfl hx2 (fun vh24 => ?_) (fun vh24 => ?_)
        · refine S_iincT rfl rfl rfl (fun vz25 => ?_)
          refine LW_ls (ls' := [some (.ref 332), some (.int x1), some (.int x2), some (.int vz25), some (.int x4), some (.int x5), some (.int x6), some (.int vz2)]) rfl ?_
          refine X_iconst (v := (0 : Int32)) rfl rfl rfl ?_
          refine X_istore (i := 4) (ls' := [some (.ref 332), some (.int x1), some (.int x2), some (.int vz25), some (.int (0 : Int32)), some (.int x5), some (.int x6), some (.int vz2)]) rfl rfl (Nat.le_of_ble_eq_true rfl) rfl ?_
          refine X_iconst (v := (1 : Int32)) rfl rfl rfl ?_
          refine X_istore (i := 5) (ls' := [some (.ref 332), some (.int x1), some (.int x2), some (.int vz25), some (.int (0 : Int32)), some (.int (1 : Int32)), some (.int x6), some (.int vz2)]) rfl rfl (Nat.le_of_ble_eq_true rfl) rfl ?_
          refine LW_goto (tgt := 101) rfl rfl ?_
          refine S_iinc (c := 1) rfl rfl rfl hx6 rfl (by omega) (fun vz26 hvz26 => ?_)
          refine LW_ls (ls' := [some (.ref 332), some (.int x1), some (.int x2), some (.int vz25), some (.int (0 : Int32)), some (.int (1 : Int32)), some (.int vz26), some (.int vz2)]) rfl ?_
          refine LW_goto (tgt := 11) rfl rfl ?_
          exact ih11 V x1 y1 hx1 (by omega) x2 y2 hx2 (by omega) vz25 vz25.toInt rfl (0 : Int32) 0 (show (0 : Int32).toInt = 0 from rfl) (by omega) (1 : Int32) 1 (show (1 : Int32).toInt = 1 from rfl) (by omega) vz26 vz26.toInt rfl (by omega) (some (.int vz2))  (by omega)  (by omega)
        · refine X_iload_n rfl rfl rfl rfl ?_
          exact LW_ireturn (st := []) rfl rfl rfl ⟨_, rfl, rfl⟩
theorem C_X10_keyOf_all {P : Par} {g : LH} {d : Nat}  : ∀ n : Nat, (∀ (V : Inv P g) (x1 : Int32) (y1 : Int) (hx1 : x1.toInt = y1) (hf1 : 0 ≤ y1 ∧ y1 ≤ 299) (x2 : Int32) (y2 : Int) (hx2 : x2.toInt = y2) (hf2 : 1 ≤ y2 ∧ y2 ≤ 300) (x3 : Int32) (y3 : Int) (hx3 : x3.toInt = y3) (x4 : Int32) (y4 : Int) (hx4 : x4.toInt = y4) (hf4 : 0 ≤ y4 ∧ y4 ≤ 255) (x5 : Int32) (y5 : Int) (hx5 : x5.toInt = y5) (hf5 : 0 ≤ y5 ∧ y5 ≤ 1) (x6 : Int32) (y6 : Int) (hx6 : x6.toInt = y6) (hf6 : 0 ≤ y6 ∧ y6 ≤ 255) (o7 : Option Value) (hq0 : y4 ≤ y6), (255 - y6) * 1 + 0 < (n : Int) → LW 116 (d + 7) 0 0 11 [some (.ref 332), some (.int x1), some (.int x2), some (.int x3), some (.int x4), some (.int x5), some (.int x6), o7] [] g (fun v g' => ∃ r : Int32, v = some (.int r) ∧ g = g')) := by
  intro n
  induction n with
  | zero => exact fun V x1 y1 hx1 hf1 x2 y2 hx2 hf2 x3 y3 hx3 x4 y4 hx4 hf4 x5 y5 hx5 hf5 x6 y6 hx6 hf6 o7 hq0 hmu => absurd hmu (by omega)
  | succ n ih => exact fun V x1 y1 hx1 hf1 x2 y2 hx2 hf2 x3 y3 hx3 x4 y4 hx4 hf4 x5 y5 hx5 hf5 x6 y6 hx6 hf6 o7 hq0 hmu => C_X10_keyOf_11  V x1 y1 hx1 hf1 x2 y2 hx2 hf2 x3 y3 hx3 x4 y4 hx4 hf4 x5 y5 hx5 hf5 x6 y6 hx6 hf6 o7 hq0 (by omega) ih
set_option maxRecDepth 10000 in
set_option maxHeartbeats 40000000 in
theorem C_X10_keyOf {P : Par} {g : LH} {d : Nat}  (V : Inv P g) (x1 : Int32) (y1 : Int) (hx1 : x1.toInt = y1) (hf1 : 0 ≤ y1 ∧ y1 ≤ 299) (x2 : Int32) (y2 : Int) (hx2 : x2.toInt = y2) (hf2 : 1 ≤ y2 ∧ y2 ≤ 300)   : LW 116 (d + 7) 0 0 0 (lEnt (mL 116) [.ref 332, .int x1, .int x2]) [] g (fun v g' => ∃ r : Int32, v = some (.int r) ∧ g = g') := by
  refine LW_ls (ls' := [some (.ref 332), some (.int x1), some (.int x2), none, none, none, none, none]) rfl ?_
  refine X_iconst (v := (0 : Int32)) rfl rfl rfl ?_
  refine X_istore_n (i := 3) (ls' := [some (.ref 332), some (.int x1), some (.int x2), some (.int (0 : Int32)), none, none, none, none]) rfl rfl rfl (Nat.le_of_ble_eq_true rfl) rfl ?_
  refine X_iconst (v := (0 : Int32)) rfl rfl rfl ?_
  refine X_istore (i := 4) (ls' := [some (.ref 332), some (.int x1), some (.int x2), some (.int (0 : Int32)), some (.int (0 : Int32)), none, none, none]) rfl rfl (Nat.le_of_ble_eq_true rfl) rfl ?_
  refine X_iconst (v := (1 : Int32)) rfl rfl rfl ?_
  refine X_istore (i := 5) (ls' := [some (.ref 332), some (.int x1), some (.int x2), some (.int (0 : Int32)), some (.int (0 : Int32)), some (.int (1 : Int32)), none, none]) rfl rfl (Nat.le_of_ble_eq_true rfl) rfl ?_
  refine X_iconst (v := (0 : Int32)) rfl rfl rfl ?_
  refine X_istore (i := 6) (ls' := [some (.ref 332), some (.int x1), some (.int x2), some (.int (0 : Int32)), some (.int (0 : Int32)), some (.int (1 : Int32)), some (.int (0 : Int32)), none]) rfl rfl (Nat.le_of_ble_eq_true rfl) rfl ?_
  exact (C_X10_keyOf_all (((255 - 0) * 1 + 0) + 1 : Int).toNat) V x1 y1 hx1 (by omega) x2 y2 hx2 (by omega) (0 : Int32) 0 (show (0 : Int32).toInt = 0 from rfl) (0 : Int32) 0 (show (0 : Int32).toInt = 0 from rfl) (by omega) (1 : Int32) 1 (show (1 : Int32).toInt = 1 from rfl) (by omega) (0 : Int32) 0 (show (0 : Int32).toInt = 0 from rfl) (by omega) none  (by omega)  (by omega)
set_option maxRecDepth 10000 in
set_option maxHeartbeats 40000000 in
theorem C_X10_cutOne_16 {P : Par} {g g0 : LH} {d n : Nat}  (V : Inv P g) (hG : Gr g = Gr g0) (hK : Gi g 1 5 = Gi g0 1 5) (x1 : Int32) (y1 : Int) (hx1 : x1.toInt = y1) (hf1 : 0 ≤ y1 ∧ y1 ≤ 299) (x2 : Int32) (y2 : Int) (hx2 : x2.toInt = y2) (hf2 : 1 ≤ y2 ∧ y2 ≤ 300) (o3 : Option Value) (o4 : Option Value)  (hmu : (300 - y2) * 1 + 301 < (n : Int) + 1) (ih16 : ∀ (g : LH) (V : Inv P g) (hG : Gr g = Gr g0) (hK : Gi g 1 5 = Gi g0 1 5) (x1 : Int32) (y1 : Int) (hx1 : x1.toInt = y1) (hf1 : 0 ≤ y1 ∧ y1 ≤ 299) (x2 : Int32) (y2 : Int) (hx2 : x2.toInt = y2) (hf2 : 1 ≤ y2 ∧ y2 ≤ 300) (o3 : Option Value) (o4 : Option Value) , (300 - y2) * 1 + 301 < (n : Int) → LW 114 (d + 12) 0 0 16 [some (.ref 332), some (.int x1), some (.int x2), o3, o4] [] g (fun v g' => ∃ r : Int32, v = some (.int r) ∧ 1 ≤ r.toInt ∧ r.toInt ≤ 300 ∧ Inv P g' ∧ Gr g' = Gr g0 ∧ Gi g' 1 5 = Gi g0 1 5)) (ih80 : ∀ (g : LH) (V : Inv P g) (hG : Gr g = Gr g0) (hK : Gi g 1 5 = Gi g0 1 5) (x1 : Int32) (y1 : Int) (hx1 : x1.toInt = y1) (hf1 : 0 ≤ y1 ∧ y1 ≤ 299) (x2 : Int32) (y2 : Int) (hx2 : x2.toInt = y2) (hf2 : 1 ≤ y2 ∧ y2 ≤ 300) (x3 : Int32) (y3 : Int) (hx3 : x3.toInt = y3) (hf3 : 0 ≤ y3 ∧ y3 ≤ 10000) (o4 : Option Value) , (300 - y2) * 1 + 0 < (n : Int) → LW 114 (d + 12) 0 0 80 [some (.ref 332), some (.int x1), some (.int x2), some (.int x3), o4] [] g (fun v g' => ∃ r : Int32, v = some (.int r) ∧ 1 ≤ r.toInt ∧ r.toInt ≤ 300 ∧ Inv P g' ∧ Gr g' = Gr g0 ∧ Gi g' 1 5 = Gi g0 1 5)) : LW 114 (d + 12) 0 0 16 [some (.ref 332), some (.int x1), some (.int x2), o3, o4] [] g (fun v g' => ∃ r : Int32, v = some (.int r) ∧ 1 ≤ r.toInt ∧ r.toInt ≤ 300 ∧ Inv P g' ∧ Gr g' = Gr g0 ∧ Gi g' 1 5 = Gi g0 1 5) := by
  refine X_iload_n rfl rfl rfl rfl ?_
  refine X_aload_n rfl rfl rfl rfl ?_
  refine S_getI rfl rfl rfl ((congrFun V.1 332).trans s_332) rfl (fun vz1 evz1 => ?_)
  have vf2 := K_16_0 (V.2.2.2.2.1 (332) (0) (Nat.le_of_ble_eq_true rfl)) rk_332
  rw [evz1] at vf2
  refine S_icmp_ge (tgt := 42) rfl rfl rfl hx2 rfl (fun vh3 => ?_) (fun vh3 => ?_)
  · refine X_aload_n rfl rfl rfl rfl ?_
    refine X_iconst (v := (1 : Int32)) rfl rfl rfl ?_
    refine X_iload_n rfl rfl rfl rfl ?_
    refine X_iload_n rfl rfl rfl rfl ?_
    refine X_aload_n rfl rfl rfl rfl ?_
    refine X_iload_n rfl rfl rfl rfl ?_
    refine X_iload_n rfl rfl rfl rfl ?_
    refine Y_callV (as := [.int x1, .int x2]) (st := [.int x2, .int x1, .int (1 : Int32), .ref 332]) rfl rfl rfl (by decide) rfl (Nat.le_of_ble_eq_true rfl) (by decide) (Nat.le_of_ble_eq_true rfl) rfl ((congrFun V.1 332).trans s_332) (by decide) (C_X10_keyOf V x1 y1 hx1 (by omega) x2 y2 hx2 (by omega) ) ?_
    rintro _ g' ⟨vr4, rfl, hgg⟩
    subst hgg
    refine Y_callV (as := [.int (1 : Int32), .int x1, .int x2, .int vr4]) (st := []) rfl rfl rfl (by decide) rfl (Nat.le_of_ble_eq_true rfl) (by decide) (Nat.le_of_ble_eq_true rfl) rfl ((congrFun V.1 332).trans s_332) (by decide) (C_X10_add V (1 : Int32) 1 (show (1 : Int32).toInt = 1 from rfl) (by omega) x1 y1 hx1 (by omega) x2 y2 hx2 (by omega) vr4 vr4.toInt rfl ) ?_
    rintro _ g ⟨rfl, V, hq, hk⟩
    have hG := hq.trans hG
    have hK := hk.trans hK
    refine LW_goto (tgt := 254) rfl rfl ?_
    refine X_iload_n rfl rfl rfl rfl ?_
    have hr := hx2
    exact LW_ireturn (st := []) rfl rfl rfl ⟨_, rfl, by omega, by omega, V, hG, hK⟩
  · refine X_aload_n rfl rfl rfl rfl ?_
    refine X_getR (a := 333) rfl rfl rfl ((congrFun V.1 332).trans s_332) rfl ((congrFun (V.2.1 332 (by decide)) 1).trans r_332_1) ?_
    refine X_iload_n rfl rfl rfl rfl ?_
    refine S_iald rfl rfl ((congrFun V.1 333).trans s_333) hx2 (by omega) (fun vz6 evz6 => ?_)
    have vf7 := K_7 (V.2.2.2.2.1 (333) ((y2 : Int).toNat) (Nat.le_of_ble_eq_true rfl)) rk_333
    rw [evz6] at vf7
    refine X_callS (as := [.int vz6]) (st := []) rfl rfl rfl (by decide) rfl (Nat.le_of_ble_eq_true rfl) (by decide) (Nat.le_of_ble_eq_true rfl) rfl ?_
    refine LW_ls (ls' := [some (.int vz6)]) rfl ?_
    refine X_iload_n rfl rfl rfl rfl ?_
    refine X_bipush (v := (97 : Int32)) rfl rfl rfl ?_
    refine S_icmp_lt (tgt := 12) rfl rfl rfl rfl (show (97 : Int32).toInt = 97 from rfl) (fun vh8 => ?_) (fun vh8 => ?_)
    · refine X_iload_n rfl rfl rfl rfl ?_
      refine X_bipush (v := (65 : Int32)) rfl rfl rfl ?_
      refine S_icmp_lt (tgt := 28) rfl rfl rfl rfl (show (65 : Int32).toInt = 65 from rfl) (fun vh9 => ?_) (fun vh9 => ?_)
      · refine X_iconst (v := (0 : Int32)) rfl rfl rfl ?_
        refine LW_ireturn (st := []) rfl rfl rfl ?_
        refine S_if_eq (tgt := 42) rfl rfl rfl (show (0 : Int32).toInt = 0 from rfl) (fun vh10 => ?_) (fun q => absurd q (by omega))
        refine X_aload_n rfl rfl rfl rfl ?_
        refine X_iconst (v := (1 : Int32)) rfl rfl rfl ?_
        refine X_iload_n rfl rfl rfl rfl ?_
        refine X_iload_n rfl rfl rfl rfl ?_
        refine X_aload_n rfl rfl rfl rfl ?_
        refine X_iload_n rfl rfl rfl rfl ?_
        refine X_iload_n rfl rfl rfl rfl ?_
        refine Y_callV (as := [.int x1, .int x2]) (st := [.int x2, .int x1, .int (1 : Int32), .ref 332]) rfl rfl rfl (by decide) rfl (Nat.le_of_ble_eq_true rfl) (by decide) (Nat.le_of_ble_eq_true rfl) rfl ((congrFun V.1 332).trans s_332) (by decide) (C_X10_keyOf V x1 y1 hx1 (by omega) x2 y2 hx2 (by omega) ) ?_
        rintro _ g' ⟨vr11, rfl, hgg⟩
        subst hgg
        refine Y_callV (as := [.int (1 : Int32), .int x1, .int x2, .int vr11]) (st := []) rfl rfl rfl (by decide) rfl (Nat.le_of_ble_eq_true rfl) (by decide) (Nat.le_of_ble_eq_true rfl) rfl ((congrFun V.1 332).trans s_332) (by decide) (C_X10_add V (1 : Int32) 1 (show (1 : Int32).toInt = 1 from rfl) (by omega) x1 y1 hx1 (by omega) x2 y2 hx2 (by omega) vr11 vr11.toInt rfl ) ?_
        rintro _ g ⟨rfl, V, hq, hk⟩
        have hG := hq.trans hG
        have hK := hk.trans hK
        refine LW_goto (tgt := 254) rfl rfl ?_
        refine X_iload_n rfl rfl rfl rfl ?_
        have hr := hx2
        exact LW_ireturn (st := []) rfl rfl rfl ⟨_, rfl, by omega, by omega, V, hG, hK⟩
      · refine X_iload_n rfl rfl rfl rfl ?_
        refine X_bipush (v := (90 : Int32)) rfl rfl rfl ?_
        refine S_icmp_gt (tgt := 28) rfl rfl rfl rfl (show (90 : Int32).toInt = 90 from rfl) (fun vh13 => ?_) (fun vh13 => ?_)
        · refine X_iconst (v := (0 : Int32)) rfl rfl rfl ?_
          refine LW_ireturn (st := []) rfl rfl rfl ?_
          refine S_if_eq (tgt := 42) rfl rfl rfl (show (0 : Int32).toInt = 0 from rfl) (fun vh14 => ?_) (fun q => absurd q (by omega))
          refine X_aload_n rfl rfl rfl rfl ?_
          refine X_iconst (v := (1 : Int32)) rfl rfl rfl ?_
          refine X_iload_n rfl rfl rfl rfl ?_
          refine X_iload_n rfl rfl rfl rfl ?_
          refine X_aload_n rfl rfl rfl rfl ?_
          refine X_iload_n rfl rfl rfl rfl ?_
          refine X_iload_n rfl rfl rfl rfl ?_
          refine Y_callV (as := [.int x1, .int x2]) (st := [.int x2, .int x1, .int (1 : Int32), .ref 332]) rfl rfl rfl (by decide) rfl (Nat.le_of_ble_eq_true rfl) (by decide) (Nat.le_of_ble_eq_true rfl) rfl ((congrFun V.1 332).trans s_332) (by decide) (C_X10_keyOf V x1 y1 hx1 (by omega) x2 y2 hx2 (by omega) ) ?_
          rintro _ g' ⟨vr15, rfl, hgg⟩
          subst hgg
          refine Y_callV (as := [.int (1 : Int32), .int x1, .int x2, .int vr15]) (st := []) rfl rfl rfl (by decide) rfl (Nat.le_of_ble_eq_true rfl) (by decide) (Nat.le_of_ble_eq_true rfl) rfl ((congrFun V.1 332).trans s_332) (by decide) (C_X10_add V (1 : Int32) 1 (show (1 : Int32).toInt = 1 from rfl) (by omega) x1 y1 hx1 (by omega) x2 y2 hx2 (by omega) vr15 vr15.toInt rfl ) ?_
          rintro _ g ⟨rfl, V, hq, hk⟩
          have hG := hq.trans hG
          have hK := hk.trans hK
          refine LW_goto (tgt := 254) rfl rfl ?_
          refine X_iload_n rfl rfl rfl rfl ?_
          have hr := hx2
          exact LW_ireturn (st := []) rfl rfl rfl ⟨_, rfl, by omega, by omega, V, hG, hK⟩
        · refine X_iconst (v := (1 : Int32)) rfl rfl rfl ?_
          refine LW_goto (tgt := 29) rfl rfl ?_
          refine LW_ireturn (st := []) rfl rfl rfl ?_
          refine S_if_eq (tgt := 42) rfl rfl rfl (show (1 : Int32).toInt = 1 from rfl) (fun q => absurd q (by omega)) (fun vh17 => ?_)
          refine S_iinc (c := 1) rfl rfl rfl hx2 rfl (by omega) (fun vz18 hvz18 => ?_)
          refine LW_ls (ls' := [some (.ref 332), some (.int x1), some (.int vz18), o3, o4]) rfl ?_
          refine LW_goto (tgt := 16) rfl rfl ?_
          exact ih16 _ V hG hK x1 y1 hx1 (by omega) vz18 vz18.toInt rfl (by omega) o3 o4    (by omega)
    · refine X_iload_n rfl rfl rfl rfl ?_
      refine X_bipush (v := (122 : Int32)) rfl rfl rfl ?_
      refine S_icmp_le (tgt := 24) rfl rfl rfl rfl (show (122 : Int32).toInt = 122 from rfl) (fun vh19 => ?_) (fun vh19 => ?_)
      · refine X_iconst (v := (1 : Int32)) rfl rfl rfl ?_
        refine LW_goto (tgt := 29) rfl rfl ?_
        refine LW_ireturn (st := []) rfl rfl rfl ?_
        refine S_if_eq (tgt := 42) rfl rfl rfl (show (1 : Int32).toInt = 1 from rfl) (fun q => absurd q (by omega)) (fun vh20 => ?_)
        refine S_iinc (c := 1) rfl rfl rfl hx2 rfl (by omega) (fun vz21 hvz21 => ?_)
        refine LW_ls (ls' := [some (.ref 332), some (.int x1), some (.int vz21), o3, o4]) rfl ?_
        refine LW_goto (tgt := 16) rfl rfl ?_
        exact ih16 _ V hG hK x1 y1 hx1 (by omega) vz21 vz21.toInt rfl (by omega) o3 o4    (by omega)
      · refine X_iload_n rfl rfl rfl rfl ?_
        refine X_bipush (v := (65 : Int32)) rfl rfl rfl ?_
        refine S_icmp_lt (tgt := 28) rfl rfl rfl rfl (show (65 : Int32).toInt = 65 from rfl) (fun q => absurd q (by omega)) (fun vh22 => ?_)
        refine X_iload_n rfl rfl rfl rfl ?_
        refine X_bipush (v := (90 : Int32)) rfl rfl rfl ?_
        refine S_icmp_gt (tgt := 28) rfl rfl rfl rfl (show (90 : Int32).toInt = 90 from rfl) (fun vh23 => ?_) (fun q => absurd q (by omega))
        refine X_iconst (v := (0 : Int32)) rfl rfl rfl ?_
        refine LW_ireturn (st := []) rfl rfl rfl ?_
        refine S_if_eq (tgt := 42) rfl rfl rfl (show (0 : Int32).toInt = 0 from rfl) (fun vh24 => ?_) (fun q => absurd q (by omega))
        refine X_aload_n rfl rfl rfl rfl ?_
        refine X_iconst (v := (1 : Int32)) rfl rfl rfl ?_
        refine X_iload_n rfl rfl rfl rfl ?_
        refine X_iload_n rfl rfl rfl rfl ?_
        refine X_aload_n rfl rfl rfl rfl ?_
        refine X_iload_n rfl rfl rfl rfl ?_
        refine X_iload_n rfl rfl rfl rfl ?_
        refine Y_callV (as := [.int x1, .int x2]) (st := [.int x2, .int x1, .int (1 : Int32), .ref 332]) rfl rfl rfl (by decide) rfl (Nat.le_of_ble_eq_true rfl) (by decide) (Nat.le_of_ble_eq_true rfl) rfl ((congrFun V.1 332).trans s_332) (by decide) (C_X10_keyOf V x1 y1 hx1 (by omega) x2 y2 hx2 (by omega) ) ?_
        rintro _ g' ⟨vr25, rfl, hgg⟩
        subst hgg
        refine Y_callV (as := [.int (1 : Int32), .int x1, .int x2, .int vr25]) (st := []) rfl rfl rfl (by decide) rfl (Nat.le_of_ble_eq_true rfl) (by decide) (Nat.le_of_ble_eq_true rfl) rfl ((congrFun V.1 332).trans s_332) (by decide) (C_X10_add V (1 : Int32) 1 (show (1 : Int32).toInt = 1 from rfl) (by omega) x1 y1 hx1 (by omega) x2 y2 hx2 (by omega) vr25 vr25.toInt rfl ) ?_
        rintro _ g ⟨rfl, V, hq, hk⟩
        have hG := hq.trans hG
        have hK := hk.trans hK
        refine LW_goto (tgt := 254) rfl rfl ?_
        refine X_iload_n rfl rfl rfl rfl ?_
        have hr := hx2
        exact LW_ireturn (st := []) rfl rfl rfl ⟨_, rfl, by omega, by omega, V, hG, hK⟩
set_option maxRecDepth 10000 in
set_option maxHeartbeats 40000000 in
theorem C_X10_cutOne_80 {P : Par} {g g0 : LH} {d n : Nat}  (V : Inv P g) (hG : Gr g = Gr g0) (hK : Gi g 1 5 = Gi g0 1 5) (x1 : Int32) (y1 : Int) (hx1 : x1.toInt = y1) (hf1 : 0 ≤ y1 ∧ y1 ≤ 299) (x2 : Int32) (y2 : Int) (hx2 : x2.toInt = y2) (hf2 : 1 ≤ y2 ∧ y2 ≤ 300) (x3 : Int32) (y3 : Int) (hx3 : x3.toInt = y3) (hf3 : 0 ≤ y3 ∧ y3 ≤ 10000) (o4 : Option Value)  (hmu : (300 - y2) * 1 + 0 < (n : Int) + 1) (ih16 : ∀ (g : LH) (V : Inv P g) (hG : Gr g = Gr g0) (hK : Gi g 1 5 = Gi g0 1 5) (x1 : Int32) (y1 : Int) (hx1 : x1.toInt = y1) (hf1 : 0 ≤ y1 ∧ y1 ≤ 299) (x2 : Int32) (y2 : Int) (hx2 : x2.toInt = y2) (hf2 : 1 ≤ y2 ∧ y2 ≤ 300) (o3 : Option Value) (o4 : Option Value) , (300 - y2) * 1 + 301 < (n : Int) → LW 114 (d + 12) 0 0 16 [some (.ref 332), some (.int x1), some (.int x2), o3, o4] [] g (fun v g' => ∃ r : Int32, v = some (.int r) ∧ 1 ≤ r.toInt ∧ r.toInt ≤ 300 ∧ Inv P g' ∧ Gr g' = Gr g0 ∧ Gi g' 1 5 = Gi g0 1 5)) (ih80 : ∀ (g : LH) (V : Inv P g) (hG : Gr g = Gr g0) (hK : Gi g 1 5 = Gi g0 1 5) (x1 : Int32) (y1 : Int) (hx1 : x1.toInt = y1) (hf1 : 0 ≤ y1 ∧ y1 ≤ 299) (x2 : Int32) (y2 : Int) (hx2 : x2.toInt = y2) (hf2 : 1 ≤ y2 ∧ y2 ≤ 300) (x3 : Int32) (y3 : Int) (hx3 : x3.toInt = y3) (hf3 : 0 ≤ y3 ∧ y3 ≤ 10000) (o4 : Option Value) , (300 - y2) * 1 + 0 < (n : Int) → LW 114 (d + 12) 0 0 80 [some (.ref 332), some (.int x1), some (.int x2), some (.int x3), o4] [] g (fun v g' => ∃ r : Int32, v = some (.int r) ∧ 1 ≤ r.toInt ∧ r.toInt ≤ 300 ∧ Inv P g' ∧ Gr g' = Gr g0 ∧ Gi g' 1 5 = Gi g0 1 5)) : LW 114 (d + 12) 0 0 80 [some (.ref 332), some (.int x1), some (.int x2), some (.int x3), o4] [] g (fun v g' => ∃ r : Int32, v = some (.int r) ∧ 1 ≤ r.toInt ∧ r.toInt ≤ 300 ∧ Inv P g' ∧ Gr g' = Gr g0 ∧ Gi g' 1 5 = Gi g0 1 5) := by
  refine X_iload_n rfl rfl rfl rfl ?_
  refine X_aload_n rfl rfl rfl rfl ?_
  refine S_getI rfl rfl rfl ((congrFun V.1 332).trans s_332) rfl (fun vz1 evz1 => ?_)
  have vf2 := K_16_0 (V.2.2.2.2.1 (332) (0) (Nat.le_of_ble_eq_true rfl)) rk_332
  rw [evz1] at vf2
  refine S_icmp_ge (tgt := 127) rfl rfl rfl hx2 rfl (fun vh3 => ?_) (fun vh3 => ?_)
  · refine X_aload_n rfl rfl rfl rfl ?_
    refine X_iconst (v := (2 : Int32)) rfl rfl rfl ?_
    refine X_iload_n rfl rfl rfl rfl ?_
    refine X_iload_n rfl rfl rfl rfl ?_
    refine X_iload_n rfl rfl rfl rfl ?_
    refine Y_callV (as := [.int (2 : Int32), .int x1, .int x2, .int x3]) (st := []) rfl rfl rfl (by decide) rfl (Nat.le_of_ble_eq_true rfl) (by decide) (Nat.le_of_ble_eq_true rfl) rfl ((congrFun V.1 332).trans s_332) (by decide) (C_X10_add V (2 : Int32) 2 (show (2 : Int32).toInt = 2 from rfl) (by omega) x1 y1 hx1 (by omega) x2 y2 hx2 (by omega) x3 y3 hx3 ) ?_
    rintro _ g ⟨rfl, V, hq, hk⟩
    have hG := hq.trans hG
    have hK := hk.trans hK
    refine LW_goto (tgt := 254) rfl rfl ?_
    refine X_iload_n rfl rfl rfl rfl ?_
    have hr := hx2
    exact LW_ireturn (st := []) rfl rfl rfl ⟨_, rfl, by omega, by omega, V, hG, hK⟩
  · refine X_aload_n rfl rfl rfl rfl ?_
    refine X_getR (a := 333) rfl rfl rfl ((congrFun V.1 332).trans s_332) rfl ((congrFun (V.2.1 332 (by decide)) 1).trans r_332_1) ?_
    refine X_iload_n rfl rfl rfl rfl ?_
    refine S_iald rfl rfl ((congrFun V.1 333).trans s_333) hx2 (by omega) (fun vz5 evz5 => ?_)
    have vf6 := K_7 (V.2.2.2.2.1 (333) ((y2 : Int).toNat) (Nat.le_of_ble_eq_true rfl)) rk_333
    rw [evz5] at vf6
    refine X_callS (as := [.int vz5]) (st := []) rfl rfl rfl (by decide) rfl (Nat.le_of_ble_eq_true rfl) (by decide) (Nat.le_of_ble_eq_true rfl) rfl ?_
    refine LW_ls (ls' := [some (.int vz5)]) rfl ?_
    refine X_iload_n rfl rfl rfl rfl ?_
    refine X_bipush (v := (48 : Int32)) rfl rfl rfl ?_
    refine S_icmp_lt (tgt := 16) rfl rfl rfl rfl (show (48 : Int32).toInt = 48 from rfl) (fun vh7 => ?_) (fun vh7 => ?_)
    · refine X_iconst (v := (0 : Int32)) rfl rfl rfl ?_
      refine LW_ireturn (st := []) rfl rfl rfl ?_
      refine S_if_eq (tgt := 127) rfl rfl rfl (show (0 : Int32).toInt = 0 from rfl) (fun vh8 => ?_) (fun q => absurd q (by omega))
      refine X_aload_n rfl rfl rfl rfl ?_
      refine X_iconst (v := (2 : Int32)) rfl rfl rfl ?_
      refine X_iload_n rfl rfl rfl rfl ?_
      refine X_iload_n rfl rfl rfl rfl ?_
      refine X_iload_n rfl rfl rfl rfl ?_
      refine Y_callV (as := [.int (2 : Int32), .int x1, .int x2, .int x3]) (st := []) rfl rfl rfl (by decide) rfl (Nat.le_of_ble_eq_true rfl) (by decide) (Nat.le_of_ble_eq_true rfl) rfl ((congrFun V.1 332).trans s_332) (by decide) (C_X10_add V (2 : Int32) 2 (show (2 : Int32).toInt = 2 from rfl) (by omega) x1 y1 hx1 (by omega) x2 y2 hx2 (by omega) x3 y3 hx3 ) ?_
      rintro _ g ⟨rfl, V, hq, hk⟩
      have hG := hq.trans hG
      have hK := hk.trans hK
      refine LW_goto (tgt := 254) rfl rfl ?_
      refine X_iload_n rfl rfl rfl rfl ?_
      have hr := hx2
      exact LW_ireturn (st := []) rfl rfl rfl ⟨_, rfl, by omega, by omega, V, hG, hK⟩
    · refine X_iload_n rfl rfl rfl rfl ?_
      refine X_bipush (v := (57 : Int32)) rfl rfl rfl ?_
      refine S_icmp_gt (tgt := 16) rfl rfl rfl rfl (show (57 : Int32).toInt = 57 from rfl) (fun vh10 => ?_) (fun vh10 => ?_)
      · refine X_iconst (v := (0 : Int32)) rfl rfl rfl ?_
        refine LW_ireturn (st := []) rfl rfl rfl ?_
        refine S_if_eq (tgt := 127) rfl rfl rfl (show (0 : Int32).toInt = 0 from rfl) (fun vh11 => ?_) (fun q => absurd q (by omega))
        refine X_aload_n rfl rfl rfl rfl ?_
        refine X_iconst (v := (2 : Int32)) rfl rfl rfl ?_
        refine X_iload_n rfl rfl rfl rfl ?_
        refine X_iload_n rfl rfl rfl rfl ?_
        refine X_iload_n rfl rfl rfl rfl ?_
        refine Y_callV (as := [.int (2 : Int32), .int x1, .int x2, .int x3]) (st := []) rfl rfl rfl (by decide) rfl (Nat.le_of_ble_eq_true rfl) (by decide) (Nat.le_of_ble_eq_true rfl) rfl ((congrFun V.1 332).trans s_332) (by decide) (C_X10_add V (2 : Int32) 2 (show (2 : Int32).toInt = 2 from rfl) (by omega) x1 y1 hx1 (by omega) x2 y2 hx2 (by omega) x3 y3 hx3 ) ?_
        rintro _ g ⟨rfl, V, hq, hk⟩
        have hG := hq.trans hG
        have hK := hk.trans hK
        refine LW_goto (tgt := 254) rfl rfl ?_
        refine X_iload_n rfl rfl rfl rfl ?_
        have hr := hx2
        exact LW_ireturn (st := []) rfl rfl rfl ⟨_, rfl, by omega, by omega, V, hG, hK⟩
      · refine X_iconst (v := (1 : Int32)) rfl rfl rfl ?_
        refine LW_goto (tgt := 17) rfl rfl ?_
        refine LW_ireturn (st := []) rfl rfl rfl ?_
        refine S_if_eq (tgt := 127) rfl rfl rfl (show (1 : Int32).toInt = 1 from rfl) (fun q => absurd q (by omega)) (fun vh13 => ?_)
        refine X_bipush (v := (10 : Int32)) rfl rfl rfl ?_
        refine X_iload_n rfl rfl rfl rfl ?_
        refine S_imul rfl rfl (show (10 : Int32).toInt = 10 from rfl) hx3 (by omega) (fun vz14 hvz14 => ?_)
        refine X_aload_n rfl rfl rfl rfl ?_
        refine X_getR (a := 333) rfl rfl rfl ((congrFun V.1 332).trans s_332) rfl ((congrFun (V.2.1 332 (by decide)) 1).trans r_332_1) ?_
        refine X_iload_n rfl rfl rfl rfl ?_
        refine S_iald_v rfl rfl ((congrFun V.1 333).trans s_333) hx2 (by omega) evz5 ?_
        refine S_iadd rfl rfl rfl rfl (by omega) (fun vz16 hvz16 => ?_)
        refine X_bipush (v := (48 : Int32)) rfl rfl rfl ?_
        refine S_isub rfl rfl rfl (show (48 : Int32).toInt = 48 from rfl) (by omega) (fun vz17 hvz17 => ?_)
        refine X_sipush (v := (10000 : Int32)) rfl rfl rfl ?_
        refine S_min rfl rfl rfl (Nat.le_of_ble_eq_true rfl) rfl (show (10000 : Int32).toInt = 10000 from rfl) (fun vz18 hvz18 => ?_)
        refine X_istore_n (i := 3) (ls' := [some (.ref 332), some (.int x1), some (.int x2), some (.int vz18), o4]) rfl rfl rfl (Nat.le_of_ble_eq_true rfl) rfl ?_
        refine S_iinc (c := 1) rfl rfl rfl hx2 rfl (by omega) (fun vz19 hvz19 => ?_)
        refine LW_ls (ls' := [some (.ref 332), some (.int x1), some (.int vz19), some (.int vz18), o4]) rfl ?_
        refine LW_goto (tgt := 80) rfl rfl ?_
        exact ih80 _ V hG hK x1 y1 hx1 (by omega) vz19 vz19.toInt rfl (by omega) vz18 vz18.toInt rfl (by omega) o4    (by omega)
theorem C_X10_cutOne_all {P : Par} {g0 : LH} {d : Nat}  : ∀ n : Nat, (∀ (g : LH) (V : Inv P g) (hG : Gr g = Gr g0) (hK : Gi g 1 5 = Gi g0 1 5) (x1 : Int32) (y1 : Int) (hx1 : x1.toInt = y1) (hf1 : 0 ≤ y1 ∧ y1 ≤ 299) (x2 : Int32) (y2 : Int) (hx2 : x2.toInt = y2) (hf2 : 1 ≤ y2 ∧ y2 ≤ 300) (o3 : Option Value) (o4 : Option Value) , (300 - y2) * 1 + 301 < (n : Int) → LW 114 (d + 12) 0 0 16 [some (.ref 332), some (.int x1), some (.int x2), o3, o4] [] g (fun v g' => ∃ r : Int32, v = some (.int r) ∧ 1 ≤ r.toInt ∧ r.toInt ≤ 300 ∧ Inv P g' ∧ Gr g' = Gr g0 ∧ Gi g' 1 5 = Gi g0 1 5)) ∧ (∀ (g : LH) (V : Inv P g) (hG : Gr g = Gr g0) (hK : Gi g 1 5 = Gi g0 1 5) (x1 : Int32) (y1 : Int) (hx1 : x1.toInt = y1) (hf1 : 0 ≤ y1 ∧ y1 ≤ 299) (x2 : Int32) (y2 : Int) (hx2 : x2.toInt = y2) (hf2 : 1 ≤ y2 ∧ y2 ≤ 300) (x3 : Int32) (y3 : Int) (hx3 : x3.toInt = y3) (hf3 : 0 ≤ y3 ∧ y3 ≤ 10000) (o4 : Option Value) , (300 - y2) * 1 + 0 < (n : Int) → LW 114 (d + 12) 0 0 80 [some (.ref 332), some (.int x1), some (.int x2), some (.int x3), o4] [] g (fun v g' => ∃ r : Int32, v = some (.int r) ∧ 1 ≤ r.toInt ∧ r.toInt ≤ 300 ∧ Inv P g' ∧ Gr g' = Gr g0 ∧ Gi g' 1 5 = Gi g0 1 5)) := by
  intro n
  induction n with
  | zero => exact ⟨fun g V hG hK x1 y1 hx1 hf1 x2 y2 hx2 hf2 o3 o4 hmu => absurd hmu (by omega), fun g V hG hK x1 y1 hx1 hf1 x2 y2 hx2 hf2 x3 y3 hx3 hf3 o4 hmu => absurd hmu (by omega)⟩
  | succ n ih => exact ⟨fun g V hG hK x1 y1 hx1 hf1 x2 y2 hx2 hf2 o3 o4 hmu => C_X10_cutOne_16  V hG hK x1 y1 hx1 hf1 x2 y2 hx2 hf2 o3 o4 (by omega) ih.1 ih.2, fun g V hG hK x1 y1 hx1 hf1 x2 y2 hx2 hf2 x3 y3 hx3 hf3 o4 hmu => C_X10_cutOne_80  V hG hK x1 y1 hx1 hf1 x2 y2 hx2 hf2 x3 y3 hx3 hf3 o4 (by omega) ih.1 ih.2⟩
set_option maxRecDepth 10000 in
set_option maxHeartbeats 40000000 in
theorem C_X10_cutOne {P : Par} {g : LH} {d : Nat}  (V : Inv P g) (x1 : Int32) (y1 : Int) (hx1 : x1.toInt = y1) (hf1 : 0 ≤ y1 ∧ y1 ≤ 299)   : LW 114 (d + 12) 0 0 0 (lEnt (mL 114) [.ref 332, .int x1]) [] g (fun v g' => ∃ r : Int32, v = some (.int r) ∧ 1 ≤ r.toInt ∧ r.toInt ≤ 300 ∧ Inv P g' ∧ Gr g' = Gr g ∧ Gi g' 1 5 = Gi g 1 5) := by
  refine LW_ls (ls' := [some (.ref 332), some (.int x1), none, none, none]) rfl ?_
  have hG : Gr g = Gr g := rfl
  have hK : Gi g 1 5 = Gi g 1 5 := rfl
  refine X_iload_n rfl rfl rfl rfl ?_
  refine X_iconst (v := (1 : Int32)) rfl rfl rfl ?_
  refine S_iadd rfl rfl hx1 (show (1 : Int32).toInt = 1 from rfl) (by omega) (fun vz1 hvz1 => ?_)
  refine X_istore_n (i := 2) (ls' := [some (.ref 332), some (.int x1), some (.int vz1), none, none]) rfl rfl rfl (Nat.le_of_ble_eq_true rfl) rfl ?_
  refine X_aload_n rfl rfl rfl rfl ?_
  refine X_getR (a := 333) rfl rfl rfl ((congrFun V.1 332).trans s_332) rfl ((congrFun (V.2.1 332 (by decide)) 1).trans r_332_1) ?_
  refine X_iload_n rfl rfl rfl rfl ?_
  refine S_iald rfl rfl ((congrFun V.1 333).trans s_333) hx1 (by omega) (fun vz2 evz2 => ?_)
  have vf3 := K_7 (V.2.2.2.2.1 (333) ((y1 : Int).toNat) (Nat.le_of_ble_eq_true rfl)) rk_333
  rw [evz2] at vf3
  refine X_callS (as := [.int vz2]) (st := []) rfl rfl rfl (by decide) rfl (Nat.le_of_ble_eq_true rfl) (by decide) (Nat.le_of_ble_eq_true rfl) rfl ?_
  refine LW_ls (ls' := [some (.int vz2)]) rfl ?_
  refine X_iload_n rfl rfl rfl rfl ?_
  refine X_bipush (v := (97 : Int32)) rfl rfl rfl ?_
  refine S_icmp_lt (tgt := 12) rfl rfl rfl rfl (show (97 : Int32).toInt = 97 from rfl) (fun vh4 => ?_) (fun vh4 => ?_)
  · refine X_iload_n rfl rfl rfl rfl ?_
    refine X_bipush (v := (65 : Int32)) rfl rfl rfl ?_
    refine S_icmp_lt (tgt := 28) rfl rfl rfl rfl (show (65 : Int32).toInt = 65 from rfl) (fun vh5 => ?_) (fun vh5 => ?_)
    · refine X_iconst (v := (0 : Int32)) rfl rfl rfl ?_
      refine LW_ireturn (st := []) rfl rfl rfl ?_
      refine S_if_eq (tgt := 58) rfl rfl rfl (show (0 : Int32).toInt = 0 from rfl) (fun vh6 => ?_) (fun q => absurd q (by omega))
      refine X_aload_n rfl rfl rfl rfl ?_
      refine X_getR (a := 333) rfl rfl rfl ((congrFun V.1 332).trans s_332) rfl ((congrFun (V.2.1 332 (by decide)) 1).trans r_332_1) ?_
      refine X_iload_n rfl rfl rfl rfl ?_
      refine S_iald_v rfl rfl ((congrFun V.1 333).trans s_333) hx1 (by omega) evz2 ?_
      refine X_callS (as := [.int vz2]) (st := []) rfl rfl rfl (by decide) rfl (Nat.le_of_ble_eq_true rfl) (by decide) (Nat.le_of_ble_eq_true rfl) rfl ?_
      refine LW_ls (ls' := [some (.int vz2)]) rfl ?_
      refine X_iload_n rfl rfl rfl rfl ?_
      refine X_bipush (v := (48 : Int32)) rfl rfl rfl ?_
      refine S_icmp_lt (tgt := 16) rfl rfl rfl rfl (show (48 : Int32).toInt = 48 from rfl) (fun vh8 => ?_) (fun vh8 => ?_)
      · refine X_iconst (v := (0 : Int32)) rfl rfl rfl ?_
        refine LW_ireturn (st := []) rfl rfl rfl ?_
        refine S_if_eq (tgt := 138) rfl rfl rfl (show (0 : Int32).toInt = 0 from rfl) (fun vh9 => ?_) (fun q => absurd q (by omega))
        refine X_ldcS (r := 3) rfl rfl (fun _ _ _ _ h => h.2.2.2.1.2) ?_
        refine X_aload_n rfl rfl rfl rfl ?_
        refine X_getR (a := 333) rfl rfl rfl ((congrFun V.1 332).trans s_332) rfl ((congrFun (V.2.1 332 (by decide)) 1).trans r_332_1) ?_
        refine X_iload_n rfl rfl rfl rfl ?_
        refine S_iald_v rfl rfl ((congrFun V.1 333).trans s_333) hx1 (by omega) evz2 ?_
        refine S_i2c rfl rfl (fun vz11 hvz11 => ?_)
        refine Y_callVO (i := 1) (as := [.int vz11]) (st := []) (by decide) rfl rfl rfl (by decide) rfl rfl (Nat.le_of_ble_eq_true rfl) (by decide) (Nat.le_of_ble_eq_true rfl) rfl (c_indexOf (i := 1) (by decide)) ?_
        rintro _ g' ⟨⟨vz12, rfl⟩, hgg⟩
        subst hgg
        refine S_if_lt (tgt := 157) rfl rfl rfl rfl (fun vh13 => ?_) (fun vh13 => ?_)
        · refine X_iconst (v := (0 : Int32)) rfl rfl rfl ?_
          refine X_istore_n (i := 3) (ls' := [some (.ref 332), some (.int x1), some (.int vz1), some (.int (0 : Int32)), none]) rfl rfl rfl (Nat.le_of_ble_eq_true rfl) rfl ?_
          refine X_aload_n rfl rfl rfl rfl ?_
          refine X_getR (a := 333) rfl rfl rfl ((congrFun V.1 332).trans s_332) rfl ((congrFun (V.2.1 332 (by decide)) 1).trans r_332_1) ?_
          refine X_iload_n rfl rfl rfl rfl ?_
          refine S_iald_v rfl rfl ((congrFun V.1 333).trans s_333) hx1 (by omega) evz2 ?_
          refine X_bipush (v := (60 : Int32)) rfl rfl rfl ?_
          refine S_icmp_eq (tgt := 181) rfl rfl rfl rfl (show (60 : Int32).toInt = 60 from rfl) (fun q => absurd q (by omega)) (fun vh15 => ?_)
          refine X_aload_n rfl rfl rfl rfl ?_
          refine X_getR (a := 333) rfl rfl rfl ((congrFun V.1 332).trans s_332) rfl ((congrFun (V.2.1 332 (by decide)) 1).trans r_332_1) ?_
          refine X_iload_n rfl rfl rfl rfl ?_
          refine S_iald_v rfl rfl ((congrFun V.1 333).trans s_333) hx1 (by omega) evz2 ?_
          refine X_bipush (v := (62 : Int32)) rfl rfl rfl ?_
          refine S_icmp_ne (tgt := 204) rfl rfl rfl rfl (show (62 : Int32).toInt = 62 from rfl) (fun vh17 => ?_) (fun q => absurd q (by omega))
          refine X_iconst (v := (0 : Int32)) rfl rfl rfl ?_
          refine X_istore (i := 4) (ls' := [some (.ref 332), some (.int x1), some (.int vz1), some (.int (0 : Int32)), some (.int (0 : Int32))]) rfl rfl (Nat.le_of_ble_eq_true rfl) rfl ?_
          refine X_iload_n rfl rfl rfl rfl ?_
          refine X_iload rfl rfl rfl ?_
          refine S_if_eq (tgt := 217) rfl rfl rfl (show (0 : Int32).toInt = 0 from rfl) (fun vh18 => ?_) (fun q => absurd q (by omega))
          refine X_iconst (v := (0 : Int32)) rfl rfl rfl ?_
          refine S_iadd rfl rfl rfl (show (0 : Int32).toInt = 0 from rfl) (by omega) (fun vz19 hvz19 => ?_)
          refine X_istore_n (i := 2) (ls' := [some (.ref 332), some (.int x1), some (.int vz19), some (.int (0 : Int32)), some (.int (0 : Int32))]) rfl rfl rfl (Nat.le_of_ble_eq_true rfl) rfl ?_
          refine X_aload_n rfl rfl rfl rfl ?_
          refine X_iload_n rfl rfl rfl rfl ?_
          refine S_if_eq (tgt := 229) rfl rfl rfl (show (0 : Int32).toInt = 0 from rfl) (fun vh20 => ?_) (fun q => absurd q (by omega))
          refine X_iconst (v := (4 : Int32)) rfl rfl rfl ?_
          refine X_iload_n rfl rfl rfl rfl ?_
          refine X_iload_n rfl rfl rfl rfl ?_
          refine X_aload_n rfl rfl rfl rfl ?_
          refine X_getR (a := 333) rfl rfl rfl ((congrFun V.1 332).trans s_332) rfl ((congrFun (V.2.1 332 (by decide)) 1).trans r_332_1) ?_
          refine X_iload_n rfl rfl rfl rfl ?_
          refine S_iald_v rfl rfl ((congrFun V.1 333).trans s_333) hx1 (by omega) evz2 ?_
          refine X_iload rfl rfl rfl ?_
          refine S_if_eq (tgt := 249) rfl rfl rfl (show (0 : Int32).toInt = 0 from rfl) (fun vh22 => ?_) (fun q => absurd q (by omega))
          refine X_iconst (v := (0 : Int32)) rfl rfl rfl ?_
          refine S_iadd rfl rfl rfl (show (0 : Int32).toInt = 0 from rfl) (by omega) (fun vz23 hvz23 => ?_)
          refine Y_callV (as := [.int (4 : Int32), .int x1, .int vz19, .int vz23]) (st := []) rfl rfl rfl (by decide) rfl (Nat.le_of_ble_eq_true rfl) (by decide) (Nat.le_of_ble_eq_true rfl) rfl ((congrFun V.1 332).trans s_332) (by decide) (C_X10_add V (4 : Int32) 4 (show (4 : Int32).toInt = 4 from rfl) (by omega) x1 y1 hx1 (by omega) vz19 vz19.toInt rfl (by omega) vz23 vz23.toInt rfl ) ?_
          rintro _ g ⟨rfl, V, hq, hk⟩
          have hG := hq.trans hG
          have hK := hk.trans hK
          refine X_iload_n rfl rfl rfl rfl ?_
          have hr := (rfl : vz19.toInt = vz19.toInt)
          exact LW_ireturn (st := []) rfl rfl rfl ⟨_, rfl, by omega, by omega, V, hG, hK⟩
        · refine X_iconst (v := (1 : Int32)) rfl rfl rfl ?_
          refine LW_goto (tgt := 158) rfl rfl ?_
          refine X_istore_n (i := 3) (ls' := [some (.ref 332), some (.int x1), some (.int vz1), some (.int (1 : Int32)), none]) rfl rfl rfl (Nat.le_of_ble_eq_true rfl) rfl ?_
          refine X_aload_n rfl rfl rfl rfl ?_
          refine X_getR (a := 333) rfl rfl rfl ((congrFun V.1 332).trans s_332) rfl ((congrFun (V.2.1 332 (by decide)) 1).trans r_332_1) ?_
          refine X_iload_n rfl rfl rfl rfl ?_
          refine S_iald_v rfl rfl ((congrFun V.1 333).trans s_333) hx1 (by omega) evz2 ?_
          refine X_bipush (v := (60 : Int32)) rfl rfl rfl ?_
          refine S_icmp_eq (tgt := 181) rfl rfl rfl rfl (show (60 : Int32).toInt = 60 from rfl) (fun q => absurd q (by omega)) (fun vh26 => ?_)
          refine X_aload_n rfl rfl rfl rfl ?_
          refine X_getR (a := 333) rfl rfl rfl ((congrFun V.1 332).trans s_332) rfl ((congrFun (V.2.1 332 (by decide)) 1).trans r_332_1) ?_
          refine X_iload_n rfl rfl rfl rfl ?_
          refine S_iald_v rfl rfl ((congrFun V.1 333).trans s_333) hx1 (by omega) evz2 ?_
          refine X_bipush (v := (62 : Int32)) rfl rfl rfl ?_
          refine S_icmp_ne (tgt := 204) rfl rfl rfl rfl (show (62 : Int32).toInt = 62 from rfl) (fun vh28 => ?_) (fun q => absurd q (by omega))
          refine X_iconst (v := (0 : Int32)) rfl rfl rfl ?_
          refine X_istore (i := 4) (ls' := [some (.ref 332), some (.int x1), some (.int vz1), some (.int (1 : Int32)), some (.int (0 : Int32))]) rfl rfl (Nat.le_of_ble_eq_true rfl) rfl ?_
          refine X_iload_n rfl rfl rfl rfl ?_
          refine X_iload rfl rfl rfl ?_
          refine S_if_eq (tgt := 217) rfl rfl rfl (show (0 : Int32).toInt = 0 from rfl) (fun vh29 => ?_) (fun q => absurd q (by omega))
          refine X_iconst (v := (0 : Int32)) rfl rfl rfl ?_
          refine S_iadd rfl rfl rfl (show (0 : Int32).toInt = 0 from rfl) (by omega) (fun vz30 hvz30 => ?_)
          refine X_istore_n (i := 2) (ls' := [some (.ref 332), some (.int x1), some (.int vz30), some (.int (1 : Int32)), some (.int (0 : Int32))]) rfl rfl rfl (Nat.le_of_ble_eq_true rfl) rfl ?_
          refine X_aload_n rfl rfl rfl rfl ?_
          refine X_iload_n rfl rfl rfl rfl ?_
          refine S_if_eq (tgt := 229) rfl rfl rfl (show (1 : Int32).toInt = 1 from rfl) (fun q => absurd q (by omega)) (fun vh31 => ?_)
          refine X_iconst (v := (3 : Int32)) rfl rfl rfl ?_
          refine LW_goto (tgt := 230) rfl rfl ?_
          refine X_iload_n rfl rfl rfl rfl ?_
          refine X_iload_n rfl rfl rfl rfl ?_
          refine X_aload_n rfl rfl rfl rfl ?_
          refine X_getR (a := 333) rfl rfl rfl ((congrFun V.1 332).trans s_332) rfl ((congrFun (V.2.1 332 (by decide)) 1).trans r_332_1) ?_
          refine X_iload_n rfl rfl rfl rfl ?_
          refine S_iald_v rfl rfl ((congrFun V.1 333).trans s_333) hx1 (by omega) evz2 ?_
          refine X_iload rfl rfl rfl ?_
          refine S_if_eq (tgt := 249) rfl rfl rfl (show (0 : Int32).toInt = 0 from rfl) (fun vh33 => ?_) (fun q => absurd q (by omega))
          refine X_iconst (v := (0 : Int32)) rfl rfl rfl ?_
          refine S_iadd rfl rfl rfl (show (0 : Int32).toInt = 0 from rfl) (by omega) (fun vz34 hvz34 => ?_)
          refine Y_callV (as := [.int (3 : Int32), .int x1, .int vz30, .int vz34]) (st := []) rfl rfl rfl (by decide) rfl (Nat.le_of_ble_eq_true rfl) (by decide) (Nat.le_of_ble_eq_true rfl) rfl ((congrFun V.1 332).trans s_332) (by decide) (C_X10_add V (3 : Int32) 3 (show (3 : Int32).toInt = 3 from rfl) (by omega) x1 y1 hx1 (by omega) vz30 vz30.toInt rfl (by omega) vz34 vz34.toInt rfl ) ?_
          rintro _ g ⟨rfl, V, hq, hk⟩
          have hG := hq.trans hG
          have hK := hk.trans hK
          refine X_iload_n rfl rfl rfl rfl ?_
          have hr := (rfl : vz30.toInt = vz30.toInt)
          exact LW_ireturn (st := []) rfl rfl rfl ⟨_, rfl, by omega, by omega, V, hG, hK⟩
      · refine X_iload_n rfl rfl rfl rfl ?_
        refine X_bipush (v := (57 : Int32)) rfl rfl rfl ?_
        refine S_icmp_gt (tgt := 16) rfl rfl rfl rfl (show (57 : Int32).toInt = 57 from rfl) (fun vh36 => ?_) (fun vh36 => ?_)
        · refine X_iconst (v := (0 : Int32)) rfl rfl rfl ?_
          refine LW_ireturn (st := []) rfl rfl rfl ?_
          refine S_if_eq (tgt := 138) rfl rfl rfl (show (0 : Int32).toInt = 0 from rfl) (fun vh37 => ?_) (fun q => absurd q (by omega))
          refine X_ldcS (r := 3) rfl rfl (fun _ _ _ _ h => h.2.2.2.1.2) ?_
          refine X_aload_n rfl rfl rfl rfl ?_
          refine X_getR (a := 333) rfl rfl rfl ((congrFun V.1 332).trans s_332) rfl ((congrFun (V.2.1 332 (by decide)) 1).trans r_332_1) ?_
          refine X_iload_n rfl rfl rfl rfl ?_
          refine S_iald_v rfl rfl ((congrFun V.1 333).trans s_333) hx1 (by omega) evz2 ?_
          refine S_i2c rfl rfl (fun vz39 hvz39 => ?_)
          refine Y_callVO (i := 1) (as := [.int vz39]) (st := []) (by decide) rfl rfl rfl (by decide) rfl rfl (Nat.le_of_ble_eq_true rfl) (by decide) (Nat.le_of_ble_eq_true rfl) rfl (c_indexOf (i := 1) (by decide)) ?_
          rintro _ g' ⟨⟨vz40, rfl⟩, hgg⟩
          subst hgg
          refine S_if_lt (tgt := 157) rfl rfl rfl rfl (fun vh41 => ?_) (fun vh41 => ?_)
          · refine X_iconst (v := (0 : Int32)) rfl rfl rfl ?_
            refine X_istore_n (i := 3) (ls' := [some (.ref 332), some (.int x1), some (.int vz1), some (.int (0 : Int32)), none]) rfl rfl rfl (Nat.le_of_ble_eq_true rfl) rfl ?_
            refine X_aload_n rfl rfl rfl rfl ?_
            refine X_getR (a := 333) rfl rfl rfl ((congrFun V.1 332).trans s_332) rfl ((congrFun (V.2.1 332 (by decide)) 1).trans r_332_1) ?_
            refine X_iload_n rfl rfl rfl rfl ?_
            refine S_iald_v rfl rfl ((congrFun V.1 333).trans s_333) hx1 (by omega) evz2 ?_
            refine X_bipush (v := (60 : Int32)) rfl rfl rfl ?_
            refine S_icmp_eq (tgt := 181) rfl rfl rfl rfl (show (60 : Int32).toInt = 60 from rfl) (fun vh43 => ?_) (fun vh43 => ?_)
            · refine X_iload_n rfl rfl rfl rfl ?_
              refine X_aload_n rfl rfl rfl rfl ?_
              refine S_getI rfl rfl rfl ((congrFun V.1 332).trans s_332) rfl (fun vz44 evz44 => ?_)
              have vf45 := K_16_0 (V.2.2.2.2.1 (332) (0) (Nat.le_of_ble_eq_true rfl)) rk_332
              rw [evz44] at vf45
              refine S_icmp_ge (tgt := 204) rfl rfl rfl rfl rfl (fun vh46 => ?_) (fun vh46 => ?_)
              · refine X_iconst (v := (0 : Int32)) rfl rfl rfl ?_
                refine X_istore (i := 4) (ls' := [some (.ref 332), some (.int x1), some (.int vz1), some (.int (0 : Int32)), some (.int (0 : Int32))]) rfl rfl (Nat.le_of_ble_eq_true rfl) rfl ?_
                refine X_iload_n rfl rfl rfl rfl ?_
                refine X_iload rfl rfl rfl ?_
                refine S_if_eq (tgt := 217) rfl rfl rfl (show (0 : Int32).toInt = 0 from rfl) (fun vh47 => ?_) (fun q => absurd q (by omega))
                refine X_iconst (v := (0 : Int32)) rfl rfl rfl ?_
                refine S_iadd rfl rfl rfl (show (0 : Int32).toInt = 0 from rfl) (by omega) (fun vz48 hvz48 => ?_)
                refine X_istore_n (i := 2) (ls' := [some (.ref 332), some (.int x1), some (.int vz48), some (.int (0 : Int32)), some (.int (0 : Int32))]) rfl rfl rfl (Nat.le_of_ble_eq_true rfl) rfl ?_
                refine X_aload_n rfl rfl rfl rfl ?_
                refine X_iload_n rfl rfl rfl rfl ?_
                refine S_if_eq (tgt := 229) rfl rfl rfl (show (0 : Int32).toInt = 0 from rfl) (fun vh49 => ?_) (fun q => absurd q (by omega))
                refine X_iconst (v := (4 : Int32)) rfl rfl rfl ?_
                refine X_iload_n rfl rfl rfl rfl ?_
                refine X_iload_n rfl rfl rfl rfl ?_
                refine X_aload_n rfl rfl rfl rfl ?_
                refine X_getR (a := 333) rfl rfl rfl ((congrFun V.1 332).trans s_332) rfl ((congrFun (V.2.1 332 (by decide)) 1).trans r_332_1) ?_
                refine X_iload_n rfl rfl rfl rfl ?_
                refine S_iald_v rfl rfl ((congrFun V.1 333).trans s_333) hx1 (by omega) evz2 ?_
                refine X_iload rfl rfl rfl ?_
                refine S_if_eq (tgt := 249) rfl rfl rfl (show (0 : Int32).toInt = 0 from rfl) (fun vh51 => ?_) (fun q => absurd q (by omega))
                refine X_iconst (v := (0 : Int32)) rfl rfl rfl ?_
                refine S_iadd rfl rfl rfl (show (0 : Int32).toInt = 0 from rfl) (by omega) (fun vz52 hvz52 => ?_)
                refine Y_callV (as := [.int (4 : Int32), .int x1, .int vz48, .int vz52]) (st := []) rfl rfl rfl (by decide) rfl (Nat.le_of_ble_eq_true rfl) (by decide) (Nat.le_of_ble_eq_true rfl) rfl ((congrFun V.1 332).trans s_332) (by decide) (C_X10_add V (4 : Int32) 4 (show (4 : Int32).toInt = 4 from rfl) (by omega) x1 y1 hx1 (by omega) vz48 vz48.toInt rfl (by omega) vz52 vz52.toInt rfl ) ?_
                rintro _ g ⟨rfl, V, hq, hk⟩
                have hG := hq.trans hG
                have hK := hk.trans hK
                refine X_iload_n rfl rfl rfl rfl ?_
                have hr := (rfl : vz48.toInt = vz48.toInt)
                exact LW_ireturn (st := []) rfl rfl rfl ⟨_, rfl, by omega, by omega, V, hG, hK⟩
              · refine X_aload_n rfl rfl rfl rfl ?_
                refine X_getR (a := 333) rfl rfl rfl ((congrFun V.1 332).trans s_332) rfl ((congrFun (V.2.1 332 (by decide)) 1).trans r_332_1) ?_
                refine X_iload_n rfl rfl rfl rfl ?_
                refine S_iald rfl rfl ((congrFun V.1 333).trans s_333) rfl (by omega) (fun vz54 evz54 => ?_)
                have vf55 := K_7 (V.2.2.2.2.1 (333) ((vz1.toInt : Int).toNat) (Nat.le_of_ble_eq_true rfl)) rk_333
                rw [evz54] at vf55
                refine X_bipush (v := (61 : Int32)) rfl rfl rfl ?_
                refine S_icmp_ne (tgt := 204) rfl rfl rfl rfl (show (61 : Int32).toInt = 61 from rfl) (fun vh56 => ?_) (fun vh56 => ?_)
                · refine X_iconst (v := (0 : Int32)) rfl rfl rfl ?_
                  refine X_istore (i := 4) (ls' := [some (.ref 332), some (.int x1), some (.int vz1), some (.int (0 : Int32)), some (.int (0 : Int32))]) rfl rfl (Nat.le_of_ble_eq_true rfl) rfl ?_
                  refine X_iload_n rfl rfl rfl rfl ?_
                  refine X_iload rfl rfl rfl ?_
                  refine S_if_eq (tgt := 217) rfl rfl rfl (show (0 : Int32).toInt = 0 from rfl) (fun vh57 => ?_) (fun q => absurd q (by omega))
                  refine X_iconst (v := (0 : Int32)) rfl rfl rfl ?_
                  refine S_iadd rfl rfl rfl (show (0 : Int32).toInt = 0 from rfl) (by omega) (fun vz58 hvz58 => ?_)
                  refine X_istore_n (i := 2) (ls' := [some (.ref 332), some (.int x1), some (.int vz58), some (.int (0 : Int32)), some (.int (0 : Int32))]) rfl rfl rfl (Nat.le_of_ble_eq_true rfl) rfl ?_
                  refine X_aload_n rfl rfl rfl rfl ?_
                  refine X_iload_n rfl rfl rfl rfl ?_
                  refine S_if_eq (tgt := 229) rfl rfl rfl (show (0 : Int32).toInt = 0 from rfl) (fun vh59 => ?_) (fun q => absurd q (by omega))
                  refine X_iconst (v := (4 : Int32)) rfl rfl rfl ?_
                  refine X_iload_n rfl rfl rfl rfl ?_
                  refine X_iload_n rfl rfl rfl rfl ?_
                  refine X_aload_n rfl rfl rfl rfl ?_
                  refine X_getR (a := 333) rfl rfl rfl ((congrFun V.1 332).trans s_332) rfl ((congrFun (V.2.1 332 (by decide)) 1).trans r_332_1) ?_
                  refine X_iload_n rfl rfl rfl rfl ?_
                  refine S_iald_v rfl rfl ((congrFun V.1 333).trans s_333) hx1 (by omega) evz2 ?_
                  refine X_iload rfl rfl rfl ?_
                  refine S_if_eq (tgt := 249) rfl rfl rfl (show (0 : Int32).toInt = 0 from rfl) (fun vh61 => ?_) (fun q => absurd q (by omega))
                  refine X_iconst (v := (0 : Int32)) rfl rfl rfl ?_
                  refine S_iadd rfl rfl rfl (show (0 : Int32).toInt = 0 from rfl) (by omega) (fun vz62 hvz62 => ?_)
                  refine Y_callV (as := [.int (4 : Int32), .int x1, .int vz58, .int vz62]) (st := []) rfl rfl rfl (by decide) rfl (Nat.le_of_ble_eq_true rfl) (by decide) (Nat.le_of_ble_eq_true rfl) rfl ((congrFun V.1 332).trans s_332) (by decide) (C_X10_add V (4 : Int32) 4 (show (4 : Int32).toInt = 4 from rfl) (by omega) x1 y1 hx1 (by omega) vz58 vz58.toInt rfl (by omega) vz62 vz62.toInt rfl ) ?_
                  rintro _ g ⟨rfl, V, hq, hk⟩
                  have hG := hq.trans hG
                  have hK := hk.trans hK
                  refine X_iload_n rfl rfl rfl rfl ?_
                  have hr := (rfl : vz58.toInt = vz58.toInt)
                  exact LW_ireturn (st := []) rfl rfl rfl ⟨_, rfl, by omega, by omega, V, hG, hK⟩
                · refine X_iconst (v := (1 : Int32)) rfl rfl rfl ?_
                  refine LW_goto (tgt := 205) rfl rfl ?_
                  refine X_istore (i := 4) (ls' := [some (.ref 332), some (.int x1), some (.int vz1), some (.int (0 : Int32)), some (.int (1 : Int32))]) rfl rfl (Nat.le_of_ble_eq_true rfl) rfl ?_
                  refine X_iload_n rfl rfl rfl rfl ?_
                  refine X_iload rfl rfl rfl ?_
                  refine S_if_eq (tgt := 217) rfl rfl rfl (show (1 : Int32).toInt = 1 from rfl) (fun q => absurd q (by omega)) (fun vh64 => ?_)
                  refine X_iconst (v := (1 : Int32)) rfl rfl rfl ?_
                  refine LW_goto (tgt := 218) rfl rfl ?_
                  refine S_iadd rfl rfl rfl (show (1 : Int32).toInt = 1 from rfl) (by omega) (fun vz65 hvz65 => ?_)
                  refine X_istore_n (i := 2) (ls' := [some (.ref 332), some (.int x1), some (.int vz65), some (.int (0 : Int32)), some (.int (1 : Int32))]) rfl rfl rfl (Nat.le_of_ble_eq_true rfl) rfl ?_
                  refine X_aload_n rfl rfl rfl rfl ?_
                  refine X_iload_n rfl rfl rfl rfl ?_
                  refine S_if_eq (tgt := 229) rfl rfl rfl (show (0 : Int32).toInt = 0 from rfl) (fun vh66 => ?_) (fun q => absurd q (by omega))
                  refine X_iconst (v := (4 : Int32)) rfl rfl rfl ?_
                  refine X_iload_n rfl rfl rfl rfl ?_
                  refine X_iload_n rfl rfl rfl rfl ?_
                  refine X_aload_n rfl rfl rfl rfl ?_
                  refine X_getR (a := 333) rfl rfl rfl ((congrFun V.1 332).trans s_332) rfl ((congrFun (V.2.1 332 (by decide)) 1).trans r_332_1) ?_
                  refine X_iload_n rfl rfl rfl rfl ?_
                  refine S_iald_v rfl rfl ((congrFun V.1 333).trans s_333) hx1 (by omega) evz2 ?_
                  refine X_iload rfl rfl rfl ?_
                  refine S_if_eq (tgt := 249) rfl rfl rfl (show (1 : Int32).toInt = 1 from rfl) (fun q => absurd q (by omega)) (fun vh68 => ?_)
                  refine X_sipush (v := (256 : Int32)) rfl rfl rfl ?_
                  refine LW_goto (tgt := 250) rfl rfl ?_
                  refine S_iadd rfl rfl rfl (show (256 : Int32).toInt = 256 from rfl) (by omega) (fun vz69 hvz69 => ?_)
                  refine Y_callV (as := [.int (4 : Int32), .int x1, .int vz65, .int vz69]) (st := []) rfl rfl rfl (by decide) rfl (Nat.le_of_ble_eq_true rfl) (by decide) (Nat.le_of_ble_eq_true rfl) rfl ((congrFun V.1 332).trans s_332) (by decide) (C_X10_add V (4 : Int32) 4 (show (4 : Int32).toInt = 4 from rfl) (by omega) x1 y1 hx1 (by omega) vz65 vz65.toInt rfl (by omega) vz69 vz69.toInt rfl ) ?_
                  rintro _ g ⟨rfl, V, hq, hk⟩
                  have hG := hq.trans hG
                  have hK := hk.trans hK
                  refine X_iload_n rfl rfl rfl rfl ?_
                  have hr := (rfl : vz65.toInt = vz65.toInt)
                  exact LW_ireturn (st := []) rfl rfl rfl ⟨_, rfl, by omega, by omega, V, hG, hK⟩
            · refine X_aload_n rfl rfl rfl rfl ?_
              refine X_getR (a := 333) rfl rfl rfl ((congrFun V.1 332).trans s_332) rfl ((congrFun (V.2.1 332 (by decide)) 1).trans r_332_1) ?_
              refine X_iload_n rfl rfl rfl rfl ?_
              refine S_iald_v rfl rfl ((congrFun V.1 333).trans s_333) hx1 (by omega) evz2 ?_
              refine X_bipush (v := (62 : Int32)) rfl rfl rfl ?_
              refine S_icmp_ne (tgt := 204) rfl rfl rfl rfl (show (62 : Int32).toInt = 62 from rfl) (fun vh72 => ?_) (fun vh72 => ?_)
              · refine X_iconst (v := (0 : Int32)) rfl rfl rfl ?_
                refine X_istore (i := 4) (ls' := [some (.ref 332), some (.int x1), some (.int vz1), some (.int (0 : Int32)), some (.int (0 : Int32))]) rfl rfl (Nat.le_of_ble_eq_true rfl) rfl ?_
                refine X_iload_n rfl rfl rfl rfl ?_
                refine X_iload rfl rfl rfl ?_
                refine S_if_eq (tgt := 217) rfl rfl rfl (show (0 : Int32).toInt = 0 from rfl) (fun vh73 => ?_) (fun q => absurd q (by omega))
                refine X_iconst (v := (0 : Int32)) rfl rfl rfl ?_
                refine S_iadd rfl rfl rfl (show (0 : Int32).toInt = 0 from rfl) (by omega) (fun vz74 hvz74 => ?_)
                refine X_istore_n (i := 2) (ls' := [some (.ref 332), some (.int x1), some (.int vz74), some (.int (0 : Int32)), some (.int (0 : Int32))]) rfl rfl rfl (Nat.le_of_ble_eq_true rfl) rfl ?_
                refine X_aload_n rfl rfl rfl rfl ?_
                refine X_iload_n rfl rfl rfl rfl ?_
                refine S_if_eq (tgt := 229) rfl rfl rfl (show (0 : Int32).toInt = 0 from rfl) (fun vh75 => ?_) (fun q => absurd q (by omega))
                refine X_iconst (v := (4 : Int32)) rfl rfl rfl ?_
                refine X_iload_n rfl rfl rfl rfl ?_
                refine X_iload_n rfl rfl rfl rfl ?_
                refine X_aload_n rfl rfl rfl rfl ?_
                refine X_getR (a := 333) rfl rfl rfl ((congrFun V.1 332).trans s_332) rfl ((congrFun (V.2.1 332 (by decide)) 1).trans r_332_1) ?_
                refine X_iload_n rfl rfl rfl rfl ?_
                refine S_iald_v rfl rfl ((congrFun V.1 333).trans s_333) hx1 (by omega) evz2 ?_
                refine X_iload rfl rfl rfl ?_
                refine S_if_eq (tgt := 249) rfl rfl rfl (show (0 : Int32).toInt = 0 from rfl) (fun vh77 => ?_) (fun q => absurd q (by omega))
                refine X_iconst (v := (0 : Int32)) rfl rfl rfl ?_
                refine S_iadd rfl rfl rfl (show (0 : Int32).toInt = 0 from rfl) (by omega) (fun vz78 hvz78 => ?_)
                refine Y_callV (as := [.int (4 : Int32), .int x1, .int vz74, .int vz78]) (st := []) rfl rfl rfl (by decide) rfl (Nat.le_of_ble_eq_true rfl) (by decide) (Nat.le_of_ble_eq_true rfl) rfl ((congrFun V.1 332).trans s_332) (by decide) (C_X10_add V (4 : Int32) 4 (show (4 : Int32).toInt = 4 from rfl) (by omega) x1 y1 hx1 (by omega) vz74 vz74.toInt rfl (by omega) vz78 vz78.toInt rfl ) ?_
                rintro _ g ⟨rfl, V, hq, hk⟩
                have hG := hq.trans hG
                have hK := hk.trans hK
                refine X_iload_n rfl rfl rfl rfl ?_
                have hr := (rfl : vz74.toInt = vz74.toInt)
                exact LW_ireturn (st := []) rfl rfl rfl ⟨_, rfl, by omega, by omega, V, hG, hK⟩
              · refine X_iload_n rfl rfl rfl rfl ?_
                refine X_aload_n rfl rfl rfl rfl ?_
                refine S_getI rfl rfl rfl ((congrFun V.1 332).trans s_332) rfl (fun vz80 evz80 => ?_)
                have vf81 := K_16_0 (V.2.2.2.2.1 (332) (0) (Nat.le_of_ble_eq_true rfl)) rk_332
                rw [evz80] at vf81
                refine S_icmp_ge (tgt := 204) rfl rfl rfl rfl rfl (fun vh82 => ?_) (fun vh82 => ?_)
                · refine X_iconst (v := (0 : Int32)) rfl rfl rfl ?_
                  refine X_istore (i := 4) (ls' := [some (.ref 332), some (.int x1), some (.int vz1), some (.int (0 : Int32)), some (.int (0 : Int32))]) rfl rfl (Nat.le_of_ble_eq_true rfl) rfl ?_
                  refine X_iload_n rfl rfl rfl rfl ?_
                  refine X_iload rfl rfl rfl ?_
                  refine S_if_eq (tgt := 217) rfl rfl rfl (show (0 : Int32).toInt = 0 from rfl) (fun vh83 => ?_) (fun q => absurd q (by omega))
                  refine X_iconst (v := (0 : Int32)) rfl rfl rfl ?_
                  refine S_iadd rfl rfl rfl (show (0 : Int32).toInt = 0 from rfl) (by omega) (fun vz84 hvz84 => ?_)
                  refine X_istore_n (i := 2) (ls' := [some (.ref 332), some (.int x1), some (.int vz84), some (.int (0 : Int32)), some (.int (0 : Int32))]) rfl rfl rfl (Nat.le_of_ble_eq_true rfl) rfl ?_
                  refine X_aload_n rfl rfl rfl rfl ?_
                  refine X_iload_n rfl rfl rfl rfl ?_
                  refine S_if_eq (tgt := 229) rfl rfl rfl (show (0 : Int32).toInt = 0 from rfl) (fun vh85 => ?_) (fun q => absurd q (by omega))
                  refine X_iconst (v := (4 : Int32)) rfl rfl rfl ?_
                  refine X_iload_n rfl rfl rfl rfl ?_
                  refine X_iload_n rfl rfl rfl rfl ?_
                  refine X_aload_n rfl rfl rfl rfl ?_
                  refine X_getR (a := 333) rfl rfl rfl ((congrFun V.1 332).trans s_332) rfl ((congrFun (V.2.1 332 (by decide)) 1).trans r_332_1) ?_
                  refine X_iload_n rfl rfl rfl rfl ?_
                  refine S_iald_v rfl rfl ((congrFun V.1 333).trans s_333) hx1 (by omega) evz2 ?_
                  refine X_iload rfl rfl rfl ?_
                  refine S_if_eq (tgt := 249) rfl rfl rfl (show (0 : Int32).toInt = 0 from rfl) (fun vh87 => ?_) (fun q => absurd q (by omega))
                  refine X_iconst (v := (0 : Int32)) rfl rfl rfl ?_
                  refine S_iadd rfl rfl rfl (show (0 : Int32).toInt = 0 from rfl) (by omega) (fun vz88 hvz88 => ?_)
                  refine Y_callV (as := [.int (4 : Int32), .int x1, .int vz84, .int vz88]) (st := []) rfl rfl rfl (by decide) rfl (Nat.le_of_ble_eq_true rfl) (by decide) (Nat.le_of_ble_eq_true rfl) rfl ((congrFun V.1 332).trans s_332) (by decide) (C_X10_add V (4 : Int32) 4 (show (4 : Int32).toInt = 4 from rfl) (by omega) x1 y1 hx1 (by omega) vz84 vz84.toInt rfl (by omega) vz88 vz88.toInt rfl ) ?_
                  rintro _ g ⟨rfl, V, hq, hk⟩
                  have hG := hq.trans hG
                  have hK := hk.trans hK
                  refine X_iload_n rfl rfl rfl rfl ?_
                  have hr := (rfl : vz84.toInt = vz84.toInt)
                  exact LW_ireturn (st := []) rfl rfl rfl ⟨_, rfl, by omega, by omega, V, hG, hK⟩
                · refine X_aload_n rfl rfl rfl rfl ?_
                  refine X_getR (a := 333) rfl rfl rfl ((congrFun V.1 332).trans s_332) rfl ((congrFun (V.2.1 332 (by decide)) 1).trans r_332_1) ?_
                  refine X_iload_n rfl rfl rfl rfl ?_
                  refine S_iald rfl rfl ((congrFun V.1 333).trans s_333) rfl (by omega) (fun vz90 evz90 => ?_)
                  have vf91 := K_7 (V.2.2.2.2.1 (333) ((vz1.toInt : Int).toNat) (Nat.le_of_ble_eq_true rfl)) rk_333
                  rw [evz90] at vf91
                  refine X_bipush (v := (61 : Int32)) rfl rfl rfl ?_
                  refine S_icmp_ne (tgt := 204) rfl rfl rfl rfl (show (61 : Int32).toInt = 61 from rfl) (fun vh92 => ?_) (fun vh92 => ?_)
                  · refine X_iconst (v := (0 : Int32)) rfl rfl rfl ?_
                    refine X_istore (i := 4) (ls' := [some (.ref 332), some (.int x1), some (.int vz1), some (.int (0 : Int32)), some (.int (0 : Int32))]) rfl rfl (Nat.le_of_ble_eq_true rfl) rfl ?_
                    refine X_iload_n rfl rfl rfl rfl ?_
                    refine X_iload rfl rfl rfl ?_
                    refine S_if_eq (tgt := 217) rfl rfl rfl (show (0 : Int32).toInt = 0 from rfl) (fun vh93 => ?_) (fun q => absurd q (by omega))
                    refine X_iconst (v := (0 : Int32)) rfl rfl rfl ?_
                    refine S_iadd rfl rfl rfl (show (0 : Int32).toInt = 0 from rfl) (by omega) (fun vz94 hvz94 => ?_)
                    refine X_istore_n (i := 2) (ls' := [some (.ref 332), some (.int x1), some (.int vz94), some (.int (0 : Int32)), some (.int (0 : Int32))]) rfl rfl rfl (Nat.le_of_ble_eq_true rfl) rfl ?_
                    refine X_aload_n rfl rfl rfl rfl ?_
                    refine X_iload_n rfl rfl rfl rfl ?_
                    refine S_if_eq (tgt := 229) rfl rfl rfl (show (0 : Int32).toInt = 0 from rfl) (fun vh95 => ?_) (fun q => absurd q (by omega))
                    refine X_iconst (v := (4 : Int32)) rfl rfl rfl ?_
                    refine X_iload_n rfl rfl rfl rfl ?_
                    refine X_iload_n rfl rfl rfl rfl ?_
                    refine X_aload_n rfl rfl rfl rfl ?_
                    refine X_getR (a := 333) rfl rfl rfl ((congrFun V.1 332).trans s_332) rfl ((congrFun (V.2.1 332 (by decide)) 1).trans r_332_1) ?_
                    refine X_iload_n rfl rfl rfl rfl ?_
                    refine S_iald_v rfl rfl ((congrFun V.1 333).trans s_333) hx1 (by omega) evz2 ?_
                    refine X_iload rfl rfl rfl ?_
                    refine S_if_eq (tgt := 249) rfl rfl rfl (show (0 : Int32).toInt = 0 from rfl) (fun vh97 => ?_) (fun q => absurd q (by omega))
                    refine X_iconst (v := (0 : Int32)) rfl rfl rfl ?_
                    refine S_iadd rfl rfl rfl (show (0 : Int32).toInt = 0 from rfl) (by omega) (fun vz98 hvz98 => ?_)
                    refine Y_callV (as := [.int (4 : Int32), .int x1, .int vz94, .int vz98]) (st := []) rfl rfl rfl (by decide) rfl (Nat.le_of_ble_eq_true rfl) (by decide) (Nat.le_of_ble_eq_true rfl) rfl ((congrFun V.1 332).trans s_332) (by decide) (C_X10_add V (4 : Int32) 4 (show (4 : Int32).toInt = 4 from rfl) (by omega) x1 y1 hx1 (by omega) vz94 vz94.toInt rfl (by omega) vz98 vz98.toInt rfl ) ?_
                    rintro _ g ⟨rfl, V, hq, hk⟩
                    have hG := hq.trans hG
                    have hK := hk.trans hK
                    refine X_iload_n rfl rfl rfl rfl ?_
                    have hr := (rfl : vz94.toInt = vz94.toInt)
                    exact LW_ireturn (st := []) rfl rfl rfl ⟨_, rfl, by omega, by omega, V, hG, hK⟩
                  · refine X_iconst (v := (1 : Int32)) rfl rfl rfl ?_
                    refine LW_goto (tgt := 205) rfl rfl ?_
                    refine X_istore (i := 4) (ls' := [some (.ref 332), some (.int x1), some (.int vz1), some (.int (0 : Int32)), some (.int (1 : Int32))]) rfl rfl (Nat.le_of_ble_eq_true rfl) rfl ?_
                    refine X_iload_n rfl rfl rfl rfl ?_
                    refine X_iload rfl rfl rfl ?_
                    refine S_if_eq (tgt := 217) rfl rfl rfl (show (1 : Int32).toInt = 1 from rfl) (fun q => absurd q (by omega)) (fun vh100 => ?_)
                    refine X_iconst (v := (1 : Int32)) rfl rfl rfl ?_
                    refine LW_goto (tgt := 218) rfl rfl ?_
                    refine S_iadd rfl rfl rfl (show (1 : Int32).toInt = 1 from rfl) (by omega) (fun vz101 hvz101 => ?_)
                    refine X_istore_n (i := 2) (ls' := [some (.ref 332), some (.int x1), some (.int vz101), some (.int (0 : Int32)), some (.int (1 : Int32))]) rfl rfl rfl (Nat.le_of_ble_eq_true rfl) rfl ?_
                    refine X_aload_n rfl rfl rfl rfl ?_
                    refine X_iload_n rfl rfl rfl rfl ?_
                    refine S_if_eq (tgt := 229) rfl rfl rfl (show (0 : Int32).toInt = 0 from rfl) (fun vh102 => ?_) (fun q => absurd q (by omega))
                    refine X_iconst (v := (4 : Int32)) rfl rfl rfl ?_
                    refine X_iload_n rfl rfl rfl rfl ?_
                    refine X_iload_n rfl rfl rfl rfl ?_
                    refine X_aload_n rfl rfl rfl rfl ?_
                    refine X_getR (a := 333) rfl rfl rfl ((congrFun V.1 332).trans s_332) rfl ((congrFun (V.2.1 332 (by decide)) 1).trans r_332_1) ?_
                    refine X_iload_n rfl rfl rfl rfl ?_
                    refine S_iald_v rfl rfl ((congrFun V.1 333).trans s_333) hx1 (by omega) evz2 ?_
                    refine X_iload rfl rfl rfl ?_
                    refine S_if_eq (tgt := 249) rfl rfl rfl (show (1 : Int32).toInt = 1 from rfl) (fun q => absurd q (by omega)) (fun vh104 => ?_)
                    refine X_sipush (v := (256 : Int32)) rfl rfl rfl ?_
                    refine LW_goto (tgt := 250) rfl rfl ?_
                    refine S_iadd rfl rfl rfl (show (256 : Int32).toInt = 256 from rfl) (by omega) (fun vz105 hvz105 => ?_)
                    refine Y_callV (as := [.int (4 : Int32), .int x1, .int vz101, .int vz105]) (st := []) rfl rfl rfl (by decide) rfl (Nat.le_of_ble_eq_true rfl) (by decide) (Nat.le_of_ble_eq_true rfl) rfl ((congrFun V.1 332).trans s_332) (by decide) (C_X10_add V (4 : Int32) 4 (show (4 : Int32).toInt = 4 from rfl) (by omega) x1 y1 hx1 (by omega) vz101 vz101.toInt rfl (by omega) vz105 vz105.toInt rfl ) ?_
                    rintro _ g ⟨rfl, V, hq, hk⟩
                    have hG := hq.trans hG
                    have hK := hk.trans hK
                    refine X_iload_n rfl rfl rfl rfl ?_
                    have hr := (rfl : vz101.toInt = vz101.toInt)
                    exact LW_ireturn (st := []) rfl rfl rfl ⟨_, rfl, by omega, by omega, V, hG, hK⟩
          · refine X_iconst (v := (1 : Int32)) rfl rfl rfl ?_
            refine LW_goto (tgt := 158) rfl rfl ?_
            refine X_istore_n (i := 3) (ls' := [some (.ref 332), some (.int x1), some (.int vz1), some (.int (1 : Int32)), none]) rfl rfl rfl (Nat.le_of_ble_eq_true rfl) rfl ?_
            refine X_aload_n rfl rfl rfl rfl ?_
            refine X_getR (a := 333) rfl rfl rfl ((congrFun V.1 332).trans s_332) rfl ((congrFun (V.2.1 332 (by decide)) 1).trans r_332_1) ?_
            refine X_iload_n rfl rfl rfl rfl ?_
            refine S_iald_v rfl rfl ((congrFun V.1 333).trans s_333) hx1 (by omega) evz2 ?_
            refine X_bipush (v := (60 : Int32)) rfl rfl rfl ?_
            refine S_icmp_eq (tgt := 181) rfl rfl rfl rfl (show (60 : Int32).toInt = 60 from rfl) (fun vh108 => ?_) (fun vh108 => ?_)
            · refine X_iload_n rfl rfl rfl rfl ?_
              refine X_aload_n rfl rfl rfl rfl ?_
              refine S_getI rfl rfl rfl ((congrFun V.1 332).trans s_332) rfl (fun vz109 evz109 => ?_)
              have vf110 := K_16_0 (V.2.2.2.2.1 (332) (0) (Nat.le_of_ble_eq_true rfl)) rk_332
              rw [evz109] at vf110
              refine S_icmp_ge (tgt := 204) rfl rfl rfl rfl rfl (fun vh111 => ?_) (fun vh111 => ?_)
              · refine X_iconst (v := (0 : Int32)) rfl rfl rfl ?_
                refine X_istore (i := 4) (ls' := [some (.ref 332), some (.int x1), some (.int vz1), some (.int (1 : Int32)), some (.int (0 : Int32))]) rfl rfl (Nat.le_of_ble_eq_true rfl) rfl ?_
                refine X_iload_n rfl rfl rfl rfl ?_
                refine X_iload rfl rfl rfl ?_
                refine S_if_eq (tgt := 217) rfl rfl rfl (show (0 : Int32).toInt = 0 from rfl) (fun vh112 => ?_) (fun q => absurd q (by omega))
                refine X_iconst (v := (0 : Int32)) rfl rfl rfl ?_
                refine S_iadd rfl rfl rfl (show (0 : Int32).toInt = 0 from rfl) (by omega) (fun vz113 hvz113 => ?_)
                refine X_istore_n (i := 2) (ls' := [some (.ref 332), some (.int x1), some (.int vz113), some (.int (1 : Int32)), some (.int (0 : Int32))]) rfl rfl rfl (Nat.le_of_ble_eq_true rfl) rfl ?_
                refine X_aload_n rfl rfl rfl rfl ?_
                refine X_iload_n rfl rfl rfl rfl ?_
                refine S_if_eq (tgt := 229) rfl rfl rfl (show (1 : Int32).toInt = 1 from rfl) (fun q => absurd q (by omega)) (fun vh114 => ?_)
                refine X_iconst (v := (3 : Int32)) rfl rfl rfl ?_
                refine LW_goto (tgt := 230) rfl rfl ?_
                refine X_iload_n rfl rfl rfl rfl ?_
                refine X_iload_n rfl rfl rfl rfl ?_
                refine X_aload_n rfl rfl rfl rfl ?_
                refine X_getR (a := 333) rfl rfl rfl ((congrFun V.1 332).trans s_332) rfl ((congrFun (V.2.1 332 (by decide)) 1).trans r_332_1) ?_
                refine X_iload_n rfl rfl rfl rfl ?_
                refine S_iald_v rfl rfl ((congrFun V.1 333).trans s_333) hx1 (by omega) evz2 ?_
                refine X_iload rfl rfl rfl ?_
                refine S_if_eq (tgt := 249) rfl rfl rfl (show (0 : Int32).toInt = 0 from rfl) (fun vh116 => ?_) (fun q => absurd q (by omega))
                refine X_iconst (v := (0 : Int32)) rfl rfl rfl ?_
                refine S_iadd rfl rfl rfl (show (0 : Int32).toInt = 0 from rfl) (by omega) (fun vz117 hvz117 => ?_)
                refine Y_callV (as := [.int (3 : Int32), .int x1, .int vz113, .int vz117]) (st := []) rfl rfl rfl (by decide) rfl (Nat.le_of_ble_eq_true rfl) (by decide) (Nat.le_of_ble_eq_true rfl) rfl ((congrFun V.1 332).trans s_332) (by decide) (C_X10_add V (3 : Int32) 3 (show (3 : Int32).toInt = 3 from rfl) (by omega) x1 y1 hx1 (by omega) vz113 vz113.toInt rfl (by omega) vz117 vz117.toInt rfl ) ?_
                rintro _ g ⟨rfl, V, hq, hk⟩
                have hG := hq.trans hG
                have hK := hk.trans hK
                refine X_iload_n rfl rfl rfl rfl ?_
                have hr := (rfl : vz113.toInt = vz113.toInt)
                exact LW_ireturn (st := []) rfl rfl rfl ⟨_, rfl, by omega, by omega, V, hG, hK⟩
              · refine X_aload_n rfl rfl rfl rfl ?_
                refine X_getR (a := 333) rfl rfl rfl ((congrFun V.1 332).trans s_332) rfl ((congrFun (V.2.1 332 (by decide)) 1).trans r_332_1) ?_
                refine X_iload_n rfl rfl rfl rfl ?_
                refine S_iald rfl rfl ((congrFun V.1 333).trans s_333) rfl (by omega) (fun vz119 evz119 => ?_)
                have vf120 := K_7 (V.2.2.2.2.1 (333) ((vz1.toInt : Int).toNat) (Nat.le_of_ble_eq_true rfl)) rk_333
                rw [evz119] at vf120
                refine X_bipush (v := (61 : Int32)) rfl rfl rfl ?_
                refine S_icmp_ne (tgt := 204) rfl rfl rfl rfl (show (61 : Int32).toInt = 61 from rfl) (fun vh121 => ?_) (fun vh121 => ?_)
                · refine X_iconst (v := (0 : Int32)) rfl rfl rfl ?_
                  refine X_istore (i := 4) (ls' := [some (.ref 332), some (.int x1), some (.int vz1), some (.int (1 : Int32)), some (.int (0 : Int32))]) rfl rfl (Nat.le_of_ble_eq_true rfl) rfl ?_
                  refine X_iload_n rfl rfl rfl rfl ?_
                  refine X_iload rfl rfl rfl ?_
                  refine S_if_eq (tgt := 217) rfl rfl rfl (show (0 : Int32).toInt = 0 from rfl) (fun vh122 => ?_) (fun q => absurd q (by omega))
                  refine X_iconst (v := (0 : Int32)) rfl rfl rfl ?_
                  refine S_iadd rfl rfl rfl (show (0 : Int32).toInt = 0 from rfl) (by omega) (fun vz123 hvz123 => ?_)
                  refine X_istore_n (i := 2) (ls' := [some (.ref 332), some (.int x1), some (.int vz123), some (.int (1 : Int32)), some (.int (0 : Int32))]) rfl rfl rfl (Nat.le_of_ble_eq_true rfl) rfl ?_
                  refine X_aload_n rfl rfl rfl rfl ?_
                  refine X_iload_n rfl rfl rfl rfl ?_
                  refine S_if_eq (tgt := 229) rfl rfl rfl (show (1 : Int32).toInt = 1 from rfl) (fun q => absurd q (by omega)) (fun vh124 => ?_)
                  refine X_iconst (v := (3 : Int32)) rfl rfl rfl ?_
                  refine LW_goto (tgt := 230) rfl rfl ?_
                  refine X_iload_n rfl rfl rfl rfl ?_
                  refine X_iload_n rfl rfl rfl rfl ?_
                  refine X_aload_n rfl rfl rfl rfl ?_
                  refine X_getR (a := 333) rfl rfl rfl ((congrFun V.1 332).trans s_332) rfl ((congrFun (V.2.1 332 (by decide)) 1).trans r_332_1) ?_
                  refine X_iload_n rfl rfl rfl rfl ?_
                  refine S_iald_v rfl rfl ((congrFun V.1 333).trans s_333) hx1 (by omega) evz2 ?_
                  refine X_iload rfl rfl rfl ?_
                  refine S_if_eq (tgt := 249) rfl rfl rfl (show (0 : Int32).toInt = 0 from rfl) (fun vh126 => ?_) (fun q => absurd q (by omega))
                  refine X_iconst (v := (0 : Int32)) rfl rfl rfl ?_
                  refine S_iadd rfl rfl rfl (show (0 : Int32).toInt = 0 from rfl) (by omega) (fun vz127 hvz127 => ?_)
                  refine Y_callV (as := [.int (3 : Int32), .int x1, .int vz123, .int vz127]) (st := []) rfl rfl rfl (by decide) rfl (Nat.le_of_ble_eq_true rfl) (by decide) (Nat.le_of_ble_eq_true rfl) rfl ((congrFun V.1 332).trans s_332) (by decide) (C_X10_add V (3 : Int32) 3 (show (3 : Int32).toInt = 3 from rfl) (by omega) x1 y1 hx1 (by omega) vz123 vz123.toInt rfl (by omega) vz127 vz127.toInt rfl ) ?_
                  rintro _ g ⟨rfl, V, hq, hk⟩
                  have hG := hq.trans hG
                  have hK := hk.trans hK
                  refine X_iload_n rfl rfl rfl rfl ?_
                  have hr := (rfl : vz123.toInt = vz123.toInt)
                  exact LW_ireturn (st := []) rfl rfl rfl ⟨_, rfl, by omega, by omega, V, hG, hK⟩
                · refine X_iconst (v := (1 : Int32)) rfl rfl rfl ?_
                  refine LW_goto (tgt := 205) rfl rfl ?_
                  refine X_istore (i := 4) (ls' := [some (.ref 332), some (.int x1), some (.int vz1), some (.int (1 : Int32)), some (.int (1 : Int32))]) rfl rfl (Nat.le_of_ble_eq_true rfl) rfl ?_
                  refine X_iload_n rfl rfl rfl rfl ?_
                  refine X_iload rfl rfl rfl ?_
                  refine S_if_eq (tgt := 217) rfl rfl rfl (show (1 : Int32).toInt = 1 from rfl) (fun q => absurd q (by omega)) (fun vh129 => ?_)
                  refine X_iconst (v := (1 : Int32)) rfl rfl rfl ?_
                  refine LW_goto (tgt := 218) rfl rfl ?_
                  refine S_iadd rfl rfl rfl (show (1 : Int32).toInt = 1 from rfl) (by omega) (fun vz130 hvz130 => ?_)
                  refine X_istore_n (i := 2) (ls' := [some (.ref 332), some (.int x1), some (.int vz130), some (.int (1 : Int32)), some (.int (1 : Int32))]) rfl rfl rfl (Nat.le_of_ble_eq_true rfl) rfl ?_
                  refine X_aload_n rfl rfl rfl rfl ?_
                  refine X_iload_n rfl rfl rfl rfl ?_
                  refine S_if_eq (tgt := 229) rfl rfl rfl (show (1 : Int32).toInt = 1 from rfl) (fun q => absurd q (by omega)) (fun vh131 => ?_)
                  refine X_iconst (v := (3 : Int32)) rfl rfl rfl ?_
                  refine LW_goto (tgt := 230) rfl rfl ?_
                  refine X_iload_n rfl rfl rfl rfl ?_
                  refine X_iload_n rfl rfl rfl rfl ?_
                  refine X_aload_n rfl rfl rfl rfl ?_
                  refine X_getR (a := 333) rfl rfl rfl ((congrFun V.1 332).trans s_332) rfl ((congrFun (V.2.1 332 (by decide)) 1).trans r_332_1) ?_
                  refine X_iload_n rfl rfl rfl rfl ?_
                  refine S_iald_v rfl rfl ((congrFun V.1 333).trans s_333) hx1 (by omega) evz2 ?_
                  refine X_iload rfl rfl rfl ?_
                  refine S_if_eq (tgt := 249) rfl rfl rfl (show (1 : Int32).toInt = 1 from rfl) (fun q => absurd q (by omega)) (fun vh133 => ?_)
                  refine X_sipush (v := (256 : Int32)) rfl rfl rfl ?_
                  refine LW_goto (tgt := 250) rfl rfl ?_
                  refine S_iadd rfl rfl rfl (show (256 : Int32).toInt = 256 from rfl) (by omega) (fun vz134 hvz134 => ?_)
                  refine Y_callV (as := [.int (3 : Int32), .int x1, .int vz130, .int vz134]) (st := []) rfl rfl rfl (by decide) rfl (Nat.le_of_ble_eq_true rfl) (by decide) (Nat.le_of_ble_eq_true rfl) rfl ((congrFun V.1 332).trans s_332) (by decide) (C_X10_add V (3 : Int32) 3 (show (3 : Int32).toInt = 3 from rfl) (by omega) x1 y1 hx1 (by omega) vz130 vz130.toInt rfl (by omega) vz134 vz134.toInt rfl ) ?_
                  rintro _ g ⟨rfl, V, hq, hk⟩
                  have hG := hq.trans hG
                  have hK := hk.trans hK
                  refine X_iload_n rfl rfl rfl rfl ?_
                  have hr := (rfl : vz130.toInt = vz130.toInt)
                  exact LW_ireturn (st := []) rfl rfl rfl ⟨_, rfl, by omega, by omega, V, hG, hK⟩
            · refine X_aload_n rfl rfl rfl rfl ?_
              refine X_getR (a := 333) rfl rfl rfl ((congrFun V.1 332).trans s_332) rfl ((congrFun (V.2.1 332 (by decide)) 1).trans r_332_1) ?_
              refine X_iload_n rfl rfl rfl rfl ?_
              refine S_iald_v rfl rfl ((congrFun V.1 333).trans s_333) hx1 (by omega) evz2 ?_
              refine X_bipush (v := (62 : Int32)) rfl rfl rfl ?_
              refine S_icmp_ne (tgt := 204) rfl rfl rfl rfl (show (62 : Int32).toInt = 62 from rfl) (fun vh137 => ?_) (fun vh137 => ?_)
              · refine X_iconst (v := (0 : Int32)) rfl rfl rfl ?_
                refine X_istore (i := 4) (ls' := [some (.ref 332), some (.int x1), some (.int vz1), some (.int (1 : Int32)), some (.int (0 : Int32))]) rfl rfl (Nat.le_of_ble_eq_true rfl) rfl ?_
                refine X_iload_n rfl rfl rfl rfl ?_
                refine X_iload rfl rfl rfl ?_
                refine S_if_eq (tgt := 217) rfl rfl rfl (show (0 : Int32).toInt = 0 from rfl) (fun vh138 => ?_) (fun q => absurd q (by omega))
                refine X_iconst (v := (0 : Int32)) rfl rfl rfl ?_
                refine S_iadd rfl rfl rfl (show (0 : Int32).toInt = 0 from rfl) (by omega) (fun vz139 hvz139 => ?_)
                refine X_istore_n (i := 2) (ls' := [some (.ref 332), some (.int x1), some (.int vz139), some (.int (1 : Int32)), some (.int (0 : Int32))]) rfl rfl rfl (Nat.le_of_ble_eq_true rfl) rfl ?_
                refine X_aload_n rfl rfl rfl rfl ?_
                refine X_iload_n rfl rfl rfl rfl ?_
                refine S_if_eq (tgt := 229) rfl rfl rfl (show (1 : Int32).toInt = 1 from rfl) (fun q => absurd q (by omega)) (fun vh140 => ?_)
                refine X_iconst (v := (3 : Int32)) rfl rfl rfl ?_
                refine LW_goto (tgt := 230) rfl rfl ?_
                refine X_iload_n rfl rfl rfl rfl ?_
                refine X_iload_n rfl rfl rfl rfl ?_
                refine X_aload_n rfl rfl rfl rfl ?_
                refine X_getR (a := 333) rfl rfl rfl ((congrFun V.1 332).trans s_332) rfl ((congrFun (V.2.1 332 (by decide)) 1).trans r_332_1) ?_
                refine X_iload_n rfl rfl rfl rfl ?_
                refine S_iald_v rfl rfl ((congrFun V.1 333).trans s_333) hx1 (by omega) evz2 ?_
                refine X_iload rfl rfl rfl ?_
                refine S_if_eq (tgt := 249) rfl rfl rfl (show (0 : Int32).toInt = 0 from rfl) (fun vh142 => ?_) (fun q => absurd q (by omega))
                refine X_iconst (v := (0 : Int32)) rfl rfl rfl ?_
                refine S_iadd rfl rfl rfl (show (0 : Int32).toInt = 0 from rfl) (by omega) (fun vz143 hvz143 => ?_)
                refine Y_callV (as := [.int (3 : Int32), .int x1, .int vz139, .int vz143]) (st := []) rfl rfl rfl (by decide) rfl (Nat.le_of_ble_eq_true rfl) (by decide) (Nat.le_of_ble_eq_true rfl) rfl ((congrFun V.1 332).trans s_332) (by decide) (C_X10_add V (3 : Int32) 3 (show (3 : Int32).toInt = 3 from rfl) (by omega) x1 y1 hx1 (by omega) vz139 vz139.toInt rfl (by omega) vz143 vz143.toInt rfl ) ?_
                rintro _ g ⟨rfl, V, hq, hk⟩
                have hG := hq.trans hG
                have hK := hk.trans hK
                refine X_iload_n rfl rfl rfl rfl ?_
                have hr := (rfl : vz139.toInt = vz139.toInt)
                exact LW_ireturn (st := []) rfl rfl rfl ⟨_, rfl, by omega, by omega, V, hG, hK⟩
              · refine X_iload_n rfl rfl rfl rfl ?_
                refine X_aload_n rfl rfl rfl rfl ?_
                refine S_getI rfl rfl rfl ((congrFun V.1 332).trans s_332) rfl (fun vz145 evz145 => ?_)
                have vf146 := K_16_0 (V.2.2.2.2.1 (332) (0) (Nat.le_of_ble_eq_true rfl)) rk_332
                rw [evz145] at vf146
                refine S_icmp_ge (tgt := 204) rfl rfl rfl rfl rfl (fun vh147 => ?_) (fun vh147 => ?_)
                · refine X_iconst (v := (0 : Int32)) rfl rfl rfl ?_
                  refine X_istore (i := 4) (ls' := [some (.ref 332), some (.int x1), some (.int vz1), some (.int (1 : Int32)), some (.int (0 : Int32))]) rfl rfl (Nat.le_of_ble_eq_true rfl) rfl ?_
                  refine X_iload_n rfl rfl rfl rfl ?_
                  refine X_iload rfl rfl rfl ?_
                  refine S_if_eq (tgt := 217) rfl rfl rfl (show (0 : Int32).toInt = 0 from rfl) (fun vh148 => ?_) (fun q => absurd q (by omega))
                  refine X_iconst (v := (0 : Int32)) rfl rfl rfl ?_
                  refine S_iadd rfl rfl rfl (show (0 : Int32).toInt = 0 from rfl) (by omega) (fun vz149 hvz149 => ?_)
                  refine X_istore_n (i := 2) (ls' := [some (.ref 332), some (.int x1), some (.int vz149), some (.int (1 : Int32)), some (.int (0 : Int32))]) rfl rfl rfl (Nat.le_of_ble_eq_true rfl) rfl ?_
                  refine X_aload_n rfl rfl rfl rfl ?_
                  refine X_iload_n rfl rfl rfl rfl ?_
                  refine S_if_eq (tgt := 229) rfl rfl rfl (show (1 : Int32).toInt = 1 from rfl) (fun q => absurd q (by omega)) (fun vh150 => ?_)
                  refine X_iconst (v := (3 : Int32)) rfl rfl rfl ?_
                  refine LW_goto (tgt := 230) rfl rfl ?_
                  refine X_iload_n rfl rfl rfl rfl ?_
                  refine X_iload_n rfl rfl rfl rfl ?_
                  refine X_aload_n rfl rfl rfl rfl ?_
                  refine X_getR (a := 333) rfl rfl rfl ((congrFun V.1 332).trans s_332) rfl ((congrFun (V.2.1 332 (by decide)) 1).trans r_332_1) ?_
                  refine X_iload_n rfl rfl rfl rfl ?_
                  refine S_iald_v rfl rfl ((congrFun V.1 333).trans s_333) hx1 (by omega) evz2 ?_
                  refine X_iload rfl rfl rfl ?_
                  refine S_if_eq (tgt := 249) rfl rfl rfl (show (0 : Int32).toInt = 0 from rfl) (fun vh152 => ?_) (fun q => absurd q (by omega))
                  refine X_iconst (v := (0 : Int32)) rfl rfl rfl ?_
                  refine S_iadd rfl rfl rfl (show (0 : Int32).toInt = 0 from rfl) (by omega) (fun vz153 hvz153 => ?_)
                  refine Y_callV (as := [.int (3 : Int32), .int x1, .int vz149, .int vz153]) (st := []) rfl rfl rfl (by decide) rfl (Nat.le_of_ble_eq_true rfl) (by decide) (Nat.le_of_ble_eq_true rfl) rfl ((congrFun V.1 332).trans s_332) (by decide) (C_X10_add V (3 : Int32) 3 (show (3 : Int32).toInt = 3 from rfl) (by omega) x1 y1 hx1 (by omega) vz149 vz149.toInt rfl (by omega) vz153 vz153.toInt rfl ) ?_
                  rintro _ g ⟨rfl, V, hq, hk⟩
                  have hG := hq.trans hG
                  have hK := hk.trans hK
                  refine X_iload_n rfl rfl rfl rfl ?_
                  have hr := (rfl : vz149.toInt = vz149.toInt)
                  exact LW_ireturn (st := []) rfl rfl rfl ⟨_, rfl, by omega, by omega, V, hG, hK⟩
                · refine X_aload_n rfl rfl rfl rfl ?_
                  refine X_getR (a := 333) rfl rfl rfl ((congrFun V.1 332).trans s_332) rfl ((congrFun (V.2.1 332 (by decide)) 1).trans r_332_1) ?_
                  refine X_iload_n rfl rfl rfl rfl ?_
                  refine S_iald rfl rfl ((congrFun V.1 333).trans s_333) rfl (by omega) (fun vz155 evz155 => ?_)
                  have vf156 := K_7 (V.2.2.2.2.1 (333) ((vz1.toInt : Int).toNat) (Nat.le_of_ble_eq_true rfl)) rk_333
                  rw [evz155] at vf156
                  refine X_bipush (v := (61 : Int32)) rfl rfl rfl ?_
                  refine S_icmp_ne (tgt := 204) rfl rfl rfl rfl (show (61 : Int32).toInt = 61 from rfl) (fun vh157 => ?_) (fun vh157 => ?_)
                  · refine X_iconst (v := (0 : Int32)) rfl rfl rfl ?_
                    refine X_istore (i := 4) (ls' := [some (.ref 332), some (.int x1), some (.int vz1), some (.int (1 : Int32)), some (.int (0 : Int32))]) rfl rfl (Nat.le_of_ble_eq_true rfl) rfl ?_
                    refine X_iload_n rfl rfl rfl rfl ?_
                    refine X_iload rfl rfl rfl ?_
                    refine S_if_eq (tgt := 217) rfl rfl rfl (show (0 : Int32).toInt = 0 from rfl) (fun vh158 => ?_) (fun q => absurd q (by omega))
                    refine X_iconst (v := (0 : Int32)) rfl rfl rfl ?_
                    refine S_iadd rfl rfl rfl (show (0 : Int32).toInt = 0 from rfl) (by omega) (fun vz159 hvz159 => ?_)
                    refine X_istore_n (i := 2) (ls' := [some (.ref 332), some (.int x1), some (.int vz159), some (.int (1 : Int32)), some (.int (0 : Int32))]) rfl rfl rfl (Nat.le_of_ble_eq_true rfl) rfl ?_
                    refine X_aload_n rfl rfl rfl rfl ?_
                    refine X_iload_n rfl rfl rfl rfl ?_
                    refine S_if_eq (tgt := 229) rfl rfl rfl (show (1 : Int32).toInt = 1 from rfl) (fun q => absurd q (by omega)) (fun vh160 => ?_)
                    refine X_iconst (v := (3 : Int32)) rfl rfl rfl ?_
                    refine LW_goto (tgt := 230) rfl rfl ?_
                    refine X_iload_n rfl rfl rfl rfl ?_
                    refine X_iload_n rfl rfl rfl rfl ?_
                    refine X_aload_n rfl rfl rfl rfl ?_
                    refine X_getR (a := 333) rfl rfl rfl ((congrFun V.1 332).trans s_332) rfl ((congrFun (V.2.1 332 (by decide)) 1).trans r_332_1) ?_
                    refine X_iload_n rfl rfl rfl rfl ?_
                    refine S_iald_v rfl rfl ((congrFun V.1 333).trans s_333) hx1 (by omega) evz2 ?_
                    refine X_iload rfl rfl rfl ?_
                    refine S_if_eq (tgt := 249) rfl rfl rfl (show (0 : Int32).toInt = 0 from rfl) (fun vh162 => ?_) (fun q => absurd q (by omega))
                    refine X_iconst (v := (0 : Int32)) rfl rfl rfl ?_
                    refine S_iadd rfl rfl rfl (show (0 : Int32).toInt = 0 from rfl) (by omega) (fun vz163 hvz163 => ?_)
                    refine Y_callV (as := [.int (3 : Int32), .int x1, .int vz159, .int vz163]) (st := []) rfl rfl rfl (by decide) rfl (Nat.le_of_ble_eq_true rfl) (by decide) (Nat.le_of_ble_eq_true rfl) rfl ((congrFun V.1 332).trans s_332) (by decide) (C_X10_add V (3 : Int32) 3 (show (3 : Int32).toInt = 3 from rfl) (by omega) x1 y1 hx1 (by omega) vz159 vz159.toInt rfl (by omega) vz163 vz163.toInt rfl ) ?_
                    rintro _ g ⟨rfl, V, hq, hk⟩
                    have hG := hq.trans hG
                    have hK := hk.trans hK
                    refine X_iload_n rfl rfl rfl rfl ?_
                    have hr := (rfl : vz159.toInt = vz159.toInt)
                    exact LW_ireturn (st := []) rfl rfl rfl ⟨_, rfl, by omega, by omega, V, hG, hK⟩
                  · refine X_iconst (v := (1 : Int32)) rfl rfl rfl ?_
                    refine LW_goto (tgt := 205) rfl rfl ?_
                    refine X_istore (i := 4) (ls' := [some (.ref 332), some (.int x1), some (.int vz1), some (.int (1 : Int32)), some (.int (1 : Int32))]) rfl rfl (Nat.le_of_ble_eq_true rfl) rfl ?_
                    refine X_iload_n rfl rfl rfl rfl ?_
                    refine X_iload rfl rfl rfl ?_
                    refine S_if_eq (tgt := 217) rfl rfl rfl (show (1 : Int32).toInt = 1 from rfl) (fun q => absurd q (by omega)) (fun vh165 => ?_)
                    refine X_iconst (v := (1 : Int32)) rfl rfl rfl ?_
                    refine LW_goto (tgt := 218) rfl rfl ?_
                    refine S_iadd rfl rfl rfl (show (1 : Int32).toInt = 1 from rfl) (by omega) (fun vz166 hvz166 => ?_)
                    refine X_istore_n (i := 2) (ls' := [some (.ref 332), some (.int x1), some (.int vz166), some (.int (1 : Int32)), some (.int (1 : Int32))]) rfl rfl rfl (Nat.le_of_ble_eq_true rfl) rfl ?_
                    refine X_aload_n rfl rfl rfl rfl ?_
                    refine X_iload_n rfl rfl rfl rfl ?_
                    refine S_if_eq (tgt := 229) rfl rfl rfl (show (1 : Int32).toInt = 1 from rfl) (fun q => absurd q (by omega)) (fun vh167 => ?_)
                    refine X_iconst (v := (3 : Int32)) rfl rfl rfl ?_
                    refine LW_goto (tgt := 230) rfl rfl ?_
                    refine X_iload_n rfl rfl rfl rfl ?_
                    refine X_iload_n rfl rfl rfl rfl ?_
                    refine X_aload_n rfl rfl rfl rfl ?_
                    refine X_getR (a := 333) rfl rfl rfl ((congrFun V.1 332).trans s_332) rfl ((congrFun (V.2.1 332 (by decide)) 1).trans r_332_1) ?_
                    refine X_iload_n rfl rfl rfl rfl ?_
                    refine S_iald_v rfl rfl ((congrFun V.1 333).trans s_333) hx1 (by omega) evz2 ?_
                    refine X_iload rfl rfl rfl ?_
                    refine S_if_eq (tgt := 249) rfl rfl rfl (show (1 : Int32).toInt = 1 from rfl) (fun q => absurd q (by omega)) (fun vh169 => ?_)
                    refine X_sipush (v := (256 : Int32)) rfl rfl rfl ?_
                    refine LW_goto (tgt := 250) rfl rfl ?_
                    refine S_iadd rfl rfl rfl (show (256 : Int32).toInt = 256 from rfl) (by omega) (fun vz170 hvz170 => ?_)
                    refine Y_callV (as := [.int (3 : Int32), .int x1, .int vz166, .int vz170]) (st := []) rfl rfl rfl (by decide) rfl (Nat.le_of_ble_eq_true rfl) (by decide) (Nat.le_of_ble_eq_true rfl) rfl ((congrFun V.1 332).trans s_332) (by decide) (C_X10_add V (3 : Int32) 3 (show (3 : Int32).toInt = 3 from rfl) (by omega) x1 y1 hx1 (by omega) vz166 vz166.toInt rfl (by omega) vz170 vz170.toInt rfl ) ?_
                    rintro _ g ⟨rfl, V, hq, hk⟩
                    have hG := hq.trans hG
                    have hK := hk.trans hK
                    refine X_iload_n rfl rfl rfl rfl ?_
                    have hr := (rfl : vz166.toInt = vz166.toInt)
                    exact LW_ireturn (st := []) rfl rfl rfl ⟨_, rfl, by omega, by omega, V, hG, hK⟩
        · refine X_iconst (v := (1 : Int32)) rfl rfl rfl ?_
          refine LW_goto (tgt := 17) rfl rfl ?_
          refine LW_ireturn (st := []) rfl rfl rfl ?_
          refine S_if_eq (tgt := 138) rfl rfl rfl (show (1 : Int32).toInt = 1 from rfl) (fun q => absurd q (by omega)) (fun vh172 => ?_)
          refine X_aload_n rfl rfl rfl rfl ?_
          refine X_getR (a := 333) rfl rfl rfl ((congrFun V.1 332).trans s_332) rfl ((congrFun (V.2.1 332 (by decide)) 1).trans r_332_1) ?_
          refine X_iload_n rfl rfl rfl rfl ?_
          refine S_iald_v rfl rfl ((congrFun V.1 333).trans s_333) hx1 (by omega) evz2 ?_
          refine X_bipush (v := (48 : Int32)) rfl rfl rfl ?_
          refine S_isub rfl rfl rfl (show (48 : Int32).toInt = 48 from rfl) (by omega) (fun vz174 hvz174 => ?_)
          refine X_istore_n (i := 3) (ls' := [some (.ref 332), some (.int x1), some (.int vz1), some (.int vz174), none]) rfl rfl rfl (Nat.le_of_ble_eq_true rfl) rfl ?_
          exact (C_X10_cutOne_all (((300 - vz1.toInt) * 1 + 0) + 1 : Int).toNat).2 _ V hG hK x1 y1 hx1 (by omega) vz1 vz1.toInt rfl (by omega) vz174 vz174.toInt rfl (by omega) none    (by omega)
    · refine X_iload_n rfl rfl rfl rfl ?_
      refine X_bipush (v := (90 : Int32)) rfl rfl rfl ?_
      refine S_icmp_gt (tgt := 28) rfl rfl rfl rfl (show (90 : Int32).toInt = 90 from rfl) (fun vh175 => ?_) (fun vh175 => ?_)
      · refine X_iconst (v := (0 : Int32)) rfl rfl rfl ?_
        refine LW_ireturn (st := []) rfl rfl rfl ?_
        refine S_if_eq (tgt := 58) rfl rfl rfl (show (0 : Int32).toInt = 0 from rfl) (fun vh176 => ?_) (fun q => absurd q (by omega))
        refine X_aload_n rfl rfl rfl rfl ?_
        refine X_getR (a := 333) rfl rfl rfl ((congrFun V.1 332).trans s_332) rfl ((congrFun (V.2.1 332 (by decide)) 1).trans r_332_1) ?_
        refine X_iload_n rfl rfl rfl rfl ?_
        refine S_iald_v rfl rfl ((congrFun V.1 333).trans s_333) hx1 (by omega) evz2 ?_
        refine X_callS (as := [.int vz2]) (st := []) rfl rfl rfl (by decide) rfl (Nat.le_of_ble_eq_true rfl) (by decide) (Nat.le_of_ble_eq_true rfl) rfl ?_
        refine LW_ls (ls' := [some (.int vz2)]) rfl ?_
        refine X_iload_n rfl rfl rfl rfl ?_
        refine X_bipush (v := (48 : Int32)) rfl rfl rfl ?_
        refine S_icmp_lt (tgt := 16) rfl rfl rfl rfl (show (48 : Int32).toInt = 48 from rfl) (fun q => absurd q (by omega)) (fun vh178 => ?_)
        refine X_iload_n rfl rfl rfl rfl ?_
        refine X_bipush (v := (57 : Int32)) rfl rfl rfl ?_
        refine S_icmp_gt (tgt := 16) rfl rfl rfl rfl (show (57 : Int32).toInt = 57 from rfl) (fun vh179 => ?_) (fun q => absurd q (by omega))
        refine X_iconst (v := (0 : Int32)) rfl rfl rfl ?_
        refine LW_ireturn (st := []) rfl rfl rfl ?_
        refine S_if_eq (tgt := 138) rfl rfl rfl (show (0 : Int32).toInt = 0 from rfl) (fun vh180 => ?_) (fun q => absurd q (by omega))
        refine X_ldcS (r := 3) rfl rfl (fun _ _ _ _ h => h.2.2.2.1.2) ?_
        refine X_aload_n rfl rfl rfl rfl ?_
        refine X_getR (a := 333) rfl rfl rfl ((congrFun V.1 332).trans s_332) rfl ((congrFun (V.2.1 332 (by decide)) 1).trans r_332_1) ?_
        refine X_iload_n rfl rfl rfl rfl ?_
        refine S_iald_v rfl rfl ((congrFun V.1 333).trans s_333) hx1 (by omega) evz2 ?_
        refine S_i2c rfl rfl (fun vz182 hvz182 => ?_)
        refine Y_callVO (i := 1) (as := [.int vz182]) (st := []) (by decide) rfl rfl rfl (by decide) rfl rfl (Nat.le_of_ble_eq_true rfl) (by decide) (Nat.le_of_ble_eq_true rfl) rfl (c_indexOf (i := 1) (by decide)) ?_
        rintro _ g' ⟨⟨vz183, rfl⟩, hgg⟩
        subst hgg
        refine S_if_lt (tgt := 157) rfl rfl rfl rfl (fun vh184 => ?_) (fun vh184 => ?_)
        · refine X_iconst (v := (0 : Int32)) rfl rfl rfl ?_
          refine X_istore_n (i := 3) (ls' := [some (.ref 332), some (.int x1), some (.int vz1), some (.int (0 : Int32)), none]) rfl rfl rfl (Nat.le_of_ble_eq_true rfl) rfl ?_
          refine X_aload_n rfl rfl rfl rfl ?_
          refine X_getR (a := 333) rfl rfl rfl ((congrFun V.1 332).trans s_332) rfl ((congrFun (V.2.1 332 (by decide)) 1).trans r_332_1) ?_
          refine X_iload_n rfl rfl rfl rfl ?_
          refine S_iald_v rfl rfl ((congrFun V.1 333).trans s_333) hx1 (by omega) evz2 ?_
          refine X_bipush (v := (60 : Int32)) rfl rfl rfl ?_
          refine S_icmp_eq (tgt := 181) rfl rfl rfl rfl (show (60 : Int32).toInt = 60 from rfl) (fun q => absurd q (by omega)) (fun vh186 => ?_)
          refine X_aload_n rfl rfl rfl rfl ?_
          refine X_getR (a := 333) rfl rfl rfl ((congrFun V.1 332).trans s_332) rfl ((congrFun (V.2.1 332 (by decide)) 1).trans r_332_1) ?_
          refine X_iload_n rfl rfl rfl rfl ?_
          refine S_iald_v rfl rfl ((congrFun V.1 333).trans s_333) hx1 (by omega) evz2 ?_
          refine X_bipush (v := (62 : Int32)) rfl rfl rfl ?_
          refine S_icmp_ne (tgt := 204) rfl rfl rfl rfl (show (62 : Int32).toInt = 62 from rfl) (fun vh188 => ?_) (fun q => absurd q (by omega))
          refine X_iconst (v := (0 : Int32)) rfl rfl rfl ?_
          refine X_istore (i := 4) (ls' := [some (.ref 332), some (.int x1), some (.int vz1), some (.int (0 : Int32)), some (.int (0 : Int32))]) rfl rfl (Nat.le_of_ble_eq_true rfl) rfl ?_
          refine X_iload_n rfl rfl rfl rfl ?_
          refine X_iload rfl rfl rfl ?_
          refine S_if_eq (tgt := 217) rfl rfl rfl (show (0 : Int32).toInt = 0 from rfl) (fun vh189 => ?_) (fun q => absurd q (by omega))
          refine X_iconst (v := (0 : Int32)) rfl rfl rfl ?_
          refine S_iadd rfl rfl rfl (show (0 : Int32).toInt = 0 from rfl) (by omega) (fun vz190 hvz190 => ?_)
          refine X_istore_n (i := 2) (ls' := [some (.ref 332), some (.int x1), some (.int vz190), some (.int (0 : Int32)), some (.int (0 : Int32))]) rfl rfl rfl (Nat.le_of_ble_eq_true rfl) rfl ?_
          refine X_aload_n rfl rfl rfl rfl ?_
          refine X_iload_n rfl rfl rfl rfl ?_
          refine S_if_eq (tgt := 229) rfl rfl rfl (show (0 : Int32).toInt = 0 from rfl) (fun vh191 => ?_) (fun q => absurd q (by omega))
          refine X_iconst (v := (4 : Int32)) rfl rfl rfl ?_
          refine X_iload_n rfl rfl rfl rfl ?_
          refine X_iload_n rfl rfl rfl rfl ?_
          refine X_aload_n rfl rfl rfl rfl ?_
          refine X_getR (a := 333) rfl rfl rfl ((congrFun V.1 332).trans s_332) rfl ((congrFun (V.2.1 332 (by decide)) 1).trans r_332_1) ?_
          refine X_iload_n rfl rfl rfl rfl ?_
          refine S_iald_v rfl rfl ((congrFun V.1 333).trans s_333) hx1 (by omega) evz2 ?_
          refine X_iload rfl rfl rfl ?_
          refine S_if_eq (tgt := 249) rfl rfl rfl (show (0 : Int32).toInt = 0 from rfl) (fun vh193 => ?_) (fun q => absurd q (by omega))
          refine X_iconst (v := (0 : Int32)) rfl rfl rfl ?_
          refine S_iadd rfl rfl rfl (show (0 : Int32).toInt = 0 from rfl) (by omega) (fun vz194 hvz194 => ?_)
          refine Y_callV (as := [.int (4 : Int32), .int x1, .int vz190, .int vz194]) (st := []) rfl rfl rfl (by decide) rfl (Nat.le_of_ble_eq_true rfl) (by decide) (Nat.le_of_ble_eq_true rfl) rfl ((congrFun V.1 332).trans s_332) (by decide) (C_X10_add V (4 : Int32) 4 (show (4 : Int32).toInt = 4 from rfl) (by omega) x1 y1 hx1 (by omega) vz190 vz190.toInt rfl (by omega) vz194 vz194.toInt rfl ) ?_
          rintro _ g ⟨rfl, V, hq, hk⟩
          have hG := hq.trans hG
          have hK := hk.trans hK
          refine X_iload_n rfl rfl rfl rfl ?_
          have hr := (rfl : vz190.toInt = vz190.toInt)
          exact LW_ireturn (st := []) rfl rfl rfl ⟨_, rfl, by omega, by omega, V, hG, hK⟩
        · refine X_iconst (v := (1 : Int32)) rfl rfl rfl ?_
          refine LW_goto (tgt := 158) rfl rfl ?_
          refine X_istore_n (i := 3) (ls' := [some (.ref 332), some (.int x1), some (.int vz1), some (.int (1 : Int32)), none]) rfl rfl rfl (Nat.le_of_ble_eq_true rfl) rfl ?_
          refine X_aload_n rfl rfl rfl rfl ?_
          refine X_getR (a := 333) rfl rfl rfl ((congrFun V.1 332).trans s_332) rfl ((congrFun (V.2.1 332 (by decide)) 1).trans r_332_1) ?_
          refine X_iload_n rfl rfl rfl rfl ?_
          refine S_iald_v rfl rfl ((congrFun V.1 333).trans s_333) hx1 (by omega) evz2 ?_
          refine X_bipush (v := (60 : Int32)) rfl rfl rfl ?_
          refine S_icmp_eq (tgt := 181) rfl rfl rfl rfl (show (60 : Int32).toInt = 60 from rfl) (fun q => absurd q (by omega)) (fun vh197 => ?_)
          refine X_aload_n rfl rfl rfl rfl ?_
          refine X_getR (a := 333) rfl rfl rfl ((congrFun V.1 332).trans s_332) rfl ((congrFun (V.2.1 332 (by decide)) 1).trans r_332_1) ?_
          refine X_iload_n rfl rfl rfl rfl ?_
          refine S_iald_v rfl rfl ((congrFun V.1 333).trans s_333) hx1 (by omega) evz2 ?_
          refine X_bipush (v := (62 : Int32)) rfl rfl rfl ?_
          refine S_icmp_ne (tgt := 204) rfl rfl rfl rfl (show (62 : Int32).toInt = 62 from rfl) (fun vh199 => ?_) (fun q => absurd q (by omega))
          refine X_iconst (v := (0 : Int32)) rfl rfl rfl ?_
          refine X_istore (i := 4) (ls' := [some (.ref 332), some (.int x1), some (.int vz1), some (.int (1 : Int32)), some (.int (0 : Int32))]) rfl rfl (Nat.le_of_ble_eq_true rfl) rfl ?_
          refine X_iload_n rfl rfl rfl rfl ?_
          refine X_iload rfl rfl rfl ?_
          refine S_if_eq (tgt := 217) rfl rfl rfl (show (0 : Int32).toInt = 0 from rfl) (fun vh200 => ?_) (fun q => absurd q (by omega))
          refine X_iconst (v := (0 : Int32)) rfl rfl rfl ?_
          refine S_iadd rfl rfl rfl (show (0 : Int32).toInt = 0 from rfl) (by omega) (fun vz201 hvz201 => ?_)
          refine X_istore_n (i := 2) (ls' := [some (.ref 332), some (.int x1), some (.int vz201), some (.int (1 : Int32)), some (.int (0 : Int32))]) rfl rfl rfl (Nat.le_of_ble_eq_true rfl) rfl ?_
          refine X_aload_n rfl rfl rfl rfl ?_
          refine X_iload_n rfl rfl rfl rfl ?_
          refine S_if_eq (tgt := 229) rfl rfl rfl (show (1 : Int32).toInt = 1 from rfl) (fun q => absurd q (by omega)) (fun vh202 => ?_)
          refine X_iconst (v := (3 : Int32)) rfl rfl rfl ?_
          refine LW_goto (tgt := 230) rfl rfl ?_
          refine X_iload_n rfl rfl rfl rfl ?_
          refine X_iload_n rfl rfl rfl rfl ?_
          refine X_aload_n rfl rfl rfl rfl ?_
          refine X_getR (a := 333) rfl rfl rfl ((congrFun V.1 332).trans s_332) rfl ((congrFun (V.2.1 332 (by decide)) 1).trans r_332_1) ?_
          refine X_iload_n rfl rfl rfl rfl ?_
          refine S_iald_v rfl rfl ((congrFun V.1 333).trans s_333) hx1 (by omega) evz2 ?_
          refine X_iload rfl rfl rfl ?_
          refine S_if_eq (tgt := 249) rfl rfl rfl (show (0 : Int32).toInt = 0 from rfl) (fun vh204 => ?_) (fun q => absurd q (by omega))
          refine X_iconst (v := (0 : Int32)) rfl rfl rfl ?_
          refine S_iadd rfl rfl rfl (show (0 : Int32).toInt = 0 from rfl) (by omega) (fun vz205 hvz205 => ?_)
          refine Y_callV (as := [.int (3 : Int32), .int x1, .int vz201, .int vz205]) (st := []) rfl rfl rfl (by decide) rfl (Nat.le_of_ble_eq_true rfl) (by decide) (Nat.le_of_ble_eq_true rfl) rfl ((congrFun V.1 332).trans s_332) (by decide) (C_X10_add V (3 : Int32) 3 (show (3 : Int32).toInt = 3 from rfl) (by omega) x1 y1 hx1 (by omega) vz201 vz201.toInt rfl (by omega) vz205 vz205.toInt rfl ) ?_
          rintro _ g ⟨rfl, V, hq, hk⟩
          have hG := hq.trans hG
          have hK := hk.trans hK
          refine X_iload_n rfl rfl rfl rfl ?_
          have hr := (rfl : vz201.toInt = vz201.toInt)
          exact LW_ireturn (st := []) rfl rfl rfl ⟨_, rfl, by omega, by omega, V, hG, hK⟩
      · refine X_iconst (v := (1 : Int32)) rfl rfl rfl ?_
        refine LW_goto (tgt := 29) rfl rfl ?_
        refine LW_ireturn (st := []) rfl rfl rfl ?_
        refine S_if_eq (tgt := 58) rfl rfl rfl (show (1 : Int32).toInt = 1 from rfl) (fun q => absurd q (by omega)) (fun vh207 => ?_)
        exact (C_X10_cutOne_all (((300 - vz1.toInt) * 1 + 301) + 1 : Int).toNat).1 _ V hG hK x1 y1 hx1 (by omega) vz1 vz1.toInt rfl (by omega) none none    (by omega)
  · refine X_iload_n rfl rfl rfl rfl ?_
    refine X_bipush (v := (122 : Int32)) rfl rfl rfl ?_
    refine S_icmp_le (tgt := 24) rfl rfl rfl rfl (show (122 : Int32).toInt = 122 from rfl) (fun vh208 => ?_) (fun vh208 => ?_)
    · refine X_iconst (v := (1 : Int32)) rfl rfl rfl ?_
      refine LW_goto (tgt := 29) rfl rfl ?_
      refine LW_ireturn (st := []) rfl rfl rfl ?_
      refine S_if_eq (tgt := 58) rfl rfl rfl (show (1 : Int32).toInt = 1 from rfl) (fun q => absurd q (by omega)) (fun vh209 => ?_)
      exact (C_X10_cutOne_all (((300 - vz1.toInt) * 1 + 301) + 1 : Int).toNat).1 _ V hG hK x1 y1 hx1 (by omega) vz1 vz1.toInt rfl (by omega) none none    (by omega)
    · refine X_iload_n rfl rfl rfl rfl ?_
      refine X_bipush (v := (65 : Int32)) rfl rfl rfl ?_
      refine S_icmp_lt (tgt := 28) rfl rfl rfl rfl (show (65 : Int32).toInt = 65 from rfl) (fun q => absurd q (by omega)) (fun vh210 => ?_)
      refine X_iload_n rfl rfl rfl rfl ?_
      refine X_bipush (v := (90 : Int32)) rfl rfl rfl ?_
      refine S_icmp_gt (tgt := 28) rfl rfl rfl rfl (show (90 : Int32).toInt = 90 from rfl) (fun vh211 => ?_) (fun q => absurd q (by omega))
      refine X_iconst (v := (0 : Int32)) rfl rfl rfl ?_
      refine LW_ireturn (st := []) rfl rfl rfl ?_
      refine S_if_eq (tgt := 58) rfl rfl rfl (show (0 : Int32).toInt = 0 from rfl) (fun vh212 => ?_) (fun q => absurd q (by omega))
      refine X_aload_n rfl rfl rfl rfl ?_
      refine X_getR (a := 333) rfl rfl rfl ((congrFun V.1 332).trans s_332) rfl ((congrFun (V.2.1 332 (by decide)) 1).trans r_332_1) ?_
      refine X_iload_n rfl rfl rfl rfl ?_
      refine S_iald_v rfl rfl ((congrFun V.1 333).trans s_333) hx1 (by omega) evz2 ?_
      refine X_callS (as := [.int vz2]) (st := []) rfl rfl rfl (by decide) rfl (Nat.le_of_ble_eq_true rfl) (by decide) (Nat.le_of_ble_eq_true rfl) rfl ?_
      refine LW_ls (ls' := [some (.int vz2)]) rfl ?_
      refine X_iload_n rfl rfl rfl rfl ?_
      refine X_bipush (v := (48 : Int32)) rfl rfl rfl ?_
      refine S_icmp_lt (tgt := 16) rfl rfl rfl rfl (show (48 : Int32).toInt = 48 from rfl) (fun q => absurd q (by omega)) (fun vh214 => ?_)
      refine X_iload_n rfl rfl rfl rfl ?_
      refine X_bipush (v := (57 : Int32)) rfl rfl rfl ?_
      refine S_icmp_gt (tgt := 16) rfl rfl rfl rfl (show (57 : Int32).toInt = 57 from rfl) (fun vh215 => ?_) (fun q => absurd q (by omega))
      refine X_iconst (v := (0 : Int32)) rfl rfl rfl ?_
      refine LW_ireturn (st := []) rfl rfl rfl ?_
      refine S_if_eq (tgt := 138) rfl rfl rfl (show (0 : Int32).toInt = 0 from rfl) (fun vh216 => ?_) (fun q => absurd q (by omega))
      refine X_ldcS (r := 3) rfl rfl (fun _ _ _ _ h => h.2.2.2.1.2) ?_
      refine X_aload_n rfl rfl rfl rfl ?_
      refine X_getR (a := 333) rfl rfl rfl ((congrFun V.1 332).trans s_332) rfl ((congrFun (V.2.1 332 (by decide)) 1).trans r_332_1) ?_
      refine X_iload_n rfl rfl rfl rfl ?_
      refine S_iald_v rfl rfl ((congrFun V.1 333).trans s_333) hx1 (by omega) evz2 ?_
      refine S_i2c rfl rfl (fun vz218 hvz218 => ?_)
      refine Y_callVO (i := 1) (as := [.int vz218]) (st := []) (by decide) rfl rfl rfl (by decide) rfl rfl (Nat.le_of_ble_eq_true rfl) (by decide) (Nat.le_of_ble_eq_true rfl) rfl (c_indexOf (i := 1) (by decide)) ?_
      rintro _ g' ⟨⟨vz219, rfl⟩, hgg⟩
      subst hgg
      refine S_if_lt (tgt := 157) rfl rfl rfl rfl (fun vh220 => ?_) (fun vh220 => ?_)
      · refine X_iconst (v := (0 : Int32)) rfl rfl rfl ?_
        refine X_istore_n (i := 3) (ls' := [some (.ref 332), some (.int x1), some (.int vz1), some (.int (0 : Int32)), none]) rfl rfl rfl (Nat.le_of_ble_eq_true rfl) rfl ?_
        refine X_aload_n rfl rfl rfl rfl ?_
        refine X_getR (a := 333) rfl rfl rfl ((congrFun V.1 332).trans s_332) rfl ((congrFun (V.2.1 332 (by decide)) 1).trans r_332_1) ?_
        refine X_iload_n rfl rfl rfl rfl ?_
        refine S_iald_v rfl rfl ((congrFun V.1 333).trans s_333) hx1 (by omega) evz2 ?_
        refine X_bipush (v := (60 : Int32)) rfl rfl rfl ?_
        refine S_icmp_eq (tgt := 181) rfl rfl rfl rfl (show (60 : Int32).toInt = 60 from rfl) (fun q => absurd q (by omega)) (fun vh222 => ?_)
        refine X_aload_n rfl rfl rfl rfl ?_
        refine X_getR (a := 333) rfl rfl rfl ((congrFun V.1 332).trans s_332) rfl ((congrFun (V.2.1 332 (by decide)) 1).trans r_332_1) ?_
        refine X_iload_n rfl rfl rfl rfl ?_
        refine S_iald_v rfl rfl ((congrFun V.1 333).trans s_333) hx1 (by omega) evz2 ?_
        refine X_bipush (v := (62 : Int32)) rfl rfl rfl ?_
        refine S_icmp_ne (tgt := 204) rfl rfl rfl rfl (show (62 : Int32).toInt = 62 from rfl) (fun vh224 => ?_) (fun q => absurd q (by omega))
        refine X_iconst (v := (0 : Int32)) rfl rfl rfl ?_
        refine X_istore (i := 4) (ls' := [some (.ref 332), some (.int x1), some (.int vz1), some (.int (0 : Int32)), some (.int (0 : Int32))]) rfl rfl (Nat.le_of_ble_eq_true rfl) rfl ?_
        refine X_iload_n rfl rfl rfl rfl ?_
        refine X_iload rfl rfl rfl ?_
        refine S_if_eq (tgt := 217) rfl rfl rfl (show (0 : Int32).toInt = 0 from rfl) (fun vh225 => ?_) (fun q => absurd q (by omega))
        refine X_iconst (v := (0 : Int32)) rfl rfl rfl ?_
        refine S_iadd rfl rfl rfl (show (0 : Int32).toInt = 0 from rfl) (by omega) (fun vz226 hvz226 => ?_)
        refine X_istore_n (i := 2) (ls' := [some (.ref 332), some (.int x1), some (.int vz226), some (.int (0 : Int32)), some (.int (0 : Int32))]) rfl rfl rfl (Nat.le_of_ble_eq_true rfl) rfl ?_
        refine X_aload_n rfl rfl rfl rfl ?_
        refine X_iload_n rfl rfl rfl rfl ?_
        refine S_if_eq (tgt := 229) rfl rfl rfl (show (0 : Int32).toInt = 0 from rfl) (fun vh227 => ?_) (fun q => absurd q (by omega))
        refine X_iconst (v := (4 : Int32)) rfl rfl rfl ?_
        refine X_iload_n rfl rfl rfl rfl ?_
        refine X_iload_n rfl rfl rfl rfl ?_
        refine X_aload_n rfl rfl rfl rfl ?_
        refine X_getR (a := 333) rfl rfl rfl ((congrFun V.1 332).trans s_332) rfl ((congrFun (V.2.1 332 (by decide)) 1).trans r_332_1) ?_
        refine X_iload_n rfl rfl rfl rfl ?_
        refine S_iald_v rfl rfl ((congrFun V.1 333).trans s_333) hx1 (by omega) evz2 ?_
        refine X_iload rfl rfl rfl ?_
        refine S_if_eq (tgt := 249) rfl rfl rfl (show (0 : Int32).toInt = 0 from rfl) (fun vh229 => ?_) (fun q => absurd q (by omega))
        refine X_iconst (v := (0 : Int32)) rfl rfl rfl ?_
        refine S_iadd rfl rfl rfl (show (0 : Int32).toInt = 0 from rfl) (by omega) (fun vz230 hvz230 => ?_)
        refine Y_callV (as := [.int (4 : Int32), .int x1, .int vz226, .int vz230]) (st := []) rfl rfl rfl (by decide) rfl (Nat.le_of_ble_eq_true rfl) (by decide) (Nat.le_of_ble_eq_true rfl) rfl ((congrFun V.1 332).trans s_332) (by decide) (C_X10_add V (4 : Int32) 4 (show (4 : Int32).toInt = 4 from rfl) (by omega) x1 y1 hx1 (by omega) vz226 vz226.toInt rfl (by omega) vz230 vz230.toInt rfl ) ?_
        rintro _ g ⟨rfl, V, hq, hk⟩
        have hG := hq.trans hG
        have hK := hk.trans hK
        refine X_iload_n rfl rfl rfl rfl ?_
        have hr := (rfl : vz226.toInt = vz226.toInt)
        exact LW_ireturn (st := []) rfl rfl rfl ⟨_, rfl, by omega, by omega, V, hG, hK⟩
      · refine X_iconst (v := (1 : Int32)) rfl rfl rfl ?_
        refine LW_goto (tgt := 158) rfl rfl ?_
        refine X_istore_n (i := 3) (ls' := [some (.ref 332), some (.int x1), some (.int vz1), some (.int (1 : Int32)), none]) rfl rfl rfl (Nat.le_of_ble_eq_true rfl) rfl ?_
        refine X_aload_n rfl rfl rfl rfl ?_
        refine X_getR (a := 333) rfl rfl rfl ((congrFun V.1 332).trans s_332) rfl ((congrFun (V.2.1 332 (by decide)) 1).trans r_332_1) ?_
        refine X_iload_n rfl rfl rfl rfl ?_
        refine S_iald_v rfl rfl ((congrFun V.1 333).trans s_333) hx1 (by omega) evz2 ?_
        refine X_bipush (v := (60 : Int32)) rfl rfl rfl ?_
        refine S_icmp_eq (tgt := 181) rfl rfl rfl rfl (show (60 : Int32).toInt = 60 from rfl) (fun q => absurd q (by omega)) (fun vh233 => ?_)
        refine X_aload_n rfl rfl rfl rfl ?_
        refine X_getR (a := 333) rfl rfl rfl ((congrFun V.1 332).trans s_332) rfl ((congrFun (V.2.1 332 (by decide)) 1).trans r_332_1) ?_
        refine X_iload_n rfl rfl rfl rfl ?_
        refine S_iald_v rfl rfl ((congrFun V.1 333).trans s_333) hx1 (by omega) evz2 ?_
        refine X_bipush (v := (62 : Int32)) rfl rfl rfl ?_
        refine S_icmp_ne (tgt := 204) rfl rfl rfl rfl (show (62 : Int32).toInt = 62 from rfl) (fun vh235 => ?_) (fun q => absurd q (by omega))
        refine X_iconst (v := (0 : Int32)) rfl rfl rfl ?_
        refine X_istore (i := 4) (ls' := [some (.ref 332), some (.int x1), some (.int vz1), some (.int (1 : Int32)), some (.int (0 : Int32))]) rfl rfl (Nat.le_of_ble_eq_true rfl) rfl ?_
        refine X_iload_n rfl rfl rfl rfl ?_
        refine X_iload rfl rfl rfl ?_
        refine S_if_eq (tgt := 217) rfl rfl rfl (show (0 : Int32).toInt = 0 from rfl) (fun vh236 => ?_) (fun q => absurd q (by omega))
        refine X_iconst (v := (0 : Int32)) rfl rfl rfl ?_
        refine S_iadd rfl rfl rfl (show (0 : Int32).toInt = 0 from rfl) (by omega) (fun vz237 hvz237 => ?_)
        refine X_istore_n (i := 2) (ls' := [some (.ref 332), some (.int x1), some (.int vz237), some (.int (1 : Int32)), some (.int (0 : Int32))]) rfl rfl rfl (Nat.le_of_ble_eq_true rfl) rfl ?_
        refine X_aload_n rfl rfl rfl rfl ?_
        refine X_iload_n rfl rfl rfl rfl ?_
        refine S_if_eq (tgt := 229) rfl rfl rfl (show (1 : Int32).toInt = 1 from rfl) (fun q => absurd q (by omega)) (fun vh238 => ?_)
        refine X_iconst (v := (3 : Int32)) rfl rfl rfl ?_
        refine LW_goto (tgt := 230) rfl rfl ?_
        refine X_iload_n rfl rfl rfl rfl ?_
        refine X_iload_n rfl rfl rfl rfl ?_
        refine X_aload_n rfl rfl rfl rfl ?_
        refine X_getR (a := 333) rfl rfl rfl ((congrFun V.1 332).trans s_332) rfl ((congrFun (V.2.1 332 (by decide)) 1).trans r_332_1) ?_
        refine X_iload_n rfl rfl rfl rfl ?_
        refine S_iald_v rfl rfl ((congrFun V.1 333).trans s_333) hx1 (by omega) evz2 ?_
        refine X_iload rfl rfl rfl ?_
        refine S_if_eq (tgt := 249) rfl rfl rfl (show (0 : Int32).toInt = 0 from rfl) (fun vh240 => ?_) (fun q => absurd q (by omega))
        refine X_iconst (v := (0 : Int32)) rfl rfl rfl ?_
        refine S_iadd rfl rfl rfl (show (0 : Int32).toInt = 0 from rfl) (by omega) (fun vz241 hvz241 => ?_)
        refine Y_callV (as := [.int (3 : Int32), .int x1, .int vz237, .int vz241]) (st := []) rfl rfl rfl (by decide) rfl (Nat.le_of_ble_eq_true rfl) (by decide) (Nat.le_of_ble_eq_true rfl) rfl ((congrFun V.1 332).trans s_332) (by decide) (C_X10_add V (3 : Int32) 3 (show (3 : Int32).toInt = 3 from rfl) (by omega) x1 y1 hx1 (by omega) vz237 vz237.toInt rfl (by omega) vz241 vz241.toInt rfl ) ?_
        rintro _ g ⟨rfl, V, hq, hk⟩
        have hG := hq.trans hG
        have hK := hk.trans hK
        refine X_iload_n rfl rfl rfl rfl ?_
        have hr := (rfl : vz237.toInt = vz237.toInt)
        exact LW_ireturn (st := []) rfl rfl rfl ⟨_, rfl, by omega, by omega, V, hG, hK⟩
