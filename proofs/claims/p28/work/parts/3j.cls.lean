/-! the class's methods: each returns and keeps what every state keeps -/
set_option maxRecDepth 10000 in
set_option maxHeartbeats 40000000 in
theorem C_X12_year {P : Par} {g : LH} {d : Nat}  (V : Inv P g) (x1 : Int32) (y1 : Int) (hx1 : x1.toInt = y1) (x2 : Int32) (y2 : Int) (hx2 : x2.toInt = y2)   : LW 141 (d + 35) 0 0 0 (lEnt (mL 141) [.ref 0, .int x1, .int x2]) [] g (fun v g' => ∃ r : Int32, v = some (.int r) ∧ (-1) ≤ r.toInt ∧ r.toInt ≤ 63 ∧ Inv P g' ∧ Gr g' = Gr g) := by
  refine LW_ls (ls' := [some (.ref 0), some (.int x1), some (.int x2)]) rfl ?_
  have hG : Gr g = Gr g := rfl
  refine X_iload_n rfl rfl rfl rfl ?_
  refine S_if_lt (tgt := 22) rfl rfl rfl hx1 (fun vh1 => ?_) (fun vh1 => ?_)
  · refine X_iconst (v := (-1 : Int32)) rfl rfl rfl ?_
    exact LW_ireturn (st := []) rfl rfl rfl ⟨_, rfl, by decide, by decide, V, hG⟩
  · refine X_iload_n rfl rfl rfl rfl ?_
    refine X_sipush (v := (9999 : Int32)) rfl rfl rfl ?_
    refine S_icmp_gt (tgt := 22) rfl rfl rfl hx1 (show (9999 : Int32).toInt = 9999 from rfl) (fun vh2 => ?_) (fun vh2 => ?_)
    · refine X_iconst (v := (-1 : Int32)) rfl rfl rfl ?_
      exact LW_ireturn (st := []) rfl rfl rfl ⟨_, rfl, by decide, by decide, V, hG⟩
    · refine X_iload_n rfl rfl rfl rfl ?_
      refine X_iconst (v := (1 : Int32)) rfl rfl rfl ?_
      refine S_icmp_lt (tgt := 22) rfl rfl rfl hx2 (show (1 : Int32).toInt = 1 from rfl) (fun vh3 => ?_) (fun vh3 => ?_)
      · refine X_iconst (v := (-1 : Int32)) rfl rfl rfl ?_
        exact LW_ireturn (st := []) rfl rfl rfl ⟨_, rfl, by decide, by decide, V, hG⟩
      · refine X_iload_n rfl rfl rfl rfl ?_
        refine X_bipush (v := (40 : Int32)) rfl rfl rfl ?_
        refine S_icmp_le (tgt := 24) rfl rfl rfl hx2 (show (40 : Int32).toInt = 40 from rfl) (fun vh4 => ?_) (fun vh4 => ?_)
        · refine X_aload_n rfl rfl rfl rfl ?_
          refine X_getR (a := 342) rfl rfl rfl ((congrFun V.1 0).trans s_0) rfl ((congrFun (V.2.1 0 (by decide)) 6).trans r_0_6) ?_
          refine X_iload_n rfl rfl rfl rfl ?_
          refine X_iload_n rfl rfl rfl rfl ?_
          refine Y_callV (as := [.int x1, .int x2]) (st := []) rfl rfl rfl (by decide) rfl (Nat.le_of_ble_eq_true rfl) (by decide) (Nat.le_of_ble_eq_true rfl) rfl ((congrFun V.1 342).trans s_342) (by decide) (C_X1_liveYear V x1 y1 hx1 (by omega) x2 y2 hx2 (by omega) ) ?_
          rintro _ g ⟨rfl, V, hq⟩
          have hG := hq.trans hG
          refine X_aload_n rfl rfl rfl rfl ?_
          refine X_getR (a := 1) rfl rfl rfl ((congrFun V.1 0).trans s_0) rfl ((congrFun (V.2.1 0 (by decide)) 0).trans r_0_0) ?_
          refine X_getR (a := 10) rfl rfl rfl ((congrFun V.1 1).trans s_1) rfl ((congrFun (V.2.1 1 (by decide)) 1).trans r_1_1) ?_
          refine Y_callV (as := []) (st := []) rfl rfl rfl (by decide) rfl (Nat.le_of_ble_eq_true rfl) (by decide) (Nat.le_of_ble_eq_true rfl) rfl ((congrFun V.1 10).trans s_10) (by decide) (C_X9_outs V  ) ?_
          rintro _ g' ⟨vr6, rfl, hrvr60, hrvr61, hgg⟩
          subst hgg
          have hr := (rfl : vr6.toInt = vr6.toInt)
          exact LW_ireturn (st := []) rfl rfl rfl ⟨_, rfl, by omega, by omega, V, hG⟩
        · refine X_iconst (v := (-1 : Int32)) rfl rfl rfl ?_
          exact LW_ireturn (st := []) rfl rfl rfl ⟨_, rfl, by decide, by decide, V, hG⟩
set_option maxRecDepth 10000 in
set_option maxHeartbeats 40000000 in
theorem C_X3_takeBack_14_10 {P : Par} {g : LH} {d : Nat}  (V : Inv P g)    : LW 25 (d + 5) 0 0 0 (lEnt (mL 25) [.ref 14, .ref 10]) [] g (fun v g' => ∃ r : Int32, v = some (.int r) ∧ 0 ≤ r.toInt ∧ r.toInt ≤ 1 ∧ Inv P g' ∧ Gr g' = Gr g) := by
  refine LW_ls (ls' := [some (.ref 14), some (.ref 10)]) rfl ?_
  have hG : Gr g = Gr g := rfl
  refine X_aload_n rfl rfl rfl rfl ?_
  refine S_getI rfl rfl rfl ((congrFun V.1 14).trans s_14) rfl (fun vz1 evz1 => ?_)
  have vf2 := K_12_0 (V.2.2.2.2.1 (14) (0) (Nat.le_of_ble_eq_true rfl)) rk_14
  rw [evz1] at vf2
  refine S_if_gt (tgt := 9) rfl rfl rfl rfl (fun vh3 => ?_) (fun vh3 => ?_)
  · refine X_aload_n rfl rfl rfl rfl ?_
    refine X_dup rfl rfl rfl ?_
    refine X_getI (v := vz1) rfl rfl rfl ((congrFun V.1 14).trans s_14) rfl evz1 ?_
    refine X_iconst (v := (1 : Int32)) rfl rfl rfl ?_
    refine S_isub rfl rfl rfl (show (1 : Int32).toInt = 1 from rfl) (by omega) (fun vz4 hvz4 => ?_)
    refine S_putI (I := Inv _) rfl rfl rfl ((congrFun V.1 14).trans s_14) rfl rfl rfl rfl (Inv_putI V (Nat.le_of_ble_eq_true rfl) (Or.inl (by decide)) (Q_12_0 rk_14 (by omega))) (fun g V ve5 vn6 hq => ?_)
    have hG := hq.trans hG
    refine X_aload_n rfl rfl rfl rfl ?_
    refine X_aload_n rfl rfl rfl rfl ?_
    refine X_getR (a := 15) rfl rfl rfl ((congrFun V.1 14).trans s_14) rfl ((congrFun (V.2.1 14 (by decide)) 2).trans r_14_2) ?_
    refine X_aload_n rfl rfl rfl rfl ?_
    refine S_getI rfl rfl rfl ((congrFun V.1 14).trans s_14) rfl (fun vz7 evz7 => ?_)
    have vf8 := K_12_1 (V.2.2.2.2.1 (14) (1) (Nat.le_of_ble_eq_true rfl)) rk_14
    rw [evz7] at vf8
    refine X_aload_n rfl rfl rfl rfl ?_
    refine X_getI (v := vz4) rfl rfl rfl ((congrFun V.1 14).trans s_14) rfl ve5 ?_
    refine S_iadd rfl rfl rfl rfl (by omega) (fun vz9 hvz9 => ?_)
    refine X_bipush (v := (30 : Int32)) rfl rfl rfl ?_
    refine S_irem rfl rfl rfl (show (30 : Int32).toInt = 30 from rfl) (by omega) (by omega) (fun vz10 hvz10 => ?_)
    obtain ⟨t, ht, et⟩ : ∃ t : Nat, t < 30 ∧ (t : Int) = vz10.toInt := ⟨(vz10.toInt : Int).toNat, by omega, by omega⟩
    refine X_aald (a := 16 + 4 * t) (t0 := 3) rfl rfl ((congrFun V.1 15).trans s_15) rfl (ti_idx (n := 30) rfl (by omega)).1 (by rw [(ti_idx (n := 30) rfl (by omega)).2, show (vz10.toInt : Int).toNat = t by omega]; exact (congrFun (V.2.1 15 (by decide)) t).trans (sp_a t ht)) ?_
    refine X_callV (as := [.ref (16 + 4 * t)]) (st := []) rfl rfl rfl (by decide) rfl (Nat.le_of_ble_eq_true rfl) (by decide) (Nat.le_of_ble_eq_true rfl) rfl ((congrFun V.1 10).trans s_10) (by decide) ?_
    refine LW_ls (ls' := [some (.ref 10), some (.ref (16 + 4 * t))]) rfl ?_
    refine X_aload_n rfl rfl rfl rfl ?_
    refine X_aload_n rfl rfl rfl rfl ?_
    refine S_getI rfl rfl rfl ((congrFun V.1 _).trans (sp_s t ht)) rfl (fun vz11 evz11 => ?_)
    refine S_putI (I := Inv _) rfl rfl rfl ((congrFun V.1 10).trans s_10) rfl rfl rfl rfl (Inv_putI V (Nat.le_of_ble_eq_true rfl) (Or.inl (by decide)) (Q_11_0 rk_10)) (fun g V ve12 vn13 hq => ?_)
    have hG := hq.trans hG
    have ve5 := (vn13 (14) 0 (Or.inl (by decide))).trans ve5
    have evz7 := (vn13 (14) 1 (Or.inl (by decide))).trans evz7
    have evz11 := (vn13 (16 + 4 * t) 0 (Or.inl (by omega))).trans evz11
    refine X_aload_n rfl rfl rfl rfl ?_
    refine X_aload_n rfl rfl rfl rfl ?_
    refine S_getI rfl rfl rfl ((congrFun V.1 _).trans (sp_s t ht)) rfl (fun vz14 evz14 => ?_)
    refine S_putI (I := Inv _) rfl rfl rfl ((congrFun V.1 10).trans s_10) rfl rfl rfl rfl (Inv_putI V (Nat.le_of_ble_eq_true rfl) (Or.inl (by decide)) (Q_11_1 rk_10)) (fun g V ve15 vn16 hq => ?_)
    have hG := hq.trans hG
    have ve5 := (vn16 (14) 0 (Or.inl (by decide))).trans ve5
    have evz7 := (vn16 (14) 1 (Or.inl (by decide))).trans evz7
    have evz11 := (vn16 (16 + 4 * t) 0 (Or.inl (by omega))).trans evz11
    have ve12 := (vn16 (10) 0 (Or.inr (by decide))).trans ve12
    have evz14 := (vn16 (16 + 4 * t) 1 (Or.inl (by omega))).trans evz14
    refine X_aload_n rfl rfl rfl rfl ?_
    refine X_aload_n rfl rfl rfl rfl ?_
    refine S_getI rfl rfl rfl ((congrFun V.1 _).trans (sp_s t ht)) rfl (fun vz17 evz17 => ?_)
    refine S_putI (I := Inv _) rfl rfl rfl ((congrFun V.1 10).trans s_10) rfl rfl rfl rfl (Inv_putI V (Nat.le_of_ble_eq_true rfl) (Or.inl (by decide)) (Q_11_2 rk_10)) (fun g V ve18 vn19 hq => ?_)
    have hG := hq.trans hG
    have ve5 := (vn19 (14) 0 (Or.inl (by decide))).trans ve5
    have evz7 := (vn19 (14) 1 (Or.inl (by decide))).trans evz7
    have evz11 := (vn19 (16 + 4 * t) 0 (Or.inl (by omega))).trans evz11
    have ve12 := (vn19 (10) 0 (Or.inr (by decide))).trans ve12
    have evz14 := (vn19 (16 + 4 * t) 1 (Or.inl (by omega))).trans evz14
    have ve15 := (vn19 (10) 1 (Or.inr (by decide))).trans ve15
    have evz17 := (vn19 (16 + 4 * t) 2 (Or.inl (by omega))).trans evz17
    refine X_aload_n rfl rfl rfl rfl ?_
    refine X_aload_n rfl rfl rfl rfl ?_
    refine S_getI rfl rfl rfl ((congrFun V.1 _).trans (sp_s t ht)) rfl (fun vz20 evz20 => ?_)
    have vf21 := K_11_3 (V.2.2.2.2.1 (16 + 4 * t) (3) (by omega)) (sp_k t ht)
    rw [evz20] at vf21
    refine S_putI (I := Inv _) rfl rfl rfl ((congrFun V.1 10).trans s_10) rfl rfl rfl rfl (Inv_putI V (Nat.le_of_ble_eq_true rfl) (Or.inl (by decide)) (Q_11_3 rk_10 (by omega))) (fun g V ve22 vn23 hq => ?_)
    have hG := hq.trans hG
    have ve5 := (vn23 (14) 0 (Or.inl (by decide))).trans ve5
    have evz7 := (vn23 (14) 1 (Or.inl (by decide))).trans evz7
    have evz11 := (vn23 (16 + 4 * t) 0 (Or.inl (by omega))).trans evz11
    have ve12 := (vn23 (10) 0 (Or.inr (by decide))).trans ve12
    have evz14 := (vn23 (16 + 4 * t) 1 (Or.inl (by omega))).trans evz14
    have ve15 := (vn23 (10) 1 (Or.inr (by decide))).trans ve15
    have evz17 := (vn23 (16 + 4 * t) 2 (Or.inl (by omega))).trans evz17
    have ve18 := (vn23 (10) 2 (Or.inr (by decide))).trans ve18
    have evz20 := (vn23 (16 + 4 * t) 3 (Or.inl (by omega))).trans evz20
    refine X_aload_n rfl rfl rfl rfl ?_
    refine X_getR (a := 17 + 4 * t) rfl rfl rfl ((congrFun V.1 _).trans (sp_s t ht)) rfl ((congrFun (V.2.1 (16 + 4 * t) (by omega)) 4).trans (sp_r4 t ht)) ?_
    refine X_iconst (v := (0 : Int32)) rfl rfl rfl ?_
    refine X_aload_n rfl rfl rfl rfl ?_
    refine X_getR (a := 11) rfl rfl rfl ((congrFun V.1 10).trans s_10) rfl ((congrFun (V.2.1 10 (by decide)) 4).trans r_10_4) ?_
    refine X_iconst (v := (0 : Int32)) rfl rfl rfl ?_
    refine X_bipush (v := (26 : Int32)) rfl rfl rfl ?_
    refine S_copy (I := Inv _) (sp' := 0) (dp' := 0) (n' := 26) rfl rfl rfl ((congrFun V.1 _).trans (sp_s4 t ht)) ((congrFun V.1 11).trans s_11) (by decide) (by decide) (by decide) rfl rfl rfl (by decide) (by decide) (Nat.le_of_ble_eq_true rfl) (Inv_cpy V (by omega) (Nat.le_of_ble_eq_true rfl) (by omega) (U_0 (sp_k4 t ht) rk_11)) (fun g V vn24 hq => ?_)
    have hG := hq.trans hG
    have ve5 := (vn24 (14) 0 (by decide)).trans ve5
    have evz7 := (vn24 (14) 1 (by decide)).trans evz7
    have evz11 := (vn24 (16 + 4 * t) 0 (by omega)).trans evz11
    have ve12 := (vn24 (10) 0 (by decide)).trans ve12
    have evz14 := (vn24 (16 + 4 * t) 1 (by omega)).trans evz14
    have ve15 := (vn24 (10) 1 (by decide)).trans ve15
    have evz17 := (vn24 (16 + 4 * t) 2 (by omega)).trans evz17
    have ve18 := (vn24 (10) 2 (by decide)).trans ve18
    have evz20 := (vn24 (16 + 4 * t) 3 (by omega)).trans evz20
    have ve22 := (vn24 (10) 3 (by decide)).trans ve22
    refine X_aload_n rfl rfl rfl rfl ?_
    refine X_getR (a := 18 + 4 * t) rfl rfl rfl ((congrFun V.1 _).trans (sp_s t ht)) rfl ((congrFun (V.2.1 (16 + 4 * t) (by omega)) 5).trans (sp_r5 t ht)) ?_
    refine X_iconst (v := (0 : Int32)) rfl rfl rfl ?_
    refine X_aload_n rfl rfl rfl rfl ?_
    refine X_getR (a := 12) rfl rfl rfl ((congrFun V.1 10).trans s_10) rfl ((congrFun (V.2.1 10 (by decide)) 5).trans r_10_5) ?_
    refine X_iconst (v := (0 : Int32)) rfl rfl rfl ?_
    refine X_bipush (v := (26 : Int32)) rfl rfl rfl ?_
    refine S_copy (I := Inv _) (sp' := 0) (dp' := 0) (n' := 26) rfl rfl rfl ((congrFun V.1 _).trans (sp_s5 t ht)) ((congrFun V.1 12).trans s_12) (by decide) (by decide) (by decide) rfl rfl rfl (by decide) (by decide) (Nat.le_of_ble_eq_true rfl) (Inv_cpy V (by omega) (Nat.le_of_ble_eq_true rfl) (by omega) (U_0 (sp_k5 t ht) rk_12)) (fun g V vn25 hq => ?_)
    have hG := hq.trans hG
    have ve5 := (vn25 (14) 0 (by decide)).trans ve5
    have evz7 := (vn25 (14) 1 (by decide)).trans evz7
    have evz11 := (vn25 (16 + 4 * t) 0 (by omega)).trans evz11
    have ve12 := (vn25 (10) 0 (by decide)).trans ve12
    have evz14 := (vn25 (16 + 4 * t) 1 (by omega)).trans evz14
    have ve15 := (vn25 (10) 1 (by decide)).trans ve15
    have evz17 := (vn25 (16 + 4 * t) 2 (by omega)).trans evz17
    have ve18 := (vn25 (10) 2 (by decide)).trans ve18
    have evz20 := (vn25 (16 + 4 * t) 3 (by omega)).trans evz20
    have ve22 := (vn25 (10) 3 (by decide)).trans ve22
    refine X_aload_n rfl rfl rfl rfl ?_
    refine X_getR (a := 19 + 4 * t) rfl rfl rfl ((congrFun V.1 _).trans (sp_s t ht)) rfl ((congrFun (V.2.1 (16 + 4 * t) (by omega)) 6).trans (sp_r6 t ht)) ?_
    refine X_iconst (v := (0 : Int32)) rfl rfl rfl ?_
    refine X_aload_n rfl rfl rfl rfl ?_
    refine X_getR (a := 13) rfl rfl rfl ((congrFun V.1 10).trans s_10) rfl ((congrFun (V.2.1 10 (by decide)) 6).trans r_10_6) ?_
    refine X_iconst (v := (0 : Int32)) rfl rfl rfl ?_
    refine X_bipush (v := (26 : Int32)) rfl rfl rfl ?_
    refine S_copy (I := Inv _) (sp' := 0) (dp' := 0) (n' := 26) rfl rfl rfl ((congrFun V.1 _).trans (sp_s6 t ht)) ((congrFun V.1 13).trans s_13) (by decide) (by decide) (by decide) rfl rfl rfl (by decide) (by decide) (Nat.le_of_ble_eq_true rfl) (Inv_cpy V (by omega) (Nat.le_of_ble_eq_true rfl) (by omega) (U_0 (sp_k6 t ht) rk_13)) (fun g V vn26 hq => ?_)
    have hG := hq.trans hG
    have ve5 := (vn26 (14) 0 (by decide)).trans ve5
    have evz7 := (vn26 (14) 1 (by decide)).trans evz7
    have evz11 := (vn26 (16 + 4 * t) 0 (by omega)).trans evz11
    have ve12 := (vn26 (10) 0 (by decide)).trans ve12
    have evz14 := (vn26 (16 + 4 * t) 1 (by omega)).trans evz14
    have ve15 := (vn26 (10) 1 (by decide)).trans ve15
    have evz17 := (vn26 (16 + 4 * t) 2 (by omega)).trans evz17
    have ve18 := (vn26 (10) 2 (by decide)).trans ve18
    have evz20 := (vn26 (16 + 4 * t) 3 (by omega)).trans evz20
    have ve22 := (vn26 (10) 3 (by decide)).trans ve22
    refine LW_return (st := []) rfl rfl ?_
    refine X_iconst (v := (1 : Int32)) rfl rfl rfl ?_
    exact LW_ireturn (st := []) rfl rfl rfl ⟨_, rfl, by decide, by decide, V, hG⟩
  · refine X_iconst (v := (0 : Int32)) rfl rfl rfl ?_
    exact LW_ireturn (st := []) rfl rfl rfl ⟨_, rfl, by decide, by decide, V, hG⟩
set_option maxRecDepth 10000 in
set_option maxHeartbeats 40000000 in
theorem C_X12_undo {P : Par} {g : LH} {d : Nat}  (V : Inv P g)    : LW 142 (d + 9) 0 0 0 (lEnt (mL 142) [.ref 0]) [] g (fun v g' => ∃ r : Int32, v = some (.int r) ∧ (-1) ≤ r.toInt ∧ r.toInt ≤ 30 ∧ Inv P g' ∧ Gr g' = Gr g) := by
  refine LW_ls (ls' := [some (.ref 0)]) rfl ?_
  have hG : Gr g = Gr g := rfl
  refine X_aload_n rfl rfl rfl rfl ?_
  refine X_getR (a := 1) rfl rfl rfl ((congrFun V.1 0).trans s_0) rfl ((congrFun (V.2.1 0 (by decide)) 0).trans r_0_0) ?_
  refine X_getR (a := 14) rfl rfl rfl ((congrFun V.1 1).trans s_1) rfl ((congrFun (V.2.1 1 (by decide)) 2).trans r_1_2) ?_
  refine X_aload_n rfl rfl rfl rfl ?_
  refine X_getR (a := 1) rfl rfl rfl ((congrFun V.1 0).trans s_0) rfl ((congrFun (V.2.1 0 (by decide)) 0).trans r_0_0) ?_
  refine X_getR (a := 10) rfl rfl rfl ((congrFun V.1 1).trans s_1) rfl ((congrFun (V.2.1 1 (by decide)) 1).trans r_1_1) ?_
  refine Y_callV (as := [.ref 10]) (st := []) rfl rfl rfl (by decide) rfl (Nat.le_of_ble_eq_true rfl) (by decide) (Nat.le_of_ble_eq_true rfl) rfl ((congrFun V.1 14).trans s_14) (by decide) (C_X3_takeBack_14_10 V  ) ?_
  rintro _ g ⟨vr1, rfl, hrvr10, hrvr11, V, hq⟩
  have hG := hq.trans hG
  refine S_if_eq (tgt := 33) rfl rfl rfl rfl (fun vh2 => ?_) (fun vh2 => ?_)
  · refine X_iconst (v := (-1 : Int32)) rfl rfl rfl ?_
    exact LW_ireturn (st := []) rfl rfl rfl ⟨_, rfl, by decide, by decide, V, hG⟩
  · refine X_aload_n rfl rfl rfl rfl ?_
    refine X_getR (a := 1) rfl rfl rfl ((congrFun V.1 0).trans s_0) rfl ((congrFun (V.2.1 0 (by decide)) 0).trans r_0_0) ?_
    refine X_getR (a := 14) rfl rfl rfl ((congrFun V.1 1).trans s_1) rfl ((congrFun (V.2.1 1 (by decide)) 2).trans r_1_2) ?_
    refine S_getI rfl rfl rfl ((congrFun V.1 14).trans s_14) rfl (fun vz3 evz3 => ?_)
    have vf4 := K_12_0 (V.2.2.2.2.1 (14) (0) (Nat.le_of_ble_eq_true rfl)) rk_14
    rw [evz3] at vf4
    refine LW_goto (tgt := 34) rfl rfl ?_
    have hr := (rfl : vz3.toInt = vz3.toInt)
    exact LW_ireturn (st := []) rfl rfl rfl ⟨_, rfl, by omega, by omega, V, hG⟩
set_option maxRecDepth 10000 in
set_option maxHeartbeats 40000000 in
theorem C_X12_of {P : Par} {g : LH} {d : Nat}  (V : Inv P g) (x1 : Int32) (y1 : Int) (hx1 : x1.toInt = y1) (x2 : Int32) (y2 : Int) (hx2 : x2.toInt = y2)   : LW 143 (d + 17) 0 0 0 (lEnt (mL 143) [.ref 0, .int x1, .int x2]) [] g (fun v g' => ∃ r : Int32, v = some (.int r) ∧ Inv P g' ∧ Gr g' = Gr g) := by
  refine LW_ls (ls' := [some (.ref 0), some (.int x1), some (.int x2)]) rfl ?_
  have hG : Gr g = Gr g := rfl
  refine X_iload_n rfl rfl rfl rfl ?_
  refine X_callS (as := [.int x1]) (st := []) rfl rfl rfl (by decide) rfl (Nat.le_of_ble_eq_true rfl) (by decide) (Nat.le_of_ble_eq_true rfl) rfl ?_
  refine LW_ls (ls' := [some (.int x1)]) rfl ?_
  refine X_iload_n rfl rfl rfl rfl ?_
  refine S_if_lt (tgt := 14) rfl rfl rfl hx1 (fun vh1 => ?_) (fun vh1 => ?_)
  · refine X_iconst (v := (0 : Int32)) rfl rfl rfl ?_
    refine LW_ireturn (st := []) rfl rfl rfl ?_
    refine S_if_ne (tgt := 10) rfl rfl rfl (show (0 : Int32).toInt = 0 from rfl) (fun q => absurd q (by omega)) (fun vh2 => ?_)
    refine X_bipush (v := (-2 : Int32)) rfl rfl rfl ?_
    exact LW_ireturn (st := []) rfl rfl rfl ⟨_, rfl, V, hG⟩
  · refine X_iload_n rfl rfl rfl rfl ?_
    refine X_bipush (v := (26 : Int32)) rfl rfl rfl ?_
    refine S_icmp_ge (tgt := 14) rfl rfl rfl hx1 (show (26 : Int32).toInt = 26 from rfl) (fun vh3 => ?_) (fun vh3 => ?_)
    · refine X_iconst (v := (0 : Int32)) rfl rfl rfl ?_
      refine LW_ireturn (st := []) rfl rfl rfl ?_
      refine S_if_ne (tgt := 10) rfl rfl rfl (show (0 : Int32).toInt = 0 from rfl) (fun q => absurd q (by omega)) (fun vh4 => ?_)
      refine X_bipush (v := (-2 : Int32)) rfl rfl rfl ?_
      exact LW_ireturn (st := []) rfl rfl rfl ⟨_, rfl, V, hG⟩
    · refine X_iconst (v := (1 : Int32)) rfl rfl rfl ?_
      refine LW_goto (tgt := 15) rfl rfl ?_
      refine LW_ireturn (st := []) rfl rfl rfl ?_
      refine S_if_ne (tgt := 10) rfl rfl rfl (show (1 : Int32).toInt = 1 from rfl) (fun vh5 => ?_) (fun q => absurd q (by omega))
      refine X_iload_n rfl rfl rfl rfl ?_
      by_cases vh6 : y2 = 0
      · refine S_tableIn (tgt := 52) (c := 0) rfl (hx2.trans vh6) (by decide) (by decide) rfl rfl ?_
        refine X_aload_n rfl rfl rfl rfl ?_
        refine X_getR (a := 1) rfl rfl rfl ((congrFun V.1 0).trans s_0) rfl ((congrFun (V.2.1 0 (by decide)) 0).trans r_0_0) ?_
        refine X_getR (a := 10) rfl rfl rfl ((congrFun V.1 1).trans s_1) rfl ((congrFun (V.2.1 1 (by decide)) 1).trans r_1_1) ?_
        refine X_getR (a := 11) rfl rfl rfl ((congrFun V.1 10).trans s_10) rfl ((congrFun (V.2.1 10 (by decide)) 4).trans r_10_4) ?_
        refine X_iload_n rfl rfl rfl rfl ?_
        refine S_iald rfl rfl ((congrFun V.1 11).trans s_11) hx1 (by omega) (fun vz7 evz7 => ?_)
        exact LW_ireturn (st := []) rfl rfl rfl ⟨_, rfl, V, hG⟩
      by_cases vh8 : y2 = 1
      · refine S_tableIn (tgt := 65) (c := 1) rfl (hx2.trans vh8) (by decide) (by decide) rfl rfl ?_
        refine X_aload_n rfl rfl rfl rfl ?_
        refine X_getR (a := 1) rfl rfl rfl ((congrFun V.1 0).trans s_0) rfl ((congrFun (V.2.1 0 (by decide)) 0).trans r_0_0) ?_
        refine X_getR (a := 10) rfl rfl rfl ((congrFun V.1 1).trans s_1) rfl ((congrFun (V.2.1 1 (by decide)) 1).trans r_1_1) ?_
        refine X_getR (a := 12) rfl rfl rfl ((congrFun V.1 10).trans s_10) rfl ((congrFun (V.2.1 10 (by decide)) 5).trans r_10_5) ?_
        refine X_iload_n rfl rfl rfl rfl ?_
        refine S_iald rfl rfl ((congrFun V.1 12).trans s_12) hx1 (by omega) (fun vz9 evz9 => ?_)
        exact LW_ireturn (st := []) rfl rfl rfl ⟨_, rfl, V, hG⟩
      by_cases vh10 : y2 = 2
      · refine S_tableIn (tgt := 78) (c := 2) rfl (hx2.trans vh10) (by decide) (by decide) rfl rfl ?_
        refine X_aload_n rfl rfl rfl rfl ?_
        refine X_getR (a := 1) rfl rfl rfl ((congrFun V.1 0).trans s_0) rfl ((congrFun (V.2.1 0 (by decide)) 0).trans r_0_0) ?_
        refine X_getR (a := 10) rfl rfl rfl ((congrFun V.1 1).trans s_1) rfl ((congrFun (V.2.1 1 (by decide)) 1).trans r_1_1) ?_
        refine X_iload_n rfl rfl rfl rfl ?_
        refine X_callV (as := [.int x1]) (st := []) rfl rfl rfl (by decide) rfl (Nat.le_of_ble_eq_true rfl) (by decide) (Nat.le_of_ble_eq_true rfl) rfl ((congrFun V.1 10).trans s_10) (by decide) ?_
        refine LW_ls (ls' := [some (.ref 10), some (.int x1)]) rfl ?_
        refine X_aload_n rfl rfl rfl rfl ?_
        refine S_getI rfl rfl rfl ((congrFun V.1 10).trans s_10) rfl (fun vz11 evz11 => ?_)
        refine X_iload_n rfl rfl rfl rfl ?_
        refine S_ishrT rfl rfl (fun vz12 => ?_)
        refine X_iconst (v := (1 : Int32)) rfl rfl rfl ?_
        refine S_iandR (k := 1) rfl rfl rfl (fun vz13 hvz13 => ?_)
        refine S_if_eq (tgt := 15) rfl rfl rfl rfl (fun vh14 => ?_) (fun vh14 => ?_)
        · refine X_iconst (v := (0 : Int32)) rfl rfl rfl ?_
          refine LW_ireturn (st := []) rfl rfl rfl ?_
          refine S_if_eq (tgt := 96) rfl rfl rfl (show (0 : Int32).toInt = 0 from rfl) (fun vh15 => ?_) (fun q => absurd q (by omega))
          refine X_iconst (v := (0 : Int32)) rfl rfl rfl ?_
          exact LW_ireturn (st := []) rfl rfl rfl ⟨_, rfl, V, hG⟩
        · refine X_iconst (v := (1 : Int32)) rfl rfl rfl ?_
          refine LW_goto (tgt := 16) rfl rfl ?_
          refine LW_ireturn (st := []) rfl rfl rfl ?_
          refine S_if_eq (tgt := 96) rfl rfl rfl (show (1 : Int32).toInt = 1 from rfl) (fun q => absurd q (by omega)) (fun vh16 => ?_)
          refine X_iconst (v := (1 : Int32)) rfl rfl rfl ?_
          refine LW_goto (tgt := 97) rfl rfl ?_
          exact LW_ireturn (st := []) rfl rfl rfl ⟨_, rfl, V, hG⟩
      by_cases vh17 : y2 = 3
      · refine S_tableIn (tgt := 98) (c := 3) rfl (hx2.trans vh17) (by decide) (by decide) rfl rfl ?_
        refine X_aload_n rfl rfl rfl rfl ?_
        refine X_getR (a := 1) rfl rfl rfl ((congrFun V.1 0).trans s_0) rfl ((congrFun (V.2.1 0 (by decide)) 0).trans r_0_0) ?_
        refine X_getR (a := 10) rfl rfl rfl ((congrFun V.1 1).trans s_1) rfl ((congrFun (V.2.1 1 (by decide)) 1).trans r_1_1) ?_
        refine X_getR (a := 13) rfl rfl rfl ((congrFun V.1 10).trans s_10) rfl ((congrFun (V.2.1 10 (by decide)) 6).trans r_10_6) ?_
        refine X_iload_n rfl rfl rfl rfl ?_
        refine S_iald rfl rfl ((congrFun V.1 13).trans s_13) hx1 (by omega) (fun vz18 evz18 => ?_)
        exact LW_ireturn (st := []) rfl rfl rfl ⟨_, rfl, V, hG⟩
      by_cases vh19 : y2 = 4
      · refine S_tableIn (tgt := 111) (c := 4) rfl (hx2.trans vh19) (by decide) (by decide) rfl rfl ?_
        refine X_aload_n rfl rfl rfl rfl ?_
        refine X_getR (a := 1) rfl rfl rfl ((congrFun V.1 0).trans s_0) rfl ((congrFun (V.2.1 0 (by decide)) 0).trans r_0_0) ?_
        refine X_getR (a := 141) rfl rfl rfl ((congrFun V.1 1).trans s_1) rfl ((congrFun (V.2.1 1 (by decide)) 4).trans r_1_4) ?_
        refine X_iload_n rfl rfl rfl rfl ?_
        refine S_iald rfl rfl ((congrFun V.1 141).trans s_141) hx1 (by omega) (fun vz20 evz20 => ?_)
        exact LW_ireturn (st := []) rfl rfl rfl ⟨_, rfl, V, hG⟩
      by_cases vh21 : y2 = 5
      · refine S_tableIn (tgt := 121) (c := 5) rfl (hx2.trans vh21) (by decide) (by decide) rfl rfl ?_
        refine X_aload_n rfl rfl rfl rfl ?_
        refine X_getR (a := 1) rfl rfl rfl ((congrFun V.1 0).trans s_0) rfl ((congrFun (V.2.1 0 (by decide)) 0).trans r_0_0) ?_
        refine X_getR (a := 2) rfl rfl rfl ((congrFun V.1 1).trans s_1) rfl ((congrFun (V.2.1 1 (by decide)) 0).trans r_1_0) ?_
        refine X_iload_n rfl rfl rfl rfl ?_
        refine Y_callV (as := [.int x1]) (st := []) rfl rfl rfl (by decide) rfl (Nat.le_of_ble_eq_true rfl) (by decide) (Nat.le_of_ble_eq_true rfl) rfl ((congrFun V.1 2).trans s_2) (by decide) (C_X5_uses V x1 y1 hx1 (by omega) ) ?_
        rintro _ g' ⟨vr22, rfl, hgg⟩
        subst hgg
        exact LW_ireturn (st := []) rfl rfl rfl ⟨_, rfl, V, hG⟩
      by_cases vh23 : y2 = 6
      · refine S_tableIn (tgt := 133) (c := 6) rfl (hx2.trans vh23) (by decide) (by decide) rfl rfl ?_
        refine X_aload_n rfl rfl rfl rfl ?_
        refine X_getR (a := 339) rfl rfl rfl ((congrFun V.1 0).trans s_0) rfl ((congrFun (V.2.1 0 (by decide)) 5).trans r_0_5) ?_
        refine X_iload_n rfl rfl rfl rfl ?_
        refine Y_callV (as := [.int x1]) (st := []) rfl rfl rfl (by decide) rfl (Nat.le_of_ble_eq_true rfl) (by decide) (Nat.le_of_ble_eq_true rfl) rfl ((congrFun V.1 339).trans s_339) (by decide) (C_X4_moves V x1 y1 hx1 (by omega) ) ?_
        rintro _ g ⟨vr24, rfl, hrvr240, hrvr241, V, hq⟩
        have hG := hq.trans hG
        refine S_if_eq (tgt := 148) rfl rfl rfl rfl (fun vh25 => ?_) (fun vh25 => ?_)
        · refine X_iconst (v := (0 : Int32)) rfl rfl rfl ?_
          exact LW_ireturn (st := []) rfl rfl rfl ⟨_, rfl, V, hG⟩
        · refine X_iconst (v := (1 : Int32)) rfl rfl rfl ?_
          refine LW_goto (tgt := 149) rfl rfl ?_
          exact LW_ireturn (st := []) rfl rfl rfl ⟨_, rfl, V, hG⟩
      refine S_tableOut (tgt := 150) rfl hx2 (by omega) rfl ?_
      refine X_bipush (v := (-2 : Int32)) rfl rfl rfl ?_
      exact LW_ireturn (st := []) rfl rfl rfl ⟨_, rfl, V, hG⟩
set_option maxRecDepth 10000 in
set_option maxHeartbeats 40000000 in
theorem C_X12_ofWord {P : Par} {g : LH} {d : Nat}  (V : Inv P g) (x1 : Int32) (y1 : Int) (hx1 : x1.toInt = y1) (x2 : Int32) (y2 : Int) (hx2 : x2.toInt = y2)   : LW 144 (d + 9) 0 0 0 (lEnt (mL 144) [.ref 0, .int x1, .int x2]) [] g (fun v g' => ∃ r : Int32, v = some (.int r) ∧ g = g') := by
  refine LW_ls (ls' := [some (.ref 0), some (.int x1), some (.int x2)]) rfl ?_
  refine X_aload_n rfl rfl rfl rfl ?_
  refine X_getR (a := 1) rfl rfl rfl ((congrFun V.1 0).trans s_0) rfl ((congrFun (V.2.1 0 (by decide)) 0).trans r_0_0) ?_
  refine X_getR (a := 2) rfl rfl rfl ((congrFun V.1 1).trans s_1) rfl ((congrFun (V.2.1 1 (by decide)) 0).trans r_1_0) ?_
  refine X_iload_n rfl rfl rfl rfl ?_
  refine X_callV (as := [.int x1]) (st := []) rfl rfl rfl (by decide) rfl (Nat.le_of_ble_eq_true rfl) (by decide) (Nat.le_of_ble_eq_true rfl) rfl ((congrFun V.1 2).trans s_2) (by decide) ?_
  refine LW_ls (ls' := [some (.ref 2), some (.int x1)]) rfl ?_
  refine X_iload_n rfl rfl rfl rfl ?_
  refine S_if_lt (tgt := 22) rfl rfl rfl hx1 (fun vh1 => ?_) (fun vh1 => ?_)
  · refine X_iconst (v := (0 : Int32)) rfl rfl rfl ?_
    refine LW_ireturn (st := []) rfl rfl rfl ?_
    refine S_if_ne (tgt := 16) rfl rfl rfl (show (0 : Int32).toInt = 0 from rfl) (fun q => absurd q (by omega)) (fun vh2 => ?_)
    refine X_iconst (v := (-1 : Int32)) rfl rfl rfl ?_
    exact LW_ireturn (st := []) rfl rfl rfl ⟨_, rfl, rfl⟩
  · refine X_iload_n rfl rfl rfl rfl ?_
    refine X_aload_n rfl rfl rfl rfl ?_
    refine S_getI rfl rfl rfl ((congrFun V.1 2).trans s_2) rfl (fun vz3 evz3 => ?_)
    have vf4 := K_10_0 (V.2.2.2.2.1 (2) (0) (Nat.le_of_ble_eq_true rfl)) rk_2
    rw [evz3] at vf4
    refine S_icmp_ge (tgt := 22) rfl rfl rfl hx1 rfl (fun vh5 => ?_) (fun vh5 => ?_)
    · refine X_iconst (v := (0 : Int32)) rfl rfl rfl ?_
      refine LW_ireturn (st := []) rfl rfl rfl ?_
      refine S_if_ne (tgt := 16) rfl rfl rfl (show (0 : Int32).toInt = 0 from rfl) (fun q => absurd q (by omega)) (fun vh6 => ?_)
      refine X_iconst (v := (-1 : Int32)) rfl rfl rfl ?_
      exact LW_ireturn (st := []) rfl rfl rfl ⟨_, rfl, rfl⟩
    · refine X_iload_n rfl rfl rfl rfl ?_
      refine X_bipush (v := (24 : Int32)) rfl rfl rfl ?_
      refine S_icmp_ge (tgt := 22) rfl rfl rfl hx1 (show (24 : Int32).toInt = 24 from rfl) (fun q => absurd q (by omega)) (fun vh7 => ?_)
      refine X_iconst (v := (1 : Int32)) rfl rfl rfl ?_
      refine LW_goto (tgt := 23) rfl rfl ?_
      refine LW_ireturn (st := []) rfl rfl rfl ?_
      refine S_if_ne (tgt := 16) rfl rfl rfl (show (1 : Int32).toInt = 1 from rfl) (fun vh8 => ?_) (fun q => absurd q (by omega))
      refine X_iload_n rfl rfl rfl rfl ?_
      by_cases vh9 : y2 = 0
      · refine S_tableIn (tgt := 48) (c := 0) rfl (hx2.trans vh9) (by decide) (by decide) rfl rfl ?_
        refine X_aload_n rfl rfl rfl rfl ?_
        refine X_getR (a := 1) rfl rfl rfl ((congrFun V.1 0).trans s_0) rfl ((congrFun (V.2.1 0 (by decide)) 0).trans r_0_0) ?_
        refine X_getR (a := 2) rfl rfl rfl ((congrFun V.1 1).trans s_1) rfl ((congrFun (V.2.1 1 (by decide)) 0).trans r_1_0) ?_
        refine X_getR (a := 3) rfl rfl rfl ((congrFun V.1 2).trans s_2) rfl ((congrFun (V.2.1 2 (by decide)) 2).trans r_2_2) ?_
        refine X_iload_n rfl rfl rfl rfl ?_
        refine S_iald rfl rfl ((congrFun V.1 3).trans s_3) hx1 (by omega) (fun vz10 evz10 => ?_)
        have vf11 := K_1 (V.2.2.2.2.1 (3) ((y1 : Int).toNat) (Nat.le_of_ble_eq_true rfl)) rk_3
        rw [evz10] at vf11
        exact LW_ireturn (st := []) rfl rfl rfl ⟨_, rfl, rfl⟩
      by_cases vh12 : y2 = 1
      · refine S_tableIn (tgt := 61) (c := 1) rfl (hx2.trans vh12) (by decide) (by decide) rfl rfl ?_
        refine X_aload_n rfl rfl rfl rfl ?_
        refine X_getR (a := 1) rfl rfl rfl ((congrFun V.1 0).trans s_0) rfl ((congrFun (V.2.1 0 (by decide)) 0).trans r_0_0) ?_
        refine X_getR (a := 2) rfl rfl rfl ((congrFun V.1 1).trans s_1) rfl ((congrFun (V.2.1 1 (by decide)) 0).trans r_1_0) ?_
        refine X_getR (a := 4) rfl rfl rfl ((congrFun V.1 2).trans s_2) rfl ((congrFun (V.2.1 2 (by decide)) 3).trans r_2_3) ?_
        refine X_iload_n rfl rfl rfl rfl ?_
        refine S_iald rfl rfl ((congrFun V.1 4).trans s_4) hx1 (by omega) (fun vz13 evz13 => ?_)
        have vf14 := K_2 (V.2.2.2.2.1 (4) ((y1 : Int).toNat) (Nat.le_of_ble_eq_true rfl)) rk_4
        rw [evz13] at vf14
        exact LW_ireturn (st := []) rfl rfl rfl ⟨_, rfl, rfl⟩
      by_cases vh15 : y2 = 2
      · refine S_tableIn (tgt := 74) (c := 2) rfl (hx2.trans vh15) (by decide) (by decide) rfl rfl ?_
        refine X_aload_n rfl rfl rfl rfl ?_
        refine X_getR (a := 1) rfl rfl rfl ((congrFun V.1 0).trans s_0) rfl ((congrFun (V.2.1 0 (by decide)) 0).trans r_0_0) ?_
        refine X_getR (a := 2) rfl rfl rfl ((congrFun V.1 1).trans s_1) rfl ((congrFun (V.2.1 1 (by decide)) 0).trans r_1_0) ?_
        refine X_getR (a := 5) rfl rfl rfl ((congrFun V.1 2).trans s_2) rfl ((congrFun (V.2.1 2 (by decide)) 4).trans r_2_4) ?_
        refine X_iload_n rfl rfl rfl rfl ?_
        refine S_iald rfl rfl ((congrFun V.1 5).trans s_5) hx1 (by omega) (fun vz16 evz16 => ?_)
        exact LW_ireturn (st := []) rfl rfl rfl ⟨_, rfl, rfl⟩
      by_cases vh17 : y2 = 3
      · refine S_tableIn (tgt := 87) (c := 3) rfl (hx2.trans vh17) (by decide) (by decide) rfl rfl ?_
        refine X_aload_n rfl rfl rfl rfl ?_
        refine X_getR (a := 1) rfl rfl rfl ((congrFun V.1 0).trans s_0) rfl ((congrFun (V.2.1 0 (by decide)) 0).trans r_0_0) ?_
        refine X_getR (a := 2) rfl rfl rfl ((congrFun V.1 1).trans s_1) rfl ((congrFun (V.2.1 1 (by decide)) 0).trans r_1_0) ?_
        refine X_getR (a := 5) rfl rfl rfl ((congrFun V.1 2).trans s_2) rfl ((congrFun (V.2.1 2 (by decide)) 4).trans r_2_4) ?_
        refine X_iload_n rfl rfl rfl rfl ?_
        refine S_iald rfl rfl ((congrFun V.1 5).trans s_5) hx1 (by omega) (fun vz18 evz18 => ?_)
        refine X_aload_n rfl rfl rfl rfl ?_
        refine X_getR (a := 1) rfl rfl rfl ((congrFun V.1 0).trans s_0) rfl ((congrFun (V.2.1 0 (by decide)) 0).trans r_0_0) ?_
        refine X_getR (a := 10) rfl rfl rfl ((congrFun V.1 1).trans s_1) rfl ((congrFun (V.2.1 1 (by decide)) 1).trans r_1_1) ?_
        refine Y_callV (as := []) (st := [.int vz18]) rfl rfl rfl (by decide) rfl (Nat.le_of_ble_eq_true rfl) (by decide) (Nat.le_of_ble_eq_true rfl) rfl ((congrFun V.1 10).trans s_10) (by decide) (C_X9_missing V  ) ?_
        rintro _ g' ⟨vr19, rfl, hgg⟩
        subst hgg
        refine S_iandT rfl rfl (fun vz20 => ?_)
        refine S_if_ne (tgt := 117) rfl rfl rfl rfl (fun vh21 => ?_) (fun vh21 => ?_)
        · refine X_iconst (v := (0 : Int32)) rfl rfl rfl ?_
          exact LW_ireturn (st := []) rfl rfl rfl ⟨_, rfl, rfl⟩
        · refine X_iconst (v := (1 : Int32)) rfl rfl rfl ?_
          refine LW_goto (tgt := 118) rfl rfl ?_
          exact LW_ireturn (st := []) rfl rfl rfl ⟨_, rfl, rfl⟩
      refine S_tableOut (tgt := 119) rfl hx2 (by omega) rfl ?_
      refine X_iload_n rfl rfl rfl rfl ?_
      refine X_bipush (v := (10 : Int32)) rfl rfl rfl ?_
      refine S_icmp_ge (tgt := 129) rfl rfl rfl hx2 (show (10 : Int32).toInt = 10 from rfl) (fun vh22 => ?_) (fun vh22 => ?_)
      · refine X_aload_n rfl rfl rfl rfl ?_
        refine X_getR (a := 1) rfl rfl rfl ((congrFun V.1 0).trans s_0) rfl ((congrFun (V.2.1 0 (by decide)) 0).trans r_0_0) ?_
        refine X_getR (a := 2) rfl rfl rfl ((congrFun V.1 1).trans s_1) rfl ((congrFun (V.2.1 1 (by decide)) 0).trans r_1_0) ?_
        refine X_iload_n rfl rfl rfl rfl ?_
        refine X_iload_n rfl rfl rfl rfl ?_
        refine X_bipush (v := (10 : Int32)) rfl rfl rfl ?_
        refine S_isubT rfl rfl (fun vz23 => ?_)
        refine X_callV (as := [.int x1, .int vz23]) (st := []) rfl rfl rfl (by decide) rfl (Nat.le_of_ble_eq_true rfl) (by decide) (Nat.le_of_ble_eq_true rfl) rfl ((congrFun V.1 2).trans s_2) (by decide) ?_
        refine LW_ls (ls' := [some (.ref 2), some (.int x1), some (.int vz23)]) rfl ?_
        refine X_aload_n rfl rfl rfl rfl ?_
        refine X_iload_n rfl rfl rfl rfl ?_
        refine X_callV (as := [.int x1]) (st := []) rfl rfl rfl (by decide) rfl (Nat.le_of_ble_eq_true rfl) (by decide) (Nat.le_of_ble_eq_true rfl) rfl ((congrFun V.1 2).trans s_2) (by decide) ?_
        refine LW_ls (ls' := [some (.ref 2), some (.int x1)]) rfl ?_
        refine X_iload_n rfl rfl rfl rfl ?_
        refine S_if_lt (tgt := 22) rfl rfl rfl hx1 (fun q => absurd q (by omega)) (fun vh24 => ?_)
        refine X_iload_n rfl rfl rfl rfl ?_
        refine X_aload_n rfl rfl rfl rfl ?_
        refine X_getI (v := vz3) rfl rfl rfl ((congrFun V.1 2).trans s_2) rfl evz3 ?_
        refine S_icmp_ge (tgt := 22) rfl rfl rfl hx1 rfl (fun vh25 => ?_) (fun vh25 => ?_)
        · refine X_iconst (v := (0 : Int32)) rfl rfl rfl ?_
          refine LW_ireturn (st := []) rfl rfl rfl ?_
          refine S_if_eq (tgt := 36) rfl rfl rfl (show (0 : Int32).toInt = 0 from rfl) (fun vh26 => ?_) (fun q => absurd q (by omega))
          refine X_iconst (v := (-1 : Int32)) rfl rfl rfl ?_
          refine LW_ireturn (st := []) rfl rfl rfl ?_
          exact LW_ireturn (st := []) rfl rfl rfl ⟨_, rfl, rfl⟩
        · refine X_iload_n rfl rfl rfl rfl ?_
          refine X_bipush (v := (24 : Int32)) rfl rfl rfl ?_
          refine S_icmp_ge (tgt := 22) rfl rfl rfl hx1 (show (24 : Int32).toInt = 24 from rfl) (fun q => absurd q (by omega)) (fun vh27 => ?_)
          refine X_iconst (v := (1 : Int32)) rfl rfl rfl ?_
          refine LW_goto (tgt := 23) rfl rfl ?_
          refine LW_ireturn (st := []) rfl rfl rfl ?_
          refine S_if_eq (tgt := 36) rfl rfl rfl (show (1 : Int32).toInt = 1 from rfl) (fun q => absurd q (by omega)) (fun vh28 => ?_)
          refine X_iload_n rfl rfl rfl rfl ?_
          refine S_if_lt (tgt := 36) rfl rfl rfl rfl (fun vh29 => ?_) (fun vh29 => ?_)
          · refine X_iconst (v := (-1 : Int32)) rfl rfl rfl ?_
            refine LW_ireturn (st := []) rfl rfl rfl ?_
            exact LW_ireturn (st := []) rfl rfl rfl ⟨_, rfl, rfl⟩
          · refine X_iload_n rfl rfl rfl rfl ?_
            refine X_aload_n rfl rfl rfl rfl ?_
            refine X_getR (a := 3) rfl rfl rfl ((congrFun V.1 2).trans s_2) rfl ((congrFun (V.2.1 2 (by decide)) 2).trans r_2_2) ?_
            refine X_iload_n rfl rfl rfl rfl ?_
            refine S_iald rfl rfl ((congrFun V.1 3).trans s_3) hx1 (by omega) (fun vz30 evz30 => ?_)
            have vf31 := K_1 (V.2.2.2.2.1 (3) ((y1 : Int).toNat) (Nat.le_of_ble_eq_true rfl)) rk_3
            rw [evz30] at vf31
            refine S_icmp_ge (tgt := 36) rfl rfl rfl rfl rfl (fun vh32 => ?_) (fun vh32 => ?_)
            · refine X_iconst (v := (-1 : Int32)) rfl rfl rfl ?_
              refine LW_ireturn (st := []) rfl rfl rfl ?_
              exact LW_ireturn (st := []) rfl rfl rfl ⟨_, rfl, rfl⟩
            · refine X_aload_n rfl rfl rfl rfl ?_
              refine X_getR (a := 6) rfl rfl rfl ((congrFun V.1 2).trans s_2) rfl ((congrFun (V.2.1 2 (by decide)) 5).trans r_2_5) ?_
              refine X_iload_n rfl rfl rfl rfl ?_
              refine X_bipush (v := (8 : Int32)) rfl rfl rfl ?_
              refine S_imul rfl rfl hx1 (show (8 : Int32).toInt = 8 from rfl) (by omega) (fun vz33 hvz33 => ?_)
              refine X_iload_n rfl rfl rfl rfl ?_
              refine S_iadd rfl rfl rfl rfl (by omega) (fun vz34 hvz34 => ?_)
              refine S_iald rfl rfl ((congrFun V.1 6).trans s_6) rfl (by omega) (fun vz35 evz35 => ?_)
              have vf36 := K_3 (V.2.2.2.2.1 (6) ((vz34.toInt : Int).toNat) (Nat.le_of_ble_eq_true rfl)) rk_6
              rw [evz35] at vf36
              refine LW_goto (tgt := 37) rfl rfl ?_
              refine LW_ireturn (st := []) rfl rfl rfl ?_
              exact LW_ireturn (st := []) rfl rfl rfl ⟨_, rfl, rfl⟩
      · refine X_iconst (v := (-1 : Int32)) rfl rfl rfl ?_
        refine LW_goto (tgt := 144) rfl rfl ?_
        exact LW_ireturn (st := []) rfl rfl rfl ⟨_, rfl, rfl⟩
set_option maxRecDepth 10000 in
set_option maxHeartbeats 40000000 in
theorem C_X12_ofSaying {P : Par} {g : LH} {d : Nat}  (V : Inv P g) (x1 : Int32) (y1 : Int) (hx1 : x1.toInt = y1) (x2 : Int32) (y2 : Int) (hx2 : x2.toInt = y2)   : LW 145 (d + 5) 0 0 0 (lEnt (mL 145) [.ref 0, .int x1, .int x2]) [] g (fun v g' => ∃ r : Int32, v = some (.int r) ∧ (-1) ≤ r.toInt ∧ r.toInt ≤ 25 ∧ g = g') := by
  refine LW_ls (ls' := [some (.ref 0), some (.int x1), some (.int x2)]) rfl ?_
  refine X_aload_n rfl rfl rfl rfl ?_
  refine X_getR (a := 1) rfl rfl rfl ((congrFun V.1 0).trans s_0) rfl ((congrFun (V.2.1 0 (by decide)) 0).trans r_0_0) ?_
  refine X_getR (a := 2) rfl rfl rfl ((congrFun V.1 1).trans s_1) rfl ((congrFun (V.2.1 1 (by decide)) 0).trans r_1_0) ?_
  refine X_iload_n rfl rfl rfl rfl ?_
  refine X_callV (as := [.int x1]) (st := []) rfl rfl rfl (by decide) rfl (Nat.le_of_ble_eq_true rfl) (by decide) (Nat.le_of_ble_eq_true rfl) rfl ((congrFun V.1 2).trans s_2) (by decide) ?_
  refine LW_ls (ls' := [some (.ref 2), some (.int x1)]) rfl ?_
  refine X_iload_n rfl rfl rfl rfl ?_
  refine S_if_lt (tgt := 22) rfl rfl rfl hx1 (fun vh1 => ?_) (fun vh1 => ?_)
  · refine X_iconst (v := (0 : Int32)) rfl rfl rfl ?_
    refine LW_ireturn (st := []) rfl rfl rfl ?_
    refine S_if_ne (tgt := 16) rfl rfl rfl (show (0 : Int32).toInt = 0 from rfl) (fun q => absurd q (by omega)) (fun vh2 => ?_)
    refine X_iconst (v := (-1 : Int32)) rfl rfl rfl ?_
    exact LW_ireturn (st := []) rfl rfl rfl ⟨_, rfl, by decide, by decide, rfl⟩
  · refine X_iload_n rfl rfl rfl rfl ?_
    refine X_aload_n rfl rfl rfl rfl ?_
    refine S_getI rfl rfl rfl ((congrFun V.1 2).trans s_2) rfl (fun vz3 evz3 => ?_)
    have vf4 := K_10_1 (V.2.2.2.2.1 (2) (1) (Nat.le_of_ble_eq_true rfl)) rk_2
    rw [evz3] at vf4
    refine S_icmp_ge (tgt := 22) rfl rfl rfl hx1 rfl (fun vh5 => ?_) (fun vh5 => ?_)
    · refine X_iconst (v := (0 : Int32)) rfl rfl rfl ?_
      refine LW_ireturn (st := []) rfl rfl rfl ?_
      refine S_if_ne (tgt := 16) rfl rfl rfl (show (0 : Int32).toInt = 0 from rfl) (fun q => absurd q (by omega)) (fun vh6 => ?_)
      refine X_iconst (v := (-1 : Int32)) rfl rfl rfl ?_
      exact LW_ireturn (st := []) rfl rfl rfl ⟨_, rfl, by decide, by decide, rfl⟩
    · refine X_iload_n rfl rfl rfl rfl ?_
      refine X_bipush (v := (8 : Int32)) rfl rfl rfl ?_
      refine S_icmp_ge (tgt := 22) rfl rfl rfl hx1 (show (8 : Int32).toInt = 8 from rfl) (fun q => absurd q (by omega)) (fun vh7 => ?_)
      refine X_iconst (v := (1 : Int32)) rfl rfl rfl ?_
      refine LW_goto (tgt := 23) rfl rfl ?_
      refine LW_ireturn (st := []) rfl rfl rfl ?_
      refine S_if_ne (tgt := 16) rfl rfl rfl (show (1 : Int32).toInt = 1 from rfl) (fun vh8 => ?_) (fun q => absurd q (by omega))
      refine X_iload_n rfl rfl rfl rfl ?_
      refine S_if_ne (tgt := 33) rfl rfl rfl hx2 (fun vh9 => ?_) (fun vh9 => ?_)
      · refine X_iload_n rfl rfl rfl rfl ?_
        refine X_bipush (v := (10 : Int32)) rfl rfl rfl ?_
        refine S_icmp_ge (tgt := 43) rfl rfl rfl hx2 (show (10 : Int32).toInt = 10 from rfl) (fun vh10 => ?_) (fun vh10 => ?_)
        · refine X_aload_n rfl rfl rfl rfl ?_
          refine X_getR (a := 1) rfl rfl rfl ((congrFun V.1 0).trans s_0) rfl ((congrFun (V.2.1 0 (by decide)) 0).trans r_0_0) ?_
          refine X_getR (a := 2) rfl rfl rfl ((congrFun V.1 1).trans s_1) rfl ((congrFun (V.2.1 1 (by decide)) 0).trans r_1_0) ?_
          refine X_iload_n rfl rfl rfl rfl ?_
          refine X_iload_n rfl rfl rfl rfl ?_
          refine X_bipush (v := (10 : Int32)) rfl rfl rfl ?_
          refine S_isubT rfl rfl (fun vz11 => ?_)
          refine X_callV (as := [.int x1, .int vz11]) (st := []) rfl rfl rfl (by decide) rfl (Nat.le_of_ble_eq_true rfl) (by decide) (Nat.le_of_ble_eq_true rfl) rfl ((congrFun V.1 2).trans s_2) (by decide) ?_
          refine LW_ls (ls' := [some (.ref 2), some (.int x1), some (.int vz11)]) rfl ?_
          refine X_aload_n rfl rfl rfl rfl ?_
          refine X_iload_n rfl rfl rfl rfl ?_
          refine X_callV (as := [.int x1]) (st := []) rfl rfl rfl (by decide) rfl (Nat.le_of_ble_eq_true rfl) (by decide) (Nat.le_of_ble_eq_true rfl) rfl ((congrFun V.1 2).trans s_2) (by decide) ?_
          refine LW_ls (ls' := [some (.ref 2), some (.int x1)]) rfl ?_
          refine X_iload_n rfl rfl rfl rfl ?_
          refine S_if_lt (tgt := 22) rfl rfl rfl hx1 (fun q => absurd q (by omega)) (fun vh12 => ?_)
          refine X_iload_n rfl rfl rfl rfl ?_
          refine X_aload_n rfl rfl rfl rfl ?_
          refine X_getI (v := vz3) rfl rfl rfl ((congrFun V.1 2).trans s_2) rfl evz3 ?_
          refine S_icmp_ge (tgt := 22) rfl rfl rfl hx1 rfl (fun vh13 => ?_) (fun vh13 => ?_)
          · refine X_iconst (v := (0 : Int32)) rfl rfl rfl ?_
            refine LW_ireturn (st := []) rfl rfl rfl ?_
            refine S_if_eq (tgt := 36) rfl rfl rfl (show (0 : Int32).toInt = 0 from rfl) (fun vh14 => ?_) (fun q => absurd q (by omega))
            refine X_iconst (v := (-1 : Int32)) rfl rfl rfl ?_
            refine LW_ireturn (st := []) rfl rfl rfl ?_
            exact LW_ireturn (st := []) rfl rfl rfl ⟨_, rfl, by decide, by decide, rfl⟩
          · refine X_iload_n rfl rfl rfl rfl ?_
            refine X_bipush (v := (8 : Int32)) rfl rfl rfl ?_
            refine S_icmp_ge (tgt := 22) rfl rfl rfl hx1 (show (8 : Int32).toInt = 8 from rfl) (fun q => absurd q (by omega)) (fun vh15 => ?_)
            refine X_iconst (v := (1 : Int32)) rfl rfl rfl ?_
            refine LW_goto (tgt := 23) rfl rfl ?_
            refine LW_ireturn (st := []) rfl rfl rfl ?_
            refine S_if_eq (tgt := 36) rfl rfl rfl (show (1 : Int32).toInt = 1 from rfl) (fun q => absurd q (by omega)) (fun vh16 => ?_)
            refine X_iload_n rfl rfl rfl rfl ?_
            refine S_if_lt (tgt := 36) rfl rfl rfl rfl (fun vh17 => ?_) (fun vh17 => ?_)
            · refine X_iconst (v := (-1 : Int32)) rfl rfl rfl ?_
              refine LW_ireturn (st := []) rfl rfl rfl ?_
              exact LW_ireturn (st := []) rfl rfl rfl ⟨_, rfl, by decide, by decide, rfl⟩
            · refine X_iload_n rfl rfl rfl rfl ?_
              refine X_aload_n rfl rfl rfl rfl ?_
              refine X_getR (a := 7) rfl rfl rfl ((congrFun V.1 2).trans s_2) rfl ((congrFun (V.2.1 2 (by decide)) 6).trans r_2_6) ?_
              refine X_iload_n rfl rfl rfl rfl ?_
              refine S_iald rfl rfl ((congrFun V.1 7).trans s_7) hx1 (by omega) (fun vz18 evz18 => ?_)
              have vf19 := K_1 (V.2.2.2.2.1 (7) ((y1 : Int).toNat) (Nat.le_of_ble_eq_true rfl)) rk_7
              rw [evz18] at vf19
              refine S_icmp_ge (tgt := 36) rfl rfl rfl rfl rfl (fun vh20 => ?_) (fun vh20 => ?_)
              · refine X_iconst (v := (-1 : Int32)) rfl rfl rfl ?_
                refine LW_ireturn (st := []) rfl rfl rfl ?_
                exact LW_ireturn (st := []) rfl rfl rfl ⟨_, rfl, by decide, by decide, rfl⟩
              · refine X_aload_n rfl rfl rfl rfl ?_
                refine X_getR (a := 9) rfl rfl rfl ((congrFun V.1 2).trans s_2) rfl ((congrFun (V.2.1 2 (by decide)) 8).trans r_2_8) ?_
                refine X_iload_n rfl rfl rfl rfl ?_
                refine X_bipush (v := (8 : Int32)) rfl rfl rfl ?_
                refine S_imul rfl rfl hx1 (show (8 : Int32).toInt = 8 from rfl) (by omega) (fun vz21 hvz21 => ?_)
                refine X_iload_n rfl rfl rfl rfl ?_
                refine S_iadd rfl rfl rfl rfl (by omega) (fun vz22 hvz22 => ?_)
                refine S_iald rfl rfl ((congrFun V.1 9).trans s_9) rfl (by omega) (fun vz23 evz23 => ?_)
                have vf24 := K_3 (V.2.2.2.2.1 (9) ((vz22.toInt : Int).toNat) (Nat.le_of_ble_eq_true rfl)) rk_9
                rw [evz23] at vf24
                refine LW_goto (tgt := 37) rfl rfl ?_
                refine LW_ireturn (st := []) rfl rfl rfl ?_
                have hr := (rfl : vz23.toInt = vz23.toInt)
                exact LW_ireturn (st := []) rfl rfl rfl ⟨_, rfl, by omega, by omega, rfl⟩
        · refine X_iconst (v := (-1 : Int32)) rfl rfl rfl ?_
          refine LW_goto (tgt := 58) rfl rfl ?_
          exact LW_ireturn (st := []) rfl rfl rfl ⟨_, rfl, by decide, by decide, rfl⟩
      · refine X_aload_n rfl rfl rfl rfl ?_
        refine X_getR (a := 1) rfl rfl rfl ((congrFun V.1 0).trans s_0) rfl ((congrFun (V.2.1 0 (by decide)) 0).trans r_0_0) ?_
        refine X_getR (a := 2) rfl rfl rfl ((congrFun V.1 1).trans s_1) rfl ((congrFun (V.2.1 1 (by decide)) 0).trans r_1_0) ?_
        refine X_getR (a := 7) rfl rfl rfl ((congrFun V.1 2).trans s_2) rfl ((congrFun (V.2.1 2 (by decide)) 6).trans r_2_6) ?_
        refine X_iload_n rfl rfl rfl rfl ?_
        refine S_iald rfl rfl ((congrFun V.1 7).trans s_7) hx1 (by omega) (fun vz25 evz25 => ?_)
        have vf26 := K_1 (V.2.2.2.2.1 (7) ((y1 : Int).toNat) (Nat.le_of_ble_eq_true rfl)) rk_7
        rw [evz25] at vf26
        have hr := (rfl : vz25.toInt = vz25.toInt)
        exact LW_ireturn (st := []) rfl rfl rfl ⟨_, rfl, by omega, by omega, rfl⟩
set_option maxRecDepth 10000 in
set_option maxHeartbeats 40000000 in
theorem C_X7_alike_28 {P : Par} {g : LH} {d n : Nat}  (V : Inv P g) (x1 : Int32) (y1 : Int) (hx1 : x1.toInt = y1) (hf1 : 0 ≤ y1 ∧ y1 ≤ 23) (x2 : Int32) (y2 : Int) (hx2 : x2.toInt = y2) (hf2 : 0 ≤ y2 ∧ y2 ≤ 23) (x4 : Int32) (y4 : Int) (hx4 : x4.toInt = y4) (hf4 : 0 ≤ y4 ∧ y4 ≤ 8) (hq0 : y1 < (Gi g 2 0).toInt) (hq1 : y2 < (Gi g 2 0).toInt) (hq2 : (Gi g 3 (Int.toNat (y1))).toInt = (Gi g 3 (Int.toNat (y2))).toInt) (hmu : (8 - y4) * 1 + 0 < (n : Int) + 1) (ih28 : ∀ (V : Inv P g) (x1 : Int32) (y1 : Int) (hx1 : x1.toInt = y1) (hf1 : 0 ≤ y1 ∧ y1 ≤ 23) (x2 : Int32) (y2 : Int) (hx2 : x2.toInt = y2) (hf2 : 0 ≤ y2 ∧ y2 ≤ 23) (x4 : Int32) (y4 : Int) (hx4 : x4.toInt = y4) (hf4 : 0 ≤ y4 ∧ y4 ≤ 8) (hq0 : y1 < (Gi g 2 0).toInt) (hq1 : y2 < (Gi g 2 0).toInt) (hq2 : (Gi g 3 (Int.toNat (y1))).toInt = (Gi g 3 (Int.toNat (y2))).toInt), (8 - y4) * 1 + 0 < (n : Int) → LW 70 (d + 5) 0 0 28 [some (.ref 349), some (.int x1), some (.int x2), some (.ref 2), some (.int x4)] [] g (fun v g' => ∃ r : Int32, v = some (.int r) ∧ 0 ≤ r.toInt ∧ r.toInt ≤ 1 ∧ g = g')) : LW 70 (d + 5) 0 0 28 [some (.ref 349), some (.int x1), some (.int x2), some (.ref 2), some (.int x4)] [] g (fun v g' => ∃ r : Int32, v = some (.int r) ∧ 0 ≤ r.toInt ∧ r.toInt ≤ 1 ∧ g = g') := by
  obtain ⟨vz1, evz1⟩ : ∃ z, Gi g 2 0 = z := ⟨_, rfl⟩
  have vf2 := K_10_0 (V.2.2.2.2.1 (2) (0) (Nat.le_of_ble_eq_true rfl)) rk_2
  rw [evz1] at vf2
  rw [evz1] at hq0
  rw [evz1] at hq1
  have hq2c := hq2
  refine X_iload rfl rfl rfl ?_
  refine X_aload_n rfl rfl rfl rfl ?_
  refine X_getR (a := 3) rfl rfl rfl ((congrFun V.1 2).trans s_2) rfl ((congrFun (V.2.1 2 (by decide)) 2).trans r_2_2) ?_
  refine X_iload_n rfl rfl rfl rfl ?_
  refine S_iald rfl rfl ((congrFun V.1 3).trans s_3) hx1 (by omega) (fun vz3 evz3 => ?_)
  have vf4 := K_1 (V.2.2.2.2.1 (3) ((y1 : Int).toNat) (Nat.le_of_ble_eq_true rfl)) rk_3
  rw [evz3] at vf4
  (try rw [evz3] at hq2)
  refine S_icmp_ge (tgt := 74) rfl rfl rfl hx4 rfl (fun vh5 => ?_) (fun vh5 => ?_)
  · refine X_iconst (v := (1 : Int32)) rfl rfl rfl ?_
    exact LW_ireturn (st := []) rfl rfl rfl ⟨_, rfl, by decide, by decide, rfl⟩
  · refine X_aload_n rfl rfl rfl rfl ?_
    refine X_getR (a := 350) rfl rfl rfl ((congrFun V.1 349).trans s_349) rfl ((congrFun (V.2.1 349 (by decide)) 1).trans r_349_1) ?_
    refine X_aload_n rfl rfl rfl rfl ?_
    refine X_iload_n rfl rfl rfl rfl ?_
    refine X_iload rfl rfl rfl ?_
    refine X_callV (as := [.int x1, .int x4]) (st := [.ref 350]) rfl rfl rfl (by decide) rfl (Nat.le_of_ble_eq_true rfl) (by decide) (Nat.le_of_ble_eq_true rfl) rfl ((congrFun V.1 2).trans s_2) (by decide) ?_
    refine LW_ls (ls' := [some (.ref 2), some (.int x1), some (.int x4)]) rfl ?_
    refine X_aload_n rfl rfl rfl rfl ?_
    refine X_iload_n rfl rfl rfl rfl ?_
    refine X_callV (as := [.int x1]) (st := []) rfl rfl rfl (by decide) rfl (Nat.le_of_ble_eq_true rfl) (by decide) (Nat.le_of_ble_eq_true rfl) rfl ((congrFun V.1 2).trans s_2) (by decide) ?_
    refine LW_ls (ls' := [some (.ref 2), some (.int x1)]) rfl ?_
    refine X_iload_n rfl rfl rfl rfl ?_
    refine S_if_lt (tgt := 22) rfl rfl rfl hx1 (fun q => absurd q (by omega)) (fun vh6 => ?_)
    refine X_iload_n rfl rfl rfl rfl ?_
    refine X_aload_n rfl rfl rfl rfl ?_
    refine X_getI (v := vz1) rfl rfl rfl ((congrFun V.1 2).trans s_2) rfl evz1 ?_
    refine S_icmp_ge (tgt := 22) rfl rfl rfl hx1 rfl (fun vh7 => ?_) (fun vh7 => ?_)
    · refine X_iconst (v := (0 : Int32)) rfl rfl rfl ?_
      refine LW_ireturn (st := []) rfl rfl rfl ?_
      refine S_if_eq (tgt := 36) rfl rfl rfl (show (0 : Int32).toInt = 0 from rfl) (fun vh8 => ?_) (fun q => absurd q (by omega))
      refine X_iconst (v := (-1 : Int32)) rfl rfl rfl ?_
      refine LW_ireturn (st := []) rfl rfl rfl ?_
      refine S_iald rfl rfl ((congrFun V.1 350).trans s_350) (show (-1 : Int32).toInt = -1 from rfl) (by omega) (fun vz9 evz9 => ?_)
      refine X_aload_n rfl rfl rfl rfl ?_
      refine X_getR (a := 350) rfl rfl rfl ((congrFun V.1 349).trans s_349) rfl ((congrFun (V.2.1 349 (by decide)) 1).trans r_349_1) ?_
      refine X_aload_n rfl rfl rfl rfl ?_
      refine X_iload_n rfl rfl rfl rfl ?_
      refine X_iload rfl rfl rfl ?_
      refine X_callV (as := [.int x2, .int x4]) (st := [.ref 350, .int vz9]) rfl rfl rfl (by decide) rfl (Nat.le_of_ble_eq_true rfl) (by decide) (Nat.le_of_ble_eq_true rfl) rfl ((congrFun V.1 2).trans s_2) (by decide) ?_
      refine LW_ls (ls' := [some (.ref 2), some (.int x2), some (.int x4)]) rfl ?_
      refine X_aload_n rfl rfl rfl rfl ?_
      refine X_iload_n rfl rfl rfl rfl ?_
      refine X_callV (as := [.int x2]) (st := []) rfl rfl rfl (by decide) rfl (Nat.le_of_ble_eq_true rfl) (by decide) (Nat.le_of_ble_eq_true rfl) rfl ((congrFun V.1 2).trans s_2) (by decide) ?_
      refine LW_ls (ls' := [some (.ref 2), some (.int x2)]) rfl ?_
      refine X_iload_n rfl rfl rfl rfl ?_
      refine S_if_lt (tgt := 22) rfl rfl rfl hx2 (fun q => absurd q (by omega)) (fun vh10 => ?_)
      refine X_iload_n rfl rfl rfl rfl ?_
      refine X_aload_n rfl rfl rfl rfl ?_
      refine X_getI (v := vz1) rfl rfl rfl ((congrFun V.1 2).trans s_2) rfl evz1 ?_
      refine S_icmp_ge (tgt := 22) rfl rfl rfl hx2 rfl (fun vh11 => ?_) (fun vh11 => ?_)
      · refine X_iconst (v := (0 : Int32)) rfl rfl rfl ?_
        refine LW_ireturn (st := []) rfl rfl rfl ?_
        refine S_if_eq (tgt := 36) rfl rfl rfl (show (0 : Int32).toInt = 0 from rfl) (fun vh12 => ?_) (fun q => absurd q (by omega))
        refine X_iconst (v := (-1 : Int32)) rfl rfl rfl ?_
        refine LW_ireturn (st := []) rfl rfl rfl ?_
        refine S_iald_v rfl rfl ((congrFun V.1 350).trans s_350) (show (-1 : Int32).toInt = -1 from rfl) (by omega) evz9 ?_
        refine S_icmp_eq (tgt := 68) rfl rfl rfl rfl rfl (fun vh14 => ?_) (fun q => absurd q (by omega))
        refine S_iinc (c := 1) rfl rfl rfl hx4 rfl (by omega) (fun vz15 hvz15 => ?_)
        refine LW_ls (ls' := [some (.ref 349), some (.int x1), some (.int x2), some (.ref 2), some (.int vz15)]) rfl ?_
        refine LW_goto (tgt := 28) rfl rfl ?_
        exact ih28 V x1 y1 hx1 (by omega) x2 y2 hx2 (by omega) vz15 vz15.toInt rfl (by omega)  (by rw [evz1]; omega) (by rw [evz1]; omega) (hq2c)  (by omega)
      · refine X_iload_n rfl rfl rfl rfl ?_
        refine X_bipush (v := (24 : Int32)) rfl rfl rfl ?_
        refine S_icmp_ge (tgt := 22) rfl rfl rfl hx2 (show (24 : Int32).toInt = 24 from rfl) (fun q => absurd q (by omega)) (fun vh16 => ?_)
        refine X_iconst (v := (1 : Int32)) rfl rfl rfl ?_
        refine LW_goto (tgt := 23) rfl rfl ?_
        refine LW_ireturn (st := []) rfl rfl rfl ?_
        refine S_if_eq (tgt := 36) rfl rfl rfl (show (1 : Int32).toInt = 1 from rfl) (fun q => absurd q (by omega)) (fun vh17 => ?_)
        refine X_iload_n rfl rfl rfl rfl ?_
        refine S_if_lt (tgt := 36) rfl rfl rfl hx4 (fun q => absurd q (by omega)) (fun vh18 => ?_)
        refine X_iload_n rfl rfl rfl rfl ?_
        refine X_aload_n rfl rfl rfl rfl ?_
        refine X_getR (a := 3) rfl rfl rfl ((congrFun V.1 2).trans s_2) rfl ((congrFun (V.2.1 2 (by decide)) 2).trans r_2_2) ?_
        refine X_iload_n rfl rfl rfl rfl ?_
        refine S_iald rfl rfl ((congrFun V.1 3).trans s_3) hx2 (by omega) (fun vz19 evz19 => ?_)
        have vf20 := K_1 (V.2.2.2.2.1 (3) ((y2 : Int).toNat) (Nat.le_of_ble_eq_true rfl)) rk_3
        rw [evz19] at vf20
        (try rw [evz19] at hq2)
        refine S_icmp_ge (tgt := 36) rfl rfl rfl hx4 rfl (fun vh21 => ?_) (fun vh21 => ?_)
        · refine X_iconst (v := (-1 : Int32)) rfl rfl rfl ?_
          refine LW_ireturn (st := []) rfl rfl rfl ?_
          refine S_iald_v rfl rfl ((congrFun V.1 350).trans s_350) (show (-1 : Int32).toInt = -1 from rfl) (by omega) evz9 ?_
          refine S_icmp_eq (tgt := 68) rfl rfl rfl rfl rfl (fun vh23 => ?_) (fun q => absurd q (by omega))
          refine S_iinc (c := 1) rfl rfl rfl hx4 rfl (by omega) (fun vz24 hvz24 => ?_)
          refine LW_ls (ls' := [some (.ref 349), some (.int x1), some (.int x2), some (.ref 2), some (.int vz24)]) rfl ?_
          refine LW_goto (tgt := 28) rfl rfl ?_
          exact ih28 V x1 y1 hx1 (by omega) x2 y2 hx2 (by omega) vz24 vz24.toInt rfl (by omega)  (by rw [evz1]; omega) (by rw [evz1]; omega) (hq2c)  (by omega)
        · refine X_aload_n rfl rfl rfl rfl ?_
          refine X_getR (a := 6) rfl rfl rfl ((congrFun V.1 2).trans s_2) rfl ((congrFun (V.2.1 2 (by decide)) 5).trans r_2_5) ?_
          refine X_iload_n rfl rfl rfl rfl ?_
          refine X_bipush (v := (8 : Int32)) rfl rfl rfl ?_
          refine S_imul rfl rfl hx2 (show (8 : Int32).toInt = 8 from rfl) (by omega) (fun vz25 hvz25 => ?_)
          refine X_iload_n rfl rfl rfl rfl ?_
          refine S_iadd rfl rfl rfl hx4 (by omega) (fun vz26 hvz26 => ?_)
          refine S_iald rfl rfl ((congrFun V.1 6).trans s_6) rfl (by omega) (fun vz27 evz27 => ?_)
          have vf28 := K_3 (V.2.2.2.2.1 (6) ((vz26.toInt : Int).toNat) (Nat.le_of_ble_eq_true rfl)) rk_6
          rw [evz27] at vf28
          refine LW_goto (tgt := 37) rfl rfl ?_
          refine LW_ireturn (st := []) rfl rfl rfl ?_
          refine S_iald rfl rfl ((congrFun V.1 350).trans s_350) rfl (by omega) (fun vz29 evz29 => ?_)
          refine S_icmp_eq (tgt := 68) rfl rfl rfl rfl rfl (fun vh30 => ?_) (fun vh30 => ?_)
          · refine S_iinc (c := 1) rfl rfl rfl hx4 rfl (by omega) (fun vz31 hvz31 => ?_)
            refine LW_ls (ls' := [some (.ref 349), some (.int x1), some (.int x2), some (.ref 2), some (.int vz31)]) rfl ?_
            refine LW_goto (tgt := 28) rfl rfl ?_
            exact ih28 V x1 y1 hx1 (by omega) x2 y2 hx2 (by omega) vz31 vz31.toInt rfl (by omega)  (by rw [evz1]; omega) (by rw [evz1]; omega) (hq2c)  (by omega)
          · refine X_iconst (v := (0 : Int32)) rfl rfl rfl ?_
            exact LW_ireturn (st := []) rfl rfl rfl ⟨_, rfl, by decide, by decide, rfl⟩
    · refine X_iload_n rfl rfl rfl rfl ?_
      refine X_bipush (v := (24 : Int32)) rfl rfl rfl ?_
      refine S_icmp_ge (tgt := 22) rfl rfl rfl hx1 (show (24 : Int32).toInt = 24 from rfl) (fun q => absurd q (by omega)) (fun vh32 => ?_)
      refine X_iconst (v := (1 : Int32)) rfl rfl rfl ?_
      refine LW_goto (tgt := 23) rfl rfl ?_
      refine LW_ireturn (st := []) rfl rfl rfl ?_
      refine S_if_eq (tgt := 36) rfl rfl rfl (show (1 : Int32).toInt = 1 from rfl) (fun q => absurd q (by omega)) (fun vh33 => ?_)
      refine X_iload_n rfl rfl rfl rfl ?_
      refine S_if_lt (tgt := 36) rfl rfl rfl hx4 (fun q => absurd q (by omega)) (fun vh34 => ?_)
      refine X_iload_n rfl rfl rfl rfl ?_
      refine X_aload_n rfl rfl rfl rfl ?_
      refine X_getR (a := 3) rfl rfl rfl ((congrFun V.1 2).trans s_2) rfl ((congrFun (V.2.1 2 (by decide)) 2).trans r_2_2) ?_
      refine X_iload_n rfl rfl rfl rfl ?_
      refine S_iald_v rfl rfl ((congrFun V.1 3).trans s_3) hx1 (by omega) evz3 ?_
      refine S_icmp_ge (tgt := 36) rfl rfl rfl hx4 rfl (fun vh36 => ?_) (fun vh36 => ?_)
      · refine X_iconst (v := (-1 : Int32)) rfl rfl rfl ?_
        refine LW_ireturn (st := []) rfl rfl rfl ?_
        refine S_iald rfl rfl ((congrFun V.1 350).trans s_350) (show (-1 : Int32).toInt = -1 from rfl) (by omega) (fun vz37 evz37 => ?_)
        refine X_aload_n rfl rfl rfl rfl ?_
        refine X_getR (a := 350) rfl rfl rfl ((congrFun V.1 349).trans s_349) rfl ((congrFun (V.2.1 349 (by decide)) 1).trans r_349_1) ?_
        refine X_aload_n rfl rfl rfl rfl ?_
        refine X_iload_n rfl rfl rfl rfl ?_
        refine X_iload rfl rfl rfl ?_
        refine X_callV (as := [.int x2, .int x4]) (st := [.ref 350, .int vz37]) rfl rfl rfl (by decide) rfl (Nat.le_of_ble_eq_true rfl) (by decide) (Nat.le_of_ble_eq_true rfl) rfl ((congrFun V.1 2).trans s_2) (by decide) ?_
        refine LW_ls (ls' := [some (.ref 2), some (.int x2), some (.int x4)]) rfl ?_
        refine X_aload_n rfl rfl rfl rfl ?_
        refine X_iload_n rfl rfl rfl rfl ?_
        refine X_callV (as := [.int x2]) (st := []) rfl rfl rfl (by decide) rfl (Nat.le_of_ble_eq_true rfl) (by decide) (Nat.le_of_ble_eq_true rfl) rfl ((congrFun V.1 2).trans s_2) (by decide) ?_
        refine LW_ls (ls' := [some (.ref 2), some (.int x2)]) rfl ?_
        refine X_iload_n rfl rfl rfl rfl ?_
        refine S_if_lt (tgt := 22) rfl rfl rfl hx2 (fun q => absurd q (by omega)) (fun vh38 => ?_)
        refine X_iload_n rfl rfl rfl rfl ?_
        refine X_aload_n rfl rfl rfl rfl ?_
        refine X_getI (v := vz1) rfl rfl rfl ((congrFun V.1 2).trans s_2) rfl evz1 ?_
        refine S_icmp_ge (tgt := 22) rfl rfl rfl hx2 rfl (fun vh39 => ?_) (fun vh39 => ?_)
        · refine X_iconst (v := (0 : Int32)) rfl rfl rfl ?_
          refine LW_ireturn (st := []) rfl rfl rfl ?_
          refine S_if_eq (tgt := 36) rfl rfl rfl (show (0 : Int32).toInt = 0 from rfl) (fun vh40 => ?_) (fun q => absurd q (by omega))
          refine X_iconst (v := (-1 : Int32)) rfl rfl rfl ?_
          refine LW_ireturn (st := []) rfl rfl rfl ?_
          refine S_iald_v rfl rfl ((congrFun V.1 350).trans s_350) (show (-1 : Int32).toInt = -1 from rfl) (by omega) evz37 ?_
          refine S_icmp_eq (tgt := 68) rfl rfl rfl rfl rfl (fun vh42 => ?_) (fun q => absurd q (by omega))
          refine S_iinc (c := 1) rfl rfl rfl hx4 rfl (by omega) (fun vz43 hvz43 => ?_)
          refine LW_ls (ls' := [some (.ref 349), some (.int x1), some (.int x2), some (.ref 2), some (.int vz43)]) rfl ?_
          refine LW_goto (tgt := 28) rfl rfl ?_
          exact ih28 V x1 y1 hx1 (by omega) x2 y2 hx2 (by omega) vz43 vz43.toInt rfl (by omega)  (by rw [evz1]; omega) (by rw [evz1]; omega) (hq2c)  (by omega)
        · refine X_iload_n rfl rfl rfl rfl ?_
          refine X_bipush (v := (24 : Int32)) rfl rfl rfl ?_
          refine S_icmp_ge (tgt := 22) rfl rfl rfl hx2 (show (24 : Int32).toInt = 24 from rfl) (fun q => absurd q (by omega)) (fun vh44 => ?_)
          refine X_iconst (v := (1 : Int32)) rfl rfl rfl ?_
          refine LW_goto (tgt := 23) rfl rfl ?_
          refine LW_ireturn (st := []) rfl rfl rfl ?_
          refine S_if_eq (tgt := 36) rfl rfl rfl (show (1 : Int32).toInt = 1 from rfl) (fun q => absurd q (by omega)) (fun vh45 => ?_)
          refine X_iload_n rfl rfl rfl rfl ?_
          refine S_if_lt (tgt := 36) rfl rfl rfl hx4 (fun q => absurd q (by omega)) (fun vh46 => ?_)
          refine X_iload_n rfl rfl rfl rfl ?_
          refine X_aload_n rfl rfl rfl rfl ?_
          refine X_getR (a := 3) rfl rfl rfl ((congrFun V.1 2).trans s_2) rfl ((congrFun (V.2.1 2 (by decide)) 2).trans r_2_2) ?_
          refine X_iload_n rfl rfl rfl rfl ?_
          refine S_iald rfl rfl ((congrFun V.1 3).trans s_3) hx2 (by omega) (fun vz47 evz47 => ?_)
          have vf48 := K_1 (V.2.2.2.2.1 (3) ((y2 : Int).toNat) (Nat.le_of_ble_eq_true rfl)) rk_3
          rw [evz47] at vf48
          (try rw [evz47] at hq2)
          refine S_icmp_ge (tgt := 36) rfl rfl rfl hx4 rfl (fun vh49 => ?_) (fun vh49 => ?_)
          · refine X_iconst (v := (-1 : Int32)) rfl rfl rfl ?_
            refine LW_ireturn (st := []) rfl rfl rfl ?_
            refine S_iald_v rfl rfl ((congrFun V.1 350).trans s_350) (show (-1 : Int32).toInt = -1 from rfl) (by omega) evz37 ?_
            refine S_icmp_eq (tgt := 68) rfl rfl rfl rfl rfl (fun vh51 => ?_) (fun q => absurd q (by omega))
            refine S_iinc (c := 1) rfl rfl rfl hx4 rfl (by omega) (fun vz52 hvz52 => ?_)
            refine LW_ls (ls' := [some (.ref 349), some (.int x1), some (.int x2), some (.ref 2), some (.int vz52)]) rfl ?_
            refine LW_goto (tgt := 28) rfl rfl ?_
            exact ih28 V x1 y1 hx1 (by omega) x2 y2 hx2 (by omega) vz52 vz52.toInt rfl (by omega)  (by rw [evz1]; omega) (by rw [evz1]; omega) (hq2c)  (by omega)
          · refine X_aload_n rfl rfl rfl rfl ?_
            refine X_getR (a := 6) rfl rfl rfl ((congrFun V.1 2).trans s_2) rfl ((congrFun (V.2.1 2 (by decide)) 5).trans r_2_5) ?_
            refine X_iload_n rfl rfl rfl rfl ?_
            refine X_bipush (v := (8 : Int32)) rfl rfl rfl ?_
            refine S_imul rfl rfl hx2 (show (8 : Int32).toInt = 8 from rfl) (by omega) (fun vz53 hvz53 => ?_)
            refine X_iload_n rfl rfl rfl rfl ?_
            refine S_iadd rfl rfl rfl hx4 (by omega) (fun vz54 hvz54 => ?_)
            refine S_iald rfl rfl ((congrFun V.1 6).trans s_6) rfl (by omega) (fun vz55 evz55 => ?_)
            have vf56 := K_3 (V.2.2.2.2.1 (6) ((vz54.toInt : Int).toNat) (Nat.le_of_ble_eq_true rfl)) rk_6
            rw [evz55] at vf56
            refine LW_goto (tgt := 37) rfl rfl ?_
            refine LW_ireturn (st := []) rfl rfl rfl ?_
            refine S_iald rfl rfl ((congrFun V.1 350).trans s_350) rfl (by omega) (fun vz57 evz57 => ?_)
            refine S_icmp_eq (tgt := 68) rfl rfl rfl rfl rfl (fun vh58 => ?_) (fun vh58 => ?_)
            · refine S_iinc (c := 1) rfl rfl rfl hx4 rfl (by omega) (fun vz59 hvz59 => ?_)
              refine LW_ls (ls' := [some (.ref 349), some (.int x1), some (.int x2), some (.ref 2), some (.int vz59)]) rfl ?_
              refine LW_goto (tgt := 28) rfl rfl ?_
              exact ih28 V x1 y1 hx1 (by omega) x2 y2 hx2 (by omega) vz59 vz59.toInt rfl (by omega)  (by rw [evz1]; omega) (by rw [evz1]; omega) (hq2c)  (by omega)
            · refine X_iconst (v := (0 : Int32)) rfl rfl rfl ?_
              exact LW_ireturn (st := []) rfl rfl rfl ⟨_, rfl, by decide, by decide, rfl⟩
      · refine X_aload_n rfl rfl rfl rfl ?_
        refine X_getR (a := 6) rfl rfl rfl ((congrFun V.1 2).trans s_2) rfl ((congrFun (V.2.1 2 (by decide)) 5).trans r_2_5) ?_
        refine X_iload_n rfl rfl rfl rfl ?_
        refine X_bipush (v := (8 : Int32)) rfl rfl rfl ?_
        refine S_imul rfl rfl hx1 (show (8 : Int32).toInt = 8 from rfl) (by omega) (fun vz60 hvz60 => ?_)
        refine X_iload_n rfl rfl rfl rfl ?_
        refine S_iadd rfl rfl rfl hx4 (by omega) (fun vz61 hvz61 => ?_)
        refine S_iald rfl rfl ((congrFun V.1 6).trans s_6) rfl (by omega) (fun vz62 evz62 => ?_)
        have vf63 := K_3 (V.2.2.2.2.1 (6) ((vz61.toInt : Int).toNat) (Nat.le_of_ble_eq_true rfl)) rk_6
        rw [evz62] at vf63
        refine LW_goto (tgt := 37) rfl rfl ?_
        refine LW_ireturn (st := []) rfl rfl rfl ?_
        refine S_iald rfl rfl ((congrFun V.1 350).trans s_350) rfl (by omega) (fun vz64 evz64 => ?_)
        refine X_aload_n rfl rfl rfl rfl ?_
        refine X_getR (a := 350) rfl rfl rfl ((congrFun V.1 349).trans s_349) rfl ((congrFun (V.2.1 349 (by decide)) 1).trans r_349_1) ?_
        refine X_aload_n rfl rfl rfl rfl ?_
        refine X_iload_n rfl rfl rfl rfl ?_
        refine X_iload rfl rfl rfl ?_
        refine X_callV (as := [.int x2, .int x4]) (st := [.ref 350, .int vz64]) rfl rfl rfl (by decide) rfl (Nat.le_of_ble_eq_true rfl) (by decide) (Nat.le_of_ble_eq_true rfl) rfl ((congrFun V.1 2).trans s_2) (by decide) ?_
        refine LW_ls (ls' := [some (.ref 2), some (.int x2), some (.int x4)]) rfl ?_
        refine X_aload_n rfl rfl rfl rfl ?_
        refine X_iload_n rfl rfl rfl rfl ?_
        refine X_callV (as := [.int x2]) (st := []) rfl rfl rfl (by decide) rfl (Nat.le_of_ble_eq_true rfl) (by decide) (Nat.le_of_ble_eq_true rfl) rfl ((congrFun V.1 2).trans s_2) (by decide) ?_
        refine LW_ls (ls' := [some (.ref 2), some (.int x2)]) rfl ?_
        refine X_iload_n rfl rfl rfl rfl ?_
        refine S_if_lt (tgt := 22) rfl rfl rfl hx2 (fun q => absurd q (by omega)) (fun vh65 => ?_)
        refine X_iload_n rfl rfl rfl rfl ?_
        refine X_aload_n rfl rfl rfl rfl ?_
        refine X_getI (v := vz1) rfl rfl rfl ((congrFun V.1 2).trans s_2) rfl evz1 ?_
        refine S_icmp_ge (tgt := 22) rfl rfl rfl hx2 rfl (fun vh66 => ?_) (fun vh66 => ?_)
        · refine X_iconst (v := (0 : Int32)) rfl rfl rfl ?_
          refine LW_ireturn (st := []) rfl rfl rfl ?_
          refine S_if_eq (tgt := 36) rfl rfl rfl (show (0 : Int32).toInt = 0 from rfl) (fun vh67 => ?_) (fun q => absurd q (by omega))
          refine X_iconst (v := (-1 : Int32)) rfl rfl rfl ?_
          refine LW_ireturn (st := []) rfl rfl rfl ?_
          refine S_iald rfl rfl ((congrFun V.1 350).trans s_350) (show (-1 : Int32).toInt = -1 from rfl) (by omega) (fun vz68 evz68 => ?_)
          refine S_icmp_eq (tgt := 68) rfl rfl rfl rfl rfl (fun vh69 => ?_) (fun vh69 => ?_)
          · refine S_iinc (c := 1) rfl rfl rfl hx4 rfl (by omega) (fun vz70 hvz70 => ?_)
            refine LW_ls (ls' := [some (.ref 349), some (.int x1), some (.int x2), some (.ref 2), some (.int vz70)]) rfl ?_
            refine LW_goto (tgt := 28) rfl rfl ?_
            exact ih28 V x1 y1 hx1 (by omega) x2 y2 hx2 (by omega) vz70 vz70.toInt rfl (by omega)  (by rw [evz1]; omega) (by rw [evz1]; omega) (hq2c)  (by omega)
          · refine X_iconst (v := (0 : Int32)) rfl rfl rfl ?_
            exact LW_ireturn (st := []) rfl rfl rfl ⟨_, rfl, by decide, by decide, rfl⟩
        · refine X_iload_n rfl rfl rfl rfl ?_
          refine X_bipush (v := (24 : Int32)) rfl rfl rfl ?_
          refine S_icmp_ge (tgt := 22) rfl rfl rfl hx2 (show (24 : Int32).toInt = 24 from rfl) (fun q => absurd q (by omega)) (fun vh71 => ?_)
          refine X_iconst (v := (1 : Int32)) rfl rfl rfl ?_
          refine LW_goto (tgt := 23) rfl rfl ?_
          refine LW_ireturn (st := []) rfl rfl rfl ?_
          refine S_if_eq (tgt := 36) rfl rfl rfl (show (1 : Int32).toInt = 1 from rfl) (fun q => absurd q (by omega)) (fun vh72 => ?_)
          refine X_iload_n rfl rfl rfl rfl ?_
          refine S_if_lt (tgt := 36) rfl rfl rfl hx4 (fun q => absurd q (by omega)) (fun vh73 => ?_)
          refine X_iload_n rfl rfl rfl rfl ?_
          refine X_aload_n rfl rfl rfl rfl ?_
          refine X_getR (a := 3) rfl rfl rfl ((congrFun V.1 2).trans s_2) rfl ((congrFun (V.2.1 2 (by decide)) 2).trans r_2_2) ?_
          refine X_iload_n rfl rfl rfl rfl ?_
          refine S_iald rfl rfl ((congrFun V.1 3).trans s_3) hx2 (by omega) (fun vz74 evz74 => ?_)
          have vf75 := K_1 (V.2.2.2.2.1 (3) ((y2 : Int).toNat) (Nat.le_of_ble_eq_true rfl)) rk_3
          rw [evz74] at vf75
          (try rw [evz74] at hq2)
          refine S_icmp_ge (tgt := 36) rfl rfl rfl hx4 rfl (fun vh76 => ?_) (fun vh76 => ?_)
          · refine X_iconst (v := (-1 : Int32)) rfl rfl rfl ?_
            refine LW_ireturn (st := []) rfl rfl rfl ?_
            refine S_iald rfl rfl ((congrFun V.1 350).trans s_350) (show (-1 : Int32).toInt = -1 from rfl) (by omega) (fun vz77 evz77 => ?_)
            refine S_icmp_eq (tgt := 68) rfl rfl rfl rfl rfl (fun vh78 => ?_) (fun vh78 => ?_)
            · refine S_iinc (c := 1) rfl rfl rfl hx4 rfl (by omega) (fun vz79 hvz79 => ?_)
              refine LW_ls (ls' := [some (.ref 349), some (.int x1), some (.int x2), some (.ref 2), some (.int vz79)]) rfl ?_
              refine LW_goto (tgt := 28) rfl rfl ?_
              exact ih28 V x1 y1 hx1 (by omega) x2 y2 hx2 (by omega) vz79 vz79.toInt rfl (by omega)  (by rw [evz1]; omega) (by rw [evz1]; omega) (hq2c)  (by omega)
            · refine X_iconst (v := (0 : Int32)) rfl rfl rfl ?_
              exact LW_ireturn (st := []) rfl rfl rfl ⟨_, rfl, by decide, by decide, rfl⟩
          · refine X_aload_n rfl rfl rfl rfl ?_
            refine X_getR (a := 6) rfl rfl rfl ((congrFun V.1 2).trans s_2) rfl ((congrFun (V.2.1 2 (by decide)) 5).trans r_2_5) ?_
            refine X_iload_n rfl rfl rfl rfl ?_
            refine X_bipush (v := (8 : Int32)) rfl rfl rfl ?_
            refine S_imul rfl rfl hx2 (show (8 : Int32).toInt = 8 from rfl) (by omega) (fun vz80 hvz80 => ?_)
            refine X_iload_n rfl rfl rfl rfl ?_
            refine S_iadd rfl rfl rfl hx4 (by omega) (fun vz81 hvz81 => ?_)
            refine S_iald rfl rfl ((congrFun V.1 6).trans s_6) rfl (by omega) (fun vz82 evz82 => ?_)
            have vf83 := K_3 (V.2.2.2.2.1 (6) ((vz81.toInt : Int).toNat) (Nat.le_of_ble_eq_true rfl)) rk_6
            rw [evz82] at vf83
            refine LW_goto (tgt := 37) rfl rfl ?_
            refine LW_ireturn (st := []) rfl rfl rfl ?_
            refine S_iald rfl rfl ((congrFun V.1 350).trans s_350) rfl (by omega) (fun vz84 evz84 => ?_)
            refine S_icmp_eq (tgt := 68) rfl rfl rfl rfl rfl (fun vh85 => ?_) (fun vh85 => ?_)
            · refine S_iinc (c := 1) rfl rfl rfl hx4 rfl (by omega) (fun vz86 hvz86 => ?_)
              refine LW_ls (ls' := [some (.ref 349), some (.int x1), some (.int x2), some (.ref 2), some (.int vz86)]) rfl ?_
              refine LW_goto (tgt := 28) rfl rfl ?_
              exact ih28 V x1 y1 hx1 (by omega) x2 y2 hx2 (by omega) vz86 vz86.toInt rfl (by omega)  (by rw [evz1]; omega) (by rw [evz1]; omega) (hq2c)  (by omega)
            · refine X_iconst (v := (0 : Int32)) rfl rfl rfl ?_
              exact LW_ireturn (st := []) rfl rfl rfl ⟨_, rfl, by decide, by decide, rfl⟩
theorem C_X7_alike_all {P : Par} {g : LH} {d : Nat}  : ∀ n : Nat, (∀ (V : Inv P g) (x1 : Int32) (y1 : Int) (hx1 : x1.toInt = y1) (hf1 : 0 ≤ y1 ∧ y1 ≤ 23) (x2 : Int32) (y2 : Int) (hx2 : x2.toInt = y2) (hf2 : 0 ≤ y2 ∧ y2 ≤ 23) (x4 : Int32) (y4 : Int) (hx4 : x4.toInt = y4) (hf4 : 0 ≤ y4 ∧ y4 ≤ 8) (hq0 : y1 < (Gi g 2 0).toInt) (hq1 : y2 < (Gi g 2 0).toInt) (hq2 : (Gi g 3 (Int.toNat (y1))).toInt = (Gi g 3 (Int.toNat (y2))).toInt), (8 - y4) * 1 + 0 < (n : Int) → LW 70 (d + 5) 0 0 28 [some (.ref 349), some (.int x1), some (.int x2), some (.ref 2), some (.int x4)] [] g (fun v g' => ∃ r : Int32, v = some (.int r) ∧ 0 ≤ r.toInt ∧ r.toInt ≤ 1 ∧ g = g')) := by
  intro n
  induction n with
  | zero => exact fun V x1 y1 hx1 hf1 x2 y2 hx2 hf2 x4 y4 hx4 hf4 hq0 hq1 hq2 hmu => absurd hmu (by omega)
  | succ n ih => exact fun V x1 y1 hx1 hf1 x2 y2 hx2 hf2 x4 y4 hx4 hf4 hq0 hq1 hq2 hmu => C_X7_alike_28  V x1 y1 hx1 hf1 x2 y2 hx2 hf2 x4 y4 hx4 hf4 hq0 hq1 hq2 (by omega) ih
set_option maxRecDepth 10000 in
set_option maxHeartbeats 40000000 in
theorem C_X7_alike {P : Par} {g : LH} {d : Nat}  (V : Inv P g) (x1 : Int32) (y1 : Int) (hx1 : x1.toInt = y1) (hf1 : 0 ≤ y1 ∧ y1 ≤ 23) (x2 : Int32) (y2 : Int) (hx2 : x2.toInt = y2) (hf2 : 0 ≤ y2 ∧ y2 ≤ 23) (hq0 : y1 < (Gi g 2 0).toInt) (hq1 : y2 < (Gi g 2 0).toInt)  : LW 70 (d + 5) 0 0 0 (lEnt (mL 70) [.ref 349, .int x1, .int x2]) [] g (fun v g' => ∃ r : Int32, v = some (.int r) ∧ 0 ≤ r.toInt ∧ r.toInt ≤ 1 ∧ g = g') := by
  refine LW_ls (ls' := [some (.ref 349), some (.int x1), some (.int x2), none, none]) rfl ?_
  obtain ⟨vz1, evz1⟩ : ∃ z, Gi g 2 0 = z := ⟨_, rfl⟩
  have vf2 := K_10_0 (V.2.2.2.2.1 (2) (0) (Nat.le_of_ble_eq_true rfl)) rk_2
  rw [evz1] at vf2
  rw [evz1] at hq0
  rw [evz1] at hq1
  refine X_aload_n rfl rfl rfl rfl ?_
  refine X_getR (a := 1) rfl rfl rfl ((congrFun V.1 349).trans s_349) rfl ((congrFun (V.2.1 349 (by decide)) 0).trans r_349_0) ?_
  refine X_getR (a := 2) rfl rfl rfl ((congrFun V.1 1).trans s_1) rfl ((congrFun (V.2.1 1 (by decide)) 0).trans r_1_0) ?_
  refine X_astore_n (i := 3) (ls' := [some (.ref 349), some (.int x1), some (.int x2), some (.ref 2), none]) rfl rfl rfl (Nat.le_of_ble_eq_true rfl) rfl ?_
  refine X_aload_n rfl rfl rfl rfl ?_
  refine X_getR (a := 3) rfl rfl rfl ((congrFun V.1 2).trans s_2) rfl ((congrFun (V.2.1 2 (by decide)) 2).trans r_2_2) ?_
  refine X_iload_n rfl rfl rfl rfl ?_
  refine S_iald rfl rfl ((congrFun V.1 3).trans s_3) hx1 (by omega) (fun vz3 evz3 => ?_)
  have vf4 := K_1 (V.2.2.2.2.1 (3) ((y1 : Int).toNat) (Nat.le_of_ble_eq_true rfl)) rk_3
  rw [evz3] at vf4
  refine X_aload_n rfl rfl rfl rfl ?_
  refine X_getR (a := 3) rfl rfl rfl ((congrFun V.1 2).trans s_2) rfl ((congrFun (V.2.1 2 (by decide)) 2).trans r_2_2) ?_
  refine X_iload_n rfl rfl rfl rfl ?_
  refine S_iald rfl rfl ((congrFun V.1 3).trans s_3) hx2 (by omega) (fun vz5 evz5 => ?_)
  have vf6 := K_1 (V.2.2.2.2.1 (3) ((y2 : Int).toNat) (Nat.le_of_ble_eq_true rfl)) rk_3
  rw [evz5] at vf6
  refine S_icmp_eq (tgt := 25) rfl rfl rfl rfl rfl (fun vh7 => ?_) (fun vh7 => ?_)
  · refine X_iconst (v := (0 : Int32)) rfl rfl rfl ?_
    refine X_istore (i := 4) (ls' := [some (.ref 349), some (.int x1), some (.int x2), some (.ref 2), some (.int (0 : Int32))]) rfl rfl (Nat.le_of_ble_eq_true rfl) rfl ?_
    exact (C_X7_alike_all (((8 - 0) * 1 + 0) + 1 : Int).toNat) V x1 y1 hx1 (by omega) x2 y2 hx2 (by omega) (0 : Int32) 0 (show (0 : Int32).toInt = 0 from rfl) (by omega)  (by rw [evz1]; omega) (by rw [evz1]; omega) (by rw [evz3, evz5]; omega)  (by omega)
  · refine X_iconst (v := (0 : Int32)) rfl rfl rfl ?_
    exact LW_ireturn (st := []) rfl rfl rfl ⟨_, rfl, by decide, by decide, rfl⟩
set_option maxRecDepth 10000 in
set_option maxHeartbeats 40000000 in
theorem C_X7_alikeNow_11 {P : Par} {g g0 : LH} {d n : Nat}  (V : Inv P g) (hG : Gr g = Gr g0) (x1 : Int32) (y1 : Int) (hx1 : x1.toInt = y1) (hf1 : 0 ≤ y1 ∧ y1 ≤ 23) (x2 : Int32) (y2 : Int) (hx2 : x2.toInt = y2) (hf2 : 0 ≤ y2 ∧ y2 ≤ 23) (x4 : Int32) (y4 : Int) (hx4 : x4.toInt = y4) (hf4 : 0 ≤ y4 ∧ y4 ≤ 26) (o5 : Option Value) (hq0 : y1 < (Gi g 2 0).toInt) (hq1 : y2 < (Gi g 2 0).toInt) (hmu : (26 - y4) * 1 + 0 < (n : Int) + 1) (ih11 : ∀ (g : LH) (V : Inv P g) (hG : Gr g = Gr g0) (x1 : Int32) (y1 : Int) (hx1 : x1.toInt = y1) (hf1 : 0 ≤ y1 ∧ y1 ≤ 23) (x2 : Int32) (y2 : Int) (hx2 : x2.toInt = y2) (hf2 : 0 ≤ y2 ∧ y2 ≤ 23) (x4 : Int32) (y4 : Int) (hx4 : x4.toInt = y4) (hf4 : 0 ≤ y4 ∧ y4 ≤ 26) (o5 : Option Value) (hq0 : y1 < (Gi g 2 0).toInt) (hq1 : y2 < (Gi g 2 0).toInt), (26 - y4) * 1 + 0 < (n : Int) → LW 69 (d + 10) 0 0 11 [some (.ref 349), some (.int x1), some (.int x2), some (.ref 10), some (.int x4), o5] [] g (fun v g' => ∃ r : Int32, v = some (.int r) ∧ 0 ≤ r.toInt ∧ r.toInt ≤ 1 ∧ Inv P g' ∧ Gr g' = Gr g0)) : LW 69 (d + 10) 0 0 11 [some (.ref 349), some (.int x1), some (.int x2), some (.ref 10), some (.int x4), o5] [] g (fun v g' => ∃ r : Int32, v = some (.int r) ∧ 0 ≤ r.toInt ∧ r.toInt ≤ 1 ∧ Inv P g' ∧ Gr g' = Gr g0) := by
  obtain ⟨vz1, evz1⟩ : ∃ z, Gi g 2 0 = z := ⟨_, rfl⟩
  have vf2 := K_10_0 (V.2.2.2.2.1 (2) (0) (Nat.le_of_ble_eq_true rfl)) rk_2
  rw [evz1] at vf2
  rw [evz1] at hq0
  rw [evz1] at hq1
  refine X_iload rfl rfl rfl ?_
  refine X_bipush (v := (26 : Int32)) rfl rfl rfl ?_
  refine S_icmp_ge (tgt := 78) rfl rfl rfl hx4 (show (26 : Int32).toInt = 26 from rfl) (fun vh3 => ?_) (fun vh3 => ?_)
  · refine X_aload_n rfl rfl rfl rfl ?_
    refine X_iload_n rfl rfl rfl rfl ?_
    refine X_iload_n rfl rfl rfl rfl ?_
    refine Y_callV (as := [.int x1, .int x2]) (st := []) rfl rfl rfl (by decide) rfl (Nat.le_of_ble_eq_true rfl) (by decide) (Nat.le_of_ble_eq_true rfl) rfl ((congrFun V.1 349).trans s_349) (by decide) (C_X7_alike V x1 y1 hx1 (by omega) x2 y2 hx2 (by omega) (by rw [evz1]; omega) (by rw [evz1]; omega)) ?_
    rintro _ g' ⟨vr4, rfl, hrvr40, hrvr41, hgg⟩
    subst hgg
    have hr := (rfl : vr4.toInt = vr4.toInt)
    exact LW_ireturn (st := []) rfl rfl (nbool rfl (by omega)) ⟨_, rfl, by omega, by omega, V, hG⟩
  · refine X_aload_n rfl rfl rfl rfl ?_
    refine X_iload rfl rfl rfl ?_
    refine X_callV (as := [.int x4]) (st := []) rfl rfl rfl (by decide) rfl (Nat.le_of_ble_eq_true rfl) (by decide) (Nat.le_of_ble_eq_true rfl) rfl ((congrFun V.1 10).trans s_10) (by decide) ?_
    refine LW_ls (ls' := [some (.ref 10), some (.int x4)]) rfl ?_
    refine X_aload_n rfl rfl rfl rfl ?_
    refine S_getI rfl rfl rfl ((congrFun V.1 10).trans s_10) rfl (fun vz5 evz5 => ?_)
    refine X_iload_n rfl rfl rfl rfl ?_
    refine S_ishrT rfl rfl (fun vz6 => ?_)
    refine X_iconst (v := (1 : Int32)) rfl rfl rfl ?_
    refine S_iandR (k := 1) rfl rfl rfl (fun vz7 hvz7 => ?_)
    refine S_if_eq (tgt := 15) rfl rfl rfl rfl (fun vh8 => ?_) (fun vh8 => ?_)
    · refine X_iconst (v := (0 : Int32)) rfl rfl rfl ?_
      refine LW_ireturn (st := []) rfl rfl rfl ?_
      refine S_if_eq (tgt := 42) rfl rfl rfl (show (0 : Int32).toInt = 0 from rfl) (fun vh9 => ?_) (fun q => absurd q (by omega))
      refine X_iconst (v := (0 : Int32)) rfl rfl rfl ?_
      refine X_istore (i := 5) (ls' := [some (.ref 349), some (.int x1), some (.int x2), some (.ref 10), some (.int x4), some (.int (0 : Int32))]) rfl rfl (Nat.le_of_ble_eq_true rfl) rfl ?_
      refine X_aload_n rfl rfl rfl rfl ?_
      refine X_getR (a := 350) rfl rfl rfl ((congrFun V.1 349).trans s_349) rfl ((congrFun (V.2.1 349 (by decide)) 1).trans r_349_1) ?_
      refine X_iload rfl rfl rfl ?_
      refine X_iload rfl rfl rfl ?_
      refine S_if_eq (tgt := 66) rfl rfl rfl (show (0 : Int32).toInt = 0 from rfl) (fun vh10 => ?_) (fun q => absurd q (by omega))
      refine X_iload rfl rfl rfl ?_
      refine X_bipush (v := (10 : Int32)) rfl rfl rfl ?_
      refine S_iadd rfl rfl hx4 (show (10 : Int32).toInt = 10 from rfl) (by omega) (fun vz11 hvz11 => ?_)
      refine S_iast (I := Inv _) rfl rfl ((congrFun V.1 350).trans s_350) hx4 (by omega) (Inv_putI V (Nat.le_of_ble_eq_true rfl) (Or.inl (by decide)) (Q_0 rk_350)) (fun g V ve12 vn13 hq => ?_)
      have hG := hq.trans hG
      have evz1 := (vn13 (2) 0 (Or.inl (by decide))).trans evz1
      have evz5 := (vn13 (10) 0 (Or.inl (by decide))).trans evz5
      refine S_iinc (c := 1) rfl rfl rfl hx4 rfl (by omega) (fun vz14 hvz14 => ?_)
      refine LW_ls (ls' := [some (.ref 349), some (.int x1), some (.int x2), some (.ref 10), some (.int vz14), some (.int (0 : Int32))]) rfl ?_
      refine LW_goto (tgt := 11) rfl rfl ?_
      exact ih11 _ V hG x1 y1 hx1 (by omega) x2 y2 hx2 (by omega) vz14 vz14.toInt rfl (by omega) (some (.int (0 : Int32)))  (by rw [evz1]; omega) (by rw [evz1]; omega)  (by omega)
    · refine X_iconst (v := (1 : Int32)) rfl rfl rfl ?_
      refine LW_goto (tgt := 16) rfl rfl ?_
      refine LW_ireturn (st := []) rfl rfl rfl ?_
      refine S_if_eq (tgt := 42) rfl rfl rfl (show (1 : Int32).toInt = 1 from rfl) (fun q => absurd q (by omega)) (fun vh15 => ?_)
      refine X_aload_n rfl rfl rfl rfl ?_
      refine X_getR (a := 13) rfl rfl rfl ((congrFun V.1 10).trans s_10) rfl ((congrFun (V.2.1 10 (by decide)) 6).trans r_10_6) ?_
      refine X_iload rfl rfl rfl ?_
      refine S_iald rfl rfl ((congrFun V.1 13).trans s_13) hx4 (by omega) (fun vz16 evz16 => ?_)
      refine X_iconst (v := (-1 : Int32)) rfl rfl rfl ?_
      refine S_icmp_eq (tgt := 42) rfl rfl rfl rfl (show (-1 : Int32).toInt = -1 from rfl) (fun vh17 => ?_) (fun vh17 => ?_)
      · refine X_iconst (v := (0 : Int32)) rfl rfl rfl ?_
        refine X_istore (i := 5) (ls' := [some (.ref 349), some (.int x1), some (.int x2), some (.ref 10), some (.int x4), some (.int (0 : Int32))]) rfl rfl (Nat.le_of_ble_eq_true rfl) rfl ?_
        refine X_aload_n rfl rfl rfl rfl ?_
        refine X_getR (a := 350) rfl rfl rfl ((congrFun V.1 349).trans s_349) rfl ((congrFun (V.2.1 349 (by decide)) 1).trans r_349_1) ?_
        refine X_iload rfl rfl rfl ?_
        refine X_iload rfl rfl rfl ?_
        refine S_if_eq (tgt := 66) rfl rfl rfl (show (0 : Int32).toInt = 0 from rfl) (fun vh18 => ?_) (fun q => absurd q (by omega))
        refine X_iload rfl rfl rfl ?_
        refine X_bipush (v := (10 : Int32)) rfl rfl rfl ?_
        refine S_iadd rfl rfl hx4 (show (10 : Int32).toInt = 10 from rfl) (by omega) (fun vz19 hvz19 => ?_)
        refine S_iast (I := Inv _) rfl rfl ((congrFun V.1 350).trans s_350) hx4 (by omega) (Inv_putI V (Nat.le_of_ble_eq_true rfl) (Or.inl (by decide)) (Q_0 rk_350)) (fun g V ve20 vn21 hq => ?_)
        have hG := hq.trans hG
        have evz1 := (vn21 (2) 0 (Or.inl (by decide))).trans evz1
        have evz5 := (vn21 (10) 0 (Or.inl (by decide))).trans evz5
        have evz16 := (vn21 (13) ((y4 : Int).toNat) (Or.inl (by decide))).trans evz16
        refine S_iinc (c := 1) rfl rfl rfl hx4 rfl (by omega) (fun vz22 hvz22 => ?_)
        refine LW_ls (ls' := [some (.ref 349), some (.int x1), some (.int x2), some (.ref 10), some (.int vz22), some (.int (0 : Int32))]) rfl ?_
        refine LW_goto (tgt := 11) rfl rfl ?_
        exact ih11 _ V hG x1 y1 hx1 (by omega) x2 y2 hx2 (by omega) vz22 vz22.toInt rfl (by omega) (some (.int (0 : Int32)))  (by rw [evz1]; omega) (by rw [evz1]; omega)  (by omega)
      · refine X_iconst (v := (1 : Int32)) rfl rfl rfl ?_
        refine LW_goto (tgt := 43) rfl rfl ?_
        refine X_istore (i := 5) (ls' := [some (.ref 349), some (.int x1), some (.int x2), some (.ref 10), some (.int x4), some (.int (1 : Int32))]) rfl rfl (Nat.le_of_ble_eq_true rfl) rfl ?_
        refine X_aload_n rfl rfl rfl rfl ?_
        refine X_getR (a := 350) rfl rfl rfl ((congrFun V.1 349).trans s_349) rfl ((congrFun (V.2.1 349 (by decide)) 1).trans r_349_1) ?_
        refine X_iload rfl rfl rfl ?_
        refine X_iload rfl rfl rfl ?_
        refine S_if_eq (tgt := 66) rfl rfl rfl (show (1 : Int32).toInt = 1 from rfl) (fun q => absurd q (by omega)) (fun vh23 => ?_)
        refine X_aload_n rfl rfl rfl rfl ?_
        refine X_getR (a := 13) rfl rfl rfl ((congrFun V.1 10).trans s_10) rfl ((congrFun (V.2.1 10 (by decide)) 6).trans r_10_6) ?_
        refine X_iload rfl rfl rfl ?_
        refine S_iald_v rfl rfl ((congrFun V.1 13).trans s_13) hx4 (by omega) evz16 ?_
        refine LW_goto (tgt := 71) rfl rfl ?_
        refine S_iast (I := Inv _) rfl rfl ((congrFun V.1 350).trans s_350) hx4 (by omega) (Inv_putI V (Nat.le_of_ble_eq_true rfl) (Or.inl (by decide)) (Q_0 rk_350)) (fun g V ve25 vn26 hq => ?_)
        have hG := hq.trans hG
        have evz1 := (vn26 (2) 0 (Or.inl (by decide))).trans evz1
        have evz5 := (vn26 (10) 0 (Or.inl (by decide))).trans evz5
        have evz16 := (vn26 (13) ((y4 : Int).toNat) (Or.inl (by decide))).trans evz16
        refine S_iinc (c := 1) rfl rfl rfl hx4 rfl (by omega) (fun vz27 hvz27 => ?_)
        refine LW_ls (ls' := [some (.ref 349), some (.int x1), some (.int x2), some (.ref 10), some (.int vz27), some (.int (1 : Int32))]) rfl ?_
        refine LW_goto (tgt := 11) rfl rfl ?_
        exact ih11 _ V hG x1 y1 hx1 (by omega) x2 y2 hx2 (by omega) vz27 vz27.toInt rfl (by omega) (some (.int (1 : Int32)))  (by rw [evz1]; omega) (by rw [evz1]; omega)  (by omega)
theorem C_X7_alikeNow_all {P : Par} {g0 : LH} {d : Nat}  : ∀ n : Nat, (∀ (g : LH) (V : Inv P g) (hG : Gr g = Gr g0) (x1 : Int32) (y1 : Int) (hx1 : x1.toInt = y1) (hf1 : 0 ≤ y1 ∧ y1 ≤ 23) (x2 : Int32) (y2 : Int) (hx2 : x2.toInt = y2) (hf2 : 0 ≤ y2 ∧ y2 ≤ 23) (x4 : Int32) (y4 : Int) (hx4 : x4.toInt = y4) (hf4 : 0 ≤ y4 ∧ y4 ≤ 26) (o5 : Option Value) (hq0 : y1 < (Gi g 2 0).toInt) (hq1 : y2 < (Gi g 2 0).toInt), (26 - y4) * 1 + 0 < (n : Int) → LW 69 (d + 10) 0 0 11 [some (.ref 349), some (.int x1), some (.int x2), some (.ref 10), some (.int x4), o5] [] g (fun v g' => ∃ r : Int32, v = some (.int r) ∧ 0 ≤ r.toInt ∧ r.toInt ≤ 1 ∧ Inv P g' ∧ Gr g' = Gr g0)) := by
  intro n
  induction n with
  | zero => exact fun g V hG x1 y1 hx1 hf1 x2 y2 hx2 hf2 x4 y4 hx4 hf4 o5 hq0 hq1 hmu => absurd hmu (by omega)
  | succ n ih => exact fun g V hG x1 y1 hx1 hf1 x2 y2 hx2 hf2 x4 y4 hx4 hf4 o5 hq0 hq1 hmu => C_X7_alikeNow_11  V hG x1 y1 hx1 hf1 x2 y2 hx2 hf2 x4 y4 hx4 hf4 o5 hq0 hq1 (by omega) ih
set_option maxRecDepth 10000 in
set_option maxHeartbeats 40000000 in
theorem C_X7_alikeNow {P : Par} {g : LH} {d : Nat}  (V : Inv P g) (x1 : Int32) (y1 : Int) (hx1 : x1.toInt = y1) (hf1 : 0 ≤ y1 ∧ y1 ≤ 23) (x2 : Int32) (y2 : Int) (hx2 : x2.toInt = y2) (hf2 : 0 ≤ y2 ∧ y2 ≤ 23) (hq0 : y1 < (Gi g 2 0).toInt) (hq1 : y2 < (Gi g 2 0).toInt)  : LW 69 (d + 10) 0 0 0 (lEnt (mL 69) [.ref 349, .int x1, .int x2]) [] g (fun v g' => ∃ r : Int32, v = some (.int r) ∧ 0 ≤ r.toInt ∧ r.toInt ≤ 1 ∧ Inv P g' ∧ Gr g' = Gr g) := by
  refine LW_ls (ls' := [some (.ref 349), some (.int x1), some (.int x2), none, none, none]) rfl ?_
  have hG : Gr g = Gr g := rfl
  obtain ⟨vz1, evz1⟩ : ∃ z, Gi g 2 0 = z := ⟨_, rfl⟩
  have vf2 := K_10_0 (V.2.2.2.2.1 (2) (0) (Nat.le_of_ble_eq_true rfl)) rk_2
  rw [evz1] at vf2
  rw [evz1] at hq0
  rw [evz1] at hq1
  refine X_aload_n rfl rfl rfl rfl ?_
  refine X_getR (a := 1) rfl rfl rfl ((congrFun V.1 349).trans s_349) rfl ((congrFun (V.2.1 349 (by decide)) 0).trans r_349_0) ?_
  refine X_getR (a := 10) rfl rfl rfl ((congrFun V.1 1).trans s_1) rfl ((congrFun (V.2.1 1 (by decide)) 1).trans r_1_1) ?_
  refine X_astore_n (i := 3) (ls' := [some (.ref 349), some (.int x1), some (.int x2), some (.ref 10), none, none]) rfl rfl rfl (Nat.le_of_ble_eq_true rfl) rfl ?_
  refine X_iconst (v := (0 : Int32)) rfl rfl rfl ?_
  refine X_istore (i := 4) (ls' := [some (.ref 349), some (.int x1), some (.int x2), some (.ref 10), some (.int (0 : Int32)), none]) rfl rfl (Nat.le_of_ble_eq_true rfl) rfl ?_
  exact (C_X7_alikeNow_all (((26 - 0) * 1 + 0) + 1 : Int).toNat) _ V hG x1 y1 hx1 (by omega) x2 y2 hx2 (by omega) (0 : Int32) 0 (show (0 : Int32).toInt = 0 from rfl) (by omega) none  (by rw [evz1]; omega) (by rw [evz1]; omega)  (by omega)
set_option maxRecDepth 10000 in
set_option maxHeartbeats 40000000 in
theorem C_X12_mistaken {P : Par} {g : LH} {d : Nat}  (V : Inv P g) (x1 : Int32) (y1 : Int) (hx1 : x1.toInt = y1) (x2 : Int32) (y2 : Int) (hx2 : x2.toInt = y2)   : LW 146 (d + 15) 0 0 0 (lEnt (mL 146) [.ref 0, .int x1, .int x2]) [] g (fun v g' => ∃ r : Int32, v = some (.int r) ∧ 0 ≤ r.toInt ∧ r.toInt ≤ 1 ∧ Inv P g' ∧ Gr g' = Gr g) := by
  refine LW_ls (ls' := [some (.ref 0), some (.int x1), some (.int x2), none]) rfl ?_
  have hG : Gr g = Gr g := rfl
  refine X_aload_n rfl rfl rfl rfl ?_
  refine X_getR (a := 1) rfl rfl rfl ((congrFun V.1 0).trans s_0) rfl ((congrFun (V.2.1 0 (by decide)) 0).trans r_0_0) ?_
  refine X_getR (a := 2) rfl rfl rfl ((congrFun V.1 1).trans s_1) rfl ((congrFun (V.2.1 1 (by decide)) 0).trans r_1_0) ?_
  refine X_astore_n (i := 3) (ls' := [some (.ref 0), some (.int x1), some (.int x2), some (.ref 2)]) rfl rfl rfl (Nat.le_of_ble_eq_true rfl) rfl ?_
  refine X_aload_n rfl rfl rfl rfl ?_
  refine X_iload_n rfl rfl rfl rfl ?_
  refine X_callV (as := [.int x1]) (st := []) rfl rfl rfl (by decide) rfl (Nat.le_of_ble_eq_true rfl) (by decide) (Nat.le_of_ble_eq_true rfl) rfl ((congrFun V.1 2).trans s_2) (by decide) ?_
  refine LW_ls (ls' := [some (.ref 2), some (.int x1)]) rfl ?_
  refine X_iload_n rfl rfl rfl rfl ?_
  refine S_if_lt (tgt := 22) rfl rfl rfl hx1 (fun vh1 => ?_) (fun vh1 => ?_)
  · refine X_iconst (v := (0 : Int32)) rfl rfl rfl ?_
    refine LW_ireturn (st := []) rfl rfl rfl ?_
    refine S_if_eq (tgt := 29) rfl rfl rfl (show (0 : Int32).toInt = 0 from rfl) (fun vh2 => ?_) (fun q => absurd q (by omega))
    refine X_iconst (v := (0 : Int32)) rfl rfl rfl ?_
    exact LW_ireturn (st := []) rfl rfl rfl ⟨_, rfl, by decide, by decide, V, hG⟩
  · refine X_iload_n rfl rfl rfl rfl ?_
    refine X_aload_n rfl rfl rfl rfl ?_
    refine S_getI rfl rfl rfl ((congrFun V.1 2).trans s_2) rfl (fun vz3 evz3 => ?_)
    have vf4 := K_10_0 (V.2.2.2.2.1 (2) (0) (Nat.le_of_ble_eq_true rfl)) rk_2
    rw [evz3] at vf4
    refine S_icmp_ge (tgt := 22) rfl rfl rfl hx1 rfl (fun vh5 => ?_) (fun vh5 => ?_)
    · refine X_iconst (v := (0 : Int32)) rfl rfl rfl ?_
      refine LW_ireturn (st := []) rfl rfl rfl ?_
      refine S_if_eq (tgt := 29) rfl rfl rfl (show (0 : Int32).toInt = 0 from rfl) (fun vh6 => ?_) (fun q => absurd q (by omega))
      refine X_iconst (v := (0 : Int32)) rfl rfl rfl ?_
      exact LW_ireturn (st := []) rfl rfl rfl ⟨_, rfl, by decide, by decide, V, hG⟩
    · refine X_iload_n rfl rfl rfl rfl ?_
      refine X_bipush (v := (24 : Int32)) rfl rfl rfl ?_
      refine S_icmp_ge (tgt := 22) rfl rfl rfl hx1 (show (24 : Int32).toInt = 24 from rfl) (fun q => absurd q (by omega)) (fun vh7 => ?_)
      refine X_iconst (v := (1 : Int32)) rfl rfl rfl ?_
      refine LW_goto (tgt := 23) rfl rfl ?_
      refine LW_ireturn (st := []) rfl rfl rfl ?_
      refine S_if_eq (tgt := 29) rfl rfl rfl (show (1 : Int32).toInt = 1 from rfl) (fun q => absurd q (by omega)) (fun vh8 => ?_)
      refine X_aload_n rfl rfl rfl rfl ?_
      refine X_iload_n rfl rfl rfl rfl ?_
      refine X_callV (as := [.int x2]) (st := []) rfl rfl rfl (by decide) rfl (Nat.le_of_ble_eq_true rfl) (by decide) (Nat.le_of_ble_eq_true rfl) rfl ((congrFun V.1 2).trans s_2) (by decide) ?_
      refine LW_ls (ls' := [some (.ref 2), some (.int x2)]) rfl ?_
      refine X_iload_n rfl rfl rfl rfl ?_
      refine S_if_lt (tgt := 22) rfl rfl rfl hx2 (fun vh9 => ?_) (fun vh9 => ?_)
      · refine X_iconst (v := (0 : Int32)) rfl rfl rfl ?_
        refine LW_ireturn (st := []) rfl rfl rfl ?_
        refine S_if_eq (tgt := 29) rfl rfl rfl (show (0 : Int32).toInt = 0 from rfl) (fun vh10 => ?_) (fun q => absurd q (by omega))
        refine X_iconst (v := (0 : Int32)) rfl rfl rfl ?_
        exact LW_ireturn (st := []) rfl rfl rfl ⟨_, rfl, by decide, by decide, V, hG⟩
      · refine X_iload_n rfl rfl rfl rfl ?_
        refine X_aload_n rfl rfl rfl rfl ?_
        refine X_getI (v := vz3) rfl rfl rfl ((congrFun V.1 2).trans s_2) rfl evz3 ?_
        refine S_icmp_ge (tgt := 22) rfl rfl rfl hx2 rfl (fun vh11 => ?_) (fun vh11 => ?_)
        · refine X_iconst (v := (0 : Int32)) rfl rfl rfl ?_
          refine LW_ireturn (st := []) rfl rfl rfl ?_
          refine S_if_eq (tgt := 29) rfl rfl rfl (show (0 : Int32).toInt = 0 from rfl) (fun vh12 => ?_) (fun q => absurd q (by omega))
          refine X_iconst (v := (0 : Int32)) rfl rfl rfl ?_
          exact LW_ireturn (st := []) rfl rfl rfl ⟨_, rfl, by decide, by decide, V, hG⟩
        · refine X_iload_n rfl rfl rfl rfl ?_
          refine X_bipush (v := (24 : Int32)) rfl rfl rfl ?_
          refine S_icmp_ge (tgt := 22) rfl rfl rfl hx2 (show (24 : Int32).toInt = 24 from rfl) (fun q => absurd q (by omega)) (fun vh13 => ?_)
          refine X_iconst (v := (1 : Int32)) rfl rfl rfl ?_
          refine LW_goto (tgt := 23) rfl rfl ?_
          refine LW_ireturn (st := []) rfl rfl rfl ?_
          refine S_if_eq (tgt := 29) rfl rfl rfl (show (1 : Int32).toInt = 1 from rfl) (fun q => absurd q (by omega)) (fun vh14 => ?_)
          refine X_iload_n rfl rfl rfl rfl ?_
          refine X_iload_n rfl rfl rfl rfl ?_
          refine S_icmp_ne (tgt := 31) rfl rfl rfl hx1 hx2 (fun vh15 => ?_) (fun vh15 => ?_)
          · refine X_aload_n rfl rfl rfl rfl ?_
            refine X_getR (a := 349) rfl rfl rfl ((congrFun V.1 0).trans s_0) rfl ((congrFun (V.2.1 0 (by decide)) 8).trans r_0_8) ?_
            refine X_iload_n rfl rfl rfl rfl ?_
            refine X_iload_n rfl rfl rfl rfl ?_
            refine Y_callV (as := [.int x1, .int x2]) (st := []) rfl rfl rfl (by decide) rfl (Nat.le_of_ble_eq_true rfl) (by decide) (Nat.le_of_ble_eq_true rfl) rfl ((congrFun V.1 349).trans s_349) (by decide) (C_X7_alikeNow V x1 y1 hx1 (by omega) x2 y2 hx2 (by omega) (by rw [evz3]; omega) (by rw [evz3]; omega)) ?_
            rintro _ g ⟨vr16, rfl, hrvr160, hrvr161, V, hq⟩
            have hG := hq.trans hG
            have hr := (rfl : vr16.toInt = vr16.toInt)
            exact LW_ireturn (st := []) rfl rfl (nbool rfl (by omega)) ⟨_, rfl, by omega, by omega, V, hG⟩
          · refine X_iconst (v := (0 : Int32)) rfl rfl rfl ?_
            exact LW_ireturn (st := []) rfl rfl rfl ⟨_, rfl, by decide, by decide, V, hG⟩
