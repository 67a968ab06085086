/-! the class's methods: each returns and keeps what every state keeps -/
set_option maxRecDepth 10000 in
set_option maxHeartbeats 40000000 in
theorem C_X12_raise {P : Par} {g : LH} {d : Nat}  (V : Inv P g) (x1 : Int32) (y1 : Int) (hx1 : x1.toInt = y1) (x2 : Int32) (y2 : Int) (hx2 : x2.toInt = y2)   : LW 137 (d + 11) 0 0 0 (lEnt (mL 137) [.ref 0, .int x1, .int x2]) [] g (fun v g' => ∃ r : Int32, v = some (.int r) ∧ 0 ≤ r.toInt ∧ r.toInt ≤ 1 ∧ Inv P g' ∧ Gr g' = Gr g) := by
  refine LW_ls (ls' := [some (.ref 0), some (.int x1), some (.int x2)]) rfl ?_
  have hG : Gr g = Gr g := rfl
  refine X_iload_n rfl rfl rfl rfl ?_
  refine X_callS (as := [.int x1]) (st := []) rfl rfl rfl (by decide) rfl (Nat.le_of_ble_eq_true rfl) (by decide) (Nat.le_of_ble_eq_true rfl) rfl ?_
  refine LW_ls (ls' := [some (.int x1)]) rfl ?_
  refine X_iload_n rfl rfl rfl rfl ?_
  refine S_if_lt (tgt := 14) rfl rfl rfl hx1 (fun vh1 => ?_) (fun vh1 => ?_)
  · refine X_iconst (v := (0 : Int32)) rfl rfl rfl ?_
    refine LW_ireturn (st := []) rfl rfl rfl ?_
    refine S_if_eq (tgt := 33) rfl rfl rfl (show (0 : Int32).toInt = 0 from rfl) (fun vh2 => ?_) (fun q => absurd q (by omega))
    refine X_iconst (v := (0 : Int32)) rfl rfl rfl ?_
    exact LW_ireturn (st := []) rfl rfl rfl ⟨_, rfl, by decide, by decide, V, hG⟩
  · refine X_iload_n rfl rfl rfl rfl ?_
    refine X_bipush (v := (26 : Int32)) rfl rfl rfl ?_
    refine S_icmp_ge (tgt := 14) rfl rfl rfl hx1 (show (26 : Int32).toInt = 26 from rfl) (fun vh3 => ?_) (fun vh3 => ?_)
    · refine X_iconst (v := (0 : Int32)) rfl rfl rfl ?_
      refine LW_ireturn (st := []) rfl rfl rfl ?_
      refine S_if_eq (tgt := 33) rfl rfl rfl (show (0 : Int32).toInt = 0 from rfl) (fun vh4 => ?_) (fun q => absurd q (by omega))
      refine X_iconst (v := (0 : Int32)) rfl rfl rfl ?_
      exact LW_ireturn (st := []) rfl rfl rfl ⟨_, rfl, by decide, by decide, V, hG⟩
    · refine X_iconst (v := (1 : Int32)) rfl rfl rfl ?_
      refine LW_goto (tgt := 15) rfl rfl ?_
      refine LW_ireturn (st := []) rfl rfl rfl ?_
      refine S_if_eq (tgt := 33) rfl rfl rfl (show (1 : Int32).toInt = 1 from rfl) (fun q => absurd q (by omega)) (fun vh5 => ?_)
      refine X_iload_n rfl rfl rfl rfl ?_
      refine S_if_lt (tgt := 33) rfl rfl rfl hx2 (fun vh6 => ?_) (fun vh6 => ?_)
      · refine X_iconst (v := (0 : Int32)) rfl rfl rfl ?_
        exact LW_ireturn (st := []) rfl rfl rfl ⟨_, rfl, by decide, by decide, V, hG⟩
      · refine X_iload_n rfl rfl rfl rfl ?_
        refine X_bipush (v := (99 : Int32)) rfl rfl rfl ?_
        refine S_icmp_gt (tgt := 33) rfl rfl rfl hx2 (show (99 : Int32).toInt = 99 from rfl) (fun vh7 => ?_) (fun vh7 => ?_)
        · refine X_iconst (v := (0 : Int32)) rfl rfl rfl ?_
          exact LW_ireturn (st := []) rfl rfl rfl ⟨_, rfl, by decide, by decide, V, hG⟩
        · refine X_aload_n rfl rfl rfl rfl ?_
          refine X_getR (a := 342) rfl rfl rfl ((congrFun V.1 0).trans s_0) rfl ((congrFun (V.2.1 0 (by decide)) 6).trans r_0_6) ?_
          refine X_iload_n rfl rfl rfl rfl ?_
          refine X_iload_n rfl rfl rfl rfl ?_
          refine Y_callV (as := [.int x1, .int x2]) (st := []) rfl rfl rfl (by decide) rfl (Nat.le_of_ble_eq_true rfl) (by decide) (Nat.le_of_ble_eq_true rfl) rfl ((congrFun V.1 342).trans s_342) (by decide) (C_X1_setWage V x1 y1 hx1 (by omega) x2 y2 hx2 (by omega) ) ?_
          rintro _ g ⟨vr8, rfl, hrvr80, hrvr81, V, hq⟩
          have hG := hq.trans hG
          refine S_if_eq (tgt := 33) rfl rfl rfl rfl (fun vh9 => ?_) (fun vh9 => ?_)
          · refine X_iconst (v := (0 : Int32)) rfl rfl rfl ?_
            exact LW_ireturn (st := []) rfl rfl rfl ⟨_, rfl, by decide, by decide, V, hG⟩
          · refine X_iconst (v := (1 : Int32)) rfl rfl rfl ?_
            refine LW_goto (tgt := 34) rfl rfl ?_
            exact LW_ireturn (st := []) rfl rfl rfl ⟨_, rfl, by decide, by decide, V, hG⟩
set_option maxRecDepth 10000 in
set_option maxHeartbeats 40000000 in
theorem C_X1_putSign {P : Par} {g : LH} {d : Nat}  (V : Inv P g) (x1 : Int32) (y1 : Int) (hx1 : x1.toInt = y1) (hf1 : 0 ≤ y1 ∧ y1 ≤ 25) (x2 : Int32) (y2 : Int) (hx2 : x2.toInt = y2)   : LW 10 (d + 6) 0 0 0 (lEnt (mL 10) [.ref 342, .int x1, .int x2]) [] g (fun v g' => ∃ r : Int32, v = some (.int r) ∧ 0 ≤ r.toInt ∧ r.toInt ≤ 1 ∧ Inv P g' ∧ Gr g' = Gr g) := by
  refine LW_ls (ls' := [some (.ref 342), some (.int x1), some (.int x2)]) rfl ?_
  have hG : Gr g = Gr g := rfl
  refine X_aload_n rfl rfl rfl rfl ?_
  refine X_getR (a := 10) rfl rfl rfl ((congrFun V.1 342).trans s_342) rfl ((congrFun (V.2.1 342 (by decide)) 1).trans r_342_1) ?_
  refine X_getR (a := 13) rfl rfl rfl ((congrFun V.1 10).trans s_10) rfl ((congrFun (V.2.1 10 (by decide)) 6).trans r_10_6) ?_
  refine X_iload_n rfl rfl rfl rfl ?_
  refine S_iald rfl rfl ((congrFun V.1 13).trans s_13) hx1 (by omega) (fun vz1 evz1 => ?_)
  refine X_iload_n rfl rfl rfl rfl ?_
  refine S_icmp_ne (tgt := 15) rfl rfl rfl rfl hx2 (fun vh2 => ?_) (fun vh2 => ?_)
  · refine X_aload_n rfl rfl rfl rfl ?_
    refine X_getR (a := 1) rfl rfl rfl ((congrFun V.1 342).trans s_342) rfl ((congrFun (V.2.1 342 (by decide)) 0).trans r_342_0) ?_
    refine X_getR (a := 14) rfl rfl rfl ((congrFun V.1 1).trans s_1) rfl ((congrFun (V.2.1 1 (by decide)) 2).trans r_1_2) ?_
    refine X_aload_n rfl rfl rfl rfl ?_
    refine X_getR (a := 10) rfl rfl rfl ((congrFun V.1 342).trans s_342) rfl ((congrFun (V.2.1 342 (by decide)) 1).trans r_342_1) ?_
    refine X_callV (as := [.ref 10]) (st := []) rfl rfl rfl (by decide) rfl (Nat.le_of_ble_eq_true rfl) (by decide) (Nat.le_of_ble_eq_true rfl) rfl ((congrFun V.1 14).trans s_14) (by decide) ?_
    refine LW_ls (ls' := [some (.ref 14), some (.ref 10)]) rfl ?_
    refine X_aload_n rfl rfl rfl rfl ?_
    refine S_getI rfl rfl rfl ((congrFun V.1 14).trans s_14) rfl (fun vz3 evz3 => ?_)
    have vf4 := K_12_0 (V.2.2.2.2.1 (14) (0) (Nat.le_of_ble_eq_true rfl)) rk_14
    rw [evz3] at vf4
    refine X_bipush (v := (30 : Int32)) rfl rfl rfl ?_
    refine S_icmp_ne (tgt := 32) rfl rfl rfl rfl (show (30 : Int32).toInt = 30 from rfl) (fun vh5 => ?_) (fun vh5 => ?_)
    · refine X_aload_n rfl rfl rfl rfl ?_
      refine X_getR (a := 15) rfl rfl rfl ((congrFun V.1 14).trans s_14) rfl ((congrFun (V.2.1 14 (by decide)) 2).trans r_14_2) ?_
      refine X_aload_n rfl rfl rfl rfl ?_
      refine S_getI rfl rfl rfl ((congrFun V.1 14).trans s_14) rfl (fun vz6 evz6 => ?_)
      have vf7 := K_12_1 (V.2.2.2.2.1 (14) (1) (Nat.le_of_ble_eq_true rfl)) rk_14
      rw [evz6] at vf7
      refine X_aload_n rfl rfl rfl rfl ?_
      refine X_getI (v := vz3) rfl rfl rfl ((congrFun V.1 14).trans s_14) rfl evz3 ?_
      refine S_iadd rfl rfl rfl rfl (by omega) (fun vz8 hvz8 => ?_)
      refine X_bipush (v := (30 : Int32)) rfl rfl rfl ?_
      refine S_irem rfl rfl rfl (show (30 : Int32).toInt = 30 from rfl) (by omega) (by omega) (fun vz9 hvz9 => ?_)
      obtain ⟨t, ht, et⟩ : ∃ t : Nat, t < 30 ∧ (t : Int) = vz9.toInt := ⟨(vz9.toInt : Int).toNat, by omega, by omega⟩
      refine X_aald (a := 16 + 4 * t) (t0 := 3) rfl rfl ((congrFun V.1 15).trans s_15) rfl (ti_idx (n := 30) rfl (by omega)).1 (by rw [(ti_idx (n := 30) rfl (by omega)).2, show (vz9.toInt : Int).toNat = t by omega]; exact (congrFun (V.2.1 15 (by decide)) t).trans (sp_a t ht)) ?_
      refine X_aload_n rfl rfl rfl rfl ?_
      refine X_callV (as := [.ref 10]) (st := []) rfl rfl rfl (by decide) rfl (Nat.le_of_ble_eq_true rfl) (by decide) (Nat.le_of_ble_eq_true rfl) rfl ((congrFun V.1 _).trans (sp_s t ht)) (by decide) ?_
      refine LW_ls (ls' := [some (.ref (16 + 4 * t)), some (.ref 10)]) rfl ?_
      refine X_aload_n rfl rfl rfl rfl ?_
      refine X_aload_n rfl rfl rfl rfl ?_
      refine S_getI rfl rfl rfl ((congrFun V.1 10).trans s_10) rfl (fun vz10 evz10 => ?_)
      refine S_putI (I := Inv _) rfl rfl rfl ((congrFun V.1 _).trans (sp_s t ht)) rfl rfl rfl rfl (Inv_putI V (by omega) (Or.inl (by omega)) (Q_11_0 (sp_k t ht))) (fun g V ve11 vn12 hq => ?_)
      have hG := hq.trans hG
      have evz1 := (vn12 (13) ((y1 : Int).toNat) (Or.inl (by omega))).trans evz1
      have evz3 := (vn12 (14) 0 (Or.inl (by omega))).trans evz3
      have evz6 := (vn12 (14) 1 (Or.inl (by omega))).trans evz6
      have evz10 := (vn12 (10) 0 (Or.inl (by omega))).trans evz10
      refine X_aload_n rfl rfl rfl rfl ?_
      refine X_aload_n rfl rfl rfl rfl ?_
      refine S_getI rfl rfl rfl ((congrFun V.1 10).trans s_10) rfl (fun vz13 evz13 => ?_)
      refine S_putI (I := Inv _) rfl rfl rfl ((congrFun V.1 _).trans (sp_s t ht)) rfl rfl rfl rfl (Inv_putI V (by omega) (Or.inl (by omega)) (Q_11_1 (sp_k t ht))) (fun g V ve14 vn15 hq => ?_)
      have hG := hq.trans hG
      have evz1 := (vn15 (13) ((y1 : Int).toNat) (Or.inl (by omega))).trans evz1
      have evz3 := (vn15 (14) 0 (Or.inl (by omega))).trans evz3
      have evz6 := (vn15 (14) 1 (Or.inl (by omega))).trans evz6
      have evz10 := (vn15 (10) 0 (Or.inl (by omega))).trans evz10
      have ve11 := (vn15 (16 + 4 * t) 0 (Or.inr (by decide))).trans ve11
      have evz13 := (vn15 (10) 1 (Or.inl (by omega))).trans evz13
      refine X_aload_n rfl rfl rfl rfl ?_
      refine X_aload_n rfl rfl rfl rfl ?_
      refine S_getI rfl rfl rfl ((congrFun V.1 10).trans s_10) rfl (fun vz16 evz16 => ?_)
      refine S_putI (I := Inv _) rfl rfl rfl ((congrFun V.1 _).trans (sp_s t ht)) rfl rfl rfl rfl (Inv_putI V (by omega) (Or.inl (by omega)) (Q_11_2 (sp_k t ht))) (fun g V ve17 vn18 hq => ?_)
      have hG := hq.trans hG
      have evz1 := (vn18 (13) ((y1 : Int).toNat) (Or.inl (by omega))).trans evz1
      have evz3 := (vn18 (14) 0 (Or.inl (by omega))).trans evz3
      have evz6 := (vn18 (14) 1 (Or.inl (by omega))).trans evz6
      have evz10 := (vn18 (10) 0 (Or.inl (by omega))).trans evz10
      have ve11 := (vn18 (16 + 4 * t) 0 (Or.inr (by decide))).trans ve11
      have evz13 := (vn18 (10) 1 (Or.inl (by omega))).trans evz13
      have ve14 := (vn18 (16 + 4 * t) 1 (Or.inr (by decide))).trans ve14
      have evz16 := (vn18 (10) 2 (Or.inl (by omega))).trans evz16
      refine X_aload_n rfl rfl rfl rfl ?_
      refine X_aload_n rfl rfl rfl rfl ?_
      refine S_getI rfl rfl rfl ((congrFun V.1 10).trans s_10) rfl (fun vz19 evz19 => ?_)
      have vf20 := K_11_3 (V.2.2.2.2.1 (10) (3) (Nat.le_of_ble_eq_true rfl)) rk_10
      rw [evz19] at vf20
      refine S_putI (I := Inv _) rfl rfl rfl ((congrFun V.1 _).trans (sp_s t ht)) rfl rfl rfl rfl (Inv_putI V (by omega) (Or.inl (by omega)) (Q_11_3 (sp_k t ht) (by omega))) (fun g V ve21 vn22 hq => ?_)
      have hG := hq.trans hG
      have evz1 := (vn22 (13) ((y1 : Int).toNat) (Or.inl (by omega))).trans evz1
      have evz3 := (vn22 (14) 0 (Or.inl (by omega))).trans evz3
      have evz6 := (vn22 (14) 1 (Or.inl (by omega))).trans evz6
      have evz10 := (vn22 (10) 0 (Or.inl (by omega))).trans evz10
      have ve11 := (vn22 (16 + 4 * t) 0 (Or.inr (by decide))).trans ve11
      have evz13 := (vn22 (10) 1 (Or.inl (by omega))).trans evz13
      have ve14 := (vn22 (16 + 4 * t) 1 (Or.inr (by decide))).trans ve14
      have evz16 := (vn22 (10) 2 (Or.inl (by omega))).trans evz16
      have ve17 := (vn22 (16 + 4 * t) 2 (Or.inr (by decide))).trans ve17
      have evz19 := (vn22 (10) 3 (Or.inl (by omega))).trans evz19
      refine X_aload_n rfl rfl rfl rfl ?_
      refine X_getR (a := 11) rfl rfl rfl ((congrFun V.1 10).trans s_10) rfl ((congrFun (V.2.1 10 (by decide)) 4).trans r_10_4) ?_
      refine X_iconst (v := (0 : Int32)) rfl rfl rfl ?_
      refine X_aload_n rfl rfl rfl rfl ?_
      refine X_getR (a := 17 + 4 * t) rfl rfl rfl ((congrFun V.1 _).trans (sp_s t ht)) rfl ((congrFun (V.2.1 (16 + 4 * t) (by omega)) 4).trans (sp_r4 t ht)) ?_
      refine X_iconst (v := (0 : Int32)) rfl rfl rfl ?_
      refine X_bipush (v := (26 : Int32)) rfl rfl rfl ?_
      refine S_copy (I := Inv _) (sp' := 0) (dp' := 0) (n' := 26) rfl rfl rfl ((congrFun V.1 11).trans s_11) ((congrFun V.1 _).trans (sp_s4 t ht)) (by decide) (by decide) (by decide) rfl rfl rfl (by decide) (by decide) (Nat.le_of_ble_eq_true rfl) (Inv_cpy V (Nat.le_of_ble_eq_true rfl) (by omega) (by omega) (U_0 rk_11 (sp_k4 t ht))) (fun g V vn23 hq => ?_)
      have hG := hq.trans hG
      have evz3 := (vn23 (14) 0 (by omega)).trans evz3
      have evz6 := (vn23 (14) 1 (by omega)).trans evz6
      have evz10 := (vn23 (10) 0 (by omega)).trans evz10
      have ve11 := (vn23 (16 + 4 * t) 0 (by omega)).trans ve11
      have evz13 := (vn23 (10) 1 (by omega)).trans evz13
      have ve14 := (vn23 (16 + 4 * t) 1 (by omega)).trans ve14
      have evz16 := (vn23 (10) 2 (by omega)).trans evz16
      have ve17 := (vn23 (16 + 4 * t) 2 (by omega)).trans ve17
      have evz19 := (vn23 (10) 3 (by omega)).trans evz19
      have ve21 := (vn23 (16 + 4 * t) 3 (by omega)).trans ve21
      refine X_aload_n rfl rfl rfl rfl ?_
      refine X_getR (a := 12) rfl rfl rfl ((congrFun V.1 10).trans s_10) rfl ((congrFun (V.2.1 10 (by decide)) 5).trans r_10_5) ?_
      refine X_iconst (v := (0 : Int32)) rfl rfl rfl ?_
      refine X_aload_n rfl rfl rfl rfl ?_
      refine X_getR (a := 18 + 4 * t) rfl rfl rfl ((congrFun V.1 _).trans (sp_s t ht)) rfl ((congrFun (V.2.1 (16 + 4 * t) (by omega)) 5).trans (sp_r5 t ht)) ?_
      refine X_iconst (v := (0 : Int32)) rfl rfl rfl ?_
      refine X_bipush (v := (26 : Int32)) rfl rfl rfl ?_
      refine S_copy (I := Inv _) (sp' := 0) (dp' := 0) (n' := 26) rfl rfl rfl ((congrFun V.1 12).trans s_12) ((congrFun V.1 _).trans (sp_s5 t ht)) (by decide) (by decide) (by decide) rfl rfl rfl (by decide) (by decide) (Nat.le_of_ble_eq_true rfl) (Inv_cpy V (Nat.le_of_ble_eq_true rfl) (by omega) (by omega) (U_0 rk_12 (sp_k5 t ht))) (fun g V vn24 hq => ?_)
      have hG := hq.trans hG
      have evz3 := (vn24 (14) 0 (by omega)).trans evz3
      have evz6 := (vn24 (14) 1 (by omega)).trans evz6
      have evz10 := (vn24 (10) 0 (by omega)).trans evz10
      have ve11 := (vn24 (16 + 4 * t) 0 (by omega)).trans ve11
      have evz13 := (vn24 (10) 1 (by omega)).trans evz13
      have ve14 := (vn24 (16 + 4 * t) 1 (by omega)).trans ve14
      have evz16 := (vn24 (10) 2 (by omega)).trans evz16
      have ve17 := (vn24 (16 + 4 * t) 2 (by omega)).trans ve17
      have evz19 := (vn24 (10) 3 (by omega)).trans evz19
      have ve21 := (vn24 (16 + 4 * t) 3 (by omega)).trans ve21
      refine X_aload_n rfl rfl rfl rfl ?_
      refine X_getR (a := 13) rfl rfl rfl ((congrFun V.1 10).trans s_10) rfl ((congrFun (V.2.1 10 (by decide)) 6).trans r_10_6) ?_
      refine X_iconst (v := (0 : Int32)) rfl rfl rfl ?_
      refine X_aload_n rfl rfl rfl rfl ?_
      refine X_getR (a := 19 + 4 * t) rfl rfl rfl ((congrFun V.1 _).trans (sp_s t ht)) rfl ((congrFun (V.2.1 (16 + 4 * t) (by omega)) 6).trans (sp_r6 t ht)) ?_
      refine X_iconst (v := (0 : Int32)) rfl rfl rfl ?_
      refine X_bipush (v := (26 : Int32)) rfl rfl rfl ?_
      refine S_copy (I := Inv _) (sp' := 0) (dp' := 0) (n' := 26) rfl rfl rfl ((congrFun V.1 13).trans s_13) ((congrFun V.1 _).trans (sp_s6 t ht)) (by decide) (by decide) (by decide) rfl rfl rfl (by decide) (by decide) (Nat.le_of_ble_eq_true rfl) (Inv_cpy V (Nat.le_of_ble_eq_true rfl) (by omega) (by omega) (U_0 rk_13 (sp_k6 t ht))) (fun g V vn25 hq => ?_)
      have hG := hq.trans hG
      have evz3 := (vn25 (14) 0 (by omega)).trans evz3
      have evz6 := (vn25 (14) 1 (by omega)).trans evz6
      have evz10 := (vn25 (10) 0 (by omega)).trans evz10
      have ve11 := (vn25 (16 + 4 * t) 0 (by omega)).trans ve11
      have evz13 := (vn25 (10) 1 (by omega)).trans evz13
      have ve14 := (vn25 (16 + 4 * t) 1 (by omega)).trans ve14
      have evz16 := (vn25 (10) 2 (by omega)).trans evz16
      have ve17 := (vn25 (16 + 4 * t) 2 (by omega)).trans ve17
      have evz19 := (vn25 (10) 3 (by omega)).trans evz19
      have ve21 := (vn25 (16 + 4 * t) 3 (by omega)).trans ve21
      refine LW_return (st := []) rfl rfl ?_
      refine X_aload_n rfl rfl rfl rfl ?_
      refine X_dup rfl rfl rfl ?_
      refine X_getI (v := vz3) rfl rfl rfl ((congrFun V.1 14).trans s_14) rfl evz3 ?_
      refine X_iconst (v := (1 : Int32)) rfl rfl rfl ?_
      refine S_iadd rfl rfl rfl (show (1 : Int32).toInt = 1 from rfl) (by omega) (fun vz26 hvz26 => ?_)
      refine S_putI (I := Inv _) rfl rfl rfl ((congrFun V.1 14).trans s_14) rfl rfl rfl rfl (Inv_putI V (Nat.le_of_ble_eq_true rfl) (Or.inl (by decide)) (Q_12_0 rk_14 (by omega))) (fun g V ve27 vn28 hq => ?_)
      have hG := hq.trans hG
      have evz6 := (vn28 (14) 1 (Or.inr (by decide))).trans evz6
      have evz10 := (vn28 (10) 0 (Or.inl (by decide))).trans evz10
      have ve11 := (vn28 (16 + 4 * t) 0 (Or.inl (by omega))).trans ve11
      have evz13 := (vn28 (10) 1 (Or.inl (by decide))).trans evz13
      have ve14 := (vn28 (16 + 4 * t) 1 (Or.inl (by omega))).trans ve14
      have evz16 := (vn28 (10) 2 (Or.inl (by decide))).trans evz16
      have ve17 := (vn28 (16 + 4 * t) 2 (Or.inl (by omega))).trans ve17
      have evz19 := (vn28 (10) 3 (Or.inl (by decide))).trans evz19
      have ve21 := (vn28 (16 + 4 * t) 3 (Or.inl (by omega))).trans ve21
      refine LW_return (st := []) rfl rfl ?_
      refine X_aload_n rfl rfl rfl rfl ?_
      refine X_getR (a := 10) rfl rfl rfl ((congrFun V.1 342).trans s_342) rfl ((congrFun (V.2.1 342 (by decide)) 1).trans r_342_1) ?_
      refine X_getR (a := 13) rfl rfl rfl ((congrFun V.1 10).trans s_10) rfl ((congrFun (V.2.1 10 (by decide)) 6).trans r_10_6) ?_
      refine X_iload_n rfl rfl rfl rfl ?_
      refine X_iload_n rfl rfl rfl rfl ?_
      refine S_iast (I := Inv _) rfl rfl ((congrFun V.1 13).trans s_13) hx1 (by omega) (Inv_putI V (Nat.le_of_ble_eq_true rfl) (Or.inl (by decide)) (Q_0 rk_13)) (fun g V ve29 vn30 hq => ?_)
      have hG := hq.trans hG
      have evz6 := (vn30 (14) 1 (Or.inl (by decide))).trans evz6
      have evz10 := (vn30 (10) 0 (Or.inl (by decide))).trans evz10
      have ve11 := (vn30 (16 + 4 * t) 0 (Or.inl (by omega))).trans ve11
      have evz13 := (vn30 (10) 1 (Or.inl (by decide))).trans evz13
      have ve14 := (vn30 (16 + 4 * t) 1 (Or.inl (by omega))).trans ve14
      have evz16 := (vn30 (10) 2 (Or.inl (by decide))).trans evz16
      have ve17 := (vn30 (16 + 4 * t) 2 (Or.inl (by omega))).trans ve17
      have evz19 := (vn30 (10) 3 (Or.inl (by decide))).trans evz19
      have ve21 := (vn30 (16 + 4 * t) 3 (Or.inl (by omega))).trans ve21
      have ve27 := (vn30 (14) 0 (Or.inl (by decide))).trans ve27
      refine X_iconst (v := (1 : Int32)) rfl rfl rfl ?_
      exact LW_ireturn (st := []) rfl rfl rfl ⟨_, rfl, by decide, by decide, V, hG⟩
    · refine X_aload_n rfl rfl rfl rfl ?_
      refine X_aload_n rfl rfl rfl rfl ?_
      refine S_getI rfl rfl rfl ((congrFun V.1 14).trans s_14) rfl (fun vz31 evz31 => ?_)
      have vf32 := K_12_1 (V.2.2.2.2.1 (14) (1) (Nat.le_of_ble_eq_true rfl)) rk_14
      rw [evz31] at vf32
      refine X_iconst (v := (1 : Int32)) rfl rfl rfl ?_
      refine S_iadd rfl rfl rfl (show (1 : Int32).toInt = 1 from rfl) (by omega) (fun vz33 hvz33 => ?_)
      refine X_bipush (v := (30 : Int32)) rfl rfl rfl ?_
      refine S_irem rfl rfl rfl (show (30 : Int32).toInt = 30 from rfl) (by omega) (by omega) (fun vz34 hvz34 => ?_)
      refine S_putI (I := Inv _) rfl rfl rfl ((congrFun V.1 14).trans s_14) rfl rfl rfl rfl (Inv_putI V (Nat.le_of_ble_eq_true rfl) (Or.inl (by decide)) (Q_12_1 rk_14 (by omega))) (fun g V ve35 vn36 hq => ?_)
      have hG := hq.trans hG
      have evz1 := (vn36 (13) ((y1 : Int).toNat) (Or.inl (by decide))).trans evz1
      have evz3 := (vn36 (14) 0 (Or.inr (by decide))).trans evz3
      refine X_aload_n rfl rfl rfl rfl ?_
      refine X_dup rfl rfl rfl ?_
      refine X_getI (v := vz3) rfl rfl rfl ((congrFun V.1 14).trans s_14) rfl evz3 ?_
      refine X_iconst (v := (1 : Int32)) rfl rfl rfl ?_
      refine S_isub rfl rfl rfl (show (1 : Int32).toInt = 1 from rfl) (by omega) (fun vz37 hvz37 => ?_)
      refine S_putI (I := Inv _) rfl rfl rfl ((congrFun V.1 14).trans s_14) rfl rfl rfl rfl (Inv_putI V (Nat.le_of_ble_eq_true rfl) (Or.inl (by decide)) (Q_12_0 rk_14 (by omega))) (fun g V ve38 vn39 hq => ?_)
      have hG := hq.trans hG
      have evz1 := (vn39 (13) ((y1 : Int).toNat) (Or.inl (by decide))).trans evz1
      have ve35 := (vn39 (14) 1 (Or.inr (by decide))).trans ve35
      refine X_aload_n rfl rfl rfl rfl ?_
      refine X_getR (a := 15) rfl rfl rfl ((congrFun V.1 14).trans s_14) rfl ((congrFun (V.2.1 14 (by decide)) 2).trans r_14_2) ?_
      refine X_aload_n rfl rfl rfl rfl ?_
      refine X_getI (v := vz34) rfl rfl rfl ((congrFun V.1 14).trans s_14) rfl ve35 ?_
      refine X_aload_n rfl rfl rfl rfl ?_
      refine X_getI (v := vz37) rfl rfl rfl ((congrFun V.1 14).trans s_14) rfl ve38 ?_
      refine S_iadd rfl rfl rfl rfl (by omega) (fun vz40 hvz40 => ?_)
      refine X_bipush (v := (30 : Int32)) rfl rfl rfl ?_
      refine S_irem rfl rfl rfl (show (30 : Int32).toInt = 30 from rfl) (by omega) (by omega) (fun vz41 hvz41 => ?_)
      obtain ⟨t, ht, et⟩ : ∃ t : Nat, t < 30 ∧ (t : Int) = vz41.toInt := ⟨(vz41.toInt : Int).toNat, by omega, by omega⟩
      refine X_aald (a := 16 + 4 * t) (t0 := 3) rfl rfl ((congrFun V.1 15).trans s_15) rfl (ti_idx (n := 30) rfl (by omega)).1 (by rw [(ti_idx (n := 30) rfl (by omega)).2, show (vz41.toInt : Int).toNat = t by omega]; exact (congrFun (V.2.1 15 (by decide)) t).trans (sp_a t ht)) ?_
      refine X_aload_n rfl rfl rfl rfl ?_
      refine X_callV (as := [.ref 10]) (st := []) rfl rfl rfl (by decide) rfl (Nat.le_of_ble_eq_true rfl) (by decide) (Nat.le_of_ble_eq_true rfl) rfl ((congrFun V.1 _).trans (sp_s t ht)) (by decide) ?_
      refine LW_ls (ls' := [some (.ref (16 + 4 * t)), some (.ref 10)]) rfl ?_
      refine X_aload_n rfl rfl rfl rfl ?_
      refine X_aload_n rfl rfl rfl rfl ?_
      refine S_getI rfl rfl rfl ((congrFun V.1 10).trans s_10) rfl (fun vz42 evz42 => ?_)
      refine S_putI (I := Inv _) rfl rfl rfl ((congrFun V.1 _).trans (sp_s t ht)) rfl rfl rfl rfl (Inv_putI V (by omega) (Or.inl (by omega)) (Q_11_0 (sp_k t ht))) (fun g V ve43 vn44 hq => ?_)
      have hG := hq.trans hG
      have evz1 := (vn44 (13) ((y1 : Int).toNat) (Or.inl (by omega))).trans evz1
      have ve35 := (vn44 (14) 1 (Or.inl (by omega))).trans ve35
      have ve38 := (vn44 (14) 0 (Or.inl (by omega))).trans ve38
      have evz42 := (vn44 (10) 0 (Or.inl (by omega))).trans evz42
      refine X_aload_n rfl rfl rfl rfl ?_
      refine X_aload_n rfl rfl rfl rfl ?_
      refine S_getI rfl rfl rfl ((congrFun V.1 10).trans s_10) rfl (fun vz45 evz45 => ?_)
      refine S_putI (I := Inv _) rfl rfl rfl ((congrFun V.1 _).trans (sp_s t ht)) rfl rfl rfl rfl (Inv_putI V (by omega) (Or.inl (by omega)) (Q_11_1 (sp_k t ht))) (fun g V ve46 vn47 hq => ?_)
      have hG := hq.trans hG
      have evz1 := (vn47 (13) ((y1 : Int).toNat) (Or.inl (by omega))).trans evz1
      have ve35 := (vn47 (14) 1 (Or.inl (by omega))).trans ve35
      have ve38 := (vn47 (14) 0 (Or.inl (by omega))).trans ve38
      have evz42 := (vn47 (10) 0 (Or.inl (by omega))).trans evz42
      have ve43 := (vn47 (16 + 4 * t) 0 (Or.inr (by decide))).trans ve43
      have evz45 := (vn47 (10) 1 (Or.inl (by omega))).trans evz45
      refine X_aload_n rfl rfl rfl rfl ?_
      refine X_aload_n rfl rfl rfl rfl ?_
      refine S_getI rfl rfl rfl ((congrFun V.1 10).trans s_10) rfl (fun vz48 evz48 => ?_)
      refine S_putI (I := Inv _) rfl rfl rfl ((congrFun V.1 _).trans (sp_s t ht)) rfl rfl rfl rfl (Inv_putI V (by omega) (Or.inl (by omega)) (Q_11_2 (sp_k t ht))) (fun g V ve49 vn50 hq => ?_)
      have hG := hq.trans hG
      have evz1 := (vn50 (13) ((y1 : Int).toNat) (Or.inl (by omega))).trans evz1
      have ve35 := (vn50 (14) 1 (Or.inl (by omega))).trans ve35
      have ve38 := (vn50 (14) 0 (Or.inl (by omega))).trans ve38
      have evz42 := (vn50 (10) 0 (Or.inl (by omega))).trans evz42
      have ve43 := (vn50 (16 + 4 * t) 0 (Or.inr (by decide))).trans ve43
      have evz45 := (vn50 (10) 1 (Or.inl (by omega))).trans evz45
      have ve46 := (vn50 (16 + 4 * t) 1 (Or.inr (by decide))).trans ve46
      have evz48 := (vn50 (10) 2 (Or.inl (by omega))).trans evz48
      refine X_aload_n rfl rfl rfl rfl ?_
      refine X_aload_n rfl rfl rfl rfl ?_
      refine S_getI rfl rfl rfl ((congrFun V.1 10).trans s_10) rfl (fun vz51 evz51 => ?_)
      have vf52 := K_11_3 (V.2.2.2.2.1 (10) (3) (Nat.le_of_ble_eq_true rfl)) rk_10
      rw [evz51] at vf52
      refine S_putI (I := Inv _) rfl rfl rfl ((congrFun V.1 _).trans (sp_s t ht)) rfl rfl rfl rfl (Inv_putI V (by omega) (Or.inl (by omega)) (Q_11_3 (sp_k t ht) (by omega))) (fun g V ve53 vn54 hq => ?_)
      have hG := hq.trans hG
      have evz1 := (vn54 (13) ((y1 : Int).toNat) (Or.inl (by omega))).trans evz1
      have ve35 := (vn54 (14) 1 (Or.inl (by omega))).trans ve35
      have ve38 := (vn54 (14) 0 (Or.inl (by omega))).trans ve38
      have evz42 := (vn54 (10) 0 (Or.inl (by omega))).trans evz42
      have ve43 := (vn54 (16 + 4 * t) 0 (Or.inr (by decide))).trans ve43
      have evz45 := (vn54 (10) 1 (Or.inl (by omega))).trans evz45
      have ve46 := (vn54 (16 + 4 * t) 1 (Or.inr (by decide))).trans ve46
      have evz48 := (vn54 (10) 2 (Or.inl (by omega))).trans evz48
      have ve49 := (vn54 (16 + 4 * t) 2 (Or.inr (by decide))).trans ve49
      have evz51 := (vn54 (10) 3 (Or.inl (by omega))).trans evz51
      refine X_aload_n rfl rfl rfl rfl ?_
      refine X_getR (a := 11) rfl rfl rfl ((congrFun V.1 10).trans s_10) rfl ((congrFun (V.2.1 10 (by decide)) 4).trans r_10_4) ?_
      refine X_iconst (v := (0 : Int32)) rfl rfl rfl ?_
      refine X_aload_n rfl rfl rfl rfl ?_
      refine X_getR (a := 17 + 4 * t) rfl rfl rfl ((congrFun V.1 _).trans (sp_s t ht)) rfl ((congrFun (V.2.1 (16 + 4 * t) (by omega)) 4).trans (sp_r4 t ht)) ?_
      refine X_iconst (v := (0 : Int32)) rfl rfl rfl ?_
      refine X_bipush (v := (26 : Int32)) rfl rfl rfl ?_
      refine S_copy (I := Inv _) (sp' := 0) (dp' := 0) (n' := 26) rfl rfl rfl ((congrFun V.1 11).trans s_11) ((congrFun V.1 _).trans (sp_s4 t ht)) (by decide) (by decide) (by decide) rfl rfl rfl (by decide) (by decide) (Nat.le_of_ble_eq_true rfl) (Inv_cpy V (Nat.le_of_ble_eq_true rfl) (by omega) (by omega) (U_0 rk_11 (sp_k4 t ht))) (fun g V vn55 hq => ?_)
      have hG := hq.trans hG
      have ve35 := (vn55 (14) 1 (by omega)).trans ve35
      have ve38 := (vn55 (14) 0 (by omega)).trans ve38
      have evz42 := (vn55 (10) 0 (by omega)).trans evz42
      have ve43 := (vn55 (16 + 4 * t) 0 (by omega)).trans ve43
      have evz45 := (vn55 (10) 1 (by omega)).trans evz45
      have ve46 := (vn55 (16 + 4 * t) 1 (by omega)).trans ve46
      have evz48 := (vn55 (10) 2 (by omega)).trans evz48
      have ve49 := (vn55 (16 + 4 * t) 2 (by omega)).trans ve49
      have evz51 := (vn55 (10) 3 (by omega)).trans evz51
      have ve53 := (vn55 (16 + 4 * t) 3 (by omega)).trans ve53
      refine X_aload_n rfl rfl rfl rfl ?_
      refine X_getR (a := 12) rfl rfl rfl ((congrFun V.1 10).trans s_10) rfl ((congrFun (V.2.1 10 (by decide)) 5).trans r_10_5) ?_
      refine X_iconst (v := (0 : Int32)) rfl rfl rfl ?_
      refine X_aload_n rfl rfl rfl rfl ?_
      refine X_getR (a := 18 + 4 * t) rfl rfl rfl ((congrFun V.1 _).trans (sp_s t ht)) rfl ((congrFun (V.2.1 (16 + 4 * t) (by omega)) 5).trans (sp_r5 t ht)) ?_
      refine X_iconst (v := (0 : Int32)) rfl rfl rfl ?_
      refine X_bipush (v := (26 : Int32)) rfl rfl rfl ?_
      refine S_copy (I := Inv _) (sp' := 0) (dp' := 0) (n' := 26) rfl rfl rfl ((congrFun V.1 12).trans s_12) ((congrFun V.1 _).trans (sp_s5 t ht)) (by decide) (by decide) (by decide) rfl rfl rfl (by decide) (by decide) (Nat.le_of_ble_eq_true rfl) (Inv_cpy V (Nat.le_of_ble_eq_true rfl) (by omega) (by omega) (U_0 rk_12 (sp_k5 t ht))) (fun g V vn56 hq => ?_)
      have hG := hq.trans hG
      have ve35 := (vn56 (14) 1 (by omega)).trans ve35
      have ve38 := (vn56 (14) 0 (by omega)).trans ve38
      have evz42 := (vn56 (10) 0 (by omega)).trans evz42
      have ve43 := (vn56 (16 + 4 * t) 0 (by omega)).trans ve43
      have evz45 := (vn56 (10) 1 (by omega)).trans evz45
      have ve46 := (vn56 (16 + 4 * t) 1 (by omega)).trans ve46
      have evz48 := (vn56 (10) 2 (by omega)).trans evz48
      have ve49 := (vn56 (16 + 4 * t) 2 (by omega)).trans ve49
      have evz51 := (vn56 (10) 3 (by omega)).trans evz51
      have ve53 := (vn56 (16 + 4 * t) 3 (by omega)).trans ve53
      refine X_aload_n rfl rfl rfl rfl ?_
      refine X_getR (a := 13) rfl rfl rfl ((congrFun V.1 10).trans s_10) rfl ((congrFun (V.2.1 10 (by decide)) 6).trans r_10_6) ?_
      refine X_iconst (v := (0 : Int32)) rfl rfl rfl ?_
      refine X_aload_n rfl rfl rfl rfl ?_
      refine X_getR (a := 19 + 4 * t) rfl rfl rfl ((congrFun V.1 _).trans (sp_s t ht)) rfl ((congrFun (V.2.1 (16 + 4 * t) (by omega)) 6).trans (sp_r6 t ht)) ?_
      refine X_iconst (v := (0 : Int32)) rfl rfl rfl ?_
      refine X_bipush (v := (26 : Int32)) rfl rfl rfl ?_
      refine S_copy (I := Inv _) (sp' := 0) (dp' := 0) (n' := 26) rfl rfl rfl ((congrFun V.1 13).trans s_13) ((congrFun V.1 _).trans (sp_s6 t ht)) (by decide) (by decide) (by decide) rfl rfl rfl (by decide) (by decide) (Nat.le_of_ble_eq_true rfl) (Inv_cpy V (Nat.le_of_ble_eq_true rfl) (by omega) (by omega) (U_0 rk_13 (sp_k6 t ht))) (fun g V vn57 hq => ?_)
      have hG := hq.trans hG
      have ve35 := (vn57 (14) 1 (by omega)).trans ve35
      have ve38 := (vn57 (14) 0 (by omega)).trans ve38
      have evz42 := (vn57 (10) 0 (by omega)).trans evz42
      have ve43 := (vn57 (16 + 4 * t) 0 (by omega)).trans ve43
      have evz45 := (vn57 (10) 1 (by omega)).trans evz45
      have ve46 := (vn57 (16 + 4 * t) 1 (by omega)).trans ve46
      have evz48 := (vn57 (10) 2 (by omega)).trans evz48
      have ve49 := (vn57 (16 + 4 * t) 2 (by omega)).trans ve49
      have evz51 := (vn57 (10) 3 (by omega)).trans evz51
      have ve53 := (vn57 (16 + 4 * t) 3 (by omega)).trans ve53
      refine LW_return (st := []) rfl rfl ?_
      refine X_aload_n rfl rfl rfl rfl ?_
      refine X_dup rfl rfl rfl ?_
      refine X_getI (v := vz37) rfl rfl rfl ((congrFun V.1 14).trans s_14) rfl ve38 ?_
      refine X_iconst (v := (1 : Int32)) rfl rfl rfl ?_
      refine S_iadd rfl rfl rfl (show (1 : Int32).toInt = 1 from rfl) (by omega) (fun vz58 hvz58 => ?_)
      refine S_putI (I := Inv _) rfl rfl rfl ((congrFun V.1 14).trans s_14) rfl rfl rfl rfl (Inv_putI V (Nat.le_of_ble_eq_true rfl) (Or.inl (by decide)) (Q_12_0 rk_14 (by omega))) (fun g V ve59 vn60 hq => ?_)
      have hG := hq.trans hG
      have ve35 := (vn60 (14) 1 (Or.inr (by decide))).trans ve35
      have evz42 := (vn60 (10) 0 (Or.inl (by decide))).trans evz42
      have ve43 := (vn60 (16 + 4 * t) 0 (Or.inl (by omega))).trans ve43
      have evz45 := (vn60 (10) 1 (Or.inl (by decide))).trans evz45
      have ve46 := (vn60 (16 + 4 * t) 1 (Or.inl (by omega))).trans ve46
      have evz48 := (vn60 (10) 2 (Or.inl (by decide))).trans evz48
      have ve49 := (vn60 (16 + 4 * t) 2 (Or.inl (by omega))).trans ve49
      have evz51 := (vn60 (10) 3 (Or.inl (by decide))).trans evz51
      have ve53 := (vn60 (16 + 4 * t) 3 (Or.inl (by omega))).trans ve53
      refine LW_return (st := []) rfl rfl ?_
      refine X_aload_n rfl rfl rfl rfl ?_
      refine X_getR (a := 10) rfl rfl rfl ((congrFun V.1 342).trans s_342) rfl ((congrFun (V.2.1 342 (by decide)) 1).trans r_342_1) ?_
      refine X_getR (a := 13) rfl rfl rfl ((congrFun V.1 10).trans s_10) rfl ((congrFun (V.2.1 10 (by decide)) 6).trans r_10_6) ?_
      refine X_iload_n rfl rfl rfl rfl ?_
      refine X_iload_n rfl rfl rfl rfl ?_
      refine S_iast (I := Inv _) rfl rfl ((congrFun V.1 13).trans s_13) hx1 (by omega) (Inv_putI V (Nat.le_of_ble_eq_true rfl) (Or.inl (by decide)) (Q_0 rk_13)) (fun g V ve61 vn62 hq => ?_)
      have hG := hq.trans hG
      have ve35 := (vn62 (14) 1 (Or.inl (by decide))).trans ve35
      have evz42 := (vn62 (10) 0 (Or.inl (by decide))).trans evz42
      have ve43 := (vn62 (16 + 4 * t) 0 (Or.inl (by omega))).trans ve43
      have evz45 := (vn62 (10) 1 (Or.inl (by decide))).trans evz45
      have ve46 := (vn62 (16 + 4 * t) 1 (Or.inl (by omega))).trans ve46
      have evz48 := (vn62 (10) 2 (Or.inl (by decide))).trans evz48
      have ve49 := (vn62 (16 + 4 * t) 2 (Or.inl (by omega))).trans ve49
      have evz51 := (vn62 (10) 3 (Or.inl (by decide))).trans evz51
      have ve53 := (vn62 (16 + 4 * t) 3 (Or.inl (by omega))).trans ve53
      have ve59 := (vn62 (14) 0 (Or.inl (by decide))).trans ve59
      refine X_iconst (v := (1 : Int32)) rfl rfl rfl ?_
      exact LW_ireturn (st := []) rfl rfl rfl ⟨_, rfl, by decide, by decide, V, hG⟩
  · refine X_iconst (v := (0 : Int32)) rfl rfl rfl ?_
    exact LW_ireturn (st := []) rfl rfl rfl ⟨_, rfl, by decide, by decide, V, hG⟩
set_option maxRecDepth 10000 in
set_option maxHeartbeats 40000000 in
theorem C_X12_sign {P : Par} {g : LH} {d : Nat}  (V : Inv P g) (x1 : Int32) (y1 : Int) (hx1 : x1.toInt = y1) (x2 : Int32) (y2 : Int) (hx2 : x2.toInt = y2)   : LW 138 (d + 11) 0 0 0 (lEnt (mL 138) [.ref 0, .int x1, .int x2]) [] g (fun v g' => ∃ r : Int32, v = some (.int r) ∧ 0 ≤ r.toInt ∧ r.toInt ≤ 1 ∧ Inv P g' ∧ Gr g' = Gr g) := by
  refine LW_ls (ls' := [some (.ref 0), some (.int x1), some (.int x2)]) rfl ?_
  have hG : Gr g = Gr g := rfl
  refine X_iload_n rfl rfl rfl rfl ?_
  refine X_callS (as := [.int x1]) (st := []) rfl rfl rfl (by decide) rfl (Nat.le_of_ble_eq_true rfl) (by decide) (Nat.le_of_ble_eq_true rfl) rfl ?_
  refine LW_ls (ls' := [some (.int x1)]) rfl ?_
  refine X_iload_n rfl rfl rfl rfl ?_
  refine S_if_lt (tgt := 14) rfl rfl rfl hx1 (fun vh1 => ?_) (fun vh1 => ?_)
  · refine X_iconst (v := (0 : Int32)) rfl rfl rfl ?_
    refine LW_ireturn (st := []) rfl rfl rfl ?_
    refine S_if_eq (tgt := 34) rfl rfl rfl (show (0 : Int32).toInt = 0 from rfl) (fun vh2 => ?_) (fun q => absurd q (by omega))
    refine X_iconst (v := (0 : Int32)) rfl rfl rfl ?_
    exact LW_ireturn (st := []) rfl rfl rfl ⟨_, rfl, by decide, by decide, V, hG⟩
  · refine X_iload_n rfl rfl rfl rfl ?_
    refine X_bipush (v := (26 : Int32)) rfl rfl rfl ?_
    refine S_icmp_ge (tgt := 14) rfl rfl rfl hx1 (show (26 : Int32).toInt = 26 from rfl) (fun vh3 => ?_) (fun vh3 => ?_)
    · refine X_iconst (v := (0 : Int32)) rfl rfl rfl ?_
      refine LW_ireturn (st := []) rfl rfl rfl ?_
      refine S_if_eq (tgt := 34) rfl rfl rfl (show (0 : Int32).toInt = 0 from rfl) (fun vh4 => ?_) (fun q => absurd q (by omega))
      refine X_iconst (v := (0 : Int32)) rfl rfl rfl ?_
      exact LW_ireturn (st := []) rfl rfl rfl ⟨_, rfl, by decide, by decide, V, hG⟩
    · refine X_iconst (v := (1 : Int32)) rfl rfl rfl ?_
      refine LW_goto (tgt := 15) rfl rfl ?_
      refine LW_ireturn (st := []) rfl rfl rfl ?_
      refine S_if_eq (tgt := 34) rfl rfl rfl (show (1 : Int32).toInt = 1 from rfl) (fun q => absurd q (by omega)) (fun vh5 => ?_)
      refine X_iload_n rfl rfl rfl rfl ?_
      refine X_iconst (v := (-1 : Int32)) rfl rfl rfl ?_
      refine S_icmp_lt (tgt := 34) rfl rfl rfl hx2 (show (-1 : Int32).toInt = -1 from rfl) (fun vh6 => ?_) (fun vh6 => ?_)
      · refine X_iconst (v := (0 : Int32)) rfl rfl rfl ?_
        exact LW_ireturn (st := []) rfl rfl rfl ⟨_, rfl, by decide, by decide, V, hG⟩
      · refine X_iload_n rfl rfl rfl rfl ?_
        refine X_bipush (v := (9 : Int32)) rfl rfl rfl ?_
        refine S_icmp_gt (tgt := 34) rfl rfl rfl hx2 (show (9 : Int32).toInt = 9 from rfl) (fun vh7 => ?_) (fun vh7 => ?_)
        · refine X_iconst (v := (0 : Int32)) rfl rfl rfl ?_
          exact LW_ireturn (st := []) rfl rfl rfl ⟨_, rfl, by decide, by decide, V, hG⟩
        · refine X_aload_n rfl rfl rfl rfl ?_
          refine X_getR (a := 342) rfl rfl rfl ((congrFun V.1 0).trans s_0) rfl ((congrFun (V.2.1 0 (by decide)) 6).trans r_0_6) ?_
          refine X_iload_n rfl rfl rfl rfl ?_
          refine X_iload_n rfl rfl rfl rfl ?_
          refine Y_callV (as := [.int x1, .int x2]) (st := []) rfl rfl rfl (by decide) rfl (Nat.le_of_ble_eq_true rfl) (by decide) (Nat.le_of_ble_eq_true rfl) rfl ((congrFun V.1 342).trans s_342) (by decide) (C_X1_putSign V x1 y1 hx1 (by omega) x2 y2 hx2 ) ?_
          rintro _ g ⟨vr8, rfl, hrvr80, hrvr81, V, hq⟩
          have hG := hq.trans hG
          refine S_if_eq (tgt := 34) rfl rfl rfl rfl (fun vh9 => ?_) (fun vh9 => ?_)
          · refine X_iconst (v := (0 : Int32)) rfl rfl rfl ?_
            exact LW_ireturn (st := []) rfl rfl rfl ⟨_, rfl, by decide, by decide, V, hG⟩
          · refine X_iconst (v := (1 : Int32)) rfl rfl rfl ?_
            refine LW_goto (tgt := 35) rfl rfl ?_
            exact LW_ireturn (st := []) rfl rfl rfl ⟨_, rfl, by decide, by decide, V, hG⟩
set_option maxRecDepth 10000 in
set_option maxHeartbeats 40000000 in
theorem C_X9_missing_7 {P : Par} {g : LH} {d n : Nat}  (V : Inv P g) (x1 : Int32) (y1 : Int) (hx1 : x1.toInt = y1) (x2 : Int32) (y2 : Int) (hx2 : x2.toInt = y2) (hf2 : 0 ≤ y2 ∧ y2 ≤ 26)  (hmu : (26 - y2) * 1 + 0 < (n : Int) + 1) (ih7 : ∀ (V : Inv P g) (x1 : Int32) (y1 : Int) (hx1 : x1.toInt = y1) (x2 : Int32) (y2 : Int) (hx2 : x2.toInt = y2) (hf2 : 0 ≤ y2 ∧ y2 ≤ 26) , (26 - y2) * 1 + 0 < (n : Int) → LW 108 (d + 3) 0 0 7 [some (.ref 10), some (.int x1), some (.int x2)] [] g (fun v g' => ∃ r : Int32, v = some (.int r) ∧ g = g')) : LW 108 (d + 3) 0 0 7 [some (.ref 10), some (.int x1), some (.int x2)] [] g (fun v g' => ∃ r : Int32, v = some (.int r) ∧ g = g') := by
  refine X_iload_n rfl rfl rfl rfl ?_
  refine X_bipush (v := (26 : Int32)) rfl rfl rfl ?_
  refine S_icmp_ge (tgt := 37) rfl rfl rfl hx2 (show (26 : Int32).toInt = 26 from rfl) (fun vh1 => ?_) (fun vh1 => ?_)
  · refine X_iload_n rfl rfl rfl rfl ?_
    exact LW_ireturn (st := []) rfl rfl rfl ⟨_, rfl, rfl⟩
  · refine X_aload_n rfl rfl rfl rfl ?_
    refine X_getR (a := 13) rfl rfl rfl ((congrFun V.1 10).trans s_10) rfl ((congrFun (V.2.1 10 (by decide)) 6).trans r_10_6) ?_
    refine X_iload_n rfl rfl rfl rfl ?_
    refine S_iald rfl rfl ((congrFun V.1 13).trans s_13) hx2 (by omega) (fun vz2 evz2 => ?_)
    refine X_iconst (v := (-1 : Int32)) rfl rfl rfl ?_
    refine S_icmp_eq (tgt := 31) rfl rfl rfl rfl (show (-1 : Int32).toInt = -1 from rfl) (fun vh3 => ?_) (fun vh3 => ?_)
    · refine S_iinc (c := 1) rfl rfl rfl hx2 rfl (by omega) (fun vz4 hvz4 => ?_)
      refine LW_ls (ls' := [some (.ref 10), some (.int x1), some (.int vz4)]) rfl ?_
      refine LW_goto (tgt := 7) rfl rfl ?_
      exact ih7 V x1 y1 hx1 vz4 vz4.toInt rfl (by omega)    (by omega)
    · refine X_iload_n rfl rfl rfl rfl ?_
      refine X_iconst (v := (1 : Int32)) rfl rfl rfl ?_
      refine X_iload_n rfl rfl rfl rfl ?_
      refine S_ishlT rfl rfl (fun vz5 => ?_)
      refine X_iconst (v := (-1 : Int32)) rfl rfl rfl ?_
      refine S_ixorT rfl rfl (fun vz6 => ?_)
      refine S_iandT rfl rfl (fun vz7 => ?_)
      refine X_istore_n (i := 1) (ls' := [some (.ref 10), some (.int vz7), some (.int x2)]) rfl rfl rfl (Nat.le_of_ble_eq_true rfl) rfl ?_
      refine S_iinc (c := 1) rfl rfl rfl hx2 rfl (by omega) (fun vz8 hvz8 => ?_)
      refine LW_ls (ls' := [some (.ref 10), some (.int vz7), some (.int vz8)]) rfl ?_
      refine LW_goto (tgt := 7) rfl rfl ?_
      exact ih7 V vz7 vz7.toInt rfl vz8 vz8.toInt rfl (by omega)    (by omega)
theorem C_X9_missing_all {P : Par} {g : LH} {d : Nat}  : ∀ n : Nat, (∀ (V : Inv P g) (x1 : Int32) (y1 : Int) (hx1 : x1.toInt = y1) (x2 : Int32) (y2 : Int) (hx2 : x2.toInt = y2) (hf2 : 0 ≤ y2 ∧ y2 ≤ 26) , (26 - y2) * 1 + 0 < (n : Int) → LW 108 (d + 3) 0 0 7 [some (.ref 10), some (.int x1), some (.int x2)] [] g (fun v g' => ∃ r : Int32, v = some (.int r) ∧ g = g')) := by
  intro n
  induction n with
  | zero => exact fun V x1 y1 hx1 x2 y2 hx2 hf2 hmu => absurd hmu (by omega)
  | succ n ih => exact fun V x1 y1 hx1 x2 y2 hx2 hf2 hmu => C_X9_missing_7  V x1 y1 hx1 x2 y2 hx2 hf2 (by omega) ih
set_option maxRecDepth 10000 in
set_option maxHeartbeats 40000000 in
theorem C_X9_missing {P : Par} {g : LH} {d : Nat}  (V : Inv P g)    : LW 108 (d + 3) 0 0 0 (lEnt (mL 108) [.ref 10]) [] g (fun v g' => ∃ r : Int32, v = some (.int r) ∧ g = g') := by
  refine LW_ls (ls' := [some (.ref 10), none, none]) rfl ?_
  refine X_aload_n rfl rfl rfl rfl ?_
  refine S_getI rfl rfl rfl ((congrFun V.1 10).trans s_10) rfl (fun vz1 evz1 => ?_)
  refine X_istore_n (i := 1) (ls' := [some (.ref 10), some (.int vz1), none]) rfl rfl rfl (Nat.le_of_ble_eq_true rfl) rfl ?_
  refine X_iconst (v := (0 : Int32)) rfl rfl rfl ?_
  refine X_istore_n (i := 2) (ls' := [some (.ref 10), some (.int vz1), some (.int (0 : Int32))]) rfl rfl rfl (Nat.le_of_ble_eq_true rfl) rfl ?_
  exact (C_X9_missing_all (((26 - 0) * 1 + 0) + 1 : Int).toNat) V vz1 vz1.toInt rfl (0 : Int32) 0 (show (0 : Int32).toInt = 0 from rfl) (by omega)    (by omega)
set_option maxRecDepth 10000 in
set_option maxHeartbeats 40000000 in
theorem C_X5_wordFor_5 {P : Par} {g : LH} {d n : Nat}  (V : Inv P g) (x1 : Int32) (y1 : Int) (hx1 : x1.toInt = y1) (hf1 : 0 ≤ y1 ∧ y1 ≤ 25) (x2 : Int32) (y2 : Int) (hx2 : x2.toInt = y2) (x3 : Int32) (y3 : Int) (hx3 : x3.toInt = y3) (hf3 : (-1) ≤ y3 ∧ y3 ≤ 23) (x4 : Int32) (y4 : Int) (hx4 : x4.toInt = y4) (hf4 : 0 ≤ y4 ∧ y4 ≤ 24)  (hmu : (24 - y4) * 1 + 0 < (n : Int) + 1) (ih5 : ∀ (V : Inv P g) (x1 : Int32) (y1 : Int) (hx1 : x1.toInt = y1) (hf1 : 0 ≤ y1 ∧ y1 ≤ 25) (x2 : Int32) (y2 : Int) (hx2 : x2.toInt = y2) (x3 : Int32) (y3 : Int) (hx3 : x3.toInt = y3) (hf3 : (-1) ≤ y3 ∧ y3 ≤ 23) (x4 : Int32) (y4 : Int) (hx4 : x4.toInt = y4) (hf4 : 0 ≤ y4 ∧ y4 ≤ 24) , (24 - y4) * 1 + 0 < (n : Int) → LW 48 (d + 3) 0 0 5 [some (.ref 2), some (.int x1), some (.int x2), some (.int x3), some (.int x4)] [] g (fun v g' => ∃ r : Int32, v = some (.int r) ∧ (-1) ≤ r.toInt ∧ r.toInt ≤ 23 ∧ g = g')) : LW 48 (d + 3) 0 0 5 [some (.ref 2), some (.int x1), some (.int x2), some (.int x3), some (.int x4)] [] g (fun v g' => ∃ r : Int32, v = some (.int r) ∧ (-1) ≤ r.toInt ∧ r.toInt ≤ 23 ∧ g = g') := by
  refine X_iload rfl rfl rfl ?_
  refine X_aload_n rfl rfl rfl rfl ?_
  refine S_getI rfl rfl rfl ((congrFun V.1 2).trans s_2) rfl (fun vz1 evz1 => ?_)
  have vf2 := K_10_0 (V.2.2.2.2.1 (2) (0) (Nat.le_of_ble_eq_true rfl)) rk_2
  rw [evz1] at vf2
  refine S_icmp_ge (tgt := 67) rfl rfl rfl hx4 rfl (fun vh3 => ?_) (fun vh3 => ?_)
  · refine X_iload_n rfl rfl rfl rfl ?_
    have hr := hx3
    exact LW_ireturn (st := []) rfl rfl rfl ⟨_, rfl, by omega, by omega, rfl⟩
  · refine X_aload_n rfl rfl rfl rfl ?_
    refine X_getR (a := 4) rfl rfl rfl ((congrFun V.1 2).trans s_2) rfl ((congrFun (V.2.1 2 (by decide)) 3).trans r_2_3) ?_
    refine X_iload rfl rfl rfl ?_
    refine S_iald rfl rfl ((congrFun V.1 4).trans s_4) hx4 (by omega) (fun vz4 evz4 => ?_)
    have vf5 := K_2 (V.2.2.2.2.1 (4) ((y4 : Int).toNat) (Nat.le_of_ble_eq_true rfl)) rk_4
    rw [evz4] at vf5
    refine X_iload_n rfl rfl rfl rfl ?_
    refine S_icmp_ne (tgt := 61) rfl rfl rfl rfl hx1 (fun vh6 => ?_) (fun vh6 => ?_)
    · refine S_iinc (c := 1) rfl rfl rfl hx4 rfl (by omega) (fun vz7 hvz7 => ?_)
      refine LW_ls (ls' := [some (.ref 2), some (.int x1), some (.int x2), some (.int x3), some (.int vz7)]) rfl ?_
      refine LW_goto (tgt := 5) rfl rfl ?_
      exact ih5 V x1 y1 hx1 (by omega) x2 y2 hx2 x3 y3 hx3 (by omega) vz7 vz7.toInt rfl (by omega)    (by omega)
    · refine X_aload_n rfl rfl rfl rfl ?_
      refine X_getR (a := 5) rfl rfl rfl ((congrFun V.1 2).trans s_2) rfl ((congrFun (V.2.1 2 (by decide)) 4).trans r_2_4) ?_
      refine X_iload rfl rfl rfl ?_
      refine S_iald rfl rfl ((congrFun V.1 5).trans s_5) hx4 (by omega) (fun vz8 evz8 => ?_)
      refine X_iload_n rfl rfl rfl rfl ?_
      refine S_iandT rfl rfl (fun vz9 => ?_)
      refine S_if_ne (tgt := 61) rfl rfl rfl rfl (fun vh10 => ?_) (fun vh10 => ?_)
      · refine S_iinc (c := 1) rfl rfl rfl hx4 rfl (by omega) (fun vz11 hvz11 => ?_)
        refine LW_ls (ls' := [some (.ref 2), some (.int x1), some (.int x2), some (.int x3), some (.int vz11)]) rfl ?_
        refine LW_goto (tgt := 5) rfl rfl ?_
        exact ih5 V x1 y1 hx1 (by omega) x2 y2 hx2 x3 y3 hx3 (by omega) vz11 vz11.toInt rfl (by omega)    (by omega)
      · refine X_iload_n rfl rfl rfl rfl ?_
        refine X_iconst (v := (-1 : Int32)) rfl rfl rfl ?_
        refine S_icmp_eq (tgt := 58) rfl rfl rfl hx3 (show (-1 : Int32).toInt = -1 from rfl) (fun vh12 => ?_) (fun vh12 => ?_)
        · refine X_iload rfl rfl rfl ?_
          refine X_istore_n (i := 3) (ls' := [some (.ref 2), some (.int x1), some (.int x2), some (.int x4), some (.int x4)]) rfl rfl rfl (Nat.le_of_ble_eq_true rfl) rfl ?_
          refine S_iinc (c := 1) rfl rfl rfl hx4 rfl (by omega) (fun vz13 hvz13 => ?_)
          refine LW_ls (ls' := [some (.ref 2), some (.int x1), some (.int x2), some (.int x4), some (.int vz13)]) rfl ?_
          refine LW_goto (tgt := 5) rfl rfl ?_
          exact ih5 V x1 y1 hx1 (by omega) x2 y2 hx2 x4 y4 hx4 (by omega) vz13 vz13.toInt rfl (by omega)    (by omega)
        · refine X_aload_n rfl rfl rfl rfl ?_
          refine X_getR (a := 3) rfl rfl rfl ((congrFun V.1 2).trans s_2) rfl ((congrFun (V.2.1 2 (by decide)) 2).trans r_2_2) ?_
          refine X_iload rfl rfl rfl ?_
          refine S_iald rfl rfl ((congrFun V.1 3).trans s_3) hx4 (by omega) (fun vz14 evz14 => ?_)
          have vf15 := K_1 (V.2.2.2.2.1 (3) ((y4 : Int).toNat) (Nat.le_of_ble_eq_true rfl)) rk_3
          rw [evz14] at vf15
          refine X_aload_n rfl rfl rfl rfl ?_
          refine X_getR (a := 3) rfl rfl rfl ((congrFun V.1 2).trans s_2) rfl ((congrFun (V.2.1 2 (by decide)) 2).trans r_2_2) ?_
          refine X_iload_n rfl rfl rfl rfl ?_
          refine S_iald rfl rfl ((congrFun V.1 3).trans s_3) hx3 (by omega) (fun vz16 evz16 => ?_)
          have vf17 := K_1 (V.2.2.2.2.1 (3) ((y3 : Int).toNat) (Nat.le_of_ble_eq_true rfl)) rk_3
          rw [evz16] at vf17
          refine S_icmp_ge (tgt := 61) rfl rfl rfl rfl rfl (fun vh18 => ?_) (fun vh18 => ?_)
          · refine S_iinc (c := 1) rfl rfl rfl hx4 rfl (by omega) (fun vz19 hvz19 => ?_)
            refine LW_ls (ls' := [some (.ref 2), some (.int x1), some (.int x2), some (.int x3), some (.int vz19)]) rfl ?_
            refine LW_goto (tgt := 5) rfl rfl ?_
            exact ih5 V x1 y1 hx1 (by omega) x2 y2 hx2 x3 y3 hx3 (by omega) vz19 vz19.toInt rfl (by omega)    (by omega)
          · refine X_iload rfl rfl rfl ?_
            refine X_istore_n (i := 3) (ls' := [some (.ref 2), some (.int x1), some (.int x2), some (.int x4), some (.int x4)]) rfl rfl rfl (Nat.le_of_ble_eq_true rfl) rfl ?_
            refine S_iinc (c := 1) rfl rfl rfl hx4 rfl (by omega) (fun vz20 hvz20 => ?_)
            refine LW_ls (ls' := [some (.ref 2), some (.int x1), some (.int x2), some (.int x4), some (.int vz20)]) rfl ?_
            refine LW_goto (tgt := 5) rfl rfl ?_
            exact ih5 V x1 y1 hx1 (by omega) x2 y2 hx2 x4 y4 hx4 (by omega) vz20 vz20.toInt rfl (by omega)    (by omega)
theorem C_X5_wordFor_all {P : Par} {g : LH} {d : Nat}  : ∀ n : Nat, (∀ (V : Inv P g) (x1 : Int32) (y1 : Int) (hx1 : x1.toInt = y1) (hf1 : 0 ≤ y1 ∧ y1 ≤ 25) (x2 : Int32) (y2 : Int) (hx2 : x2.toInt = y2) (x3 : Int32) (y3 : Int) (hx3 : x3.toInt = y3) (hf3 : (-1) ≤ y3 ∧ y3 ≤ 23) (x4 : Int32) (y4 : Int) (hx4 : x4.toInt = y4) (hf4 : 0 ≤ y4 ∧ y4 ≤ 24) , (24 - y4) * 1 + 0 < (n : Int) → LW 48 (d + 3) 0 0 5 [some (.ref 2), some (.int x1), some (.int x2), some (.int x3), some (.int x4)] [] g (fun v g' => ∃ r : Int32, v = some (.int r) ∧ (-1) ≤ r.toInt ∧ r.toInt ≤ 23 ∧ g = g')) := by
  intro n
  induction n with
  | zero => exact fun V x1 y1 hx1 hf1 x2 y2 hx2 x3 y3 hx3 hf3 x4 y4 hx4 hf4 hmu => absurd hmu (by omega)
  | succ n ih => exact fun V x1 y1 hx1 hf1 x2 y2 hx2 x3 y3 hx3 hf3 x4 y4 hx4 hf4 hmu => C_X5_wordFor_5  V x1 y1 hx1 hf1 x2 y2 hx2 x3 y3 hx3 hf3 x4 y4 hx4 hf4 (by omega) ih
set_option maxRecDepth 10000 in
set_option maxHeartbeats 40000000 in
theorem C_X5_wordFor {P : Par} {g : LH} {d : Nat}  (V : Inv P g) (x1 : Int32) (y1 : Int) (hx1 : x1.toInt = y1) (hf1 : 0 ≤ y1 ∧ y1 ≤ 25) (x2 : Int32) (y2 : Int) (hx2 : x2.toInt = y2)   : LW 48 (d + 3) 0 0 0 (lEnt (mL 48) [.ref 2, .int x1, .int x2]) [] g (fun v g' => ∃ r : Int32, v = some (.int r) ∧ (-1) ≤ r.toInt ∧ r.toInt ≤ 23 ∧ g = g') := by
  refine LW_ls (ls' := [some (.ref 2), some (.int x1), some (.int x2), none, none]) rfl ?_
  refine X_iconst (v := (-1 : Int32)) rfl rfl rfl ?_
  refine X_istore_n (i := 3) (ls' := [some (.ref 2), some (.int x1), some (.int x2), some (.int (-1 : Int32)), none]) rfl rfl rfl (Nat.le_of_ble_eq_true rfl) rfl ?_
  refine X_iconst (v := (0 : Int32)) rfl rfl rfl ?_
  refine X_istore (i := 4) (ls' := [some (.ref 2), some (.int x1), some (.int x2), some (.int (-1 : Int32)), some (.int (0 : Int32))]) rfl rfl (Nat.le_of_ble_eq_true rfl) rfl ?_
  exact (C_X5_wordFor_all (((24 - 0) * 1 + 0) + 1 : Int).toNat) V x1 y1 hx1 (by omega) x2 y2 hx2 (-1 : Int32) (-1) (show (-1 : Int32).toInt = -1 from rfl) (by omega) (0 : Int32) 0 (show (0 : Int32).toInt = 0 from rfl) (by omega)    (by omega)
set_option maxRecDepth 10000 in
set_option maxHeartbeats 40000000 in
theorem C_X5_wordSaid {P : Par} {g : LH} {d : Nat}  (V : Inv P g) (x1 : Int32) (y1 : Int) (hx1 : x1.toInt = y1) (hf1 : 0 ≤ y1 ∧ y1 ≤ 7) (x2 : Int32) (y2 : Int) (hx2 : x2.toInt = y2) (hf2 : 0 ≤ y2) (x3 : Int32) (y3 : Int) (hx3 : x3.toInt = y3)   : LW 49 (d + 9) 0 0 0 (lEnt (mL 49) [.ref 2, .int x1, .int x2, .int x3]) [] g (fun v g' => ∃ r : Int32, v = some (.int r) ∧ (-1) ≤ r.toInt ∧ r.toInt ≤ 23 ∧ g = g') := by
  refine LW_ls (ls' := [some (.ref 2), some (.int x1), some (.int x2), some (.int x3), none]) rfl ?_
  refine X_aload_n rfl rfl rfl rfl ?_
  refine X_iload_n rfl rfl rfl rfl ?_
  refine X_iload_n rfl rfl rfl rfl ?_
  refine X_callV (as := [.int x1, .int x2]) (st := []) rfl rfl rfl (by decide) rfl (Nat.le_of_ble_eq_true rfl) (by decide) (Nat.le_of_ble_eq_true rfl) rfl ((congrFun V.1 2).trans s_2) (by decide) ?_
  refine LW_ls (ls' := [some (.ref 2), some (.int x1), some (.int x2)]) rfl ?_
  refine X_aload_n rfl rfl rfl rfl ?_
  refine X_iload_n rfl rfl rfl rfl ?_
  refine X_callV (as := [.int x1]) (st := []) rfl rfl rfl (by decide) rfl (Nat.le_of_ble_eq_true rfl) (by decide) (Nat.le_of_ble_eq_true rfl) rfl ((congrFun V.1 2).trans s_2) (by decide) ?_
  refine LW_ls (ls' := [some (.ref 2), some (.int x1)]) rfl ?_
  refine X_iload_n rfl rfl rfl rfl ?_
  refine S_if_lt (tgt := 22) rfl rfl rfl hx1 (fun q => absurd q (by omega)) (fun vh1 => ?_)
  refine X_iload_n rfl rfl rfl rfl ?_
  refine X_aload_n rfl rfl rfl rfl ?_
  refine S_getI rfl rfl rfl ((congrFun V.1 2).trans s_2) rfl (fun vz2 evz2 => ?_)
  have vf3 := K_10_1 (V.2.2.2.2.1 (2) (1) (Nat.le_of_ble_eq_true rfl)) rk_2
  rw [evz2] at vf3
  refine S_icmp_ge (tgt := 22) rfl rfl rfl hx1 rfl (fun vh4 => ?_) (fun vh4 => ?_)
  · refine X_iconst (v := (0 : Int32)) rfl rfl rfl ?_
    refine LW_ireturn (st := []) rfl rfl rfl ?_
    refine S_if_eq (tgt := 36) rfl rfl rfl (show (0 : Int32).toInt = 0 from rfl) (fun vh5 => ?_) (fun q => absurd q (by omega))
    refine X_iconst (v := (-1 : Int32)) rfl rfl rfl ?_
    refine LW_ireturn (st := []) rfl rfl rfl ?_
    refine X_istore (i := 4) (ls' := [some (.ref 2), some (.int x1), some (.int x2), some (.int x3), some (.int (-1 : Int32))]) rfl rfl (Nat.le_of_ble_eq_true rfl) rfl ?_
    refine X_iload rfl rfl rfl ?_
    refine X_iconst (v := (-1 : Int32)) rfl rfl rfl ?_
    refine S_icmp_ne (tgt := 18) rfl rfl rfl (show (-1 : Int32).toInt = -1 from rfl) (show (-1 : Int32).toInt = -1 from rfl) (fun q => absurd q (by omega)) (fun vh6 => ?_)
    refine X_iconst (v := (-1 : Int32)) rfl rfl rfl ?_
    refine LW_goto (tgt := 25) rfl rfl ?_
    exact LW_ireturn (st := []) rfl rfl rfl ⟨_, rfl, by decide, by decide, rfl⟩
  · refine X_iload_n rfl rfl rfl rfl ?_
    refine X_bipush (v := (8 : Int32)) rfl rfl rfl ?_
    refine S_icmp_ge (tgt := 22) rfl rfl rfl hx1 (show (8 : Int32).toInt = 8 from rfl) (fun q => absurd q (by omega)) (fun vh7 => ?_)
    refine X_iconst (v := (1 : Int32)) rfl rfl rfl ?_
    refine LW_goto (tgt := 23) rfl rfl ?_
    refine LW_ireturn (st := []) rfl rfl rfl ?_
    refine S_if_eq (tgt := 36) rfl rfl rfl (show (1 : Int32).toInt = 1 from rfl) (fun q => absurd q (by omega)) (fun vh8 => ?_)
    refine X_iload_n rfl rfl rfl rfl ?_
    refine S_if_lt (tgt := 36) rfl rfl rfl hx2 (fun q => absurd q (by omega)) (fun vh9 => ?_)
    refine X_iload_n rfl rfl rfl rfl ?_
    refine X_aload_n rfl rfl rfl rfl ?_
    refine X_getR (a := 7) rfl rfl rfl ((congrFun V.1 2).trans s_2) rfl ((congrFun (V.2.1 2 (by decide)) 6).trans r_2_6) ?_
    refine X_iload_n rfl rfl rfl rfl ?_
    refine S_iald rfl rfl ((congrFun V.1 7).trans s_7) hx1 (by omega) (fun vz10 evz10 => ?_)
    have vf11 := K_1 (V.2.2.2.2.1 (7) ((y1 : Int).toNat) (Nat.le_of_ble_eq_true rfl)) rk_7
    rw [evz10] at vf11
    refine S_icmp_ge (tgt := 36) rfl rfl rfl hx2 rfl (fun vh12 => ?_) (fun vh12 => ?_)
    · refine X_iconst (v := (-1 : Int32)) rfl rfl rfl ?_
      refine LW_ireturn (st := []) rfl rfl rfl ?_
      refine X_istore (i := 4) (ls' := [some (.ref 2), some (.int x1), some (.int x2), some (.int x3), some (.int (-1 : Int32))]) rfl rfl (Nat.le_of_ble_eq_true rfl) rfl ?_
      refine X_iload rfl rfl rfl ?_
      refine X_iconst (v := (-1 : Int32)) rfl rfl rfl ?_
      refine S_icmp_ne (tgt := 18) rfl rfl rfl (show (-1 : Int32).toInt = -1 from rfl) (show (-1 : Int32).toInt = -1 from rfl) (fun q => absurd q (by omega)) (fun vh13 => ?_)
      refine X_iconst (v := (-1 : Int32)) rfl rfl rfl ?_
      refine LW_goto (tgt := 25) rfl rfl ?_
      exact LW_ireturn (st := []) rfl rfl rfl ⟨_, rfl, by decide, by decide, rfl⟩
    · refine X_aload_n rfl rfl rfl rfl ?_
      refine X_getR (a := 9) rfl rfl rfl ((congrFun V.1 2).trans s_2) rfl ((congrFun (V.2.1 2 (by decide)) 8).trans r_2_8) ?_
      refine X_iload_n rfl rfl rfl rfl ?_
      refine X_bipush (v := (8 : Int32)) rfl rfl rfl ?_
      refine S_imul rfl rfl hx1 (show (8 : Int32).toInt = 8 from rfl) (by omega) (fun vz14 hvz14 => ?_)
      refine X_iload_n rfl rfl rfl rfl ?_
      refine S_iadd rfl rfl rfl hx2 (by omega) (fun vz15 hvz15 => ?_)
      refine S_iald rfl rfl ((congrFun V.1 9).trans s_9) rfl (by omega) (fun vz16 evz16 => ?_)
      have vf17 := K_3 (V.2.2.2.2.1 (9) ((vz15.toInt : Int).toNat) (Nat.le_of_ble_eq_true rfl)) rk_9
      rw [evz16] at vf17
      refine LW_goto (tgt := 37) rfl rfl ?_
      refine LW_ireturn (st := []) rfl rfl rfl ?_
      refine X_istore (i := 4) (ls' := [some (.ref 2), some (.int x1), some (.int x2), some (.int x3), some (.int vz16)]) rfl rfl (Nat.le_of_ble_eq_true rfl) rfl ?_
      refine X_iload rfl rfl rfl ?_
      refine X_iconst (v := (-1 : Int32)) rfl rfl rfl ?_
      refine S_icmp_ne (tgt := 18) rfl rfl rfl rfl (show (-1 : Int32).toInt = -1 from rfl) (fun vh18 => ?_) (fun q => absurd q (by omega))
      refine X_aload_n rfl rfl rfl rfl ?_
      refine X_iload rfl rfl rfl ?_
      refine X_iload_n rfl rfl rfl rfl ?_
      refine Y_callV (as := [.int vz16, .int x3]) (st := []) rfl rfl rfl (by decide) rfl (Nat.le_of_ble_eq_true rfl) (by decide) (Nat.le_of_ble_eq_true rfl) rfl ((congrFun V.1 2).trans s_2) (by decide) (C_X5_wordFor V vz16 vz16.toInt rfl (by omega) x3 y3 hx3 ) ?_
      rintro _ g' ⟨vr19, rfl, hrvr190, hrvr191, hgg⟩
      subst hgg
      have hr := (rfl : vr19.toInt = vr19.toInt)
      exact LW_ireturn (st := []) rfl rfl rfl ⟨_, rfl, by omega, by omega, rfl⟩
set_option maxRecDepth 10000 in
set_option maxHeartbeats 40000000 in
theorem C_X5_sensesLeft_4 {P : Par} {g : LH} {d n : Nat}  (V : Inv P g) (x1 : Int32) (y1 : Int) (hx1 : x1.toInt = y1) (x2 : Int32) (y2 : Int) (hx2 : x2.toInt = y2) (hf2 : 0 ≤ y2 ∧ y2 ≤ 1023) (x3 : Int32) (y3 : Int) (hx3 : x3.toInt = y3) (hf3 : 0 ≤ y3 ∧ y3 ≤ 24)  (hmu : (24 - y3) * 1 + 0 < (n : Int) + 1) (ih4 : ∀ (V : Inv P g) (x1 : Int32) (y1 : Int) (hx1 : x1.toInt = y1) (x2 : Int32) (y2 : Int) (hx2 : x2.toInt = y2) (hf2 : 0 ≤ y2 ∧ y2 ≤ 1023) (x3 : Int32) (y3 : Int) (hx3 : x3.toInt = y3) (hf3 : 0 ≤ y3 ∧ y3 ≤ 24) , (24 - y3) * 1 + 0 < (n : Int) → LW 51 (d + 3) 0 0 4 [some (.ref 2), some (.int x1), some (.int x2), some (.int x3)] [] g (fun v g' => ∃ r : Int32, v = some (.int r) ∧ 0 ≤ r.toInt ∧ r.toInt ≤ 1023 ∧ g = g')) : LW 51 (d + 3) 0 0 4 [some (.ref 2), some (.int x1), some (.int x2), some (.int x3)] [] g (fun v g' => ∃ r : Int32, v = some (.int r) ∧ 0 ≤ r.toInt ∧ r.toInt ≤ 1023 ∧ g = g') := by
  refine X_iload_n rfl rfl rfl rfl ?_
  refine X_aload_n rfl rfl rfl rfl ?_
  refine S_getI rfl rfl rfl ((congrFun V.1 2).trans s_2) rfl (fun vz1 evz1 => ?_)
  have vf2 := K_10_0 (V.2.2.2.2.1 (2) (0) (Nat.le_of_ble_eq_true rfl)) rk_2
  rw [evz1] at vf2
  refine S_icmp_ge (tgt := 40) rfl rfl rfl hx3 rfl (fun vh3 => ?_) (fun vh3 => ?_)
  · refine X_iload_n rfl rfl rfl rfl ?_
    have hr := hx2
    exact LW_ireturn (st := []) rfl rfl rfl ⟨_, rfl, by omega, by omega, rfl⟩
  · refine X_aload_n rfl rfl rfl rfl ?_
    refine X_getR (a := 5) rfl rfl rfl ((congrFun V.1 2).trans s_2) rfl ((congrFun (V.2.1 2 (by decide)) 4).trans r_2_4) ?_
    refine X_iload_n rfl rfl rfl rfl ?_
    refine S_iald rfl rfl ((congrFun V.1 5).trans s_5) hx3 (by omega) (fun vz4 evz4 => ?_)
    refine X_iload_n rfl rfl rfl rfl ?_
    refine S_iandT rfl rfl (fun vz5 => ?_)
    refine S_if_ne (tgt := 34) rfl rfl rfl rfl (fun vh6 => ?_) (fun vh6 => ?_)
    · refine S_iinc (c := 1) rfl rfl rfl hx3 rfl (by omega) (fun vz7 hvz7 => ?_)
      refine LW_ls (ls' := [some (.ref 2), some (.int x1), some (.int x2), some (.int vz7)]) rfl ?_
      refine LW_goto (tgt := 4) rfl rfl ?_
      exact ih4 V x1 y1 hx1 x2 y2 hx2 (by omega) vz7 vz7.toInt rfl (by omega)    (by omega)
    · refine X_iload_n rfl rfl rfl rfl ?_
      refine X_iconst (v := (1 : Int32)) rfl rfl rfl ?_
      refine X_aload_n rfl rfl rfl rfl ?_
      refine X_getR (a := 4) rfl rfl rfl ((congrFun V.1 2).trans s_2) rfl ((congrFun (V.2.1 2 (by decide)) 3).trans r_2_3) ?_
      refine X_iload_n rfl rfl rfl rfl ?_
      refine S_iald rfl rfl ((congrFun V.1 4).trans s_4) hx3 (by omega) (fun vz8 evz8 => ?_)
      have vf9 := K_2 (V.2.2.2.2.1 (4) ((y3 : Int).toNat) (Nat.le_of_ble_eq_true rfl)) rk_4
      rw [evz8] at vf9
      refine S_shl1 (n := 9) rfl rfl rfl (by omega) (fun vz10 hvz10 => ?_)
      refine S_ior (n := 10) rfl rfl hx2 rfl (by omega) (by omega) (fun vz11 hvz11 => ?_)
      refine X_istore_n (i := 2) (ls' := [some (.ref 2), some (.int x1), some (.int vz11), some (.int x3)]) rfl rfl rfl (Nat.le_of_ble_eq_true rfl) rfl ?_
      refine S_iinc (c := 1) rfl rfl rfl hx3 rfl (by omega) (fun vz12 hvz12 => ?_)
      refine LW_ls (ls' := [some (.ref 2), some (.int x1), some (.int vz11), some (.int vz12)]) rfl ?_
      refine LW_goto (tgt := 4) rfl rfl ?_
      exact ih4 V x1 y1 hx1 vz11 vz11.toInt rfl (by omega) vz12 vz12.toInt rfl (by omega)    (by omega)
theorem C_X5_sensesLeft_all {P : Par} {g : LH} {d : Nat}  : ∀ n : Nat, (∀ (V : Inv P g) (x1 : Int32) (y1 : Int) (hx1 : x1.toInt = y1) (x2 : Int32) (y2 : Int) (hx2 : x2.toInt = y2) (hf2 : 0 ≤ y2 ∧ y2 ≤ 1023) (x3 : Int32) (y3 : Int) (hx3 : x3.toInt = y3) (hf3 : 0 ≤ y3 ∧ y3 ≤ 24) , (24 - y3) * 1 + 0 < (n : Int) → LW 51 (d + 3) 0 0 4 [some (.ref 2), some (.int x1), some (.int x2), some (.int x3)] [] g (fun v g' => ∃ r : Int32, v = some (.int r) ∧ 0 ≤ r.toInt ∧ r.toInt ≤ 1023 ∧ g = g')) := by
  intro n
  induction n with
  | zero => exact fun V x1 y1 hx1 x2 y2 hx2 hf2 x3 y3 hx3 hf3 hmu => absurd hmu (by omega)
  | succ n ih => exact fun V x1 y1 hx1 x2 y2 hx2 hf2 x3 y3 hx3 hf3 hmu => C_X5_sensesLeft_4  V x1 y1 hx1 x2 y2 hx2 hf2 x3 y3 hx3 hf3 (by omega) ih
set_option maxRecDepth 10000 in
set_option maxHeartbeats 40000000 in
theorem C_X5_sensesLeft {P : Par} {g : LH} {d : Nat}  (V : Inv P g) (x1 : Int32) (y1 : Int) (hx1 : x1.toInt = y1)   : LW 51 (d + 3) 0 0 0 (lEnt (mL 51) [.ref 2, .int x1]) [] g (fun v g' => ∃ r : Int32, v = some (.int r) ∧ 0 ≤ r.toInt ∧ r.toInt ≤ 1023 ∧ g = g') := by
  refine LW_ls (ls' := [some (.ref 2), some (.int x1), none, none]) rfl ?_
  refine X_iconst (v := (0 : Int32)) rfl rfl rfl ?_
  refine X_istore_n (i := 2) (ls' := [some (.ref 2), some (.int x1), some (.int (0 : Int32)), none]) rfl rfl rfl (Nat.le_of_ble_eq_true rfl) rfl ?_
  refine X_iconst (v := (0 : Int32)) rfl rfl rfl ?_
  refine X_istore_n (i := 3) (ls' := [some (.ref 2), some (.int x1), some (.int (0 : Int32)), some (.int (0 : Int32))]) rfl rfl rfl (Nat.le_of_ble_eq_true rfl) rfl ?_
  exact (C_X5_sensesLeft_all (((24 - 0) * 1 + 0) + 1 : Int).toNat) V x1 y1 hx1 (0 : Int32) 0 (show (0 : Int32).toInt = 0 from rfl) (by omega) (0 : Int32) 0 (show (0 : Int32).toInt = 0 from rfl) (by omega)    (by omega)
set_option maxRecDepth 10000 in
set_option maxHeartbeats 40000000 in
theorem C_X1_conclude_110 {P : Par} {g g0 : LH} {d n : Nat}  (V : Inv P g) (hG : Gr g = Gr g0) (x1 : Int32) (y1 : Int) (hx1 : x1.toInt = y1) (hf1 : 0 ≤ y1 ∧ y1 ≤ 7) (x4 : Int32) (y4 : Int) (hx4 : x4.toInt = y4) (hf4 : 0 ≤ y4 ∧ y4 ≤ 9) (x5 : Int32) (y5 : Int) (hx5 : x5.toInt = y5) (x6 : Int32) (y6 : Int) (hx6 : x6.toInt = y6) (hf6 : 0 ≤ y6 ∧ y6 ≤ 8) (hc2_1 : 1 ≤ (Gi g 2 1).toInt ∧ (Gi g 2 1).toInt ≤ 8) (hc10_3 : 0 ≤ (Gi g 10 3).toInt ∧ (Gi g 10 3).toInt ≤ 9) (hc14_0 : 1 ≤ (Gi g 14 0).toInt ∧ (Gi g 14 0).toInt ≤ 30) (hc14_1 : 0 ≤ (Gi g 14 1).toInt ∧ (Gi g 14 1).toInt ≤ 29) (hmu : (8 - y6) * 1 + 0 < (n : Int) + 1) (ih110 : ∀ (g : LH) (V : Inv P g) (hG : Gr g = Gr g0) (x1 : Int32) (y1 : Int) (hx1 : x1.toInt = y1) (hf1 : 0 ≤ y1 ∧ y1 ≤ 7) (x4 : Int32) (y4 : Int) (hx4 : x4.toInt = y4) (hf4 : 0 ≤ y4 ∧ y4 ≤ 9) (x5 : Int32) (y5 : Int) (hx5 : x5.toInt = y5) (x6 : Int32) (y6 : Int) (hx6 : x6.toInt = y6) (hf6 : 0 ≤ y6 ∧ y6 ≤ 8) (hc2_1 : 1 ≤ (Gi g 2 1).toInt ∧ (Gi g 2 1).toInt ≤ 8) (hc10_3 : 0 ≤ (Gi g 10 3).toInt ∧ (Gi g 10 3).toInt ≤ 9) (hc14_0 : 1 ≤ (Gi g 14 0).toInt ∧ (Gi g 14 0).toInt ≤ 30) (hc14_1 : 0 ≤ (Gi g 14 1).toInt ∧ (Gi g 14 1).toInt ≤ 29), (8 - y6) * 1 + 0 < (n : Int) → LW 11 (d + 16) 0 0 110 [some (.ref 342), some (.int x1), some (.ref 2), some (.ref 136), some (.int x4), some (.int x5), some (.int x6)] [] g (fun v g' => ∃ r : Int32, v = some (.int r) ∧ (-1) ≤ r.toInt ∧ r.toInt ≤ 9 ∧ Inv P g' ∧ Gr g' = Gr g0)) : LW 11 (d + 16) 0 0 110 [some (.ref 342), some (.int x1), some (.ref 2), some (.ref 136), some (.int x4), some (.int x5), some (.int x6)] [] g (fun v g' => ∃ r : Int32, v = some (.int r) ∧ (-1) ≤ r.toInt ∧ r.toInt ≤ 9 ∧ Inv P g' ∧ Gr g' = Gr g0) := by
  obtain ⟨vz1, evz1⟩ : ∃ z, Gi g 2 1 = z := ⟨_, rfl⟩
  rw [evz1] at hc2_1
  obtain ⟨vz2, evz2⟩ : ∃ z, Gi g 10 3 = z := ⟨_, rfl⟩
  rw [evz2] at hc10_3
  obtain ⟨vz3, evz3⟩ : ∃ z, Gi g 14 0 = z := ⟨_, rfl⟩
  rw [evz3] at hc14_0
  obtain ⟨vz4, evz4⟩ : ∃ z, Gi g 14 1 = z := ⟨_, rfl⟩
  rw [evz4] at hc14_1
  refine X_iload rfl rfl rfl ?_
  refine X_aload_n rfl rfl rfl rfl ?_
  refine X_getR (a := 7) rfl rfl rfl ((congrFun V.1 2).trans s_2) rfl ((congrFun (V.2.1 2 (by decide)) 6).trans r_2_6) ?_
  refine X_iload_n rfl rfl rfl rfl ?_
  refine S_iald rfl rfl ((congrFun V.1 7).trans s_7) hx1 (by omega) (fun vz5 evz5 => ?_)
  have vf6 := K_1 (V.2.2.2.2.1 (7) ((y1 : Int).toNat) (Nat.le_of_ble_eq_true rfl)) rk_7
  rw [evz5] at vf6
  refine S_icmp_ge (tgt := 149) rfl rfl rfl hx6 rfl (fun vh7 => ?_) (fun vh7 => ?_)
  · refine X_aload_n rfl rfl rfl rfl ?_
    refine X_getR (a := 10) rfl rfl rfl ((congrFun V.1 342).trans s_342) rfl ((congrFun (V.2.1 342 (by decide)) 1).trans r_342_1) ?_
    refine X_dup rfl rfl rfl ?_
    refine X_getI (v := vz2) rfl rfl rfl ((congrFun V.1 10).trans s_10) rfl evz2 ?_
    refine X_iconst (v := (1 : Int32)) rfl rfl rfl ?_
    refine S_iadd rfl rfl rfl (show (1 : Int32).toInt = 1 from rfl) (by omega) (fun vz8 hvz8 => ?_)
    refine S_putI (I := Inv _) rfl rfl rfl ((congrFun V.1 10).trans s_10) rfl rfl rfl rfl (Inv_putI V (Nat.le_of_ble_eq_true rfl) (Or.inl (by decide)) (Q_11_3 rk_10 (by omega))) (fun g V ve9 vn10 hq => ?_)
    have hG := hq.trans hG
    have evz1 := (vn10 (2) 1 (Or.inl (by decide))).trans evz1
    have evz3 := (vn10 (14) 0 (Or.inl (by decide))).trans evz3
    have evz4 := (vn10 (14) 1 (Or.inl (by decide))).trans evz4
    have evz5 := (vn10 (7) ((y1 : Int).toNat) (Or.inl (by decide))).trans evz5
    refine X_iload rfl rfl rfl ?_
    have hr := hx4
    exact LW_ireturn (st := []) rfl rfl rfl ⟨_, rfl, by omega, by omega, V, hG⟩
  · refine X_aload_n rfl rfl rfl rfl ?_
    refine X_getR (a := 140) rfl rfl rfl ((congrFun V.1 136).trans s_136) rfl ((congrFun (V.2.1 136 (by decide)) 3).trans r_136_3) ?_
    refine X_iload rfl rfl rfl ?_
    refine X_bipush (v := (8 : Int32)) rfl rfl rfl ?_
    refine S_imul rfl rfl hx4 (show (8 : Int32).toInt = 8 from rfl) (by omega) (fun vz11 hvz11 => ?_)
    refine X_iload rfl rfl rfl ?_
    refine S_iadd rfl rfl rfl hx6 (by omega) (fun vz12 hvz12 => ?_)
    refine X_aload_n rfl rfl rfl rfl ?_
    refine X_iload_n rfl rfl rfl rfl ?_
    refine X_iload rfl rfl rfl ?_
    refine X_iload rfl rfl rfl ?_
    refine Y_callV (as := [.int x1, .int x6, .int x5]) (st := [.int vz12, .ref 140]) rfl rfl rfl (by decide) rfl (Nat.le_of_ble_eq_true rfl) (by decide) (Nat.le_of_ble_eq_true rfl) rfl ((congrFun V.1 2).trans s_2) (by decide) (C_X5_wordSaid V x1 y1 hx1 (by omega) x6 y6 hx6 (by omega) x5 y5 hx5 ) ?_
    rintro _ g' ⟨vr13, rfl, hrvr130, hrvr131, hgg⟩
    subst hgg
    refine S_iast (I := Inv _) rfl rfl ((congrFun V.1 140).trans s_140) rfl (by omega) (Inv_putI V (Nat.le_of_ble_eq_true rfl) (Or.inl (by decide)) (Q_0 rk_140)) (fun g V ve14 vn15 hq => ?_)
    have hG := hq.trans hG
    have evz1 := (vn15 (2) 1 (Or.inl (by decide))).trans evz1
    have evz2 := (vn15 (10) 3 (Or.inl (by decide))).trans evz2
    have evz3 := (vn15 (14) 0 (Or.inl (by decide))).trans evz3
    have evz4 := (vn15 (14) 1 (Or.inl (by decide))).trans evz4
    have evz5 := (vn15 (7) ((y1 : Int).toNat) (Or.inl (by decide))).trans evz5
    refine S_iinc (c := 1) rfl rfl rfl hx6 rfl (by omega) (fun vz16 hvz16 => ?_)
    refine LW_ls (ls' := [some (.ref 342), some (.int x1), some (.ref 2), some (.ref 136), some (.int x4), some (.int x5), some (.int vz16)]) rfl ?_
    refine LW_goto (tgt := 110) rfl rfl ?_
    exact ih110 _ V hG x1 y1 hx1 (by omega) x4 y4 hx4 (by omega) x5 y5 hx5 vz16 vz16.toInt rfl (by omega) (by rw [evz1]; omega) (by rw [evz2]; omega) (by rw [evz3]; omega) (by rw [evz4]; omega)   (by omega)
theorem C_X1_conclude_all {P : Par} {g0 : LH} {d : Nat}  : ∀ n : Nat, (∀ (g : LH) (V : Inv P g) (hG : Gr g = Gr g0) (x1 : Int32) (y1 : Int) (hx1 : x1.toInt = y1) (hf1 : 0 ≤ y1 ∧ y1 ≤ 7) (x4 : Int32) (y4 : Int) (hx4 : x4.toInt = y4) (hf4 : 0 ≤ y4 ∧ y4 ≤ 9) (x5 : Int32) (y5 : Int) (hx5 : x5.toInt = y5) (x6 : Int32) (y6 : Int) (hx6 : x6.toInt = y6) (hf6 : 0 ≤ y6 ∧ y6 ≤ 8) (hc2_1 : 1 ≤ (Gi g 2 1).toInt ∧ (Gi g 2 1).toInt ≤ 8) (hc10_3 : 0 ≤ (Gi g 10 3).toInt ∧ (Gi g 10 3).toInt ≤ 9) (hc14_0 : 1 ≤ (Gi g 14 0).toInt ∧ (Gi g 14 0).toInt ≤ 30) (hc14_1 : 0 ≤ (Gi g 14 1).toInt ∧ (Gi g 14 1).toInt ≤ 29), (8 - y6) * 1 + 0 < (n : Int) → LW 11 (d + 16) 0 0 110 [some (.ref 342), some (.int x1), some (.ref 2), some (.ref 136), some (.int x4), some (.int x5), some (.int x6)] [] g (fun v g' => ∃ r : Int32, v = some (.int r) ∧ (-1) ≤ r.toInt ∧ r.toInt ≤ 9 ∧ Inv P g' ∧ Gr g' = Gr g0)) := by
  intro n
  induction n with
  | zero => exact fun g V hG x1 y1 hx1 hf1 x4 y4 hx4 hf4 x5 y5 hx5 x6 y6 hx6 hf6 hc2_1 hc10_3 hc14_0 hc14_1 hmu => absurd hmu (by omega)
  | succ n ih => exact fun g V hG x1 y1 hx1 hf1 x4 y4 hx4 hf4 x5 y5 hx5 x6 y6 hx6 hf6 hc2_1 hc10_3 hc14_0 hc14_1 hmu => C_X1_conclude_110  V hG x1 y1 hx1 hf1 x4 y4 hx4 hf4 x5 y5 hx5 x6 y6 hx6 hf6 hc2_1 hc10_3 hc14_0 hc14_1 (by omega) ih
set_option maxRecDepth 10000 in
set_option maxHeartbeats 40000000 in
theorem C_X1_conclude {P : Par} {g : LH} {d : Nat}  (V : Inv P g) (x1 : Int32) (y1 : Int) (hx1 : x1.toInt = y1)   : LW 11 (d + 16) 0 0 0 (lEnt (mL 11) [.ref 342, .int x1]) [] g (fun v g' => ∃ r : Int32, v = some (.int r) ∧ (-1) ≤ r.toInt ∧ r.toInt ≤ 9 ∧ Inv P g' ∧ Gr g' = Gr g) := by
  refine LW_ls (ls' := [some (.ref 342), some (.int x1), none, none, none, none, none]) rfl ?_
  have hG : Gr g = Gr g := rfl
  refine X_aload_n rfl rfl rfl rfl ?_
  refine X_getR (a := 1) rfl rfl rfl ((congrFun V.1 342).trans s_342) rfl ((congrFun (V.2.1 342 (by decide)) 0).trans r_342_0) ?_
  refine X_getR (a := 2) rfl rfl rfl ((congrFun V.1 1).trans s_1) rfl ((congrFun (V.2.1 1 (by decide)) 0).trans r_1_0) ?_
  refine X_astore_n (i := 2) (ls' := [some (.ref 342), some (.int x1), some (.ref 2), none, none, none, none]) rfl rfl rfl (Nat.le_of_ble_eq_true rfl) rfl ?_
  refine X_aload_n rfl rfl rfl rfl ?_
  refine X_getR (a := 1) rfl rfl rfl ((congrFun V.1 342).trans s_342) rfl ((congrFun (V.2.1 342 (by decide)) 0).trans r_342_0) ?_
  refine X_getR (a := 136) rfl rfl rfl ((congrFun V.1 1).trans s_1) rfl ((congrFun (V.2.1 1 (by decide)) 3).trans r_1_3) ?_
  refine X_astore_n (i := 3) (ls' := [some (.ref 342), some (.int x1), some (.ref 2), some (.ref 136), none, none, none]) rfl rfl rfl (Nat.le_of_ble_eq_true rfl) rfl ?_
  refine X_aload_n rfl rfl rfl rfl ?_
  refine X_getR (a := 10) rfl rfl rfl ((congrFun V.1 342).trans s_342) rfl ((congrFun (V.2.1 342 (by decide)) 1).trans r_342_1) ?_
  refine S_getI rfl rfl rfl ((congrFun V.1 10).trans s_10) rfl (fun vz1 evz1 => ?_)
  have vf2 := K_11_3 (V.2.2.2.2.1 (10) (3) (Nat.le_of_ble_eq_true rfl)) rk_10
  rw [evz1] at vf2
  refine X_istore (i := 4) (ls' := [some (.ref 342), some (.int x1), some (.ref 2), some (.ref 136), some (.int vz1), none, none]) rfl rfl (Nat.le_of_ble_eq_true rfl) rfl ?_
  refine X_aload_n rfl rfl rfl rfl ?_
  refine X_getR (a := 10) rfl rfl rfl ((congrFun V.1 342).trans s_342) rfl ((congrFun (V.2.1 342 (by decide)) 1).trans r_342_1) ?_
  refine Y_callV (as := []) (st := []) rfl rfl rfl (by decide) rfl (Nat.le_of_ble_eq_true rfl) (by decide) (Nat.le_of_ble_eq_true rfl) rfl ((congrFun V.1 10).trans s_10) (by decide) (C_X9_missing V  ) ?_
  rintro _ g' ⟨vr3, rfl, hgg⟩
  subst hgg
  refine X_istore (i := 5) (ls' := [some (.ref 342), some (.int x1), some (.ref 2), some (.ref 136), some (.int vz1), some (.int vr3), none]) rfl rfl (Nat.le_of_ble_eq_true rfl) rfl ?_
  refine X_iload rfl rfl rfl ?_
  refine S_if_lt (tgt := 56) rfl rfl rfl rfl (fun q => absurd q (by omega)) (fun vh4 => ?_)
  refine X_iload rfl rfl rfl ?_
  refine X_bipush (v := (10 : Int32)) rfl rfl rfl ?_
  refine S_icmp_ge (tgt := 56) rfl rfl rfl rfl (show (10 : Int32).toInt = 10 from rfl) (fun vh5 => ?_) (fun vh5 => ?_)
  · refine X_iconst (v := (-1 : Int32)) rfl rfl rfl ?_
    exact LW_ireturn (st := []) rfl rfl rfl ⟨_, rfl, by decide, by decide, V, hG⟩
  · refine X_aload_n rfl rfl rfl rfl ?_
    refine X_iload_n rfl rfl rfl rfl ?_
    refine X_iload rfl rfl rfl ?_
    refine X_callV (as := [.int x1, .int vr3]) (st := []) rfl rfl rfl (by decide) rfl (Nat.le_of_ble_eq_true rfl) (by decide) (Nat.le_of_ble_eq_true rfl) rfl ((congrFun V.1 2).trans s_2) (by decide) ?_
    refine LW_ls (ls' := [some (.ref 2), some (.int x1), some (.int vr3)]) rfl ?_
    refine X_aload_n rfl rfl rfl rfl ?_
    refine X_iload_n rfl rfl rfl rfl ?_
    refine X_callV (as := [.int x1]) (st := []) rfl rfl rfl (by decide) rfl (Nat.le_of_ble_eq_true rfl) (by decide) (Nat.le_of_ble_eq_true rfl) rfl ((congrFun V.1 2).trans s_2) (by decide) ?_
    refine LW_ls (ls' := [some (.ref 2), some (.int x1)]) rfl ?_
    refine X_iload_n rfl rfl rfl rfl ?_
    refine S_if_lt (tgt := 22) rfl rfl rfl hx1 (fun vh6 => ?_) (fun vh6 => ?_)
    · refine X_iconst (v := (0 : Int32)) rfl rfl rfl ?_
      refine LW_ireturn (st := []) rfl rfl rfl ?_
      refine S_if_eq (tgt := 29) rfl rfl rfl (show (0 : Int32).toInt = 0 from rfl) (fun vh7 => ?_) (fun q => absurd q (by omega))
      refine X_iconst (v := (0 : Int32)) rfl rfl rfl ?_
      refine LW_ireturn (st := []) rfl rfl rfl ?_
      refine S_if_ne (tgt := 58) rfl rfl rfl (show (0 : Int32).toInt = 0 from rfl) (fun q => absurd q (by omega)) (fun vh8 => ?_)
      refine X_iconst (v := (-1 : Int32)) rfl rfl rfl ?_
      exact LW_ireturn (st := []) rfl rfl rfl ⟨_, rfl, by decide, by decide, V, hG⟩
    · refine X_iload_n rfl rfl rfl rfl ?_
      refine X_aload_n rfl rfl rfl rfl ?_
      refine S_getI rfl rfl rfl ((congrFun V.1 2).trans s_2) rfl (fun vz9 evz9 => ?_)
      have vf10 := K_10_1 (V.2.2.2.2.1 (2) (1) (Nat.le_of_ble_eq_true rfl)) rk_2
      rw [evz9] at vf10
      refine S_icmp_ge (tgt := 22) rfl rfl rfl hx1 rfl (fun vh11 => ?_) (fun vh11 => ?_)
      · refine X_iconst (v := (0 : Int32)) rfl rfl rfl ?_
        refine LW_ireturn (st := []) rfl rfl rfl ?_
        refine S_if_eq (tgt := 29) rfl rfl rfl (show (0 : Int32).toInt = 0 from rfl) (fun vh12 => ?_) (fun q => absurd q (by omega))
        refine X_iconst (v := (0 : Int32)) rfl rfl rfl ?_
        refine LW_ireturn (st := []) rfl rfl rfl ?_
        refine S_if_ne (tgt := 58) rfl rfl rfl (show (0 : Int32).toInt = 0 from rfl) (fun q => absurd q (by omega)) (fun vh13 => ?_)
        refine X_iconst (v := (-1 : Int32)) rfl rfl rfl ?_
        exact LW_ireturn (st := []) rfl rfl rfl ⟨_, rfl, by decide, by decide, V, hG⟩
      · refine X_iload_n rfl rfl rfl rfl ?_
        refine X_bipush (v := (8 : Int32)) rfl rfl rfl ?_
        refine S_icmp_ge (tgt := 22) rfl rfl rfl hx1 (show (8 : Int32).toInt = 8 from rfl) (fun q => absurd q (by omega)) (fun vh14 => ?_)
        refine X_iconst (v := (1 : Int32)) rfl rfl rfl ?_
        refine LW_goto (tgt := 23) rfl rfl ?_
        refine LW_ireturn (st := []) rfl rfl rfl ?_
        refine S_if_eq (tgt := 29) rfl rfl rfl (show (1 : Int32).toInt = 1 from rfl) (fun q => absurd q (by omega)) (fun vh15 => ?_)
        refine X_aload_n rfl rfl rfl rfl ?_
        refine X_getR (a := 8) rfl rfl rfl ((congrFun V.1 2).trans s_2) rfl ((congrFun (V.2.1 2 (by decide)) 7).trans r_2_7) ?_
        refine X_iload_n rfl rfl rfl rfl ?_
        refine S_iald rfl rfl ((congrFun V.1 8).trans s_8) hx1 (by omega) (fun vz16 evz16 => ?_)
        refine X_aload_n rfl rfl rfl rfl ?_
        refine X_iload_n rfl rfl rfl rfl ?_
        refine Y_callV (as := [.int vr3]) (st := [.int vz16]) rfl rfl rfl (by decide) rfl (Nat.le_of_ble_eq_true rfl) (by decide) (Nat.le_of_ble_eq_true rfl) rfl ((congrFun V.1 2).trans s_2) (by decide) (C_X5_sensesLeft V vr3 vr3.toInt rfl ) ?_
        rintro _ g' ⟨vr17, rfl, hrvr170, hrvr171, hgg⟩
        subst hgg
        refine X_iconst (v := (-1 : Int32)) rfl rfl rfl ?_
        refine S_ixorT rfl rfl (fun vz18 => ?_)
        refine S_iandT rfl rfl (fun vz19 => ?_)
        refine S_if_ne (tgt := 29) rfl rfl rfl rfl (fun vh20 => ?_) (fun vh20 => ?_)
        · refine X_iconst (v := (0 : Int32)) rfl rfl rfl ?_
          refine LW_ireturn (st := []) rfl rfl rfl ?_
          refine S_if_ne (tgt := 58) rfl rfl rfl (show (0 : Int32).toInt = 0 from rfl) (fun q => absurd q (by omega)) (fun vh21 => ?_)
          refine X_iconst (v := (-1 : Int32)) rfl rfl rfl ?_
          exact LW_ireturn (st := []) rfl rfl rfl ⟨_, rfl, by decide, by decide, V, hG⟩
        · refine X_iconst (v := (1 : Int32)) rfl rfl rfl ?_
          refine LW_goto (tgt := 30) rfl rfl ?_
          refine LW_ireturn (st := []) rfl rfl rfl ?_
          refine S_if_ne (tgt := 58) rfl rfl rfl (show (1 : Int32).toInt = 1 from rfl) (fun vh22 => ?_) (fun q => absurd q (by omega))
          refine X_aload_n rfl rfl rfl rfl ?_
          refine X_getR (a := 1) rfl rfl rfl ((congrFun V.1 342).trans s_342) rfl ((congrFun (V.2.1 342 (by decide)) 0).trans r_342_0) ?_
          refine X_getR (a := 14) rfl rfl rfl ((congrFun V.1 1).trans s_1) rfl ((congrFun (V.2.1 1 (by decide)) 2).trans r_1_2) ?_
          refine X_aload_n rfl rfl rfl rfl ?_
          refine X_getR (a := 10) rfl rfl rfl ((congrFun V.1 342).trans s_342) rfl ((congrFun (V.2.1 342 (by decide)) 1).trans r_342_1) ?_
          refine X_callV (as := [.ref 10]) (st := []) rfl rfl rfl (by decide) rfl (Nat.le_of_ble_eq_true rfl) (by decide) (Nat.le_of_ble_eq_true rfl) rfl ((congrFun V.1 14).trans s_14) (by decide) ?_
          refine LW_ls (ls' := [some (.ref 14), some (.ref 10)]) rfl ?_
          refine X_aload_n rfl rfl rfl rfl ?_
          refine S_getI rfl rfl rfl ((congrFun V.1 14).trans s_14) rfl (fun vz23 evz23 => ?_)
          have vf24 := K_12_0 (V.2.2.2.2.1 (14) (0) (Nat.le_of_ble_eq_true rfl)) rk_14
          rw [evz23] at vf24
          refine X_bipush (v := (30 : Int32)) rfl rfl rfl ?_
          refine S_icmp_ne (tgt := 32) rfl rfl rfl rfl (show (30 : Int32).toInt = 30 from rfl) (fun vh25 => ?_) (fun vh25 => ?_)
          · refine X_aload_n rfl rfl rfl rfl ?_
            refine X_getR (a := 15) rfl rfl rfl ((congrFun V.1 14).trans s_14) rfl ((congrFun (V.2.1 14 (by decide)) 2).trans r_14_2) ?_
            refine X_aload_n rfl rfl rfl rfl ?_
            refine S_getI rfl rfl rfl ((congrFun V.1 14).trans s_14) rfl (fun vz26 evz26 => ?_)
            have vf27 := K_12_1 (V.2.2.2.2.1 (14) (1) (Nat.le_of_ble_eq_true rfl)) rk_14
            rw [evz26] at vf27
            refine X_aload_n rfl rfl rfl rfl ?_
            refine X_getI (v := vz23) rfl rfl rfl ((congrFun V.1 14).trans s_14) rfl evz23 ?_
            refine S_iadd rfl rfl rfl rfl (by omega) (fun vz28 hvz28 => ?_)
            refine X_bipush (v := (30 : Int32)) rfl rfl rfl ?_
            refine S_irem rfl rfl rfl (show (30 : Int32).toInt = 30 from rfl) (by omega) (by omega) (fun vz29 hvz29 => ?_)
            obtain ⟨t, ht, et⟩ : ∃ t : Nat, t < 30 ∧ (t : Int) = vz29.toInt := ⟨(vz29.toInt : Int).toNat, by omega, by omega⟩
            refine X_aald (a := 16 + 4 * t) (t0 := 3) rfl rfl ((congrFun V.1 15).trans s_15) rfl (ti_idx (n := 30) rfl (by omega)).1 (by rw [(ti_idx (n := 30) rfl (by omega)).2, show (vz29.toInt : Int).toNat = t by omega]; exact (congrFun (V.2.1 15 (by decide)) t).trans (sp_a t ht)) ?_
            refine X_aload_n rfl rfl rfl rfl ?_
            refine X_callV (as := [.ref 10]) (st := []) rfl rfl rfl (by decide) rfl (Nat.le_of_ble_eq_true rfl) (by decide) (Nat.le_of_ble_eq_true rfl) rfl ((congrFun V.1 _).trans (sp_s t ht)) (by decide) ?_
            refine LW_ls (ls' := [some (.ref (16 + 4 * t)), some (.ref 10)]) rfl ?_
            refine X_aload_n rfl rfl rfl rfl ?_
            refine X_aload_n rfl rfl rfl rfl ?_
            refine S_getI rfl rfl rfl ((congrFun V.1 10).trans s_10) rfl (fun vz30 evz30 => ?_)
            refine S_putI (I := Inv _) rfl rfl rfl ((congrFun V.1 _).trans (sp_s t ht)) rfl rfl rfl rfl (Inv_putI V (by omega) (Or.inl (by omega)) (Q_11_0 (sp_k t ht))) (fun g V ve31 vn32 hq => ?_)
            have hG := hq.trans hG
            have evz1 := (vn32 (10) 3 (Or.inl (by omega))).trans evz1
            have evz9 := (vn32 (2) 1 (Or.inl (by omega))).trans evz9
            have evz16 := (vn32 (8) ((y1 : Int).toNat) (Or.inl (by omega))).trans evz16
            have evz23 := (vn32 (14) 0 (Or.inl (by omega))).trans evz23
            have evz26 := (vn32 (14) 1 (Or.inl (by omega))).trans evz26
            have evz30 := (vn32 (10) 0 (Or.inl (by omega))).trans evz30
            refine X_aload_n rfl rfl rfl rfl ?_
            refine X_aload_n rfl rfl rfl rfl ?_
            refine S_getI rfl rfl rfl ((congrFun V.1 10).trans s_10) rfl (fun vz33 evz33 => ?_)
            refine S_putI (I := Inv _) rfl rfl rfl ((congrFun V.1 _).trans (sp_s t ht)) rfl rfl rfl rfl (Inv_putI V (by omega) (Or.inl (by omega)) (Q_11_1 (sp_k t ht))) (fun g V ve34 vn35 hq => ?_)
            have hG := hq.trans hG
            have evz1 := (vn35 (10) 3 (Or.inl (by omega))).trans evz1
            have evz9 := (vn35 (2) 1 (Or.inl (by omega))).trans evz9
            have evz16 := (vn35 (8) ((y1 : Int).toNat) (Or.inl (by omega))).trans evz16
            have evz23 := (vn35 (14) 0 (Or.inl (by omega))).trans evz23
            have evz26 := (vn35 (14) 1 (Or.inl (by omega))).trans evz26
            have evz30 := (vn35 (10) 0 (Or.inl (by omega))).trans evz30
            have ve31 := (vn35 (16 + 4 * t) 0 (Or.inr (by decide))).trans ve31
            have evz33 := (vn35 (10) 1 (Or.inl (by omega))).trans evz33
            refine X_aload_n rfl rfl rfl rfl ?_
            refine X_aload_n rfl rfl rfl rfl ?_
            refine S_getI rfl rfl rfl ((congrFun V.1 10).trans s_10) rfl (fun vz36 evz36 => ?_)
            refine S_putI (I := Inv _) rfl rfl rfl ((congrFun V.1 _).trans (sp_s t ht)) rfl rfl rfl rfl (Inv_putI V (by omega) (Or.inl (by omega)) (Q_11_2 (sp_k t ht))) (fun g V ve37 vn38 hq => ?_)
            have hG := hq.trans hG
            have evz1 := (vn38 (10) 3 (Or.inl (by omega))).trans evz1
            have evz9 := (vn38 (2) 1 (Or.inl (by omega))).trans evz9
            have evz16 := (vn38 (8) ((y1 : Int).toNat) (Or.inl (by omega))).trans evz16
            have evz23 := (vn38 (14) 0 (Or.inl (by omega))).trans evz23
            have evz26 := (vn38 (14) 1 (Or.inl (by omega))).trans evz26
            have evz30 := (vn38 (10) 0 (Or.inl (by omega))).trans evz30
            have ve31 := (vn38 (16 + 4 * t) 0 (Or.inr (by decide))).trans ve31
            have evz33 := (vn38 (10) 1 (Or.inl (by omega))).trans evz33
            have ve34 := (vn38 (16 + 4 * t) 1 (Or.inr (by decide))).trans ve34
            have evz36 := (vn38 (10) 2 (Or.inl (by omega))).trans evz36
            refine X_aload_n rfl rfl rfl rfl ?_
            refine X_aload_n rfl rfl rfl rfl ?_
            refine X_getI (v := vz1) rfl rfl rfl ((congrFun V.1 10).trans s_10) rfl evz1 ?_
            refine S_putI (I := Inv _) rfl rfl rfl ((congrFun V.1 _).trans (sp_s t ht)) rfl rfl rfl rfl (Inv_putI V (by omega) (Or.inl (by omega)) (Q_11_3 (sp_k t ht) (by omega))) (fun g V ve39 vn40 hq => ?_)
            have hG := hq.trans hG
            have evz1 := (vn40 (10) 3 (Or.inl (by omega))).trans evz1
            have evz9 := (vn40 (2) 1 (Or.inl (by omega))).trans evz9
            have evz16 := (vn40 (8) ((y1 : Int).toNat) (Or.inl (by omega))).trans evz16
            have evz23 := (vn40 (14) 0 (Or.inl (by omega))).trans evz23
            have evz26 := (vn40 (14) 1 (Or.inl (by omega))).trans evz26
            have evz30 := (vn40 (10) 0 (Or.inl (by omega))).trans evz30
            have ve31 := (vn40 (16 + 4 * t) 0 (Or.inr (by decide))).trans ve31
            have evz33 := (vn40 (10) 1 (Or.inl (by omega))).trans evz33
            have ve34 := (vn40 (16 + 4 * t) 1 (Or.inr (by decide))).trans ve34
            have evz36 := (vn40 (10) 2 (Or.inl (by omega))).trans evz36
            have ve37 := (vn40 (16 + 4 * t) 2 (Or.inr (by decide))).trans ve37
            refine X_aload_n rfl rfl rfl rfl ?_
            refine X_getR (a := 11) rfl rfl rfl ((congrFun V.1 10).trans s_10) rfl ((congrFun (V.2.1 10 (by decide)) 4).trans r_10_4) ?_
            refine X_iconst (v := (0 : Int32)) rfl rfl rfl ?_
            refine X_aload_n rfl rfl rfl rfl ?_
            refine X_getR (a := 17 + 4 * t) rfl rfl rfl ((congrFun V.1 _).trans (sp_s t ht)) rfl ((congrFun (V.2.1 (16 + 4 * t) (by omega)) 4).trans (sp_r4 t ht)) ?_
            refine X_iconst (v := (0 : Int32)) rfl rfl rfl ?_
            refine X_bipush (v := (26 : Int32)) rfl rfl rfl ?_
            refine S_copy (I := Inv _) (sp' := 0) (dp' := 0) (n' := 26) rfl rfl rfl ((congrFun V.1 11).trans s_11) ((congrFun V.1 _).trans (sp_s4 t ht)) (by decide) (by decide) (by decide) rfl rfl rfl (by decide) (by decide) (Nat.le_of_ble_eq_true rfl) (Inv_cpy V (Nat.le_of_ble_eq_true rfl) (by omega) (by omega) (U_0 rk_11 (sp_k4 t ht))) (fun g V vn41 hq => ?_)
            have hG := hq.trans hG
            have evz1 := (vn41 (10) 3 (by omega)).trans evz1
            have evz9 := (vn41 (2) 1 (by omega)).trans evz9
            have evz23 := (vn41 (14) 0 (by omega)).trans evz23
            have evz26 := (vn41 (14) 1 (by omega)).trans evz26
            have evz30 := (vn41 (10) 0 (by omega)).trans evz30
            have ve31 := (vn41 (16 + 4 * t) 0 (by omega)).trans ve31
            have evz33 := (vn41 (10) 1 (by omega)).trans evz33
            have ve34 := (vn41 (16 + 4 * t) 1 (by omega)).trans ve34
            have evz36 := (vn41 (10) 2 (by omega)).trans evz36
            have ve37 := (vn41 (16 + 4 * t) 2 (by omega)).trans ve37
            have ve39 := (vn41 (16 + 4 * t) 3 (by omega)).trans ve39
            refine X_aload_n rfl rfl rfl rfl ?_
            refine X_getR (a := 12) rfl rfl rfl ((congrFun V.1 10).trans s_10) rfl ((congrFun (V.2.1 10 (by decide)) 5).trans r_10_5) ?_
            refine X_iconst (v := (0 : Int32)) rfl rfl rfl ?_
            refine X_aload_n rfl rfl rfl rfl ?_
            refine X_getR (a := 18 + 4 * t) rfl rfl rfl ((congrFun V.1 _).trans (sp_s t ht)) rfl ((congrFun (V.2.1 (16 + 4 * t) (by omega)) 5).trans (sp_r5 t ht)) ?_
            refine X_iconst (v := (0 : Int32)) rfl rfl rfl ?_
            refine X_bipush (v := (26 : Int32)) rfl rfl rfl ?_
            refine S_copy (I := Inv _) (sp' := 0) (dp' := 0) (n' := 26) rfl rfl rfl ((congrFun V.1 12).trans s_12) ((congrFun V.1 _).trans (sp_s5 t ht)) (by decide) (by decide) (by decide) rfl rfl rfl (by decide) (by decide) (Nat.le_of_ble_eq_true rfl) (Inv_cpy V (Nat.le_of_ble_eq_true rfl) (by omega) (by omega) (U_0 rk_12 (sp_k5 t ht))) (fun g V vn42 hq => ?_)
            have hG := hq.trans hG
            have evz1 := (vn42 (10) 3 (by omega)).trans evz1
            have evz9 := (vn42 (2) 1 (by omega)).trans evz9
            have evz23 := (vn42 (14) 0 (by omega)).trans evz23
            have evz26 := (vn42 (14) 1 (by omega)).trans evz26
            have evz30 := (vn42 (10) 0 (by omega)).trans evz30
            have ve31 := (vn42 (16 + 4 * t) 0 (by omega)).trans ve31
            have evz33 := (vn42 (10) 1 (by omega)).trans evz33
            have ve34 := (vn42 (16 + 4 * t) 1 (by omega)).trans ve34
            have evz36 := (vn42 (10) 2 (by omega)).trans evz36
            have ve37 := (vn42 (16 + 4 * t) 2 (by omega)).trans ve37
            have ve39 := (vn42 (16 + 4 * t) 3 (by omega)).trans ve39
            refine X_aload_n rfl rfl rfl rfl ?_
            refine X_getR (a := 13) rfl rfl rfl ((congrFun V.1 10).trans s_10) rfl ((congrFun (V.2.1 10 (by decide)) 6).trans r_10_6) ?_
            refine X_iconst (v := (0 : Int32)) rfl rfl rfl ?_
            refine X_aload_n rfl rfl rfl rfl ?_
            refine X_getR (a := 19 + 4 * t) rfl rfl rfl ((congrFun V.1 _).trans (sp_s t ht)) rfl ((congrFun (V.2.1 (16 + 4 * t) (by omega)) 6).trans (sp_r6 t ht)) ?_
            refine X_iconst (v := (0 : Int32)) rfl rfl rfl ?_
            refine X_bipush (v := (26 : Int32)) rfl rfl rfl ?_
            refine S_copy (I := Inv _) (sp' := 0) (dp' := 0) (n' := 26) rfl rfl rfl ((congrFun V.1 13).trans s_13) ((congrFun V.1 _).trans (sp_s6 t ht)) (by decide) (by decide) (by decide) rfl rfl rfl (by decide) (by decide) (Nat.le_of_ble_eq_true rfl) (Inv_cpy V (Nat.le_of_ble_eq_true rfl) (by omega) (by omega) (U_0 rk_13 (sp_k6 t ht))) (fun g V vn43 hq => ?_)
            have hG := hq.trans hG
            have evz1 := (vn43 (10) 3 (by omega)).trans evz1
            have evz9 := (vn43 (2) 1 (by omega)).trans evz9
            have evz23 := (vn43 (14) 0 (by omega)).trans evz23
            have evz26 := (vn43 (14) 1 (by omega)).trans evz26
            have evz30 := (vn43 (10) 0 (by omega)).trans evz30
            have ve31 := (vn43 (16 + 4 * t) 0 (by omega)).trans ve31
            have evz33 := (vn43 (10) 1 (by omega)).trans evz33
            have ve34 := (vn43 (16 + 4 * t) 1 (by omega)).trans ve34
            have evz36 := (vn43 (10) 2 (by omega)).trans evz36
            have ve37 := (vn43 (16 + 4 * t) 2 (by omega)).trans ve37
            have ve39 := (vn43 (16 + 4 * t) 3 (by omega)).trans ve39
            refine LW_return (st := []) rfl rfl ?_
            refine X_aload_n rfl rfl rfl rfl ?_
            refine X_dup rfl rfl rfl ?_
            refine X_getI (v := vz23) rfl rfl rfl ((congrFun V.1 14).trans s_14) rfl evz23 ?_
            refine X_iconst (v := (1 : Int32)) rfl rfl rfl ?_
            refine S_iadd rfl rfl rfl (show (1 : Int32).toInt = 1 from rfl) (by omega) (fun vz44 hvz44 => ?_)
            refine S_putI (I := Inv _) rfl rfl rfl ((congrFun V.1 14).trans s_14) rfl rfl rfl rfl (Inv_putI V (Nat.le_of_ble_eq_true rfl) (Or.inl (by decide)) (Q_12_0 rk_14 (by omega))) (fun g V ve45 vn46 hq => ?_)
            have hG := hq.trans hG
            have evz1 := (vn46 (10) 3 (Or.inl (by decide))).trans evz1
            have evz9 := (vn46 (2) 1 (Or.inl (by decide))).trans evz9
            have evz26 := (vn46 (14) 1 (Or.inr (by decide))).trans evz26
            have evz30 := (vn46 (10) 0 (Or.inl (by decide))).trans evz30
            have ve31 := (vn46 (16 + 4 * t) 0 (Or.inl (by omega))).trans ve31
            have evz33 := (vn46 (10) 1 (Or.inl (by decide))).trans evz33
            have ve34 := (vn46 (16 + 4 * t) 1 (Or.inl (by omega))).trans ve34
            have evz36 := (vn46 (10) 2 (Or.inl (by decide))).trans evz36
            have ve37 := (vn46 (16 + 4 * t) 2 (Or.inl (by omega))).trans ve37
            have ve39 := (vn46 (16 + 4 * t) 3 (Or.inl (by omega))).trans ve39
            refine LW_return (st := []) rfl rfl ?_
            refine X_aload_n rfl rfl rfl rfl ?_
            refine X_getR (a := 137) rfl rfl rfl ((congrFun V.1 136).trans s_136) rfl ((congrFun (V.2.1 136 (by decide)) 0).trans r_136_0) ?_
            refine X_iload rfl rfl rfl ?_
            refine X_iload_n rfl rfl rfl rfl ?_
            refine S_iast (I := Inv _) rfl rfl ((congrFun V.1 137).trans s_137) rfl (by omega) (Inv_putI V (Nat.le_of_ble_eq_true rfl) (Or.inl (by decide)) (Q_0 rk_137)) (fun g V ve47 vn48 hq => ?_)
            have hG := hq.trans hG
            have evz1 := (vn48 (10) 3 (Or.inl (by decide))).trans evz1
            have evz9 := (vn48 (2) 1 (Or.inl (by decide))).trans evz9
            have evz26 := (vn48 (14) 1 (Or.inl (by decide))).trans evz26
            have evz30 := (vn48 (10) 0 (Or.inl (by decide))).trans evz30
            have ve31 := (vn48 (16 + 4 * t) 0 (Or.inl (by omega))).trans ve31
            have evz33 := (vn48 (10) 1 (Or.inl (by decide))).trans evz33
            have ve34 := (vn48 (16 + 4 * t) 1 (Or.inl (by omega))).trans ve34
            have evz36 := (vn48 (10) 2 (Or.inl (by decide))).trans evz36
            have ve37 := (vn48 (16 + 4 * t) 2 (Or.inl (by omega))).trans ve37
            have ve39 := (vn48 (16 + 4 * t) 3 (Or.inl (by omega))).trans ve39
            have ve45 := (vn48 (14) 0 (Or.inl (by decide))).trans ve45
            refine X_aload_n rfl rfl rfl rfl ?_
            refine X_getR (a := 138) rfl rfl rfl ((congrFun V.1 136).trans s_136) rfl ((congrFun (V.2.1 136 (by decide)) 1).trans r_136_1) ?_
            refine X_iload rfl rfl rfl ?_
            refine X_aload_n rfl rfl rfl rfl ?_
            refine X_getR (a := 10) rfl rfl rfl ((congrFun V.1 342).trans s_342) rfl ((congrFun (V.2.1 342 (by decide)) 1).trans r_342_1) ?_
            refine X_getI (v := vz33) rfl rfl rfl ((congrFun V.1 10).trans s_10) rfl evz33 ?_
            refine S_iast (I := Inv _) rfl rfl ((congrFun V.1 138).trans s_138) rfl (by omega) (Inv_putI V (Nat.le_of_ble_eq_true rfl) (Or.inl (by decide)) (Q_0 rk_138)) (fun g V ve49 vn50 hq => ?_)
            have hG := hq.trans hG
            have evz1 := (vn50 (10) 3 (Or.inl (by decide))).trans evz1
            have evz9 := (vn50 (2) 1 (Or.inl (by decide))).trans evz9
            have evz26 := (vn50 (14) 1 (Or.inl (by decide))).trans evz26
            have evz30 := (vn50 (10) 0 (Or.inl (by decide))).trans evz30
            have ve31 := (vn50 (16 + 4 * t) 0 (Or.inl (by omega))).trans ve31
            have evz33 := (vn50 (10) 1 (Or.inl (by decide))).trans evz33
            have ve34 := (vn50 (16 + 4 * t) 1 (Or.inl (by omega))).trans ve34
            have evz36 := (vn50 (10) 2 (Or.inl (by decide))).trans evz36
            have ve37 := (vn50 (16 + 4 * t) 2 (Or.inl (by omega))).trans ve37
            have ve39 := (vn50 (16 + 4 * t) 3 (Or.inl (by omega))).trans ve39
            have ve45 := (vn50 (14) 0 (Or.inl (by decide))).trans ve45
            refine X_aload_n rfl rfl rfl rfl ?_
            refine X_getR (a := 139) rfl rfl rfl ((congrFun V.1 136).trans s_136) rfl ((congrFun (V.2.1 136 (by decide)) 2).trans r_136_2) ?_
            refine X_iload rfl rfl rfl ?_
            refine X_aload_n rfl rfl rfl rfl ?_
            refine X_getR (a := 7) rfl rfl rfl ((congrFun V.1 2).trans s_2) rfl ((congrFun (V.2.1 2 (by decide)) 6).trans r_2_6) ?_
            refine X_iload_n rfl rfl rfl rfl ?_
            refine S_iald rfl rfl ((congrFun V.1 7).trans s_7) hx1 (by omega) (fun vz51 evz51 => ?_)
            have vf52 := K_1 (V.2.2.2.2.1 (7) ((y1 : Int).toNat) (Nat.le_of_ble_eq_true rfl)) rk_7
            rw [evz51] at vf52
            refine S_iast (I := Inv _) rfl rfl ((congrFun V.1 139).trans s_139) rfl (by omega) (Inv_putI V (Nat.le_of_ble_eq_true rfl) (Or.inl (by decide)) (Q_1 rk_139 (by omega))) (fun g V ve53 vn54 hq => ?_)
            have hG := hq.trans hG
            have evz1 := (vn54 (10) 3 (Or.inl (by decide))).trans evz1
            have evz9 := (vn54 (2) 1 (Or.inl (by decide))).trans evz9
            have evz26 := (vn54 (14) 1 (Or.inl (by decide))).trans evz26
            have evz30 := (vn54 (10) 0 (Or.inl (by decide))).trans evz30
            have ve31 := (vn54 (16 + 4 * t) 0 (Or.inl (by omega))).trans ve31
            have evz33 := (vn54 (10) 1 (Or.inl (by decide))).trans evz33
            have ve34 := (vn54 (16 + 4 * t) 1 (Or.inl (by omega))).trans ve34
            have evz36 := (vn54 (10) 2 (Or.inl (by decide))).trans evz36
            have ve37 := (vn54 (16 + 4 * t) 2 (Or.inl (by omega))).trans ve37
            have ve39 := (vn54 (16 + 4 * t) 3 (Or.inl (by omega))).trans ve39
            have ve45 := (vn54 (14) 0 (Or.inl (by decide))).trans ve45
            have evz51 := (vn54 (7) ((y1 : Int).toNat) (Or.inl (by decide))).trans evz51
            refine X_iconst (v := (0 : Int32)) rfl rfl rfl ?_
            refine X_istore (i := 6) (ls' := [some (.ref 342), some (.int x1), some (.ref 2), some (.ref 136), some (.int vz1), some (.int vr3), some (.int (0 : Int32))]) rfl rfl (Nat.le_of_ble_eq_true rfl) rfl ?_
            exact (C_X1_conclude_all (((8 - 0) * 1 + 0) + 1 : Int).toNat) _ V hG x1 y1 hx1 (by omega) vz1 vz1.toInt rfl (by omega) vr3 vr3.toInt rfl (0 : Int32) 0 (show (0 : Int32).toInt = 0 from rfl) (by omega) (by rw [evz9]; omega) (by rw [evz1]; omega) (by rw [ve45]; omega) (by rw [evz26]; omega)   (by omega)
          · refine X_aload_n rfl rfl rfl rfl ?_
            refine X_aload_n rfl rfl rfl rfl ?_
            refine S_getI rfl rfl rfl ((congrFun V.1 14).trans s_14) rfl (fun vz55 evz55 => ?_)
            have vf56 := K_12_1 (V.2.2.2.2.1 (14) (1) (Nat.le_of_ble_eq_true rfl)) rk_14
            rw [evz55] at vf56
            refine X_iconst (v := (1 : Int32)) rfl rfl rfl ?_
            refine S_iadd rfl rfl rfl (show (1 : Int32).toInt = 1 from rfl) (by omega) (fun vz57 hvz57 => ?_)
            refine X_bipush (v := (30 : Int32)) rfl rfl rfl ?_
            refine S_irem rfl rfl rfl (show (30 : Int32).toInt = 30 from rfl) (by omega) (by omega) (fun vz58 hvz58 => ?_)
            refine S_putI (I := Inv _) rfl rfl rfl ((congrFun V.1 14).trans s_14) rfl rfl rfl rfl (Inv_putI V (Nat.le_of_ble_eq_true rfl) (Or.inl (by decide)) (Q_12_1 rk_14 (by omega))) (fun g V ve59 vn60 hq => ?_)
            have hG := hq.trans hG
            have evz1 := (vn60 (10) 3 (Or.inl (by decide))).trans evz1
            have evz9 := (vn60 (2) 1 (Or.inl (by decide))).trans evz9
            have evz16 := (vn60 (8) ((y1 : Int).toNat) (Or.inl (by decide))).trans evz16
            have evz23 := (vn60 (14) 0 (Or.inr (by decide))).trans evz23
            refine X_aload_n rfl rfl rfl rfl ?_
            refine X_dup rfl rfl rfl ?_
            refine X_getI (v := vz23) rfl rfl rfl ((congrFun V.1 14).trans s_14) rfl evz23 ?_
            refine X_iconst (v := (1 : Int32)) rfl rfl rfl ?_
            refine S_isub rfl rfl rfl (show (1 : Int32).toInt = 1 from rfl) (by omega) (fun vz61 hvz61 => ?_)
            refine S_putI (I := Inv _) rfl rfl rfl ((congrFun V.1 14).trans s_14) rfl rfl rfl rfl (Inv_putI V (Nat.le_of_ble_eq_true rfl) (Or.inl (by decide)) (Q_12_0 rk_14 (by omega))) (fun g V ve62 vn63 hq => ?_)
            have hG := hq.trans hG
            have evz1 := (vn63 (10) 3 (Or.inl (by decide))).trans evz1
            have evz9 := (vn63 (2) 1 (Or.inl (by decide))).trans evz9
            have evz16 := (vn63 (8) ((y1 : Int).toNat) (Or.inl (by decide))).trans evz16
            have ve59 := (vn63 (14) 1 (Or.inr (by decide))).trans ve59
            refine X_aload_n rfl rfl rfl rfl ?_
            refine X_getR (a := 15) rfl rfl rfl ((congrFun V.1 14).trans s_14) rfl ((congrFun (V.2.1 14 (by decide)) 2).trans r_14_2) ?_
            refine X_aload_n rfl rfl rfl rfl ?_
            refine X_getI (v := vz58) rfl rfl rfl ((congrFun V.1 14).trans s_14) rfl ve59 ?_
            refine X_aload_n rfl rfl rfl rfl ?_
            refine X_getI (v := vz61) rfl rfl rfl ((congrFun V.1 14).trans s_14) rfl ve62 ?_
            refine S_iadd rfl rfl rfl rfl (by omega) (fun vz64 hvz64 => ?_)
            refine X_bipush (v := (30 : Int32)) rfl rfl rfl ?_
            refine S_irem rfl rfl rfl (show (30 : Int32).toInt = 30 from rfl) (by omega) (by omega) (fun vz65 hvz65 => ?_)
            obtain ⟨t, ht, et⟩ : ∃ t : Nat, t < 30 ∧ (t : Int) = vz65.toInt := ⟨(vz65.toInt : Int).toNat, by omega, by omega⟩
            refine X_aald (a := 16 + 4 * t) (t0 := 3) rfl rfl ((congrFun V.1 15).trans s_15) rfl (ti_idx (n := 30) rfl (by omega)).1 (by rw [(ti_idx (n := 30) rfl (by omega)).2, show (vz65.toInt : Int).toNat = t by omega]; exact (congrFun (V.2.1 15 (by decide)) t).trans (sp_a t ht)) ?_
            refine X_aload_n rfl rfl rfl rfl ?_
            refine X_callV (as := [.ref 10]) (st := []) rfl rfl rfl (by decide) rfl (Nat.le_of_ble_eq_true rfl) (by decide) (Nat.le_of_ble_eq_true rfl) rfl ((congrFun V.1 _).trans (sp_s t ht)) (by decide) ?_
            refine LW_ls (ls' := [some (.ref (16 + 4 * t)), some (.ref 10)]) rfl ?_
            refine X_aload_n rfl rfl rfl rfl ?_
            refine X_aload_n rfl rfl rfl rfl ?_
            refine S_getI rfl rfl rfl ((congrFun V.1 10).trans s_10) rfl (fun vz66 evz66 => ?_)
            refine S_putI (I := Inv _) rfl rfl rfl ((congrFun V.1 _).trans (sp_s t ht)) rfl rfl rfl rfl (Inv_putI V (by omega) (Or.inl (by omega)) (Q_11_0 (sp_k t ht))) (fun g V ve67 vn68 hq => ?_)
            have hG := hq.trans hG
            have evz1 := (vn68 (10) 3 (Or.inl (by omega))).trans evz1
            have evz9 := (vn68 (2) 1 (Or.inl (by omega))).trans evz9
            have evz16 := (vn68 (8) ((y1 : Int).toNat) (Or.inl (by omega))).trans evz16
            have ve59 := (vn68 (14) 1 (Or.inl (by omega))).trans ve59
            have ve62 := (vn68 (14) 0 (Or.inl (by omega))).trans ve62
            have evz66 := (vn68 (10) 0 (Or.inl (by omega))).trans evz66
            refine X_aload_n rfl rfl rfl rfl ?_
            refine X_aload_n rfl rfl rfl rfl ?_
            refine S_getI rfl rfl rfl ((congrFun V.1 10).trans s_10) rfl (fun vz69 evz69 => ?_)
            refine S_putI (I := Inv _) rfl rfl rfl ((congrFun V.1 _).trans (sp_s t ht)) rfl rfl rfl rfl (Inv_putI V (by omega) (Or.inl (by omega)) (Q_11_1 (sp_k t ht))) (fun g V ve70 vn71 hq => ?_)
            have hG := hq.trans hG
            have evz1 := (vn71 (10) 3 (Or.inl (by omega))).trans evz1
            have evz9 := (vn71 (2) 1 (Or.inl (by omega))).trans evz9
            have evz16 := (vn71 (8) ((y1 : Int).toNat) (Or.inl (by omega))).trans evz16
            have ve59 := (vn71 (14) 1 (Or.inl (by omega))).trans ve59
            have ve62 := (vn71 (14) 0 (Or.inl (by omega))).trans ve62
            have evz66 := (vn71 (10) 0 (Or.inl (by omega))).trans evz66
            have ve67 := (vn71 (16 + 4 * t) 0 (Or.inr (by decide))).trans ve67
            have evz69 := (vn71 (10) 1 (Or.inl (by omega))).trans evz69
            refine X_aload_n rfl rfl rfl rfl ?_
            refine X_aload_n rfl rfl rfl rfl ?_
            refine S_getI rfl rfl rfl ((congrFun V.1 10).trans s_10) rfl (fun vz72 evz72 => ?_)
            refine S_putI (I := Inv _) rfl rfl rfl ((congrFun V.1 _).trans (sp_s t ht)) rfl rfl rfl rfl (Inv_putI V (by omega) (Or.inl (by omega)) (Q_11_2 (sp_k t ht))) (fun g V ve73 vn74 hq => ?_)
            have hG := hq.trans hG
            have evz1 := (vn74 (10) 3 (Or.inl (by omega))).trans evz1
            have evz9 := (vn74 (2) 1 (Or.inl (by omega))).trans evz9
            have evz16 := (vn74 (8) ((y1 : Int).toNat) (Or.inl (by omega))).trans evz16
            have ve59 := (vn74 (14) 1 (Or.inl (by omega))).trans ve59
            have ve62 := (vn74 (14) 0 (Or.inl (by omega))).trans ve62
            have evz66 := (vn74 (10) 0 (Or.inl (by omega))).trans evz66
            have ve67 := (vn74 (16 + 4 * t) 0 (Or.inr (by decide))).trans ve67
            have evz69 := (vn74 (10) 1 (Or.inl (by omega))).trans evz69
            have ve70 := (vn74 (16 + 4 * t) 1 (Or.inr (by decide))).trans ve70
            have evz72 := (vn74 (10) 2 (Or.inl (by omega))).trans evz72
            refine X_aload_n rfl rfl rfl rfl ?_
            refine X_aload_n rfl rfl rfl rfl ?_
            refine X_getI (v := vz1) rfl rfl rfl ((congrFun V.1 10).trans s_10) rfl evz1 ?_
            refine S_putI (I := Inv _) rfl rfl rfl ((congrFun V.1 _).trans (sp_s t ht)) rfl rfl rfl rfl (Inv_putI V (by omega) (Or.inl (by omega)) (Q_11_3 (sp_k t ht) (by omega))) (fun g V ve75 vn76 hq => ?_)
            have hG := hq.trans hG
            have evz1 := (vn76 (10) 3 (Or.inl (by omega))).trans evz1
            have evz9 := (vn76 (2) 1 (Or.inl (by omega))).trans evz9
            have evz16 := (vn76 (8) ((y1 : Int).toNat) (Or.inl (by omega))).trans evz16
            have ve59 := (vn76 (14) 1 (Or.inl (by omega))).trans ve59
            have ve62 := (vn76 (14) 0 (Or.inl (by omega))).trans ve62
            have evz66 := (vn76 (10) 0 (Or.inl (by omega))).trans evz66
            have ve67 := (vn76 (16 + 4 * t) 0 (Or.inr (by decide))).trans ve67
            have evz69 := (vn76 (10) 1 (Or.inl (by omega))).trans evz69
            have ve70 := (vn76 (16 + 4 * t) 1 (Or.inr (by decide))).trans ve70
            have evz72 := (vn76 (10) 2 (Or.inl (by omega))).trans evz72
            have ve73 := (vn76 (16 + 4 * t) 2 (Or.inr (by decide))).trans ve73
            refine X_aload_n rfl rfl rfl rfl ?_
            refine X_getR (a := 11) rfl rfl rfl ((congrFun V.1 10).trans s_10) rfl ((congrFun (V.2.1 10 (by decide)) 4).trans r_10_4) ?_
            refine X_iconst (v := (0 : Int32)) rfl rfl rfl ?_
            refine X_aload_n rfl rfl rfl rfl ?_
            refine X_getR (a := 17 + 4 * t) rfl rfl rfl ((congrFun V.1 _).trans (sp_s t ht)) rfl ((congrFun (V.2.1 (16 + 4 * t) (by omega)) 4).trans (sp_r4 t ht)) ?_
            refine X_iconst (v := (0 : Int32)) rfl rfl rfl ?_
            refine X_bipush (v := (26 : Int32)) rfl rfl rfl ?_
            refine S_copy (I := Inv _) (sp' := 0) (dp' := 0) (n' := 26) rfl rfl rfl ((congrFun V.1 11).trans s_11) ((congrFun V.1 _).trans (sp_s4 t ht)) (by decide) (by decide) (by decide) rfl rfl rfl (by decide) (by decide) (Nat.le_of_ble_eq_true rfl) (Inv_cpy V (Nat.le_of_ble_eq_true rfl) (by omega) (by omega) (U_0 rk_11 (sp_k4 t ht))) (fun g V vn77 hq => ?_)
            have hG := hq.trans hG
            have evz1 := (vn77 (10) 3 (by omega)).trans evz1
            have evz9 := (vn77 (2) 1 (by omega)).trans evz9
            have ve59 := (vn77 (14) 1 (by omega)).trans ve59
            have ve62 := (vn77 (14) 0 (by omega)).trans ve62
            have evz66 := (vn77 (10) 0 (by omega)).trans evz66
            have ve67 := (vn77 (16 + 4 * t) 0 (by omega)).trans ve67
            have evz69 := (vn77 (10) 1 (by omega)).trans evz69
            have ve70 := (vn77 (16 + 4 * t) 1 (by omega)).trans ve70
            have evz72 := (vn77 (10) 2 (by omega)).trans evz72
            have ve73 := (vn77 (16 + 4 * t) 2 (by omega)).trans ve73
            have ve75 := (vn77 (16 + 4 * t) 3 (by omega)).trans ve75
            refine X_aload_n rfl rfl rfl rfl ?_
            refine X_getR (a := 12) rfl rfl rfl ((congrFun V.1 10).trans s_10) rfl ((congrFun (V.2.1 10 (by decide)) 5).trans r_10_5) ?_
            refine X_iconst (v := (0 : Int32)) rfl rfl rfl ?_
            refine X_aload_n rfl rfl rfl rfl ?_
            refine X_getR (a := 18 + 4 * t) rfl rfl rfl ((congrFun V.1 _).trans (sp_s t ht)) rfl ((congrFun (V.2.1 (16 + 4 * t) (by omega)) 5).trans (sp_r5 t ht)) ?_
            refine X_iconst (v := (0 : Int32)) rfl rfl rfl ?_
            refine X_bipush (v := (26 : Int32)) rfl rfl rfl ?_
            refine S_copy (I := Inv _) (sp' := 0) (dp' := 0) (n' := 26) rfl rfl rfl ((congrFun V.1 12).trans s_12) ((congrFun V.1 _).trans (sp_s5 t ht)) (by decide) (by decide) (by decide) rfl rfl rfl (by decide) (by decide) (Nat.le_of_ble_eq_true rfl) (Inv_cpy V (Nat.le_of_ble_eq_true rfl) (by omega) (by omega) (U_0 rk_12 (sp_k5 t ht))) (fun g V vn78 hq => ?_)
            have hG := hq.trans hG
            have evz1 := (vn78 (10) 3 (by omega)).trans evz1
            have evz9 := (vn78 (2) 1 (by omega)).trans evz9
            have ve59 := (vn78 (14) 1 (by omega)).trans ve59
            have ve62 := (vn78 (14) 0 (by omega)).trans ve62
            have evz66 := (vn78 (10) 0 (by omega)).trans evz66
            have ve67 := (vn78 (16 + 4 * t) 0 (by omega)).trans ve67
            have evz69 := (vn78 (10) 1 (by omega)).trans evz69
            have ve70 := (vn78 (16 + 4 * t) 1 (by omega)).trans ve70
            have evz72 := (vn78 (10) 2 (by omega)).trans evz72
            have ve73 := (vn78 (16 + 4 * t) 2 (by omega)).trans ve73
            have ve75 := (vn78 (16 + 4 * t) 3 (by omega)).trans ve75
            refine X_aload_n rfl rfl rfl rfl ?_
            refine X_getR (a := 13) rfl rfl rfl ((congrFun V.1 10).trans s_10) rfl ((congrFun (V.2.1 10 (by decide)) 6).trans r_10_6) ?_
            refine X_iconst (v := (0 : Int32)) rfl rfl rfl ?_
            refine X_aload_n rfl rfl rfl rfl ?_
            refine X_getR (a := 19 + 4 * t) rfl rfl rfl ((congrFun V.1 _).trans (sp_s t ht)) rfl ((congrFun (V.2.1 (16 + 4 * t) (by omega)) 6).trans (sp_r6 t ht)) ?_
            refine X_iconst (v := (0 : Int32)) rfl rfl rfl ?_
            refine X_bipush (v := (26 : Int32)) rfl rfl rfl ?_
            refine S_copy (I := Inv _) (sp' := 0) (dp' := 0) (n' := 26) rfl rfl rfl ((congrFun V.1 13).trans s_13) ((congrFun V.1 _).trans (sp_s6 t ht)) (by decide) (by decide) (by decide) rfl rfl rfl (by decide) (by decide) (Nat.le_of_ble_eq_true rfl) (Inv_cpy V (Nat.le_of_ble_eq_true rfl) (by omega) (by omega) (U_0 rk_13 (sp_k6 t ht))) (fun g V vn79 hq => ?_)
            have hG := hq.trans hG
            have evz1 := (vn79 (10) 3 (by omega)).trans evz1
            have evz9 := (vn79 (2) 1 (by omega)).trans evz9
            have ve59 := (vn79 (14) 1 (by omega)).trans ve59
            have ve62 := (vn79 (14) 0 (by omega)).trans ve62
            have evz66 := (vn79 (10) 0 (by omega)).trans evz66
            have ve67 := (vn79 (16 + 4 * t) 0 (by omega)).trans ve67
            have evz69 := (vn79 (10) 1 (by omega)).trans evz69
            have ve70 := (vn79 (16 + 4 * t) 1 (by omega)).trans ve70
            have evz72 := (vn79 (10) 2 (by omega)).trans evz72
            have ve73 := (vn79 (16 + 4 * t) 2 (by omega)).trans ve73
            have ve75 := (vn79 (16 + 4 * t) 3 (by omega)).trans ve75
            refine LW_return (st := []) rfl rfl ?_
            refine X_aload_n rfl rfl rfl rfl ?_
            refine X_dup rfl rfl rfl ?_
            refine X_getI (v := vz61) rfl rfl rfl ((congrFun V.1 14).trans s_14) rfl ve62 ?_
            refine X_iconst (v := (1 : Int32)) rfl rfl rfl ?_
            refine S_iadd rfl rfl rfl (show (1 : Int32).toInt = 1 from rfl) (by omega) (fun vz80 hvz80 => ?_)
            refine S_putI (I := Inv _) rfl rfl rfl ((congrFun V.1 14).trans s_14) rfl rfl rfl rfl (Inv_putI V (Nat.le_of_ble_eq_true rfl) (Or.inl (by decide)) (Q_12_0 rk_14 (by omega))) (fun g V ve81 vn82 hq => ?_)
            have hG := hq.trans hG
            have evz1 := (vn82 (10) 3 (Or.inl (by decide))).trans evz1
            have evz9 := (vn82 (2) 1 (Or.inl (by decide))).trans evz9
            have ve59 := (vn82 (14) 1 (Or.inr (by decide))).trans ve59
            have evz66 := (vn82 (10) 0 (Or.inl (by decide))).trans evz66
            have ve67 := (vn82 (16 + 4 * t) 0 (Or.inl (by omega))).trans ve67
            have evz69 := (vn82 (10) 1 (Or.inl (by decide))).trans evz69
            have ve70 := (vn82 (16 + 4 * t) 1 (Or.inl (by omega))).trans ve70
            have evz72 := (vn82 (10) 2 (Or.inl (by decide))).trans evz72
            have ve73 := (vn82 (16 + 4 * t) 2 (Or.inl (by omega))).trans ve73
            have ve75 := (vn82 (16 + 4 * t) 3 (Or.inl (by omega))).trans ve75
            refine LW_return (st := []) rfl rfl ?_
            refine X_aload_n rfl rfl rfl rfl ?_
            refine X_getR (a := 137) rfl rfl rfl ((congrFun V.1 136).trans s_136) rfl ((congrFun (V.2.1 136 (by decide)) 0).trans r_136_0) ?_
            refine X_iload rfl rfl rfl ?_
            refine X_iload_n rfl rfl rfl rfl ?_
            refine S_iast (I := Inv _) rfl rfl ((congrFun V.1 137).trans s_137) rfl (by omega) (Inv_putI V (Nat.le_of_ble_eq_true rfl) (Or.inl (by decide)) (Q_0 rk_137)) (fun g V ve83 vn84 hq => ?_)
            have hG := hq.trans hG
            have evz1 := (vn84 (10) 3 (Or.inl (by decide))).trans evz1
            have evz9 := (vn84 (2) 1 (Or.inl (by decide))).trans evz9
            have ve59 := (vn84 (14) 1 (Or.inl (by decide))).trans ve59
            have evz66 := (vn84 (10) 0 (Or.inl (by decide))).trans evz66
            have ve67 := (vn84 (16 + 4 * t) 0 (Or.inl (by omega))).trans ve67
            have evz69 := (vn84 (10) 1 (Or.inl (by decide))).trans evz69
            have ve70 := (vn84 (16 + 4 * t) 1 (Or.inl (by omega))).trans ve70
            have evz72 := (vn84 (10) 2 (Or.inl (by decide))).trans evz72
            have ve73 := (vn84 (16 + 4 * t) 2 (Or.inl (by omega))).trans ve73
            have ve75 := (vn84 (16 + 4 * t) 3 (Or.inl (by omega))).trans ve75
            have ve81 := (vn84 (14) 0 (Or.inl (by decide))).trans ve81
            refine X_aload_n rfl rfl rfl rfl ?_
            refine X_getR (a := 138) rfl rfl rfl ((congrFun V.1 136).trans s_136) rfl ((congrFun (V.2.1 136 (by decide)) 1).trans r_136_1) ?_
            refine X_iload rfl rfl rfl ?_
            refine X_aload_n rfl rfl rfl rfl ?_
            refine X_getR (a := 10) rfl rfl rfl ((congrFun V.1 342).trans s_342) rfl ((congrFun (V.2.1 342 (by decide)) 1).trans r_342_1) ?_
            refine X_getI (v := vz69) rfl rfl rfl ((congrFun V.1 10).trans s_10) rfl evz69 ?_
            refine S_iast (I := Inv _) rfl rfl ((congrFun V.1 138).trans s_138) rfl (by omega) (Inv_putI V (Nat.le_of_ble_eq_true rfl) (Or.inl (by decide)) (Q_0 rk_138)) (fun g V ve85 vn86 hq => ?_)
            have hG := hq.trans hG
            have evz1 := (vn86 (10) 3 (Or.inl (by decide))).trans evz1
            have evz9 := (vn86 (2) 1 (Or.inl (by decide))).trans evz9
            have ve59 := (vn86 (14) 1 (Or.inl (by decide))).trans ve59
            have evz66 := (vn86 (10) 0 (Or.inl (by decide))).trans evz66
            have ve67 := (vn86 (16 + 4 * t) 0 (Or.inl (by omega))).trans ve67
            have evz69 := (vn86 (10) 1 (Or.inl (by decide))).trans evz69
            have ve70 := (vn86 (16 + 4 * t) 1 (Or.inl (by omega))).trans ve70
            have evz72 := (vn86 (10) 2 (Or.inl (by decide))).trans evz72
            have ve73 := (vn86 (16 + 4 * t) 2 (Or.inl (by omega))).trans ve73
            have ve75 := (vn86 (16 + 4 * t) 3 (Or.inl (by omega))).trans ve75
            have ve81 := (vn86 (14) 0 (Or.inl (by decide))).trans ve81
            refine X_aload_n rfl rfl rfl rfl ?_
            refine X_getR (a := 139) rfl rfl rfl ((congrFun V.1 136).trans s_136) rfl ((congrFun (V.2.1 136 (by decide)) 2).trans r_136_2) ?_
            refine X_iload rfl rfl rfl ?_
            refine X_aload_n rfl rfl rfl rfl ?_
            refine X_getR (a := 7) rfl rfl rfl ((congrFun V.1 2).trans s_2) rfl ((congrFun (V.2.1 2 (by decide)) 6).trans r_2_6) ?_
            refine X_iload_n rfl rfl rfl rfl ?_
            refine S_iald rfl rfl ((congrFun V.1 7).trans s_7) hx1 (by omega) (fun vz87 evz87 => ?_)
            have vf88 := K_1 (V.2.2.2.2.1 (7) ((y1 : Int).toNat) (Nat.le_of_ble_eq_true rfl)) rk_7
            rw [evz87] at vf88
            refine S_iast (I := Inv _) rfl rfl ((congrFun V.1 139).trans s_139) rfl (by omega) (Inv_putI V (Nat.le_of_ble_eq_true rfl) (Or.inl (by decide)) (Q_1 rk_139 (by omega))) (fun g V ve89 vn90 hq => ?_)
            have hG := hq.trans hG
            have evz1 := (vn90 (10) 3 (Or.inl (by decide))).trans evz1
            have evz9 := (vn90 (2) 1 (Or.inl (by decide))).trans evz9
            have ve59 := (vn90 (14) 1 (Or.inl (by decide))).trans ve59
            have evz66 := (vn90 (10) 0 (Or.inl (by decide))).trans evz66
            have ve67 := (vn90 (16 + 4 * t) 0 (Or.inl (by omega))).trans ve67
            have evz69 := (vn90 (10) 1 (Or.inl (by decide))).trans evz69
            have ve70 := (vn90 (16 + 4 * t) 1 (Or.inl (by omega))).trans ve70
            have evz72 := (vn90 (10) 2 (Or.inl (by decide))).trans evz72
            have ve73 := (vn90 (16 + 4 * t) 2 (Or.inl (by omega))).trans ve73
            have ve75 := (vn90 (16 + 4 * t) 3 (Or.inl (by omega))).trans ve75
            have ve81 := (vn90 (14) 0 (Or.inl (by decide))).trans ve81
            have evz87 := (vn90 (7) ((y1 : Int).toNat) (Or.inl (by decide))).trans evz87
            refine X_iconst (v := (0 : Int32)) rfl rfl rfl ?_
            refine X_istore (i := 6) (ls' := [some (.ref 342), some (.int x1), some (.ref 2), some (.ref 136), some (.int vz1), some (.int vr3), some (.int (0 : Int32))]) rfl rfl (Nat.le_of_ble_eq_true rfl) rfl ?_
            exact (C_X1_conclude_all (((8 - 0) * 1 + 0) + 1 : Int).toNat) _ V hG x1 y1 hx1 (by omega) vz1 vz1.toInt rfl (by omega) vr3 vr3.toInt rfl (0 : Int32) 0 (show (0 : Int32).toInt = 0 from rfl) (by omega) (by rw [evz9]; omega) (by rw [evz1]; omega) (by rw [ve81]; omega) (by rw [ve59]; omega)   (by omega)
