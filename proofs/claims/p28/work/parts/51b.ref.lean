/-! the reference's methods: each returns and keeps what every state keeps -/
set_option maxRecDepth 10000 in
set_option maxHeartbeats 40000000 in
theorem C_X13_binds {P : Par} {g : LH} {d : Nat}  (V : InvR P g) (x1 : Int32) (y1 : Int) (hx1 : x1.toInt = y1) (hf1 : 0 ≤ y1 ∧ y1 ≤ 9)   : LW 313 (d + 18) 0 0 0 (lEnt (mL 313) [.ref 355, .int x1]) [] g (fun v g' => ∃ r : Int32, v = some (.int r) ∧ 0 ≤ r.toInt ∧ r.toInt ≤ 1 ∧ InvR P g' ∧ Gr g' = Gr g) := by
  refine LW_ls (ls' := [some (.ref 355), some (.int x1), none, none]) rfl ?_
  have hG : Gr g = Gr g := rfl
  refine X_aload_n rfl rfl rfl rfl ?_
  refine X_iconst (v := (3 : Int32)) rfl rfl rfl ?_
  refine Y_callV (as := [.int (3 : Int32)]) (st := []) rfl rfl rfl (by decide) rfl (Nat.le_of_ble_eq_true rfl) (by decide) (Nat.le_of_ble_eq_true rfl) rfl ((congrFun V.1 355).trans s_355) (by decide) (C_X13_clauseOf V (3 : Int32) 3 (show (3 : Int32).toInt = 3 from rfl) ) ?_
  rintro _ g' ⟨vr1, rfl, hrvr10, hrvr11, hgg, vq2⟩
  subst hgg
  have vwk : 0 ≤ vr1.toInt → WK g vr1.toInt := fun vh => ⟨_, by omega, by omega, vq2 vh⟩
  refine X_istore_n (i := 2) (ls' := [some (.ref 355), some (.int x1), some (.int vr1), none]) rfl rfl rfl (Nat.le_of_ble_eq_true rfl) rfl ?_
  refine X_aload_n rfl rfl rfl rfl ?_
  refine X_iload_n rfl rfl rfl rfl ?_
  refine Y_callV (as := [.int x1]) (st := []) rfl rfl rfl (by decide) rfl (Nat.le_of_ble_eq_true rfl) (by decide) (Nat.le_of_ble_eq_true rfl) rfl ((congrFun V.1 355).trans s_355) (by decide) (C_X13_brokenOf V x1 y1 hx1 (by omega) ) ?_
  rintro _ g' ⟨vr3, rfl, hgg⟩
  subst hgg
  refine X_istore_n (i := 3) (ls' := [some (.ref 355), some (.int x1), some (.int vr1), some (.int vr3)]) rfl rfl rfl (Nat.le_of_ble_eq_true rfl) rfl ?_
  refine X_iload_n rfl rfl rfl rfl ?_
  refine S_if_ge (tgt := 26) rfl rfl rfl rfl (fun vh4 => ?_) (fun vh4 => ?_)
  · refine X_aload_n rfl rfl rfl rfl ?_
    refine X_getR (a := 363) rfl rfl rfl ((congrFun V.1 355).trans s_355) rfl ((congrFun (V.2.1 355 (by decide)) 26).trans r_355_26) ?_
    refine X_iconst (v := (1 : Int32)) rfl rfl rfl ?_
    refine X_aload_n rfl rfl rfl rfl ?_
    refine X_getR (a := 356) rfl rfl rfl ((congrFun V.1 355).trans s_355) rfl ((congrFun (V.2.1 355 (by decide)) 0).trans r_355_0) ?_
    refine X_bipush (v := (7 : Int32)) rfl rfl rfl ?_
    refine S_iald rfl rfl ((congrFun V.1 356).trans s_356) (show (7 : Int32).toInt = 7 from rfl) (by omega) (fun vz5 evz5 => ?_)
    have evz5 : Gi g 356 7 = vz5 := evz5
    refine Y_callS (as := [.int vz5]) (st := [.int (1 : Int32), .ref 363]) rfl rfl rfl (by decide) rfl (Nat.le_of_ble_eq_true rfl) (by decide) (Nat.le_of_ble_eq_true rfl) rfl (C_X13_bits V vz5 vz5.toInt rfl ) ?_
    rintro _ g' ⟨vr6, rfl, hrvr60, hrvr61, hgg⟩
    subst hgg
    refine S_iast (I := InvR _) rfl rfl ((congrFun V.1 363).trans s_363) (show (1 : Int32).toInt = 1 from rfl) (by omega) (InvR_putO V (by decide) trivial) (fun g V ve7 vn8 hq => ?_)
    have hG := hq.trans hG
    have evz5 := (vn8 (356) 7 (Or.inl (by decide))).trans evz5
    have vwk := fun vh => WK.oth (fun q' k' vh' => vn8 q' k' (Or.inl vh')) (vwk vh)
    have ve7 : Gi g 363 1 = vr6 := ve7
    refine X_aload_n rfl rfl rfl rfl ?_
    refine X_getR (a := 363) rfl rfl rfl ((congrFun V.1 355).trans s_355) rfl ((congrFun (V.2.1 355 (by decide)) 26).trans r_355_26) ?_
    refine X_bipush (v := (11 : Int32)) rfl rfl rfl ?_
    refine X_iload_n rfl rfl rfl rfl ?_
    refine S_iast (I := InvR _) rfl rfl ((congrFun V.1 363).trans s_363) (show (11 : Int32).toInt = 11 from rfl) (by omega) (InvR_putO V (by decide) trivial) (fun g V ve9 vn10 hq => ?_)
    have hG := hq.trans hG
    have evz5 := (vn10 (356) 7 (Or.inl (by decide))).trans evz5
    have ve7 := (vn10 (363) 1 (Or.inr (by omega))).trans ve7
    have vwk := fun vh => WK.oth (fun q' k' vh' => vn10 q' k' (Or.inl vh')) (vwk vh)
    have ve9 : Gi g 363 11 = vr3 := ve9
    refine X_aload_n rfl rfl rfl rfl ?_
    refine X_getR (a := 363) rfl rfl rfl ((congrFun V.1 355).trans s_355) rfl ((congrFun (V.2.1 355 (by decide)) 26).trans r_355_26) ?_
    refine X_bipush (v := (12 : Int32)) rfl rfl rfl ?_
    refine X_aload_n rfl rfl rfl rfl ?_
    refine X_getR (a := 356) rfl rfl rfl ((congrFun V.1 355).trans s_355) rfl ((congrFun (V.2.1 355 (by decide)) 0).trans r_355_0) ?_
    refine X_sipush (v := (428 : Int32)) rfl rfl rfl ?_
    refine X_bipush (v := (11 : Int32)) rfl rfl rfl ?_
    refine X_iload_n rfl rfl rfl rfl ?_
    refine S_imul rfl rfl (show (11 : Int32).toInt = 11 from rfl) hx1 (by omega) (fun vz11 hvz11 => ?_)
    refine S_iadd rfl rfl (show (428 : Int32).toInt = 428 from rfl) rfl (by omega) (fun vz12 hvz12 => ?_)
    refine X_iconst (v := (2 : Int32)) rfl rfl rfl ?_
    refine S_iadd rfl rfl rfl (show (2 : Int32).toInt = 2 from rfl) (by omega) (fun vz13 hvz13 => ?_)
    refine S_iald rfl rfl ((congrFun V.1 356).trans s_356) rfl (by omega) (fun vz14 evz14 => ?_)
    refine S_iast (I := InvR _) rfl rfl ((congrFun V.1 363).trans s_363) (show (12 : Int32).toInt = 12 from rfl) (by omega) (InvR_putO V (by decide) trivial) (fun g V ve15 vn16 hq => ?_)
    have hG := hq.trans hG
    have evz5 := (vn16 (356) 7 (Or.inl (by decide))).trans evz5
    have ve7 := (vn16 (363) 1 (Or.inr (by omega))).trans ve7
    have ve9 := (vn16 (363) 11 (Or.inr (by omega))).trans ve9
    have evz14 := (vn16 (356) ((vz13.toInt : Int).toNat) (Or.inl (by decide))).trans evz14
    have vwk := fun vh => WK.oth (fun q' k' vh' => vn16 q' k' (Or.inl vh')) (vwk vh)
    have ve15 : Gi g 363 12 = vz14 := ve15
    refine X_aload_n rfl rfl rfl rfl ?_
    refine X_getR (a := 363) rfl rfl rfl ((congrFun V.1 355).trans s_355) rfl ((congrFun (V.2.1 355 (by decide)) 26).trans r_355_26) ?_
    refine X_bipush (v := (13 : Int32)) rfl rfl rfl ?_
    refine X_aload_n rfl rfl rfl rfl ?_
    refine X_getR (a := 356) rfl rfl rfl ((congrFun V.1 355).trans s_355) rfl ((congrFun (V.2.1 355 (by decide)) 0).trans r_355_0) ?_
    refine X_iconst (v := (2 : Int32)) rfl rfl rfl ?_
    refine S_iald rfl rfl ((congrFun V.1 356).trans s_356) (show (2 : Int32).toInt = 2 from rfl) (by omega) (fun vz17 evz17 => ?_)
    have evz17 : Gi g 356 2 = vz17 := evz17
    refine X_aload_n rfl rfl rfl rfl ?_
    refine X_getR (a := 356) rfl rfl rfl ((congrFun V.1 355).trans s_355) rfl ((congrFun (V.2.1 355 (by decide)) 0).trans r_355_0) ?_
    refine X_sipush (v := (428 : Int32)) rfl rfl rfl ?_
    refine X_bipush (v := (11 : Int32)) rfl rfl rfl ?_
    refine X_iload_n rfl rfl rfl rfl ?_
    refine S_imul rfl rfl (show (11 : Int32).toInt = 11 from rfl) hx1 (by omega) (fun vz18 hvz18 => ?_)
    refine S_iadd rfl rfl (show (428 : Int32).toInt = 428 from rfl) rfl (by omega) (fun vz19 hvz19 => ?_)
    refine X_iconst (v := (1 : Int32)) rfl rfl rfl ?_
    refine S_iadd rfl rfl rfl (show (1 : Int32).toInt = 1 from rfl) (by omega) (fun vz20 hvz20 => ?_)
    refine S_iald rfl rfl ((congrFun V.1 356).trans s_356) rfl (by omega) (fun vz21 evz21 => ?_)
    refine S_isubT rfl rfl (fun vz22 => ?_)
    refine S_iast (I := InvR _) rfl rfl ((congrFun V.1 363).trans s_363) (show (13 : Int32).toInt = 13 from rfl) (by omega) (InvR_putO V (by decide) trivial) (fun g V ve23 vn24 hq => ?_)
    have hG := hq.trans hG
    have evz5 := (vn24 (356) 7 (Or.inl (by decide))).trans evz5
    have ve7 := (vn24 (363) 1 (Or.inr (by omega))).trans ve7
    have ve9 := (vn24 (363) 11 (Or.inr (by omega))).trans ve9
    have evz14 := (vn24 (356) ((vz13.toInt : Int).toNat) (Or.inl (by decide))).trans evz14
    have ve15 := (vn24 (363) 12 (Or.inr (by omega))).trans ve15
    have evz17 := (vn24 (356) 2 (Or.inl (by decide))).trans evz17
    have evz21 := (vn24 (356) ((vz20.toInt : Int).toNat) (Or.inl (by decide))).trans evz21
    have vwk := fun vh => WK.oth (fun q' k' vh' => vn24 q' k' (Or.inl vh')) (vwk vh)
    have ve23 : Gi g 363 13 = vz22 := ve23
    refine X_aload_n rfl rfl rfl rfl ?_
    refine X_iload_n rfl rfl rfl rfl ?_
    refine Y_callV (as := [.int vr1]) (st := []) rfl rfl rfl (by decide) rfl (Nat.le_of_ble_eq_true rfl) (by decide) (Nat.le_of_ble_eq_true rfl) rfl ((congrFun V.1 355).trans s_355) (by decide) (C_X13_work V vr1 vr1.toInt rfl (by omega) (vwk (by omega))) ?_
    rintro _ g ⟨rfl, V, hq, chA⟩
    have hG := hq.trans hG
    have evz5 := (congrFun chA 7).trans evz5
    have evz17 := (congrFun chA 2).trans evz17
    refine X_aload_n rfl rfl rfl rfl ?_
    refine X_getR (a := 365) rfl rfl rfl ((congrFun V.1 355).trans s_355) rfl ((congrFun (V.2.1 355 (by decide)) 28).trans r_355_28) ?_
    refine X_iconst (v := (0 : Int32)) rfl rfl rfl ?_
    refine S_zald rfl rfl ((congrFun V.1 365).trans s_365) (show (0 : Int32).toInt = 0 from rfl) (by omega) (fun vz26 evz26 => ?_)
    have evz26 : Gi g 365 0 = vz26 := evz26
    have vf27 := O_365 (V.2.2.2.2.2.2.1 365 (0) (Nat.le_of_ble_eq_true rfl))
    rw [evz26] at vf27
    have hr := (rfl : vz26.toInt = vz26.toInt)
    exact LW_ireturn (st := []) rfl rfl (nbool rfl (by omega)) ⟨_, rfl, by omega, by omega, V, hG⟩
  · refine X_iload_n rfl rfl rfl rfl ?_
    refine S_if_ne (tgt := 24) rfl rfl rfl rfl (fun vh28 => ?_) (fun vh28 => ?_)
    · refine X_iconst (v := (0 : Int32)) rfl rfl rfl ?_
      exact LW_ireturn (st := []) rfl rfl rfl ⟨_, rfl, by decide, by decide, V, hG⟩
    · refine X_iconst (v := (1 : Int32)) rfl rfl rfl ?_
      refine LW_goto (tgt := 25) rfl rfl ?_
      exact LW_ireturn (st := []) rfl rfl rfl ⟨_, rfl, by decide, by decide, V, hG⟩
set_option maxRecDepth 10000 in
set_option maxHeartbeats 40000000 in
theorem C_X13_loophole_23 {P : Par} {g g0 : LH} {d n : Nat}  (V : InvR P g) (hG : Gr g = Gr g0) (x1 : Int32) (y1 : Int) (hx1 : x1.toInt = y1) (hf1 : 0 ≤ y1 ∧ y1 ≤ 9) (x2 : Int32) (y2 : Int) (hx2 : x2.toInt = y2) (hf2 : (-1) ≤ y2 ∧ y2 ≤ 25) (x3 : Int32) (y3 : Int) (hx3 : x3.toInt = y3) (x4 : Int32) (y4 : Int) (hx4 : x4.toInt = y4) (hf4 : 0 ≤ y4 ∧ y4 ≤ 26)  (hmu : (26 - y4) * 1 + 0 < (n : Int) + 1) (ih23 : ∀ (g : LH) (V : InvR P g) (hG : Gr g = Gr g0) (x1 : Int32) (y1 : Int) (hx1 : x1.toInt = y1) (hf1 : 0 ≤ y1 ∧ y1 ≤ 9) (x2 : Int32) (y2 : Int) (hx2 : x2.toInt = y2) (hf2 : (-1) ≤ y2 ∧ y2 ≤ 25) (x3 : Int32) (y3 : Int) (hx3 : x3.toInt = y3) (x4 : Int32) (y4 : Int) (hx4 : x4.toInt = y4) (hf4 : 0 ≤ y4 ∧ y4 ≤ 26) , (26 - y4) * 1 + 0 < (n : Int) → LW 314 (d + 23) 0 0 23 [some (.ref 355), some (.int x1), some (.int x2), some (.int x3), some (.int x4)] [] g (fun v g' => ∃ r : Int32, v = some (.int r) ∧ (-1) ≤ r.toInt ∧ r.toInt ≤ 25 ∧ InvR P g' ∧ Gr g' = Gr g0)) : LW 314 (d + 23) 0 0 23 [some (.ref 355), some (.int x1), some (.int x2), some (.int x3), some (.int x4)] [] g (fun v g' => ∃ r : Int32, v = some (.int r) ∧ (-1) ≤ r.toInt ∧ r.toInt ≤ 25 ∧ InvR P g' ∧ Gr g' = Gr g0) := by
  refine X_iload rfl rfl rfl ?_
  refine X_bipush (v := (26 : Int32)) rfl rfl rfl ?_
  refine S_icmp_ge (tgt := 76) rfl rfl rfl hx4 (show (26 : Int32).toInt = 26 from rfl) (fun vh1 => ?_) (fun vh1 => ?_)
  · refine X_aload_n rfl rfl rfl rfl ?_
    refine X_getR (a := 356) rfl rfl rfl ((congrFun V.1 355).trans s_355) rfl ((congrFun (V.2.1 355 (by decide)) 0).trans r_355_0) ?_
    refine X_bipush (v := (7 : Int32)) rfl rfl rfl ?_
    refine X_iload_n rfl rfl rfl rfl ?_
    refine S_iast (I := InvR _) rfl rfl ((congrFun V.1 356).trans s_356) (show (7 : Int32).toInt = 7 from rfl) (by omega) (InvR_putA V (by omega) (B_FREE (by omega))) (fun g V ve2 vn3 hq => ?_)
    have hG := hq.trans hG
    have ve2 : Gi g 356 7 = x3 := ve2
    refine X_iload_n rfl rfl rfl rfl ?_
    have hr := hx2
    exact LW_ireturn (st := []) rfl rfl rfl ⟨_, rfl, by omega, by omega, V, hG⟩
  · refine X_iload_n rfl rfl rfl rfl ?_
    refine S_if_ge (tgt := 76) rfl rfl rfl hx2 (fun vh4 => ?_) (fun vh4 => ?_)
    · refine X_aload_n rfl rfl rfl rfl ?_
      refine X_getR (a := 356) rfl rfl rfl ((congrFun V.1 355).trans s_355) rfl ((congrFun (V.2.1 355 (by decide)) 0).trans r_355_0) ?_
      refine X_bipush (v := (7 : Int32)) rfl rfl rfl ?_
      refine X_iload_n rfl rfl rfl rfl ?_
      refine S_iast (I := InvR _) rfl rfl ((congrFun V.1 356).trans s_356) (show (7 : Int32).toInt = 7 from rfl) (by omega) (InvR_putA V (by omega) (B_FREE (by omega))) (fun g V ve5 vn6 hq => ?_)
      have hG := hq.trans hG
      have ve5 : Gi g 356 7 = x3 := ve5
      refine X_iload_n rfl rfl rfl rfl ?_
      have hr := hx2
      exact LW_ireturn (st := []) rfl rfl rfl ⟨_, rfl, by omega, by omega, V, hG⟩
    · refine X_iload_n rfl rfl rfl rfl ?_
      refine X_iload rfl rfl rfl ?_
      refine X_callS (as := [.int x3, .int x4]) (st := []) rfl rfl rfl (by decide) rfl (Nat.le_of_ble_eq_true rfl) (by decide) (Nat.le_of_ble_eq_true rfl) rfl ?_
      refine LW_ls (ls' := [some (.int x3), some (.int x4)]) rfl ?_
      refine X_iload_n rfl rfl rfl rfl ?_
      refine X_iload_n rfl rfl rfl rfl ?_
      refine S_ishrT rfl rfl (fun vz7 => ?_)
      refine X_iconst (v := (1 : Int32)) rfl rfl rfl ?_
      refine S_iandR (k := 1) rfl rfl rfl (fun vz8 hvz8 => ?_)
      refine X_iconst (v := (1 : Int32)) rfl rfl rfl ?_
      refine S_icmp_ne (tgt := 13) rfl rfl rfl rfl (show (1 : Int32).toInt = 1 from rfl) (fun vh9 => ?_) (fun vh9 => ?_)
      · refine X_iconst (v := (0 : Int32)) rfl rfl rfl ?_
        refine LW_ireturn (st := []) rfl rfl rfl ?_
        refine S_if_eq (tgt := 46) rfl rfl rfl (show (0 : Int32).toInt = 0 from rfl) (fun vh10 => ?_) (fun q => absurd q (by omega))
        refine X_aload_n rfl rfl rfl rfl ?_
        refine X_getR (a := 356) rfl rfl rfl ((congrFun V.1 355).trans s_355) rfl ((congrFun (V.2.1 355 (by decide)) 0).trans r_355_0) ?_
        refine X_bipush (v := (7 : Int32)) rfl rfl rfl ?_
        refine X_iload_n rfl rfl rfl rfl ?_
        refine X_iconst (v := (1 : Int32)) rfl rfl rfl ?_
        refine X_iload rfl rfl rfl ?_
        refine S_ishlT rfl rfl (fun vz11 => ?_)
        refine S_iorT rfl rfl (fun vz12 => ?_)
        refine S_iast (I := InvR _) rfl rfl ((congrFun V.1 356).trans s_356) (show (7 : Int32).toInt = 7 from rfl) (by omega) (InvR_putA V (by omega) (B_FREE (by omega))) (fun g V ve13 vn14 hq => ?_)
        have hG := hq.trans hG
        have ve13 : Gi g 356 7 = vz12 := ve13
        refine X_aload_n rfl rfl rfl rfl ?_
        refine X_iload_n rfl rfl rfl rfl ?_
        refine Y_callV (as := [.int x1]) (st := []) rfl rfl rfl (by decide) rfl (Nat.le_of_ble_eq_true rfl) (by decide) (Nat.le_of_ble_eq_true rfl) rfl ((congrFun V.1 355).trans s_355) (by decide) (C_X13_binds V x1 y1 hx1 (by omega) ) ?_
        rintro _ g ⟨vr15, rfl, hrvr150, hrvr151, V, hq⟩
        have hG := hq.trans hG
        refine S_if_ne (tgt := 70) rfl rfl rfl rfl (fun vh16 => ?_) (fun vh16 => ?_)
        · refine S_iinc (c := 1) rfl rfl rfl hx4 rfl (by omega) (fun vz17 hvz17 => ?_)
          refine LW_ls (ls' := [some (.ref 355), some (.int x1), some (.int x2), some (.int x3), some (.int vz17)]) rfl ?_
          refine LW_goto (tgt := 23) rfl rfl ?_
          exact ih23 _ V hG x1 y1 hx1 (by omega) x2 y2 hx2 (by omega) x3 y3 hx3 vz17 vz17.toInt rfl (by omega)    (by omega)
        · refine X_iload rfl rfl rfl ?_
          refine X_istore_n (i := 2) (ls' := [some (.ref 355), some (.int x1), some (.int x4), some (.int x3), some (.int x4)]) rfl rfl rfl (Nat.le_of_ble_eq_true rfl) rfl ?_
          refine S_iinc (c := 1) rfl rfl rfl hx4 rfl (by omega) (fun vz18 hvz18 => ?_)
          refine LW_ls (ls' := [some (.ref 355), some (.int x1), some (.int x4), some (.int x3), some (.int vz18)]) rfl ?_
          refine LW_goto (tgt := 23) rfl rfl ?_
          exact ih23 _ V hG x1 y1 hx1 (by omega) x4 y4 hx4 (by omega) x3 y3 hx3 vz18 vz18.toInt rfl (by omega)    (by omega)
      · refine X_iconst (v := (1 : Int32)) rfl rfl rfl ?_
        refine LW_goto (tgt := 14) rfl rfl ?_
        refine LW_ireturn (st := []) rfl rfl rfl ?_
        refine S_if_eq (tgt := 46) rfl rfl rfl (show (1 : Int32).toInt = 1 from rfl) (fun q => absurd q (by omega)) (fun vh19 => ?_)
        refine LW_goto (tgt := 70) rfl rfl ?_
        refine S_iinc (c := 1) rfl rfl rfl hx4 rfl (by omega) (fun vz20 hvz20 => ?_)
        refine LW_ls (ls' := [some (.ref 355), some (.int x1), some (.int x2), some (.int x3), some (.int vz20)]) rfl ?_
        refine LW_goto (tgt := 23) rfl rfl ?_
        exact ih23 _ V hG x1 y1 hx1 (by omega) x2 y2 hx2 (by omega) x3 y3 hx3 vz20 vz20.toInt rfl (by omega)    (by omega)
theorem C_X13_loophole_all {P : Par} {g0 : LH} {d : Nat}  : ∀ n : Nat, (∀ (g : LH) (V : InvR P g) (hG : Gr g = Gr g0) (x1 : Int32) (y1 : Int) (hx1 : x1.toInt = y1) (hf1 : 0 ≤ y1 ∧ y1 ≤ 9) (x2 : Int32) (y2 : Int) (hx2 : x2.toInt = y2) (hf2 : (-1) ≤ y2 ∧ y2 ≤ 25) (x3 : Int32) (y3 : Int) (hx3 : x3.toInt = y3) (x4 : Int32) (y4 : Int) (hx4 : x4.toInt = y4) (hf4 : 0 ≤ y4 ∧ y4 ≤ 26) , (26 - y4) * 1 + 0 < (n : Int) → LW 314 (d + 23) 0 0 23 [some (.ref 355), some (.int x1), some (.int x2), some (.int x3), some (.int x4)] [] g (fun v g' => ∃ r : Int32, v = some (.int r) ∧ (-1) ≤ r.toInt ∧ r.toInt ≤ 25 ∧ InvR P g' ∧ Gr g' = Gr g0)) := by
  intro n
  induction n with
  | zero => exact fun g V hG x1 y1 hx1 hf1 x2 y2 hx2 hf2 x3 y3 hx3 x4 y4 hx4 hf4 hmu => absurd hmu (by omega)
  | succ n ih => exact fun g V hG x1 y1 hx1 hf1 x2 y2 hx2 hf2 x3 y3 hx3 x4 y4 hx4 hf4 hmu => C_X13_loophole_23  V hG x1 y1 hx1 hf1 x2 y2 hx2 hf2 x3 y3 hx3 x4 y4 hx4 hf4 (by omega) ih
set_option maxRecDepth 10000 in
set_option maxHeartbeats 40000000 in
theorem C_X13_loophole {P : Par} {g : LH} {d : Nat}  (V : InvR P g) (x1 : Int32) (y1 : Int) (hx1 : x1.toInt = y1) (hf1 : 0 ≤ y1 ∧ y1 ≤ 9)   : LW 314 (d + 23) 0 0 0 (lEnt (mL 314) [.ref 355, .int x1]) [] g (fun v g' => ∃ r : Int32, v = some (.int r) ∧ (-1) ≤ r.toInt ∧ r.toInt ≤ 25 ∧ InvR P g' ∧ Gr g' = Gr g) := by
  refine LW_ls (ls' := [some (.ref 355), some (.int x1), none, none, none]) rfl ?_
  have hG : Gr g = Gr g := rfl
  refine X_aload_n rfl rfl rfl rfl ?_
  refine X_iload_n rfl rfl rfl rfl ?_
  refine Y_callV (as := [.int x1]) (st := []) rfl rfl rfl (by decide) rfl (Nat.le_of_ble_eq_true rfl) (by decide) (Nat.le_of_ble_eq_true rfl) rfl ((congrFun V.1 355).trans s_355) (by decide) (C_X13_binds V x1 y1 hx1 (by omega) ) ?_
  rintro _ g ⟨vr1, rfl, hrvr10, hrvr11, V, hq⟩
  have hG := hq.trans hG
  refine S_if_ne (tgt := 10) rfl rfl rfl rfl (fun vh2 => ?_) (fun vh2 => ?_)
  · refine X_iconst (v := (-1 : Int32)) rfl rfl rfl ?_
    refine X_istore_n (i := 2) (ls' := [some (.ref 355), some (.int x1), some (.int (-1 : Int32)), none, none]) rfl rfl rfl (Nat.le_of_ble_eq_true rfl) rfl ?_
    refine X_aload_n rfl rfl rfl rfl ?_
    refine X_getR (a := 356) rfl rfl rfl ((congrFun V.1 355).trans s_355) rfl ((congrFun (V.2.1 355 (by decide)) 0).trans r_355_0) ?_
    refine X_bipush (v := (7 : Int32)) rfl rfl rfl ?_
    refine S_iald rfl rfl ((congrFun V.1 356).trans s_356) (show (7 : Int32).toInt = 7 from rfl) (by omega) (fun vz3 evz3 => ?_)
    have evz3 : Gi g 356 7 = vz3 := evz3
    refine X_istore_n (i := 3) (ls' := [some (.ref 355), some (.int x1), some (.int (-1 : Int32)), some (.int vz3), none]) rfl rfl rfl (Nat.le_of_ble_eq_true rfl) rfl ?_
    refine X_iconst (v := (0 : Int32)) rfl rfl rfl ?_
    refine X_istore (i := 4) (ls' := [some (.ref 355), some (.int x1), some (.int (-1 : Int32)), some (.int vz3), some (.int (0 : Int32))]) rfl rfl (Nat.le_of_ble_eq_true rfl) rfl ?_
    exact (C_X13_loophole_all (((26 - 0) * 1 + 0) + 1 : Int).toNat) _ V hG x1 y1 hx1 (by omega) (-1 : Int32) (-1) (show (-1 : Int32).toInt = -1 from rfl) (by omega) vz3 vz3.toInt rfl (0 : Int32) 0 (show (0 : Int32).toInt = 0 from rfl) (by omega)    (by omega)
  · refine X_iconst (v := (-1 : Int32)) rfl rfl rfl ?_
    exact LW_ireturn (st := []) rfl rfl rfl ⟨_, rfl, by decide, by decide, V, hG⟩
set_option maxRecDepth 10000 in
set_option maxHeartbeats 40000000 in
theorem C_X13_signed {P : Par} {g : LH} {d : Nat}  (V : InvR P g) (x1 : Int32) (y1 : Int) (hx1 : x1.toInt = y1) (x2 : Int32) (y2 : Int) (hx2 : x2.toInt = y2)   : LW 315 (d + 28) 0 0 0 (lEnt (mL 315) [.ref 355, .int x1, .int x2]) [] g (fun v g' => ∃ r : Int32, v = some (.int r) ∧ InvR P g' ∧ Gr g' = Gr g) := by
  refine LW_ls (ls' := [some (.ref 355), some (.int x1), some (.int x2), none]) rfl ?_
  have hG : Gr g = Gr g := rfl
  refine X_iload_n rfl rfl rfl rfl ?_
  refine X_iconst (v := (-1 : Int32)) rfl rfl rfl ?_
  refine S_icmp_ne (tgt := 13) rfl rfl rfl hx1 (show (-1 : Int32).toInt = -1 from rfl) (fun vh1 => ?_) (fun vh1 => ?_)
  · refine X_iload_n rfl rfl rfl rfl ?_
    refine X_iconst (v := (0 : Int32)) rfl rfl rfl ?_
    refine X_aload_n rfl rfl rfl rfl ?_
    refine X_getR (a := 356) rfl rfl rfl ((congrFun V.1 355).trans s_355) rfl ((congrFun (V.2.1 355 (by decide)) 0).trans r_355_0) ?_
    refine X_bipush (v := (10 : Int32)) rfl rfl rfl ?_
    refine S_iald rfl rfl ((congrFun V.1 356).trans s_356) (show (10 : Int32).toInt = 10 from rfl) (by omega) (fun vz2 evz2 => ?_)
    have evz2 : Gi g 356 10 = vz2 := evz2
    have vf3 := A_CONS (V.2.2.2.1 (10)) (by omega)
    rw [evz2] at vf3
    refine X_iconst (v := (1 : Int32)) rfl rfl rfl ?_
    refine S_isub rfl rfl rfl (show (1 : Int32).toInt = 1 from rfl) (by omega) (fun vz4 hvz4 => ?_)
    refine X_callS (as := [.int x1, .int (0 : Int32), .int vz4]) (st := []) rfl rfl rfl (by decide) rfl (Nat.le_of_ble_eq_true rfl) (by decide) (Nat.le_of_ble_eq_true rfl) rfl ?_
    refine LW_ls (ls' := [some (.int x1), some (.int (0 : Int32)), some (.int vz4)]) rfl ?_
    refine X_iload_n rfl rfl rfl rfl ?_
    refine X_iload_n rfl rfl rfl rfl ?_
    refine S_icmp_lt (tgt := 14) rfl rfl rfl hx1 (show (0 : Int32).toInt = 0 from rfl) (fun vh5 => ?_) (fun vh5 => ?_)
    · refine X_iconst (v := (0 : Int32)) rfl rfl rfl ?_
      refine LW_ireturn (st := []) rfl rfl rfl ?_
      refine S_if_ne (tgt := 33) rfl rfl rfl (show (0 : Int32).toInt = 0 from rfl) (fun q => absurd q (by omega)) (fun vh6 => ?_)
      refine X_bipush (v := (-2 : Int32)) rfl rfl rfl ?_
      exact LW_ireturn (st := []) rfl rfl rfl ⟨_, rfl, V, hG⟩
    · refine X_iload_n rfl rfl rfl rfl ?_
      refine X_iload_n rfl rfl rfl rfl ?_
      refine S_icmp_gt (tgt := 14) rfl rfl rfl hx1 rfl (fun vh7 => ?_) (fun vh7 => ?_)
      · refine X_iconst (v := (0 : Int32)) rfl rfl rfl ?_
        refine LW_ireturn (st := []) rfl rfl rfl ?_
        refine S_if_ne (tgt := 33) rfl rfl rfl (show (0 : Int32).toInt = 0 from rfl) (fun q => absurd q (by omega)) (fun vh8 => ?_)
        refine X_bipush (v := (-2 : Int32)) rfl rfl rfl ?_
        exact LW_ireturn (st := []) rfl rfl rfl ⟨_, rfl, V, hG⟩
      · refine X_iconst (v := (1 : Int32)) rfl rfl rfl ?_
        refine LW_goto (tgt := 15) rfl rfl ?_
        refine LW_ireturn (st := []) rfl rfl rfl ?_
        refine S_if_ne (tgt := 33) rfl rfl rfl (show (1 : Int32).toInt = 1 from rfl) (fun vh9 => ?_) (fun q => absurd q (by omega))
        refine X_sipush (v := (428 : Int32)) rfl rfl rfl ?_
        refine X_bipush (v := (11 : Int32)) rfl rfl rfl ?_
        refine X_iload_n rfl rfl rfl rfl ?_
        refine S_imul rfl rfl (show (11 : Int32).toInt = 11 from rfl) hx1 (by omega) (fun vz10 hvz10 => ?_)
        refine S_iadd rfl rfl (show (428 : Int32).toInt = 428 from rfl) rfl (by omega) (fun vz11 hvz11 => ?_)
        refine X_istore_n (i := 3) (ls' := [some (.ref 355), some (.int x1), some (.int x2), some (.int vz11)]) rfl rfl rfl (Nat.le_of_ble_eq_true rfl) rfl ?_
        refine X_iload_n rfl rfl rfl rfl ?_
        refine X_bipush (v := (10 : Int32)) rfl rfl rfl ?_
        refine X_bipush (v := (9 : Int32)) rfl rfl rfl ?_
        refine X_aload_n rfl rfl rfl rfl ?_
        refine X_getR (a := 356) rfl rfl rfl ((congrFun V.1 355).trans s_355) rfl ((congrFun (V.2.1 355 (by decide)) 0).trans r_355_0) ?_
        refine X_iload_n rfl rfl rfl rfl ?_
        refine X_iconst (v := (2 : Int32)) rfl rfl rfl ?_
        refine S_iadd rfl rfl rfl (show (2 : Int32).toInt = 2 from rfl) (by omega) (fun vz12 hvz12 => ?_)
        refine S_iald rfl rfl ((congrFun V.1 356).trans s_356) rfl (by omega) (fun vz13 evz13 => ?_)
        have vf14 := A_CMANY (V.2.2.2.1 ((vz12.toInt : Int).toNat)) (by omega)
        rw [evz13] at vf14
        refine S_iadd rfl rfl (show (9 : Int32).toInt = 9 from rfl) rfl (by omega) (fun vz15 hvz15 => ?_)
        refine X_callS (as := [.int x2, .int (10 : Int32), .int vz15]) (st := []) rfl rfl rfl (by decide) rfl (Nat.le_of_ble_eq_true rfl) (by decide) (Nat.le_of_ble_eq_true rfl) rfl ?_
        refine LW_ls (ls' := [some (.int x2), some (.int (10 : Int32)), some (.int vz15)]) rfl ?_
        refine X_iload_n rfl rfl rfl rfl ?_
        refine X_iload_n rfl rfl rfl rfl ?_
        refine S_icmp_lt (tgt := 14) rfl rfl rfl hx2 (show (10 : Int32).toInt = 10 from rfl) (fun vh16 => ?_) (fun vh16 => ?_)
        · refine X_iconst (v := (0 : Int32)) rfl rfl rfl ?_
          refine LW_ireturn (st := []) rfl rfl rfl ?_
          refine S_if_eq (tgt := 76) rfl rfl rfl (show (0 : Int32).toInt = 0 from rfl) (fun vh17 => ?_) (fun q => absurd q (by omega))
          refine X_iload_n rfl rfl rfl rfl ?_
          by_cases vh18 : y2 = 3
          · refine S_tableIn (tgt := 104) (c := 3) rfl (hx2.trans vh18) (by decide) (by decide) rfl rfl ?_
            refine X_aload_n rfl rfl rfl rfl ?_
            refine X_iload_n rfl rfl rfl rfl ?_
            refine Y_callV (as := [.int x1]) (st := []) rfl rfl rfl (by decide) rfl (Nat.le_of_ble_eq_true rfl) (by decide) (Nat.le_of_ble_eq_true rfl) rfl ((congrFun V.1 355).trans s_355) (by decide) (C_X13_binds V x1 y1 hx1 (by omega) ) ?_
            rintro _ g ⟨vr19, rfl, hrvr190, hrvr191, V, hq⟩
            have hG := hq.trans hG
            refine S_if_eq (tgt := 116) rfl rfl rfl rfl (fun vh20 => ?_) (fun vh20 => ?_)
            · refine X_iconst (v := (0 : Int32)) rfl rfl rfl ?_
              exact LW_ireturn (st := []) rfl rfl rfl ⟨_, rfl, V, hG⟩
            · refine X_iconst (v := (1 : Int32)) rfl rfl rfl ?_
              refine LW_goto (tgt := 117) rfl rfl ?_
              exact LW_ireturn (st := []) rfl rfl rfl ⟨_, rfl, V, hG⟩
          by_cases vh21 : y2 = 4
          · refine S_tableIn (tgt := 118) (c := 4) rfl (hx2.trans vh21) (by decide) (by decide) rfl rfl ?_
            refine X_aload_n rfl rfl rfl rfl ?_
            refine X_iload_n rfl rfl rfl rfl ?_
            refine Y_callV (as := [.int x1]) (st := []) rfl rfl rfl (by decide) rfl (Nat.le_of_ble_eq_true rfl) (by decide) (Nat.le_of_ble_eq_true rfl) rfl ((congrFun V.1 355).trans s_355) (by decide) (C_X13_brokenOf V x1 y1 hx1 (by omega) ) ?_
            rintro _ g' ⟨vr22, rfl, hgg⟩
            subst hgg
            exact LW_ireturn (st := []) rfl rfl rfl ⟨_, rfl, V, hG⟩
          by_cases vh23 : y2 = 5
          · refine S_tableIn (tgt := 124) (c := 5) rfl (hx2.trans vh23) (by decide) (by decide) rfl rfl ?_
            refine X_aload_n rfl rfl rfl rfl ?_
            refine X_iload_n rfl rfl rfl rfl ?_
            refine Y_callV (as := [.int x1]) (st := []) rfl rfl rfl (by decide) rfl (Nat.le_of_ble_eq_true rfl) (by decide) (Nat.le_of_ble_eq_true rfl) rfl ((congrFun V.1 355).trans s_355) (by decide) (C_X13_loophole V x1 y1 hx1 (by omega) ) ?_
            rintro _ g ⟨vr24, rfl, hrvr240, hrvr241, V, hq⟩
            have hG := hq.trans hG
            exact LW_ireturn (st := []) rfl rfl rfl ⟨_, rfl, V, hG⟩
          refine S_tableOut (tgt := 130) rfl hx2 (by omega) rfl ?_
          refine X_iload_n rfl rfl rfl rfl ?_
          refine X_iconst (v := (0 : Int32)) rfl rfl rfl ?_
          refine X_iconst (v := (2 : Int32)) rfl rfl rfl ?_
          refine X_callS (as := [.int x2, .int (0 : Int32), .int (2 : Int32)]) (st := []) rfl rfl rfl (by decide) rfl (Nat.le_of_ble_eq_true rfl) (by decide) (Nat.le_of_ble_eq_true rfl) rfl ?_
          refine LW_ls (ls' := [some (.int x2), some (.int (0 : Int32)), some (.int (2 : Int32))]) rfl ?_
          refine X_iload_n rfl rfl rfl rfl ?_
          refine X_iload_n rfl rfl rfl rfl ?_
          refine S_icmp_lt (tgt := 14) rfl rfl rfl hx2 (show (0 : Int32).toInt = 0 from rfl) (fun vh25 => ?_) (fun vh25 => ?_)
          · refine X_iconst (v := (0 : Int32)) rfl rfl rfl ?_
            refine LW_ireturn (st := []) rfl rfl rfl ?_
            refine S_if_eq (tgt := 150) rfl rfl rfl (show (0 : Int32).toInt = 0 from rfl) (fun vh26 => ?_) (fun q => absurd q (by omega))
            refine X_bipush (v := (-2 : Int32)) rfl rfl rfl ?_
            exact LW_ireturn (st := []) rfl rfl rfl ⟨_, rfl, V, hG⟩
          · refine X_iload_n rfl rfl rfl rfl ?_
            refine X_iload_n rfl rfl rfl rfl ?_
            refine S_icmp_gt (tgt := 14) rfl rfl rfl hx2 (show (2 : Int32).toInt = 2 from rfl) (fun vh27 => ?_) (fun vh27 => ?_)
            · refine X_iconst (v := (0 : Int32)) rfl rfl rfl ?_
              refine LW_ireturn (st := []) rfl rfl rfl ?_
              refine S_if_eq (tgt := 150) rfl rfl rfl (show (0 : Int32).toInt = 0 from rfl) (fun vh28 => ?_) (fun q => absurd q (by omega))
              refine X_bipush (v := (-2 : Int32)) rfl rfl rfl ?_
              exact LW_ireturn (st := []) rfl rfl rfl ⟨_, rfl, V, hG⟩
            · refine X_iconst (v := (1 : Int32)) rfl rfl rfl ?_
              refine LW_goto (tgt := 15) rfl rfl ?_
              refine LW_ireturn (st := []) rfl rfl rfl ?_
              refine S_if_eq (tgt := 150) rfl rfl rfl (show (1 : Int32).toInt = 1 from rfl) (fun q => absurd q (by omega)) (fun vh29 => ?_)
              refine X_aload_n rfl rfl rfl rfl ?_
              refine X_getR (a := 356) rfl rfl rfl ((congrFun V.1 355).trans s_355) rfl ((congrFun (V.2.1 355 (by decide)) 0).trans r_355_0) ?_
              refine X_iload_n rfl rfl rfl rfl ?_
              refine X_iload_n rfl rfl rfl rfl ?_
              refine S_iadd rfl rfl rfl hx2 (by omega) (fun vz30 hvz30 => ?_)
              refine S_iald rfl rfl ((congrFun V.1 356).trans s_356) rfl (by omega) (fun vz31 evz31 => ?_)
              refine LW_goto (tgt := 152) rfl rfl ?_
              exact LW_ireturn (st := []) rfl rfl rfl ⟨_, rfl, V, hG⟩
        · refine X_iload_n rfl rfl rfl rfl ?_
          refine X_iload_n rfl rfl rfl rfl ?_
          refine S_icmp_gt (tgt := 14) rfl rfl rfl hx2 rfl (fun vh32 => ?_) (fun vh32 => ?_)
          · refine X_iconst (v := (0 : Int32)) rfl rfl rfl ?_
            refine LW_ireturn (st := []) rfl rfl rfl ?_
            refine S_if_eq (tgt := 76) rfl rfl rfl (show (0 : Int32).toInt = 0 from rfl) (fun vh33 => ?_) (fun q => absurd q (by omega))
            refine X_iload_n rfl rfl rfl rfl ?_
            refine S_tableOut (tgt := 130) rfl hx2 (by omega) rfl ?_
            refine X_iload_n rfl rfl rfl rfl ?_
            refine X_iconst (v := (0 : Int32)) rfl rfl rfl ?_
            refine X_iconst (v := (2 : Int32)) rfl rfl rfl ?_
            refine X_callS (as := [.int x2, .int (0 : Int32), .int (2 : Int32)]) (st := []) rfl rfl rfl (by decide) rfl (Nat.le_of_ble_eq_true rfl) (by decide) (Nat.le_of_ble_eq_true rfl) rfl ?_
            refine LW_ls (ls' := [some (.int x2), some (.int (0 : Int32)), some (.int (2 : Int32))]) rfl ?_
            refine X_iload_n rfl rfl rfl rfl ?_
            refine X_iload_n rfl rfl rfl rfl ?_
            refine S_icmp_lt (tgt := 14) rfl rfl rfl hx2 (show (0 : Int32).toInt = 0 from rfl) (fun q => absurd q (by omega)) (fun vh34 => ?_)
            refine X_iload_n rfl rfl rfl rfl ?_
            refine X_iload_n rfl rfl rfl rfl ?_
            refine S_icmp_gt (tgt := 14) rfl rfl rfl hx2 (show (2 : Int32).toInt = 2 from rfl) (fun vh35 => ?_) (fun q => absurd q (by omega))
            refine X_iconst (v := (0 : Int32)) rfl rfl rfl ?_
            refine LW_ireturn (st := []) rfl rfl rfl ?_
            refine S_if_eq (tgt := 150) rfl rfl rfl (show (0 : Int32).toInt = 0 from rfl) (fun vh36 => ?_) (fun q => absurd q (by omega))
            refine X_bipush (v := (-2 : Int32)) rfl rfl rfl ?_
            exact LW_ireturn (st := []) rfl rfl rfl ⟨_, rfl, V, hG⟩
          · refine X_iconst (v := (1 : Int32)) rfl rfl rfl ?_
            refine LW_goto (tgt := 15) rfl rfl ?_
            refine LW_ireturn (st := []) rfl rfl rfl ?_
            refine S_if_eq (tgt := 76) rfl rfl rfl (show (1 : Int32).toInt = 1 from rfl) (fun q => absurd q (by omega)) (fun vh37 => ?_)
            refine X_aload_n rfl rfl rfl rfl ?_
            refine X_getR (a := 356) rfl rfl rfl ((congrFun V.1 355).trans s_355) rfl ((congrFun (V.2.1 355 (by decide)) 0).trans r_355_0) ?_
            refine X_iload_n rfl rfl rfl rfl ?_
            refine X_iconst (v := (3 : Int32)) rfl rfl rfl ?_
            refine S_iadd rfl rfl rfl (show (3 : Int32).toInt = 3 from rfl) (by omega) (fun vz38 hvz38 => ?_)
            refine X_iload_n rfl rfl rfl rfl ?_
            refine S_iadd rfl rfl rfl hx2 (by omega) (fun vz39 hvz39 => ?_)
            refine X_bipush (v := (10 : Int32)) rfl rfl rfl ?_
            refine S_isub rfl rfl rfl (show (10 : Int32).toInt = 10 from rfl) (by omega) (fun vz40 hvz40 => ?_)
            refine S_iald rfl rfl ((congrFun V.1 356).trans s_356) rfl (by omega) (fun vz41 evz41 => ?_)
            exact LW_ireturn (st := []) rfl rfl rfl ⟨_, rfl, V, hG⟩
  · refine X_aload_n rfl rfl rfl rfl ?_
    refine X_getR (a := 356) rfl rfl rfl ((congrFun V.1 355).trans s_355) rfl ((congrFun (V.2.1 355 (by decide)) 0).trans r_355_0) ?_
    refine X_bipush (v := (10 : Int32)) rfl rfl rfl ?_
    refine S_iald rfl rfl ((congrFun V.1 356).trans s_356) (show (10 : Int32).toInt = 10 from rfl) (by omega) (fun vz42 evz42 => ?_)
    have evz42 : Gi g 356 10 = vz42 := evz42
    have vf43 := A_CONS (V.2.2.2.1 (10)) (by omega)
    rw [evz42] at vf43
    exact LW_ireturn (st := []) rfl rfl rfl ⟨_, rfl, V, hG⟩
set_option maxRecDepth 10000 in
set_option maxHeartbeats 40000000 in
theorem C_X13_priceOf_23 {P : Par} {g g0 : LH} {d n : Nat}  (V : InvR P g) (hG : Gr g = Gr g0) (hA : Gi g 356 = Gi g0 356) (x1 : Int32) (y1 : Int) (hx1 : x1.toInt = y1) (hf1 : 0 ≤ y1 ∧ y1 ≤ 23) (x2 : Int32) (y2 : Int) (hx2 : x2.toInt = y2) (hf2 : 0 ≤ y2 ∧ y2 ≤ 23) (x3 : Int32) (y3 : Int) (hx3 : x3.toInt = y3) (x4 : Int32) (y4 : Int) (hx4 : x4.toInt = y4) (hf4 : 0 ≤ y4 ∧ y4 ≤ 8) (hq0 : 0 ≤ y2 → WK g (y2)) (hmu : (8 - y4) * 1 + 0 < (n : Int) + 1) (ih23 : ∀ (g : LH) (V : InvR P g) (hG : Gr g = Gr g0) (hA : Gi g 356 = Gi g0 356) (x1 : Int32) (y1 : Int) (hx1 : x1.toInt = y1) (hf1 : 0 ≤ y1 ∧ y1 ≤ 23) (x2 : Int32) (y2 : Int) (hx2 : x2.toInt = y2) (hf2 : 0 ≤ y2 ∧ y2 ≤ 23) (x3 : Int32) (y3 : Int) (hx3 : x3.toInt = y3) (x4 : Int32) (y4 : Int) (hx4 : x4.toInt = y4) (hf4 : 0 ≤ y4 ∧ y4 ≤ 8) (hq0 : 0 ≤ y2 → WK g (y2)), (8 - y4) * 1 + 0 < (n : Int) → LW 276 (d + 19) 0 0 23 [some (.ref 355), some (.int x1), some (.int x2), some (.int x3), some (.int x4)] [] g (fun v g' => ∃ r : Int32, v = some (.int r) ∧ InvR P g' ∧ Gr g' = Gr g0 ∧ Gi g' 356 = Gi g0 356)) : LW 276 (d + 19) 0 0 23 [some (.ref 355), some (.int x1), some (.int x2), some (.int x3), some (.int x4)] [] g (fun v g' => ∃ r : Int32, v = some (.int r) ∧ InvR P g' ∧ Gr g' = Gr g0 ∧ Gi g' 356 = Gi g0 356) := by
  refine X_iload rfl rfl rfl ?_
  refine X_aload_n rfl rfl rfl rfl ?_
  refine X_iload_n rfl rfl rfl rfl ?_
  refine X_callV (as := [.int x1]) (st := [.int x4]) rfl rfl rfl (by decide) rfl (Nat.le_of_ble_eq_true rfl) (by decide) (Nat.le_of_ble_eq_true rfl) rfl ((congrFun V.1 355).trans s_355) (by decide) ?_
  refine LW_ls (ls' := [some (.ref 355), some (.int x1)]) rfl ?_
  refine X_aload_n rfl rfl rfl rfl ?_
  refine X_getR (a := 356) rfl rfl rfl ((congrFun V.1 355).trans s_355) rfl ((congrFun (V.2.1 355 (by decide)) 0).trans r_355_0) ?_
  refine X_bipush (v := (116 : Int32)) rfl rfl rfl ?_
  refine X_bipush (v := (10 : Int32)) rfl rfl rfl ?_
  refine X_iload_n rfl rfl rfl rfl ?_
  refine S_imul rfl rfl (show (10 : Int32).toInt = 10 from rfl) hx1 (by omega) (fun vz1 hvz1 => ?_)
  refine S_iadd rfl rfl (show (116 : Int32).toInt = 116 from rfl) rfl (by omega) (fun vz2 hvz2 => ?_)
  refine X_bipush (v := (8 : Int32)) rfl rfl rfl ?_
  refine S_iadd rfl rfl rfl (show (8 : Int32).toInt = 8 from rfl) (by omega) (fun vz3 hvz3 => ?_)
  refine S_iald rfl rfl ((congrFun V.1 356).trans s_356) rfl (by omega) (fun vz4 evz4 => ?_)
  have vf5 := A_LENGTH (V.2.2.2.1 ((vz3.toInt : Int).toNat)) (by omega)
  rw [evz4] at vf5
  refine LW_ireturn (st := []) rfl rfl rfl ?_
  refine S_icmp_ge (tgt := 63) rfl rfl rfl hx4 rfl (fun vh6 => ?_) (fun vh6 => ?_)
  · refine X_aload_n rfl rfl rfl rfl ?_
    refine X_getR (a := 363) rfl rfl rfl ((congrFun V.1 355).trans s_355) rfl ((congrFun (V.2.1 355 (by decide)) 26).trans r_355_26) ?_
    refine X_iconst (v := (1 : Int32)) rfl rfl rfl ?_
    refine X_aload_n rfl rfl rfl rfl ?_
    refine X_getR (a := 356) rfl rfl rfl ((congrFun V.1 355).trans s_355) rfl ((congrFun (V.2.1 355 (by decide)) 0).trans r_355_0) ?_
    refine X_bipush (v := (7 : Int32)) rfl rfl rfl ?_
    refine S_iald rfl rfl ((congrFun V.1 356).trans s_356) (show (7 : Int32).toInt = 7 from rfl) (by omega) (fun vz7 evz7 => ?_)
    have evz7 : Gi g 356 7 = vz7 := evz7
    refine Y_callS (as := [.int vz7]) (st := [.int (1 : Int32), .ref 363]) rfl rfl rfl (by decide) rfl (Nat.le_of_ble_eq_true rfl) (by decide) (Nat.le_of_ble_eq_true rfl) rfl (C_X13_bits V vz7 vz7.toInt rfl ) ?_
    rintro _ g' ⟨vr8, rfl, hrvr80, hrvr81, hgg⟩
    subst hgg
    refine S_iast (I := InvR _) rfl rfl ((congrFun V.1 363).trans s_363) (show (1 : Int32).toInt = 1 from rfl) (by omega) (InvR_putO V (by decide) trivial) (fun g V ve9 vn10 hq => ?_)
    have hG := hq.trans hG
    have hA := (funext fun k => vn10 356 k (Or.inl (by decide))).trans hA
    have evz4 := (vn10 (356) ((vz3.toInt : Int).toNat) (Or.inl (by decide))).trans evz4
    have evz7 := (vn10 (356) 7 (Or.inl (by decide))).trans evz7
    have vwk := hq0
    have vwk := fun vh => WK.oth (fun q' k' vh' => vn10 q' k' (Or.inl vh')) (vwk vh)
    have ve9 : Gi g 363 1 = vr8 := ve9
    refine X_aload_n rfl rfl rfl rfl ?_
    refine X_getR (a := 363) rfl rfl rfl ((congrFun V.1 355).trans s_355) rfl ((congrFun (V.2.1 355 (by decide)) 26).trans r_355_26) ?_
    refine X_bipush (v := (8 : Int32)) rfl rfl rfl ?_
    refine X_aload_n rfl rfl rfl rfl ?_
    refine X_iload_n rfl rfl rfl rfl ?_
    refine X_callV (as := [.int x1]) (st := [.int (8 : Int32), .ref 363]) rfl rfl rfl (by decide) rfl (Nat.le_of_ble_eq_true rfl) (by decide) (Nat.le_of_ble_eq_true rfl) rfl ((congrFun V.1 355).trans s_355) (by decide) ?_
    refine LW_ls (ls' := [some (.ref 355), some (.int x1)]) rfl ?_
    refine X_aload_n rfl rfl rfl rfl ?_
    refine X_getR (a := 356) rfl rfl rfl ((congrFun V.1 355).trans s_355) rfl ((congrFun (V.2.1 355 (by decide)) 0).trans r_355_0) ?_
    refine X_bipush (v := (116 : Int32)) rfl rfl rfl ?_
    refine X_bipush (v := (10 : Int32)) rfl rfl rfl ?_
    refine X_iload_n rfl rfl rfl rfl ?_
    refine S_imul rfl rfl (show (10 : Int32).toInt = 10 from rfl) hx1 (by omega) (fun vz11 hvz11 => ?_)
    refine S_iadd rfl rfl (show (116 : Int32).toInt = 116 from rfl) rfl (by omega) (fun vz12 hvz12 => ?_)
    refine X_bipush (v := (8 : Int32)) rfl rfl rfl ?_
    refine S_iadd rfl rfl rfl (show (8 : Int32).toInt = 8 from rfl) (by omega) (fun vz13 hvz13 => ?_)
    refine S_iald rfl rfl ((congrFun V.1 356).trans s_356) rfl (by omega) (fun vz14 evz14 => ?_)
    have vf15 := A_LENGTH (V.2.2.2.1 ((vz13.toInt : Int).toNat)) (by omega)
    rw [evz14] at vf15
    refine LW_ireturn (st := []) rfl rfl rfl ?_
    refine S_iast (I := InvR _) rfl rfl ((congrFun V.1 363).trans s_363) (show (8 : Int32).toInt = 8 from rfl) (by omega) (InvR_putO V (by decide) trivial) (fun g V ve16 vn17 hq => ?_)
    have hG := hq.trans hG
    have hA := (funext fun k => vn17 356 k (Or.inl (by decide))).trans hA
    have evz4 := (vn17 (356) ((vz3.toInt : Int).toNat) (Or.inl (by decide))).trans evz4
    have evz7 := (vn17 (356) 7 (Or.inl (by decide))).trans evz7
    have ve9 := (vn17 (363) 1 (Or.inr (by omega))).trans ve9
    have evz14 := (vn17 (356) ((vz13.toInt : Int).toNat) (Or.inl (by decide))).trans evz14
    have vwk := fun vh => WK.oth (fun q' k' vh' => vn17 q' k' (Or.inl vh')) (vwk vh)
    have ve16 : Gi g 363 8 = vz14 := ve16
    refine X_aload_n rfl rfl rfl rfl ?_
    refine X_getR (a := 363) rfl rfl rfl ((congrFun V.1 355).trans s_355) rfl ((congrFun (V.2.1 355 (by decide)) 26).trans r_355_26) ?_
    refine X_bipush (v := (9 : Int32)) rfl rfl rfl ?_
    refine X_aload_n rfl rfl rfl rfl ?_
    refine X_iload_n rfl rfl rfl rfl ?_
    refine X_callV (as := [.int x1]) (st := [.int (9 : Int32), .ref 363]) rfl rfl rfl (by decide) rfl (Nat.le_of_ble_eq_true rfl) (by decide) (Nat.le_of_ble_eq_true rfl) rfl ((congrFun V.1 355).trans s_355) (by decide) ?_
    refine LW_ls (ls' := [some (.ref 355), some (.int x1)]) rfl ?_
    refine X_aload_n rfl rfl rfl rfl ?_
    refine X_getR (a := 356) rfl rfl rfl ((congrFun V.1 355).trans s_355) rfl ((congrFun (V.2.1 355 (by decide)) 0).trans r_355_0) ?_
    refine X_bipush (v := (116 : Int32)) rfl rfl rfl ?_
    refine X_bipush (v := (10 : Int32)) rfl rfl rfl ?_
    refine X_iload_n rfl rfl rfl rfl ?_
    refine S_imul rfl rfl (show (10 : Int32).toInt = 10 from rfl) hx1 (by omega) (fun vz18 hvz18 => ?_)
    refine S_iadd rfl rfl (show (116 : Int32).toInt = 116 from rfl) rfl (by omega) (fun vz19 hvz19 => ?_)
    refine X_bipush (v := (9 : Int32)) rfl rfl rfl ?_
    refine S_iadd rfl rfl rfl (show (9 : Int32).toInt = 9 from rfl) (by omega) (fun vz20 hvz20 => ?_)
    refine S_iald rfl rfl ((congrFun V.1 356).trans s_356) rfl (by omega) (fun vz21 evz21 => ?_)
    refine LW_ireturn (st := []) rfl rfl rfl ?_
    refine S_iast (I := InvR _) rfl rfl ((congrFun V.1 363).trans s_363) (show (9 : Int32).toInt = 9 from rfl) (by omega) (InvR_putO V (by decide) trivial) (fun g V ve22 vn23 hq => ?_)
    have hG := hq.trans hG
    have hA := (funext fun k => vn23 356 k (Or.inl (by decide))).trans hA
    have evz4 := (vn23 (356) ((vz3.toInt : Int).toNat) (Or.inl (by decide))).trans evz4
    have evz7 := (vn23 (356) 7 (Or.inl (by decide))).trans evz7
    have ve9 := (vn23 (363) 1 (Or.inr (by omega))).trans ve9
    have evz14 := (vn23 (356) ((vz13.toInt : Int).toNat) (Or.inl (by decide))).trans evz14
    have ve16 := (vn23 (363) 8 (Or.inr (by omega))).trans ve16
    have evz21 := (vn23 (356) ((vz20.toInt : Int).toNat) (Or.inl (by decide))).trans evz21
    have vwk := fun vh => WK.oth (fun q' k' vh' => vn23 q' k' (Or.inl vh')) (vwk vh)
    have ve22 : Gi g 363 9 = vz21 := ve22
    refine X_aload_n rfl rfl rfl rfl ?_
    refine X_getR (a := 363) rfl rfl rfl ((congrFun V.1 355).trans s_355) rfl ((congrFun (V.2.1 355 (by decide)) 26).trans r_355_26) ?_
    refine X_bipush (v := (10 : Int32)) rfl rfl rfl ?_
    refine X_iload_n rfl rfl rfl rfl ?_
    refine S_iast (I := InvR _) rfl rfl ((congrFun V.1 363).trans s_363) (show (10 : Int32).toInt = 10 from rfl) (by omega) (InvR_putO V (by decide) trivial) (fun g V ve24 vn25 hq => ?_)
    have hG := hq.trans hG
    have hA := (funext fun k => vn25 356 k (Or.inl (by decide))).trans hA
    have evz4 := (vn25 (356) ((vz3.toInt : Int).toNat) (Or.inl (by decide))).trans evz4
    have evz7 := (vn25 (356) 7 (Or.inl (by decide))).trans evz7
    have ve9 := (vn25 (363) 1 (Or.inr (by omega))).trans ve9
    have evz14 := (vn25 (356) ((vz13.toInt : Int).toNat) (Or.inl (by decide))).trans evz14
    have ve16 := (vn25 (363) 8 (Or.inr (by omega))).trans ve16
    have evz21 := (vn25 (356) ((vz20.toInt : Int).toNat) (Or.inl (by decide))).trans evz21
    have ve22 := (vn25 (363) 9 (Or.inr (by omega))).trans ve22
    have vwk := fun vh => WK.oth (fun q' k' vh' => vn25 q' k' (Or.inl vh')) (vwk vh)
    have ve24 : Gi g 363 10 = x3 := ve24
    refine X_aload_n rfl rfl rfl rfl ?_
    refine X_iload_n rfl rfl rfl rfl ?_
    refine Y_callV (as := [.int x2]) (st := []) rfl rfl rfl (by decide) rfl (Nat.le_of_ble_eq_true rfl) (by decide) (Nat.le_of_ble_eq_true rfl) rfl ((congrFun V.1 355).trans s_355) (by decide) (C_X13_work V x2 y2 hx2 (by omega) (vwk (by omega))) ?_
    rintro _ g ⟨rfl, V, hq, chA⟩
    have hG := hq.trans hG
    have evz7 := (congrFun chA 7).trans evz7
    have hA := chA.trans hA
    refine X_aload_n rfl rfl rfl rfl ?_
    refine X_getR (a := 364) rfl rfl rfl ((congrFun V.1 355).trans s_355) rfl ((congrFun (V.2.1 355 (by decide)) 27).trans r_355_27) ?_
    refine X_iconst (v := (0 : Int32)) rfl rfl rfl ?_
    refine S_lald rfl rfl ((congrFun V.1 364).trans s_364) (show (0 : Int32).toInt = 0 from rfl) (by omega) (fun vz27 => ?_)
    refine X_lconst (v := (0 : Int64)) rfl rfl rfl ?_
    refine S_lcmp rfl rfl (fun vz28 hvz28 => ?_)
    refine S_if_ge (tgt := 131) rfl rfl rfl rfl (fun vh29 => ?_) (fun vh29 => ?_)
    · refine X_aload_n rfl rfl rfl rfl ?_
      refine X_getR (a := 364) rfl rfl rfl ((congrFun V.1 355).trans s_355) rfl ((congrFun (V.2.1 355 (by decide)) 27).trans r_355_27) ?_
      refine X_iconst (v := (0 : Int32)) rfl rfl rfl ?_
      refine S_lald rfl rfl ((congrFun V.1 364).trans s_364) (show (0 : Int32).toInt = 0 from rfl) (by omega) (fun vz30 => ?_)
      refine X_ldc2 (v := (999 : Int64)) rfl rfl rfl ?_
      refine S_lcmp rfl rfl (fun vz31 hvz31 => ?_)
      refine S_if_le (tgt := 150) rfl rfl rfl rfl (fun vh32 => ?_) (fun vh32 => ?_)
      · refine X_aload_n rfl rfl rfl rfl ?_
        refine X_getR (a := 364) rfl rfl rfl ((congrFun V.1 355).trans s_355) rfl ((congrFun (V.2.1 355 (by decide)) 27).trans r_355_27) ?_
        refine X_iconst (v := (0 : Int32)) rfl rfl rfl ?_
        refine S_lald rfl rfl ((congrFun V.1 364).trans s_364) (show (0 : Int32).toInt = 0 from rfl) (by omega) (fun vz33 => ?_)
        refine S_l2iT rfl rfl (fun vz34 => ?_)
        exact LW_ireturn (st := []) rfl rfl rfl ⟨_, rfl, V, hG, hA⟩
      · refine X_sipush (v := (999 : Int32)) rfl rfl rfl ?_
        refine LW_goto (tgt := 157) rfl rfl ?_
        exact LW_ireturn (st := []) rfl rfl rfl ⟨_, rfl, V, hG, hA⟩
    · refine X_iconst (v := (0 : Int32)) rfl rfl rfl ?_
      refine LW_goto (tgt := 157) rfl rfl ?_
      exact LW_ireturn (st := []) rfl rfl rfl ⟨_, rfl, V, hG, hA⟩
  · refine X_iload_n rfl rfl rfl rfl ?_
    refine X_aload_n rfl rfl rfl rfl ?_
    refine X_aload_n rfl rfl rfl rfl ?_
    refine X_iload_n rfl rfl rfl rfl ?_
    refine X_iload rfl rfl rfl ?_
    refine X_callV (as := [.int x1, .int x4]) (st := [.ref 355, .int x3]) rfl rfl rfl (by decide) rfl (Nat.le_of_ble_eq_true rfl) (by decide) (Nat.le_of_ble_eq_true rfl) rfl ((congrFun V.1 355).trans s_355) (by decide) ?_
    refine LW_ls (ls' := [some (.ref 355), some (.int x1), some (.int x4)]) rfl ?_
    refine X_aload_n rfl rfl rfl rfl ?_
    refine X_getR (a := 356) rfl rfl rfl ((congrFun V.1 355).trans s_355) rfl ((congrFun (V.2.1 355 (by decide)) 0).trans r_355_0) ?_
    refine X_bipush (v := (116 : Int32)) rfl rfl rfl ?_
    refine X_bipush (v := (10 : Int32)) rfl rfl rfl ?_
    refine X_iload_n rfl rfl rfl rfl ?_
    refine S_imul rfl rfl (show (10 : Int32).toInt = 10 from rfl) hx1 (by omega) (fun vz35 hvz35 => ?_)
    refine S_iadd rfl rfl (show (116 : Int32).toInt = 116 from rfl) rfl (by omega) (fun vz36 hvz36 => ?_)
    refine X_iload_n rfl rfl rfl rfl ?_
    refine S_iadd rfl rfl rfl hx4 (by omega) (fun vz37 hvz37 => ?_)
    refine S_iald rfl rfl ((congrFun V.1 356).trans s_356) rfl (by omega) (fun vz38 evz38 => ?_)
    have vf39 := A_LETTER (V.2.2.2.1 ((vz37.toInt : Int).toNat)) (by omega)
    rw [evz38] at vf39
    refine LW_ireturn (st := []) rfl rfl rfl ?_
    refine Y_callV (as := [.int vz38]) (st := [.int x3]) rfl rfl rfl (by decide) rfl (Nat.le_of_ble_eq_true rfl) (by decide) (Nat.le_of_ble_eq_true rfl) rfl ((congrFun V.1 355).trans s_355) (by decide) (C_X13_written V vz38 vz38.toInt rfl (by omega) ) ?_
    rintro _ g' ⟨vr40, rfl, hgg⟩
    subst hgg
    refine X_bipush (v := (100 : Int32)) rfl rfl rfl ?_
    refine S_icmp_lt (tgt := 54) rfl rfl rfl rfl (show (100 : Int32).toInt = 100 from rfl) (fun vh41 => ?_) (fun vh41 => ?_)
    · refine X_iconst (v := (0 : Int32)) rfl rfl rfl ?_
      refine S_iaddT rfl rfl (fun vz42 => ?_)
      refine X_istore_n (i := 3) (ls' := [some (.ref 355), some (.int x1), some (.int x2), some (.int vz42), some (.int x4)]) rfl rfl rfl (Nat.le_of_ble_eq_true rfl) rfl ?_
      refine S_iinc (c := 1) rfl rfl rfl hx4 rfl (by omega) (fun vz43 hvz43 => ?_)
      refine LW_ls (ls' := [some (.ref 355), some (.int x1), some (.int x2), some (.int vz42), some (.int vz43)]) rfl ?_
      refine LW_goto (tgt := 23) rfl rfl ?_
      exact ih23 _ V hG hA x1 y1 hx1 (by omega) x2 y2 hx2 (by omega) vz42 vz42.toInt rfl vz43 vz43.toInt rfl (by omega)  (hq0)  (by omega)
    · refine X_iconst (v := (1 : Int32)) rfl rfl rfl ?_
      refine LW_goto (tgt := 55) rfl rfl ?_
      refine S_iaddT rfl rfl (fun vz44 => ?_)
      refine X_istore_n (i := 3) (ls' := [some (.ref 355), some (.int x1), some (.int x2), some (.int vz44), some (.int x4)]) rfl rfl rfl (Nat.le_of_ble_eq_true rfl) rfl ?_
      refine S_iinc (c := 1) rfl rfl rfl hx4 rfl (by omega) (fun vz45 hvz45 => ?_)
      refine LW_ls (ls' := [some (.ref 355), some (.int x1), some (.int x2), some (.int vz44), some (.int vz45)]) rfl ?_
      refine LW_goto (tgt := 23) rfl rfl ?_
      exact ih23 _ V hG hA x1 y1 hx1 (by omega) x2 y2 hx2 (by omega) vz44 vz44.toInt rfl vz45 vz45.toInt rfl (by omega)  (hq0)  (by omega)
theorem C_X13_priceOf_all {P : Par} {g0 : LH} {d : Nat}  : ∀ n : Nat, (∀ (g : LH) (V : InvR P g) (hG : Gr g = Gr g0) (hA : Gi g 356 = Gi g0 356) (x1 : Int32) (y1 : Int) (hx1 : x1.toInt = y1) (hf1 : 0 ≤ y1 ∧ y1 ≤ 23) (x2 : Int32) (y2 : Int) (hx2 : x2.toInt = y2) (hf2 : 0 ≤ y2 ∧ y2 ≤ 23) (x3 : Int32) (y3 : Int) (hx3 : x3.toInt = y3) (x4 : Int32) (y4 : Int) (hx4 : x4.toInt = y4) (hf4 : 0 ≤ y4 ∧ y4 ≤ 8) (hq0 : 0 ≤ y2 → WK g (y2)), (8 - y4) * 1 + 0 < (n : Int) → LW 276 (d + 19) 0 0 23 [some (.ref 355), some (.int x1), some (.int x2), some (.int x3), some (.int x4)] [] g (fun v g' => ∃ r : Int32, v = some (.int r) ∧ InvR P g' ∧ Gr g' = Gr g0 ∧ Gi g' 356 = Gi g0 356)) := by
  intro n
  induction n with
  | zero => exact fun g V hG hA x1 y1 hx1 hf1 x2 y2 hx2 hf2 x3 y3 hx3 x4 y4 hx4 hf4 hq0 hmu => absurd hmu (by omega)
  | succ n ih => exact fun g V hG hA x1 y1 hx1 hf1 x2 y2 hx2 hf2 x3 y3 hx3 x4 y4 hx4 hf4 hq0 hmu => C_X13_priceOf_23  V hG hA x1 y1 hx1 hf1 x2 y2 hx2 hf2 x3 y3 hx3 x4 y4 hx4 hf4 hq0 (by omega) ih
set_option maxRecDepth 10000 in
set_option maxHeartbeats 40000000 in
theorem C_X13_priceOf {P : Par} {g : LH} {d : Nat}  (V : InvR P g) (x1 : Int32) (y1 : Int) (hx1 : x1.toInt = y1) (hf1 : 0 ≤ y1 ∧ y1 ≤ 23)   : LW 276 (d + 19) 0 0 0 (lEnt (mL 276) [.ref 355, .int x1]) [] g (fun v g' => ∃ r : Int32, v = some (.int r) ∧ InvR P g' ∧ Gr g' = Gr g ∧ Gi g' 356 = Gi g 356) := by
  refine LW_ls (ls' := [some (.ref 355), some (.int x1), none, none, none]) rfl ?_
  have hG : Gr g = Gr g := rfl
  have hA : Gi g 356 = Gi g 356 := rfl
  refine X_aload_n rfl rfl rfl rfl ?_
  refine X_iconst (v := (2 : Int32)) rfl rfl rfl ?_
  refine Y_callV (as := [.int (2 : Int32)]) (st := []) rfl rfl rfl (by decide) rfl (Nat.le_of_ble_eq_true rfl) (by decide) (Nat.le_of_ble_eq_true rfl) rfl ((congrFun V.1 355).trans s_355) (by decide) (C_X13_clauseOf V (2 : Int32) 2 (show (2 : Int32).toInt = 2 from rfl) ) ?_
  rintro _ g' ⟨vr1, rfl, hrvr10, hrvr11, hgg, vq2⟩
  subst hgg
  have vwk : 0 ≤ vr1.toInt → WK g vr1.toInt := fun vh => ⟨_, by omega, by omega, vq2 vh⟩
  refine X_istore_n (i := 2) (ls' := [some (.ref 355), some (.int x1), some (.int vr1), none, none]) rfl rfl rfl (Nat.le_of_ble_eq_true rfl) rfl ?_
  refine X_iload_n rfl rfl rfl rfl ?_
  refine S_if_ge (tgt := 18) rfl rfl rfl rfl (fun vh3 => ?_) (fun vh3 => ?_)
  · refine X_iconst (v := (0 : Int32)) rfl rfl rfl ?_
    refine X_istore_n (i := 3) (ls' := [some (.ref 355), some (.int x1), some (.int vr1), some (.int (0 : Int32)), none]) rfl rfl rfl (Nat.le_of_ble_eq_true rfl) rfl ?_
    refine X_iconst (v := (0 : Int32)) rfl rfl rfl ?_
    refine X_istore (i := 4) (ls' := [some (.ref 355), some (.int x1), some (.int vr1), some (.int (0 : Int32)), some (.int (0 : Int32))]) rfl rfl (Nat.le_of_ble_eq_true rfl) rfl ?_
    exact (C_X13_priceOf_all (((8 - 0) * 1 + 0) + 1 : Int).toNat) _ V hG hA x1 y1 hx1 (by omega) vr1 vr1.toInt rfl (by omega) (0 : Int32) 0 (show (0 : Int32).toInt = 0 from rfl) (0 : Int32) 0 (show (0 : Int32).toInt = 0 from rfl) (by omega)  (vwk)  (by omega)
  · refine X_aload_n rfl rfl rfl rfl ?_
    refine X_iload_n rfl rfl rfl rfl ?_
    refine X_callV (as := [.int x1]) (st := []) rfl rfl rfl (by decide) rfl (Nat.le_of_ble_eq_true rfl) (by decide) (Nat.le_of_ble_eq_true rfl) rfl ((congrFun V.1 355).trans s_355) (by decide) ?_
    refine LW_ls (ls' := [some (.ref 355), some (.int x1)]) rfl ?_
    refine X_aload_n rfl rfl rfl rfl ?_
    refine X_getR (a := 356) rfl rfl rfl ((congrFun V.1 355).trans s_355) rfl ((congrFun (V.2.1 355 (by decide)) 0).trans r_355_0) ?_
    refine X_bipush (v := (116 : Int32)) rfl rfl rfl ?_
    refine X_bipush (v := (10 : Int32)) rfl rfl rfl ?_
    refine X_iload_n rfl rfl rfl rfl ?_
    refine S_imul rfl rfl (show (10 : Int32).toInt = 10 from rfl) hx1 (by omega) (fun vz4 hvz4 => ?_)
    refine S_iadd rfl rfl (show (116 : Int32).toInt = 116 from rfl) rfl (by omega) (fun vz5 hvz5 => ?_)
    refine X_bipush (v := (8 : Int32)) rfl rfl rfl ?_
    refine S_iadd rfl rfl rfl (show (8 : Int32).toInt = 8 from rfl) (by omega) (fun vz6 hvz6 => ?_)
    refine S_iald rfl rfl ((congrFun V.1 356).trans s_356) rfl (by omega) (fun vz7 evz7 => ?_)
    have vf8 := A_LENGTH (V.2.2.2.1 ((vz6.toInt : Int).toNat)) (by omega)
    rw [evz7] at vf8
    refine LW_ireturn (st := []) rfl rfl rfl ?_
    refine X_iconst (v := (1 : Int32)) rfl rfl rfl ?_
    refine S_iadd rfl rfl rfl (show (1 : Int32).toInt = 1 from rfl) (by omega) (fun vz9 hvz9 => ?_)
    exact LW_ireturn (st := []) rfl rfl rfl ⟨_, rfl, V, hG, hA⟩
