/-! the reference's methods: each returns and keeps what every state keeps -/
set_option maxRecDepth 10000 in
set_option maxHeartbeats 40000000 in
theorem C_X13_wouldChange {P : Par} {g : LH} {d : Nat}  (V : InvR P g) (x1 : Int32) (y1 : Int) (hx1 : x1.toInt = y1) (hf1 : 0 ≤ y1 ∧ y1 ≤ 25)   : LW 244 (d + 20) 0 0 0 (lEnt (mL 244) [.ref 355, .int x1]) [] g (fun v g' => ∃ r : Int32, v = some (.int r) ∧ 0 ≤ r.toInt ∧ r.toInt ≤ 1 ∧ InvR P g' ∧ Gr g' = Gr g) := by
  refine LW_ls (ls' := [some (.ref 355), some (.int x1), none, none, none]) rfl ?_
  have hG : Gr g = Gr g := rfl
  refine X_aload_n rfl rfl rfl rfl ?_
  refine X_iload_n rfl rfl rfl rfl ?_
  refine X_callV (as := [.int x1]) (st := []) rfl rfl rfl (by decide) rfl (Nat.le_of_ble_eq_true rfl) (by decide) (Nat.le_of_ble_eq_true rfl) rfl ((congrFun V.1 355).trans s_355) (by decide) ?_
  refine LW_ls (ls' := [some (.ref 355), some (.int x1)]) rfl ?_
  refine X_aload_n rfl rfl rfl rfl ?_
  refine X_getR (a := 356) rfl rfl rfl ((congrFun V.1 355).trans s_355) rfl ((congrFun (V.2.1 355 (by decide)) 0).trans r_355_0) ?_
  refine X_bipush (v := (7 : Int32)) rfl rfl rfl ?_
  refine S_iald rfl rfl ((congrFun V.1 356).trans s_356) (show (7 : Int32).toInt = 7 from rfl) (by omega) (fun vz1 evz1 => ?_)
  have evz1 : Gi g 356 7 = vz1 := evz1
  refine X_iload_n rfl rfl rfl rfl ?_
  refine X_callS (as := [.int vz1, .int x1]) (st := []) rfl rfl rfl (by decide) rfl (Nat.le_of_ble_eq_true rfl) (by decide) (Nat.le_of_ble_eq_true rfl) rfl ?_
  refine LW_ls (ls' := [some (.int vz1), some (.int x1)]) rfl ?_
  refine X_iload_n rfl rfl rfl rfl ?_
  refine X_iload_n rfl rfl rfl rfl ?_
  refine S_ishrT rfl rfl (fun vz2 => ?_)
  refine X_iconst (v := (1 : Int32)) rfl rfl rfl ?_
  refine S_iandR (k := 1) rfl rfl rfl (fun vz3 hvz3 => ?_)
  refine X_iconst (v := (1 : Int32)) rfl rfl rfl ?_
  refine S_icmp_ne (tgt := 13) rfl rfl rfl rfl (show (1 : Int32).toInt = 1 from rfl) (fun vh4 => ?_) (fun vh4 => ?_)
  · refine X_iconst (v := (0 : Int32)) rfl rfl rfl ?_
    refine LW_ireturn (st := []) rfl rfl rfl ?_
    refine LW_ireturn (st := []) rfl rfl rfl ?_
    refine S_if_eq (tgt := 12) rfl rfl rfl (show (0 : Int32).toInt = 0 from rfl) (fun vh5 => ?_) (fun q => absurd q (by omega))
    refine X_iconst (v := (0 : Int32)) rfl rfl rfl ?_
    refine X_istore_n (i := 2) (ls' := [some (.ref 355), some (.int x1), some (.int (0 : Int32)), none, none]) rfl rfl rfl (Nat.le_of_ble_eq_true rfl) rfl ?_
    refine X_aload_n rfl rfl rfl rfl ?_
    refine X_iload_n rfl rfl rfl rfl ?_
    refine Y_callV (as := [.int (0 : Int32)]) (st := []) rfl rfl rfl (by decide) rfl (Nat.le_of_ble_eq_true rfl) (by decide) (Nat.le_of_ble_eq_true rfl) rfl ((congrFun V.1 355).trans s_355) (by decide) (C_X13_clauseOf V (0 : Int32) 0 (show (0 : Int32).toInt = 0 from rfl) ) ?_
    rintro _ g' ⟨vr6, rfl, hrvr60, hrvr61, hgg, vq7⟩
    subst hgg
    have vwk : 0 ≤ vr6.toInt → WK g vr6.toInt := fun vh => ⟨_, by omega, by omega, vq7 vh⟩
    refine X_istore_n (i := 3) (ls' := [some (.ref 355), some (.int x1), some (.int (0 : Int32)), some (.int vr6), none]) rfl rfl rfl (Nat.le_of_ble_eq_true rfl) rfl ?_
    refine X_aload_n rfl rfl rfl rfl ?_
    refine X_getR (a := 356) rfl rfl rfl ((congrFun V.1 355).trans s_355) rfl ((congrFun (V.2.1 355 (by decide)) 0).trans r_355_0) ?_
    refine X_bipush (v := (90 : Int32)) rfl rfl rfl ?_
    refine X_iload_n rfl rfl rfl rfl ?_
    refine S_iadd rfl rfl (show (90 : Int32).toInt = 90 from rfl) hx1 (by omega) (fun vz8 hvz8 => ?_)
    refine S_iald rfl rfl ((congrFun V.1 356).trans s_356) rfl (by omega) (fun vz9 evz9 => ?_)
    refine X_aload_n rfl rfl rfl rfl ?_
    refine X_getR (a := 356) rfl rfl rfl ((congrFun V.1 355).trans s_355) rfl ((congrFun (V.2.1 355 (by decide)) 0).trans r_355_0) ?_
    refine X_bipush (v := (7 : Int32)) rfl rfl rfl ?_
    refine S_iald_v rfl rfl ((congrFun V.1 356).trans s_356) (show (7 : Int32).toInt = 7 from rfl) (by omega) evz1 ?_
    refine S_iandT rfl rfl (fun vz11 => ?_)
    refine Y_callS (as := [.int vz11]) (st := []) rfl rfl rfl (by decide) rfl (Nat.le_of_ble_eq_true rfl) (by decide) (Nat.le_of_ble_eq_true rfl) rfl (C_X13_bits V vz11 vz11.toInt rfl ) ?_
    rintro _ g' ⟨vr12, rfl, hrvr120, hrvr121, hgg⟩
    subst hgg
    refine X_istore (i := 4) (ls' := [some (.ref 355), some (.int x1), some (.int (0 : Int32)), some (.int vr6), some (.int vr12)]) rfl rfl (Nat.le_of_ble_eq_true rfl) rfl ?_
    refine X_iload_n rfl rfl rfl rfl ?_
    refine S_if_ge (tgt := 96) rfl rfl rfl rfl (fun vh13 => ?_) (fun vh13 => ?_)
    · refine X_aload_n rfl rfl rfl rfl ?_
      refine X_getR (a := 363) rfl rfl rfl ((congrFun V.1 355).trans s_355) rfl ((congrFun (V.2.1 355 (by decide)) 26).trans r_355_26) ?_
      refine X_iconst (v := (1 : Int32)) rfl rfl rfl ?_
      refine X_aload_n rfl rfl rfl rfl ?_
      refine X_getR (a := 356) rfl rfl rfl ((congrFun V.1 355).trans s_355) rfl ((congrFun (V.2.1 355 (by decide)) 0).trans r_355_0) ?_
      refine X_bipush (v := (7 : Int32)) rfl rfl rfl ?_
      refine S_iald_v rfl rfl ((congrFun V.1 356).trans s_356) (show (7 : Int32).toInt = 7 from rfl) (by omega) evz1 ?_
      refine Y_callS (as := [.int vz1]) (st := [.int (1 : Int32), .ref 363]) rfl rfl rfl (by decide) rfl (Nat.le_of_ble_eq_true rfl) (by decide) (Nat.le_of_ble_eq_true rfl) rfl (C_X13_bits V vz1 vz1.toInt rfl ) ?_
      rintro _ g' ⟨vr15, rfl, hrvr150, hrvr151, hgg⟩
      subst hgg
      refine S_iast (I := InvR _) rfl rfl ((congrFun V.1 363).trans s_363) (show (1 : Int32).toInt = 1 from rfl) (by omega) (InvR_putO V (by decide) trivial) (fun g V ve16 vn17 hq => ?_)
      have hG := hq.trans hG
      have evz1 := (vn17 (356) 7 (Or.inl (by decide))).trans evz1
      have evz9 := (vn17 (356) ((vz8.toInt : Int).toNat) (Or.inl (by decide))).trans evz9
      have vwk := fun vh => WK.oth (fun q' k' vh' => vn17 q' k' (Or.inl vh')) (vwk vh)
      have ve16 : Gi g 363 1 = vr15 := ve16
      refine X_aload_n rfl rfl rfl rfl ?_
      refine X_getR (a := 363) rfl rfl rfl ((congrFun V.1 355).trans s_355) rfl ((congrFun (V.2.1 355 (by decide)) 26).trans r_355_26) ?_
      refine X_iconst (v := (2 : Int32)) rfl rfl rfl ?_
      refine X_iload_n rfl rfl rfl rfl ?_
      refine S_iast (I := InvR _) rfl rfl ((congrFun V.1 363).trans s_363) (show (2 : Int32).toInt = 2 from rfl) (by omega) (InvR_putO V (by decide) trivial) (fun g V ve18 vn19 hq => ?_)
      have hG := hq.trans hG
      have evz1 := (vn19 (356) 7 (Or.inl (by decide))).trans evz1
      have evz9 := (vn19 (356) ((vz8.toInt : Int).toNat) (Or.inl (by decide))).trans evz9
      have ve16 := (vn19 (363) 1 (Or.inr (by omega))).trans ve16
      have vwk := fun vh => WK.oth (fun q' k' vh' => vn19 q' k' (Or.inl vh')) (vwk vh)
      have ve18 : Gi g 363 2 = x1 := ve18
      refine X_aload_n rfl rfl rfl rfl ?_
      refine X_getR (a := 363) rfl rfl rfl ((congrFun V.1 355).trans s_355) rfl ((congrFun (V.2.1 355 (by decide)) 26).trans r_355_26) ?_
      refine X_iconst (v := (3 : Int32)) rfl rfl rfl ?_
      refine X_aload_n rfl rfl rfl rfl ?_
      refine X_getR (a := 356) rfl rfl rfl ((congrFun V.1 355).trans s_355) rfl ((congrFun (V.2.1 355 (by decide)) 0).trans r_355_0) ?_
      refine X_bipush (v := (12 : Int32)) rfl rfl rfl ?_
      refine X_iload_n rfl rfl rfl rfl ?_
      refine S_iadd rfl rfl (show (12 : Int32).toInt = 12 from rfl) hx1 (by omega) (fun vz20 hvz20 => ?_)
      refine S_iald rfl rfl ((congrFun V.1 356).trans s_356) rfl (by omega) (fun vz21 evz21 => ?_)
      refine S_iast (I := InvR _) rfl rfl ((congrFun V.1 363).trans s_363) (show (3 : Int32).toInt = 3 from rfl) (by omega) (InvR_putO V (by decide) trivial) (fun g V ve22 vn23 hq => ?_)
      have hG := hq.trans hG
      have evz1 := (vn23 (356) 7 (Or.inl (by decide))).trans evz1
      have evz9 := (vn23 (356) ((vz8.toInt : Int).toNat) (Or.inl (by decide))).trans evz9
      have ve16 := (vn23 (363) 1 (Or.inr (by omega))).trans ve16
      have ve18 := (vn23 (363) 2 (Or.inr (by omega))).trans ve18
      have evz21 := (vn23 (356) ((vz20.toInt : Int).toNat) (Or.inl (by decide))).trans evz21
      have vwk := fun vh => WK.oth (fun q' k' vh' => vn23 q' k' (Or.inl vh')) (vwk vh)
      have ve22 : Gi g 363 3 = vz21 := ve22
      refine X_aload_n rfl rfl rfl rfl ?_
      refine X_getR (a := 363) rfl rfl rfl ((congrFun V.1 355).trans s_355) rfl ((congrFun (V.2.1 355 (by decide)) 26).trans r_355_26) ?_
      refine X_iconst (v := (4 : Int32)) rfl rfl rfl ?_
      refine X_aload_n rfl rfl rfl rfl ?_
      refine X_getR (a := 356) rfl rfl rfl ((congrFun V.1 355).trans s_355) rfl ((congrFun (V.2.1 355 (by decide)) 0).trans r_355_0) ?_
      refine X_bipush (v := (38 : Int32)) rfl rfl rfl ?_
      refine X_iload_n rfl rfl rfl rfl ?_
      refine S_iadd rfl rfl (show (38 : Int32).toInt = 38 from rfl) hx1 (by omega) (fun vz24 hvz24 => ?_)
      refine S_iald rfl rfl ((congrFun V.1 356).trans s_356) rfl (by omega) (fun vz25 evz25 => ?_)
      refine S_iast (I := InvR _) rfl rfl ((congrFun V.1 363).trans s_363) (show (4 : Int32).toInt = 4 from rfl) (by omega) (InvR_putO V (by decide) trivial) (fun g V ve26 vn27 hq => ?_)
      have hG := hq.trans hG
      have evz1 := (vn27 (356) 7 (Or.inl (by decide))).trans evz1
      have evz9 := (vn27 (356) ((vz8.toInt : Int).toNat) (Or.inl (by decide))).trans evz9
      have ve16 := (vn27 (363) 1 (Or.inr (by omega))).trans ve16
      have ve18 := (vn27 (363) 2 (Or.inr (by omega))).trans ve18
      have evz21 := (vn27 (356) ((vz20.toInt : Int).toNat) (Or.inl (by decide))).trans evz21
      have ve22 := (vn27 (363) 3 (Or.inr (by omega))).trans ve22
      have evz25 := (vn27 (356) ((vz24.toInt : Int).toNat) (Or.inl (by decide))).trans evz25
      have vwk := fun vh => WK.oth (fun q' k' vh' => vn27 q' k' (Or.inl vh')) (vwk vh)
      have ve26 : Gi g 363 4 = vz25 := ve26
      refine X_aload_n rfl rfl rfl rfl ?_
      refine X_getR (a := 363) rfl rfl rfl ((congrFun V.1 355).trans s_355) rfl ((congrFun (V.2.1 355 (by decide)) 26).trans r_355_26) ?_
      refine X_iconst (v := (5 : Int32)) rfl rfl rfl ?_
      refine X_iload_n rfl rfl rfl rfl ?_
      refine Y_callS (as := [.int x1]) (st := [.int (5 : Int32), .ref 363]) rfl rfl rfl (by decide) rfl (Nat.le_of_ble_eq_true rfl) (by decide) (Nat.le_of_ble_eq_true rfl) rfl (C_X13_isVowel V x1 y1 hx1 (by omega) ) ?_
      rintro _ g' ⟨vr28, rfl, hrvr280, hrvr281, hgg⟩
      subst hgg
      refine S_if_eq (tgt := 165) rfl rfl rfl rfl (fun vh29 => ?_) (fun vh29 => ?_)
      · refine X_iconst (v := (0 : Int32)) rfl rfl rfl ?_
        refine S_iast (I := InvR _) rfl rfl ((congrFun V.1 363).trans s_363) (show (5 : Int32).toInt = 5 from rfl) (by omega) (InvR_putO V (by decide) trivial) (fun g V ve30 vn31 hq => ?_)
        have hG := hq.trans hG
        have evz1 := (vn31 (356) 7 (Or.inl (by decide))).trans evz1
        have evz9 := (vn31 (356) ((vz8.toInt : Int).toNat) (Or.inl (by decide))).trans evz9
        have ve16 := (vn31 (363) 1 (Or.inr (by omega))).trans ve16
        have ve18 := (vn31 (363) 2 (Or.inr (by omega))).trans ve18
        have evz21 := (vn31 (356) ((vz20.toInt : Int).toNat) (Or.inl (by decide))).trans evz21
        have ve22 := (vn31 (363) 3 (Or.inr (by omega))).trans ve22
        have evz25 := (vn31 (356) ((vz24.toInt : Int).toNat) (Or.inl (by decide))).trans evz25
        have ve26 := (vn31 (363) 4 (Or.inr (by omega))).trans ve26
        have vwk := fun vh => WK.oth (fun q' k' vh' => vn31 q' k' (Or.inl vh')) (vwk vh)
        have ve30 : Gi g 363 5 = (0 : Int32) := ve30
        refine X_aload_n rfl rfl rfl rfl ?_
        refine X_getR (a := 363) rfl rfl rfl ((congrFun V.1 355).trans s_355) rfl ((congrFun (V.2.1 355 (by decide)) 26).trans r_355_26) ?_
        refine X_bipush (v := (6 : Int32)) rfl rfl rfl ?_
        refine X_iload rfl rfl rfl ?_
        refine S_iast (I := InvR _) rfl rfl ((congrFun V.1 363).trans s_363) (show (6 : Int32).toInt = 6 from rfl) (by omega) (InvR_putO V (by decide) trivial) (fun g V ve32 vn33 hq => ?_)
        have hG := hq.trans hG
        have evz1 := (vn33 (356) 7 (Or.inl (by decide))).trans evz1
        have evz9 := (vn33 (356) ((vz8.toInt : Int).toNat) (Or.inl (by decide))).trans evz9
        have ve16 := (vn33 (363) 1 (Or.inr (by omega))).trans ve16
        have ve18 := (vn33 (363) 2 (Or.inr (by omega))).trans ve18
        have evz21 := (vn33 (356) ((vz20.toInt : Int).toNat) (Or.inl (by decide))).trans evz21
        have ve22 := (vn33 (363) 3 (Or.inr (by omega))).trans ve22
        have evz25 := (vn33 (356) ((vz24.toInt : Int).toNat) (Or.inl (by decide))).trans evz25
        have ve26 := (vn33 (363) 4 (Or.inr (by omega))).trans ve26
        have ve30 := (vn33 (363) 5 (Or.inr (by omega))).trans ve30
        have vwk := fun vh => WK.oth (fun q' k' vh' => vn33 q' k' (Or.inl vh')) (vwk vh)
        have ve32 : Gi g 363 6 = vr12 := ve32
        refine X_aload_n rfl rfl rfl rfl ?_
        refine X_getR (a := 363) rfl rfl rfl ((congrFun V.1 355).trans s_355) rfl ((congrFun (V.2.1 355 (by decide)) 26).trans r_355_26) ?_
        refine X_bipush (v := (7 : Int32)) rfl rfl rfl ?_
        refine X_aload_n rfl rfl rfl rfl ?_
        refine X_iload_n rfl rfl rfl rfl ?_
        refine Y_callV (as := [.int x1]) (st := [.int (7 : Int32), .ref 363]) rfl rfl rfl (by decide) rfl (Nat.le_of_ble_eq_true rfl) (by decide) (Nat.le_of_ble_eq_true rfl) rfl ((congrFun V.1 355).trans s_355) (by decide) (C_X13_usesOf V x1 y1 hx1 (by omega) ) ?_
        rintro _ g' ⟨vr34, rfl, hgg⟩
        subst hgg
        refine S_iast (I := InvR _) rfl rfl ((congrFun V.1 363).trans s_363) (show (7 : Int32).toInt = 7 from rfl) (by omega) (InvR_putO V (by decide) trivial) (fun g V ve35 vn36 hq => ?_)
        have hG := hq.trans hG
        have evz1 := (vn36 (356) 7 (Or.inl (by decide))).trans evz1
        have evz9 := (vn36 (356) ((vz8.toInt : Int).toNat) (Or.inl (by decide))).trans evz9
        have ve16 := (vn36 (363) 1 (Or.inr (by omega))).trans ve16
        have ve18 := (vn36 (363) 2 (Or.inr (by omega))).trans ve18
        have evz21 := (vn36 (356) ((vz20.toInt : Int).toNat) (Or.inl (by decide))).trans evz21
        have ve22 := (vn36 (363) 3 (Or.inr (by omega))).trans ve22
        have evz25 := (vn36 (356) ((vz24.toInt : Int).toNat) (Or.inl (by decide))).trans evz25
        have ve26 := (vn36 (363) 4 (Or.inr (by omega))).trans ve26
        have ve30 := (vn36 (363) 5 (Or.inr (by omega))).trans ve30
        have ve32 := (vn36 (363) 6 (Or.inr (by omega))).trans ve32
        have vwk := fun vh => WK.oth (fun q' k' vh' => vn36 q' k' (Or.inl vh')) (vwk vh)
        have ve35 : Gi g 363 7 = vr34 := ve35
        refine X_aload_n rfl rfl rfl rfl ?_
        refine X_iload_n rfl rfl rfl rfl ?_
        refine Y_callV (as := [.int vr6]) (st := []) rfl rfl rfl (by decide) rfl (Nat.le_of_ble_eq_true rfl) (by decide) (Nat.le_of_ble_eq_true rfl) rfl ((congrFun V.1 355).trans s_355) (by decide) (C_X13_work V vr6 vr6.toInt rfl (by omega) (vwk (by omega))) ?_
        rintro _ g ⟨rfl, V, hq, chA⟩
        have hG := hq.trans hG
        have evz1 := (congrFun chA 7).trans evz1
        refine X_aload_n rfl rfl rfl rfl ?_
        refine X_getR (a := 365) rfl rfl rfl ((congrFun V.1 355).trans s_355) rfl ((congrFun (V.2.1 355 (by decide)) 28).trans r_355_28) ?_
        refine X_iconst (v := (0 : Int32)) rfl rfl rfl ?_
        refine S_zald rfl rfl ((congrFun V.1 365).trans s_365) (show (0 : Int32).toInt = 0 from rfl) (by omega) (fun vz38 evz38 => ?_)
        have evz38 : Gi g 365 0 = vz38 := evz38
        have vf39 := O_365 (V.2.2.2.2.2.2.1 365 (0) (Nat.le_of_ble_eq_true rfl))
        rw [evz38] at vf39
        have hr := (rfl : vz38.toInt = vz38.toInt)
        exact LW_ireturn (st := []) rfl rfl (nbool rfl (by omega)) ⟨_, rfl, by omega, by omega, V, hG⟩
      · refine X_iconst (v := (1 : Int32)) rfl rfl rfl ?_
        refine LW_goto (tgt := 166) rfl rfl ?_
        refine S_iast (I := InvR _) rfl rfl ((congrFun V.1 363).trans s_363) (show (5 : Int32).toInt = 5 from rfl) (by omega) (InvR_putO V (by decide) trivial) (fun g V ve40 vn41 hq => ?_)
        have hG := hq.trans hG
        have evz1 := (vn41 (356) 7 (Or.inl (by decide))).trans evz1
        have evz9 := (vn41 (356) ((vz8.toInt : Int).toNat) (Or.inl (by decide))).trans evz9
        have ve16 := (vn41 (363) 1 (Or.inr (by omega))).trans ve16
        have ve18 := (vn41 (363) 2 (Or.inr (by omega))).trans ve18
        have evz21 := (vn41 (356) ((vz20.toInt : Int).toNat) (Or.inl (by decide))).trans evz21
        have ve22 := (vn41 (363) 3 (Or.inr (by omega))).trans ve22
        have evz25 := (vn41 (356) ((vz24.toInt : Int).toNat) (Or.inl (by decide))).trans evz25
        have ve26 := (vn41 (363) 4 (Or.inr (by omega))).trans ve26
        have vwk := fun vh => WK.oth (fun q' k' vh' => vn41 q' k' (Or.inl vh')) (vwk vh)
        have ve40 : Gi g 363 5 = (1 : Int32) := ve40
        refine X_aload_n rfl rfl rfl rfl ?_
        refine X_getR (a := 363) rfl rfl rfl ((congrFun V.1 355).trans s_355) rfl ((congrFun (V.2.1 355 (by decide)) 26).trans r_355_26) ?_
        refine X_bipush (v := (6 : Int32)) rfl rfl rfl ?_
        refine X_iload rfl rfl rfl ?_
        refine S_iast (I := InvR _) rfl rfl ((congrFun V.1 363).trans s_363) (show (6 : Int32).toInt = 6 from rfl) (by omega) (InvR_putO V (by decide) trivial) (fun g V ve42 vn43 hq => ?_)
        have hG := hq.trans hG
        have evz1 := (vn43 (356) 7 (Or.inl (by decide))).trans evz1
        have evz9 := (vn43 (356) ((vz8.toInt : Int).toNat) (Or.inl (by decide))).trans evz9
        have ve16 := (vn43 (363) 1 (Or.inr (by omega))).trans ve16
        have ve18 := (vn43 (363) 2 (Or.inr (by omega))).trans ve18
        have evz21 := (vn43 (356) ((vz20.toInt : Int).toNat) (Or.inl (by decide))).trans evz21
        have ve22 := (vn43 (363) 3 (Or.inr (by omega))).trans ve22
        have evz25 := (vn43 (356) ((vz24.toInt : Int).toNat) (Or.inl (by decide))).trans evz25
        have ve26 := (vn43 (363) 4 (Or.inr (by omega))).trans ve26
        have ve40 := (vn43 (363) 5 (Or.inr (by omega))).trans ve40
        have vwk := fun vh => WK.oth (fun q' k' vh' => vn43 q' k' (Or.inl vh')) (vwk vh)
        have ve42 : Gi g 363 6 = vr12 := ve42
        refine X_aload_n rfl rfl rfl rfl ?_
        refine X_getR (a := 363) rfl rfl rfl ((congrFun V.1 355).trans s_355) rfl ((congrFun (V.2.1 355 (by decide)) 26).trans r_355_26) ?_
        refine X_bipush (v := (7 : Int32)) rfl rfl rfl ?_
        refine X_aload_n rfl rfl rfl rfl ?_
        refine X_iload_n rfl rfl rfl rfl ?_
        refine Y_callV (as := [.int x1]) (st := [.int (7 : Int32), .ref 363]) rfl rfl rfl (by decide) rfl (Nat.le_of_ble_eq_true rfl) (by decide) (Nat.le_of_ble_eq_true rfl) rfl ((congrFun V.1 355).trans s_355) (by decide) (C_X13_usesOf V x1 y1 hx1 (by omega) ) ?_
        rintro _ g' ⟨vr44, rfl, hgg⟩
        subst hgg
        refine S_iast (I := InvR _) rfl rfl ((congrFun V.1 363).trans s_363) (show (7 : Int32).toInt = 7 from rfl) (by omega) (InvR_putO V (by decide) trivial) (fun g V ve45 vn46 hq => ?_)
        have hG := hq.trans hG
        have evz1 := (vn46 (356) 7 (Or.inl (by decide))).trans evz1
        have evz9 := (vn46 (356) ((vz8.toInt : Int).toNat) (Or.inl (by decide))).trans evz9
        have ve16 := (vn46 (363) 1 (Or.inr (by omega))).trans ve16
        have ve18 := (vn46 (363) 2 (Or.inr (by omega))).trans ve18
        have evz21 := (vn46 (356) ((vz20.toInt : Int).toNat) (Or.inl (by decide))).trans evz21
        have ve22 := (vn46 (363) 3 (Or.inr (by omega))).trans ve22
        have evz25 := (vn46 (356) ((vz24.toInt : Int).toNat) (Or.inl (by decide))).trans evz25
        have ve26 := (vn46 (363) 4 (Or.inr (by omega))).trans ve26
        have ve40 := (vn46 (363) 5 (Or.inr (by omega))).trans ve40
        have ve42 := (vn46 (363) 6 (Or.inr (by omega))).trans ve42
        have vwk := fun vh => WK.oth (fun q' k' vh' => vn46 q' k' (Or.inl vh')) (vwk vh)
        have ve45 : Gi g 363 7 = vr44 := ve45
        refine X_aload_n rfl rfl rfl rfl ?_
        refine X_iload_n rfl rfl rfl rfl ?_
        refine Y_callV (as := [.int vr6]) (st := []) rfl rfl rfl (by decide) rfl (Nat.le_of_ble_eq_true rfl) (by decide) (Nat.le_of_ble_eq_true rfl) rfl ((congrFun V.1 355).trans s_355) (by decide) (C_X13_work V vr6 vr6.toInt rfl (by omega) (vwk (by omega))) ?_
        rintro _ g ⟨rfl, V, hq, chA⟩
        have hG := hq.trans hG
        have evz1 := (congrFun chA 7).trans evz1
        refine X_aload_n rfl rfl rfl rfl ?_
        refine X_getR (a := 365) rfl rfl rfl ((congrFun V.1 355).trans s_355) rfl ((congrFun (V.2.1 355 (by decide)) 28).trans r_355_28) ?_
        refine X_iconst (v := (0 : Int32)) rfl rfl rfl ?_
        refine S_zald rfl rfl ((congrFun V.1 365).trans s_365) (show (0 : Int32).toInt = 0 from rfl) (by omega) (fun vz48 evz48 => ?_)
        have evz48 : Gi g 365 0 = vz48 := evz48
        have vf49 := O_365 (V.2.2.2.2.2.2.1 365 (0) (Nat.le_of_ble_eq_true rfl))
        rw [evz48] at vf49
        have hr := (rfl : vz48.toInt = vz48.toInt)
        exact LW_ireturn (st := []) rfl rfl (nbool rfl (by omega)) ⟨_, rfl, by omega, by omega, V, hG⟩
    · refine X_iload_n rfl rfl rfl rfl ?_
      refine X_iconst (v := (1 : Int32)) rfl rfl rfl ?_
      refine S_icmp_ne (tgt := 73) rfl rfl rfl (show (0 : Int32).toInt = 0 from rfl) (show (1 : Int32).toInt = 1 from rfl) (fun vh50 => ?_) (fun q => absurd q (by omega))
      refine X_iload rfl rfl rfl ?_
      refine S_if_le (tgt := 94) rfl rfl rfl rfl (fun vh51 => ?_) (fun vh51 => ?_)
      · refine X_iconst (v := (0 : Int32)) rfl rfl rfl ?_
        exact LW_ireturn (st := []) rfl rfl rfl ⟨_, rfl, by decide, by decide, V, hG⟩
      · refine X_aload_n rfl rfl rfl rfl ?_
        refine X_getR (a := 356) rfl rfl rfl ((congrFun V.1 355).trans s_355) rfl ((congrFun (V.2.1 355 (by decide)) 0).trans r_355_0) ?_
        refine X_bipush (v := (38 : Int32)) rfl rfl rfl ?_
        refine X_iload_n rfl rfl rfl rfl ?_
        refine S_iadd rfl rfl (show (38 : Int32).toInt = 38 from rfl) hx1 (by omega) (fun vz52 hvz52 => ?_)
        refine S_iald rfl rfl ((congrFun V.1 356).trans s_356) rfl (by omega) (fun vz53 evz53 => ?_)
        refine S_if_le (tgt := 94) rfl rfl rfl rfl (fun vh54 => ?_) (fun vh54 => ?_)
        · refine X_iconst (v := (0 : Int32)) rfl rfl rfl ?_
          exact LW_ireturn (st := []) rfl rfl rfl ⟨_, rfl, by decide, by decide, V, hG⟩
        · refine X_iconst (v := (1 : Int32)) rfl rfl rfl ?_
          refine LW_goto (tgt := 95) rfl rfl ?_
          exact LW_ireturn (st := []) rfl rfl rfl ⟨_, rfl, by decide, by decide, V, hG⟩
  · refine X_iconst (v := (1 : Int32)) rfl rfl rfl ?_
    refine LW_goto (tgt := 14) rfl rfl ?_
    refine LW_ireturn (st := []) rfl rfl rfl ?_
    refine LW_ireturn (st := []) rfl rfl rfl ?_
    refine S_if_eq (tgt := 12) rfl rfl rfl (show (1 : Int32).toInt = 1 from rfl) (fun q => absurd q (by omega)) (fun vh55 => ?_)
    refine X_iconst (v := (1 : Int32)) rfl rfl rfl ?_
    refine LW_goto (tgt := 13) rfl rfl ?_
    refine X_istore_n (i := 2) (ls' := [some (.ref 355), some (.int x1), some (.int (1 : Int32)), none, none]) rfl rfl rfl (Nat.le_of_ble_eq_true rfl) rfl ?_
    refine X_aload_n rfl rfl rfl rfl ?_
    refine X_iload_n rfl rfl rfl rfl ?_
    refine Y_callV (as := [.int (1 : Int32)]) (st := []) rfl rfl rfl (by decide) rfl (Nat.le_of_ble_eq_true rfl) (by decide) (Nat.le_of_ble_eq_true rfl) rfl ((congrFun V.1 355).trans s_355) (by decide) (C_X13_clauseOf V (1 : Int32) 1 (show (1 : Int32).toInt = 1 from rfl) ) ?_
    rintro _ g' ⟨vr56, rfl, hrvr560, hrvr561, hgg, vq57⟩
    subst hgg
    have vwk : 0 ≤ vr56.toInt → WK g vr56.toInt := fun vh => ⟨_, by omega, by omega, vq57 vh⟩
    refine X_istore_n (i := 3) (ls' := [some (.ref 355), some (.int x1), some (.int (1 : Int32)), some (.int vr56), none]) rfl rfl rfl (Nat.le_of_ble_eq_true rfl) rfl ?_
    refine X_aload_n rfl rfl rfl rfl ?_
    refine X_getR (a := 356) rfl rfl rfl ((congrFun V.1 355).trans s_355) rfl ((congrFun (V.2.1 355 (by decide)) 0).trans r_355_0) ?_
    refine X_bipush (v := (90 : Int32)) rfl rfl rfl ?_
    refine X_iload_n rfl rfl rfl rfl ?_
    refine S_iadd rfl rfl (show (90 : Int32).toInt = 90 from rfl) hx1 (by omega) (fun vz58 hvz58 => ?_)
    refine S_iald rfl rfl ((congrFun V.1 356).trans s_356) rfl (by omega) (fun vz59 evz59 => ?_)
    refine X_aload_n rfl rfl rfl rfl ?_
    refine X_getR (a := 356) rfl rfl rfl ((congrFun V.1 355).trans s_355) rfl ((congrFun (V.2.1 355 (by decide)) 0).trans r_355_0) ?_
    refine X_bipush (v := (7 : Int32)) rfl rfl rfl ?_
    refine S_iald_v rfl rfl ((congrFun V.1 356).trans s_356) (show (7 : Int32).toInt = 7 from rfl) (by omega) evz1 ?_
    refine S_iandT rfl rfl (fun vz61 => ?_)
    refine Y_callS (as := [.int vz61]) (st := []) rfl rfl rfl (by decide) rfl (Nat.le_of_ble_eq_true rfl) (by decide) (Nat.le_of_ble_eq_true rfl) rfl (C_X13_bits V vz61 vz61.toInt rfl ) ?_
    rintro _ g' ⟨vr62, rfl, hrvr620, hrvr621, hgg⟩
    subst hgg
    refine X_istore (i := 4) (ls' := [some (.ref 355), some (.int x1), some (.int (1 : Int32)), some (.int vr56), some (.int vr62)]) rfl rfl (Nat.le_of_ble_eq_true rfl) rfl ?_
    refine X_iload_n rfl rfl rfl rfl ?_
    refine S_if_ge (tgt := 96) rfl rfl rfl rfl (fun vh63 => ?_) (fun vh63 => ?_)
    · refine X_aload_n rfl rfl rfl rfl ?_
      refine X_getR (a := 363) rfl rfl rfl ((congrFun V.1 355).trans s_355) rfl ((congrFun (V.2.1 355 (by decide)) 26).trans r_355_26) ?_
      refine X_iconst (v := (1 : Int32)) rfl rfl rfl ?_
      refine X_aload_n rfl rfl rfl rfl ?_
      refine X_getR (a := 356) rfl rfl rfl ((congrFun V.1 355).trans s_355) rfl ((congrFun (V.2.1 355 (by decide)) 0).trans r_355_0) ?_
      refine X_bipush (v := (7 : Int32)) rfl rfl rfl ?_
      refine S_iald_v rfl rfl ((congrFun V.1 356).trans s_356) (show (7 : Int32).toInt = 7 from rfl) (by omega) evz1 ?_
      refine Y_callS (as := [.int vz1]) (st := [.int (1 : Int32), .ref 363]) rfl rfl rfl (by decide) rfl (Nat.le_of_ble_eq_true rfl) (by decide) (Nat.le_of_ble_eq_true rfl) rfl (C_X13_bits V vz1 vz1.toInt rfl ) ?_
      rintro _ g' ⟨vr65, rfl, hrvr650, hrvr651, hgg⟩
      subst hgg
      refine S_iast (I := InvR _) rfl rfl ((congrFun V.1 363).trans s_363) (show (1 : Int32).toInt = 1 from rfl) (by omega) (InvR_putO V (by decide) trivial) (fun g V ve66 vn67 hq => ?_)
      have hG := hq.trans hG
      have evz1 := (vn67 (356) 7 (Or.inl (by decide))).trans evz1
      have evz59 := (vn67 (356) ((vz58.toInt : Int).toNat) (Or.inl (by decide))).trans evz59
      have vwk := fun vh => WK.oth (fun q' k' vh' => vn67 q' k' (Or.inl vh')) (vwk vh)
      have ve66 : Gi g 363 1 = vr65 := ve66
      refine X_aload_n rfl rfl rfl rfl ?_
      refine X_getR (a := 363) rfl rfl rfl ((congrFun V.1 355).trans s_355) rfl ((congrFun (V.2.1 355 (by decide)) 26).trans r_355_26) ?_
      refine X_iconst (v := (2 : Int32)) rfl rfl rfl ?_
      refine X_iload_n rfl rfl rfl rfl ?_
      refine S_iast (I := InvR _) rfl rfl ((congrFun V.1 363).trans s_363) (show (2 : Int32).toInt = 2 from rfl) (by omega) (InvR_putO V (by decide) trivial) (fun g V ve68 vn69 hq => ?_)
      have hG := hq.trans hG
      have evz1 := (vn69 (356) 7 (Or.inl (by decide))).trans evz1
      have evz59 := (vn69 (356) ((vz58.toInt : Int).toNat) (Or.inl (by decide))).trans evz59
      have ve66 := (vn69 (363) 1 (Or.inr (by omega))).trans ve66
      have vwk := fun vh => WK.oth (fun q' k' vh' => vn69 q' k' (Or.inl vh')) (vwk vh)
      have ve68 : Gi g 363 2 = x1 := ve68
      refine X_aload_n rfl rfl rfl rfl ?_
      refine X_getR (a := 363) rfl rfl rfl ((congrFun V.1 355).trans s_355) rfl ((congrFun (V.2.1 355 (by decide)) 26).trans r_355_26) ?_
      refine X_iconst (v := (3 : Int32)) rfl rfl rfl ?_
      refine X_aload_n rfl rfl rfl rfl ?_
      refine X_getR (a := 356) rfl rfl rfl ((congrFun V.1 355).trans s_355) rfl ((congrFun (V.2.1 355 (by decide)) 0).trans r_355_0) ?_
      refine X_bipush (v := (12 : Int32)) rfl rfl rfl ?_
      refine X_iload_n rfl rfl rfl rfl ?_
      refine S_iadd rfl rfl (show (12 : Int32).toInt = 12 from rfl) hx1 (by omega) (fun vz70 hvz70 => ?_)
      refine S_iald rfl rfl ((congrFun V.1 356).trans s_356) rfl (by omega) (fun vz71 evz71 => ?_)
      refine S_iast (I := InvR _) rfl rfl ((congrFun V.1 363).trans s_363) (show (3 : Int32).toInt = 3 from rfl) (by omega) (InvR_putO V (by decide) trivial) (fun g V ve72 vn73 hq => ?_)
      have hG := hq.trans hG
      have evz1 := (vn73 (356) 7 (Or.inl (by decide))).trans evz1
      have evz59 := (vn73 (356) ((vz58.toInt : Int).toNat) (Or.inl (by decide))).trans evz59
      have ve66 := (vn73 (363) 1 (Or.inr (by omega))).trans ve66
      have ve68 := (vn73 (363) 2 (Or.inr (by omega))).trans ve68
      have evz71 := (vn73 (356) ((vz70.toInt : Int).toNat) (Or.inl (by decide))).trans evz71
      have vwk := fun vh => WK.oth (fun q' k' vh' => vn73 q' k' (Or.inl vh')) (vwk vh)
      have ve72 : Gi g 363 3 = vz71 := ve72
      refine X_aload_n rfl rfl rfl rfl ?_
      refine X_getR (a := 363) rfl rfl rfl ((congrFun V.1 355).trans s_355) rfl ((congrFun (V.2.1 355 (by decide)) 26).trans r_355_26) ?_
      refine X_iconst (v := (4 : Int32)) rfl rfl rfl ?_
      refine X_aload_n rfl rfl rfl rfl ?_
      refine X_getR (a := 356) rfl rfl rfl ((congrFun V.1 355).trans s_355) rfl ((congrFun (V.2.1 355 (by decide)) 0).trans r_355_0) ?_
      refine X_bipush (v := (38 : Int32)) rfl rfl rfl ?_
      refine X_iload_n rfl rfl rfl rfl ?_
      refine S_iadd rfl rfl (show (38 : Int32).toInt = 38 from rfl) hx1 (by omega) (fun vz74 hvz74 => ?_)
      refine S_iald rfl rfl ((congrFun V.1 356).trans s_356) rfl (by omega) (fun vz75 evz75 => ?_)
      refine S_iast (I := InvR _) rfl rfl ((congrFun V.1 363).trans s_363) (show (4 : Int32).toInt = 4 from rfl) (by omega) (InvR_putO V (by decide) trivial) (fun g V ve76 vn77 hq => ?_)
      have hG := hq.trans hG
      have evz1 := (vn77 (356) 7 (Or.inl (by decide))).trans evz1
      have evz59 := (vn77 (356) ((vz58.toInt : Int).toNat) (Or.inl (by decide))).trans evz59
      have ve66 := (vn77 (363) 1 (Or.inr (by omega))).trans ve66
      have ve68 := (vn77 (363) 2 (Or.inr (by omega))).trans ve68
      have evz71 := (vn77 (356) ((vz70.toInt : Int).toNat) (Or.inl (by decide))).trans evz71
      have ve72 := (vn77 (363) 3 (Or.inr (by omega))).trans ve72
      have evz75 := (vn77 (356) ((vz74.toInt : Int).toNat) (Or.inl (by decide))).trans evz75
      have vwk := fun vh => WK.oth (fun q' k' vh' => vn77 q' k' (Or.inl vh')) (vwk vh)
      have ve76 : Gi g 363 4 = vz75 := ve76
      refine X_aload_n rfl rfl rfl rfl ?_
      refine X_getR (a := 363) rfl rfl rfl ((congrFun V.1 355).trans s_355) rfl ((congrFun (V.2.1 355 (by decide)) 26).trans r_355_26) ?_
      refine X_iconst (v := (5 : Int32)) rfl rfl rfl ?_
      refine X_iload_n rfl rfl rfl rfl ?_
      refine Y_callS (as := [.int x1]) (st := [.int (5 : Int32), .ref 363]) rfl rfl rfl (by decide) rfl (Nat.le_of_ble_eq_true rfl) (by decide) (Nat.le_of_ble_eq_true rfl) rfl (C_X13_isVowel V x1 y1 hx1 (by omega) ) ?_
      rintro _ g' ⟨vr78, rfl, hrvr780, hrvr781, hgg⟩
      subst hgg
      refine S_if_eq (tgt := 165) rfl rfl rfl rfl (fun vh79 => ?_) (fun vh79 => ?_)
      · refine X_iconst (v := (0 : Int32)) rfl rfl rfl ?_
        refine S_iast (I := InvR _) rfl rfl ((congrFun V.1 363).trans s_363) (show (5 : Int32).toInt = 5 from rfl) (by omega) (InvR_putO V (by decide) trivial) (fun g V ve80 vn81 hq => ?_)
        have hG := hq.trans hG
        have evz1 := (vn81 (356) 7 (Or.inl (by decide))).trans evz1
        have evz59 := (vn81 (356) ((vz58.toInt : Int).toNat) (Or.inl (by decide))).trans evz59
        have ve66 := (vn81 (363) 1 (Or.inr (by omega))).trans ve66
        have ve68 := (vn81 (363) 2 (Or.inr (by omega))).trans ve68
        have evz71 := (vn81 (356) ((vz70.toInt : Int).toNat) (Or.inl (by decide))).trans evz71
        have ve72 := (vn81 (363) 3 (Or.inr (by omega))).trans ve72
        have evz75 := (vn81 (356) ((vz74.toInt : Int).toNat) (Or.inl (by decide))).trans evz75
        have ve76 := (vn81 (363) 4 (Or.inr (by omega))).trans ve76
        have vwk := fun vh => WK.oth (fun q' k' vh' => vn81 q' k' (Or.inl vh')) (vwk vh)
        have ve80 : Gi g 363 5 = (0 : Int32) := ve80
        refine X_aload_n rfl rfl rfl rfl ?_
        refine X_getR (a := 363) rfl rfl rfl ((congrFun V.1 355).trans s_355) rfl ((congrFun (V.2.1 355 (by decide)) 26).trans r_355_26) ?_
        refine X_bipush (v := (6 : Int32)) rfl rfl rfl ?_
        refine X_iload rfl rfl rfl ?_
        refine S_iast (I := InvR _) rfl rfl ((congrFun V.1 363).trans s_363) (show (6 : Int32).toInt = 6 from rfl) (by omega) (InvR_putO V (by decide) trivial) (fun g V ve82 vn83 hq => ?_)
        have hG := hq.trans hG
        have evz1 := (vn83 (356) 7 (Or.inl (by decide))).trans evz1
        have evz59 := (vn83 (356) ((vz58.toInt : Int).toNat) (Or.inl (by decide))).trans evz59
        have ve66 := (vn83 (363) 1 (Or.inr (by omega))).trans ve66
        have ve68 := (vn83 (363) 2 (Or.inr (by omega))).trans ve68
        have evz71 := (vn83 (356) ((vz70.toInt : Int).toNat) (Or.inl (by decide))).trans evz71
        have ve72 := (vn83 (363) 3 (Or.inr (by omega))).trans ve72
        have evz75 := (vn83 (356) ((vz74.toInt : Int).toNat) (Or.inl (by decide))).trans evz75
        have ve76 := (vn83 (363) 4 (Or.inr (by omega))).trans ve76
        have ve80 := (vn83 (363) 5 (Or.inr (by omega))).trans ve80
        have vwk := fun vh => WK.oth (fun q' k' vh' => vn83 q' k' (Or.inl vh')) (vwk vh)
        have ve82 : Gi g 363 6 = vr62 := ve82
        refine X_aload_n rfl rfl rfl rfl ?_
        refine X_getR (a := 363) rfl rfl rfl ((congrFun V.1 355).trans s_355) rfl ((congrFun (V.2.1 355 (by decide)) 26).trans r_355_26) ?_
        refine X_bipush (v := (7 : Int32)) rfl rfl rfl ?_
        refine X_aload_n rfl rfl rfl rfl ?_
        refine X_iload_n rfl rfl rfl rfl ?_
        refine Y_callV (as := [.int x1]) (st := [.int (7 : Int32), .ref 363]) rfl rfl rfl (by decide) rfl (Nat.le_of_ble_eq_true rfl) (by decide) (Nat.le_of_ble_eq_true rfl) rfl ((congrFun V.1 355).trans s_355) (by decide) (C_X13_usesOf V x1 y1 hx1 (by omega) ) ?_
        rintro _ g' ⟨vr84, rfl, hgg⟩
        subst hgg
        refine S_iast (I := InvR _) rfl rfl ((congrFun V.1 363).trans s_363) (show (7 : Int32).toInt = 7 from rfl) (by omega) (InvR_putO V (by decide) trivial) (fun g V ve85 vn86 hq => ?_)
        have hG := hq.trans hG
        have evz1 := (vn86 (356) 7 (Or.inl (by decide))).trans evz1
        have evz59 := (vn86 (356) ((vz58.toInt : Int).toNat) (Or.inl (by decide))).trans evz59
        have ve66 := (vn86 (363) 1 (Or.inr (by omega))).trans ve66
        have ve68 := (vn86 (363) 2 (Or.inr (by omega))).trans ve68
        have evz71 := (vn86 (356) ((vz70.toInt : Int).toNat) (Or.inl (by decide))).trans evz71
        have ve72 := (vn86 (363) 3 (Or.inr (by omega))).trans ve72
        have evz75 := (vn86 (356) ((vz74.toInt : Int).toNat) (Or.inl (by decide))).trans evz75
        have ve76 := (vn86 (363) 4 (Or.inr (by omega))).trans ve76
        have ve80 := (vn86 (363) 5 (Or.inr (by omega))).trans ve80
        have ve82 := (vn86 (363) 6 (Or.inr (by omega))).trans ve82
        have vwk := fun vh => WK.oth (fun q' k' vh' => vn86 q' k' (Or.inl vh')) (vwk vh)
        have ve85 : Gi g 363 7 = vr84 := ve85
        refine X_aload_n rfl rfl rfl rfl ?_
        refine X_iload_n rfl rfl rfl rfl ?_
        refine Y_callV (as := [.int vr56]) (st := []) rfl rfl rfl (by decide) rfl (Nat.le_of_ble_eq_true rfl) (by decide) (Nat.le_of_ble_eq_true rfl) rfl ((congrFun V.1 355).trans s_355) (by decide) (C_X13_work V vr56 vr56.toInt rfl (by omega) (vwk (by omega))) ?_
        rintro _ g ⟨rfl, V, hq, chA⟩
        have hG := hq.trans hG
        have evz1 := (congrFun chA 7).trans evz1
        refine X_aload_n rfl rfl rfl rfl ?_
        refine X_getR (a := 365) rfl rfl rfl ((congrFun V.1 355).trans s_355) rfl ((congrFun (V.2.1 355 (by decide)) 28).trans r_355_28) ?_
        refine X_iconst (v := (0 : Int32)) rfl rfl rfl ?_
        refine S_zald rfl rfl ((congrFun V.1 365).trans s_365) (show (0 : Int32).toInt = 0 from rfl) (by omega) (fun vz88 evz88 => ?_)
        have evz88 : Gi g 365 0 = vz88 := evz88
        have vf89 := O_365 (V.2.2.2.2.2.2.1 365 (0) (Nat.le_of_ble_eq_true rfl))
        rw [evz88] at vf89
        have hr := (rfl : vz88.toInt = vz88.toInt)
        exact LW_ireturn (st := []) rfl rfl (nbool rfl (by omega)) ⟨_, rfl, by omega, by omega, V, hG⟩
      · refine X_iconst (v := (1 : Int32)) rfl rfl rfl ?_
        refine LW_goto (tgt := 166) rfl rfl ?_
        refine S_iast (I := InvR _) rfl rfl ((congrFun V.1 363).trans s_363) (show (5 : Int32).toInt = 5 from rfl) (by omega) (InvR_putO V (by decide) trivial) (fun g V ve90 vn91 hq => ?_)
        have hG := hq.trans hG
        have evz1 := (vn91 (356) 7 (Or.inl (by decide))).trans evz1
        have evz59 := (vn91 (356) ((vz58.toInt : Int).toNat) (Or.inl (by decide))).trans evz59
        have ve66 := (vn91 (363) 1 (Or.inr (by omega))).trans ve66
        have ve68 := (vn91 (363) 2 (Or.inr (by omega))).trans ve68
        have evz71 := (vn91 (356) ((vz70.toInt : Int).toNat) (Or.inl (by decide))).trans evz71
        have ve72 := (vn91 (363) 3 (Or.inr (by omega))).trans ve72
        have evz75 := (vn91 (356) ((vz74.toInt : Int).toNat) (Or.inl (by decide))).trans evz75
        have ve76 := (vn91 (363) 4 (Or.inr (by omega))).trans ve76
        have vwk := fun vh => WK.oth (fun q' k' vh' => vn91 q' k' (Or.inl vh')) (vwk vh)
        have ve90 : Gi g 363 5 = (1 : Int32) := ve90
        refine X_aload_n rfl rfl rfl rfl ?_
        refine X_getR (a := 363) rfl rfl rfl ((congrFun V.1 355).trans s_355) rfl ((congrFun (V.2.1 355 (by decide)) 26).trans r_355_26) ?_
        refine X_bipush (v := (6 : Int32)) rfl rfl rfl ?_
        refine X_iload rfl rfl rfl ?_
        refine S_iast (I := InvR _) rfl rfl ((congrFun V.1 363).trans s_363) (show (6 : Int32).toInt = 6 from rfl) (by omega) (InvR_putO V (by decide) trivial) (fun g V ve92 vn93 hq => ?_)
        have hG := hq.trans hG
        have evz1 := (vn93 (356) 7 (Or.inl (by decide))).trans evz1
        have evz59 := (vn93 (356) ((vz58.toInt : Int).toNat) (Or.inl (by decide))).trans evz59
        have ve66 := (vn93 (363) 1 (Or.inr (by omega))).trans ve66
        have ve68 := (vn93 (363) 2 (Or.inr (by omega))).trans ve68
        have evz71 := (vn93 (356) ((vz70.toInt : Int).toNat) (Or.inl (by decide))).trans evz71
        have ve72 := (vn93 (363) 3 (Or.inr (by omega))).trans ve72
        have evz75 := (vn93 (356) ((vz74.toInt : Int).toNat) (Or.inl (by decide))).trans evz75
        have ve76 := (vn93 (363) 4 (Or.inr (by omega))).trans ve76
        have ve90 := (vn93 (363) 5 (Or.inr (by omega))).trans ve90
        have vwk := fun vh => WK.oth (fun q' k' vh' => vn93 q' k' (Or.inl vh')) (vwk vh)
        have ve92 : Gi g 363 6 = vr62 := ve92
        refine X_aload_n rfl rfl rfl rfl ?_
        refine X_getR (a := 363) rfl rfl rfl ((congrFun V.1 355).trans s_355) rfl ((congrFun (V.2.1 355 (by decide)) 26).trans r_355_26) ?_
        refine X_bipush (v := (7 : Int32)) rfl rfl rfl ?_
        refine X_aload_n rfl rfl rfl rfl ?_
        refine X_iload_n rfl rfl rfl rfl ?_
        refine Y_callV (as := [.int x1]) (st := [.int (7 : Int32), .ref 363]) rfl rfl rfl (by decide) rfl (Nat.le_of_ble_eq_true rfl) (by decide) (Nat.le_of_ble_eq_true rfl) rfl ((congrFun V.1 355).trans s_355) (by decide) (C_X13_usesOf V x1 y1 hx1 (by omega) ) ?_
        rintro _ g' ⟨vr94, rfl, hgg⟩
        subst hgg
        refine S_iast (I := InvR _) rfl rfl ((congrFun V.1 363).trans s_363) (show (7 : Int32).toInt = 7 from rfl) (by omega) (InvR_putO V (by decide) trivial) (fun g V ve95 vn96 hq => ?_)
        have hG := hq.trans hG
        have evz1 := (vn96 (356) 7 (Or.inl (by decide))).trans evz1
        have evz59 := (vn96 (356) ((vz58.toInt : Int).toNat) (Or.inl (by decide))).trans evz59
        have ve66 := (vn96 (363) 1 (Or.inr (by omega))).trans ve66
        have ve68 := (vn96 (363) 2 (Or.inr (by omega))).trans ve68
        have evz71 := (vn96 (356) ((vz70.toInt : Int).toNat) (Or.inl (by decide))).trans evz71
        have ve72 := (vn96 (363) 3 (Or.inr (by omega))).trans ve72
        have evz75 := (vn96 (356) ((vz74.toInt : Int).toNat) (Or.inl (by decide))).trans evz75
        have ve76 := (vn96 (363) 4 (Or.inr (by omega))).trans ve76
        have ve90 := (vn96 (363) 5 (Or.inr (by omega))).trans ve90
        have ve92 := (vn96 (363) 6 (Or.inr (by omega))).trans ve92
        have vwk := fun vh => WK.oth (fun q' k' vh' => vn96 q' k' (Or.inl vh')) (vwk vh)
        have ve95 : Gi g 363 7 = vr94 := ve95
        refine X_aload_n rfl rfl rfl rfl ?_
        refine X_iload_n rfl rfl rfl rfl ?_
        refine Y_callV (as := [.int vr56]) (st := []) rfl rfl rfl (by decide) rfl (Nat.le_of_ble_eq_true rfl) (by decide) (Nat.le_of_ble_eq_true rfl) rfl ((congrFun V.1 355).trans s_355) (by decide) (C_X13_work V vr56 vr56.toInt rfl (by omega) (vwk (by omega))) ?_
        rintro _ g ⟨rfl, V, hq, chA⟩
        have hG := hq.trans hG
        have evz1 := (congrFun chA 7).trans evz1
        refine X_aload_n rfl rfl rfl rfl ?_
        refine X_getR (a := 365) rfl rfl rfl ((congrFun V.1 355).trans s_355) rfl ((congrFun (V.2.1 355 (by decide)) 28).trans r_355_28) ?_
        refine X_iconst (v := (0 : Int32)) rfl rfl rfl ?_
        refine S_zald rfl rfl ((congrFun V.1 365).trans s_365) (show (0 : Int32).toInt = 0 from rfl) (by omega) (fun vz98 evz98 => ?_)
        have evz98 : Gi g 365 0 = vz98 := evz98
        have vf99 := O_365 (V.2.2.2.2.2.2.1 365 (0) (Nat.le_of_ble_eq_true rfl))
        rw [evz98] at vf99
        have hr := (rfl : vz98.toInt = vz98.toInt)
        exact LW_ireturn (st := []) rfl rfl (nbool rfl (by omega)) ⟨_, rfl, by omega, by omega, V, hG⟩
    · refine X_iload_n rfl rfl rfl rfl ?_
      refine X_iconst (v := (1 : Int32)) rfl rfl rfl ?_
      refine S_icmp_ne (tgt := 73) rfl rfl rfl (show (1 : Int32).toInt = 1 from rfl) (show (1 : Int32).toInt = 1 from rfl) (fun q => absurd q (by omega)) (fun vh100 => ?_)
      refine X_aload_n rfl rfl rfl rfl ?_
      refine X_getR (a := 356) rfl rfl rfl ((congrFun V.1 355).trans s_355) rfl ((congrFun (V.2.1 355 (by decide)) 0).trans r_355_0) ?_
      refine X_bipush (v := (12 : Int32)) rfl rfl rfl ?_
      refine X_iload_n rfl rfl rfl rfl ?_
      refine S_iadd rfl rfl (show (12 : Int32).toInt = 12 from rfl) hx1 (by omega) (fun vz101 hvz101 => ?_)
      refine S_iald rfl rfl ((congrFun V.1 356).trans s_356) rfl (by omega) (fun vz102 evz102 => ?_)
      refine X_bipush (v := (9 : Int32)) rfl rfl rfl ?_
      refine S_icmp_le (tgt := 69) rfl rfl rfl rfl (show (9 : Int32).toInt = 9 from rfl) (fun vh103 => ?_) (fun vh103 => ?_)
      · refine X_iconst (v := (0 : Int32)) rfl rfl rfl ?_
        refine LW_goto (tgt := 95) rfl rfl ?_
        exact LW_ireturn (st := []) rfl rfl rfl ⟨_, rfl, by decide, by decide, V, hG⟩
      · refine X_iconst (v := (1 : Int32)) rfl rfl rfl ?_
        refine LW_goto (tgt := 95) rfl rfl ?_
        exact LW_ireturn (st := []) rfl rfl rfl ⟨_, rfl, by decide, by decide, V, hG⟩
set_option maxRecDepth 10000 in
set_option maxHeartbeats 40000000 in
theorem C_X13_dawn_4 {P : Par} {g g0 : LH} {d n : Nat}  (V : InvR P g) (hG : Gr g = Gr g0) (x1 : Int32) (y1 : Int) (hx1 : x1.toInt = y1) (x2 : Int32) (y2 : Int) (hx2 : x2.toInt = y2) (hf2 : 0 ≤ y2 ∧ y2 ≤ 26)  (hmu : (26 - y2) * 1 + 28 < (n : Int) + 1) (ih4 : ∀ (g : LH) (V : InvR P g) (hG : Gr g = Gr g0) (x1 : Int32) (y1 : Int) (hx1 : x1.toInt = y1) (x2 : Int32) (y2 : Int) (hx2 : x2.toInt = y2) (hf2 : 0 ≤ y2 ∧ y2 ≤ 26) , (26 - y2) * 1 + 28 < (n : Int) → LW 247 (d + 25) 0 0 4 [some (.ref 355), some (.int x1), some (.int x2)] [] g (fun v g' => v = none ∧ InvR P g' ∧ Gr g' = Gr g0)) (ih36 : ∀ (g : LH) (V : InvR P g) (hG : Gr g = Gr g0) (x1 : Int32) (y1 : Int) (hx1 : x1.toInt = y1) (x2 : Int32) (y2 : Int) (hx2 : x2.toInt = y2) (hf2 : 0 ≤ y2 ∧ y2 ≤ 26) , (26 - y2) * 1 + 0 < (n : Int) → LW 247 (d + 25) 0 0 36 [some (.ref 355), some (.int x1), some (.int x2)] [] g (fun v g' => v = none ∧ InvR P g' ∧ Gr g' = Gr g0)) : LW 247 (d + 25) 0 0 4 [some (.ref 355), some (.int x1), some (.int x2)] [] g (fun v g' => v = none ∧ InvR P g' ∧ Gr g' = Gr g0) := by
  refine X_iload_n rfl rfl rfl rfl ?_
  refine X_bipush (v := (26 : Int32)) rfl rfl rfl ?_
  refine S_icmp_ge (tgt := 34) rfl rfl rfl hx2 (show (26 : Int32).toInt = 26 from rfl) (fun vh1 => ?_) (fun vh1 => ?_)
  · refine X_iconst (v := (0 : Int32)) rfl rfl rfl ?_
    refine X_istore_n (i := 2) (ls' := [some (.ref 355), some (.int x1), some (.int (0 : Int32))]) rfl rfl rfl (Nat.le_of_ble_eq_true rfl) rfl ?_
    exact ih36 _ V hG x1 y1 hx1 (0 : Int32) 0 (show (0 : Int32).toInt = 0 from rfl) (by omega)    (by omega)
  · refine X_iload_n rfl rfl rfl rfl ?_
    refine X_aload_n rfl rfl rfl rfl ?_
    refine X_iload_n rfl rfl rfl rfl ?_
    refine Y_callV (as := [.int x2]) (st := [.int x1]) rfl rfl rfl (by decide) rfl (Nat.le_of_ble_eq_true rfl) (by decide) (Nat.le_of_ble_eq_true rfl) rfl ((congrFun V.1 355).trans s_355) (by decide) (C_X13_wouldChange V x2 y2 hx2 (by omega) ) ?_
    rintro _ g ⟨vr2, rfl, hrvr20, hrvr21, V, hq⟩
    have hG := hq.trans hG
    refine S_if_eq (tgt := 25) rfl rfl rfl rfl (fun vh3 => ?_) (fun vh3 => ?_)
    · refine X_iconst (v := (0 : Int32)) rfl rfl rfl ?_
      refine S_iorT rfl rfl (fun vz4 => ?_)
      refine X_istore_n (i := 1) (ls' := [some (.ref 355), some (.int vz4), some (.int x2)]) rfl rfl rfl (Nat.le_of_ble_eq_true rfl) rfl ?_
      refine S_iinc (c := 1) rfl rfl rfl hx2 rfl (by omega) (fun vz5 hvz5 => ?_)
      refine LW_ls (ls' := [some (.ref 355), some (.int vz4), some (.int vz5)]) rfl ?_
      refine LW_goto (tgt := 4) rfl rfl ?_
      exact ih4 _ V hG vz4 vz4.toInt rfl vz5 vz5.toInt rfl (by omega)    (by omega)
    · refine X_iconst (v := (1 : Int32)) rfl rfl rfl ?_
      refine X_iload_n rfl rfl rfl rfl ?_
      refine S_ishlT rfl rfl (fun vz6 => ?_)
      refine LW_goto (tgt := 26) rfl rfl ?_
      refine S_iorT rfl rfl (fun vz7 => ?_)
      refine X_istore_n (i := 1) (ls' := [some (.ref 355), some (.int vz7), some (.int x2)]) rfl rfl rfl (Nat.le_of_ble_eq_true rfl) rfl ?_
      refine S_iinc (c := 1) rfl rfl rfl hx2 rfl (by omega) (fun vz8 hvz8 => ?_)
      refine LW_ls (ls' := [some (.ref 355), some (.int vz7), some (.int vz8)]) rfl ?_
      refine LW_goto (tgt := 4) rfl rfl ?_
      exact ih4 _ V hG vz7 vz7.toInt rfl vz8 vz8.toInt rfl (by omega)    (by omega)
set_option maxRecDepth 10000 in
set_option maxHeartbeats 40000000 in
theorem C_X13_dawn_36 {P : Par} {g g0 : LH} {d n : Nat}  (V : InvR P g) (hG : Gr g = Gr g0) (x1 : Int32) (y1 : Int) (hx1 : x1.toInt = y1) (x2 : Int32) (y2 : Int) (hx2 : x2.toInt = y2) (hf2 : 0 ≤ y2 ∧ y2 ≤ 26)  (hmu : (26 - y2) * 1 + 0 < (n : Int) + 1) (ih4 : ∀ (g : LH) (V : InvR P g) (hG : Gr g = Gr g0) (x1 : Int32) (y1 : Int) (hx1 : x1.toInt = y1) (x2 : Int32) (y2 : Int) (hx2 : x2.toInt = y2) (hf2 : 0 ≤ y2 ∧ y2 ≤ 26) , (26 - y2) * 1 + 28 < (n : Int) → LW 247 (d + 25) 0 0 4 [some (.ref 355), some (.int x1), some (.int x2)] [] g (fun v g' => v = none ∧ InvR P g' ∧ Gr g' = Gr g0)) (ih36 : ∀ (g : LH) (V : InvR P g) (hG : Gr g = Gr g0) (x1 : Int32) (y1 : Int) (hx1 : x1.toInt = y1) (x2 : Int32) (y2 : Int) (hx2 : x2.toInt = y2) (hf2 : 0 ≤ y2 ∧ y2 ≤ 26) , (26 - y2) * 1 + 0 < (n : Int) → LW 247 (d + 25) 0 0 36 [some (.ref 355), some (.int x1), some (.int x2)] [] g (fun v g' => v = none ∧ InvR P g' ∧ Gr g' = Gr g0)) : LW 247 (d + 25) 0 0 36 [some (.ref 355), some (.int x1), some (.int x2)] [] g (fun v g' => v = none ∧ InvR P g' ∧ Gr g' = Gr g0) := by
  refine X_iload_n rfl rfl rfl rfl ?_
  refine X_bipush (v := (26 : Int32)) rfl rfl rfl ?_
  refine S_icmp_ge (tgt := 101) rfl rfl rfl hx2 (show (26 : Int32).toInt = 26 from rfl) (fun vh1 => ?_) (fun vh1 => ?_)
  · refine X_aload_n rfl rfl rfl rfl ?_
    refine X_getR (a := 356) rfl rfl rfl ((congrFun V.1 355).trans s_355) rfl ((congrFun (V.2.1 355 (by decide)) 0).trans r_355_0) ?_
    refine X_bipush (v := (7 : Int32)) rfl rfl rfl ?_
    refine X_dup2 rfl rfl rfl rfl ?_
    refine S_iald rfl rfl ((congrFun V.1 356).trans s_356) (show (7 : Int32).toInt = 7 from rfl) (by omega) (fun vz2 evz2 => ?_)
    have evz2 : Gi g 356 7 = vz2 := evz2
    refine X_iload_n rfl rfl rfl rfl ?_
    refine S_ixorT rfl rfl (fun vz3 => ?_)
    refine S_iast (I := InvR _) rfl rfl ((congrFun V.1 356).trans s_356) (show (7 : Int32).toInt = 7 from rfl) (by omega) (InvR_putA V (by omega) (B_FREE (by omega))) (fun g V ve4 vn5 hq => ?_)
    have hG := hq.trans hG
    have ve4 : Gi g 356 7 = vz3 := ve4
    refine X_aload_n rfl rfl rfl rfl ?_
    refine X_getR (a := 356) rfl rfl rfl ((congrFun V.1 355).trans s_355) rfl ((congrFun (V.2.1 355 (by decide)) 0).trans r_355_0) ?_
    refine X_iconst (v := (2 : Int32)) rfl rfl rfl ?_
    refine X_dup2 rfl rfl rfl rfl ?_
    refine S_iald rfl rfl ((congrFun V.1 356).trans s_356) (show (2 : Int32).toInt = 2 from rfl) (by omega) (fun vz6 evz6 => ?_)
    have evz6 : Gi g 356 2 = vz6 := evz6
    refine X_iconst (v := (1 : Int32)) rfl rfl rfl ?_
    refine S_iaddT rfl rfl (fun vz7 => ?_)
    refine S_iast (I := InvR _) rfl rfl ((congrFun V.1 356).trans s_356) (show (2 : Int32).toInt = 2 from rfl) (by omega) (InvR_putA V (by omega) (B_FREE (by omega))) (fun g V ve8 vn9 hq => ?_)
    have hG := hq.trans hG
    have ve4 := (vn9 (356) 7 (Or.inr (by omega))).trans ve4
    have ve8 : Gi g 356 2 = vz7 := ve8
    exact LW_return (st := []) rfl rfl ⟨rfl, V, hG⟩
  · refine X_aload_n rfl rfl rfl rfl ?_
    refine X_getR (a := 356) rfl rfl rfl ((congrFun V.1 355).trans s_355) rfl ((congrFun (V.2.1 355 (by decide)) 0).trans r_355_0) ?_
    refine X_bipush (v := (38 : Int32)) rfl rfl rfl ?_
    refine X_iload_n rfl rfl rfl rfl ?_
    refine S_iadd rfl rfl (show (38 : Int32).toInt = 38 from rfl) hx2 (by omega) (fun vz10 hvz10 => ?_)
    refine X_iload_n rfl rfl rfl rfl ?_
    refine X_iload_n rfl rfl rfl rfl ?_
    refine X_callS (as := [.int x1, .int x2]) (st := [.int vz10, .ref 356]) rfl rfl rfl (by decide) rfl (Nat.le_of_ble_eq_true rfl) (by decide) (Nat.le_of_ble_eq_true rfl) rfl ?_
    refine LW_ls (ls' := [some (.int x1), some (.int x2)]) rfl ?_
    refine X_iload_n rfl rfl rfl rfl ?_
    refine X_iload_n rfl rfl rfl rfl ?_
    refine S_ishrT rfl rfl (fun vz11 => ?_)
    refine X_iconst (v := (1 : Int32)) rfl rfl rfl ?_
    refine S_iandR (k := 1) rfl rfl rfl (fun vz12 hvz12 => ?_)
    refine X_iconst (v := (1 : Int32)) rfl rfl rfl ?_
    refine S_icmp_ne (tgt := 13) rfl rfl rfl rfl (show (1 : Int32).toInt = 1 from rfl) (fun vh13 => ?_) (fun vh13 => ?_)
    · refine X_iconst (v := (0 : Int32)) rfl rfl rfl ?_
      refine LW_ireturn (st := []) rfl rfl rfl ?_
      refine S_if_eq (tgt := 62) rfl rfl rfl (show (0 : Int32).toInt = 0 from rfl) (fun vh14 => ?_) (fun q => absurd q (by omega))
      refine X_aload_n rfl rfl rfl rfl ?_
      refine X_getR (a := 356) rfl rfl rfl ((congrFun V.1 355).trans s_355) rfl ((congrFun (V.2.1 355 (by decide)) 0).trans r_355_0) ?_
      refine X_bipush (v := (38 : Int32)) rfl rfl rfl ?_
      refine X_iload_n rfl rfl rfl rfl ?_
      refine S_iadd rfl rfl (show (38 : Int32).toInt = 38 from rfl) hx2 (by omega) (fun vz15 hvz15 => ?_)
      refine S_iald rfl rfl ((congrFun V.1 356).trans s_356) rfl (by omega) (fun vz16 evz16 => ?_)
      refine X_sipush (v := (999 : Int32)) rfl rfl rfl ?_
      refine S_icmp_ge (tgt := 91) rfl rfl rfl rfl (show (999 : Int32).toInt = 999 from rfl) (fun vh17 => ?_) (fun vh17 => ?_)
      · refine X_sipush (v := (999 : Int32)) rfl rfl rfl ?_
        refine S_iast (I := InvR _) rfl rfl ((congrFun V.1 356).trans s_356) rfl (by omega) (InvR_putA V (by omega) (B_FREE (by omega))) (fun g V ve18 vn19 hq => ?_)
        have hG := hq.trans hG
        refine S_iinc (c := 1) rfl rfl rfl hx2 rfl (by omega) (fun vz20 hvz20 => ?_)
        refine LW_ls (ls' := [some (.ref 355), some (.int x1), some (.int vz20)]) rfl ?_
        refine LW_goto (tgt := 36) rfl rfl ?_
        exact ih36 _ V hG x1 y1 hx1 vz20 vz20.toInt rfl (by omega)    (by omega)
      · refine X_aload_n rfl rfl rfl rfl ?_
        refine X_getR (a := 356) rfl rfl rfl ((congrFun V.1 355).trans s_355) rfl ((congrFun (V.2.1 355 (by decide)) 0).trans r_355_0) ?_
        refine X_bipush (v := (38 : Int32)) rfl rfl rfl ?_
        refine X_iload_n rfl rfl rfl rfl ?_
        refine S_iadd rfl rfl (show (38 : Int32).toInt = 38 from rfl) hx2 (by omega) (fun vz21 hvz21 => ?_)
        refine S_iald rfl rfl ((congrFun V.1 356).trans s_356) rfl (by omega) (fun vz22 evz22 => ?_)
        refine X_iconst (v := (1 : Int32)) rfl rfl rfl ?_
        refine S_iaddT rfl rfl (fun vz23 => ?_)
        refine LW_goto (tgt := 94) rfl rfl ?_
        refine S_iast (I := InvR _) rfl rfl ((congrFun V.1 356).trans s_356) rfl (by omega) (InvR_putA V (by omega) (B_FREE (by omega))) (fun g V ve24 vn25 hq => ?_)
        have hG := hq.trans hG
        refine S_iinc (c := 1) rfl rfl rfl hx2 rfl (by omega) (fun vz26 hvz26 => ?_)
        refine LW_ls (ls' := [some (.ref 355), some (.int x1), some (.int vz26)]) rfl ?_
        refine LW_goto (tgt := 36) rfl rfl ?_
        exact ih36 _ V hG x1 y1 hx1 vz26 vz26.toInt rfl (by omega)    (by omega)
    · refine X_iconst (v := (1 : Int32)) rfl rfl rfl ?_
      refine LW_goto (tgt := 14) rfl rfl ?_
      refine LW_ireturn (st := []) rfl rfl rfl ?_
      refine S_if_eq (tgt := 62) rfl rfl rfl (show (1 : Int32).toInt = 1 from rfl) (fun q => absurd q (by omega)) (fun vh27 => ?_)
      refine X_iconst (v := (0 : Int32)) rfl rfl rfl ?_
      refine LW_goto (tgt := 94) rfl rfl ?_
      refine S_iast (I := InvR _) rfl rfl ((congrFun V.1 356).trans s_356) rfl (by omega) (InvR_putA V (by omega) (B_FREE (by omega))) (fun g V ve28 vn29 hq => ?_)
      have hG := hq.trans hG
      refine S_iinc (c := 1) rfl rfl rfl hx2 rfl (by omega) (fun vz30 hvz30 => ?_)
      refine LW_ls (ls' := [some (.ref 355), some (.int x1), some (.int vz30)]) rfl ?_
      refine LW_goto (tgt := 36) rfl rfl ?_
      exact ih36 _ V hG x1 y1 hx1 vz30 vz30.toInt rfl (by omega)    (by omega)
theorem C_X13_dawn_all {P : Par} {g0 : LH} {d : Nat}  : ∀ n : Nat, (∀ (g : LH) (V : InvR P g) (hG : Gr g = Gr g0) (x1 : Int32) (y1 : Int) (hx1 : x1.toInt = y1) (x2 : Int32) (y2 : Int) (hx2 : x2.toInt = y2) (hf2 : 0 ≤ y2 ∧ y2 ≤ 26) , (26 - y2) * 1 + 28 < (n : Int) → LW 247 (d + 25) 0 0 4 [some (.ref 355), some (.int x1), some (.int x2)] [] g (fun v g' => v = none ∧ InvR P g' ∧ Gr g' = Gr g0)) ∧ (∀ (g : LH) (V : InvR P g) (hG : Gr g = Gr g0) (x1 : Int32) (y1 : Int) (hx1 : x1.toInt = y1) (x2 : Int32) (y2 : Int) (hx2 : x2.toInt = y2) (hf2 : 0 ≤ y2 ∧ y2 ≤ 26) , (26 - y2) * 1 + 0 < (n : Int) → LW 247 (d + 25) 0 0 36 [some (.ref 355), some (.int x1), some (.int x2)] [] g (fun v g' => v = none ∧ InvR P g' ∧ Gr g' = Gr g0)) := by
  intro n
  induction n with
  | zero => exact ⟨fun g V hG x1 y1 hx1 x2 y2 hx2 hf2 hmu => absurd hmu (by omega), fun g V hG x1 y1 hx1 x2 y2 hx2 hf2 hmu => absurd hmu (by omega)⟩
  | succ n ih => exact ⟨fun g V hG x1 y1 hx1 x2 y2 hx2 hf2 hmu => C_X13_dawn_4  V hG x1 y1 hx1 x2 y2 hx2 hf2 (by omega) ih.1 ih.2, fun g V hG x1 y1 hx1 x2 y2 hx2 hf2 hmu => C_X13_dawn_36  V hG x1 y1 hx1 x2 y2 hx2 hf2 (by omega) ih.1 ih.2⟩
set_option maxRecDepth 10000 in
set_option maxHeartbeats 40000000 in
theorem C_X13_dawn {P : Par} {g : LH} {d : Nat}  (V : InvR P g)    : LW 247 (d + 25) 0 0 0 (lEnt (mL 247) [.ref 355]) [] g (fun v g' => v = none ∧ InvR P g' ∧ Gr g' = Gr g) := by
  refine LW_ls (ls' := [some (.ref 355), none, none]) rfl ?_
  have hG : Gr g = Gr g := rfl
  refine X_iconst (v := (0 : Int32)) rfl rfl rfl ?_
  refine X_istore_n (i := 1) (ls' := [some (.ref 355), some (.int (0 : Int32)), none]) rfl rfl rfl (Nat.le_of_ble_eq_true rfl) rfl ?_
  refine X_iconst (v := (0 : Int32)) rfl rfl rfl ?_
  refine X_istore_n (i := 2) (ls' := [some (.ref 355), some (.int (0 : Int32)), some (.int (0 : Int32))]) rfl rfl rfl (Nat.le_of_ble_eq_true rfl) rfl ?_
  exact (C_X13_dawn_all (((26 - 0) * 1 + 28) + 1 : Int).toNat).1 _ V hG (0 : Int32) 0 (show (0 : Int32).toInt = 0 from rfl) (0 : Int32) 0 (show (0 : Int32).toInt = 0 from rfl) (by omega)    (by omega)
set_option maxRecDepth 10000 in
set_option maxHeartbeats 40000000 in
theorem C_X13_isMorning {P : Par} {g : LH} {d : Nat}  (V : InvR P g)    : LW 248 (d + 29) 0 0 0 (lEnt (mL 248) [.ref 355]) [] g (fun v g' => ∃ r : Int32, v = some (.int r) ∧ 0 ≤ r.toInt ∧ r.toInt ≤ 1 ∧ InvR P g' ∧ Gr g' = Gr g) := by
  refine LW_ls (ls' := [some (.ref 355)]) rfl ?_
  have hG : Gr g = Gr g := rfl
  refine X_aload_n rfl rfl rfl rfl ?_
  refine X_getR (a := 356) rfl rfl rfl ((congrFun V.1 355).trans s_355) rfl ((congrFun (V.2.1 355 (by decide)) 0).trans r_355_0) ?_
  refine X_iconst (v := (2 : Int32)) rfl rfl rfl ?_
  refine S_iald rfl rfl ((congrFun V.1 356).trans s_356) (show (2 : Int32).toInt = 2 from rfl) (by omega) (fun vz1 evz1 => ?_)
  have evz1 : Gi g 356 2 = vz1 := evz1
  refine X_sipush (v := (999 : Int32)) rfl rfl rfl ?_
  refine S_icmp_ne (tgt := 14) rfl rfl rfl rfl (show (999 : Int32).toInt = 999 from rfl) (fun vh2 => ?_) (fun vh2 => ?_)
  · refine X_aload_n rfl rfl rfl rfl ?_
    refine Y_callV (as := []) (st := []) rfl rfl rfl (by decide) rfl (Nat.le_of_ble_eq_true rfl) (by decide) (Nat.le_of_ble_eq_true rfl) rfl ((congrFun V.1 355).trans s_355) (by decide) (C_X13_keep V  ) ?_
    rintro _ g ⟨rfl, V, hq, chF⟩
    have hG := hq.trans hG
    have evz1 := (chF 2 (by omega) (by omega)).trans evz1
    refine X_aload_n rfl rfl rfl rfl ?_
    refine Y_callV (as := []) (st := []) rfl rfl rfl (by decide) rfl (Nat.le_of_ble_eq_true rfl) (by decide) (Nat.le_of_ble_eq_true rfl) rfl ((congrFun V.1 355).trans s_355) (by decide) (C_X13_dawn V  ) ?_
    rintro _ g ⟨rfl, V, hq⟩
    have hG := hq.trans hG
    refine X_iconst (v := (1 : Int32)) rfl rfl rfl ?_
    exact LW_ireturn (st := []) rfl rfl rfl ⟨_, rfl, by decide, by decide, V, hG⟩
  · refine X_iconst (v := (0 : Int32)) rfl rfl rfl ?_
    exact LW_ireturn (st := []) rfl rfl rfl ⟨_, rfl, by decide, by decide, V, hG⟩
set_option maxRecDepth 10000 in
set_option maxHeartbeats 40000000 in
theorem C_X13_morning_30 {P : Par} {g g0 : LH} {d n : Nat}  (V : InvR P g) (hG : Gr g = Gr g0) (x1 : Int32) (y1 : Int) (hx1 : x1.toInt = y1) (hf1 : 1 ≤ y1 ∧ y1 ≤ 99) (x2 : Int32) (y2 : Int) (hx2 : x2.toInt = y2) (x3 : Int32) (y3 : Int) (hx3 : x3.toInt = y3) (hf3 : 0 ≤ y3 ∧ y3 ≤ 99)  (hmu : (99 - y3) * 1 + 0 < (n : Int) + 1) (ih30 : ∀ (g : LH) (V : InvR P g) (hG : Gr g = Gr g0) (x1 : Int32) (y1 : Int) (hx1 : x1.toInt = y1) (hf1 : 1 ≤ y1 ∧ y1 ≤ 99) (x2 : Int32) (y2 : Int) (hx2 : x2.toInt = y2) (x3 : Int32) (y3 : Int) (hx3 : x3.toInt = y3) (hf3 : 0 ≤ y3 ∧ y3 ≤ 99) , (99 - y3) * 1 + 0 < (n : Int) → LW 249 (d + 34) 0 0 30 [some (.ref 355), some (.int x1), some (.int x2), some (.int x3)] [] g (fun v g' => ∃ r : Int32, v = some (.int r) ∧ (-1) ≤ r.toInt ∧ r.toInt ≤ 26 ∧ InvR P g' ∧ Gr g' = Gr g0)) : LW 249 (d + 34) 0 0 30 [some (.ref 355), some (.int x1), some (.int x2), some (.int x3)] [] g (fun v g' => ∃ r : Int32, v = some (.int r) ∧ (-1) ≤ r.toInt ∧ r.toInt ≤ 26 ∧ InvR P g' ∧ Gr g' = Gr g0) := by
  refine X_iload_n rfl rfl rfl rfl ?_
  refine X_iload_n rfl rfl rfl rfl ?_
  refine S_icmp_ge (tgt := 56) rfl rfl rfl hx3 hx1 (fun vh1 => ?_) (fun vh1 => ?_)
  · refine X_iload_n rfl rfl rfl rfl ?_
    refine X_iload_n rfl rfl rfl rfl ?_
    refine S_icmp_ge (tgt := 65) rfl rfl rfl hx2 hx1 (fun vh2 => ?_) (fun vh2 => ?_)
    · refine X_aload_n rfl rfl rfl rfl ?_
      refine X_getR (a := 356) rfl rfl rfl ((congrFun V.1 355).trans s_355) rfl ((congrFun (V.2.1 355 (by decide)) 0).trans r_355_0) ?_
      refine X_bipush (v := (7 : Int32)) rfl rfl rfl ?_
      refine S_iald rfl rfl ((congrFun V.1 356).trans s_356) (show (7 : Int32).toInt = 7 from rfl) (by omega) (fun vz3 evz3 => ?_)
      have evz3 : Gi g 356 7 = vz3 := evz3
      refine Y_callS (as := [.int vz3]) (st := []) rfl rfl rfl (by decide) rfl (Nat.le_of_ble_eq_true rfl) (by decide) (Nat.le_of_ble_eq_true rfl) rfl (C_X13_bits V vz3 vz3.toInt rfl ) ?_
      rintro _ g' ⟨vr4, rfl, hrvr40, hrvr41, hgg⟩
      subst hgg
      have hr := (rfl : vr4.toInt = vr4.toInt)
      exact LW_ireturn (st := []) rfl rfl rfl ⟨_, rfl, by omega, by omega, V, hG⟩
    · refine X_iconst (v := (-1 : Int32)) rfl rfl rfl ?_
      refine LW_goto (tgt := 75) rfl rfl ?_
      exact LW_ireturn (st := []) rfl rfl rfl ⟨_, rfl, by decide, by decide, V, hG⟩
  · refine X_iload_n rfl rfl rfl rfl ?_
    refine X_aload_n rfl rfl rfl rfl ?_
    refine Y_callV (as := []) (st := [.int x2]) rfl rfl rfl (by decide) rfl (Nat.le_of_ble_eq_true rfl) (by decide) (Nat.le_of_ble_eq_true rfl) rfl ((congrFun V.1 355).trans s_355) (by decide) (C_X13_isMorning V  ) ?_
    rintro _ g ⟨vr5, rfl, hrvr50, hrvr51, V, hq⟩
    have hG := hq.trans hG
    refine S_if_eq (tgt := 47) rfl rfl rfl rfl (fun vh6 => ?_) (fun vh6 => ?_)
    · refine X_iconst (v := (0 : Int32)) rfl rfl rfl ?_
      refine S_iaddT rfl rfl (fun vz7 => ?_)
      refine X_istore_n (i := 2) (ls' := [some (.ref 355), some (.int x1), some (.int vz7), some (.int x3)]) rfl rfl rfl (Nat.le_of_ble_eq_true rfl) rfl ?_
      refine S_iinc (c := 1) rfl rfl rfl hx3 rfl (by omega) (fun vz8 hvz8 => ?_)
      refine LW_ls (ls' := [some (.ref 355), some (.int x1), some (.int vz7), some (.int vz8)]) rfl ?_
      refine LW_goto (tgt := 30) rfl rfl ?_
      exact ih30 _ V hG x1 y1 hx1 (by omega) vz7 vz7.toInt rfl vz8 vz8.toInt rfl (by omega)    (by omega)
    · refine X_iconst (v := (1 : Int32)) rfl rfl rfl ?_
      refine LW_goto (tgt := 48) rfl rfl ?_
      refine S_iaddT rfl rfl (fun vz9 => ?_)
      refine X_istore_n (i := 2) (ls' := [some (.ref 355), some (.int x1), some (.int vz9), some (.int x3)]) rfl rfl rfl (Nat.le_of_ble_eq_true rfl) rfl ?_
      refine S_iinc (c := 1) rfl rfl rfl hx3 rfl (by omega) (fun vz10 hvz10 => ?_)
      refine LW_ls (ls' := [some (.ref 355), some (.int x1), some (.int vz9), some (.int vz10)]) rfl ?_
      refine LW_goto (tgt := 30) rfl rfl ?_
      exact ih30 _ V hG x1 y1 hx1 (by omega) vz9 vz9.toInt rfl vz10 vz10.toInt rfl (by omega)    (by omega)
theorem C_X13_morning_all {P : Par} {g0 : LH} {d : Nat}  : ∀ n : Nat, (∀ (g : LH) (V : InvR P g) (hG : Gr g = Gr g0) (x1 : Int32) (y1 : Int) (hx1 : x1.toInt = y1) (hf1 : 1 ≤ y1 ∧ y1 ≤ 99) (x2 : Int32) (y2 : Int) (hx2 : x2.toInt = y2) (x3 : Int32) (y3 : Int) (hx3 : x3.toInt = y3) (hf3 : 0 ≤ y3 ∧ y3 ≤ 99) , (99 - y3) * 1 + 0 < (n : Int) → LW 249 (d + 34) 0 0 30 [some (.ref 355), some (.int x1), some (.int x2), some (.int x3)] [] g (fun v g' => ∃ r : Int32, v = some (.int r) ∧ (-1) ≤ r.toInt ∧ r.toInt ≤ 26 ∧ InvR P g' ∧ Gr g' = Gr g0)) := by
  intro n
  induction n with
  | zero => exact fun g V hG x1 y1 hx1 hf1 x2 y2 hx2 x3 y3 hx3 hf3 hmu => absurd hmu (by omega)
  | succ n ih => exact fun g V hG x1 y1 hx1 hf1 x2 y2 hx2 x3 y3 hx3 hf3 hmu => C_X13_morning_30  V hG x1 y1 hx1 hf1 x2 y2 hx2 x3 y3 hx3 hf3 (by omega) ih
set_option maxRecDepth 10000 in
set_option maxHeartbeats 40000000 in
theorem C_X13_morning {P : Par} {g : LH} {d : Nat}  (V : InvR P g) (x1 : Int32) (y1 : Int) (hx1 : x1.toInt = y1)   : LW 249 (d + 34) 0 0 0 (lEnt (mL 249) [.ref 355, .int x1]) [] g (fun v g' => ∃ r : Int32, v = some (.int r) ∧ (-1) ≤ r.toInt ∧ r.toInt ≤ 26 ∧ InvR P g' ∧ Gr g' = Gr g) := by
  refine LW_ls (ls' := [some (.ref 355), some (.int x1), none, none]) rfl ?_
  have hG : Gr g = Gr g := rfl
  refine X_iload_n rfl rfl rfl rfl ?_
  refine X_iconst (v := (1 : Int32)) rfl rfl rfl ?_
  refine X_bipush (v := (99 : Int32)) rfl rfl rfl ?_
  refine X_callS (as := [.int x1, .int (1 : Int32), .int (99 : Int32)]) (st := []) rfl rfl rfl (by decide) rfl (Nat.le_of_ble_eq_true rfl) (by decide) (Nat.le_of_ble_eq_true rfl) rfl ?_
  refine LW_ls (ls' := [some (.int x1), some (.int (1 : Int32)), some (.int (99 : Int32))]) rfl ?_
  refine X_iload_n rfl rfl rfl rfl ?_
  refine X_iload_n rfl rfl rfl rfl ?_
  refine S_icmp_lt (tgt := 14) rfl rfl rfl hx1 (show (1 : Int32).toInt = 1 from rfl) (fun vh1 => ?_) (fun vh1 => ?_)
  · refine X_iconst (v := (0 : Int32)) rfl rfl rfl ?_
    refine LW_ireturn (st := []) rfl rfl rfl ?_
    refine S_if_eq (tgt := 24) rfl rfl rfl (show (0 : Int32).toInt = 0 from rfl) (fun vh2 => ?_) (fun q => absurd q (by omega))
    refine X_iconst (v := (-1 : Int32)) rfl rfl rfl ?_
    exact LW_ireturn (st := []) rfl rfl rfl ⟨_, rfl, by decide, by decide, V, hG⟩
  · refine X_iload_n rfl rfl rfl rfl ?_
    refine X_iload_n rfl rfl rfl rfl ?_
    refine S_icmp_gt (tgt := 14) rfl rfl rfl hx1 (show (99 : Int32).toInt = 99 from rfl) (fun vh3 => ?_) (fun vh3 => ?_)
    · refine X_iconst (v := (0 : Int32)) rfl rfl rfl ?_
      refine LW_ireturn (st := []) rfl rfl rfl ?_
      refine S_if_eq (tgt := 24) rfl rfl rfl (show (0 : Int32).toInt = 0 from rfl) (fun vh4 => ?_) (fun q => absurd q (by omega))
      refine X_iconst (v := (-1 : Int32)) rfl rfl rfl ?_
      exact LW_ireturn (st := []) rfl rfl rfl ⟨_, rfl, by decide, by decide, V, hG⟩
    · refine X_iconst (v := (1 : Int32)) rfl rfl rfl ?_
      refine LW_goto (tgt := 15) rfl rfl ?_
      refine LW_ireturn (st := []) rfl rfl rfl ?_
      refine S_if_eq (tgt := 24) rfl rfl rfl (show (1 : Int32).toInt = 1 from rfl) (fun q => absurd q (by omega)) (fun vh5 => ?_)
      refine X_aload_n rfl rfl rfl rfl ?_
      refine X_getR (a := 356) rfl rfl rfl ((congrFun V.1 355).trans s_355) rfl ((congrFun (V.2.1 355 (by decide)) 0).trans r_355_0) ?_
      refine X_iconst (v := (2 : Int32)) rfl rfl rfl ?_
      refine S_iald rfl rfl ((congrFun V.1 356).trans s_356) (show (2 : Int32).toInt = 2 from rfl) (by omega) (fun vz6 evz6 => ?_)
      have evz6 : Gi g 356 2 = vz6 := evz6
      refine X_iload_n rfl rfl rfl rfl ?_
      refine S_iaddT rfl rfl (fun vz7 => ?_)
      refine X_sipush (v := (999 : Int32)) rfl rfl rfl ?_
      refine S_icmp_le (tgt := 26) rfl rfl rfl rfl (show (999 : Int32).toInt = 999 from rfl) (fun vh8 => ?_) (fun vh8 => ?_)
      · refine X_iconst (v := (0 : Int32)) rfl rfl rfl ?_
        refine X_istore_n (i := 2) (ls' := [some (.ref 355), some (.int x1), some (.int (0 : Int32)), none]) rfl rfl rfl (Nat.le_of_ble_eq_true rfl) rfl ?_
        refine X_iconst (v := (0 : Int32)) rfl rfl rfl ?_
        refine X_istore_n (i := 3) (ls' := [some (.ref 355), some (.int x1), some (.int (0 : Int32)), some (.int (0 : Int32))]) rfl rfl rfl (Nat.le_of_ble_eq_true rfl) rfl ?_
        exact (C_X13_morning_all (((99 - 0) * 1 + 0) + 1 : Int).toNat) _ V hG x1 y1 hx1 (by omega) (0 : Int32) 0 (show (0 : Int32).toInt = 0 from rfl) (0 : Int32) 0 (show (0 : Int32).toInt = 0 from rfl) (by omega)    (by omega)
      · refine X_iconst (v := (-1 : Int32)) rfl rfl rfl ?_
        exact LW_ireturn (st := []) rfl rfl rfl ⟨_, rfl, by decide, by decide, V, hG⟩
set_option maxRecDepth 10000 in
set_option maxHeartbeats 40000000 in
theorem C_X13_happens {P : Par} {g : LH} {d : Nat}  (V : InvR P g) (x1 : Int32) (y1 : Int) (hx1 : x1.toInt = y1) (hf1 : 0 ≤ y1 ∧ y1 ≤ 25) (x2 : Int32) (y2 : Int) (hx2 : x2.toInt = y2) (hf2 : 0 ≤ y2 ∧ y2 ≤ 30138)   : LW 268 (d + 29) 0 0 0 (lEnt (mL 268) [.ref 355, .int x1, .int x2]) [] g (fun v g' => v = none ∧ InvR P g' ∧ Gr g' = Gr g) := by
  refine LW_ls (ls' := [some (.ref 355), some (.int x1), some (.int x2)]) rfl ?_
  have hG : Gr g = Gr g := rfl
  refine X_iload_n rfl rfl rfl rfl ?_
  refine X_iconst (v := (4 : Int32)) rfl rfl rfl ?_
  refine S_irem rfl rfl hx2 (show (4 : Int32).toInt = 4 from rfl) (by omega) (by omega) (fun vz1 hvz1 => ?_)
  by_cases vh2 : vz1.toInt = 0
  · refine S_tableIn (tgt := 28) (c := 0) rfl ((rfl : _ = vz1.toInt).trans vh2) (by decide) (by decide) rfl rfl ?_
    refine X_aload_n rfl rfl rfl rfl ?_
    refine X_getR (a := 356) rfl rfl rfl ((congrFun V.1 355).trans s_355) rfl ((congrFun (V.2.1 355 (by decide)) 0).trans r_355_0) ?_
    refine X_bipush (v := (12 : Int32)) rfl rfl rfl ?_
    refine X_iload_n rfl rfl rfl rfl ?_
    refine S_iadd rfl rfl (show (12 : Int32).toInt = 12 from rfl) hx1 (by omega) (fun vz3 hvz3 => ?_)
    refine S_iald rfl rfl ((congrFun V.1 356).trans s_356) rfl (by omega) (fun vz4 evz4 => ?_)
    refine X_bipush (v := (99 : Int32)) rfl rfl rfl ?_
    refine S_icmp_ge (tgt := 118) rfl rfl rfl rfl (show (99 : Int32).toInt = 99 from rfl) (fun vh5 => ?_) (fun vh5 => ?_)
    · exact LW_return (st := []) rfl rfl ⟨rfl, V, hG⟩
    · refine X_aload_n rfl rfl rfl rfl ?_
      refine X_getR (a := 356) rfl rfl rfl ((congrFun V.1 355).trans s_355) rfl ((congrFun (V.2.1 355 (by decide)) 0).trans r_355_0) ?_
      refine X_bipush (v := (12 : Int32)) rfl rfl rfl ?_
      refine X_iload_n rfl rfl rfl rfl ?_
      refine S_iadd rfl rfl (show (12 : Int32).toInt = 12 from rfl) hx1 (by omega) (fun vz6 hvz6 => ?_)
      refine X_dup2 rfl rfl rfl rfl ?_
      refine S_iald rfl rfl ((congrFun V.1 356).trans s_356) rfl (by omega) (fun vz7 evz7 => ?_)
      refine X_iconst (v := (1 : Int32)) rfl rfl rfl ?_
      refine S_iaddT rfl rfl (fun vz8 => ?_)
      refine S_iast (I := InvR _) rfl rfl ((congrFun V.1 356).trans s_356) rfl (by omega) (InvR_putA V (by omega) (B_FREE (by omega))) (fun g V ve9 vn10 hq => ?_)
      have hG := hq.trans hG
      refine LW_goto (tgt := 118) rfl rfl ?_
      exact LW_return (st := []) rfl rfl ⟨rfl, V, hG⟩
  by_cases vh11 : vz1.toInt = 1
  · refine S_tableIn (tgt := 58) (c := 1) rfl ((rfl : _ = vz1.toInt).trans vh11) (by decide) (by decide) rfl rfl ?_
    refine X_aload_n rfl rfl rfl rfl ?_
    refine X_getR (a := 356) rfl rfl rfl ((congrFun V.1 355).trans s_355) rfl ((congrFun (V.2.1 355 (by decide)) 0).trans r_355_0) ?_
    refine X_bipush (v := (7 : Int32)) rfl rfl rfl ?_
    refine X_dup2 rfl rfl rfl rfl ?_
    refine S_iald rfl rfl ((congrFun V.1 356).trans s_356) (show (7 : Int32).toInt = 7 from rfl) (by omega) (fun vz12 evz12 => ?_)
    have evz12 : Gi g 356 7 = vz12 := evz12
    refine X_iconst (v := (1 : Int32)) rfl rfl rfl ?_
    refine X_iload_n rfl rfl rfl rfl ?_
    refine S_ishlT rfl rfl (fun vz13 => ?_)
    refine S_ixorT rfl rfl (fun vz14 => ?_)
    refine S_iast (I := InvR _) rfl rfl ((congrFun V.1 356).trans s_356) (show (7 : Int32).toInt = 7 from rfl) (by omega) (InvR_putA V (by omega) (B_FREE (by omega))) (fun g V ve15 vn16 hq => ?_)
    have hG := hq.trans hG
    have ve15 : Gi g 356 7 = vz14 := ve15
    refine X_aload_n rfl rfl rfl rfl ?_
    refine X_getR (a := 356) rfl rfl rfl ((congrFun V.1 355).trans s_355) rfl ((congrFun (V.2.1 355 (by decide)) 0).trans r_355_0) ?_
    refine X_bipush (v := (38 : Int32)) rfl rfl rfl ?_
    refine X_iload_n rfl rfl rfl rfl ?_
    refine S_iadd rfl rfl (show (38 : Int32).toInt = 38 from rfl) hx1 (by omega) (fun vz17 hvz17 => ?_)
    refine X_iconst (v := (0 : Int32)) rfl rfl rfl ?_
    refine S_iast (I := InvR _) rfl rfl ((congrFun V.1 356).trans s_356) rfl (by omega) (InvR_putA V (by omega) (B_FREE (by omega))) (fun g V ve18 vn19 hq => ?_)
    have hG := hq.trans hG
    have ve15 := (vn19 (356) 7 (Or.inr (by omega))).trans ve15
    refine LW_goto (tgt := 118) rfl rfl ?_
    exact LW_return (st := []) rfl rfl ⟨rfl, V, hG⟩
  by_cases vh20 : vz1.toInt = 2
  · refine S_tableIn (tgt := 84) (c := 2) rfl ((rfl : _ = vz1.toInt).trans vh20) (by decide) (by decide) rfl rfl ?_
    refine X_aload_n rfl rfl rfl rfl ?_
    refine X_getR (a := 356) rfl rfl rfl ((congrFun V.1 355).trans s_355) rfl ((congrFun (V.2.1 355 (by decide)) 0).trans r_355_0) ?_
    refine X_bipush (v := (64 : Int32)) rfl rfl rfl ?_
    refine X_iload_n rfl rfl rfl rfl ?_
    refine S_iadd rfl rfl (show (64 : Int32).toInt = 64 from rfl) hx1 (by omega) (fun vz21 hvz21 => ?_)
    refine X_iload_n rfl rfl rfl rfl ?_
    refine X_bipush (v := (11 : Int32)) rfl rfl rfl ?_
    refine S_irem rfl rfl hx2 (show (11 : Int32).toInt = 11 from rfl) (by omega) (by omega) (fun vz22 hvz22 => ?_)
    refine X_iconst (v := (1 : Int32)) rfl rfl rfl ?_
    refine S_isub rfl rfl rfl (show (1 : Int32).toInt = 1 from rfl) (by omega) (fun vz23 hvz23 => ?_)
    refine S_iast (I := InvR _) rfl rfl ((congrFun V.1 356).trans s_356) rfl (by omega) (InvR_putA V (by omega) (B_FREE (by omega))) (fun g V ve24 vn25 hq => ?_)
    have hG := hq.trans hG
    refine LW_goto (tgt := 118) rfl rfl ?_
    exact LW_return (st := []) rfl rfl ⟨rfl, V, hG⟩
  refine S_tableOut (tgt := 102) rfl rfl (by omega) rfl ?_
  refine X_aload_n rfl rfl rfl rfl ?_
  refine X_getR (a := 356) rfl rfl rfl ((congrFun V.1 355).trans s_355) rfl ((congrFun (V.2.1 355 (by decide)) 0).trans r_355_0) ?_
  refine X_iconst (v := (2 : Int32)) rfl rfl rfl ?_
  refine S_iald rfl rfl ((congrFun V.1 356).trans s_356) (show (2 : Int32).toInt = 2 from rfl) (by omega) (fun vz26 evz26 => ?_)
  have evz26 : Gi g 356 2 = vz26 := evz26
  refine X_sipush (v := (999 : Int32)) rfl rfl rfl ?_
  refine S_icmp_ge (tgt := 118) rfl rfl rfl rfl (show (999 : Int32).toInt = 999 from rfl) (fun vh27 => ?_) (fun vh27 => ?_)
  · exact LW_return (st := []) rfl rfl ⟨rfl, V, hG⟩
  · refine X_aload_n rfl rfl rfl rfl ?_
    refine Y_callV (as := []) (st := []) rfl rfl rfl (by decide) rfl (Nat.le_of_ble_eq_true rfl) (by decide) (Nat.le_of_ble_eq_true rfl) rfl ((congrFun V.1 355).trans s_355) (by decide) (C_X13_dawn V  ) ?_
    rintro _ g ⟨rfl, V, hq⟩
    have hG := hq.trans hG
    exact LW_return (st := []) rfl rfl ⟨rfl, V, hG⟩
set_option maxRecDepth 10000 in
set_option maxHeartbeats 40000000 in
theorem C_X13_year_37 {P : Par} {g g0 : LH} {d n : Nat}  (V : InvR P g) (hG : Gr g = Gr g0) (x1 : Int32) (y1 : Int) (hx1 : x1.toInt = y1) (hf1 : 0 ≤ y1 ∧ y1 ≤ 9999) (x2 : Int32) (y2 : Int) (hx2 : x2.toInt = y2) (hf2 : 1 ≤ y2 ∧ y2 ≤ 40) (x3 : Int32) (y3 : Int) (hx3 : x3.toInt = y3) (hf3 : 0 ≤ y3 ∧ y3 ≤ 50012) (x4 : Int32) (y4 : Int) (hx4 : x4.toInt = y4) (hf4 : 0 ≤ y4 ∧ y4 ≤ 40) (o5 : Option Value)  (hmu : (40 - y4) * 1 + 0 < (n : Int) + 1) (ih37 : ∀ (g : LH) (V : InvR P g) (hG : Gr g = Gr g0) (x1 : Int32) (y1 : Int) (hx1 : x1.toInt = y1) (hf1 : 0 ≤ y1 ∧ y1 ≤ 9999) (x2 : Int32) (y2 : Int) (hx2 : x2.toInt = y2) (hf2 : 1 ≤ y2 ∧ y2 ≤ 40) (x3 : Int32) (y3 : Int) (hx3 : x3.toInt = y3) (hf3 : 0 ≤ y3 ∧ y3 ≤ 50012) (x4 : Int32) (y4 : Int) (hx4 : x4.toInt = y4) (hf4 : 0 ≤ y4 ∧ y4 ≤ 40) (o5 : Option Value) , (40 - y4) * 1 + 0 < (n : Int) → LW 269 (d + 34) 0 0 37 [some (.ref 355), some (.int x1), some (.int x2), some (.int x3), some (.int x4), o5] [] g (fun v g' => ∃ r : Int32, v = some (.int r) ∧ (-1) ≤ r.toInt ∧ r.toInt ≤ 26 ∧ InvR P g' ∧ Gr g' = Gr g0)) : LW 269 (d + 34) 0 0 37 [some (.ref 355), some (.int x1), some (.int x2), some (.int x3), some (.int x4), o5] [] g (fun v g' => ∃ r : Int32, v = some (.int r) ∧ (-1) ≤ r.toInt ∧ r.toInt ≤ 26 ∧ InvR P g' ∧ Gr g' = Gr g0) := by
  refine X_iload rfl rfl rfl ?_
  refine X_iload_n rfl rfl rfl rfl ?_
  refine S_icmp_ge (tgt := 72) rfl rfl rfl hx4 hx2 (fun vh1 => ?_) (fun vh1 => ?_)
  · refine X_aload_n rfl rfl rfl rfl ?_
    refine X_getR (a := 356) rfl rfl rfl ((congrFun V.1 355).trans s_355) rfl ((congrFun (V.2.1 355 (by decide)) 0).trans r_355_0) ?_
    refine X_iconst (v := (3 : Int32)) rfl rfl rfl ?_
    refine X_iload_n rfl rfl rfl rfl ?_
    refine S_iast (I := InvR _) rfl rfl ((congrFun V.1 356).trans s_356) (show (3 : Int32).toInt = 3 from rfl) (by omega) (InvR_putA V (by omega) (B_FREE (by omega))) (fun g V ve2 vn3 hq => ?_)
    have hG := hq.trans hG
    have ve2 : Gi g 356 3 = x3 := ve2
    refine X_aload_n rfl rfl rfl rfl ?_
    refine X_getR (a := 356) rfl rfl rfl ((congrFun V.1 355).trans s_355) rfl ((congrFun (V.2.1 355 (by decide)) 0).trans r_355_0) ?_
    refine X_bipush (v := (7 : Int32)) rfl rfl rfl ?_
    refine S_iald rfl rfl ((congrFun V.1 356).trans s_356) (show (7 : Int32).toInt = 7 from rfl) (by omega) (fun vz4 evz4 => ?_)
    have evz4 : Gi g 356 7 = vz4 := evz4
    refine Y_callS (as := [.int vz4]) (st := []) rfl rfl rfl (by decide) rfl (Nat.le_of_ble_eq_true rfl) (by decide) (Nat.le_of_ble_eq_true rfl) rfl (C_X13_bits V vz4 vz4.toInt rfl ) ?_
    rintro _ g' ⟨vr5, rfl, hrvr50, hrvr51, hgg⟩
    subst hgg
    have hr := (rfl : vr5.toInt = vr5.toInt)
    exact LW_ireturn (st := []) rfl rfl rfl ⟨_, rfl, by omega, by omega, V, hG⟩
  · refine X_iload_n rfl rfl rfl rfl ?_
    refine X_bipush (v := (26 : Int32)) rfl rfl rfl ?_
    refine S_irem rfl rfl hx3 (show (26 : Int32).toInt = 26 from rfl) (by omega) (by omega) (fun vz6 hvz6 => ?_)
    refine X_istore (i := 5) (ls' := [some (.ref 355), some (.int x1), some (.int x2), some (.int x3), some (.int x4), some (.int vz6)]) rfl rfl (Nat.le_of_ble_eq_true rfl) rfl ?_
    refine X_iload_n rfl rfl rfl rfl ?_
    refine Y_callS (as := [.int x3]) (st := []) rfl rfl rfl (by decide) rfl (Nat.le_of_ble_eq_true rfl) (by decide) (Nat.le_of_ble_eq_true rfl) rfl (C_X13_anew V x3 y3 hx3 (by omega) ) ?_
    rintro _ g' ⟨vr7, rfl, hrvr70, hrvr71, hgg⟩
    subst hgg
    refine X_istore_n (i := 3) (ls' := [some (.ref 355), some (.int x1), some (.int x2), some (.int vr7), some (.int x4), some (.int vz6)]) rfl rfl rfl (Nat.le_of_ble_eq_true rfl) rfl ?_
    refine X_aload_n rfl rfl rfl rfl ?_
    refine X_iload rfl rfl rfl ?_
    refine X_iload_n rfl rfl rfl rfl ?_
    refine Y_callV (as := [.int vz6, .int vr7]) (st := []) rfl rfl rfl (by decide) rfl (Nat.le_of_ble_eq_true rfl) (by decide) (Nat.le_of_ble_eq_true rfl) rfl ((congrFun V.1 355).trans s_355) (by decide) (C_X13_happens V vz6 vz6.toInt rfl (by omega) vr7 vr7.toInt rfl (by omega) ) ?_
    rintro _ g ⟨rfl, V, hq⟩
    have hG := hq.trans hG
    refine X_iload_n rfl rfl rfl rfl ?_
    refine Y_callS (as := [.int vr7]) (st := []) rfl rfl rfl (by decide) rfl (Nat.le_of_ble_eq_true rfl) (by decide) (Nat.le_of_ble_eq_true rfl) rfl (C_X13_anew V vr7 vr7.toInt rfl (by omega) ) ?_
    rintro _ g' ⟨vr9, rfl, hrvr90, hrvr91, hgg⟩
    subst hgg
    refine X_istore_n (i := 3) (ls' := [some (.ref 355), some (.int x1), some (.int x2), some (.int vr9), some (.int x4), some (.int vz6)]) rfl rfl rfl (Nat.le_of_ble_eq_true rfl) rfl ?_
    refine S_iinc (c := 1) rfl rfl rfl hx4 rfl (by omega) (fun vz10 hvz10 => ?_)
    refine LW_ls (ls' := [some (.ref 355), some (.int x1), some (.int x2), some (.int vr9), some (.int vz10), some (.int vz6)]) rfl ?_
    refine LW_goto (tgt := 37) rfl rfl ?_
    exact ih37 _ V hG x1 y1 hx1 (by omega) x2 y2 hx2 (by omega) vr9 vr9.toInt rfl (by omega) vz10 vz10.toInt rfl (by omega) (some (.int vz6))    (by omega)
theorem C_X13_year_all {P : Par} {g0 : LH} {d : Nat}  : ∀ n : Nat, (∀ (g : LH) (V : InvR P g) (hG : Gr g = Gr g0) (x1 : Int32) (y1 : Int) (hx1 : x1.toInt = y1) (hf1 : 0 ≤ y1 ∧ y1 ≤ 9999) (x2 : Int32) (y2 : Int) (hx2 : x2.toInt = y2) (hf2 : 1 ≤ y2 ∧ y2 ≤ 40) (x3 : Int32) (y3 : Int) (hx3 : x3.toInt = y3) (hf3 : 0 ≤ y3 ∧ y3 ≤ 50012) (x4 : Int32) (y4 : Int) (hx4 : x4.toInt = y4) (hf4 : 0 ≤ y4 ∧ y4 ≤ 40) (o5 : Option Value) , (40 - y4) * 1 + 0 < (n : Int) → LW 269 (d + 34) 0 0 37 [some (.ref 355), some (.int x1), some (.int x2), some (.int x3), some (.int x4), o5] [] g (fun v g' => ∃ r : Int32, v = some (.int r) ∧ (-1) ≤ r.toInt ∧ r.toInt ≤ 26 ∧ InvR P g' ∧ Gr g' = Gr g0)) := by
  intro n
  induction n with
  | zero => exact fun g V hG x1 y1 hx1 hf1 x2 y2 hx2 hf2 x3 y3 hx3 hf3 x4 y4 hx4 hf4 o5 hmu => absurd hmu (by omega)
  | succ n ih => exact fun g V hG x1 y1 hx1 hf1 x2 y2 hx2 hf2 x3 y3 hx3 hf3 x4 y4 hx4 hf4 o5 hmu => C_X13_year_37  V hG x1 y1 hx1 hf1 x2 y2 hx2 hf2 x3 y3 hx3 hf3 x4 y4 hx4 hf4 o5 (by omega) ih
set_option maxRecDepth 10000 in
set_option maxHeartbeats 40000000 in
theorem C_X13_year {P : Par} {g : LH} {d : Nat}  (V : InvR P g) (x1 : Int32) (y1 : Int) (hx1 : x1.toInt = y1) (x2 : Int32) (y2 : Int) (hx2 : x2.toInt = y2)   : LW 269 (d + 34) 0 0 0 (lEnt (mL 269) [.ref 355, .int x1, .int x2]) [] g (fun v g' => ∃ r : Int32, v = some (.int r) ∧ (-1) ≤ r.toInt ∧ r.toInt ≤ 26 ∧ InvR P g' ∧ Gr g' = Gr g) := by
  refine LW_ls (ls' := [some (.ref 355), some (.int x1), some (.int x2), none, none, none]) rfl ?_
  have hG : Gr g = Gr g := rfl
  refine X_iload_n rfl rfl rfl rfl ?_
  refine X_iconst (v := (0 : Int32)) rfl rfl rfl ?_
  refine X_sipush (v := (9999 : Int32)) rfl rfl rfl ?_
  refine X_callS (as := [.int x1, .int (0 : Int32), .int (9999 : Int32)]) (st := []) rfl rfl rfl (by decide) rfl (Nat.le_of_ble_eq_true rfl) (by decide) (Nat.le_of_ble_eq_true rfl) rfl ?_
  refine LW_ls (ls' := [some (.int x1), some (.int (0 : Int32)), some (.int (9999 : Int32))]) rfl ?_
  refine X_iload_n rfl rfl rfl rfl ?_
  refine X_iload_n rfl rfl rfl rfl ?_
  refine S_icmp_lt (tgt := 14) rfl rfl rfl hx1 (show (0 : Int32).toInt = 0 from rfl) (fun vh1 => ?_) (fun vh1 => ?_)
  · refine X_iconst (v := (0 : Int32)) rfl rfl rfl ?_
    refine LW_ireturn (st := []) rfl rfl rfl ?_
    refine S_if_eq (tgt := 21) rfl rfl rfl (show (0 : Int32).toInt = 0 from rfl) (fun vh2 => ?_) (fun q => absurd q (by omega))
    refine X_iconst (v := (-1 : Int32)) rfl rfl rfl ?_
    exact LW_ireturn (st := []) rfl rfl rfl ⟨_, rfl, by decide, by decide, V, hG⟩
  · refine X_iload_n rfl rfl rfl rfl ?_
    refine X_iload_n rfl rfl rfl rfl ?_
    refine S_icmp_gt (tgt := 14) rfl rfl rfl hx1 (show (9999 : Int32).toInt = 9999 from rfl) (fun vh3 => ?_) (fun vh3 => ?_)
    · refine X_iconst (v := (0 : Int32)) rfl rfl rfl ?_
      refine LW_ireturn (st := []) rfl rfl rfl ?_
      refine S_if_eq (tgt := 21) rfl rfl rfl (show (0 : Int32).toInt = 0 from rfl) (fun vh4 => ?_) (fun q => absurd q (by omega))
      refine X_iconst (v := (-1 : Int32)) rfl rfl rfl ?_
      exact LW_ireturn (st := []) rfl rfl rfl ⟨_, rfl, by decide, by decide, V, hG⟩
    · refine X_iconst (v := (1 : Int32)) rfl rfl rfl ?_
      refine LW_goto (tgt := 15) rfl rfl ?_
      refine LW_ireturn (st := []) rfl rfl rfl ?_
      refine S_if_eq (tgt := 21) rfl rfl rfl (show (1 : Int32).toInt = 1 from rfl) (fun q => absurd q (by omega)) (fun vh5 => ?_)
      refine X_iload_n rfl rfl rfl rfl ?_
      refine X_iconst (v := (1 : Int32)) rfl rfl rfl ?_
      refine X_bipush (v := (40 : Int32)) rfl rfl rfl ?_
      refine X_callS (as := [.int x2, .int (1 : Int32), .int (40 : Int32)]) (st := []) rfl rfl rfl (by decide) rfl (Nat.le_of_ble_eq_true rfl) (by decide) (Nat.le_of_ble_eq_true rfl) rfl ?_
      refine LW_ls (ls' := [some (.int x2), some (.int (1 : Int32)), some (.int (40 : Int32))]) rfl ?_
      refine X_iload_n rfl rfl rfl rfl ?_
      refine X_iload_n rfl rfl rfl rfl ?_
      refine S_icmp_lt (tgt := 14) rfl rfl rfl hx2 (show (1 : Int32).toInt = 1 from rfl) (fun vh6 => ?_) (fun vh6 => ?_)
      · refine X_iconst (v := (0 : Int32)) rfl rfl rfl ?_
        refine LW_ireturn (st := []) rfl rfl rfl ?_
        refine S_if_ne (tgt := 23) rfl rfl rfl (show (0 : Int32).toInt = 0 from rfl) (fun q => absurd q (by omega)) (fun vh7 => ?_)
        refine X_iconst (v := (-1 : Int32)) rfl rfl rfl ?_
        exact LW_ireturn (st := []) rfl rfl rfl ⟨_, rfl, by decide, by decide, V, hG⟩
      · refine X_iload_n rfl rfl rfl rfl ?_
        refine X_iload_n rfl rfl rfl rfl ?_
        refine S_icmp_gt (tgt := 14) rfl rfl rfl hx2 (show (40 : Int32).toInt = 40 from rfl) (fun vh8 => ?_) (fun vh8 => ?_)
        · refine X_iconst (v := (0 : Int32)) rfl rfl rfl ?_
          refine LW_ireturn (st := []) rfl rfl rfl ?_
          refine S_if_ne (tgt := 23) rfl rfl rfl (show (0 : Int32).toInt = 0 from rfl) (fun q => absurd q (by omega)) (fun vh9 => ?_)
          refine X_iconst (v := (-1 : Int32)) rfl rfl rfl ?_
          exact LW_ireturn (st := []) rfl rfl rfl ⟨_, rfl, by decide, by decide, V, hG⟩
        · refine X_iconst (v := (1 : Int32)) rfl rfl rfl ?_
          refine LW_goto (tgt := 15) rfl rfl ?_
          refine LW_ireturn (st := []) rfl rfl rfl ?_
          refine S_if_ne (tgt := 23) rfl rfl rfl (show (1 : Int32).toInt = 1 from rfl) (fun vh10 => ?_) (fun q => absurd q (by omega))
          refine X_aload_n rfl rfl rfl rfl ?_
          refine Y_callV (as := []) (st := []) rfl rfl rfl (by decide) rfl (Nat.le_of_ble_eq_true rfl) (by decide) (Nat.le_of_ble_eq_true rfl) rfl ((congrFun V.1 355).trans s_355) (by decide) (C_X13_keep V  ) ?_
          rintro _ g ⟨rfl, V, hq, chF⟩
          have hG := hq.trans hG
          refine X_iload_n rfl rfl rfl rfl ?_
          refine X_iconst (v := (5 : Int32)) rfl rfl rfl ?_
          refine S_imul rfl rfl hx1 (show (5 : Int32).toInt = 5 from rfl) (by omega) (fun vz12 hvz12 => ?_)
          refine X_bipush (v := (17 : Int32)) rfl rfl rfl ?_
          refine S_iadd rfl rfl rfl (show (17 : Int32).toInt = 17 from rfl) (by omega) (fun vz13 hvz13 => ?_)
          refine X_istore_n (i := 3) (ls' := [some (.ref 355), some (.int x1), some (.int x2), some (.int vz13), none, none]) rfl rfl rfl (Nat.le_of_ble_eq_true rfl) rfl ?_
          refine X_iconst (v := (0 : Int32)) rfl rfl rfl ?_
          refine X_istore (i := 4) (ls' := [some (.ref 355), some (.int x1), some (.int x2), some (.int vz13), some (.int (0 : Int32)), none]) rfl rfl (Nat.le_of_ble_eq_true rfl) rfl ?_
          exact (C_X13_year_all (((40 - 0) * 1 + 0) + 1 : Int).toNat) _ V hG x1 y1 hx1 (by omega) x2 y2 hx2 (by omega) vz13 vz13.toInt rfl (by omega) (0 : Int32) 0 (show (0 : Int32).toInt = 0 from rfl) (by omega) none    (by omega)
set_option maxRecDepth 10000 in
set_option maxHeartbeats 40000000 in
theorem C_X13_of {P : Par} {g : LH} {d : Nat}  (V : InvR P g) (x1 : Int32) (y1 : Int) (hx1 : x1.toInt = y1) (x2 : Int32) (y2 : Int) (hx2 : x2.toInt = y2)   : LW 270 (d + 26) 0 0 0 (lEnt (mL 270) [.ref 355, .int x1, .int x2]) [] g (fun v g' => ∃ r : Int32, v = some (.int r) ∧ InvR P g' ∧ Gr g' = Gr g) := by
  refine LW_ls (ls' := [some (.ref 355), some (.int x1), some (.int x2)]) rfl ?_
  have hG : Gr g = Gr g := rfl
  refine X_iload_n rfl rfl rfl rfl ?_
  refine X_callS (as := [.int x1]) (st := []) rfl rfl rfl (by decide) rfl (Nat.le_of_ble_eq_true rfl) (by decide) (Nat.le_of_ble_eq_true rfl) rfl ?_
  refine LW_ls (ls' := [some (.int x1)]) rfl ?_
  refine X_iload_n rfl rfl rfl rfl ?_
  refine X_iconst (v := (0 : Int32)) rfl rfl rfl ?_
  refine X_bipush (v := (25 : Int32)) rfl rfl rfl ?_
  refine X_callS (as := [.int x1, .int (0 : Int32), .int (25 : Int32)]) (st := []) rfl rfl rfl (by decide) rfl (Nat.le_of_ble_eq_true rfl) (by decide) (Nat.le_of_ble_eq_true rfl) rfl ?_
  refine LW_ls (ls' := [some (.int x1), some (.int (0 : Int32)), some (.int (25 : Int32))]) rfl ?_
  refine X_iload_n rfl rfl rfl rfl ?_
  refine X_iload_n rfl rfl rfl rfl ?_
  refine S_icmp_lt (tgt := 14) rfl rfl rfl hx1 (show (0 : Int32).toInt = 0 from rfl) (fun vh1 => ?_) (fun vh1 => ?_)
  · refine X_iconst (v := (0 : Int32)) rfl rfl rfl ?_
    refine LW_ireturn (st := []) rfl rfl rfl ?_
    refine LW_ireturn (st := []) rfl rfl rfl ?_
    refine S_if_ne (tgt := 10) rfl rfl rfl (show (0 : Int32).toInt = 0 from rfl) (fun q => absurd q (by omega)) (fun vh2 => ?_)
    refine X_bipush (v := (-2 : Int32)) rfl rfl rfl ?_
    exact LW_ireturn (st := []) rfl rfl rfl ⟨_, rfl, V, hG⟩
  · refine X_iload_n rfl rfl rfl rfl ?_
    refine X_iload_n rfl rfl rfl rfl ?_
    refine S_icmp_gt (tgt := 14) rfl rfl rfl hx1 (show (25 : Int32).toInt = 25 from rfl) (fun vh3 => ?_) (fun vh3 => ?_)
    · refine X_iconst (v := (0 : Int32)) rfl rfl rfl ?_
      refine LW_ireturn (st := []) rfl rfl rfl ?_
      refine LW_ireturn (st := []) rfl rfl rfl ?_
      refine S_if_ne (tgt := 10) rfl rfl rfl (show (0 : Int32).toInt = 0 from rfl) (fun q => absurd q (by omega)) (fun vh4 => ?_)
      refine X_bipush (v := (-2 : Int32)) rfl rfl rfl ?_
      exact LW_ireturn (st := []) rfl rfl rfl ⟨_, rfl, V, hG⟩
    · refine X_iconst (v := (1 : Int32)) rfl rfl rfl ?_
      refine LW_goto (tgt := 15) rfl rfl ?_
      refine LW_ireturn (st := []) rfl rfl rfl ?_
      refine LW_ireturn (st := []) rfl rfl rfl ?_
      refine S_if_ne (tgt := 10) rfl rfl rfl (show (1 : Int32).toInt = 1 from rfl) (fun vh5 => ?_) (fun q => absurd q (by omega))
      refine X_iload_n rfl rfl rfl rfl ?_
      by_cases vh6 : y2 = 0
      · refine S_tableIn (tgt := 52) (c := 0) rfl (hx2.trans vh6) (by decide) (by decide) rfl rfl ?_
        refine X_aload_n rfl rfl rfl rfl ?_
        refine X_getR (a := 356) rfl rfl rfl ((congrFun V.1 355).trans s_355) rfl ((congrFun (V.2.1 355 (by decide)) 0).trans r_355_0) ?_
        refine X_bipush (v := (12 : Int32)) rfl rfl rfl ?_
        refine X_iload_n rfl rfl rfl rfl ?_
        refine S_iadd rfl rfl (show (12 : Int32).toInt = 12 from rfl) hx1 (by omega) (fun vz7 hvz7 => ?_)
        refine S_iald rfl rfl ((congrFun V.1 356).trans s_356) rfl (by omega) (fun vz8 evz8 => ?_)
        exact LW_ireturn (st := []) rfl rfl rfl ⟨_, rfl, V, hG⟩
      by_cases vh9 : y2 = 1
      · refine S_tableIn (tgt := 62) (c := 1) rfl (hx2.trans vh9) (by decide) (by decide) rfl rfl ?_
        refine X_aload_n rfl rfl rfl rfl ?_
        refine X_getR (a := 356) rfl rfl rfl ((congrFun V.1 355).trans s_355) rfl ((congrFun (V.2.1 355 (by decide)) 0).trans r_355_0) ?_
        refine X_bipush (v := (38 : Int32)) rfl rfl rfl ?_
        refine X_iload_n rfl rfl rfl rfl ?_
        refine S_iadd rfl rfl (show (38 : Int32).toInt = 38 from rfl) hx1 (by omega) (fun vz10 hvz10 => ?_)
        refine S_iald rfl rfl ((congrFun V.1 356).trans s_356) rfl (by omega) (fun vz11 evz11 => ?_)
        exact LW_ireturn (st := []) rfl rfl rfl ⟨_, rfl, V, hG⟩
      by_cases vh12 : y2 = 2
      · refine S_tableIn (tgt := 72) (c := 2) rfl (hx2.trans vh12) (by decide) (by decide) rfl rfl ?_
        refine X_aload_n rfl rfl rfl rfl ?_
        refine X_iload_n rfl rfl rfl rfl ?_
        refine X_callV (as := [.int x1]) (st := []) rfl rfl rfl (by decide) rfl (Nat.le_of_ble_eq_true rfl) (by decide) (Nat.le_of_ble_eq_true rfl) rfl ((congrFun V.1 355).trans s_355) (by decide) ?_
        refine LW_ls (ls' := [some (.ref 355), some (.int x1)]) rfl ?_
        refine X_aload_n rfl rfl rfl rfl ?_
        refine X_getR (a := 356) rfl rfl rfl ((congrFun V.1 355).trans s_355) rfl ((congrFun (V.2.1 355 (by decide)) 0).trans r_355_0) ?_
        refine X_bipush (v := (7 : Int32)) rfl rfl rfl ?_
        refine S_iald rfl rfl ((congrFun V.1 356).trans s_356) (show (7 : Int32).toInt = 7 from rfl) (by omega) (fun vz13 evz13 => ?_)
        have evz13 : Gi g 356 7 = vz13 := evz13
        refine X_iload_n rfl rfl rfl rfl ?_
        refine X_callS (as := [.int vz13, .int x1]) (st := []) rfl rfl rfl (by decide) rfl (Nat.le_of_ble_eq_true rfl) (by decide) (Nat.le_of_ble_eq_true rfl) rfl ?_
        refine LW_ls (ls' := [some (.int vz13), some (.int x1)]) rfl ?_
        refine X_iload_n rfl rfl rfl rfl ?_
        refine X_iload_n rfl rfl rfl rfl ?_
        refine S_ishrT rfl rfl (fun vz14 => ?_)
        refine X_iconst (v := (1 : Int32)) rfl rfl rfl ?_
        refine S_iandR (k := 1) rfl rfl rfl (fun vz15 hvz15 => ?_)
        refine X_iconst (v := (1 : Int32)) rfl rfl rfl ?_
        refine S_icmp_ne (tgt := 13) rfl rfl rfl rfl (show (1 : Int32).toInt = 1 from rfl) (fun vh16 => ?_) (fun vh16 => ?_)
        · refine X_iconst (v := (0 : Int32)) rfl rfl rfl ?_
          refine LW_ireturn (st := []) rfl rfl rfl ?_
          refine LW_ireturn (st := []) rfl rfl rfl ?_
          refine S_if_eq (tgt := 84) rfl rfl rfl (show (0 : Int32).toInt = 0 from rfl) (fun vh17 => ?_) (fun q => absurd q (by omega))
          refine X_iconst (v := (0 : Int32)) rfl rfl rfl ?_
          exact LW_ireturn (st := []) rfl rfl rfl ⟨_, rfl, V, hG⟩
        · refine X_iconst (v := (1 : Int32)) rfl rfl rfl ?_
          refine LW_goto (tgt := 14) rfl rfl ?_
          refine LW_ireturn (st := []) rfl rfl rfl ?_
          refine LW_ireturn (st := []) rfl rfl rfl ?_
          refine S_if_eq (tgt := 84) rfl rfl rfl (show (1 : Int32).toInt = 1 from rfl) (fun q => absurd q (by omega)) (fun vh18 => ?_)
          refine X_iconst (v := (1 : Int32)) rfl rfl rfl ?_
          refine LW_goto (tgt := 85) rfl rfl ?_
          exact LW_ireturn (st := []) rfl rfl rfl ⟨_, rfl, V, hG⟩
      by_cases vh19 : y2 = 3
      · refine S_tableIn (tgt := 86) (c := 3) rfl (hx2.trans vh19) (by decide) (by decide) rfl rfl ?_
        refine X_aload_n rfl rfl rfl rfl ?_
        refine X_getR (a := 356) rfl rfl rfl ((congrFun V.1 355).trans s_355) rfl ((congrFun (V.2.1 355 (by decide)) 0).trans r_355_0) ?_
        refine X_bipush (v := (64 : Int32)) rfl rfl rfl ?_
        refine X_iload_n rfl rfl rfl rfl ?_
        refine S_iadd rfl rfl (show (64 : Int32).toInt = 64 from rfl) hx1 (by omega) (fun vz20 hvz20 => ?_)
        refine S_iald rfl rfl ((congrFun V.1 356).trans s_356) rfl (by omega) (fun vz21 evz21 => ?_)
        exact LW_ireturn (st := []) rfl rfl rfl ⟨_, rfl, V, hG⟩
      by_cases vh22 : y2 = 4
      · refine S_tableIn (tgt := 96) (c := 4) rfl (hx2.trans vh22) (by decide) (by decide) rfl rfl ?_
        refine X_aload_n rfl rfl rfl rfl ?_
        refine X_getR (a := 356) rfl rfl rfl ((congrFun V.1 355).trans s_355) rfl ((congrFun (V.2.1 355 (by decide)) 0).trans r_355_0) ?_
        refine X_bipush (v := (90 : Int32)) rfl rfl rfl ?_
        refine X_iload_n rfl rfl rfl rfl ?_
        refine S_iadd rfl rfl (show (90 : Int32).toInt = 90 from rfl) hx1 (by omega) (fun vz23 hvz23 => ?_)
        refine S_iald rfl rfl ((congrFun V.1 356).trans s_356) rfl (by omega) (fun vz24 evz24 => ?_)
        exact LW_ireturn (st := []) rfl rfl rfl ⟨_, rfl, V, hG⟩
      by_cases vh25 : y2 = 5
      · refine S_tableIn (tgt := 106) (c := 5) rfl (hx2.trans vh25) (by decide) (by decide) rfl rfl ?_
        refine X_aload_n rfl rfl rfl rfl ?_
        refine X_iload_n rfl rfl rfl rfl ?_
        refine Y_callV (as := [.int x1]) (st := []) rfl rfl rfl (by decide) rfl (Nat.le_of_ble_eq_true rfl) (by decide) (Nat.le_of_ble_eq_true rfl) rfl ((congrFun V.1 355).trans s_355) (by decide) (C_X13_usesOf V x1 y1 hx1 (by omega) ) ?_
        rintro _ g' ⟨vr26, rfl, hgg⟩
        subst hgg
        exact LW_ireturn (st := []) rfl rfl rfl ⟨_, rfl, V, hG⟩
      by_cases vh27 : y2 = 6
      · refine S_tableIn (tgt := 112) (c := 6) rfl (hx2.trans vh27) (by decide) (by decide) rfl rfl ?_
        refine X_aload_n rfl rfl rfl rfl ?_
        refine X_iload_n rfl rfl rfl rfl ?_
        refine Y_callV (as := [.int x1]) (st := []) rfl rfl rfl (by decide) rfl (Nat.le_of_ble_eq_true rfl) (by decide) (Nat.le_of_ble_eq_true rfl) rfl ((congrFun V.1 355).trans s_355) (by decide) (C_X13_wouldChange V x1 y1 hx1 (by omega) ) ?_
        rintro _ g ⟨vr28, rfl, hrvr280, hrvr281, V, hq⟩
        have hG := hq.trans hG
        refine S_if_eq (tgt := 124) rfl rfl rfl rfl (fun vh29 => ?_) (fun vh29 => ?_)
        · refine X_iconst (v := (0 : Int32)) rfl rfl rfl ?_
          exact LW_ireturn (st := []) rfl rfl rfl ⟨_, rfl, V, hG⟩
        · refine X_iconst (v := (1 : Int32)) rfl rfl rfl ?_
          refine LW_goto (tgt := 125) rfl rfl ?_
          exact LW_ireturn (st := []) rfl rfl rfl ⟨_, rfl, V, hG⟩
      refine S_tableOut (tgt := 126) rfl hx2 (by omega) rfl ?_
      refine X_bipush (v := (-2 : Int32)) rfl rfl rfl ?_
      exact LW_ireturn (st := []) rfl rfl rfl ⟨_, rfl, V, hG⟩
