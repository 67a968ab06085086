/-! the reader: clauses, texts -/
set_option maxRecDepth 10000 in
set_option maxHeartbeats 40000000 in
theorem C_X13_lawClause {P : Par} {g : LH} {d : Nat}  (V : InvR P g) (x1 : Int32) (y1 : Int) (hx1 : x1.toInt = y1) (hf1 : 0 ≤ y1 ∧ y1 ≤ 3) (x2 : Int32) (y2 : Int) (hx2 : x2.toInt = y2) (hf2 : 1 ≤ y2 ∧ y2 ≤ 2873) (hq0 : 0 ≤ (Gi g 355 12).toInt) (hq1 : (Gi g 355 12).toInt ≤ (Gi g 355 11).toInt) (hq2 : (Gi g 355 11).toInt ≤ (Gi g 355 8).toInt) (hq3 : (Gi g 355 8).toInt ≤ 300) (hq4 : (Gi g 355 13).toInt = 0 ∨ (Gi g 355 12).toInt < (Gi g 355 11).toInt) (hq5 : 873 * (Gi g 356 4).toInt ≤ y2) (hq6 : vIX (y2)) (hq7 : (Gi g 355 16).toInt = 873 * (Gi g 356 4).toInt) (hq8 : (Gi g 356 4).toInt ≤ 3) (hq9 : 0 ≤ (Gi g 355 18).toInt) (hq10 : (Gi g 355 18).toInt ≤ (Gi g 355 12).toInt) (hq11 : 0 ≤ (Gi g 355 22).toInt ∧ (Gi g 355 22).toInt ≤ 8) (hq12 : (Gi g 355 16).toInt < y2) (hq13 : y2 ≤ (Gi g 355 16).toInt + 254)  : LW 231 (d + 40) 0 0 0 (lEnt (mL 231) [.ref 355, .int x1, .int x2]) [] g (fun v g' => ∃ r : Int32, v = some (.int r) ∧ 0 ≤ r.toInt ∧ r.toInt ≤ 5 ∧ InvR P g' ∧ Gr g' = Gr g ∧ (vSm vsd g' g ∧ vXb y2 g' g) ∧ (r.toInt = 0 → (((Gi g 355 12).toInt < (Gi g' 355 12).toInt) ∧ (0 ≤ (Gi g' 355 12).toInt) ∧ ((Gi g' 355 12).toInt ≤ (Gi g' 355 11).toInt) ∧ ((Gi g' 355 11).toInt ≤ (Gi g' 355 8).toInt) ∧ ((Gi g' 355 8).toInt ≤ 300) ∧ ((Gi g' 355 13).toInt = 0 ∨ (Gi g' 355 12).toInt < (Gi g' 355 11).toInt) ∧ ((Gi g' 355 16).toInt = (Gi g 355 16).toInt) ∧ ((Gi g 355 18).toInt ≤ (Gi g' 355 18).toInt) ∧ ((Gi g' 355 18).toInt + (Gi g 355 12).toInt ≤ (Gi g 355 18).toInt + (Gi g' 355 12).toInt) ∧ ((Gi g' 355 22).toInt = (Gi g 355 22).toInt))) ∧ (r.toInt = 0 → vLW (Gi g' 358) (Int.toNat (Gi g' 355 16).toInt + 265) (Int.toNat y2) (Gi g' 355 18).toInt)) := by
  have vix := hq6
  obtain ⟨vt, vc, vi1, vi2, vi3⟩ := vix
  refine LW_ls (ls' := [some (.ref 355), some (.int x1), some (.int x2), none]) rfl ?_
  have hG : Gr g = Gr g := rfl
  have hF : (vSm vsd g g ∧ vXb y2 g g) := And.intro vSm.refl vXb.refl
  obtain ⟨vz1, evz1⟩ : ∃ z, Gi g 355 12 = z := ⟨_, rfl⟩
  rw [evz1] at hq0
  rw [evz1] at hq1
  obtain ⟨vz2, evz2⟩ : ∃ z, Gi g 355 11 = z := ⟨_, rfl⟩
  rw [evz2] at hq1
  rw [evz2] at hq2
  obtain ⟨vz3, evz3⟩ : ∃ z, Gi g 355 8 = z := ⟨_, rfl⟩
  have vf4 := O_355_8 (V.2.2.2.2.2.2.1 355 (8) (Nat.le_of_ble_eq_true rfl))
  rw [evz3] at vf4
  rw [evz3] at hq2
  rw [evz3] at hq3
  obtain ⟨vz5, evz5⟩ : ∃ z, Gi g 355 13 = z := ⟨_, rfl⟩
  rw [evz5] at hq4
  rw [evz1] at hq4
  rw [evz2] at hq4
  obtain ⟨vz6, evz6⟩ : ∃ z, Gi g 356 4 = z := ⟨_, rfl⟩
  have vf7 := A_TEXTS (V.2.2.2.1 (4)) (by omega)
  rw [evz6] at vf7
  rw [evz6] at hq5
  obtain ⟨vz8, evz8⟩ : ∃ z, Gi g 355 16 = z := ⟨_, rfl⟩
  rw [evz8] at hq7
  rw [evz6] at hq7
  rw [evz6] at hq8
  obtain ⟨vz9, evz9⟩ : ∃ z, Gi g 355 18 = z := ⟨_, rfl⟩
  rw [evz9] at hq9
  rw [evz9] at hq10
  rw [evz1] at hq10
  obtain ⟨vz10, evz10⟩ : ∃ z, Gi g 355 22 = z := ⟨_, rfl⟩
  rw [evz10] at hq11
  rw [evz8] at hq12
  rw [evz8] at hq13
  have vo355_12 : (Gi g 355 12).toInt = vz1.toInt := congrArg Int32.toInt evz1
  have vo355_16 : (Gi g 355 16).toInt = vz8.toInt := congrArg Int32.toInt evz8
  have vo355_18 : (Gi g 355 18).toInt = vz9.toInt := congrArg Int32.toInt evz9
  have vo355_22 : (Gi g 355 22).toInt = vz10.toInt := congrArg Int32.toInt evz10
  refine X_aload_n rfl rfl rfl rfl ?_
  refine X_getR (a := 358) rfl rfl rfl ((congrFun V.1 355).trans s_355) rfl ((congrFun (V.2.1 355 (by decide)) 2).trans r_355_2) ?_
  refine X_iload_n rfl rfl rfl rfl ?_
  refine X_iconst (v := (1 : Int32)) rfl rfl rfl ?_
  refine S_iadd rfl rfl hx2 (show (1 : Int32).toInt = 1 from rfl) (by omega) (fun vz11 hvz11 => ?_)
  refine X_aload_n rfl rfl rfl rfl ?_
  refine X_getI (v := vz9) rfl rfl rfl ((congrFun V.1 355).trans s_355) rfl evz9 ?_
  refine S_iast (I := InvR _) rfl rfl ((congrFun V.1 358).trans s_358) rfl (by omega) (InvR_putX V (by rw [evz6] <;> omega) (vokT_row (t := vt) (c := vc) (m := 1) (by omega) vi2 (by decide) (fun vh' => absurd vh' (by decide)))) (fun g V ve12 vn13 hq => ?_)
  have hG := hq.trans hG
  have hF := And.intro (vSm.putN hF.1 vn13 (by unfold vsd; omega)) (vXb.put hF.2 vn13 (by omega))
  have evz1 := (vn13 (355) 12 (Or.inl (by decide))).trans evz1
  have evz2 := (vn13 (355) 11 (Or.inl (by decide))).trans evz2
  have evz3 := (vn13 (355) 8 (Or.inl (by decide))).trans evz3
  have evz5 := (vn13 (355) 13 (Or.inl (by decide))).trans evz5
  have evz6 := (vn13 (356) 4 (Or.inl (by decide))).trans evz6
  have evz8 := (vn13 (355) 16 (Or.inl (by decide))).trans evz8
  have evz9 := (vn13 (355) 18 (Or.inl (by decide))).trans evz9
  have evz10 := (vn13 (355) 22 (Or.inl (by decide))).trans evz10
  have va14 := fun (k : Nat) (vh' : k ≠ (vz11.toInt : Int).toNat) => vn13 358 k (Or.inr vh')
  have va15 := ve12
  refine X_iload_n rfl rfl rfl rfl ?_
  refine X_iconst (v := (2 : Int32)) rfl rfl rfl ?_
  refine S_icmp_ne (tgt := 24) rfl rfl rfl hx1 (show (2 : Int32).toInt = 2 from rfl) (fun vh16 => ?_) (fun vh16 => ?_)
  · refine X_aload_n rfl rfl rfl rfl ?_
    have vo355_12 : (Gi g 355 12).toInt = vz1.toInt := congrArg Int32.toInt evz1
    have vo355_16 : (Gi g 355 16).toInt = vz8.toInt := congrArg Int32.toInt evz8
    have vo355_18 : (Gi g 355 18).toInt = vz9.toInt := congrArg Int32.toInt evz9
    have vo355_22 : (Gi g 355 22).toInt = vz10.toInt := congrArg Int32.toInt evz10
    refine Y_callV (as := []) (st := []) rfl rfl rfl (by decide) rfl (Nat.le_of_ble_eq_true rfl) (by decide) (Nat.le_of_ble_eq_true rfl) rfl ((congrFun V.1 355).trans s_355) (by decide) (C_X13_either (vs := Int.toNat vz9.toInt) (vn := 0) (vt := 0) V  (by rw [evz1] <;> omega) (by rw [evz1, evz2] <;> omega) (by rw [evz2, evz3] <;> omega) (by rw [evz3] <;> omega) (by rw [evz5, evz1, evz2] <;> omega) (by rw [evz8, evz6] <;> omega) (by rw [evz6] <;> omega) (by rw [evz9] <;> omega) (by rw [evz9, evz1] <;> omega) (by rw [evz10] <;> omega) (by rw [evz8, evz9]; exact (vKK.nil))) ?_
    rintro _ g ⟨vr17, rfl, hrvr170, hrvr171, V, hq, chF, vq18, vq19⟩
    have hG := hq.trans hG
    have evz3 := (chF.1 355 8 (by decide)).trans evz3
    have evz6 := (chF.1 356 4 (by decide)).trans evz6
    have evz8 := (chF.1 355 16 (by decide)).trans evz8
    have hF := And.intro (vSm.tr chF.1 (vi_ vsd) hF.1) (vXb.cd hF.2 chF.2 (by omega))
    obtain ⟨vz20, evz20⟩ : ∃ z, Gi g 355 12 = z := ⟨_, rfl⟩
    rw [evz20] at vq18
    obtain ⟨vz21, evz21⟩ : ∃ z, Gi g 355 11 = z := ⟨_, rfl⟩
    rw [evz21] at vq18
    rw [evz3] at vq18
    obtain ⟨vz22, evz22⟩ : ∃ z, Gi g 355 13 = z := ⟨_, rfl⟩
    rw [evz22] at vq18
    rw [evz8] at vq18
    obtain ⟨vz23, evz23⟩ : ∃ z, Gi g 355 18 = z := ⟨_, rfl⟩
    rw [evz23] at vq18
    obtain ⟨vz24, evz24⟩ : ∃ z, Gi g 355 22 = z := ⟨_, rfl⟩
    rw [evz24] at vq18
    rw [evz8] at vq19
    rw [evz23] at vq19
    have vl25 := (chF.2 _ (by omega)).trans va15
    refine X_istore_n (i := 3) (ls' := [some (.ref 355), some (.int x1), some (.int x2), some (.int vr17)]) rfl rfl rfl (Nat.le_of_ble_eq_true rfl) rfl ?_
    refine X_aload_n rfl rfl rfl rfl ?_
    refine X_getR (a := 358) rfl rfl rfl ((congrFun V.1 355).trans s_355) rfl ((congrFun (V.2.1 355 (by decide)) 2).trans r_355_2) ?_
    refine X_iload_n rfl rfl rfl rfl ?_
    refine X_iconst (v := (2 : Int32)) rfl rfl rfl ?_
    refine S_iadd rfl rfl hx2 (show (2 : Int32).toInt = 2 from rfl) (by omega) (fun vz26 hvz26 => ?_)
    refine X_aload_n rfl rfl rfl rfl ?_
    refine X_getI (v := vz23) rfl rfl rfl ((congrFun V.1 355).trans s_355) rfl evz23 ?_
    refine S_iast (I := InvR _) rfl rfl ((congrFun V.1 358).trans s_358) rfl (by omega) (InvR_putX V (by rw [evz6] <;> omega) (vokT_row (t := vt) (c := vc) (m := 2) (by omega) vi2 (by decide) (fun vh' => absurd vh' (by decide)))) (fun g V ve27 vn28 hq => ?_)
    have hG := hq.trans hG
    have hF := And.intro (vSm.putN hF.1 vn28 (by unfold vsd; omega)) (vXb.put hF.2 vn28 (by omega))
    have evz3 := (vn28 (355) 8 (Or.inl (by decide))).trans evz3
    have evz6 := (vn28 (356) 4 (Or.inl (by decide))).trans evz6
    have evz8 := (vn28 (355) 16 (Or.inl (by decide))).trans evz8
    have evz20 := (vn28 (355) 12 (Or.inl (by decide))).trans evz20
    have evz21 := (vn28 (355) 11 (Or.inl (by decide))).trans evz21
    have evz22 := (vn28 (355) 13 (Or.inl (by decide))).trans evz22
    have evz23 := (vn28 (355) 18 (Or.inl (by decide))).trans evz23
    have evz24 := (vn28 (355) 22 (Or.inl (by decide))).trans evz24
    have va29 := fun (k : Nat) (vh' : k ≠ (vz26.toInt : Int).toNat) => vn28 358 k (Or.inr vh')
    have va30 := ve27
    refine X_iload_n rfl rfl rfl rfl ?_
    have hr := (rfl : vr17.toInt = vr17.toInt)
    exact LW_ireturn (st := []) rfl rfl rfl ⟨_, rfl, by omega, by omega, V, hG, hF, (by rw [evz20, evz21, evz3, evz22, evz8, evz23, evz24] <;> omega), (by rw [evz8, evz23]; exact (fun vh => vLW.mk (vq19 vh) vl25 va30 va29 (by omega) (by omega) (by omega) rfl (by omega) (by omega)))⟩
  · refine X_aload_n rfl rfl rfl rfl ?_
    have vo355_12 : (Gi g 355 12).toInt = vz1.toInt := congrArg Int32.toInt evz1
    have vo355_16 : (Gi g 355 16).toInt = vz8.toInt := congrArg Int32.toInt evz8
    have vo355_18 : (Gi g 355 18).toInt = vz9.toInt := congrArg Int32.toInt evz9
    have vo355_22 : (Gi g 355 22).toInt = vz10.toInt := congrArg Int32.toInt evz10
    refine Y_callV (as := []) (st := []) rfl rfl rfl (by decide) rfl (Nat.le_of_ble_eq_true rfl) (by decide) (Nat.le_of_ble_eq_true rfl) rfl ((congrFun V.1 355).trans s_355) (by decide) (C_X13_summed (vs := Int.toNat vz9.toInt) (vn := 0) (vt := 0) V  (by rw [evz1] <;> omega) (by rw [evz1, evz2] <;> omega) (by rw [evz2, evz3] <;> omega) (by rw [evz3] <;> omega) (by rw [evz5, evz1, evz2] <;> omega) (by rw [evz8, evz6] <;> omega) (by rw [evz6] <;> omega) (by rw [evz9] <;> omega) (by rw [evz9, evz1] <;> omega) (by rw [evz10] <;> omega) (by rw [evz8, evz9]; exact (vKK.nil))) ?_
    rintro _ g ⟨vr31, rfl, hrvr310, hrvr311, V, hq, chF, vq32, vq33⟩
    have hG := hq.trans hG
    have evz3 := (chF.1 355 8 (by decide)).trans evz3
    have evz6 := (chF.1 356 4 (by decide)).trans evz6
    have evz8 := (chF.1 355 16 (by decide)).trans evz8
    have hF := And.intro (vSm.tr chF.1 (vi_ vsd) hF.1) (vXb.cd hF.2 chF.2 (by omega))
    obtain ⟨vz34, evz34⟩ : ∃ z, Gi g 355 12 = z := ⟨_, rfl⟩
    rw [evz34] at vq32
    obtain ⟨vz35, evz35⟩ : ∃ z, Gi g 355 11 = z := ⟨_, rfl⟩
    rw [evz35] at vq32
    rw [evz3] at vq32
    obtain ⟨vz36, evz36⟩ : ∃ z, Gi g 355 13 = z := ⟨_, rfl⟩
    rw [evz36] at vq32
    rw [evz8] at vq32
    obtain ⟨vz37, evz37⟩ : ∃ z, Gi g 355 18 = z := ⟨_, rfl⟩
    rw [evz37] at vq32
    obtain ⟨vz38, evz38⟩ : ∃ z, Gi g 355 22 = z := ⟨_, rfl⟩
    rw [evz38] at vq32
    rw [evz8] at vq33
    rw [evz37] at vq33
    have vl39 := (chF.2 _ (by omega)).trans va15
    refine LW_goto (tgt := 28) rfl rfl ?_
    refine X_istore_n (i := 3) (ls' := [some (.ref 355), some (.int x1), some (.int x2), some (.int vr31)]) rfl rfl rfl (Nat.le_of_ble_eq_true rfl) rfl ?_
    refine X_aload_n rfl rfl rfl rfl ?_
    refine X_getR (a := 358) rfl rfl rfl ((congrFun V.1 355).trans s_355) rfl ((congrFun (V.2.1 355 (by decide)) 2).trans r_355_2) ?_
    refine X_iload_n rfl rfl rfl rfl ?_
    refine X_iconst (v := (2 : Int32)) rfl rfl rfl ?_
    refine S_iadd rfl rfl hx2 (show (2 : Int32).toInt = 2 from rfl) (by omega) (fun vz40 hvz40 => ?_)
    refine X_aload_n rfl rfl rfl rfl ?_
    refine X_getI (v := vz37) rfl rfl rfl ((congrFun V.1 355).trans s_355) rfl evz37 ?_
    refine S_iast (I := InvR _) rfl rfl ((congrFun V.1 358).trans s_358) rfl (by omega) (InvR_putX V (by rw [evz6] <;> omega) (vokT_row (t := vt) (c := vc) (m := 2) (by omega) vi2 (by decide) (fun vh' => absurd vh' (by decide)))) (fun g V ve41 vn42 hq => ?_)
    have hG := hq.trans hG
    have hF := And.intro (vSm.putN hF.1 vn42 (by unfold vsd; omega)) (vXb.put hF.2 vn42 (by omega))
    have evz3 := (vn42 (355) 8 (Or.inl (by decide))).trans evz3
    have evz6 := (vn42 (356) 4 (Or.inl (by decide))).trans evz6
    have evz8 := (vn42 (355) 16 (Or.inl (by decide))).trans evz8
    have evz34 := (vn42 (355) 12 (Or.inl (by decide))).trans evz34
    have evz35 := (vn42 (355) 11 (Or.inl (by decide))).trans evz35
    have evz36 := (vn42 (355) 13 (Or.inl (by decide))).trans evz36
    have evz37 := (vn42 (355) 18 (Or.inl (by decide))).trans evz37
    have evz38 := (vn42 (355) 22 (Or.inl (by decide))).trans evz38
    have va43 := fun (k : Nat) (vh' : k ≠ (vz40.toInt : Int).toNat) => vn42 358 k (Or.inr vh')
    have va44 := ve41
    refine X_iload_n rfl rfl rfl rfl ?_
    have hr := (rfl : vr31.toInt = vr31.toInt)
    exact LW_ireturn (st := []) rfl rfl rfl ⟨_, rfl, by omega, by omega, V, hG, hF, (by rw [evz34, evz35, evz3, evz36, evz8, evz37, evz38] <;> omega), (by rw [evz8, evz37]; exact (fun vh => vLW.mk (vq33 vh) vl39 va44 va43 (by omega) (by omega) (by omega) rfl (by omega) (by omega)))⟩
set_option maxRecDepth 10000 in
set_option maxHeartbeats 40000000 in
theorem C_X13_body {P : Par} {g : LH} {d : Nat}  (V : InvR P g) (x1 : Int32) (y1 : Int) (hx1 : x1.toInt = y1) (hf1 : 0 ≤ y1 ∧ y1 ≤ 12) (x2 : Int32) (y2 : Int) (hx2 : x2.toInt = y2) (hf2 : 1 ≤ y2 ∧ y2 ≤ 2873) (hq0 : 0 ≤ (Gi g 355 12).toInt) (hq1 : (Gi g 355 12).toInt ≤ (Gi g 355 11).toInt) (hq2 : (Gi g 355 11).toInt ≤ (Gi g 355 8).toInt) (hq3 : (Gi g 355 8).toInt ≤ 300) (hq4 : (Gi g 355 13).toInt = 0 ∨ (Gi g 355 12).toInt < (Gi g 355 11).toInt) (hq5 : 873 * (Gi g 356 4).toInt ≤ y2) (hq6 : vIX (y2)) (hq7 : (Gi g 355 16).toInt = 873 * (Gi g 356 4).toInt) (hq8 : (Gi g 356 4).toInt ≤ 3) (hq9 : 0 ≤ (Gi g 355 18).toInt) (hq10 : (Gi g 355 18).toInt ≤ (Gi g 355 12).toInt) (hq11 : 0 ≤ (Gi g 355 22).toInt ∧ (Gi g 355 22).toInt ≤ 8) (hq12 : (Gi g 355 16).toInt < y2) (hq13 : y2 ≤ (Gi g 355 16).toInt + 254)  : LW 232 (d + 46) 0 0 0 (lEnt (mL 232) [.ref 355, .int x1, .int x2]) [] g (fun v g' => ∃ r : Int32, v = some (.int r) ∧ 0 ≤ r.toInt ∧ r.toInt ≤ 8 ∧ InvR P g' ∧ Gr g' = Gr g ∧ (vSm vsd g' g ∧ vXb y2 g' g) ∧ (r.toInt = 0 → (((Gi g 355 12).toInt < (Gi g' 355 12).toInt) ∧ (0 ≤ (Gi g' 355 12).toInt) ∧ ((Gi g' 355 12).toInt ≤ (Gi g' 355 11).toInt) ∧ ((Gi g' 355 11).toInt ≤ (Gi g' 355 8).toInt) ∧ ((Gi g' 355 8).toInt ≤ 300) ∧ ((Gi g' 355 13).toInt = 0 ∨ (Gi g' 355 12).toInt < (Gi g' 355 11).toInt) ∧ ((Gi g' 355 16).toInt = (Gi g 355 16).toInt) ∧ ((Gi g 355 18).toInt ≤ (Gi g' 355 18).toInt) ∧ ((Gi g' 355 18).toInt + (Gi g 355 12).toInt ≤ (Gi g 355 18).toInt + (Gi g' 355 12).toInt) ∧ ((Gi g' 355 22).toInt = (Gi g 355 22).toInt))) ∧ (r.toInt = 0 → vBW (y1) (Gi g' 358) (Int.toNat (Gi g' 355 16).toInt + 265) (Int.toNat y2) (Gi g' 355 18).toInt)) := by
  have vix := hq6
  obtain ⟨vt, vc, vi1, vi2, vi3⟩ := vix
  refine LW_ls (ls' := [some (.ref 355), some (.int x1), some (.int x2)]) rfl ?_
  have hG : Gr g = Gr g := rfl
  have hF : (vSm vsd g g ∧ vXb y2 g g) := And.intro vSm.refl vXb.refl
  obtain ⟨vz1, evz1⟩ : ∃ z, Gi g 355 12 = z := ⟨_, rfl⟩
  rw [evz1] at hq0
  rw [evz1] at hq1
  obtain ⟨vz2, evz2⟩ : ∃ z, Gi g 355 11 = z := ⟨_, rfl⟩
  rw [evz2] at hq1
  rw [evz2] at hq2
  obtain ⟨vz3, evz3⟩ : ∃ z, Gi g 355 8 = z := ⟨_, rfl⟩
  have vf4 := O_355_8 (V.2.2.2.2.2.2.1 355 (8) (Nat.le_of_ble_eq_true rfl))
  rw [evz3] at vf4
  rw [evz3] at hq2
  rw [evz3] at hq3
  obtain ⟨vz5, evz5⟩ : ∃ z, Gi g 355 13 = z := ⟨_, rfl⟩
  rw [evz5] at hq4
  rw [evz1] at hq4
  rw [evz2] at hq4
  obtain ⟨vz6, evz6⟩ : ∃ z, Gi g 356 4 = z := ⟨_, rfl⟩
  have vf7 := A_TEXTS (V.2.2.2.1 (4)) (by omega)
  rw [evz6] at vf7
  rw [evz6] at hq5
  obtain ⟨vz8, evz8⟩ : ∃ z, Gi g 355 16 = z := ⟨_, rfl⟩
  rw [evz8] at hq7
  rw [evz6] at hq7
  rw [evz6] at hq8
  obtain ⟨vz9, evz9⟩ : ∃ z, Gi g 355 18 = z := ⟨_, rfl⟩
  rw [evz9] at hq9
  rw [evz9] at hq10
  rw [evz1] at hq10
  obtain ⟨vz10, evz10⟩ : ∃ z, Gi g 355 22 = z := ⟨_, rfl⟩
  rw [evz10] at hq11
  rw [evz8] at hq12
  rw [evz8] at hq13
  have vo355_12 : (Gi g 355 12).toInt = vz1.toInt := congrArg Int32.toInt evz1
  have vo355_16 : (Gi g 355 16).toInt = vz8.toInt := congrArg Int32.toInt evz8
  have vo355_18 : (Gi g 355 18).toInt = vz9.toInt := congrArg Int32.toInt evz9
  have vo355_22 : (Gi g 355 22).toInt = vz10.toInt := congrArg Int32.toInt evz10
  refine X_iload_n rfl rfl rfl rfl ?_
  by_cases vh11 : y1 = 4
  · refine S_tableIn (tgt := 52) (c := 4) rfl (hx1.trans vh11) (by decide) (by decide) rfl rfl ?_
    refine X_aload_n rfl rfl rfl rfl ?_
    refine X_iload_n rfl rfl rfl rfl ?_
    have vo355_12 : (Gi g 355 12).toInt = vz1.toInt := congrArg Int32.toInt evz1
    refine Y_callV (as := [.int x2]) (st := []) rfl rfl rfl (by decide) rfl (Nat.le_of_ble_eq_true rfl) (by decide) (Nat.le_of_ble_eq_true rfl) rfl ((congrFun V.1 355).trans s_355) (by decide) (C_X13_wordClause V x2 y2 hx2 (by omega) (by rw [evz1] <;> omega) (by rw [evz1, evz2] <;> omega) (by rw [evz2, evz3] <;> omega) (by rw [evz3] <;> omega) (by rw [evz5, evz1, evz2] <;> omega) (by rw [evz6] <;> omega) (hq6)) ?_
    rintro _ g ⟨vr12, rfl, hrvr120, hrvr121, V, hq, chF, vq13⟩
    have hG := hq.trans hG
    have evz3 := (chF.1 355 8 (by decide)).trans evz3
    have evz6 := (chF.1 356 4 (by decide)).trans evz6
    have evz8 := (chF.1 355 16 (by decide)).trans evz8
    have evz9 := (chF.1 355 18 (by decide)).trans evz9
    have evz10 := (chF.1 355 22 (by decide)).trans evz10
    have hF := And.intro (vSm.tr chF.1 vi_de hF.1) (vXb.nine hF.2 chF.2 (by omega))
    obtain ⟨vz14, evz14⟩ : ∃ z, Gi g 355 12 = z := ⟨_, rfl⟩
    rw [evz14] at vq13
    obtain ⟨vz15, evz15⟩ : ∃ z, Gi g 355 11 = z := ⟨_, rfl⟩
    rw [evz15] at vq13
    rw [evz3] at vq13
    obtain ⟨vz16, evz16⟩ : ∃ z, Gi g 355 13 = z := ⟨_, rfl⟩
    rw [evz16] at vq13
    have hr := (rfl : vr12.toInt = vr12.toInt)
    exact LW_ireturn (st := []) rfl rfl rfl ⟨_, rfl, by omega, by omega, V, hG, hF, (by rw [evz14, evz15, evz3, evz16, evz8, evz9, evz10] <;> omega), (by rw [evz8, evz9]; exact (fun _ => vBW.no (by omega) (by omega)))⟩
  by_cases vh17 : y1 = 5
  · refine S_tableIn (tgt := 58) (c := 5) rfl (hx1.trans vh17) (by decide) (by decide) rfl rfl ?_
    refine X_aload_n rfl rfl rfl rfl ?_
    refine X_iload_n rfl rfl rfl rfl ?_
    have vo355_12 : (Gi g 355 12).toInt = vz1.toInt := congrArg Int32.toInt evz1
    refine Y_callV (as := [.int x2]) (st := []) rfl rfl rfl (by decide) rfl (Nat.le_of_ble_eq_true rfl) (by decide) (Nat.le_of_ble_eq_true rfl) rfl ((congrFun V.1 355).trans s_355) (by decide) (C_X13_sayClause V x2 y2 hx2 (by omega) (by rw [evz1] <;> omega) (by rw [evz1, evz2] <;> omega) (by rw [evz2, evz3] <;> omega) (by rw [evz3] <;> omega) (by rw [evz5, evz1, evz2] <;> omega) (by rw [evz6] <;> omega) (hq6)) ?_
    rintro _ g ⟨vr18, rfl, hrvr180, hrvr181, V, hq, chF, vq19, vq20⟩
    have hG := hq.trans hG
    have evz3 := (chF.1 355 8 (by decide)).trans evz3
    have evz6 := (chF.1 356 4 (by decide)).trans evz6
    have evz8 := (chF.1 355 16 (by decide)).trans evz8
    have evz9 := (chF.1 355 18 (by decide)).trans evz9
    have evz10 := (chF.1 355 22 (by decide)).trans evz10
    have hF := And.intro (vSm.tr chF.1 vi_de hF.1) (vXb.nine hF.2 chF.2 (by omega))
    obtain ⟨vz21, evz21⟩ : ∃ z, Gi g 355 12 = z := ⟨_, rfl⟩
    rw [evz21] at vq19
    obtain ⟨vz22, evz22⟩ : ∃ z, Gi g 355 11 = z := ⟨_, rfl⟩
    rw [evz22] at vq19
    rw [evz3] at vq19
    obtain ⟨vz23, evz23⟩ : ∃ z, Gi g 355 13 = z := ⟨_, rfl⟩
    rw [evz23] at vq19
    have hr := (rfl : vr18.toInt = vr18.toInt)
    exact LW_ireturn (st := []) rfl rfl rfl ⟨_, rfl, by omega, by omega, V, hG, hF, (by rw [evz21, evz22, evz3, evz23, evz8, evz9, evz10] <;> omega), (by rw [evz8, evz9]; exact (fun vh => vBW.say (vq20 vh) (by omega) (by omega)))⟩
  by_cases vh24 : y1 = 6
  · refine S_tableIn (tgt := 64) (c := 6) rfl (hx1.trans vh24) (by decide) (by decide) rfl rfl ?_
    refine X_aload_n rfl rfl rfl rfl ?_
    refine X_iload_n rfl rfl rfl rfl ?_
    have vo355_12 : (Gi g 355 12).toInt = vz1.toInt := congrArg Int32.toInt evz1
    refine Y_callV (as := [.int x2]) (st := []) rfl rfl rfl (by decide) rfl (Nat.le_of_ble_eq_true rfl) (by decide) (Nat.le_of_ble_eq_true rfl) rfl ((congrFun V.1 355).trans s_355) (by decide) (C_X13_tieClause V x2 y2 hx2 (by omega) (by rw [evz1] <;> omega) (by rw [evz1, evz2] <;> omega) (by rw [evz2, evz3] <;> omega) (by rw [evz3] <;> omega) (by rw [evz5, evz1, evz2] <;> omega) (by rw [evz6] <;> omega) (hq6)) ?_
    rintro _ g ⟨vr25, rfl, hrvr250, hrvr251, V, hq, chF, vq26⟩
    have hG := hq.trans hG
    have evz3 := (chF.1 355 8 (by decide)).trans evz3
    have evz6 := (chF.1 356 4 (by decide)).trans evz6
    have evz8 := (chF.1 355 16 (by decide)).trans evz8
    have evz9 := (chF.1 355 18 (by decide)).trans evz9
    have evz10 := (chF.1 355 22 (by decide)).trans evz10
    have hF := And.intro (vSm.tr chF.1 vi_de hF.1) (vXb.nine hF.2 chF.2 (by omega))
    obtain ⟨vz27, evz27⟩ : ∃ z, Gi g 355 12 = z := ⟨_, rfl⟩
    rw [evz27] at vq26
    obtain ⟨vz28, evz28⟩ : ∃ z, Gi g 355 11 = z := ⟨_, rfl⟩
    rw [evz28] at vq26
    rw [evz3] at vq26
    obtain ⟨vz29, evz29⟩ : ∃ z, Gi g 355 13 = z := ⟨_, rfl⟩
    rw [evz29] at vq26
    have hr := (rfl : vr25.toInt = vr25.toInt)
    exact LW_ireturn (st := []) rfl rfl rfl ⟨_, rfl, by omega, by omega, V, hG, hF, (by rw [evz27, evz28, evz3, evz29, evz8, evz9, evz10] <;> omega), (by rw [evz8, evz9]; exact (fun _ => vBW.no (by omega) (by omega)))⟩
  by_cases vh30 : y1 = 7
  · refine S_tableIn (tgt := 70) (c := 7) rfl (hx1.trans vh30) (by decide) (by decide) rfl rfl ?_
    refine X_aload_n rfl rfl rfl rfl ?_
    refine X_iload_n rfl rfl rfl rfl ?_
    refine X_iconst (v := (1 : Int32)) rfl rfl rfl ?_
    refine S_iadd rfl rfl hx2 (show (1 : Int32).toInt = 1 from rfl) (by omega) (fun vz31 hvz31 => ?_)
    have vo355_12 : (Gi g 355 12).toInt = vz1.toInt := congrArg Int32.toInt evz1
    refine Y_callV (as := [.int vz31]) (st := []) rfl rfl rfl (by decide) rfl (Nat.le_of_ble_eq_true rfl) (by decide) (Nat.le_of_ble_eq_true rfl) rfl ((congrFun V.1 355).trans s_355) (by decide) (C_X13_letters V vz31 vz31.toInt rfl (by omega) (by rw [evz1] <;> omega) (by rw [evz1, evz2] <;> omega) (by rw [evz2, evz3] <;> omega) (by rw [evz3] <;> omega) (by rw [evz5, evz1, evz2] <;> omega) (by rw [evz6] <;> omega) (fun v => vokT_row (t := vt) (c := vc) (m := 1) (by omega) vi2 (by decide) (fun vh' => absurd vh' (by decide)))) ?_
    rintro _ g ⟨vr32, rfl, hrvr320, hrvr321, V, hq, chF, vq33⟩
    have hG := hq.trans hG
    have evz3 := (chF.1 355 8 (by decide)).trans evz3
    have evz6 := (chF.1 356 4 (by decide)).trans evz6
    have evz8 := (chF.1 355 16 (by decide)).trans evz8
    have evz9 := (chF.1 355 18 (by decide)).trans evz9
    have evz10 := (chF.1 355 22 (by decide)).trans evz10
    have hF := And.intro (vSm.tr chF.1 vi_de hF.1) (vXb.one hF.2 chF.2 (by omega))
    obtain ⟨vz34, evz34⟩ : ∃ z, Gi g 355 12 = z := ⟨_, rfl⟩
    rw [evz34] at vq33
    obtain ⟨vz35, evz35⟩ : ∃ z, Gi g 355 11 = z := ⟨_, rfl⟩
    rw [evz35] at vq33
    rw [evz3] at vq33
    obtain ⟨vz36, evz36⟩ : ∃ z, Gi g 355 13 = z := ⟨_, rfl⟩
    rw [evz36] at vq33
    have hr := (rfl : vr32.toInt = vr32.toInt)
    exact LW_ireturn (st := []) rfl rfl rfl ⟨_, rfl, by omega, by omega, V, hG, hF, (by rw [evz34, evz35, evz3, evz36, evz8, evz9, evz10] <;> omega), (by rw [evz8, evz9]; exact (fun _ => vBW.no (by omega) (by omega)))⟩
  by_cases vh37 : y1 = 8
  · refine S_tableIn (tgt := 78) (c := 8) rfl (hx1.trans vh37) (by decide) (by decide) rfl rfl ?_
    refine X_aload_n rfl rfl rfl rfl ?_
    refine X_iload_n rfl rfl rfl rfl ?_
    refine X_iconst (v := (1 : Int32)) rfl rfl rfl ?_
    refine S_iadd rfl rfl hx2 (show (1 : Int32).toInt = 1 from rfl) (by omega) (fun vz38 hvz38 => ?_)
    have vo355_12 : (Gi g 355 12).toInt = vz1.toInt := congrArg Int32.toInt evz1
    refine Y_callV (as := [.int vz38]) (st := []) rfl rfl rfl (by decide) rfl (Nat.le_of_ble_eq_true rfl) (by decide) (Nat.le_of_ble_eq_true rfl) rfl ((congrFun V.1 355).trans s_355) (by decide) (C_X13_letters V vz38 vz38.toInt rfl (by omega) (by rw [evz1] <;> omega) (by rw [evz1, evz2] <;> omega) (by rw [evz2, evz3] <;> omega) (by rw [evz3] <;> omega) (by rw [evz5, evz1, evz2] <;> omega) (by rw [evz6] <;> omega) (fun v => vokT_row (t := vt) (c := vc) (m := 1) (by omega) vi2 (by decide) (fun vh' => absurd vh' (by decide)))) ?_
    rintro _ g ⟨vr39, rfl, hrvr390, hrvr391, V, hq, chF, vq40⟩
    have hG := hq.trans hG
    have evz3 := (chF.1 355 8 (by decide)).trans evz3
    have evz6 := (chF.1 356 4 (by decide)).trans evz6
    have evz8 := (chF.1 355 16 (by decide)).trans evz8
    have evz9 := (chF.1 355 18 (by decide)).trans evz9
    have evz10 := (chF.1 355 22 (by decide)).trans evz10
    have hF := And.intro (vSm.tr chF.1 vi_de hF.1) (vXb.one hF.2 chF.2 (by omega))
    obtain ⟨vz41, evz41⟩ : ∃ z, Gi g 355 12 = z := ⟨_, rfl⟩
    rw [evz41] at vq40
    obtain ⟨vz42, evz42⟩ : ∃ z, Gi g 355 11 = z := ⟨_, rfl⟩
    rw [evz42] at vq40
    rw [evz3] at vq40
    obtain ⟨vz43, evz43⟩ : ∃ z, Gi g 355 13 = z := ⟨_, rfl⟩
    rw [evz43] at vq40
    have hr := (rfl : vr39.toInt = vr39.toInt)
    exact LW_ireturn (st := []) rfl rfl rfl ⟨_, rfl, by omega, by omega, V, hG, hF, (by rw [evz41, evz42, evz3, evz43, evz8, evz9, evz10] <;> omega), (by rw [evz8, evz9]; exact (fun _ => vBW.no (by omega) (by omega)))⟩
  by_cases vh44 : y1 = 9
  · refine S_tableIn (tgt := 86) (c := 9) rfl (hx1.trans vh44) (by decide) (by decide) rfl rfl ?_
    refine X_aload_n rfl rfl rfl rfl ?_
    refine X_iload_n rfl rfl rfl rfl ?_
    have vo355_12 : (Gi g 355 12).toInt = vz1.toInt := congrArg Int32.toInt evz1
    refine Y_callV (as := [.int x2]) (st := []) rfl rfl rfl (by decide) rfl (Nat.le_of_ble_eq_true rfl) (by decide) (Nat.le_of_ble_eq_true rfl) rfl ((congrFun V.1 355).trans s_355) (by decide) (C_X13_raiseClause V x2 y2 hx2 (by omega) (by rw [evz1] <;> omega) (by rw [evz1, evz2] <;> omega) (by rw [evz2, evz3] <;> omega) (by rw [evz3] <;> omega) (by rw [evz5, evz1, evz2] <;> omega) (by rw [evz6] <;> omega) (hq6)) ?_
    rintro _ g ⟨vr45, rfl, hrvr450, hrvr451, V, hq, chF, vq46⟩
    have hG := hq.trans hG
    have evz3 := (chF.1 355 8 (by decide)).trans evz3
    have evz6 := (chF.1 356 4 (by decide)).trans evz6
    have evz8 := (chF.1 355 16 (by decide)).trans evz8
    have evz9 := (chF.1 355 18 (by decide)).trans evz9
    have evz10 := (chF.1 355 22 (by decide)).trans evz10
    have hF := And.intro (vSm.tr chF.1 vi_de hF.1) (vXb.nine hF.2 chF.2 (by omega))
    obtain ⟨vz47, evz47⟩ : ∃ z, Gi g 355 12 = z := ⟨_, rfl⟩
    rw [evz47] at vq46
    obtain ⟨vz48, evz48⟩ : ∃ z, Gi g 355 11 = z := ⟨_, rfl⟩
    rw [evz48] at vq46
    rw [evz3] at vq46
    obtain ⟨vz49, evz49⟩ : ∃ z, Gi g 355 13 = z := ⟨_, rfl⟩
    rw [evz49] at vq46
    have hr := (rfl : vr45.toInt = vr45.toInt)
    exact LW_ireturn (st := []) rfl rfl rfl ⟨_, rfl, by omega, by omega, V, hG, hF, (by rw [evz47, evz48, evz3, evz49, evz8, evz9, evz10] <;> omega), (by rw [evz8, evz9]; exact (fun _ => vBW.no (by omega) (by omega)))⟩
  by_cases vh50 : y1 = 10
  · refine S_tableIn (tgt := 92) (c := 10) rfl (hx1.trans vh50) (by decide) (by decide) rfl rfl ?_
    refine X_aload_n rfl rfl rfl rfl ?_
    refine X_iload_n rfl rfl rfl rfl ?_
    have vo355_12 : (Gi g 355 12).toInt = vz1.toInt := congrArg Int32.toInt evz1
    refine Y_callV (as := [.int x2]) (st := []) rfl rfl rfl (by decide) rfl (Nat.le_of_ble_eq_true rfl) (by decide) (Nat.le_of_ble_eq_true rfl) rfl ((congrFun V.1 355).trans s_355) (by decide) (C_X13_signClause V x2 y2 hx2 (by omega) (by rw [evz1] <;> omega) (by rw [evz1, evz2] <;> omega) (by rw [evz2, evz3] <;> omega) (by rw [evz3] <;> omega) (by rw [evz5, evz1, evz2] <;> omega) (by rw [evz6] <;> omega) (hq6)) ?_
    rintro _ g ⟨vr51, rfl, hrvr510, hrvr511, V, hq, chF, vq52⟩
    have hG := hq.trans hG
    have evz3 := (chF.1 355 8 (by decide)).trans evz3
    have evz6 := (chF.1 356 4 (by decide)).trans evz6
    have evz8 := (chF.1 355 16 (by decide)).trans evz8
    have evz9 := (chF.1 355 18 (by decide)).trans evz9
    have evz10 := (chF.1 355 22 (by decide)).trans evz10
    have hF := And.intro (vSm.tr chF.1 vi_de hF.1) (vXb.nine hF.2 chF.2 (by omega))
    obtain ⟨vz53, evz53⟩ : ∃ z, Gi g 355 12 = z := ⟨_, rfl⟩
    rw [evz53] at vq52
    obtain ⟨vz54, evz54⟩ : ∃ z, Gi g 355 11 = z := ⟨_, rfl⟩
    rw [evz54] at vq52
    rw [evz3] at vq52
    obtain ⟨vz55, evz55⟩ : ∃ z, Gi g 355 13 = z := ⟨_, rfl⟩
    rw [evz55] at vq52
    have hr := (rfl : vr51.toInt = vr51.toInt)
    exact LW_ireturn (st := []) rfl rfl rfl ⟨_, rfl, by omega, by omega, V, hG, hF, (by rw [evz53, evz54, evz3, evz55, evz8, evz9, evz10] <;> omega), (by rw [evz8, evz9]; exact (fun _ => vBW.no (by omega) (by omega)))⟩
  by_cases vh56 : y1 = 11
  · refine S_tableIn (tgt := 98) (c := 11) rfl (hx1.trans vh56) (by decide) (by decide) rfl rfl ?_
    refine X_aload_n rfl rfl rfl rfl ?_
    refine X_iload_n rfl rfl rfl rfl ?_
    refine X_iconst (v := (1 : Int32)) rfl rfl rfl ?_
    refine S_iadd rfl rfl hx2 (show (1 : Int32).toInt = 1 from rfl) (by omega) (fun vz57 hvz57 => ?_)
    refine X_iconst (v := (0 : Int32)) rfl rfl rfl ?_
    refine X_bipush (v := (7 : Int32)) rfl rfl rfl ?_
    have vo355_12 : (Gi g 355 12).toInt = vz1.toInt := congrArg Int32.toInt evz1
    refine Y_callV (as := [.int vz57, .int (0 : Int32), .int (7 : Int32)]) (st := []) rfl rfl rfl (by decide) rfl (Nat.le_of_ble_eq_true rfl) (by decide) (Nat.le_of_ble_eq_true rfl) rfl ((congrFun V.1 355).trans s_355) (by decide) (C_X13_figure V vz57 vz57.toInt rfl (by omega) (0 : Int32) 0 (show (0 : Int32).toInt = 0 from rfl) (by omega) (7 : Int32) 7 (show (7 : Int32).toInt = 7 from rfl) (by omega) (by rw [evz1] <;> omega) (by rw [evz1, evz2] <;> omega) (by rw [evz2, evz3] <;> omega) (by rw [evz3] <;> omega) (by rw [evz5, evz1, evz2] <;> omega) (by rw [evz6] <;> omega) (fun v vha vhb => vokT_row (t := vt) (c := vc) (m := 1) (by omega) vi2 (by decide) (fun _ => by omega))) ?_
    rintro _ g ⟨vr58, rfl, hrvr580, hrvr581, V, hq, chF, vq59⟩
    have hG := hq.trans hG
    have evz3 := (chF.1 355 8 (by decide)).trans evz3
    have evz6 := (chF.1 356 4 (by decide)).trans evz6
    have evz8 := (chF.1 355 16 (by decide)).trans evz8
    have evz9 := (chF.1 355 18 (by decide)).trans evz9
    have evz10 := (chF.1 355 22 (by decide)).trans evz10
    have hF := And.intro (vSm.tr chF.1 vi_de hF.1) (vXb.one hF.2 chF.2 (by omega))
    obtain ⟨vz60, evz60⟩ : ∃ z, Gi g 355 12 = z := ⟨_, rfl⟩
    rw [evz60] at vq59
    obtain ⟨vz61, evz61⟩ : ∃ z, Gi g 355 11 = z := ⟨_, rfl⟩
    rw [evz61] at vq59
    rw [evz3] at vq59
    obtain ⟨vz62, evz62⟩ : ∃ z, Gi g 355 13 = z := ⟨_, rfl⟩
    rw [evz62] at vq59
    have hr := (rfl : vr58.toInt = vr58.toInt)
    exact LW_ireturn (st := []) rfl rfl rfl ⟨_, rfl, by omega, by omega, V, hG, hF, (by rw [evz60, evz61, evz3, evz62, evz8, evz9, evz10] <;> omega), (by rw [evz8, evz9]; exact (fun _ => vBW.no (by omega) (by omega)))⟩
  by_cases vh63 : y1 = 12
  · refine S_tableIn (tgt := 109) (c := 12) rfl (hx1.trans vh63) (by decide) (by decide) rfl rfl ?_
    refine X_aload_n rfl rfl rfl rfl ?_
    refine X_iload_n rfl rfl rfl rfl ?_
    refine X_iconst (v := (1 : Int32)) rfl rfl rfl ?_
    refine S_iadd rfl rfl hx2 (show (1 : Int32).toInt = 1 from rfl) (by omega) (fun vz64 hvz64 => ?_)
    refine X_iconst (v := (1 : Int32)) rfl rfl rfl ?_
    refine X_bipush (v := (99 : Int32)) rfl rfl rfl ?_
    have vo355_12 : (Gi g 355 12).toInt = vz1.toInt := congrArg Int32.toInt evz1
    refine Y_callV (as := [.int vz64, .int (1 : Int32), .int (99 : Int32)]) (st := []) rfl rfl rfl (by decide) rfl (Nat.le_of_ble_eq_true rfl) (by decide) (Nat.le_of_ble_eq_true rfl) rfl ((congrFun V.1 355).trans s_355) (by decide) (C_X13_figure V vz64 vz64.toInt rfl (by omega) (1 : Int32) 1 (show (1 : Int32).toInt = 1 from rfl) (by omega) (99 : Int32) 99 (show (99 : Int32).toInt = 99 from rfl) (by omega) (by rw [evz1] <;> omega) (by rw [evz1, evz2] <;> omega) (by rw [evz2, evz3] <;> omega) (by rw [evz3] <;> omega) (by rw [evz5, evz1, evz2] <;> omega) (by rw [evz6] <;> omega) (fun v vha vhb => vokT_row (t := vt) (c := vc) (m := 1) (by omega) vi2 (by decide) (fun _ => by omega))) ?_
    rintro _ g ⟨vr65, rfl, hrvr650, hrvr651, V, hq, chF, vq66⟩
    have hG := hq.trans hG
    have evz3 := (chF.1 355 8 (by decide)).trans evz3
    have evz6 := (chF.1 356 4 (by decide)).trans evz6
    have evz8 := (chF.1 355 16 (by decide)).trans evz8
    have evz9 := (chF.1 355 18 (by decide)).trans evz9
    have evz10 := (chF.1 355 22 (by decide)).trans evz10
    have hF := And.intro (vSm.tr chF.1 vi_de hF.1) (vXb.one hF.2 chF.2 (by omega))
    obtain ⟨vz67, evz67⟩ : ∃ z, Gi g 355 12 = z := ⟨_, rfl⟩
    rw [evz67] at vq66
    obtain ⟨vz68, evz68⟩ : ∃ z, Gi g 355 11 = z := ⟨_, rfl⟩
    rw [evz68] at vq66
    rw [evz3] at vq66
    obtain ⟨vz69, evz69⟩ : ∃ z, Gi g 355 13 = z := ⟨_, rfl⟩
    rw [evz69] at vq66
    have hr := (rfl : vr65.toInt = vr65.toInt)
    exact LW_ireturn (st := []) rfl rfl rfl ⟨_, rfl, by omega, by omega, V, hG, hF, (by rw [evz67, evz68, evz3, evz69, evz8, evz9, evz10] <;> omega), (by rw [evz8, evz9]; exact (fun _ => vBW.no (by omega) (by omega)))⟩
  refine S_tableOut (tgt := 120) rfl hx1 (by omega) rfl ?_
  refine X_aload_n rfl rfl rfl rfl ?_
  refine X_iload_n rfl rfl rfl rfl ?_
  refine X_iload_n rfl rfl rfl rfl ?_
  have vo355_12 : (Gi g 355 12).toInt = vz1.toInt := congrArg Int32.toInt evz1
  have vo355_16 : (Gi g 355 16).toInt = vz8.toInt := congrArg Int32.toInt evz8
  have vo355_18 : (Gi g 355 18).toInt = vz9.toInt := congrArg Int32.toInt evz9
  have vo355_22 : (Gi g 355 22).toInt = vz10.toInt := congrArg Int32.toInt evz10
  refine Y_callV (as := [.int x1, .int x2]) (st := []) rfl rfl rfl (by decide) rfl (Nat.le_of_ble_eq_true rfl) (by decide) (Nat.le_of_ble_eq_true rfl) rfl ((congrFun V.1 355).trans s_355) (by decide) (C_X13_lawClause V x1 y1 hx1 (by omega) x2 y2 hx2 (by omega) (by rw [evz1] <;> omega) (by rw [evz1, evz2] <;> omega) (by rw [evz2, evz3] <;> omega) (by rw [evz3] <;> omega) (by rw [evz5, evz1, evz2] <;> omega) (by rw [evz6] <;> omega) (hq6) (by rw [evz8, evz6] <;> omega) (by rw [evz6] <;> omega) (by rw [evz9] <;> omega) (by rw [evz9, evz1] <;> omega) (by rw [evz10] <;> omega) (by rw [evz8] <;> omega) (by rw [evz8] <;> omega)) ?_
  rintro _ g ⟨vr70, rfl, hrvr700, hrvr701, V, hq, chF, vq71, vq72⟩
  have hG := hq.trans hG
  have evz3 := (chF.1 355 8 (by decide)).trans evz3
  have evz6 := (chF.1 356 4 (by decide)).trans evz6
  have evz8 := (chF.1 355 16 (by decide)).trans evz8
  have hF := And.intro (vSm.tr chF.1 (vi_ vsd) hF.1) chF.2
  obtain ⟨vz73, evz73⟩ : ∃ z, Gi g 355 12 = z := ⟨_, rfl⟩
  rw [evz73] at vq71
  obtain ⟨vz74, evz74⟩ : ∃ z, Gi g 355 11 = z := ⟨_, rfl⟩
  rw [evz74] at vq71
  rw [evz3] at vq71
  obtain ⟨vz75, evz75⟩ : ∃ z, Gi g 355 13 = z := ⟨_, rfl⟩
  rw [evz75] at vq71
  rw [evz8] at vq71
  obtain ⟨vz76, evz76⟩ : ∃ z, Gi g 355 18 = z := ⟨_, rfl⟩
  rw [evz76] at vq71
  obtain ⟨vz77, evz77⟩ : ∃ z, Gi g 355 22 = z := ⟨_, rfl⟩
  rw [evz77] at vq71
  rw [evz8] at vq72
  rw [evz76] at vq72
  have hr := (rfl : vr70.toInt = vr70.toInt)
  exact LW_ireturn (st := []) rfl rfl rfl ⟨_, rfl, by omega, by omega, V, hG, hF, (by rw [evz73, evz74, evz3, evz75, evz8, evz76, evz77] <;> omega), (by rw [evz8, evz76]; exact (fun vh => vBW.law (vq72 vh) (by omega)))⟩
set_option maxRecDepth 10000 in
set_option maxHeartbeats 40000000 in
theorem C_X13_clause {P : Par} {g : LH} {d : Nat}  (V : InvR P g)  (hq0 : 0 ≤ (Gi g 355 12).toInt) (hq1 : (Gi g 355 12).toInt ≤ (Gi g 355 11).toInt) (hq2 : (Gi g 355 11).toInt ≤ (Gi g 355 8).toInt) (hq3 : (Gi g 355 8).toInt ≤ 300) (hq4 : (Gi g 355 13).toInt = 0 ∨ (Gi g 355 12).toInt < (Gi g 355 11).toInt) (hq5 : (Gi g 355 16).toInt = 873 * (Gi g 356 4).toInt) (hq6 : (Gi g 356 4).toInt ≤ 3) (hq7 : 0 ≤ (Gi g 355 18).toInt) (hq8 : (Gi g 355 18).toInt ≤ (Gi g 355 12).toInt) (hq9 : 0 ≤ (Gi g 355 22).toInt ∧ (Gi g 355 22).toInt ≤ 8) (hq10 : vRT (Gi g 358) (Gi g 356 4).toInt ((Gi g 358) (Int.toNat (Gi g 355 16).toInt)).toInt (Gi g 355 18).toInt)  : LW 233 (d + 52) 0 0 0 (lEnt (mL 233) [.ref 355]) [] g (fun v g' => ∃ r : Int32, v = some (.int r) ∧ 0 ≤ r.toInt ∧ r.toInt ≤ 8 ∧ InvR P g' ∧ Gr g' = Gr g ∧ vSm vsd g' g ∧ (r.toInt = 0 → (((Gi g 355 12).toInt < (Gi g' 355 12).toInt) ∧ (0 ≤ (Gi g' 355 12).toInt) ∧ ((Gi g' 355 12).toInt ≤ (Gi g' 355 11).toInt) ∧ ((Gi g' 355 11).toInt ≤ (Gi g' 355 8).toInt) ∧ ((Gi g' 355 8).toInt ≤ 300) ∧ ((Gi g' 355 13).toInt = 0 ∨ (Gi g' 355 12).toInt < (Gi g' 355 11).toInt) ∧ ((Gi g' 355 16).toInt = (Gi g 355 16).toInt) ∧ ((Gi g 355 18).toInt ≤ (Gi g' 355 18).toInt) ∧ ((Gi g' 355 18).toInt + (Gi g 355 12).toInt ≤ (Gi g 355 18).toInt + (Gi g' 355 12).toInt) ∧ (0 ≤ (Gi g' 355 22).toInt ∧ (Gi g' 355 22).toInt ≤ 8))) ∧ (r.toInt = 0 → vRT (Gi g' 358) (Gi g' 356 4).toInt ((Gi g' 358) (Int.toNat (Gi g' 355 16).toInt)).toInt (Gi g' 355 18).toInt)) := by
  refine LW_ls (ls' := [some (.ref 355), none, none, none, none]) rfl ?_
  have hG : Gr g = Gr g := rfl
  have hF : vSm vsd g g := vSm.refl
  obtain ⟨vz1, evz1⟩ : ∃ z, Gi g 355 12 = z := ⟨_, rfl⟩
  rw [evz1] at hq0
  rw [evz1] at hq1
  obtain ⟨vz2, evz2⟩ : ∃ z, Gi g 355 11 = z := ⟨_, rfl⟩
  rw [evz2] at hq1
  rw [evz2] at hq2
  obtain ⟨vz3, evz3⟩ : ∃ z, Gi g 355 8 = z := ⟨_, rfl⟩
  have vf4 := O_355_8 (V.2.2.2.2.2.2.1 355 (8) (Nat.le_of_ble_eq_true rfl))
  rw [evz3] at vf4
  rw [evz3] at hq2
  rw [evz3] at hq3
  obtain ⟨vz5, evz5⟩ : ∃ z, Gi g 355 13 = z := ⟨_, rfl⟩
  rw [evz5] at hq4
  rw [evz1] at hq4
  rw [evz2] at hq4
  obtain ⟨vz6, evz6⟩ : ∃ z, Gi g 355 16 = z := ⟨_, rfl⟩
  rw [evz6] at hq5
  obtain ⟨vz7, evz7⟩ : ∃ z, Gi g 356 4 = z := ⟨_, rfl⟩
  have vf8 := A_TEXTS (V.2.2.2.1 (4)) (by omega)
  rw [evz7] at vf8
  rw [evz7] at hq5
  rw [evz7] at hq6
  obtain ⟨vz9, evz9⟩ : ∃ z, Gi g 355 18 = z := ⟨_, rfl⟩
  rw [evz9] at hq7
  rw [evz9] at hq8
  rw [evz1] at hq8
  obtain ⟨vz10, evz10⟩ : ∃ z, Gi g 355 22 = z := ⟨_, rfl⟩
  rw [evz10] at hq9
  rw [evz7] at hq10
  rw [evz6] at hq10
  rw [evz9] at hq10
  have vo355_12 : (Gi g 355 12).toInt = vz1.toInt := congrArg Int32.toInt evz1
  have vo355_16 : (Gi g 355 16).toInt = vz6.toInt := congrArg Int32.toInt evz6
  have vo355_18 : (Gi g 355 18).toInt = vz9.toInt := congrArg Int32.toInt evz9
  refine X_aload_n rfl rfl rfl rfl ?_
  refine Y_callV (as := []) (st := []) rfl rfl rfl (by decide) rfl (Nat.le_of_ble_eq_true rfl) (by decide) (Nat.le_of_ble_eq_true rfl) rfl ((congrFun V.1 355).trans s_355) (by decide) (C_X13_sortOf V  (by rw [evz1] <;> omega) (by rw [evz1, evz2] <;> omega) (by rw [evz2, evz3] <;> omega) (by rw [evz3] <;> omega)) ?_
  rintro _ g' ⟨vr11, rfl, hrvr110, hrvr111, hgg, vq12⟩
  subst hgg
  rw [evz5] at vq12
  refine X_istore_n (i := 1) (ls' := [some (.ref 355), some (.int vr11), none, none, none]) rfl rfl rfl (Nat.le_of_ble_eq_true rfl) rfl ?_
  refine X_iload_n rfl rfl rfl rfl ?_
  refine S_if_ge (tgt := 11) rfl rfl rfl rfl (fun vh13 => ?_) (fun vh13 => ?_)
  · refine X_iload_n rfl rfl rfl rfl ?_
    refine X_iconst (v := (3 : Int32)) rfl rfl rfl ?_
    refine S_icmp_gt (tgt := 30) rfl rfl rfl rfl (show (3 : Int32).toInt = 3 from rfl) (fun vh14 => ?_) (fun vh14 => ?_)
    · refine X_aload_n rfl rfl rfl rfl ?_
      refine X_getR (a := 358) rfl rfl rfl ((congrFun V.1 355).trans s_355) rfl ((congrFun (V.2.1 355 (by decide)) 2).trans r_355_2) ?_
      refine X_aload_n rfl rfl rfl rfl ?_
      refine X_getI (v := vz6) rfl rfl rfl ((congrFun V.1 355).trans s_355) rfl evz6 ?_
      refine S_iald rfl rfl ((congrFun V.1 358).trans s_358) rfl (by omega) (fun vz15 evz15 => ?_)
      have vf16 := (V.2.2.2.2.2.1 ((vz6.toInt : Int).toNat)).1 (by omega)
      rw [evz15] at vf16
      have vcn := evz15
      rw [vcn] at hq10
      refine X_istore_n (i := 2) (ls' := [some (.ref 355), some (.int vr11), some (.int vz15), none, none]) rfl rfl rfl (Nat.le_of_ble_eq_true rfl) rfl ?_
      refine X_iload_n rfl rfl rfl rfl ?_
      refine X_bipush (v := (24 : Int32)) rfl rfl rfl ?_
      refine S_icmp_ne (tgt := 49) rfl rfl rfl rfl (show (24 : Int32).toInt = 24 from rfl) (fun vh17 => ?_) (fun vh17 => ?_)
      · refine X_iload_n rfl rfl rfl rfl ?_
        refine X_iconst (v := (3 : Int32)) rfl rfl rfl ?_
        refine S_icmp_gt (tgt := 66) rfl rfl rfl rfl (show (3 : Int32).toInt = 3 from rfl) (fun vh18 => ?_) (fun q => absurd q (by omega))
        refine X_aload_n rfl rfl rfl rfl ?_
        refine X_iload_n rfl rfl rfl rfl ?_
        refine S_putI (I := InvR _) rfl rfl rfl ((congrFun V.1 355).trans s_355) rfl rfl rfl rfl (InvR_putO V (by decide) trivial) (fun g V ve19 vn20 hq => ?_)
        have hG := hq.trans hG
        have hF := vSm.putN hF vn20 (by decide)
        have evz1 := (vn20 (355) 12 (Or.inr (by decide))).trans evz1
        have evz2 := (vn20 (355) 11 (Or.inr (by decide))).trans evz2
        have evz3 := (vn20 (355) 8 (Or.inr (by decide))).trans evz3
        have evz5 := (vn20 (355) 13 (Or.inr (by decide))).trans evz5
        have evz6 := (vn20 (355) 16 (Or.inr (by decide))).trans evz6
        have evz7 := (vn20 (356) 4 (Or.inl (by decide))).trans evz7
        have evz9 := (vn20 (355) 18 (Or.inr (by decide))).trans evz9
        have evz10 := (vn20 (355) 22 (Or.inr (by decide))).trans evz10
        have evz15 := (vn20 (358) ((vz6.toInt : Int).toNat) (Or.inl (by decide))).trans evz15
        rw [← (funext fun k => vn20 358 k (Or.inl (by decide)) : Gi g 358 = _)] at hq10 vcn
        refine X_aload_n rfl rfl rfl rfl ?_
        have vo355_11 : (Gi g 355 11).toInt = vz2.toInt := congrArg Int32.toInt evz2
        refine Y_callV (as := []) (st := []) rfl rfl rfl (by decide) rfl (Nat.le_of_ble_eq_true rfl) (by decide) (Nat.le_of_ble_eq_true rfl) rfl ((congrFun V.1 355).trans s_355) (by decide) (C_X13_nextToken V  (by rw [evz2] <;> omega) (by rw [evz2, evz3] <;> omega) (by rw [evz3] <;> omega)) ?_
        rintro _ g ⟨rfl, V, hq, chF, vq22, vq23, vq24, vq25, vq26, vq27⟩
        have hG := hq.trans hG
        have evz3 := (chF 355 8 (by decide)).trans evz3
        have evz6 := (chF 355 16 (by decide)).trans evz6
        have evz7 := (chF 356 4 (by decide)).trans evz7
        have evz9 := (chF 355 18 (by decide)).trans evz9
        have evz10 := (chF 355 22 (by decide)).trans evz10
        have ve19 := (chF 355 24 (by decide)).trans ve19
        have hF := vSm.tr chF vi_da hF
        obtain ⟨vz28, evz28⟩ : ∃ z, Gi g 355 12 = z := ⟨_, rfl⟩
        rw [evz28] at vq22
        rw [evz28] at vq23
        rw [evz28] at vq24
        obtain ⟨vz29, evz29⟩ : ∃ z, Gi g 355 11 = z := ⟨_, rfl⟩
        rw [evz29] at vq24
        rw [evz29] at vq25
        rw [evz3] at vq25
        rw [evz3] at vq26
        obtain ⟨vz30, evz30⟩ : ∃ z, Gi g 355 13 = z := ⟨_, rfl⟩
        rw [evz30] at vq27
        rw [evz28] at vq27
        rw [evz29] at vq27
        rw [← (funext fun k => chF 358 k (Or.inl (by decide)) : Gi g 358 = _)] at hq10 vcn
        refine X_aload_n rfl rfl rfl rfl ?_
        refine X_getI (v := vz6) rfl rfl rfl ((congrFun V.1 355).trans s_355) rfl evz6 ?_
        refine X_iconst (v := (1 : Int32)) rfl rfl rfl ?_
        refine S_iadd rfl rfl rfl (show (1 : Int32).toInt = 1 from rfl) (by omega) (fun vz31 hvz31 => ?_)
        refine X_bipush (v := (11 : Int32)) rfl rfl rfl ?_
        refine X_iload_n rfl rfl rfl rfl ?_
        refine S_imul rfl rfl (show (11 : Int32).toInt = 11 from rfl) rfl (by omega) (fun vz32 hvz32 => ?_)
        refine S_iadd rfl rfl rfl rfl (by omega) (fun vz33 hvz33 => ?_)
        refine X_istore_n (i := 3) (ls' := [some (.ref 355), some (.int vr11), some (.int vz15), some (.int vz33), none]) rfl rfl rfl (Nat.le_of_ble_eq_true rfl) rfl ?_
        refine X_aload_n rfl rfl rfl rfl ?_
        refine X_getR (a := 358) rfl rfl rfl ((congrFun V.1 355).trans s_355) rfl ((congrFun (V.2.1 355 (by decide)) 2).trans r_355_2) ?_
        refine X_iload_n rfl rfl rfl rfl ?_
        refine X_iload_n rfl rfl rfl rfl ?_
        refine S_iast (I := InvR _) rfl rfl ((congrFun V.1 358).trans s_358) rfl (by omega) (InvR_putX V (by rw [evz7] <;> omega) (vokT_row (t := Int.toNat vz7.toInt) (c := Int.toNat vz15.toInt) (m := 0) (by omega) (by omega) (by decide) (fun vh' => absurd vh' (by decide)))) (fun g V ve34 vn35 hq => ?_)
        have hG := hq.trans hG
        have hF := vSm.putN hF vn35 (by unfold vsd; omega)
        have evz3 := (vn35 (355) 8 (Or.inl (by decide))).trans evz3
        have evz6 := (vn35 (355) 16 (Or.inl (by decide))).trans evz6
        have evz7 := (vn35 (356) 4 (Or.inl (by decide))).trans evz7
        have evz9 := (vn35 (355) 18 (Or.inl (by decide))).trans evz9
        have evz10 := (vn35 (355) 22 (Or.inl (by decide))).trans evz10
        have ve19 := (vn35 (355) 24 (Or.inl (by decide))).trans ve19
        have evz28 := (vn35 (355) 12 (Or.inl (by decide))).trans evz28
        have evz29 := (vn35 (355) 11 (Or.inl (by decide))).trans evz29
        have evz30 := (vn35 (355) 13 (Or.inl (by decide))).trans evz30
        have va36 := fun (k : Nat) (vh' : k ≠ (vz33.toInt : Int).toNat) => vn35 358 k (Or.inr vh')
        have va37 := ve34
        have vcn := (vn35 358 _ (Or.inr (by omega))).trans vcn
        refine X_aload_n rfl rfl rfl rfl ?_
        refine X_iload_n rfl rfl rfl rfl ?_
        refine X_iload_n rfl rfl rfl rfl ?_
        have vo355_12 : (Gi g 355 12).toInt = vz28.toInt := congrArg Int32.toInt evz28
        have vo355_16 : (Gi g 355 16).toInt = vz6.toInt := congrArg Int32.toInt evz6
        have vo355_18 : (Gi g 355 18).toInt = vz9.toInt := congrArg Int32.toInt evz9
        have vo355_22 : (Gi g 355 22).toInt = vz10.toInt := congrArg Int32.toInt evz10
        refine Y_callV (as := [.int vr11, .int vz33]) (st := []) rfl rfl rfl (by decide) rfl (Nat.le_of_ble_eq_true rfl) (by decide) (Nat.le_of_ble_eq_true rfl) rfl ((congrFun V.1 355).trans s_355) (by decide) (C_X13_body V vr11 vr11.toInt rfl (by omega) vz33 vz33.toInt rfl (by omega) (by rw [evz28] <;> omega) (by rw [evz28, evz29] <;> omega) (by rw [evz29, evz3] <;> omega) (by rw [evz3] <;> omega) (by rw [evz30, evz28, evz29] <;> omega) (by rw [evz7] <;> omega) (⟨Int.toNat vz7.toInt, Int.toNat vz15.toInt, by omega, by omega, by omega⟩) (by rw [evz6, evz7] <;> omega) (by rw [evz7] <;> omega) (by rw [evz9] <;> omega) (by rw [evz9, evz28] <;> omega) (by rw [evz10] <;> omega) (by rw [evz6] <;> omega) (by rw [evz6] <;> omega)) ?_
        rintro _ g ⟨vr38, rfl, hrvr380, hrvr381, V, hq, chF, vq39, vq40⟩
        have hG := hq.trans hG
        have evz3 := (chF.1 355 8 (by decide)).trans evz3
        have evz6 := (chF.1 355 16 (by decide)).trans evz6
        have evz7 := (chF.1 356 4 (by decide)).trans evz7
        have hF := vSm.tr chF.1 (vi_ vsd) hF
        obtain ⟨vz41, evz41⟩ : ∃ z, Gi g 355 12 = z := ⟨_, rfl⟩
        rw [evz41] at vq39
        obtain ⟨vz42, evz42⟩ : ∃ z, Gi g 355 11 = z := ⟨_, rfl⟩
        rw [evz42] at vq39
        rw [evz3] at vq39
        obtain ⟨vz43, evz43⟩ : ∃ z, Gi g 355 13 = z := ⟨_, rfl⟩
        rw [evz43] at vq39
        rw [evz6] at vq39
        obtain ⟨vz44, evz44⟩ : ∃ z, Gi g 355 18 = z := ⟨_, rfl⟩
        rw [evz44] at vq39
        obtain ⟨vz45, evz45⟩ : ∃ z, Gi g 355 22 = z := ⟨_, rfl⟩
        rw [evz45] at vq39
        rw [evz6] at vq40
        rw [evz44] at vq40
        have vcn := (chF.2 _ (by omega) (by omega)).trans vcn
        have vrt := fun vh => vRT.next (t0 := vz6.toInt) hq10 va36 va37 chF.2 (vq40 vh) ⟨by omega, by omega, by omega⟩ ⟨by omega, by omega, by omega⟩ (by omega) ⟨by omega, by omega, by omega, by omega, by omega⟩
        refine X_istore (i := 4) (ls' := [some (.ref 355), some (.int vr11), some (.int vz15), some (.int vz33), some (.int vr38)]) rfl rfl (Nat.le_of_ble_eq_true rfl) rfl ?_
        refine X_iload rfl rfl rfl ?_
        refine S_if_eq (tgt := 110) rfl rfl rfl rfl (fun vh46 => ?_) (fun vh46 => ?_)
        · refine X_aload_n rfl rfl rfl rfl ?_
          refine X_getR (a := 358) rfl rfl rfl ((congrFun V.1 355).trans s_355) rfl ((congrFun (V.2.1 355 (by decide)) 2).trans r_355_2) ?_
          refine X_aload_n rfl rfl rfl rfl ?_
          refine X_getI (v := vz6) rfl rfl rfl ((congrFun V.1 355).trans s_355) rfl evz6 ?_
          refine X_dup2 rfl rfl rfl rfl ?_
          refine S_iald rfl rfl ((congrFun V.1 358).trans s_358) rfl (by omega) (fun vz47 evz47 => ?_)
          have vf48 := (V.2.2.2.2.2.1 ((vz6.toInt : Int).toNat)).1 (by omega)
          rw [evz47] at vf48
          have vcq : vz47.toInt = vz15.toInt := by rw [← evz47, vcn]
          refine X_iconst (v := (1 : Int32)) rfl rfl rfl ?_
          refine S_iadd rfl rfl rfl (show (1 : Int32).toInt = 1 from rfl) (by omega) (fun vz49 hvz49 => ?_)
          refine S_iast (I := InvR _) rfl rfl ((congrFun V.1 358).trans s_358) rfl (by omega) (InvR_putX V (by rw [evz7] <;> omega) (vokT_count (t := Int.toNat vz7.toInt) (by omega) (by omega))) (fun g V ve50 vn51 hq => ?_)
          have hG := hq.trans hG
          have hF := vSm.putN hF vn51 (by unfold vsd; omega)
          have evz3 := (vn51 (355) 8 (Or.inl (by decide))).trans evz3
          have evz6 := (vn51 (355) 16 (Or.inl (by decide))).trans evz6
          have evz7 := (vn51 (356) 4 (Or.inl (by decide))).trans evz7
          have evz41 := (vn51 (355) 12 (Or.inl (by decide))).trans evz41
          have evz42 := (vn51 (355) 11 (Or.inl (by decide))).trans evz42
          have evz43 := (vn51 (355) 13 (Or.inl (by decide))).trans evz43
          have evz44 := (vn51 (355) 18 (Or.inl (by decide))).trans evz44
          have evz45 := (vn51 (355) 22 (Or.inl (by decide))).trans evz45
          have va52 := fun (k : Nat) (vh' : k ≠ (vz6.toInt : Int).toNat) => vn51 358 k (Or.inr vh')
          have va53 := ve50
          refine X_aload_n rfl rfl rfl rfl ?_
          refine X_getI (v := vz43) rfl rfl rfl ((congrFun V.1 355).trans s_355) rfl evz43 ?_
          refine X_bipush (v := (59 : Int32)) rfl rfl rfl ?_
          refine S_icmp_eq (tgt := 134) rfl rfl rfl rfl (show (59 : Int32).toInt = 59 from rfl) (fun vh54 => ?_) (fun vh54 => ?_)
          · refine X_aload_n rfl rfl rfl rfl ?_
            have vo355_11 : (Gi g 355 11).toInt = vz42.toInt := congrArg Int32.toInt evz42
            refine Y_callV (as := []) (st := []) rfl rfl rfl (by decide) rfl (Nat.le_of_ble_eq_true rfl) (by decide) (Nat.le_of_ble_eq_true rfl) rfl ((congrFun V.1 355).trans s_355) (by decide) (C_X13_nextToken V  (by rw [evz42] <;> omega) (by rw [evz42, evz3] <;> omega) (by rw [evz3] <;> omega)) ?_
            rintro _ g ⟨rfl, V, hq, chF, vq56, vq57, vq58, vq59, vq60, vq61⟩
            have hG := hq.trans hG
            have evz3 := (chF 355 8 (by decide)).trans evz3
            have evz6 := (chF 355 16 (by decide)).trans evz6
            have evz7 := (chF 356 4 (by decide)).trans evz7
            have evz44 := (chF 355 18 (by decide)).trans evz44
            have evz45 := (chF 355 22 (by decide)).trans evz45
            have hF := vSm.tr chF vi_da hF
            obtain ⟨vz62, evz62⟩ : ∃ z, Gi g 355 12 = z := ⟨_, rfl⟩
            rw [evz62] at vq56
            rw [evz62] at vq57
            rw [evz62] at vq58
            obtain ⟨vz63, evz63⟩ : ∃ z, Gi g 355 11 = z := ⟨_, rfl⟩
            rw [evz63] at vq58
            rw [evz63] at vq59
            rw [evz3] at vq59
            rw [evz3] at vq60
            obtain ⟨vz64, evz64⟩ : ∃ z, Gi g 355 13 = z := ⟨_, rfl⟩
            rw [evz64] at vq61
            rw [evz62] at vq61
            rw [evz63] at vq61
            rw [← (funext fun k => chF 358 k (Or.inl (by decide)) : Gi g 358 = _)] at va52 va53
            refine X_iconst (v := (0 : Int32)) rfl rfl rfl ?_
            exact LW_ireturn (st := []) rfl rfl rfl ⟨_, rfl, by decide, by decide, V, hG, hF, (by have vkr := (show (0 : Int32).toInt = 0 from rfl); rw [evz62, evz63, evz3, evz64, evz6, evz44, evz45] <;> omega), (by rw [evz7, evz6, evz44]; exact (by intro _; rw [va53]; exact vRT.cnt (vrt (by omega)) va52 (by omega) (by omega) (by omega)))⟩
          · refine X_iconst (v := (1 : Int32)) rfl rfl rfl ?_
            exact LW_ireturn (st := []) rfl rfl rfl ⟨_, rfl, by decide, by decide, V, hG, hF, (by have vkr := (show (1 : Int32).toInt = 1 from rfl); rw [evz41, evz42, evz3, evz43, evz6, evz44, evz45] <;> omega), (fun q => absurd q (by decide))⟩
        · refine X_iload rfl rfl rfl ?_
          have hr := (rfl : vr38.toInt = vr38.toInt)
          exact LW_ireturn (st := []) rfl rfl rfl ⟨_, rfl, by omega, by omega, V, hG, hF, (by rw [evz41, evz42, evz3, evz43, evz6, evz44, evz45] <;> omega), (by rw [evz7, evz6, evz44]; exact (fun q => absurd q (by omega)))⟩
      · refine X_bipush (v := (6 : Int32)) rfl rfl rfl ?_
        exact LW_ireturn (st := []) rfl rfl rfl ⟨_, rfl, by decide, by decide, V, hG, hF, (by have vkr := (show (6 : Int32).toInt = 6 from rfl); rw [evz1, evz2, evz3, evz5, evz6, evz9, evz10] <;> omega), (fun q => absurd q (by decide))⟩
    · refine X_aload_n rfl rfl rfl rfl ?_
      refine S_getI rfl rfl rfl ((congrFun V.1 355).trans s_355) rfl (fun vz65 evz65 => ?_)
      refine X_iload_n rfl rfl rfl rfl ?_
      refine S_ishrT rfl rfl (fun vz66 => ?_)
      refine X_iconst (v := (1 : Int32)) rfl rfl rfl ?_
      refine S_iandR (k := 1) rfl rfl rfl (fun vz67 hvz67 => ?_)
      refine X_iconst (v := (1 : Int32)) rfl rfl rfl ?_
      refine S_icmp_ne (tgt := 30) rfl rfl rfl rfl (show (1 : Int32).toInt = 1 from rfl) (fun vh68 => ?_) (fun vh68 => ?_)
      · refine X_aload_n rfl rfl rfl rfl ?_
        refine X_getR (a := 358) rfl rfl rfl ((congrFun V.1 355).trans s_355) rfl ((congrFun (V.2.1 355 (by decide)) 2).trans r_355_2) ?_
        refine X_aload_n rfl rfl rfl rfl ?_
        refine X_getI (v := vz6) rfl rfl rfl ((congrFun V.1 355).trans s_355) rfl evz6 ?_
        refine S_iald rfl rfl ((congrFun V.1 358).trans s_358) rfl (by omega) (fun vz69 evz69 => ?_)
        have vf70 := (V.2.2.2.2.2.1 ((vz6.toInt : Int).toNat)).1 (by omega)
        rw [evz69] at vf70
        have vcn := evz69
        rw [vcn] at hq10
        refine X_istore_n (i := 2) (ls' := [some (.ref 355), some (.int vr11), some (.int vz69), none, none]) rfl rfl rfl (Nat.le_of_ble_eq_true rfl) rfl ?_
        refine X_iload_n rfl rfl rfl rfl ?_
        refine X_bipush (v := (24 : Int32)) rfl rfl rfl ?_
        refine S_icmp_ne (tgt := 49) rfl rfl rfl rfl (show (24 : Int32).toInt = 24 from rfl) (fun vh71 => ?_) (fun vh71 => ?_)
        · refine X_iload_n rfl rfl rfl rfl ?_
          refine X_iconst (v := (3 : Int32)) rfl rfl rfl ?_
          refine S_icmp_gt (tgt := 66) rfl rfl rfl rfl (show (3 : Int32).toInt = 3 from rfl) (fun q => absurd q (by omega)) (fun vh72 => ?_)
          refine X_aload_n rfl rfl rfl rfl ?_
          refine X_dup rfl rfl rfl ?_
          refine X_getI (v := vz65) rfl rfl rfl ((congrFun V.1 355).trans s_355) rfl evz65 ?_
          refine X_iconst (v := (1 : Int32)) rfl rfl rfl ?_
          refine X_iload_n rfl rfl rfl rfl ?_
          refine S_shl1 (n := 3) rfl rfl rfl (by omega) (fun vz73 hvz73 => ?_)
          refine S_iorT rfl rfl (fun vz74 => ?_)
          refine S_putI (I := InvR _) rfl rfl rfl ((congrFun V.1 355).trans s_355) rfl rfl rfl rfl (InvR_putO V (by decide) trivial) (fun g V ve75 vn76 hq => ?_)
          have hG := hq.trans hG
          have hF := vSm.putN hF vn76 (by decide)
          have evz1 := (vn76 (355) 12 (Or.inr (by decide))).trans evz1
          have evz2 := (vn76 (355) 11 (Or.inr (by decide))).trans evz2
          have evz3 := (vn76 (355) 8 (Or.inr (by decide))).trans evz3
          have evz5 := (vn76 (355) 13 (Or.inr (by decide))).trans evz5
          have evz6 := (vn76 (355) 16 (Or.inr (by decide))).trans evz6
          have evz7 := (vn76 (356) 4 (Or.inl (by decide))).trans evz7
          have evz9 := (vn76 (355) 18 (Or.inr (by decide))).trans evz9
          have evz10 := (vn76 (355) 22 (Or.inr (by decide))).trans evz10
          have evz69 := (vn76 (358) ((vz6.toInt : Int).toNat) (Or.inl (by decide))).trans evz69
          rw [← (funext fun k => vn76 358 k (Or.inl (by decide)) : Gi g 358 = _)] at hq10 vcn
          refine X_aload_n rfl rfl rfl rfl ?_
          refine X_iload_n rfl rfl rfl rfl ?_
          refine S_putI (I := InvR _) rfl rfl rfl ((congrFun V.1 355).trans s_355) rfl rfl rfl rfl (InvR_putO V (by decide) trivial) (fun g V ve77 vn78 hq => ?_)
          have hG := hq.trans hG
          have hF := vSm.putN hF vn78 (by decide)
          have evz1 := (vn78 (355) 12 (Or.inr (by decide))).trans evz1
          have evz2 := (vn78 (355) 11 (Or.inr (by decide))).trans evz2
          have evz3 := (vn78 (355) 8 (Or.inr (by decide))).trans evz3
          have evz5 := (vn78 (355) 13 (Or.inr (by decide))).trans evz5
          have evz6 := (vn78 (355) 16 (Or.inr (by decide))).trans evz6
          have evz7 := (vn78 (356) 4 (Or.inl (by decide))).trans evz7
          have evz9 := (vn78 (355) 18 (Or.inr (by decide))).trans evz9
          have evz10 := (vn78 (355) 22 (Or.inr (by decide))).trans evz10
          have evz69 := (vn78 (358) ((vz6.toInt : Int).toNat) (Or.inl (by decide))).trans evz69
          have ve75 := (vn78 (355) 25 (Or.inr (by decide))).trans ve75
          rw [← (funext fun k => vn78 358 k (Or.inl (by decide)) : Gi g 358 = _)] at hq10 vcn
          refine X_aload_n rfl rfl rfl rfl ?_
          have vo355_11 : (Gi g 355 11).toInt = vz2.toInt := congrArg Int32.toInt evz2
          refine Y_callV (as := []) (st := []) rfl rfl rfl (by decide) rfl (Nat.le_of_ble_eq_true rfl) (by decide) (Nat.le_of_ble_eq_true rfl) rfl ((congrFun V.1 355).trans s_355) (by decide) (C_X13_nextToken V  (by rw [evz2] <;> omega) (by rw [evz2, evz3] <;> omega) (by rw [evz3] <;> omega)) ?_
          rintro _ g ⟨rfl, V, hq, chF, vq80, vq81, vq82, vq83, vq84, vq85⟩
          have hG := hq.trans hG
          have evz3 := (chF 355 8 (by decide)).trans evz3
          have evz6 := (chF 355 16 (by decide)).trans evz6
          have evz7 := (chF 356 4 (by decide)).trans evz7
          have evz9 := (chF 355 18 (by decide)).trans evz9
          have evz10 := (chF 355 22 (by decide)).trans evz10
          have ve75 := (chF 355 25 (by decide)).trans ve75
          have ve77 := (chF 355 24 (by decide)).trans ve77
          have hF := vSm.tr chF vi_da hF
          obtain ⟨vz86, evz86⟩ : ∃ z, Gi g 355 12 = z := ⟨_, rfl⟩
          rw [evz86] at vq80
          rw [evz86] at vq81
          rw [evz86] at vq82
          obtain ⟨vz87, evz87⟩ : ∃ z, Gi g 355 11 = z := ⟨_, rfl⟩
          rw [evz87] at vq82
          rw [evz87] at vq83
          rw [evz3] at vq83
          rw [evz3] at vq84
          obtain ⟨vz88, evz88⟩ : ∃ z, Gi g 355 13 = z := ⟨_, rfl⟩
          rw [evz88] at vq85
          rw [evz86] at vq85
          rw [evz87] at vq85
          rw [← (funext fun k => chF 358 k (Or.inl (by decide)) : Gi g 358 = _)] at hq10 vcn
          refine X_aload_n rfl rfl rfl rfl ?_
          refine X_getI (v := vz6) rfl rfl rfl ((congrFun V.1 355).trans s_355) rfl evz6 ?_
          refine X_iconst (v := (1 : Int32)) rfl rfl rfl ?_
          refine S_iadd rfl rfl rfl (show (1 : Int32).toInt = 1 from rfl) (by omega) (fun vz89 hvz89 => ?_)
          refine X_bipush (v := (11 : Int32)) rfl rfl rfl ?_
          refine X_iload_n rfl rfl rfl rfl ?_
          refine S_imul rfl rfl (show (11 : Int32).toInt = 11 from rfl) rfl (by omega) (fun vz90 hvz90 => ?_)
          refine S_iadd rfl rfl rfl rfl (by omega) (fun vz91 hvz91 => ?_)
          refine X_istore_n (i := 3) (ls' := [some (.ref 355), some (.int vr11), some (.int vz69), some (.int vz91), none]) rfl rfl rfl (Nat.le_of_ble_eq_true rfl) rfl ?_
          refine X_aload_n rfl rfl rfl rfl ?_
          refine X_getR (a := 358) rfl rfl rfl ((congrFun V.1 355).trans s_355) rfl ((congrFun (V.2.1 355 (by decide)) 2).trans r_355_2) ?_
          refine X_iload_n rfl rfl rfl rfl ?_
          refine X_iload_n rfl rfl rfl rfl ?_
          refine S_iast (I := InvR _) rfl rfl ((congrFun V.1 358).trans s_358) rfl (by omega) (InvR_putX V (by rw [evz7] <;> omega) (vokT_row (t := Int.toNat vz7.toInt) (c := Int.toNat vz69.toInt) (m := 0) (by omega) (by omega) (by decide) (fun vh' => absurd vh' (by decide)))) (fun g V ve92 vn93 hq => ?_)
          have hG := hq.trans hG
          have hF := vSm.putN hF vn93 (by unfold vsd; omega)
          have evz3 := (vn93 (355) 8 (Or.inl (by decide))).trans evz3
          have evz6 := (vn93 (355) 16 (Or.inl (by decide))).trans evz6
          have evz7 := (vn93 (356) 4 (Or.inl (by decide))).trans evz7
          have evz9 := (vn93 (355) 18 (Or.inl (by decide))).trans evz9
          have evz10 := (vn93 (355) 22 (Or.inl (by decide))).trans evz10
          have ve75 := (vn93 (355) 25 (Or.inl (by decide))).trans ve75
          have ve77 := (vn93 (355) 24 (Or.inl (by decide))).trans ve77
          have evz86 := (vn93 (355) 12 (Or.inl (by decide))).trans evz86
          have evz87 := (vn93 (355) 11 (Or.inl (by decide))).trans evz87
          have evz88 := (vn93 (355) 13 (Or.inl (by decide))).trans evz88
          have va94 := fun (k : Nat) (vh' : k ≠ (vz91.toInt : Int).toNat) => vn93 358 k (Or.inr vh')
          have va95 := ve92
          have vcn := (vn93 358 _ (Or.inr (by omega))).trans vcn
          refine X_aload_n rfl rfl rfl rfl ?_
          refine X_iload_n rfl rfl rfl rfl ?_
          refine X_iload_n rfl rfl rfl rfl ?_
          have vo355_12 : (Gi g 355 12).toInt = vz86.toInt := congrArg Int32.toInt evz86
          have vo355_16 : (Gi g 355 16).toInt = vz6.toInt := congrArg Int32.toInt evz6
          have vo355_18 : (Gi g 355 18).toInt = vz9.toInt := congrArg Int32.toInt evz9
          have vo355_22 : (Gi g 355 22).toInt = vz10.toInt := congrArg Int32.toInt evz10
          refine Y_callV (as := [.int vr11, .int vz91]) (st := []) rfl rfl rfl (by decide) rfl (Nat.le_of_ble_eq_true rfl) (by decide) (Nat.le_of_ble_eq_true rfl) rfl ((congrFun V.1 355).trans s_355) (by decide) (C_X13_body V vr11 vr11.toInt rfl (by omega) vz91 vz91.toInt rfl (by omega) (by rw [evz86] <;> omega) (by rw [evz86, evz87] <;> omega) (by rw [evz87, evz3] <;> omega) (by rw [evz3] <;> omega) (by rw [evz88, evz86, evz87] <;> omega) (by rw [evz7] <;> omega) (⟨Int.toNat vz7.toInt, Int.toNat vz69.toInt, by omega, by omega, by omega⟩) (by rw [evz6, evz7] <;> omega) (by rw [evz7] <;> omega) (by rw [evz9] <;> omega) (by rw [evz9, evz86] <;> omega) (by rw [evz10] <;> omega) (by rw [evz6] <;> omega) (by rw [evz6] <;> omega)) ?_
          rintro _ g ⟨vr96, rfl, hrvr960, hrvr961, V, hq, chF, vq97, vq98⟩
          have hG := hq.trans hG
          have evz3 := (chF.1 355 8 (by decide)).trans evz3
          have evz6 := (chF.1 355 16 (by decide)).trans evz6
          have evz7 := (chF.1 356 4 (by decide)).trans evz7
          have hF := vSm.tr chF.1 (vi_ vsd) hF
          obtain ⟨vz99, evz99⟩ : ∃ z, Gi g 355 12 = z := ⟨_, rfl⟩
          rw [evz99] at vq97
          obtain ⟨vz100, evz100⟩ : ∃ z, Gi g 355 11 = z := ⟨_, rfl⟩
          rw [evz100] at vq97
          rw [evz3] at vq97
          obtain ⟨vz101, evz101⟩ : ∃ z, Gi g 355 13 = z := ⟨_, rfl⟩
          rw [evz101] at vq97
          rw [evz6] at vq97
          obtain ⟨vz102, evz102⟩ : ∃ z, Gi g 355 18 = z := ⟨_, rfl⟩
          rw [evz102] at vq97
          obtain ⟨vz103, evz103⟩ : ∃ z, Gi g 355 22 = z := ⟨_, rfl⟩
          rw [evz103] at vq97
          rw [evz6] at vq98
          rw [evz102] at vq98
          have vcn := (chF.2 _ (by omega) (by omega)).trans vcn
          have vrt := fun vh => vRT.next (t0 := vz6.toInt) hq10 va94 va95 chF.2 (vq98 vh) ⟨by omega, by omega, by omega⟩ ⟨by omega, by omega, by omega⟩ (by omega) ⟨by omega, by omega, by omega, by omega, by omega⟩
          refine X_istore (i := 4) (ls' := [some (.ref 355), some (.int vr11), some (.int vz69), some (.int vz91), some (.int vr96)]) rfl rfl (Nat.le_of_ble_eq_true rfl) rfl ?_
          refine X_iload rfl rfl rfl ?_
          refine S_if_eq (tgt := 110) rfl rfl rfl rfl (fun vh104 => ?_) (fun vh104 => ?_)
          · refine X_aload_n rfl rfl rfl rfl ?_
            refine X_getR (a := 358) rfl rfl rfl ((congrFun V.1 355).trans s_355) rfl ((congrFun (V.2.1 355 (by decide)) 2).trans r_355_2) ?_
            refine X_aload_n rfl rfl rfl rfl ?_
            refine X_getI (v := vz6) rfl rfl rfl ((congrFun V.1 355).trans s_355) rfl evz6 ?_
            refine X_dup2 rfl rfl rfl rfl ?_
            refine S_iald rfl rfl ((congrFun V.1 358).trans s_358) rfl (by omega) (fun vz105 evz105 => ?_)
            have vf106 := (V.2.2.2.2.2.1 ((vz6.toInt : Int).toNat)).1 (by omega)
            rw [evz105] at vf106
            have vcq : vz105.toInt = vz69.toInt := by rw [← evz105, vcn]
            refine X_iconst (v := (1 : Int32)) rfl rfl rfl ?_
            refine S_iadd rfl rfl rfl (show (1 : Int32).toInt = 1 from rfl) (by omega) (fun vz107 hvz107 => ?_)
            refine S_iast (I := InvR _) rfl rfl ((congrFun V.1 358).trans s_358) rfl (by omega) (InvR_putX V (by rw [evz7] <;> omega) (vokT_count (t := Int.toNat vz7.toInt) (by omega) (by omega))) (fun g V ve108 vn109 hq => ?_)
            have hG := hq.trans hG
            have hF := vSm.putN hF vn109 (by unfold vsd; omega)
            have evz3 := (vn109 (355) 8 (Or.inl (by decide))).trans evz3
            have evz6 := (vn109 (355) 16 (Or.inl (by decide))).trans evz6
            have evz7 := (vn109 (356) 4 (Or.inl (by decide))).trans evz7
            have evz99 := (vn109 (355) 12 (Or.inl (by decide))).trans evz99
            have evz100 := (vn109 (355) 11 (Or.inl (by decide))).trans evz100
            have evz101 := (vn109 (355) 13 (Or.inl (by decide))).trans evz101
            have evz102 := (vn109 (355) 18 (Or.inl (by decide))).trans evz102
            have evz103 := (vn109 (355) 22 (Or.inl (by decide))).trans evz103
            have va110 := fun (k : Nat) (vh' : k ≠ (vz6.toInt : Int).toNat) => vn109 358 k (Or.inr vh')
            have va111 := ve108
            refine X_aload_n rfl rfl rfl rfl ?_
            refine X_getI (v := vz101) rfl rfl rfl ((congrFun V.1 355).trans s_355) rfl evz101 ?_
            refine X_bipush (v := (59 : Int32)) rfl rfl rfl ?_
            refine S_icmp_eq (tgt := 134) rfl rfl rfl rfl (show (59 : Int32).toInt = 59 from rfl) (fun vh112 => ?_) (fun vh112 => ?_)
            · refine X_aload_n rfl rfl rfl rfl ?_
              have vo355_11 : (Gi g 355 11).toInt = vz100.toInt := congrArg Int32.toInt evz100
              refine Y_callV (as := []) (st := []) rfl rfl rfl (by decide) rfl (Nat.le_of_ble_eq_true rfl) (by decide) (Nat.le_of_ble_eq_true rfl) rfl ((congrFun V.1 355).trans s_355) (by decide) (C_X13_nextToken V  (by rw [evz100] <;> omega) (by rw [evz100, evz3] <;> omega) (by rw [evz3] <;> omega)) ?_
              rintro _ g ⟨rfl, V, hq, chF, vq114, vq115, vq116, vq117, vq118, vq119⟩
              have hG := hq.trans hG
              have evz3 := (chF 355 8 (by decide)).trans evz3
              have evz6 := (chF 355 16 (by decide)).trans evz6
              have evz7 := (chF 356 4 (by decide)).trans evz7
              have evz102 := (chF 355 18 (by decide)).trans evz102
              have evz103 := (chF 355 22 (by decide)).trans evz103
              have hF := vSm.tr chF vi_da hF
              obtain ⟨vz120, evz120⟩ : ∃ z, Gi g 355 12 = z := ⟨_, rfl⟩
              rw [evz120] at vq114
              rw [evz120] at vq115
              rw [evz120] at vq116
              obtain ⟨vz121, evz121⟩ : ∃ z, Gi g 355 11 = z := ⟨_, rfl⟩
              rw [evz121] at vq116
              rw [evz121] at vq117
              rw [evz3] at vq117
              rw [evz3] at vq118
              obtain ⟨vz122, evz122⟩ : ∃ z, Gi g 355 13 = z := ⟨_, rfl⟩
              rw [evz122] at vq119
              rw [evz120] at vq119
              rw [evz121] at vq119
              rw [← (funext fun k => chF 358 k (Or.inl (by decide)) : Gi g 358 = _)] at va110 va111
              refine X_iconst (v := (0 : Int32)) rfl rfl rfl ?_
              exact LW_ireturn (st := []) rfl rfl rfl ⟨_, rfl, by decide, by decide, V, hG, hF, (by have vkr := (show (0 : Int32).toInt = 0 from rfl); rw [evz120, evz121, evz3, evz122, evz6, evz102, evz103] <;> omega), (by rw [evz7, evz6, evz102]; exact (by intro _; rw [va111]; exact vRT.cnt (vrt (by omega)) va110 (by omega) (by omega) (by omega)))⟩
            · refine X_iconst (v := (1 : Int32)) rfl rfl rfl ?_
              exact LW_ireturn (st := []) rfl rfl rfl ⟨_, rfl, by decide, by decide, V, hG, hF, (by have vkr := (show (1 : Int32).toInt = 1 from rfl); rw [evz99, evz100, evz3, evz101, evz6, evz102, evz103] <;> omega), (fun q => absurd q (by decide))⟩
          · refine X_iload rfl rfl rfl ?_
            have hr := (rfl : vr96.toInt = vr96.toInt)
            exact LW_ireturn (st := []) rfl rfl rfl ⟨_, rfl, by omega, by omega, V, hG, hF, (by rw [evz99, evz100, evz3, evz101, evz6, evz102, evz103] <;> omega), (by rw [evz7, evz6, evz102]; exact (fun q => absurd q (by omega)))⟩
        · refine X_bipush (v := (6 : Int32)) rfl rfl rfl ?_
          exact LW_ireturn (st := []) rfl rfl rfl ⟨_, rfl, by decide, by decide, V, hG, hF, (by have vkr := (show (6 : Int32).toInt = 6 from rfl); rw [evz1, evz2, evz3, evz5, evz6, evz9, evz10] <;> omega), (fun q => absurd q (by decide))⟩
      · refine X_iconst (v := (4 : Int32)) rfl rfl rfl ?_
        exact LW_ireturn (st := []) rfl rfl rfl ⟨_, rfl, by decide, by decide, V, hG, hF, (by have vkr := (show (4 : Int32).toInt = 4 from rfl); rw [evz1, evz2, evz3, evz5, evz6, evz9, evz10] <;> omega), (fun q => absurd q (by decide))⟩
  · refine X_iconst (v := (1 : Int32)) rfl rfl rfl ?_
    exact LW_ireturn (st := []) rfl rfl rfl ⟨_, rfl, by decide, by decide, V, hG, hF, (by have vkr := (show (1 : Int32).toInt = 1 from rfl); rw [evz1, evz2, evz3, evz5, evz6, evz9, evz10] <;> omega), (fun q => absurd q (by decide))⟩
set_option maxRecDepth 10000 in
set_option maxHeartbeats 40000000 in
theorem C_X13_readText_48 {P : Par} {g g0 : LH} {d n : Nat}  (V : InvR P g) (hG : Gr g = Gr g0) (hF : vSm vsf g g0) (o1 : Option Value) (hc356_4 : 0 ≤ (Gi g 356 4).toInt ∧ (Gi g 356 4).toInt ≤ 4) (hq0 : 0 ≤ (Gi g 355 12).toInt) (hq1 : (Gi g 355 12).toInt ≤ (Gi g 355 11).toInt) (hq2 : (Gi g 355 11).toInt ≤ (Gi g 355 8).toInt) (hq3 : (Gi g 355 8).toInt ≤ 300) (hq4 : (Gi g 355 13).toInt = 0 ∨ (Gi g 355 12).toInt < (Gi g 355 11).toInt) (hq5 : (Gi g 355 16).toInt = 873 * (Gi g 356 4).toInt) (hq6 : (Gi g 356 4).toInt ≤ 3) (hq7 : 0 ≤ (Gi g 355 18).toInt) (hq8 : (Gi g 355 18).toInt ≤ (Gi g 355 12).toInt) (hq9 : 0 ≤ (Gi g 355 22).toInt ∧ (Gi g 355 22).toInt ≤ 8) (hq10 : (Gi g 356 4).toInt = (Gi g0 356 4).toInt) (hq11 : vRT (Gi g 358) (Gi g 356 4).toInt ((Gi g 358) (Int.toNat (Gi g 355 16).toInt)).toInt (Gi g 355 18).toInt) (hmu : (300 - (Gi g 355 12).toInt) * 1 + 0 < (n : Int) + 1) (ih48 : ∀ (g : LH) (V : InvR P g) (hG : Gr g = Gr g0) (hF : vSm vsf g g0) (o1 : Option Value) (hc356_4 : 0 ≤ (Gi g 356 4).toInt ∧ (Gi g 356 4).toInt ≤ 4) (hq0 : 0 ≤ (Gi g 355 12).toInt) (hq1 : (Gi g 355 12).toInt ≤ (Gi g 355 11).toInt) (hq2 : (Gi g 355 11).toInt ≤ (Gi g 355 8).toInt) (hq3 : (Gi g 355 8).toInt ≤ 300) (hq4 : (Gi g 355 13).toInt = 0 ∨ (Gi g 355 12).toInt < (Gi g 355 11).toInt) (hq5 : (Gi g 355 16).toInt = 873 * (Gi g 356 4).toInt) (hq6 : (Gi g 356 4).toInt ≤ 3) (hq7 : 0 ≤ (Gi g 355 18).toInt) (hq8 : (Gi g 355 18).toInt ≤ (Gi g 355 12).toInt) (hq9 : 0 ≤ (Gi g 355 22).toInt ∧ (Gi g 355 22).toInt ≤ 8) (hq10 : (Gi g 356 4).toInt = (Gi g0 356 4).toInt) (hq11 : vRT (Gi g 358) (Gi g 356 4).toInt ((Gi g 358) (Int.toNat (Gi g 355 16).toInt)).toInt (Gi g 355 18).toInt), (300 - (Gi g 355 12).toInt) * 1 + 0 < (n : Int) → LW 234 (d + 58) 0 0 48 [some (.ref 355), o1] [] g (fun v g' => ∃ r : Int32, v = some (.int r) ∧ 0 ≤ r.toInt ∧ r.toInt ≤ 8 ∧ InvR P g' ∧ Gr g' = Gr g0 ∧ vSm vsf g' g0 ∧ (r.toInt = 0 → wfT (Gi g' 358) (Int.toNat (Gi g' 356 4).toInt)))) : LW 234 (d + 58) 0 0 48 [some (.ref 355), o1] [] g (fun v g' => ∃ r : Int32, v = some (.int r) ∧ 0 ≤ r.toInt ∧ r.toInt ≤ 8 ∧ InvR P g' ∧ Gr g' = Gr g0 ∧ vSm vsf g' g0 ∧ (r.toInt = 0 → wfT (Gi g' 358) (Int.toNat (Gi g' 356 4).toInt))) := by
  obtain ⟨vz1, evz1⟩ : ∃ z, Gi g 356 4 = z := ⟨_, rfl⟩
  rw [evz1] at hc356_4
  obtain ⟨vz2, evz2⟩ : ∃ z, Gi g 355 12 = z := ⟨_, rfl⟩
  rw [evz2] at hq0
  rw [evz2] at hq1
  obtain ⟨vz3, evz3⟩ : ∃ z, Gi g 355 11 = z := ⟨_, rfl⟩
  rw [evz3] at hq1
  rw [evz3] at hq2
  obtain ⟨vz4, evz4⟩ : ∃ z, Gi g 355 8 = z := ⟨_, rfl⟩
  have vf5 := O_355_8 (V.2.2.2.2.2.2.1 355 (8) (Nat.le_of_ble_eq_true rfl))
  rw [evz4] at vf5
  rw [evz4] at hq2
  rw [evz4] at hq3
  obtain ⟨vz6, evz6⟩ : ∃ z, Gi g 355 13 = z := ⟨_, rfl⟩
  rw [evz6] at hq4
  rw [evz2] at hq4
  rw [evz3] at hq4
  obtain ⟨vz7, evz7⟩ : ∃ z, Gi g 355 16 = z := ⟨_, rfl⟩
  rw [evz7] at hq5
  rw [evz1] at hq5
  rw [evz1] at hq6
  obtain ⟨vz8, evz8⟩ : ∃ z, Gi g 355 18 = z := ⟨_, rfl⟩
  rw [evz8] at hq7
  rw [evz8] at hq8
  rw [evz2] at hq8
  obtain ⟨vz9, evz9⟩ : ∃ z, Gi g 355 22 = z := ⟨_, rfl⟩
  rw [evz9] at hq9
  rw [evz1] at hq10
  rw [evz1] at hq11
  rw [evz7] at hq11
  rw [evz8] at hq11
  rw [evz2] at hmu
  refine X_aload_n rfl rfl rfl rfl ?_
  refine X_getI (v := vz6) rfl rfl rfl ((congrFun V.1 355).trans s_355) rfl evz6 ?_
  refine S_if_eq (tgt := 69) rfl rfl rfl rfl (fun vh10 => ?_) (fun vh10 => ?_)
  · refine X_iconst (v := (0 : Int32)) rfl rfl rfl ?_
    exact LW_ireturn (st := []) rfl rfl rfl ⟨_, rfl, by decide, by decide, V, hG, hF, (by rw [evz1]; exact (by
          exact fun _ => vRT.fin hq11 (by omega) (by omega) (by omega) rfl))⟩
  · refine X_aload_n rfl rfl rfl rfl ?_
    have vo355_12 : (Gi g 355 12).toInt = vz2.toInt := congrArg Int32.toInt evz2
    have vo355_16 : (Gi g 355 16).toInt = vz7.toInt := congrArg Int32.toInt evz7
    have vo355_18 : (Gi g 355 18).toInt = vz8.toInt := congrArg Int32.toInt evz8
    refine Y_callV (as := []) (st := []) rfl rfl rfl (by decide) rfl (Nat.le_of_ble_eq_true rfl) (by decide) (Nat.le_of_ble_eq_true rfl) rfl ((congrFun V.1 355).trans s_355) (by decide) (C_X13_clause V  (by rw [evz2] <;> omega) (by rw [evz2, evz3] <;> omega) (by rw [evz3, evz4] <;> omega) (by rw [evz4] <;> omega) (by rw [evz6, evz2, evz3] <;> omega) (by rw [evz7, evz1] <;> omega) (by rw [evz1] <;> omega) (by rw [evz8] <;> omega) (by rw [evz8, evz2] <;> omega) (by rw [evz9] <;> omega) (by rw [evz1, evz7, evz8]; exact (hq11))) ?_
    rintro _ g ⟨vr11, rfl, hrvr110, hrvr111, V, hq, chF, vq12, vq13⟩
    have hG := hq.trans hG
    have evz1 := (chF 356 4 (by decide)).trans evz1
    have evz4 := (chF 355 8 (by decide)).trans evz4
    have evz7 := (chF 355 16 (by decide)).trans evz7
    have hF := vSm.tr chF vi_fd hF
    obtain ⟨vz14, evz14⟩ : ∃ z, Gi g 355 12 = z := ⟨_, rfl⟩
    rw [evz14] at vq12
    obtain ⟨vz15, evz15⟩ : ∃ z, Gi g 355 11 = z := ⟨_, rfl⟩
    rw [evz15] at vq12
    rw [evz4] at vq12
    obtain ⟨vz16, evz16⟩ : ∃ z, Gi g 355 13 = z := ⟨_, rfl⟩
    rw [evz16] at vq12
    rw [evz7] at vq12
    obtain ⟨vz17, evz17⟩ : ∃ z, Gi g 355 18 = z := ⟨_, rfl⟩
    rw [evz17] at vq12
    obtain ⟨vz18, evz18⟩ : ∃ z, Gi g 355 22 = z := ⟨_, rfl⟩
    rw [evz18] at vq12
    rw [evz1] at vq13
    rw [evz7] at vq13
    rw [evz17] at vq13
    refine X_istore_n (i := 1) (ls' := [some (.ref 355), some (.int vr11)]) rfl rfl rfl (Nat.le_of_ble_eq_true rfl) rfl ?_
    refine X_iload_n rfl rfl rfl rfl ?_
    refine S_if_eq (tgt := 66) rfl rfl rfl rfl (fun vh19 => ?_) (fun vh19 => ?_)
    · refine LW_goto (tgt := 48) rfl rfl ?_
      exact ih48 _ V hG hF (some (.int vr11)) (by rw [evz1]; omega) (by rw [evz14] <;> omega) (by rw [evz14, evz15] <;> omega) (by rw [evz15, evz4] <;> omega) (by rw [evz4] <;> omega) (by rw [evz16, evz14, evz15] <;> omega) (by rw [evz7, evz1] <;> omega) (by rw [evz1] <;> omega) (by rw [evz17] <;> omega) (by rw [evz17, evz14] <;> omega) (by rw [evz18] <;> omega) (by rw [evz1] <;> omega) (by rw [evz1, evz7, evz17]; exact (by
            exact vq13 (by omega)))  (by rw [evz14] <;> omega)
    · refine X_iload_n rfl rfl rfl rfl ?_
      have hr := (rfl : vr11.toInt = vr11.toInt)
      exact LW_ireturn (st := []) rfl rfl rfl ⟨_, rfl, by omega, by omega, V, hG, hF, (by rw [evz1]; exact (by
            exact fun q => absurd q (by omega)))⟩
theorem C_X13_readText_all {P : Par} {g0 : LH} {d : Nat}  : ∀ n : Nat, (∀ (g : LH) (V : InvR P g) (hG : Gr g = Gr g0) (hF : vSm vsf g g0) (o1 : Option Value) (hc356_4 : 0 ≤ (Gi g 356 4).toInt ∧ (Gi g 356 4).toInt ≤ 4) (hq0 : 0 ≤ (Gi g 355 12).toInt) (hq1 : (Gi g 355 12).toInt ≤ (Gi g 355 11).toInt) (hq2 : (Gi g 355 11).toInt ≤ (Gi g 355 8).toInt) (hq3 : (Gi g 355 8).toInt ≤ 300) (hq4 : (Gi g 355 13).toInt = 0 ∨ (Gi g 355 12).toInt < (Gi g 355 11).toInt) (hq5 : (Gi g 355 16).toInt = 873 * (Gi g 356 4).toInt) (hq6 : (Gi g 356 4).toInt ≤ 3) (hq7 : 0 ≤ (Gi g 355 18).toInt) (hq8 : (Gi g 355 18).toInt ≤ (Gi g 355 12).toInt) (hq9 : 0 ≤ (Gi g 355 22).toInt ∧ (Gi g 355 22).toInt ≤ 8) (hq10 : (Gi g 356 4).toInt = (Gi g0 356 4).toInt) (hq11 : vRT (Gi g 358) (Gi g 356 4).toInt ((Gi g 358) (Int.toNat (Gi g 355 16).toInt)).toInt (Gi g 355 18).toInt), (300 - (Gi g 355 12).toInt) * 1 + 0 < (n : Int) → LW 234 (d + 58) 0 0 48 [some (.ref 355), o1] [] g (fun v g' => ∃ r : Int32, v = some (.int r) ∧ 0 ≤ r.toInt ∧ r.toInt ≤ 8 ∧ InvR P g' ∧ Gr g' = Gr g0 ∧ vSm vsf g' g0 ∧ (r.toInt = 0 → wfT (Gi g' 358) (Int.toNat (Gi g' 356 4).toInt)))) := by
  intro n
  induction n with
  | zero => exact fun g V hG hF o1 hc356_4 hq0 hq1 hq2 hq3 hq4 hq5 hq6 hq7 hq8 hq9 hq10 hq11 hmu => absurd hmu (by omega)
  | succ n ih => exact fun g V hG hF o1 hc356_4 hq0 hq1 hq2 hq3 hq4 hq5 hq6 hq7 hq8 hq9 hq10 hq11 hmu => C_X13_readText_48  V hG hF o1 hc356_4 hq0 hq1 hq2 hq3 hq4 hq5 hq6 hq7 hq8 hq9 hq10 hq11 (by omega) ih
set_option maxRecDepth 10000 in
set_option maxHeartbeats 40000000 in
theorem C_X13_readText {P : Par} {g : LH} {d : Nat}  (V : InvR P g)  (hq0 : (Gi g 356 4).toInt ≤ 3) (hq1 : 0 ≤ (Gi g 355 8).toInt ∧ (Gi g 355 8).toInt ≤ 300)  : LW 234 (d + 58) 0 0 0 (lEnt (mL 234) [.ref 355]) [] g (fun v g' => ∃ r : Int32, v = some (.int r) ∧ 0 ≤ r.toInt ∧ r.toInt ≤ 8 ∧ InvR P g' ∧ Gr g' = Gr g ∧ vSm vsf g' g ∧ (r.toInt = 0 → wfT (Gi g' 358) (Int.toNat (Gi g' 356 4).toInt))) := by
  refine LW_ls (ls' := [some (.ref 355), none]) rfl ?_
  have hG : Gr g = Gr g := rfl
  have hF : vSm vsf g g := vSm.refl
  obtain ⟨vz1, evz1⟩ : ∃ z, Gi g 356 4 = z := ⟨_, rfl⟩
  have vf2 := A_TEXTS (V.2.2.2.1 (4)) (by omega)
  rw [evz1] at vf2
  rw [evz1] at hq0
  obtain ⟨vz3, evz3⟩ : ∃ z, Gi g 355 8 = z := ⟨_, rfl⟩
  have vf4 := O_355_8 (V.2.2.2.2.2.2.1 355 (8) (Nat.le_of_ble_eq_true rfl))
  rw [evz3] at vf4
  rw [evz3] at hq1
  have vo356_4 : (Gi g 356 4).toInt = vz1.toInt := congrArg Int32.toInt evz1
  refine X_aload_n rfl rfl rfl rfl ?_
  refine X_sipush (v := (873 : Int32)) rfl rfl rfl ?_
  refine X_aload_n rfl rfl rfl rfl ?_
  refine X_getR (a := 356) rfl rfl rfl ((congrFun V.1 355).trans s_355) rfl ((congrFun (V.2.1 355 (by decide)) 0).trans r_355_0) ?_
  refine X_iconst (v := (4 : Int32)) rfl rfl rfl ?_
  refine S_iald_v rfl rfl ((congrFun V.1 356).trans s_356) (show (4 : Int32).toInt = 4 from rfl) (by omega) evz1 ?_
  refine S_imul rfl rfl (show (873 : Int32).toInt = 873 from rfl) rfl (by omega) (fun vz6 hvz6 => ?_)
  refine S_putI (I := InvR _) rfl rfl rfl ((congrFun V.1 355).trans s_355) rfl rfl rfl rfl (InvR_putO V (by decide) trivial) (fun g V ve7 vn8 hq => ?_)
  have hG := hq.trans hG
  have hF := vSm.putN hF vn8 (by decide)
  have evz1 := (vn8 (356) 4 (Or.inl (by decide))).trans evz1
  have evz3 := (vn8 (355) 8 (Or.inr (by decide))).trans evz3
  refine X_aload_n rfl rfl rfl rfl ?_
  refine X_getR (a := 358) rfl rfl rfl ((congrFun V.1 355).trans s_355) rfl ((congrFun (V.2.1 355 (by decide)) 2).trans r_355_2) ?_
  refine X_aload_n rfl rfl rfl rfl ?_
  refine X_getI (v := vz6) rfl rfl rfl ((congrFun V.1 355).trans s_355) rfl ve7 ?_
  refine X_iconst (v := (0 : Int32)) rfl rfl rfl ?_
  refine S_iast (I := InvR _) rfl rfl ((congrFun V.1 358).trans s_358) rfl (by omega) (InvR_putX V (by rw [evz1] <;> omega) (vokT_count (t := Int.toNat vz1.toInt) (by omega) (by decide))) (fun g V ve9 vn10 hq => ?_)
  have hG := hq.trans hG
  have hF := vSm.putN hF vn10 (by unfold vsf; omega)
  have evz1 := (vn10 (356) 4 (Or.inl (by decide))).trans evz1
  have evz3 := (vn10 (355) 8 (Or.inl (by decide))).trans evz3
  have ve7 := (vn10 (355) 16 (Or.inl (by decide))).trans ve7
  have va11 := fun (k : Nat) (vh' : k ≠ (vz6.toInt : Int).toNat) => vn10 358 k (Or.inr vh')
  have va12 := ve9
  refine X_aload_n rfl rfl rfl rfl ?_
  refine X_iconst (v := (0 : Int32)) rfl rfl rfl ?_
  refine S_putI (I := InvR _) rfl rfl rfl ((congrFun V.1 355).trans s_355) rfl rfl rfl rfl (InvR_putO V (by decide) trivial) (fun g V ve13 vn14 hq => ?_)
  have hG := hq.trans hG
  have hF := vSm.putN hF vn14 (by decide)
  have evz1 := (vn14 (356) 4 (Or.inl (by decide))).trans evz1
  have evz3 := (vn14 (355) 8 (Or.inr (by decide))).trans evz3
  have ve7 := (vn14 (355) 16 (Or.inr (by decide))).trans ve7
  rw [← (funext fun k => vn14 358 k (Or.inl (by decide)) : Gi g 358 = _)] at va11 va12
  refine X_aload_n rfl rfl rfl rfl ?_
  refine X_iconst (v := (0 : Int32)) rfl rfl rfl ?_
  refine S_putI (I := InvR _) rfl rfl rfl ((congrFun V.1 355).trans s_355) rfl rfl rfl rfl (InvR_putO V (by decide) trivial) (fun g V ve15 vn16 hq => ?_)
  have hG := hq.trans hG
  have hF := vSm.putN hF vn16 (by decide)
  have evz1 := (vn16 (356) 4 (Or.inl (by decide))).trans evz1
  have evz3 := (vn16 (355) 8 (Or.inr (by decide))).trans evz3
  have ve7 := (vn16 (355) 16 (Or.inr (by decide))).trans ve7
  have ve13 := (vn16 (355) 18 (Or.inr (by decide))).trans ve13
  rw [← (funext fun k => vn16 358 k (Or.inl (by decide)) : Gi g 358 = _)] at va11 va12
  refine X_aload_n rfl rfl rfl rfl ?_
  refine X_iconst (v := (0 : Int32)) rfl rfl rfl ?_
  refine S_putI (I := InvR _) rfl rfl rfl ((congrFun V.1 355).trans s_355) rfl rfl rfl rfl (InvR_putO V (by decide) trivial) (fun g V ve17 vn18 hq => ?_)
  have hG := hq.trans hG
  have hF := vSm.putN hF vn18 (by decide)
  have evz1 := (vn18 (356) 4 (Or.inl (by decide))).trans evz1
  have evz3 := (vn18 (355) 8 (Or.inr (by decide))).trans evz3
  have ve7 := (vn18 (355) 16 (Or.inr (by decide))).trans ve7
  have ve13 := (vn18 (355) 18 (Or.inr (by decide))).trans ve13
  have ve15 := (vn18 (355) 22 (Or.inr (by decide))).trans ve15
  rw [← (funext fun k => vn18 358 k (Or.inl (by decide)) : Gi g 358 = _)] at va11 va12
  refine X_aload_n rfl rfl rfl rfl ?_
  refine X_iconst (v := (0 : Int32)) rfl rfl rfl ?_
  refine S_putI (I := InvR _) rfl rfl rfl ((congrFun V.1 355).trans s_355) rfl rfl rfl rfl (InvR_putO V (by decide) trivial) (fun g V ve19 vn20 hq => ?_)
  have hG := hq.trans hG
  have hF := vSm.putN hF vn20 (by decide)
  have evz1 := (vn20 (356) 4 (Or.inl (by decide))).trans evz1
  have evz3 := (vn20 (355) 8 (Or.inr (by decide))).trans evz3
  have ve7 := (vn20 (355) 16 (Or.inr (by decide))).trans ve7
  have ve13 := (vn20 (355) 18 (Or.inr (by decide))).trans ve13
  have ve15 := (vn20 (355) 22 (Or.inr (by decide))).trans ve15
  have ve17 := (vn20 (355) 25 (Or.inr (by decide))).trans ve17
  rw [← (funext fun k => vn20 358 k (Or.inl (by decide)) : Gi g 358 = _)] at va11 va12
  refine X_aload_n rfl rfl rfl rfl ?_
  have vo355_11 : (Gi g 355 11).toInt = 0 := (congrArg Int32.toInt ve19).trans (show (0 : Int32).toInt = 0 from rfl)
  refine Y_callV (as := []) (st := []) rfl rfl rfl (by decide) rfl (Nat.le_of_ble_eq_true rfl) (by decide) (Nat.le_of_ble_eq_true rfl) rfl ((congrFun V.1 355).trans s_355) (by decide) (C_X13_nextToken V  (by have vk0 := (show (0 : Int32).toInt = 0 from rfl); rw [ve19] <;> omega) (by have vk0 := (show (0 : Int32).toInt = 0 from rfl); rw [ve19, evz3] <;> omega) (by rw [evz3] <;> omega)) ?_
  rintro _ g ⟨rfl, V, hq, chF, vq22, vq23, vq24, vq25, vq26, vq27⟩
  have hG := hq.trans hG
  have evz1 := (chF 356 4 (by decide)).trans evz1
  have evz3 := (chF 355 8 (by decide)).trans evz3
  have ve7 := (chF 355 16 (by decide)).trans ve7
  have ve13 := (chF 355 18 (by decide)).trans ve13
  have ve15 := (chF 355 22 (by decide)).trans ve15
  have ve17 := (chF 355 25 (by decide)).trans ve17
  have hF := vSm.tr chF vi_fa hF
  obtain ⟨vz28, evz28⟩ : ∃ z, Gi g 355 12 = z := ⟨_, rfl⟩
  rw [evz28] at vq22
  rw [evz28] at vq23
  rw [evz28] at vq24
  obtain ⟨vz29, evz29⟩ : ∃ z, Gi g 355 11 = z := ⟨_, rfl⟩
  rw [evz29] at vq24
  rw [evz29] at vq25
  rw [evz3] at vq25
  rw [evz3] at vq26
  obtain ⟨vz30, evz30⟩ : ∃ z, Gi g 355 13 = z := ⟨_, rfl⟩
  rw [evz30] at vq27
  rw [evz28] at vq27
  rw [evz29] at vq27
  rw [← (funext fun k => chF 358 k (Or.inl (by decide)) : Gi g 358 = _)] at va11 va12
  exact (C_X13_readText_all (((300 - (Gi g 355 12).toInt) * 1 + 0) + 1 : Int).toNat) _ V hG hF none (by rw [evz1]; omega) (by rw [evz28] <;> omega) (by rw [evz28, evz29] <;> omega) (by rw [evz29, evz3] <;> omega) (by rw [evz3] <;> omega) (by rw [evz30, evz28, evz29] <;> omega) (by rw [ve7, evz1] <;> omega) (by rw [evz1] <;> omega) (by have vk0 := (show (0 : Int32).toInt = 0 from rfl); rw [ve13] <;> omega) (by have vk0 := (show (0 : Int32).toInt = 0 from rfl); rw [ve13, evz28] <;> omega) (by have vk0 := (show (0 : Int32).toInt = 0 from rfl); rw [ve15] <;> omega) (by rw [evz1] <;> omega) (by rw [evz1, ve7, ve13]; exact (vRT.nil (by rw [va12]; decide)))  (by rw [evz28] <;> omega)
set_option maxRecDepth 10000 in
set_option maxHeartbeats 40000000 in
theorem C_X13_text {P : Par} {g : LH} {d : Nat}  (V : InvR P g)    : LW 235 (d + 64) 0 0 0 (lEnt (mL 235) [.ref 355]) [] g (fun v g' => ∃ r : Int32, v = some (.int r) ∧ (-1) ≤ r.toInt ∧ r.toInt ≤ 3 ∧ InvR P g' ∧ Gr g' = Gr g) := by
  refine LW_ls (ls' := [some (.ref 355)]) rfl ?_
  have hG : Gr g = Gr g := rfl
  obtain ⟨vz1, evz1⟩ : ∃ z, Gi g 355 8 = z := ⟨_, rfl⟩
  have vf2 := O_355_8 (V.2.2.2.2.2.2.1 355 (8) (Nat.le_of_ble_eq_true rfl))
  rw [evz1] at vf2
  refine X_aload_n rfl rfl rfl rfl ?_
  refine X_getR (a := 356) rfl rfl rfl ((congrFun V.1 355).trans s_355) rfl ((congrFun (V.2.1 355 (by decide)) 0).trans r_355_0) ?_
  refine X_iconst (v := (4 : Int32)) rfl rfl rfl ?_
  refine S_iald rfl rfl ((congrFun V.1 356).trans s_356) (show (4 : Int32).toInt = 4 from rfl) (by omega) (fun vz3 evz3 => ?_)
  have evz3 : Gi g 356 4 = vz3 := evz3
  have vf4 := A_TEXTS (V.2.2.2.1 (4)) (by omega)
  rw [evz3] at vf4
  refine X_iconst (v := (4 : Int32)) rfl rfl rfl ?_
  refine S_icmp_ne (tgt := 12) rfl rfl rfl rfl (show (4 : Int32).toInt = 4 from rfl) (fun vh5 => ?_) (fun vh5 => ?_)
  · refine X_aload_n rfl rfl rfl rfl ?_
    refine X_aload_n rfl rfl rfl rfl ?_
    refine Y_callV (as := []) (st := [.ref 355]) rfl rfl rfl (by decide) rfl (Nat.le_of_ble_eq_true rfl) (by decide) (Nat.le_of_ble_eq_true rfl) rfl ((congrFun V.1 355).trans s_355) (by decide) (C_X13_readText V  (by rw [evz3] <;> omega) (by rw [evz1] <;> omega)) ?_
    rintro _ g ⟨vr6, rfl, hrvr60, hrvr61, V, hq, chF, vq7⟩
    have hG := hq.trans hG
    have evz1 := (chF 355 8 (by decide)).trans evz1
    have evz3 := (chF 356 4 (by decide)).trans evz3
    rw [evz3] at vq7
    refine S_putI (I := InvR _) rfl rfl rfl ((congrFun V.1 355).trans s_355) rfl rfl rfl rfl (InvR_putO V (by decide) trivial) (fun g V ve8 vn9 hq => ?_)
    have hG := hq.trans hG
    have evz1 := (vn9 (355) 8 (Or.inr (by decide))).trans evz1
    have evz3 := (vn9 (356) 4 (Or.inl (by decide))).trans evz3
    rw [← (funext fun k => vn9 358 k (Or.inl (by decide)) : Gi g 358 = _)] at vq7
    refine X_aload_n rfl rfl rfl rfl ?_
    refine X_aload_n rfl rfl rfl rfl ?_
    refine X_getI (v := vr6) rfl rfl rfl ((congrFun V.1 355).trans s_355) rfl ve8 ?_
    refine S_if_ne (tgt := 32) rfl rfl rfl rfl (fun vh10 => ?_) (fun vh10 => ?_)
    · refine X_aload_n rfl rfl rfl rfl ?_
      refine S_getI rfl rfl rfl ((congrFun V.1 355).trans s_355) rfl (fun vz11 evz11 => ?_)
      refine S_putI (I := InvR _) rfl rfl rfl ((congrFun V.1 355).trans s_355) rfl rfl rfl rfl (InvR_putO V (by decide) trivial) (fun g V ve12 vn13 hq => ?_)
      have hG := hq.trans hG
      have evz1 := (vn13 (355) 8 (Or.inr (by decide))).trans evz1
      have evz3 := (vn13 (356) 4 (Or.inl (by decide))).trans evz3
      have ve8 := (vn13 (355) 9 (Or.inr (by decide))).trans ve8
      have evz11 := (vn13 (355) 12 (Or.inr (by decide))).trans evz11
      rw [← (funext fun k => vn13 358 k (Or.inl (by decide)) : Gi g 358 = _)] at vq7
      refine X_aload_n rfl rfl rfl rfl ?_
      refine X_iconst (v := (0 : Int32)) rfl rfl rfl ?_
      refine S_putI (I := InvR _) rfl rfl rfl ((congrFun V.1 355).trans s_355) rfl rfl rfl rfl (InvR_putO V (by decide) (show okO 355 _ _ from (show 0 ≤ (0 : Int32).toInt ∧ (0 : Int32).toInt ≤ 300 by decide))) (fun g V ve14 vn15 hq => ?_)
      have hG := hq.trans hG
      have evz3 := (vn15 (356) 4 (Or.inl (by decide))).trans evz3
      have ve8 := (vn15 (355) 9 (Or.inr (by decide))).trans ve8
      have evz11 := (vn15 (355) 12 (Or.inr (by decide))).trans evz11
      have ve12 := (vn15 (355) 10 (Or.inr (by decide))).trans ve12
      rw [← (funext fun k => vn15 358 k (Or.inl (by decide)) : Gi g 358 = _)] at vq7
      refine X_aload_n rfl rfl rfl rfl ?_
      refine X_getI (v := vr6) rfl rfl rfl ((congrFun V.1 355).trans s_355) rfl ve8 ?_
      refine S_if_eq (tgt := 53) rfl rfl rfl rfl (fun q => absurd q (by omega)) (fun vh16 => ?_)
      refine X_iconst (v := (-1 : Int32)) rfl rfl rfl ?_
      exact LW_ireturn (st := []) rfl rfl rfl ⟨_, rfl, by decide, by decide, V, hG⟩
    · refine X_iconst (v := (-1 : Int32)) rfl rfl rfl ?_
      refine LW_goto (tgt := 36) rfl rfl ?_
      refine S_putI (I := InvR _) rfl rfl rfl ((congrFun V.1 355).trans s_355) rfl rfl rfl rfl (InvR_putO V (by decide) trivial) (fun g V ve17 vn18 hq => ?_)
      have hG := hq.trans hG
      have evz1 := (vn18 (355) 8 (Or.inr (by decide))).trans evz1
      have evz3 := (vn18 (356) 4 (Or.inl (by decide))).trans evz3
      have ve8 := (vn18 (355) 9 (Or.inr (by decide))).trans ve8
      rw [← (funext fun k => vn18 358 k (Or.inl (by decide)) : Gi g 358 = _)] at vq7
      refine X_aload_n rfl rfl rfl rfl ?_
      refine X_iconst (v := (0 : Int32)) rfl rfl rfl ?_
      refine S_putI (I := InvR _) rfl rfl rfl ((congrFun V.1 355).trans s_355) rfl rfl rfl rfl (InvR_putO V (by decide) (show okO 355 _ _ from (show 0 ≤ (0 : Int32).toInt ∧ (0 : Int32).toInt ≤ 300 by decide))) (fun g V ve19 vn20 hq => ?_)
      have hG := hq.trans hG
      have evz3 := (vn20 (356) 4 (Or.inl (by decide))).trans evz3
      have ve8 := (vn20 (355) 9 (Or.inr (by decide))).trans ve8
      have ve17 := (vn20 (355) 10 (Or.inr (by decide))).trans ve17
      rw [← (funext fun k => vn20 358 k (Or.inl (by decide)) : Gi g 358 = _)] at vq7
      refine X_aload_n rfl rfl rfl rfl ?_
      refine X_getI (v := vr6) rfl rfl rfl ((congrFun V.1 355).trans s_355) rfl ve8 ?_
      refine S_if_eq (tgt := 53) rfl rfl rfl rfl (fun vh21 => ?_) (fun q => absurd q (by omega))
      refine X_aload_n rfl rfl rfl rfl ?_
      refine X_getR (a := 356) rfl rfl rfl ((congrFun V.1 355).trans s_355) rfl ((congrFun (V.2.1 355 (by decide)) 0).trans r_355_0) ?_
      refine X_iconst (v := (4 : Int32)) rfl rfl rfl ?_
      refine X_dup2 rfl rfl rfl rfl ?_
      refine S_iald_v rfl rfl ((congrFun V.1 356).trans s_356) (show (4 : Int32).toInt = 4 from rfl) (by omega) evz3 ?_
      refine X_iconst (v := (1 : Int32)) rfl rfl rfl ?_
      refine S_iadd rfl rfl rfl (show (1 : Int32).toInt = 1 from rfl) (by omega) (fun vz23 hvz23 => ?_)
      refine S_iast (I := InvR _) rfl rfl ((congrFun V.1 356).trans s_356) (show (4 : Int32).toInt = 4 from rfl) (by omega) (InvR_incT V (by rw [evz3]; omega) (by rw [evz3]; omega) (by rw [evz3]; exact vq7 (by omega))) (fun g V ve24 vn25 hq => ?_)
      have hG := hq.trans hG
      have ve8 := (vn25 (355) 9 (Or.inl (by decide))).trans ve8
      have ve17 := (vn25 (355) 10 (Or.inl (by decide))).trans ve17
      have ve19 := (vn25 (355) 8 (Or.inl (by decide))).trans ve19
      rw [← (funext fun k => vn25 358 k (Or.inl (by decide)) : Gi g 358 = _)] at vq7
      have ve24 : Gi g 356 4 = vz23 := ve24
      refine X_aload_n rfl rfl rfl rfl ?_
      refine X_getR (a := 356) rfl rfl rfl ((congrFun V.1 355).trans s_355) rfl ((congrFun (V.2.1 355 (by decide)) 0).trans r_355_0) ?_
      refine X_iconst (v := (4 : Int32)) rfl rfl rfl ?_
      refine S_iald_v rfl rfl ((congrFun V.1 356).trans s_356) (show (4 : Int32).toInt = 4 from rfl) (by omega) ve24 ?_
      refine X_iconst (v := (1 : Int32)) rfl rfl rfl ?_
      refine S_isub rfl rfl rfl (show (1 : Int32).toInt = 1 from rfl) (by omega) (fun vz27 hvz27 => ?_)
      have hr := (rfl : vz27.toInt = vz27.toInt)
      exact LW_ireturn (st := []) rfl rfl rfl ⟨_, rfl, by omega, by omega, V, hG⟩
  · refine X_iconst (v := (-1 : Int32)) rfl rfl rfl ?_
    exact LW_ireturn (st := []) rfl rfl rfl ⟨_, rfl, by decide, by decide, V, hG⟩
