/-! the reader: what is asked -/
set_option maxRecDepth 10000 in
set_option maxHeartbeats 40000000 in
theorem C_X13_summed_10 {P : Par} {vs vn vt : Nat} {g g0 : LH} {d n : Nat}  (V : InvR P g) (hG : Gr g = Gr g0) (hF : (vSm vsd g g0 ∧ vCd g g0)) (o1 : Option Value) (hq0 : 0 ≤ (Gi g 355 12).toInt) (hq1 : (Gi g 355 12).toInt ≤ (Gi g 355 11).toInt) (hq2 : (Gi g 355 11).toInt ≤ (Gi g 355 8).toInt) (hq3 : (Gi g 355 8).toInt ≤ 300) (hq4 : (Gi g 355 13).toInt = 0 ∨ (Gi g 355 12).toInt < (Gi g 355 11).toInt) (hq5 : (Gi g 355 16).toInt = 873 * (Gi g 356 4).toInt) (hq6 : (Gi g 356 4).toInt ≤ 3) (hq7 : 0 ≤ (Gi g 355 18).toInt) (hq8 : 0 ≤ (Gi g 355 21).toInt) (hq9 : (Gi g 355 18).toInt + (Gi g 355 21).toInt ≤ (Gi g 355 12).toInt) (hq10 : (Gi g 355 18).toInt + (Gi g 355 21).toInt + (Gi g0 355 12).toInt ≤ (Gi g0 355 18).toInt + (Gi g 355 12).toInt) (hq11 : (Gi g0 355 18).toInt ≤ (Gi g 355 18).toInt) (hq12 : (Gi g 355 16).toInt = (Gi g0 355 16).toInt) (hq13 : (Gi g0 355 12).toInt ≤ (Gi g 355 12).toInt) (hq14 : (Gi g0 355 18).toInt ≤ (Gi g0 355 12).toInt) (hq15 : (Gi g 355 23).toInt = 0 ∨ (Gi g 355 23).toInt = 1) (hq16 : (Gi g 355 23).toInt = 0 ∨ (Gi g0 355 12).toInt < (Gi g 355 12).toInt) (hq17 : vSV (Gi g 358) (Gi g 362) (Int.toNat (Gi g 355 16).toInt + 265) vs vn vt (Gi g 355 18).toInt (Gi g 355 21).toInt (Gi g 355 22).toInt ((Gi g0 355 22).toInt) ((Gi g 355 23).toInt) (Gi g 355 12).toInt) (hmu : (300 - (Gi g 355 12).toInt) * 1 + 0 < (n : Int) + 1) (ih10 : ∀ (g : LH) (V : InvR P g) (hG : Gr g = Gr g0) (hF : (vSm vsd g g0 ∧ vCd g g0)) (o1 : Option Value) (hq0 : 0 ≤ (Gi g 355 12).toInt) (hq1 : (Gi g 355 12).toInt ≤ (Gi g 355 11).toInt) (hq2 : (Gi g 355 11).toInt ≤ (Gi g 355 8).toInt) (hq3 : (Gi g 355 8).toInt ≤ 300) (hq4 : (Gi g 355 13).toInt = 0 ∨ (Gi g 355 12).toInt < (Gi g 355 11).toInt) (hq5 : (Gi g 355 16).toInt = 873 * (Gi g 356 4).toInt) (hq6 : (Gi g 356 4).toInt ≤ 3) (hq7 : 0 ≤ (Gi g 355 18).toInt) (hq8 : 0 ≤ (Gi g 355 21).toInt) (hq9 : (Gi g 355 18).toInt + (Gi g 355 21).toInt ≤ (Gi g 355 12).toInt) (hq10 : (Gi g 355 18).toInt + (Gi g 355 21).toInt + (Gi g0 355 12).toInt ≤ (Gi g0 355 18).toInt + (Gi g 355 12).toInt) (hq11 : (Gi g0 355 18).toInt ≤ (Gi g 355 18).toInt) (hq12 : (Gi g 355 16).toInt = (Gi g0 355 16).toInt) (hq13 : (Gi g0 355 12).toInt ≤ (Gi g 355 12).toInt) (hq14 : (Gi g0 355 18).toInt ≤ (Gi g0 355 12).toInt) (hq15 : (Gi g 355 23).toInt = 0 ∨ (Gi g 355 23).toInt = 1) (hq16 : (Gi g 355 23).toInt = 0 ∨ (Gi g0 355 12).toInt < (Gi g 355 12).toInt) (hq17 : vSV (Gi g 358) (Gi g 362) (Int.toNat (Gi g 355 16).toInt + 265) vs vn vt (Gi g 355 18).toInt (Gi g 355 21).toInt (Gi g 355 22).toInt ((Gi g0 355 22).toInt) ((Gi g 355 23).toInt) (Gi g 355 12).toInt), (300 - (Gi g 355 12).toInt) * 1 + 0 < (n : Int) → LW 217 (d + 20) 0 0 10 [some (.ref 355), o1] [] g (fun v g' => ∃ r : Int32, v = some (.int r) ∧ 0 ≤ r.toInt ∧ r.toInt ≤ 5 ∧ InvR P g' ∧ Gr g' = Gr g0 ∧ (vSm vsd g' g0 ∧ vCd g' g0) ∧ (r.toInt = 0 → (((Gi g0 355 12).toInt < (Gi g' 355 12).toInt) ∧ (0 ≤ (Gi g' 355 12).toInt) ∧ ((Gi g' 355 12).toInt ≤ (Gi g' 355 11).toInt) ∧ ((Gi g' 355 11).toInt ≤ (Gi g' 355 8).toInt) ∧ ((Gi g' 355 8).toInt ≤ 300) ∧ ((Gi g' 355 13).toInt = 0 ∨ (Gi g' 355 12).toInt < (Gi g' 355 11).toInt) ∧ ((Gi g' 355 16).toInt = (Gi g0 355 16).toInt) ∧ ((Gi g0 355 18).toInt ≤ (Gi g' 355 18).toInt) ∧ ((Gi g' 355 18).toInt + (Gi g0 355 12).toInt ≤ (Gi g0 355 18).toInt + (Gi g' 355 12).toInt) ∧ ((Gi g' 355 22).toInt = (Gi g0 355 22).toInt))) ∧ (r.toInt = 0 → vKK (Gi g' 358) (Int.toNat (Gi g' 355 16).toInt + 265) vs (Int.toNat (Gi g' 355 18).toInt) (vn + 1) vt))) : LW 217 (d + 20) 0 0 10 [some (.ref 355), o1] [] g (fun v g' => ∃ r : Int32, v = some (.int r) ∧ 0 ≤ r.toInt ∧ r.toInt ≤ 5 ∧ InvR P g' ∧ Gr g' = Gr g0 ∧ (vSm vsd g' g0 ∧ vCd g' g0) ∧ (r.toInt = 0 → (((Gi g0 355 12).toInt < (Gi g' 355 12).toInt) ∧ (0 ≤ (Gi g' 355 12).toInt) ∧ ((Gi g' 355 12).toInt ≤ (Gi g' 355 11).toInt) ∧ ((Gi g' 355 11).toInt ≤ (Gi g' 355 8).toInt) ∧ ((Gi g' 355 8).toInt ≤ 300) ∧ ((Gi g' 355 13).toInt = 0 ∨ (Gi g' 355 12).toInt < (Gi g' 355 11).toInt) ∧ ((Gi g' 355 16).toInt = (Gi g0 355 16).toInt) ∧ ((Gi g0 355 18).toInt ≤ (Gi g' 355 18).toInt) ∧ ((Gi g' 355 18).toInt + (Gi g0 355 12).toInt ≤ (Gi g0 355 18).toInt + (Gi g' 355 12).toInt) ∧ ((Gi g' 355 22).toInt = (Gi g0 355 22).toInt))) ∧ (r.toInt = 0 → vKK (Gi g' 358) (Int.toNat (Gi g' 355 16).toInt + 265) vs (Int.toNat (Gi g' 355 18).toInt) (vn + 1) vt)) := by
  obtain ⟨vz1, evz1⟩ : ∃ z, Gi g 355 12 = z := ⟨_, rfl⟩
  rw [evz1] at hq0
  rw [evz1] at hq1
  obtain ⟨vz2, evz2⟩ : ∃ z, Gi g 355 11 = z := ⟨_, rfl⟩
  rw [evz2] at hq1
  rw [evz2] at hq2
  obtain ⟨vz3, evz3⟩ : ∃ z, Gi g 355 8 = z := ⟨_, rfl⟩
  have vf4 := O_355_8 (V.2.2.2.2.2.2.1 355 (8) (Nat.le_of_ble_eq_true rfl))
  rw [evz3] at vf4
  rw [evz3] at hq2
  rw [evz3] at hq3
  obtain ⟨vz5, evz5⟩ : ∃ z, Gi g 355 13 = z := ⟨_, rfl⟩
  rw [evz5] at hq4
  rw [evz1] at hq4
  rw [evz2] at hq4
  obtain ⟨vz6, evz6⟩ : ∃ z, Gi g 355 16 = z := ⟨_, rfl⟩
  rw [evz6] at hq5
  obtain ⟨vz7, evz7⟩ : ∃ z, Gi g 356 4 = z := ⟨_, rfl⟩
  have vf8 := A_TEXTS (V.2.2.2.1 (4)) (by omega)
  rw [evz7] at vf8
  rw [evz7] at hq5
  rw [evz7] at hq6
  obtain ⟨vz9, evz9⟩ : ∃ z, Gi g 355 18 = z := ⟨_, rfl⟩
  rw [evz9] at hq7
  obtain ⟨vz10, evz10⟩ : ∃ z, Gi g 355 21 = z := ⟨_, rfl⟩
  rw [evz10] at hq8
  rw [evz9] at hq9
  rw [evz10] at hq9
  rw [evz1] at hq9
  rw [evz9] at hq10
  rw [evz10] at hq10
  rw [evz1] at hq10
  rw [evz9] at hq11
  rw [evz6] at hq12
  rw [evz1] at hq13
  obtain ⟨vz11, evz11⟩ : ∃ z, Gi g 355 23 = z := ⟨_, rfl⟩
  rw [evz11] at hq15
  rw [evz11] at hq16
  rw [evz1] at hq16
  rw [evz6] at hq17
  rw [evz9] at hq17
  rw [evz10] at hq17
  obtain ⟨vz12, evz12⟩ : ∃ z, Gi g 355 22 = z := ⟨_, rfl⟩
  rw [evz12] at hq17
  rw [evz11] at hq17
  rw [evz1] at hq17
  have vu13 := hq17.ub (by omega)
  have vu14 := hq17.opn
  rw [evz1] at hmu
  refine X_aload_n rfl rfl rfl rfl ?_
  refine X_getI (v := vz11) rfl rfl rfl ((congrFun V.1 355).trans s_355) rfl evz11 ?_
  refine S_if_eq (tgt := 24) rfl rfl rfl rfl (fun vh15 => ?_) (fun vh15 => ?_)
  · refine X_aload_n rfl rfl rfl rfl ?_
    refine X_getI (v := vz11) rfl rfl rfl ((congrFun V.1 355).trans s_355) rfl evz11 ?_
    refine S_if_eq (tgt := 38) rfl rfl rfl rfl (fun vh16 => ?_) (fun q => absurd q (by omega))
    refine X_aload_n rfl rfl rfl rfl ?_
    have vo355_12 : (Gi g 355 12).toInt = vz1.toInt := congrArg Int32.toInt evz1
    have vo355_16 : (Gi g 355 16).toInt = vz6.toInt := congrArg Int32.toInt evz6
    have vo355_18 : (Gi g 355 18).toInt = vz9.toInt := congrArg Int32.toInt evz9
    have vo355_21 : (Gi g 355 21).toInt = vz10.toInt := congrArg Int32.toInt evz10
    refine Y_callV (as := []) (st := []) rfl rfl rfl (by decide) rfl (Nat.le_of_ble_eq_true rfl) (by decide) (Nat.le_of_ble_eq_true rfl) rfl ((congrFun V.1 355).trans s_355) (by decide) (C_X13_beginOne (vs := vs) (vn := vn) (vt := vt) (voz := (Gi g0 355 22).toInt) V  (by rw [evz1] <;> omega) (by rw [evz1, evz2] <;> omega) (by rw [evz2, evz3] <;> omega) (by rw [evz3] <;> omega) (by rw [evz5, evz1, evz2] <;> omega) (by rw [evz6, evz7] <;> omega) (by rw [evz7] <;> omega) (by rw [evz9] <;> omega) (by rw [evz10] <;> omega) (by rw [evz9, evz10, evz1] <;> omega) (by rw [evz11] <;> omega) (by rw [evz6, evz9, evz10, evz12, evz1]; exact (by
          exact hq17.wh (by omega)))) ?_
    rintro _ g ⟨vr17, rfl, hrvr170, hrvr171, V, hq, chF, vq18, vq19⟩
    have hG := hq.trans hG
    have evz3 := (chF.1 355 8 (by decide)).trans evz3
    have evz6 := (chF.1 355 16 (by decide)).trans evz6
    have evz7 := (chF.1 356 4 (by decide)).trans evz7
    have hF := And.intro (vSm.tr chF.1 (vi_ vsd) hF.1) (vCd.tr hF.2 chF.2 (by omega))
    obtain ⟨vz20, evz20⟩ : ∃ z, Gi g 355 12 = z := ⟨_, rfl⟩
    rw [evz20] at vq18
    obtain ⟨vz21, evz21⟩ : ∃ z, Gi g 355 11 = z := ⟨_, rfl⟩
    rw [evz21] at vq18
    rw [evz3] at vq18
    obtain ⟨vz22, evz22⟩ : ∃ z, Gi g 355 13 = z := ⟨_, rfl⟩
    rw [evz22] at vq18
    rw [evz6] at vq18
    obtain ⟨vz23, evz23⟩ : ∃ z, Gi g 355 18 = z := ⟨_, rfl⟩
    rw [evz23] at vq18
    obtain ⟨vz24, evz24⟩ : ∃ z, Gi g 355 21 = z := ⟨_, rfl⟩
    rw [evz24] at vq18
    obtain ⟨vz25, evz25⟩ : ∃ z, Gi g 355 23 = z := ⟨_, rfl⟩
    rw [evz25] at vq18
    rw [evz6] at vq19
    rw [evz23] at vq19
    rw [evz24] at vq19
    obtain ⟨vz26, evz26⟩ : ∃ z, Gi g 355 22 = z := ⟨_, rfl⟩
    rw [evz26] at vq19
    rw [evz25] at vq19
    rw [evz20] at vq19
    refine X_istore_n (i := 1) (ls' := [some (.ref 355), some (.int vr17)]) rfl rfl rfl (Nat.le_of_ble_eq_true rfl) rfl ?_
    refine X_iload_n rfl rfl rfl rfl ?_
    refine S_if_eq (tgt := 49) rfl rfl rfl rfl (fun vh27 => ?_) (fun vh27 => ?_)
    · refine LW_goto (tgt := 10) rfl rfl ?_
      exact ih10 _ V hG hF (some (.int vr17))  (by rw [evz20] <;> omega) (by rw [evz20, evz21] <;> omega) (by rw [evz21, evz3] <;> omega) (by rw [evz3] <;> omega) (by rw [evz22, evz20, evz21] <;> omega) (by rw [evz6, evz7] <;> omega) (by rw [evz7] <;> omega) (by rw [evz23] <;> omega) (by rw [evz24] <;> omega) (by rw [evz23, evz24, evz20] <;> omega) (by rw [evz23, evz24, evz20] <;> omega) (by rw [evz23] <;> omega) (by rw [evz6] <;> omega) (by rw [evz20] <;> omega) (by omega) (by rw [evz25] <;> omega) (by rw [evz25, evz20] <;> omega) (by rw [evz6, evz23, evz24, evz26, evz25, evz20]; exact (by
            exact vq19 (by omega)))  (by rw [evz20] <;> omega)
    · refine X_iload_n rfl rfl rfl rfl ?_
      have hr := (rfl : vr17.toInt = vr17.toInt)
      exact LW_ireturn (st := []) rfl rfl rfl ⟨_, rfl, by omega, by omega, V, hG, hF, (by rw [evz20, evz21, evz3, evz22, evz6, evz23, evz26] <;> omega), (by rw [evz6, evz23]; exact (by
            exact fun q => absurd q (by omega)))⟩
  · refine X_aload_n rfl rfl rfl rfl ?_
    refine Y_callV (as := []) (st := []) rfl rfl rfl (by decide) rfl (Nat.le_of_ble_eq_true rfl) (by decide) (Nat.le_of_ble_eq_true rfl) rfl ((congrFun V.1 355).trans s_355) (by decide) (C_X13_goesOn V  (by rw [evz10] <;> omega) (by rw [evz10] <;> omega)) ?_
    rintro _ g' ⟨vr28, rfl, hrvr280, hrvr281, hgg, vq29, vq30⟩
    subst hgg
    rw [evz5] at vq30
    refine S_if_eq (tgt := 52) rfl rfl rfl rfl (fun vh31 => ?_) (fun vh31 => ?_)
    · refine X_aload_n rfl rfl rfl rfl ?_
      refine X_iconst (v := (3 : Int32)) rfl rfl rfl ?_
      have vo355_18 : (Gi g 355 18).toInt = vz9.toInt := congrArg Int32.toInt evz9
      have vo355_21 : (Gi g 355 21).toInt = vz10.toInt := congrArg Int32.toInt evz10
      have vo355_16 : (Gi g 355 16).toInt = vz6.toInt := congrArg Int32.toInt evz6
      have vo355_22 : (Gi g 355 22).toInt = vz12.toInt := congrArg Int32.toInt evz12
      refine Y_callV (as := [.int (3 : Int32)]) (st := []) rfl rfl rfl (by decide) rfl (Nat.le_of_ble_eq_true rfl) (by decide) (Nat.le_of_ble_eq_true rfl) rfl ((congrFun V.1 355).trans s_355) (by decide) (C_X13_settle (vs := vs) (vn := vn) (vt := vt) (voz := (Gi g0 355 22).toInt) V (3 : Int32) 3 (show (3 : Int32).toInt = 3 from rfl) (by omega) (by rw [evz6, evz7] <;> omega) (by rw [evz7] <;> omega) (by rw [evz9] <;> omega) (by rw [evz10] <;> omega) (by rw [evz9, evz10, evz1] <;> omega) (by rw [evz1] <;> omega) (by rw [evz6, evz9, evz10, evz12, evz1]; exact (by
            exact hq17.wh (by omega)))) ?_
      rintro _ g ⟨rfl, V, hq, chF, vq33, vq34, vq35, vq36, vq37, vq38, vq39, vq40, vq41⟩
      have hG := hq.trans hG
      have evz1 := (chF.1 355 12 (by decide)).trans evz1
      have evz2 := (chF.1 355 11 (by decide)).trans evz2
      have evz3 := (chF.1 355 8 (by decide)).trans evz3
      have evz5 := (chF.1 355 13 (by decide)).trans evz5
      have evz6 := (chF.1 355 16 (by decide)).trans evz6
      have evz7 := (chF.1 356 4 (by decide)).trans evz7
      have hF := And.intro (vSm.tr chF.1 vi_dc hF.1) (vCd.tr hF.2 chF.2 (by omega))
      obtain ⟨vz42, evz42⟩ : ∃ z, Gi g 355 18 = z := ⟨_, rfl⟩
      rw [evz42] at vq33
      obtain ⟨vz43, evz43⟩ : ∃ z, Gi g 355 21 = z := ⟨_, rfl⟩
      rw [evz43] at vq33
      rw [evz42] at vq34
      rw [evz6] at vq35
      rw [evz43] at vq36
      rw [evz43] at vq37
      obtain ⟨vz44, evz44⟩ : ∃ z, Gi g 355 22 = z := ⟨_, rfl⟩
      rw [evz44] at vq38
      rw [evz6] at vq39
      rw [evz42] at vq39
      rw [evz43] at vq39
      rw [evz44] at vq39
      rw [evz1] at vq39
      rw [evz43] at vq40
      rw [evz43] at vq41
      rw [← (funext fun k => chF.1 362 k ⟨by decide, Or.inl (by decide)⟩ : Gi g 362 = _)] at hq17
      have vu45 := vq39.ub (by omega)
      have vu46 := vq39.opn
      have vo47 : vz43.toInt ≤ 0 → vz44.toInt = (Gi g0 355 22).toInt := fun vh => (vSV.doneP vq39 vh).2.1
      refine X_aload_n rfl rfl rfl rfl ?_
      refine X_getI (v := vz43) rfl rfl rfl ((congrFun V.1 355).trans s_355) rfl evz43 ?_
      refine S_if_le (tgt := 68) rfl rfl rfl rfl (fun vh48 => ?_) (fun vh48 => ?_)
      · refine X_iconst (v := (0 : Int32)) rfl rfl rfl ?_
        exact LW_ireturn (st := []) rfl rfl rfl ⟨_, rfl, by decide, by decide, V, hG, hF, (by have vkr := (show (0 : Int32).toInt = 0 from rfl); rw [evz1, evz2, evz3, evz5, evz6, evz42, evz44] <;> omega), (by rw [evz6, evz42]; exact (by
              exact fun _ => (vSV.doneP vq39 (by omega)).1))⟩
      · refine X_iconst (v := (1 : Int32)) rfl rfl rfl ?_
        refine LW_goto (tgt := 69) rfl rfl ?_
        exact LW_ireturn (st := []) rfl rfl rfl ⟨_, rfl, by decide, by decide, V, hG, hF, (by have vkr := (show (1 : Int32).toInt = 1 from rfl); rw [evz1, evz2, evz3, evz5, evz6, evz42, evz44] <;> omega), (fun q => absurd q (by decide))⟩
    · refine X_aload_n rfl rfl rfl rfl ?_
      refine X_getI (v := vz11) rfl rfl rfl ((congrFun V.1 355).trans s_355) rfl evz11 ?_
      refine S_if_eq (tgt := 38) rfl rfl rfl rfl (fun q => absurd q (by omega)) (fun vh49 => ?_)
      refine X_aload_n rfl rfl rfl rfl ?_
      have vo355_12 : (Gi g 355 12).toInt = vz1.toInt := congrArg Int32.toInt evz1
      have vo355_16 : (Gi g 355 16).toInt = vz6.toInt := congrArg Int32.toInt evz6
      have vo355_18 : (Gi g 355 18).toInt = vz9.toInt := congrArg Int32.toInt evz9
      have vo355_21 : (Gi g 355 21).toInt = vz10.toInt := congrArg Int32.toInt evz10
      refine Y_callV (as := []) (st := []) rfl rfl rfl (by decide) rfl (Nat.le_of_ble_eq_true rfl) (by decide) (Nat.le_of_ble_eq_true rfl) rfl ((congrFun V.1 355).trans s_355) (by decide) (C_X13_behindOne (vs := vs) (vn := vn) (vt := vt) (voz := (Gi g0 355 22).toInt) V  (by rw [evz1] <;> omega) (by rw [evz1, evz2] <;> omega) (by rw [evz2, evz3] <;> omega) (by rw [evz3] <;> omega) (by rw [evz5, evz1, evz2] <;> omega) (by rw [evz6, evz7] <;> omega) (by rw [evz7] <;> omega) (by rw [evz9] <;> omega) (by rw [evz10] <;> omega) (by rw [evz9, evz10, evz1] <;> omega) (by rw [evz6, evz9, evz10, evz12, evz1]; exact (by
            exact hq17.wh (by omega))) (by
                  exact vq29 (by omega))) ?_
      rintro _ g ⟨vr50, rfl, hrvr500, hrvr501, V, hq, chF, vq51, vq52⟩
      have hG := hq.trans hG
      have evz3 := (chF.1 355 8 (by decide)).trans evz3
      have evz6 := (chF.1 355 16 (by decide)).trans evz6
      have evz7 := (chF.1 356 4 (by decide)).trans evz7
      have hF := And.intro (vSm.tr chF.1 (vi_ vsd) hF.1) (vCd.tr hF.2 chF.2 (by omega))
      obtain ⟨vz53, evz53⟩ : ∃ z, Gi g 355 12 = z := ⟨_, rfl⟩
      rw [evz53] at vq51
      obtain ⟨vz54, evz54⟩ : ∃ z, Gi g 355 11 = z := ⟨_, rfl⟩
      rw [evz54] at vq51
      rw [evz3] at vq51
      obtain ⟨vz55, evz55⟩ : ∃ z, Gi g 355 13 = z := ⟨_, rfl⟩
      rw [evz55] at vq51
      rw [evz6] at vq51
      obtain ⟨vz56, evz56⟩ : ∃ z, Gi g 355 18 = z := ⟨_, rfl⟩
      rw [evz56] at vq51
      obtain ⟨vz57, evz57⟩ : ∃ z, Gi g 355 21 = z := ⟨_, rfl⟩
      rw [evz57] at vq51
      obtain ⟨vz58, evz58⟩ : ∃ z, Gi g 355 23 = z := ⟨_, rfl⟩
      rw [evz58] at vq51
      rw [evz6] at vq52
      rw [evz56] at vq52
      rw [evz57] at vq52
      obtain ⟨vz59, evz59⟩ : ∃ z, Gi g 355 22 = z := ⟨_, rfl⟩
      rw [evz59] at vq52
      rw [evz58] at vq52
      rw [evz53] at vq52
      refine LW_goto (tgt := 42) rfl rfl ?_
      refine X_istore_n (i := 1) (ls' := [some (.ref 355), some (.int vr50)]) rfl rfl rfl (Nat.le_of_ble_eq_true rfl) rfl ?_
      refine X_iload_n rfl rfl rfl rfl ?_
      refine S_if_eq (tgt := 49) rfl rfl rfl rfl (fun vh60 => ?_) (fun q => absurd q (by omega))
      refine LW_goto (tgt := 10) rfl rfl ?_
      exact ih10 _ V hG hF (some (.int vr50))  (by rw [evz53] <;> omega) (by rw [evz53, evz54] <;> omega) (by rw [evz54, evz3] <;> omega) (by rw [evz3] <;> omega) (by rw [evz55, evz53, evz54] <;> omega) (by rw [evz6, evz7] <;> omega) (by rw [evz7] <;> omega) (by rw [evz56] <;> omega) (by rw [evz57] <;> omega) (by rw [evz56, evz57, evz53] <;> omega) (by rw [evz56, evz57, evz53] <;> omega) (by rw [evz56] <;> omega) (by rw [evz6] <;> omega) (by rw [evz53] <;> omega) (by omega) (by rw [evz58] <;> omega) (by rw [evz58, evz53] <;> omega) (by rw [evz6, evz56, evz57, evz59, evz58, evz53]; exact (by
            exact vq52 (by omega)))  (by rw [evz53] <;> omega)
theorem C_X13_summed_all {P : Par} {vs vn vt : Nat} {g0 : LH} {d : Nat}  : ∀ n : Nat, (∀ (g : LH) (V : InvR P g) (hG : Gr g = Gr g0) (hF : (vSm vsd g g0 ∧ vCd g g0)) (o1 : Option Value) (hq0 : 0 ≤ (Gi g 355 12).toInt) (hq1 : (Gi g 355 12).toInt ≤ (Gi g 355 11).toInt) (hq2 : (Gi g 355 11).toInt ≤ (Gi g 355 8).toInt) (hq3 : (Gi g 355 8).toInt ≤ 300) (hq4 : (Gi g 355 13).toInt = 0 ∨ (Gi g 355 12).toInt < (Gi g 355 11).toInt) (hq5 : (Gi g 355 16).toInt = 873 * (Gi g 356 4).toInt) (hq6 : (Gi g 356 4).toInt ≤ 3) (hq7 : 0 ≤ (Gi g 355 18).toInt) (hq8 : 0 ≤ (Gi g 355 21).toInt) (hq9 : (Gi g 355 18).toInt + (Gi g 355 21).toInt ≤ (Gi g 355 12).toInt) (hq10 : (Gi g 355 18).toInt + (Gi g 355 21).toInt + (Gi g0 355 12).toInt ≤ (Gi g0 355 18).toInt + (Gi g 355 12).toInt) (hq11 : (Gi g0 355 18).toInt ≤ (Gi g 355 18).toInt) (hq12 : (Gi g 355 16).toInt = (Gi g0 355 16).toInt) (hq13 : (Gi g0 355 12).toInt ≤ (Gi g 355 12).toInt) (hq14 : (Gi g0 355 18).toInt ≤ (Gi g0 355 12).toInt) (hq15 : (Gi g 355 23).toInt = 0 ∨ (Gi g 355 23).toInt = 1) (hq16 : (Gi g 355 23).toInt = 0 ∨ (Gi g0 355 12).toInt < (Gi g 355 12).toInt) (hq17 : vSV (Gi g 358) (Gi g 362) (Int.toNat (Gi g 355 16).toInt + 265) vs vn vt (Gi g 355 18).toInt (Gi g 355 21).toInt (Gi g 355 22).toInt ((Gi g0 355 22).toInt) ((Gi g 355 23).toInt) (Gi g 355 12).toInt), (300 - (Gi g 355 12).toInt) * 1 + 0 < (n : Int) → LW 217 (d + 20) 0 0 10 [some (.ref 355), o1] [] g (fun v g' => ∃ r : Int32, v = some (.int r) ∧ 0 ≤ r.toInt ∧ r.toInt ≤ 5 ∧ InvR P g' ∧ Gr g' = Gr g0 ∧ (vSm vsd g' g0 ∧ vCd g' g0) ∧ (r.toInt = 0 → (((Gi g0 355 12).toInt < (Gi g' 355 12).toInt) ∧ (0 ≤ (Gi g' 355 12).toInt) ∧ ((Gi g' 355 12).toInt ≤ (Gi g' 355 11).toInt) ∧ ((Gi g' 355 11).toInt ≤ (Gi g' 355 8).toInt) ∧ ((Gi g' 355 8).toInt ≤ 300) ∧ ((Gi g' 355 13).toInt = 0 ∨ (Gi g' 355 12).toInt < (Gi g' 355 11).toInt) ∧ ((Gi g' 355 16).toInt = (Gi g0 355 16).toInt) ∧ ((Gi g0 355 18).toInt ≤ (Gi g' 355 18).toInt) ∧ ((Gi g' 355 18).toInt + (Gi g0 355 12).toInt ≤ (Gi g0 355 18).toInt + (Gi g' 355 12).toInt) ∧ ((Gi g' 355 22).toInt = (Gi g0 355 22).toInt))) ∧ (r.toInt = 0 → vKK (Gi g' 358) (Int.toNat (Gi g' 355 16).toInt + 265) vs (Int.toNat (Gi g' 355 18).toInt) (vn + 1) vt))) := by
  intro n
  induction n with
  | zero => exact fun g V hG hF o1 hq0 hq1 hq2 hq3 hq4 hq5 hq6 hq7 hq8 hq9 hq10 hq11 hq12 hq13 hq14 hq15 hq16 hq17 hmu => absurd hmu (by omega)
  | succ n ih => exact fun g V hG hF o1 hq0 hq1 hq2 hq3 hq4 hq5 hq6 hq7 hq8 hq9 hq10 hq11 hq12 hq13 hq14 hq15 hq16 hq17 hmu => C_X13_summed_10  V hG hF o1 hq0 hq1 hq2 hq3 hq4 hq5 hq6 hq7 hq8 hq9 hq10 hq11 hq12 hq13 hq14 hq15 hq16 hq17 (by omega) ih
set_option maxRecDepth 10000 in
set_option maxHeartbeats 40000000 in
theorem C_X13_summed {P : Par} {vs vn vt : Nat} {g : LH} {d : Nat}  (V : InvR P g)  (hq0 : 0 ≤ (Gi g 355 12).toInt) (hq1 : (Gi g 355 12).toInt ≤ (Gi g 355 11).toInt) (hq2 : (Gi g 355 11).toInt ≤ (Gi g 355 8).toInt) (hq3 : (Gi g 355 8).toInt ≤ 300) (hq4 : (Gi g 355 13).toInt = 0 ∨ (Gi g 355 12).toInt < (Gi g 355 11).toInt) (hq5 : (Gi g 355 16).toInt = 873 * (Gi g 356 4).toInt) (hq6 : (Gi g 356 4).toInt ≤ 3) (hq7 : 0 ≤ (Gi g 355 18).toInt) (hq8 : (Gi g 355 18).toInt ≤ (Gi g 355 12).toInt) (hq9 : 0 ≤ (Gi g 355 22).toInt ∧ (Gi g 355 22).toInt ≤ 8) (hq10 : vKK (Gi g 358) (Int.toNat (Gi g 355 16).toInt + 265) vs (Int.toNat (Gi g 355 18).toInt) vn vt)  : LW 217 (d + 20) 0 0 0 (lEnt (mL 217) [.ref 355]) [] g (fun v g' => ∃ r : Int32, v = some (.int r) ∧ 0 ≤ r.toInt ∧ r.toInt ≤ 5 ∧ InvR P g' ∧ Gr g' = Gr g ∧ (vSm vsd g' g ∧ vCd g' g) ∧ (r.toInt = 0 → (((Gi g 355 12).toInt < (Gi g' 355 12).toInt) ∧ (0 ≤ (Gi g' 355 12).toInt) ∧ ((Gi g' 355 12).toInt ≤ (Gi g' 355 11).toInt) ∧ ((Gi g' 355 11).toInt ≤ (Gi g' 355 8).toInt) ∧ ((Gi g' 355 8).toInt ≤ 300) ∧ ((Gi g' 355 13).toInt = 0 ∨ (Gi g' 355 12).toInt < (Gi g' 355 11).toInt) ∧ ((Gi g' 355 16).toInt = (Gi g 355 16).toInt) ∧ ((Gi g 355 18).toInt ≤ (Gi g' 355 18).toInt) ∧ ((Gi g' 355 18).toInt + (Gi g 355 12).toInt ≤ (Gi g 355 18).toInt + (Gi g' 355 12).toInt) ∧ ((Gi g' 355 22).toInt = (Gi g 355 22).toInt))) ∧ (r.toInt = 0 → vKK (Gi g' 358) (Int.toNat (Gi g' 355 16).toInt + 265) vs (Int.toNat (Gi g' 355 18).toInt) (vn + 1) vt)) := by
  refine LW_ls (ls' := [some (.ref 355), none]) rfl ?_
  have hG : Gr g = Gr g := rfl
  have hF : (vSm vsd g g ∧ vCd g g) := And.intro vSm.refl vCd.refl
  obtain ⟨vz1, evz1⟩ : ∃ z, Gi g 355 12 = z := ⟨_, rfl⟩
  rw [evz1] at hq0
  rw [evz1] at hq1
  obtain ⟨vz2, evz2⟩ : ∃ z, Gi g 355 11 = z := ⟨_, rfl⟩
  rw [evz2] at hq1
  rw [evz2] at hq2
  obtain ⟨vz3, evz3⟩ : ∃ z, Gi g 355 8 = z := ⟨_, rfl⟩
  have vf4 := O_355_8 (V.2.2.2.2.2.2.1 355 (8) (Nat.le_of_ble_eq_true rfl))
  rw [evz3] at vf4
  rw [evz3] at hq2
  rw [evz3] at hq3
  obtain ⟨vz5, evz5⟩ : ∃ z, Gi g 355 13 = z := ⟨_, rfl⟩
  rw [evz5] at hq4
  rw [evz1] at hq4
  rw [evz2] at hq4
  obtain ⟨vz6, evz6⟩ : ∃ z, Gi g 355 16 = z := ⟨_, rfl⟩
  rw [evz6] at hq5
  obtain ⟨vz7, evz7⟩ : ∃ z, Gi g 356 4 = z := ⟨_, rfl⟩
  have vf8 := A_TEXTS (V.2.2.2.1 (4)) (by omega)
  rw [evz7] at vf8
  rw [evz7] at hq5
  rw [evz7] at hq6
  obtain ⟨vz9, evz9⟩ : ∃ z, Gi g 355 18 = z := ⟨_, rfl⟩
  rw [evz9] at hq7
  rw [evz9] at hq8
  rw [evz1] at hq8
  obtain ⟨vz10, evz10⟩ : ∃ z, Gi g 355 22 = z := ⟨_, rfl⟩
  rw [evz10] at hq9
  rw [evz6] at hq10
  rw [evz9] at hq10
  have vo355_12 : (Gi g 355 12).toInt = vz1.toInt := congrArg Int32.toInt evz1
  have vo355_16 : (Gi g 355 16).toInt = vz6.toInt := congrArg Int32.toInt evz6
  have vo355_18 : (Gi g 355 18).toInt = vz9.toInt := congrArg Int32.toInt evz9
  have vo355_22 : (Gi g 355 22).toInt = vz10.toInt := congrArg Int32.toInt evz10
  refine X_aload_n rfl rfl rfl rfl ?_
  refine X_iconst (v := (0 : Int32)) rfl rfl rfl ?_
  refine S_putI (I := InvR _) rfl rfl rfl ((congrFun V.1 355).trans s_355) rfl rfl rfl rfl (InvR_putO V (by decide) trivial) (fun g V ve11 vn12 hq => ?_)
  have hG := hq.trans hG
  have hF := And.intro (vSm.putN hF.1 vn12 (by decide)) (vCd.oth hF.2 (fun k => vn12 358 k (Or.inl (by decide))))
  have evz1 := (vn12 (355) 12 (Or.inr (by decide))).trans evz1
  have evz2 := (vn12 (355) 11 (Or.inr (by decide))).trans evz2
  have evz3 := (vn12 (355) 8 (Or.inr (by decide))).trans evz3
  have evz5 := (vn12 (355) 13 (Or.inr (by decide))).trans evz5
  have evz6 := (vn12 (355) 16 (Or.inr (by decide))).trans evz6
  have evz7 := (vn12 (356) 4 (Or.inl (by decide))).trans evz7
  have evz9 := (vn12 (355) 18 (Or.inr (by decide))).trans evz9
  have evz10 := (vn12 (355) 22 (Or.inr (by decide))).trans evz10
  rw [← (funext fun k => vn12 358 k (Or.inl (by decide)) : Gi g 358 = _)] at hq10
  refine X_aload_n rfl rfl rfl rfl ?_
  refine X_iconst (v := (0 : Int32)) rfl rfl rfl ?_
  refine S_putI (I := InvR _) rfl rfl rfl ((congrFun V.1 355).trans s_355) rfl rfl rfl rfl (InvR_putO V (by decide) trivial) (fun g V ve13 vn14 hq => ?_)
  have hG := hq.trans hG
  have hF := And.intro (vSm.putN hF.1 vn14 (by decide)) (vCd.oth hF.2 (fun k => vn14 358 k (Or.inl (by decide))))
  have evz1 := (vn14 (355) 12 (Or.inr (by decide))).trans evz1
  have evz2 := (vn14 (355) 11 (Or.inr (by decide))).trans evz2
  have evz3 := (vn14 (355) 8 (Or.inr (by decide))).trans evz3
  have evz5 := (vn14 (355) 13 (Or.inr (by decide))).trans evz5
  have evz6 := (vn14 (355) 16 (Or.inr (by decide))).trans evz6
  have evz7 := (vn14 (356) 4 (Or.inl (by decide))).trans evz7
  have evz9 := (vn14 (355) 18 (Or.inr (by decide))).trans evz9
  have evz10 := (vn14 (355) 22 (Or.inr (by decide))).trans evz10
  have ve11 := (vn14 (355) 21 (Or.inr (by decide))).trans ve11
  rw [← (funext fun k => vn14 358 k (Or.inl (by decide)) : Gi g 358 = _)] at hq10
  exact (C_X13_summed_all (((300 - (Gi g 355 12).toInt) * 1 + 0) + 1 : Int).toNat) _ V hG hF none  (by rw [evz1] <;> omega) (by rw [evz1, evz2] <;> omega) (by rw [evz2, evz3] <;> omega) (by rw [evz3] <;> omega) (by rw [evz5, evz1, evz2] <;> omega) (by rw [evz6, evz7] <;> omega) (by rw [evz7] <;> omega) (by rw [evz9] <;> omega) (by have vk0 := (show (0 : Int32).toInt = 0 from rfl); rw [ve11] <;> omega) (by have vk1 := (show (0 : Int32).toInt = 0 from rfl); rw [evz9, ve11, evz1] <;> omega) (by have vk1 := (show (0 : Int32).toInt = 0 from rfl); rw [evz9, ve11, evz1] <;> omega) (by rw [evz9] <;> omega) (by rw [evz6] <;> omega) (by rw [evz1] <;> omega) (by omega) (by have vk0 := (show (0 : Int32).toInt = 0 from rfl); rw [ve13] <;> omega) (by have vk0 := (show (0 : Int32).toInt = 0 from rfl); rw [ve13, evz1] <;> omega) (by rw [evz6, evz9, ve11, evz10, ve13, evz1]; exact (by
        exact vSV.start2 hq10 (by omega) (by omega) (by omega) rfl (by omega) rfl))  (by rw [evz1] <;> omega)
set_option maxRecDepth 10000 in
set_option maxHeartbeats 40000000 in
theorem C_X13_asks_2 {P : Par} {vs vn vt : Nat} {g g0 : LH} {d n : Nat}  (V : InvR P g) (hG : Gr g = Gr g0) (hF : (vSm vsd g g0 ∧ vCd g g0)) (x1 : Int32) (y1 : Int) (hx1 : x1.toInt = y1) (hf1 : 0 ≤ y1 ∧ y1 ≤ 8) (o2 : Option Value) (o3 : Option Value) (o4 : Option Value) (hq0 : 0 ≤ (Gi g 355 12).toInt) (hq1 : (Gi g 355 12).toInt ≤ (Gi g 355 11).toInt) (hq2 : (Gi g 355 11).toInt ≤ (Gi g 355 8).toInt) (hq3 : (Gi g 355 8).toInt ≤ 300) (hq4 : (Gi g 355 13).toInt = 0 ∨ (Gi g 355 12).toInt < (Gi g 355 11).toInt) (hq5 : (Gi g 355 16).toInt = 873 * (Gi g 356 4).toInt) (hq6 : (Gi g 356 4).toInt ≤ 3) (hq7 : 0 ≤ y1) (hq8 : (Gi g 355 22).toInt = (Gi g0 355 22).toInt + y1) (hq9 : (Gi g 355 22).toInt ≤ 8) (hq10 : 0 ≤ (Gi g0 355 22).toInt) (hq11 : (Gi g 355 18).toInt = (Gi g0 355 18).toInt) (hq12 : (Gi g 355 16).toInt = (Gi g0 355 16).toInt) (hq13 : (Gi g0 355 12).toInt + y1 ≤ (Gi g 355 12).toInt) (hq14 : 0 ≤ (Gi g 355 18).toInt) (hq15 : (Gi g0 355 18).toInt ≤ (Gi g0 355 12).toInt) (hq16 : vKK (Gi g 358) (Int.toNat (Gi g 355 16).toInt + 265) vs (Int.toNat (Gi g 355 18).toInt) vn vt) (hmu : (300 - (Gi g 355 12).toInt) * 1 + 10 < (n : Int) + 1) (ih2 : ∀ (g : LH) (V : InvR P g) (hG : Gr g = Gr g0) (hF : (vSm vsd g g0 ∧ vCd g g0)) (x1 : Int32) (y1 : Int) (hx1 : x1.toInt = y1) (hf1 : 0 ≤ y1 ∧ y1 ≤ 8) (o2 : Option Value) (o3 : Option Value) (o4 : Option Value) (hq0 : 0 ≤ (Gi g 355 12).toInt) (hq1 : (Gi g 355 12).toInt ≤ (Gi g 355 11).toInt) (hq2 : (Gi g 355 11).toInt ≤ (Gi g 355 8).toInt) (hq3 : (Gi g 355 8).toInt ≤ 300) (hq4 : (Gi g 355 13).toInt = 0 ∨ (Gi g 355 12).toInt < (Gi g 355 11).toInt) (hq5 : (Gi g 355 16).toInt = 873 * (Gi g 356 4).toInt) (hq6 : (Gi g 356 4).toInt ≤ 3) (hq7 : 0 ≤ y1) (hq8 : (Gi g 355 22).toInt = (Gi g0 355 22).toInt + y1) (hq9 : (Gi g 355 22).toInt ≤ 8) (hq10 : 0 ≤ (Gi g0 355 22).toInt) (hq11 : (Gi g 355 18).toInt = (Gi g0 355 18).toInt) (hq12 : (Gi g 355 16).toInt = (Gi g0 355 16).toInt) (hq13 : (Gi g0 355 12).toInt + y1 ≤ (Gi g 355 12).toInt) (hq14 : 0 ≤ (Gi g 355 18).toInt) (hq15 : (Gi g0 355 18).toInt ≤ (Gi g0 355 12).toInt) (hq16 : vKK (Gi g 358) (Int.toNat (Gi g 355 16).toInt + 265) vs (Int.toNat (Gi g 355 18).toInt) vn vt), (300 - (Gi g 355 12).toInt) * 1 + 10 < (n : Int) → LW 219 (d + 26) 0 0 2 [some (.ref 355), some (.int x1), o2, o3, o4] [] g (fun v g' => ∃ r : Int32, v = some (.int r) ∧ 0 ≤ r.toInt ∧ r.toInt ≤ 5 ∧ InvR P g' ∧ Gr g' = Gr g0 ∧ (vSm vsd g' g0 ∧ vCd g' g0) ∧ (r.toInt = 0 → (((Gi g0 355 12).toInt < (Gi g' 355 12).toInt) ∧ (0 ≤ (Gi g' 355 12).toInt) ∧ ((Gi g' 355 12).toInt ≤ (Gi g' 355 11).toInt) ∧ ((Gi g' 355 11).toInt ≤ (Gi g' 355 8).toInt) ∧ ((Gi g' 355 8).toInt ≤ 300) ∧ ((Gi g' 355 13).toInt = 0 ∨ (Gi g' 355 12).toInt < (Gi g' 355 11).toInt) ∧ ((Gi g' 355 16).toInt = (Gi g0 355 16).toInt) ∧ ((Gi g0 355 18).toInt ≤ (Gi g' 355 18).toInt) ∧ ((Gi g' 355 18).toInt + (Gi g0 355 12).toInt ≤ (Gi g0 355 18).toInt + (Gi g' 355 12).toInt) ∧ ((Gi g' 355 22).toInt = (Gi g0 355 22).toInt))) ∧ (r.toInt = 0 → vKK (Gi g' 358) (Int.toNat (Gi g' 355 16).toInt + 265) vs (Int.toNat (Gi g' 355 18).toInt) vn (vt + 1)))) (ih105 : ∀ (g : LH) (V : InvR P g) (hG : Gr g = Gr g0) (hF : (vSm vsd g g0 ∧ vCd g g0)) (x1 : Int32) (y1 : Int) (hx1 : x1.toInt = y1) (hf1 : 0 ≤ y1 ∧ y1 ≤ 8) (x2 : Int32) (y2 : Int) (hx2 : x2.toInt = y2) (hf2 : 0 ≤ y2 ∧ y2 ≤ 0) (x3 : Int32) (y3 : Int) (hx3 : x3.toInt = y3) (hf3 : 0 ≤ y3 ∧ y3 ≤ 15) (x4 : Int32) (y4 : Int) (hx4 : x4.toInt = y4) (hf4 : 0 ≤ y4 ∧ y4 ≤ 8) (hq0 : 0 ≤ (Gi g 355 12).toInt) (hq1 : (Gi g 355 12).toInt ≤ (Gi g 355 11).toInt) (hq2 : (Gi g 355 11).toInt ≤ (Gi g 355 8).toInt) (hq3 : (Gi g 355 8).toInt ≤ 300) (hq4 : (Gi g 355 13).toInt = 0 ∨ (Gi g 355 12).toInt < (Gi g 355 11).toInt) (hq5 : (Gi g 355 16).toInt = 873 * (Gi g 356 4).toInt) (hq6 : (Gi g 356 4).toInt ≤ 3) (hq7 : 0 ≤ y4 ∧ y4 ≤ y1) (hq8 : (Gi g 355 22).toInt = (Gi g0 355 22).toInt) (hq9 : 0 ≤ (Gi g 355 18).toInt) (hq10 : (Gi g 355 18).toInt + y1 - y4 + (Gi g0 355 12).toInt ≤ (Gi g0 355 18).toInt + (Gi g 355 12).toInt) (hq11 : (Gi g0 355 18).toInt ≤ (Gi g 355 18).toInt) (hq12 : (Gi g 355 16).toInt = (Gi g0 355 16).toInt) (hq13 : (Gi g0 355 12).toInt < (Gi g 355 12).toInt) (hq14 : (Gi g0 355 18).toInt ≤ (Gi g0 355 12).toInt) (hq15 : vKK (Gi g 358) (Int.toNat (Gi g 355 16).toInt + 265) vs (Int.toNat (Gi g 355 18).toInt) vn (vt + 1)), (8 - y4) * 1 + 0 < (n : Int) → LW 219 (d + 26) 0 0 105 [some (.ref 355), some (.int x1), some (.int x2), some (.int x3), some (.int x4)] [] g (fun v g' => ∃ r : Int32, v = some (.int r) ∧ 0 ≤ r.toInt ∧ r.toInt ≤ 5 ∧ InvR P g' ∧ Gr g' = Gr g0 ∧ (vSm vsd g' g0 ∧ vCd g' g0) ∧ (r.toInt = 0 → (((Gi g0 355 12).toInt < (Gi g' 355 12).toInt) ∧ (0 ≤ (Gi g' 355 12).toInt) ∧ ((Gi g' 355 12).toInt ≤ (Gi g' 355 11).toInt) ∧ ((Gi g' 355 11).toInt ≤ (Gi g' 355 8).toInt) ∧ ((Gi g' 355 8).toInt ≤ 300) ∧ ((Gi g' 355 13).toInt = 0 ∨ (Gi g' 355 12).toInt < (Gi g' 355 11).toInt) ∧ ((Gi g' 355 16).toInt = (Gi g0 355 16).toInt) ∧ ((Gi g0 355 18).toInt ≤ (Gi g' 355 18).toInt) ∧ ((Gi g' 355 18).toInt + (Gi g0 355 12).toInt ≤ (Gi g0 355 18).toInt + (Gi g' 355 12).toInt) ∧ ((Gi g' 355 22).toInt = (Gi g0 355 22).toInt))) ∧ (r.toInt = 0 → vKK (Gi g' 358) (Int.toNat (Gi g' 355 16).toInt + 265) vs (Int.toNat (Gi g' 355 18).toInt) vn (vt + 1)))) : LW 219 (d + 26) 0 0 2 [some (.ref 355), some (.int x1), o2, o3, o4] [] g (fun v g' => ∃ r : Int32, v = some (.int r) ∧ 0 ≤ r.toInt ∧ r.toInt ≤ 5 ∧ InvR P g' ∧ Gr g' = Gr g0 ∧ (vSm vsd g' g0 ∧ vCd g' g0) ∧ (r.toInt = 0 → (((Gi g0 355 12).toInt < (Gi g' 355 12).toInt) ∧ (0 ≤ (Gi g' 355 12).toInt) ∧ ((Gi g' 355 12).toInt ≤ (Gi g' 355 11).toInt) ∧ ((Gi g' 355 11).toInt ≤ (Gi g' 355 8).toInt) ∧ ((Gi g' 355 8).toInt ≤ 300) ∧ ((Gi g' 355 13).toInt = 0 ∨ (Gi g' 355 12).toInt < (Gi g' 355 11).toInt) ∧ ((Gi g' 355 16).toInt = (Gi g0 355 16).toInt) ∧ ((Gi g0 355 18).toInt ≤ (Gi g' 355 18).toInt) ∧ ((Gi g' 355 18).toInt + (Gi g0 355 12).toInt ≤ (Gi g0 355 18).toInt + (Gi g' 355 12).toInt) ∧ ((Gi g' 355 22).toInt = (Gi g0 355 22).toInt))) ∧ (r.toInt = 0 → vKK (Gi g' 358) (Int.toNat (Gi g' 355 16).toInt + 265) vs (Int.toNat (Gi g' 355 18).toInt) vn (vt + 1))) := by
  obtain ⟨vz1, evz1⟩ : ∃ z, Gi g 355 12 = z := ⟨_, rfl⟩
  rw [evz1] at hq0
  rw [evz1] at hq1
  obtain ⟨vz2, evz2⟩ : ∃ z, Gi g 355 11 = z := ⟨_, rfl⟩
  rw [evz2] at hq1
  rw [evz2] at hq2
  obtain ⟨vz3, evz3⟩ : ∃ z, Gi g 355 8 = z := ⟨_, rfl⟩
  have vf4 := O_355_8 (V.2.2.2.2.2.2.1 355 (8) (Nat.le_of_ble_eq_true rfl))
  rw [evz3] at vf4
  rw [evz3] at hq2
  rw [evz3] at hq3
  obtain ⟨vz5, evz5⟩ : ∃ z, Gi g 355 13 = z := ⟨_, rfl⟩
  rw [evz5] at hq4
  rw [evz1] at hq4
  rw [evz2] at hq4
  obtain ⟨vz6, evz6⟩ : ∃ z, Gi g 355 16 = z := ⟨_, rfl⟩
  rw [evz6] at hq5
  obtain ⟨vz7, evz7⟩ : ∃ z, Gi g 356 4 = z := ⟨_, rfl⟩
  have vf8 := A_TEXTS (V.2.2.2.1 (4)) (by omega)
  rw [evz7] at vf8
  rw [evz7] at hq5
  rw [evz7] at hq6
  obtain ⟨vz9, evz9⟩ : ∃ z, Gi g 355 22 = z := ⟨_, rfl⟩
  rw [evz9] at hq8
  rw [evz9] at hq9
  obtain ⟨vz10, evz10⟩ : ∃ z, Gi g 355 18 = z := ⟨_, rfl⟩
  rw [evz10] at hq11
  rw [evz6] at hq12
  rw [evz1] at hq13
  rw [evz10] at hq14
  rw [evz6] at hq16
  rw [evz10] at hq16
  rw [evz1] at hmu
  refine X_aload_n rfl rfl rfl rfl ?_
  refine X_bipush (v := (110 : Int32)) rfl rfl rfl ?_
  refine X_bipush (v := (111 : Int32)) rfl rfl rfl ?_
  refine X_bipush (v := (116 : Int32)) rfl rfl rfl ?_
  refine Y_callS (as := [.int (110 : Int32), .int (111 : Int32), .int (116 : Int32)]) (st := [.ref 355]) rfl rfl rfl (by decide) rfl (Nat.le_of_ble_eq_true rfl) (by decide) (Nat.le_of_ble_eq_true rfl) rfl (C_X13_w3 V (110 : Int32) 110 (show (110 : Int32).toInt = 110 from rfl) (111 : Int32) 111 (show (111 : Int32).toInt = 111 from rfl) (116 : Int32) 116 (show (116 : Int32).toInt = 116 from rfl) ) ?_
  rintro _ g' ⟨vr11, rfl, hgg⟩
  subst hgg
  refine Y_callV (as := [.long vr11]) (st := []) rfl rfl rfl (by decide) rfl (Nat.le_of_ble_eq_true rfl) (by decide) (Nat.le_of_ble_eq_true rfl) rfl ((congrFun V.1 355).trans s_355) (by decide) (C_X13_isWord V vr11 ) ?_
  rintro _ g' ⟨vr12, rfl, hrvr120, hrvr121, hgg, vq13⟩
  subst hgg
  rw [evz5] at vq13
  refine S_if_eq (tgt := 49) rfl rfl rfl rfl (fun vh14 => ?_) (fun vh14 => ?_)
  · refine X_aload_n rfl rfl rfl rfl ?_
    have vo355_12 : (Gi g 355 12).toInt = vz1.toInt := congrArg Int32.toInt evz1
    have vo355_16 : (Gi g 355 16).toInt = vz6.toInt := congrArg Int32.toInt evz6
    have vo355_18 : (Gi g 355 18).toInt = vz10.toInt := congrArg Int32.toInt evz10
    have vo355_22 : (Gi g 355 22).toInt = vz9.toInt := congrArg Int32.toInt evz9
    refine Y_callV (as := []) (st := []) rfl rfl rfl (by decide) rfl (Nat.le_of_ble_eq_true rfl) (by decide) (Nat.le_of_ble_eq_true rfl) rfl ((congrFun V.1 355).trans s_355) (by decide) (C_X13_summed (vs := vs) (vn := vn) (vt := vt) V  (by rw [evz1] <;> omega) (by rw [evz1, evz2] <;> omega) (by rw [evz2, evz3] <;> omega) (by rw [evz3] <;> omega) (by rw [evz5, evz1, evz2] <;> omega) (by rw [evz6, evz7] <;> omega) (by rw [evz7] <;> omega) (by rw [evz10] <;> omega) (by rw [evz10, evz1] <;> omega) (by rw [evz9] <;> omega) (by rw [evz6, evz10]; exact (by
          exact hq16))) ?_
    rintro _ g ⟨vr15, rfl, hrvr150, hrvr151, V, hq, chF, vq16, vq17⟩
    have hG := hq.trans hG
    have evz3 := (chF.1 355 8 (by decide)).trans evz3
    have evz6 := (chF.1 355 16 (by decide)).trans evz6
    have evz7 := (chF.1 356 4 (by decide)).trans evz7
    have hF := And.intro (vSm.tr chF.1 (vi_ vsd) hF.1) (vCd.tr hF.2 chF.2 (by omega))
    obtain ⟨vz18, evz18⟩ : ∃ z, Gi g 355 12 = z := ⟨_, rfl⟩
    rw [evz18] at vq16
    obtain ⟨vz19, evz19⟩ : ∃ z, Gi g 355 11 = z := ⟨_, rfl⟩
    rw [evz19] at vq16
    rw [evz3] at vq16
    obtain ⟨vz20, evz20⟩ : ∃ z, Gi g 355 13 = z := ⟨_, rfl⟩
    rw [evz20] at vq16
    rw [evz6] at vq16
    obtain ⟨vz21, evz21⟩ : ∃ z, Gi g 355 18 = z := ⟨_, rfl⟩
    rw [evz21] at vq16
    obtain ⟨vz22, evz22⟩ : ∃ z, Gi g 355 22 = z := ⟨_, rfl⟩
    rw [evz22] at vq16
    rw [evz6] at vq17
    rw [evz21] at vq17
    refine X_istore_n (i := 2) (ls' := [some (.ref 355), some (.int x1), some (.int vr15), o3, o4]) rfl rfl rfl (Nat.le_of_ble_eq_true rfl) rfl ?_
    refine X_iload_n rfl rfl rfl rfl ?_
    refine S_if_eq (tgt := 60) rfl rfl rfl rfl (fun vh23 => ?_) (fun vh23 => ?_)
    · refine X_aload_n rfl rfl rfl rfl ?_
      refine Y_callV (as := []) (st := []) rfl rfl rfl (by decide) rfl (Nat.le_of_ble_eq_true rfl) (by decide) (Nat.le_of_ble_eq_true rfl) rfl ((congrFun V.1 355).trans s_355) (by decide) (C_X13_compareOf V  ) ?_
      rintro _ g' ⟨vr24, rfl, hrvr240, hrvr241, hgg, vq25⟩
      subst hgg
      rw [evz20] at vq25
      refine X_istore_n (i := 3) (ls' := [some (.ref 355), some (.int x1), some (.int vr15), some (.int vr24), o4]) rfl rfl rfl (Nat.le_of_ble_eq_true rfl) rfl ?_
      refine X_iload_n rfl rfl rfl rfl ?_
      refine S_if_ge (tgt := 71) rfl rfl rfl rfl (fun vh26 => ?_) (fun vh26 => ?_)
      · refine X_aload_n rfl rfl rfl rfl ?_
        have vo355_11 : (Gi g 355 11).toInt = vz19.toInt := congrArg Int32.toInt evz19
        refine Y_callV (as := []) (st := []) rfl rfl rfl (by decide) rfl (Nat.le_of_ble_eq_true rfl) (by decide) (Nat.le_of_ble_eq_true rfl) rfl ((congrFun V.1 355).trans s_355) (by decide) (C_X13_nextToken V  (by rw [evz19] <;> omega) (by rw [evz19, evz3] <;> omega) (by rw [evz3] <;> omega)) ?_
        rintro _ g ⟨rfl, V, hq, chF, vq28, vq29, vq30, vq31, vq32, vq33⟩
        have hG := hq.trans hG
        have evz3 := (chF 355 8 (by decide)).trans evz3
        have evz6 := (chF 355 16 (by decide)).trans evz6
        have evz7 := (chF 356 4 (by decide)).trans evz7
        have evz21 := (chF 355 18 (by decide)).trans evz21
        have evz22 := (chF 355 22 (by decide)).trans evz22
        have hF := And.intro (vSm.tr chF vi_da hF.1) (vCd.oth hF.2 (fun k => chF 358 k (Or.inl (by decide))))
        obtain ⟨vz34, evz34⟩ : ∃ z, Gi g 355 12 = z := ⟨_, rfl⟩
        rw [evz34] at vq28
        rw [evz34] at vq29
        rw [evz34] at vq30
        obtain ⟨vz35, evz35⟩ : ∃ z, Gi g 355 11 = z := ⟨_, rfl⟩
        rw [evz35] at vq30
        rw [evz35] at vq31
        rw [evz3] at vq31
        rw [evz3] at vq32
        obtain ⟨vz36, evz36⟩ : ∃ z, Gi g 355 13 = z := ⟨_, rfl⟩
        rw [evz36] at vq33
        rw [evz34] at vq33
        rw [evz35] at vq33
        rw [← (funext fun k => chF 358 k (Or.inl (by decide)) : Gi g 358 = _)] at vq17
        refine X_aload_n rfl rfl rfl rfl ?_
        have vo355_12 : (Gi g 355 12).toInt = vz34.toInt := congrArg Int32.toInt evz34
        have vo355_16 : (Gi g 355 16).toInt = vz6.toInt := congrArg Int32.toInt evz6
        have vo355_18 : (Gi g 355 18).toInt = vz21.toInt := congrArg Int32.toInt evz21
        have vo355_22 : (Gi g 355 22).toInt = vz22.toInt := congrArg Int32.toInt evz22
        refine Y_callV (as := []) (st := []) rfl rfl rfl (by decide) rfl (Nat.le_of_ble_eq_true rfl) (by decide) (Nat.le_of_ble_eq_true rfl) rfl ((congrFun V.1 355).trans s_355) (by decide) (C_X13_summed (vs := vs) (vn := vn + 1) (vt := vt) V  (by rw [evz34] <;> omega) (by rw [evz34, evz35] <;> omega) (by rw [evz35, evz3] <;> omega) (by rw [evz3] <;> omega) (by rw [evz36, evz34, evz35] <;> omega) (by rw [evz6, evz7] <;> omega) (by rw [evz7] <;> omega) (by rw [evz21] <;> omega) (by rw [evz21, evz34] <;> omega) (by rw [evz22] <;> omega) (by rw [evz6, evz21]; exact (by
              exact vq17 (by omega)))) ?_
        rintro _ g ⟨vr37, rfl, hrvr370, hrvr371, V, hq, chF, vq38, vq39⟩
        have hG := hq.trans hG
        have evz3 := (chF.1 355 8 (by decide)).trans evz3
        have evz6 := (chF.1 355 16 (by decide)).trans evz6
        have evz7 := (chF.1 356 4 (by decide)).trans evz7
        have hF := And.intro (vSm.tr chF.1 (vi_ vsd) hF.1) (vCd.tr hF.2 chF.2 (by omega))
        obtain ⟨vz40, evz40⟩ : ∃ z, Gi g 355 12 = z := ⟨_, rfl⟩
        rw [evz40] at vq38
        obtain ⟨vz41, evz41⟩ : ∃ z, Gi g 355 11 = z := ⟨_, rfl⟩
        rw [evz41] at vq38
        rw [evz3] at vq38
        obtain ⟨vz42, evz42⟩ : ∃ z, Gi g 355 13 = z := ⟨_, rfl⟩
        rw [evz42] at vq38
        rw [evz6] at vq38
        obtain ⟨vz43, evz43⟩ : ∃ z, Gi g 355 18 = z := ⟨_, rfl⟩
        rw [evz43] at vq38
        obtain ⟨vz44, evz44⟩ : ∃ z, Gi g 355 22 = z := ⟨_, rfl⟩
        rw [evz44] at vq38
        rw [evz6] at vq39
        rw [evz43] at vq39
        refine X_istore_n (i := 2) (ls' := [some (.ref 355), some (.int x1), some (.int vr37), some (.int vr24), o4]) rfl rfl rfl (Nat.le_of_ble_eq_true rfl) rfl ?_
        refine X_iload_n rfl rfl rfl rfl ?_
        refine S_if_eq (tgt := 86) rfl rfl rfl rfl (fun vh45 => ?_) (fun vh45 => ?_)
        · refine X_aload_n rfl rfl rfl rfl ?_
          refine X_iload_n rfl rfl rfl rfl ?_
          refine X_iconst (v := (0 : Int32)) rfl rfl rfl ?_
          have vo355_18 : (Gi g 355 18).toInt = vz43.toInt := congrArg Int32.toInt evz43
          have vo355_16 : (Gi g 355 16).toInt = vz6.toInt := congrArg Int32.toInt evz6
          refine Y_callV (as := [.int vr24, .int (0 : Int32)]) (st := []) rfl rfl rfl (by decide) rfl (Nat.le_of_ble_eq_true rfl) (by decide) (Nat.le_of_ble_eq_true rfl) rfl ((congrFun V.1 355).trans s_355) (by decide) (C_X13_emit V vr24 vr24.toInt rfl (0 : Int32) 0 (show (0 : Int32).toInt = 0 from rfl) (by rw [evz43] <;> omega) (by rw [evz43] <;> omega) (by rw [evz6, evz7] <;> omega) (by rw [evz7] <;> omega)) ?_
          rintro _ g ⟨rfl, V, hq, chF, vq47, vq48, vq49⟩
          have hG := hq.trans hG
          have evz3 := (chF 355 8 (by decide)).trans evz3
          have evz6 := (chF 355 16 (by decide)).trans evz6
          have evz7 := (chF 356 4 (by decide)).trans evz7
          have evz40 := (chF 355 12 (by decide)).trans evz40
          have evz41 := (chF 355 11 (by decide)).trans evz41
          have evz42 := (chF 355 13 (by decide)).trans evz42
          have evz44 := (chF 355 22 (by decide)).trans evz44
          have hF := And.intro (vSm.tr chF vi_db hF.1) (vCd.em hF.2 vq48 (by omega))
          obtain ⟨vz50, evz50⟩ : ∃ z, Gi g 355 18 = z := ⟨_, rfl⟩
          rw [evz50] at vq47
          rw [evz6] at vq49
          refine X_aload_n rfl rfl rfl rfl ?_
          refine X_dup rfl rfl rfl ?_
          refine X_getI (v := vz44) rfl rfl rfl ((congrFun V.1 355).trans s_355) rfl evz44 ?_
          refine X_iload_n rfl rfl rfl rfl ?_
          refine S_isub rfl rfl rfl hx1 (by omega) (fun vz51 hvz51 => ?_)
          refine S_putI (I := InvR _) rfl rfl rfl ((congrFun V.1 355).trans s_355) rfl rfl rfl rfl (InvR_putO V (by decide) trivial) (fun g V ve52 vn53 hq => ?_)
          have hG := hq.trans hG
          have hF := And.intro (vSm.putN hF.1 vn53 (by decide)) (vCd.oth hF.2 (fun k => vn53 358 k (Or.inl (by decide))))
          have evz3 := (vn53 (355) 8 (Or.inr (by decide))).trans evz3
          have evz6 := (vn53 (355) 16 (Or.inr (by decide))).trans evz6
          have evz7 := (vn53 (356) 4 (Or.inl (by decide))).trans evz7
          have evz40 := (vn53 (355) 12 (Or.inr (by decide))).trans evz40
          have evz41 := (vn53 (355) 11 (Or.inr (by decide))).trans evz41
          have evz42 := (vn53 (355) 13 (Or.inr (by decide))).trans evz42
          have evz50 := (vn53 (355) 18 (Or.inr (by decide))).trans evz50
          rw [← (funext fun k => vn53 358 k (Or.inl (by decide)) : Gi g 358 = _)] at vq48
          refine X_iconst (v := (0 : Int32)) rfl rfl rfl ?_
          refine X_istore (i := 4) (ls' := [some (.ref 355), some (.int x1), some (.int vr37), some (.int vr24), some (.int (0 : Int32))]) rfl rfl (Nat.le_of_ble_eq_true rfl) rfl ?_
          exact ih105 _ V hG hF x1 y1 hx1 (by omega) vr37 vr37.toInt rfl (by omega) vr24 vr24.toInt rfl (by omega) (0 : Int32) 0 (show (0 : Int32).toInt = 0 from rfl) (by omega)  (by rw [evz40] <;> omega) (by rw [evz40, evz41] <;> omega) (by rw [evz41, evz3] <;> omega) (by rw [evz3] <;> omega) (by rw [evz42, evz40, evz41] <;> omega) (by rw [evz6, evz7] <;> omega) (by rw [evz7] <;> omega) (by omega) (by rw [ve52] <;> omega) (by rw [evz50] <;> omega) (by rw [evz50, evz40] <;> omega) (by rw [evz50] <;> omega) (by rw [evz6] <;> omega) (by rw [evz40] <;> omega) (by omega) (by rw [evz6, evz50]; exact (by
                exact (vq39 (by omega)).cmp vq48 (by omega) (by omega) (by omega) (by omega)))  (by omega)
        · refine X_iload_n rfl rfl rfl rfl ?_
          have hr := (rfl : vr37.toInt = vr37.toInt)
          exact LW_ireturn (st := []) rfl rfl rfl ⟨_, rfl, by omega, by omega, V, hG, hF, (by rw [evz40, evz41, evz3, evz42, evz6, evz43, evz44] <;> omega), (by rw [evz6, evz43]; exact (by
                exact fun q => absurd q (by omega)))⟩
      · refine X_iconst (v := (1 : Int32)) rfl rfl rfl ?_
        exact LW_ireturn (st := []) rfl rfl rfl ⟨_, rfl, by decide, by decide, V, hG, hF, (by have vkr := (show (1 : Int32).toInt = 1 from rfl); rw [evz18, evz19, evz3, evz20, evz6, evz21, evz22] <;> omega), (fun q => absurd q (by decide))⟩
    · refine X_iload_n rfl rfl rfl rfl ?_
      have hr := (rfl : vr15.toInt = vr15.toInt)
      exact LW_ireturn (st := []) rfl rfl rfl ⟨_, rfl, by omega, by omega, V, hG, hF, (by rw [evz18, evz19, evz3, evz20, evz6, evz21, evz22] <;> omega), (by rw [evz6, evz21]; exact (by
            exact fun q => absurd q (by omega)))⟩
  · refine X_aload_n rfl rfl rfl rfl ?_
    refine X_getI (v := vz9) rfl rfl rfl ((congrFun V.1 355).trans s_355) rfl evz9 ?_
    refine X_bipush (v := (8 : Int32)) rfl rfl rfl ?_
    refine S_icmp_ne (tgt := 29) rfl rfl rfl rfl (show (8 : Int32).toInt = 8 from rfl) (fun vh54 => ?_) (fun vh54 => ?_)
    · refine X_aload_n rfl rfl rfl rfl ?_
      refine X_dup rfl rfl rfl ?_
      refine X_getI (v := vz9) rfl rfl rfl ((congrFun V.1 355).trans s_355) rfl evz9 ?_
      refine X_iconst (v := (1 : Int32)) rfl rfl rfl ?_
      refine S_iadd rfl rfl rfl (show (1 : Int32).toInt = 1 from rfl) (by omega) (fun vz55 hvz55 => ?_)
      refine S_putI (I := InvR _) rfl rfl rfl ((congrFun V.1 355).trans s_355) rfl rfl rfl rfl (InvR_putO V (by decide) trivial) (fun g V ve56 vn57 hq => ?_)
      have hG := hq.trans hG
      have hF := And.intro (vSm.putN hF.1 vn57 (by decide)) (vCd.oth hF.2 (fun k => vn57 358 k (Or.inl (by decide))))
      have evz1 := (vn57 (355) 12 (Or.inr (by decide))).trans evz1
      have evz2 := (vn57 (355) 11 (Or.inr (by decide))).trans evz2
      have evz3 := (vn57 (355) 8 (Or.inr (by decide))).trans evz3
      have evz5 := (vn57 (355) 13 (Or.inr (by decide))).trans evz5
      have evz6 := (vn57 (355) 16 (Or.inr (by decide))).trans evz6
      have evz7 := (vn57 (356) 4 (Or.inl (by decide))).trans evz7
      have evz10 := (vn57 (355) 18 (Or.inr (by decide))).trans evz10
      rw [← (funext fun k => vn57 358 k (Or.inl (by decide)) : Gi g 358 = _)] at hq16
      refine S_iinc (c := 1) rfl rfl rfl hx1 rfl (by omega) (fun vz58 hvz58 => ?_)
      refine LW_ls (ls' := [some (.ref 355), some (.int vz58), o2, o3, o4]) rfl ?_
      refine X_aload_n rfl rfl rfl rfl ?_
      have vo355_11 : (Gi g 355 11).toInt = vz2.toInt := congrArg Int32.toInt evz2
      refine Y_callV (as := []) (st := []) rfl rfl rfl (by decide) rfl (Nat.le_of_ble_eq_true rfl) (by decide) (Nat.le_of_ble_eq_true rfl) rfl ((congrFun V.1 355).trans s_355) (by decide) (C_X13_nextToken V  (by rw [evz2] <;> omega) (by rw [evz2, evz3] <;> omega) (by rw [evz3] <;> omega)) ?_
      rintro _ g ⟨rfl, V, hq, chF, vq60, vq61, vq62, vq63, vq64, vq65⟩
      have hG := hq.trans hG
      have evz3 := (chF 355 8 (by decide)).trans evz3
      have evz6 := (chF 355 16 (by decide)).trans evz6
      have evz7 := (chF 356 4 (by decide)).trans evz7
      have evz10 := (chF 355 18 (by decide)).trans evz10
      have ve56 := (chF 355 22 (by decide)).trans ve56
      have hF := And.intro (vSm.tr chF vi_da hF.1) (vCd.oth hF.2 (fun k => chF 358 k (Or.inl (by decide))))
      obtain ⟨vz66, evz66⟩ : ∃ z, Gi g 355 12 = z := ⟨_, rfl⟩
      rw [evz66] at vq60
      rw [evz66] at vq61
      rw [evz66] at vq62
      obtain ⟨vz67, evz67⟩ : ∃ z, Gi g 355 11 = z := ⟨_, rfl⟩
      rw [evz67] at vq62
      rw [evz67] at vq63
      rw [evz3] at vq63
      rw [evz3] at vq64
      obtain ⟨vz68, evz68⟩ : ∃ z, Gi g 355 13 = z := ⟨_, rfl⟩
      rw [evz68] at vq65
      rw [evz66] at vq65
      rw [evz67] at vq65
      rw [← (funext fun k => chF 358 k (Or.inl (by decide)) : Gi g 358 = _)] at hq16
      refine LW_goto (tgt := 2) rfl rfl ?_
      exact ih2 _ V hG hF vz58 vz58.toInt rfl (by omega) o2 o3 o4  (by rw [evz66] <;> omega) (by rw [evz66, evz67] <;> omega) (by rw [evz67, evz3] <;> omega) (by rw [evz3] <;> omega) (by rw [evz68, evz66, evz67] <;> omega) (by rw [evz6, evz7] <;> omega) (by rw [evz7] <;> omega) (by omega) (by rw [ve56] <;> omega) (by rw [ve56] <;> omega) (by omega) (by rw [evz10] <;> omega) (by rw [evz6] <;> omega) (by rw [evz66] <;> omega) (by rw [evz10] <;> omega) (by omega) (by rw [evz6, evz10]; exact (hq16))  (by rw [evz66] <;> omega)
    · refine X_iconst (v := (3 : Int32)) rfl rfl rfl ?_
      exact LW_ireturn (st := []) rfl rfl rfl ⟨_, rfl, by decide, by decide, V, hG, hF, (by have vkr := (show (3 : Int32).toInt = 3 from rfl); rw [evz1, evz2, evz3, evz5, evz6, evz10, evz9] <;> omega), (fun q => absurd q (by decide))⟩
set_option maxRecDepth 10000 in
set_option maxHeartbeats 40000000 in
theorem C_X13_asks_105 {P : Par} {vs vn vt : Nat} {g g0 : LH} {d n : Nat}  (V : InvR P g) (hG : Gr g = Gr g0) (hF : (vSm vsd g g0 ∧ vCd g g0)) (x1 : Int32) (y1 : Int) (hx1 : x1.toInt = y1) (hf1 : 0 ≤ y1 ∧ y1 ≤ 8) (x2 : Int32) (y2 : Int) (hx2 : x2.toInt = y2) (hf2 : 0 ≤ y2 ∧ y2 ≤ 0) (x3 : Int32) (y3 : Int) (hx3 : x3.toInt = y3) (hf3 : 0 ≤ y3 ∧ y3 ≤ 15) (x4 : Int32) (y4 : Int) (hx4 : x4.toInt = y4) (hf4 : 0 ≤ y4 ∧ y4 ≤ 8) (hq0 : 0 ≤ (Gi g 355 12).toInt) (hq1 : (Gi g 355 12).toInt ≤ (Gi g 355 11).toInt) (hq2 : (Gi g 355 11).toInt ≤ (Gi g 355 8).toInt) (hq3 : (Gi g 355 8).toInt ≤ 300) (hq4 : (Gi g 355 13).toInt = 0 ∨ (Gi g 355 12).toInt < (Gi g 355 11).toInt) (hq5 : (Gi g 355 16).toInt = 873 * (Gi g 356 4).toInt) (hq6 : (Gi g 356 4).toInt ≤ 3) (hq7 : 0 ≤ y4 ∧ y4 ≤ y1) (hq8 : (Gi g 355 22).toInt = (Gi g0 355 22).toInt) (hq9 : 0 ≤ (Gi g 355 18).toInt) (hq10 : (Gi g 355 18).toInt + y1 - y4 + (Gi g0 355 12).toInt ≤ (Gi g0 355 18).toInt + (Gi g 355 12).toInt) (hq11 : (Gi g0 355 18).toInt ≤ (Gi g 355 18).toInt) (hq12 : (Gi g 355 16).toInt = (Gi g0 355 16).toInt) (hq13 : (Gi g0 355 12).toInt < (Gi g 355 12).toInt) (hq14 : (Gi g0 355 18).toInt ≤ (Gi g0 355 12).toInt) (hq15 : vKK (Gi g 358) (Int.toNat (Gi g 355 16).toInt + 265) vs (Int.toNat (Gi g 355 18).toInt) vn (vt + 1)) (hmu : (8 - y4) * 1 + 0 < (n : Int) + 1) (ih2 : ∀ (g : LH) (V : InvR P g) (hG : Gr g = Gr g0) (hF : (vSm vsd g g0 ∧ vCd g g0)) (x1 : Int32) (y1 : Int) (hx1 : x1.toInt = y1) (hf1 : 0 ≤ y1 ∧ y1 ≤ 8) (o2 : Option Value) (o3 : Option Value) (o4 : Option Value) (hq0 : 0 ≤ (Gi g 355 12).toInt) (hq1 : (Gi g 355 12).toInt ≤ (Gi g 355 11).toInt) (hq2 : (Gi g 355 11).toInt ≤ (Gi g 355 8).toInt) (hq3 : (Gi g 355 8).toInt ≤ 300) (hq4 : (Gi g 355 13).toInt = 0 ∨ (Gi g 355 12).toInt < (Gi g 355 11).toInt) (hq5 : (Gi g 355 16).toInt = 873 * (Gi g 356 4).toInt) (hq6 : (Gi g 356 4).toInt ≤ 3) (hq7 : 0 ≤ y1) (hq8 : (Gi g 355 22).toInt = (Gi g0 355 22).toInt + y1) (hq9 : (Gi g 355 22).toInt ≤ 8) (hq10 : 0 ≤ (Gi g0 355 22).toInt) (hq11 : (Gi g 355 18).toInt = (Gi g0 355 18).toInt) (hq12 : (Gi g 355 16).toInt = (Gi g0 355 16).toInt) (hq13 : (Gi g0 355 12).toInt + y1 ≤ (Gi g 355 12).toInt) (hq14 : 0 ≤ (Gi g 355 18).toInt) (hq15 : (Gi g0 355 18).toInt ≤ (Gi g0 355 12).toInt) (hq16 : vKK (Gi g 358) (Int.toNat (Gi g 355 16).toInt + 265) vs (Int.toNat (Gi g 355 18).toInt) vn vt), (300 - (Gi g 355 12).toInt) * 1 + 10 < (n : Int) → LW 219 (d + 26) 0 0 2 [some (.ref 355), some (.int x1), o2, o3, o4] [] g (fun v g' => ∃ r : Int32, v = some (.int r) ∧ 0 ≤ r.toInt ∧ r.toInt ≤ 5 ∧ InvR P g' ∧ Gr g' = Gr g0 ∧ (vSm vsd g' g0 ∧ vCd g' g0) ∧ (r.toInt = 0 → (((Gi g0 355 12).toInt < (Gi g' 355 12).toInt) ∧ (0 ≤ (Gi g' 355 12).toInt) ∧ ((Gi g' 355 12).toInt ≤ (Gi g' 355 11).toInt) ∧ ((Gi g' 355 11).toInt ≤ (Gi g' 355 8).toInt) ∧ ((Gi g' 355 8).toInt ≤ 300) ∧ ((Gi g' 355 13).toInt = 0 ∨ (Gi g' 355 12).toInt < (Gi g' 355 11).toInt) ∧ ((Gi g' 355 16).toInt = (Gi g0 355 16).toInt) ∧ ((Gi g0 355 18).toInt ≤ (Gi g' 355 18).toInt) ∧ ((Gi g' 355 18).toInt + (Gi g0 355 12).toInt ≤ (Gi g0 355 18).toInt + (Gi g' 355 12).toInt) ∧ ((Gi g' 355 22).toInt = (Gi g0 355 22).toInt))) ∧ (r.toInt = 0 → vKK (Gi g' 358) (Int.toNat (Gi g' 355 16).toInt + 265) vs (Int.toNat (Gi g' 355 18).toInt) vn (vt + 1)))) (ih105 : ∀ (g : LH) (V : InvR P g) (hG : Gr g = Gr g0) (hF : (vSm vsd g g0 ∧ vCd g g0)) (x1 : Int32) (y1 : Int) (hx1 : x1.toInt = y1) (hf1 : 0 ≤ y1 ∧ y1 ≤ 8) (x2 : Int32) (y2 : Int) (hx2 : x2.toInt = y2) (hf2 : 0 ≤ y2 ∧ y2 ≤ 0) (x3 : Int32) (y3 : Int) (hx3 : x3.toInt = y3) (hf3 : 0 ≤ y3 ∧ y3 ≤ 15) (x4 : Int32) (y4 : Int) (hx4 : x4.toInt = y4) (hf4 : 0 ≤ y4 ∧ y4 ≤ 8) (hq0 : 0 ≤ (Gi g 355 12).toInt) (hq1 : (Gi g 355 12).toInt ≤ (Gi g 355 11).toInt) (hq2 : (Gi g 355 11).toInt ≤ (Gi g 355 8).toInt) (hq3 : (Gi g 355 8).toInt ≤ 300) (hq4 : (Gi g 355 13).toInt = 0 ∨ (Gi g 355 12).toInt < (Gi g 355 11).toInt) (hq5 : (Gi g 355 16).toInt = 873 * (Gi g 356 4).toInt) (hq6 : (Gi g 356 4).toInt ≤ 3) (hq7 : 0 ≤ y4 ∧ y4 ≤ y1) (hq8 : (Gi g 355 22).toInt = (Gi g0 355 22).toInt) (hq9 : 0 ≤ (Gi g 355 18).toInt) (hq10 : (Gi g 355 18).toInt + y1 - y4 + (Gi g0 355 12).toInt ≤ (Gi g0 355 18).toInt + (Gi g 355 12).toInt) (hq11 : (Gi g0 355 18).toInt ≤ (Gi g 355 18).toInt) (hq12 : (Gi g 355 16).toInt = (Gi g0 355 16).toInt) (hq13 : (Gi g0 355 12).toInt < (Gi g 355 12).toInt) (hq14 : (Gi g0 355 18).toInt ≤ (Gi g0 355 12).toInt) (hq15 : vKK (Gi g 358) (Int.toNat (Gi g 355 16).toInt + 265) vs (Int.toNat (Gi g 355 18).toInt) vn (vt + 1)), (8 - y4) * 1 + 0 < (n : Int) → LW 219 (d + 26) 0 0 105 [some (.ref 355), some (.int x1), some (.int x2), some (.int x3), some (.int x4)] [] g (fun v g' => ∃ r : Int32, v = some (.int r) ∧ 0 ≤ r.toInt ∧ r.toInt ≤ 5 ∧ InvR P g' ∧ Gr g' = Gr g0 ∧ (vSm vsd g' g0 ∧ vCd g' g0) ∧ (r.toInt = 0 → (((Gi g0 355 12).toInt < (Gi g' 355 12).toInt) ∧ (0 ≤ (Gi g' 355 12).toInt) ∧ ((Gi g' 355 12).toInt ≤ (Gi g' 355 11).toInt) ∧ ((Gi g' 355 11).toInt ≤ (Gi g' 355 8).toInt) ∧ ((Gi g' 355 8).toInt ≤ 300) ∧ ((Gi g' 355 13).toInt = 0 ∨ (Gi g' 355 12).toInt < (Gi g' 355 11).toInt) ∧ ((Gi g' 355 16).toInt = (Gi g0 355 16).toInt) ∧ ((Gi g0 355 18).toInt ≤ (Gi g' 355 18).toInt) ∧ ((Gi g' 355 18).toInt + (Gi g0 355 12).toInt ≤ (Gi g0 355 18).toInt + (Gi g' 355 12).toInt) ∧ ((Gi g' 355 22).toInt = (Gi g0 355 22).toInt))) ∧ (r.toInt = 0 → vKK (Gi g' 358) (Int.toNat (Gi g' 355 16).toInt + 265) vs (Int.toNat (Gi g' 355 18).toInt) vn (vt + 1)))) : LW 219 (d + 26) 0 0 105 [some (.ref 355), some (.int x1), some (.int x2), some (.int x3), some (.int x4)] [] g (fun v g' => ∃ r : Int32, v = some (.int r) ∧ 0 ≤ r.toInt ∧ r.toInt ≤ 5 ∧ InvR P g' ∧ Gr g' = Gr g0 ∧ (vSm vsd g' g0 ∧ vCd g' g0) ∧ (r.toInt = 0 → (((Gi g0 355 12).toInt < (Gi g' 355 12).toInt) ∧ (0 ≤ (Gi g' 355 12).toInt) ∧ ((Gi g' 355 12).toInt ≤ (Gi g' 355 11).toInt) ∧ ((Gi g' 355 11).toInt ≤ (Gi g' 355 8).toInt) ∧ ((Gi g' 355 8).toInt ≤ 300) ∧ ((Gi g' 355 13).toInt = 0 ∨ (Gi g' 355 12).toInt < (Gi g' 355 11).toInt) ∧ ((Gi g' 355 16).toInt = (Gi g0 355 16).toInt) ∧ ((Gi g0 355 18).toInt ≤ (Gi g' 355 18).toInt) ∧ ((Gi g' 355 18).toInt + (Gi g0 355 12).toInt ≤ (Gi g0 355 18).toInt + (Gi g' 355 12).toInt) ∧ ((Gi g' 355 22).toInt = (Gi g0 355 22).toInt))) ∧ (r.toInt = 0 → vKK (Gi g' 358) (Int.toNat (Gi g' 355 16).toInt + 265) vs (Int.toNat (Gi g' 355 18).toInt) vn (vt + 1))) := by
  obtain ⟨vz1, evz1⟩ : ∃ z, Gi g 355 12 = z := ⟨_, rfl⟩
  rw [evz1] at hq0
  rw [evz1] at hq1
  obtain ⟨vz2, evz2⟩ : ∃ z, Gi g 355 11 = z := ⟨_, rfl⟩
  rw [evz2] at hq1
  rw [evz2] at hq2
  obtain ⟨vz3, evz3⟩ : ∃ z, Gi g 355 8 = z := ⟨_, rfl⟩
  have vf4 := O_355_8 (V.2.2.2.2.2.2.1 355 (8) (Nat.le_of_ble_eq_true rfl))
  rw [evz3] at vf4
  rw [evz3] at hq2
  rw [evz3] at hq3
  obtain ⟨vz5, evz5⟩ : ∃ z, Gi g 355 13 = z := ⟨_, rfl⟩
  rw [evz5] at hq4
  rw [evz1] at hq4
  rw [evz2] at hq4
  obtain ⟨vz6, evz6⟩ : ∃ z, Gi g 355 16 = z := ⟨_, rfl⟩
  rw [evz6] at hq5
  obtain ⟨vz7, evz7⟩ : ∃ z, Gi g 356 4 = z := ⟨_, rfl⟩
  have vf8 := A_TEXTS (V.2.2.2.1 (4)) (by omega)
  rw [evz7] at vf8
  rw [evz7] at hq5
  rw [evz7] at hq6
  obtain ⟨vz9, evz9⟩ : ∃ z, Gi g 355 22 = z := ⟨_, rfl⟩
  rw [evz9] at hq8
  obtain ⟨vz10, evz10⟩ : ∃ z, Gi g 355 18 = z := ⟨_, rfl⟩
  rw [evz10] at hq9
  rw [evz10] at hq10
  rw [evz1] at hq10
  rw [evz10] at hq11
  rw [evz6] at hq12
  rw [evz1] at hq13
  rw [evz6] at hq15
  rw [evz10] at hq15
  refine X_iload rfl rfl rfl ?_
  refine X_iload_n rfl rfl rfl rfl ?_
  refine S_icmp_ge (tgt := 124) rfl rfl rfl hx4 hx1 (fun vh11 => ?_) (fun vh11 => ?_)
  · refine X_iconst (v := (0 : Int32)) rfl rfl rfl ?_
    exact LW_ireturn (st := []) rfl rfl rfl ⟨_, rfl, by decide, by decide, V, hG, hF, (by have vkr := (show (0 : Int32).toInt = 0 from rfl); rw [evz1, evz2, evz3, evz5, evz6, evz10, evz9] <;> omega), (by rw [evz6, evz10]; exact (by
          exact fun _ => hq15))⟩
  · refine X_aload_n rfl rfl rfl rfl ?_
    refine X_bipush (v := (20 : Int32)) rfl rfl rfl ?_
    refine X_iconst (v := (0 : Int32)) rfl rfl rfl ?_
    have vo355_18 : (Gi g 355 18).toInt = vz10.toInt := congrArg Int32.toInt evz10
    have vo355_16 : (Gi g 355 16).toInt = vz6.toInt := congrArg Int32.toInt evz6
    refine Y_callV (as := [.int (20 : Int32), .int (0 : Int32)]) (st := []) rfl rfl rfl (by decide) rfl (Nat.le_of_ble_eq_true rfl) (by decide) (Nat.le_of_ble_eq_true rfl) rfl ((congrFun V.1 355).trans s_355) (by decide) (C_X13_emit V (20 : Int32) 20 (show (20 : Int32).toInt = 20 from rfl) (0 : Int32) 0 (show (0 : Int32).toInt = 0 from rfl) (by rw [evz10] <;> omega) (by rw [evz10] <;> omega) (by rw [evz6, evz7] <;> omega) (by rw [evz7] <;> omega)) ?_
    rintro _ g ⟨rfl, V, hq, chF, vq13, vq14, vq15⟩
    have hG := hq.trans hG
    have evz1 := (chF 355 12 (by decide)).trans evz1
    have evz2 := (chF 355 11 (by decide)).trans evz2
    have evz3 := (chF 355 8 (by decide)).trans evz3
    have evz5 := (chF 355 13 (by decide)).trans evz5
    have evz6 := (chF 355 16 (by decide)).trans evz6
    have evz7 := (chF 356 4 (by decide)).trans evz7
    have evz9 := (chF 355 22 (by decide)).trans evz9
    have hF := And.intro (vSm.tr chF vi_db hF.1) (vCd.em hF.2 vq14 (by omega))
    obtain ⟨vz16, evz16⟩ : ∃ z, Gi g 355 18 = z := ⟨_, rfl⟩
    rw [evz16] at vq13
    rw [evz6] at vq15
    refine S_iinc (c := 1) rfl rfl rfl hx4 rfl (by omega) (fun vz17 hvz17 => ?_)
    refine LW_ls (ls' := [some (.ref 355), some (.int x1), some (.int x2), some (.int x3), some (.int vz17)]) rfl ?_
    refine LW_goto (tgt := 105) rfl rfl ?_
    exact ih105 _ V hG hF x1 y1 hx1 (by omega) x2 y2 hx2 (by omega) x3 y3 hx3 (by omega) vz17 vz17.toInt rfl (by omega)  (by rw [evz1] <;> omega) (by rw [evz1, evz2] <;> omega) (by rw [evz2, evz3] <;> omega) (by rw [evz3] <;> omega) (by rw [evz5, evz1, evz2] <;> omega) (by rw [evz6, evz7] <;> omega) (by rw [evz7] <;> omega) (by omega) (by rw [evz9] <;> omega) (by rw [evz16] <;> omega) (by rw [evz16, evz1] <;> omega) (by rw [evz16] <;> omega) (by rw [evz6] <;> omega) (by rw [evz1] <;> omega) (by omega) (by rw [evz6, evz16]; exact (by
          exact hq15.nt vq14 (by omega) rfl (by omega) (by omega)))  (by omega)
theorem C_X13_asks_all {P : Par} {vs vn vt : Nat} {g0 : LH} {d : Nat}  : ∀ n : Nat, (∀ (g : LH) (V : InvR P g) (hG : Gr g = Gr g0) (hF : (vSm vsd g g0 ∧ vCd g g0)) (x1 : Int32) (y1 : Int) (hx1 : x1.toInt = y1) (hf1 : 0 ≤ y1 ∧ y1 ≤ 8) (o2 : Option Value) (o3 : Option Value) (o4 : Option Value) (hq0 : 0 ≤ (Gi g 355 12).toInt) (hq1 : (Gi g 355 12).toInt ≤ (Gi g 355 11).toInt) (hq2 : (Gi g 355 11).toInt ≤ (Gi g 355 8).toInt) (hq3 : (Gi g 355 8).toInt ≤ 300) (hq4 : (Gi g 355 13).toInt = 0 ∨ (Gi g 355 12).toInt < (Gi g 355 11).toInt) (hq5 : (Gi g 355 16).toInt = 873 * (Gi g 356 4).toInt) (hq6 : (Gi g 356 4).toInt ≤ 3) (hq7 : 0 ≤ y1) (hq8 : (Gi g 355 22).toInt = (Gi g0 355 22).toInt + y1) (hq9 : (Gi g 355 22).toInt ≤ 8) (hq10 : 0 ≤ (Gi g0 355 22).toInt) (hq11 : (Gi g 355 18).toInt = (Gi g0 355 18).toInt) (hq12 : (Gi g 355 16).toInt = (Gi g0 355 16).toInt) (hq13 : (Gi g0 355 12).toInt + y1 ≤ (Gi g 355 12).toInt) (hq14 : 0 ≤ (Gi g 355 18).toInt) (hq15 : (Gi g0 355 18).toInt ≤ (Gi g0 355 12).toInt) (hq16 : vKK (Gi g 358) (Int.toNat (Gi g 355 16).toInt + 265) vs (Int.toNat (Gi g 355 18).toInt) vn vt), (300 - (Gi g 355 12).toInt) * 1 + 10 < (n : Int) → LW 219 (d + 26) 0 0 2 [some (.ref 355), some (.int x1), o2, o3, o4] [] g (fun v g' => ∃ r : Int32, v = some (.int r) ∧ 0 ≤ r.toInt ∧ r.toInt ≤ 5 ∧ InvR P g' ∧ Gr g' = Gr g0 ∧ (vSm vsd g' g0 ∧ vCd g' g0) ∧ (r.toInt = 0 → (((Gi g0 355 12).toInt < (Gi g' 355 12).toInt) ∧ (0 ≤ (Gi g' 355 12).toInt) ∧ ((Gi g' 355 12).toInt ≤ (Gi g' 355 11).toInt) ∧ ((Gi g' 355 11).toInt ≤ (Gi g' 355 8).toInt) ∧ ((Gi g' 355 8).toInt ≤ 300) ∧ ((Gi g' 355 13).toInt = 0 ∨ (Gi g' 355 12).toInt < (Gi g' 355 11).toInt) ∧ ((Gi g' 355 16).toInt = (Gi g0 355 16).toInt) ∧ ((Gi g0 355 18).toInt ≤ (Gi g' 355 18).toInt) ∧ ((Gi g' 355 18).toInt + (Gi g0 355 12).toInt ≤ (Gi g0 355 18).toInt + (Gi g' 355 12).toInt) ∧ ((Gi g' 355 22).toInt = (Gi g0 355 22).toInt))) ∧ (r.toInt = 0 → vKK (Gi g' 358) (Int.toNat (Gi g' 355 16).toInt + 265) vs (Int.toNat (Gi g' 355 18).toInt) vn (vt + 1)))) ∧ (∀ (g : LH) (V : InvR P g) (hG : Gr g = Gr g0) (hF : (vSm vsd g g0 ∧ vCd g g0)) (x1 : Int32) (y1 : Int) (hx1 : x1.toInt = y1) (hf1 : 0 ≤ y1 ∧ y1 ≤ 8) (x2 : Int32) (y2 : Int) (hx2 : x2.toInt = y2) (hf2 : 0 ≤ y2 ∧ y2 ≤ 0) (x3 : Int32) (y3 : Int) (hx3 : x3.toInt = y3) (hf3 : 0 ≤ y3 ∧ y3 ≤ 15) (x4 : Int32) (y4 : Int) (hx4 : x4.toInt = y4) (hf4 : 0 ≤ y4 ∧ y4 ≤ 8) (hq0 : 0 ≤ (Gi g 355 12).toInt) (hq1 : (Gi g 355 12).toInt ≤ (Gi g 355 11).toInt) (hq2 : (Gi g 355 11).toInt ≤ (Gi g 355 8).toInt) (hq3 : (Gi g 355 8).toInt ≤ 300) (hq4 : (Gi g 355 13).toInt = 0 ∨ (Gi g 355 12).toInt < (Gi g 355 11).toInt) (hq5 : (Gi g 355 16).toInt = 873 * (Gi g 356 4).toInt) (hq6 : (Gi g 356 4).toInt ≤ 3) (hq7 : 0 ≤ y4 ∧ y4 ≤ y1) (hq8 : (Gi g 355 22).toInt = (Gi g0 355 22).toInt) (hq9 : 0 ≤ (Gi g 355 18).toInt) (hq10 : (Gi g 355 18).toInt + y1 - y4 + (Gi g0 355 12).toInt ≤ (Gi g0 355 18).toInt + (Gi g 355 12).toInt) (hq11 : (Gi g0 355 18).toInt ≤ (Gi g 355 18).toInt) (hq12 : (Gi g 355 16).toInt = (Gi g0 355 16).toInt) (hq13 : (Gi g0 355 12).toInt < (Gi g 355 12).toInt) (hq14 : (Gi g0 355 18).toInt ≤ (Gi g0 355 12).toInt) (hq15 : vKK (Gi g 358) (Int.toNat (Gi g 355 16).toInt + 265) vs (Int.toNat (Gi g 355 18).toInt) vn (vt + 1)), (8 - y4) * 1 + 0 < (n : Int) → LW 219 (d + 26) 0 0 105 [some (.ref 355), some (.int x1), some (.int x2), some (.int x3), some (.int x4)] [] g (fun v g' => ∃ r : Int32, v = some (.int r) ∧ 0 ≤ r.toInt ∧ r.toInt ≤ 5 ∧ InvR P g' ∧ Gr g' = Gr g0 ∧ (vSm vsd g' g0 ∧ vCd g' g0) ∧ (r.toInt = 0 → (((Gi g0 355 12).toInt < (Gi g' 355 12).toInt) ∧ (0 ≤ (Gi g' 355 12).toInt) ∧ ((Gi g' 355 12).toInt ≤ (Gi g' 355 11).toInt) ∧ ((Gi g' 355 11).toInt ≤ (Gi g' 355 8).toInt) ∧ ((Gi g' 355 8).toInt ≤ 300) ∧ ((Gi g' 355 13).toInt = 0 ∨ (Gi g' 355 12).toInt < (Gi g' 355 11).toInt) ∧ ((Gi g' 355 16).toInt = (Gi g0 355 16).toInt) ∧ ((Gi g0 355 18).toInt ≤ (Gi g' 355 18).toInt) ∧ ((Gi g' 355 18).toInt + (Gi g0 355 12).toInt ≤ (Gi g0 355 18).toInt + (Gi g' 355 12).toInt) ∧ ((Gi g' 355 22).toInt = (Gi g0 355 22).toInt))) ∧ (r.toInt = 0 → vKK (Gi g' 358) (Int.toNat (Gi g' 355 16).toInt + 265) vs (Int.toNat (Gi g' 355 18).toInt) vn (vt + 1)))) := by
  intro n
  induction n with
  | zero => exact ⟨fun g V hG hF x1 y1 hx1 hf1 o2 o3 o4 hq0 hq1 hq2 hq3 hq4 hq5 hq6 hq7 hq8 hq9 hq10 hq11 hq12 hq13 hq14 hq15 hq16 hmu => absurd hmu (by omega), fun g V hG hF x1 y1 hx1 hf1 x2 y2 hx2 hf2 x3 y3 hx3 hf3 x4 y4 hx4 hf4 hq0 hq1 hq2 hq3 hq4 hq5 hq6 hq7 hq8 hq9 hq10 hq11 hq12 hq13 hq14 hq15 hmu => absurd hmu (by omega)⟩
  | succ n ih => exact ⟨fun g V hG hF x1 y1 hx1 hf1 o2 o3 o4 hq0 hq1 hq2 hq3 hq4 hq5 hq6 hq7 hq8 hq9 hq10 hq11 hq12 hq13 hq14 hq15 hq16 hmu => C_X13_asks_2  V hG hF x1 y1 hx1 hf1 o2 o3 o4 hq0 hq1 hq2 hq3 hq4 hq5 hq6 hq7 hq8 hq9 hq10 hq11 hq12 hq13 hq14 hq15 hq16 (by omega) ih.1 ih.2, fun g V hG hF x1 y1 hx1 hf1 x2 y2 hx2 hf2 x3 y3 hx3 hf3 x4 y4 hx4 hf4 hq0 hq1 hq2 hq3 hq4 hq5 hq6 hq7 hq8 hq9 hq10 hq11 hq12 hq13 hq14 hq15 hmu => C_X13_asks_105  V hG hF x1 y1 hx1 hf1 x2 y2 hx2 hf2 x3 y3 hx3 hf3 x4 y4 hx4 hf4 hq0 hq1 hq2 hq3 hq4 hq5 hq6 hq7 hq8 hq9 hq10 hq11 hq12 hq13 hq14 hq15 (by omega) ih.1 ih.2⟩
set_option maxRecDepth 10000 in
set_option maxHeartbeats 40000000 in
theorem C_X13_asks {P : Par} {vs vn vt : Nat} {g : LH} {d : Nat}  (V : InvR P g)  (hq0 : 0 ≤ (Gi g 355 12).toInt) (hq1 : (Gi g 355 12).toInt ≤ (Gi g 355 11).toInt) (hq2 : (Gi g 355 11).toInt ≤ (Gi g 355 8).toInt) (hq3 : (Gi g 355 8).toInt ≤ 300) (hq4 : (Gi g 355 13).toInt = 0 ∨ (Gi g 355 12).toInt < (Gi g 355 11).toInt) (hq5 : (Gi g 355 16).toInt = 873 * (Gi g 356 4).toInt) (hq6 : (Gi g 356 4).toInt ≤ 3) (hq7 : 0 ≤ (Gi g 355 18).toInt) (hq8 : (Gi g 355 18).toInt ≤ (Gi g 355 12).toInt) (hq9 : 0 ≤ (Gi g 355 22).toInt ∧ (Gi g 355 22).toInt ≤ 8) (hq10 : vKK (Gi g 358) (Int.toNat (Gi g 355 16).toInt + 265) vs (Int.toNat (Gi g 355 18).toInt) vn vt)  : LW 219 (d + 26) 0 0 0 (lEnt (mL 219) [.ref 355]) [] g (fun v g' => ∃ r : Int32, v = some (.int r) ∧ 0 ≤ r.toInt ∧ r.toInt ≤ 5 ∧ InvR P g' ∧ Gr g' = Gr g ∧ (vSm vsd g' g ∧ vCd g' g) ∧ (r.toInt = 0 → (((Gi g 355 12).toInt < (Gi g' 355 12).toInt) ∧ (0 ≤ (Gi g' 355 12).toInt) ∧ ((Gi g' 355 12).toInt ≤ (Gi g' 355 11).toInt) ∧ ((Gi g' 355 11).toInt ≤ (Gi g' 355 8).toInt) ∧ ((Gi g' 355 8).toInt ≤ 300) ∧ ((Gi g' 355 13).toInt = 0 ∨ (Gi g' 355 12).toInt < (Gi g' 355 11).toInt) ∧ ((Gi g' 355 16).toInt = (Gi g 355 16).toInt) ∧ ((Gi g 355 18).toInt ≤ (Gi g' 355 18).toInt) ∧ ((Gi g' 355 18).toInt + (Gi g 355 12).toInt ≤ (Gi g 355 18).toInt + (Gi g' 355 12).toInt) ∧ ((Gi g' 355 22).toInt = (Gi g 355 22).toInt))) ∧ (r.toInt = 0 → vKK (Gi g' 358) (Int.toNat (Gi g' 355 16).toInt + 265) vs (Int.toNat (Gi g' 355 18).toInt) vn (vt + 1))) := by
  refine LW_ls (ls' := [some (.ref 355), none, none, none, none]) rfl ?_
  have hG : Gr g = Gr g := rfl
  have hF : (vSm vsd g g ∧ vCd g g) := And.intro vSm.refl vCd.refl
  obtain ⟨vz1, evz1⟩ : ∃ z, Gi g 355 12 = z := ⟨_, rfl⟩
  rw [evz1] at hq0
  rw [evz1] at hq1
  obtain ⟨vz2, evz2⟩ : ∃ z, Gi g 355 11 = z := ⟨_, rfl⟩
  rw [evz2] at hq1
  rw [evz2] at hq2
  obtain ⟨vz3, evz3⟩ : ∃ z, Gi g 355 8 = z := ⟨_, rfl⟩
  have vf4 := O_355_8 (V.2.2.2.2.2.2.1 355 (8) (Nat.le_of_ble_eq_true rfl))
  rw [evz3] at vf4
  rw [evz3] at hq2
  rw [evz3] at hq3
  obtain ⟨vz5, evz5⟩ : ∃ z, Gi g 355 13 = z := ⟨_, rfl⟩
  rw [evz5] at hq4
  rw [evz1] at hq4
  rw [evz2] at hq4
  obtain ⟨vz6, evz6⟩ : ∃ z, Gi g 355 16 = z := ⟨_, rfl⟩
  rw [evz6] at hq5
  obtain ⟨vz7, evz7⟩ : ∃ z, Gi g 356 4 = z := ⟨_, rfl⟩
  have vf8 := A_TEXTS (V.2.2.2.1 (4)) (by omega)
  rw [evz7] at vf8
  rw [evz7] at hq5
  rw [evz7] at hq6
  obtain ⟨vz9, evz9⟩ : ∃ z, Gi g 355 18 = z := ⟨_, rfl⟩
  rw [evz9] at hq7
  rw [evz9] at hq8
  rw [evz1] at hq8
  obtain ⟨vz10, evz10⟩ : ∃ z, Gi g 355 22 = z := ⟨_, rfl⟩
  rw [evz10] at hq9
  rw [evz6] at hq10
  rw [evz9] at hq10
  have vo355_12 : (Gi g 355 12).toInt = vz1.toInt := congrArg Int32.toInt evz1
  have vo355_16 : (Gi g 355 16).toInt = vz6.toInt := congrArg Int32.toInt evz6
  have vo355_18 : (Gi g 355 18).toInt = vz9.toInt := congrArg Int32.toInt evz9
  have vo355_22 : (Gi g 355 22).toInt = vz10.toInt := congrArg Int32.toInt evz10
  refine X_iconst (v := (0 : Int32)) rfl rfl rfl ?_
  refine X_istore_n (i := 1) (ls' := [some (.ref 355), some (.int (0 : Int32)), none, none, none]) rfl rfl rfl (Nat.le_of_ble_eq_true rfl) rfl ?_
  exact (C_X13_asks_all (((300 - (Gi g 355 12).toInt) * 1 + 10) + 1 : Int).toNat).1 _ V hG hF (0 : Int32) 0 (show (0 : Int32).toInt = 0 from rfl) (by omega) none none none  (by rw [evz1] <;> omega) (by rw [evz1, evz2] <;> omega) (by rw [evz2, evz3] <;> omega) (by rw [evz3] <;> omega) (by rw [evz5, evz1, evz2] <;> omega) (by rw [evz6, evz7] <;> omega) (by rw [evz7] <;> omega) (by omega) (by rw [evz10] <;> omega) (by rw [evz10] <;> omega) (by omega) (by rw [evz9] <;> omega) (by rw [evz6] <;> omega) (by rw [evz1] <;> omega) (by rw [evz9] <;> omega) (by omega) (by rw [evz6, evz9]; exact (hq10))  (by rw [evz1] <;> omega)
set_option maxRecDepth 10000 in
set_option maxHeartbeats 40000000 in
theorem C_X13_either_6 {P : Par} {vs vn vt : Nat} {g g0 : LH} {d n : Nat}  (V : InvR P g) (hG : Gr g = Gr g0) (hF : (vSm vsd g g0 ∧ vCd g g0)) (x1 : Int32) (y1 : Int) (hx1 : x1.toInt = y1) (hf1 : 0 ≤ y1 ∧ y1 ≤ 1) (x2 : Int32) (y2 : Int) (hx2 : x2.toInt = y2) (hf2 : 0 ≤ y2 ∧ y2 ≤ 1) (x3 : Int32) (y3 : Int) (hx3 : x3.toInt = y3) (hf3 : 0 ≤ y3 ∧ y3 ≤ 1) (o4 : Option Value) (o5 : Option Value) (hq0 : 0 ≤ (Gi g 355 12).toInt) (hq1 : (Gi g 355 12).toInt ≤ (Gi g 355 11).toInt) (hq2 : (Gi g 355 11).toInt ≤ (Gi g 355 8).toInt) (hq3 : (Gi g 355 8).toInt ≤ 300) (hq4 : (Gi g 355 13).toInt = 0 ∨ (Gi g 355 12).toInt < (Gi g 355 11).toInt) (hq5 : (Gi g 355 16).toInt = 873 * (Gi g 356 4).toInt) (hq6 : (Gi g 356 4).toInt ≤ 3) (hq7 : y3 = 1 ∨ (y1 = 0 ∧ y2 = 0)) (hq8 : (Gi g 355 22).toInt = (Gi g0 355 22).toInt) (hq9 : 0 ≤ (Gi g 355 22).toInt ∧ (Gi g 355 22).toInt ≤ 8) (hq10 : 0 ≤ (Gi g 355 18).toInt) (hq11 : (Gi g0 355 18).toInt ≤ (Gi g 355 18).toInt) (hq12 : (Gi g 355 18).toInt + y1 + y2 + (Gi g0 355 12).toInt ≤ (Gi g0 355 18).toInt + (Gi g 355 12).toInt) (hq13 : (Gi g 355 16).toInt = (Gi g0 355 16).toInt) (hq14 : y3 = 1 ∨ (Gi g0 355 12).toInt < (Gi g 355 12).toInt) (hq15 : (Gi g0 355 12).toInt ≤ (Gi g 355 12).toInt) (hq16 : (Gi g0 355 18).toInt ≤ (Gi g0 355 12).toInt) (hq17 : vKK (Gi g 358) (Int.toNat (Gi g 355 16).toInt + 265) vs (Int.toNat (Gi g 355 18).toInt) vn (vt + Int.toNat (y1 + y2 + 1 - y3))) (hmu : (300 - (Gi g 355 12).toInt) * 1 + 0 < (n : Int) + 1) (ih6 : ∀ (g : LH) (V : InvR P g) (hG : Gr g = Gr g0) (hF : (vSm vsd g g0 ∧ vCd g g0)) (x1 : Int32) (y1 : Int) (hx1 : x1.toInt = y1) (hf1 : 0 ≤ y1 ∧ y1 ≤ 1) (x2 : Int32) (y2 : Int) (hx2 : x2.toInt = y2) (hf2 : 0 ≤ y2 ∧ y2 ≤ 1) (x3 : Int32) (y3 : Int) (hx3 : x3.toInt = y3) (hf3 : 0 ≤ y3 ∧ y3 ≤ 1) (o4 : Option Value) (o5 : Option Value) (hq0 : 0 ≤ (Gi g 355 12).toInt) (hq1 : (Gi g 355 12).toInt ≤ (Gi g 355 11).toInt) (hq2 : (Gi g 355 11).toInt ≤ (Gi g 355 8).toInt) (hq3 : (Gi g 355 8).toInt ≤ 300) (hq4 : (Gi g 355 13).toInt = 0 ∨ (Gi g 355 12).toInt < (Gi g 355 11).toInt) (hq5 : (Gi g 355 16).toInt = 873 * (Gi g 356 4).toInt) (hq6 : (Gi g 356 4).toInt ≤ 3) (hq7 : y3 = 1 ∨ (y1 = 0 ∧ y2 = 0)) (hq8 : (Gi g 355 22).toInt = (Gi g0 355 22).toInt) (hq9 : 0 ≤ (Gi g 355 22).toInt ∧ (Gi g 355 22).toInt ≤ 8) (hq10 : 0 ≤ (Gi g 355 18).toInt) (hq11 : (Gi g0 355 18).toInt ≤ (Gi g 355 18).toInt) (hq12 : (Gi g 355 18).toInt + y1 + y2 + (Gi g0 355 12).toInt ≤ (Gi g0 355 18).toInt + (Gi g 355 12).toInt) (hq13 : (Gi g 355 16).toInt = (Gi g0 355 16).toInt) (hq14 : y3 = 1 ∨ (Gi g0 355 12).toInt < (Gi g 355 12).toInt) (hq15 : (Gi g0 355 12).toInt ≤ (Gi g 355 12).toInt) (hq16 : (Gi g0 355 18).toInt ≤ (Gi g0 355 12).toInt) (hq17 : vKK (Gi g 358) (Int.toNat (Gi g 355 16).toInt + 265) vs (Int.toNat (Gi g 355 18).toInt) vn (vt + Int.toNat (y1 + y2 + 1 - y3))), (300 - (Gi g 355 12).toInt) * 1 + 0 < (n : Int) → LW 220 (d + 34) 0 0 6 [some (.ref 355), some (.int x1), some (.int x2), some (.int x3), o4, o5] [] g (fun v g' => ∃ r : Int32, v = some (.int r) ∧ 0 ≤ r.toInt ∧ r.toInt ≤ 5 ∧ InvR P g' ∧ Gr g' = Gr g0 ∧ (vSm vsd g' g0 ∧ vCd g' g0) ∧ (r.toInt = 0 → (((Gi g0 355 12).toInt < (Gi g' 355 12).toInt) ∧ (0 ≤ (Gi g' 355 12).toInt) ∧ ((Gi g' 355 12).toInt ≤ (Gi g' 355 11).toInt) ∧ ((Gi g' 355 11).toInt ≤ (Gi g' 355 8).toInt) ∧ ((Gi g' 355 8).toInt ≤ 300) ∧ ((Gi g' 355 13).toInt = 0 ∨ (Gi g' 355 12).toInt < (Gi g' 355 11).toInt) ∧ ((Gi g' 355 16).toInt = (Gi g0 355 16).toInt) ∧ ((Gi g0 355 18).toInt ≤ (Gi g' 355 18).toInt) ∧ ((Gi g' 355 18).toInt + (Gi g0 355 12).toInt ≤ (Gi g0 355 18).toInt + (Gi g' 355 12).toInt) ∧ ((Gi g' 355 22).toInt = (Gi g0 355 22).toInt))) ∧ (r.toInt = 0 → vKK (Gi g' 358) (Int.toNat (Gi g' 355 16).toInt + 265) vs (Int.toNat (Gi g' 355 18).toInt) vn (vt + 1)))) : LW 220 (d + 34) 0 0 6 [some (.ref 355), some (.int x1), some (.int x2), some (.int x3), o4, o5] [] g (fun v g' => ∃ r : Int32, v = some (.int r) ∧ 0 ≤ r.toInt ∧ r.toInt ≤ 5 ∧ InvR P g' ∧ Gr g' = Gr g0 ∧ (vSm vsd g' g0 ∧ vCd g' g0) ∧ (r.toInt = 0 → (((Gi g0 355 12).toInt < (Gi g' 355 12).toInt) ∧ (0 ≤ (Gi g' 355 12).toInt) ∧ ((Gi g' 355 12).toInt ≤ (Gi g' 355 11).toInt) ∧ ((Gi g' 355 11).toInt ≤ (Gi g' 355 8).toInt) ∧ ((Gi g' 355 8).toInt ≤ 300) ∧ ((Gi g' 355 13).toInt = 0 ∨ (Gi g' 355 12).toInt < (Gi g' 355 11).toInt) ∧ ((Gi g' 355 16).toInt = (Gi g0 355 16).toInt) ∧ ((Gi g0 355 18).toInt ≤ (Gi g' 355 18).toInt) ∧ ((Gi g' 355 18).toInt + (Gi g0 355 12).toInt ≤ (Gi g0 355 18).toInt + (Gi g' 355 12).toInt) ∧ ((Gi g' 355 22).toInt = (Gi g0 355 22).toInt))) ∧ (r.toInt = 0 → vKK (Gi g' 358) (Int.toNat (Gi g' 355 16).toInt + 265) vs (Int.toNat (Gi g' 355 18).toInt) vn (vt + 1))) := by
  obtain ⟨vz1, evz1⟩ : ∃ z, Gi g 355 12 = z := ⟨_, rfl⟩
  rw [evz1] at hq0
  rw [evz1] at hq1
  obtain ⟨vz2, evz2⟩ : ∃ z, Gi g 355 11 = z := ⟨_, rfl⟩
  rw [evz2] at hq1
  rw [evz2] at hq2
  obtain ⟨vz3, evz3⟩ : ∃ z, Gi g 355 8 = z := ⟨_, rfl⟩
  have vf4 := O_355_8 (V.2.2.2.2.2.2.1 355 (8) (Nat.le_of_ble_eq_true rfl))
  rw [evz3] at vf4
  rw [evz3] at hq2
  rw [evz3] at hq3
  obtain ⟨vz5, evz5⟩ : ∃ z, Gi g 355 13 = z := ⟨_, rfl⟩
  rw [evz5] at hq4
  rw [evz1] at hq4
  rw [evz2] at hq4
  obtain ⟨vz6, evz6⟩ : ∃ z, Gi g 355 16 = z := ⟨_, rfl⟩
  rw [evz6] at hq5
  obtain ⟨vz7, evz7⟩ : ∃ z, Gi g 356 4 = z := ⟨_, rfl⟩
  have vf8 := A_TEXTS (V.2.2.2.1 (4)) (by omega)
  rw [evz7] at vf8
  rw [evz7] at hq5
  rw [evz7] at hq6
  obtain ⟨vz9, evz9⟩ : ∃ z, Gi g 355 22 = z := ⟨_, rfl⟩
  rw [evz9] at hq8
  rw [evz9] at hq9
  obtain ⟨vz10, evz10⟩ : ∃ z, Gi g 355 18 = z := ⟨_, rfl⟩
  rw [evz10] at hq10
  rw [evz10] at hq11
  rw [evz10] at hq12
  rw [evz1] at hq12
  rw [evz6] at hq13
  rw [evz1] at hq14
  rw [evz1] at hq15
  rw [evz6] at hq17
  rw [evz10] at hq17
  rw [evz1] at hmu
  refine X_iload_n rfl rfl rfl rfl ?_
  refine S_if_eq (tgt := 119) rfl rfl rfl hx3 (fun vh11 => ?_) (fun vh11 => ?_)
  · refine X_iconst (v := (0 : Int32)) rfl rfl rfl ?_
    exact LW_ireturn (st := []) rfl rfl rfl ⟨_, rfl, by decide, by decide, V, hG, hF, (by have vkr := (show (0 : Int32).toInt = 0 from rfl); rw [evz1, evz2, evz3, evz5, evz6, evz10, evz9] <;> omega), (by rw [evz6, evz10]; exact (by
          exact fun _ => hq17.tt (by omega)))⟩
  · refine X_aload_n rfl rfl rfl rfl ?_
    have vo355_12 : (Gi g 355 12).toInt = vz1.toInt := congrArg Int32.toInt evz1
    have vo355_16 : (Gi g 355 16).toInt = vz6.toInt := congrArg Int32.toInt evz6
    have vo355_18 : (Gi g 355 18).toInt = vz10.toInt := congrArg Int32.toInt evz10
    have vo355_22 : (Gi g 355 22).toInt = vz9.toInt := congrArg Int32.toInt evz9
    refine Y_callV (as := []) (st := []) rfl rfl rfl (by decide) rfl (Nat.le_of_ble_eq_true rfl) (by decide) (Nat.le_of_ble_eq_true rfl) rfl ((congrFun V.1 355).trans s_355) (by decide) (C_X13_asks (vs := vs) (vn := vn) (vt := vt + Int.toNat (y1 + y2 + 1 - y3)) V  (by rw [evz1] <;> omega) (by rw [evz1, evz2] <;> omega) (by rw [evz2, evz3] <;> omega) (by rw [evz3] <;> omega) (by rw [evz5, evz1, evz2] <;> omega) (by rw [evz6, evz7] <;> omega) (by rw [evz7] <;> omega) (by rw [evz10] <;> omega) (by rw [evz10, evz1] <;> omega) (by rw [evz9] <;> omega) (by rw [evz6, evz10]; exact (hq17))) ?_
    rintro _ g ⟨vr12, rfl, hrvr120, hrvr121, V, hq, chF, vq13, vq14⟩
    have hG := hq.trans hG
    have evz3 := (chF.1 355 8 (by decide)).trans evz3
    have evz6 := (chF.1 355 16 (by decide)).trans evz6
    have evz7 := (chF.1 356 4 (by decide)).trans evz7
    have hF := And.intro (vSm.tr chF.1 (vi_ vsd) hF.1) (vCd.tr hF.2 chF.2 (by omega))
    obtain ⟨vz15, evz15⟩ : ∃ z, Gi g 355 12 = z := ⟨_, rfl⟩
    rw [evz15] at vq13
    obtain ⟨vz16, evz16⟩ : ∃ z, Gi g 355 11 = z := ⟨_, rfl⟩
    rw [evz16] at vq13
    rw [evz3] at vq13
    obtain ⟨vz17, evz17⟩ : ∃ z, Gi g 355 13 = z := ⟨_, rfl⟩
    rw [evz17] at vq13
    rw [evz6] at vq13
    obtain ⟨vz18, evz18⟩ : ∃ z, Gi g 355 18 = z := ⟨_, rfl⟩
    rw [evz18] at vq13
    obtain ⟨vz19, evz19⟩ : ∃ z, Gi g 355 22 = z := ⟨_, rfl⟩
    rw [evz19] at vq13
    rw [evz6] at vq14
    rw [evz18] at vq14
    refine X_istore (i := 4) (ls' := [some (.ref 355), some (.int x1), some (.int x2), some (.int x3), some (.int vr12), o5]) rfl rfl (Nat.le_of_ble_eq_true rfl) rfl ?_
    refine X_iload rfl rfl rfl ?_
    refine S_if_eq (tgt := 24) rfl rfl rfl rfl (fun vh20 => ?_) (fun vh20 => ?_)
    · refine X_iload_n rfl rfl rfl rfl ?_
      refine S_if_eq (tgt := 35) rfl rfl rfl hx1 (fun vh21 => ?_) (fun vh21 => ?_)
      · refine X_aload_n rfl rfl rfl rfl ?_
        refine X_bipush (v := (97 : Int32)) rfl rfl rfl ?_
        refine X_bipush (v := (110 : Int32)) rfl rfl rfl ?_
        refine X_bipush (v := (100 : Int32)) rfl rfl rfl ?_
        refine Y_callS (as := [.int (97 : Int32), .int (110 : Int32), .int (100 : Int32)]) (st := [.ref 355]) rfl rfl rfl (by decide) rfl (Nat.le_of_ble_eq_true rfl) (by decide) (Nat.le_of_ble_eq_true rfl) rfl (C_X13_w3 V (97 : Int32) 97 (show (97 : Int32).toInt = 97 from rfl) (110 : Int32) 110 (show (110 : Int32).toInt = 110 from rfl) (100 : Int32) 100 (show (100 : Int32).toInt = 100 from rfl) ) ?_
        rintro _ g' ⟨vr22, rfl, hgg⟩
        subst hgg
        refine Y_callV (as := [.long vr22]) (st := []) rfl rfl rfl (by decide) rfl (Nat.le_of_ble_eq_true rfl) (by decide) (Nat.le_of_ble_eq_true rfl) rfl ((congrFun V.1 355).trans s_355) (by decide) (C_X13_isWord V vr22 ) ?_
        rintro _ g' ⟨vr23, rfl, hrvr230, hrvr231, hgg, vq24⟩
        subst hgg
        rw [evz17] at vq24
        refine X_istore_n (i := 1) (ls' := [some (.ref 355), some (.int vr23), some (.int x2), some (.int x3), some (.int vr12), o5]) rfl rfl rfl (Nat.le_of_ble_eq_true rfl) rfl ?_
        refine X_aload_n rfl rfl rfl rfl ?_
        refine X_getI (v := vz17) rfl rfl rfl ((congrFun V.1 355).trans s_355) rfl evz17 ?_
        refine X_iconst (v := (2 : Int32)) rfl rfl rfl ?_
        refine S_icmp_ne (tgt := 72) rfl rfl rfl rfl (show (2 : Int32).toInt = 2 from rfl) (fun vh25 => ?_) (fun vh25 => ?_)
        · refine X_iconst (v := (0 : Int32)) rfl rfl rfl ?_
          refine X_istore (i := 5) (ls' := [some (.ref 355), some (.int vr23), some (.int x2), some (.int x3), some (.int vr12), some (.int (0 : Int32))]) rfl rfl (Nat.le_of_ble_eq_true rfl) rfl ?_
          refine X_iload_n rfl rfl rfl rfl ?_
          refine S_if_ne (tgt := 93) rfl rfl rfl rfl (fun vh26 => ?_) (fun vh26 => ?_)
          · refine X_iload_n rfl rfl rfl rfl ?_
            refine S_if_ne (tgt := 102) rfl rfl rfl rfl (fun vh27 => ?_) (fun q => absurd q (by omega))
            refine X_iconst (v := (1 : Int32)) rfl rfl rfl ?_
            refine LW_goto (tgt := 107) rfl rfl ?_
            refine X_istore_n (i := 3) (ls' := [some (.ref 355), some (.int vr23), some (.int x2), some (.int (1 : Int32)), some (.int vr12), some (.int (0 : Int32))]) rfl rfl rfl (Nat.le_of_ble_eq_true rfl) rfl ?_
            refine X_iload_n rfl rfl rfl rfl ?_
            refine S_if_eq (tgt := 116) rfl rfl rfl (show (1 : Int32).toInt = 1 from rfl) (fun q => absurd q (by omega)) (fun vh28 => ?_)
            refine X_aload_n rfl rfl rfl rfl ?_
            have vo355_11 : (Gi g 355 11).toInt = vz16.toInt := congrArg Int32.toInt evz16
            refine Y_callV (as := []) (st := []) rfl rfl rfl (by decide) rfl (Nat.le_of_ble_eq_true rfl) (by decide) (Nat.le_of_ble_eq_true rfl) rfl ((congrFun V.1 355).trans s_355) (by decide) (C_X13_nextToken V  (by rw [evz16] <;> omega) (by rw [evz16, evz3] <;> omega) (by rw [evz3] <;> omega)) ?_
            rintro _ g ⟨rfl, V, hq, chF, vq30, vq31, vq32, vq33, vq34, vq35⟩
            have hG := hq.trans hG
            have evz3 := (chF 355 8 (by decide)).trans evz3
            have evz6 := (chF 355 16 (by decide)).trans evz6
            have evz7 := (chF 356 4 (by decide)).trans evz7
            have evz18 := (chF 355 18 (by decide)).trans evz18
            have evz19 := (chF 355 22 (by decide)).trans evz19
            have hF := And.intro (vSm.tr chF vi_da hF.1) (vCd.oth hF.2 (fun k => chF 358 k (Or.inl (by decide))))
            obtain ⟨vz36, evz36⟩ : ∃ z, Gi g 355 12 = z := ⟨_, rfl⟩
            rw [evz36] at vq30
            rw [evz36] at vq31
            rw [evz36] at vq32
            obtain ⟨vz37, evz37⟩ : ∃ z, Gi g 355 11 = z := ⟨_, rfl⟩
            rw [evz37] at vq32
            rw [evz37] at vq33
            rw [evz3] at vq33
            rw [evz3] at vq34
            obtain ⟨vz38, evz38⟩ : ∃ z, Gi g 355 13 = z := ⟨_, rfl⟩
            rw [evz38] at vq35
            rw [evz36] at vq35
            rw [evz37] at vq35
            rw [← (funext fun k => chF 358 k (Or.inl (by decide)) : Gi g 358 = _)] at vq14
            refine LW_goto (tgt := 6) rfl rfl ?_
            exact ih6 _ V hG hF vr23 vr23.toInt rfl (by omega) x2 y2 hx2 (by omega) (1 : Int32) 1 (show (1 : Int32).toInt = 1 from rfl) (by omega) (some (.int vr12)) (some (.int (0 : Int32)))  (by rw [evz36] <;> omega) (by rw [evz36, evz37] <;> omega) (by rw [evz37, evz3] <;> omega) (by rw [evz3] <;> omega) (by rw [evz38, evz36, evz37] <;> omega) (by rw [evz6, evz7] <;> omega) (by rw [evz7] <;> omega) (by omega) (by rw [evz19] <;> omega) (by rw [evz19] <;> omega) (by rw [evz18] <;> omega) (by rw [evz18] <;> omega) (by rw [evz18, evz36] <;> omega) (by rw [evz6] <;> omega) (by rw [evz36] <;> omega) (by rw [evz36] <;> omega) (by omega) (by rw [evz6, evz18]; exact ((vq14 (by omega)).tt (by omega)))  (by rw [evz36] <;> omega)
          · refine X_iload_n rfl rfl rfl rfl ?_
            refine S_if_eq (tgt := 90) rfl rfl rfl hx2 (fun vh39 => ?_) (fun vh39 => ?_)
            · refine X_iload rfl rfl rfl ?_
              refine X_istore_n (i := 2) (ls' := [some (.ref 355), some (.int vr23), some (.int (0 : Int32)), some (.int x3), some (.int vr12), some (.int (0 : Int32))]) rfl rfl rfl (Nat.le_of_ble_eq_true rfl) rfl ?_
              refine X_iload_n rfl rfl rfl rfl ?_
              refine S_if_ne (tgt := 102) rfl rfl rfl rfl (fun q => absurd q (by omega)) (fun vh40 => ?_)
              refine X_iload rfl rfl rfl ?_
              refine S_if_eq (tgt := 106) rfl rfl rfl (show (0 : Int32).toInt = 0 from rfl) (fun vh41 => ?_) (fun q => absurd q (by omega))
              refine X_iconst (v := (0 : Int32)) rfl rfl rfl ?_
              refine X_istore_n (i := 3) (ls' := [some (.ref 355), some (.int vr23), some (.int (0 : Int32)), some (.int (0 : Int32)), some (.int vr12), some (.int (0 : Int32))]) rfl rfl rfl (Nat.le_of_ble_eq_true rfl) rfl ?_
              refine X_iload_n rfl rfl rfl rfl ?_
              refine S_if_eq (tgt := 116) rfl rfl rfl (show (0 : Int32).toInt = 0 from rfl) (fun vh42 => ?_) (fun q => absurd q (by omega))
              refine LW_goto (tgt := 6) rfl rfl ?_
              exact ih6 _ V hG hF vr23 vr23.toInt rfl (by omega) (0 : Int32) 0 (show (0 : Int32).toInt = 0 from rfl) (by omega) (0 : Int32) 0 (show (0 : Int32).toInt = 0 from rfl) (by omega) (some (.int vr12)) (some (.int (0 : Int32)))  (by rw [evz15] <;> omega) (by rw [evz15, evz16] <;> omega) (by rw [evz16, evz3] <;> omega) (by rw [evz3] <;> omega) (by rw [evz17, evz15, evz16] <;> omega) (by rw [evz6, evz7] <;> omega) (by rw [evz7] <;> omega) (by omega) (by rw [evz19] <;> omega) (by rw [evz19] <;> omega) (by rw [evz18] <;> omega) (by rw [evz18] <;> omega) (by rw [evz18, evz15] <;> omega) (by rw [evz6] <;> omega) (by rw [evz15] <;> omega) (by rw [evz15] <;> omega) (by omega) (by rw [evz6, evz18]; exact ((vq14 (by omega)).tt (by omega)))  (by rw [evz15] <;> omega)
            · refine X_aload_n rfl rfl rfl rfl ?_
              refine X_bipush (v := (22 : Int32)) rfl rfl rfl ?_
              refine X_iconst (v := (0 : Int32)) rfl rfl rfl ?_
              have vo355_18 : (Gi g 355 18).toInt = vz18.toInt := congrArg Int32.toInt evz18
              have vo355_16 : (Gi g 355 16).toInt = vz6.toInt := congrArg Int32.toInt evz6
              refine Y_callV (as := [.int (22 : Int32), .int (0 : Int32)]) (st := []) rfl rfl rfl (by decide) rfl (Nat.le_of_ble_eq_true rfl) (by decide) (Nat.le_of_ble_eq_true rfl) rfl ((congrFun V.1 355).trans s_355) (by decide) (C_X13_emit V (22 : Int32) 22 (show (22 : Int32).toInt = 22 from rfl) (0 : Int32) 0 (show (0 : Int32).toInt = 0 from rfl) (by rw [evz18] <;> omega) (by rw [evz18] <;> omega) (by rw [evz6, evz7] <;> omega) (by rw [evz7] <;> omega)) ?_
              rintro _ g ⟨rfl, V, hq, chF, vq44, vq45, vq46⟩
              have hG := hq.trans hG
              have evz3 := (chF 355 8 (by decide)).trans evz3
              have evz6 := (chF 355 16 (by decide)).trans evz6
              have evz7 := (chF 356 4 (by decide)).trans evz7
              have evz15 := (chF 355 12 (by decide)).trans evz15
              have evz16 := (chF 355 11 (by decide)).trans evz16
              have evz17 := (chF 355 13 (by decide)).trans evz17
              have evz19 := (chF 355 22 (by decide)).trans evz19
              have hF := And.intro (vSm.tr chF vi_db hF.1) (vCd.em hF.2 vq45 (by omega))
              obtain ⟨vz47, evz47⟩ : ∃ z, Gi g 355 18 = z := ⟨_, rfl⟩
              rw [evz47] at vq44
              rw [evz6] at vq46
              refine X_iload rfl rfl rfl ?_
              refine X_istore_n (i := 2) (ls' := [some (.ref 355), some (.int vr23), some (.int (0 : Int32)), some (.int x3), some (.int vr12), some (.int (0 : Int32))]) rfl rfl rfl (Nat.le_of_ble_eq_true rfl) rfl ?_
              refine X_iload_n rfl rfl rfl rfl ?_
              refine S_if_ne (tgt := 102) rfl rfl rfl rfl (fun q => absurd q (by omega)) (fun vh48 => ?_)
              refine X_iload rfl rfl rfl ?_
              refine S_if_eq (tgt := 106) rfl rfl rfl (show (0 : Int32).toInt = 0 from rfl) (fun vh49 => ?_) (fun q => absurd q (by omega))
              refine X_iconst (v := (0 : Int32)) rfl rfl rfl ?_
              refine X_istore_n (i := 3) (ls' := [some (.ref 355), some (.int vr23), some (.int (0 : Int32)), some (.int (0 : Int32)), some (.int vr12), some (.int (0 : Int32))]) rfl rfl rfl (Nat.le_of_ble_eq_true rfl) rfl ?_
              refine X_iload_n rfl rfl rfl rfl ?_
              refine S_if_eq (tgt := 116) rfl rfl rfl (show (0 : Int32).toInt = 0 from rfl) (fun vh50 => ?_) (fun q => absurd q (by omega))
              refine LW_goto (tgt := 6) rfl rfl ?_
              exact ih6 _ V hG hF vr23 vr23.toInt rfl (by omega) (0 : Int32) 0 (show (0 : Int32).toInt = 0 from rfl) (by omega) (0 : Int32) 0 (show (0 : Int32).toInt = 0 from rfl) (by omega) (some (.int vr12)) (some (.int (0 : Int32)))  (by rw [evz15] <;> omega) (by rw [evz15, evz16] <;> omega) (by rw [evz16, evz3] <;> omega) (by rw [evz3] <;> omega) (by rw [evz17, evz15, evz16] <;> omega) (by rw [evz6, evz7] <;> omega) (by rw [evz7] <;> omega) (by omega) (by rw [evz19] <;> omega) (by rw [evz19] <;> omega) (by rw [evz47] <;> omega) (by rw [evz47] <;> omega) (by rw [evz47, evz15] <;> omega) (by rw [evz6] <;> omega) (by rw [evz15] <;> omega) (by rw [evz15] <;> omega) (by omega) (by rw [evz6, evz47]; exact (((vq14 (by omega)).jn (wrb := vz47.toInt) vq45 (by omega) (by decide) (by omega) (by omega) (by omega)).tt (by omega)))  (by rw [evz15] <;> omega)
        · refine X_aload_n rfl rfl rfl rfl ?_
          refine S_getJ rfl rfl rfl ((congrFun V.1 355).trans s_355) rfl (fun vz51 => ?_)
          refine X_ldc2 (v := (28530 : Int64)) rfl rfl rfl ?_
          refine S_lcmp rfl rfl (fun vz52 hvz52 => ?_)
          refine S_if_ne (tgt := 72) rfl rfl rfl rfl (fun vh53 => ?_) (fun vh53 => ?_)
          · refine X_iconst (v := (0 : Int32)) rfl rfl rfl ?_
            refine X_istore (i := 5) (ls' := [some (.ref 355), some (.int vr23), some (.int x2), some (.int x3), some (.int vr12), some (.int (0 : Int32))]) rfl rfl (Nat.le_of_ble_eq_true rfl) rfl ?_
            refine X_iload_n rfl rfl rfl rfl ?_
            refine S_if_ne (tgt := 93) rfl rfl rfl rfl (fun vh54 => ?_) (fun vh54 => ?_)
            · refine X_iload_n rfl rfl rfl rfl ?_
              refine S_if_ne (tgt := 102) rfl rfl rfl rfl (fun vh55 => ?_) (fun q => absurd q (by omega))
              refine X_iconst (v := (1 : Int32)) rfl rfl rfl ?_
              refine LW_goto (tgt := 107) rfl rfl ?_
              refine X_istore_n (i := 3) (ls' := [some (.ref 355), some (.int vr23), some (.int x2), some (.int (1 : Int32)), some (.int vr12), some (.int (0 : Int32))]) rfl rfl rfl (Nat.le_of_ble_eq_true rfl) rfl ?_
              refine X_iload_n rfl rfl rfl rfl ?_
              refine S_if_eq (tgt := 116) rfl rfl rfl (show (1 : Int32).toInt = 1 from rfl) (fun q => absurd q (by omega)) (fun vh56 => ?_)
              refine X_aload_n rfl rfl rfl rfl ?_
              have vo355_11 : (Gi g 355 11).toInt = vz16.toInt := congrArg Int32.toInt evz16
              refine Y_callV (as := []) (st := []) rfl rfl rfl (by decide) rfl (Nat.le_of_ble_eq_true rfl) (by decide) (Nat.le_of_ble_eq_true rfl) rfl ((congrFun V.1 355).trans s_355) (by decide) (C_X13_nextToken V  (by rw [evz16] <;> omega) (by rw [evz16, evz3] <;> omega) (by rw [evz3] <;> omega)) ?_
              rintro _ g ⟨rfl, V, hq, chF, vq58, vq59, vq60, vq61, vq62, vq63⟩
              have hG := hq.trans hG
              have evz3 := (chF 355 8 (by decide)).trans evz3
              have evz6 := (chF 355 16 (by decide)).trans evz6
              have evz7 := (chF 356 4 (by decide)).trans evz7
              have evz18 := (chF 355 18 (by decide)).trans evz18
              have evz19 := (chF 355 22 (by decide)).trans evz19
              have hF := And.intro (vSm.tr chF vi_da hF.1) (vCd.oth hF.2 (fun k => chF 358 k (Or.inl (by decide))))
              obtain ⟨vz64, evz64⟩ : ∃ z, Gi g 355 12 = z := ⟨_, rfl⟩
              rw [evz64] at vq58
              rw [evz64] at vq59
              rw [evz64] at vq60
              obtain ⟨vz65, evz65⟩ : ∃ z, Gi g 355 11 = z := ⟨_, rfl⟩
              rw [evz65] at vq60
              rw [evz65] at vq61
              rw [evz3] at vq61
              rw [evz3] at vq62
              obtain ⟨vz66, evz66⟩ : ∃ z, Gi g 355 13 = z := ⟨_, rfl⟩
              rw [evz66] at vq63
              rw [evz64] at vq63
              rw [evz65] at vq63
              rw [← (funext fun k => chF 358 k (Or.inl (by decide)) : Gi g 358 = _)] at vq14
              refine LW_goto (tgt := 6) rfl rfl ?_
              exact ih6 _ V hG hF vr23 vr23.toInt rfl (by omega) x2 y2 hx2 (by omega) (1 : Int32) 1 (show (1 : Int32).toInt = 1 from rfl) (by omega) (some (.int vr12)) (some (.int (0 : Int32)))  (by rw [evz64] <;> omega) (by rw [evz64, evz65] <;> omega) (by rw [evz65, evz3] <;> omega) (by rw [evz3] <;> omega) (by rw [evz66, evz64, evz65] <;> omega) (by rw [evz6, evz7] <;> omega) (by rw [evz7] <;> omega) (by omega) (by rw [evz19] <;> omega) (by rw [evz19] <;> omega) (by rw [evz18] <;> omega) (by rw [evz18] <;> omega) (by rw [evz18, evz64] <;> omega) (by rw [evz6] <;> omega) (by rw [evz64] <;> omega) (by rw [evz64] <;> omega) (by omega) (by rw [evz6, evz18]; exact ((vq14 (by omega)).tt (by omega)))  (by rw [evz64] <;> omega)
            · refine X_iload_n rfl rfl rfl rfl ?_
              refine S_if_eq (tgt := 90) rfl rfl rfl hx2 (fun vh67 => ?_) (fun vh67 => ?_)
              · refine X_iload rfl rfl rfl ?_
                refine X_istore_n (i := 2) (ls' := [some (.ref 355), some (.int vr23), some (.int (0 : Int32)), some (.int x3), some (.int vr12), some (.int (0 : Int32))]) rfl rfl rfl (Nat.le_of_ble_eq_true rfl) rfl ?_
                refine X_iload_n rfl rfl rfl rfl ?_
                refine S_if_ne (tgt := 102) rfl rfl rfl rfl (fun q => absurd q (by omega)) (fun vh68 => ?_)
                refine X_iload rfl rfl rfl ?_
                refine S_if_eq (tgt := 106) rfl rfl rfl (show (0 : Int32).toInt = 0 from rfl) (fun vh69 => ?_) (fun q => absurd q (by omega))
                refine X_iconst (v := (0 : Int32)) rfl rfl rfl ?_
                refine X_istore_n (i := 3) (ls' := [some (.ref 355), some (.int vr23), some (.int (0 : Int32)), some (.int (0 : Int32)), some (.int vr12), some (.int (0 : Int32))]) rfl rfl rfl (Nat.le_of_ble_eq_true rfl) rfl ?_
                refine X_iload_n rfl rfl rfl rfl ?_
                refine S_if_eq (tgt := 116) rfl rfl rfl (show (0 : Int32).toInt = 0 from rfl) (fun vh70 => ?_) (fun q => absurd q (by omega))
                refine LW_goto (tgt := 6) rfl rfl ?_
                exact ih6 _ V hG hF vr23 vr23.toInt rfl (by omega) (0 : Int32) 0 (show (0 : Int32).toInt = 0 from rfl) (by omega) (0 : Int32) 0 (show (0 : Int32).toInt = 0 from rfl) (by omega) (some (.int vr12)) (some (.int (0 : Int32)))  (by rw [evz15] <;> omega) (by rw [evz15, evz16] <;> omega) (by rw [evz16, evz3] <;> omega) (by rw [evz3] <;> omega) (by rw [evz17, evz15, evz16] <;> omega) (by rw [evz6, evz7] <;> omega) (by rw [evz7] <;> omega) (by omega) (by rw [evz19] <;> omega) (by rw [evz19] <;> omega) (by rw [evz18] <;> omega) (by rw [evz18] <;> omega) (by rw [evz18, evz15] <;> omega) (by rw [evz6] <;> omega) (by rw [evz15] <;> omega) (by rw [evz15] <;> omega) (by omega) (by rw [evz6, evz18]; exact ((vq14 (by omega)).tt (by omega)))  (by rw [evz15] <;> omega)
              · refine X_aload_n rfl rfl rfl rfl ?_
                refine X_bipush (v := (22 : Int32)) rfl rfl rfl ?_
                refine X_iconst (v := (0 : Int32)) rfl rfl rfl ?_
                have vo355_18 : (Gi g 355 18).toInt = vz18.toInt := congrArg Int32.toInt evz18
                have vo355_16 : (Gi g 355 16).toInt = vz6.toInt := congrArg Int32.toInt evz6
                refine Y_callV (as := [.int (22 : Int32), .int (0 : Int32)]) (st := []) rfl rfl rfl (by decide) rfl (Nat.le_of_ble_eq_true rfl) (by decide) (Nat.le_of_ble_eq_true rfl) rfl ((congrFun V.1 355).trans s_355) (by decide) (C_X13_emit V (22 : Int32) 22 (show (22 : Int32).toInt = 22 from rfl) (0 : Int32) 0 (show (0 : Int32).toInt = 0 from rfl) (by rw [evz18] <;> omega) (by rw [evz18] <;> omega) (by rw [evz6, evz7] <;> omega) (by rw [evz7] <;> omega)) ?_
                rintro _ g ⟨rfl, V, hq, chF, vq72, vq73, vq74⟩
                have hG := hq.trans hG
                have evz3 := (chF 355 8 (by decide)).trans evz3
                have evz6 := (chF 355 16 (by decide)).trans evz6
                have evz7 := (chF 356 4 (by decide)).trans evz7
                have evz15 := (chF 355 12 (by decide)).trans evz15
                have evz16 := (chF 355 11 (by decide)).trans evz16
                have evz17 := (chF 355 13 (by decide)).trans evz17
                have evz19 := (chF 355 22 (by decide)).trans evz19
                have hF := And.intro (vSm.tr chF vi_db hF.1) (vCd.em hF.2 vq73 (by omega))
                obtain ⟨vz75, evz75⟩ : ∃ z, Gi g 355 18 = z := ⟨_, rfl⟩
                rw [evz75] at vq72
                rw [evz6] at vq74
                refine X_iload rfl rfl rfl ?_
                refine X_istore_n (i := 2) (ls' := [some (.ref 355), some (.int vr23), some (.int (0 : Int32)), some (.int x3), some (.int vr12), some (.int (0 : Int32))]) rfl rfl rfl (Nat.le_of_ble_eq_true rfl) rfl ?_
                refine X_iload_n rfl rfl rfl rfl ?_
                refine S_if_ne (tgt := 102) rfl rfl rfl rfl (fun q => absurd q (by omega)) (fun vh76 => ?_)
                refine X_iload rfl rfl rfl ?_
                refine S_if_eq (tgt := 106) rfl rfl rfl (show (0 : Int32).toInt = 0 from rfl) (fun vh77 => ?_) (fun q => absurd q (by omega))
                refine X_iconst (v := (0 : Int32)) rfl rfl rfl ?_
                refine X_istore_n (i := 3) (ls' := [some (.ref 355), some (.int vr23), some (.int (0 : Int32)), some (.int (0 : Int32)), some (.int vr12), some (.int (0 : Int32))]) rfl rfl rfl (Nat.le_of_ble_eq_true rfl) rfl ?_
                refine X_iload_n rfl rfl rfl rfl ?_
                refine S_if_eq (tgt := 116) rfl rfl rfl (show (0 : Int32).toInt = 0 from rfl) (fun vh78 => ?_) (fun q => absurd q (by omega))
                refine LW_goto (tgt := 6) rfl rfl ?_
                exact ih6 _ V hG hF vr23 vr23.toInt rfl (by omega) (0 : Int32) 0 (show (0 : Int32).toInt = 0 from rfl) (by omega) (0 : Int32) 0 (show (0 : Int32).toInt = 0 from rfl) (by omega) (some (.int vr12)) (some (.int (0 : Int32)))  (by rw [evz15] <;> omega) (by rw [evz15, evz16] <;> omega) (by rw [evz16, evz3] <;> omega) (by rw [evz3] <;> omega) (by rw [evz17, evz15, evz16] <;> omega) (by rw [evz6, evz7] <;> omega) (by rw [evz7] <;> omega) (by omega) (by rw [evz19] <;> omega) (by rw [evz19] <;> omega) (by rw [evz75] <;> omega) (by rw [evz75] <;> omega) (by rw [evz75, evz15] <;> omega) (by rw [evz6] <;> omega) (by rw [evz15] <;> omega) (by rw [evz15] <;> omega) (by omega) (by rw [evz6, evz75]; exact (((vq14 (by omega)).jn (wrb := vz75.toInt) vq73 (by omega) (by decide) (by omega) (by omega) (by omega)).tt (by omega)))  (by rw [evz15] <;> omega)
          · refine X_iconst (v := (1 : Int32)) rfl rfl rfl ?_
            refine LW_goto (tgt := 73) rfl rfl ?_
            refine X_istore (i := 5) (ls' := [some (.ref 355), some (.int vr23), some (.int x2), some (.int x3), some (.int vr12), some (.int (1 : Int32))]) rfl rfl (Nat.le_of_ble_eq_true rfl) rfl ?_
            refine X_iload_n rfl rfl rfl rfl ?_
            refine S_if_ne (tgt := 93) rfl rfl rfl rfl (fun vh79 => ?_) (fun vh79 => ?_)
            · refine X_iload_n rfl rfl rfl rfl ?_
              refine S_if_ne (tgt := 102) rfl rfl rfl rfl (fun vh80 => ?_) (fun q => absurd q (by omega))
              refine X_iconst (v := (1 : Int32)) rfl rfl rfl ?_
              refine LW_goto (tgt := 107) rfl rfl ?_
              refine X_istore_n (i := 3) (ls' := [some (.ref 355), some (.int vr23), some (.int x2), some (.int (1 : Int32)), some (.int vr12), some (.int (1 : Int32))]) rfl rfl rfl (Nat.le_of_ble_eq_true rfl) rfl ?_
              refine X_iload_n rfl rfl rfl rfl ?_
              refine S_if_eq (tgt := 116) rfl rfl rfl (show (1 : Int32).toInt = 1 from rfl) (fun q => absurd q (by omega)) (fun vh81 => ?_)
              refine X_aload_n rfl rfl rfl rfl ?_
              have vo355_11 : (Gi g 355 11).toInt = vz16.toInt := congrArg Int32.toInt evz16
              refine Y_callV (as := []) (st := []) rfl rfl rfl (by decide) rfl (Nat.le_of_ble_eq_true rfl) (by decide) (Nat.le_of_ble_eq_true rfl) rfl ((congrFun V.1 355).trans s_355) (by decide) (C_X13_nextToken V  (by rw [evz16] <;> omega) (by rw [evz16, evz3] <;> omega) (by rw [evz3] <;> omega)) ?_
              rintro _ g ⟨rfl, V, hq, chF, vq83, vq84, vq85, vq86, vq87, vq88⟩
              have hG := hq.trans hG
              have evz3 := (chF 355 8 (by decide)).trans evz3
              have evz6 := (chF 355 16 (by decide)).trans evz6
              have evz7 := (chF 356 4 (by decide)).trans evz7
              have evz18 := (chF 355 18 (by decide)).trans evz18
              have evz19 := (chF 355 22 (by decide)).trans evz19
              have hF := And.intro (vSm.tr chF vi_da hF.1) (vCd.oth hF.2 (fun k => chF 358 k (Or.inl (by decide))))
              obtain ⟨vz89, evz89⟩ : ∃ z, Gi g 355 12 = z := ⟨_, rfl⟩
              rw [evz89] at vq83
              rw [evz89] at vq84
              rw [evz89] at vq85
              obtain ⟨vz90, evz90⟩ : ∃ z, Gi g 355 11 = z := ⟨_, rfl⟩
              rw [evz90] at vq85
              rw [evz90] at vq86
              rw [evz3] at vq86
              rw [evz3] at vq87
              obtain ⟨vz91, evz91⟩ : ∃ z, Gi g 355 13 = z := ⟨_, rfl⟩
              rw [evz91] at vq88
              rw [evz89] at vq88
              rw [evz90] at vq88
              rw [← (funext fun k => chF 358 k (Or.inl (by decide)) : Gi g 358 = _)] at vq14
              refine LW_goto (tgt := 6) rfl rfl ?_
              exact ih6 _ V hG hF vr23 vr23.toInt rfl (by omega) x2 y2 hx2 (by omega) (1 : Int32) 1 (show (1 : Int32).toInt = 1 from rfl) (by omega) (some (.int vr12)) (some (.int (1 : Int32)))  (by rw [evz89] <;> omega) (by rw [evz89, evz90] <;> omega) (by rw [evz90, evz3] <;> omega) (by rw [evz3] <;> omega) (by rw [evz91, evz89, evz90] <;> omega) (by rw [evz6, evz7] <;> omega) (by rw [evz7] <;> omega) (by omega) (by rw [evz19] <;> omega) (by rw [evz19] <;> omega) (by rw [evz18] <;> omega) (by rw [evz18] <;> omega) (by rw [evz18, evz89] <;> omega) (by rw [evz6] <;> omega) (by rw [evz89] <;> omega) (by rw [evz89] <;> omega) (by omega) (by rw [evz6, evz18]; exact ((vq14 (by omega)).tt (by omega)))  (by rw [evz89] <;> omega)
            · refine X_iload_n rfl rfl rfl rfl ?_
              refine S_if_eq (tgt := 90) rfl rfl rfl hx2 (fun vh92 => ?_) (fun vh92 => ?_)
              · refine X_iload rfl rfl rfl ?_
                refine X_istore_n (i := 2) (ls' := [some (.ref 355), some (.int vr23), some (.int (1 : Int32)), some (.int x3), some (.int vr12), some (.int (1 : Int32))]) rfl rfl rfl (Nat.le_of_ble_eq_true rfl) rfl ?_
                refine X_iload_n rfl rfl rfl rfl ?_
                refine S_if_ne (tgt := 102) rfl rfl rfl rfl (fun q => absurd q (by omega)) (fun vh93 => ?_)
                refine X_iload rfl rfl rfl ?_
                refine S_if_eq (tgt := 106) rfl rfl rfl (show (1 : Int32).toInt = 1 from rfl) (fun q => absurd q (by omega)) (fun vh94 => ?_)
                refine X_iconst (v := (1 : Int32)) rfl rfl rfl ?_
                refine LW_goto (tgt := 107) rfl rfl ?_
                refine X_istore_n (i := 3) (ls' := [some (.ref 355), some (.int vr23), some (.int (1 : Int32)), some (.int (1 : Int32)), some (.int vr12), some (.int (1 : Int32))]) rfl rfl rfl (Nat.le_of_ble_eq_true rfl) rfl ?_
                refine X_iload_n rfl rfl rfl rfl ?_
                refine S_if_eq (tgt := 116) rfl rfl rfl (show (1 : Int32).toInt = 1 from rfl) (fun q => absurd q (by omega)) (fun vh95 => ?_)
                refine X_aload_n rfl rfl rfl rfl ?_
                have vo355_11 : (Gi g 355 11).toInt = vz16.toInt := congrArg Int32.toInt evz16
                refine Y_callV (as := []) (st := []) rfl rfl rfl (by decide) rfl (Nat.le_of_ble_eq_true rfl) (by decide) (Nat.le_of_ble_eq_true rfl) rfl ((congrFun V.1 355).trans s_355) (by decide) (C_X13_nextToken V  (by rw [evz16] <;> omega) (by rw [evz16, evz3] <;> omega) (by rw [evz3] <;> omega)) ?_
                rintro _ g ⟨rfl, V, hq, chF, vq97, vq98, vq99, vq100, vq101, vq102⟩
                have hG := hq.trans hG
                have evz3 := (chF 355 8 (by decide)).trans evz3
                have evz6 := (chF 355 16 (by decide)).trans evz6
                have evz7 := (chF 356 4 (by decide)).trans evz7
                have evz18 := (chF 355 18 (by decide)).trans evz18
                have evz19 := (chF 355 22 (by decide)).trans evz19
                have hF := And.intro (vSm.tr chF vi_da hF.1) (vCd.oth hF.2 (fun k => chF 358 k (Or.inl (by decide))))
                obtain ⟨vz103, evz103⟩ : ∃ z, Gi g 355 12 = z := ⟨_, rfl⟩
                rw [evz103] at vq97
                rw [evz103] at vq98
                rw [evz103] at vq99
                obtain ⟨vz104, evz104⟩ : ∃ z, Gi g 355 11 = z := ⟨_, rfl⟩
                rw [evz104] at vq99
                rw [evz104] at vq100
                rw [evz3] at vq100
                rw [evz3] at vq101
                obtain ⟨vz105, evz105⟩ : ∃ z, Gi g 355 13 = z := ⟨_, rfl⟩
                rw [evz105] at vq102
                rw [evz103] at vq102
                rw [evz104] at vq102
                rw [← (funext fun k => chF 358 k (Or.inl (by decide)) : Gi g 358 = _)] at vq14
                refine LW_goto (tgt := 6) rfl rfl ?_
                exact ih6 _ V hG hF vr23 vr23.toInt rfl (by omega) (1 : Int32) 1 (show (1 : Int32).toInt = 1 from rfl) (by omega) (1 : Int32) 1 (show (1 : Int32).toInt = 1 from rfl) (by omega) (some (.int vr12)) (some (.int (1 : Int32)))  (by rw [evz103] <;> omega) (by rw [evz103, evz104] <;> omega) (by rw [evz104, evz3] <;> omega) (by rw [evz3] <;> omega) (by rw [evz105, evz103, evz104] <;> omega) (by rw [evz6, evz7] <;> omega) (by rw [evz7] <;> omega) (by omega) (by rw [evz19] <;> omega) (by rw [evz19] <;> omega) (by rw [evz18] <;> omega) (by rw [evz18] <;> omega) (by rw [evz18, evz103] <;> omega) (by rw [evz6] <;> omega) (by rw [evz103] <;> omega) (by rw [evz103] <;> omega) (by omega) (by rw [evz6, evz18]; exact ((vq14 (by omega)).tt (by omega)))  (by rw [evz103] <;> omega)
              · refine X_aload_n rfl rfl rfl rfl ?_
                refine X_bipush (v := (22 : Int32)) rfl rfl rfl ?_
                refine X_iconst (v := (0 : Int32)) rfl rfl rfl ?_
                have vo355_18 : (Gi g 355 18).toInt = vz18.toInt := congrArg Int32.toInt evz18
                have vo355_16 : (Gi g 355 16).toInt = vz6.toInt := congrArg Int32.toInt evz6
                refine Y_callV (as := [.int (22 : Int32), .int (0 : Int32)]) (st := []) rfl rfl rfl (by decide) rfl (Nat.le_of_ble_eq_true rfl) (by decide) (Nat.le_of_ble_eq_true rfl) rfl ((congrFun V.1 355).trans s_355) (by decide) (C_X13_emit V (22 : Int32) 22 (show (22 : Int32).toInt = 22 from rfl) (0 : Int32) 0 (show (0 : Int32).toInt = 0 from rfl) (by rw [evz18] <;> omega) (by rw [evz18] <;> omega) (by rw [evz6, evz7] <;> omega) (by rw [evz7] <;> omega)) ?_
                rintro _ g ⟨rfl, V, hq, chF, vq107, vq108, vq109⟩
                have hG := hq.trans hG
                have evz3 := (chF 355 8 (by decide)).trans evz3
                have evz6 := (chF 355 16 (by decide)).trans evz6
                have evz7 := (chF 356 4 (by decide)).trans evz7
                have evz15 := (chF 355 12 (by decide)).trans evz15
                have evz16 := (chF 355 11 (by decide)).trans evz16
                have evz17 := (chF 355 13 (by decide)).trans evz17
                have evz19 := (chF 355 22 (by decide)).trans evz19
                have hF := And.intro (vSm.tr chF vi_db hF.1) (vCd.em hF.2 vq108 (by omega))
                obtain ⟨vz110, evz110⟩ : ∃ z, Gi g 355 18 = z := ⟨_, rfl⟩
                rw [evz110] at vq107
                rw [evz6] at vq109
                refine X_iload rfl rfl rfl ?_
                refine X_istore_n (i := 2) (ls' := [some (.ref 355), some (.int vr23), some (.int (1 : Int32)), some (.int x3), some (.int vr12), some (.int (1 : Int32))]) rfl rfl rfl (Nat.le_of_ble_eq_true rfl) rfl ?_
                refine X_iload_n rfl rfl rfl rfl ?_
                refine S_if_ne (tgt := 102) rfl rfl rfl rfl (fun q => absurd q (by omega)) (fun vh111 => ?_)
                refine X_iload rfl rfl rfl ?_
                refine S_if_eq (tgt := 106) rfl rfl rfl (show (1 : Int32).toInt = 1 from rfl) (fun q => absurd q (by omega)) (fun vh112 => ?_)
                refine X_iconst (v := (1 : Int32)) rfl rfl rfl ?_
                refine LW_goto (tgt := 107) rfl rfl ?_
                refine X_istore_n (i := 3) (ls' := [some (.ref 355), some (.int vr23), some (.int (1 : Int32)), some (.int (1 : Int32)), some (.int vr12), some (.int (1 : Int32))]) rfl rfl rfl (Nat.le_of_ble_eq_true rfl) rfl ?_
                refine X_iload_n rfl rfl rfl rfl ?_
                refine S_if_eq (tgt := 116) rfl rfl rfl (show (1 : Int32).toInt = 1 from rfl) (fun q => absurd q (by omega)) (fun vh113 => ?_)
                refine X_aload_n rfl rfl rfl rfl ?_
                have vo355_11 : (Gi g 355 11).toInt = vz16.toInt := congrArg Int32.toInt evz16
                refine Y_callV (as := []) (st := []) rfl rfl rfl (by decide) rfl (Nat.le_of_ble_eq_true rfl) (by decide) (Nat.le_of_ble_eq_true rfl) rfl ((congrFun V.1 355).trans s_355) (by decide) (C_X13_nextToken V  (by rw [evz16] <;> omega) (by rw [evz16, evz3] <;> omega) (by rw [evz3] <;> omega)) ?_
                rintro _ g ⟨rfl, V, hq, chF, vq115, vq116, vq117, vq118, vq119, vq120⟩
                have hG := hq.trans hG
                have evz3 := (chF 355 8 (by decide)).trans evz3
                have evz6 := (chF 355 16 (by decide)).trans evz6
                have evz7 := (chF 356 4 (by decide)).trans evz7
                have evz19 := (chF 355 22 (by decide)).trans evz19
                have evz110 := (chF 355 18 (by decide)).trans evz110
                have hF := And.intro (vSm.tr chF vi_da hF.1) (vCd.oth hF.2 (fun k => chF 358 k (Or.inl (by decide))))
                obtain ⟨vz121, evz121⟩ : ∃ z, Gi g 355 12 = z := ⟨_, rfl⟩
                rw [evz121] at vq115
                rw [evz121] at vq116
                rw [evz121] at vq117
                obtain ⟨vz122, evz122⟩ : ∃ z, Gi g 355 11 = z := ⟨_, rfl⟩
                rw [evz122] at vq117
                rw [evz122] at vq118
                rw [evz3] at vq118
                rw [evz3] at vq119
                obtain ⟨vz123, evz123⟩ : ∃ z, Gi g 355 13 = z := ⟨_, rfl⟩
                rw [evz123] at vq120
                rw [evz121] at vq120
                rw [evz122] at vq120
                rw [← (funext fun k => chF 358 k (Or.inl (by decide)) : Gi g 358 = _)] at vq108
                refine LW_goto (tgt := 6) rfl rfl ?_
                exact ih6 _ V hG hF vr23 vr23.toInt rfl (by omega) (1 : Int32) 1 (show (1 : Int32).toInt = 1 from rfl) (by omega) (1 : Int32) 1 (show (1 : Int32).toInt = 1 from rfl) (by omega) (some (.int vr12)) (some (.int (1 : Int32)))  (by rw [evz121] <;> omega) (by rw [evz121, evz122] <;> omega) (by rw [evz122, evz3] <;> omega) (by rw [evz3] <;> omega) (by rw [evz123, evz121, evz122] <;> omega) (by rw [evz6, evz7] <;> omega) (by rw [evz7] <;> omega) (by omega) (by rw [evz19] <;> omega) (by rw [evz19] <;> omega) (by rw [evz110] <;> omega) (by rw [evz110] <;> omega) (by rw [evz110, evz121] <;> omega) (by rw [evz6] <;> omega) (by rw [evz121] <;> omega) (by rw [evz121] <;> omega) (by omega) (by rw [evz6, evz110]; exact (((vq14 (by omega)).jn (wrb := vz110.toInt) vq108 (by omega) (by decide) (by omega) (by omega) (by omega)).tt (by omega)))  (by rw [evz121] <;> omega)
      · refine X_aload_n rfl rfl rfl rfl ?_
        refine X_bipush (v := (21 : Int32)) rfl rfl rfl ?_
        refine X_iconst (v := (0 : Int32)) rfl rfl rfl ?_
        have vo355_18 : (Gi g 355 18).toInt = vz18.toInt := congrArg Int32.toInt evz18
        have vo355_16 : (Gi g 355 16).toInt = vz6.toInt := congrArg Int32.toInt evz6
        refine Y_callV (as := [.int (21 : Int32), .int (0 : Int32)]) (st := []) rfl rfl rfl (by decide) rfl (Nat.le_of_ble_eq_true rfl) (by decide) (Nat.le_of_ble_eq_true rfl) rfl ((congrFun V.1 355).trans s_355) (by decide) (C_X13_emit V (21 : Int32) 21 (show (21 : Int32).toInt = 21 from rfl) (0 : Int32) 0 (show (0 : Int32).toInt = 0 from rfl) (by rw [evz18] <;> omega) (by rw [evz18] <;> omega) (by rw [evz6, evz7] <;> omega) (by rw [evz7] <;> omega)) ?_
        rintro _ g ⟨rfl, V, hq, chF, vq125, vq126, vq127⟩
        have hG := hq.trans hG
        have evz3 := (chF 355 8 (by decide)).trans evz3
        have evz6 := (chF 355 16 (by decide)).trans evz6
        have evz7 := (chF 356 4 (by decide)).trans evz7
        have evz15 := (chF 355 12 (by decide)).trans evz15
        have evz16 := (chF 355 11 (by decide)).trans evz16
        have evz17 := (chF 355 13 (by decide)).trans evz17
        have evz19 := (chF 355 22 (by decide)).trans evz19
        have hF := And.intro (vSm.tr chF vi_db hF.1) (vCd.em hF.2 vq126 (by omega))
        obtain ⟨vz128, evz128⟩ : ∃ z, Gi g 355 18 = z := ⟨_, rfl⟩
        rw [evz128] at vq125
        rw [evz6] at vq127
        refine X_aload_n rfl rfl rfl rfl ?_
        refine X_bipush (v := (97 : Int32)) rfl rfl rfl ?_
        refine X_bipush (v := (110 : Int32)) rfl rfl rfl ?_
        refine X_bipush (v := (100 : Int32)) rfl rfl rfl ?_
        refine Y_callS (as := [.int (97 : Int32), .int (110 : Int32), .int (100 : Int32)]) (st := [.ref 355]) rfl rfl rfl (by decide) rfl (Nat.le_of_ble_eq_true rfl) (by decide) (Nat.le_of_ble_eq_true rfl) rfl (C_X13_w3 V (97 : Int32) 97 (show (97 : Int32).toInt = 97 from rfl) (110 : Int32) 110 (show (110 : Int32).toInt = 110 from rfl) (100 : Int32) 100 (show (100 : Int32).toInt = 100 from rfl) ) ?_
        rintro _ g' ⟨vr129, rfl, hgg⟩
        subst hgg
        refine Y_callV (as := [.long vr129]) (st := []) rfl rfl rfl (by decide) rfl (Nat.le_of_ble_eq_true rfl) (by decide) (Nat.le_of_ble_eq_true rfl) rfl ((congrFun V.1 355).trans s_355) (by decide) (C_X13_isWord V vr129 ) ?_
        rintro _ g' ⟨vr130, rfl, hrvr1300, hrvr1301, hgg, vq131⟩
        subst hgg
        rw [evz17] at vq131
        refine X_istore_n (i := 1) (ls' := [some (.ref 355), some (.int vr130), some (.int x2), some (.int x3), some (.int vr12), o5]) rfl rfl rfl (Nat.le_of_ble_eq_true rfl) rfl ?_
        refine X_aload_n rfl rfl rfl rfl ?_
        refine X_getI (v := vz17) rfl rfl rfl ((congrFun V.1 355).trans s_355) rfl evz17 ?_
        refine X_iconst (v := (2 : Int32)) rfl rfl rfl ?_
        refine S_icmp_ne (tgt := 72) rfl rfl rfl rfl (show (2 : Int32).toInt = 2 from rfl) (fun vh132 => ?_) (fun vh132 => ?_)
        · refine X_iconst (v := (0 : Int32)) rfl rfl rfl ?_
          refine X_istore (i := 5) (ls' := [some (.ref 355), some (.int vr130), some (.int x2), some (.int x3), some (.int vr12), some (.int (0 : Int32))]) rfl rfl (Nat.le_of_ble_eq_true rfl) rfl ?_
          refine X_iload_n rfl rfl rfl rfl ?_
          refine S_if_ne (tgt := 93) rfl rfl rfl rfl (fun vh133 => ?_) (fun vh133 => ?_)
          · refine X_iload_n rfl rfl rfl rfl ?_
            refine S_if_ne (tgt := 102) rfl rfl rfl rfl (fun vh134 => ?_) (fun q => absurd q (by omega))
            refine X_iconst (v := (1 : Int32)) rfl rfl rfl ?_
            refine LW_goto (tgt := 107) rfl rfl ?_
            refine X_istore_n (i := 3) (ls' := [some (.ref 355), some (.int vr130), some (.int x2), some (.int (1 : Int32)), some (.int vr12), some (.int (0 : Int32))]) rfl rfl rfl (Nat.le_of_ble_eq_true rfl) rfl ?_
            refine X_iload_n rfl rfl rfl rfl ?_
            refine S_if_eq (tgt := 116) rfl rfl rfl (show (1 : Int32).toInt = 1 from rfl) (fun q => absurd q (by omega)) (fun vh135 => ?_)
            refine X_aload_n rfl rfl rfl rfl ?_
            have vo355_11 : (Gi g 355 11).toInt = vz16.toInt := congrArg Int32.toInt evz16
            refine Y_callV (as := []) (st := []) rfl rfl rfl (by decide) rfl (Nat.le_of_ble_eq_true rfl) (by decide) (Nat.le_of_ble_eq_true rfl) rfl ((congrFun V.1 355).trans s_355) (by decide) (C_X13_nextToken V  (by rw [evz16] <;> omega) (by rw [evz16, evz3] <;> omega) (by rw [evz3] <;> omega)) ?_
            rintro _ g ⟨rfl, V, hq, chF, vq137, vq138, vq139, vq140, vq141, vq142⟩
            have hG := hq.trans hG
            have evz3 := (chF 355 8 (by decide)).trans evz3
            have evz6 := (chF 355 16 (by decide)).trans evz6
            have evz7 := (chF 356 4 (by decide)).trans evz7
            have evz19 := (chF 355 22 (by decide)).trans evz19
            have evz128 := (chF 355 18 (by decide)).trans evz128
            have hF := And.intro (vSm.tr chF vi_da hF.1) (vCd.oth hF.2 (fun k => chF 358 k (Or.inl (by decide))))
            obtain ⟨vz143, evz143⟩ : ∃ z, Gi g 355 12 = z := ⟨_, rfl⟩
            rw [evz143] at vq137
            rw [evz143] at vq138
            rw [evz143] at vq139
            obtain ⟨vz144, evz144⟩ : ∃ z, Gi g 355 11 = z := ⟨_, rfl⟩
            rw [evz144] at vq139
            rw [evz144] at vq140
            rw [evz3] at vq140
            rw [evz3] at vq141
            obtain ⟨vz145, evz145⟩ : ∃ z, Gi g 355 13 = z := ⟨_, rfl⟩
            rw [evz145] at vq142
            rw [evz143] at vq142
            rw [evz144] at vq142
            rw [← (funext fun k => chF 358 k (Or.inl (by decide)) : Gi g 358 = _)] at vq126
            refine LW_goto (tgt := 6) rfl rfl ?_
            exact ih6 _ V hG hF vr130 vr130.toInt rfl (by omega) x2 y2 hx2 (by omega) (1 : Int32) 1 (show (1 : Int32).toInt = 1 from rfl) (by omega) (some (.int vr12)) (some (.int (0 : Int32)))  (by rw [evz143] <;> omega) (by rw [evz143, evz144] <;> omega) (by rw [evz144, evz3] <;> omega) (by rw [evz3] <;> omega) (by rw [evz145, evz143, evz144] <;> omega) (by rw [evz6, evz7] <;> omega) (by rw [evz7] <;> omega) (by omega) (by rw [evz19] <;> omega) (by rw [evz19] <;> omega) (by rw [evz128] <;> omega) (by rw [evz128] <;> omega) (by rw [evz128, evz143] <;> omega) (by rw [evz6] <;> omega) (by rw [evz143] <;> omega) (by rw [evz143] <;> omega) (by omega) (by rw [evz6, evz128]; exact (((vq14 (by omega)).jn (wrb := vz128.toInt) vq126 (by omega) (by decide) (by omega) (by omega) (by omega)).tt (by omega)))  (by rw [evz143] <;> omega)
          · refine X_iload_n rfl rfl rfl rfl ?_
            refine S_if_eq (tgt := 90) rfl rfl rfl hx2 (fun vh146 => ?_) (fun vh146 => ?_)
            · refine X_iload rfl rfl rfl ?_
              refine X_istore_n (i := 2) (ls' := [some (.ref 355), some (.int vr130), some (.int (0 : Int32)), some (.int x3), some (.int vr12), some (.int (0 : Int32))]) rfl rfl rfl (Nat.le_of_ble_eq_true rfl) rfl ?_
              refine X_iload_n rfl rfl rfl rfl ?_
              refine S_if_ne (tgt := 102) rfl rfl rfl rfl (fun q => absurd q (by omega)) (fun vh147 => ?_)
              refine X_iload rfl rfl rfl ?_
              refine S_if_eq (tgt := 106) rfl rfl rfl (show (0 : Int32).toInt = 0 from rfl) (fun vh148 => ?_) (fun q => absurd q (by omega))
              refine X_iconst (v := (0 : Int32)) rfl rfl rfl ?_
              refine X_istore_n (i := 3) (ls' := [some (.ref 355), some (.int vr130), some (.int (0 : Int32)), some (.int (0 : Int32)), some (.int vr12), some (.int (0 : Int32))]) rfl rfl rfl (Nat.le_of_ble_eq_true rfl) rfl ?_
              refine X_iload_n rfl rfl rfl rfl ?_
              refine S_if_eq (tgt := 116) rfl rfl rfl (show (0 : Int32).toInt = 0 from rfl) (fun vh149 => ?_) (fun q => absurd q (by omega))
              refine LW_goto (tgt := 6) rfl rfl ?_
              exact ih6 _ V hG hF vr130 vr130.toInt rfl (by omega) (0 : Int32) 0 (show (0 : Int32).toInt = 0 from rfl) (by omega) (0 : Int32) 0 (show (0 : Int32).toInt = 0 from rfl) (by omega) (some (.int vr12)) (some (.int (0 : Int32)))  (by rw [evz15] <;> omega) (by rw [evz15, evz16] <;> omega) (by rw [evz16, evz3] <;> omega) (by rw [evz3] <;> omega) (by rw [evz17, evz15, evz16] <;> omega) (by rw [evz6, evz7] <;> omega) (by rw [evz7] <;> omega) (by omega) (by rw [evz19] <;> omega) (by rw [evz19] <;> omega) (by rw [evz128] <;> omega) (by rw [evz128] <;> omega) (by rw [evz128, evz15] <;> omega) (by rw [evz6] <;> omega) (by rw [evz15] <;> omega) (by rw [evz15] <;> omega) (by omega) (by rw [evz6, evz128]; exact (((vq14 (by omega)).jn (wrb := vz128.toInt) vq126 (by omega) (by decide) (by omega) (by omega) (by omega)).tt (by omega)))  (by rw [evz15] <;> omega)
            · refine X_aload_n rfl rfl rfl rfl ?_
              refine X_bipush (v := (22 : Int32)) rfl rfl rfl ?_
              refine X_iconst (v := (0 : Int32)) rfl rfl rfl ?_
              have vo355_18 : (Gi g 355 18).toInt = vz128.toInt := congrArg Int32.toInt evz128
              have vo355_16 : (Gi g 355 16).toInt = vz6.toInt := congrArg Int32.toInt evz6
              refine Y_callV (as := [.int (22 : Int32), .int (0 : Int32)]) (st := []) rfl rfl rfl (by decide) rfl (Nat.le_of_ble_eq_true rfl) (by decide) (Nat.le_of_ble_eq_true rfl) rfl ((congrFun V.1 355).trans s_355) (by decide) (C_X13_emit V (22 : Int32) 22 (show (22 : Int32).toInt = 22 from rfl) (0 : Int32) 0 (show (0 : Int32).toInt = 0 from rfl) (by rw [evz128] <;> omega) (by rw [evz128] <;> omega) (by rw [evz6, evz7] <;> omega) (by rw [evz7] <;> omega)) ?_
              rintro _ g ⟨rfl, V, hq, chF, vq151, vq152, vq153⟩
              have hG := hq.trans hG
              have evz3 := (chF 355 8 (by decide)).trans evz3
              have evz6 := (chF 355 16 (by decide)).trans evz6
              have evz7 := (chF 356 4 (by decide)).trans evz7
              have evz15 := (chF 355 12 (by decide)).trans evz15
              have evz16 := (chF 355 11 (by decide)).trans evz16
              have evz17 := (chF 355 13 (by decide)).trans evz17
              have evz19 := (chF 355 22 (by decide)).trans evz19
              have hF := And.intro (vSm.tr chF vi_db hF.1) (vCd.em hF.2 vq152 (by omega))
              obtain ⟨vz154, evz154⟩ : ∃ z, Gi g 355 18 = z := ⟨_, rfl⟩
              rw [evz154] at vq151
              rw [evz6] at vq153
              refine X_iload rfl rfl rfl ?_
              refine X_istore_n (i := 2) (ls' := [some (.ref 355), some (.int vr130), some (.int (0 : Int32)), some (.int x3), some (.int vr12), some (.int (0 : Int32))]) rfl rfl rfl (Nat.le_of_ble_eq_true rfl) rfl ?_
              refine X_iload_n rfl rfl rfl rfl ?_
              refine S_if_ne (tgt := 102) rfl rfl rfl rfl (fun q => absurd q (by omega)) (fun vh155 => ?_)
              refine X_iload rfl rfl rfl ?_
              refine S_if_eq (tgt := 106) rfl rfl rfl (show (0 : Int32).toInt = 0 from rfl) (fun vh156 => ?_) (fun q => absurd q (by omega))
              refine X_iconst (v := (0 : Int32)) rfl rfl rfl ?_
              refine X_istore_n (i := 3) (ls' := [some (.ref 355), some (.int vr130), some (.int (0 : Int32)), some (.int (0 : Int32)), some (.int vr12), some (.int (0 : Int32))]) rfl rfl rfl (Nat.le_of_ble_eq_true rfl) rfl ?_
              refine X_iload_n rfl rfl rfl rfl ?_
              refine S_if_eq (tgt := 116) rfl rfl rfl (show (0 : Int32).toInt = 0 from rfl) (fun vh157 => ?_) (fun q => absurd q (by omega))
              refine LW_goto (tgt := 6) rfl rfl ?_
              exact ih6 _ V hG hF vr130 vr130.toInt rfl (by omega) (0 : Int32) 0 (show (0 : Int32).toInt = 0 from rfl) (by omega) (0 : Int32) 0 (show (0 : Int32).toInt = 0 from rfl) (by omega) (some (.int vr12)) (some (.int (0 : Int32)))  (by rw [evz15] <;> omega) (by rw [evz15, evz16] <;> omega) (by rw [evz16, evz3] <;> omega) (by rw [evz3] <;> omega) (by rw [evz17, evz15, evz16] <;> omega) (by rw [evz6, evz7] <;> omega) (by rw [evz7] <;> omega) (by omega) (by rw [evz19] <;> omega) (by rw [evz19] <;> omega) (by rw [evz154] <;> omega) (by rw [evz154] <;> omega) (by rw [evz154, evz15] <;> omega) (by rw [evz6] <;> omega) (by rw [evz15] <;> omega) (by rw [evz15] <;> omega) (by omega) (by rw [evz6, evz154]; exact ((((vq14 (by omega)).jn (wrb := vz128.toInt) vq126 (by omega) (by decide) (by omega) (by omega) (by omega)).jn (wrb := vz154.toInt) vq152 (by omega) (by decide) (by omega) (by omega) (by omega)).tt (by omega)))  (by rw [evz15] <;> omega)
        · refine X_aload_n rfl rfl rfl rfl ?_
          refine S_getJ rfl rfl rfl ((congrFun V.1 355).trans s_355) rfl (fun vz158 => ?_)
          refine X_ldc2 (v := (28530 : Int64)) rfl rfl rfl ?_
          refine S_lcmp rfl rfl (fun vz159 hvz159 => ?_)
          refine S_if_ne (tgt := 72) rfl rfl rfl rfl (fun vh160 => ?_) (fun vh160 => ?_)
          · refine X_iconst (v := (0 : Int32)) rfl rfl rfl ?_
            refine X_istore (i := 5) (ls' := [some (.ref 355), some (.int vr130), some (.int x2), some (.int x3), some (.int vr12), some (.int (0 : Int32))]) rfl rfl (Nat.le_of_ble_eq_true rfl) rfl ?_
            refine X_iload_n rfl rfl rfl rfl ?_
            refine S_if_ne (tgt := 93) rfl rfl rfl rfl (fun vh161 => ?_) (fun vh161 => ?_)
            · refine X_iload_n rfl rfl rfl rfl ?_
              refine S_if_ne (tgt := 102) rfl rfl rfl rfl (fun vh162 => ?_) (fun q => absurd q (by omega))
              refine X_iconst (v := (1 : Int32)) rfl rfl rfl ?_
              refine LW_goto (tgt := 107) rfl rfl ?_
              refine X_istore_n (i := 3) (ls' := [some (.ref 355), some (.int vr130), some (.int x2), some (.int (1 : Int32)), some (.int vr12), some (.int (0 : Int32))]) rfl rfl rfl (Nat.le_of_ble_eq_true rfl) rfl ?_
              refine X_iload_n rfl rfl rfl rfl ?_
              refine S_if_eq (tgt := 116) rfl rfl rfl (show (1 : Int32).toInt = 1 from rfl) (fun q => absurd q (by omega)) (fun vh163 => ?_)
              refine X_aload_n rfl rfl rfl rfl ?_
              have vo355_11 : (Gi g 355 11).toInt = vz16.toInt := congrArg Int32.toInt evz16
              refine Y_callV (as := []) (st := []) rfl rfl rfl (by decide) rfl (Nat.le_of_ble_eq_true rfl) (by decide) (Nat.le_of_ble_eq_true rfl) rfl ((congrFun V.1 355).trans s_355) (by decide) (C_X13_nextToken V  (by rw [evz16] <;> omega) (by rw [evz16, evz3] <;> omega) (by rw [evz3] <;> omega)) ?_
              rintro _ g ⟨rfl, V, hq, chF, vq165, vq166, vq167, vq168, vq169, vq170⟩
              have hG := hq.trans hG
              have evz3 := (chF 355 8 (by decide)).trans evz3
              have evz6 := (chF 355 16 (by decide)).trans evz6
              have evz7 := (chF 356 4 (by decide)).trans evz7
              have evz19 := (chF 355 22 (by decide)).trans evz19
              have evz128 := (chF 355 18 (by decide)).trans evz128
              have hF := And.intro (vSm.tr chF vi_da hF.1) (vCd.oth hF.2 (fun k => chF 358 k (Or.inl (by decide))))
              obtain ⟨vz171, evz171⟩ : ∃ z, Gi g 355 12 = z := ⟨_, rfl⟩
              rw [evz171] at vq165
              rw [evz171] at vq166
              rw [evz171] at vq167
              obtain ⟨vz172, evz172⟩ : ∃ z, Gi g 355 11 = z := ⟨_, rfl⟩
              rw [evz172] at vq167
              rw [evz172] at vq168
              rw [evz3] at vq168
              rw [evz3] at vq169
              obtain ⟨vz173, evz173⟩ : ∃ z, Gi g 355 13 = z := ⟨_, rfl⟩
              rw [evz173] at vq170
              rw [evz171] at vq170
              rw [evz172] at vq170
              rw [← (funext fun k => chF 358 k (Or.inl (by decide)) : Gi g 358 = _)] at vq126
              refine LW_goto (tgt := 6) rfl rfl ?_
              exact ih6 _ V hG hF vr130 vr130.toInt rfl (by omega) x2 y2 hx2 (by omega) (1 : Int32) 1 (show (1 : Int32).toInt = 1 from rfl) (by omega) (some (.int vr12)) (some (.int (0 : Int32)))  (by rw [evz171] <;> omega) (by rw [evz171, evz172] <;> omega) (by rw [evz172, evz3] <;> omega) (by rw [evz3] <;> omega) (by rw [evz173, evz171, evz172] <;> omega) (by rw [evz6, evz7] <;> omega) (by rw [evz7] <;> omega) (by omega) (by rw [evz19] <;> omega) (by rw [evz19] <;> omega) (by rw [evz128] <;> omega) (by rw [evz128] <;> omega) (by rw [evz128, evz171] <;> omega) (by rw [evz6] <;> omega) (by rw [evz171] <;> omega) (by rw [evz171] <;> omega) (by omega) (by rw [evz6, evz128]; exact (((vq14 (by omega)).jn (wrb := vz128.toInt) vq126 (by omega) (by decide) (by omega) (by omega) (by omega)).tt (by omega)))  (by rw [evz171] <;> omega)
            · refine X_iload_n rfl rfl rfl rfl ?_
              refine S_if_eq (tgt := 90) rfl rfl rfl hx2 (fun vh174 => ?_) (fun vh174 => ?_)
              · refine X_iload rfl rfl rfl ?_
                refine X_istore_n (i := 2) (ls' := [some (.ref 355), some (.int vr130), some (.int (0 : Int32)), some (.int x3), some (.int vr12), some (.int (0 : Int32))]) rfl rfl rfl (Nat.le_of_ble_eq_true rfl) rfl ?_
                refine X_iload_n rfl rfl rfl rfl ?_
                refine S_if_ne (tgt := 102) rfl rfl rfl rfl (fun q => absurd q (by omega)) (fun vh175 => ?_)
                refine X_iload rfl rfl rfl ?_
                refine S_if_eq (tgt := 106) rfl rfl rfl (show (0 : Int32).toInt = 0 from rfl) (fun vh176 => ?_) (fun q => absurd q (by omega))
                refine X_iconst (v := (0 : Int32)) rfl rfl rfl ?_
                refine X_istore_n (i := 3) (ls' := [some (.ref 355), some (.int vr130), some (.int (0 : Int32)), some (.int (0 : Int32)), some (.int vr12), some (.int (0 : Int32))]) rfl rfl rfl (Nat.le_of_ble_eq_true rfl) rfl ?_
                refine X_iload_n rfl rfl rfl rfl ?_
                refine S_if_eq (tgt := 116) rfl rfl rfl (show (0 : Int32).toInt = 0 from rfl) (fun vh177 => ?_) (fun q => absurd q (by omega))
                refine LW_goto (tgt := 6) rfl rfl ?_
                exact ih6 _ V hG hF vr130 vr130.toInt rfl (by omega) (0 : Int32) 0 (show (0 : Int32).toInt = 0 from rfl) (by omega) (0 : Int32) 0 (show (0 : Int32).toInt = 0 from rfl) (by omega) (some (.int vr12)) (some (.int (0 : Int32)))  (by rw [evz15] <;> omega) (by rw [evz15, evz16] <;> omega) (by rw [evz16, evz3] <;> omega) (by rw [evz3] <;> omega) (by rw [evz17, evz15, evz16] <;> omega) (by rw [evz6, evz7] <;> omega) (by rw [evz7] <;> omega) (by omega) (by rw [evz19] <;> omega) (by rw [evz19] <;> omega) (by rw [evz128] <;> omega) (by rw [evz128] <;> omega) (by rw [evz128, evz15] <;> omega) (by rw [evz6] <;> omega) (by rw [evz15] <;> omega) (by rw [evz15] <;> omega) (by omega) (by rw [evz6, evz128]; exact (((vq14 (by omega)).jn (wrb := vz128.toInt) vq126 (by omega) (by decide) (by omega) (by omega) (by omega)).tt (by omega)))  (by rw [evz15] <;> omega)
              · refine X_aload_n rfl rfl rfl rfl ?_
                refine X_bipush (v := (22 : Int32)) rfl rfl rfl ?_
                refine X_iconst (v := (0 : Int32)) rfl rfl rfl ?_
                have vo355_18 : (Gi g 355 18).toInt = vz128.toInt := congrArg Int32.toInt evz128
                have vo355_16 : (Gi g 355 16).toInt = vz6.toInt := congrArg Int32.toInt evz6
                refine Y_callV (as := [.int (22 : Int32), .int (0 : Int32)]) (st := []) rfl rfl rfl (by decide) rfl (Nat.le_of_ble_eq_true rfl) (by decide) (Nat.le_of_ble_eq_true rfl) rfl ((congrFun V.1 355).trans s_355) (by decide) (C_X13_emit V (22 : Int32) 22 (show (22 : Int32).toInt = 22 from rfl) (0 : Int32) 0 (show (0 : Int32).toInt = 0 from rfl) (by rw [evz128] <;> omega) (by rw [evz128] <;> omega) (by rw [evz6, evz7] <;> omega) (by rw [evz7] <;> omega)) ?_
                rintro _ g ⟨rfl, V, hq, chF, vq179, vq180, vq181⟩
                have hG := hq.trans hG
                have evz3 := (chF 355 8 (by decide)).trans evz3
                have evz6 := (chF 355 16 (by decide)).trans evz6
                have evz7 := (chF 356 4 (by decide)).trans evz7
                have evz15 := (chF 355 12 (by decide)).trans evz15
                have evz16 := (chF 355 11 (by decide)).trans evz16
                have evz17 := (chF 355 13 (by decide)).trans evz17
                have evz19 := (chF 355 22 (by decide)).trans evz19
                have hF := And.intro (vSm.tr chF vi_db hF.1) (vCd.em hF.2 vq180 (by omega))
                obtain ⟨vz182, evz182⟩ : ∃ z, Gi g 355 18 = z := ⟨_, rfl⟩
                rw [evz182] at vq179
                rw [evz6] at vq181
                refine X_iload rfl rfl rfl ?_
                refine X_istore_n (i := 2) (ls' := [some (.ref 355), some (.int vr130), some (.int (0 : Int32)), some (.int x3), some (.int vr12), some (.int (0 : Int32))]) rfl rfl rfl (Nat.le_of_ble_eq_true rfl) rfl ?_
                refine X_iload_n rfl rfl rfl rfl ?_
                refine S_if_ne (tgt := 102) rfl rfl rfl rfl (fun q => absurd q (by omega)) (fun vh183 => ?_)
                refine X_iload rfl rfl rfl ?_
                refine S_if_eq (tgt := 106) rfl rfl rfl (show (0 : Int32).toInt = 0 from rfl) (fun vh184 => ?_) (fun q => absurd q (by omega))
                refine X_iconst (v := (0 : Int32)) rfl rfl rfl ?_
                refine X_istore_n (i := 3) (ls' := [some (.ref 355), some (.int vr130), some (.int (0 : Int32)), some (.int (0 : Int32)), some (.int vr12), some (.int (0 : Int32))]) rfl rfl rfl (Nat.le_of_ble_eq_true rfl) rfl ?_
                refine X_iload_n rfl rfl rfl rfl ?_
                refine S_if_eq (tgt := 116) rfl rfl rfl (show (0 : Int32).toInt = 0 from rfl) (fun vh185 => ?_) (fun q => absurd q (by omega))
                refine LW_goto (tgt := 6) rfl rfl ?_
                exact ih6 _ V hG hF vr130 vr130.toInt rfl (by omega) (0 : Int32) 0 (show (0 : Int32).toInt = 0 from rfl) (by omega) (0 : Int32) 0 (show (0 : Int32).toInt = 0 from rfl) (by omega) (some (.int vr12)) (some (.int (0 : Int32)))  (by rw [evz15] <;> omega) (by rw [evz15, evz16] <;> omega) (by rw [evz16, evz3] <;> omega) (by rw [evz3] <;> omega) (by rw [evz17, evz15, evz16] <;> omega) (by rw [evz6, evz7] <;> omega) (by rw [evz7] <;> omega) (by omega) (by rw [evz19] <;> omega) (by rw [evz19] <;> omega) (by rw [evz182] <;> omega) (by rw [evz182] <;> omega) (by rw [evz182, evz15] <;> omega) (by rw [evz6] <;> omega) (by rw [evz15] <;> omega) (by rw [evz15] <;> omega) (by omega) (by rw [evz6, evz182]; exact ((((vq14 (by omega)).jn (wrb := vz128.toInt) vq126 (by omega) (by decide) (by omega) (by omega) (by omega)).jn (wrb := vz182.toInt) vq180 (by omega) (by decide) (by omega) (by omega) (by omega)).tt (by omega)))  (by rw [evz15] <;> omega)
          · refine X_iconst (v := (1 : Int32)) rfl rfl rfl ?_
            refine LW_goto (tgt := 73) rfl rfl ?_
            refine X_istore (i := 5) (ls' := [some (.ref 355), some (.int vr130), some (.int x2), some (.int x3), some (.int vr12), some (.int (1 : Int32))]) rfl rfl (Nat.le_of_ble_eq_true rfl) rfl ?_
            refine X_iload_n rfl rfl rfl rfl ?_
            refine S_if_ne (tgt := 93) rfl rfl rfl rfl (fun vh186 => ?_) (fun vh186 => ?_)
            · refine X_iload_n rfl rfl rfl rfl ?_
              refine S_if_ne (tgt := 102) rfl rfl rfl rfl (fun vh187 => ?_) (fun q => absurd q (by omega))
              refine X_iconst (v := (1 : Int32)) rfl rfl rfl ?_
              refine LW_goto (tgt := 107) rfl rfl ?_
              refine X_istore_n (i := 3) (ls' := [some (.ref 355), some (.int vr130), some (.int x2), some (.int (1 : Int32)), some (.int vr12), some (.int (1 : Int32))]) rfl rfl rfl (Nat.le_of_ble_eq_true rfl) rfl ?_
              refine X_iload_n rfl rfl rfl rfl ?_
              refine S_if_eq (tgt := 116) rfl rfl rfl (show (1 : Int32).toInt = 1 from rfl) (fun q => absurd q (by omega)) (fun vh188 => ?_)
              refine X_aload_n rfl rfl rfl rfl ?_
              have vo355_11 : (Gi g 355 11).toInt = vz16.toInt := congrArg Int32.toInt evz16
              refine Y_callV (as := []) (st := []) rfl rfl rfl (by decide) rfl (Nat.le_of_ble_eq_true rfl) (by decide) (Nat.le_of_ble_eq_true rfl) rfl ((congrFun V.1 355).trans s_355) (by decide) (C_X13_nextToken V  (by rw [evz16] <;> omega) (by rw [evz16, evz3] <;> omega) (by rw [evz3] <;> omega)) ?_
              rintro _ g ⟨rfl, V, hq, chF, vq190, vq191, vq192, vq193, vq194, vq195⟩
              have hG := hq.trans hG
              have evz3 := (chF 355 8 (by decide)).trans evz3
              have evz6 := (chF 355 16 (by decide)).trans evz6
              have evz7 := (chF 356 4 (by decide)).trans evz7
              have evz19 := (chF 355 22 (by decide)).trans evz19
              have evz128 := (chF 355 18 (by decide)).trans evz128
              have hF := And.intro (vSm.tr chF vi_da hF.1) (vCd.oth hF.2 (fun k => chF 358 k (Or.inl (by decide))))
              obtain ⟨vz196, evz196⟩ : ∃ z, Gi g 355 12 = z := ⟨_, rfl⟩
              rw [evz196] at vq190
              rw [evz196] at vq191
              rw [evz196] at vq192
              obtain ⟨vz197, evz197⟩ : ∃ z, Gi g 355 11 = z := ⟨_, rfl⟩
              rw [evz197] at vq192
              rw [evz197] at vq193
              rw [evz3] at vq193
              rw [evz3] at vq194
              obtain ⟨vz198, evz198⟩ : ∃ z, Gi g 355 13 = z := ⟨_, rfl⟩
              rw [evz198] at vq195
              rw [evz196] at vq195
              rw [evz197] at vq195
              rw [← (funext fun k => chF 358 k (Or.inl (by decide)) : Gi g 358 = _)] at vq126
              refine LW_goto (tgt := 6) rfl rfl ?_
              exact ih6 _ V hG hF vr130 vr130.toInt rfl (by omega) x2 y2 hx2 (by omega) (1 : Int32) 1 (show (1 : Int32).toInt = 1 from rfl) (by omega) (some (.int vr12)) (some (.int (1 : Int32)))  (by rw [evz196] <;> omega) (by rw [evz196, evz197] <;> omega) (by rw [evz197, evz3] <;> omega) (by rw [evz3] <;> omega) (by rw [evz198, evz196, evz197] <;> omega) (by rw [evz6, evz7] <;> omega) (by rw [evz7] <;> omega) (by omega) (by rw [evz19] <;> omega) (by rw [evz19] <;> omega) (by rw [evz128] <;> omega) (by rw [evz128] <;> omega) (by rw [evz128, evz196] <;> omega) (by rw [evz6] <;> omega) (by rw [evz196] <;> omega) (by rw [evz196] <;> omega) (by omega) (by rw [evz6, evz128]; exact (((vq14 (by omega)).jn (wrb := vz128.toInt) vq126 (by omega) (by decide) (by omega) (by omega) (by omega)).tt (by omega)))  (by rw [evz196] <;> omega)
            · refine X_iload_n rfl rfl rfl rfl ?_
              refine S_if_eq (tgt := 90) rfl rfl rfl hx2 (fun vh199 => ?_) (fun vh199 => ?_)
              · refine X_iload rfl rfl rfl ?_
                refine X_istore_n (i := 2) (ls' := [some (.ref 355), some (.int vr130), some (.int (1 : Int32)), some (.int x3), some (.int vr12), some (.int (1 : Int32))]) rfl rfl rfl (Nat.le_of_ble_eq_true rfl) rfl ?_
                refine X_iload_n rfl rfl rfl rfl ?_
                refine S_if_ne (tgt := 102) rfl rfl rfl rfl (fun q => absurd q (by omega)) (fun vh200 => ?_)
                refine X_iload rfl rfl rfl ?_
                refine S_if_eq (tgt := 106) rfl rfl rfl (show (1 : Int32).toInt = 1 from rfl) (fun q => absurd q (by omega)) (fun vh201 => ?_)
                refine X_iconst (v := (1 : Int32)) rfl rfl rfl ?_
                refine LW_goto (tgt := 107) rfl rfl ?_
                refine X_istore_n (i := 3) (ls' := [some (.ref 355), some (.int vr130), some (.int (1 : Int32)), some (.int (1 : Int32)), some (.int vr12), some (.int (1 : Int32))]) rfl rfl rfl (Nat.le_of_ble_eq_true rfl) rfl ?_
                refine X_iload_n rfl rfl rfl rfl ?_
                refine S_if_eq (tgt := 116) rfl rfl rfl (show (1 : Int32).toInt = 1 from rfl) (fun q => absurd q (by omega)) (fun vh202 => ?_)
                refine X_aload_n rfl rfl rfl rfl ?_
                have vo355_11 : (Gi g 355 11).toInt = vz16.toInt := congrArg Int32.toInt evz16
                refine Y_callV (as := []) (st := []) rfl rfl rfl (by decide) rfl (Nat.le_of_ble_eq_true rfl) (by decide) (Nat.le_of_ble_eq_true rfl) rfl ((congrFun V.1 355).trans s_355) (by decide) (C_X13_nextToken V  (by rw [evz16] <;> omega) (by rw [evz16, evz3] <;> omega) (by rw [evz3] <;> omega)) ?_
                rintro _ g ⟨rfl, V, hq, chF, vq204, vq205, vq206, vq207, vq208, vq209⟩
                have hG := hq.trans hG
                have evz3 := (chF 355 8 (by decide)).trans evz3
                have evz6 := (chF 355 16 (by decide)).trans evz6
                have evz7 := (chF 356 4 (by decide)).trans evz7
                have evz19 := (chF 355 22 (by decide)).trans evz19
                have evz128 := (chF 355 18 (by decide)).trans evz128
                have hF := And.intro (vSm.tr chF vi_da hF.1) (vCd.oth hF.2 (fun k => chF 358 k (Or.inl (by decide))))
                obtain ⟨vz210, evz210⟩ : ∃ z, Gi g 355 12 = z := ⟨_, rfl⟩
                rw [evz210] at vq204
                rw [evz210] at vq205
                rw [evz210] at vq206
                obtain ⟨vz211, evz211⟩ : ∃ z, Gi g 355 11 = z := ⟨_, rfl⟩
                rw [evz211] at vq206
                rw [evz211] at vq207
                rw [evz3] at vq207
                rw [evz3] at vq208
                obtain ⟨vz212, evz212⟩ : ∃ z, Gi g 355 13 = z := ⟨_, rfl⟩
                rw [evz212] at vq209
                rw [evz210] at vq209
                rw [evz211] at vq209
                rw [← (funext fun k => chF 358 k (Or.inl (by decide)) : Gi g 358 = _)] at vq126
                refine LW_goto (tgt := 6) rfl rfl ?_
                exact ih6 _ V hG hF vr130 vr130.toInt rfl (by omega) (1 : Int32) 1 (show (1 : Int32).toInt = 1 from rfl) (by omega) (1 : Int32) 1 (show (1 : Int32).toInt = 1 from rfl) (by omega) (some (.int vr12)) (some (.int (1 : Int32)))  (by rw [evz210] <;> omega) (by rw [evz210, evz211] <;> omega) (by rw [evz211, evz3] <;> omega) (by rw [evz3] <;> omega) (by rw [evz212, evz210, evz211] <;> omega) (by rw [evz6, evz7] <;> omega) (by rw [evz7] <;> omega) (by omega) (by rw [evz19] <;> omega) (by rw [evz19] <;> omega) (by rw [evz128] <;> omega) (by rw [evz128] <;> omega) (by rw [evz128, evz210] <;> omega) (by rw [evz6] <;> omega) (by rw [evz210] <;> omega) (by rw [evz210] <;> omega) (by omega) (by rw [evz6, evz128]; exact (((vq14 (by omega)).jn (wrb := vz128.toInt) vq126 (by omega) (by decide) (by omega) (by omega) (by omega)).tt (by omega)))  (by rw [evz210] <;> omega)
              · refine X_aload_n rfl rfl rfl rfl ?_
                refine X_bipush (v := (22 : Int32)) rfl rfl rfl ?_
                refine X_iconst (v := (0 : Int32)) rfl rfl rfl ?_
                have vo355_18 : (Gi g 355 18).toInt = vz128.toInt := congrArg Int32.toInt evz128
                have vo355_16 : (Gi g 355 16).toInt = vz6.toInt := congrArg Int32.toInt evz6
                refine Y_callV (as := [.int (22 : Int32), .int (0 : Int32)]) (st := []) rfl rfl rfl (by decide) rfl (Nat.le_of_ble_eq_true rfl) (by decide) (Nat.le_of_ble_eq_true rfl) rfl ((congrFun V.1 355).trans s_355) (by decide) (C_X13_emit V (22 : Int32) 22 (show (22 : Int32).toInt = 22 from rfl) (0 : Int32) 0 (show (0 : Int32).toInt = 0 from rfl) (by rw [evz128] <;> omega) (by rw [evz128] <;> omega) (by rw [evz6, evz7] <;> omega) (by rw [evz7] <;> omega)) ?_
                rintro _ g ⟨rfl, V, hq, chF, vq214, vq215, vq216⟩
                have hG := hq.trans hG
                have evz3 := (chF 355 8 (by decide)).trans evz3
                have evz6 := (chF 355 16 (by decide)).trans evz6
                have evz7 := (chF 356 4 (by decide)).trans evz7
                have evz15 := (chF 355 12 (by decide)).trans evz15
                have evz16 := (chF 355 11 (by decide)).trans evz16
                have evz17 := (chF 355 13 (by decide)).trans evz17
                have evz19 := (chF 355 22 (by decide)).trans evz19
                have hF := And.intro (vSm.tr chF vi_db hF.1) (vCd.em hF.2 vq215 (by omega))
                obtain ⟨vz217, evz217⟩ : ∃ z, Gi g 355 18 = z := ⟨_, rfl⟩
                rw [evz217] at vq214
                rw [evz6] at vq216
                refine X_iload rfl rfl rfl ?_
                refine X_istore_n (i := 2) (ls' := [some (.ref 355), some (.int vr130), some (.int (1 : Int32)), some (.int x3), some (.int vr12), some (.int (1 : Int32))]) rfl rfl rfl (Nat.le_of_ble_eq_true rfl) rfl ?_
                refine X_iload_n rfl rfl rfl rfl ?_
                refine S_if_ne (tgt := 102) rfl rfl rfl rfl (fun q => absurd q (by omega)) (fun vh218 => ?_)
                refine X_iload rfl rfl rfl ?_
                refine S_if_eq (tgt := 106) rfl rfl rfl (show (1 : Int32).toInt = 1 from rfl) (fun q => absurd q (by omega)) (fun vh219 => ?_)
                refine X_iconst (v := (1 : Int32)) rfl rfl rfl ?_
                refine LW_goto (tgt := 107) rfl rfl ?_
                refine X_istore_n (i := 3) (ls' := [some (.ref 355), some (.int vr130), some (.int (1 : Int32)), some (.int (1 : Int32)), some (.int vr12), some (.int (1 : Int32))]) rfl rfl rfl (Nat.le_of_ble_eq_true rfl) rfl ?_
                refine X_iload_n rfl rfl rfl rfl ?_
                refine S_if_eq (tgt := 116) rfl rfl rfl (show (1 : Int32).toInt = 1 from rfl) (fun q => absurd q (by omega)) (fun vh220 => ?_)
                refine X_aload_n rfl rfl rfl rfl ?_
                have vo355_11 : (Gi g 355 11).toInt = vz16.toInt := congrArg Int32.toInt evz16
                refine Y_callV (as := []) (st := []) rfl rfl rfl (by decide) rfl (Nat.le_of_ble_eq_true rfl) (by decide) (Nat.le_of_ble_eq_true rfl) rfl ((congrFun V.1 355).trans s_355) (by decide) (C_X13_nextToken V  (by rw [evz16] <;> omega) (by rw [evz16, evz3] <;> omega) (by rw [evz3] <;> omega)) ?_
                rintro _ g ⟨rfl, V, hq, chF, vq222, vq223, vq224, vq225, vq226, vq227⟩
                have hG := hq.trans hG
                have evz3 := (chF 355 8 (by decide)).trans evz3
                have evz6 := (chF 355 16 (by decide)).trans evz6
                have evz7 := (chF 356 4 (by decide)).trans evz7
                have evz19 := (chF 355 22 (by decide)).trans evz19
                have evz217 := (chF 355 18 (by decide)).trans evz217
                have hF := And.intro (vSm.tr chF vi_da hF.1) (vCd.oth hF.2 (fun k => chF 358 k (Or.inl (by decide))))
                obtain ⟨vz228, evz228⟩ : ∃ z, Gi g 355 12 = z := ⟨_, rfl⟩
                rw [evz228] at vq222
                rw [evz228] at vq223
                rw [evz228] at vq224
                obtain ⟨vz229, evz229⟩ : ∃ z, Gi g 355 11 = z := ⟨_, rfl⟩
                rw [evz229] at vq224
                rw [evz229] at vq225
                rw [evz3] at vq225
                rw [evz3] at vq226
                obtain ⟨vz230, evz230⟩ : ∃ z, Gi g 355 13 = z := ⟨_, rfl⟩
                rw [evz230] at vq227
                rw [evz228] at vq227
                rw [evz229] at vq227
                rw [← (funext fun k => chF 358 k (Or.inl (by decide)) : Gi g 358 = _)] at vq215
                refine LW_goto (tgt := 6) rfl rfl ?_
                exact ih6 _ V hG hF vr130 vr130.toInt rfl (by omega) (1 : Int32) 1 (show (1 : Int32).toInt = 1 from rfl) (by omega) (1 : Int32) 1 (show (1 : Int32).toInt = 1 from rfl) (by omega) (some (.int vr12)) (some (.int (1 : Int32)))  (by rw [evz228] <;> omega) (by rw [evz228, evz229] <;> omega) (by rw [evz229, evz3] <;> omega) (by rw [evz3] <;> omega) (by rw [evz230, evz228, evz229] <;> omega) (by rw [evz6, evz7] <;> omega) (by rw [evz7] <;> omega) (by omega) (by rw [evz19] <;> omega) (by rw [evz19] <;> omega) (by rw [evz217] <;> omega) (by rw [evz217] <;> omega) (by rw [evz217, evz228] <;> omega) (by rw [evz6] <;> omega) (by rw [evz228] <;> omega) (by rw [evz228] <;> omega) (by omega) (by rw [evz6, evz217]; exact ((((vq14 (by omega)).jn (wrb := vz128.toInt) vq126 (by omega) (by decide) (by omega) (by omega) (by omega)).jn (wrb := vz217.toInt) vq215 (by omega) (by decide) (by omega) (by omega) (by omega)).tt (by omega)))  (by rw [evz228] <;> omega)
    · refine X_iload rfl rfl rfl ?_
      have hr := (rfl : vr12.toInt = vr12.toInt)
      exact LW_ireturn (st := []) rfl rfl rfl ⟨_, rfl, by omega, by omega, V, hG, hF, (by rw [evz15, evz16, evz3, evz17, evz6, evz18, evz19] <;> omega), (by rw [evz6, evz18]; exact (by
            exact fun q => absurd q (by omega)))⟩
theorem C_X13_either_all {P : Par} {vs vn vt : Nat} {g0 : LH} {d : Nat}  : ∀ n : Nat, (∀ (g : LH) (V : InvR P g) (hG : Gr g = Gr g0) (hF : (vSm vsd g g0 ∧ vCd g g0)) (x1 : Int32) (y1 : Int) (hx1 : x1.toInt = y1) (hf1 : 0 ≤ y1 ∧ y1 ≤ 1) (x2 : Int32) (y2 : Int) (hx2 : x2.toInt = y2) (hf2 : 0 ≤ y2 ∧ y2 ≤ 1) (x3 : Int32) (y3 : Int) (hx3 : x3.toInt = y3) (hf3 : 0 ≤ y3 ∧ y3 ≤ 1) (o4 : Option Value) (o5 : Option Value) (hq0 : 0 ≤ (Gi g 355 12).toInt) (hq1 : (Gi g 355 12).toInt ≤ (Gi g 355 11).toInt) (hq2 : (Gi g 355 11).toInt ≤ (Gi g 355 8).toInt) (hq3 : (Gi g 355 8).toInt ≤ 300) (hq4 : (Gi g 355 13).toInt = 0 ∨ (Gi g 355 12).toInt < (Gi g 355 11).toInt) (hq5 : (Gi g 355 16).toInt = 873 * (Gi g 356 4).toInt) (hq6 : (Gi g 356 4).toInt ≤ 3) (hq7 : y3 = 1 ∨ (y1 = 0 ∧ y2 = 0)) (hq8 : (Gi g 355 22).toInt = (Gi g0 355 22).toInt) (hq9 : 0 ≤ (Gi g 355 22).toInt ∧ (Gi g 355 22).toInt ≤ 8) (hq10 : 0 ≤ (Gi g 355 18).toInt) (hq11 : (Gi g0 355 18).toInt ≤ (Gi g 355 18).toInt) (hq12 : (Gi g 355 18).toInt + y1 + y2 + (Gi g0 355 12).toInt ≤ (Gi g0 355 18).toInt + (Gi g 355 12).toInt) (hq13 : (Gi g 355 16).toInt = (Gi g0 355 16).toInt) (hq14 : y3 = 1 ∨ (Gi g0 355 12).toInt < (Gi g 355 12).toInt) (hq15 : (Gi g0 355 12).toInt ≤ (Gi g 355 12).toInt) (hq16 : (Gi g0 355 18).toInt ≤ (Gi g0 355 12).toInt) (hq17 : vKK (Gi g 358) (Int.toNat (Gi g 355 16).toInt + 265) vs (Int.toNat (Gi g 355 18).toInt) vn (vt + Int.toNat (y1 + y2 + 1 - y3))), (300 - (Gi g 355 12).toInt) * 1 + 0 < (n : Int) → LW 220 (d + 34) 0 0 6 [some (.ref 355), some (.int x1), some (.int x2), some (.int x3), o4, o5] [] g (fun v g' => ∃ r : Int32, v = some (.int r) ∧ 0 ≤ r.toInt ∧ r.toInt ≤ 5 ∧ InvR P g' ∧ Gr g' = Gr g0 ∧ (vSm vsd g' g0 ∧ vCd g' g0) ∧ (r.toInt = 0 → (((Gi g0 355 12).toInt < (Gi g' 355 12).toInt) ∧ (0 ≤ (Gi g' 355 12).toInt) ∧ ((Gi g' 355 12).toInt ≤ (Gi g' 355 11).toInt) ∧ ((Gi g' 355 11).toInt ≤ (Gi g' 355 8).toInt) ∧ ((Gi g' 355 8).toInt ≤ 300) ∧ ((Gi g' 355 13).toInt = 0 ∨ (Gi g' 355 12).toInt < (Gi g' 355 11).toInt) ∧ ((Gi g' 355 16).toInt = (Gi g0 355 16).toInt) ∧ ((Gi g0 355 18).toInt ≤ (Gi g' 355 18).toInt) ∧ ((Gi g' 355 18).toInt + (Gi g0 355 12).toInt ≤ (Gi g0 355 18).toInt + (Gi g' 355 12).toInt) ∧ ((Gi g' 355 22).toInt = (Gi g0 355 22).toInt))) ∧ (r.toInt = 0 → vKK (Gi g' 358) (Int.toNat (Gi g' 355 16).toInt + 265) vs (Int.toNat (Gi g' 355 18).toInt) vn (vt + 1)))) := by
  intro n
  induction n with
  | zero => exact fun g V hG hF x1 y1 hx1 hf1 x2 y2 hx2 hf2 x3 y3 hx3 hf3 o4 o5 hq0 hq1 hq2 hq3 hq4 hq5 hq6 hq7 hq8 hq9 hq10 hq11 hq12 hq13 hq14 hq15 hq16 hq17 hmu => absurd hmu (by omega)
  | succ n ih => exact fun g V hG hF x1 y1 hx1 hf1 x2 y2 hx2 hf2 x3 y3 hx3 hf3 o4 o5 hq0 hq1 hq2 hq3 hq4 hq5 hq6 hq7 hq8 hq9 hq10 hq11 hq12 hq13 hq14 hq15 hq16 hq17 hmu => C_X13_either_6  V hG hF x1 y1 hx1 hf1 x2 y2 hx2 hf2 x3 y3 hx3 hf3 o4 o5 hq0 hq1 hq2 hq3 hq4 hq5 hq6 hq7 hq8 hq9 hq10 hq11 hq12 hq13 hq14 hq15 hq16 hq17 (by omega) ih
set_option maxRecDepth 10000 in
set_option maxHeartbeats 40000000 in
theorem C_X13_either {P : Par} {vs vn vt : Nat} {g : LH} {d : Nat}  (V : InvR P g)  (hq0 : 0 ≤ (Gi g 355 12).toInt) (hq1 : (Gi g 355 12).toInt ≤ (Gi g 355 11).toInt) (hq2 : (Gi g 355 11).toInt ≤ (Gi g 355 8).toInt) (hq3 : (Gi g 355 8).toInt ≤ 300) (hq4 : (Gi g 355 13).toInt = 0 ∨ (Gi g 355 12).toInt < (Gi g 355 11).toInt) (hq5 : (Gi g 355 16).toInt = 873 * (Gi g 356 4).toInt) (hq6 : (Gi g 356 4).toInt ≤ 3) (hq7 : 0 ≤ (Gi g 355 18).toInt) (hq8 : (Gi g 355 18).toInt ≤ (Gi g 355 12).toInt) (hq9 : 0 ≤ (Gi g 355 22).toInt ∧ (Gi g 355 22).toInt ≤ 8) (hq10 : vKK (Gi g 358) (Int.toNat (Gi g 355 16).toInt + 265) vs (Int.toNat (Gi g 355 18).toInt) vn vt)  : LW 220 (d + 34) 0 0 0 (lEnt (mL 220) [.ref 355]) [] g (fun v g' => ∃ r : Int32, v = some (.int r) ∧ 0 ≤ r.toInt ∧ r.toInt ≤ 5 ∧ InvR P g' ∧ Gr g' = Gr g ∧ (vSm vsd g' g ∧ vCd g' g) ∧ (r.toInt = 0 → (((Gi g 355 12).toInt < (Gi g' 355 12).toInt) ∧ (0 ≤ (Gi g' 355 12).toInt) ∧ ((Gi g' 355 12).toInt ≤ (Gi g' 355 11).toInt) ∧ ((Gi g' 355 11).toInt ≤ (Gi g' 355 8).toInt) ∧ ((Gi g' 355 8).toInt ≤ 300) ∧ ((Gi g' 355 13).toInt = 0 ∨ (Gi g' 355 12).toInt < (Gi g' 355 11).toInt) ∧ ((Gi g' 355 16).toInt = (Gi g 355 16).toInt) ∧ ((Gi g 355 18).toInt ≤ (Gi g' 355 18).toInt) ∧ ((Gi g' 355 18).toInt + (Gi g 355 12).toInt ≤ (Gi g 355 18).toInt + (Gi g' 355 12).toInt) ∧ ((Gi g' 355 22).toInt = (Gi g 355 22).toInt))) ∧ (r.toInt = 0 → vKK (Gi g' 358) (Int.toNat (Gi g' 355 16).toInt + 265) vs (Int.toNat (Gi g' 355 18).toInt) vn (vt + 1))) := by
  refine LW_ls (ls' := [some (.ref 355), none, none, none, none, none]) rfl ?_
  have hG : Gr g = Gr g := rfl
  have hF : (vSm vsd g g ∧ vCd g g) := And.intro vSm.refl vCd.refl
  obtain ⟨vz1, evz1⟩ : ∃ z, Gi g 355 12 = z := ⟨_, rfl⟩
  rw [evz1] at hq0
  rw [evz1] at hq1
  obtain ⟨vz2, evz2⟩ : ∃ z, Gi g 355 11 = z := ⟨_, rfl⟩
  rw [evz2] at hq1
  rw [evz2] at hq2
  obtain ⟨vz3, evz3⟩ : ∃ z, Gi g 355 8 = z := ⟨_, rfl⟩
  have vf4 := O_355_8 (V.2.2.2.2.2.2.1 355 (8) (Nat.le_of_ble_eq_true rfl))
  rw [evz3] at vf4
  rw [evz3] at hq2
  rw [evz3] at hq3
  obtain ⟨vz5, evz5⟩ : ∃ z, Gi g 355 13 = z := ⟨_, rfl⟩
  rw [evz5] at hq4
  rw [evz1] at hq4
  rw [evz2] at hq4
  obtain ⟨vz6, evz6⟩ : ∃ z, Gi g 355 16 = z := ⟨_, rfl⟩
  rw [evz6] at hq5
  obtain ⟨vz7, evz7⟩ : ∃ z, Gi g 356 4 = z := ⟨_, rfl⟩
  have vf8 := A_TEXTS (V.2.2.2.1 (4)) (by omega)
  rw [evz7] at vf8
  rw [evz7] at hq5
  rw [evz7] at hq6
  obtain ⟨vz9, evz9⟩ : ∃ z, Gi g 355 18 = z := ⟨_, rfl⟩
  rw [evz9] at hq7
  rw [evz9] at hq8
  rw [evz1] at hq8
  obtain ⟨vz10, evz10⟩ : ∃ z, Gi g 355 22 = z := ⟨_, rfl⟩
  rw [evz10] at hq9
  rw [evz6] at hq10
  rw [evz9] at hq10
  have vo355_12 : (Gi g 355 12).toInt = vz1.toInt := congrArg Int32.toInt evz1
  have vo355_16 : (Gi g 355 16).toInt = vz6.toInt := congrArg Int32.toInt evz6
  have vo355_18 : (Gi g 355 18).toInt = vz9.toInt := congrArg Int32.toInt evz9
  have vo355_22 : (Gi g 355 22).toInt = vz10.toInt := congrArg Int32.toInt evz10
  refine X_iconst (v := (0 : Int32)) rfl rfl rfl ?_
  refine X_istore_n (i := 1) (ls' := [some (.ref 355), some (.int (0 : Int32)), none, none, none, none]) rfl rfl rfl (Nat.le_of_ble_eq_true rfl) rfl ?_
  refine X_iconst (v := (0 : Int32)) rfl rfl rfl ?_
  refine X_istore_n (i := 2) (ls' := [some (.ref 355), some (.int (0 : Int32)), some (.int (0 : Int32)), none, none, none]) rfl rfl rfl (Nat.le_of_ble_eq_true rfl) rfl ?_
  refine X_iconst (v := (1 : Int32)) rfl rfl rfl ?_
  refine X_istore_n (i := 3) (ls' := [some (.ref 355), some (.int (0 : Int32)), some (.int (0 : Int32)), some (.int (1 : Int32)), none, none]) rfl rfl rfl (Nat.le_of_ble_eq_true rfl) rfl ?_
  exact (C_X13_either_all (((300 - (Gi g 355 12).toInt) * 1 + 0) + 1 : Int).toNat) _ V hG hF (0 : Int32) 0 (show (0 : Int32).toInt = 0 from rfl) (by omega) (0 : Int32) 0 (show (0 : Int32).toInt = 0 from rfl) (by omega) (1 : Int32) 1 (show (1 : Int32).toInt = 1 from rfl) (by omega) none none  (by rw [evz1] <;> omega) (by rw [evz1, evz2] <;> omega) (by rw [evz2, evz3] <;> omega) (by rw [evz3] <;> omega) (by rw [evz5, evz1, evz2] <;> omega) (by rw [evz6, evz7] <;> omega) (by rw [evz7] <;> omega) (by omega) (by rw [evz10] <;> omega) (by rw [evz10] <;> omega) (by rw [evz9] <;> omega) (by rw [evz9] <;> omega) (by rw [evz9, evz1] <;> omega) (by rw [evz6] <;> omega) (by rw [evz1] <;> omega) (by rw [evz1] <;> omega) (by omega) (by rw [evz6, evz9]; exact (hq10.tt (by omega)))  (by rw [evz1] <;> omega)
