/-! the reader: sums -/
set_option maxRecDepth 10000 in
set_option maxHeartbeats 40000000 in
theorem C_X13_whole_5 {P : Par} {vs vn vt : Nat} {voz : Int} {g g0 : LH} {d n : Nat}  (V : InvR P g) (hG : Gr g = Gr g0) (hF : (vSm vsc g g0 ∧ vCd g g0))  (hq0 : (Gi g 355 16).toInt = 873 * (Gi g 356 4).toInt) (hq1 : (Gi g 356 4).toInt ≤ 3) (hq2 : 0 ≤ (Gi g 355 18).toInt) (hq3 : 0 ≤ (Gi g 355 21).toInt) (hq4 : (Gi g 355 18).toInt + (Gi g 355 21).toInt ≤ (Gi g 355 12).toInt) (hq5 : (Gi g 355 12).toInt ≤ 300) (hq6 : (Gi g 355 18).toInt + (Gi g 355 21).toInt = (Gi g0 355 18).toInt + (Gi g0 355 21).toInt) (hq7 : (Gi g0 355 18).toInt ≤ (Gi g 355 18).toInt) (hq8 : (Gi g 355 16).toInt = (Gi g0 355 16).toInt) (hq9 : (Gi g 355 23).toInt = 1) (hq10 : vSV (Gi g 358) (Gi g 362) (Int.toNat (Gi g 355 16).toInt + 265) vs vn vt (Gi g 355 18).toInt (Gi g 355 21).toInt (Gi g 355 22).toInt (voz) (1) (Gi g 355 12).toInt) (hmu : (Gi g 355 21).toInt * 1 + 0 < (n : Int) + 1) (ih5 : ∀ (g : LH) (V : InvR P g) (hG : Gr g = Gr g0) (hF : (vSm vsc g g0 ∧ vCd g g0))  (hq0 : (Gi g 355 16).toInt = 873 * (Gi g 356 4).toInt) (hq1 : (Gi g 356 4).toInt ≤ 3) (hq2 : 0 ≤ (Gi g 355 18).toInt) (hq3 : 0 ≤ (Gi g 355 21).toInt) (hq4 : (Gi g 355 18).toInt + (Gi g 355 21).toInt ≤ (Gi g 355 12).toInt) (hq5 : (Gi g 355 12).toInt ≤ 300) (hq6 : (Gi g 355 18).toInt + (Gi g 355 21).toInt = (Gi g0 355 18).toInt + (Gi g0 355 21).toInt) (hq7 : (Gi g0 355 18).toInt ≤ (Gi g 355 18).toInt) (hq8 : (Gi g 355 16).toInt = (Gi g0 355 16).toInt) (hq9 : (Gi g 355 23).toInt = 1) (hq10 : vSV (Gi g 358) (Gi g 362) (Int.toNat (Gi g 355 16).toInt + 265) vs vn vt (Gi g 355 18).toInt (Gi g 355 21).toInt (Gi g 355 22).toInt (voz) (1) (Gi g 355 12).toInt), (Gi g 355 21).toInt * 1 + 0 < (n : Int) → LW 208 (d + 6) 0 0 5 [some (.ref 355)] [] g (fun v g' => v = none ∧ InvR P g' ∧ Gr g' = Gr g0 ∧ (vSm vsc g' g0 ∧ vCd g' g0) ∧ ((Gi g' 355 23).toInt = 1) ∧ ((Gi g' 355 18).toInt + (Gi g' 355 21).toInt = (Gi g0 355 18).toInt + (Gi g0 355 21).toInt) ∧ ((Gi g0 355 18).toInt ≤ (Gi g' 355 18).toInt) ∧ ((Gi g' 355 16).toInt = (Gi g0 355 16).toInt) ∧ (0 ≤ (Gi g' 355 21).toInt) ∧ (vSV (Gi g' 358) (Gi g' 362) (Int.toNat (Gi g' 355 16).toInt + 265) vs vn vt (Gi g' 355 18).toInt (Gi g' 355 21).toInt (Gi g' 355 22).toInt (voz) (1) (Gi g' 355 12).toInt))) : LW 208 (d + 6) 0 0 5 [some (.ref 355)] [] g (fun v g' => v = none ∧ InvR P g' ∧ Gr g' = Gr g0 ∧ (vSm vsc g' g0 ∧ vCd g' g0) ∧ ((Gi g' 355 23).toInt = 1) ∧ ((Gi g' 355 18).toInt + (Gi g' 355 21).toInt = (Gi g0 355 18).toInt + (Gi g0 355 21).toInt) ∧ ((Gi g0 355 18).toInt ≤ (Gi g' 355 18).toInt) ∧ ((Gi g' 355 16).toInt = (Gi g0 355 16).toInt) ∧ (0 ≤ (Gi g' 355 21).toInt) ∧ (vSV (Gi g' 358) (Gi g' 362) (Int.toNat (Gi g' 355 16).toInt + 265) vs vn vt (Gi g' 355 18).toInt (Gi g' 355 21).toInt (Gi g' 355 22).toInt (voz) (1) (Gi g' 355 12).toInt)) := by
  obtain ⟨vz1, evz1⟩ : ∃ z, Gi g 355 16 = z := ⟨_, rfl⟩
  rw [evz1] at hq0
  obtain ⟨vz2, evz2⟩ : ∃ z, Gi g 356 4 = z := ⟨_, rfl⟩
  have vf3 := A_TEXTS (V.2.2.2.1 (4)) (by omega)
  rw [evz2] at vf3
  rw [evz2] at hq0
  rw [evz2] at hq1
  obtain ⟨vz4, evz4⟩ : ∃ z, Gi g 355 18 = z := ⟨_, rfl⟩
  rw [evz4] at hq2
  obtain ⟨vz5, evz5⟩ : ∃ z, Gi g 355 21 = z := ⟨_, rfl⟩
  rw [evz5] at hq3
  rw [evz4] at hq4
  rw [evz5] at hq4
  obtain ⟨vz6, evz6⟩ : ∃ z, Gi g 355 12 = z := ⟨_, rfl⟩
  rw [evz6] at hq4
  rw [evz6] at hq5
  rw [evz4] at hq6
  rw [evz5] at hq6
  rw [evz4] at hq7
  rw [evz1] at hq8
  obtain ⟨vz7, evz7⟩ : ∃ z, Gi g 355 23 = z := ⟨_, rfl⟩
  rw [evz7] at hq9
  rw [evz1] at hq10
  rw [evz4] at hq10
  rw [evz5] at hq10
  obtain ⟨vz8, evz8⟩ : ∃ z, Gi g 355 22 = z := ⟨_, rfl⟩
  rw [evz8] at hq10
  rw [evz6] at hq10
  have vu9 := hq10.ub (by omega)
  have vu10 := hq10.opn
  rw [evz5] at hmu
  refine X_aload_n rfl rfl rfl rfl ?_
  refine X_getI (v := vz5) rfl rfl rfl ((congrFun V.1 355).trans s_355) rfl evz5 ?_
  refine S_if_le (tgt := 56) rfl rfl rfl rfl (fun vh11 => ?_) (fun vh11 => ?_)
  · exact LW_return (st := []) rfl rfl ⟨rfl, V, hG, hF, (by rw [evz7] <;> omega), (by rw [evz4, evz5] <;> omega), (by rw [evz4] <;> omega), (by rw [evz1] <;> omega), (by rw [evz5] <;> omega), (by rw [evz1, evz4, evz5, evz8, evz6]; exact (hq10))⟩
  · refine X_aload_n rfl rfl rfl rfl ?_
    refine X_getR (a := 362) rfl rfl rfl ((congrFun V.1 355).trans s_355) rfl ((congrFun (V.2.1 355 (by decide)) 20).trans r_355_20) ?_
    refine X_aload_n rfl rfl rfl rfl ?_
    refine X_getI (v := vz5) rfl rfl rfl ((congrFun V.1 355).trans s_355) rfl evz5 ?_
    refine X_iconst (v := (1 : Int32)) rfl rfl rfl ?_
    refine S_isub rfl rfl rfl (show (1 : Int32).toInt = 1 from rfl) (by omega) (fun vz12 hvz12 => ?_)
    refine S_iald rfl rfl ((congrFun V.1 362).trans s_362) rfl (by omega) (fun vz13 evz13 => ?_)
    have vt14 := evz13
    refine X_iconst (v := (2 : Int32)) rfl rfl rfl ?_
    refine S_icmp_ne (tgt := 56) rfl rfl rfl rfl (show (2 : Int32).toInt = 2 from rfl) (fun vh15 => ?_) (fun vh15 => ?_)
    · exact LW_return (st := []) rfl rfl ⟨rfl, V, hG, hF, (by rw [evz7] <;> omega), (by rw [evz4, evz5] <;> omega), (by rw [evz4] <;> omega), (by rw [evz1] <;> omega), (by rw [evz5] <;> omega), (by rw [evz1, evz4, evz5, evz8, evz6]; exact (hq10))⟩
    · refine X_aload_n rfl rfl rfl rfl ?_
      refine X_dup rfl rfl rfl ?_
      refine X_getI (v := vz5) rfl rfl rfl ((congrFun V.1 355).trans s_355) rfl evz5 ?_
      refine X_iconst (v := (1 : Int32)) rfl rfl rfl ?_
      refine S_isub rfl rfl rfl (show (1 : Int32).toInt = 1 from rfl) (by omega) (fun vz16 hvz16 => ?_)
      refine S_putI (I := InvR _) rfl rfl rfl ((congrFun V.1 355).trans s_355) rfl rfl rfl rfl (InvR_putO V (by decide) trivial) (fun g V ve17 vn18 hq => ?_)
      have hG := hq.trans hG
      have hF := And.intro (vSm.putN hF.1 vn18 (by decide)) (vCd.oth hF.2 (fun k => vn18 358 k (Or.inl (by decide))))
      have evz1 := (vn18 (355) 16 (Or.inr (by decide))).trans evz1
      have evz2 := (vn18 (356) 4 (Or.inl (by decide))).trans evz2
      have evz4 := (vn18 (355) 18 (Or.inr (by decide))).trans evz4
      have evz6 := (vn18 (355) 12 (Or.inr (by decide))).trans evz6
      have evz7 := (vn18 (355) 23 (Or.inr (by decide))).trans evz7
      have evz8 := (vn18 (355) 22 (Or.inr (by decide))).trans evz8
      have evz13 := (vn18 (362) ((vz12.toInt : Int).toNat) (Or.inl (by decide))).trans evz13
      rw [← (funext fun k => vn18 358 k (Or.inl (by decide)) : Gi g 358 = _)] at hq10
      rw [← (funext fun k => vn18 362 k (Or.inl (by decide)) : Gi g 362 = _)] at hq10 vt14
      refine X_aload_n rfl rfl rfl rfl ?_
      refine X_dup rfl rfl rfl ?_
      refine X_getI (v := vz8) rfl rfl rfl ((congrFun V.1 355).trans s_355) rfl evz8 ?_
      refine X_iconst (v := (1 : Int32)) rfl rfl rfl ?_
      refine S_isub rfl rfl rfl (show (1 : Int32).toInt = 1 from rfl) (by omega) (fun vz19 hvz19 => ?_)
      refine S_putI (I := InvR _) rfl rfl rfl ((congrFun V.1 355).trans s_355) rfl rfl rfl rfl (InvR_putO V (by decide) trivial) (fun g V ve20 vn21 hq => ?_)
      have hG := hq.trans hG
      have hF := And.intro (vSm.putN hF.1 vn21 (by decide)) (vCd.oth hF.2 (fun k => vn21 358 k (Or.inl (by decide))))
      have evz1 := (vn21 (355) 16 (Or.inr (by decide))).trans evz1
      have evz2 := (vn21 (356) 4 (Or.inl (by decide))).trans evz2
      have evz4 := (vn21 (355) 18 (Or.inr (by decide))).trans evz4
      have evz6 := (vn21 (355) 12 (Or.inr (by decide))).trans evz6
      have evz7 := (vn21 (355) 23 (Or.inr (by decide))).trans evz7
      have evz13 := (vn21 (362) ((vz12.toInt : Int).toNat) (Or.inl (by decide))).trans evz13
      have ve17 := (vn21 (355) 21 (Or.inr (by decide))).trans ve17
      rw [← (funext fun k => vn21 358 k (Or.inl (by decide)) : Gi g 358 = _)] at hq10
      rw [← (funext fun k => vn21 362 k (Or.inl (by decide)) : Gi g 362 = _)] at hq10 vt14
      refine X_aload_n rfl rfl rfl rfl ?_
      refine X_iconst (v := (2 : Int32)) rfl rfl rfl ?_
      refine X_iconst (v := (0 : Int32)) rfl rfl rfl ?_
      have vo355_18 : (Gi g 355 18).toInt = vz4.toInt := congrArg Int32.toInt evz4
      have vo355_16 : (Gi g 355 16).toInt = vz1.toInt := congrArg Int32.toInt evz1
      refine Y_callV (as := [.int (2 : Int32), .int (0 : Int32)]) (st := []) rfl rfl rfl (by decide) rfl (Nat.le_of_ble_eq_true rfl) (by decide) (Nat.le_of_ble_eq_true rfl) rfl ((congrFun V.1 355).trans s_355) (by decide) (C_X13_emit V (2 : Int32) 2 (show (2 : Int32).toInt = 2 from rfl) (0 : Int32) 0 (show (0 : Int32).toInt = 0 from rfl) (by rw [evz4] <;> omega) (by rw [evz4] <;> omega) (by rw [evz1, evz2] <;> omega) (by rw [evz2] <;> omega)) ?_
      rintro _ g ⟨rfl, V, hq, chF, vq23, vq24, vq25⟩
      have hG := hq.trans hG
      have evz1 := (chF 355 16 (by decide)).trans evz1
      have evz2 := (chF 356 4 (by decide)).trans evz2
      have evz6 := (chF 355 12 (by decide)).trans evz6
      have evz7 := (chF 355 23 (by decide)).trans evz7
      have ve17 := (chF 355 21 (by decide)).trans ve17
      have ve20 := (chF 355 22 (by decide)).trans ve20
      have hF := And.intro (vSm.tr chF vi_cb hF.1) (vCd.em hF.2 vq24 (by omega))
      obtain ⟨vz26, evz26⟩ : ∃ z, Gi g 355 18 = z := ⟨_, rfl⟩
      rw [evz26] at vq23
      rw [evz1] at vq25
      rw [← (funext fun k => chF 362 k ⟨by decide, Or.inl (by decide)⟩ : Gi g 362 = _)] at hq10 vt14
      refine LW_goto (tgt := 5) rfl rfl ?_
      exact ih5 _ V hG hF   (by rw [evz1, evz2] <;> omega) (by rw [evz2] <;> omega) (by rw [evz26] <;> omega) (by rw [ve17] <;> omega) (by rw [evz26, ve17, evz6] <;> omega) (by rw [evz6] <;> omega) (by rw [evz26, ve17] <;> omega) (by rw [evz26] <;> omega) (by rw [evz1] <;> omega) (by rw [evz7] <;> omega) (by rw [evz1, evz26, ve17, ve20, evz6]; exact (by
            refine vSV.neg hq10 (by omega) ?_ vq24 (by omega) rfl (by omega) (by omega) (by omega)
            rw [show Int.toNat (vz5.toInt - 1) = Int.toNat vz12.toInt by omega, vt14]
            omega))  (by rw [ve17] <;> omega)
theorem C_X13_whole_all {P : Par} {vs vn vt : Nat} {voz : Int} {g0 : LH} {d : Nat}  : ∀ n : Nat, (∀ (g : LH) (V : InvR P g) (hG : Gr g = Gr g0) (hF : (vSm vsc g g0 ∧ vCd g g0))  (hq0 : (Gi g 355 16).toInt = 873 * (Gi g 356 4).toInt) (hq1 : (Gi g 356 4).toInt ≤ 3) (hq2 : 0 ≤ (Gi g 355 18).toInt) (hq3 : 0 ≤ (Gi g 355 21).toInt) (hq4 : (Gi g 355 18).toInt + (Gi g 355 21).toInt ≤ (Gi g 355 12).toInt) (hq5 : (Gi g 355 12).toInt ≤ 300) (hq6 : (Gi g 355 18).toInt + (Gi g 355 21).toInt = (Gi g0 355 18).toInt + (Gi g0 355 21).toInt) (hq7 : (Gi g0 355 18).toInt ≤ (Gi g 355 18).toInt) (hq8 : (Gi g 355 16).toInt = (Gi g0 355 16).toInt) (hq9 : (Gi g 355 23).toInt = 1) (hq10 : vSV (Gi g 358) (Gi g 362) (Int.toNat (Gi g 355 16).toInt + 265) vs vn vt (Gi g 355 18).toInt (Gi g 355 21).toInt (Gi g 355 22).toInt (voz) (1) (Gi g 355 12).toInt), (Gi g 355 21).toInt * 1 + 0 < (n : Int) → LW 208 (d + 6) 0 0 5 [some (.ref 355)] [] g (fun v g' => v = none ∧ InvR P g' ∧ Gr g' = Gr g0 ∧ (vSm vsc g' g0 ∧ vCd g' g0) ∧ ((Gi g' 355 23).toInt = 1) ∧ ((Gi g' 355 18).toInt + (Gi g' 355 21).toInt = (Gi g0 355 18).toInt + (Gi g0 355 21).toInt) ∧ ((Gi g0 355 18).toInt ≤ (Gi g' 355 18).toInt) ∧ ((Gi g' 355 16).toInt = (Gi g0 355 16).toInt) ∧ (0 ≤ (Gi g' 355 21).toInt) ∧ (vSV (Gi g' 358) (Gi g' 362) (Int.toNat (Gi g' 355 16).toInt + 265) vs vn vt (Gi g' 355 18).toInt (Gi g' 355 21).toInt (Gi g' 355 22).toInt (voz) (1) (Gi g' 355 12).toInt))) := by
  intro n
  induction n with
  | zero => exact fun g V hG hF hq0 hq1 hq2 hq3 hq4 hq5 hq6 hq7 hq8 hq9 hq10 hmu => absurd hmu (by omega)
  | succ n ih => exact fun g V hG hF hq0 hq1 hq2 hq3 hq4 hq5 hq6 hq7 hq8 hq9 hq10 hmu => C_X13_whole_5  V hG hF hq0 hq1 hq2 hq3 hq4 hq5 hq6 hq7 hq8 hq9 hq10 (by omega) ih
set_option maxRecDepth 10000 in
set_option maxHeartbeats 40000000 in
theorem C_X13_whole {P : Par} {vs vn vt : Nat} {voz : Int} {g : LH} {d : Nat}  (V : InvR P g)  (hq0 : (Gi g 355 16).toInt = 873 * (Gi g 356 4).toInt) (hq1 : (Gi g 356 4).toInt ≤ 3) (hq2 : 0 ≤ (Gi g 355 18).toInt) (hq3 : 0 ≤ (Gi g 355 21).toInt) (hq4 : (Gi g 355 18).toInt + (Gi g 355 21).toInt ≤ (Gi g 355 12).toInt) (hq5 : (Gi g 355 12).toInt ≤ 300) (hq6 : vSV (Gi g 358) (Gi g 362) (Int.toNat (Gi g 355 16).toInt + 265) vs vn vt (Gi g 355 18).toInt (Gi g 355 21).toInt (Gi g 355 22).toInt (voz) (1) (Gi g 355 12).toInt)  : LW 208 (d + 6) 0 0 0 (lEnt (mL 208) [.ref 355]) [] g (fun v g' => v = none ∧ InvR P g' ∧ Gr g' = Gr g ∧ (vSm vsc g' g ∧ vCd g' g) ∧ ((Gi g' 355 23).toInt = 1) ∧ ((Gi g' 355 18).toInt + (Gi g' 355 21).toInt = (Gi g 355 18).toInt + (Gi g 355 21).toInt) ∧ ((Gi g 355 18).toInt ≤ (Gi g' 355 18).toInt) ∧ ((Gi g' 355 16).toInt = (Gi g 355 16).toInt) ∧ (0 ≤ (Gi g' 355 21).toInt) ∧ (vSV (Gi g' 358) (Gi g' 362) (Int.toNat (Gi g' 355 16).toInt + 265) vs vn vt (Gi g' 355 18).toInt (Gi g' 355 21).toInt (Gi g' 355 22).toInt (voz) (1) (Gi g' 355 12).toInt)) := by
  refine LW_ls (ls' := [some (.ref 355)]) rfl ?_
  have hG : Gr g = Gr g := rfl
  have hF : (vSm vsc g g ∧ vCd g g) := And.intro vSm.refl vCd.refl
  obtain ⟨vz1, evz1⟩ : ∃ z, Gi g 355 16 = z := ⟨_, rfl⟩
  rw [evz1] at hq0
  obtain ⟨vz2, evz2⟩ : ∃ z, Gi g 356 4 = z := ⟨_, rfl⟩
  have vf3 := A_TEXTS (V.2.2.2.1 (4)) (by omega)
  rw [evz2] at vf3
  rw [evz2] at hq0
  rw [evz2] at hq1
  obtain ⟨vz4, evz4⟩ : ∃ z, Gi g 355 18 = z := ⟨_, rfl⟩
  rw [evz4] at hq2
  obtain ⟨vz5, evz5⟩ : ∃ z, Gi g 355 21 = z := ⟨_, rfl⟩
  rw [evz5] at hq3
  rw [evz4] at hq4
  rw [evz5] at hq4
  obtain ⟨vz6, evz6⟩ : ∃ z, Gi g 355 12 = z := ⟨_, rfl⟩
  rw [evz6] at hq4
  rw [evz6] at hq5
  rw [evz1] at hq6
  rw [evz4] at hq6
  rw [evz5] at hq6
  obtain ⟨vz7, evz7⟩ : ∃ z, Gi g 355 22 = z := ⟨_, rfl⟩
  rw [evz7] at hq6
  rw [evz6] at hq6
  have vu8 := hq6.ub (by omega)
  have vu9 := hq6.opn
  have vo355_18 : (Gi g 355 18).toInt = vz4.toInt := congrArg Int32.toInt evz4
  have vo355_21 : (Gi g 355 21).toInt = vz5.toInt := congrArg Int32.toInt evz5
  have vo355_16 : (Gi g 355 16).toInt = vz1.toInt := congrArg Int32.toInt evz1
  refine X_aload_n rfl rfl rfl rfl ?_
  refine X_iconst (v := (1 : Int32)) rfl rfl rfl ?_
  refine S_putI (I := InvR _) rfl rfl rfl ((congrFun V.1 355).trans s_355) rfl rfl rfl rfl (InvR_putO V (by decide) trivial) (fun g V ve10 vn11 hq => ?_)
  have hG := hq.trans hG
  have hF := And.intro (vSm.putN hF.1 vn11 (by decide)) (vCd.oth hF.2 (fun k => vn11 358 k (Or.inl (by decide))))
  have evz1 := (vn11 (355) 16 (Or.inr (by decide))).trans evz1
  have evz2 := (vn11 (356) 4 (Or.inl (by decide))).trans evz2
  have evz4 := (vn11 (355) 18 (Or.inr (by decide))).trans evz4
  have evz5 := (vn11 (355) 21 (Or.inr (by decide))).trans evz5
  have evz6 := (vn11 (355) 12 (Or.inr (by decide))).trans evz6
  have evz7 := (vn11 (355) 22 (Or.inr (by decide))).trans evz7
  rw [← (funext fun k => vn11 358 k (Or.inl (by decide)) : Gi g 358 = _)] at hq6
  rw [← (funext fun k => vn11 362 k (Or.inl (by decide)) : Gi g 362 = _)] at hq6
  exact (C_X13_whole_all (((Gi g 355 21).toInt * 1 + 0) + 1 : Int).toNat) _ V hG hF   (by rw [evz1, evz2] <;> omega) (by rw [evz2] <;> omega) (by rw [evz4] <;> omega) (by rw [evz5] <;> omega) (by rw [evz4, evz5, evz6] <;> omega) (by rw [evz6] <;> omega) (by rw [evz4, evz5] <;> omega) (by rw [evz4] <;> omega) (by rw [evz1] <;> omega) (by have vk0 := (show (1 : Int32).toInt = 1 from rfl); rw [ve10] <;> omega) (by rw [evz1, evz4, evz5, evz7, evz6]; exact (hq6))  (by rw [evz5] <;> omega)
set_option maxRecDepth 10000 in
set_option maxHeartbeats 40000000 in
theorem C_X13_settle_0 {P : Par} {vs vn vt : Nat} {voz : Int} {g g0 : LH} {d n : Nat}  (V : InvR P g) (hG : Gr g = Gr g0) (hF : (vSm vsc g g0 ∧ vCd g g0)) (x1 : Int32) (y1 : Int) (hx1 : x1.toInt = y1) (hf1 : 3 ≤ y1 ∧ y1 ≤ 5) (hq0 : (Gi g 355 16).toInt = 873 * (Gi g 356 4).toInt) (hq1 : (Gi g 356 4).toInt ≤ 3) (hq2 : 0 ≤ (Gi g 355 18).toInt) (hq3 : 0 ≤ (Gi g 355 21).toInt) (hq4 : (Gi g 355 18).toInt + (Gi g 355 21).toInt ≤ (Gi g 355 12).toInt) (hq5 : (Gi g 355 12).toInt ≤ 300) (hq6 : (Gi g 355 18).toInt + (Gi g 355 21).toInt = (Gi g0 355 18).toInt + (Gi g0 355 21).toInt) (hq7 : (Gi g0 355 18).toInt ≤ (Gi g 355 18).toInt) (hq8 : (Gi g 355 16).toInt = (Gi g0 355 16).toInt) (hq9 : (Gi g 355 22).toInt = (Gi g0 355 22).toInt) (hq10 : vSV (Gi g 358) (Gi g 362) (Int.toNat (Gi g 355 16).toInt + 265) vs vn vt (Gi g 355 18).toInt (Gi g 355 21).toInt (Gi g 355 22).toInt (voz) (1) (Gi g 355 12).toInt) (hq11 : ∀ k : Nat, (Gi g 355 21).toInt ≤ ↑k → ↑k < (Gi g0 355 21).toInt → ((Gi g 362) k).toInt < 40) (hq12 : (Gi g 355 21).toInt ≤ (Gi g0 355 21).toInt) (hmu : (Gi g 355 21).toInt * 1 + 0 < (n : Int) + 1) (ih0 : ∀ (g : LH) (V : InvR P g) (hG : Gr g = Gr g0) (hF : (vSm vsc g g0 ∧ vCd g g0)) (x1 : Int32) (y1 : Int) (hx1 : x1.toInt = y1) (hf1 : 3 ≤ y1 ∧ y1 ≤ 5) (hq0 : (Gi g 355 16).toInt = 873 * (Gi g 356 4).toInt) (hq1 : (Gi g 356 4).toInt ≤ 3) (hq2 : 0 ≤ (Gi g 355 18).toInt) (hq3 : 0 ≤ (Gi g 355 21).toInt) (hq4 : (Gi g 355 18).toInt + (Gi g 355 21).toInt ≤ (Gi g 355 12).toInt) (hq5 : (Gi g 355 12).toInt ≤ 300) (hq6 : (Gi g 355 18).toInt + (Gi g 355 21).toInt = (Gi g0 355 18).toInt + (Gi g0 355 21).toInt) (hq7 : (Gi g0 355 18).toInt ≤ (Gi g 355 18).toInt) (hq8 : (Gi g 355 16).toInt = (Gi g0 355 16).toInt) (hq9 : (Gi g 355 22).toInt = (Gi g0 355 22).toInt) (hq10 : vSV (Gi g 358) (Gi g 362) (Int.toNat (Gi g 355 16).toInt + 265) vs vn vt (Gi g 355 18).toInt (Gi g 355 21).toInt (Gi g 355 22).toInt (voz) (1) (Gi g 355 12).toInt) (hq11 : ∀ k : Nat, (Gi g 355 21).toInt ≤ ↑k → ↑k < (Gi g0 355 21).toInt → ((Gi g 362) k).toInt < 40) (hq12 : (Gi g 355 21).toInt ≤ (Gi g0 355 21).toInt), (Gi g 355 21).toInt * 1 + 0 < (n : Int) → LW 209 (d + 6) 0 0 0 [some (.ref 355), some (.int x1)] [] g (fun v g' => v = none ∧ InvR P g' ∧ Gr g' = Gr g0 ∧ (vSm vsc g' g0 ∧ vCd g' g0) ∧ ((Gi g' 355 18).toInt + (Gi g' 355 21).toInt = (Gi g0 355 18).toInt + (Gi g0 355 21).toInt) ∧ ((Gi g0 355 18).toInt ≤ (Gi g' 355 18).toInt) ∧ ((Gi g' 355 16).toInt = (Gi g0 355 16).toInt) ∧ (0 ≤ (Gi g' 355 21).toInt) ∧ ((Gi g' 355 21).toInt ≤ (Gi g0 355 21).toInt) ∧ ((Gi g' 355 22).toInt = (Gi g0 355 22).toInt) ∧ (vSV (Gi g' 358) (Gi g' 362) (Int.toNat (Gi g' 355 16).toInt + 265) vs vn vt (Gi g' 355 18).toInt (Gi g' 355 21).toInt (Gi g' 355 22).toInt (voz) (1) (Gi g' 355 12).toInt) ∧ (∀ k : Nat, (Gi g' 355 21).toInt ≤ ↑k → ↑k < (Gi g0 355 21).toInt → ((Gi g' 362) k).toInt < 40) ∧ ((Gi g' 355 21).toInt = 0 ∨ ¬ (y1 ≤ ((Gi g' 362) (Int.toNat ((Gi g' 355 21).toInt - 1))).toInt ∧ ((Gi g' 362) (Int.toNat ((Gi g' 355 21).toInt - 1))).toInt < 40)))) : LW 209 (d + 6) 0 0 0 [some (.ref 355), some (.int x1)] [] g (fun v g' => v = none ∧ InvR P g' ∧ Gr g' = Gr g0 ∧ (vSm vsc g' g0 ∧ vCd g' g0) ∧ ((Gi g' 355 18).toInt + (Gi g' 355 21).toInt = (Gi g0 355 18).toInt + (Gi g0 355 21).toInt) ∧ ((Gi g0 355 18).toInt ≤ (Gi g' 355 18).toInt) ∧ ((Gi g' 355 16).toInt = (Gi g0 355 16).toInt) ∧ (0 ≤ (Gi g' 355 21).toInt) ∧ ((Gi g' 355 21).toInt ≤ (Gi g0 355 21).toInt) ∧ ((Gi g' 355 22).toInt = (Gi g0 355 22).toInt) ∧ (vSV (Gi g' 358) (Gi g' 362) (Int.toNat (Gi g' 355 16).toInt + 265) vs vn vt (Gi g' 355 18).toInt (Gi g' 355 21).toInt (Gi g' 355 22).toInt (voz) (1) (Gi g' 355 12).toInt) ∧ (∀ k : Nat, (Gi g' 355 21).toInt ≤ ↑k → ↑k < (Gi g0 355 21).toInt → ((Gi g' 362) k).toInt < 40) ∧ ((Gi g' 355 21).toInt = 0 ∨ ¬ (y1 ≤ ((Gi g' 362) (Int.toNat ((Gi g' 355 21).toInt - 1))).toInt ∧ ((Gi g' 362) (Int.toNat ((Gi g' 355 21).toInt - 1))).toInt < 40))) := by
  obtain ⟨vz1, evz1⟩ : ∃ z, Gi g 355 16 = z := ⟨_, rfl⟩
  rw [evz1] at hq0
  obtain ⟨vz2, evz2⟩ : ∃ z, Gi g 356 4 = z := ⟨_, rfl⟩
  have vf3 := A_TEXTS (V.2.2.2.1 (4)) (by omega)
  rw [evz2] at vf3
  rw [evz2] at hq0
  rw [evz2] at hq1
  obtain ⟨vz4, evz4⟩ : ∃ z, Gi g 355 18 = z := ⟨_, rfl⟩
  rw [evz4] at hq2
  obtain ⟨vz5, evz5⟩ : ∃ z, Gi g 355 21 = z := ⟨_, rfl⟩
  rw [evz5] at hq3
  rw [evz4] at hq4
  rw [evz5] at hq4
  obtain ⟨vz6, evz6⟩ : ∃ z, Gi g 355 12 = z := ⟨_, rfl⟩
  rw [evz6] at hq4
  rw [evz6] at hq5
  rw [evz4] at hq6
  rw [evz5] at hq6
  rw [evz4] at hq7
  rw [evz1] at hq8
  obtain ⟨vz7, evz7⟩ : ∃ z, Gi g 355 22 = z := ⟨_, rfl⟩
  rw [evz7] at hq9
  rw [evz1] at hq10
  rw [evz4] at hq10
  rw [evz5] at hq10
  rw [evz7] at hq10
  rw [evz6] at hq10
  rw [evz5] at hq11
  rw [evz5] at hq12
  have vu8 := hq10.ub (by omega)
  have vu9 := hq10.opn
  rw [evz5] at hmu
  refine X_aload_n rfl rfl rfl rfl ?_
  refine X_getI (v := vz5) rfl rfl rfl ((congrFun V.1 355).trans s_355) rfl evz5 ?_
  refine S_if_le (tgt := 65) rfl rfl rfl rfl (fun vh10 => ?_) (fun vh10 => ?_)
  · exact LW_return (st := []) rfl rfl ⟨rfl, V, hG, hF, (by rw [evz4, evz5] <;> omega), (by rw [evz4] <;> omega), (by rw [evz1] <;> omega), (by rw [evz5] <;> omega), (by rw [evz5] <;> omega), (by rw [evz7] <;> omega), (by rw [evz1, evz4, evz5, evz7, evz6]; exact (hq10)), (by rw [evz5]; exact (hq11)), (by rw [evz5]; exact (by
          exact Or.inl (by omega)))⟩
  · refine X_aload_n rfl rfl rfl rfl ?_
    refine X_getR (a := 362) rfl rfl rfl ((congrFun V.1 355).trans s_355) rfl ((congrFun (V.2.1 355 (by decide)) 20).trans r_355_20) ?_
    refine X_aload_n rfl rfl rfl rfl ?_
    refine X_getI (v := vz5) rfl rfl rfl ((congrFun V.1 355).trans s_355) rfl evz5 ?_
    refine X_iconst (v := (1 : Int32)) rfl rfl rfl ?_
    refine S_isub rfl rfl rfl (show (1 : Int32).toInt = 1 from rfl) (by omega) (fun vz11 hvz11 => ?_)
    refine S_iald rfl rfl ((congrFun V.1 362).trans s_362) rfl (by omega) (fun vz12 evz12 => ?_)
    have vt13 := evz12
    refine X_bipush (v := (40 : Int32)) rfl rfl rfl ?_
    refine S_icmp_ge (tgt := 65) rfl rfl rfl rfl (show (40 : Int32).toInt = 40 from rfl) (fun vh14 => ?_) (fun vh14 => ?_)
    · exact LW_return (st := []) rfl rfl ⟨rfl, V, hG, hF, (by rw [evz4, evz5] <;> omega), (by rw [evz4] <;> omega), (by rw [evz1] <;> omega), (by rw [evz5] <;> omega), (by rw [evz5] <;> omega), (by rw [evz7] <;> omega), (by rw [evz1, evz4, evz5, evz7, evz6]; exact (hq10)), (by rw [evz5]; exact (hq11)), (by rw [evz5]; exact (by
            refine Or.inr ?_
            rw [show Int.toNat (vz5.toInt - 1) = Int.toNat vz11.toInt by omega, vt13]
            omega))⟩
    · refine X_aload_n rfl rfl rfl rfl ?_
      refine X_getR (a := 362) rfl rfl rfl ((congrFun V.1 355).trans s_355) rfl ((congrFun (V.2.1 355 (by decide)) 20).trans r_355_20) ?_
      refine X_aload_n rfl rfl rfl rfl ?_
      refine X_getI (v := vz5) rfl rfl rfl ((congrFun V.1 355).trans s_355) rfl evz5 ?_
      refine X_iconst (v := (1 : Int32)) rfl rfl rfl ?_
      refine S_isub rfl rfl rfl (show (1 : Int32).toInt = 1 from rfl) (by omega) (fun vz15 hvz15 => ?_)
      refine S_iald rfl rfl ((congrFun V.1 362).trans s_362) rfl (by omega) (fun vz16 evz16 => ?_)
      have vt17 := evz16
      refine X_iload_n rfl rfl rfl rfl ?_
      refine S_icmp_lt (tgt := 65) rfl rfl rfl rfl hx1 (fun vh18 => ?_) (fun vh18 => ?_)
      · exact LW_return (st := []) rfl rfl ⟨rfl, V, hG, hF, (by rw [evz4, evz5] <;> omega), (by rw [evz4] <;> omega), (by rw [evz1] <;> omega), (by rw [evz5] <;> omega), (by rw [evz5] <;> omega), (by rw [evz7] <;> omega), (by rw [evz1, evz4, evz5, evz7, evz6]; exact (hq10)), (by rw [evz5]; exact (hq11)), (by rw [evz5]; exact (by
              have vqq : vz16.toInt = vz12.toInt := by rw [← vt17, ← vt13, show Int.toNat vz15.toInt = Int.toNat vz11.toInt by omega]
              refine Or.inr ?_
              rw [show Int.toNat (vz5.toInt - 1) = Int.toNat vz11.toInt by omega, vt13]
              omega))⟩
      · refine X_aload_n rfl rfl rfl rfl ?_
        refine X_dup rfl rfl rfl ?_
        refine X_getI (v := vz5) rfl rfl rfl ((congrFun V.1 355).trans s_355) rfl evz5 ?_
        refine X_iconst (v := (1 : Int32)) rfl rfl rfl ?_
        refine S_isub rfl rfl rfl (show (1 : Int32).toInt = 1 from rfl) (by omega) (fun vz19 hvz19 => ?_)
        refine S_putI (I := InvR _) rfl rfl rfl ((congrFun V.1 355).trans s_355) rfl rfl rfl rfl (InvR_putO V (by decide) trivial) (fun g V ve20 vn21 hq => ?_)
        have hG := hq.trans hG
        have hF := And.intro (vSm.putN hF.1 vn21 (by decide)) (vCd.oth hF.2 (fun k => vn21 358 k (Or.inl (by decide))))
        have evz1 := (vn21 (355) 16 (Or.inr (by decide))).trans evz1
        have evz2 := (vn21 (356) 4 (Or.inl (by decide))).trans evz2
        have evz4 := (vn21 (355) 18 (Or.inr (by decide))).trans evz4
        have evz6 := (vn21 (355) 12 (Or.inr (by decide))).trans evz6
        have evz7 := (vn21 (355) 22 (Or.inr (by decide))).trans evz7
        have evz12 := (vn21 (362) ((vz11.toInt : Int).toNat) (Or.inl (by decide))).trans evz12
        have evz16 := (vn21 (362) ((vz15.toInt : Int).toNat) (Or.inl (by decide))).trans evz16
        rw [← (funext fun k => vn21 358 k (Or.inl (by decide)) : Gi g 358 = _)] at hq10
        rw [← (funext fun k => vn21 362 k (Or.inl (by decide)) : Gi g 362 = _)] at hq10 hq11 vt13 vt17
        refine X_aload_n rfl rfl rfl rfl ?_
        refine X_aload_n rfl rfl rfl rfl ?_
        refine X_getR (a := 362) rfl rfl rfl ((congrFun V.1 355).trans s_355) rfl ((congrFun (V.2.1 355 (by decide)) 20).trans r_355_20) ?_
        refine X_aload_n rfl rfl rfl rfl ?_
        refine X_getI (v := vz19) rfl rfl rfl ((congrFun V.1 355).trans s_355) rfl ve20 ?_
        refine S_iald rfl rfl ((congrFun V.1 362).trans s_362) rfl (by omega) (fun vz22 evz22 => ?_)
        have vt23 := evz22
        refine X_iconst (v := (0 : Int32)) rfl rfl rfl ?_
        have vo355_18 : (Gi g 355 18).toInt = vz4.toInt := congrArg Int32.toInt evz4
        have vo355_16 : (Gi g 355 16).toInt = vz1.toInt := congrArg Int32.toInt evz1
        refine Y_callV (as := [.int vz22, .int (0 : Int32)]) (st := []) rfl rfl rfl (by decide) rfl (Nat.le_of_ble_eq_true rfl) (by decide) (Nat.le_of_ble_eq_true rfl) rfl ((congrFun V.1 355).trans s_355) (by decide) (C_X13_emit V vz22 vz22.toInt rfl (0 : Int32) 0 (show (0 : Int32).toInt = 0 from rfl) (by rw [evz4] <;> omega) (by rw [evz4] <;> omega) (by rw [evz1, evz2] <;> omega) (by rw [evz2] <;> omega)) ?_
        rintro _ g ⟨rfl, V, hq, chF, vq25, vq26, vq27⟩
        have hG := hq.trans hG
        have evz1 := (chF 355 16 (by decide)).trans evz1
        have evz2 := (chF 356 4 (by decide)).trans evz2
        have evz6 := (chF 355 12 (by decide)).trans evz6
        have evz7 := (chF 355 22 (by decide)).trans evz7
        have ve20 := (chF 355 21 (by decide)).trans ve20
        have hF := And.intro (vSm.tr chF vi_cb hF.1) (vCd.em hF.2 vq26 (by omega))
        obtain ⟨vz28, evz28⟩ : ∃ z, Gi g 355 18 = z := ⟨_, rfl⟩
        rw [evz28] at vq25
        rw [evz1] at vq27
        rw [← (funext fun k => chF 362 k ⟨by decide, Or.inl (by decide)⟩ : Gi g 362 = _)] at hq10 hq11 vt13 vt17 vt23
        refine LW_goto (tgt := 0) rfl rfl ?_
        exact ih0 _ V hG hF x1 y1 hx1 (by omega)  (by rw [evz1, evz2] <;> omega) (by rw [evz2] <;> omega) (by rw [evz28] <;> omega) (by rw [ve20] <;> omega) (by rw [evz28, ve20, evz6] <;> omega) (by rw [evz6] <;> omega) (by rw [evz28, ve20] <;> omega) (by rw [evz28] <;> omega) (by rw [evz1] <;> omega) (by rw [evz7] <;> omega) (by rw [evz1, evz28, ve20, evz7, evz6]; exact (by
              have vqq : vz16.toInt = vz12.toInt := by rw [← vt17, ← vt13, show Int.toNat vz15.toInt = Int.toNat vz11.toInt by omega]
              refine vSV.bin hq10 (by omega) ?_ vq26 (by omega) ?_ (by omega) (by omega)
              · rw [show Int.toNat (vz5.toInt - 1) = Int.toNat vz11.toInt by omega, vt13]
                omega
              · rw [show Int.toNat (vz5.toInt - 1) = Int.toNat vz19.toInt by omega, vt23])) (by rw [ve20]; exact (by
                      intro k vhk1 vhk2
                      by_cases vhk : vz5.toInt ≤ ↑k
                      · exact hq11 k vhk vhk2
                      · rw [show k = Int.toNat vz11.toInt by omega, vt13]
                        omega)) (by rw [ve20] <;> omega)  (by rw [ve20] <;> omega)
theorem C_X13_settle_all {P : Par} {vs vn vt : Nat} {voz : Int} {g0 : LH} {d : Nat}  : ∀ n : Nat, (∀ (g : LH) (V : InvR P g) (hG : Gr g = Gr g0) (hF : (vSm vsc g g0 ∧ vCd g g0)) (x1 : Int32) (y1 : Int) (hx1 : x1.toInt = y1) (hf1 : 3 ≤ y1 ∧ y1 ≤ 5) (hq0 : (Gi g 355 16).toInt = 873 * (Gi g 356 4).toInt) (hq1 : (Gi g 356 4).toInt ≤ 3) (hq2 : 0 ≤ (Gi g 355 18).toInt) (hq3 : 0 ≤ (Gi g 355 21).toInt) (hq4 : (Gi g 355 18).toInt + (Gi g 355 21).toInt ≤ (Gi g 355 12).toInt) (hq5 : (Gi g 355 12).toInt ≤ 300) (hq6 : (Gi g 355 18).toInt + (Gi g 355 21).toInt = (Gi g0 355 18).toInt + (Gi g0 355 21).toInt) (hq7 : (Gi g0 355 18).toInt ≤ (Gi g 355 18).toInt) (hq8 : (Gi g 355 16).toInt = (Gi g0 355 16).toInt) (hq9 : (Gi g 355 22).toInt = (Gi g0 355 22).toInt) (hq10 : vSV (Gi g 358) (Gi g 362) (Int.toNat (Gi g 355 16).toInt + 265) vs vn vt (Gi g 355 18).toInt (Gi g 355 21).toInt (Gi g 355 22).toInt (voz) (1) (Gi g 355 12).toInt) (hq11 : ∀ k : Nat, (Gi g 355 21).toInt ≤ ↑k → ↑k < (Gi g0 355 21).toInt → ((Gi g 362) k).toInt < 40) (hq12 : (Gi g 355 21).toInt ≤ (Gi g0 355 21).toInt), (Gi g 355 21).toInt * 1 + 0 < (n : Int) → LW 209 (d + 6) 0 0 0 [some (.ref 355), some (.int x1)] [] g (fun v g' => v = none ∧ InvR P g' ∧ Gr g' = Gr g0 ∧ (vSm vsc g' g0 ∧ vCd g' g0) ∧ ((Gi g' 355 18).toInt + (Gi g' 355 21).toInt = (Gi g0 355 18).toInt + (Gi g0 355 21).toInt) ∧ ((Gi g0 355 18).toInt ≤ (Gi g' 355 18).toInt) ∧ ((Gi g' 355 16).toInt = (Gi g0 355 16).toInt) ∧ (0 ≤ (Gi g' 355 21).toInt) ∧ ((Gi g' 355 21).toInt ≤ (Gi g0 355 21).toInt) ∧ ((Gi g' 355 22).toInt = (Gi g0 355 22).toInt) ∧ (vSV (Gi g' 358) (Gi g' 362) (Int.toNat (Gi g' 355 16).toInt + 265) vs vn vt (Gi g' 355 18).toInt (Gi g' 355 21).toInt (Gi g' 355 22).toInt (voz) (1) (Gi g' 355 12).toInt) ∧ (∀ k : Nat, (Gi g' 355 21).toInt ≤ ↑k → ↑k < (Gi g0 355 21).toInt → ((Gi g' 362) k).toInt < 40) ∧ ((Gi g' 355 21).toInt = 0 ∨ ¬ (y1 ≤ ((Gi g' 362) (Int.toNat ((Gi g' 355 21).toInt - 1))).toInt ∧ ((Gi g' 362) (Int.toNat ((Gi g' 355 21).toInt - 1))).toInt < 40)))) := by
  intro n
  induction n with
  | zero => exact fun g V hG hF x1 y1 hx1 hf1 hq0 hq1 hq2 hq3 hq4 hq5 hq6 hq7 hq8 hq9 hq10 hq11 hq12 hmu => absurd hmu (by omega)
  | succ n ih => exact fun g V hG hF x1 y1 hx1 hf1 hq0 hq1 hq2 hq3 hq4 hq5 hq6 hq7 hq8 hq9 hq10 hq11 hq12 hmu => C_X13_settle_0  V hG hF x1 y1 hx1 hf1 hq0 hq1 hq2 hq3 hq4 hq5 hq6 hq7 hq8 hq9 hq10 hq11 hq12 (by omega) ih
set_option maxRecDepth 10000 in
set_option maxHeartbeats 40000000 in
theorem C_X13_settle {P : Par} {vs vn vt : Nat} {voz : Int} {g : LH} {d : Nat}  (V : InvR P g) (x1 : Int32) (y1 : Int) (hx1 : x1.toInt = y1) (hf1 : 3 ≤ y1 ∧ y1 ≤ 5) (hq0 : (Gi g 355 16).toInt = 873 * (Gi g 356 4).toInt) (hq1 : (Gi g 356 4).toInt ≤ 3) (hq2 : 0 ≤ (Gi g 355 18).toInt) (hq3 : 0 ≤ (Gi g 355 21).toInt) (hq4 : (Gi g 355 18).toInt + (Gi g 355 21).toInt ≤ (Gi g 355 12).toInt) (hq5 : (Gi g 355 12).toInt ≤ 300) (hq6 : vSV (Gi g 358) (Gi g 362) (Int.toNat (Gi g 355 16).toInt + 265) vs vn vt (Gi g 355 18).toInt (Gi g 355 21).toInt (Gi g 355 22).toInt (voz) (1) (Gi g 355 12).toInt)  : LW 209 (d + 6) 0 0 0 (lEnt (mL 209) [.ref 355, .int x1]) [] g (fun v g' => v = none ∧ InvR P g' ∧ Gr g' = Gr g ∧ (vSm vsc g' g ∧ vCd g' g) ∧ ((Gi g' 355 18).toInt + (Gi g' 355 21).toInt = (Gi g 355 18).toInt + (Gi g 355 21).toInt) ∧ ((Gi g 355 18).toInt ≤ (Gi g' 355 18).toInt) ∧ ((Gi g' 355 16).toInt = (Gi g 355 16).toInt) ∧ (0 ≤ (Gi g' 355 21).toInt) ∧ ((Gi g' 355 21).toInt ≤ (Gi g 355 21).toInt) ∧ ((Gi g' 355 22).toInt = (Gi g 355 22).toInt) ∧ (vSV (Gi g' 358) (Gi g' 362) (Int.toNat (Gi g' 355 16).toInt + 265) vs vn vt (Gi g' 355 18).toInt (Gi g' 355 21).toInt (Gi g' 355 22).toInt (voz) (1) (Gi g' 355 12).toInt) ∧ (∀ k : Nat, (Gi g' 355 21).toInt ≤ ↑k → ↑k < (Gi g 355 21).toInt → ((Gi g' 362) k).toInt < 40) ∧ ((Gi g' 355 21).toInt = 0 ∨ ¬ (y1 ≤ ((Gi g' 362) (Int.toNat ((Gi g' 355 21).toInt - 1))).toInt ∧ ((Gi g' 362) (Int.toNat ((Gi g' 355 21).toInt - 1))).toInt < 40))) := by
  refine LW_ls (ls' := [some (.ref 355), some (.int x1)]) rfl ?_
  have hG : Gr g = Gr g := rfl
  have hF : (vSm vsc g g ∧ vCd g g) := And.intro vSm.refl vCd.refl
  obtain ⟨vz1, evz1⟩ : ∃ z, Gi g 355 16 = z := ⟨_, rfl⟩
  rw [evz1] at hq0
  obtain ⟨vz2, evz2⟩ : ∃ z, Gi g 356 4 = z := ⟨_, rfl⟩
  have vf3 := A_TEXTS (V.2.2.2.1 (4)) (by omega)
  rw [evz2] at vf3
  rw [evz2] at hq0
  rw [evz2] at hq1
  obtain ⟨vz4, evz4⟩ : ∃ z, Gi g 355 18 = z := ⟨_, rfl⟩
  rw [evz4] at hq2
  obtain ⟨vz5, evz5⟩ : ∃ z, Gi g 355 21 = z := ⟨_, rfl⟩
  rw [evz5] at hq3
  rw [evz4] at hq4
  rw [evz5] at hq4
  obtain ⟨vz6, evz6⟩ : ∃ z, Gi g 355 12 = z := ⟨_, rfl⟩
  rw [evz6] at hq4
  rw [evz6] at hq5
  rw [evz1] at hq6
  rw [evz4] at hq6
  rw [evz5] at hq6
  obtain ⟨vz7, evz7⟩ : ∃ z, Gi g 355 22 = z := ⟨_, rfl⟩
  rw [evz7] at hq6
  rw [evz6] at hq6
  have vu8 := hq6.ub (by omega)
  have vu9 := hq6.opn
  have vo355_18 : (Gi g 355 18).toInt = vz4.toInt := congrArg Int32.toInt evz4
  have vo355_21 : (Gi g 355 21).toInt = vz5.toInt := congrArg Int32.toInt evz5
  have vo355_16 : (Gi g 355 16).toInt = vz1.toInt := congrArg Int32.toInt evz1
  have vo355_22 : (Gi g 355 22).toInt = vz7.toInt := congrArg Int32.toInt evz7
  exact (C_X13_settle_all (((Gi g 355 21).toInt * 1 + 0) + 1 : Int).toNat) _ V hG hF x1 y1 hx1 (by omega)  (by rw [evz1, evz2] <;> omega) (by rw [evz2] <;> omega) (by rw [evz4] <;> omega) (by rw [evz5] <;> omega) (by rw [evz4, evz5, evz6] <;> omega) (by rw [evz6] <;> omega) (by rw [evz4, evz5] <;> omega) (by rw [evz4] <;> omega) (by rw [evz1] <;> omega) (by rw [evz7] <;> omega) (by rw [evz1, evz4, evz5, evz7, evz6]; exact (hq6)) (by rw [evz5]; exact (by
        exact fun k vhk1 vhk2 => absurd vhk2 (by omega))) (by rw [evz5] <;> omega)  (by rw [evz5] <;> omega)
set_option maxRecDepth 10000 in
set_option maxHeartbeats 40000000 in
theorem C_X13_beginOne {P : Par} {vs vn vt : Nat} {voz : Int} {g : LH} {d : Nat}  (V : InvR P g)  (hq0 : 0 ≤ (Gi g 355 12).toInt) (hq1 : (Gi g 355 12).toInt ≤ (Gi g 355 11).toInt) (hq2 : (Gi g 355 11).toInt ≤ (Gi g 355 8).toInt) (hq3 : (Gi g 355 8).toInt ≤ 300) (hq4 : (Gi g 355 13).toInt = 0 ∨ (Gi g 355 12).toInt < (Gi g 355 11).toInt) (hq5 : (Gi g 355 16).toInt = 873 * (Gi g 356 4).toInt) (hq6 : (Gi g 356 4).toInt ≤ 3) (hq7 : 0 ≤ (Gi g 355 18).toInt) (hq8 : 0 ≤ (Gi g 355 21).toInt) (hq9 : (Gi g 355 18).toInt + (Gi g 355 21).toInt ≤ (Gi g 355 12).toInt) (hq10 : (Gi g 355 23).toInt = 0) (hq11 : vSV (Gi g 358) (Gi g 362) (Int.toNat (Gi g 355 16).toInt + 265) vs vn vt (Gi g 355 18).toInt (Gi g 355 21).toInt (Gi g 355 22).toInt (voz) (0) (Gi g 355 12).toInt)  : LW 213 (d + 14) 0 0 0 (lEnt (mL 213) [.ref 355]) [] g (fun v g' => ∃ r : Int32, v = some (.int r) ∧ 0 ≤ r.toInt ∧ r.toInt ≤ 5 ∧ InvR P g' ∧ Gr g' = Gr g ∧ (vSm vsd g' g ∧ vCd g' g) ∧ (r.toInt = 0 → (((Gi g 355 12).toInt < (Gi g' 355 12).toInt) ∧ (0 ≤ (Gi g' 355 12).toInt) ∧ ((Gi g' 355 12).toInt ≤ (Gi g' 355 11).toInt) ∧ ((Gi g' 355 11).toInt ≤ (Gi g' 355 8).toInt) ∧ ((Gi g' 355 8).toInt ≤ 300) ∧ ((Gi g' 355 13).toInt = 0 ∨ (Gi g' 355 12).toInt < (Gi g' 355 11).toInt) ∧ ((Gi g' 355 16).toInt = (Gi g 355 16).toInt) ∧ ((Gi g 355 18).toInt ≤ (Gi g' 355 18).toInt) ∧ ((Gi g' 355 18).toInt + (Gi g' 355 21).toInt + (Gi g 355 12).toInt ≤ (Gi g 355 18).toInt + (Gi g 355 21).toInt + (Gi g' 355 12).toInt) ∧ (0 ≤ (Gi g' 355 21).toInt) ∧ ((Gi g' 355 23).toInt = 0 ∨ (Gi g' 355 23).toInt = 1))) ∧ (r.toInt = 0 → vSV (Gi g' 358) (Gi g' 362) (Int.toNat (Gi g' 355 16).toInt + 265) vs vn vt (Gi g' 355 18).toInt (Gi g' 355 21).toInt (Gi g' 355 22).toInt (voz) ((Gi g' 355 23).toInt) (Gi g' 355 12).toInt)) := by
  refine LW_ls (ls' := [some (.ref 355), none]) rfl ?_
  have hG : Gr g = Gr g := rfl
  have hF : (vSm vsd g g ∧ vCd g g) := And.intro vSm.refl vCd.refl
  obtain ⟨vz1, evz1⟩ : ∃ z, Gi g 355 12 = z := ⟨_, rfl⟩
  rw [evz1] at hq0
  rw [evz1] at hq1
  obtain ⟨vz2, evz2⟩ : ∃ z, Gi g 355 11 = z := ⟨_, rfl⟩
  rw [evz2] at hq1
  rw [evz2] at hq2
  obtain ⟨vz3, evz3⟩ : ∃ z, Gi g 355 8 = z := ⟨_, rfl⟩
  have vf4 := O_355_8 (V.2.2.2.2.2.2.1 355 (8) (Nat.le_of_ble_eq_true rfl))
  rw [evz3] at vf4
  rw [evz3] at hq2
  rw [evz3] at hq3
  obtain ⟨vz5, evz5⟩ : ∃ z, Gi g 355 13 = z := ⟨_, rfl⟩
  rw [evz5] at hq4
  rw [evz1] at hq4
  rw [evz2] at hq4
  obtain ⟨vz6, evz6⟩ : ∃ z, Gi g 355 16 = z := ⟨_, rfl⟩
  rw [evz6] at hq5
  obtain ⟨vz7, evz7⟩ : ∃ z, Gi g 356 4 = z := ⟨_, rfl⟩
  have vf8 := A_TEXTS (V.2.2.2.1 (4)) (by omega)
  rw [evz7] at vf8
  rw [evz7] at hq5
  rw [evz7] at hq6
  obtain ⟨vz9, evz9⟩ : ∃ z, Gi g 355 18 = z := ⟨_, rfl⟩
  rw [evz9] at hq7
  obtain ⟨vz10, evz10⟩ : ∃ z, Gi g 355 21 = z := ⟨_, rfl⟩
  rw [evz10] at hq8
  rw [evz9] at hq9
  rw [evz10] at hq9
  rw [evz1] at hq9
  obtain ⟨vz11, evz11⟩ : ∃ z, Gi g 355 23 = z := ⟨_, rfl⟩
  rw [evz11] at hq10
  rw [evz6] at hq11
  rw [evz9] at hq11
  rw [evz10] at hq11
  obtain ⟨vz12, evz12⟩ : ∃ z, Gi g 355 22 = z := ⟨_, rfl⟩
  rw [evz12] at hq11
  rw [evz1] at hq11
  have vu13 := hq11.ub (by omega)
  have vu14 := hq11.opn
  have vo355_12 : (Gi g 355 12).toInt = vz1.toInt := congrArg Int32.toInt evz1
  have vo355_16 : (Gi g 355 16).toInt = vz6.toInt := congrArg Int32.toInt evz6
  have vo355_18 : (Gi g 355 18).toInt = vz9.toInt := congrArg Int32.toInt evz9
  have vo355_21 : (Gi g 355 21).toInt = vz10.toInt := congrArg Int32.toInt evz10
  refine X_aload_n rfl rfl rfl rfl ?_
  refine X_getI (v := vz5) rfl rfl rfl ((congrFun V.1 355).trans s_355) rfl evz5 ?_
  refine X_iconst (v := (1 : Int32)) rfl rfl rfl ?_
  refine S_icmp_ne (tgt := 39) rfl rfl rfl rfl (show (1 : Int32).toInt = 1 from rfl) (fun vh15 => ?_) (fun vh15 => ?_)
  · refine X_aload_n rfl rfl rfl rfl ?_
    refine Y_callV (as := []) (st := []) rfl rfl rfl (by decide) rfl (Nat.le_of_ble_eq_true rfl) (by decide) (Nat.le_of_ble_eq_true rfl) rfl ((congrFun V.1 355).trans s_355) (by decide) (C_X13_nameOf V  ) ?_
    rintro _ g' ⟨vr16, rfl, hrvr160, hrvr161, hgg, vq17⟩
    subst hgg
    have vo18 : 0 ≤ vr16.toInt → vz5.toInt = 2 := fun vh => by
      have vhb := vNO_tok (o := (Gi g 355 13).toInt) (by rw [← vq17]; exact vh)
      rw [evz5] at vhb
      exact vhb
    refine S_if_lt (tgt := 78) rfl rfl rfl rfl (fun vh19 => ?_) (fun vh19 => ?_)
    · refine X_aload_n rfl rfl rfl rfl ?_
      refine X_getI (v := vz5) rfl rfl rfl ((congrFun V.1 355).trans s_355) rfl evz5 ?_
      refine X_bipush (v := (40 : Int32)) rfl rfl rfl ?_
      refine S_icmp_ne (tgt := 92) rfl rfl rfl rfl (show (40 : Int32).toInt = 40 from rfl) (fun vh20 => ?_) (fun vh20 => ?_)
      · refine X_aload_n rfl rfl rfl rfl ?_
        refine X_getI (v := vz5) rfl rfl rfl ((congrFun V.1 355).trans s_355) rfl evz5 ?_
        refine X_bipush (v := (45 : Int32)) rfl rfl rfl ?_
        refine S_icmp_ne (tgt := 105) rfl rfl rfl rfl (show (45 : Int32).toInt = 45 from rfl) (fun vh21 => ?_) (fun vh21 => ?_)
        · refine X_iconst (v := (0 : Int32)) rfl rfl rfl ?_
          refine X_istore_n (i := 1) (ls' := [some (.ref 355), some (.int (0 : Int32))]) rfl rfl rfl (Nat.le_of_ble_eq_true rfl) rfl ?_
          refine X_iload_n rfl rfl rfl rfl ?_
          refine S_if_ne (tgt := 113) rfl rfl rfl (show (0 : Int32).toInt = 0 from rfl) (fun q => absurd q (by omega)) (fun vh22 => ?_)
          refine X_iconst (v := (1 : Int32)) rfl rfl rfl ?_
          exact LW_ireturn (st := []) rfl rfl rfl ⟨_, rfl, by decide, by decide, V, hG, hF, (by have vkr := (show (1 : Int32).toInt = 1 from rfl); rw [evz1, evz2, evz3, evz5, evz6, evz9, evz10, evz11] <;> omega), (fun q => absurd q (by decide))⟩
        · refine X_iconst (v := (2 : Int32)) rfl rfl rfl ?_
          refine LW_goto (tgt := 106) rfl rfl ?_
          refine X_istore_n (i := 1) (ls' := [some (.ref 355), some (.int (2 : Int32))]) rfl rfl rfl (Nat.le_of_ble_eq_true rfl) rfl ?_
          refine X_iload_n rfl rfl rfl rfl ?_
          refine S_if_ne (tgt := 113) rfl rfl rfl (show (2 : Int32).toInt = 2 from rfl) (fun vh23 => ?_) (fun q => absurd q (by omega))
          refine X_aload_n rfl rfl rfl rfl ?_
          refine X_getI (v := vz12) rfl rfl rfl ((congrFun V.1 355).trans s_355) rfl evz12 ?_
          refine X_bipush (v := (8 : Int32)) rfl rfl rfl ?_
          refine S_icmp_ne (tgt := 124) rfl rfl rfl rfl (show (8 : Int32).toInt = 8 from rfl) (fun vh24 => ?_) (fun vh24 => ?_)
          · refine X_aload_n rfl rfl rfl rfl ?_
            refine X_dup rfl rfl rfl ?_
            refine X_getI (v := vz12) rfl rfl rfl ((congrFun V.1 355).trans s_355) rfl evz12 ?_
            refine X_iconst (v := (1 : Int32)) rfl rfl rfl ?_
            refine S_iadd rfl rfl rfl (show (1 : Int32).toInt = 1 from rfl) (by omega) (fun vz25 hvz25 => ?_)
            refine S_putI (I := InvR _) rfl rfl rfl ((congrFun V.1 355).trans s_355) rfl rfl rfl rfl (InvR_putO V (by decide) trivial) (fun g V ve26 vn27 hq => ?_)
            have hG := hq.trans hG
            have hF := And.intro (vSm.putN hF.1 vn27 (by decide)) (vCd.oth hF.2 (fun k => vn27 358 k (Or.inl (by decide))))
            have evz1 := (vn27 (355) 12 (Or.inr (by decide))).trans evz1
            have evz2 := (vn27 (355) 11 (Or.inr (by decide))).trans evz2
            have evz3 := (vn27 (355) 8 (Or.inr (by decide))).trans evz3
            have evz5 := (vn27 (355) 13 (Or.inr (by decide))).trans evz5
            have evz6 := (vn27 (355) 16 (Or.inr (by decide))).trans evz6
            have evz7 := (vn27 (356) 4 (Or.inl (by decide))).trans evz7
            have evz9 := (vn27 (355) 18 (Or.inr (by decide))).trans evz9
            have evz10 := (vn27 (355) 21 (Or.inr (by decide))).trans evz10
            have evz11 := (vn27 (355) 23 (Or.inr (by decide))).trans evz11
            rw [← (funext fun k => vn27 358 k (Or.inl (by decide)) : Gi g 358 = _)] at hq11
            rw [← (funext fun k => vn27 362 k (Or.inl (by decide)) : Gi g 362 = _)] at hq11
            refine X_aload_n rfl rfl rfl rfl ?_
            refine X_iload_n rfl rfl rfl rfl ?_
            refine X_callV (as := [.int (2 : Int32)]) (st := []) rfl rfl rfl (by decide) rfl (Nat.le_of_ble_eq_true rfl) (by decide) (Nat.le_of_ble_eq_true rfl) rfl ((congrFun V.1 355).trans s_355) (by decide) ?_
            refine LW_ls (ls' := [some (.ref 355), some (.int (2 : Int32))]) rfl ?_
            refine X_aload_n rfl rfl rfl rfl ?_
            refine X_getR (a := 362) rfl rfl rfl ((congrFun V.1 355).trans s_355) rfl ((congrFun (V.2.1 355 (by decide)) 20).trans r_355_20) ?_
            refine X_aload_n rfl rfl rfl rfl ?_
            refine X_getI (v := vz10) rfl rfl rfl ((congrFun V.1 355).trans s_355) rfl evz10 ?_
            refine X_iload_n rfl rfl rfl rfl ?_
            refine S_iast (I := InvR _) rfl rfl ((congrFun V.1 362).trans s_362) rfl (by omega) (InvR_putO V (by decide) trivial) (fun g V ve28 vn29 hq => ?_)
            have hG := hq.trans hG
            have hF := And.intro (vSm.putN hF.1 vn29 (by unfold vsd; omega)) (vCd.oth hF.2 (fun k => vn29 358 k (Or.inl (by decide))))
            have evz1 := (vn29 (355) 12 (Or.inl (by decide))).trans evz1
            have evz2 := (vn29 (355) 11 (Or.inl (by decide))).trans evz2
            have evz3 := (vn29 (355) 8 (Or.inl (by decide))).trans evz3
            have evz5 := (vn29 (355) 13 (Or.inl (by decide))).trans evz5
            have evz6 := (vn29 (355) 16 (Or.inl (by decide))).trans evz6
            have evz7 := (vn29 (356) 4 (Or.inl (by decide))).trans evz7
            have evz9 := (vn29 (355) 18 (Or.inl (by decide))).trans evz9
            have evz10 := (vn29 (355) 21 (Or.inl (by decide))).trans evz10
            have evz11 := (vn29 (355) 23 (Or.inl (by decide))).trans evz11
            have ve26 := (vn29 (355) 22 (Or.inl (by decide))).trans ve26
            rw [← (funext fun k => vn29 358 k (Or.inl (by decide)) : Gi g 358 = _)] at hq11
            have va30 := fun (k : Nat) (vh' : k ≠ (vz10.toInt : Int).toNat) => vn29 362 k (Or.inr vh')
            have va31 := ve28
            refine X_aload_n rfl rfl rfl rfl ?_
            refine X_dup rfl rfl rfl ?_
            refine X_getI (v := vz10) rfl rfl rfl ((congrFun V.1 355).trans s_355) rfl evz10 ?_
            refine X_iconst (v := (1 : Int32)) rfl rfl rfl ?_
            refine S_iadd rfl rfl rfl (show (1 : Int32).toInt = 1 from rfl) (by omega) (fun vz32 hvz32 => ?_)
            refine S_putI (I := InvR _) rfl rfl rfl ((congrFun V.1 355).trans s_355) rfl rfl rfl rfl (InvR_putO V (by decide) trivial) (fun g V ve33 vn34 hq => ?_)
            have hG := hq.trans hG
            have hF := And.intro (vSm.putN hF.1 vn34 (by decide)) (vCd.oth hF.2 (fun k => vn34 358 k (Or.inl (by decide))))
            have evz1 := (vn34 (355) 12 (Or.inr (by decide))).trans evz1
            have evz2 := (vn34 (355) 11 (Or.inr (by decide))).trans evz2
            have evz3 := (vn34 (355) 8 (Or.inr (by decide))).trans evz3
            have evz5 := (vn34 (355) 13 (Or.inr (by decide))).trans evz5
            have evz6 := (vn34 (355) 16 (Or.inr (by decide))).trans evz6
            have evz7 := (vn34 (356) 4 (Or.inl (by decide))).trans evz7
            have evz9 := (vn34 (355) 18 (Or.inr (by decide))).trans evz9
            have evz11 := (vn34 (355) 23 (Or.inr (by decide))).trans evz11
            have ve26 := (vn34 (355) 22 (Or.inr (by decide))).trans ve26
            rw [← (funext fun k => vn34 358 k (Or.inl (by decide)) : Gi g 358 = _)] at hq11
            rw [← (funext fun k => vn34 362 k (Or.inl (by decide)) : Gi g 362 = _)] at va30 va31
            refine LW_return (st := []) rfl rfl ?_
            refine X_aload_n rfl rfl rfl rfl ?_
            have vo355_11 : (Gi g 355 11).toInt = vz2.toInt := congrArg Int32.toInt evz2
            refine Y_callV (as := []) (st := []) rfl rfl rfl (by decide) rfl (Nat.le_of_ble_eq_true rfl) (by decide) (Nat.le_of_ble_eq_true rfl) rfl ((congrFun V.1 355).trans s_355) (by decide) (C_X13_nextToken V  (by rw [evz2] <;> omega) (by rw [evz2, evz3] <;> omega) (by rw [evz3] <;> omega)) ?_
            rintro _ g ⟨rfl, V, hq, chF, vq36, vq37, vq38, vq39, vq40, vq41⟩
            have hG := hq.trans hG
            have evz3 := (chF 355 8 (by decide)).trans evz3
            have evz6 := (chF 355 16 (by decide)).trans evz6
            have evz7 := (chF 356 4 (by decide)).trans evz7
            have evz9 := (chF 355 18 (by decide)).trans evz9
            have evz11 := (chF 355 23 (by decide)).trans evz11
            have ve26 := (chF 355 22 (by decide)).trans ve26
            have ve33 := (chF 355 21 (by decide)).trans ve33
            have hF := And.intro (vSm.tr chF vi_da hF.1) (vCd.oth hF.2 (fun k => chF 358 k (Or.inl (by decide))))
            obtain ⟨vz42, evz42⟩ : ∃ z, Gi g 355 12 = z := ⟨_, rfl⟩
            rw [evz42] at vq36
            rw [evz42] at vq37
            rw [evz42] at vq38
            obtain ⟨vz43, evz43⟩ : ∃ z, Gi g 355 11 = z := ⟨_, rfl⟩
            rw [evz43] at vq38
            rw [evz43] at vq39
            rw [evz3] at vq39
            rw [evz3] at vq40
            obtain ⟨vz44, evz44⟩ : ∃ z, Gi g 355 13 = z := ⟨_, rfl⟩
            rw [evz44] at vq41
            rw [evz42] at vq41
            rw [evz43] at vq41
            rw [← (funext fun k => chF 358 k (Or.inl (by decide)) : Gi g 358 = _)] at hq11
            rw [← (funext fun k => chF 362 k (Or.inl (by decide)) : Gi g 362 = _)] at va30 va31
            refine X_iconst (v := (0 : Int32)) rfl rfl rfl ?_
            exact LW_ireturn (st := []) rfl rfl rfl ⟨_, rfl, by decide, by decide, V, hG, hF, (by have vkr := (show (0 : Int32).toInt = 0 from rfl); rw [evz42, evz43, evz3, evz44, evz6, evz9, ve33, evz11] <;> omega), (by rw [evz6, evz9, ve33, ve26, evz11, evz42]; exact (by
                  exact fun _ => (vSV.pushU hq11 va30 (by rw [va31]; exact Or.inl rfl) (by omega) (by omega) (by omega) (by omega)).wh (by omega)))⟩
          · refine X_iconst (v := (3 : Int32)) rfl rfl rfl ?_
            exact LW_ireturn (st := []) rfl rfl rfl ⟨_, rfl, by decide, by decide, V, hG, hF, (by have vkr := (show (3 : Int32).toInt = 3 from rfl); rw [evz1, evz2, evz3, evz5, evz6, evz9, evz10, evz11] <;> omega), (fun q => absurd q (by decide))⟩
      · refine X_bipush (v := (40 : Int32)) rfl rfl rfl ?_
        refine LW_goto (tgt := 106) rfl rfl ?_
        refine X_istore_n (i := 1) (ls' := [some (.ref 355), some (.int (40 : Int32))]) rfl rfl rfl (Nat.le_of_ble_eq_true rfl) rfl ?_
        refine X_iload_n rfl rfl rfl rfl ?_
        refine S_if_ne (tgt := 113) rfl rfl rfl (show (40 : Int32).toInt = 40 from rfl) (fun vh45 => ?_) (fun q => absurd q (by omega))
        refine X_aload_n rfl rfl rfl rfl ?_
        refine X_getI (v := vz12) rfl rfl rfl ((congrFun V.1 355).trans s_355) rfl evz12 ?_
        refine X_bipush (v := (8 : Int32)) rfl rfl rfl ?_
        refine S_icmp_ne (tgt := 124) rfl rfl rfl rfl (show (8 : Int32).toInt = 8 from rfl) (fun vh46 => ?_) (fun vh46 => ?_)
        · refine X_aload_n rfl rfl rfl rfl ?_
          refine X_dup rfl rfl rfl ?_
          refine X_getI (v := vz12) rfl rfl rfl ((congrFun V.1 355).trans s_355) rfl evz12 ?_
          refine X_iconst (v := (1 : Int32)) rfl rfl rfl ?_
          refine S_iadd rfl rfl rfl (show (1 : Int32).toInt = 1 from rfl) (by omega) (fun vz47 hvz47 => ?_)
          refine S_putI (I := InvR _) rfl rfl rfl ((congrFun V.1 355).trans s_355) rfl rfl rfl rfl (InvR_putO V (by decide) trivial) (fun g V ve48 vn49 hq => ?_)
          have hG := hq.trans hG
          have hF := And.intro (vSm.putN hF.1 vn49 (by decide)) (vCd.oth hF.2 (fun k => vn49 358 k (Or.inl (by decide))))
          have evz1 := (vn49 (355) 12 (Or.inr (by decide))).trans evz1
          have evz2 := (vn49 (355) 11 (Or.inr (by decide))).trans evz2
          have evz3 := (vn49 (355) 8 (Or.inr (by decide))).trans evz3
          have evz5 := (vn49 (355) 13 (Or.inr (by decide))).trans evz5
          have evz6 := (vn49 (355) 16 (Or.inr (by decide))).trans evz6
          have evz7 := (vn49 (356) 4 (Or.inl (by decide))).trans evz7
          have evz9 := (vn49 (355) 18 (Or.inr (by decide))).trans evz9
          have evz10 := (vn49 (355) 21 (Or.inr (by decide))).trans evz10
          have evz11 := (vn49 (355) 23 (Or.inr (by decide))).trans evz11
          rw [← (funext fun k => vn49 358 k (Or.inl (by decide)) : Gi g 358 = _)] at hq11
          rw [← (funext fun k => vn49 362 k (Or.inl (by decide)) : Gi g 362 = _)] at hq11
          refine X_aload_n rfl rfl rfl rfl ?_
          refine X_iload_n rfl rfl rfl rfl ?_
          refine X_callV (as := [.int (40 : Int32)]) (st := []) rfl rfl rfl (by decide) rfl (Nat.le_of_ble_eq_true rfl) (by decide) (Nat.le_of_ble_eq_true rfl) rfl ((congrFun V.1 355).trans s_355) (by decide) ?_
          refine LW_ls (ls' := [some (.ref 355), some (.int (40 : Int32))]) rfl ?_
          refine X_aload_n rfl rfl rfl rfl ?_
          refine X_getR (a := 362) rfl rfl rfl ((congrFun V.1 355).trans s_355) rfl ((congrFun (V.2.1 355 (by decide)) 20).trans r_355_20) ?_
          refine X_aload_n rfl rfl rfl rfl ?_
          refine X_getI (v := vz10) rfl rfl rfl ((congrFun V.1 355).trans s_355) rfl evz10 ?_
          refine X_iload_n rfl rfl rfl rfl ?_
          refine S_iast (I := InvR _) rfl rfl ((congrFun V.1 362).trans s_362) rfl (by omega) (InvR_putO V (by decide) trivial) (fun g V ve50 vn51 hq => ?_)
          have hG := hq.trans hG
          have hF := And.intro (vSm.putN hF.1 vn51 (by unfold vsd; omega)) (vCd.oth hF.2 (fun k => vn51 358 k (Or.inl (by decide))))
          have evz1 := (vn51 (355) 12 (Or.inl (by decide))).trans evz1
          have evz2 := (vn51 (355) 11 (Or.inl (by decide))).trans evz2
          have evz3 := (vn51 (355) 8 (Or.inl (by decide))).trans evz3
          have evz5 := (vn51 (355) 13 (Or.inl (by decide))).trans evz5
          have evz6 := (vn51 (355) 16 (Or.inl (by decide))).trans evz6
          have evz7 := (vn51 (356) 4 (Or.inl (by decide))).trans evz7
          have evz9 := (vn51 (355) 18 (Or.inl (by decide))).trans evz9
          have evz10 := (vn51 (355) 21 (Or.inl (by decide))).trans evz10
          have evz11 := (vn51 (355) 23 (Or.inl (by decide))).trans evz11
          have ve48 := (vn51 (355) 22 (Or.inl (by decide))).trans ve48
          rw [← (funext fun k => vn51 358 k (Or.inl (by decide)) : Gi g 358 = _)] at hq11
          have va52 := fun (k : Nat) (vh' : k ≠ (vz10.toInt : Int).toNat) => vn51 362 k (Or.inr vh')
          have va53 := ve50
          refine X_aload_n rfl rfl rfl rfl ?_
          refine X_dup rfl rfl rfl ?_
          refine X_getI (v := vz10) rfl rfl rfl ((congrFun V.1 355).trans s_355) rfl evz10 ?_
          refine X_iconst (v := (1 : Int32)) rfl rfl rfl ?_
          refine S_iadd rfl rfl rfl (show (1 : Int32).toInt = 1 from rfl) (by omega) (fun vz54 hvz54 => ?_)
          refine S_putI (I := InvR _) rfl rfl rfl ((congrFun V.1 355).trans s_355) rfl rfl rfl rfl (InvR_putO V (by decide) trivial) (fun g V ve55 vn56 hq => ?_)
          have hG := hq.trans hG
          have hF := And.intro (vSm.putN hF.1 vn56 (by decide)) (vCd.oth hF.2 (fun k => vn56 358 k (Or.inl (by decide))))
          have evz1 := (vn56 (355) 12 (Or.inr (by decide))).trans evz1
          have evz2 := (vn56 (355) 11 (Or.inr (by decide))).trans evz2
          have evz3 := (vn56 (355) 8 (Or.inr (by decide))).trans evz3
          have evz5 := (vn56 (355) 13 (Or.inr (by decide))).trans evz5
          have evz6 := (vn56 (355) 16 (Or.inr (by decide))).trans evz6
          have evz7 := (vn56 (356) 4 (Or.inl (by decide))).trans evz7
          have evz9 := (vn56 (355) 18 (Or.inr (by decide))).trans evz9
          have evz11 := (vn56 (355) 23 (Or.inr (by decide))).trans evz11
          have ve48 := (vn56 (355) 22 (Or.inr (by decide))).trans ve48
          rw [← (funext fun k => vn56 358 k (Or.inl (by decide)) : Gi g 358 = _)] at hq11
          rw [← (funext fun k => vn56 362 k (Or.inl (by decide)) : Gi g 362 = _)] at va52 va53
          refine LW_return (st := []) rfl rfl ?_
          refine X_aload_n rfl rfl rfl rfl ?_
          have vo355_11 : (Gi g 355 11).toInt = vz2.toInt := congrArg Int32.toInt evz2
          refine Y_callV (as := []) (st := []) rfl rfl rfl (by decide) rfl (Nat.le_of_ble_eq_true rfl) (by decide) (Nat.le_of_ble_eq_true rfl) rfl ((congrFun V.1 355).trans s_355) (by decide) (C_X13_nextToken V  (by rw [evz2] <;> omega) (by rw [evz2, evz3] <;> omega) (by rw [evz3] <;> omega)) ?_
          rintro _ g ⟨rfl, V, hq, chF, vq58, vq59, vq60, vq61, vq62, vq63⟩
          have hG := hq.trans hG
          have evz3 := (chF 355 8 (by decide)).trans evz3
          have evz6 := (chF 355 16 (by decide)).trans evz6
          have evz7 := (chF 356 4 (by decide)).trans evz7
          have evz9 := (chF 355 18 (by decide)).trans evz9
          have evz11 := (chF 355 23 (by decide)).trans evz11
          have ve48 := (chF 355 22 (by decide)).trans ve48
          have ve55 := (chF 355 21 (by decide)).trans ve55
          have hF := And.intro (vSm.tr chF vi_da hF.1) (vCd.oth hF.2 (fun k => chF 358 k (Or.inl (by decide))))
          obtain ⟨vz64, evz64⟩ : ∃ z, Gi g 355 12 = z := ⟨_, rfl⟩
          rw [evz64] at vq58
          rw [evz64] at vq59
          rw [evz64] at vq60
          obtain ⟨vz65, evz65⟩ : ∃ z, Gi g 355 11 = z := ⟨_, rfl⟩
          rw [evz65] at vq60
          rw [evz65] at vq61
          rw [evz3] at vq61
          rw [evz3] at vq62
          obtain ⟨vz66, evz66⟩ : ∃ z, Gi g 355 13 = z := ⟨_, rfl⟩
          rw [evz66] at vq63
          rw [evz64] at vq63
          rw [evz65] at vq63
          rw [← (funext fun k => chF 358 k (Or.inl (by decide)) : Gi g 358 = _)] at hq11
          rw [← (funext fun k => chF 362 k (Or.inl (by decide)) : Gi g 362 = _)] at va52 va53
          refine X_iconst (v := (0 : Int32)) rfl rfl rfl ?_
          exact LW_ireturn (st := []) rfl rfl rfl ⟨_, rfl, by decide, by decide, V, hG, hF, (by have vkr := (show (0 : Int32).toInt = 0 from rfl); rw [evz64, evz65, evz3, evz66, evz6, evz9, ve55, evz11] <;> omega), (by rw [evz6, evz9, ve55, ve48, evz11, evz64]; exact (by
                exact fun _ => (vSV.pushU hq11 va52 (by rw [va53]; exact Or.inr rfl) (by omega) (by omega) (by omega) (by omega)).wh (by omega)))⟩
        · refine X_iconst (v := (3 : Int32)) rfl rfl rfl ?_
          exact LW_ireturn (st := []) rfl rfl rfl ⟨_, rfl, by decide, by decide, V, hG, hF, (by have vkr := (show (3 : Int32).toInt = 3 from rfl); rw [evz1, evz2, evz3, evz5, evz6, evz9, evz10, evz11] <;> omega), (fun q => absurd q (by decide))⟩
    · refine X_aload_n rfl rfl rfl rfl ?_
      refine X_aload_n rfl rfl rfl rfl ?_
      refine Y_callV (as := []) (st := [.ref 355]) rfl rfl rfl (by decide) rfl (Nat.le_of_ble_eq_true rfl) (by decide) (Nat.le_of_ble_eq_true rfl) rfl ((congrFun V.1 355).trans s_355) (by decide) (C_X13_nameOf V  ) ?_
      rintro _ g' ⟨vr67, rfl, hrvr670, hrvr671, hgg, vq68⟩
      subst hgg
      have vo69 : 0 ≤ vr67.toInt → vz5.toInt = 2 := fun vh => by
        have vhb := vNO_tok (o := (Gi g 355 13).toInt) (by rw [← vq68]; exact vh)
        rw [evz5] at vhb
        exact vhb
      refine Y_callV (as := [.int vr67]) (st := []) rfl rfl rfl (by decide) rfl (Nat.le_of_ble_eq_true rfl) (by decide) (Nat.le_of_ble_eq_true rfl) rfl ((congrFun V.1 355).trans s_355) (by decide) (C_X13_isBarred V vr67 vr67.toInt rfl (by omega) ) ?_
      rintro _ g' ⟨vr70, rfl, hrvr700, hrvr701, hgg⟩
      subst hgg
      refine S_if_eq (tgt := 59) rfl rfl rfl rfl (fun vh71 => ?_) (fun vh71 => ?_)
      · refine X_aload_n rfl rfl rfl rfl ?_
        refine X_iconst (v := (1 : Int32)) rfl rfl rfl ?_
        refine X_aload_n rfl rfl rfl rfl ?_
        refine Y_callV (as := []) (st := [.int (1 : Int32), .ref 355]) rfl rfl rfl (by decide) rfl (Nat.le_of_ble_eq_true rfl) (by decide) (Nat.le_of_ble_eq_true rfl) rfl ((congrFun V.1 355).trans s_355) (by decide) (C_X13_nameOf V  ) ?_
        rintro _ g' ⟨vr72, rfl, hrvr720, hrvr721, hgg, vq73⟩
        subst hgg
        have vo74 : 0 ≤ vr72.toInt → vz5.toInt = 2 := fun vh => by
          have vhb := vNO_tok (o := (Gi g 355 13).toInt) (by rw [← vq73]; exact vh)
          rw [evz5] at vhb
          exact vhb
        have vo355_18 : (Gi g 355 18).toInt = vz9.toInt := congrArg Int32.toInt evz9
        have vo355_16 : (Gi g 355 16).toInt = vz6.toInt := congrArg Int32.toInt evz6
        refine Y_callV (as := [.int (1 : Int32), .int vr72]) (st := []) rfl rfl rfl (by decide) rfl (Nat.le_of_ble_eq_true rfl) (by decide) (Nat.le_of_ble_eq_true rfl) rfl ((congrFun V.1 355).trans s_355) (by decide) (C_X13_emit V (1 : Int32) 1 (show (1 : Int32).toInt = 1 from rfl) vr72 vr72.toInt rfl (by rw [evz9] <;> omega) (by rw [evz9] <;> omega) (by rw [evz6, evz7] <;> omega) (by rw [evz7] <;> omega)) ?_
        rintro _ g ⟨rfl, V, hq, chF, vq76, vq77, vq78⟩
        have hG := hq.trans hG
        have evz1 := (chF 355 12 (by decide)).trans evz1
        have evz2 := (chF 355 11 (by decide)).trans evz2
        have evz3 := (chF 355 8 (by decide)).trans evz3
        have evz5 := (chF 355 13 (by decide)).trans evz5
        have evz6 := (chF 355 16 (by decide)).trans evz6
        have evz7 := (chF 356 4 (by decide)).trans evz7
        have evz10 := (chF 355 21 (by decide)).trans evz10
        have evz11 := (chF 355 23 (by decide)).trans evz11
        have evz12 := (chF 355 22 (by decide)).trans evz12
        have hF := And.intro (vSm.tr chF vi_db hF.1) (vCd.em hF.2 vq77 (by omega))
        obtain ⟨vz79, evz79⟩ : ∃ z, Gi g 355 18 = z := ⟨_, rfl⟩
        rw [evz79] at vq76
        rw [evz6] at vq78
        rw [← (funext fun k => chF 362 k ⟨by decide, Or.inl (by decide)⟩ : Gi g 362 = _)] at hq11
        refine X_aload_n rfl rfl rfl rfl ?_
        have vo355_11 : (Gi g 355 11).toInt = vz2.toInt := congrArg Int32.toInt evz2
        refine Y_callV (as := []) (st := []) rfl rfl rfl (by decide) rfl (Nat.le_of_ble_eq_true rfl) (by decide) (Nat.le_of_ble_eq_true rfl) rfl ((congrFun V.1 355).trans s_355) (by decide) (C_X13_nextToken V  (by rw [evz2] <;> omega) (by rw [evz2, evz3] <;> omega) (by rw [evz3] <;> omega)) ?_
        rintro _ g ⟨rfl, V, hq, chF, vq81, vq82, vq83, vq84, vq85, vq86⟩
        have hG := hq.trans hG
        have evz3 := (chF 355 8 (by decide)).trans evz3
        have evz6 := (chF 355 16 (by decide)).trans evz6
        have evz7 := (chF 356 4 (by decide)).trans evz7
        have evz10 := (chF 355 21 (by decide)).trans evz10
        have evz11 := (chF 355 23 (by decide)).trans evz11
        have evz12 := (chF 355 22 (by decide)).trans evz12
        have evz79 := (chF 355 18 (by decide)).trans evz79
        have hF := And.intro (vSm.tr chF vi_da hF.1) (vCd.oth hF.2 (fun k => chF 358 k (Or.inl (by decide))))
        obtain ⟨vz87, evz87⟩ : ∃ z, Gi g 355 12 = z := ⟨_, rfl⟩
        rw [evz87] at vq81
        rw [evz87] at vq82
        rw [evz87] at vq83
        obtain ⟨vz88, evz88⟩ : ∃ z, Gi g 355 11 = z := ⟨_, rfl⟩
        rw [evz88] at vq83
        rw [evz88] at vq84
        rw [evz3] at vq84
        rw [evz3] at vq85
        obtain ⟨vz89, evz89⟩ : ∃ z, Gi g 355 13 = z := ⟨_, rfl⟩
        rw [evz89] at vq86
        rw [evz87] at vq86
        rw [evz88] at vq86
        rw [← (funext fun k => chF 358 k (Or.inl (by decide)) : Gi g 358 = _)] at vq77
        rw [← (funext fun k => chF 362 k (Or.inl (by decide)) : Gi g 362 = _)] at hq11
        refine X_aload_n rfl rfl rfl rfl ?_
        have vo355_18 : (Gi g 355 18).toInt = vz79.toInt := congrArg Int32.toInt evz79
        have vo355_21 : (Gi g 355 21).toInt = vz10.toInt := congrArg Int32.toInt evz10
        have vo355_16 : (Gi g 355 16).toInt = vz6.toInt := congrArg Int32.toInt evz6
        refine Y_callV (as := []) (st := []) rfl rfl rfl (by decide) rfl (Nat.le_of_ble_eq_true rfl) (by decide) (Nat.le_of_ble_eq_true rfl) rfl ((congrFun V.1 355).trans s_355) (by decide) (C_X13_whole (vs := vs) (vn := vn) (vt := vt) (voz := voz) V  (by rw [evz6, evz7] <;> omega) (by rw [evz7] <;> omega) (by rw [evz79] <;> omega) (by rw [evz10] <;> omega) (by rw [evz79, evz10, evz87] <;> omega) (by rw [evz87] <;> omega) (by rw [evz6, evz79, evz10, evz12, evz87]; exact (by
              exact vSV.num hq11 vq77 (by omega) (Or.inr ⟨rfl, by omega, by omega⟩) (by omega) (by omega)))) ?_
        rintro _ g ⟨rfl, V, hq, chF, vq91, vq92, vq93, vq94, vq95, vq96⟩
        have hG := hq.trans hG
        have evz3 := (chF.1 355 8 (by decide)).trans evz3
        have evz6 := (chF.1 355 16 (by decide)).trans evz6
        have evz7 := (chF.1 356 4 (by decide)).trans evz7
        have evz87 := (chF.1 355 12 (by decide)).trans evz87
        have evz88 := (chF.1 355 11 (by decide)).trans evz88
        have evz89 := (chF.1 355 13 (by decide)).trans evz89
        have hF := And.intro (vSm.tr chF.1 vi_dc hF.1) (vCd.tr hF.2 chF.2 (by omega))
        obtain ⟨vz97, evz97⟩ : ∃ z, Gi g 355 23 = z := ⟨_, rfl⟩
        rw [evz97] at vq91
        obtain ⟨vz98, evz98⟩ : ∃ z, Gi g 355 18 = z := ⟨_, rfl⟩
        rw [evz98] at vq92
        obtain ⟨vz99, evz99⟩ : ∃ z, Gi g 355 21 = z := ⟨_, rfl⟩
        rw [evz99] at vq92
        rw [evz98] at vq93
        rw [evz6] at vq94
        rw [evz99] at vq95
        rw [evz6] at vq96
        rw [evz98] at vq96
        rw [evz99] at vq96
        obtain ⟨vz100, evz100⟩ : ∃ z, Gi g 355 22 = z := ⟨_, rfl⟩
        rw [evz100] at vq96
        rw [evz87] at vq96
        rw [← (funext fun k => chF.1 362 k ⟨by decide, Or.inl (by decide)⟩ : Gi g 362 = _)] at hq11
        have vu101 := vq96.ub (by omega)
        have vu102 := vq96.opn
        refine X_iconst (v := (0 : Int32)) rfl rfl rfl ?_
        exact LW_ireturn (st := []) rfl rfl rfl ⟨_, rfl, by decide, by decide, V, hG, hF, (by have vkr := (show (0 : Int32).toInt = 0 from rfl); rw [evz87, evz88, evz3, evz89, evz6, evz98, evz99, evz97] <;> omega), (by rw [evz6, evz98, evz99, evz100, evz97, evz87]; exact (by
              exact fun _ => vq96.wh (by omega)))⟩
      · refine X_iconst (v := (5 : Int32)) rfl rfl rfl ?_
        exact LW_ireturn (st := []) rfl rfl rfl ⟨_, rfl, by decide, by decide, V, hG, hF, (by have vkr := (show (5 : Int32).toInt = 5 from rfl); rw [evz1, evz2, evz3, evz5, evz6, evz9, evz10, evz11] <;> omega), (fun q => absurd q (by decide))⟩
  · refine X_aload_n rfl rfl rfl rfl ?_
    refine S_getI rfl rfl rfl ((congrFun V.1 355).trans s_355) rfl (fun vz103 evz103 => ?_)
    refine X_sipush (v := (9999 : Int32)) rfl rfl rfl ?_
    refine S_icmp_le (tgt := 20) rfl rfl rfl rfl (show (9999 : Int32).toInt = 9999 from rfl) (fun vh104 => ?_) (fun vh104 => ?_)
    · refine X_aload_n rfl rfl rfl rfl ?_
      refine X_iconst (v := (0 : Int32)) rfl rfl rfl ?_
      refine X_aload_n rfl rfl rfl rfl ?_
      refine X_getI (v := vz103) rfl rfl rfl ((congrFun V.1 355).trans s_355) rfl evz103 ?_
      have vo355_18 : (Gi g 355 18).toInt = vz9.toInt := congrArg Int32.toInt evz9
      have vo355_16 : (Gi g 355 16).toInt = vz6.toInt := congrArg Int32.toInt evz6
      refine Y_callV (as := [.int (0 : Int32), .int vz103]) (st := []) rfl rfl rfl (by decide) rfl (Nat.le_of_ble_eq_true rfl) (by decide) (Nat.le_of_ble_eq_true rfl) rfl ((congrFun V.1 355).trans s_355) (by decide) (C_X13_emit V (0 : Int32) 0 (show (0 : Int32).toInt = 0 from rfl) vz103 vz103.toInt rfl (by rw [evz9] <;> omega) (by rw [evz9] <;> omega) (by rw [evz6, evz7] <;> omega) (by rw [evz7] <;> omega)) ?_
      rintro _ g ⟨rfl, V, hq, chF, vq106, vq107, vq108⟩
      have hG := hq.trans hG
      have evz1 := (chF 355 12 (by decide)).trans evz1
      have evz2 := (chF 355 11 (by decide)).trans evz2
      have evz3 := (chF 355 8 (by decide)).trans evz3
      have evz5 := (chF 355 13 (by decide)).trans evz5
      have evz6 := (chF 355 16 (by decide)).trans evz6
      have evz7 := (chF 356 4 (by decide)).trans evz7
      have evz10 := (chF 355 21 (by decide)).trans evz10
      have evz11 := (chF 355 23 (by decide)).trans evz11
      have evz12 := (chF 355 22 (by decide)).trans evz12
      have evz103 := (chF 355 14 (by decide)).trans evz103
      have hF := And.intro (vSm.tr chF vi_db hF.1) (vCd.em hF.2 vq107 (by omega))
      obtain ⟨vz109, evz109⟩ : ∃ z, Gi g 355 18 = z := ⟨_, rfl⟩
      rw [evz109] at vq106
      rw [evz6] at vq108
      rw [← (funext fun k => chF 362 k ⟨by decide, Or.inl (by decide)⟩ : Gi g 362 = _)] at hq11
      refine X_aload_n rfl rfl rfl rfl ?_
      have vo355_11 : (Gi g 355 11).toInt = vz2.toInt := congrArg Int32.toInt evz2
      refine Y_callV (as := []) (st := []) rfl rfl rfl (by decide) rfl (Nat.le_of_ble_eq_true rfl) (by decide) (Nat.le_of_ble_eq_true rfl) rfl ((congrFun V.1 355).trans s_355) (by decide) (C_X13_nextToken V  (by rw [evz2] <;> omega) (by rw [evz2, evz3] <;> omega) (by rw [evz3] <;> omega)) ?_
      rintro _ g ⟨rfl, V, hq, chF, vq111, vq112, vq113, vq114, vq115, vq116⟩
      have hG := hq.trans hG
      have evz3 := (chF 355 8 (by decide)).trans evz3
      have evz6 := (chF 355 16 (by decide)).trans evz6
      have evz7 := (chF 356 4 (by decide)).trans evz7
      have evz10 := (chF 355 21 (by decide)).trans evz10
      have evz11 := (chF 355 23 (by decide)).trans evz11
      have evz12 := (chF 355 22 (by decide)).trans evz12
      have evz109 := (chF 355 18 (by decide)).trans evz109
      have hF := And.intro (vSm.tr chF vi_da hF.1) (vCd.oth hF.2 (fun k => chF 358 k (Or.inl (by decide))))
      obtain ⟨vz117, evz117⟩ : ∃ z, Gi g 355 12 = z := ⟨_, rfl⟩
      rw [evz117] at vq111
      rw [evz117] at vq112
      rw [evz117] at vq113
      obtain ⟨vz118, evz118⟩ : ∃ z, Gi g 355 11 = z := ⟨_, rfl⟩
      rw [evz118] at vq113
      rw [evz118] at vq114
      rw [evz3] at vq114
      rw [evz3] at vq115
      obtain ⟨vz119, evz119⟩ : ∃ z, Gi g 355 13 = z := ⟨_, rfl⟩
      rw [evz119] at vq116
      rw [evz117] at vq116
      rw [evz118] at vq116
      rw [← (funext fun k => chF 358 k (Or.inl (by decide)) : Gi g 358 = _)] at vq107
      rw [← (funext fun k => chF 362 k (Or.inl (by decide)) : Gi g 362 = _)] at hq11
      refine X_aload_n rfl rfl rfl rfl ?_
      have vo355_18 : (Gi g 355 18).toInt = vz109.toInt := congrArg Int32.toInt evz109
      have vo355_21 : (Gi g 355 21).toInt = vz10.toInt := congrArg Int32.toInt evz10
      have vo355_16 : (Gi g 355 16).toInt = vz6.toInt := congrArg Int32.toInt evz6
      refine Y_callV (as := []) (st := []) rfl rfl rfl (by decide) rfl (Nat.le_of_ble_eq_true rfl) (by decide) (Nat.le_of_ble_eq_true rfl) rfl ((congrFun V.1 355).trans s_355) (by decide) (C_X13_whole (vs := vs) (vn := vn) (vt := vt) (voz := voz) V  (by rw [evz6, evz7] <;> omega) (by rw [evz7] <;> omega) (by rw [evz109] <;> omega) (by rw [evz10] <;> omega) (by rw [evz109, evz10, evz117] <;> omega) (by rw [evz117] <;> omega) (by rw [evz6, evz109, evz10, evz12, evz117]; exact (by
            exact vSV.num hq11 vq107 (by omega) (Or.inl rfl) (by omega) (by omega)))) ?_
      rintro _ g ⟨rfl, V, hq, chF, vq121, vq122, vq123, vq124, vq125, vq126⟩
      have hG := hq.trans hG
      have evz3 := (chF.1 355 8 (by decide)).trans evz3
      have evz6 := (chF.1 355 16 (by decide)).trans evz6
      have evz7 := (chF.1 356 4 (by decide)).trans evz7
      have evz117 := (chF.1 355 12 (by decide)).trans evz117
      have evz118 := (chF.1 355 11 (by decide)).trans evz118
      have evz119 := (chF.1 355 13 (by decide)).trans evz119
      have hF := And.intro (vSm.tr chF.1 vi_dc hF.1) (vCd.tr hF.2 chF.2 (by omega))
      obtain ⟨vz127, evz127⟩ : ∃ z, Gi g 355 23 = z := ⟨_, rfl⟩
      rw [evz127] at vq121
      obtain ⟨vz128, evz128⟩ : ∃ z, Gi g 355 18 = z := ⟨_, rfl⟩
      rw [evz128] at vq122
      obtain ⟨vz129, evz129⟩ : ∃ z, Gi g 355 21 = z := ⟨_, rfl⟩
      rw [evz129] at vq122
      rw [evz128] at vq123
      rw [evz6] at vq124
      rw [evz129] at vq125
      rw [evz6] at vq126
      rw [evz128] at vq126
      rw [evz129] at vq126
      obtain ⟨vz130, evz130⟩ : ∃ z, Gi g 355 22 = z := ⟨_, rfl⟩
      rw [evz130] at vq126
      rw [evz117] at vq126
      rw [← (funext fun k => chF.1 362 k ⟨by decide, Or.inl (by decide)⟩ : Gi g 362 = _)] at hq11
      have vu131 := vq126.ub (by omega)
      have vu132 := vq126.opn
      refine X_iconst (v := (0 : Int32)) rfl rfl rfl ?_
      exact LW_ireturn (st := []) rfl rfl rfl ⟨_, rfl, by decide, by decide, V, hG, hF, (by have vkr := (show (0 : Int32).toInt = 0 from rfl); rw [evz117, evz118, evz3, evz119, evz6, evz128, evz129, evz127] <;> omega), (by rw [evz6, evz128, evz129, evz130, evz127, evz117]; exact (by
            exact fun _ => vq126.wh (by omega)))⟩
    · refine X_iconst (v := (2 : Int32)) rfl rfl rfl ?_
      exact LW_ireturn (st := []) rfl rfl rfl ⟨_, rfl, by decide, by decide, V, hG, hF, (by have vkr := (show (2 : Int32).toInt = 2 from rfl); rw [evz1, evz2, evz3, evz5, evz6, evz9, evz10, evz11] <;> omega), (fun q => absurd q (by decide))⟩
set_option maxRecDepth 10000 in
set_option maxHeartbeats 40000000 in
theorem C_X13_behindOne {P : Par} {vs vn vt : Nat} {voz : Int} {g : LH} {d : Nat}  (V : InvR P g)  (hq0 : 0 ≤ (Gi g 355 12).toInt) (hq1 : (Gi g 355 12).toInt ≤ (Gi g 355 11).toInt) (hq2 : (Gi g 355 11).toInt ≤ (Gi g 355 8).toInt) (hq3 : (Gi g 355 8).toInt ≤ 300) (hq4 : (Gi g 355 13).toInt = 0 ∨ (Gi g 355 12).toInt < (Gi g 355 11).toInt) (hq5 : (Gi g 355 16).toInt = 873 * (Gi g 356 4).toInt) (hq6 : (Gi g 356 4).toInt ≤ 3) (hq7 : 0 ≤ (Gi g 355 18).toInt) (hq8 : 0 ≤ (Gi g 355 21).toInt) (hq9 : (Gi g 355 18).toInt + (Gi g 355 21).toInt ≤ (Gi g 355 12).toInt) (hq10 : vSV (Gi g 358) (Gi g 362) (Int.toNat (Gi g 355 16).toInt + 265) vs vn vt (Gi g 355 18).toInt (Gi g 355 21).toInt (Gi g 355 22).toInt (voz) (1) (Gi g 355 12).toInt) (hq11 : vGP (Gi g 355 13).toInt (Gi g 355 21).toInt (Gi g 362))  : LW 216 (d + 14) 0 0 0 (lEnt (mL 216) [.ref 355]) [] g (fun v g' => ∃ r : Int32, v = some (.int r) ∧ 0 ≤ r.toInt ∧ r.toInt ≤ 0 ∧ InvR P g' ∧ Gr g' = Gr g ∧ (vSm vsd g' g ∧ vCd g' g) ∧ (r.toInt = 0 → (((Gi g 355 12).toInt < (Gi g' 355 12).toInt) ∧ (0 ≤ (Gi g' 355 12).toInt) ∧ ((Gi g' 355 12).toInt ≤ (Gi g' 355 11).toInt) ∧ ((Gi g' 355 11).toInt ≤ (Gi g' 355 8).toInt) ∧ ((Gi g' 355 8).toInt ≤ 300) ∧ ((Gi g' 355 13).toInt = 0 ∨ (Gi g' 355 12).toInt < (Gi g' 355 11).toInt) ∧ ((Gi g' 355 16).toInt = (Gi g 355 16).toInt) ∧ ((Gi g 355 18).toInt ≤ (Gi g' 355 18).toInt) ∧ ((Gi g' 355 18).toInt + (Gi g' 355 21).toInt + (Gi g 355 12).toInt ≤ (Gi g 355 18).toInt + (Gi g 355 21).toInt + (Gi g' 355 12).toInt) ∧ (0 ≤ (Gi g' 355 21).toInt) ∧ ((Gi g' 355 23).toInt = 0 ∨ (Gi g' 355 23).toInt = 1))) ∧ (r.toInt = 0 → vSV (Gi g' 358) (Gi g' 362) (Int.toNat (Gi g' 355 16).toInt + 265) vs vn vt (Gi g' 355 18).toInt (Gi g' 355 21).toInt (Gi g' 355 22).toInt (voz) ((Gi g' 355 23).toInt) (Gi g' 355 12).toInt)) := by
  refine LW_ls (ls' := [some (.ref 355), none]) rfl ?_
  have hG : Gr g = Gr g := rfl
  have hF : (vSm vsd g g ∧ vCd g g) := And.intro vSm.refl vCd.refl
  obtain ⟨vz1, evz1⟩ : ∃ z, Gi g 355 12 = z := ⟨_, rfl⟩
  rw [evz1] at hq0
  rw [evz1] at hq1
  obtain ⟨vz2, evz2⟩ : ∃ z, Gi g 355 11 = z := ⟨_, rfl⟩
  rw [evz2] at hq1
  rw [evz2] at hq2
  obtain ⟨vz3, evz3⟩ : ∃ z, Gi g 355 8 = z := ⟨_, rfl⟩
  have vf4 := O_355_8 (V.2.2.2.2.2.2.1 355 (8) (Nat.le_of_ble_eq_true rfl))
  rw [evz3] at vf4
  rw [evz3] at hq2
  rw [evz3] at hq3
  obtain ⟨vz5, evz5⟩ : ∃ z, Gi g 355 13 = z := ⟨_, rfl⟩
  rw [evz5] at hq4
  rw [evz1] at hq4
  rw [evz2] at hq4
  obtain ⟨vz6, evz6⟩ : ∃ z, Gi g 355 16 = z := ⟨_, rfl⟩
  rw [evz6] at hq5
  obtain ⟨vz7, evz7⟩ : ∃ z, Gi g 356 4 = z := ⟨_, rfl⟩
  have vf8 := A_TEXTS (V.2.2.2.1 (4)) (by omega)
  rw [evz7] at vf8
  rw [evz7] at hq5
  rw [evz7] at hq6
  obtain ⟨vz9, evz9⟩ : ∃ z, Gi g 355 18 = z := ⟨_, rfl⟩
  rw [evz9] at hq7
  obtain ⟨vz10, evz10⟩ : ∃ z, Gi g 355 21 = z := ⟨_, rfl⟩
  rw [evz10] at hq8
  rw [evz9] at hq9
  rw [evz10] at hq9
  rw [evz1] at hq9
  rw [evz6] at hq10
  rw [evz9] at hq10
  rw [evz10] at hq10
  obtain ⟨vz11, evz11⟩ : ∃ z, Gi g 355 22 = z := ⟨_, rfl⟩
  rw [evz11] at hq10
  rw [evz1] at hq10
  rw [evz5] at hq11
  rw [evz10] at hq11
  have vu12 := hq10.ub (by omega)
  have vu13 := hq10.opn
  have vu14 := hq11.or
  have vo355_12 : (Gi g 355 12).toInt = vz1.toInt := congrArg Int32.toInt evz1
  have vo355_16 : (Gi g 355 16).toInt = vz6.toInt := congrArg Int32.toInt evz6
  have vo355_18 : (Gi g 355 18).toInt = vz9.toInt := congrArg Int32.toInt evz9
  have vo355_21 : (Gi g 355 21).toInt = vz10.toInt := congrArg Int32.toInt evz10
  refine X_aload_n rfl rfl rfl rfl ?_
  refine X_getI (v := vz5) rfl rfl rfl ((congrFun V.1 355).trans s_355) rfl evz5 ?_
  refine X_istore_n (i := 1) (ls' := [some (.ref 355), some (.int vz5)]) rfl rfl rfl (Nat.le_of_ble_eq_true rfl) rfl ?_
  refine X_iload_n rfl rfl rfl rfl ?_
  refine X_bipush (v := (43 : Int32)) rfl rfl rfl ?_
  refine S_icmp_eq (tgt := 17) rfl rfl rfl rfl (show (43 : Int32).toInt = 43 from rfl) (fun vh15 => ?_) (fun vh15 => ?_)
  · refine X_aload_n rfl rfl rfl rfl ?_
    refine X_iconst (v := (3 : Int32)) rfl rfl rfl ?_
    have vo355_18 : (Gi g 355 18).toInt = vz9.toInt := congrArg Int32.toInt evz9
    have vo355_21 : (Gi g 355 21).toInt = vz10.toInt := congrArg Int32.toInt evz10
    have vo355_16 : (Gi g 355 16).toInt = vz6.toInt := congrArg Int32.toInt evz6
    have vo355_22 : (Gi g 355 22).toInt = vz11.toInt := congrArg Int32.toInt evz11
    refine Y_callV (as := [.int (3 : Int32)]) (st := []) rfl rfl rfl (by decide) rfl (Nat.le_of_ble_eq_true rfl) (by decide) (Nat.le_of_ble_eq_true rfl) rfl ((congrFun V.1 355).trans s_355) (by decide) (C_X13_settle (vs := vs) (vn := vn) (vt := vt) (voz := voz) V (3 : Int32) 3 (show (3 : Int32).toInt = 3 from rfl) (by omega) (by rw [evz6, evz7] <;> omega) (by rw [evz7] <;> omega) (by rw [evz9] <;> omega) (by rw [evz10] <;> omega) (by rw [evz9, evz10, evz1] <;> omega) (by rw [evz1] <;> omega) (by rw [evz6, evz9, evz10, evz11, evz1]; exact (hq10))) ?_
    rintro _ g ⟨rfl, V, hq, chF, vq17, vq18, vq19, vq20, vq21, vq22, vq23, vq24, vq25⟩
    have hG := hq.trans hG
    have evz1 := (chF.1 355 12 (by decide)).trans evz1
    have evz2 := (chF.1 355 11 (by decide)).trans evz2
    have evz3 := (chF.1 355 8 (by decide)).trans evz3
    have evz5 := (chF.1 355 13 (by decide)).trans evz5
    have evz6 := (chF.1 355 16 (by decide)).trans evz6
    have evz7 := (chF.1 356 4 (by decide)).trans evz7
    have hF := And.intro (vSm.tr chF.1 vi_dc hF.1) (vCd.tr hF.2 chF.2 (by omega))
    obtain ⟨vz26, evz26⟩ : ∃ z, Gi g 355 18 = z := ⟨_, rfl⟩
    rw [evz26] at vq17
    obtain ⟨vz27, evz27⟩ : ∃ z, Gi g 355 21 = z := ⟨_, rfl⟩
    rw [evz27] at vq17
    rw [evz26] at vq18
    rw [evz6] at vq19
    rw [evz27] at vq20
    rw [evz27] at vq21
    obtain ⟨vz28, evz28⟩ : ∃ z, Gi g 355 22 = z := ⟨_, rfl⟩
    rw [evz28] at vq22
    rw [evz6] at vq23
    rw [evz26] at vq23
    rw [evz27] at vq23
    rw [evz28] at vq23
    rw [evz1] at vq23
    rw [evz27] at vq24
    rw [evz27] at vq25
    rw [← (funext fun k => chF.1 362 k ⟨by decide, Or.inl (by decide)⟩ : Gi g 362 = _)] at hq10 hq11
    have vu29 := vq23.ub (by omega)
    have vu30 := vq23.opn
    have vo31 : vz5.toInt = 41 → 0 < vz27.toInt := fun vh => vGP.pos hq11 vh vq24 (by omega)
    refine X_aload_n rfl rfl rfl rfl ?_
    refine X_iload_n rfl rfl rfl rfl ?_
    refine X_bipush (v := (43 : Int32)) rfl rfl rfl ?_
    refine S_icmp_ne (tgt := 33) rfl rfl rfl rfl (show (43 : Int32).toInt = 43 from rfl) (fun q => absurd q (by omega)) (fun vh32 => ?_)
    refine X_iconst (v := (3 : Int32)) rfl rfl rfl ?_
    refine LW_goto (tgt := 34) rfl rfl ?_
    refine X_callV (as := [.int (3 : Int32)]) (st := []) rfl rfl rfl (by decide) rfl (Nat.le_of_ble_eq_true rfl) (by decide) (Nat.le_of_ble_eq_true rfl) rfl ((congrFun V.1 355).trans s_355) (by decide) ?_
    refine LW_ls (ls' := [some (.ref 355), some (.int (3 : Int32))]) rfl ?_
    refine X_aload_n rfl rfl rfl rfl ?_
    refine X_getR (a := 362) rfl rfl rfl ((congrFun V.1 355).trans s_355) rfl ((congrFun (V.2.1 355 (by decide)) 20).trans r_355_20) ?_
    refine X_aload_n rfl rfl rfl rfl ?_
    refine X_getI (v := vz27) rfl rfl rfl ((congrFun V.1 355).trans s_355) rfl evz27 ?_
    refine X_iload_n rfl rfl rfl rfl ?_
    refine S_iast (I := InvR _) rfl rfl ((congrFun V.1 362).trans s_362) rfl (by omega) (InvR_putO V (by decide) trivial) (fun g V ve33 vn34 hq => ?_)
    have hG := hq.trans hG
    have hF := And.intro (vSm.putN hF.1 vn34 (by unfold vsd; omega)) (vCd.oth hF.2 (fun k => vn34 358 k (Or.inl (by decide))))
    have evz1 := (vn34 (355) 12 (Or.inl (by decide))).trans evz1
    have evz2 := (vn34 (355) 11 (Or.inl (by decide))).trans evz2
    have evz3 := (vn34 (355) 8 (Or.inl (by decide))).trans evz3
    have evz5 := (vn34 (355) 13 (Or.inl (by decide))).trans evz5
    have evz6 := (vn34 (355) 16 (Or.inl (by decide))).trans evz6
    have evz7 := (vn34 (356) 4 (Or.inl (by decide))).trans evz7
    have evz26 := (vn34 (355) 18 (Or.inl (by decide))).trans evz26
    have evz27 := (vn34 (355) 21 (Or.inl (by decide))).trans evz27
    have evz28 := (vn34 (355) 22 (Or.inl (by decide))).trans evz28
    rw [← (funext fun k => vn34 358 k (Or.inl (by decide)) : Gi g 358 = _)] at vq23
    have va35 := fun (k : Nat) (vh' : k ≠ (vz27.toInt : Int).toNat) => vn34 362 k (Or.inr vh')
    have va36 := ve33
    refine X_aload_n rfl rfl rfl rfl ?_
    refine X_dup rfl rfl rfl ?_
    refine X_getI (v := vz27) rfl rfl rfl ((congrFun V.1 355).trans s_355) rfl evz27 ?_
    refine X_iconst (v := (1 : Int32)) rfl rfl rfl ?_
    refine S_iadd rfl rfl rfl (show (1 : Int32).toInt = 1 from rfl) (by omega) (fun vz37 hvz37 => ?_)
    refine S_putI (I := InvR _) rfl rfl rfl ((congrFun V.1 355).trans s_355) rfl rfl rfl rfl (InvR_putO V (by decide) trivial) (fun g V ve38 vn39 hq => ?_)
    have hG := hq.trans hG
    have hF := And.intro (vSm.putN hF.1 vn39 (by decide)) (vCd.oth hF.2 (fun k => vn39 358 k (Or.inl (by decide))))
    have evz1 := (vn39 (355) 12 (Or.inr (by decide))).trans evz1
    have evz2 := (vn39 (355) 11 (Or.inr (by decide))).trans evz2
    have evz3 := (vn39 (355) 8 (Or.inr (by decide))).trans evz3
    have evz5 := (vn39 (355) 13 (Or.inr (by decide))).trans evz5
    have evz6 := (vn39 (355) 16 (Or.inr (by decide))).trans evz6
    have evz7 := (vn39 (356) 4 (Or.inl (by decide))).trans evz7
    have evz26 := (vn39 (355) 18 (Or.inr (by decide))).trans evz26
    have evz28 := (vn39 (355) 22 (Or.inr (by decide))).trans evz28
    rw [← (funext fun k => vn39 358 k (Or.inl (by decide)) : Gi g 358 = _)] at vq23
    rw [← (funext fun k => vn39 362 k (Or.inl (by decide)) : Gi g 362 = _)] at va35 va36
    refine LW_return (st := []) rfl rfl ?_
    refine X_aload_n rfl rfl rfl rfl ?_
    refine X_iconst (v := (0 : Int32)) rfl rfl rfl ?_
    refine S_putI (I := InvR _) rfl rfl rfl ((congrFun V.1 355).trans s_355) rfl rfl rfl rfl (InvR_putO V (by decide) trivial) (fun g V ve40 vn41 hq => ?_)
    have hG := hq.trans hG
    have hF := And.intro (vSm.putN hF.1 vn41 (by decide)) (vCd.oth hF.2 (fun k => vn41 358 k (Or.inl (by decide))))
    have evz1 := (vn41 (355) 12 (Or.inr (by decide))).trans evz1
    have evz2 := (vn41 (355) 11 (Or.inr (by decide))).trans evz2
    have evz3 := (vn41 (355) 8 (Or.inr (by decide))).trans evz3
    have evz5 := (vn41 (355) 13 (Or.inr (by decide))).trans evz5
    have evz6 := (vn41 (355) 16 (Or.inr (by decide))).trans evz6
    have evz7 := (vn41 (356) 4 (Or.inl (by decide))).trans evz7
    have evz26 := (vn41 (355) 18 (Or.inr (by decide))).trans evz26
    have evz28 := (vn41 (355) 22 (Or.inr (by decide))).trans evz28
    have ve38 := (vn41 (355) 21 (Or.inr (by decide))).trans ve38
    rw [← (funext fun k => vn41 358 k (Or.inl (by decide)) : Gi g 358 = _)] at vq23
    rw [← (funext fun k => vn41 362 k (Or.inl (by decide)) : Gi g 362 = _)] at va35 va36
    refine LW_goto (tgt := 115) rfl rfl ?_
    refine X_aload_n rfl rfl rfl rfl ?_
    have vo355_11 : (Gi g 355 11).toInt = vz2.toInt := congrArg Int32.toInt evz2
    refine Y_callV (as := []) (st := []) rfl rfl rfl (by decide) rfl (Nat.le_of_ble_eq_true rfl) (by decide) (Nat.le_of_ble_eq_true rfl) rfl ((congrFun V.1 355).trans s_355) (by decide) (C_X13_nextToken V  (by rw [evz2] <;> omega) (by rw [evz2, evz3] <;> omega) (by rw [evz3] <;> omega)) ?_
    rintro _ g ⟨rfl, V, hq, chF, vq43, vq44, vq45, vq46, vq47, vq48⟩
    have hG := hq.trans hG
    have evz3 := (chF 355 8 (by decide)).trans evz3
    have evz6 := (chF 355 16 (by decide)).trans evz6
    have evz7 := (chF 356 4 (by decide)).trans evz7
    have evz26 := (chF 355 18 (by decide)).trans evz26
    have evz28 := (chF 355 22 (by decide)).trans evz28
    have ve38 := (chF 355 21 (by decide)).trans ve38
    have ve40 := (chF 355 23 (by decide)).trans ve40
    have hF := And.intro (vSm.tr chF vi_da hF.1) (vCd.oth hF.2 (fun k => chF 358 k (Or.inl (by decide))))
    obtain ⟨vz49, evz49⟩ : ∃ z, Gi g 355 12 = z := ⟨_, rfl⟩
    rw [evz49] at vq43
    rw [evz49] at vq44
    rw [evz49] at vq45
    obtain ⟨vz50, evz50⟩ : ∃ z, Gi g 355 11 = z := ⟨_, rfl⟩
    rw [evz50] at vq45
    rw [evz50] at vq46
    rw [evz3] at vq46
    rw [evz3] at vq47
    obtain ⟨vz51, evz51⟩ : ∃ z, Gi g 355 13 = z := ⟨_, rfl⟩
    rw [evz51] at vq48
    rw [evz49] at vq48
    rw [evz50] at vq48
    rw [← (funext fun k => chF 358 k (Or.inl (by decide)) : Gi g 358 = _)] at vq23
    rw [← (funext fun k => chF 362 k (Or.inl (by decide)) : Gi g 362 = _)] at va35 va36
    refine X_iconst (v := (0 : Int32)) rfl rfl rfl ?_
    exact LW_ireturn (st := []) rfl rfl rfl ⟨_, rfl, by decide, by decide, V, hG, hF, (by have vkr := (show (0 : Int32).toInt = 0 from rfl); have vk7 := (show (0 : Int32).toInt = 0 from rfl); rw [evz49, evz50, evz3, evz51, evz6, evz26, ve38, ve40] <;> omega), (by rw [evz6, evz26, ve38, evz28, ve40, evz49]; exact (by
          exact fun _ => (vSV.pushB vq23 va35 (by rw [va36]; exact ⟨by decide, by decide⟩) (by omega) (by omega)).wh rfl))⟩
  · refine X_iload_n rfl rfl rfl rfl ?_
    refine X_bipush (v := (45 : Int32)) rfl rfl rfl ?_
    refine S_icmp_ne (tgt := 45) rfl rfl rfl rfl (show (45 : Int32).toInt = 45 from rfl) (fun vh52 => ?_) (fun vh52 => ?_)
    · refine X_iload_n rfl rfl rfl rfl ?_
      refine X_bipush (v := (42 : Int32)) rfl rfl rfl ?_
      refine S_icmp_eq (tgt := 57) rfl rfl rfl rfl (show (42 : Int32).toInt = 42 from rfl) (fun vh53 => ?_) (fun vh53 => ?_)
      · refine X_aload_n rfl rfl rfl rfl ?_
        refine X_iconst (v := (5 : Int32)) rfl rfl rfl ?_
        have vo355_18 : (Gi g 355 18).toInt = vz9.toInt := congrArg Int32.toInt evz9
        have vo355_21 : (Gi g 355 21).toInt = vz10.toInt := congrArg Int32.toInt evz10
        have vo355_16 : (Gi g 355 16).toInt = vz6.toInt := congrArg Int32.toInt evz6
        have vo355_22 : (Gi g 355 22).toInt = vz11.toInt := congrArg Int32.toInt evz11
        refine Y_callV (as := [.int (5 : Int32)]) (st := []) rfl rfl rfl (by decide) rfl (Nat.le_of_ble_eq_true rfl) (by decide) (Nat.le_of_ble_eq_true rfl) rfl ((congrFun V.1 355).trans s_355) (by decide) (C_X13_settle (vs := vs) (vn := vn) (vt := vt) (voz := voz) V (5 : Int32) 5 (show (5 : Int32).toInt = 5 from rfl) (by omega) (by rw [evz6, evz7] <;> omega) (by rw [evz7] <;> omega) (by rw [evz9] <;> omega) (by rw [evz10] <;> omega) (by rw [evz9, evz10, evz1] <;> omega) (by rw [evz1] <;> omega) (by rw [evz6, evz9, evz10, evz11, evz1]; exact (hq10))) ?_
        rintro _ g ⟨rfl, V, hq, chF, vq55, vq56, vq57, vq58, vq59, vq60, vq61, vq62, vq63⟩
        have hG := hq.trans hG
        have evz1 := (chF.1 355 12 (by decide)).trans evz1
        have evz2 := (chF.1 355 11 (by decide)).trans evz2
        have evz3 := (chF.1 355 8 (by decide)).trans evz3
        have evz5 := (chF.1 355 13 (by decide)).trans evz5
        have evz6 := (chF.1 355 16 (by decide)).trans evz6
        have evz7 := (chF.1 356 4 (by decide)).trans evz7
        have hF := And.intro (vSm.tr chF.1 vi_dc hF.1) (vCd.tr hF.2 chF.2 (by omega))
        obtain ⟨vz64, evz64⟩ : ∃ z, Gi g 355 18 = z := ⟨_, rfl⟩
        rw [evz64] at vq55
        obtain ⟨vz65, evz65⟩ : ∃ z, Gi g 355 21 = z := ⟨_, rfl⟩
        rw [evz65] at vq55
        rw [evz64] at vq56
        rw [evz6] at vq57
        rw [evz65] at vq58
        rw [evz65] at vq59
        obtain ⟨vz66, evz66⟩ : ∃ z, Gi g 355 22 = z := ⟨_, rfl⟩
        rw [evz66] at vq60
        rw [evz6] at vq61
        rw [evz64] at vq61
        rw [evz65] at vq61
        rw [evz66] at vq61
        rw [evz1] at vq61
        rw [evz65] at vq62
        rw [evz65] at vq63
        rw [← (funext fun k => chF.1 362 k ⟨by decide, Or.inl (by decide)⟩ : Gi g 362 = _)] at hq10 hq11
        have vu67 := vq61.ub (by omega)
        have vu68 := vq61.opn
        have vo69 : vz5.toInt = 41 → 0 < vz65.toInt := fun vh => vGP.pos hq11 vh vq62 (by omega)
        refine X_aload_n rfl rfl rfl rfl ?_
        refine X_iload_n rfl rfl rfl rfl ?_
        refine X_bipush (v := (42 : Int32)) rfl rfl rfl ?_
        refine S_icmp_ne (tgt := 73) rfl rfl rfl rfl (show (42 : Int32).toInt = 42 from rfl) (fun q => absurd q (by omega)) (fun vh70 => ?_)
        refine X_iconst (v := (5 : Int32)) rfl rfl rfl ?_
        refine LW_goto (tgt := 75) rfl rfl ?_
        refine X_callV (as := [.int (5 : Int32)]) (st := []) rfl rfl rfl (by decide) rfl (Nat.le_of_ble_eq_true rfl) (by decide) (Nat.le_of_ble_eq_true rfl) rfl ((congrFun V.1 355).trans s_355) (by decide) ?_
        refine LW_ls (ls' := [some (.ref 355), some (.int (5 : Int32))]) rfl ?_
        refine X_aload_n rfl rfl rfl rfl ?_
        refine X_getR (a := 362) rfl rfl rfl ((congrFun V.1 355).trans s_355) rfl ((congrFun (V.2.1 355 (by decide)) 20).trans r_355_20) ?_
        refine X_aload_n rfl rfl rfl rfl ?_
        refine X_getI (v := vz65) rfl rfl rfl ((congrFun V.1 355).trans s_355) rfl evz65 ?_
        refine X_iload_n rfl rfl rfl rfl ?_
        refine S_iast (I := InvR _) rfl rfl ((congrFun V.1 362).trans s_362) rfl (by omega) (InvR_putO V (by decide) trivial) (fun g V ve71 vn72 hq => ?_)
        have hG := hq.trans hG
        have hF := And.intro (vSm.putN hF.1 vn72 (by unfold vsd; omega)) (vCd.oth hF.2 (fun k => vn72 358 k (Or.inl (by decide))))
        have evz1 := (vn72 (355) 12 (Or.inl (by decide))).trans evz1
        have evz2 := (vn72 (355) 11 (Or.inl (by decide))).trans evz2
        have evz3 := (vn72 (355) 8 (Or.inl (by decide))).trans evz3
        have evz5 := (vn72 (355) 13 (Or.inl (by decide))).trans evz5
        have evz6 := (vn72 (355) 16 (Or.inl (by decide))).trans evz6
        have evz7 := (vn72 (356) 4 (Or.inl (by decide))).trans evz7
        have evz64 := (vn72 (355) 18 (Or.inl (by decide))).trans evz64
        have evz65 := (vn72 (355) 21 (Or.inl (by decide))).trans evz65
        have evz66 := (vn72 (355) 22 (Or.inl (by decide))).trans evz66
        rw [← (funext fun k => vn72 358 k (Or.inl (by decide)) : Gi g 358 = _)] at vq61
        have va73 := fun (k : Nat) (vh' : k ≠ (vz65.toInt : Int).toNat) => vn72 362 k (Or.inr vh')
        have va74 := ve71
        refine X_aload_n rfl rfl rfl rfl ?_
        refine X_dup rfl rfl rfl ?_
        refine X_getI (v := vz65) rfl rfl rfl ((congrFun V.1 355).trans s_355) rfl evz65 ?_
        refine X_iconst (v := (1 : Int32)) rfl rfl rfl ?_
        refine S_iadd rfl rfl rfl (show (1 : Int32).toInt = 1 from rfl) (by omega) (fun vz75 hvz75 => ?_)
        refine S_putI (I := InvR _) rfl rfl rfl ((congrFun V.1 355).trans s_355) rfl rfl rfl rfl (InvR_putO V (by decide) trivial) (fun g V ve76 vn77 hq => ?_)
        have hG := hq.trans hG
        have hF := And.intro (vSm.putN hF.1 vn77 (by decide)) (vCd.oth hF.2 (fun k => vn77 358 k (Or.inl (by decide))))
        have evz1 := (vn77 (355) 12 (Or.inr (by decide))).trans evz1
        have evz2 := (vn77 (355) 11 (Or.inr (by decide))).trans evz2
        have evz3 := (vn77 (355) 8 (Or.inr (by decide))).trans evz3
        have evz5 := (vn77 (355) 13 (Or.inr (by decide))).trans evz5
        have evz6 := (vn77 (355) 16 (Or.inr (by decide))).trans evz6
        have evz7 := (vn77 (356) 4 (Or.inl (by decide))).trans evz7
        have evz64 := (vn77 (355) 18 (Or.inr (by decide))).trans evz64
        have evz66 := (vn77 (355) 22 (Or.inr (by decide))).trans evz66
        rw [← (funext fun k => vn77 358 k (Or.inl (by decide)) : Gi g 358 = _)] at vq61
        rw [← (funext fun k => vn77 362 k (Or.inl (by decide)) : Gi g 362 = _)] at va73 va74
        refine LW_return (st := []) rfl rfl ?_
        refine X_aload_n rfl rfl rfl rfl ?_
        refine X_iconst (v := (0 : Int32)) rfl rfl rfl ?_
        refine S_putI (I := InvR _) rfl rfl rfl ((congrFun V.1 355).trans s_355) rfl rfl rfl rfl (InvR_putO V (by decide) trivial) (fun g V ve78 vn79 hq => ?_)
        have hG := hq.trans hG
        have hF := And.intro (vSm.putN hF.1 vn79 (by decide)) (vCd.oth hF.2 (fun k => vn79 358 k (Or.inl (by decide))))
        have evz1 := (vn79 (355) 12 (Or.inr (by decide))).trans evz1
        have evz2 := (vn79 (355) 11 (Or.inr (by decide))).trans evz2
        have evz3 := (vn79 (355) 8 (Or.inr (by decide))).trans evz3
        have evz5 := (vn79 (355) 13 (Or.inr (by decide))).trans evz5
        have evz6 := (vn79 (355) 16 (Or.inr (by decide))).trans evz6
        have evz7 := (vn79 (356) 4 (Or.inl (by decide))).trans evz7
        have evz64 := (vn79 (355) 18 (Or.inr (by decide))).trans evz64
        have evz66 := (vn79 (355) 22 (Or.inr (by decide))).trans evz66
        have ve76 := (vn79 (355) 21 (Or.inr (by decide))).trans ve76
        rw [← (funext fun k => vn79 358 k (Or.inl (by decide)) : Gi g 358 = _)] at vq61
        rw [← (funext fun k => vn79 362 k (Or.inl (by decide)) : Gi g 362 = _)] at va73 va74
        refine LW_goto (tgt := 115) rfl rfl ?_
        refine X_aload_n rfl rfl rfl rfl ?_
        have vo355_11 : (Gi g 355 11).toInt = vz2.toInt := congrArg Int32.toInt evz2
        refine Y_callV (as := []) (st := []) rfl rfl rfl (by decide) rfl (Nat.le_of_ble_eq_true rfl) (by decide) (Nat.le_of_ble_eq_true rfl) rfl ((congrFun V.1 355).trans s_355) (by decide) (C_X13_nextToken V  (by rw [evz2] <;> omega) (by rw [evz2, evz3] <;> omega) (by rw [evz3] <;> omega)) ?_
        rintro _ g ⟨rfl, V, hq, chF, vq81, vq82, vq83, vq84, vq85, vq86⟩
        have hG := hq.trans hG
        have evz3 := (chF 355 8 (by decide)).trans evz3
        have evz6 := (chF 355 16 (by decide)).trans evz6
        have evz7 := (chF 356 4 (by decide)).trans evz7
        have evz64 := (chF 355 18 (by decide)).trans evz64
        have evz66 := (chF 355 22 (by decide)).trans evz66
        have ve76 := (chF 355 21 (by decide)).trans ve76
        have ve78 := (chF 355 23 (by decide)).trans ve78
        have hF := And.intro (vSm.tr chF vi_da hF.1) (vCd.oth hF.2 (fun k => chF 358 k (Or.inl (by decide))))
        obtain ⟨vz87, evz87⟩ : ∃ z, Gi g 355 12 = z := ⟨_, rfl⟩
        rw [evz87] at vq81
        rw [evz87] at vq82
        rw [evz87] at vq83
        obtain ⟨vz88, evz88⟩ : ∃ z, Gi g 355 11 = z := ⟨_, rfl⟩
        rw [evz88] at vq83
        rw [evz88] at vq84
        rw [evz3] at vq84
        rw [evz3] at vq85
        obtain ⟨vz89, evz89⟩ : ∃ z, Gi g 355 13 = z := ⟨_, rfl⟩
        rw [evz89] at vq86
        rw [evz87] at vq86
        rw [evz88] at vq86
        rw [← (funext fun k => chF 358 k (Or.inl (by decide)) : Gi g 358 = _)] at vq61
        rw [← (funext fun k => chF 362 k (Or.inl (by decide)) : Gi g 362 = _)] at va73 va74
        refine X_iconst (v := (0 : Int32)) rfl rfl rfl ?_
        exact LW_ireturn (st := []) rfl rfl rfl ⟨_, rfl, by decide, by decide, V, hG, hF, (by have vkr := (show (0 : Int32).toInt = 0 from rfl); have vk7 := (show (0 : Int32).toInt = 0 from rfl); rw [evz87, evz88, evz3, evz89, evz6, evz64, ve76, ve78] <;> omega), (by rw [evz6, evz64, ve76, evz66, ve78, evz87]; exact (by
              exact fun _ => (vSV.pushB vq61 va73 (by rw [va74]; exact ⟨by decide, by decide⟩) (by omega) (by omega)).wh rfl))⟩
      · refine X_iload_n rfl rfl rfl rfl ?_
        refine X_bipush (v := (47 : Int32)) rfl rfl rfl ?_
        refine S_icmp_ne (tgt := 86) rfl rfl rfl rfl (show (47 : Int32).toInt = 47 from rfl) (fun vh90 => ?_) (fun vh90 => ?_)
        · refine X_aload_n rfl rfl rfl rfl ?_
          refine X_iconst (v := (3 : Int32)) rfl rfl rfl ?_
          have vo355_18 : (Gi g 355 18).toInt = vz9.toInt := congrArg Int32.toInt evz9
          have vo355_21 : (Gi g 355 21).toInt = vz10.toInt := congrArg Int32.toInt evz10
          have vo355_16 : (Gi g 355 16).toInt = vz6.toInt := congrArg Int32.toInt evz6
          have vo355_22 : (Gi g 355 22).toInt = vz11.toInt := congrArg Int32.toInt evz11
          refine Y_callV (as := [.int (3 : Int32)]) (st := []) rfl rfl rfl (by decide) rfl (Nat.le_of_ble_eq_true rfl) (by decide) (Nat.le_of_ble_eq_true rfl) rfl ((congrFun V.1 355).trans s_355) (by decide) (C_X13_settle (vs := vs) (vn := vn) (vt := vt) (voz := voz) V (3 : Int32) 3 (show (3 : Int32).toInt = 3 from rfl) (by omega) (by rw [evz6, evz7] <;> omega) (by rw [evz7] <;> omega) (by rw [evz9] <;> omega) (by rw [evz10] <;> omega) (by rw [evz9, evz10, evz1] <;> omega) (by rw [evz1] <;> omega) (by rw [evz6, evz9, evz10, evz11, evz1]; exact (hq10))) ?_
          rintro _ g ⟨rfl, V, hq, chF, vq92, vq93, vq94, vq95, vq96, vq97, vq98, vq99, vq100⟩
          have hG := hq.trans hG
          have evz1 := (chF.1 355 12 (by decide)).trans evz1
          have evz2 := (chF.1 355 11 (by decide)).trans evz2
          have evz3 := (chF.1 355 8 (by decide)).trans evz3
          have evz5 := (chF.1 355 13 (by decide)).trans evz5
          have evz6 := (chF.1 355 16 (by decide)).trans evz6
          have evz7 := (chF.1 356 4 (by decide)).trans evz7
          have hF := And.intro (vSm.tr chF.1 vi_dc hF.1) (vCd.tr hF.2 chF.2 (by omega))
          obtain ⟨vz101, evz101⟩ : ∃ z, Gi g 355 18 = z := ⟨_, rfl⟩
          rw [evz101] at vq92
          obtain ⟨vz102, evz102⟩ : ∃ z, Gi g 355 21 = z := ⟨_, rfl⟩
          rw [evz102] at vq92
          rw [evz101] at vq93
          rw [evz6] at vq94
          rw [evz102] at vq95
          rw [evz102] at vq96
          obtain ⟨vz103, evz103⟩ : ∃ z, Gi g 355 22 = z := ⟨_, rfl⟩
          rw [evz103] at vq97
          rw [evz6] at vq98
          rw [evz101] at vq98
          rw [evz102] at vq98
          rw [evz103] at vq98
          rw [evz1] at vq98
          rw [evz102] at vq99
          rw [evz102] at vq100
          rw [← (funext fun k => chF.1 362 k ⟨by decide, Or.inl (by decide)⟩ : Gi g 362 = _)] at hq10 hq11
          have vu104 := vq98.ub (by omega)
          have vu105 := vq98.opn
          have vo106 : vz5.toInt = 41 → 0 < vz102.toInt := fun vh => vGP.pos hq11 vh vq99 (by omega)
          refine X_aload_n rfl rfl rfl rfl ?_
          refine X_dup rfl rfl rfl ?_
          refine X_getI (v := vz102) rfl rfl rfl ((congrFun V.1 355).trans s_355) rfl evz102 ?_
          refine X_iconst (v := (1 : Int32)) rfl rfl rfl ?_
          refine S_isub rfl rfl rfl (show (1 : Int32).toInt = 1 from rfl) (by omega) (fun vz107 hvz107 => ?_)
          refine S_putI (I := InvR _) rfl rfl rfl ((congrFun V.1 355).trans s_355) rfl rfl rfl rfl (InvR_putO V (by decide) trivial) (fun g V ve108 vn109 hq => ?_)
          have hG := hq.trans hG
          have hF := And.intro (vSm.putN hF.1 vn109 (by decide)) (vCd.oth hF.2 (fun k => vn109 358 k (Or.inl (by decide))))
          have evz1 := (vn109 (355) 12 (Or.inr (by decide))).trans evz1
          have evz2 := (vn109 (355) 11 (Or.inr (by decide))).trans evz2
          have evz3 := (vn109 (355) 8 (Or.inr (by decide))).trans evz3
          have evz5 := (vn109 (355) 13 (Or.inr (by decide))).trans evz5
          have evz6 := (vn109 (355) 16 (Or.inr (by decide))).trans evz6
          have evz7 := (vn109 (356) 4 (Or.inl (by decide))).trans evz7
          have evz101 := (vn109 (355) 18 (Or.inr (by decide))).trans evz101
          have evz103 := (vn109 (355) 22 (Or.inr (by decide))).trans evz103
          rw [← (funext fun k => vn109 358 k (Or.inl (by decide)) : Gi g 358 = _)] at vq98
          rw [← (funext fun k => vn109 362 k (Or.inl (by decide)) : Gi g 362 = _)] at hq10 hq11 vq98 vq99 vq100
          refine X_aload_n rfl rfl rfl rfl ?_
          refine X_dup rfl rfl rfl ?_
          refine X_getI (v := vz103) rfl rfl rfl ((congrFun V.1 355).trans s_355) rfl evz103 ?_
          refine X_iconst (v := (1 : Int32)) rfl rfl rfl ?_
          refine S_isub rfl rfl rfl (show (1 : Int32).toInt = 1 from rfl) (by omega) (fun vz110 hvz110 => ?_)
          refine S_putI (I := InvR _) rfl rfl rfl ((congrFun V.1 355).trans s_355) rfl rfl rfl rfl (InvR_putO V (by decide) trivial) (fun g V ve111 vn112 hq => ?_)
          have hG := hq.trans hG
          have hF := And.intro (vSm.putN hF.1 vn112 (by decide)) (vCd.oth hF.2 (fun k => vn112 358 k (Or.inl (by decide))))
          have evz1 := (vn112 (355) 12 (Or.inr (by decide))).trans evz1
          have evz2 := (vn112 (355) 11 (Or.inr (by decide))).trans evz2
          have evz3 := (vn112 (355) 8 (Or.inr (by decide))).trans evz3
          have evz5 := (vn112 (355) 13 (Or.inr (by decide))).trans evz5
          have evz6 := (vn112 (355) 16 (Or.inr (by decide))).trans evz6
          have evz7 := (vn112 (356) 4 (Or.inl (by decide))).trans evz7
          have evz101 := (vn112 (355) 18 (Or.inr (by decide))).trans evz101
          have ve108 := (vn112 (355) 21 (Or.inr (by decide))).trans ve108
          rw [← (funext fun k => vn112 358 k (Or.inl (by decide)) : Gi g 358 = _)] at vq98
          rw [← (funext fun k => vn112 362 k (Or.inl (by decide)) : Gi g 362 = _)] at hq10 hq11 vq98 vq99 vq100
          refine X_aload_n rfl rfl rfl rfl ?_
          have vo355_18 : (Gi g 355 18).toInt = vz101.toInt := congrArg Int32.toInt evz101
          have vo355_21 : (Gi g 355 21).toInt = vz107.toInt := congrArg Int32.toInt ve108
          have vo355_16 : (Gi g 355 16).toInt = vz6.toInt := congrArg Int32.toInt evz6
          refine Y_callV (as := []) (st := []) rfl rfl rfl (by decide) rfl (Nat.le_of_ble_eq_true rfl) (by decide) (Nat.le_of_ble_eq_true rfl) rfl ((congrFun V.1 355).trans s_355) (by decide) (C_X13_whole (vs := vs) (vn := vn) (vt := vt) (voz := voz) V  (by rw [evz6, evz7] <;> omega) (by rw [evz7] <;> omega) (by rw [evz101] <;> omega) (by rw [ve108] <;> omega) (by rw [evz101, ve108, evz1] <;> omega) (by rw [evz1] <;> omega) (by rw [evz6, evz101, ve108, ve111, evz1]; exact (by
                exact vSV.par vq98 (by omega) (vq100.resolve_left (by omega)) (by omega) (by omega)))) ?_
          rintro _ g ⟨rfl, V, hq, chF, vq114, vq115, vq116, vq117, vq118, vq119⟩
          have hG := hq.trans hG
          have evz1 := (chF.1 355 12 (by decide)).trans evz1
          have evz2 := (chF.1 355 11 (by decide)).trans evz2
          have evz3 := (chF.1 355 8 (by decide)).trans evz3
          have evz5 := (chF.1 355 13 (by decide)).trans evz5
          have evz6 := (chF.1 355 16 (by decide)).trans evz6
          have evz7 := (chF.1 356 4 (by decide)).trans evz7
          have hF := And.intro (vSm.tr chF.1 vi_dc hF.1) (vCd.tr hF.2 chF.2 (by omega))
          obtain ⟨vz120, evz120⟩ : ∃ z, Gi g 355 23 = z := ⟨_, rfl⟩
          rw [evz120] at vq114
          obtain ⟨vz121, evz121⟩ : ∃ z, Gi g 355 18 = z := ⟨_, rfl⟩
          rw [evz121] at vq115
          obtain ⟨vz122, evz122⟩ : ∃ z, Gi g 355 21 = z := ⟨_, rfl⟩
          rw [evz122] at vq115
          rw [evz121] at vq116
          rw [evz6] at vq117
          rw [evz122] at vq118
          rw [evz6] at vq119
          rw [evz121] at vq119
          rw [evz122] at vq119
          obtain ⟨vz123, evz123⟩ : ∃ z, Gi g 355 22 = z := ⟨_, rfl⟩
          rw [evz123] at vq119
          rw [evz1] at vq119
          rw [← (funext fun k => chF.1 362 k ⟨by decide, Or.inl (by decide)⟩ : Gi g 362 = _)] at hq10 hq11 vq98 vq99 vq100
          have vu124 := vq119.ub (by omega)
          have vu125 := vq119.opn
          refine X_aload_n rfl rfl rfl rfl ?_
          have vo355_11 : (Gi g 355 11).toInt = vz2.toInt := congrArg Int32.toInt evz2
          refine Y_callV (as := []) (st := []) rfl rfl rfl (by decide) rfl (Nat.le_of_ble_eq_true rfl) (by decide) (Nat.le_of_ble_eq_true rfl) rfl ((congrFun V.1 355).trans s_355) (by decide) (C_X13_nextToken V  (by rw [evz2] <;> omega) (by rw [evz2, evz3] <;> omega) (by rw [evz3] <;> omega)) ?_
          rintro _ g ⟨rfl, V, hq, chF, vq127, vq128, vq129, vq130, vq131, vq132⟩
          have hG := hq.trans hG
          have evz3 := (chF 355 8 (by decide)).trans evz3
          have evz6 := (chF 355 16 (by decide)).trans evz6
          have evz7 := (chF 356 4 (by decide)).trans evz7
          have evz120 := (chF 355 23 (by decide)).trans evz120
          have evz121 := (chF 355 18 (by decide)).trans evz121
          have evz122 := (chF 355 21 (by decide)).trans evz122
          have evz123 := (chF 355 22 (by decide)).trans evz123
          have hF := And.intro (vSm.tr chF vi_da hF.1) (vCd.oth hF.2 (fun k => chF 358 k (Or.inl (by decide))))
          obtain ⟨vz133, evz133⟩ : ∃ z, Gi g 355 12 = z := ⟨_, rfl⟩
          rw [evz133] at vq127
          rw [evz133] at vq128
          rw [evz133] at vq129
          obtain ⟨vz134, evz134⟩ : ∃ z, Gi g 355 11 = z := ⟨_, rfl⟩
          rw [evz134] at vq129
          rw [evz134] at vq130
          rw [evz3] at vq130
          rw [evz3] at vq131
          obtain ⟨vz135, evz135⟩ : ∃ z, Gi g 355 13 = z := ⟨_, rfl⟩
          rw [evz135] at vq132
          rw [evz133] at vq132
          rw [evz134] at vq132
          rw [← (funext fun k => chF 358 k (Or.inl (by decide)) : Gi g 358 = _)] at vq119
          rw [← (funext fun k => chF 362 k (Or.inl (by decide)) : Gi g 362 = _)] at hq10 hq11 vq98 vq99 vq100 vq119
          refine X_iconst (v := (0 : Int32)) rfl rfl rfl ?_
          exact LW_ireturn (st := []) rfl rfl rfl ⟨_, rfl, by decide, by decide, V, hG, hF, (by have vkr := (show (0 : Int32).toInt = 0 from rfl); rw [evz133, evz134, evz3, evz135, evz6, evz121, evz122, evz120] <;> omega), (by rw [evz6, evz121, evz122, evz123, evz120, evz133]; exact (by
                exact fun _ => (vq119.mono (by omega)).wh (by omega)))⟩
        · refine X_aload_n rfl rfl rfl rfl ?_
          refine X_iconst (v := (5 : Int32)) rfl rfl rfl ?_
          have vo355_18 : (Gi g 355 18).toInt = vz9.toInt := congrArg Int32.toInt evz9
          have vo355_21 : (Gi g 355 21).toInt = vz10.toInt := congrArg Int32.toInt evz10
          have vo355_16 : (Gi g 355 16).toInt = vz6.toInt := congrArg Int32.toInt evz6
          have vo355_22 : (Gi g 355 22).toInt = vz11.toInt := congrArg Int32.toInt evz11
          refine Y_callV (as := [.int (5 : Int32)]) (st := []) rfl rfl rfl (by decide) rfl (Nat.le_of_ble_eq_true rfl) (by decide) (Nat.le_of_ble_eq_true rfl) rfl ((congrFun V.1 355).trans s_355) (by decide) (C_X13_settle (vs := vs) (vn := vn) (vt := vt) (voz := voz) V (5 : Int32) 5 (show (5 : Int32).toInt = 5 from rfl) (by omega) (by rw [evz6, evz7] <;> omega) (by rw [evz7] <;> omega) (by rw [evz9] <;> omega) (by rw [evz10] <;> omega) (by rw [evz9, evz10, evz1] <;> omega) (by rw [evz1] <;> omega) (by rw [evz6, evz9, evz10, evz11, evz1]; exact (hq10))) ?_
          rintro _ g ⟨rfl, V, hq, chF, vq137, vq138, vq139, vq140, vq141, vq142, vq143, vq144, vq145⟩
          have hG := hq.trans hG
          have evz1 := (chF.1 355 12 (by decide)).trans evz1
          have evz2 := (chF.1 355 11 (by decide)).trans evz2
          have evz3 := (chF.1 355 8 (by decide)).trans evz3
          have evz5 := (chF.1 355 13 (by decide)).trans evz5
          have evz6 := (chF.1 355 16 (by decide)).trans evz6
          have evz7 := (chF.1 356 4 (by decide)).trans evz7
          have hF := And.intro (vSm.tr chF.1 vi_dc hF.1) (vCd.tr hF.2 chF.2 (by omega))
          obtain ⟨vz146, evz146⟩ : ∃ z, Gi g 355 18 = z := ⟨_, rfl⟩
          rw [evz146] at vq137
          obtain ⟨vz147, evz147⟩ : ∃ z, Gi g 355 21 = z := ⟨_, rfl⟩
          rw [evz147] at vq137
          rw [evz146] at vq138
          rw [evz6] at vq139
          rw [evz147] at vq140
          rw [evz147] at vq141
          obtain ⟨vz148, evz148⟩ : ∃ z, Gi g 355 22 = z := ⟨_, rfl⟩
          rw [evz148] at vq142
          rw [evz6] at vq143
          rw [evz146] at vq143
          rw [evz147] at vq143
          rw [evz148] at vq143
          rw [evz1] at vq143
          rw [evz147] at vq144
          rw [evz147] at vq145
          rw [← (funext fun k => chF.1 362 k ⟨by decide, Or.inl (by decide)⟩ : Gi g 362 = _)] at hq10 hq11
          have vu149 := vq143.ub (by omega)
          have vu150 := vq143.opn
          have vo151 : vz5.toInt = 41 → 0 < vz147.toInt := fun vh => vGP.pos hq11 vh vq144 (by omega)
          refine X_aload_n rfl rfl rfl rfl ?_
          refine X_iload_n rfl rfl rfl rfl ?_
          refine X_bipush (v := (42 : Int32)) rfl rfl rfl ?_
          refine S_icmp_ne (tgt := 73) rfl rfl rfl rfl (show (42 : Int32).toInt = 42 from rfl) (fun vh152 => ?_) (fun q => absurd q (by omega))
          refine X_bipush (v := (6 : Int32)) rfl rfl rfl ?_
          refine X_callV (as := [.int (6 : Int32)]) (st := []) rfl rfl rfl (by decide) rfl (Nat.le_of_ble_eq_true rfl) (by decide) (Nat.le_of_ble_eq_true rfl) rfl ((congrFun V.1 355).trans s_355) (by decide) ?_
          refine LW_ls (ls' := [some (.ref 355), some (.int (6 : Int32))]) rfl ?_
          refine X_aload_n rfl rfl rfl rfl ?_
          refine X_getR (a := 362) rfl rfl rfl ((congrFun V.1 355).trans s_355) rfl ((congrFun (V.2.1 355 (by decide)) 20).trans r_355_20) ?_
          refine X_aload_n rfl rfl rfl rfl ?_
          refine X_getI (v := vz147) rfl rfl rfl ((congrFun V.1 355).trans s_355) rfl evz147 ?_
          refine X_iload_n rfl rfl rfl rfl ?_
          refine S_iast (I := InvR _) rfl rfl ((congrFun V.1 362).trans s_362) rfl (by omega) (InvR_putO V (by decide) trivial) (fun g V ve153 vn154 hq => ?_)
          have hG := hq.trans hG
          have hF := And.intro (vSm.putN hF.1 vn154 (by unfold vsd; omega)) (vCd.oth hF.2 (fun k => vn154 358 k (Or.inl (by decide))))
          have evz1 := (vn154 (355) 12 (Or.inl (by decide))).trans evz1
          have evz2 := (vn154 (355) 11 (Or.inl (by decide))).trans evz2
          have evz3 := (vn154 (355) 8 (Or.inl (by decide))).trans evz3
          have evz5 := (vn154 (355) 13 (Or.inl (by decide))).trans evz5
          have evz6 := (vn154 (355) 16 (Or.inl (by decide))).trans evz6
          have evz7 := (vn154 (356) 4 (Or.inl (by decide))).trans evz7
          have evz146 := (vn154 (355) 18 (Or.inl (by decide))).trans evz146
          have evz147 := (vn154 (355) 21 (Or.inl (by decide))).trans evz147
          have evz148 := (vn154 (355) 22 (Or.inl (by decide))).trans evz148
          rw [← (funext fun k => vn154 358 k (Or.inl (by decide)) : Gi g 358 = _)] at vq143
          have va155 := fun (k : Nat) (vh' : k ≠ (vz147.toInt : Int).toNat) => vn154 362 k (Or.inr vh')
          have va156 := ve153
          refine X_aload_n rfl rfl rfl rfl ?_
          refine X_dup rfl rfl rfl ?_
          refine X_getI (v := vz147) rfl rfl rfl ((congrFun V.1 355).trans s_355) rfl evz147 ?_
          refine X_iconst (v := (1 : Int32)) rfl rfl rfl ?_
          refine S_iadd rfl rfl rfl (show (1 : Int32).toInt = 1 from rfl) (by omega) (fun vz157 hvz157 => ?_)
          refine S_putI (I := InvR _) rfl rfl rfl ((congrFun V.1 355).trans s_355) rfl rfl rfl rfl (InvR_putO V (by decide) trivial) (fun g V ve158 vn159 hq => ?_)
          have hG := hq.trans hG
          have hF := And.intro (vSm.putN hF.1 vn159 (by decide)) (vCd.oth hF.2 (fun k => vn159 358 k (Or.inl (by decide))))
          have evz1 := (vn159 (355) 12 (Or.inr (by decide))).trans evz1
          have evz2 := (vn159 (355) 11 (Or.inr (by decide))).trans evz2
          have evz3 := (vn159 (355) 8 (Or.inr (by decide))).trans evz3
          have evz5 := (vn159 (355) 13 (Or.inr (by decide))).trans evz5
          have evz6 := (vn159 (355) 16 (Or.inr (by decide))).trans evz6
          have evz7 := (vn159 (356) 4 (Or.inl (by decide))).trans evz7
          have evz146 := (vn159 (355) 18 (Or.inr (by decide))).trans evz146
          have evz148 := (vn159 (355) 22 (Or.inr (by decide))).trans evz148
          rw [← (funext fun k => vn159 358 k (Or.inl (by decide)) : Gi g 358 = _)] at vq143
          rw [← (funext fun k => vn159 362 k (Or.inl (by decide)) : Gi g 362 = _)] at va155 va156
          refine LW_return (st := []) rfl rfl ?_
          refine X_aload_n rfl rfl rfl rfl ?_
          refine X_iconst (v := (0 : Int32)) rfl rfl rfl ?_
          refine S_putI (I := InvR _) rfl rfl rfl ((congrFun V.1 355).trans s_355) rfl rfl rfl rfl (InvR_putO V (by decide) trivial) (fun g V ve160 vn161 hq => ?_)
          have hG := hq.trans hG
          have hF := And.intro (vSm.putN hF.1 vn161 (by decide)) (vCd.oth hF.2 (fun k => vn161 358 k (Or.inl (by decide))))
          have evz1 := (vn161 (355) 12 (Or.inr (by decide))).trans evz1
          have evz2 := (vn161 (355) 11 (Or.inr (by decide))).trans evz2
          have evz3 := (vn161 (355) 8 (Or.inr (by decide))).trans evz3
          have evz5 := (vn161 (355) 13 (Or.inr (by decide))).trans evz5
          have evz6 := (vn161 (355) 16 (Or.inr (by decide))).trans evz6
          have evz7 := (vn161 (356) 4 (Or.inl (by decide))).trans evz7
          have evz146 := (vn161 (355) 18 (Or.inr (by decide))).trans evz146
          have evz148 := (vn161 (355) 22 (Or.inr (by decide))).trans evz148
          have ve158 := (vn161 (355) 21 (Or.inr (by decide))).trans ve158
          rw [← (funext fun k => vn161 358 k (Or.inl (by decide)) : Gi g 358 = _)] at vq143
          rw [← (funext fun k => vn161 362 k (Or.inl (by decide)) : Gi g 362 = _)] at va155 va156
          refine LW_goto (tgt := 115) rfl rfl ?_
          refine X_aload_n rfl rfl rfl rfl ?_
          have vo355_11 : (Gi g 355 11).toInt = vz2.toInt := congrArg Int32.toInt evz2
          refine Y_callV (as := []) (st := []) rfl rfl rfl (by decide) rfl (Nat.le_of_ble_eq_true rfl) (by decide) (Nat.le_of_ble_eq_true rfl) rfl ((congrFun V.1 355).trans s_355) (by decide) (C_X13_nextToken V  (by rw [evz2] <;> omega) (by rw [evz2, evz3] <;> omega) (by rw [evz3] <;> omega)) ?_
          rintro _ g ⟨rfl, V, hq, chF, vq163, vq164, vq165, vq166, vq167, vq168⟩
          have hG := hq.trans hG
          have evz3 := (chF 355 8 (by decide)).trans evz3
          have evz6 := (chF 355 16 (by decide)).trans evz6
          have evz7 := (chF 356 4 (by decide)).trans evz7
          have evz146 := (chF 355 18 (by decide)).trans evz146
          have evz148 := (chF 355 22 (by decide)).trans evz148
          have ve158 := (chF 355 21 (by decide)).trans ve158
          have ve160 := (chF 355 23 (by decide)).trans ve160
          have hF := And.intro (vSm.tr chF vi_da hF.1) (vCd.oth hF.2 (fun k => chF 358 k (Or.inl (by decide))))
          obtain ⟨vz169, evz169⟩ : ∃ z, Gi g 355 12 = z := ⟨_, rfl⟩
          rw [evz169] at vq163
          rw [evz169] at vq164
          rw [evz169] at vq165
          obtain ⟨vz170, evz170⟩ : ∃ z, Gi g 355 11 = z := ⟨_, rfl⟩
          rw [evz170] at vq165
          rw [evz170] at vq166
          rw [evz3] at vq166
          rw [evz3] at vq167
          obtain ⟨vz171, evz171⟩ : ∃ z, Gi g 355 13 = z := ⟨_, rfl⟩
          rw [evz171] at vq168
          rw [evz169] at vq168
          rw [evz170] at vq168
          rw [← (funext fun k => chF 358 k (Or.inl (by decide)) : Gi g 358 = _)] at vq143
          rw [← (funext fun k => chF 362 k (Or.inl (by decide)) : Gi g 362 = _)] at va155 va156
          refine X_iconst (v := (0 : Int32)) rfl rfl rfl ?_
          exact LW_ireturn (st := []) rfl rfl rfl ⟨_, rfl, by decide, by decide, V, hG, hF, (by have vkr := (show (0 : Int32).toInt = 0 from rfl); have vk7 := (show (0 : Int32).toInt = 0 from rfl); rw [evz169, evz170, evz3, evz171, evz6, evz146, ve158, ve160] <;> omega), (by rw [evz6, evz146, ve158, evz148, ve160, evz169]; exact (by
                exact fun _ => (vSV.pushB vq143 va155 (by rw [va156]; exact ⟨by decide, by decide⟩) (by omega) (by omega)).wh rfl))⟩
    · refine X_aload_n rfl rfl rfl rfl ?_
      refine X_iconst (v := (3 : Int32)) rfl rfl rfl ?_
      have vo355_18 : (Gi g 355 18).toInt = vz9.toInt := congrArg Int32.toInt evz9
      have vo355_21 : (Gi g 355 21).toInt = vz10.toInt := congrArg Int32.toInt evz10
      have vo355_16 : (Gi g 355 16).toInt = vz6.toInt := congrArg Int32.toInt evz6
      have vo355_22 : (Gi g 355 22).toInt = vz11.toInt := congrArg Int32.toInt evz11
      refine Y_callV (as := [.int (3 : Int32)]) (st := []) rfl rfl rfl (by decide) rfl (Nat.le_of_ble_eq_true rfl) (by decide) (Nat.le_of_ble_eq_true rfl) rfl ((congrFun V.1 355).trans s_355) (by decide) (C_X13_settle (vs := vs) (vn := vn) (vt := vt) (voz := voz) V (3 : Int32) 3 (show (3 : Int32).toInt = 3 from rfl) (by omega) (by rw [evz6, evz7] <;> omega) (by rw [evz7] <;> omega) (by rw [evz9] <;> omega) (by rw [evz10] <;> omega) (by rw [evz9, evz10, evz1] <;> omega) (by rw [evz1] <;> omega) (by rw [evz6, evz9, evz10, evz11, evz1]; exact (hq10))) ?_
      rintro _ g ⟨rfl, V, hq, chF, vq173, vq174, vq175, vq176, vq177, vq178, vq179, vq180, vq181⟩
      have hG := hq.trans hG
      have evz1 := (chF.1 355 12 (by decide)).trans evz1
      have evz2 := (chF.1 355 11 (by decide)).trans evz2
      have evz3 := (chF.1 355 8 (by decide)).trans evz3
      have evz5 := (chF.1 355 13 (by decide)).trans evz5
      have evz6 := (chF.1 355 16 (by decide)).trans evz6
      have evz7 := (chF.1 356 4 (by decide)).trans evz7
      have hF := And.intro (vSm.tr chF.1 vi_dc hF.1) (vCd.tr hF.2 chF.2 (by omega))
      obtain ⟨vz182, evz182⟩ : ∃ z, Gi g 355 18 = z := ⟨_, rfl⟩
      rw [evz182] at vq173
      obtain ⟨vz183, evz183⟩ : ∃ z, Gi g 355 21 = z := ⟨_, rfl⟩
      rw [evz183] at vq173
      rw [evz182] at vq174
      rw [evz6] at vq175
      rw [evz183] at vq176
      rw [evz183] at vq177
      obtain ⟨vz184, evz184⟩ : ∃ z, Gi g 355 22 = z := ⟨_, rfl⟩
      rw [evz184] at vq178
      rw [evz6] at vq179
      rw [evz182] at vq179
      rw [evz183] at vq179
      rw [evz184] at vq179
      rw [evz1] at vq179
      rw [evz183] at vq180
      rw [evz183] at vq181
      rw [← (funext fun k => chF.1 362 k ⟨by decide, Or.inl (by decide)⟩ : Gi g 362 = _)] at hq10 hq11
      have vu185 := vq179.ub (by omega)
      have vu186 := vq179.opn
      have vo187 : vz5.toInt = 41 → 0 < vz183.toInt := fun vh => vGP.pos hq11 vh vq180 (by omega)
      refine X_aload_n rfl rfl rfl rfl ?_
      refine X_iload_n rfl rfl rfl rfl ?_
      refine X_bipush (v := (43 : Int32)) rfl rfl rfl ?_
      refine S_icmp_ne (tgt := 33) rfl rfl rfl rfl (show (43 : Int32).toInt = 43 from rfl) (fun vh188 => ?_) (fun q => absurd q (by omega))
      refine X_iconst (v := (4 : Int32)) rfl rfl rfl ?_
      refine X_callV (as := [.int (4 : Int32)]) (st := []) rfl rfl rfl (by decide) rfl (Nat.le_of_ble_eq_true rfl) (by decide) (Nat.le_of_ble_eq_true rfl) rfl ((congrFun V.1 355).trans s_355) (by decide) ?_
      refine LW_ls (ls' := [some (.ref 355), some (.int (4 : Int32))]) rfl ?_
      refine X_aload_n rfl rfl rfl rfl ?_
      refine X_getR (a := 362) rfl rfl rfl ((congrFun V.1 355).trans s_355) rfl ((congrFun (V.2.1 355 (by decide)) 20).trans r_355_20) ?_
      refine X_aload_n rfl rfl rfl rfl ?_
      refine X_getI (v := vz183) rfl rfl rfl ((congrFun V.1 355).trans s_355) rfl evz183 ?_
      refine X_iload_n rfl rfl rfl rfl ?_
      refine S_iast (I := InvR _) rfl rfl ((congrFun V.1 362).trans s_362) rfl (by omega) (InvR_putO V (by decide) trivial) (fun g V ve189 vn190 hq => ?_)
      have hG := hq.trans hG
      have hF := And.intro (vSm.putN hF.1 vn190 (by unfold vsd; omega)) (vCd.oth hF.2 (fun k => vn190 358 k (Or.inl (by decide))))
      have evz1 := (vn190 (355) 12 (Or.inl (by decide))).trans evz1
      have evz2 := (vn190 (355) 11 (Or.inl (by decide))).trans evz2
      have evz3 := (vn190 (355) 8 (Or.inl (by decide))).trans evz3
      have evz5 := (vn190 (355) 13 (Or.inl (by decide))).trans evz5
      have evz6 := (vn190 (355) 16 (Or.inl (by decide))).trans evz6
      have evz7 := (vn190 (356) 4 (Or.inl (by decide))).trans evz7
      have evz182 := (vn190 (355) 18 (Or.inl (by decide))).trans evz182
      have evz183 := (vn190 (355) 21 (Or.inl (by decide))).trans evz183
      have evz184 := (vn190 (355) 22 (Or.inl (by decide))).trans evz184
      rw [← (funext fun k => vn190 358 k (Or.inl (by decide)) : Gi g 358 = _)] at vq179
      have va191 := fun (k : Nat) (vh' : k ≠ (vz183.toInt : Int).toNat) => vn190 362 k (Or.inr vh')
      have va192 := ve189
      refine X_aload_n rfl rfl rfl rfl ?_
      refine X_dup rfl rfl rfl ?_
      refine X_getI (v := vz183) rfl rfl rfl ((congrFun V.1 355).trans s_355) rfl evz183 ?_
      refine X_iconst (v := (1 : Int32)) rfl rfl rfl ?_
      refine S_iadd rfl rfl rfl (show (1 : Int32).toInt = 1 from rfl) (by omega) (fun vz193 hvz193 => ?_)
      refine S_putI (I := InvR _) rfl rfl rfl ((congrFun V.1 355).trans s_355) rfl rfl rfl rfl (InvR_putO V (by decide) trivial) (fun g V ve194 vn195 hq => ?_)
      have hG := hq.trans hG
      have hF := And.intro (vSm.putN hF.1 vn195 (by decide)) (vCd.oth hF.2 (fun k => vn195 358 k (Or.inl (by decide))))
      have evz1 := (vn195 (355) 12 (Or.inr (by decide))).trans evz1
      have evz2 := (vn195 (355) 11 (Or.inr (by decide))).trans evz2
      have evz3 := (vn195 (355) 8 (Or.inr (by decide))).trans evz3
      have evz5 := (vn195 (355) 13 (Or.inr (by decide))).trans evz5
      have evz6 := (vn195 (355) 16 (Or.inr (by decide))).trans evz6
      have evz7 := (vn195 (356) 4 (Or.inl (by decide))).trans evz7
      have evz182 := (vn195 (355) 18 (Or.inr (by decide))).trans evz182
      have evz184 := (vn195 (355) 22 (Or.inr (by decide))).trans evz184
      rw [← (funext fun k => vn195 358 k (Or.inl (by decide)) : Gi g 358 = _)] at vq179
      rw [← (funext fun k => vn195 362 k (Or.inl (by decide)) : Gi g 362 = _)] at va191 va192
      refine LW_return (st := []) rfl rfl ?_
      refine X_aload_n rfl rfl rfl rfl ?_
      refine X_iconst (v := (0 : Int32)) rfl rfl rfl ?_
      refine S_putI (I := InvR _) rfl rfl rfl ((congrFun V.1 355).trans s_355) rfl rfl rfl rfl (InvR_putO V (by decide) trivial) (fun g V ve196 vn197 hq => ?_)
      have hG := hq.trans hG
      have hF := And.intro (vSm.putN hF.1 vn197 (by decide)) (vCd.oth hF.2 (fun k => vn197 358 k (Or.inl (by decide))))
      have evz1 := (vn197 (355) 12 (Or.inr (by decide))).trans evz1
      have evz2 := (vn197 (355) 11 (Or.inr (by decide))).trans evz2
      have evz3 := (vn197 (355) 8 (Or.inr (by decide))).trans evz3
      have evz5 := (vn197 (355) 13 (Or.inr (by decide))).trans evz5
      have evz6 := (vn197 (355) 16 (Or.inr (by decide))).trans evz6
      have evz7 := (vn197 (356) 4 (Or.inl (by decide))).trans evz7
      have evz182 := (vn197 (355) 18 (Or.inr (by decide))).trans evz182
      have evz184 := (vn197 (355) 22 (Or.inr (by decide))).trans evz184
      have ve194 := (vn197 (355) 21 (Or.inr (by decide))).trans ve194
      rw [← (funext fun k => vn197 358 k (Or.inl (by decide)) : Gi g 358 = _)] at vq179
      rw [← (funext fun k => vn197 362 k (Or.inl (by decide)) : Gi g 362 = _)] at va191 va192
      refine LW_goto (tgt := 115) rfl rfl ?_
      refine X_aload_n rfl rfl rfl rfl ?_
      have vo355_11 : (Gi g 355 11).toInt = vz2.toInt := congrArg Int32.toInt evz2
      refine Y_callV (as := []) (st := []) rfl rfl rfl (by decide) rfl (Nat.le_of_ble_eq_true rfl) (by decide) (Nat.le_of_ble_eq_true rfl) rfl ((congrFun V.1 355).trans s_355) (by decide) (C_X13_nextToken V  (by rw [evz2] <;> omega) (by rw [evz2, evz3] <;> omega) (by rw [evz3] <;> omega)) ?_
      rintro _ g ⟨rfl, V, hq, chF, vq199, vq200, vq201, vq202, vq203, vq204⟩
      have hG := hq.trans hG
      have evz3 := (chF 355 8 (by decide)).trans evz3
      have evz6 := (chF 355 16 (by decide)).trans evz6
      have evz7 := (chF 356 4 (by decide)).trans evz7
      have evz182 := (chF 355 18 (by decide)).trans evz182
      have evz184 := (chF 355 22 (by decide)).trans evz184
      have ve194 := (chF 355 21 (by decide)).trans ve194
      have ve196 := (chF 355 23 (by decide)).trans ve196
      have hF := And.intro (vSm.tr chF vi_da hF.1) (vCd.oth hF.2 (fun k => chF 358 k (Or.inl (by decide))))
      obtain ⟨vz205, evz205⟩ : ∃ z, Gi g 355 12 = z := ⟨_, rfl⟩
      rw [evz205] at vq199
      rw [evz205] at vq200
      rw [evz205] at vq201
      obtain ⟨vz206, evz206⟩ : ∃ z, Gi g 355 11 = z := ⟨_, rfl⟩
      rw [evz206] at vq201
      rw [evz206] at vq202
      rw [evz3] at vq202
      rw [evz3] at vq203
      obtain ⟨vz207, evz207⟩ : ∃ z, Gi g 355 13 = z := ⟨_, rfl⟩
      rw [evz207] at vq204
      rw [evz205] at vq204
      rw [evz206] at vq204
      rw [← (funext fun k => chF 358 k (Or.inl (by decide)) : Gi g 358 = _)] at vq179
      rw [← (funext fun k => chF 362 k (Or.inl (by decide)) : Gi g 362 = _)] at va191 va192
      refine X_iconst (v := (0 : Int32)) rfl rfl rfl ?_
      exact LW_ireturn (st := []) rfl rfl rfl ⟨_, rfl, by decide, by decide, V, hG, hF, (by have vkr := (show (0 : Int32).toInt = 0 from rfl); have vk7 := (show (0 : Int32).toInt = 0 from rfl); rw [evz205, evz206, evz3, evz207, evz6, evz182, ve194, ve196] <;> omega), (by rw [evz6, evz182, ve194, evz184, ve196, evz205]; exact (by
            exact fun _ => (vSV.pushB vq179 va191 (by rw [va192]; exact ⟨by decide, by decide⟩) (by omega) (by omega)).wh rfl))⟩
