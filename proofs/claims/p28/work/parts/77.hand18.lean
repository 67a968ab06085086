/-! the reader: tokens -/
set_option maxRecDepth 10000 in
set_option maxHeartbeats 40000000 in
theorem C_X13_emit {P : Par} {g : LH} {d : Nat}  (V : InvR P g) (x1 : Int32) (y1 : Int) (hx1 : x1.toInt = y1) (x2 : Int32) (y2 : Int) (hx2 : x2.toInt = y2) (hq0 : 0 ≤ (Gi g 355 18).toInt) (hq1 : (Gi g 355 18).toInt ≤ 300) (hq2 : (Gi g 355 16).toInt = 873 * (Gi g 356 4).toInt) (hq3 : (Gi g 356 4).toInt ≤ 3)  : LW 206 (d + 3) 0 0 0 (lEnt (mL 206) [.ref 355, .int x1, .int x2]) [] g (fun v g' => v = none ∧ InvR P g' ∧ Gr g' = Gr g ∧ vSm vsb g' g ∧ ((Gi g' 355 18).toInt = (Gi g 355 18).toInt + 1) ∧ (vEm (Gi g' 358) (Gi g 358) (Int.toNat ((Gi g 355 16).toInt + 265 + 2 * (Gi g 355 18).toInt)) x1 x2) ∧ ((Gi g 355 16).toInt = (Gi g' 355 16).toInt)) := by
  refine LW_ls (ls' := [some (.ref 355), some (.int x1), some (.int x2)]) rfl ?_
  have hG : Gr g = Gr g := rfl
  have hF : vSm vsb g g := vSm.refl
  obtain ⟨vz1, evz1⟩ : ∃ z, Gi g 355 18 = z := ⟨_, rfl⟩
  rw [evz1] at hq0
  rw [evz1] at hq1
  obtain ⟨vz2, evz2⟩ : ∃ z, Gi g 355 16 = z := ⟨_, rfl⟩
  rw [evz2] at hq2
  obtain ⟨vz3, evz3⟩ : ∃ z, Gi g 356 4 = z := ⟨_, rfl⟩
  have vf4 := A_TEXTS (V.2.2.2.1 (4)) (by omega)
  rw [evz3] at vf4
  rw [evz3] at hq2
  rw [evz3] at hq3
  have vo355_18 : (Gi g 355 18).toInt = vz1.toInt := congrArg Int32.toInt evz1
  have vo355_16 : (Gi g 355 16).toInt = vz2.toInt := congrArg Int32.toInt evz2
  refine X_aload_n rfl rfl rfl rfl ?_
  refine X_getR (a := 358) rfl rfl rfl ((congrFun V.1 355).trans s_355) rfl ((congrFun (V.2.1 355 (by decide)) 2).trans r_355_2) ?_
  refine X_aload_n rfl rfl rfl rfl ?_
  refine X_getI (v := vz2) rfl rfl rfl ((congrFun V.1 355).trans s_355) rfl evz2 ?_
  refine X_sipush (v := (265 : Int32)) rfl rfl rfl ?_
  refine S_iadd rfl rfl rfl (show (265 : Int32).toInt = 265 from rfl) (by omega) (fun vz5 hvz5 => ?_)
  refine X_iconst (v := (2 : Int32)) rfl rfl rfl ?_
  refine X_aload_n rfl rfl rfl rfl ?_
  refine X_getI (v := vz1) rfl rfl rfl ((congrFun V.1 355).trans s_355) rfl evz1 ?_
  refine S_imul rfl rfl (show (2 : Int32).toInt = 2 from rfl) rfl (by omega) (fun vz6 hvz6 => ?_)
  refine S_iadd rfl rfl rfl rfl (by omega) (fun vz7 hvz7 => ?_)
  refine X_iload_n rfl rfl rfl rfl ?_
  refine S_iast (I := InvR _) rfl rfl ((congrFun V.1 358).trans s_358) rfl (by omega) (InvR_putX V (by rw [evz3] <;> omega) (vokT_code (t := Int.toNat vz3.toInt) (by omega))) (fun g V ve8 vn9 hq => ?_)
  have hG := hq.trans hG
  have hF := vSm.putN hF vn9 (by unfold vsb; omega)
  have evz1 := (vn9 (355) 18 (Or.inl (by decide))).trans evz1
  have evz2 := (vn9 (355) 16 (Or.inl (by decide))).trans evz2
  have evz3 := (vn9 (356) 4 (Or.inl (by decide))).trans evz3
  refine X_aload_n rfl rfl rfl rfl ?_
  refine X_getR (a := 358) rfl rfl rfl ((congrFun V.1 355).trans s_355) rfl ((congrFun (V.2.1 355 (by decide)) 2).trans r_355_2) ?_
  refine X_aload_n rfl rfl rfl rfl ?_
  refine X_getI (v := vz2) rfl rfl rfl ((congrFun V.1 355).trans s_355) rfl evz2 ?_
  refine X_sipush (v := (265 : Int32)) rfl rfl rfl ?_
  refine S_iadd rfl rfl rfl (show (265 : Int32).toInt = 265 from rfl) (by omega) (fun vz10 hvz10 => ?_)
  refine X_iconst (v := (2 : Int32)) rfl rfl rfl ?_
  refine X_aload_n rfl rfl rfl rfl ?_
  refine X_getI (v := vz1) rfl rfl rfl ((congrFun V.1 355).trans s_355) rfl evz1 ?_
  refine S_imul rfl rfl (show (2 : Int32).toInt = 2 from rfl) rfl (by omega) (fun vz11 hvz11 => ?_)
  refine S_iadd rfl rfl rfl rfl (by omega) (fun vz12 hvz12 => ?_)
  refine X_iconst (v := (1 : Int32)) rfl rfl rfl ?_
  refine S_iadd rfl rfl rfl (show (1 : Int32).toInt = 1 from rfl) (by omega) (fun vz13 hvz13 => ?_)
  refine X_iload_n rfl rfl rfl rfl ?_
  refine S_iast (I := InvR _) rfl rfl ((congrFun V.1 358).trans s_358) rfl (by omega) (InvR_putX V (by rw [evz3] <;> omega) (vokT_code (t := Int.toNat vz3.toInt) (by omega))) (fun g V ve14 vn15 hq => ?_)
  have hG := hq.trans hG
  have hF := vSm.putN hF vn15 (by unfold vsb; omega)
  have evz1 := (vn15 (355) 18 (Or.inl (by decide))).trans evz1
  have evz2 := (vn15 (355) 16 (Or.inl (by decide))).trans evz2
  have evz3 := (vn15 (356) 4 (Or.inl (by decide))).trans evz3
  refine X_aload_n rfl rfl rfl rfl ?_
  refine X_dup rfl rfl rfl ?_
  refine X_getI (v := vz1) rfl rfl rfl ((congrFun V.1 355).trans s_355) rfl evz1 ?_
  refine X_iconst (v := (1 : Int32)) rfl rfl rfl ?_
  refine S_iadd rfl rfl rfl (show (1 : Int32).toInt = 1 from rfl) (by omega) (fun vz16 hvz16 => ?_)
  refine S_putI (I := InvR _) rfl rfl rfl ((congrFun V.1 355).trans s_355) rfl rfl rfl rfl (InvR_putO V (by decide) trivial) (fun g V ve17 vn18 hq => ?_)
  have hG := hq.trans hG
  have hF := vSm.putN hF vn18 (by decide)
  have evz2 := (vn18 (355) 16 (Or.inr (by decide))).trans evz2
  have evz3 := (vn18 (356) 4 (Or.inl (by decide))).trans evz3
  exact LW_return (st := []) rfl rfl ⟨rfl, V, hG, hF, (by rw [ve17] <;> omega), (by
        exact vEm.mk ve8 (fun k vh' => vn9 358 k (Or.inr vh')) ve14 (fun k vh' => vn15 358 k (Or.inr vh')) (fun k => vn18 358 k (Or.inl (by decide))) (by omega) (by omega)), (by rw [evz2] <;> omega)⟩
set_option maxRecDepth 10000 in
set_option maxHeartbeats 40000000 in
theorem C_X13_nextToken_0 {P : Par} {g g0 : LH} {d n : Nat}  (V : InvR P g) (hG : Gr g = Gr g0) (hF : vSm vsa g g0) (o1 : Option Value) (o2 : Option Value) (hq0 : 0 ≤ (Gi g 355 11).toInt) (hq1 : (Gi g 355 11).toInt ≤ (Gi g 355 8).toInt) (hq2 : (Gi g 355 8).toInt ≤ 300) (hq3 : (Gi g0 355 11).toInt ≤ (Gi g 355 11).toInt) (hmu : (300 - (Gi g 355 11).toInt) * 1 + 604 < (n : Int) + 1) (ih0 : ∀ (g : LH) (V : InvR P g) (hG : Gr g = Gr g0) (hF : vSm vsa g g0) (o1 : Option Value) (o2 : Option Value) (hq0 : 0 ≤ (Gi g 355 11).toInt) (hq1 : (Gi g 355 11).toInt ≤ (Gi g 355 8).toInt) (hq2 : (Gi g 355 8).toInt ≤ 300) (hq3 : (Gi g0 355 11).toInt ≤ (Gi g 355 11).toInt), (300 - (Gi g 355 11).toInt) * 1 + 604 < (n : Int) → LW 200 (d + 5) 0 0 0 [some (.ref 355), o1, o2] [] g (fun v g' => v = none ∧ InvR P g' ∧ Gr g' = Gr g0 ∧ vSm vsa g' g0 ∧ ((Gi g0 355 11).toInt ≤ (Gi g' 355 12).toInt) ∧ (0 ≤ (Gi g' 355 12).toInt) ∧ ((Gi g' 355 12).toInt ≤ (Gi g' 355 11).toInt) ∧ ((Gi g' 355 11).toInt ≤ (Gi g' 355 8).toInt) ∧ ((Gi g' 355 8).toInt ≤ 300) ∧ ((Gi g' 355 13).toInt = 0 ∨ (Gi g' 355 12).toInt < (Gi g' 355 11).toInt))) (ih39 : ∀ (g : LH) (V : InvR P g) (hG : Gr g = Gr g0) (hF : vSm vsa g g0) (o1 : Option Value) (o2 : Option Value) (hq0 : 0 ≤ (Gi g 355 11).toInt) (hq1 : (Gi g 355 11).toInt ≤ (Gi g 355 8).toInt) (hq2 : (Gi g 355 8).toInt ≤ 300) (hq3 : (Gi g0 355 11).toInt ≤ (Gi g 355 11).toInt), 603 < (n : Int) → LW 200 (d + 5) 0 0 39 [some (.ref 355), o1, o2] [] g (fun v g' => v = none ∧ InvR P g' ∧ Gr g' = Gr g0 ∧ vSm vsa g' g0 ∧ ((Gi g0 355 11).toInt ≤ (Gi g' 355 12).toInt) ∧ (0 ≤ (Gi g' 355 12).toInt) ∧ ((Gi g' 355 12).toInt ≤ (Gi g' 355 11).toInt) ∧ ((Gi g' 355 11).toInt ≤ (Gi g' 355 8).toInt) ∧ ((Gi g' 355 8).toInt ≤ 300) ∧ ((Gi g' 355 13).toInt = 0 ∨ (Gi g' 355 12).toInt < (Gi g' 355 11).toInt))) (ih85 : ∀ (g : LH) (V : InvR P g) (hG : Gr g = Gr g0) (hF : vSm vsa g g0) (x1 : Int32) (y1 : Int) (hx1 : x1.toInt = y1) (hf1 : 48 ≤ y1 ∧ y1 ≤ 57) (o2 : Option Value) (hq0 : 0 ≤ (Gi g 355 12).toInt) (hq1 : (Gi g 355 12).toInt ≤ (Gi g 355 11).toInt) (hq2 : (Gi g 355 11).toInt ≤ (Gi g 355 8).toInt) (hq3 : (Gi g 355 8).toInt ≤ 300) (hq4 : (Gi g0 355 11).toInt ≤ (Gi g 355 12).toInt) (hq5 : (Gi g 355 13).toInt = 1) (hq6 : (Gi g 355 12).toInt < (Gi g 355 11).toInt ∨ ((Gi g 355 11).toInt < (Gi g 355 8).toInt ∧ 48 ≤ (Gi g 361 (Int.toNat (Gi g 355 11).toInt)).toInt ∧ (Gi g 361 (Int.toNat (Gi g 355 11).toInt)).toInt ≤ 57)), (300 - (Gi g 355 11).toInt) * 1 + 302 < (n : Int) → LW 200 (d + 5) 0 0 85 [some (.ref 355), some (.int x1), o2] [] g (fun v g' => v = none ∧ InvR P g' ∧ Gr g' = Gr g0 ∧ vSm vsa g' g0 ∧ ((Gi g0 355 11).toInt ≤ (Gi g' 355 12).toInt) ∧ (0 ≤ (Gi g' 355 12).toInt) ∧ ((Gi g' 355 12).toInt ≤ (Gi g' 355 11).toInt) ∧ ((Gi g' 355 11).toInt ≤ (Gi g' 355 8).toInt) ∧ ((Gi g' 355 8).toInt ≤ 300) ∧ ((Gi g' 355 13).toInt = 0 ∨ (Gi g' 355 12).toInt < (Gi g' 355 11).toInt))) (ih161 : ∀ (g : LH) (V : InvR P g) (hG : Gr g = Gr g0) (hF : vSm vsa g g0) (x1 : Int32) (y1 : Int) (hx1 : x1.toInt = y1) (hf1 : 65 ≤ y1 ∧ y1 ≤ 122) (o2 : Option Value) (hq0 : 0 ≤ (Gi g 355 12).toInt) (hq1 : (Gi g 355 12).toInt ≤ (Gi g 355 11).toInt) (hq2 : (Gi g 355 11).toInt ≤ (Gi g 355 8).toInt) (hq3 : (Gi g 355 8).toInt ≤ 300) (hq4 : (Gi g0 355 11).toInt ≤ (Gi g 355 12).toInt) (hq5 : (Gi g 355 13).toInt = 2) (hq6 : (Gi g 355 12).toInt < (Gi g 355 11).toInt ∨ ((Gi g 355 11).toInt < (Gi g 355 8).toInt ∧ ((65 ≤ (Gi g 361 (Int.toNat (Gi g 355 11).toInt)).toInt ∧ (Gi g 361 (Int.toNat (Gi g 355 11).toInt)).toInt ≤ 90) ∨ (97 ≤ (Gi g 361 (Int.toNat (Gi g 355 11).toInt)).toInt ∧ (Gi g 361 (Int.toNat (Gi g 355 11).toInt)).toInt ≤ 122)))), (300 - (Gi g 355 11).toInt) * 1 + 0 < (n : Int) → LW 200 (d + 5) 0 0 161 [some (.ref 355), some (.int x1), o2] [] g (fun v g' => v = none ∧ InvR P g' ∧ Gr g' = Gr g0 ∧ vSm vsa g' g0 ∧ ((Gi g0 355 11).toInt ≤ (Gi g' 355 12).toInt) ∧ (0 ≤ (Gi g' 355 12).toInt) ∧ ((Gi g' 355 12).toInt ≤ (Gi g' 355 11).toInt) ∧ ((Gi g' 355 11).toInt ≤ (Gi g' 355 8).toInt) ∧ ((Gi g' 355 8).toInt ≤ 300) ∧ ((Gi g' 355 13).toInt = 0 ∨ (Gi g' 355 12).toInt < (Gi g' 355 11).toInt))) (ih346 : ∀ (g : LH) (V : InvR P g) (hG : Gr g = Gr g0) (hF : vSm vsa g g0) (x1 : Int32) (y1 : Int) (hx1 : x1.toInt = y1) (hf1 : 0 ≤ y1 ∧ y1 ≤ 255) (x2 : Int32) (y2 : Int) (hx2 : x2.toInt = y2) (hf2 : 0 ≤ y2 ∧ y2 ≤ 1) (hq0 : 0 ≤ (Gi g 355 12).toInt) (hq1 : (Gi g 355 12).toInt < (Gi g 355 11).toInt) (hq2 : (Gi g 355 11).toInt ≤ (Gi g 355 8).toInt) (hq3 : (Gi g 355 8).toInt ≤ 300) (hq4 : (Gi g0 355 11).toInt ≤ (Gi g 355 12).toInt), 0 < (n : Int) → LW 200 (d + 5) 0 0 346 [some (.ref 355), some (.int x1), some (.int x2)] [] g (fun v g' => v = none ∧ InvR P g' ∧ Gr g' = Gr g0 ∧ vSm vsa g' g0 ∧ ((Gi g0 355 11).toInt ≤ (Gi g' 355 12).toInt) ∧ (0 ≤ (Gi g' 355 12).toInt) ∧ ((Gi g' 355 12).toInt ≤ (Gi g' 355 11).toInt) ∧ ((Gi g' 355 11).toInt ≤ (Gi g' 355 8).toInt) ∧ ((Gi g' 355 8).toInt ≤ 300) ∧ ((Gi g' 355 13).toInt = 0 ∨ (Gi g' 355 12).toInt < (Gi g' 355 11).toInt))) : LW 200 (d + 5) 0 0 0 [some (.ref 355), o1, o2] [] g (fun v g' => v = none ∧ InvR P g' ∧ Gr g' = Gr g0 ∧ vSm vsa g' g0 ∧ ((Gi g0 355 11).toInt ≤ (Gi g' 355 12).toInt) ∧ (0 ≤ (Gi g' 355 12).toInt) ∧ ((Gi g' 355 12).toInt ≤ (Gi g' 355 11).toInt) ∧ ((Gi g' 355 11).toInt ≤ (Gi g' 355 8).toInt) ∧ ((Gi g' 355 8).toInt ≤ 300) ∧ ((Gi g' 355 13).toInt = 0 ∨ (Gi g' 355 12).toInt < (Gi g' 355 11).toInt)) := by
  obtain ⟨vz1, evz1⟩ : ∃ z, Gi g 355 11 = z := ⟨_, rfl⟩
  rw [evz1] at hq0
  rw [evz1] at hq1
  obtain ⟨vz2, evz2⟩ : ∃ z, Gi g 355 8 = z := ⟨_, rfl⟩
  have vf3 := O_355_8 (V.2.2.2.2.2.2.1 355 (8) (Nat.le_of_ble_eq_true rfl))
  rw [evz2] at vf3
  rw [evz2] at hq1
  rw [evz2] at hq2
  rw [evz1] at hq3
  rw [evz1] at hmu
  refine X_aload_n rfl rfl rfl rfl ?_
  refine X_aload_n rfl rfl rfl rfl ?_
  refine X_getI (v := vz1) rfl rfl rfl ((congrFun V.1 355).trans s_355) rfl evz1 ?_
  refine X_callV (as := [.int vz1]) (st := []) rfl rfl rfl (by decide) rfl (Nat.le_of_ble_eq_true rfl) (by decide) (Nat.le_of_ble_eq_true rfl) rfl ((congrFun V.1 355).trans s_355) (by decide) ?_
  refine LW_ls (ls' := [some (.ref 355), some (.int vz1)]) rfl ?_
  refine X_iload_n rfl rfl rfl rfl ?_
  refine X_aload_n rfl rfl rfl rfl ?_
  refine X_getI (v := vz2) rfl rfl rfl ((congrFun V.1 355).trans s_355) rfl evz2 ?_
  refine S_icmp_ge (tgt := 17) rfl rfl rfl rfl rfl (fun vh4 => ?_) (fun vh4 => ?_)
  · refine X_iconst (v := (-1 : Int32)) rfl rfl rfl ?_
    refine LW_ireturn (st := []) rfl rfl rfl ?_
    refine X_bipush (v := (32 : Int32)) rfl rfl rfl ?_
    refine S_icmp_eq (tgt := 26) rfl rfl rfl (show (-1 : Int32).toInt = -1 from rfl) (show (32 : Int32).toInt = 32 from rfl) (fun q => absurd q (by omega)) (fun vh5 => ?_)
    refine X_aload_n rfl rfl rfl rfl ?_
    refine X_aload_n rfl rfl rfl rfl ?_
    refine X_getI (v := vz1) rfl rfl rfl ((congrFun V.1 355).trans s_355) rfl evz1 ?_
    refine X_callV (as := [.int vz1]) (st := []) rfl rfl rfl (by decide) rfl (Nat.le_of_ble_eq_true rfl) (by decide) (Nat.le_of_ble_eq_true rfl) rfl ((congrFun V.1 355).trans s_355) (by decide) ?_
    refine LW_ls (ls' := [some (.ref 355), some (.int vz1)]) rfl ?_
    refine X_iload_n rfl rfl rfl rfl ?_
    refine X_aload_n rfl rfl rfl rfl ?_
    refine X_getI (v := vz2) rfl rfl rfl ((congrFun V.1 355).trans s_355) rfl evz2 ?_
    refine S_icmp_ge (tgt := 17) rfl rfl rfl rfl rfl (fun vh6 => ?_) (fun vh6 => ?_)
    · refine X_iconst (v := (-1 : Int32)) rfl rfl rfl ?_
      refine LW_ireturn (st := []) rfl rfl rfl ?_
      refine X_bipush (v := (10 : Int32)) rfl rfl rfl ?_
      refine S_icmp_ne (tgt := 39) rfl rfl rfl (show (-1 : Int32).toInt = -1 from rfl) (show (10 : Int32).toInt = 10 from rfl) (fun vh7 => ?_) (fun q => absurd q (by omega))
      exact ih39 _ V hG hF o1 o2  (by rw [evz1] <;> omega) (by rw [evz1, evz2] <;> omega) (by rw [evz2] <;> omega) (by rw [evz1] <;> omega)  (by omega)
    · refine X_aload_n rfl rfl rfl rfl ?_
      refine X_getR (a := 361) rfl rfl rfl ((congrFun V.1 355).trans s_355) rfl ((congrFun (V.2.1 355 (by decide)) 7).trans r_355_7) ?_
      refine X_iload_n rfl rfl rfl rfl ?_
      refine S_iald rfl rfl ((congrFun V.1 361).trans s_361) rfl (by omega) (fun vz8 evz8 => ?_)
      have vf9 := O_361 (V.2.2.2.2.2.2.1 361 ((vz1.toInt : Int).toNat) (Nat.le_of_ble_eq_true rfl))
      rw [evz8] at vf9
      (try rw [evz8] at hq6)
      refine LW_goto (tgt := 18) rfl rfl ?_
      refine LW_ireturn (st := []) rfl rfl rfl ?_
      refine X_bipush (v := (10 : Int32)) rfl rfl rfl ?_
      refine S_icmp_ne (tgt := 39) rfl rfl rfl rfl (show (10 : Int32).toInt = 10 from rfl) (fun vh10 => ?_) (fun vh10 => ?_)
      · exact ih39 _ V hG hF o1 o2  (by rw [evz1] <;> omega) (by rw [evz1, evz2] <;> omega) (by rw [evz2] <;> omega) (by rw [evz1] <;> omega)  (by omega)
      · refine X_aload_n rfl rfl rfl rfl ?_
        refine X_dup rfl rfl rfl ?_
        refine X_getI (v := vz1) rfl rfl rfl ((congrFun V.1 355).trans s_355) rfl evz1 ?_
        refine X_iconst (v := (1 : Int32)) rfl rfl rfl ?_
        refine S_iadd rfl rfl rfl (show (1 : Int32).toInt = 1 from rfl) (by omega) (fun vz11 hvz11 => ?_)
        refine S_putI (I := InvR _) rfl rfl rfl ((congrFun V.1 355).trans s_355) rfl rfl rfl rfl (InvR_putO V (by decide) trivial) (fun g V ve12 vn13 hq => ?_)
        have hG := hq.trans hG
        have hF := vSm.putN hF vn13 (by decide)
        have evz2 := (vn13 (355) 8 (Or.inr (by decide))).trans evz2
        have evz8 := (vn13 (361) ((vz1.toInt : Int).toNat) (Or.inl (by decide))).trans evz8
        refine LW_goto (tgt := 0) rfl rfl ?_
        exact ih0 _ V hG hF o1 o2  (by rw [ve12] <;> omega) (by rw [ve12, evz2] <;> omega) (by rw [evz2] <;> omega) (by rw [ve12] <;> omega)  (by rw [ve12] <;> omega)
  · refine X_aload_n rfl rfl rfl rfl ?_
    refine X_getR (a := 361) rfl rfl rfl ((congrFun V.1 355).trans s_355) rfl ((congrFun (V.2.1 355 (by decide)) 7).trans r_355_7) ?_
    refine X_iload_n rfl rfl rfl rfl ?_
    refine S_iald rfl rfl ((congrFun V.1 361).trans s_361) rfl (by omega) (fun vz14 evz14 => ?_)
    have vf15 := O_361 (V.2.2.2.2.2.2.1 361 ((vz1.toInt : Int).toNat) (Nat.le_of_ble_eq_true rfl))
    rw [evz14] at vf15
    (try rw [evz14] at hq6)
    refine LW_goto (tgt := 18) rfl rfl ?_
    refine LW_ireturn (st := []) rfl rfl rfl ?_
    refine X_bipush (v := (32 : Int32)) rfl rfl rfl ?_
    refine S_icmp_eq (tgt := 26) rfl rfl rfl rfl (show (32 : Int32).toInt = 32 from rfl) (fun vh16 => ?_) (fun vh16 => ?_)
    · refine X_aload_n rfl rfl rfl rfl ?_
      refine X_dup rfl rfl rfl ?_
      refine X_getI (v := vz1) rfl rfl rfl ((congrFun V.1 355).trans s_355) rfl evz1 ?_
      refine X_iconst (v := (1 : Int32)) rfl rfl rfl ?_
      refine S_iadd rfl rfl rfl (show (1 : Int32).toInt = 1 from rfl) (by omega) (fun vz17 hvz17 => ?_)
      refine S_putI (I := InvR _) rfl rfl rfl ((congrFun V.1 355).trans s_355) rfl rfl rfl rfl (InvR_putO V (by decide) trivial) (fun g V ve18 vn19 hq => ?_)
      have hG := hq.trans hG
      have hF := vSm.putN hF vn19 (by decide)
      have evz2 := (vn19 (355) 8 (Or.inr (by decide))).trans evz2
      have evz14 := (vn19 (361) ((vz1.toInt : Int).toNat) (Or.inl (by decide))).trans evz14
      refine LW_goto (tgt := 0) rfl rfl ?_
      exact ih0 _ V hG hF o1 o2  (by rw [ve18] <;> omega) (by rw [ve18, evz2] <;> omega) (by rw [evz2] <;> omega) (by rw [ve18] <;> omega)  (by rw [ve18] <;> omega)
    · refine X_aload_n rfl rfl rfl rfl ?_
      refine X_aload_n rfl rfl rfl rfl ?_
      refine X_getI (v := vz1) rfl rfl rfl ((congrFun V.1 355).trans s_355) rfl evz1 ?_
      refine X_callV (as := [.int vz1]) (st := []) rfl rfl rfl (by decide) rfl (Nat.le_of_ble_eq_true rfl) (by decide) (Nat.le_of_ble_eq_true rfl) rfl ((congrFun V.1 355).trans s_355) (by decide) ?_
      refine LW_ls (ls' := [some (.ref 355), some (.int vz1)]) rfl ?_
      refine X_iload_n rfl rfl rfl rfl ?_
      refine X_aload_n rfl rfl rfl rfl ?_
      refine X_getI (v := vz2) rfl rfl rfl ((congrFun V.1 355).trans s_355) rfl evz2 ?_
      refine S_icmp_ge (tgt := 17) rfl rfl rfl rfl rfl (fun vh20 => ?_) (fun vh20 => ?_)
      · refine X_iconst (v := (-1 : Int32)) rfl rfl rfl ?_
        refine LW_ireturn (st := []) rfl rfl rfl ?_
        refine X_bipush (v := (10 : Int32)) rfl rfl rfl ?_
        refine S_icmp_ne (tgt := 39) rfl rfl rfl (show (-1 : Int32).toInt = -1 from rfl) (show (10 : Int32).toInt = 10 from rfl) (fun vh21 => ?_) (fun q => absurd q (by omega))
        exact ih39 _ V hG hF o1 o2  (by rw [evz1] <;> omega) (by rw [evz1, evz2] <;> omega) (by rw [evz2] <;> omega) (by rw [evz1] <;> omega)  (by omega)
      · refine X_aload_n rfl rfl rfl rfl ?_
        refine X_getR (a := 361) rfl rfl rfl ((congrFun V.1 355).trans s_355) rfl ((congrFun (V.2.1 355 (by decide)) 7).trans r_355_7) ?_
        refine X_iload_n rfl rfl rfl rfl ?_
        refine S_iald_v rfl rfl ((congrFun V.1 361).trans s_361) rfl (by omega) evz14 ?_
        refine LW_goto (tgt := 18) rfl rfl ?_
        refine LW_ireturn (st := []) rfl rfl rfl ?_
        refine X_bipush (v := (10 : Int32)) rfl rfl rfl ?_
        refine S_icmp_ne (tgt := 39) rfl rfl rfl rfl (show (10 : Int32).toInt = 10 from rfl) (fun vh23 => ?_) (fun vh23 => ?_)
        · exact ih39 _ V hG hF o1 o2  (by rw [evz1] <;> omega) (by rw [evz1, evz2] <;> omega) (by rw [evz2] <;> omega) (by rw [evz1] <;> omega)  (by omega)
        · refine X_aload_n rfl rfl rfl rfl ?_
          refine X_dup rfl rfl rfl ?_
          refine X_getI (v := vz1) rfl rfl rfl ((congrFun V.1 355).trans s_355) rfl evz1 ?_
          refine X_iconst (v := (1 : Int32)) rfl rfl rfl ?_
          refine S_iadd rfl rfl rfl (show (1 : Int32).toInt = 1 from rfl) (by omega) (fun vz24 hvz24 => ?_)
          refine S_putI (I := InvR _) rfl rfl rfl ((congrFun V.1 355).trans s_355) rfl rfl rfl rfl (InvR_putO V (by decide) trivial) (fun g V ve25 vn26 hq => ?_)
          have hG := hq.trans hG
          have hF := vSm.putN hF vn26 (by decide)
          have evz2 := (vn26 (355) 8 (Or.inr (by decide))).trans evz2
          have evz14 := (vn26 (361) ((vz1.toInt : Int).toNat) (Or.inl (by decide))).trans evz14
          refine LW_goto (tgt := 0) rfl rfl ?_
          exact ih0 _ V hG hF o1 o2  (by rw [ve25] <;> omega) (by rw [ve25, evz2] <;> omega) (by rw [evz2] <;> omega) (by rw [ve25] <;> omega)  (by rw [ve25] <;> omega)
set_option maxRecDepth 10000 in
set_option maxHeartbeats 40000000 in
theorem C_X13_nextToken_39 {P : Par} {g g0 : LH} {d n : Nat}  (V : InvR P g) (hG : Gr g = Gr g0) (hF : vSm vsa g g0) (o1 : Option Value) (o2 : Option Value) (hq0 : 0 ≤ (Gi g 355 11).toInt) (hq1 : (Gi g 355 11).toInt ≤ (Gi g 355 8).toInt) (hq2 : (Gi g 355 8).toInt ≤ 300) (hq3 : (Gi g0 355 11).toInt ≤ (Gi g 355 11).toInt) (hmu : 603 < (n : Int) + 1) (ih0 : ∀ (g : LH) (V : InvR P g) (hG : Gr g = Gr g0) (hF : vSm vsa g g0) (o1 : Option Value) (o2 : Option Value) (hq0 : 0 ≤ (Gi g 355 11).toInt) (hq1 : (Gi g 355 11).toInt ≤ (Gi g 355 8).toInt) (hq2 : (Gi g 355 8).toInt ≤ 300) (hq3 : (Gi g0 355 11).toInt ≤ (Gi g 355 11).toInt), (300 - (Gi g 355 11).toInt) * 1 + 604 < (n : Int) → LW 200 (d + 5) 0 0 0 [some (.ref 355), o1, o2] [] g (fun v g' => v = none ∧ InvR P g' ∧ Gr g' = Gr g0 ∧ vSm vsa g' g0 ∧ ((Gi g0 355 11).toInt ≤ (Gi g' 355 12).toInt) ∧ (0 ≤ (Gi g' 355 12).toInt) ∧ ((Gi g' 355 12).toInt ≤ (Gi g' 355 11).toInt) ∧ ((Gi g' 355 11).toInt ≤ (Gi g' 355 8).toInt) ∧ ((Gi g' 355 8).toInt ≤ 300) ∧ ((Gi g' 355 13).toInt = 0 ∨ (Gi g' 355 12).toInt < (Gi g' 355 11).toInt))) (ih39 : ∀ (g : LH) (V : InvR P g) (hG : Gr g = Gr g0) (hF : vSm vsa g g0) (o1 : Option Value) (o2 : Option Value) (hq0 : 0 ≤ (Gi g 355 11).toInt) (hq1 : (Gi g 355 11).toInt ≤ (Gi g 355 8).toInt) (hq2 : (Gi g 355 8).toInt ≤ 300) (hq3 : (Gi g0 355 11).toInt ≤ (Gi g 355 11).toInt), 603 < (n : Int) → LW 200 (d + 5) 0 0 39 [some (.ref 355), o1, o2] [] g (fun v g' => v = none ∧ InvR P g' ∧ Gr g' = Gr g0 ∧ vSm vsa g' g0 ∧ ((Gi g0 355 11).toInt ≤ (Gi g' 355 12).toInt) ∧ (0 ≤ (Gi g' 355 12).toInt) ∧ ((Gi g' 355 12).toInt ≤ (Gi g' 355 11).toInt) ∧ ((Gi g' 355 11).toInt ≤ (Gi g' 355 8).toInt) ∧ ((Gi g' 355 8).toInt ≤ 300) ∧ ((Gi g' 355 13).toInt = 0 ∨ (Gi g' 355 12).toInt < (Gi g' 355 11).toInt))) (ih85 : ∀ (g : LH) (V : InvR P g) (hG : Gr g = Gr g0) (hF : vSm vsa g g0) (x1 : Int32) (y1 : Int) (hx1 : x1.toInt = y1) (hf1 : 48 ≤ y1 ∧ y1 ≤ 57) (o2 : Option Value) (hq0 : 0 ≤ (Gi g 355 12).toInt) (hq1 : (Gi g 355 12).toInt ≤ (Gi g 355 11).toInt) (hq2 : (Gi g 355 11).toInt ≤ (Gi g 355 8).toInt) (hq3 : (Gi g 355 8).toInt ≤ 300) (hq4 : (Gi g0 355 11).toInt ≤ (Gi g 355 12).toInt) (hq5 : (Gi g 355 13).toInt = 1) (hq6 : (Gi g 355 12).toInt < (Gi g 355 11).toInt ∨ ((Gi g 355 11).toInt < (Gi g 355 8).toInt ∧ 48 ≤ (Gi g 361 (Int.toNat (Gi g 355 11).toInt)).toInt ∧ (Gi g 361 (Int.toNat (Gi g 355 11).toInt)).toInt ≤ 57)), (300 - (Gi g 355 11).toInt) * 1 + 302 < (n : Int) → LW 200 (d + 5) 0 0 85 [some (.ref 355), some (.int x1), o2] [] g (fun v g' => v = none ∧ InvR P g' ∧ Gr g' = Gr g0 ∧ vSm vsa g' g0 ∧ ((Gi g0 355 11).toInt ≤ (Gi g' 355 12).toInt) ∧ (0 ≤ (Gi g' 355 12).toInt) ∧ ((Gi g' 355 12).toInt ≤ (Gi g' 355 11).toInt) ∧ ((Gi g' 355 11).toInt ≤ (Gi g' 355 8).toInt) ∧ ((Gi g' 355 8).toInt ≤ 300) ∧ ((Gi g' 355 13).toInt = 0 ∨ (Gi g' 355 12).toInt < (Gi g' 355 11).toInt))) (ih161 : ∀ (g : LH) (V : InvR P g) (hG : Gr g = Gr g0) (hF : vSm vsa g g0) (x1 : Int32) (y1 : Int) (hx1 : x1.toInt = y1) (hf1 : 65 ≤ y1 ∧ y1 ≤ 122) (o2 : Option Value) (hq0 : 0 ≤ (Gi g 355 12).toInt) (hq1 : (Gi g 355 12).toInt ≤ (Gi g 355 11).toInt) (hq2 : (Gi g 355 11).toInt ≤ (Gi g 355 8).toInt) (hq3 : (Gi g 355 8).toInt ≤ 300) (hq4 : (Gi g0 355 11).toInt ≤ (Gi g 355 12).toInt) (hq5 : (Gi g 355 13).toInt = 2) (hq6 : (Gi g 355 12).toInt < (Gi g 355 11).toInt ∨ ((Gi g 355 11).toInt < (Gi g 355 8).toInt ∧ ((65 ≤ (Gi g 361 (Int.toNat (Gi g 355 11).toInt)).toInt ∧ (Gi g 361 (Int.toNat (Gi g 355 11).toInt)).toInt ≤ 90) ∨ (97 ≤ (Gi g 361 (Int.toNat (Gi g 355 11).toInt)).toInt ∧ (Gi g 361 (Int.toNat (Gi g 355 11).toInt)).toInt ≤ 122)))), (300 - (Gi g 355 11).toInt) * 1 + 0 < (n : Int) → LW 200 (d + 5) 0 0 161 [some (.ref 355), some (.int x1), o2] [] g (fun v g' => v = none ∧ InvR P g' ∧ Gr g' = Gr g0 ∧ vSm vsa g' g0 ∧ ((Gi g0 355 11).toInt ≤ (Gi g' 355 12).toInt) ∧ (0 ≤ (Gi g' 355 12).toInt) ∧ ((Gi g' 355 12).toInt ≤ (Gi g' 355 11).toInt) ∧ ((Gi g' 355 11).toInt ≤ (Gi g' 355 8).toInt) ∧ ((Gi g' 355 8).toInt ≤ 300) ∧ ((Gi g' 355 13).toInt = 0 ∨ (Gi g' 355 12).toInt < (Gi g' 355 11).toInt))) (ih346 : ∀ (g : LH) (V : InvR P g) (hG : Gr g = Gr g0) (hF : vSm vsa g g0) (x1 : Int32) (y1 : Int) (hx1 : x1.toInt = y1) (hf1 : 0 ≤ y1 ∧ y1 ≤ 255) (x2 : Int32) (y2 : Int) (hx2 : x2.toInt = y2) (hf2 : 0 ≤ y2 ∧ y2 ≤ 1) (hq0 : 0 ≤ (Gi g 355 12).toInt) (hq1 : (Gi g 355 12).toInt < (Gi g 355 11).toInt) (hq2 : (Gi g 355 11).toInt ≤ (Gi g 355 8).toInt) (hq3 : (Gi g 355 8).toInt ≤ 300) (hq4 : (Gi g0 355 11).toInt ≤ (Gi g 355 12).toInt), 0 < (n : Int) → LW 200 (d + 5) 0 0 346 [some (.ref 355), some (.int x1), some (.int x2)] [] g (fun v g' => v = none ∧ InvR P g' ∧ Gr g' = Gr g0 ∧ vSm vsa g' g0 ∧ ((Gi g0 355 11).toInt ≤ (Gi g' 355 12).toInt) ∧ (0 ≤ (Gi g' 355 12).toInt) ∧ ((Gi g' 355 12).toInt ≤ (Gi g' 355 11).toInt) ∧ ((Gi g' 355 11).toInt ≤ (Gi g' 355 8).toInt) ∧ ((Gi g' 355 8).toInt ≤ 300) ∧ ((Gi g' 355 13).toInt = 0 ∨ (Gi g' 355 12).toInt < (Gi g' 355 11).toInt))) : LW 200 (d + 5) 0 0 39 [some (.ref 355), o1, o2] [] g (fun v g' => v = none ∧ InvR P g' ∧ Gr g' = Gr g0 ∧ vSm vsa g' g0 ∧ ((Gi g0 355 11).toInt ≤ (Gi g' 355 12).toInt) ∧ (0 ≤ (Gi g' 355 12).toInt) ∧ ((Gi g' 355 12).toInt ≤ (Gi g' 355 11).toInt) ∧ ((Gi g' 355 11).toInt ≤ (Gi g' 355 8).toInt) ∧ ((Gi g' 355 8).toInt ≤ 300) ∧ ((Gi g' 355 13).toInt = 0 ∨ (Gi g' 355 12).toInt < (Gi g' 355 11).toInt)) := by
  obtain ⟨vz1, evz1⟩ : ∃ z, Gi g 355 11 = z := ⟨_, rfl⟩
  rw [evz1] at hq0
  rw [evz1] at hq1
  obtain ⟨vz2, evz2⟩ : ∃ z, Gi g 355 8 = z := ⟨_, rfl⟩
  have vf3 := O_355_8 (V.2.2.2.2.2.2.1 355 (8) (Nat.le_of_ble_eq_true rfl))
  rw [evz2] at vf3
  rw [evz2] at hq1
  rw [evz2] at hq2
  rw [evz1] at hq3
  refine X_aload_n rfl rfl rfl rfl ?_
  refine X_aload_n rfl rfl rfl rfl ?_
  refine X_getI (v := vz1) rfl rfl rfl ((congrFun V.1 355).trans s_355) rfl evz1 ?_
  refine S_putI (I := InvR _) rfl rfl rfl ((congrFun V.1 355).trans s_355) rfl rfl rfl rfl (InvR_putO V (by decide) trivial) (fun g V ve4 vn5 hq => ?_)
  have hG := hq.trans hG
  have hF := vSm.putN hF vn5 (by decide)
  have evz1 := (vn5 (355) 11 (Or.inr (by decide))).trans evz1
  have evz2 := (vn5 (355) 8 (Or.inr (by decide))).trans evz2
  refine X_aload_n rfl rfl rfl rfl ?_
  refine X_aload_n rfl rfl rfl rfl ?_
  refine X_getI (v := vz1) rfl rfl rfl ((congrFun V.1 355).trans s_355) rfl evz1 ?_
  refine X_callV (as := [.int vz1]) (st := []) rfl rfl rfl (by decide) rfl (Nat.le_of_ble_eq_true rfl) (by decide) (Nat.le_of_ble_eq_true rfl) rfl ((congrFun V.1 355).trans s_355) (by decide) ?_
  refine LW_ls (ls' := [some (.ref 355), some (.int vz1)]) rfl ?_
  refine X_iload_n rfl rfl rfl rfl ?_
  refine X_aload_n rfl rfl rfl rfl ?_
  refine X_getI (v := vz2) rfl rfl rfl ((congrFun V.1 355).trans s_355) rfl evz2 ?_
  refine S_icmp_ge (tgt := 17) rfl rfl rfl rfl rfl (fun vh6 => ?_) (fun vh6 => ?_)
  · refine X_iconst (v := (-1 : Int32)) rfl rfl rfl ?_
    refine LW_ireturn (st := []) rfl rfl rfl ?_
    refine X_istore_n (i := 1) (ls' := [some (.ref 355), some (.int (-1 : Int32)), o2]) rfl rfl rfl (Nat.le_of_ble_eq_true rfl) rfl ?_
    refine X_iload_n rfl rfl rfl rfl ?_
    refine S_if_ge (tgt := 68) rfl rfl rfl (show (-1 : Int32).toInt = -1 from rfl) (fun q => absurd q (by omega)) (fun vh7 => ?_)
    refine X_aload_n rfl rfl rfl rfl ?_
    refine X_iconst (v := (0 : Int32)) rfl rfl rfl ?_
    refine S_putI (I := InvR _) rfl rfl rfl ((congrFun V.1 355).trans s_355) rfl rfl rfl rfl (InvR_putO V (by decide) trivial) (fun g V ve8 vn9 hq => ?_)
    have hG := hq.trans hG
    have hF := vSm.putN hF vn9 (by decide)
    have evz1 := (vn9 (355) 11 (Or.inr (by decide))).trans evz1
    have evz2 := (vn9 (355) 8 (Or.inr (by decide))).trans evz2
    have ve4 := (vn9 (355) 12 (Or.inr (by decide))).trans ve4
    refine LW_goto (tgt := 396) rfl rfl ?_
    exact LW_return (st := []) rfl rfl ⟨rfl, V, hG, hF, (by rw [ve4] <;> omega), (by rw [ve4] <;> omega), (by rw [ve4, evz1] <;> omega), (by rw [evz1, evz2] <;> omega), (by rw [evz2] <;> omega), (by have vk0 := (show (0 : Int32).toInt = 0 from rfl); rw [ve8, ve4, evz1] <;> omega)⟩
  · refine X_aload_n rfl rfl rfl rfl ?_
    refine X_getR (a := 361) rfl rfl rfl ((congrFun V.1 355).trans s_355) rfl ((congrFun (V.2.1 355 (by decide)) 7).trans r_355_7) ?_
    refine X_iload_n rfl rfl rfl rfl ?_
    refine S_iald rfl rfl ((congrFun V.1 361).trans s_361) rfl (by omega) (fun vz10 evz10 => ?_)
    have vf11 := O_361 (V.2.2.2.2.2.2.1 361 ((vz1.toInt : Int).toNat) (Nat.le_of_ble_eq_true rfl))
    rw [evz10] at vf11
    (try rw [evz10] at hq6)
    refine LW_goto (tgt := 18) rfl rfl ?_
    refine LW_ireturn (st := []) rfl rfl rfl ?_
    refine X_istore_n (i := 1) (ls' := [some (.ref 355), some (.int vz10), o2]) rfl rfl rfl (Nat.le_of_ble_eq_true rfl) rfl ?_
    refine X_iload_n rfl rfl rfl rfl ?_
    refine S_if_ge (tgt := 68) rfl rfl rfl rfl (fun vh12 => ?_) (fun q => absurd q (by omega))
    refine X_iload_n rfl rfl rfl rfl ?_
    refine X_callS (as := [.int vz10]) (st := []) rfl rfl rfl (by decide) rfl (Nat.le_of_ble_eq_true rfl) (by decide) (Nat.le_of_ble_eq_true rfl) rfl ?_
    refine LW_ls (ls' := [some (.int vz10)]) rfl ?_
    refine X_iload_n rfl rfl rfl rfl ?_
    refine X_bipush (v := (48 : Int32)) rfl rfl rfl ?_
    refine X_bipush (v := (57 : Int32)) rfl rfl rfl ?_
    refine X_callS (as := [.int vz10, .int (48 : Int32), .int (57 : Int32)]) (st := []) rfl rfl rfl (by decide) rfl (Nat.le_of_ble_eq_true rfl) (by decide) (Nat.le_of_ble_eq_true rfl) rfl ?_
    refine LW_ls (ls' := [some (.int vz10), some (.int (48 : Int32)), some (.int (57 : Int32))]) rfl ?_
    refine X_iload_n rfl rfl rfl rfl ?_
    refine X_iload_n rfl rfl rfl rfl ?_
    refine S_icmp_lt (tgt := 14) rfl rfl rfl rfl (show (48 : Int32).toInt = 48 from rfl) (fun vh13 => ?_) (fun vh13 => ?_)
    · refine X_iconst (v := (0 : Int32)) rfl rfl rfl ?_
      refine LW_ireturn (st := []) rfl rfl rfl ?_
      refine LW_ireturn (st := []) rfl rfl rfl ?_
      refine S_if_eq (tgt := 144) rfl rfl rfl (show (0 : Int32).toInt = 0 from rfl) (fun vh14 => ?_) (fun q => absurd q (by omega))
      refine X_iload_n rfl rfl rfl rfl ?_
      refine X_callS (as := [.int vz10]) (st := []) rfl rfl rfl (by decide) rfl (Nat.le_of_ble_eq_true rfl) (by decide) (Nat.le_of_ble_eq_true rfl) rfl ?_
      refine LW_ls (ls' := [some (.int vz10)]) rfl ?_
      refine X_iload_n rfl rfl rfl rfl ?_
      refine X_bipush (v := (97 : Int32)) rfl rfl rfl ?_
      refine X_bipush (v := (122 : Int32)) rfl rfl rfl ?_
      refine X_callS (as := [.int vz10, .int (97 : Int32), .int (122 : Int32)]) (st := []) rfl rfl rfl (by decide) rfl (Nat.le_of_ble_eq_true rfl) (by decide) (Nat.le_of_ble_eq_true rfl) rfl ?_
      refine LW_ls (ls' := [some (.int vz10), some (.int (97 : Int32)), some (.int (122 : Int32))]) rfl ?_
      refine X_iload_n rfl rfl rfl rfl ?_
      refine X_iload_n rfl rfl rfl rfl ?_
      refine S_icmp_lt (tgt := 14) rfl rfl rfl rfl (show (97 : Int32).toInt = 97 from rfl) (fun vh15 => ?_) (fun q => absurd q (by omega))
      refine X_iconst (v := (0 : Int32)) rfl rfl rfl ?_
      refine LW_ireturn (st := []) rfl rfl rfl ?_
      refine S_if_ne (tgt := 22) rfl rfl rfl (show (0 : Int32).toInt = 0 from rfl) (fun q => absurd q (by omega)) (fun vh16 => ?_)
      refine X_iload_n rfl rfl rfl rfl ?_
      refine X_bipush (v := (65 : Int32)) rfl rfl rfl ?_
      refine X_bipush (v := (90 : Int32)) rfl rfl rfl ?_
      refine X_callS (as := [.int vz10, .int (65 : Int32), .int (90 : Int32)]) (st := []) rfl rfl rfl (by decide) rfl (Nat.le_of_ble_eq_true rfl) (by decide) (Nat.le_of_ble_eq_true rfl) rfl ?_
      refine LW_ls (ls' := [some (.int vz10), some (.int (65 : Int32)), some (.int (90 : Int32))]) rfl ?_
      refine X_iload_n rfl rfl rfl rfl ?_
      refine X_iload_n rfl rfl rfl rfl ?_
      refine S_icmp_lt (tgt := 14) rfl rfl rfl rfl (show (65 : Int32).toInt = 65 from rfl) (fun vh17 => ?_) (fun q => absurd q (by omega))
      refine X_iconst (v := (0 : Int32)) rfl rfl rfl ?_
      refine LW_ireturn (st := []) rfl rfl rfl ?_
      refine S_if_eq (tgt := 26) rfl rfl rfl (show (0 : Int32).toInt = 0 from rfl) (fun vh18 => ?_) (fun q => absurd q (by omega))
      refine X_iconst (v := (0 : Int32)) rfl rfl rfl ?_
      refine LW_ireturn (st := []) rfl rfl rfl ?_
      refine S_if_eq (tgt := 245) rfl rfl rfl (show (0 : Int32).toInt = 0 from rfl) (fun vh19 => ?_) (fun q => absurd q (by omega))
      refine X_aload_n rfl rfl rfl rfl ?_
      refine X_dup rfl rfl rfl ?_
      refine X_getI (v := vz1) rfl rfl rfl ((congrFun V.1 355).trans s_355) rfl evz1 ?_
      refine X_iconst (v := (1 : Int32)) rfl rfl rfl ?_
      refine S_iadd rfl rfl rfl (show (1 : Int32).toInt = 1 from rfl) (by omega) (fun vz20 hvz20 => ?_)
      refine S_putI (I := InvR _) rfl rfl rfl ((congrFun V.1 355).trans s_355) rfl rfl rfl rfl (InvR_putO V (by decide) trivial) (fun g V ve21 vn22 hq => ?_)
      have hG := hq.trans hG
      have hF := vSm.putN hF vn22 (by decide)
      have evz2 := (vn22 (355) 8 (Or.inr (by decide))).trans evz2
      have ve4 := (vn22 (355) 12 (Or.inr (by decide))).trans ve4
      have evz10 := (vn22 (361) ((vz1.toInt : Int).toNat) (Or.inl (by decide))).trans evz10
      refine X_iload_n rfl rfl rfl rfl ?_
      refine X_bipush (v := (60 : Int32)) rfl rfl rfl ?_
      refine S_icmp_eq (tgt := 327) rfl rfl rfl rfl (show (60 : Int32).toInt = 60 from rfl) (fun q => absurd q (by omega)) (fun vh23 => ?_)
      refine X_iload_n rfl rfl rfl rfl ?_
      refine X_bipush (v := (62 : Int32)) rfl rfl rfl ?_
      refine S_icmp_eq (tgt := 327) rfl rfl rfl rfl (show (62 : Int32).toInt = 62 from rfl) (fun q => absurd q (by omega)) (fun vh24 => ?_)
      refine X_iload_n rfl rfl rfl rfl ?_
      refine X_bipush (v := (61 : Int32)) rfl rfl rfl ?_
      refine S_icmp_eq (tgt := 327) rfl rfl rfl rfl (show (61 : Int32).toInt = 61 from rfl) (fun q => absurd q (by omega)) (fun vh25 => ?_)
      refine X_iload_n rfl rfl rfl rfl ?_
      refine X_bipush (v := (35 : Int32)) rfl rfl rfl ?_
      refine S_icmp_eq (tgt := 327) rfl rfl rfl rfl (show (35 : Int32).toInt = 35 from rfl) (fun vh26 => ?_) (fun vh26 => ?_)
      · refine X_iconst (v := (1 : Int32)) rfl rfl rfl ?_
        refine LW_goto (tgt := 332) rfl rfl ?_
        refine X_istore_n (i := 2) (ls' := [some (.ref 355), some (.int vz10), some (.int (1 : Int32))]) rfl rfl rfl (Nat.le_of_ble_eq_true rfl) rfl ?_
        refine X_aload_n rfl rfl rfl rfl ?_
        refine X_iload_n rfl rfl rfl rfl ?_
        refine S_if_eq (tgt := 342) rfl rfl rfl (show (1 : Int32).toInt = 1 from rfl) (fun q => absurd q (by omega)) (fun vh27 => ?_)
        refine X_iload_n rfl rfl rfl rfl ?_
        refine LW_goto (tgt := 343) rfl rfl ?_
        refine S_putI (I := InvR _) rfl rfl rfl ((congrFun V.1 355).trans s_355) rfl rfl rfl rfl (InvR_putO V (by decide) trivial) (fun g V ve28 vn29 hq => ?_)
        have hG := hq.trans hG
        have hF := vSm.putN hF vn29 (by decide)
        have evz2 := (vn29 (355) 8 (Or.inr (by decide))).trans evz2
        have ve4 := (vn29 (355) 12 (Or.inr (by decide))).trans ve4
        have evz10 := (vn29 (361) ((vz1.toInt : Int).toNat) (Or.inl (by decide))).trans evz10
        have ve21 := (vn29 (355) 11 (Or.inr (by decide))).trans ve21
        exact ih346 _ V hG hF vz10 vz10.toInt rfl (by omega) (1 : Int32) 1 (show (1 : Int32).toInt = 1 from rfl) (by omega)  (by rw [ve4] <;> omega) (by rw [ve4, ve21] <;> omega) (by rw [ve21, evz2] <;> omega) (by rw [evz2] <;> omega) (by rw [ve4] <;> omega)  (by omega)
      · refine X_iload_n rfl rfl rfl rfl ?_
        refine X_bipush (v := (43 : Int32)) rfl rfl rfl ?_
        refine S_icmp_eq (tgt := 327) rfl rfl rfl rfl (show (43 : Int32).toInt = 43 from rfl) (fun vh30 => ?_) (fun vh30 => ?_)
        · refine X_iconst (v := (1 : Int32)) rfl rfl rfl ?_
          refine LW_goto (tgt := 332) rfl rfl ?_
          refine X_istore_n (i := 2) (ls' := [some (.ref 355), some (.int vz10), some (.int (1 : Int32))]) rfl rfl rfl (Nat.le_of_ble_eq_true rfl) rfl ?_
          refine X_aload_n rfl rfl rfl rfl ?_
          refine X_iload_n rfl rfl rfl rfl ?_
          refine S_if_eq (tgt := 342) rfl rfl rfl (show (1 : Int32).toInt = 1 from rfl) (fun q => absurd q (by omega)) (fun vh31 => ?_)
          refine X_iload_n rfl rfl rfl rfl ?_
          refine LW_goto (tgt := 343) rfl rfl ?_
          refine S_putI (I := InvR _) rfl rfl rfl ((congrFun V.1 355).trans s_355) rfl rfl rfl rfl (InvR_putO V (by decide) trivial) (fun g V ve32 vn33 hq => ?_)
          have hG := hq.trans hG
          have hF := vSm.putN hF vn33 (by decide)
          have evz2 := (vn33 (355) 8 (Or.inr (by decide))).trans evz2
          have ve4 := (vn33 (355) 12 (Or.inr (by decide))).trans ve4
          have evz10 := (vn33 (361) ((vz1.toInt : Int).toNat) (Or.inl (by decide))).trans evz10
          have ve21 := (vn33 (355) 11 (Or.inr (by decide))).trans ve21
          exact ih346 _ V hG hF vz10 vz10.toInt rfl (by omega) (1 : Int32) 1 (show (1 : Int32).toInt = 1 from rfl) (by omega)  (by rw [ve4] <;> omega) (by rw [ve4, ve21] <;> omega) (by rw [ve21, evz2] <;> omega) (by rw [evz2] <;> omega) (by rw [ve4] <;> omega)  (by omega)
        · refine X_iload_n rfl rfl rfl rfl ?_
          refine X_bipush (v := (45 : Int32)) rfl rfl rfl ?_
          refine S_icmp_eq (tgt := 327) rfl rfl rfl rfl (show (45 : Int32).toInt = 45 from rfl) (fun vh34 => ?_) (fun vh34 => ?_)
          · refine X_iconst (v := (1 : Int32)) rfl rfl rfl ?_
            refine LW_goto (tgt := 332) rfl rfl ?_
            refine X_istore_n (i := 2) (ls' := [some (.ref 355), some (.int vz10), some (.int (1 : Int32))]) rfl rfl rfl (Nat.le_of_ble_eq_true rfl) rfl ?_
            refine X_aload_n rfl rfl rfl rfl ?_
            refine X_iload_n rfl rfl rfl rfl ?_
            refine S_if_eq (tgt := 342) rfl rfl rfl (show (1 : Int32).toInt = 1 from rfl) (fun q => absurd q (by omega)) (fun vh35 => ?_)
            refine X_iload_n rfl rfl rfl rfl ?_
            refine LW_goto (tgt := 343) rfl rfl ?_
            refine S_putI (I := InvR _) rfl rfl rfl ((congrFun V.1 355).trans s_355) rfl rfl rfl rfl (InvR_putO V (by decide) trivial) (fun g V ve36 vn37 hq => ?_)
            have hG := hq.trans hG
            have hF := vSm.putN hF vn37 (by decide)
            have evz2 := (vn37 (355) 8 (Or.inr (by decide))).trans evz2
            have ve4 := (vn37 (355) 12 (Or.inr (by decide))).trans ve4
            have evz10 := (vn37 (361) ((vz1.toInt : Int).toNat) (Or.inl (by decide))).trans evz10
            have ve21 := (vn37 (355) 11 (Or.inr (by decide))).trans ve21
            exact ih346 _ V hG hF vz10 vz10.toInt rfl (by omega) (1 : Int32) 1 (show (1 : Int32).toInt = 1 from rfl) (by omega)  (by rw [ve4] <;> omega) (by rw [ve4, ve21] <;> omega) (by rw [ve21, evz2] <;> omega) (by rw [evz2] <;> omega) (by rw [ve4] <;> omega)  (by omega)
          · refine X_iload_n rfl rfl rfl rfl ?_
            refine X_bipush (v := (42 : Int32)) rfl rfl rfl ?_
            refine S_icmp_eq (tgt := 327) rfl rfl rfl rfl (show (42 : Int32).toInt = 42 from rfl) (fun vh38 => ?_) (fun vh38 => ?_)
            · refine X_iconst (v := (1 : Int32)) rfl rfl rfl ?_
              refine LW_goto (tgt := 332) rfl rfl ?_
              refine X_istore_n (i := 2) (ls' := [some (.ref 355), some (.int vz10), some (.int (1 : Int32))]) rfl rfl rfl (Nat.le_of_ble_eq_true rfl) rfl ?_
              refine X_aload_n rfl rfl rfl rfl ?_
              refine X_iload_n rfl rfl rfl rfl ?_
              refine S_if_eq (tgt := 342) rfl rfl rfl (show (1 : Int32).toInt = 1 from rfl) (fun q => absurd q (by omega)) (fun vh39 => ?_)
              refine X_iload_n rfl rfl rfl rfl ?_
              refine LW_goto (tgt := 343) rfl rfl ?_
              refine S_putI (I := InvR _) rfl rfl rfl ((congrFun V.1 355).trans s_355) rfl rfl rfl rfl (InvR_putO V (by decide) trivial) (fun g V ve40 vn41 hq => ?_)
              have hG := hq.trans hG
              have hF := vSm.putN hF vn41 (by decide)
              have evz2 := (vn41 (355) 8 (Or.inr (by decide))).trans evz2
              have ve4 := (vn41 (355) 12 (Or.inr (by decide))).trans ve4
              have evz10 := (vn41 (361) ((vz1.toInt : Int).toNat) (Or.inl (by decide))).trans evz10
              have ve21 := (vn41 (355) 11 (Or.inr (by decide))).trans ve21
              exact ih346 _ V hG hF vz10 vz10.toInt rfl (by omega) (1 : Int32) 1 (show (1 : Int32).toInt = 1 from rfl) (by omega)  (by rw [ve4] <;> omega) (by rw [ve4, ve21] <;> omega) (by rw [ve21, evz2] <;> omega) (by rw [evz2] <;> omega) (by rw [ve4] <;> omega)  (by omega)
            · refine X_iload_n rfl rfl rfl rfl ?_
              refine X_bipush (v := (47 : Int32)) rfl rfl rfl ?_
              refine S_icmp_eq (tgt := 327) rfl rfl rfl rfl (show (47 : Int32).toInt = 47 from rfl) (fun vh42 => ?_) (fun vh42 => ?_)
              · refine X_iconst (v := (1 : Int32)) rfl rfl rfl ?_
                refine LW_goto (tgt := 332) rfl rfl ?_
                refine X_istore_n (i := 2) (ls' := [some (.ref 355), some (.int vz10), some (.int (1 : Int32))]) rfl rfl rfl (Nat.le_of_ble_eq_true rfl) rfl ?_
                refine X_aload_n rfl rfl rfl rfl ?_
                refine X_iload_n rfl rfl rfl rfl ?_
                refine S_if_eq (tgt := 342) rfl rfl rfl (show (1 : Int32).toInt = 1 from rfl) (fun q => absurd q (by omega)) (fun vh43 => ?_)
                refine X_iload_n rfl rfl rfl rfl ?_
                refine LW_goto (tgt := 343) rfl rfl ?_
                refine S_putI (I := InvR _) rfl rfl rfl ((congrFun V.1 355).trans s_355) rfl rfl rfl rfl (InvR_putO V (by decide) trivial) (fun g V ve44 vn45 hq => ?_)
                have hG := hq.trans hG
                have hF := vSm.putN hF vn45 (by decide)
                have evz2 := (vn45 (355) 8 (Or.inr (by decide))).trans evz2
                have ve4 := (vn45 (355) 12 (Or.inr (by decide))).trans ve4
                have evz10 := (vn45 (361) ((vz1.toInt : Int).toNat) (Or.inl (by decide))).trans evz10
                have ve21 := (vn45 (355) 11 (Or.inr (by decide))).trans ve21
                exact ih346 _ V hG hF vz10 vz10.toInt rfl (by omega) (1 : Int32) 1 (show (1 : Int32).toInt = 1 from rfl) (by omega)  (by rw [ve4] <;> omega) (by rw [ve4, ve21] <;> omega) (by rw [ve21, evz2] <;> omega) (by rw [evz2] <;> omega) (by rw [ve4] <;> omega)  (by omega)
              · refine X_iload_n rfl rfl rfl rfl ?_
                refine X_bipush (v := (44 : Int32)) rfl rfl rfl ?_
                refine S_icmp_eq (tgt := 327) rfl rfl rfl rfl (show (44 : Int32).toInt = 44 from rfl) (fun vh46 => ?_) (fun vh46 => ?_)
                · refine X_iconst (v := (1 : Int32)) rfl rfl rfl ?_
                  refine LW_goto (tgt := 332) rfl rfl ?_
                  refine X_istore_n (i := 2) (ls' := [some (.ref 355), some (.int vz10), some (.int (1 : Int32))]) rfl rfl rfl (Nat.le_of_ble_eq_true rfl) rfl ?_
                  refine X_aload_n rfl rfl rfl rfl ?_
                  refine X_iload_n rfl rfl rfl rfl ?_
                  refine S_if_eq (tgt := 342) rfl rfl rfl (show (1 : Int32).toInt = 1 from rfl) (fun q => absurd q (by omega)) (fun vh47 => ?_)
                  refine X_iload_n rfl rfl rfl rfl ?_
                  refine LW_goto (tgt := 343) rfl rfl ?_
                  refine S_putI (I := InvR _) rfl rfl rfl ((congrFun V.1 355).trans s_355) rfl rfl rfl rfl (InvR_putO V (by decide) trivial) (fun g V ve48 vn49 hq => ?_)
                  have hG := hq.trans hG
                  have hF := vSm.putN hF vn49 (by decide)
                  have evz2 := (vn49 (355) 8 (Or.inr (by decide))).trans evz2
                  have ve4 := (vn49 (355) 12 (Or.inr (by decide))).trans ve4
                  have evz10 := (vn49 (361) ((vz1.toInt : Int).toNat) (Or.inl (by decide))).trans evz10
                  have ve21 := (vn49 (355) 11 (Or.inr (by decide))).trans ve21
                  exact ih346 _ V hG hF vz10 vz10.toInt rfl (by omega) (1 : Int32) 1 (show (1 : Int32).toInt = 1 from rfl) (by omega)  (by rw [ve4] <;> omega) (by rw [ve4, ve21] <;> omega) (by rw [ve21, evz2] <;> omega) (by rw [evz2] <;> omega) (by rw [ve4] <;> omega)  (by omega)
                · refine X_iload_n rfl rfl rfl rfl ?_
                  refine X_bipush (v := (40 : Int32)) rfl rfl rfl ?_
                  refine S_icmp_eq (tgt := 327) rfl rfl rfl rfl (show (40 : Int32).toInt = 40 from rfl) (fun vh50 => ?_) (fun vh50 => ?_)
                  · refine X_iconst (v := (1 : Int32)) rfl rfl rfl ?_
                    refine LW_goto (tgt := 332) rfl rfl ?_
                    refine X_istore_n (i := 2) (ls' := [some (.ref 355), some (.int vz10), some (.int (1 : Int32))]) rfl rfl rfl (Nat.le_of_ble_eq_true rfl) rfl ?_
                    refine X_aload_n rfl rfl rfl rfl ?_
                    refine X_iload_n rfl rfl rfl rfl ?_
                    refine S_if_eq (tgt := 342) rfl rfl rfl (show (1 : Int32).toInt = 1 from rfl) (fun q => absurd q (by omega)) (fun vh51 => ?_)
                    refine X_iload_n rfl rfl rfl rfl ?_
                    refine LW_goto (tgt := 343) rfl rfl ?_
                    refine S_putI (I := InvR _) rfl rfl rfl ((congrFun V.1 355).trans s_355) rfl rfl rfl rfl (InvR_putO V (by decide) trivial) (fun g V ve52 vn53 hq => ?_)
                    have hG := hq.trans hG
                    have hF := vSm.putN hF vn53 (by decide)
                    have evz2 := (vn53 (355) 8 (Or.inr (by decide))).trans evz2
                    have ve4 := (vn53 (355) 12 (Or.inr (by decide))).trans ve4
                    have evz10 := (vn53 (361) ((vz1.toInt : Int).toNat) (Or.inl (by decide))).trans evz10
                    have ve21 := (vn53 (355) 11 (Or.inr (by decide))).trans ve21
                    exact ih346 _ V hG hF vz10 vz10.toInt rfl (by omega) (1 : Int32) 1 (show (1 : Int32).toInt = 1 from rfl) (by omega)  (by rw [ve4] <;> omega) (by rw [ve4, ve21] <;> omega) (by rw [ve21, evz2] <;> omega) (by rw [evz2] <;> omega) (by rw [ve4] <;> omega)  (by omega)
                  · refine X_iload_n rfl rfl rfl rfl ?_
                    refine X_bipush (v := (41 : Int32)) rfl rfl rfl ?_
                    refine S_icmp_eq (tgt := 327) rfl rfl rfl rfl (show (41 : Int32).toInt = 41 from rfl) (fun vh54 => ?_) (fun vh54 => ?_)
                    · refine X_iconst (v := (1 : Int32)) rfl rfl rfl ?_
                      refine LW_goto (tgt := 332) rfl rfl ?_
                      refine X_istore_n (i := 2) (ls' := [some (.ref 355), some (.int vz10), some (.int (1 : Int32))]) rfl rfl rfl (Nat.le_of_ble_eq_true rfl) rfl ?_
                      refine X_aload_n rfl rfl rfl rfl ?_
                      refine X_iload_n rfl rfl rfl rfl ?_
                      refine S_if_eq (tgt := 342) rfl rfl rfl (show (1 : Int32).toInt = 1 from rfl) (fun q => absurd q (by omega)) (fun vh55 => ?_)
                      refine X_iload_n rfl rfl rfl rfl ?_
                      refine LW_goto (tgt := 343) rfl rfl ?_
                      refine S_putI (I := InvR _) rfl rfl rfl ((congrFun V.1 355).trans s_355) rfl rfl rfl rfl (InvR_putO V (by decide) trivial) (fun g V ve56 vn57 hq => ?_)
                      have hG := hq.trans hG
                      have hF := vSm.putN hF vn57 (by decide)
                      have evz2 := (vn57 (355) 8 (Or.inr (by decide))).trans evz2
                      have ve4 := (vn57 (355) 12 (Or.inr (by decide))).trans ve4
                      have evz10 := (vn57 (361) ((vz1.toInt : Int).toNat) (Or.inl (by decide))).trans evz10
                      have ve21 := (vn57 (355) 11 (Or.inr (by decide))).trans ve21
                      exact ih346 _ V hG hF vz10 vz10.toInt rfl (by omega) (1 : Int32) 1 (show (1 : Int32).toInt = 1 from rfl) (by omega)  (by rw [ve4] <;> omega) (by rw [ve4, ve21] <;> omega) (by rw [ve21, evz2] <;> omega) (by rw [evz2] <;> omega) (by rw [ve4] <;> omega)  (by omega)
                    · refine X_iload_n rfl rfl rfl rfl ?_
                      refine X_bipush (v := (59 : Int32)) rfl rfl rfl ?_
                      refine S_icmp_ne (tgt := 331) rfl rfl rfl rfl (show (59 : Int32).toInt = 59 from rfl) (fun vh58 => ?_) (fun q => absurd q (by omega))
                      refine X_iconst (v := (0 : Int32)) rfl rfl rfl ?_
                      refine X_istore_n (i := 2) (ls' := [some (.ref 355), some (.int vz10), some (.int (0 : Int32))]) rfl rfl rfl (Nat.le_of_ble_eq_true rfl) rfl ?_
                      refine X_aload_n rfl rfl rfl rfl ?_
                      refine X_iload_n rfl rfl rfl rfl ?_
                      refine S_if_eq (tgt := 342) rfl rfl rfl (show (0 : Int32).toInt = 0 from rfl) (fun vh59 => ?_) (fun q => absurd q (by omega))
                      refine X_iconst (v := (3 : Int32)) rfl rfl rfl ?_
                      refine S_putI (I := InvR _) rfl rfl rfl ((congrFun V.1 355).trans s_355) rfl rfl rfl rfl (InvR_putO V (by decide) trivial) (fun g V ve60 vn61 hq => ?_)
                      have hG := hq.trans hG
                      have hF := vSm.putN hF vn61 (by decide)
                      have evz2 := (vn61 (355) 8 (Or.inr (by decide))).trans evz2
                      have ve4 := (vn61 (355) 12 (Or.inr (by decide))).trans ve4
                      have evz10 := (vn61 (361) ((vz1.toInt : Int).toNat) (Or.inl (by decide))).trans evz10
                      have ve21 := (vn61 (355) 11 (Or.inr (by decide))).trans ve21
                      exact ih346 _ V hG hF vz10 vz10.toInt rfl (by omega) (0 : Int32) 0 (show (0 : Int32).toInt = 0 from rfl) (by omega)  (by rw [ve4] <;> omega) (by rw [ve4, ve21] <;> omega) (by rw [ve21, evz2] <;> omega) (by rw [evz2] <;> omega) (by rw [ve4] <;> omega)  (by omega)
    · refine X_iload_n rfl rfl rfl rfl ?_
      refine X_iload_n rfl rfl rfl rfl ?_
      refine S_icmp_gt (tgt := 14) rfl rfl rfl rfl (show (57 : Int32).toInt = 57 from rfl) (fun vh62 => ?_) (fun vh62 => ?_)
      · refine X_iconst (v := (0 : Int32)) rfl rfl rfl ?_
        refine LW_ireturn (st := []) rfl rfl rfl ?_
        refine LW_ireturn (st := []) rfl rfl rfl ?_
        refine S_if_eq (tgt := 144) rfl rfl rfl (show (0 : Int32).toInt = 0 from rfl) (fun vh63 => ?_) (fun q => absurd q (by omega))
        refine X_iload_n rfl rfl rfl rfl ?_
        refine X_callS (as := [.int vz10]) (st := []) rfl rfl rfl (by decide) rfl (Nat.le_of_ble_eq_true rfl) (by decide) (Nat.le_of_ble_eq_true rfl) rfl ?_
        refine LW_ls (ls' := [some (.int vz10)]) rfl ?_
        refine X_iload_n rfl rfl rfl rfl ?_
        refine X_bipush (v := (97 : Int32)) rfl rfl rfl ?_
        refine X_bipush (v := (122 : Int32)) rfl rfl rfl ?_
        refine X_callS (as := [.int vz10, .int (97 : Int32), .int (122 : Int32)]) (st := []) rfl rfl rfl (by decide) rfl (Nat.le_of_ble_eq_true rfl) (by decide) (Nat.le_of_ble_eq_true rfl) rfl ?_
        refine LW_ls (ls' := [some (.int vz10), some (.int (97 : Int32)), some (.int (122 : Int32))]) rfl ?_
        refine X_iload_n rfl rfl rfl rfl ?_
        refine X_iload_n rfl rfl rfl rfl ?_
        refine S_icmp_lt (tgt := 14) rfl rfl rfl rfl (show (97 : Int32).toInt = 97 from rfl) (fun vh64 => ?_) (fun vh64 => ?_)
        · refine X_iconst (v := (0 : Int32)) rfl rfl rfl ?_
          refine LW_ireturn (st := []) rfl rfl rfl ?_
          refine S_if_ne (tgt := 22) rfl rfl rfl (show (0 : Int32).toInt = 0 from rfl) (fun q => absurd q (by omega)) (fun vh65 => ?_)
          refine X_iload_n rfl rfl rfl rfl ?_
          refine X_bipush (v := (65 : Int32)) rfl rfl rfl ?_
          refine X_bipush (v := (90 : Int32)) rfl rfl rfl ?_
          refine X_callS (as := [.int vz10, .int (65 : Int32), .int (90 : Int32)]) (st := []) rfl rfl rfl (by decide) rfl (Nat.le_of_ble_eq_true rfl) (by decide) (Nat.le_of_ble_eq_true rfl) rfl ?_
          refine LW_ls (ls' := [some (.int vz10), some (.int (65 : Int32)), some (.int (90 : Int32))]) rfl ?_
          refine X_iload_n rfl rfl rfl rfl ?_
          refine X_iload_n rfl rfl rfl rfl ?_
          refine S_icmp_lt (tgt := 14) rfl rfl rfl rfl (show (65 : Int32).toInt = 65 from rfl) (fun vh66 => ?_) (fun vh66 => ?_)
          · refine X_iconst (v := (0 : Int32)) rfl rfl rfl ?_
            refine LW_ireturn (st := []) rfl rfl rfl ?_
            refine S_if_eq (tgt := 26) rfl rfl rfl (show (0 : Int32).toInt = 0 from rfl) (fun vh67 => ?_) (fun q => absurd q (by omega))
            refine X_iconst (v := (0 : Int32)) rfl rfl rfl ?_
            refine LW_ireturn (st := []) rfl rfl rfl ?_
            refine S_if_eq (tgt := 245) rfl rfl rfl (show (0 : Int32).toInt = 0 from rfl) (fun vh68 => ?_) (fun q => absurd q (by omega))
            refine X_aload_n rfl rfl rfl rfl ?_
            refine X_dup rfl rfl rfl ?_
            refine X_getI (v := vz1) rfl rfl rfl ((congrFun V.1 355).trans s_355) rfl evz1 ?_
            refine X_iconst (v := (1 : Int32)) rfl rfl rfl ?_
            refine S_iadd rfl rfl rfl (show (1 : Int32).toInt = 1 from rfl) (by omega) (fun vz69 hvz69 => ?_)
            refine S_putI (I := InvR _) rfl rfl rfl ((congrFun V.1 355).trans s_355) rfl rfl rfl rfl (InvR_putO V (by decide) trivial) (fun g V ve70 vn71 hq => ?_)
            have hG := hq.trans hG
            have hF := vSm.putN hF vn71 (by decide)
            have evz2 := (vn71 (355) 8 (Or.inr (by decide))).trans evz2
            have ve4 := (vn71 (355) 12 (Or.inr (by decide))).trans ve4
            have evz10 := (vn71 (361) ((vz1.toInt : Int).toNat) (Or.inl (by decide))).trans evz10
            refine X_iload_n rfl rfl rfl rfl ?_
            refine X_bipush (v := (60 : Int32)) rfl rfl rfl ?_
            refine S_icmp_eq (tgt := 327) rfl rfl rfl rfl (show (60 : Int32).toInt = 60 from rfl) (fun vh72 => ?_) (fun vh72 => ?_)
            · refine X_iconst (v := (1 : Int32)) rfl rfl rfl ?_
              refine LW_goto (tgt := 332) rfl rfl ?_
              refine X_istore_n (i := 2) (ls' := [some (.ref 355), some (.int vz10), some (.int (1 : Int32))]) rfl rfl rfl (Nat.le_of_ble_eq_true rfl) rfl ?_
              refine X_aload_n rfl rfl rfl rfl ?_
              refine X_iload_n rfl rfl rfl rfl ?_
              refine S_if_eq (tgt := 342) rfl rfl rfl (show (1 : Int32).toInt = 1 from rfl) (fun q => absurd q (by omega)) (fun vh73 => ?_)
              refine X_iload_n rfl rfl rfl rfl ?_
              refine LW_goto (tgt := 343) rfl rfl ?_
              refine S_putI (I := InvR _) rfl rfl rfl ((congrFun V.1 355).trans s_355) rfl rfl rfl rfl (InvR_putO V (by decide) trivial) (fun g V ve74 vn75 hq => ?_)
              have hG := hq.trans hG
              have hF := vSm.putN hF vn75 (by decide)
              have evz2 := (vn75 (355) 8 (Or.inr (by decide))).trans evz2
              have ve4 := (vn75 (355) 12 (Or.inr (by decide))).trans ve4
              have evz10 := (vn75 (361) ((vz1.toInt : Int).toNat) (Or.inl (by decide))).trans evz10
              have ve70 := (vn75 (355) 11 (Or.inr (by decide))).trans ve70
              exact ih346 _ V hG hF vz10 vz10.toInt rfl (by omega) (1 : Int32) 1 (show (1 : Int32).toInt = 1 from rfl) (by omega)  (by rw [ve4] <;> omega) (by rw [ve4, ve70] <;> omega) (by rw [ve70, evz2] <;> omega) (by rw [evz2] <;> omega) (by rw [ve4] <;> omega)  (by omega)
            · refine X_iload_n rfl rfl rfl rfl ?_
              refine X_bipush (v := (62 : Int32)) rfl rfl rfl ?_
              refine S_icmp_eq (tgt := 327) rfl rfl rfl rfl (show (62 : Int32).toInt = 62 from rfl) (fun vh76 => ?_) (fun vh76 => ?_)
              · refine X_iconst (v := (1 : Int32)) rfl rfl rfl ?_
                refine LW_goto (tgt := 332) rfl rfl ?_
                refine X_istore_n (i := 2) (ls' := [some (.ref 355), some (.int vz10), some (.int (1 : Int32))]) rfl rfl rfl (Nat.le_of_ble_eq_true rfl) rfl ?_
                refine X_aload_n rfl rfl rfl rfl ?_
                refine X_iload_n rfl rfl rfl rfl ?_
                refine S_if_eq (tgt := 342) rfl rfl rfl (show (1 : Int32).toInt = 1 from rfl) (fun q => absurd q (by omega)) (fun vh77 => ?_)
                refine X_iload_n rfl rfl rfl rfl ?_
                refine LW_goto (tgt := 343) rfl rfl ?_
                refine S_putI (I := InvR _) rfl rfl rfl ((congrFun V.1 355).trans s_355) rfl rfl rfl rfl (InvR_putO V (by decide) trivial) (fun g V ve78 vn79 hq => ?_)
                have hG := hq.trans hG
                have hF := vSm.putN hF vn79 (by decide)
                have evz2 := (vn79 (355) 8 (Or.inr (by decide))).trans evz2
                have ve4 := (vn79 (355) 12 (Or.inr (by decide))).trans ve4
                have evz10 := (vn79 (361) ((vz1.toInt : Int).toNat) (Or.inl (by decide))).trans evz10
                have ve70 := (vn79 (355) 11 (Or.inr (by decide))).trans ve70
                exact ih346 _ V hG hF vz10 vz10.toInt rfl (by omega) (1 : Int32) 1 (show (1 : Int32).toInt = 1 from rfl) (by omega)  (by rw [ve4] <;> omega) (by rw [ve4, ve70] <;> omega) (by rw [ve70, evz2] <;> omega) (by rw [evz2] <;> omega) (by rw [ve4] <;> omega)  (by omega)
              · refine X_iload_n rfl rfl rfl rfl ?_
                refine X_bipush (v := (61 : Int32)) rfl rfl rfl ?_
                refine S_icmp_eq (tgt := 327) rfl rfl rfl rfl (show (61 : Int32).toInt = 61 from rfl) (fun vh80 => ?_) (fun vh80 => ?_)
                · refine X_iconst (v := (1 : Int32)) rfl rfl rfl ?_
                  refine LW_goto (tgt := 332) rfl rfl ?_
                  refine X_istore_n (i := 2) (ls' := [some (.ref 355), some (.int vz10), some (.int (1 : Int32))]) rfl rfl rfl (Nat.le_of_ble_eq_true rfl) rfl ?_
                  refine X_aload_n rfl rfl rfl rfl ?_
                  refine X_iload_n rfl rfl rfl rfl ?_
                  refine S_if_eq (tgt := 342) rfl rfl rfl (show (1 : Int32).toInt = 1 from rfl) (fun q => absurd q (by omega)) (fun vh81 => ?_)
                  refine X_iload_n rfl rfl rfl rfl ?_
                  refine LW_goto (tgt := 343) rfl rfl ?_
                  refine S_putI (I := InvR _) rfl rfl rfl ((congrFun V.1 355).trans s_355) rfl rfl rfl rfl (InvR_putO V (by decide) trivial) (fun g V ve82 vn83 hq => ?_)
                  have hG := hq.trans hG
                  have hF := vSm.putN hF vn83 (by decide)
                  have evz2 := (vn83 (355) 8 (Or.inr (by decide))).trans evz2
                  have ve4 := (vn83 (355) 12 (Or.inr (by decide))).trans ve4
                  have evz10 := (vn83 (361) ((vz1.toInt : Int).toNat) (Or.inl (by decide))).trans evz10
                  have ve70 := (vn83 (355) 11 (Or.inr (by decide))).trans ve70
                  exact ih346 _ V hG hF vz10 vz10.toInt rfl (by omega) (1 : Int32) 1 (show (1 : Int32).toInt = 1 from rfl) (by omega)  (by rw [ve4] <;> omega) (by rw [ve4, ve70] <;> omega) (by rw [ve70, evz2] <;> omega) (by rw [evz2] <;> omega) (by rw [ve4] <;> omega)  (by omega)
                · refine X_iload_n rfl rfl rfl rfl ?_
                  refine X_bipush (v := (35 : Int32)) rfl rfl rfl ?_
                  refine S_icmp_eq (tgt := 327) rfl rfl rfl rfl (show (35 : Int32).toInt = 35 from rfl) (fun q => absurd q (by omega)) (fun vh84 => ?_)
                  refine X_iload_n rfl rfl rfl rfl ?_
                  refine X_bipush (v := (43 : Int32)) rfl rfl rfl ?_
                  refine S_icmp_eq (tgt := 327) rfl rfl rfl rfl (show (43 : Int32).toInt = 43 from rfl) (fun q => absurd q (by omega)) (fun vh85 => ?_)
                  refine X_iload_n rfl rfl rfl rfl ?_
                  refine X_bipush (v := (45 : Int32)) rfl rfl rfl ?_
                  refine S_icmp_eq (tgt := 327) rfl rfl rfl rfl (show (45 : Int32).toInt = 45 from rfl) (fun q => absurd q (by omega)) (fun vh86 => ?_)
                  refine X_iload_n rfl rfl rfl rfl ?_
                  refine X_bipush (v := (42 : Int32)) rfl rfl rfl ?_
                  refine S_icmp_eq (tgt := 327) rfl rfl rfl rfl (show (42 : Int32).toInt = 42 from rfl) (fun q => absurd q (by omega)) (fun vh87 => ?_)
                  refine X_iload_n rfl rfl rfl rfl ?_
                  refine X_bipush (v := (47 : Int32)) rfl rfl rfl ?_
                  refine S_icmp_eq (tgt := 327) rfl rfl rfl rfl (show (47 : Int32).toInt = 47 from rfl) (fun q => absurd q (by omega)) (fun vh88 => ?_)
                  refine X_iload_n rfl rfl rfl rfl ?_
                  refine X_bipush (v := (44 : Int32)) rfl rfl rfl ?_
                  refine S_icmp_eq (tgt := 327) rfl rfl rfl rfl (show (44 : Int32).toInt = 44 from rfl) (fun q => absurd q (by omega)) (fun vh89 => ?_)
                  refine X_iload_n rfl rfl rfl rfl ?_
                  refine X_bipush (v := (40 : Int32)) rfl rfl rfl ?_
                  refine S_icmp_eq (tgt := 327) rfl rfl rfl rfl (show (40 : Int32).toInt = 40 from rfl) (fun q => absurd q (by omega)) (fun vh90 => ?_)
                  refine X_iload_n rfl rfl rfl rfl ?_
                  refine X_bipush (v := (41 : Int32)) rfl rfl rfl ?_
                  refine S_icmp_eq (tgt := 327) rfl rfl rfl rfl (show (41 : Int32).toInt = 41 from rfl) (fun q => absurd q (by omega)) (fun vh91 => ?_)
                  refine X_iload_n rfl rfl rfl rfl ?_
                  refine X_bipush (v := (59 : Int32)) rfl rfl rfl ?_
                  refine S_icmp_ne (tgt := 331) rfl rfl rfl rfl (show (59 : Int32).toInt = 59 from rfl) (fun vh92 => ?_) (fun vh92 => ?_)
                  · refine X_iconst (v := (0 : Int32)) rfl rfl rfl ?_
                    refine X_istore_n (i := 2) (ls' := [some (.ref 355), some (.int vz10), some (.int (0 : Int32))]) rfl rfl rfl (Nat.le_of_ble_eq_true rfl) rfl ?_
                    refine X_aload_n rfl rfl rfl rfl ?_
                    refine X_iload_n rfl rfl rfl rfl ?_
                    refine S_if_eq (tgt := 342) rfl rfl rfl (show (0 : Int32).toInt = 0 from rfl) (fun vh93 => ?_) (fun q => absurd q (by omega))
                    refine X_iconst (v := (3 : Int32)) rfl rfl rfl ?_
                    refine S_putI (I := InvR _) rfl rfl rfl ((congrFun V.1 355).trans s_355) rfl rfl rfl rfl (InvR_putO V (by decide) trivial) (fun g V ve94 vn95 hq => ?_)
                    have hG := hq.trans hG
                    have hF := vSm.putN hF vn95 (by decide)
                    have evz2 := (vn95 (355) 8 (Or.inr (by decide))).trans evz2
                    have ve4 := (vn95 (355) 12 (Or.inr (by decide))).trans ve4
                    have evz10 := (vn95 (361) ((vz1.toInt : Int).toNat) (Or.inl (by decide))).trans evz10
                    have ve70 := (vn95 (355) 11 (Or.inr (by decide))).trans ve70
                    exact ih346 _ V hG hF vz10 vz10.toInt rfl (by omega) (0 : Int32) 0 (show (0 : Int32).toInt = 0 from rfl) (by omega)  (by rw [ve4] <;> omega) (by rw [ve4, ve70] <;> omega) (by rw [ve70, evz2] <;> omega) (by rw [evz2] <;> omega) (by rw [ve4] <;> omega)  (by omega)
                  · refine X_iconst (v := (1 : Int32)) rfl rfl rfl ?_
                    refine LW_goto (tgt := 332) rfl rfl ?_
                    refine X_istore_n (i := 2) (ls' := [some (.ref 355), some (.int vz10), some (.int (1 : Int32))]) rfl rfl rfl (Nat.le_of_ble_eq_true rfl) rfl ?_
                    refine X_aload_n rfl rfl rfl rfl ?_
                    refine X_iload_n rfl rfl rfl rfl ?_
                    refine S_if_eq (tgt := 342) rfl rfl rfl (show (1 : Int32).toInt = 1 from rfl) (fun q => absurd q (by omega)) (fun vh96 => ?_)
                    refine X_iload_n rfl rfl rfl rfl ?_
                    refine LW_goto (tgt := 343) rfl rfl ?_
                    refine S_putI (I := InvR _) rfl rfl rfl ((congrFun V.1 355).trans s_355) rfl rfl rfl rfl (InvR_putO V (by decide) trivial) (fun g V ve97 vn98 hq => ?_)
                    have hG := hq.trans hG
                    have hF := vSm.putN hF vn98 (by decide)
                    have evz2 := (vn98 (355) 8 (Or.inr (by decide))).trans evz2
                    have ve4 := (vn98 (355) 12 (Or.inr (by decide))).trans ve4
                    have evz10 := (vn98 (361) ((vz1.toInt : Int).toNat) (Or.inl (by decide))).trans evz10
                    have ve70 := (vn98 (355) 11 (Or.inr (by decide))).trans ve70
                    exact ih346 _ V hG hF vz10 vz10.toInt rfl (by omega) (1 : Int32) 1 (show (1 : Int32).toInt = 1 from rfl) (by omega)  (by rw [ve4] <;> omega) (by rw [ve4, ve70] <;> omega) (by rw [ve70, evz2] <;> omega) (by rw [evz2] <;> omega) (by rw [ve4] <;> omega)  (by omega)
          · refine X_iload_n rfl rfl rfl rfl ?_
            refine X_iload_n rfl rfl rfl rfl ?_
            refine S_icmp_gt (tgt := 14) rfl rfl rfl rfl (show (90 : Int32).toInt = 90 from rfl) (fun vh99 => ?_) (fun vh99 => ?_)
            · refine X_iconst (v := (0 : Int32)) rfl rfl rfl ?_
              refine LW_ireturn (st := []) rfl rfl rfl ?_
              refine S_if_eq (tgt := 26) rfl rfl rfl (show (0 : Int32).toInt = 0 from rfl) (fun vh100 => ?_) (fun q => absurd q (by omega))
              refine X_iconst (v := (0 : Int32)) rfl rfl rfl ?_
              refine LW_ireturn (st := []) rfl rfl rfl ?_
              refine S_if_eq (tgt := 245) rfl rfl rfl (show (0 : Int32).toInt = 0 from rfl) (fun vh101 => ?_) (fun q => absurd q (by omega))
              refine X_aload_n rfl rfl rfl rfl ?_
              refine X_dup rfl rfl rfl ?_
              refine X_getI (v := vz1) rfl rfl rfl ((congrFun V.1 355).trans s_355) rfl evz1 ?_
              refine X_iconst (v := (1 : Int32)) rfl rfl rfl ?_
              refine S_iadd rfl rfl rfl (show (1 : Int32).toInt = 1 from rfl) (by omega) (fun vz102 hvz102 => ?_)
              refine S_putI (I := InvR _) rfl rfl rfl ((congrFun V.1 355).trans s_355) rfl rfl rfl rfl (InvR_putO V (by decide) trivial) (fun g V ve103 vn104 hq => ?_)
              have hG := hq.trans hG
              have hF := vSm.putN hF vn104 (by decide)
              have evz2 := (vn104 (355) 8 (Or.inr (by decide))).trans evz2
              have ve4 := (vn104 (355) 12 (Or.inr (by decide))).trans ve4
              have evz10 := (vn104 (361) ((vz1.toInt : Int).toNat) (Or.inl (by decide))).trans evz10
              refine X_iload_n rfl rfl rfl rfl ?_
              refine X_bipush (v := (60 : Int32)) rfl rfl rfl ?_
              refine S_icmp_eq (tgt := 327) rfl rfl rfl rfl (show (60 : Int32).toInt = 60 from rfl) (fun q => absurd q (by omega)) (fun vh105 => ?_)
              refine X_iload_n rfl rfl rfl rfl ?_
              refine X_bipush (v := (62 : Int32)) rfl rfl rfl ?_
              refine S_icmp_eq (tgt := 327) rfl rfl rfl rfl (show (62 : Int32).toInt = 62 from rfl) (fun q => absurd q (by omega)) (fun vh106 => ?_)
              refine X_iload_n rfl rfl rfl rfl ?_
              refine X_bipush (v := (61 : Int32)) rfl rfl rfl ?_
              refine S_icmp_eq (tgt := 327) rfl rfl rfl rfl (show (61 : Int32).toInt = 61 from rfl) (fun q => absurd q (by omega)) (fun vh107 => ?_)
              refine X_iload_n rfl rfl rfl rfl ?_
              refine X_bipush (v := (35 : Int32)) rfl rfl rfl ?_
              refine S_icmp_eq (tgt := 327) rfl rfl rfl rfl (show (35 : Int32).toInt = 35 from rfl) (fun q => absurd q (by omega)) (fun vh108 => ?_)
              refine X_iload_n rfl rfl rfl rfl ?_
              refine X_bipush (v := (43 : Int32)) rfl rfl rfl ?_
              refine S_icmp_eq (tgt := 327) rfl rfl rfl rfl (show (43 : Int32).toInt = 43 from rfl) (fun q => absurd q (by omega)) (fun vh109 => ?_)
              refine X_iload_n rfl rfl rfl rfl ?_
              refine X_bipush (v := (45 : Int32)) rfl rfl rfl ?_
              refine S_icmp_eq (tgt := 327) rfl rfl rfl rfl (show (45 : Int32).toInt = 45 from rfl) (fun q => absurd q (by omega)) (fun vh110 => ?_)
              refine X_iload_n rfl rfl rfl rfl ?_
              refine X_bipush (v := (42 : Int32)) rfl rfl rfl ?_
              refine S_icmp_eq (tgt := 327) rfl rfl rfl rfl (show (42 : Int32).toInt = 42 from rfl) (fun q => absurd q (by omega)) (fun vh111 => ?_)
              refine X_iload_n rfl rfl rfl rfl ?_
              refine X_bipush (v := (47 : Int32)) rfl rfl rfl ?_
              refine S_icmp_eq (tgt := 327) rfl rfl rfl rfl (show (47 : Int32).toInt = 47 from rfl) (fun q => absurd q (by omega)) (fun vh112 => ?_)
              refine X_iload_n rfl rfl rfl rfl ?_
              refine X_bipush (v := (44 : Int32)) rfl rfl rfl ?_
              refine S_icmp_eq (tgt := 327) rfl rfl rfl rfl (show (44 : Int32).toInt = 44 from rfl) (fun q => absurd q (by omega)) (fun vh113 => ?_)
              refine X_iload_n rfl rfl rfl rfl ?_
              refine X_bipush (v := (40 : Int32)) rfl rfl rfl ?_
              refine S_icmp_eq (tgt := 327) rfl rfl rfl rfl (show (40 : Int32).toInt = 40 from rfl) (fun q => absurd q (by omega)) (fun vh114 => ?_)
              refine X_iload_n rfl rfl rfl rfl ?_
              refine X_bipush (v := (41 : Int32)) rfl rfl rfl ?_
              refine S_icmp_eq (tgt := 327) rfl rfl rfl rfl (show (41 : Int32).toInt = 41 from rfl) (fun q => absurd q (by omega)) (fun vh115 => ?_)
              refine X_iload_n rfl rfl rfl rfl ?_
              refine X_bipush (v := (59 : Int32)) rfl rfl rfl ?_
              refine S_icmp_ne (tgt := 331) rfl rfl rfl rfl (show (59 : Int32).toInt = 59 from rfl) (fun vh116 => ?_) (fun q => absurd q (by omega))
              refine X_iconst (v := (0 : Int32)) rfl rfl rfl ?_
              refine X_istore_n (i := 2) (ls' := [some (.ref 355), some (.int vz10), some (.int (0 : Int32))]) rfl rfl rfl (Nat.le_of_ble_eq_true rfl) rfl ?_
              refine X_aload_n rfl rfl rfl rfl ?_
              refine X_iload_n rfl rfl rfl rfl ?_
              refine S_if_eq (tgt := 342) rfl rfl rfl (show (0 : Int32).toInt = 0 from rfl) (fun vh117 => ?_) (fun q => absurd q (by omega))
              refine X_iconst (v := (3 : Int32)) rfl rfl rfl ?_
              refine S_putI (I := InvR _) rfl rfl rfl ((congrFun V.1 355).trans s_355) rfl rfl rfl rfl (InvR_putO V (by decide) trivial) (fun g V ve118 vn119 hq => ?_)
              have hG := hq.trans hG
              have hF := vSm.putN hF vn119 (by decide)
              have evz2 := (vn119 (355) 8 (Or.inr (by decide))).trans evz2
              have ve4 := (vn119 (355) 12 (Or.inr (by decide))).trans ve4
              have evz10 := (vn119 (361) ((vz1.toInt : Int).toNat) (Or.inl (by decide))).trans evz10
              have ve103 := (vn119 (355) 11 (Or.inr (by decide))).trans ve103
              exact ih346 _ V hG hF vz10 vz10.toInt rfl (by omega) (0 : Int32) 0 (show (0 : Int32).toInt = 0 from rfl) (by omega)  (by rw [ve4] <;> omega) (by rw [ve4, ve103] <;> omega) (by rw [ve103, evz2] <;> omega) (by rw [evz2] <;> omega) (by rw [ve4] <;> omega)  (by omega)
            · refine X_iconst (v := (1 : Int32)) rfl rfl rfl ?_
              refine LW_goto (tgt := 15) rfl rfl ?_
              refine LW_ireturn (st := []) rfl rfl rfl ?_
              refine S_if_eq (tgt := 26) rfl rfl rfl (show (1 : Int32).toInt = 1 from rfl) (fun q => absurd q (by omega)) (fun vh120 => ?_)
              refine X_iconst (v := (1 : Int32)) rfl rfl rfl ?_
              refine LW_goto (tgt := 27) rfl rfl ?_
              refine LW_ireturn (st := []) rfl rfl rfl ?_
              refine S_if_eq (tgt := 245) rfl rfl rfl (show (1 : Int32).toInt = 1 from rfl) (fun q => absurd q (by omega)) (fun vh121 => ?_)
              refine X_aload_n rfl rfl rfl rfl ?_
              refine X_iconst (v := (2 : Int32)) rfl rfl rfl ?_
              refine S_putI (I := InvR _) rfl rfl rfl ((congrFun V.1 355).trans s_355) rfl rfl rfl rfl (InvR_putO V (by decide) trivial) (fun g V ve122 vn123 hq => ?_)
              have hG := hq.trans hG
              have hF := vSm.putN hF vn123 (by decide)
              have evz1 := (vn123 (355) 11 (Or.inr (by decide))).trans evz1
              have evz2 := (vn123 (355) 8 (Or.inr (by decide))).trans evz2
              have ve4 := (vn123 (355) 12 (Or.inr (by decide))).trans ve4
              have evz10 := (vn123 (361) ((vz1.toInt : Int).toNat) (Or.inl (by decide))).trans evz10
              refine X_aload_n rfl rfl rfl rfl ?_
              refine X_lconst (v := (0 : Int64)) rfl rfl rfl ?_
              refine S_putJ (I := InvR _) rfl rfl rfl ((congrFun V.1 355).trans s_355) rfl rfl rfl rfl (fun _ => V) (fun g V vn124 hq => ?_)
              have hG := hq.trans hG
              have hF := vSm.all hF vn124
              have evz1 := (vn124 (355) 11).trans evz1
              have evz2 := (vn124 (355) 8).trans evz2
              have ve4 := (vn124 (355) 12).trans ve4
              have ve122 := (vn124 (355) 13).trans ve122
              have evz10 := (vn124 (361) ((vz1.toInt : Int).toNat)).trans evz10
              exact ih161 _ V hG hF vz10 vz10.toInt rfl (by omega) o2  (by rw [ve4] <;> omega) (by rw [ve4, evz1] <;> omega) (by rw [evz1, evz2] <;> omega) (by rw [evz2] <;> omega) (by rw [ve4] <;> omega) (by have vk0 := (show (2 : Int32).toInt = 2 from rfl); rw [ve122] <;> omega) (by rw [ve4, evz1, evz2]; exact (by
                    rw [evz10]
                    omega))  (by rw [evz1] <;> omega)
        · refine X_iload_n rfl rfl rfl rfl ?_
          refine X_iload_n rfl rfl rfl rfl ?_
          refine S_icmp_gt (tgt := 14) rfl rfl rfl rfl (show (122 : Int32).toInt = 122 from rfl) (fun vh125 => ?_) (fun vh125 => ?_)
          · refine X_iconst (v := (0 : Int32)) rfl rfl rfl ?_
            refine LW_ireturn (st := []) rfl rfl rfl ?_
            refine S_if_ne (tgt := 22) rfl rfl rfl (show (0 : Int32).toInt = 0 from rfl) (fun q => absurd q (by omega)) (fun vh126 => ?_)
            refine X_iload_n rfl rfl rfl rfl ?_
            refine X_bipush (v := (65 : Int32)) rfl rfl rfl ?_
            refine X_bipush (v := (90 : Int32)) rfl rfl rfl ?_
            refine X_callS (as := [.int vz10, .int (65 : Int32), .int (90 : Int32)]) (st := []) rfl rfl rfl (by decide) rfl (Nat.le_of_ble_eq_true rfl) (by decide) (Nat.le_of_ble_eq_true rfl) rfl ?_
            refine LW_ls (ls' := [some (.int vz10), some (.int (65 : Int32)), some (.int (90 : Int32))]) rfl ?_
            refine X_iload_n rfl rfl rfl rfl ?_
            refine X_iload_n rfl rfl rfl rfl ?_
            refine S_icmp_lt (tgt := 14) rfl rfl rfl rfl (show (65 : Int32).toInt = 65 from rfl) (fun q => absurd q (by omega)) (fun vh127 => ?_)
            refine X_iload_n rfl rfl rfl rfl ?_
            refine X_iload_n rfl rfl rfl rfl ?_
            refine S_icmp_gt (tgt := 14) rfl rfl rfl rfl (show (90 : Int32).toInt = 90 from rfl) (fun vh128 => ?_) (fun q => absurd q (by omega))
            refine X_iconst (v := (0 : Int32)) rfl rfl rfl ?_
            refine LW_ireturn (st := []) rfl rfl rfl ?_
            refine S_if_eq (tgt := 26) rfl rfl rfl (show (0 : Int32).toInt = 0 from rfl) (fun vh129 => ?_) (fun q => absurd q (by omega))
            refine X_iconst (v := (0 : Int32)) rfl rfl rfl ?_
            refine LW_ireturn (st := []) rfl rfl rfl ?_
            refine S_if_eq (tgt := 245) rfl rfl rfl (show (0 : Int32).toInt = 0 from rfl) (fun vh130 => ?_) (fun q => absurd q (by omega))
            refine X_aload_n rfl rfl rfl rfl ?_
            refine X_dup rfl rfl rfl ?_
            refine X_getI (v := vz1) rfl rfl rfl ((congrFun V.1 355).trans s_355) rfl evz1 ?_
            refine X_iconst (v := (1 : Int32)) rfl rfl rfl ?_
            refine S_iadd rfl rfl rfl (show (1 : Int32).toInt = 1 from rfl) (by omega) (fun vz131 hvz131 => ?_)
            refine S_putI (I := InvR _) rfl rfl rfl ((congrFun V.1 355).trans s_355) rfl rfl rfl rfl (InvR_putO V (by decide) trivial) (fun g V ve132 vn133 hq => ?_)
            have hG := hq.trans hG
            have hF := vSm.putN hF vn133 (by decide)
            have evz2 := (vn133 (355) 8 (Or.inr (by decide))).trans evz2
            have ve4 := (vn133 (355) 12 (Or.inr (by decide))).trans ve4
            have evz10 := (vn133 (361) ((vz1.toInt : Int).toNat) (Or.inl (by decide))).trans evz10
            refine X_iload_n rfl rfl rfl rfl ?_
            refine X_bipush (v := (60 : Int32)) rfl rfl rfl ?_
            refine S_icmp_eq (tgt := 327) rfl rfl rfl rfl (show (60 : Int32).toInt = 60 from rfl) (fun q => absurd q (by omega)) (fun vh134 => ?_)
            refine X_iload_n rfl rfl rfl rfl ?_
            refine X_bipush (v := (62 : Int32)) rfl rfl rfl ?_
            refine S_icmp_eq (tgt := 327) rfl rfl rfl rfl (show (62 : Int32).toInt = 62 from rfl) (fun q => absurd q (by omega)) (fun vh135 => ?_)
            refine X_iload_n rfl rfl rfl rfl ?_
            refine X_bipush (v := (61 : Int32)) rfl rfl rfl ?_
            refine S_icmp_eq (tgt := 327) rfl rfl rfl rfl (show (61 : Int32).toInt = 61 from rfl) (fun q => absurd q (by omega)) (fun vh136 => ?_)
            refine X_iload_n rfl rfl rfl rfl ?_
            refine X_bipush (v := (35 : Int32)) rfl rfl rfl ?_
            refine S_icmp_eq (tgt := 327) rfl rfl rfl rfl (show (35 : Int32).toInt = 35 from rfl) (fun q => absurd q (by omega)) (fun vh137 => ?_)
            refine X_iload_n rfl rfl rfl rfl ?_
            refine X_bipush (v := (43 : Int32)) rfl rfl rfl ?_
            refine S_icmp_eq (tgt := 327) rfl rfl rfl rfl (show (43 : Int32).toInt = 43 from rfl) (fun q => absurd q (by omega)) (fun vh138 => ?_)
            refine X_iload_n rfl rfl rfl rfl ?_
            refine X_bipush (v := (45 : Int32)) rfl rfl rfl ?_
            refine S_icmp_eq (tgt := 327) rfl rfl rfl rfl (show (45 : Int32).toInt = 45 from rfl) (fun q => absurd q (by omega)) (fun vh139 => ?_)
            refine X_iload_n rfl rfl rfl rfl ?_
            refine X_bipush (v := (42 : Int32)) rfl rfl rfl ?_
            refine S_icmp_eq (tgt := 327) rfl rfl rfl rfl (show (42 : Int32).toInt = 42 from rfl) (fun q => absurd q (by omega)) (fun vh140 => ?_)
            refine X_iload_n rfl rfl rfl rfl ?_
            refine X_bipush (v := (47 : Int32)) rfl rfl rfl ?_
            refine S_icmp_eq (tgt := 327) rfl rfl rfl rfl (show (47 : Int32).toInt = 47 from rfl) (fun q => absurd q (by omega)) (fun vh141 => ?_)
            refine X_iload_n rfl rfl rfl rfl ?_
            refine X_bipush (v := (44 : Int32)) rfl rfl rfl ?_
            refine S_icmp_eq (tgt := 327) rfl rfl rfl rfl (show (44 : Int32).toInt = 44 from rfl) (fun q => absurd q (by omega)) (fun vh142 => ?_)
            refine X_iload_n rfl rfl rfl rfl ?_
            refine X_bipush (v := (40 : Int32)) rfl rfl rfl ?_
            refine S_icmp_eq (tgt := 327) rfl rfl rfl rfl (show (40 : Int32).toInt = 40 from rfl) (fun q => absurd q (by omega)) (fun vh143 => ?_)
            refine X_iload_n rfl rfl rfl rfl ?_
            refine X_bipush (v := (41 : Int32)) rfl rfl rfl ?_
            refine S_icmp_eq (tgt := 327) rfl rfl rfl rfl (show (41 : Int32).toInt = 41 from rfl) (fun q => absurd q (by omega)) (fun vh144 => ?_)
            refine X_iload_n rfl rfl rfl rfl ?_
            refine X_bipush (v := (59 : Int32)) rfl rfl rfl ?_
            refine S_icmp_ne (tgt := 331) rfl rfl rfl rfl (show (59 : Int32).toInt = 59 from rfl) (fun vh145 => ?_) (fun q => absurd q (by omega))
            refine X_iconst (v := (0 : Int32)) rfl rfl rfl ?_
            refine X_istore_n (i := 2) (ls' := [some (.ref 355), some (.int vz10), some (.int (0 : Int32))]) rfl rfl rfl (Nat.le_of_ble_eq_true rfl) rfl ?_
            refine X_aload_n rfl rfl rfl rfl ?_
            refine X_iload_n rfl rfl rfl rfl ?_
            refine S_if_eq (tgt := 342) rfl rfl rfl (show (0 : Int32).toInt = 0 from rfl) (fun vh146 => ?_) (fun q => absurd q (by omega))
            refine X_iconst (v := (3 : Int32)) rfl rfl rfl ?_
            refine S_putI (I := InvR _) rfl rfl rfl ((congrFun V.1 355).trans s_355) rfl rfl rfl rfl (InvR_putO V (by decide) trivial) (fun g V ve147 vn148 hq => ?_)
            have hG := hq.trans hG
            have hF := vSm.putN hF vn148 (by decide)
            have evz2 := (vn148 (355) 8 (Or.inr (by decide))).trans evz2
            have ve4 := (vn148 (355) 12 (Or.inr (by decide))).trans ve4
            have evz10 := (vn148 (361) ((vz1.toInt : Int).toNat) (Or.inl (by decide))).trans evz10
            have ve132 := (vn148 (355) 11 (Or.inr (by decide))).trans ve132
            exact ih346 _ V hG hF vz10 vz10.toInt rfl (by omega) (0 : Int32) 0 (show (0 : Int32).toInt = 0 from rfl) (by omega)  (by rw [ve4] <;> omega) (by rw [ve4, ve132] <;> omega) (by rw [ve132, evz2] <;> omega) (by rw [evz2] <;> omega) (by rw [ve4] <;> omega)  (by omega)
          · refine X_iconst (v := (1 : Int32)) rfl rfl rfl ?_
            refine LW_goto (tgt := 15) rfl rfl ?_
            refine LW_ireturn (st := []) rfl rfl rfl ?_
            refine S_if_ne (tgt := 22) rfl rfl rfl (show (1 : Int32).toInt = 1 from rfl) (fun vh149 => ?_) (fun q => absurd q (by omega))
            refine X_iconst (v := (1 : Int32)) rfl rfl rfl ?_
            refine LW_goto (tgt := 27) rfl rfl ?_
            refine LW_ireturn (st := []) rfl rfl rfl ?_
            refine S_if_eq (tgt := 245) rfl rfl rfl (show (1 : Int32).toInt = 1 from rfl) (fun q => absurd q (by omega)) (fun vh150 => ?_)
            refine X_aload_n rfl rfl rfl rfl ?_
            refine X_iconst (v := (2 : Int32)) rfl rfl rfl ?_
            refine S_putI (I := InvR _) rfl rfl rfl ((congrFun V.1 355).trans s_355) rfl rfl rfl rfl (InvR_putO V (by decide) trivial) (fun g V ve151 vn152 hq => ?_)
            have hG := hq.trans hG
            have hF := vSm.putN hF vn152 (by decide)
            have evz1 := (vn152 (355) 11 (Or.inr (by decide))).trans evz1
            have evz2 := (vn152 (355) 8 (Or.inr (by decide))).trans evz2
            have ve4 := (vn152 (355) 12 (Or.inr (by decide))).trans ve4
            have evz10 := (vn152 (361) ((vz1.toInt : Int).toNat) (Or.inl (by decide))).trans evz10
            refine X_aload_n rfl rfl rfl rfl ?_
            refine X_lconst (v := (0 : Int64)) rfl rfl rfl ?_
            refine S_putJ (I := InvR _) rfl rfl rfl ((congrFun V.1 355).trans s_355) rfl rfl rfl rfl (fun _ => V) (fun g V vn153 hq => ?_)
            have hG := hq.trans hG
            have hF := vSm.all hF vn153
            have evz1 := (vn153 (355) 11).trans evz1
            have evz2 := (vn153 (355) 8).trans evz2
            have ve4 := (vn153 (355) 12).trans ve4
            have ve151 := (vn153 (355) 13).trans ve151
            have evz10 := (vn153 (361) ((vz1.toInt : Int).toNat)).trans evz10
            exact ih161 _ V hG hF vz10 vz10.toInt rfl (by omega) o2  (by rw [ve4] <;> omega) (by rw [ve4, evz1] <;> omega) (by rw [evz1, evz2] <;> omega) (by rw [evz2] <;> omega) (by rw [ve4] <;> omega) (by have vk0 := (show (2 : Int32).toInt = 2 from rfl); rw [ve151] <;> omega) (by rw [ve4, evz1, evz2]; exact (by
                  rw [evz10]
                  omega))  (by rw [evz1] <;> omega)
      · refine X_iconst (v := (1 : Int32)) rfl rfl rfl ?_
        refine LW_goto (tgt := 15) rfl rfl ?_
        refine LW_ireturn (st := []) rfl rfl rfl ?_
        refine LW_ireturn (st := []) rfl rfl rfl ?_
        refine S_if_eq (tgt := 144) rfl rfl rfl (show (1 : Int32).toInt = 1 from rfl) (fun q => absurd q (by omega)) (fun vh154 => ?_)
        refine X_aload_n rfl rfl rfl rfl ?_
        refine X_iconst (v := (1 : Int32)) rfl rfl rfl ?_
        refine S_putI (I := InvR _) rfl rfl rfl ((congrFun V.1 355).trans s_355) rfl rfl rfl rfl (InvR_putO V (by decide) trivial) (fun g V ve155 vn156 hq => ?_)
        have hG := hq.trans hG
        have hF := vSm.putN hF vn156 (by decide)
        have evz1 := (vn156 (355) 11 (Or.inr (by decide))).trans evz1
        have evz2 := (vn156 (355) 8 (Or.inr (by decide))).trans evz2
        have ve4 := (vn156 (355) 12 (Or.inr (by decide))).trans ve4
        have evz10 := (vn156 (361) ((vz1.toInt : Int).toNat) (Or.inl (by decide))).trans evz10
        refine X_aload_n rfl rfl rfl rfl ?_
        refine X_iconst (v := (0 : Int32)) rfl rfl rfl ?_
        refine S_putI (I := InvR _) rfl rfl rfl ((congrFun V.1 355).trans s_355) rfl rfl rfl rfl (InvR_putO V (by decide) trivial) (fun g V ve157 vn158 hq => ?_)
        have hG := hq.trans hG
        have hF := vSm.putN hF vn158 (by decide)
        have evz1 := (vn158 (355) 11 (Or.inr (by decide))).trans evz1
        have evz2 := (vn158 (355) 8 (Or.inr (by decide))).trans evz2
        have ve4 := (vn158 (355) 12 (Or.inr (by decide))).trans ve4
        have evz10 := (vn158 (361) ((vz1.toInt : Int).toNat) (Or.inl (by decide))).trans evz10
        have ve155 := (vn158 (355) 13 (Or.inr (by decide))).trans ve155
        exact ih85 _ V hG hF vz10 vz10.toInt rfl (by omega) o2  (by rw [ve4] <;> omega) (by rw [ve4, evz1] <;> omega) (by rw [evz1, evz2] <;> omega) (by rw [evz2] <;> omega) (by rw [ve4] <;> omega) (by have vk0 := (show (1 : Int32).toInt = 1 from rfl); rw [ve155] <;> omega) (by rw [ve4, evz1, evz2]; exact (by
              rw [evz10]
              omega))  (by rw [evz1] <;> omega)
set_option maxRecDepth 10000 in
set_option maxHeartbeats 40000000 in
theorem C_X13_nextToken_85 {P : Par} {g g0 : LH} {d n : Nat}  (V : InvR P g) (hG : Gr g = Gr g0) (hF : vSm vsa g g0) (x1 : Int32) (y1 : Int) (hx1 : x1.toInt = y1) (hf1 : 48 ≤ y1 ∧ y1 ≤ 57) (o2 : Option Value) (hq0 : 0 ≤ (Gi g 355 12).toInt) (hq1 : (Gi g 355 12).toInt ≤ (Gi g 355 11).toInt) (hq2 : (Gi g 355 11).toInt ≤ (Gi g 355 8).toInt) (hq3 : (Gi g 355 8).toInt ≤ 300) (hq4 : (Gi g0 355 11).toInt ≤ (Gi g 355 12).toInt) (hq5 : (Gi g 355 13).toInt = 1) (hq6 : (Gi g 355 12).toInt < (Gi g 355 11).toInt ∨ ((Gi g 355 11).toInt < (Gi g 355 8).toInt ∧ 48 ≤ (Gi g 361 (Int.toNat (Gi g 355 11).toInt)).toInt ∧ (Gi g 361 (Int.toNat (Gi g 355 11).toInt)).toInt ≤ 57)) (hmu : (300 - (Gi g 355 11).toInt) * 1 + 302 < (n : Int) + 1) (ih0 : ∀ (g : LH) (V : InvR P g) (hG : Gr g = Gr g0) (hF : vSm vsa g g0) (o1 : Option Value) (o2 : Option Value) (hq0 : 0 ≤ (Gi g 355 11).toInt) (hq1 : (Gi g 355 11).toInt ≤ (Gi g 355 8).toInt) (hq2 : (Gi g 355 8).toInt ≤ 300) (hq3 : (Gi g0 355 11).toInt ≤ (Gi g 355 11).toInt), (300 - (Gi g 355 11).toInt) * 1 + 604 < (n : Int) → LW 200 (d + 5) 0 0 0 [some (.ref 355), o1, o2] [] g (fun v g' => v = none ∧ InvR P g' ∧ Gr g' = Gr g0 ∧ vSm vsa g' g0 ∧ ((Gi g0 355 11).toInt ≤ (Gi g' 355 12).toInt) ∧ (0 ≤ (Gi g' 355 12).toInt) ∧ ((Gi g' 355 12).toInt ≤ (Gi g' 355 11).toInt) ∧ ((Gi g' 355 11).toInt ≤ (Gi g' 355 8).toInt) ∧ ((Gi g' 355 8).toInt ≤ 300) ∧ ((Gi g' 355 13).toInt = 0 ∨ (Gi g' 355 12).toInt < (Gi g' 355 11).toInt))) (ih39 : ∀ (g : LH) (V : InvR P g) (hG : Gr g = Gr g0) (hF : vSm vsa g g0) (o1 : Option Value) (o2 : Option Value) (hq0 : 0 ≤ (Gi g 355 11).toInt) (hq1 : (Gi g 355 11).toInt ≤ (Gi g 355 8).toInt) (hq2 : (Gi g 355 8).toInt ≤ 300) (hq3 : (Gi g0 355 11).toInt ≤ (Gi g 355 11).toInt), 603 < (n : Int) → LW 200 (d + 5) 0 0 39 [some (.ref 355), o1, o2] [] g (fun v g' => v = none ∧ InvR P g' ∧ Gr g' = Gr g0 ∧ vSm vsa g' g0 ∧ ((Gi g0 355 11).toInt ≤ (Gi g' 355 12).toInt) ∧ (0 ≤ (Gi g' 355 12).toInt) ∧ ((Gi g' 355 12).toInt ≤ (Gi g' 355 11).toInt) ∧ ((Gi g' 355 11).toInt ≤ (Gi g' 355 8).toInt) ∧ ((Gi g' 355 8).toInt ≤ 300) ∧ ((Gi g' 355 13).toInt = 0 ∨ (Gi g' 355 12).toInt < (Gi g' 355 11).toInt))) (ih85 : ∀ (g : LH) (V : InvR P g) (hG : Gr g = Gr g0) (hF : vSm vsa g g0) (x1 : Int32) (y1 : Int) (hx1 : x1.toInt = y1) (hf1 : 48 ≤ y1 ∧ y1 ≤ 57) (o2 : Option Value) (hq0 : 0 ≤ (Gi g 355 12).toInt) (hq1 : (Gi g 355 12).toInt ≤ (Gi g 355 11).toInt) (hq2 : (Gi g 355 11).toInt ≤ (Gi g 355 8).toInt) (hq3 : (Gi g 355 8).toInt ≤ 300) (hq4 : (Gi g0 355 11).toInt ≤ (Gi g 355 12).toInt) (hq5 : (Gi g 355 13).toInt = 1) (hq6 : (Gi g 355 12).toInt < (Gi g 355 11).toInt ∨ ((Gi g 355 11).toInt < (Gi g 355 8).toInt ∧ 48 ≤ (Gi g 361 (Int.toNat (Gi g 355 11).toInt)).toInt ∧ (Gi g 361 (Int.toNat (Gi g 355 11).toInt)).toInt ≤ 57)), (300 - (Gi g 355 11).toInt) * 1 + 302 < (n : Int) → LW 200 (d + 5) 0 0 85 [some (.ref 355), some (.int x1), o2] [] g (fun v g' => v = none ∧ InvR P g' ∧ Gr g' = Gr g0 ∧ vSm vsa g' g0 ∧ ((Gi g0 355 11).toInt ≤ (Gi g' 355 12).toInt) ∧ (0 ≤ (Gi g' 355 12).toInt) ∧ ((Gi g' 355 12).toInt ≤ (Gi g' 355 11).toInt) ∧ ((Gi g' 355 11).toInt ≤ (Gi g' 355 8).toInt) ∧ ((Gi g' 355 8).toInt ≤ 300) ∧ ((Gi g' 355 13).toInt = 0 ∨ (Gi g' 355 12).toInt < (Gi g' 355 11).toInt))) (ih161 : ∀ (g : LH) (V : InvR P g) (hG : Gr g = Gr g0) (hF : vSm vsa g g0) (x1 : Int32) (y1 : Int) (hx1 : x1.toInt = y1) (hf1 : 65 ≤ y1 ∧ y1 ≤ 122) (o2 : Option Value) (hq0 : 0 ≤ (Gi g 355 12).toInt) (hq1 : (Gi g 355 12).toInt ≤ (Gi g 355 11).toInt) (hq2 : (Gi g 355 11).toInt ≤ (Gi g 355 8).toInt) (hq3 : (Gi g 355 8).toInt ≤ 300) (hq4 : (Gi g0 355 11).toInt ≤ (Gi g 355 12).toInt) (hq5 : (Gi g 355 13).toInt = 2) (hq6 : (Gi g 355 12).toInt < (Gi g 355 11).toInt ∨ ((Gi g 355 11).toInt < (Gi g 355 8).toInt ∧ ((65 ≤ (Gi g 361 (Int.toNat (Gi g 355 11).toInt)).toInt ∧ (Gi g 361 (Int.toNat (Gi g 355 11).toInt)).toInt ≤ 90) ∨ (97 ≤ (Gi g 361 (Int.toNat (Gi g 355 11).toInt)).toInt ∧ (Gi g 361 (Int.toNat (Gi g 355 11).toInt)).toInt ≤ 122)))), (300 - (Gi g 355 11).toInt) * 1 + 0 < (n : Int) → LW 200 (d + 5) 0 0 161 [some (.ref 355), some (.int x1), o2] [] g (fun v g' => v = none ∧ InvR P g' ∧ Gr g' = Gr g0 ∧ vSm vsa g' g0 ∧ ((Gi g0 355 11).toInt ≤ (Gi g' 355 12).toInt) ∧ (0 ≤ (Gi g' 355 12).toInt) ∧ ((Gi g' 355 12).toInt ≤ (Gi g' 355 11).toInt) ∧ ((Gi g' 355 11).toInt ≤ (Gi g' 355 8).toInt) ∧ ((Gi g' 355 8).toInt ≤ 300) ∧ ((Gi g' 355 13).toInt = 0 ∨ (Gi g' 355 12).toInt < (Gi g' 355 11).toInt))) (ih346 : ∀ (g : LH) (V : InvR P g) (hG : Gr g = Gr g0) (hF : vSm vsa g g0) (x1 : Int32) (y1 : Int) (hx1 : x1.toInt = y1) (hf1 : 0 ≤ y1 ∧ y1 ≤ 255) (x2 : Int32) (y2 : Int) (hx2 : x2.toInt = y2) (hf2 : 0 ≤ y2 ∧ y2 ≤ 1) (hq0 : 0 ≤ (Gi g 355 12).toInt) (hq1 : (Gi g 355 12).toInt < (Gi g 355 11).toInt) (hq2 : (Gi g 355 11).toInt ≤ (Gi g 355 8).toInt) (hq3 : (Gi g 355 8).toInt ≤ 300) (hq4 : (Gi g0 355 11).toInt ≤ (Gi g 355 12).toInt), 0 < (n : Int) → LW 200 (d + 5) 0 0 346 [some (.ref 355), some (.int x1), some (.int x2)] [] g (fun v g' => v = none ∧ InvR P g' ∧ Gr g' = Gr g0 ∧ vSm vsa g' g0 ∧ ((Gi g0 355 11).toInt ≤ (Gi g' 355 12).toInt) ∧ (0 ≤ (Gi g' 355 12).toInt) ∧ ((Gi g' 355 12).toInt ≤ (Gi g' 355 11).toInt) ∧ ((Gi g' 355 11).toInt ≤ (Gi g' 355 8).toInt) ∧ ((Gi g' 355 8).toInt ≤ 300) ∧ ((Gi g' 355 13).toInt = 0 ∨ (Gi g' 355 12).toInt < (Gi g' 355 11).toInt))) : LW 200 (d + 5) 0 0 85 [some (.ref 355), some (.int x1), o2] [] g (fun v g' => v = none ∧ InvR P g' ∧ Gr g' = Gr g0 ∧ vSm vsa g' g0 ∧ ((Gi g0 355 11).toInt ≤ (Gi g' 355 12).toInt) ∧ (0 ≤ (Gi g' 355 12).toInt) ∧ ((Gi g' 355 12).toInt ≤ (Gi g' 355 11).toInt) ∧ ((Gi g' 355 11).toInt ≤ (Gi g' 355 8).toInt) ∧ ((Gi g' 355 8).toInt ≤ 300) ∧ ((Gi g' 355 13).toInt = 0 ∨ (Gi g' 355 12).toInt < (Gi g' 355 11).toInt)) := by
  obtain ⟨vz1, evz1⟩ : ∃ z, Gi g 355 12 = z := ⟨_, rfl⟩
  rw [evz1] at hq0
  rw [evz1] at hq1
  obtain ⟨vz2, evz2⟩ : ∃ z, Gi g 355 11 = z := ⟨_, rfl⟩
  rw [evz2] at hq1
  rw [evz2] at hq2
  obtain ⟨vz3, evz3⟩ : ∃ z, Gi g 355 8 = z := ⟨_, rfl⟩
  have vf4 := O_355_8 (V.2.2.2.2.2.2.1 355 (8) (Nat.le_of_ble_eq_true rfl))
  rw [evz3] at vf4
  rw [evz3] at hq2
  rw [evz3] at hq3
  rw [evz1] at hq4
  obtain ⟨vz5, evz5⟩ : ∃ z, Gi g 355 13 = z := ⟨_, rfl⟩
  rw [evz5] at hq5
  rw [evz1] at hq6
  rw [evz2] at hq6
  rw [evz3] at hq6
  rw [evz2] at hmu
  refine X_aload_n rfl rfl rfl rfl ?_
  refine X_aload_n rfl rfl rfl rfl ?_
  refine X_getI (v := vz2) rfl rfl rfl ((congrFun V.1 355).trans s_355) rfl evz2 ?_
  refine X_callV (as := [.int vz2]) (st := []) rfl rfl rfl (by decide) rfl (Nat.le_of_ble_eq_true rfl) (by decide) (Nat.le_of_ble_eq_true rfl) rfl ((congrFun V.1 355).trans s_355) (by decide) ?_
  refine LW_ls (ls' := [some (.ref 355), some (.int vz2)]) rfl ?_
  refine X_iload_n rfl rfl rfl rfl ?_
  refine X_aload_n rfl rfl rfl rfl ?_
  refine X_getI (v := vz3) rfl rfl rfl ((congrFun V.1 355).trans s_355) rfl evz3 ?_
  refine S_icmp_ge (tgt := 17) rfl rfl rfl rfl rfl (fun vh6 => ?_) (fun vh6 => ?_)
  · refine X_iconst (v := (-1 : Int32)) rfl rfl rfl ?_
    refine LW_ireturn (st := []) rfl rfl rfl ?_
    refine X_callS (as := [.int (-1 : Int32)]) (st := []) rfl rfl rfl (by decide) rfl (Nat.le_of_ble_eq_true rfl) (by decide) (Nat.le_of_ble_eq_true rfl) rfl ?_
    refine LW_ls (ls' := [some (.int (-1 : Int32))]) rfl ?_
    refine X_iload_n rfl rfl rfl rfl ?_
    refine X_bipush (v := (48 : Int32)) rfl rfl rfl ?_
    refine X_bipush (v := (57 : Int32)) rfl rfl rfl ?_
    refine X_callS (as := [.int (-1 : Int32), .int (48 : Int32), .int (57 : Int32)]) (st := []) rfl rfl rfl (by decide) rfl (Nat.le_of_ble_eq_true rfl) (by decide) (Nat.le_of_ble_eq_true rfl) rfl ?_
    refine LW_ls (ls' := [some (.int (-1 : Int32)), some (.int (48 : Int32)), some (.int (57 : Int32))]) rfl ?_
    refine X_iload_n rfl rfl rfl rfl ?_
    refine X_iload_n rfl rfl rfl rfl ?_
    refine S_icmp_lt (tgt := 14) rfl rfl rfl (show (-1 : Int32).toInt = -1 from rfl) (show (48 : Int32).toInt = 48 from rfl) (fun vh7 => ?_) (fun q => absurd q (by omega))
    refine X_iconst (v := (0 : Int32)) rfl rfl rfl ?_
    refine LW_ireturn (st := []) rfl rfl rfl ?_
    refine LW_ireturn (st := []) rfl rfl rfl ?_
    refine S_if_eq (tgt := 396) rfl rfl rfl (show (0 : Int32).toInt = 0 from rfl) (fun vh8 => ?_) (fun q => absurd q (by omega))
    exact LW_return (st := []) rfl rfl ⟨rfl, V, hG, hF, (by rw [evz1] <;> omega), (by rw [evz1] <;> omega), (by rw [evz1, evz2] <;> omega), (by rw [evz2, evz3] <;> omega), (by rw [evz3] <;> omega), (by rw [evz5, evz1, evz2] <;> omega)⟩
  · refine X_aload_n rfl rfl rfl rfl ?_
    refine X_getR (a := 361) rfl rfl rfl ((congrFun V.1 355).trans s_355) rfl ((congrFun (V.2.1 355 (by decide)) 7).trans r_355_7) ?_
    refine X_iload_n rfl rfl rfl rfl ?_
    refine S_iald rfl rfl ((congrFun V.1 361).trans s_361) rfl (by omega) (fun vz9 evz9 => ?_)
    have vf10 := O_361 (V.2.2.2.2.2.2.1 361 ((vz2.toInt : Int).toNat) (Nat.le_of_ble_eq_true rfl))
    rw [evz9] at vf10
    (try rw [evz9] at hq6)
    refine LW_goto (tgt := 18) rfl rfl ?_
    refine LW_ireturn (st := []) rfl rfl rfl ?_
    refine X_callS (as := [.int vz9]) (st := []) rfl rfl rfl (by decide) rfl (Nat.le_of_ble_eq_true rfl) (by decide) (Nat.le_of_ble_eq_true rfl) rfl ?_
    refine LW_ls (ls' := [some (.int vz9)]) rfl ?_
    refine X_iload_n rfl rfl rfl rfl ?_
    refine X_bipush (v := (48 : Int32)) rfl rfl rfl ?_
    refine X_bipush (v := (57 : Int32)) rfl rfl rfl ?_
    refine X_callS (as := [.int vz9, .int (48 : Int32), .int (57 : Int32)]) (st := []) rfl rfl rfl (by decide) rfl (Nat.le_of_ble_eq_true rfl) (by decide) (Nat.le_of_ble_eq_true rfl) rfl ?_
    refine LW_ls (ls' := [some (.int vz9), some (.int (48 : Int32)), some (.int (57 : Int32))]) rfl ?_
    refine X_iload_n rfl rfl rfl rfl ?_
    refine X_iload_n rfl rfl rfl rfl ?_
    refine S_icmp_lt (tgt := 14) rfl rfl rfl rfl (show (48 : Int32).toInt = 48 from rfl) (fun vh11 => ?_) (fun vh11 => ?_)
    · refine X_iconst (v := (0 : Int32)) rfl rfl rfl ?_
      refine LW_ireturn (st := []) rfl rfl rfl ?_
      refine LW_ireturn (st := []) rfl rfl rfl ?_
      refine S_if_eq (tgt := 396) rfl rfl rfl (show (0 : Int32).toInt = 0 from rfl) (fun vh12 => ?_) (fun q => absurd q (by omega))
      exact LW_return (st := []) rfl rfl ⟨rfl, V, hG, hF, (by rw [evz1] <;> omega), (by rw [evz1] <;> omega), (by rw [evz1, evz2] <;> omega), (by rw [evz2, evz3] <;> omega), (by rw [evz3] <;> omega), (by rw [evz5, evz1, evz2] <;> omega)⟩
    · refine X_iload_n rfl rfl rfl rfl ?_
      refine X_iload_n rfl rfl rfl rfl ?_
      refine S_icmp_gt (tgt := 14) rfl rfl rfl rfl (show (57 : Int32).toInt = 57 from rfl) (fun vh13 => ?_) (fun vh13 => ?_)
      · refine X_iconst (v := (0 : Int32)) rfl rfl rfl ?_
        refine LW_ireturn (st := []) rfl rfl rfl ?_
        refine LW_ireturn (st := []) rfl rfl rfl ?_
        refine S_if_eq (tgt := 396) rfl rfl rfl (show (0 : Int32).toInt = 0 from rfl) (fun vh14 => ?_) (fun q => absurd q (by omega))
        exact LW_return (st := []) rfl rfl ⟨rfl, V, hG, hF, (by rw [evz1] <;> omega), (by rw [evz1] <;> omega), (by rw [evz1, evz2] <;> omega), (by rw [evz2, evz3] <;> omega), (by rw [evz3] <;> omega), (by rw [evz5, evz1, evz2] <;> omega)⟩
      · refine X_iconst (v := (1 : Int32)) rfl rfl rfl ?_
        refine LW_goto (tgt := 15) rfl rfl ?_
        refine LW_ireturn (st := []) rfl rfl rfl ?_
        refine LW_ireturn (st := []) rfl rfl rfl ?_
        refine S_if_eq (tgt := 396) rfl rfl rfl (show (1 : Int32).toInt = 1 from rfl) (fun q => absurd q (by omega)) (fun vh15 => ?_)
        refine X_aload_n rfl rfl rfl rfl ?_
        refine S_getI rfl rfl rfl ((congrFun V.1 355).trans s_355) rfl (fun vz16 evz16 => ?_)
        refine X_ldc (v := (100000 : Int32)) rfl rfl rfl ?_
        refine S_icmp_ge (tgt := 131) rfl rfl rfl rfl (show (100000 : Int32).toInt = 100000 from rfl) (fun vh17 => ?_) (fun vh17 => ?_)
        · refine X_aload_n rfl rfl rfl rfl ?_
          refine X_dup rfl rfl rfl ?_
          refine X_getI (v := vz2) rfl rfl rfl ((congrFun V.1 355).trans s_355) rfl evz2 ?_
          refine X_iconst (v := (1 : Int32)) rfl rfl rfl ?_
          refine S_iadd rfl rfl rfl (show (1 : Int32).toInt = 1 from rfl) (by omega) (fun vz18 hvz18 => ?_)
          refine S_putI (I := InvR _) rfl rfl rfl ((congrFun V.1 355).trans s_355) rfl rfl rfl rfl (InvR_putO V (by decide) trivial) (fun g V ve19 vn20 hq => ?_)
          have hG := hq.trans hG
          have hF := vSm.putN hF vn20 (by decide)
          have evz1 := (vn20 (355) 12 (Or.inr (by decide))).trans evz1
          have evz3 := (vn20 (355) 8 (Or.inr (by decide))).trans evz3
          have evz5 := (vn20 (355) 13 (Or.inr (by decide))).trans evz5
          have evz9 := (vn20 (361) ((vz2.toInt : Int).toNat) (Or.inl (by decide))).trans evz9
          have evz16 := (vn20 (355) 14 (Or.inr (by decide))).trans evz16
          refine LW_goto (tgt := 85) rfl rfl ?_
          exact ih85 _ V hG hF x1 y1 hx1 (by omega) o2  (by rw [evz1] <;> omega) (by rw [evz1, ve19] <;> omega) (by rw [ve19, evz3] <;> omega) (by rw [evz3] <;> omega) (by rw [evz1] <;> omega) (by rw [evz5] <;> omega) (by rw [evz1, ve19, evz3]; exact (by
                omega))  (by rw [ve19] <;> omega)
        · refine X_aload_n rfl rfl rfl rfl ?_
          refine X_bipush (v := (10 : Int32)) rfl rfl rfl ?_
          refine X_aload_n rfl rfl rfl rfl ?_
          refine X_getI (v := vz16) rfl rfl rfl ((congrFun V.1 355).trans s_355) rfl evz16 ?_
          refine S_imulT rfl rfl (fun vz21 => ?_)
          refine X_aload_n rfl rfl rfl rfl ?_
          refine X_aload_n rfl rfl rfl rfl ?_
          refine X_getI (v := vz2) rfl rfl rfl ((congrFun V.1 355).trans s_355) rfl evz2 ?_
          refine X_callV (as := [.int vz2]) (st := [.int vz21, .ref 355]) rfl rfl rfl (by decide) rfl (Nat.le_of_ble_eq_true rfl) (by decide) (Nat.le_of_ble_eq_true rfl) rfl ((congrFun V.1 355).trans s_355) (by decide) ?_
          refine LW_ls (ls' := [some (.ref 355), some (.int vz2)]) rfl ?_
          refine X_iload_n rfl rfl rfl rfl ?_
          refine X_aload_n rfl rfl rfl rfl ?_
          refine X_getI (v := vz3) rfl rfl rfl ((congrFun V.1 355).trans s_355) rfl evz3 ?_
          refine S_icmp_ge (tgt := 17) rfl rfl rfl rfl rfl (fun vh22 => ?_) (fun vh22 => ?_)
          · refine X_iconst (v := (-1 : Int32)) rfl rfl rfl ?_
            refine LW_ireturn (st := []) rfl rfl rfl ?_
            refine S_iaddT rfl rfl (fun vz23 => ?_)
            refine X_bipush (v := (48 : Int32)) rfl rfl rfl ?_
            refine S_isubT rfl rfl (fun vz24 => ?_)
            refine S_putI (I := InvR _) rfl rfl rfl ((congrFun V.1 355).trans s_355) rfl rfl rfl rfl (InvR_putO V (by decide) trivial) (fun g V ve25 vn26 hq => ?_)
            have hG := hq.trans hG
            have hF := vSm.putN hF vn26 (by decide)
            have evz1 := (vn26 (355) 12 (Or.inr (by decide))).trans evz1
            have evz2 := (vn26 (355) 11 (Or.inr (by decide))).trans evz2
            have evz3 := (vn26 (355) 8 (Or.inr (by decide))).trans evz3
            have evz5 := (vn26 (355) 13 (Or.inr (by decide))).trans evz5
            have evz9 := (vn26 (361) ((vz2.toInt : Int).toNat) (Or.inl (by decide))).trans evz9
            refine X_aload_n rfl rfl rfl rfl ?_
            refine X_dup rfl rfl rfl ?_
            refine X_getI (v := vz2) rfl rfl rfl ((congrFun V.1 355).trans s_355) rfl evz2 ?_
            refine X_iconst (v := (1 : Int32)) rfl rfl rfl ?_
            refine S_iadd rfl rfl rfl (show (1 : Int32).toInt = 1 from rfl) (by omega) (fun vz27 hvz27 => ?_)
            refine S_putI (I := InvR _) rfl rfl rfl ((congrFun V.1 355).trans s_355) rfl rfl rfl rfl (InvR_putO V (by decide) trivial) (fun g V ve28 vn29 hq => ?_)
            have hG := hq.trans hG
            have hF := vSm.putN hF vn29 (by decide)
            have evz1 := (vn29 (355) 12 (Or.inr (by decide))).trans evz1
            have evz3 := (vn29 (355) 8 (Or.inr (by decide))).trans evz3
            have evz5 := (vn29 (355) 13 (Or.inr (by decide))).trans evz5
            have evz9 := (vn29 (361) ((vz2.toInt : Int).toNat) (Or.inl (by decide))).trans evz9
            have ve25 := (vn29 (355) 14 (Or.inr (by decide))).trans ve25
            refine LW_goto (tgt := 85) rfl rfl ?_
            exact ih85 _ V hG hF x1 y1 hx1 (by omega) o2  (by rw [evz1] <;> omega) (by rw [evz1, ve28] <;> omega) (by rw [ve28, evz3] <;> omega) (by rw [evz3] <;> omega) (by rw [evz1] <;> omega) (by rw [evz5] <;> omega) (by rw [evz1, ve28, evz3]; exact (by
                  omega))  (by rw [ve28] <;> omega)
          · refine X_aload_n rfl rfl rfl rfl ?_
            refine X_getR (a := 361) rfl rfl rfl ((congrFun V.1 355).trans s_355) rfl ((congrFun (V.2.1 355 (by decide)) 7).trans r_355_7) ?_
            refine X_iload_n rfl rfl rfl rfl ?_
            refine S_iald_v rfl rfl ((congrFun V.1 361).trans s_361) rfl (by omega) evz9 ?_
            refine LW_goto (tgt := 18) rfl rfl ?_
            refine LW_ireturn (st := []) rfl rfl rfl ?_
            refine S_iaddT rfl rfl (fun vz31 => ?_)
            refine X_bipush (v := (48 : Int32)) rfl rfl rfl ?_
            refine S_isubT rfl rfl (fun vz32 => ?_)
            refine S_putI (I := InvR _) rfl rfl rfl ((congrFun V.1 355).trans s_355) rfl rfl rfl rfl (InvR_putO V (by decide) trivial) (fun g V ve33 vn34 hq => ?_)
            have hG := hq.trans hG
            have hF := vSm.putN hF vn34 (by decide)
            have evz1 := (vn34 (355) 12 (Or.inr (by decide))).trans evz1
            have evz2 := (vn34 (355) 11 (Or.inr (by decide))).trans evz2
            have evz3 := (vn34 (355) 8 (Or.inr (by decide))).trans evz3
            have evz5 := (vn34 (355) 13 (Or.inr (by decide))).trans evz5
            have evz9 := (vn34 (361) ((vz2.toInt : Int).toNat) (Or.inl (by decide))).trans evz9
            refine X_aload_n rfl rfl rfl rfl ?_
            refine X_dup rfl rfl rfl ?_
            refine X_getI (v := vz2) rfl rfl rfl ((congrFun V.1 355).trans s_355) rfl evz2 ?_
            refine X_iconst (v := (1 : Int32)) rfl rfl rfl ?_
            refine S_iadd rfl rfl rfl (show (1 : Int32).toInt = 1 from rfl) (by omega) (fun vz35 hvz35 => ?_)
            refine S_putI (I := InvR _) rfl rfl rfl ((congrFun V.1 355).trans s_355) rfl rfl rfl rfl (InvR_putO V (by decide) trivial) (fun g V ve36 vn37 hq => ?_)
            have hG := hq.trans hG
            have hF := vSm.putN hF vn37 (by decide)
            have evz1 := (vn37 (355) 12 (Or.inr (by decide))).trans evz1
            have evz3 := (vn37 (355) 8 (Or.inr (by decide))).trans evz3
            have evz5 := (vn37 (355) 13 (Or.inr (by decide))).trans evz5
            have evz9 := (vn37 (361) ((vz2.toInt : Int).toNat) (Or.inl (by decide))).trans evz9
            have ve33 := (vn37 (355) 14 (Or.inr (by decide))).trans ve33
            refine LW_goto (tgt := 85) rfl rfl ?_
            exact ih85 _ V hG hF x1 y1 hx1 (by omega) o2  (by rw [evz1] <;> omega) (by rw [evz1, ve36] <;> omega) (by rw [ve36, evz3] <;> omega) (by rw [evz3] <;> omega) (by rw [evz1] <;> omega) (by rw [evz5] <;> omega) (by rw [evz1, ve36, evz3]; exact (by
                  omega))  (by rw [ve36] <;> omega)
set_option maxRecDepth 10000 in
set_option maxHeartbeats 40000000 in
theorem C_X13_nextToken_161 {P : Par} {g g0 : LH} {d n : Nat}  (V : InvR P g) (hG : Gr g = Gr g0) (hF : vSm vsa g g0) (x1 : Int32) (y1 : Int) (hx1 : x1.toInt = y1) (hf1 : 65 ≤ y1 ∧ y1 ≤ 122) (o2 : Option Value) (hq0 : 0 ≤ (Gi g 355 12).toInt) (hq1 : (Gi g 355 12).toInt ≤ (Gi g 355 11).toInt) (hq2 : (Gi g 355 11).toInt ≤ (Gi g 355 8).toInt) (hq3 : (Gi g 355 8).toInt ≤ 300) (hq4 : (Gi g0 355 11).toInt ≤ (Gi g 355 12).toInt) (hq5 : (Gi g 355 13).toInt = 2) (hq6 : (Gi g 355 12).toInt < (Gi g 355 11).toInt ∨ ((Gi g 355 11).toInt < (Gi g 355 8).toInt ∧ ((65 ≤ (Gi g 361 (Int.toNat (Gi g 355 11).toInt)).toInt ∧ (Gi g 361 (Int.toNat (Gi g 355 11).toInt)).toInt ≤ 90) ∨ (97 ≤ (Gi g 361 (Int.toNat (Gi g 355 11).toInt)).toInt ∧ (Gi g 361 (Int.toNat (Gi g 355 11).toInt)).toInt ≤ 122)))) (hmu : (300 - (Gi g 355 11).toInt) * 1 + 0 < (n : Int) + 1) (ih0 : ∀ (g : LH) (V : InvR P g) (hG : Gr g = Gr g0) (hF : vSm vsa g g0) (o1 : Option Value) (o2 : Option Value) (hq0 : 0 ≤ (Gi g 355 11).toInt) (hq1 : (Gi g 355 11).toInt ≤ (Gi g 355 8).toInt) (hq2 : (Gi g 355 8).toInt ≤ 300) (hq3 : (Gi g0 355 11).toInt ≤ (Gi g 355 11).toInt), (300 - (Gi g 355 11).toInt) * 1 + 604 < (n : Int) → LW 200 (d + 5) 0 0 0 [some (.ref 355), o1, o2] [] g (fun v g' => v = none ∧ InvR P g' ∧ Gr g' = Gr g0 ∧ vSm vsa g' g0 ∧ ((Gi g0 355 11).toInt ≤ (Gi g' 355 12).toInt) ∧ (0 ≤ (Gi g' 355 12).toInt) ∧ ((Gi g' 355 12).toInt ≤ (Gi g' 355 11).toInt) ∧ ((Gi g' 355 11).toInt ≤ (Gi g' 355 8).toInt) ∧ ((Gi g' 355 8).toInt ≤ 300) ∧ ((Gi g' 355 13).toInt = 0 ∨ (Gi g' 355 12).toInt < (Gi g' 355 11).toInt))) (ih39 : ∀ (g : LH) (V : InvR P g) (hG : Gr g = Gr g0) (hF : vSm vsa g g0) (o1 : Option Value) (o2 : Option Value) (hq0 : 0 ≤ (Gi g 355 11).toInt) (hq1 : (Gi g 355 11).toInt ≤ (Gi g 355 8).toInt) (hq2 : (Gi g 355 8).toInt ≤ 300) (hq3 : (Gi g0 355 11).toInt ≤ (Gi g 355 11).toInt), 603 < (n : Int) → LW 200 (d + 5) 0 0 39 [some (.ref 355), o1, o2] [] g (fun v g' => v = none ∧ InvR P g' ∧ Gr g' = Gr g0 ∧ vSm vsa g' g0 ∧ ((Gi g0 355 11).toInt ≤ (Gi g' 355 12).toInt) ∧ (0 ≤ (Gi g' 355 12).toInt) ∧ ((Gi g' 355 12).toInt ≤ (Gi g' 355 11).toInt) ∧ ((Gi g' 355 11).toInt ≤ (Gi g' 355 8).toInt) ∧ ((Gi g' 355 8).toInt ≤ 300) ∧ ((Gi g' 355 13).toInt = 0 ∨ (Gi g' 355 12).toInt < (Gi g' 355 11).toInt))) (ih85 : ∀ (g : LH) (V : InvR P g) (hG : Gr g = Gr g0) (hF : vSm vsa g g0) (x1 : Int32) (y1 : Int) (hx1 : x1.toInt = y1) (hf1 : 48 ≤ y1 ∧ y1 ≤ 57) (o2 : Option Value) (hq0 : 0 ≤ (Gi g 355 12).toInt) (hq1 : (Gi g 355 12).toInt ≤ (Gi g 355 11).toInt) (hq2 : (Gi g 355 11).toInt ≤ (Gi g 355 8).toInt) (hq3 : (Gi g 355 8).toInt ≤ 300) (hq4 : (Gi g0 355 11).toInt ≤ (Gi g 355 12).toInt) (hq5 : (Gi g 355 13).toInt = 1) (hq6 : (Gi g 355 12).toInt < (Gi g 355 11).toInt ∨ ((Gi g 355 11).toInt < (Gi g 355 8).toInt ∧ 48 ≤ (Gi g 361 (Int.toNat (Gi g 355 11).toInt)).toInt ∧ (Gi g 361 (Int.toNat (Gi g 355 11).toInt)).toInt ≤ 57)), (300 - (Gi g 355 11).toInt) * 1 + 302 < (n : Int) → LW 200 (d + 5) 0 0 85 [some (.ref 355), some (.int x1), o2] [] g (fun v g' => v = none ∧ InvR P g' ∧ Gr g' = Gr g0 ∧ vSm vsa g' g0 ∧ ((Gi g0 355 11).toInt ≤ (Gi g' 355 12).toInt) ∧ (0 ≤ (Gi g' 355 12).toInt) ∧ ((Gi g' 355 12).toInt ≤ (Gi g' 355 11).toInt) ∧ ((Gi g' 355 11).toInt ≤ (Gi g' 355 8).toInt) ∧ ((Gi g' 355 8).toInt ≤ 300) ∧ ((Gi g' 355 13).toInt = 0 ∨ (Gi g' 355 12).toInt < (Gi g' 355 11).toInt))) (ih161 : ∀ (g : LH) (V : InvR P g) (hG : Gr g = Gr g0) (hF : vSm vsa g g0) (x1 : Int32) (y1 : Int) (hx1 : x1.toInt = y1) (hf1 : 65 ≤ y1 ∧ y1 ≤ 122) (o2 : Option Value) (hq0 : 0 ≤ (Gi g 355 12).toInt) (hq1 : (Gi g 355 12).toInt ≤ (Gi g 355 11).toInt) (hq2 : (Gi g 355 11).toInt ≤ (Gi g 355 8).toInt) (hq3 : (Gi g 355 8).toInt ≤ 300) (hq4 : (Gi g0 355 11).toInt ≤ (Gi g 355 12).toInt) (hq5 : (Gi g 355 13).toInt = 2) (hq6 : (Gi g 355 12).toInt < (Gi g 355 11).toInt ∨ ((Gi g 355 11).toInt < (Gi g 355 8).toInt ∧ ((65 ≤ (Gi g 361 (Int.toNat (Gi g 355 11).toInt)).toInt ∧ (Gi g 361 (Int.toNat (Gi g 355 11).toInt)).toInt ≤ 90) ∨ (97 ≤ (Gi g 361 (Int.toNat (Gi g 355 11).toInt)).toInt ∧ (Gi g 361 (Int.toNat (Gi g 355 11).toInt)).toInt ≤ 122)))), (300 - (Gi g 355 11).toInt) * 1 + 0 < (n : Int) → LW 200 (d + 5) 0 0 161 [some (.ref 355), some (.int x1), o2] [] g (fun v g' => v = none ∧ InvR P g' ∧ Gr g' = Gr g0 ∧ vSm vsa g' g0 ∧ ((Gi g0 355 11).toInt ≤ (Gi g' 355 12).toInt) ∧ (0 ≤ (Gi g' 355 12).toInt) ∧ ((Gi g' 355 12).toInt ≤ (Gi g' 355 11).toInt) ∧ ((Gi g' 355 11).toInt ≤ (Gi g' 355 8).toInt) ∧ ((Gi g' 355 8).toInt ≤ 300) ∧ ((Gi g' 355 13).toInt = 0 ∨ (Gi g' 355 12).toInt < (Gi g' 355 11).toInt))) (ih346 : ∀ (g : LH) (V : InvR P g) (hG : Gr g = Gr g0) (hF : vSm vsa g g0) (x1 : Int32) (y1 : Int) (hx1 : x1.toInt = y1) (hf1 : 0 ≤ y1 ∧ y1 ≤ 255) (x2 : Int32) (y2 : Int) (hx2 : x2.toInt = y2) (hf2 : 0 ≤ y2 ∧ y2 ≤ 1) (hq0 : 0 ≤ (Gi g 355 12).toInt) (hq1 : (Gi g 355 12).toInt < (Gi g 355 11).toInt) (hq2 : (Gi g 355 11).toInt ≤ (Gi g 355 8).toInt) (hq3 : (Gi g 355 8).toInt ≤ 300) (hq4 : (Gi g0 355 11).toInt ≤ (Gi g 355 12).toInt), 0 < (n : Int) → LW 200 (d + 5) 0 0 346 [some (.ref 355), some (.int x1), some (.int x2)] [] g (fun v g' => v = none ∧ InvR P g' ∧ Gr g' = Gr g0 ∧ vSm vsa g' g0 ∧ ((Gi g0 355 11).toInt ≤ (Gi g' 355 12).toInt) ∧ (0 ≤ (Gi g' 355 12).toInt) ∧ ((Gi g' 355 12).toInt ≤ (Gi g' 355 11).toInt) ∧ ((Gi g' 355 11).toInt ≤ (Gi g' 355 8).toInt) ∧ ((Gi g' 355 8).toInt ≤ 300) ∧ ((Gi g' 355 13).toInt = 0 ∨ (Gi g' 355 12).toInt < (Gi g' 355 11).toInt))) : LW 200 (d + 5) 0 0 161 [some (.ref 355), some (.int x1), o2] [] g (fun v g' => v = none ∧ InvR P g' ∧ Gr g' = Gr g0 ∧ vSm vsa g' g0 ∧ ((Gi g0 355 11).toInt ≤ (Gi g' 355 12).toInt) ∧ (0 ≤ (Gi g' 355 12).toInt) ∧ ((Gi g' 355 12).toInt ≤ (Gi g' 355 11).toInt) ∧ ((Gi g' 355 11).toInt ≤ (Gi g' 355 8).toInt) ∧ ((Gi g' 355 8).toInt ≤ 300) ∧ ((Gi g' 355 13).toInt = 0 ∨ (Gi g' 355 12).toInt < (Gi g' 355 11).toInt)) := by
  obtain ⟨vz1, evz1⟩ : ∃ z, Gi g 355 12 = z := ⟨_, rfl⟩
  rw [evz1] at hq0
  rw [evz1] at hq1
  obtain ⟨vz2, evz2⟩ : ∃ z, Gi g 355 11 = z := ⟨_, rfl⟩
  rw [evz2] at hq1
  rw [evz2] at hq2
  obtain ⟨vz3, evz3⟩ : ∃ z, Gi g 355 8 = z := ⟨_, rfl⟩
  have vf4 := O_355_8 (V.2.2.2.2.2.2.1 355 (8) (Nat.le_of_ble_eq_true rfl))
  rw [evz3] at vf4
  rw [evz3] at hq2
  rw [evz3] at hq3
  rw [evz1] at hq4
  obtain ⟨vz5, evz5⟩ : ∃ z, Gi g 355 13 = z := ⟨_, rfl⟩
  rw [evz5] at hq5
  rw [evz1] at hq6
  rw [evz2] at hq6
  rw [evz3] at hq6
  rw [evz2] at hmu
  refine X_aload_n rfl rfl rfl rfl ?_
  refine X_aload_n rfl rfl rfl rfl ?_
  refine X_getI (v := vz2) rfl rfl rfl ((congrFun V.1 355).trans s_355) rfl evz2 ?_
  refine X_callV (as := [.int vz2]) (st := []) rfl rfl rfl (by decide) rfl (Nat.le_of_ble_eq_true rfl) (by decide) (Nat.le_of_ble_eq_true rfl) rfl ((congrFun V.1 355).trans s_355) (by decide) ?_
  refine LW_ls (ls' := [some (.ref 355), some (.int vz2)]) rfl ?_
  refine X_iload_n rfl rfl rfl rfl ?_
  refine X_aload_n rfl rfl rfl rfl ?_
  refine X_getI (v := vz3) rfl rfl rfl ((congrFun V.1 355).trans s_355) rfl evz3 ?_
  refine S_icmp_ge (tgt := 17) rfl rfl rfl rfl rfl (fun vh6 => ?_) (fun vh6 => ?_)
  · refine X_iconst (v := (-1 : Int32)) rfl rfl rfl ?_
    refine LW_ireturn (st := []) rfl rfl rfl ?_
    refine X_callS (as := [.int (-1 : Int32)]) (st := []) rfl rfl rfl (by decide) rfl (Nat.le_of_ble_eq_true rfl) (by decide) (Nat.le_of_ble_eq_true rfl) rfl ?_
    refine LW_ls (ls' := [some (.int (-1 : Int32))]) rfl ?_
    refine X_iload_n rfl rfl rfl rfl ?_
    refine X_bipush (v := (97 : Int32)) rfl rfl rfl ?_
    refine X_bipush (v := (122 : Int32)) rfl rfl rfl ?_
    refine X_callS (as := [.int (-1 : Int32), .int (97 : Int32), .int (122 : Int32)]) (st := []) rfl rfl rfl (by decide) rfl (Nat.le_of_ble_eq_true rfl) (by decide) (Nat.le_of_ble_eq_true rfl) rfl ?_
    refine LW_ls (ls' := [some (.int (-1 : Int32)), some (.int (97 : Int32)), some (.int (122 : Int32))]) rfl ?_
    refine X_iload_n rfl rfl rfl rfl ?_
    refine X_iload_n rfl rfl rfl rfl ?_
    refine S_icmp_lt (tgt := 14) rfl rfl rfl (show (-1 : Int32).toInt = -1 from rfl) (show (97 : Int32).toInt = 97 from rfl) (fun vh7 => ?_) (fun q => absurd q (by omega))
    refine X_iconst (v := (0 : Int32)) rfl rfl rfl ?_
    refine LW_ireturn (st := []) rfl rfl rfl ?_
    refine S_if_ne (tgt := 22) rfl rfl rfl (show (0 : Int32).toInt = 0 from rfl) (fun q => absurd q (by omega)) (fun vh8 => ?_)
    refine X_iload_n rfl rfl rfl rfl ?_
    refine X_bipush (v := (65 : Int32)) rfl rfl rfl ?_
    refine X_bipush (v := (90 : Int32)) rfl rfl rfl ?_
    refine X_callS (as := [.int (-1 : Int32), .int (65 : Int32), .int (90 : Int32)]) (st := []) rfl rfl rfl (by decide) rfl (Nat.le_of_ble_eq_true rfl) (by decide) (Nat.le_of_ble_eq_true rfl) rfl ?_
    refine LW_ls (ls' := [some (.int (-1 : Int32)), some (.int (65 : Int32)), some (.int (90 : Int32))]) rfl ?_
    refine X_iload_n rfl rfl rfl rfl ?_
    refine X_iload_n rfl rfl rfl rfl ?_
    refine S_icmp_lt (tgt := 14) rfl rfl rfl (show (-1 : Int32).toInt = -1 from rfl) (show (65 : Int32).toInt = 65 from rfl) (fun vh9 => ?_) (fun q => absurd q (by omega))
    refine X_iconst (v := (0 : Int32)) rfl rfl rfl ?_
    refine LW_ireturn (st := []) rfl rfl rfl ?_
    refine S_if_eq (tgt := 26) rfl rfl rfl (show (0 : Int32).toInt = 0 from rfl) (fun vh10 => ?_) (fun q => absurd q (by omega))
    refine X_iconst (v := (0 : Int32)) rfl rfl rfl ?_
    refine LW_ireturn (st := []) rfl rfl rfl ?_
    refine S_if_eq (tgt := 223) rfl rfl rfl (show (0 : Int32).toInt = 0 from rfl) (fun vh11 => ?_) (fun q => absurd q (by omega))
    refine X_aload_n rfl rfl rfl rfl ?_
    refine X_getI (v := vz2) rfl rfl rfl ((congrFun V.1 355).trans s_355) rfl evz2 ?_
    refine X_aload_n rfl rfl rfl rfl ?_
    refine X_getI (v := vz1) rfl rfl rfl ((congrFun V.1 355).trans s_355) rfl evz1 ?_
    refine S_isub rfl rfl rfl rfl (by omega) (fun vz12 hvz12 => ?_)
    refine X_bipush (v := (7 : Int32)) rfl rfl rfl ?_
    refine S_icmp_le (tgt := 396) rfl rfl rfl rfl (show (7 : Int32).toInt = 7 from rfl) (fun vh13 => ?_) (fun vh13 => ?_)
    · exact LW_return (st := []) rfl rfl ⟨rfl, V, hG, hF, (by rw [evz1] <;> omega), (by rw [evz1] <;> omega), (by rw [evz1, evz2] <;> omega), (by rw [evz2, evz3] <;> omega), (by rw [evz3] <;> omega), (by rw [evz5, evz1, evz2] <;> omega)⟩
    · refine X_aload_n rfl rfl rfl rfl ?_
      refine X_lconst (v := (0 : Int64)) rfl rfl rfl ?_
      refine S_putJ (I := InvR _) rfl rfl rfl ((congrFun V.1 355).trans s_355) rfl rfl rfl rfl (fun _ => V) (fun g V vn14 hq => ?_)
      have hG := hq.trans hG
      have hF := vSm.all hF vn14
      have evz1 := (vn14 (355) 12).trans evz1
      have evz2 := (vn14 (355) 11).trans evz2
      have evz3 := (vn14 (355) 8).trans evz3
      have evz5 := (vn14 (355) 13).trans evz5
      refine LW_goto (tgt := 396) rfl rfl ?_
      exact LW_return (st := []) rfl rfl ⟨rfl, V, hG, hF, (by rw [evz1] <;> omega), (by rw [evz1] <;> omega), (by rw [evz1, evz2] <;> omega), (by rw [evz2, evz3] <;> omega), (by rw [evz3] <;> omega), (by rw [evz5, evz1, evz2] <;> omega)⟩
  · refine X_aload_n rfl rfl rfl rfl ?_
    refine X_getR (a := 361) rfl rfl rfl ((congrFun V.1 355).trans s_355) rfl ((congrFun (V.2.1 355 (by decide)) 7).trans r_355_7) ?_
    refine X_iload_n rfl rfl rfl rfl ?_
    refine S_iald rfl rfl ((congrFun V.1 361).trans s_361) rfl (by omega) (fun vz15 evz15 => ?_)
    have vf16 := O_361 (V.2.2.2.2.2.2.1 361 ((vz2.toInt : Int).toNat) (Nat.le_of_ble_eq_true rfl))
    rw [evz15] at vf16
    (try rw [evz15] at hq6)
    refine LW_goto (tgt := 18) rfl rfl ?_
    refine LW_ireturn (st := []) rfl rfl rfl ?_
    refine X_callS (as := [.int vz15]) (st := []) rfl rfl rfl (by decide) rfl (Nat.le_of_ble_eq_true rfl) (by decide) (Nat.le_of_ble_eq_true rfl) rfl ?_
    refine LW_ls (ls' := [some (.int vz15)]) rfl ?_
    refine X_iload_n rfl rfl rfl rfl ?_
    refine X_bipush (v := (97 : Int32)) rfl rfl rfl ?_
    refine X_bipush (v := (122 : Int32)) rfl rfl rfl ?_
    refine X_callS (as := [.int vz15, .int (97 : Int32), .int (122 : Int32)]) (st := []) rfl rfl rfl (by decide) rfl (Nat.le_of_ble_eq_true rfl) (by decide) (Nat.le_of_ble_eq_true rfl) rfl ?_
    refine LW_ls (ls' := [some (.int vz15), some (.int (97 : Int32)), some (.int (122 : Int32))]) rfl ?_
    refine X_iload_n rfl rfl rfl rfl ?_
    refine X_iload_n rfl rfl rfl rfl ?_
    refine S_icmp_lt (tgt := 14) rfl rfl rfl rfl (show (97 : Int32).toInt = 97 from rfl) (fun vh17 => ?_) (fun vh17 => ?_)
    · refine X_iconst (v := (0 : Int32)) rfl rfl rfl ?_
      refine LW_ireturn (st := []) rfl rfl rfl ?_
      refine S_if_ne (tgt := 22) rfl rfl rfl (show (0 : Int32).toInt = 0 from rfl) (fun q => absurd q (by omega)) (fun vh18 => ?_)
      refine X_iload_n rfl rfl rfl rfl ?_
      refine X_bipush (v := (65 : Int32)) rfl rfl rfl ?_
      refine X_bipush (v := (90 : Int32)) rfl rfl rfl ?_
      refine X_callS (as := [.int vz15, .int (65 : Int32), .int (90 : Int32)]) (st := []) rfl rfl rfl (by decide) rfl (Nat.le_of_ble_eq_true rfl) (by decide) (Nat.le_of_ble_eq_true rfl) rfl ?_
      refine LW_ls (ls' := [some (.int vz15), some (.int (65 : Int32)), some (.int (90 : Int32))]) rfl ?_
      refine X_iload_n rfl rfl rfl rfl ?_
      refine X_iload_n rfl rfl rfl rfl ?_
      refine S_icmp_lt (tgt := 14) rfl rfl rfl rfl (show (65 : Int32).toInt = 65 from rfl) (fun vh19 => ?_) (fun vh19 => ?_)
      · refine X_iconst (v := (0 : Int32)) rfl rfl rfl ?_
        refine LW_ireturn (st := []) rfl rfl rfl ?_
        refine S_if_eq (tgt := 26) rfl rfl rfl (show (0 : Int32).toInt = 0 from rfl) (fun vh20 => ?_) (fun q => absurd q (by omega))
        refine X_iconst (v := (0 : Int32)) rfl rfl rfl ?_
        refine LW_ireturn (st := []) rfl rfl rfl ?_
        refine S_if_eq (tgt := 223) rfl rfl rfl (show (0 : Int32).toInt = 0 from rfl) (fun vh21 => ?_) (fun q => absurd q (by omega))
        refine X_aload_n rfl rfl rfl rfl ?_
        refine X_getI (v := vz2) rfl rfl rfl ((congrFun V.1 355).trans s_355) rfl evz2 ?_
        refine X_aload_n rfl rfl rfl rfl ?_
        refine X_getI (v := vz1) rfl rfl rfl ((congrFun V.1 355).trans s_355) rfl evz1 ?_
        refine S_isub rfl rfl rfl rfl (by omega) (fun vz22 hvz22 => ?_)
        refine X_bipush (v := (7 : Int32)) rfl rfl rfl ?_
        refine S_icmp_le (tgt := 396) rfl rfl rfl rfl (show (7 : Int32).toInt = 7 from rfl) (fun vh23 => ?_) (fun vh23 => ?_)
        · exact LW_return (st := []) rfl rfl ⟨rfl, V, hG, hF, (by rw [evz1] <;> omega), (by rw [evz1] <;> omega), (by rw [evz1, evz2] <;> omega), (by rw [evz2, evz3] <;> omega), (by rw [evz3] <;> omega), (by rw [evz5, evz1, evz2] <;> omega)⟩
        · refine X_aload_n rfl rfl rfl rfl ?_
          refine X_lconst (v := (0 : Int64)) rfl rfl rfl ?_
          refine S_putJ (I := InvR _) rfl rfl rfl ((congrFun V.1 355).trans s_355) rfl rfl rfl rfl (fun _ => V) (fun g V vn24 hq => ?_)
          have hG := hq.trans hG
          have hF := vSm.all hF vn24
          have evz1 := (vn24 (355) 12).trans evz1
          have evz2 := (vn24 (355) 11).trans evz2
          have evz3 := (vn24 (355) 8).trans evz3
          have evz5 := (vn24 (355) 13).trans evz5
          have evz15 := (vn24 (361) ((vz2.toInt : Int).toNat)).trans evz15
          refine LW_goto (tgt := 396) rfl rfl ?_
          exact LW_return (st := []) rfl rfl ⟨rfl, V, hG, hF, (by rw [evz1] <;> omega), (by rw [evz1] <;> omega), (by rw [evz1, evz2] <;> omega), (by rw [evz2, evz3] <;> omega), (by rw [evz3] <;> omega), (by rw [evz5, evz1, evz2] <;> omega)⟩
      · refine X_iload_n rfl rfl rfl rfl ?_
        refine X_iload_n rfl rfl rfl rfl ?_
        refine S_icmp_gt (tgt := 14) rfl rfl rfl rfl (show (90 : Int32).toInt = 90 from rfl) (fun vh25 => ?_) (fun vh25 => ?_)
        · refine X_iconst (v := (0 : Int32)) rfl rfl rfl ?_
          refine LW_ireturn (st := []) rfl rfl rfl ?_
          refine S_if_eq (tgt := 26) rfl rfl rfl (show (0 : Int32).toInt = 0 from rfl) (fun vh26 => ?_) (fun q => absurd q (by omega))
          refine X_iconst (v := (0 : Int32)) rfl rfl rfl ?_
          refine LW_ireturn (st := []) rfl rfl rfl ?_
          refine S_if_eq (tgt := 223) rfl rfl rfl (show (0 : Int32).toInt = 0 from rfl) (fun vh27 => ?_) (fun q => absurd q (by omega))
          refine X_aload_n rfl rfl rfl rfl ?_
          refine X_getI (v := vz2) rfl rfl rfl ((congrFun V.1 355).trans s_355) rfl evz2 ?_
          refine X_aload_n rfl rfl rfl rfl ?_
          refine X_getI (v := vz1) rfl rfl rfl ((congrFun V.1 355).trans s_355) rfl evz1 ?_
          refine S_isub rfl rfl rfl rfl (by omega) (fun vz28 hvz28 => ?_)
          refine X_bipush (v := (7 : Int32)) rfl rfl rfl ?_
          refine S_icmp_le (tgt := 396) rfl rfl rfl rfl (show (7 : Int32).toInt = 7 from rfl) (fun vh29 => ?_) (fun vh29 => ?_)
          · exact LW_return (st := []) rfl rfl ⟨rfl, V, hG, hF, (by rw [evz1] <;> omega), (by rw [evz1] <;> omega), (by rw [evz1, evz2] <;> omega), (by rw [evz2, evz3] <;> omega), (by rw [evz3] <;> omega), (by rw [evz5, evz1, evz2] <;> omega)⟩
          · refine X_aload_n rfl rfl rfl rfl ?_
            refine X_lconst (v := (0 : Int64)) rfl rfl rfl ?_
            refine S_putJ (I := InvR _) rfl rfl rfl ((congrFun V.1 355).trans s_355) rfl rfl rfl rfl (fun _ => V) (fun g V vn30 hq => ?_)
            have hG := hq.trans hG
            have hF := vSm.all hF vn30
            have evz1 := (vn30 (355) 12).trans evz1
            have evz2 := (vn30 (355) 11).trans evz2
            have evz3 := (vn30 (355) 8).trans evz3
            have evz5 := (vn30 (355) 13).trans evz5
            have evz15 := (vn30 (361) ((vz2.toInt : Int).toNat)).trans evz15
            refine LW_goto (tgt := 396) rfl rfl ?_
            exact LW_return (st := []) rfl rfl ⟨rfl, V, hG, hF, (by rw [evz1] <;> omega), (by rw [evz1] <;> omega), (by rw [evz1, evz2] <;> omega), (by rw [evz2, evz3] <;> omega), (by rw [evz3] <;> omega), (by rw [evz5, evz1, evz2] <;> omega)⟩
        · refine X_iconst (v := (1 : Int32)) rfl rfl rfl ?_
          refine LW_goto (tgt := 15) rfl rfl ?_
          refine LW_ireturn (st := []) rfl rfl rfl ?_
          refine S_if_eq (tgt := 26) rfl rfl rfl (show (1 : Int32).toInt = 1 from rfl) (fun q => absurd q (by omega)) (fun vh31 => ?_)
          refine X_iconst (v := (1 : Int32)) rfl rfl rfl ?_
          refine LW_goto (tgt := 27) rfl rfl ?_
          refine LW_ireturn (st := []) rfl rfl rfl ?_
          refine S_if_eq (tgt := 223) rfl rfl rfl (show (1 : Int32).toInt = 1 from rfl) (fun q => absurd q (by omega)) (fun vh32 => ?_)
          refine X_aload_n rfl rfl rfl rfl ?_
          refine X_getI (v := vz2) rfl rfl rfl ((congrFun V.1 355).trans s_355) rfl evz2 ?_
          refine X_aload_n rfl rfl rfl rfl ?_
          refine X_getI (v := vz1) rfl rfl rfl ((congrFun V.1 355).trans s_355) rfl evz1 ?_
          refine S_isub rfl rfl rfl rfl (by omega) (fun vz33 hvz33 => ?_)
          refine X_bipush (v := (7 : Int32)) rfl rfl rfl ?_
          refine S_icmp_ge (tgt := 210) rfl rfl rfl rfl (show (7 : Int32).toInt = 7 from rfl) (fun vh34 => ?_) (fun vh34 => ?_)
          · refine X_aload_n rfl rfl rfl rfl ?_
            refine X_dup rfl rfl rfl ?_
            refine X_getI (v := vz2) rfl rfl rfl ((congrFun V.1 355).trans s_355) rfl evz2 ?_
            refine X_iconst (v := (1 : Int32)) rfl rfl rfl ?_
            refine S_iadd rfl rfl rfl (show (1 : Int32).toInt = 1 from rfl) (by omega) (fun vz35 hvz35 => ?_)
            refine S_putI (I := InvR _) rfl rfl rfl ((congrFun V.1 355).trans s_355) rfl rfl rfl rfl (InvR_putO V (by decide) trivial) (fun g V ve36 vn37 hq => ?_)
            have hG := hq.trans hG
            have hF := vSm.putN hF vn37 (by decide)
            have evz1 := (vn37 (355) 12 (Or.inr (by decide))).trans evz1
            have evz3 := (vn37 (355) 8 (Or.inr (by decide))).trans evz3
            have evz5 := (vn37 (355) 13 (Or.inr (by decide))).trans evz5
            have evz15 := (vn37 (361) ((vz2.toInt : Int).toNat) (Or.inl (by decide))).trans evz15
            refine LW_goto (tgt := 161) rfl rfl ?_
            exact ih161 _ V hG hF x1 y1 hx1 (by omega) o2  (by rw [evz1] <;> omega) (by rw [evz1, ve36] <;> omega) (by rw [ve36, evz3] <;> omega) (by rw [evz3] <;> omega) (by rw [evz1] <;> omega) (by rw [evz5] <;> omega) (by rw [evz1, ve36, evz3]; exact (by
                  omega))  (by rw [ve36] <;> omega)
          · refine X_aload_n rfl rfl rfl rfl ?_
            refine X_aload_n rfl rfl rfl rfl ?_
            refine S_getJ rfl rfl rfl ((congrFun V.1 355).trans s_355) rfl (fun vz38 => ?_)
            refine X_bipush (v := (8 : Int32)) rfl rfl rfl ?_
            refine S_lshlT rfl rfl (fun vz39 => ?_)
            refine X_aload_n rfl rfl rfl rfl ?_
            refine X_aload_n rfl rfl rfl rfl ?_
            refine X_getI (v := vz2) rfl rfl rfl ((congrFun V.1 355).trans s_355) rfl evz2 ?_
            refine X_callV (as := [.int vz2]) (st := [.long vz39, .ref 355]) rfl rfl rfl (by decide) rfl (Nat.le_of_ble_eq_true rfl) (by decide) (Nat.le_of_ble_eq_true rfl) rfl ((congrFun V.1 355).trans s_355) (by decide) ?_
            refine LW_ls (ls' := [some (.ref 355), some (.int vz2)]) rfl ?_
            refine X_iload_n rfl rfl rfl rfl ?_
            refine X_aload_n rfl rfl rfl rfl ?_
            refine X_getI (v := vz3) rfl rfl rfl ((congrFun V.1 355).trans s_355) rfl evz3 ?_
            refine S_icmp_ge (tgt := 17) rfl rfl rfl rfl rfl (fun vh40 => ?_) (fun vh40 => ?_)
            · refine X_iconst (v := (-1 : Int32)) rfl rfl rfl ?_
              refine LW_ireturn (st := []) rfl rfl rfl ?_
              refine S_i2lT rfl rfl (fun vz41 => ?_)
              refine S_lorT rfl rfl (fun vz42 => ?_)
              refine S_putJ (I := InvR _) rfl rfl rfl ((congrFun V.1 355).trans s_355) rfl rfl rfl rfl (fun _ => V) (fun g V vn43 hq => ?_)
              have hG := hq.trans hG
              have hF := vSm.all hF vn43
              have evz1 := (vn43 (355) 12).trans evz1
              have evz2 := (vn43 (355) 11).trans evz2
              have evz3 := (vn43 (355) 8).trans evz3
              have evz5 := (vn43 (355) 13).trans evz5
              have evz15 := (vn43 (361) ((vz2.toInt : Int).toNat)).trans evz15
              refine X_aload_n rfl rfl rfl rfl ?_
              refine X_dup rfl rfl rfl ?_
              refine X_getI (v := vz2) rfl rfl rfl ((congrFun V.1 355).trans s_355) rfl evz2 ?_
              refine X_iconst (v := (1 : Int32)) rfl rfl rfl ?_
              refine S_iadd rfl rfl rfl (show (1 : Int32).toInt = 1 from rfl) (by omega) (fun vz44 hvz44 => ?_)
              refine S_putI (I := InvR _) rfl rfl rfl ((congrFun V.1 355).trans s_355) rfl rfl rfl rfl (InvR_putO V (by decide) trivial) (fun g V ve45 vn46 hq => ?_)
              have hG := hq.trans hG
              have hF := vSm.putN hF vn46 (by decide)
              have evz1 := (vn46 (355) 12 (Or.inr (by decide))).trans evz1
              have evz3 := (vn46 (355) 8 (Or.inr (by decide))).trans evz3
              have evz5 := (vn46 (355) 13 (Or.inr (by decide))).trans evz5
              have evz15 := (vn46 (361) ((vz2.toInt : Int).toNat) (Or.inl (by decide))).trans evz15
              refine LW_goto (tgt := 161) rfl rfl ?_
              exact ih161 _ V hG hF x1 y1 hx1 (by omega) o2  (by rw [evz1] <;> omega) (by rw [evz1, ve45] <;> omega) (by rw [ve45, evz3] <;> omega) (by rw [evz3] <;> omega) (by rw [evz1] <;> omega) (by rw [evz5] <;> omega) (by rw [evz1, ve45, evz3]; exact (by
                    omega))  (by rw [ve45] <;> omega)
            · refine X_aload_n rfl rfl rfl rfl ?_
              refine X_getR (a := 361) rfl rfl rfl ((congrFun V.1 355).trans s_355) rfl ((congrFun (V.2.1 355 (by decide)) 7).trans r_355_7) ?_
              refine X_iload_n rfl rfl rfl rfl ?_
              refine S_iald_v rfl rfl ((congrFun V.1 361).trans s_361) rfl (by omega) evz15 ?_
              refine LW_goto (tgt := 18) rfl rfl ?_
              refine LW_ireturn (st := []) rfl rfl rfl ?_
              refine S_i2lT rfl rfl (fun vz48 => ?_)
              refine S_lorT rfl rfl (fun vz49 => ?_)
              refine S_putJ (I := InvR _) rfl rfl rfl ((congrFun V.1 355).trans s_355) rfl rfl rfl rfl (fun _ => V) (fun g V vn50 hq => ?_)
              have hG := hq.trans hG
              have hF := vSm.all hF vn50
              have evz1 := (vn50 (355) 12).trans evz1
              have evz2 := (vn50 (355) 11).trans evz2
              have evz3 := (vn50 (355) 8).trans evz3
              have evz5 := (vn50 (355) 13).trans evz5
              have evz15 := (vn50 (361) ((vz2.toInt : Int).toNat)).trans evz15
              refine X_aload_n rfl rfl rfl rfl ?_
              refine X_dup rfl rfl rfl ?_
              refine X_getI (v := vz2) rfl rfl rfl ((congrFun V.1 355).trans s_355) rfl evz2 ?_
              refine X_iconst (v := (1 : Int32)) rfl rfl rfl ?_
              refine S_iadd rfl rfl rfl (show (1 : Int32).toInt = 1 from rfl) (by omega) (fun vz51 hvz51 => ?_)
              refine S_putI (I := InvR _) rfl rfl rfl ((congrFun V.1 355).trans s_355) rfl rfl rfl rfl (InvR_putO V (by decide) trivial) (fun g V ve52 vn53 hq => ?_)
              have hG := hq.trans hG
              have hF := vSm.putN hF vn53 (by decide)
              have evz1 := (vn53 (355) 12 (Or.inr (by decide))).trans evz1
              have evz3 := (vn53 (355) 8 (Or.inr (by decide))).trans evz3
              have evz5 := (vn53 (355) 13 (Or.inr (by decide))).trans evz5
              have evz15 := (vn53 (361) ((vz2.toInt : Int).toNat) (Or.inl (by decide))).trans evz15
              refine LW_goto (tgt := 161) rfl rfl ?_
              exact ih161 _ V hG hF x1 y1 hx1 (by omega) o2  (by rw [evz1] <;> omega) (by rw [evz1, ve52] <;> omega) (by rw [ve52, evz3] <;> omega) (by rw [evz3] <;> omega) (by rw [evz1] <;> omega) (by rw [evz5] <;> omega) (by rw [evz1, ve52, evz3]; exact (by
                    omega))  (by rw [ve52] <;> omega)
    · refine X_iload_n rfl rfl rfl rfl ?_
      refine X_iload_n rfl rfl rfl rfl ?_
      refine S_icmp_gt (tgt := 14) rfl rfl rfl rfl (show (122 : Int32).toInt = 122 from rfl) (fun vh54 => ?_) (fun vh54 => ?_)
      · refine X_iconst (v := (0 : Int32)) rfl rfl rfl ?_
        refine LW_ireturn (st := []) rfl rfl rfl ?_
        refine S_if_ne (tgt := 22) rfl rfl rfl (show (0 : Int32).toInt = 0 from rfl) (fun q => absurd q (by omega)) (fun vh55 => ?_)
        refine X_iload_n rfl rfl rfl rfl ?_
        refine X_bipush (v := (65 : Int32)) rfl rfl rfl ?_
        refine X_bipush (v := (90 : Int32)) rfl rfl rfl ?_
        refine X_callS (as := [.int vz15, .int (65 : Int32), .int (90 : Int32)]) (st := []) rfl rfl rfl (by decide) rfl (Nat.le_of_ble_eq_true rfl) (by decide) (Nat.le_of_ble_eq_true rfl) rfl ?_
        refine LW_ls (ls' := [some (.int vz15), some (.int (65 : Int32)), some (.int (90 : Int32))]) rfl ?_
        refine X_iload_n rfl rfl rfl rfl ?_
        refine X_iload_n rfl rfl rfl rfl ?_
        refine S_icmp_lt (tgt := 14) rfl rfl rfl rfl (show (65 : Int32).toInt = 65 from rfl) (fun q => absurd q (by omega)) (fun vh56 => ?_)
        refine X_iload_n rfl rfl rfl rfl ?_
        refine X_iload_n rfl rfl rfl rfl ?_
        refine S_icmp_gt (tgt := 14) rfl rfl rfl rfl (show (90 : Int32).toInt = 90 from rfl) (fun vh57 => ?_) (fun q => absurd q (by omega))
        refine X_iconst (v := (0 : Int32)) rfl rfl rfl ?_
        refine LW_ireturn (st := []) rfl rfl rfl ?_
        refine S_if_eq (tgt := 26) rfl rfl rfl (show (0 : Int32).toInt = 0 from rfl) (fun vh58 => ?_) (fun q => absurd q (by omega))
        refine X_iconst (v := (0 : Int32)) rfl rfl rfl ?_
        refine LW_ireturn (st := []) rfl rfl rfl ?_
        refine S_if_eq (tgt := 223) rfl rfl rfl (show (0 : Int32).toInt = 0 from rfl) (fun vh59 => ?_) (fun q => absurd q (by omega))
        refine X_aload_n rfl rfl rfl rfl ?_
        refine X_getI (v := vz2) rfl rfl rfl ((congrFun V.1 355).trans s_355) rfl evz2 ?_
        refine X_aload_n rfl rfl rfl rfl ?_
        refine X_getI (v := vz1) rfl rfl rfl ((congrFun V.1 355).trans s_355) rfl evz1 ?_
        refine S_isub rfl rfl rfl rfl (by omega) (fun vz60 hvz60 => ?_)
        refine X_bipush (v := (7 : Int32)) rfl rfl rfl ?_
        refine S_icmp_le (tgt := 396) rfl rfl rfl rfl (show (7 : Int32).toInt = 7 from rfl) (fun vh61 => ?_) (fun vh61 => ?_)
        · exact LW_return (st := []) rfl rfl ⟨rfl, V, hG, hF, (by rw [evz1] <;> omega), (by rw [evz1] <;> omega), (by rw [evz1, evz2] <;> omega), (by rw [evz2, evz3] <;> omega), (by rw [evz3] <;> omega), (by rw [evz5, evz1, evz2] <;> omega)⟩
        · refine X_aload_n rfl rfl rfl rfl ?_
          refine X_lconst (v := (0 : Int64)) rfl rfl rfl ?_
          refine S_putJ (I := InvR _) rfl rfl rfl ((congrFun V.1 355).trans s_355) rfl rfl rfl rfl (fun _ => V) (fun g V vn62 hq => ?_)
          have hG := hq.trans hG
          have hF := vSm.all hF vn62
          have evz1 := (vn62 (355) 12).trans evz1
          have evz2 := (vn62 (355) 11).trans evz2
          have evz3 := (vn62 (355) 8).trans evz3
          have evz5 := (vn62 (355) 13).trans evz5
          have evz15 := (vn62 (361) ((vz2.toInt : Int).toNat)).trans evz15
          refine LW_goto (tgt := 396) rfl rfl ?_
          exact LW_return (st := []) rfl rfl ⟨rfl, V, hG, hF, (by rw [evz1] <;> omega), (by rw [evz1] <;> omega), (by rw [evz1, evz2] <;> omega), (by rw [evz2, evz3] <;> omega), (by rw [evz3] <;> omega), (by rw [evz5, evz1, evz2] <;> omega)⟩
      · refine X_iconst (v := (1 : Int32)) rfl rfl rfl ?_
        refine LW_goto (tgt := 15) rfl rfl ?_
        refine LW_ireturn (st := []) rfl rfl rfl ?_
        refine S_if_ne (tgt := 22) rfl rfl rfl (show (1 : Int32).toInt = 1 from rfl) (fun vh63 => ?_) (fun q => absurd q (by omega))
        refine X_iconst (v := (1 : Int32)) rfl rfl rfl ?_
        refine LW_goto (tgt := 27) rfl rfl ?_
        refine LW_ireturn (st := []) rfl rfl rfl ?_
        refine S_if_eq (tgt := 223) rfl rfl rfl (show (1 : Int32).toInt = 1 from rfl) (fun q => absurd q (by omega)) (fun vh64 => ?_)
        refine X_aload_n rfl rfl rfl rfl ?_
        refine X_getI (v := vz2) rfl rfl rfl ((congrFun V.1 355).trans s_355) rfl evz2 ?_
        refine X_aload_n rfl rfl rfl rfl ?_
        refine X_getI (v := vz1) rfl rfl rfl ((congrFun V.1 355).trans s_355) rfl evz1 ?_
        refine S_isub rfl rfl rfl rfl (by omega) (fun vz65 hvz65 => ?_)
        refine X_bipush (v := (7 : Int32)) rfl rfl rfl ?_
        refine S_icmp_ge (tgt := 210) rfl rfl rfl rfl (show (7 : Int32).toInt = 7 from rfl) (fun vh66 => ?_) (fun vh66 => ?_)
        · refine X_aload_n rfl rfl rfl rfl ?_
          refine X_dup rfl rfl rfl ?_
          refine X_getI (v := vz2) rfl rfl rfl ((congrFun V.1 355).trans s_355) rfl evz2 ?_
          refine X_iconst (v := (1 : Int32)) rfl rfl rfl ?_
          refine S_iadd rfl rfl rfl (show (1 : Int32).toInt = 1 from rfl) (by omega) (fun vz67 hvz67 => ?_)
          refine S_putI (I := InvR _) rfl rfl rfl ((congrFun V.1 355).trans s_355) rfl rfl rfl rfl (InvR_putO V (by decide) trivial) (fun g V ve68 vn69 hq => ?_)
          have hG := hq.trans hG
          have hF := vSm.putN hF vn69 (by decide)
          have evz1 := (vn69 (355) 12 (Or.inr (by decide))).trans evz1
          have evz3 := (vn69 (355) 8 (Or.inr (by decide))).trans evz3
          have evz5 := (vn69 (355) 13 (Or.inr (by decide))).trans evz5
          have evz15 := (vn69 (361) ((vz2.toInt : Int).toNat) (Or.inl (by decide))).trans evz15
          refine LW_goto (tgt := 161) rfl rfl ?_
          exact ih161 _ V hG hF x1 y1 hx1 (by omega) o2  (by rw [evz1] <;> omega) (by rw [evz1, ve68] <;> omega) (by rw [ve68, evz3] <;> omega) (by rw [evz3] <;> omega) (by rw [evz1] <;> omega) (by rw [evz5] <;> omega) (by rw [evz1, ve68, evz3]; exact (by
                omega))  (by rw [ve68] <;> omega)
        · refine X_aload_n rfl rfl rfl rfl ?_
          refine X_aload_n rfl rfl rfl rfl ?_
          refine S_getJ rfl rfl rfl ((congrFun V.1 355).trans s_355) rfl (fun vz70 => ?_)
          refine X_bipush (v := (8 : Int32)) rfl rfl rfl ?_
          refine S_lshlT rfl rfl (fun vz71 => ?_)
          refine X_aload_n rfl rfl rfl rfl ?_
          refine X_aload_n rfl rfl rfl rfl ?_
          refine X_getI (v := vz2) rfl rfl rfl ((congrFun V.1 355).trans s_355) rfl evz2 ?_
          refine X_callV (as := [.int vz2]) (st := [.long vz71, .ref 355]) rfl rfl rfl (by decide) rfl (Nat.le_of_ble_eq_true rfl) (by decide) (Nat.le_of_ble_eq_true rfl) rfl ((congrFun V.1 355).trans s_355) (by decide) ?_
          refine LW_ls (ls' := [some (.ref 355), some (.int vz2)]) rfl ?_
          refine X_iload_n rfl rfl rfl rfl ?_
          refine X_aload_n rfl rfl rfl rfl ?_
          refine X_getI (v := vz3) rfl rfl rfl ((congrFun V.1 355).trans s_355) rfl evz3 ?_
          refine S_icmp_ge (tgt := 17) rfl rfl rfl rfl rfl (fun vh72 => ?_) (fun vh72 => ?_)
          · refine X_iconst (v := (-1 : Int32)) rfl rfl rfl ?_
            refine LW_ireturn (st := []) rfl rfl rfl ?_
            refine S_i2lT rfl rfl (fun vz73 => ?_)
            refine S_lorT rfl rfl (fun vz74 => ?_)
            refine S_putJ (I := InvR _) rfl rfl rfl ((congrFun V.1 355).trans s_355) rfl rfl rfl rfl (fun _ => V) (fun g V vn75 hq => ?_)
            have hG := hq.trans hG
            have hF := vSm.all hF vn75
            have evz1 := (vn75 (355) 12).trans evz1
            have evz2 := (vn75 (355) 11).trans evz2
            have evz3 := (vn75 (355) 8).trans evz3
            have evz5 := (vn75 (355) 13).trans evz5
            have evz15 := (vn75 (361) ((vz2.toInt : Int).toNat)).trans evz15
            refine X_aload_n rfl rfl rfl rfl ?_
            refine X_dup rfl rfl rfl ?_
            refine X_getI (v := vz2) rfl rfl rfl ((congrFun V.1 355).trans s_355) rfl evz2 ?_
            refine X_iconst (v := (1 : Int32)) rfl rfl rfl ?_
            refine S_iadd rfl rfl rfl (show (1 : Int32).toInt = 1 from rfl) (by omega) (fun vz76 hvz76 => ?_)
            refine S_putI (I := InvR _) rfl rfl rfl ((congrFun V.1 355).trans s_355) rfl rfl rfl rfl (InvR_putO V (by decide) trivial) (fun g V ve77 vn78 hq => ?_)
            have hG := hq.trans hG
            have hF := vSm.putN hF vn78 (by decide)
            have evz1 := (vn78 (355) 12 (Or.inr (by decide))).trans evz1
            have evz3 := (vn78 (355) 8 (Or.inr (by decide))).trans evz3
            have evz5 := (vn78 (355) 13 (Or.inr (by decide))).trans evz5
            have evz15 := (vn78 (361) ((vz2.toInt : Int).toNat) (Or.inl (by decide))).trans evz15
            refine LW_goto (tgt := 161) rfl rfl ?_
            exact ih161 _ V hG hF x1 y1 hx1 (by omega) o2  (by rw [evz1] <;> omega) (by rw [evz1, ve77] <;> omega) (by rw [ve77, evz3] <;> omega) (by rw [evz3] <;> omega) (by rw [evz1] <;> omega) (by rw [evz5] <;> omega) (by rw [evz1, ve77, evz3]; exact (by
                  omega))  (by rw [ve77] <;> omega)
          · refine X_aload_n rfl rfl rfl rfl ?_
            refine X_getR (a := 361) rfl rfl rfl ((congrFun V.1 355).trans s_355) rfl ((congrFun (V.2.1 355 (by decide)) 7).trans r_355_7) ?_
            refine X_iload_n rfl rfl rfl rfl ?_
            refine S_iald_v rfl rfl ((congrFun V.1 361).trans s_361) rfl (by omega) evz15 ?_
            refine LW_goto (tgt := 18) rfl rfl ?_
            refine LW_ireturn (st := []) rfl rfl rfl ?_
            refine S_i2lT rfl rfl (fun vz80 => ?_)
            refine S_lorT rfl rfl (fun vz81 => ?_)
            refine S_putJ (I := InvR _) rfl rfl rfl ((congrFun V.1 355).trans s_355) rfl rfl rfl rfl (fun _ => V) (fun g V vn82 hq => ?_)
            have hG := hq.trans hG
            have hF := vSm.all hF vn82
            have evz1 := (vn82 (355) 12).trans evz1
            have evz2 := (vn82 (355) 11).trans evz2
            have evz3 := (vn82 (355) 8).trans evz3
            have evz5 := (vn82 (355) 13).trans evz5
            have evz15 := (vn82 (361) ((vz2.toInt : Int).toNat)).trans evz15
            refine X_aload_n rfl rfl rfl rfl ?_
            refine X_dup rfl rfl rfl ?_
            refine X_getI (v := vz2) rfl rfl rfl ((congrFun V.1 355).trans s_355) rfl evz2 ?_
            refine X_iconst (v := (1 : Int32)) rfl rfl rfl ?_
            refine S_iadd rfl rfl rfl (show (1 : Int32).toInt = 1 from rfl) (by omega) (fun vz83 hvz83 => ?_)
            refine S_putI (I := InvR _) rfl rfl rfl ((congrFun V.1 355).trans s_355) rfl rfl rfl rfl (InvR_putO V (by decide) trivial) (fun g V ve84 vn85 hq => ?_)
            have hG := hq.trans hG
            have hF := vSm.putN hF vn85 (by decide)
            have evz1 := (vn85 (355) 12 (Or.inr (by decide))).trans evz1
            have evz3 := (vn85 (355) 8 (Or.inr (by decide))).trans evz3
            have evz5 := (vn85 (355) 13 (Or.inr (by decide))).trans evz5
            have evz15 := (vn85 (361) ((vz2.toInt : Int).toNat) (Or.inl (by decide))).trans evz15
            refine LW_goto (tgt := 161) rfl rfl ?_
            exact ih161 _ V hG hF x1 y1 hx1 (by omega) o2  (by rw [evz1] <;> omega) (by rw [evz1, ve84] <;> omega) (by rw [ve84, evz3] <;> omega) (by rw [evz3] <;> omega) (by rw [evz1] <;> omega) (by rw [evz5] <;> omega) (by rw [evz1, ve84, evz3]; exact (by
                  omega))  (by rw [ve84] <;> omega)
set_option maxRecDepth 10000 in
set_option maxHeartbeats 40000000 in
theorem C_X13_nextToken_346 {P : Par} {g g0 : LH} {d n : Nat}  (V : InvR P g) (hG : Gr g = Gr g0) (hF : vSm vsa g g0) (x1 : Int32) (y1 : Int) (hx1 : x1.toInt = y1) (hf1 : 0 ≤ y1 ∧ y1 ≤ 255) (x2 : Int32) (y2 : Int) (hx2 : x2.toInt = y2) (hf2 : 0 ≤ y2 ∧ y2 ≤ 1) (hq0 : 0 ≤ (Gi g 355 12).toInt) (hq1 : (Gi g 355 12).toInt < (Gi g 355 11).toInt) (hq2 : (Gi g 355 11).toInt ≤ (Gi g 355 8).toInt) (hq3 : (Gi g 355 8).toInt ≤ 300) (hq4 : (Gi g0 355 11).toInt ≤ (Gi g 355 12).toInt) (hmu : 0 < (n : Int) + 1) (ih0 : ∀ (g : LH) (V : InvR P g) (hG : Gr g = Gr g0) (hF : vSm vsa g g0) (o1 : Option Value) (o2 : Option Value) (hq0 : 0 ≤ (Gi g 355 11).toInt) (hq1 : (Gi g 355 11).toInt ≤ (Gi g 355 8).toInt) (hq2 : (Gi g 355 8).toInt ≤ 300) (hq3 : (Gi g0 355 11).toInt ≤ (Gi g 355 11).toInt), (300 - (Gi g 355 11).toInt) * 1 + 604 < (n : Int) → LW 200 (d + 5) 0 0 0 [some (.ref 355), o1, o2] [] g (fun v g' => v = none ∧ InvR P g' ∧ Gr g' = Gr g0 ∧ vSm vsa g' g0 ∧ ((Gi g0 355 11).toInt ≤ (Gi g' 355 12).toInt) ∧ (0 ≤ (Gi g' 355 12).toInt) ∧ ((Gi g' 355 12).toInt ≤ (Gi g' 355 11).toInt) ∧ ((Gi g' 355 11).toInt ≤ (Gi g' 355 8).toInt) ∧ ((Gi g' 355 8).toInt ≤ 300) ∧ ((Gi g' 355 13).toInt = 0 ∨ (Gi g' 355 12).toInt < (Gi g' 355 11).toInt))) (ih39 : ∀ (g : LH) (V : InvR P g) (hG : Gr g = Gr g0) (hF : vSm vsa g g0) (o1 : Option Value) (o2 : Option Value) (hq0 : 0 ≤ (Gi g 355 11).toInt) (hq1 : (Gi g 355 11).toInt ≤ (Gi g 355 8).toInt) (hq2 : (Gi g 355 8).toInt ≤ 300) (hq3 : (Gi g0 355 11).toInt ≤ (Gi g 355 11).toInt), 603 < (n : Int) → LW 200 (d + 5) 0 0 39 [some (.ref 355), o1, o2] [] g (fun v g' => v = none ∧ InvR P g' ∧ Gr g' = Gr g0 ∧ vSm vsa g' g0 ∧ ((Gi g0 355 11).toInt ≤ (Gi g' 355 12).toInt) ∧ (0 ≤ (Gi g' 355 12).toInt) ∧ ((Gi g' 355 12).toInt ≤ (Gi g' 355 11).toInt) ∧ ((Gi g' 355 11).toInt ≤ (Gi g' 355 8).toInt) ∧ ((Gi g' 355 8).toInt ≤ 300) ∧ ((Gi g' 355 13).toInt = 0 ∨ (Gi g' 355 12).toInt < (Gi g' 355 11).toInt))) (ih85 : ∀ (g : LH) (V : InvR P g) (hG : Gr g = Gr g0) (hF : vSm vsa g g0) (x1 : Int32) (y1 : Int) (hx1 : x1.toInt = y1) (hf1 : 48 ≤ y1 ∧ y1 ≤ 57) (o2 : Option Value) (hq0 : 0 ≤ (Gi g 355 12).toInt) (hq1 : (Gi g 355 12).toInt ≤ (Gi g 355 11).toInt) (hq2 : (Gi g 355 11).toInt ≤ (Gi g 355 8).toInt) (hq3 : (Gi g 355 8).toInt ≤ 300) (hq4 : (Gi g0 355 11).toInt ≤ (Gi g 355 12).toInt) (hq5 : (Gi g 355 13).toInt = 1) (hq6 : (Gi g 355 12).toInt < (Gi g 355 11).toInt ∨ ((Gi g 355 11).toInt < (Gi g 355 8).toInt ∧ 48 ≤ (Gi g 361 (Int.toNat (Gi g 355 11).toInt)).toInt ∧ (Gi g 361 (Int.toNat (Gi g 355 11).toInt)).toInt ≤ 57)), (300 - (Gi g 355 11).toInt) * 1 + 302 < (n : Int) → LW 200 (d + 5) 0 0 85 [some (.ref 355), some (.int x1), o2] [] g (fun v g' => v = none ∧ InvR P g' ∧ Gr g' = Gr g0 ∧ vSm vsa g' g0 ∧ ((Gi g0 355 11).toInt ≤ (Gi g' 355 12).toInt) ∧ (0 ≤ (Gi g' 355 12).toInt) ∧ ((Gi g' 355 12).toInt ≤ (Gi g' 355 11).toInt) ∧ ((Gi g' 355 11).toInt ≤ (Gi g' 355 8).toInt) ∧ ((Gi g' 355 8).toInt ≤ 300) ∧ ((Gi g' 355 13).toInt = 0 ∨ (Gi g' 355 12).toInt < (Gi g' 355 11).toInt))) (ih161 : ∀ (g : LH) (V : InvR P g) (hG : Gr g = Gr g0) (hF : vSm vsa g g0) (x1 : Int32) (y1 : Int) (hx1 : x1.toInt = y1) (hf1 : 65 ≤ y1 ∧ y1 ≤ 122) (o2 : Option Value) (hq0 : 0 ≤ (Gi g 355 12).toInt) (hq1 : (Gi g 355 12).toInt ≤ (Gi g 355 11).toInt) (hq2 : (Gi g 355 11).toInt ≤ (Gi g 355 8).toInt) (hq3 : (Gi g 355 8).toInt ≤ 300) (hq4 : (Gi g0 355 11).toInt ≤ (Gi g 355 12).toInt) (hq5 : (Gi g 355 13).toInt = 2) (hq6 : (Gi g 355 12).toInt < (Gi g 355 11).toInt ∨ ((Gi g 355 11).toInt < (Gi g 355 8).toInt ∧ ((65 ≤ (Gi g 361 (Int.toNat (Gi g 355 11).toInt)).toInt ∧ (Gi g 361 (Int.toNat (Gi g 355 11).toInt)).toInt ≤ 90) ∨ (97 ≤ (Gi g 361 (Int.toNat (Gi g 355 11).toInt)).toInt ∧ (Gi g 361 (Int.toNat (Gi g 355 11).toInt)).toInt ≤ 122)))), (300 - (Gi g 355 11).toInt) * 1 + 0 < (n : Int) → LW 200 (d + 5) 0 0 161 [some (.ref 355), some (.int x1), o2] [] g (fun v g' => v = none ∧ InvR P g' ∧ Gr g' = Gr g0 ∧ vSm vsa g' g0 ∧ ((Gi g0 355 11).toInt ≤ (Gi g' 355 12).toInt) ∧ (0 ≤ (Gi g' 355 12).toInt) ∧ ((Gi g' 355 12).toInt ≤ (Gi g' 355 11).toInt) ∧ ((Gi g' 355 11).toInt ≤ (Gi g' 355 8).toInt) ∧ ((Gi g' 355 8).toInt ≤ 300) ∧ ((Gi g' 355 13).toInt = 0 ∨ (Gi g' 355 12).toInt < (Gi g' 355 11).toInt))) (ih346 : ∀ (g : LH) (V : InvR P g) (hG : Gr g = Gr g0) (hF : vSm vsa g g0) (x1 : Int32) (y1 : Int) (hx1 : x1.toInt = y1) (hf1 : 0 ≤ y1 ∧ y1 ≤ 255) (x2 : Int32) (y2 : Int) (hx2 : x2.toInt = y2) (hf2 : 0 ≤ y2 ∧ y2 ≤ 1) (hq0 : 0 ≤ (Gi g 355 12).toInt) (hq1 : (Gi g 355 12).toInt < (Gi g 355 11).toInt) (hq2 : (Gi g 355 11).toInt ≤ (Gi g 355 8).toInt) (hq3 : (Gi g 355 8).toInt ≤ 300) (hq4 : (Gi g0 355 11).toInt ≤ (Gi g 355 12).toInt), 0 < (n : Int) → LW 200 (d + 5) 0 0 346 [some (.ref 355), some (.int x1), some (.int x2)] [] g (fun v g' => v = none ∧ InvR P g' ∧ Gr g' = Gr g0 ∧ vSm vsa g' g0 ∧ ((Gi g0 355 11).toInt ≤ (Gi g' 355 12).toInt) ∧ (0 ≤ (Gi g' 355 12).toInt) ∧ ((Gi g' 355 12).toInt ≤ (Gi g' 355 11).toInt) ∧ ((Gi g' 355 11).toInt ≤ (Gi g' 355 8).toInt) ∧ ((Gi g' 355 8).toInt ≤ 300) ∧ ((Gi g' 355 13).toInt = 0 ∨ (Gi g' 355 12).toInt < (Gi g' 355 11).toInt))) : LW 200 (d + 5) 0 0 346 [some (.ref 355), some (.int x1), some (.int x2)] [] g (fun v g' => v = none ∧ InvR P g' ∧ Gr g' = Gr g0 ∧ vSm vsa g' g0 ∧ ((Gi g0 355 11).toInt ≤ (Gi g' 355 12).toInt) ∧ (0 ≤ (Gi g' 355 12).toInt) ∧ ((Gi g' 355 12).toInt ≤ (Gi g' 355 11).toInt) ∧ ((Gi g' 355 11).toInt ≤ (Gi g' 355 8).toInt) ∧ ((Gi g' 355 8).toInt ≤ 300) ∧ ((Gi g' 355 13).toInt = 0 ∨ (Gi g' 355 12).toInt < (Gi g' 355 11).toInt)) := by
  obtain ⟨vz1, evz1⟩ : ∃ z, Gi g 355 12 = z := ⟨_, rfl⟩
  rw [evz1] at hq0
  rw [evz1] at hq1
  obtain ⟨vz2, evz2⟩ : ∃ z, Gi g 355 11 = z := ⟨_, rfl⟩
  rw [evz2] at hq1
  rw [evz2] at hq2
  obtain ⟨vz3, evz3⟩ : ∃ z, Gi g 355 8 = z := ⟨_, rfl⟩
  have vf4 := O_355_8 (V.2.2.2.2.2.2.1 355 (8) (Nat.le_of_ble_eq_true rfl))
  rw [evz3] at vf4
  rw [evz3] at hq2
  rw [evz3] at hq3
  rw [evz1] at hq4
  refine X_iload_n rfl rfl rfl rfl ?_
  refine X_bipush (v := (60 : Int32)) rfl rfl rfl ?_
  refine S_icmp_eq (tgt := 358) rfl rfl rfl hx1 (show (60 : Int32).toInt = 60 from rfl) (fun vh5 => ?_) (fun vh5 => ?_)
  · refine X_aload_n rfl rfl rfl rfl ?_
    refine X_aload_n rfl rfl rfl rfl ?_
    refine X_getI (v := vz2) rfl rfl rfl ((congrFun V.1 355).trans s_355) rfl evz2 ?_
    refine X_callV (as := [.int vz2]) (st := []) rfl rfl rfl (by decide) rfl (Nat.le_of_ble_eq_true rfl) (by decide) (Nat.le_of_ble_eq_true rfl) rfl ((congrFun V.1 355).trans s_355) (by decide) ?_
    refine LW_ls (ls' := [some (.ref 355), some (.int vz2)]) rfl ?_
    refine X_iload_n rfl rfl rfl rfl ?_
    refine X_aload_n rfl rfl rfl rfl ?_
    refine X_getI (v := vz3) rfl rfl rfl ((congrFun V.1 355).trans s_355) rfl evz3 ?_
    refine S_icmp_ge (tgt := 17) rfl rfl rfl rfl rfl (fun vh6 => ?_) (fun vh6 => ?_)
    · refine X_iconst (v := (-1 : Int32)) rfl rfl rfl ?_
      refine LW_ireturn (st := []) rfl rfl rfl ?_
      refine X_bipush (v := (61 : Int32)) rfl rfl rfl ?_
      refine S_icmp_ne (tgt := 396) rfl rfl rfl (show (-1 : Int32).toInt = -1 from rfl) (show (61 : Int32).toInt = 61 from rfl) (fun vh7 => ?_) (fun q => absurd q (by omega))
      exact LW_return (st := []) rfl rfl ⟨rfl, V, hG, hF, (by rw [evz1] <;> omega), (by rw [evz1] <;> omega), (by rw [evz1, evz2] <;> omega), (by rw [evz2, evz3] <;> omega), (by rw [evz3] <;> omega), (by rw [evz1, evz2] <;> omega)⟩
    · refine X_aload_n rfl rfl rfl rfl ?_
      refine X_getR (a := 361) rfl rfl rfl ((congrFun V.1 355).trans s_355) rfl ((congrFun (V.2.1 355 (by decide)) 7).trans r_355_7) ?_
      refine X_iload_n rfl rfl rfl rfl ?_
      refine S_iald rfl rfl ((congrFun V.1 361).trans s_361) rfl (by omega) (fun vz8 evz8 => ?_)
      have vf9 := O_361 (V.2.2.2.2.2.2.1 361 ((vz2.toInt : Int).toNat) (Nat.le_of_ble_eq_true rfl))
      rw [evz8] at vf9
      (try rw [evz8] at hq6)
      refine LW_goto (tgt := 18) rfl rfl ?_
      refine LW_ireturn (st := []) rfl rfl rfl ?_
      refine X_bipush (v := (61 : Int32)) rfl rfl rfl ?_
      refine S_icmp_ne (tgt := 396) rfl rfl rfl rfl (show (61 : Int32).toInt = 61 from rfl) (fun vh10 => ?_) (fun vh10 => ?_)
      · exact LW_return (st := []) rfl rfl ⟨rfl, V, hG, hF, (by rw [evz1] <;> omega), (by rw [evz1] <;> omega), (by rw [evz1, evz2] <;> omega), (by rw [evz2, evz3] <;> omega), (by rw [evz3] <;> omega), (by rw [evz1, evz2] <;> omega)⟩
      · refine X_aload_n rfl rfl rfl rfl ?_
        refine X_dup rfl rfl rfl ?_
        refine X_getI (v := vz2) rfl rfl rfl ((congrFun V.1 355).trans s_355) rfl evz2 ?_
        refine X_iconst (v := (1 : Int32)) rfl rfl rfl ?_
        refine S_iadd rfl rfl rfl (show (1 : Int32).toInt = 1 from rfl) (by omega) (fun vz11 hvz11 => ?_)
        refine S_putI (I := InvR _) rfl rfl rfl ((congrFun V.1 355).trans s_355) rfl rfl rfl rfl (InvR_putO V (by decide) trivial) (fun g V ve12 vn13 hq => ?_)
        have hG := hq.trans hG
        have hF := vSm.putN hF vn13 (by decide)
        have evz1 := (vn13 (355) 12 (Or.inr (by decide))).trans evz1
        have evz3 := (vn13 (355) 8 (Or.inr (by decide))).trans evz3
        have evz8 := (vn13 (361) ((vz2.toInt : Int).toNat) (Or.inl (by decide))).trans evz8
        refine X_aload_n rfl rfl rfl rfl ?_
        refine X_iload_n rfl rfl rfl rfl ?_
        refine X_bipush (v := (60 : Int32)) rfl rfl rfl ?_
        refine S_icmp_ne (tgt := 392) rfl rfl rfl hx1 (show (60 : Int32).toInt = 60 from rfl) (fun q => absurd q (by omega)) (fun vh14 => ?_)
        refine X_iconst (v := (4 : Int32)) rfl rfl rfl ?_
        refine LW_goto (tgt := 393) rfl rfl ?_
        refine S_putI (I := InvR _) rfl rfl rfl ((congrFun V.1 355).trans s_355) rfl rfl rfl rfl (InvR_putO V (by decide) trivial) (fun g V ve15 vn16 hq => ?_)
        have hG := hq.trans hG
        have hF := vSm.putN hF vn16 (by decide)
        have evz1 := (vn16 (355) 12 (Or.inr (by decide))).trans evz1
        have evz3 := (vn16 (355) 8 (Or.inr (by decide))).trans evz3
        have evz8 := (vn16 (361) ((vz2.toInt : Int).toNat) (Or.inl (by decide))).trans evz8
        have ve12 := (vn16 (355) 11 (Or.inr (by decide))).trans ve12
        exact LW_return (st := []) rfl rfl ⟨rfl, V, hG, hF, (by rw [evz1] <;> omega), (by rw [evz1] <;> omega), (by rw [evz1, ve12] <;> omega), (by rw [ve12, evz3] <;> omega), (by rw [evz3] <;> omega), (by have vk0 := (show (4 : Int32).toInt = 4 from rfl); rw [ve15, evz1, ve12] <;> omega)⟩
  · refine X_iload_n rfl rfl rfl rfl ?_
    refine X_bipush (v := (62 : Int32)) rfl rfl rfl ?_
    refine S_icmp_ne (tgt := 396) rfl rfl rfl hx1 (show (62 : Int32).toInt = 62 from rfl) (fun vh17 => ?_) (fun vh17 => ?_)
    · exact LW_return (st := []) rfl rfl ⟨rfl, V, hG, hF, (by rw [evz1] <;> omega), (by rw [evz1] <;> omega), (by rw [evz1, evz2] <;> omega), (by rw [evz2, evz3] <;> omega), (by rw [evz3] <;> omega), (by rw [evz1, evz2] <;> omega)⟩
    · refine X_aload_n rfl rfl rfl rfl ?_
      refine X_aload_n rfl rfl rfl rfl ?_
      refine X_getI (v := vz2) rfl rfl rfl ((congrFun V.1 355).trans s_355) rfl evz2 ?_
      refine X_callV (as := [.int vz2]) (st := []) rfl rfl rfl (by decide) rfl (Nat.le_of_ble_eq_true rfl) (by decide) (Nat.le_of_ble_eq_true rfl) rfl ((congrFun V.1 355).trans s_355) (by decide) ?_
      refine LW_ls (ls' := [some (.ref 355), some (.int vz2)]) rfl ?_
      refine X_iload_n rfl rfl rfl rfl ?_
      refine X_aload_n rfl rfl rfl rfl ?_
      refine X_getI (v := vz3) rfl rfl rfl ((congrFun V.1 355).trans s_355) rfl evz3 ?_
      refine S_icmp_ge (tgt := 17) rfl rfl rfl rfl rfl (fun vh18 => ?_) (fun vh18 => ?_)
      · refine X_iconst (v := (-1 : Int32)) rfl rfl rfl ?_
        refine LW_ireturn (st := []) rfl rfl rfl ?_
        refine X_bipush (v := (61 : Int32)) rfl rfl rfl ?_
        refine S_icmp_ne (tgt := 396) rfl rfl rfl (show (-1 : Int32).toInt = -1 from rfl) (show (61 : Int32).toInt = 61 from rfl) (fun vh19 => ?_) (fun q => absurd q (by omega))
        exact LW_return (st := []) rfl rfl ⟨rfl, V, hG, hF, (by rw [evz1] <;> omega), (by rw [evz1] <;> omega), (by rw [evz1, evz2] <;> omega), (by rw [evz2, evz3] <;> omega), (by rw [evz3] <;> omega), (by rw [evz1, evz2] <;> omega)⟩
      · refine X_aload_n rfl rfl rfl rfl ?_
        refine X_getR (a := 361) rfl rfl rfl ((congrFun V.1 355).trans s_355) rfl ((congrFun (V.2.1 355 (by decide)) 7).trans r_355_7) ?_
        refine X_iload_n rfl rfl rfl rfl ?_
        refine S_iald rfl rfl ((congrFun V.1 361).trans s_361) rfl (by omega) (fun vz20 evz20 => ?_)
        have vf21 := O_361 (V.2.2.2.2.2.2.1 361 ((vz2.toInt : Int).toNat) (Nat.le_of_ble_eq_true rfl))
        rw [evz20] at vf21
        (try rw [evz20] at hq6)
        refine LW_goto (tgt := 18) rfl rfl ?_
        refine LW_ireturn (st := []) rfl rfl rfl ?_
        refine X_bipush (v := (61 : Int32)) rfl rfl rfl ?_
        refine S_icmp_ne (tgt := 396) rfl rfl rfl rfl (show (61 : Int32).toInt = 61 from rfl) (fun vh22 => ?_) (fun vh22 => ?_)
        · exact LW_return (st := []) rfl rfl ⟨rfl, V, hG, hF, (by rw [evz1] <;> omega), (by rw [evz1] <;> omega), (by rw [evz1, evz2] <;> omega), (by rw [evz2, evz3] <;> omega), (by rw [evz3] <;> omega), (by rw [evz1, evz2] <;> omega)⟩
        · refine X_aload_n rfl rfl rfl rfl ?_
          refine X_dup rfl rfl rfl ?_
          refine X_getI (v := vz2) rfl rfl rfl ((congrFun V.1 355).trans s_355) rfl evz2 ?_
          refine X_iconst (v := (1 : Int32)) rfl rfl rfl ?_
          refine S_iadd rfl rfl rfl (show (1 : Int32).toInt = 1 from rfl) (by omega) (fun vz23 hvz23 => ?_)
          refine S_putI (I := InvR _) rfl rfl rfl ((congrFun V.1 355).trans s_355) rfl rfl rfl rfl (InvR_putO V (by decide) trivial) (fun g V ve24 vn25 hq => ?_)
          have hG := hq.trans hG
          have hF := vSm.putN hF vn25 (by decide)
          have evz1 := (vn25 (355) 12 (Or.inr (by decide))).trans evz1
          have evz3 := (vn25 (355) 8 (Or.inr (by decide))).trans evz3
          have evz20 := (vn25 (361) ((vz2.toInt : Int).toNat) (Or.inl (by decide))).trans evz20
          refine X_aload_n rfl rfl rfl rfl ?_
          refine X_iload_n rfl rfl rfl rfl ?_
          refine X_bipush (v := (60 : Int32)) rfl rfl rfl ?_
          refine S_icmp_ne (tgt := 392) rfl rfl rfl hx1 (show (60 : Int32).toInt = 60 from rfl) (fun vh26 => ?_) (fun q => absurd q (by omega))
          refine X_iconst (v := (5 : Int32)) rfl rfl rfl ?_
          refine S_putI (I := InvR _) rfl rfl rfl ((congrFun V.1 355).trans s_355) rfl rfl rfl rfl (InvR_putO V (by decide) trivial) (fun g V ve27 vn28 hq => ?_)
          have hG := hq.trans hG
          have hF := vSm.putN hF vn28 (by decide)
          have evz1 := (vn28 (355) 12 (Or.inr (by decide))).trans evz1
          have evz3 := (vn28 (355) 8 (Or.inr (by decide))).trans evz3
          have evz20 := (vn28 (361) ((vz2.toInt : Int).toNat) (Or.inl (by decide))).trans evz20
          have ve24 := (vn28 (355) 11 (Or.inr (by decide))).trans ve24
          exact LW_return (st := []) rfl rfl ⟨rfl, V, hG, hF, (by rw [evz1] <;> omega), (by rw [evz1] <;> omega), (by rw [evz1, ve24] <;> omega), (by rw [ve24, evz3] <;> omega), (by rw [evz3] <;> omega), (by have vk0 := (show (5 : Int32).toInt = 5 from rfl); rw [ve27, evz1, ve24] <;> omega)⟩
theorem C_X13_nextToken_all {P : Par} {g0 : LH} {d : Nat}  : ∀ n : Nat, (∀ (g : LH) (V : InvR P g) (hG : Gr g = Gr g0) (hF : vSm vsa g g0) (o1 : Option Value) (o2 : Option Value) (hq0 : 0 ≤ (Gi g 355 11).toInt) (hq1 : (Gi g 355 11).toInt ≤ (Gi g 355 8).toInt) (hq2 : (Gi g 355 8).toInt ≤ 300) (hq3 : (Gi g0 355 11).toInt ≤ (Gi g 355 11).toInt), (300 - (Gi g 355 11).toInt) * 1 + 604 < (n : Int) → LW 200 (d + 5) 0 0 0 [some (.ref 355), o1, o2] [] g (fun v g' => v = none ∧ InvR P g' ∧ Gr g' = Gr g0 ∧ vSm vsa g' g0 ∧ ((Gi g0 355 11).toInt ≤ (Gi g' 355 12).toInt) ∧ (0 ≤ (Gi g' 355 12).toInt) ∧ ((Gi g' 355 12).toInt ≤ (Gi g' 355 11).toInt) ∧ ((Gi g' 355 11).toInt ≤ (Gi g' 355 8).toInt) ∧ ((Gi g' 355 8).toInt ≤ 300) ∧ ((Gi g' 355 13).toInt = 0 ∨ (Gi g' 355 12).toInt < (Gi g' 355 11).toInt))) ∧ (∀ (g : LH) (V : InvR P g) (hG : Gr g = Gr g0) (hF : vSm vsa g g0) (o1 : Option Value) (o2 : Option Value) (hq0 : 0 ≤ (Gi g 355 11).toInt) (hq1 : (Gi g 355 11).toInt ≤ (Gi g 355 8).toInt) (hq2 : (Gi g 355 8).toInt ≤ 300) (hq3 : (Gi g0 355 11).toInt ≤ (Gi g 355 11).toInt), 603 < (n : Int) → LW 200 (d + 5) 0 0 39 [some (.ref 355), o1, o2] [] g (fun v g' => v = none ∧ InvR P g' ∧ Gr g' = Gr g0 ∧ vSm vsa g' g0 ∧ ((Gi g0 355 11).toInt ≤ (Gi g' 355 12).toInt) ∧ (0 ≤ (Gi g' 355 12).toInt) ∧ ((Gi g' 355 12).toInt ≤ (Gi g' 355 11).toInt) ∧ ((Gi g' 355 11).toInt ≤ (Gi g' 355 8).toInt) ∧ ((Gi g' 355 8).toInt ≤ 300) ∧ ((Gi g' 355 13).toInt = 0 ∨ (Gi g' 355 12).toInt < (Gi g' 355 11).toInt))) ∧ (∀ (g : LH) (V : InvR P g) (hG : Gr g = Gr g0) (hF : vSm vsa g g0) (x1 : Int32) (y1 : Int) (hx1 : x1.toInt = y1) (hf1 : 48 ≤ y1 ∧ y1 ≤ 57) (o2 : Option Value) (hq0 : 0 ≤ (Gi g 355 12).toInt) (hq1 : (Gi g 355 12).toInt ≤ (Gi g 355 11).toInt) (hq2 : (Gi g 355 11).toInt ≤ (Gi g 355 8).toInt) (hq3 : (Gi g 355 8).toInt ≤ 300) (hq4 : (Gi g0 355 11).toInt ≤ (Gi g 355 12).toInt) (hq5 : (Gi g 355 13).toInt = 1) (hq6 : (Gi g 355 12).toInt < (Gi g 355 11).toInt ∨ ((Gi g 355 11).toInt < (Gi g 355 8).toInt ∧ 48 ≤ (Gi g 361 (Int.toNat (Gi g 355 11).toInt)).toInt ∧ (Gi g 361 (Int.toNat (Gi g 355 11).toInt)).toInt ≤ 57)), (300 - (Gi g 355 11).toInt) * 1 + 302 < (n : Int) → LW 200 (d + 5) 0 0 85 [some (.ref 355), some (.int x1), o2] [] g (fun v g' => v = none ∧ InvR P g' ∧ Gr g' = Gr g0 ∧ vSm vsa g' g0 ∧ ((Gi g0 355 11).toInt ≤ (Gi g' 355 12).toInt) ∧ (0 ≤ (Gi g' 355 12).toInt) ∧ ((Gi g' 355 12).toInt ≤ (Gi g' 355 11).toInt) ∧ ((Gi g' 355 11).toInt ≤ (Gi g' 355 8).toInt) ∧ ((Gi g' 355 8).toInt ≤ 300) ∧ ((Gi g' 355 13).toInt = 0 ∨ (Gi g' 355 12).toInt < (Gi g' 355 11).toInt))) ∧ (∀ (g : LH) (V : InvR P g) (hG : Gr g = Gr g0) (hF : vSm vsa g g0) (x1 : Int32) (y1 : Int) (hx1 : x1.toInt = y1) (hf1 : 65 ≤ y1 ∧ y1 ≤ 122) (o2 : Option Value) (hq0 : 0 ≤ (Gi g 355 12).toInt) (hq1 : (Gi g 355 12).toInt ≤ (Gi g 355 11).toInt) (hq2 : (Gi g 355 11).toInt ≤ (Gi g 355 8).toInt) (hq3 : (Gi g 355 8).toInt ≤ 300) (hq4 : (Gi g0 355 11).toInt ≤ (Gi g 355 12).toInt) (hq5 : (Gi g 355 13).toInt = 2) (hq6 : (Gi g 355 12).toInt < (Gi g 355 11).toInt ∨ ((Gi g 355 11).toInt < (Gi g 355 8).toInt ∧ ((65 ≤ (Gi g 361 (Int.toNat (Gi g 355 11).toInt)).toInt ∧ (Gi g 361 (Int.toNat (Gi g 355 11).toInt)).toInt ≤ 90) ∨ (97 ≤ (Gi g 361 (Int.toNat (Gi g 355 11).toInt)).toInt ∧ (Gi g 361 (Int.toNat (Gi g 355 11).toInt)).toInt ≤ 122)))), (300 - (Gi g 355 11).toInt) * 1 + 0 < (n : Int) → LW 200 (d + 5) 0 0 161 [some (.ref 355), some (.int x1), o2] [] g (fun v g' => v = none ∧ InvR P g' ∧ Gr g' = Gr g0 ∧ vSm vsa g' g0 ∧ ((Gi g0 355 11).toInt ≤ (Gi g' 355 12).toInt) ∧ (0 ≤ (Gi g' 355 12).toInt) ∧ ((Gi g' 355 12).toInt ≤ (Gi g' 355 11).toInt) ∧ ((Gi g' 355 11).toInt ≤ (Gi g' 355 8).toInt) ∧ ((Gi g' 355 8).toInt ≤ 300) ∧ ((Gi g' 355 13).toInt = 0 ∨ (Gi g' 355 12).toInt < (Gi g' 355 11).toInt))) ∧ (∀ (g : LH) (V : InvR P g) (hG : Gr g = Gr g0) (hF : vSm vsa g g0) (x1 : Int32) (y1 : Int) (hx1 : x1.toInt = y1) (hf1 : 0 ≤ y1 ∧ y1 ≤ 255) (x2 : Int32) (y2 : Int) (hx2 : x2.toInt = y2) (hf2 : 0 ≤ y2 ∧ y2 ≤ 1) (hq0 : 0 ≤ (Gi g 355 12).toInt) (hq1 : (Gi g 355 12).toInt < (Gi g 355 11).toInt) (hq2 : (Gi g 355 11).toInt ≤ (Gi g 355 8).toInt) (hq3 : (Gi g 355 8).toInt ≤ 300) (hq4 : (Gi g0 355 11).toInt ≤ (Gi g 355 12).toInt), 0 < (n : Int) → LW 200 (d + 5) 0 0 346 [some (.ref 355), some (.int x1), some (.int x2)] [] g (fun v g' => v = none ∧ InvR P g' ∧ Gr g' = Gr g0 ∧ vSm vsa g' g0 ∧ ((Gi g0 355 11).toInt ≤ (Gi g' 355 12).toInt) ∧ (0 ≤ (Gi g' 355 12).toInt) ∧ ((Gi g' 355 12).toInt ≤ (Gi g' 355 11).toInt) ∧ ((Gi g' 355 11).toInt ≤ (Gi g' 355 8).toInt) ∧ ((Gi g' 355 8).toInt ≤ 300) ∧ ((Gi g' 355 13).toInt = 0 ∨ (Gi g' 355 12).toInt < (Gi g' 355 11).toInt))) := by
  intro n
  induction n with
  | zero => exact ⟨fun g V hG hF o1 o2 hq0 hq1 hq2 hq3 hmu => absurd hmu (by omega), fun g V hG hF o1 o2 hq0 hq1 hq2 hq3 hmu => absurd hmu (by omega), fun g V hG hF x1 y1 hx1 hf1 o2 hq0 hq1 hq2 hq3 hq4 hq5 hq6 hmu => absurd hmu (by omega), fun g V hG hF x1 y1 hx1 hf1 o2 hq0 hq1 hq2 hq3 hq4 hq5 hq6 hmu => absurd hmu (by omega), fun g V hG hF x1 y1 hx1 hf1 x2 y2 hx2 hf2 hq0 hq1 hq2 hq3 hq4 hmu => absurd hmu (by omega)⟩
  | succ n ih => exact ⟨fun g V hG hF o1 o2 hq0 hq1 hq2 hq3 hmu => C_X13_nextToken_0  V hG hF o1 o2 hq0 hq1 hq2 hq3 (by omega) ih.1 ih.2.1 ih.2.2.1 ih.2.2.2.1 ih.2.2.2.2, fun g V hG hF o1 o2 hq0 hq1 hq2 hq3 hmu => C_X13_nextToken_39  V hG hF o1 o2 hq0 hq1 hq2 hq3 (by omega) ih.1 ih.2.1 ih.2.2.1 ih.2.2.2.1 ih.2.2.2.2, fun g V hG hF x1 y1 hx1 hf1 o2 hq0 hq1 hq2 hq3 hq4 hq5 hq6 hmu => C_X13_nextToken_85  V hG hF x1 y1 hx1 hf1 o2 hq0 hq1 hq2 hq3 hq4 hq5 hq6 (by omega) ih.1 ih.2.1 ih.2.2.1 ih.2.2.2.1 ih.2.2.2.2, fun g V hG hF x1 y1 hx1 hf1 o2 hq0 hq1 hq2 hq3 hq4 hq5 hq6 hmu => C_X13_nextToken_161  V hG hF x1 y1 hx1 hf1 o2 hq0 hq1 hq2 hq3 hq4 hq5 hq6 (by omega) ih.1 ih.2.1 ih.2.2.1 ih.2.2.2.1 ih.2.2.2.2, fun g V hG hF x1 y1 hx1 hf1 x2 y2 hx2 hf2 hq0 hq1 hq2 hq3 hq4 hmu => C_X13_nextToken_346  V hG hF x1 y1 hx1 hf1 x2 y2 hx2 hf2 hq0 hq1 hq2 hq3 hq4 (by omega) ih.1 ih.2.1 ih.2.2.1 ih.2.2.2.1 ih.2.2.2.2⟩
set_option maxRecDepth 10000 in
set_option maxHeartbeats 40000000 in
theorem C_X13_nextToken {P : Par} {g : LH} {d : Nat}  (V : InvR P g)  (hq0 : 0 ≤ (Gi g 355 11).toInt) (hq1 : (Gi g 355 11).toInt ≤ (Gi g 355 8).toInt) (hq2 : (Gi g 355 8).toInt ≤ 300)  : LW 200 (d + 5) 0 0 0 (lEnt (mL 200) [.ref 355]) [] g (fun v g' => v = none ∧ InvR P g' ∧ Gr g' = Gr g ∧ vSm vsa g' g ∧ ((Gi g 355 11).toInt ≤ (Gi g' 355 12).toInt) ∧ (0 ≤ (Gi g' 355 12).toInt) ∧ ((Gi g' 355 12).toInt ≤ (Gi g' 355 11).toInt) ∧ ((Gi g' 355 11).toInt ≤ (Gi g' 355 8).toInt) ∧ ((Gi g' 355 8).toInt ≤ 300) ∧ ((Gi g' 355 13).toInt = 0 ∨ (Gi g' 355 12).toInt < (Gi g' 355 11).toInt)) := by
  refine LW_ls (ls' := [some (.ref 355), none, none]) rfl ?_
  have hG : Gr g = Gr g := rfl
  have hF : vSm vsa g g := vSm.refl
  obtain ⟨vz1, evz1⟩ : ∃ z, Gi g 355 11 = z := ⟨_, rfl⟩
  rw [evz1] at hq0
  rw [evz1] at hq1
  obtain ⟨vz2, evz2⟩ : ∃ z, Gi g 355 8 = z := ⟨_, rfl⟩
  have vf3 := O_355_8 (V.2.2.2.2.2.2.1 355 (8) (Nat.le_of_ble_eq_true rfl))
  rw [evz2] at vf3
  rw [evz2] at hq1
  rw [evz2] at hq2
  have vo355_11 : (Gi g 355 11).toInt = vz1.toInt := congrArg Int32.toInt evz1
  exact (C_X13_nextToken_all (((300 - (Gi g 355 11).toInt) * 1 + 604) + 1 : Int).toNat).1 _ V hG hF none none  (by rw [evz1] <;> omega) (by rw [evz1, evz2] <;> omega) (by rw [evz2] <;> omega) (by rw [evz1] <;> omega)  (by rw [evz1] <;> omega)
