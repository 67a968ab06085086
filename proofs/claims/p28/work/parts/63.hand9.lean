/-! the reference: weigh -/
set_option maxRecDepth 10000 in
set_option maxHeartbeats 40000000 in
theorem C_X13_weigh_8 {P : Par} {g g0 : LH} {d n : Nat}  (V : InvR P g) (hG : Gr g = Gr g0) (hA : (Gi g 366 = Gi g0 366 ∧ Gi g 356 = Gi g0 356)) (x1 : Int32) (y1 : Int) (hx1 : x1.toInt = y1) (hf1 : 1 ≤ y1 ∧ y1 ≤ 4) (x2 : Int32) (y2 : Int) (hx2 : x2.toInt = y2) (x3 : Int32) (y3 : Int) (hx3 : x3.toInt = y3) (x4 : Int32) (y4 : Int) (hx4 : x4.toInt = y4) (hf4 : 0 ≤ y4 ∧ y4 ≤ 40) (x5 : Int32) (y5 : Int) (hx5 : x5.toInt = y5) (hf5 : 0 ≤ y5 ∧ y5 ≤ 4) (hq0 : (Gi g 355 39).toInt ≤ 4) (hq1 : y4 ≤ 8 * y5) (hq2 : ∀ k : Nat, ↑k < y1 → 0 ≤ (Gi g 366 k).toInt ∧ (Gi g 366 k).toInt ≤ 23) (hmu : (4 - y5) * 1 + 6 < (n : Int) + 1) (ih8 : ∀ (g : LH) (V : InvR P g) (hG : Gr g = Gr g0) (hA : (Gi g 366 = Gi g0 366 ∧ Gi g 356 = Gi g0 356)) (x1 : Int32) (y1 : Int) (hx1 : x1.toInt = y1) (hf1 : 1 ≤ y1 ∧ y1 ≤ 4) (x2 : Int32) (y2 : Int) (hx2 : x2.toInt = y2) (x3 : Int32) (y3 : Int) (hx3 : x3.toInt = y3) (x4 : Int32) (y4 : Int) (hx4 : x4.toInt = y4) (hf4 : 0 ≤ y4 ∧ y4 ≤ 40) (x5 : Int32) (y5 : Int) (hx5 : x5.toInt = y5) (hf5 : 0 ≤ y5 ∧ y5 ≤ 4) (hq0 : (Gi g 355 39).toInt ≤ 4) (hq1 : y4 ≤ 8 * y5) (hq2 : ∀ k : Nat, ↑k < y1 → 0 ≤ (Gi g 366 k).toInt ∧ (Gi g 366 k).toInt ≤ 23), (4 - y5) * 1 + 6 < (n : Int) → LW 302 (d + 12) 0 0 8 [some (.ref 355), some (.int x1), some (.int x2), some (.int x3), some (.int x4), some (.int x5)] [] g (fun v g' => v = none ∧ InvR P g' ∧ Gr g' = Gr g0 ∧ (Gi g' 366 = Gi g0 366 ∧ Gi g' 356 = Gi g0 356) ∧ ((Gi g' 355 39).toInt ≤ 4))) (ih82 : ∀ (g : LH) (V : InvR P g) (hG : Gr g = Gr g0) (hA : (Gi g 366 = Gi g0 366 ∧ Gi g 356 = Gi g0 356)) (x1 : Int32) (y1 : Int) (hx1 : x1.toInt = y1) (hf1 : 1 ≤ y1 ∧ y1 ≤ 4) (x2 : Int32) (y2 : Int) (hx2 : x2.toInt = y2) (x3 : Int32) (y3 : Int) (hx3 : x3.toInt = y3) (x4 : Int32) (y4 : Int) (hx4 : x4.toInt = y4) (hf4 : 0 ≤ y4 ∧ y4 ≤ 40) (x5 : Int32) (y5 : Int) (hx5 : x5.toInt = y5) (hf5 : 0 ≤ y5 ∧ y5 ≤ 4) (hc355_38 : 0 ≤ (Gi g 355 38).toInt ∧ (Gi g 355 38).toInt ≤ 40) (hc355_39 : 1 ≤ (Gi g 355 39).toInt ∧ (Gi g 355 39).toInt ≤ 4) (hq0 : (Gi g 355 39).toInt ≤ 4), (4 - y5) * 1 + 0 < (n : Int) → LW 302 (d + 12) 0 0 82 [some (.ref 355), some (.int x1), some (.int x2), some (.int x3), some (.int x4), some (.int x5)] [] g (fun v g' => v = none ∧ InvR P g' ∧ Gr g' = Gr g0 ∧ (Gi g' 366 = Gi g0 366 ∧ Gi g' 356 = Gi g0 356) ∧ ((Gi g' 355 39).toInt ≤ 4))) : LW 302 (d + 12) 0 0 8 [some (.ref 355), some (.int x1), some (.int x2), some (.int x3), some (.int x4), some (.int x5)] [] g (fun v g' => v = none ∧ InvR P g' ∧ Gr g' = Gr g0 ∧ (Gi g' 366 = Gi g0 366 ∧ Gi g' 356 = Gi g0 356) ∧ ((Gi g' 355 39).toInt ≤ 4)) := by
  obtain ⟨vz1, evz1⟩ : ∃ z, Gi g 355 39 = z := ⟨_, rfl⟩
  rw [evz1] at hq0
  refine X_iload rfl rfl rfl ?_
  refine X_iload_n rfl rfl rfl rfl ?_
  refine S_icmp_ge (tgt := 50) rfl rfl rfl hx5 hx1 (fun vh2 => ?_) (fun vh2 => ?_)
  · refine X_iload_n rfl rfl rfl rfl ?_
    refine X_iload_n rfl rfl rfl rfl ?_
    refine X_iconst (v := (-1 : Int32)) rfl rfl rfl ?_
    refine S_ixorT rfl rfl (fun vz3 => ?_)
    refine S_iandT rfl rfl (fun vz4 => ?_)
    refine S_if_ne (tgt := 67) rfl rfl rfl rfl (fun vh5 => ?_) (fun vh5 => ?_)
    · exact LW_return (st := []) rfl rfl ⟨rfl, V, hG, hA, (by rw [evz1]; omega)⟩
    · refine X_iload rfl rfl rfl ?_
      refine X_aload_n rfl rfl rfl rfl ?_
      refine S_getI rfl rfl rfl ((congrFun V.1 355).trans s_355) rfl (fun vz6 evz6 => ?_)
      refine S_icmp_lt (tgt := 68) rfl rfl rfl hx4 rfl (fun vh7 => ?_) (fun vh7 => ?_)
      · refine X_aload_n rfl rfl rfl rfl ?_
        refine X_iload rfl rfl rfl ?_
        refine S_putI (I := InvR _) rfl rfl rfl ((congrFun V.1 355).trans s_355) rfl rfl rfl rfl (InvR_putO V (by decide) trivial) (fun g V ve8 vn9 hq => ?_)
        have hG := hq.trans hG
        have hA := And.intro ((funext fun k => vn9 366 k (Or.inl (by decide))).trans hA.1) ((funext fun k => vn9 356 k (Or.inl (by decide))).trans hA.2)
        have evz1 := (vn9 (355) 39 (Or.inr (by decide))).trans evz1
        refine X_aload_n rfl rfl rfl rfl ?_
        refine X_iload_n rfl rfl rfl rfl ?_
        refine S_putI (I := InvR _) rfl rfl rfl ((congrFun V.1 355).trans s_355) rfl rfl rfl rfl (InvR_putO V (by decide) trivial) (fun g V ve10 vn11 hq => ?_)
        have hG := hq.trans hG
        have hA := And.intro ((funext fun k => vn11 366 k (Or.inl (by decide))).trans hA.1) ((funext fun k => vn11 356 k (Or.inl (by decide))).trans hA.2)
        have ve8 := (vn11 (355) 38 (Or.inr (by decide))).trans ve8
        refine X_iconst (v := (0 : Int32)) rfl rfl rfl ?_
        refine X_istore (i := 5) (ls' := [some (.ref 355), some (.int x1), some (.int x2), some (.int x3), some (.int x4), some (.int (0 : Int32))]) rfl rfl (Nat.le_of_ble_eq_true rfl) rfl ?_
        exact ih82 _ V hG hA x1 y1 hx1 (by omega) x2 y2 hx2 x3 y3 hx3 x4 y4 hx4 (by omega) (0 : Int32) 0 (show (0 : Int32).toInt = 0 from rfl) (by omega) (by rw [ve8]; omega) (by rw [ve10]; omega) (by rw [ve10]; omega)  (by omega)
      · exact LW_return (st := []) rfl rfl ⟨rfl, V, hG, hA, (by rw [evz1]; omega)⟩
  · refine X_iload_n rfl rfl rfl rfl ?_
    refine X_aload_n rfl rfl rfl rfl ?_
    refine X_aload_n rfl rfl rfl rfl ?_
    refine X_getR (a := 366) rfl rfl rfl ((congrFun V.1 355).trans s_355) rfl ((congrFun (V.2.1 355 (by decide)) 29).trans r_355_29) ?_
    refine X_iload rfl rfl rfl ?_
    refine S_iald rfl rfl ((congrFun V.1 366).trans s_366) hx5 (by omega) (fun vz12 evz12 => ?_)
    have vf13 := hq2 (Int.toNat (y5)) (by omega)
    rw [evz12] at vf13
    refine Y_callV (as := [.int vz12]) (st := [.int x3]) rfl rfl rfl (by decide) rfl (Nat.le_of_ble_eq_true rfl) (by decide) (Nat.le_of_ble_eq_true rfl) rfl ((congrFun V.1 355).trans s_355) (by decide) (C_X13_setOf V vz12 vz12.toInt rfl (by omega) ) ?_
    rintro _ g' ⟨vr14, rfl, hgg⟩
    subst hgg
    refine S_iorT rfl rfl (fun vz15 => ?_)
    refine X_istore_n (i := 3) (ls' := [some (.ref 355), some (.int x1), some (.int x2), some (.int vz15), some (.int x4), some (.int x5)]) rfl rfl rfl (Nat.le_of_ble_eq_true rfl) rfl ?_
    refine X_iload rfl rfl rfl ?_
    refine X_aload_n rfl rfl rfl rfl ?_
    refine X_aload_n rfl rfl rfl rfl ?_
    refine X_getR (a := 366) rfl rfl rfl ((congrFun V.1 355).trans s_355) rfl ((congrFun (V.2.1 355 (by decide)) 29).trans r_355_29) ?_
    refine X_iload rfl rfl rfl ?_
    refine S_iald_v rfl rfl ((congrFun V.1 366).trans s_366) hx5 (by omega) evz12 ?_
    refine X_callV (as := [.int vz12]) (st := [.int x4]) rfl rfl rfl (by decide) rfl (Nat.le_of_ble_eq_true rfl) (by decide) (Nat.le_of_ble_eq_true rfl) rfl ((congrFun V.1 355).trans s_355) (by decide) ?_
    refine LW_ls (ls' := [some (.ref 355), some (.int vz12)]) rfl ?_
    refine X_aload_n rfl rfl rfl rfl ?_
    refine X_getR (a := 356) rfl rfl rfl ((congrFun V.1 355).trans s_355) rfl ((congrFun (V.2.1 355 (by decide)) 0).trans r_355_0) ?_
    refine X_bipush (v := (116 : Int32)) rfl rfl rfl ?_
    refine X_bipush (v := (10 : Int32)) rfl rfl rfl ?_
    refine X_iload_n rfl rfl rfl rfl ?_
    refine S_imul rfl rfl (show (10 : Int32).toInt = 10 from rfl) rfl (by omega) (fun vz17 hvz17 => ?_)
    refine S_iadd rfl rfl (show (116 : Int32).toInt = 116 from rfl) rfl (by omega) (fun vz18 hvz18 => ?_)
    refine X_bipush (v := (8 : Int32)) rfl rfl rfl ?_
    refine S_iadd rfl rfl rfl (show (8 : Int32).toInt = 8 from rfl) (by omega) (fun vz19 hvz19 => ?_)
    refine S_iald rfl rfl ((congrFun V.1 356).trans s_356) rfl (by omega) (fun vz20 evz20 => ?_)
    have vf21 := A_LENGTH (V.2.2.2.1 ((vz19.toInt : Int).toNat)) (by omega)
    rw [evz20] at vf21
    refine LW_ireturn (st := []) rfl rfl rfl ?_
    refine S_iadd rfl rfl hx4 rfl (by omega) (fun vz22 hvz22 => ?_)
    refine X_istore (i := 4) (ls' := [some (.ref 355), some (.int x1), some (.int x2), some (.int vz15), some (.int vz22), some (.int x5)]) rfl rfl (Nat.le_of_ble_eq_true rfl) rfl ?_
    refine S_iinc (c := 1) rfl rfl rfl hx5 rfl (by omega) (fun vz23 hvz23 => ?_)
    refine LW_ls (ls' := [some (.ref 355), some (.int x1), some (.int x2), some (.int vz15), some (.int vz22), some (.int vz23)]) rfl ?_
    refine LW_goto (tgt := 8) rfl rfl ?_
    exact ih8 _ V hG hA x1 y1 hx1 (by omega) x2 y2 hx2 vz15 vz15.toInt rfl vz22 vz22.toInt rfl (by omega) vz23 vz23.toInt rfl (by omega)  (by rw [evz1]; omega) (by omega) (hq2)  (by omega)
set_option maxRecDepth 10000 in
set_option maxHeartbeats 40000000 in
theorem C_X13_weigh_82 {P : Par} {g g0 : LH} {d n : Nat}  (V : InvR P g) (hG : Gr g = Gr g0) (hA : (Gi g 366 = Gi g0 366 ∧ Gi g 356 = Gi g0 356)) (x1 : Int32) (y1 : Int) (hx1 : x1.toInt = y1) (hf1 : 1 ≤ y1 ∧ y1 ≤ 4) (x2 : Int32) (y2 : Int) (hx2 : x2.toInt = y2) (x3 : Int32) (y3 : Int) (hx3 : x3.toInt = y3) (x4 : Int32) (y4 : Int) (hx4 : x4.toInt = y4) (hf4 : 0 ≤ y4 ∧ y4 ≤ 40) (x5 : Int32) (y5 : Int) (hx5 : x5.toInt = y5) (hf5 : 0 ≤ y5 ∧ y5 ≤ 4) (hc355_38 : 0 ≤ (Gi g 355 38).toInt ∧ (Gi g 355 38).toInt ≤ 40) (hc355_39 : 1 ≤ (Gi g 355 39).toInt ∧ (Gi g 355 39).toInt ≤ 4) (hq0 : (Gi g 355 39).toInt ≤ 4) (hmu : (4 - y5) * 1 + 0 < (n : Int) + 1) (ih8 : ∀ (g : LH) (V : InvR P g) (hG : Gr g = Gr g0) (hA : (Gi g 366 = Gi g0 366 ∧ Gi g 356 = Gi g0 356)) (x1 : Int32) (y1 : Int) (hx1 : x1.toInt = y1) (hf1 : 1 ≤ y1 ∧ y1 ≤ 4) (x2 : Int32) (y2 : Int) (hx2 : x2.toInt = y2) (x3 : Int32) (y3 : Int) (hx3 : x3.toInt = y3) (x4 : Int32) (y4 : Int) (hx4 : x4.toInt = y4) (hf4 : 0 ≤ y4 ∧ y4 ≤ 40) (x5 : Int32) (y5 : Int) (hx5 : x5.toInt = y5) (hf5 : 0 ≤ y5 ∧ y5 ≤ 4) (hq0 : (Gi g 355 39).toInt ≤ 4) (hq1 : y4 ≤ 8 * y5) (hq2 : ∀ k : Nat, ↑k < y1 → 0 ≤ (Gi g 366 k).toInt ∧ (Gi g 366 k).toInt ≤ 23), (4 - y5) * 1 + 6 < (n : Int) → LW 302 (d + 12) 0 0 8 [some (.ref 355), some (.int x1), some (.int x2), some (.int x3), some (.int x4), some (.int x5)] [] g (fun v g' => v = none ∧ InvR P g' ∧ Gr g' = Gr g0 ∧ (Gi g' 366 = Gi g0 366 ∧ Gi g' 356 = Gi g0 356) ∧ ((Gi g' 355 39).toInt ≤ 4))) (ih82 : ∀ (g : LH) (V : InvR P g) (hG : Gr g = Gr g0) (hA : (Gi g 366 = Gi g0 366 ∧ Gi g 356 = Gi g0 356)) (x1 : Int32) (y1 : Int) (hx1 : x1.toInt = y1) (hf1 : 1 ≤ y1 ∧ y1 ≤ 4) (x2 : Int32) (y2 : Int) (hx2 : x2.toInt = y2) (x3 : Int32) (y3 : Int) (hx3 : x3.toInt = y3) (x4 : Int32) (y4 : Int) (hx4 : x4.toInt = y4) (hf4 : 0 ≤ y4 ∧ y4 ≤ 40) (x5 : Int32) (y5 : Int) (hx5 : x5.toInt = y5) (hf5 : 0 ≤ y5 ∧ y5 ≤ 4) (hc355_38 : 0 ≤ (Gi g 355 38).toInt ∧ (Gi g 355 38).toInt ≤ 40) (hc355_39 : 1 ≤ (Gi g 355 39).toInt ∧ (Gi g 355 39).toInt ≤ 4) (hq0 : (Gi g 355 39).toInt ≤ 4), (4 - y5) * 1 + 0 < (n : Int) → LW 302 (d + 12) 0 0 82 [some (.ref 355), some (.int x1), some (.int x2), some (.int x3), some (.int x4), some (.int x5)] [] g (fun v g' => v = none ∧ InvR P g' ∧ Gr g' = Gr g0 ∧ (Gi g' 366 = Gi g0 366 ∧ Gi g' 356 = Gi g0 356) ∧ ((Gi g' 355 39).toInt ≤ 4))) : LW 302 (d + 12) 0 0 82 [some (.ref 355), some (.int x1), some (.int x2), some (.int x3), some (.int x4), some (.int x5)] [] g (fun v g' => v = none ∧ InvR P g' ∧ Gr g' = Gr g0 ∧ (Gi g' 366 = Gi g0 366 ∧ Gi g' 356 = Gi g0 356) ∧ ((Gi g' 355 39).toInt ≤ 4)) := by
  obtain ⟨vz1, evz1⟩ : ∃ z, Gi g 355 38 = z := ⟨_, rfl⟩
  rw [evz1] at hc355_38
  obtain ⟨vz2, evz2⟩ : ∃ z, Gi g 355 39 = z := ⟨_, rfl⟩
  rw [evz2] at hc355_39
  rw [evz2] at hq0
  refine X_iload rfl rfl rfl ?_
  refine X_iload_n rfl rfl rfl rfl ?_
  refine S_icmp_ge (tgt := 108) rfl rfl rfl hx5 hx1 (fun vh3 => ?_) (fun vh3 => ?_)
  · exact LW_return (st := []) rfl rfl ⟨rfl, V, hG, hA, (by rw [evz2]; omega)⟩
  · refine X_aload_n rfl rfl rfl rfl ?_
    refine X_getR (a := 373) rfl rfl rfl ((congrFun V.1 355).trans s_355) rfl ((congrFun (V.2.1 355 (by decide)) 37).trans r_355_37) ?_
    refine X_iload rfl rfl rfl ?_
    refine X_aload_n rfl rfl rfl rfl ?_
    refine X_getR (a := 366) rfl rfl rfl ((congrFun V.1 355).trans s_355) rfl ((congrFun (V.2.1 355 (by decide)) 29).trans r_355_29) ?_
    refine X_iload rfl rfl rfl ?_
    refine S_iald rfl rfl ((congrFun V.1 366).trans s_366) hx5 (by omega) (fun vz4 evz4 => ?_)
    refine S_iast (I := InvR _) rfl rfl ((congrFun V.1 373).trans s_373) hx5 (by omega) (InvR_putO V (by decide) trivial) (fun g V ve5 vn6 hq => ?_)
    have hG := hq.trans hG
    have hA := And.intro ((funext fun k => vn6 366 k (Or.inl (by decide))).trans hA.1) ((funext fun k => vn6 356 k (Or.inl (by decide))).trans hA.2)
    have evz1 := (vn6 (355) 38 (Or.inl (by decide))).trans evz1
    have evz2 := (vn6 (355) 39 (Or.inl (by decide))).trans evz2
    have evz4 := (vn6 (366) ((y5 : Int).toNat) (Or.inl (by decide))).trans evz4
    refine S_iinc (c := 1) rfl rfl rfl hx5 rfl (by omega) (fun vz7 hvz7 => ?_)
    refine LW_ls (ls' := [some (.ref 355), some (.int x1), some (.int x2), some (.int x3), some (.int x4), some (.int vz7)]) rfl ?_
    refine LW_goto (tgt := 82) rfl rfl ?_
    exact ih82 _ V hG hA x1 y1 hx1 (by omega) x2 y2 hx2 x3 y3 hx3 x4 y4 hx4 (by omega) vz7 vz7.toInt rfl (by omega) (by rw [evz1]; omega) (by rw [evz2]; omega) (by rw [evz2]; omega)  (by omega)
theorem C_X13_weigh_all {P : Par} {g0 : LH} {d : Nat}  : ∀ n : Nat, (∀ (g : LH) (V : InvR P g) (hG : Gr g = Gr g0) (hA : (Gi g 366 = Gi g0 366 ∧ Gi g 356 = Gi g0 356)) (x1 : Int32) (y1 : Int) (hx1 : x1.toInt = y1) (hf1 : 1 ≤ y1 ∧ y1 ≤ 4) (x2 : Int32) (y2 : Int) (hx2 : x2.toInt = y2) (x3 : Int32) (y3 : Int) (hx3 : x3.toInt = y3) (x4 : Int32) (y4 : Int) (hx4 : x4.toInt = y4) (hf4 : 0 ≤ y4 ∧ y4 ≤ 40) (x5 : Int32) (y5 : Int) (hx5 : x5.toInt = y5) (hf5 : 0 ≤ y5 ∧ y5 ≤ 4) (hq0 : (Gi g 355 39).toInt ≤ 4) (hq1 : y4 ≤ 8 * y5) (hq2 : ∀ k : Nat, ↑k < y1 → 0 ≤ (Gi g 366 k).toInt ∧ (Gi g 366 k).toInt ≤ 23), (4 - y5) * 1 + 6 < (n : Int) → LW 302 (d + 12) 0 0 8 [some (.ref 355), some (.int x1), some (.int x2), some (.int x3), some (.int x4), some (.int x5)] [] g (fun v g' => v = none ∧ InvR P g' ∧ Gr g' = Gr g0 ∧ (Gi g' 366 = Gi g0 366 ∧ Gi g' 356 = Gi g0 356) ∧ ((Gi g' 355 39).toInt ≤ 4))) ∧ (∀ (g : LH) (V : InvR P g) (hG : Gr g = Gr g0) (hA : (Gi g 366 = Gi g0 366 ∧ Gi g 356 = Gi g0 356)) (x1 : Int32) (y1 : Int) (hx1 : x1.toInt = y1) (hf1 : 1 ≤ y1 ∧ y1 ≤ 4) (x2 : Int32) (y2 : Int) (hx2 : x2.toInt = y2) (x3 : Int32) (y3 : Int) (hx3 : x3.toInt = y3) (x4 : Int32) (y4 : Int) (hx4 : x4.toInt = y4) (hf4 : 0 ≤ y4 ∧ y4 ≤ 40) (x5 : Int32) (y5 : Int) (hx5 : x5.toInt = y5) (hf5 : 0 ≤ y5 ∧ y5 ≤ 4) (hc355_38 : 0 ≤ (Gi g 355 38).toInt ∧ (Gi g 355 38).toInt ≤ 40) (hc355_39 : 1 ≤ (Gi g 355 39).toInt ∧ (Gi g 355 39).toInt ≤ 4) (hq0 : (Gi g 355 39).toInt ≤ 4), (4 - y5) * 1 + 0 < (n : Int) → LW 302 (d + 12) 0 0 82 [some (.ref 355), some (.int x1), some (.int x2), some (.int x3), some (.int x4), some (.int x5)] [] g (fun v g' => v = none ∧ InvR P g' ∧ Gr g' = Gr g0 ∧ (Gi g' 366 = Gi g0 366 ∧ Gi g' 356 = Gi g0 356) ∧ ((Gi g' 355 39).toInt ≤ 4))) := by
  intro n
  induction n with
  | zero => exact ⟨fun g V hG hA x1 y1 hx1 hf1 x2 y2 hx2 x3 y3 hx3 x4 y4 hx4 hf4 x5 y5 hx5 hf5 hq0 hq1 hq2 hmu => absurd hmu (by omega), fun g V hG hA x1 y1 hx1 hf1 x2 y2 hx2 x3 y3 hx3 x4 y4 hx4 hf4 x5 y5 hx5 hf5 hc355_38 hc355_39 hq0 hmu => absurd hmu (by omega)⟩
  | succ n ih => exact ⟨fun g V hG hA x1 y1 hx1 hf1 x2 y2 hx2 x3 y3 hx3 x4 y4 hx4 hf4 x5 y5 hx5 hf5 hq0 hq1 hq2 hmu => C_X13_weigh_8  V hG hA x1 y1 hx1 hf1 x2 y2 hx2 x3 y3 hx3 x4 y4 hx4 hf4 x5 y5 hx5 hf5 hq0 hq1 hq2 (by omega) ih.1 ih.2, fun g V hG hA x1 y1 hx1 hf1 x2 y2 hx2 x3 y3 hx3 x4 y4 hx4 hf4 x5 y5 hx5 hf5 hc355_38 hc355_39 hq0 hmu => C_X13_weigh_82  V hG hA x1 y1 hx1 hf1 x2 y2 hx2 x3 y3 hx3 x4 y4 hx4 hf4 x5 y5 hx5 hf5 hc355_38 hc355_39 hq0 (by omega) ih.1 ih.2⟩
set_option maxRecDepth 10000 in
set_option maxHeartbeats 40000000 in
theorem C_X13_weigh {P : Par} {g : LH} {d : Nat}  (V : InvR P g) (x1 : Int32) (y1 : Int) (hx1 : x1.toInt = y1) (hf1 : 1 ≤ y1 ∧ y1 ≤ 4) (x2 : Int32) (y2 : Int) (hx2 : x2.toInt = y2) (hq0 : (Gi g 355 39).toInt ≤ 4) (hq1 : ∀ k : Nat, ↑k < y1 → 0 ≤ (Gi g 366 k).toInt ∧ (Gi g 366 k).toInt ≤ 23)  : LW 302 (d + 12) 0 0 0 (lEnt (mL 302) [.ref 355, .int x1, .int x2]) [] g (fun v g' => v = none ∧ InvR P g' ∧ Gr g' = Gr g ∧ (Gi g' 366 = Gi g 366 ∧ Gi g' 356 = Gi g 356) ∧ ((Gi g' 355 39).toInt ≤ 4)) := by
  refine LW_ls (ls' := [some (.ref 355), some (.int x1), some (.int x2), none, none, none]) rfl ?_
  have hG : Gr g = Gr g := rfl
  have hA : (Gi g 366 = Gi g 366 ∧ Gi g 356 = Gi g 356) := And.intro rfl rfl
  obtain ⟨vz1, evz1⟩ : ∃ z, Gi g 355 39 = z := ⟨_, rfl⟩
  rw [evz1] at hq0
  refine X_iconst (v := (0 : Int32)) rfl rfl rfl ?_
  refine X_istore_n (i := 3) (ls' := [some (.ref 355), some (.int x1), some (.int x2), some (.int (0 : Int32)), none, none]) rfl rfl rfl (Nat.le_of_ble_eq_true rfl) rfl ?_
  refine X_iconst (v := (0 : Int32)) rfl rfl rfl ?_
  refine X_istore (i := 4) (ls' := [some (.ref 355), some (.int x1), some (.int x2), some (.int (0 : Int32)), some (.int (0 : Int32)), none]) rfl rfl (Nat.le_of_ble_eq_true rfl) rfl ?_
  refine X_iconst (v := (0 : Int32)) rfl rfl rfl ?_
  refine X_istore (i := 5) (ls' := [some (.ref 355), some (.int x1), some (.int x2), some (.int (0 : Int32)), some (.int (0 : Int32)), some (.int (0 : Int32))]) rfl rfl (Nat.le_of_ble_eq_true rfl) rfl ?_
  exact (C_X13_weigh_all (((4 - 0) * 1 + 6) + 1 : Int).toNat).1 _ V hG hA x1 y1 hx1 (by omega) x2 y2 hx2 (0 : Int32) 0 (show (0 : Int32).toInt = 0 from rfl) (0 : Int32) 0 (show (0 : Int32).toInt = 0 from rfl) (by omega) (0 : Int32) 0 (show (0 : Int32).toInt = 0 from rfl) (by omega)  (by rw [evz1]; omega) (by omega) (hq1)  (by omega)
