/-! the reference: learn -/
set_option maxRecDepth 10000 in
set_option maxHeartbeats 40000000 in
theorem C_X13_learn_16 {P : Par} {g g0 : LH} {d n : Nat}  (V : InvR P g) (hG : Gr g = Gr g0) (x1 : Int32) (y1 : Int) (hx1 : x1.toInt = y1) (hf1 : 1 ≤ y1 ∧ y1 ≤ 4) (x2 : Int32) (y2 : Int) (hx2 : x2.toInt = y2) (hf2 : 0 ≤ y2 ∧ y2 ≤ 1) (x3 : Int32) (y3 : Int) (hx3 : x3.toInt = y3) (hf3 : 0 ≤ y3 ∧ y3 ≤ 26) (x4 : Int32) (y4 : Int) (hx4 : x4.toInt = y4) (hf4 : 0 ≤ y4 ∧ y4 ≤ 26) (o5 : Option Value) (o6 : Option Value) (o7 : Option Value) (o8 : Option Value) (o9 : Option Value) (hq0 : y3 ≤ y4) (hmu : (26 - y4) * 1 + 134217745 < (n : Int) + 1) (ih16 : ∀ (g : LH) (V : InvR P g) (hG : Gr g = Gr g0) (x1 : Int32) (y1 : Int) (hx1 : x1.toInt = y1) (hf1 : 1 ≤ y1 ∧ y1 ≤ 4) (x2 : Int32) (y2 : Int) (hx2 : x2.toInt = y2) (hf2 : 0 ≤ y2 ∧ y2 ≤ 1) (x3 : Int32) (y3 : Int) (hx3 : x3.toInt = y3) (hf3 : 0 ≤ y3 ∧ y3 ≤ 26) (x4 : Int32) (y4 : Int) (hx4 : x4.toInt = y4) (hf4 : 0 ≤ y4 ∧ y4 ≤ 26) (o5 : Option Value) (o6 : Option Value) (o7 : Option Value) (o8 : Option Value) (o9 : Option Value) (hq0 : y3 ≤ y4), (26 - y4) * 1 + 134217745 < (n : Int) → LW 305 (d + 40) 0 0 16 [some (.ref 355), some (.int x1), some (.int x2), some (.int x3), some (.int x4), o5, o6, o7, o8, o9] [] g (fun v g' => ∃ r : Int32, v = some (.int r) ∧ InvR P g' ∧ Gr g' = Gr g0)) (ih79 : ∀ (g : LH) (V : InvR P g) (hG : Gr g = Gr g0) (x1 : Int32) (y1 : Int) (hx1 : x1.toInt = y1) (hf1 : 1 ≤ y1 ∧ y1 ≤ 4) (x2 : Int32) (y2 : Int) (hx2 : x2.toInt = y2) (hf2 : 0 ≤ y2 ∧ y2 ≤ 1) (x3 : Int32) (y3 : Int) (hx3 : x3.toInt = y3) (hf3 : 0 ≤ y3 ∧ y3 ≤ 26) (x4 : Int32) (y4 : Int) (hx4 : x4.toInt = y4) (hf4 : 0 ≤ y4 ∧ y4 ≤ 4) (x5 : Int32) (y5 : Int) (hx5 : x5.toInt = y5) (x6 : Int32) (y6 : Int) (hx6 : x6.toInt = y6) (hf6 : (-1) ≤ y6) (x7 : Int32) (y7 : Int) (hx7 : x7.toInt = y7) (hf7 : 0 ≤ y7 ∧ y7 ≤ 1) (o8 : Option Value) (o9 : Option Value) (hq0 : y4 ≤ y3) (hq1 : y7 = 1 → rwI (Gi g 366) (y4) (y3) (y4)), rwL (Gi g 366) (y3) (y4) (y7) * 8 + 7 < (n : Int) → LW 305 (d + 40) 0 0 79 [some (.ref 355), some (.int x1), some (.int x2), some (.int x3), some (.int x4), some (.int x5), some (.int x6), some (.int x7), o8, o9] [] g (fun v g' => ∃ r : Int32, v = some (.int r) ∧ InvR P g' ∧ Gr g' = Gr g0)) (ih90 : ∀ (g : LH) (V : InvR P g) (hG : Gr g = Gr g0) (x1 : Int32) (y1 : Int) (hx1 : x1.toInt = y1) (hf1 : 1 ≤ y1 ∧ y1 ≤ 4) (x2 : Int32) (y2 : Int) (hx2 : x2.toInt = y2) (hf2 : 0 ≤ y2 ∧ y2 ≤ 1) (x3 : Int32) (y3 : Int) (hx3 : x3.toInt = y3) (hf3 : 0 ≤ y3 ∧ y3 ≤ 26) (x4 : Int32) (y4 : Int) (hx4 : x4.toInt = y4) (hf4 : 0 ≤ y4 ∧ y4 ≤ 4) (x5 : Int32) (y5 : Int) (hx5 : x5.toInt = y5) (x6 : Int32) (y6 : Int) (hx6 : x6.toInt = y6) (hf6 : (-1) ≤ y6) (x7 : Int32) (y7 : Int) (hx7 : x7.toInt = y7) (hf7 : 1 ≤ y7 ∧ y7 ≤ 1) (x8 : Int32) (y8 : Int) (hx8 : x8.toInt = y8) (x9 : Int32) (y9 : Int) (hx9 : x9.toInt = y9) (hf9 : 0 ≤ y9 ∧ y9 ≤ 4) (hq0 : y4 ≤ y3) (hq1 : y7 = 1) (hq2 : rwI (Gi g 366) (y4) (y3) (y4)), rwL (Gi g 366) (y3) (y4) (y7) * 8 + 0 + (4 - y9) * 1 + 0 < (n : Int) → LW 305 (d + 40) 0 0 90 [some (.ref 355), some (.int x1), some (.int x2), some (.int x3), some (.int x4), some (.int x5), some (.int x6), some (.int x7), some (.int x8), some (.int x9)] [] g (fun v g' => ∃ r : Int32, v = some (.int r) ∧ InvR P g' ∧ Gr g' = Gr g0)) : LW 305 (d + 40) 0 0 16 [some (.ref 355), some (.int x1), some (.int x2), some (.int x3), some (.int x4), o5, o6, o7, o8, o9] [] g (fun v g' => ∃ r : Int32, v = some (.int r) ∧ InvR P g' ∧ Gr g' = Gr g0) := by
  refine X_iload rfl rfl rfl ?_
  refine X_bipush (v := (26 : Int32)) rfl rfl rfl ?_
  refine S_icmp_ge (tgt := 52) rfl rfl rfl hx4 (show (26 : Int32).toInt = 26 from rfl) (fun vh1 => ?_) (fun vh1 => ?_)
  · refine X_iload_n rfl rfl rfl rfl ?_
    refine X_iload_n rfl rfl rfl rfl ?_
    refine S_icmp_ge (tgt := 61) rfl rfl rfl hx1 hx3 (fun vh2 => ?_) (fun vh2 => ?_)
    · refine X_iload_n rfl rfl rfl rfl ?_
      refine X_istore (i := 4) (ls' := [some (.ref 355), some (.int x1), some (.int x2), some (.int x3), some (.int x3), o5, o6, o7, o8, o9]) rfl rfl (Nat.le_of_ble_eq_true rfl) rfl ?_
      refine X_iconst (v := (0 : Int32)) rfl rfl rfl ?_
      refine X_istore (i := 5) (ls' := [some (.ref 355), some (.int x1), some (.int x2), some (.int x3), some (.int x3), some (.int (0 : Int32)), o6, o7, o8, o9]) rfl rfl (Nat.le_of_ble_eq_true rfl) rfl ?_
      refine X_iconst (v := (-1 : Int32)) rfl rfl rfl ?_
      refine X_istore (i := 6) (ls' := [some (.ref 355), some (.int x1), some (.int x2), some (.int x3), some (.int x3), some (.int (0 : Int32)), some (.int (-1 : Int32)), o7, o8, o9]) rfl rfl (Nat.le_of_ble_eq_true rfl) rfl ?_
      refine X_aload_n rfl rfl rfl rfl ?_
      refine X_iload rfl rfl rfl ?_
      refine Y_callV (as := [.int x3]) (st := []) rfl rfl rfl (by decide) rfl (Nat.le_of_ble_eq_true rfl) (by decide) (Nat.le_of_ble_eq_true rfl) rfl ((congrFun V.1 355).trans s_355) (by decide) (C_X13_firstRowB V x3 y3 hx3 (by omega) ) ?_
      rintro _ g ⟨rfl, V, hq, chA, vq4⟩
      have hG := hq.trans hG
      refine X_iconst (v := (1 : Int32)) rfl rfl rfl ?_
      refine X_istore (i := 7) (ls' := [some (.ref 355), some (.int x1), some (.int x2), some (.int x3), some (.int x3), some (.int (0 : Int32)), some (.int (-1 : Int32)), some (.int (1 : Int32)), o8, o9]) rfl rfl (Nat.le_of_ble_eq_true rfl) rfl ?_
      have vwb := rwL_le (f := Gi g 366) (w := y3) (n := y3) (by omega) (by omega) (fun k hk => by rw [vq4 k hk]; omega)
      exact ih79 _ V hG x1 y1 hx1 (by omega) x2 y2 hx2 (by omega) x3 y3 hx3 (by omega) x3 y3 hx3 (by omega) (0 : Int32) 0 (show (0 : Int32).toInt = 0 from rfl) (-1 : Int32) (-1) (show (-1 : Int32).toInt = -1 from rfl) (by omega) (1 : Int32) 1 (show (1 : Int32).toInt = 1 from rfl) (by omega) o8 o9  (by omega) (by
        intro _ k hk
        rw [vq4 k hk]
        omega)  (by omega)
    · refine X_iload_n rfl rfl rfl rfl ?_
      refine LW_goto (tgt := 62) rfl rfl ?_
      refine X_istore (i := 4) (ls' := [some (.ref 355), some (.int x1), some (.int x2), some (.int x3), some (.int x1), o5, o6, o7, o8, o9]) rfl rfl (Nat.le_of_ble_eq_true rfl) rfl ?_
      refine X_iconst (v := (0 : Int32)) rfl rfl rfl ?_
      refine X_istore (i := 5) (ls' := [some (.ref 355), some (.int x1), some (.int x2), some (.int x3), some (.int x1), some (.int (0 : Int32)), o6, o7, o8, o9]) rfl rfl (Nat.le_of_ble_eq_true rfl) rfl ?_
      refine X_iconst (v := (-1 : Int32)) rfl rfl rfl ?_
      refine X_istore (i := 6) (ls' := [some (.ref 355), some (.int x1), some (.int x2), some (.int x3), some (.int x1), some (.int (0 : Int32)), some (.int (-1 : Int32)), o7, o8, o9]) rfl rfl (Nat.le_of_ble_eq_true rfl) rfl ?_
      refine X_aload_n rfl rfl rfl rfl ?_
      refine X_iload rfl rfl rfl ?_
      refine Y_callV (as := [.int x1]) (st := []) rfl rfl rfl (by decide) rfl (Nat.le_of_ble_eq_true rfl) (by decide) (Nat.le_of_ble_eq_true rfl) rfl ((congrFun V.1 355).trans s_355) (by decide) (C_X13_firstRowB V x1 y1 hx1 (by omega) ) ?_
      rintro _ g ⟨rfl, V, hq, chA, vq6⟩
      have hG := hq.trans hG
      refine X_iconst (v := (1 : Int32)) rfl rfl rfl ?_
      refine X_istore (i := 7) (ls' := [some (.ref 355), some (.int x1), some (.int x2), some (.int x3), some (.int x1), some (.int (0 : Int32)), some (.int (-1 : Int32)), some (.int (1 : Int32)), o8, o9]) rfl rfl (Nat.le_of_ble_eq_true rfl) rfl ?_
      have vwb := rwL_le (f := Gi g 366) (w := y3) (n := y1) (by omega) (by omega) (fun k hk => by rw [vq6 k hk]; omega)
      exact ih79 _ V hG x1 y1 hx1 (by omega) x2 y2 hx2 (by omega) x3 y3 hx3 (by omega) x1 y1 hx1 (by omega) (0 : Int32) 0 (show (0 : Int32).toInt = 0 from rfl) (-1 : Int32) (-1) (show (-1 : Int32).toInt = -1 from rfl) (by omega) (1 : Int32) 1 (show (1 : Int32).toInt = 1 from rfl) (by omega) o8 o9  (by omega) (by
        intro _ k hk
        rw [vq6 k hk]
        omega)  (by omega)
  · refine X_aload_n rfl rfl rfl rfl ?_
    refine X_iload rfl rfl rfl ?_
    refine Y_callV (as := [.int x4]) (st := []) rfl rfl rfl (by decide) rfl (Nat.le_of_ble_eq_true rfl) (by decide) (Nat.le_of_ble_eq_true rfl) rfl ((congrFun V.1 355).trans s_355) (by decide) (C_X13_usesOf V x4 y4 hx4 (by omega) ) ?_
    rintro _ g' ⟨vr7, rfl, hgg⟩
    subst hgg
    refine S_if_ne (tgt := 35) rfl rfl rfl rfl (fun vh8 => ?_) (fun vh8 => ?_)
    · refine X_aload_n rfl rfl rfl rfl ?_
      refine X_getR (a := 367) rfl rfl rfl ((congrFun V.1 355).trans s_355) rfl ((congrFun (V.2.1 355 (by decide)) 30).trans r_355_30) ?_
      refine X_iload_n rfl rfl rfl rfl ?_
      refine X_iload rfl rfl rfl ?_
      refine S_iast (I := InvR _) rfl rfl ((congrFun V.1 367).trans s_367) hx3 (by omega) (InvR_putO V (by decide) (show okO 367 _ _ from (show 0 ≤ x4.toInt ∧ x4.toInt ≤ 25 by omega))) (fun g V ve9 vn10 hq => ?_)
      have hG := hq.trans hG
      refine S_iinc (c := 1) rfl rfl rfl hx3 rfl (by omega) (fun vz11 hvz11 => ?_)
      refine LW_ls (ls' := [some (.ref 355), some (.int x1), some (.int x2), some (.int vz11), some (.int x4), o5, o6, o7, o8, o9]) rfl ?_
      refine S_iinc (c := 1) rfl rfl rfl hx4 rfl (by omega) (fun vz12 hvz12 => ?_)
      refine LW_ls (ls' := [some (.ref 355), some (.int x1), some (.int x2), some (.int vz11), some (.int vz12), o5, o6, o7, o8, o9]) rfl ?_
      refine LW_goto (tgt := 16) rfl rfl ?_
      exact ih16 _ V hG x1 y1 hx1 (by omega) x2 y2 hx2 (by omega) vz11 vz11.toInt rfl (by omega) vz12 vz12.toInt rfl (by omega) o5 o6 o7 o8 o9  (by omega)  (by omega)
    · refine LW_goto (tgt := 46) rfl rfl ?_
      refine S_iinc (c := 1) rfl rfl rfl hx4 rfl (by omega) (fun vz13 hvz13 => ?_)
      refine LW_ls (ls' := [some (.ref 355), some (.int x1), some (.int x2), some (.int x3), some (.int vz13), o5, o6, o7, o8, o9]) rfl ?_
      refine LW_goto (tgt := 16) rfl rfl ?_
      exact ih16 _ V hG x1 y1 hx1 (by omega) x2 y2 hx2 (by omega) x3 y3 hx3 (by omega) vz13 vz13.toInt rfl (by omega) o5 o6 o7 o8 o9  (by omega)  (by omega)
set_option maxRecDepth 10000 in
set_option maxHeartbeats 40000000 in
theorem C_X13_learn_79 {P : Par} {g g0 : LH} {d n : Nat}  (V : InvR P g) (hG : Gr g = Gr g0) (x1 : Int32) (y1 : Int) (hx1 : x1.toInt = y1) (hf1 : 1 ≤ y1 ∧ y1 ≤ 4) (x2 : Int32) (y2 : Int) (hx2 : x2.toInt = y2) (hf2 : 0 ≤ y2 ∧ y2 ≤ 1) (x3 : Int32) (y3 : Int) (hx3 : x3.toInt = y3) (hf3 : 0 ≤ y3 ∧ y3 ≤ 26) (x4 : Int32) (y4 : Int) (hx4 : x4.toInt = y4) (hf4 : 0 ≤ y4 ∧ y4 ≤ 4) (x5 : Int32) (y5 : Int) (hx5 : x5.toInt = y5) (x6 : Int32) (y6 : Int) (hx6 : x6.toInt = y6) (hf6 : (-1) ≤ y6) (x7 : Int32) (y7 : Int) (hx7 : x7.toInt = y7) (hf7 : 0 ≤ y7 ∧ y7 ≤ 1) (o8 : Option Value) (o9 : Option Value) (hq0 : y4 ≤ y3) (hq1 : y7 = 1 → rwI (Gi g 366) (y4) (y3) (y4)) (hmu : rwL (Gi g 366) (y3) (y4) (y7) * 8 + 7 < (n : Int) + 1) (ih16 : ∀ (g : LH) (V : InvR P g) (hG : Gr g = Gr g0) (x1 : Int32) (y1 : Int) (hx1 : x1.toInt = y1) (hf1 : 1 ≤ y1 ∧ y1 ≤ 4) (x2 : Int32) (y2 : Int) (hx2 : x2.toInt = y2) (hf2 : 0 ≤ y2 ∧ y2 ≤ 1) (x3 : Int32) (y3 : Int) (hx3 : x3.toInt = y3) (hf3 : 0 ≤ y3 ∧ y3 ≤ 26) (x4 : Int32) (y4 : Int) (hx4 : x4.toInt = y4) (hf4 : 0 ≤ y4 ∧ y4 ≤ 26) (o5 : Option Value) (o6 : Option Value) (o7 : Option Value) (o8 : Option Value) (o9 : Option Value) (hq0 : y3 ≤ y4), (26 - y4) * 1 + 134217745 < (n : Int) → LW 305 (d + 40) 0 0 16 [some (.ref 355), some (.int x1), some (.int x2), some (.int x3), some (.int x4), o5, o6, o7, o8, o9] [] g (fun v g' => ∃ r : Int32, v = some (.int r) ∧ InvR P g' ∧ Gr g' = Gr g0)) (ih79 : ∀ (g : LH) (V : InvR P g) (hG : Gr g = Gr g0) (x1 : Int32) (y1 : Int) (hx1 : x1.toInt = y1) (hf1 : 1 ≤ y1 ∧ y1 ≤ 4) (x2 : Int32) (y2 : Int) (hx2 : x2.toInt = y2) (hf2 : 0 ≤ y2 ∧ y2 ≤ 1) (x3 : Int32) (y3 : Int) (hx3 : x3.toInt = y3) (hf3 : 0 ≤ y3 ∧ y3 ≤ 26) (x4 : Int32) (y4 : Int) (hx4 : x4.toInt = y4) (hf4 : 0 ≤ y4 ∧ y4 ≤ 4) (x5 : Int32) (y5 : Int) (hx5 : x5.toInt = y5) (x6 : Int32) (y6 : Int) (hx6 : x6.toInt = y6) (hf6 : (-1) ≤ y6) (x7 : Int32) (y7 : Int) (hx7 : x7.toInt = y7) (hf7 : 0 ≤ y7 ∧ y7 ≤ 1) (o8 : Option Value) (o9 : Option Value) (hq0 : y4 ≤ y3) (hq1 : y7 = 1 → rwI (Gi g 366) (y4) (y3) (y4)), rwL (Gi g 366) (y3) (y4) (y7) * 8 + 7 < (n : Int) → LW 305 (d + 40) 0 0 79 [some (.ref 355), some (.int x1), some (.int x2), some (.int x3), some (.int x4), some (.int x5), some (.int x6), some (.int x7), o8, o9] [] g (fun v g' => ∃ r : Int32, v = some (.int r) ∧ InvR P g' ∧ Gr g' = Gr g0)) (ih90 : ∀ (g : LH) (V : InvR P g) (hG : Gr g = Gr g0) (x1 : Int32) (y1 : Int) (hx1 : x1.toInt = y1) (hf1 : 1 ≤ y1 ∧ y1 ≤ 4) (x2 : Int32) (y2 : Int) (hx2 : x2.toInt = y2) (hf2 : 0 ≤ y2 ∧ y2 ≤ 1) (x3 : Int32) (y3 : Int) (hx3 : x3.toInt = y3) (hf3 : 0 ≤ y3 ∧ y3 ≤ 26) (x4 : Int32) (y4 : Int) (hx4 : x4.toInt = y4) (hf4 : 0 ≤ y4 ∧ y4 ≤ 4) (x5 : Int32) (y5 : Int) (hx5 : x5.toInt = y5) (x6 : Int32) (y6 : Int) (hx6 : x6.toInt = y6) (hf6 : (-1) ≤ y6) (x7 : Int32) (y7 : Int) (hx7 : x7.toInt = y7) (hf7 : 1 ≤ y7 ∧ y7 ≤ 1) (x8 : Int32) (y8 : Int) (hx8 : x8.toInt = y8) (x9 : Int32) (y9 : Int) (hx9 : x9.toInt = y9) (hf9 : 0 ≤ y9 ∧ y9 ≤ 4) (hq0 : y4 ≤ y3) (hq1 : y7 = 1) (hq2 : rwI (Gi g 366) (y4) (y3) (y4)), rwL (Gi g 366) (y3) (y4) (y7) * 8 + 0 + (4 - y9) * 1 + 0 < (n : Int) → LW 305 (d + 40) 0 0 90 [some (.ref 355), some (.int x1), some (.int x2), some (.int x3), some (.int x4), some (.int x5), some (.int x6), some (.int x7), some (.int x8), some (.int x9)] [] g (fun v g' => ∃ r : Int32, v = some (.int r) ∧ InvR P g' ∧ Gr g' = Gr g0)) : LW 305 (d + 40) 0 0 79 [some (.ref 355), some (.int x1), some (.int x2), some (.int x3), some (.int x4), some (.int x5), some (.int x6), some (.int x7), o8, o9] [] g (fun v g' => ∃ r : Int32, v = some (.int r) ∧ InvR P g' ∧ Gr g' = Gr g0) := by
  refine X_iload rfl rfl rfl ?_
  refine S_if_eq (tgt := 157) rfl rfl rfl hx7 (fun vh1 => ?_) (fun vh1 => ?_)
  · refine X_iload_n rfl rfl rfl rfl ?_
    refine S_if_eq (tgt := 166) rfl rfl rfl hx2 (fun vh2 => ?_) (fun vh2 => ?_)
    · refine X_iload rfl rfl rfl ?_
      exact LW_ireturn (st := []) rfl rfl rfl ⟨_, rfl, V, hG⟩
    · refine X_iload rfl rfl rfl ?_
      refine LW_goto (tgt := 168) rfl rfl ?_
      exact LW_ireturn (st := []) rfl rfl rfl ⟨_, rfl, V, hG⟩
  · refine X_iconst (v := (0 : Int32)) rfl rfl rfl ?_
    refine X_istore (i := 8) (ls' := [some (.ref 355), some (.int x1), some (.int x2), some (.int x3), some (.int x4), some (.int x5), some (.int x6), some (.int x7), some (.int (0 : Int32)), o9]) rfl rfl (Nat.le_of_ble_eq_true rfl) rfl ?_
    refine X_iconst (v := (0 : Int32)) rfl rfl rfl ?_
    refine X_istore (i := 9) (ls' := [some (.ref 355), some (.int x1), some (.int x2), some (.int x3), some (.int x4), some (.int x5), some (.int x6), some (.int x7), some (.int (0 : Int32)), some (.int (0 : Int32))]) rfl rfl (Nat.le_of_ble_eq_true rfl) rfl ?_
    exact ih90 _ V hG x1 y1 hx1 (by omega) x2 y2 hx2 (by omega) x3 y3 hx3 (by omega) x4 y4 hx4 (by omega) x5 y5 hx5 x6 y6 hx6 (by omega) x7 y7 hx7 (by omega) (0 : Int32) 0 (show (0 : Int32).toInt = 0 from rfl) (0 : Int32) 0 (show (0 : Int32).toInt = 0 from rfl) (by omega)  (by omega) (by omega) (by
        exact hq1 (by omega))  (by omega)
set_option maxRecDepth 10000 in
set_option maxHeartbeats 40000000 in
theorem C_X13_learn_90 {P : Par} {g g0 : LH} {d n : Nat}  (V : InvR P g) (hG : Gr g = Gr g0) (x1 : Int32) (y1 : Int) (hx1 : x1.toInt = y1) (hf1 : 1 ≤ y1 ∧ y1 ≤ 4) (x2 : Int32) (y2 : Int) (hx2 : x2.toInt = y2) (hf2 : 0 ≤ y2 ∧ y2 ≤ 1) (x3 : Int32) (y3 : Int) (hx3 : x3.toInt = y3) (hf3 : 0 ≤ y3 ∧ y3 ≤ 26) (x4 : Int32) (y4 : Int) (hx4 : x4.toInt = y4) (hf4 : 0 ≤ y4 ∧ y4 ≤ 4) (x5 : Int32) (y5 : Int) (hx5 : x5.toInt = y5) (x6 : Int32) (y6 : Int) (hx6 : x6.toInt = y6) (hf6 : (-1) ≤ y6) (x7 : Int32) (y7 : Int) (hx7 : x7.toInt = y7) (hf7 : 1 ≤ y7 ∧ y7 ≤ 1) (x8 : Int32) (y8 : Int) (hx8 : x8.toInt = y8) (x9 : Int32) (y9 : Int) (hx9 : x9.toInt = y9) (hf9 : 0 ≤ y9 ∧ y9 ≤ 4) (hq0 : y4 ≤ y3) (hq1 : y7 = 1) (hq2 : rwI (Gi g 366) (y4) (y3) (y4)) (hmu : rwL (Gi g 366) (y3) (y4) (y7) * 8 + 0 + (4 - y9) * 1 + 0 < (n : Int) + 1) (ih16 : ∀ (g : LH) (V : InvR P g) (hG : Gr g = Gr g0) (x1 : Int32) (y1 : Int) (hx1 : x1.toInt = y1) (hf1 : 1 ≤ y1 ∧ y1 ≤ 4) (x2 : Int32) (y2 : Int) (hx2 : x2.toInt = y2) (hf2 : 0 ≤ y2 ∧ y2 ≤ 1) (x3 : Int32) (y3 : Int) (hx3 : x3.toInt = y3) (hf3 : 0 ≤ y3 ∧ y3 ≤ 26) (x4 : Int32) (y4 : Int) (hx4 : x4.toInt = y4) (hf4 : 0 ≤ y4 ∧ y4 ≤ 26) (o5 : Option Value) (o6 : Option Value) (o7 : Option Value) (o8 : Option Value) (o9 : Option Value) (hq0 : y3 ≤ y4), (26 - y4) * 1 + 134217745 < (n : Int) → LW 305 (d + 40) 0 0 16 [some (.ref 355), some (.int x1), some (.int x2), some (.int x3), some (.int x4), o5, o6, o7, o8, o9] [] g (fun v g' => ∃ r : Int32, v = some (.int r) ∧ InvR P g' ∧ Gr g' = Gr g0)) (ih79 : ∀ (g : LH) (V : InvR P g) (hG : Gr g = Gr g0) (x1 : Int32) (y1 : Int) (hx1 : x1.toInt = y1) (hf1 : 1 ≤ y1 ∧ y1 ≤ 4) (x2 : Int32) (y2 : Int) (hx2 : x2.toInt = y2) (hf2 : 0 ≤ y2 ∧ y2 ≤ 1) (x3 : Int32) (y3 : Int) (hx3 : x3.toInt = y3) (hf3 : 0 ≤ y3 ∧ y3 ≤ 26) (x4 : Int32) (y4 : Int) (hx4 : x4.toInt = y4) (hf4 : 0 ≤ y4 ∧ y4 ≤ 4) (x5 : Int32) (y5 : Int) (hx5 : x5.toInt = y5) (x6 : Int32) (y6 : Int) (hx6 : x6.toInt = y6) (hf6 : (-1) ≤ y6) (x7 : Int32) (y7 : Int) (hx7 : x7.toInt = y7) (hf7 : 0 ≤ y7 ∧ y7 ≤ 1) (o8 : Option Value) (o9 : Option Value) (hq0 : y4 ≤ y3) (hq1 : y7 = 1 → rwI (Gi g 366) (y4) (y3) (y4)), rwL (Gi g 366) (y3) (y4) (y7) * 8 + 7 < (n : Int) → LW 305 (d + 40) 0 0 79 [some (.ref 355), some (.int x1), some (.int x2), some (.int x3), some (.int x4), some (.int x5), some (.int x6), some (.int x7), o8, o9] [] g (fun v g' => ∃ r : Int32, v = some (.int r) ∧ InvR P g' ∧ Gr g' = Gr g0)) (ih90 : ∀ (g : LH) (V : InvR P g) (hG : Gr g = Gr g0) (x1 : Int32) (y1 : Int) (hx1 : x1.toInt = y1) (hf1 : 1 ≤ y1 ∧ y1 ≤ 4) (x2 : Int32) (y2 : Int) (hx2 : x2.toInt = y2) (hf2 : 0 ≤ y2 ∧ y2 ≤ 1) (x3 : Int32) (y3 : Int) (hx3 : x3.toInt = y3) (hf3 : 0 ≤ y3 ∧ y3 ≤ 26) (x4 : Int32) (y4 : Int) (hx4 : x4.toInt = y4) (hf4 : 0 ≤ y4 ∧ y4 ≤ 4) (x5 : Int32) (y5 : Int) (hx5 : x5.toInt = y5) (x6 : Int32) (y6 : Int) (hx6 : x6.toInt = y6) (hf6 : (-1) ≤ y6) (x7 : Int32) (y7 : Int) (hx7 : x7.toInt = y7) (hf7 : 1 ≤ y7 ∧ y7 ≤ 1) (x8 : Int32) (y8 : Int) (hx8 : x8.toInt = y8) (x9 : Int32) (y9 : Int) (hx9 : x9.toInt = y9) (hf9 : 0 ≤ y9 ∧ y9 ≤ 4) (hq0 : y4 ≤ y3) (hq1 : y7 = 1) (hq2 : rwI (Gi g 366) (y4) (y3) (y4)), rwL (Gi g 366) (y3) (y4) (y7) * 8 + 0 + (4 - y9) * 1 + 0 < (n : Int) → LW 305 (d + 40) 0 0 90 [some (.ref 355), some (.int x1), some (.int x2), some (.int x3), some (.int x4), some (.int x5), some (.int x6), some (.int x7), some (.int x8), some (.int x9)] [] g (fun v g' => ∃ r : Int32, v = some (.int r) ∧ InvR P g' ∧ Gr g' = Gr g0)) : LW 305 (d + 40) 0 0 90 [some (.ref 355), some (.int x1), some (.int x2), some (.int x3), some (.int x4), some (.int x5), some (.int x6), some (.int x7), some (.int x8), some (.int x9)] [] g (fun v g' => ∃ r : Int32, v = some (.int r) ∧ InvR P g' ∧ Gr g' = Gr g0) := by
  refine X_iload rfl rfl rfl ?_
  refine X_iload rfl rfl rfl ?_
  refine S_icmp_ge (tgt := 122) rfl rfl rfl hx9 hx4 (fun vh1 => ?_) (fun vh1 => ?_)
  · refine X_aload_n rfl rfl rfl rfl ?_
    refine X_iload rfl rfl rfl ?_
    refine Y_callV (as := [.int x8]) (st := []) rfl rfl rfl (by decide) rfl (Nat.le_of_ble_eq_true rfl) (by decide) (Nat.le_of_ble_eq_true rfl) rfl ((congrFun V.1 355).trans s_355) (by decide) (C_X13_writtenWith V x8 y8 hx8 ) ?_
    rintro _ g' ⟨vr2, rfl, hgg⟩
    subst hgg
    refine X_istore (i := 9) (ls' := [some (.ref 355), some (.int x1), some (.int x2), some (.int x3), some (.int x4), some (.int x5), some (.int x6), some (.int x7), some (.int x8), some (.int vr2)]) rfl rfl (Nat.le_of_ble_eq_true rfl) rfl ?_
    refine X_iload rfl rfl rfl ?_
    refine X_iload rfl rfl rfl ?_
    refine S_icmp_le (tgt := 145) rfl rfl rfl rfl hx6 (fun vh3 => ?_) (fun vh3 => ?_)
    · refine X_aload_n rfl rfl rfl rfl ?_
      refine X_iload rfl rfl rfl ?_
      refine X_iload_n rfl rfl rfl rfl ?_
      refine Y_callV (as := [.int x4, .int x3]) (st := []) rfl rfl rfl (by decide) rfl (Nat.le_of_ble_eq_true rfl) (by decide) (Nat.le_of_ble_eq_true rfl) rfl ((congrFun V.1 355).trans s_355) (by decide) (C_X13_nextRow V x4 y4 hx4 (by omega) x3 y3 hx3 (by omega) (by omega) (hq2)) ?_
      rintro _ g ⟨vr4, rfl, hrvr40, hrvr41, V, hq, chA, vq5⟩
      have hG := hq.trans hG
      have vwk := rwL_lt vq5 (by omega)
      rw [show y7 = 1 by omega] at hmu
      refine X_istore (i := 7) (ls' := [some (.ref 355), some (.int x1), some (.int x2), some (.int x3), some (.int x4), some (.int x5), some (.int x6), some (.int vr4), some (.int x8), some (.int vr2)]) rfl rfl (Nat.le_of_ble_eq_true rfl) rfl ?_
      refine LW_goto (tgt := 79) rfl rfl ?_
      exact ih79 _ V hG x1 y1 hx1 (by omega) x2 y2 hx2 (by omega) x3 y3 hx3 (by omega) x4 y4 hx4 (by omega) x5 y5 hx5 x6 y6 hx6 (by omega) vr4 vr4.toInt rfl (by omega) (some (.int x8)) (some (.int vr2))  (by omega) (by
        exact fun vh => (vq5.1 vh).1)  (by omega)
    · refine X_iload rfl rfl rfl ?_
      refine X_istore (i := 6) (ls' := [some (.ref 355), some (.int x1), some (.int x2), some (.int x3), some (.int x4), some (.int x5), some (.int vr2), some (.int x7), some (.int x8), some (.int vr2)]) rfl rfl (Nat.le_of_ble_eq_true rfl) rfl ?_
      refine X_iload rfl rfl rfl ?_
      refine X_istore (i := 5) (ls' := [some (.ref 355), some (.int x1), some (.int x2), some (.int x3), some (.int x4), some (.int x8), some (.int vr2), some (.int x7), some (.int x8), some (.int vr2)]) rfl rfl (Nat.le_of_ble_eq_true rfl) rfl ?_
      refine X_aload_n rfl rfl rfl rfl ?_
      refine X_iload rfl rfl rfl ?_
      refine X_iload_n rfl rfl rfl rfl ?_
      refine Y_callV (as := [.int x4, .int x3]) (st := []) rfl rfl rfl (by decide) rfl (Nat.le_of_ble_eq_true rfl) (by decide) (Nat.le_of_ble_eq_true rfl) rfl ((congrFun V.1 355).trans s_355) (by decide) (C_X13_nextRow V x4 y4 hx4 (by omega) x3 y3 hx3 (by omega) (by omega) (hq2)) ?_
      rintro _ g ⟨vr6, rfl, hrvr60, hrvr61, V, hq, chA, vq7⟩
      have hG := hq.trans hG
      have vwk := rwL_lt vq7 (by omega)
      rw [show y7 = 1 by omega] at hmu
      refine X_istore (i := 7) (ls' := [some (.ref 355), some (.int x1), some (.int x2), some (.int x3), some (.int x4), some (.int x8), some (.int vr2), some (.int vr6), some (.int x8), some (.int vr2)]) rfl rfl (Nat.le_of_ble_eq_true rfl) rfl ?_
      refine LW_goto (tgt := 79) rfl rfl ?_
      exact ih79 _ V hG x1 y1 hx1 (by omega) x2 y2 hx2 (by omega) x3 y3 hx3 (by omega) x4 y4 hx4 (by omega) x8 y8 hx8 vr2 vr2.toInt rfl (by omega) vr6 vr6.toInt rfl (by omega) (some (.int x8)) (some (.int vr2))  (by omega) (by
        exact fun vh => (vq7.1 vh).1)  (by omega)
  · refine X_iload rfl rfl rfl ?_
    refine X_iconst (v := (1 : Int32)) rfl rfl rfl ?_
    refine X_aload_n rfl rfl rfl rfl ?_
    refine X_getR (a := 367) rfl rfl rfl ((congrFun V.1 355).trans s_355) rfl ((congrFun (V.2.1 355 (by decide)) 30).trans r_355_30) ?_
    refine X_aload_n rfl rfl rfl rfl ?_
    refine X_getR (a := 366) rfl rfl rfl ((congrFun V.1 355).trans s_355) rfl ((congrFun (V.2.1 355 (by decide)) 29).trans r_355_29) ?_
    refine X_iload rfl rfl rfl ?_
    refine S_iald rfl rfl ((congrFun V.1 366).trans s_366) hx9 (by omega) (fun vz8 evz8 => ?_)
    have vf9 := hq2 (Int.toNat (y9)) (by omega)
    rw [evz8] at vf9
    refine S_iald rfl rfl ((congrFun V.1 367).trans s_367) rfl (by omega) (fun vz10 evz10 => ?_)
    have vf11 := O_367 (V.2.2.2.2.2.2.1 367 ((vz8.toInt : Int).toNat) (Nat.le_of_ble_eq_true rfl))
    rw [evz10] at vf11
    refine S_ishlT rfl rfl (fun vz12 => ?_)
    refine S_iorT rfl rfl (fun vz13 => ?_)
    refine X_istore (i := 8) (ls' := [some (.ref 355), some (.int x1), some (.int x2), some (.int x3), some (.int x4), some (.int x5), some (.int x6), some (.int x7), some (.int vz13), some (.int x9)]) rfl rfl (Nat.le_of_ble_eq_true rfl) rfl ?_
    refine S_iinc (c := 1) rfl rfl rfl hx9 rfl (by omega) (fun vz14 hvz14 => ?_)
    refine LW_ls (ls' := [some (.ref 355), some (.int x1), some (.int x2), some (.int x3), some (.int x4), some (.int x5), some (.int x6), some (.int x7), some (.int vz13), some (.int vz14)]) rfl ?_
    refine LW_goto (tgt := 90) rfl rfl ?_
    exact ih90 _ V hG x1 y1 hx1 (by omega) x2 y2 hx2 (by omega) x3 y3 hx3 (by omega) x4 y4 hx4 (by omega) x5 y5 hx5 x6 y6 hx6 (by omega) x7 y7 hx7 (by omega) vz13 vz13.toInt rfl vz14 vz14.toInt rfl (by omega)  (by omega) (by omega) (by
        exact hq2)  (by omega)
theorem C_X13_learn_all {P : Par} {g0 : LH} {d : Nat}  : ∀ n : Nat, (∀ (g : LH) (V : InvR P g) (hG : Gr g = Gr g0) (x1 : Int32) (y1 : Int) (hx1 : x1.toInt = y1) (hf1 : 1 ≤ y1 ∧ y1 ≤ 4) (x2 : Int32) (y2 : Int) (hx2 : x2.toInt = y2) (hf2 : 0 ≤ y2 ∧ y2 ≤ 1) (x3 : Int32) (y3 : Int) (hx3 : x3.toInt = y3) (hf3 : 0 ≤ y3 ∧ y3 ≤ 26) (x4 : Int32) (y4 : Int) (hx4 : x4.toInt = y4) (hf4 : 0 ≤ y4 ∧ y4 ≤ 26) (o5 : Option Value) (o6 : Option Value) (o7 : Option Value) (o8 : Option Value) (o9 : Option Value) (hq0 : y3 ≤ y4), (26 - y4) * 1 + 134217745 < (n : Int) → LW 305 (d + 40) 0 0 16 [some (.ref 355), some (.int x1), some (.int x2), some (.int x3), some (.int x4), o5, o6, o7, o8, o9] [] g (fun v g' => ∃ r : Int32, v = some (.int r) ∧ InvR P g' ∧ Gr g' = Gr g0)) ∧ (∀ (g : LH) (V : InvR P g) (hG : Gr g = Gr g0) (x1 : Int32) (y1 : Int) (hx1 : x1.toInt = y1) (hf1 : 1 ≤ y1 ∧ y1 ≤ 4) (x2 : Int32) (y2 : Int) (hx2 : x2.toInt = y2) (hf2 : 0 ≤ y2 ∧ y2 ≤ 1) (x3 : Int32) (y3 : Int) (hx3 : x3.toInt = y3) (hf3 : 0 ≤ y3 ∧ y3 ≤ 26) (x4 : Int32) (y4 : Int) (hx4 : x4.toInt = y4) (hf4 : 0 ≤ y4 ∧ y4 ≤ 4) (x5 : Int32) (y5 : Int) (hx5 : x5.toInt = y5) (x6 : Int32) (y6 : Int) (hx6 : x6.toInt = y6) (hf6 : (-1) ≤ y6) (x7 : Int32) (y7 : Int) (hx7 : x7.toInt = y7) (hf7 : 0 ≤ y7 ∧ y7 ≤ 1) (o8 : Option Value) (o9 : Option Value) (hq0 : y4 ≤ y3) (hq1 : y7 = 1 → rwI (Gi g 366) (y4) (y3) (y4)), rwL (Gi g 366) (y3) (y4) (y7) * 8 + 7 < (n : Int) → LW 305 (d + 40) 0 0 79 [some (.ref 355), some (.int x1), some (.int x2), some (.int x3), some (.int x4), some (.int x5), some (.int x6), some (.int x7), o8, o9] [] g (fun v g' => ∃ r : Int32, v = some (.int r) ∧ InvR P g' ∧ Gr g' = Gr g0)) ∧ (∀ (g : LH) (V : InvR P g) (hG : Gr g = Gr g0) (x1 : Int32) (y1 : Int) (hx1 : x1.toInt = y1) (hf1 : 1 ≤ y1 ∧ y1 ≤ 4) (x2 : Int32) (y2 : Int) (hx2 : x2.toInt = y2) (hf2 : 0 ≤ y2 ∧ y2 ≤ 1) (x3 : Int32) (y3 : Int) (hx3 : x3.toInt = y3) (hf3 : 0 ≤ y3 ∧ y3 ≤ 26) (x4 : Int32) (y4 : Int) (hx4 : x4.toInt = y4) (hf4 : 0 ≤ y4 ∧ y4 ≤ 4) (x5 : Int32) (y5 : Int) (hx5 : x5.toInt = y5) (x6 : Int32) (y6 : Int) (hx6 : x6.toInt = y6) (hf6 : (-1) ≤ y6) (x7 : Int32) (y7 : Int) (hx7 : x7.toInt = y7) (hf7 : 1 ≤ y7 ∧ y7 ≤ 1) (x8 : Int32) (y8 : Int) (hx8 : x8.toInt = y8) (x9 : Int32) (y9 : Int) (hx9 : x9.toInt = y9) (hf9 : 0 ≤ y9 ∧ y9 ≤ 4) (hq0 : y4 ≤ y3) (hq1 : y7 = 1) (hq2 : rwI (Gi g 366) (y4) (y3) (y4)), rwL (Gi g 366) (y3) (y4) (y7) * 8 + 0 + (4 - y9) * 1 + 0 < (n : Int) → LW 305 (d + 40) 0 0 90 [some (.ref 355), some (.int x1), some (.int x2), some (.int x3), some (.int x4), some (.int x5), some (.int x6), some (.int x7), some (.int x8), some (.int x9)] [] g (fun v g' => ∃ r : Int32, v = some (.int r) ∧ InvR P g' ∧ Gr g' = Gr g0)) := by
  intro n
  induction n with
  | zero => exact ⟨fun g V hG x1 y1 hx1 hf1 x2 y2 hx2 hf2 x3 y3 hx3 hf3 x4 y4 hx4 hf4 o5 o6 o7 o8 o9 hq0 hmu => absurd hmu (by omega), fun g V hG x1 y1 hx1 hf1 x2 y2 hx2 hf2 x3 y3 hx3 hf3 x4 y4 hx4 hf4 x5 y5 hx5 x6 y6 hx6 hf6 x7 y7 hx7 hf7 o8 o9 hq0 hq1 hmu => absurd hmu (by have hb6 := ti_hi x6; have vwn := rwL_nn (Gi g 366) y3 y4 y7; omega), fun g V hG x1 y1 hx1 hf1 x2 y2 hx2 hf2 x3 y3 hx3 hf3 x4 y4 hx4 hf4 x5 y5 hx5 x6 y6 hx6 hf6 x7 y7 hx7 hf7 x8 y8 hx8 x9 y9 hx9 hf9 hq0 hq1 hq2 hmu => absurd hmu (by have hb6 := ti_hi x6; have vwn := rwL_nn (Gi g 366) y3 y4 y7; omega)⟩
  | succ n ih => exact ⟨fun g V hG x1 y1 hx1 hf1 x2 y2 hx2 hf2 x3 y3 hx3 hf3 x4 y4 hx4 hf4 o5 o6 o7 o8 o9 hq0 hmu => C_X13_learn_16  V hG x1 y1 hx1 hf1 x2 y2 hx2 hf2 x3 y3 hx3 hf3 x4 y4 hx4 hf4 o5 o6 o7 o8 o9 hq0 (by omega) ih.1 ih.2.1 ih.2.2, fun g V hG x1 y1 hx1 hf1 x2 y2 hx2 hf2 x3 y3 hx3 hf3 x4 y4 hx4 hf4 x5 y5 hx5 x6 y6 hx6 hf6 x7 y7 hx7 hf7 o8 o9 hq0 hq1 hmu => C_X13_learn_79  V hG x1 y1 hx1 hf1 x2 y2 hx2 hf2 x3 y3 hx3 hf3 x4 y4 hx4 hf4 x5 y5 hx5 x6 y6 hx6 hf6 x7 y7 hx7 hf7 o8 o9 hq0 hq1 (by omega) ih.1 ih.2.1 ih.2.2, fun g V hG x1 y1 hx1 hf1 x2 y2 hx2 hf2 x3 y3 hx3 hf3 x4 y4 hx4 hf4 x5 y5 hx5 x6 y6 hx6 hf6 x7 y7 hx7 hf7 x8 y8 hx8 x9 y9 hx9 hf9 hq0 hq1 hq2 hmu => C_X13_learn_90  V hG x1 y1 hx1 hf1 x2 y2 hx2 hf2 x3 y3 hx3 hf3 x4 y4 hx4 hf4 x5 y5 hx5 x6 y6 hx6 hf6 x7 y7 hx7 hf7 x8 y8 hx8 x9 y9 hx9 hf9 hq0 hq1 hq2 (by omega) ih.1 ih.2.1 ih.2.2⟩
set_option maxRecDepth 10000 in
set_option maxHeartbeats 40000000 in
theorem C_X13_learn {P : Par} {g : LH} {d : Nat}  (V : InvR P g) (x1 : Int32) (y1 : Int) (hx1 : x1.toInt = y1) (x2 : Int32) (y2 : Int) (hx2 : x2.toInt = y2) (hf2 : 0 ≤ y2 ∧ y2 ≤ 1)   : LW 305 (d + 40) 0 0 0 (lEnt (mL 305) [.ref 355, .int x1, .int x2]) [] g (fun v g' => ∃ r : Int32, v = some (.int r) ∧ InvR P g' ∧ Gr g' = Gr g) := by
  refine LW_ls (ls' := [some (.ref 355), some (.int x1), some (.int x2), none, none, none, none, none, none, none]) rfl ?_
  have hG : Gr g = Gr g := rfl
  refine X_iload_n rfl rfl rfl rfl ?_
  refine X_iconst (v := (1 : Int32)) rfl rfl rfl ?_
  refine X_iconst (v := (4 : Int32)) rfl rfl rfl ?_
  refine X_callS (as := [.int x1, .int (1 : Int32), .int (4 : Int32)]) (st := []) rfl rfl rfl (by decide) rfl (Nat.le_of_ble_eq_true rfl) (by decide) (Nat.le_of_ble_eq_true rfl) rfl ?_
  refine LW_ls (ls' := [some (.int x1), some (.int (1 : Int32)), some (.int (4 : Int32))]) rfl ?_
  refine X_iload_n rfl rfl rfl rfl ?_
  refine X_iload_n rfl rfl rfl rfl ?_
  refine S_icmp_lt (tgt := 14) rfl rfl rfl hx1 (show (1 : Int32).toInt = 1 from rfl) (fun vh1 => ?_) (fun vh1 => ?_)
  · refine X_iconst (v := (0 : Int32)) rfl rfl rfl ?_
    refine LW_ireturn (st := []) rfl rfl rfl ?_
    refine S_if_ne (tgt := 11) rfl rfl rfl (show (0 : Int32).toInt = 0 from rfl) (fun q => absurd q (by omega)) (fun vh2 => ?_)
    refine X_iconst (v := (-1 : Int32)) rfl rfl rfl ?_
    exact LW_ireturn (st := []) rfl rfl rfl ⟨_, rfl, V, hG⟩
  · refine X_iload_n rfl rfl rfl rfl ?_
    refine X_iload_n rfl rfl rfl rfl ?_
    refine S_icmp_gt (tgt := 14) rfl rfl rfl hx1 (show (4 : Int32).toInt = 4 from rfl) (fun vh3 => ?_) (fun vh3 => ?_)
    · refine X_iconst (v := (0 : Int32)) rfl rfl rfl ?_
      refine LW_ireturn (st := []) rfl rfl rfl ?_
      refine S_if_ne (tgt := 11) rfl rfl rfl (show (0 : Int32).toInt = 0 from rfl) (fun q => absurd q (by omega)) (fun vh4 => ?_)
      refine X_iconst (v := (-1 : Int32)) rfl rfl rfl ?_
      exact LW_ireturn (st := []) rfl rfl rfl ⟨_, rfl, V, hG⟩
    · refine X_iconst (v := (1 : Int32)) rfl rfl rfl ?_
      refine LW_goto (tgt := 15) rfl rfl ?_
      refine LW_ireturn (st := []) rfl rfl rfl ?_
      refine S_if_ne (tgt := 11) rfl rfl rfl (show (1 : Int32).toInt = 1 from rfl) (fun vh5 => ?_) (fun q => absurd q (by omega))
      refine X_iconst (v := (0 : Int32)) rfl rfl rfl ?_
      refine X_istore_n (i := 3) (ls' := [some (.ref 355), some (.int x1), some (.int x2), some (.int (0 : Int32)), none, none, none, none, none, none]) rfl rfl rfl (Nat.le_of_ble_eq_true rfl) rfl ?_
      refine X_iconst (v := (0 : Int32)) rfl rfl rfl ?_
      refine X_istore (i := 4) (ls' := [some (.ref 355), some (.int x1), some (.int x2), some (.int (0 : Int32)), some (.int (0 : Int32)), none, none, none, none, none]) rfl rfl (Nat.le_of_ble_eq_true rfl) rfl ?_
      exact (C_X13_learn_all (((26 - 0) * 1 + 134217745) + 1 : Int).toNat).1 _ V hG x1 y1 hx1 (by omega) x2 y2 hx2 (by omega) (0 : Int32) 0 (show (0 : Int32).toInt = 0 from rfl) (by omega) (0 : Int32) 0 (show (0 : Int32).toInt = 0 from rfl) (by omega) none none none none none  (by omega)  (by omega)
