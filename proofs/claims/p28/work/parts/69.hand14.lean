/-! the reference: layGroup, power, game -/
set_option maxRecDepth 10000 in
set_option maxHeartbeats 40000000 in
theorem C_X13_bitsB_4 {P : Par} {g : LH} {d n : Nat}  (V : InvR P g) (x0 : Int32) (y0 : Int) (hx0 : x0.toInt = y0) (x1 : Int32) (y1 : Int) (hx1 : x1.toInt = y1) (hf1 : 0 ≤ y1 ∧ y1 ≤ 26) (x2 : Int32) (y2 : Int) (hx2 : x2.toInt = y2) (hf2 : 0 ≤ y2 ∧ y2 ≤ 26) (hq0 : y1 ≤ y2) (hq1 : y1 = vbS x0 (Int.toNat (y2))) (hmu : (26 - y2) * 1 + 0 < (n : Int) + 1) (ih4 : ∀ (V : InvR P g) (x0 : Int32) (y0 : Int) (hx0 : x0.toInt = y0) (x1 : Int32) (y1 : Int) (hx1 : x1.toInt = y1) (hf1 : 0 ≤ y1 ∧ y1 ≤ 26) (x2 : Int32) (y2 : Int) (hx2 : x2.toInt = y2) (hf2 : 0 ≤ y2 ∧ y2 ≤ 26) (hq0 : y1 ≤ y2) (hq1 : y1 = vbS x0 (Int.toNat (y2))), (26 - y2) * 1 + 0 < (n : Int) → LW 174 (d + 3) 0 0 4 [some (.int x0), some (.int x1), some (.int x2)] [] g (fun v g' => ∃ r : Int32, v = some (.int r) ∧ 0 ≤ r.toInt ∧ r.toInt ≤ 26 ∧ g = g' ∧ (r.toInt = vbS x0 26))) : LW 174 (d + 3) 0 0 4 [some (.int x0), some (.int x1), some (.int x2)] [] g (fun v g' => ∃ r : Int32, v = some (.int r) ∧ 0 ≤ r.toInt ∧ r.toInt ≤ 26 ∧ g = g' ∧ (r.toInt = vbS x0 26)) := by
  refine X_iload_n rfl rfl rfl rfl ?_
  refine X_bipush (v := (26 : Int32)) rfl rfl rfl ?_
  refine S_icmp_ge (tgt := 24) rfl rfl rfl hx2 (show (26 : Int32).toInt = 26 from rfl) (fun vh1 => ?_) (fun vh1 => ?_)
  · refine X_iload_n rfl rfl rfl rfl ?_
    have hr := hx1
    exact LW_ireturn (st := []) rfl rfl rfl ⟨_, rfl, by omega, by omega, rfl, (by
        rw [show Int.toNat y2 = 26 by omega] at hq1
        omega)⟩
  · refine X_iload_n rfl rfl rfl rfl ?_
    refine X_iload_n rfl rfl rfl rfl ?_
    refine X_iload_n rfl rfl rfl rfl ?_
    refine S_ishrX rfl rfl (fun vz2 hvz2 => ?_)
    refine X_iconst (v := (1 : Int32)) rfl rfl rfl ?_
    refine S_iandE (k := 1) rfl rfl rfl (fun vz3 hvz3 => ?_)
    refine S_iadd rfl rfl hx1 rfl (by omega) (fun vz4 hvz4 => ?_)
    refine X_istore_n (i := 1) (ls' := [some (.int x0), some (.int vz4), some (.int x2)]) rfl rfl rfl (Nat.le_of_ble_eq_true rfl) rfl ?_
    refine S_iinc (c := 1) rfl rfl rfl hx2 rfl (by omega) (fun vz5 hvz5 => ?_)
    refine LW_ls (ls' := [some (.int x0), some (.int vz4), some (.int vz5)]) rfl ?_
    refine LW_goto (tgt := 4) rfl rfl ?_
    exact ih4 V x0 y0 hx0 vz4 vz4.toInt rfl (by omega) vz5 vz5.toInt rfl (by omega)  (by omega) (by
        rw [show Int.toNat vz5.toInt = Int.toNat y2 + 1 by omega]
        show vz4.toInt = vbS x0 (Int.toNat y2) + vbt x0 (Int.toNat y2)
        unfold vbt
        rw [← nI_small (Int.toNat y2) (by omega) x2 (by omega), ← hvz2, ← hvz3.1, ← hq1]
        omega)  (by omega)
theorem C_X13_bitsB_all {P : Par} {g : LH} {d : Nat}  : ∀ n : Nat, (∀ (V : InvR P g) (x0 : Int32) (y0 : Int) (hx0 : x0.toInt = y0) (x1 : Int32) (y1 : Int) (hx1 : x1.toInt = y1) (hf1 : 0 ≤ y1 ∧ y1 ≤ 26) (x2 : Int32) (y2 : Int) (hx2 : x2.toInt = y2) (hf2 : 0 ≤ y2 ∧ y2 ≤ 26) (hq0 : y1 ≤ y2) (hq1 : y1 = vbS x0 (Int.toNat (y2))), (26 - y2) * 1 + 0 < (n : Int) → LW 174 (d + 3) 0 0 4 [some (.int x0), some (.int x1), some (.int x2)] [] g (fun v g' => ∃ r : Int32, v = some (.int r) ∧ 0 ≤ r.toInt ∧ r.toInt ≤ 26 ∧ g = g' ∧ (r.toInt = vbS x0 26))) := by
  intro n
  induction n with
  | zero => exact fun V x0 y0 hx0 x1 y1 hx1 hf1 x2 y2 hx2 hf2 hq0 hq1 hmu => absurd hmu (by omega)
  | succ n ih => exact fun V x0 y0 hx0 x1 y1 hx1 hf1 x2 y2 hx2 hf2 hq0 hq1 hmu => C_X13_bitsB_4  V x0 y0 hx0 x1 y1 hx1 hf1 x2 y2 hx2 hf2 hq0 hq1 (by omega) ih
set_option maxRecDepth 10000 in
set_option maxHeartbeats 40000000 in
theorem C_X13_bitsB {P : Par} {g : LH} {d : Nat}  (V : InvR P g) (x0 : Int32) (y0 : Int) (hx0 : x0.toInt = y0)   : LW 174 (d + 3) 0 0 0 (lEnt (mL 174) [.int x0]) [] g (fun v g' => ∃ r : Int32, v = some (.int r) ∧ 0 ≤ r.toInt ∧ r.toInt ≤ 26 ∧ g = g' ∧ (r.toInt = vbS x0 26)) := by
  refine LW_ls (ls' := [some (.int x0), none, none]) rfl ?_
  refine X_iconst (v := (0 : Int32)) rfl rfl rfl ?_
  refine X_istore_n (i := 1) (ls' := [some (.int x0), some (.int (0 : Int32)), none]) rfl rfl rfl (Nat.le_of_ble_eq_true rfl) rfl ?_
  refine X_iconst (v := (0 : Int32)) rfl rfl rfl ?_
  refine X_istore_n (i := 2) (ls' := [some (.int x0), some (.int (0 : Int32)), some (.int (0 : Int32))]) rfl rfl rfl (Nat.le_of_ble_eq_true rfl) rfl ?_
  exact (C_X13_bitsB_all (((26 - 0) * 1 + 0) + 1 : Int).toNat) V x0 y0 hx0 (0 : Int32) 0 (show (0 : Int32).toInt = 0 from rfl) (by omega) (0 : Int32) 0 (show (0 : Int32).toInt = 0 from rfl) (by omega)  (by omega) (rfl)  (by omega)
set_option maxRecDepth 10000 in
set_option maxHeartbeats 40000000 in
theorem C_X13_layGroup_33 {P : Par} {g g0 : LH} {d n : Nat}  (V : InvR P g) (hG : Gr g = Gr g0) (x1 : Int32) (y1 : Int) (hx1 : x1.toInt = y1) (hf1 : 0 ≤ y1 ∧ y1 ≤ 7) (x2 : Int32) (y2 : Int) (hx2 : x2.toInt = y2) (hf2 : 1 ≤ y2 ∧ y2 ≤ 67108863) (x3 : Int32) (y3 : Int) (hx3 : x3.toInt = y3) (hf3 : 0 ≤ y3 ∧ y3 ≤ 26) (o4 : Option Value) (o5 : Option Value) (hc356_1 : 1 ≤ (Gi g 356 1).toInt ∧ (Gi g 356 1).toInt ≤ 8) (hq0 : vbS x2 26 ≤ 10) (hq1 : vMB g x2 (Int.toNat (y3))) (hmu : (26 - y3) * 1 + 14351 < (n : Int) + 1) (ih33 : ∀ (g : LH) (V : InvR P g) (hG : Gr g = Gr g0) (x1 : Int32) (y1 : Int) (hx1 : x1.toInt = y1) (hf1 : 0 ≤ y1 ∧ y1 ≤ 7) (x2 : Int32) (y2 : Int) (hx2 : x2.toInt = y2) (hf2 : 1 ≤ y2 ∧ y2 ≤ 67108863) (x3 : Int32) (y3 : Int) (hx3 : x3.toInt = y3) (hf3 : 0 ≤ y3 ∧ y3 ≤ 26) (o4 : Option Value) (o5 : Option Value) (hc356_1 : 1 ≤ (Gi g 356 1).toInt ∧ (Gi g 356 1).toInt ≤ 8) (hq0 : vbS x2 26 ≤ 10) (hq1 : vMB g x2 (Int.toNat (y3))), (26 - y3) * 1 + 14351 < (n : Int) → LW 284 (d + 40) 0 0 33 [some (.ref 355), some (.int x1), some (.int x2), some (.int x3), o4, o5] [] g (fun v g' => ∃ r : Int32, v = some (.int r) ∧ 0 ≤ r.toInt ∧ r.toInt ≤ 1 ∧ InvR P g' ∧ Gr g' = Gr g0 ∧ (r.toInt = 1 → vMG g' x2))) (ih78 : ∀ (g : LH) (V : InvR P g) (hG : Gr g = Gr g0) (x1 : Int32) (y1 : Int) (hx1 : x1.toInt = y1) (hf1 : 0 ≤ y1 ∧ y1 ≤ 7) (x2 : Int32) (y2 : Int) (hx2 : x2.toInt = y2) (hf2 : 1 ≤ y2 ∧ y2 ≤ 67108863) (x3 : Int32) (y3 : Int) (hx3 : x3.toInt = y3) (hf3 : 0 ≤ y3 ∧ y3 ≤ 1024) (o4 : Option Value) (o5 : Option Value) (hc356_1 : 1 ≤ (Gi g 356 1).toInt ∧ (Gi g 356 1).toInt ≤ 8) (hq0 : vMG g x2), (1024 - y3) * 14 + 13 < (n : Int) → LW 284 (d + 40) 0 0 78 [some (.ref 355), some (.int x1), some (.int x2), some (.int x3), o4, o5] [] g (fun v g' => ∃ r : Int32, v = some (.int r) ∧ 0 ≤ r.toInt ∧ r.toInt ≤ 1 ∧ InvR P g' ∧ Gr g' = Gr g0 ∧ (r.toInt = 1 → vMG g' x2))) (ih94 : ∀ (g : LH) (V : InvR P g) (hG : Gr g = Gr g0) (x1 : Int32) (y1 : Int) (hx1 : x1.toInt = y1) (hf1 : 0 ≤ y1 ∧ y1 ≤ 7) (x2 : Int32) (y2 : Int) (hx2 : x2.toInt = y2) (hf2 : 1 ≤ y2 ∧ y2 ≤ 67108863) (x3 : Int32) (y3 : Int) (hx3 : x3.toInt = y3) (hf3 : 0 ≤ y3 ∧ y3 ≤ 1023) (x4 : Int32) (y4 : Int) (hx4 : x4.toInt = y4) (x5 : Int32) (y5 : Int) (hx5 : x5.toInt = y5) (hf5 : 0 ≤ y5 ∧ y5 ≤ 10) (hc355_33 : 0 ≤ (Gi g 355 33).toInt ∧ (Gi g 355 33).toInt ≤ 10) (hc356_1 : 1 ≤ (Gi g 356 1).toInt ∧ (Gi g 356 1).toInt ≤ 8) (hq0 : vMG g x2), (1024 - y3) * 14 + 0 + (10 - y5) * 1 + 0 < (n : Int) → LW 284 (d + 40) 0 0 94 [some (.ref 355), some (.int x1), some (.int x2), some (.int x3), some (.int x4), some (.int x5)] [] g (fun v g' => ∃ r : Int32, v = some (.int r) ∧ 0 ≤ r.toInt ∧ r.toInt ≤ 1 ∧ InvR P g' ∧ Gr g' = Gr g0 ∧ (r.toInt = 1 → vMG g' x2))) : LW 284 (d + 40) 0 0 33 [some (.ref 355), some (.int x1), some (.int x2), some (.int x3), o4, o5] [] g (fun v g' => ∃ r : Int32, v = some (.int r) ∧ 0 ≤ r.toInt ∧ r.toInt ≤ 1 ∧ InvR P g' ∧ Gr g' = Gr g0 ∧ (r.toInt = 1 → vMG g' x2)) := by
  obtain ⟨vz1, evz1⟩ : ∃ z, Gi g 356 1 = z := ⟨_, rfl⟩
  rw [evz1] at hc356_1
  refine X_iload_n rfl rfl rfl rfl ?_
  refine X_bipush (v := (26 : Int32)) rfl rfl rfl ?_
  refine S_icmp_ge (tgt := 76) rfl rfl rfl hx3 (show (26 : Int32).toInt = 26 from rfl) (fun vh2 => ?_) (fun vh2 => ?_)
  · refine X_iconst (v := (0 : Int32)) rfl rfl rfl ?_
    refine X_istore_n (i := 3) (ls' := [some (.ref 355), some (.int x1), some (.int x2), some (.int (0 : Int32)), o4, o5]) rfl rfl rfl (Nat.le_of_ble_eq_true rfl) rfl ?_
    exact ih78 _ V hG x1 y1 hx1 (by omega) x2 y2 hx2 (by omega) (0 : Int32) 0 (show (0 : Int32).toInt = 0 from rfl) (by omega) o4 o5 (by rw [evz1]; omega) (by
        rw [show Int.toNat y3 = 26 by omega] at hq1
        exact vMB.all hq0 hq1)  (by omega)
  · refine X_iload_n rfl rfl rfl rfl ?_
    refine X_iload_n rfl rfl rfl rfl ?_
    refine X_callS (as := [.int x2, .int x3]) (st := []) rfl rfl rfl (by decide) rfl (Nat.le_of_ble_eq_true rfl) (by decide) (Nat.le_of_ble_eq_true rfl) rfl ?_
    refine LW_ls (ls' := [some (.int x2), some (.int x3)]) rfl ?_
    refine X_iload_n rfl rfl rfl rfl ?_
    refine X_iload_n rfl rfl rfl rfl ?_
    refine S_ishrX rfl rfl (fun vz3 hvz3 => ?_)
    refine X_iconst (v := (1 : Int32)) rfl rfl rfl ?_
    refine S_iandE (k := 1) rfl rfl rfl (fun vz4 hvz4 => ?_)
    refine X_iconst (v := (1 : Int32)) rfl rfl rfl ?_
    refine S_icmp_ne (tgt := 13) rfl rfl rfl rfl (show (1 : Int32).toInt = 1 from rfl) (fun vh5 => ?_) (fun vh5 => ?_)
    · refine X_iconst (v := (0 : Int32)) rfl rfl rfl ?_
      refine LW_ireturn (st := []) rfl rfl rfl ?_
      refine S_if_ne (tgt := 50) rfl rfl rfl (show (0 : Int32).toInt = 0 from rfl) (fun q => absurd q (by omega)) (fun vh6 => ?_)
      refine LW_goto (tgt := 70) rfl rfl ?_
      refine S_iinc (c := 1) rfl rfl rfl hx3 rfl (by omega) (fun vz7 hvz7 => ?_)
      refine LW_ls (ls' := [some (.ref 355), some (.int x1), some (.int x2), some (.int vz7), o4, o5]) rfl ?_
      refine LW_goto (tgt := 33) rfl rfl ?_
      exact ih33 _ V hG x1 y1 hx1 (by omega) x2 y2 hx2 (by omega) vz7 vz7.toInt rfl (by omega) o4 o5 (by rw [evz1]; omega) (by
        exact hq0) (by
        rw [show Int.toNat vz7.toInt = Int.toNat y3 + 1 by omega]
        refine vMB.no hq1 ?_
        unfold vbt
        rw [← nI_small (Int.toNat y3) (by omega) x3 (by omega), ← hvz3, ← hvz4.1]
        omega)  (by omega)
    · refine X_iconst (v := (1 : Int32)) rfl rfl rfl ?_
      refine LW_goto (tgt := 14) rfl rfl ?_
      refine LW_ireturn (st := []) rfl rfl rfl ?_
      refine S_if_ne (tgt := 50) rfl rfl rfl (show (1 : Int32).toInt = 1 from rfl) (fun vh8 => ?_) (fun q => absurd q (by omega))
      refine X_aload_n rfl rfl rfl rfl ?_
      refine X_getR (a := 367) rfl rfl rfl ((congrFun V.1 355).trans s_355) rfl ((congrFun (V.2.1 355 (by decide)) 30).trans r_355_30) ?_
      refine X_aload_n rfl rfl rfl rfl ?_
      refine S_getI rfl rfl rfl ((congrFun V.1 355).trans s_355) rfl (fun vz9 evz9 => ?_)
      have vf10 := vMB.lt hq1 (by omega) (by unfold vbt; rw [← nI_small (Int.toNat y3) (by omega) x3 (by omega), ← hvz3, ← hvz4.1]; omega) hq0
      rw [evz9] at vf10
      refine X_iload_n rfl rfl rfl rfl ?_
      refine S_iast (I := InvR _) rfl rfl ((congrFun V.1 367).trans s_367) rfl (by omega) (InvR_putO V (by decide) (show okO 367 _ _ from (show 0 ≤ x3.toInt ∧ x3.toInt ≤ 25 by omega))) (fun g V ve11 vn12 hq => ?_)
      have hG := hq.trans hG
      have evz1 := (vn12 (356) 1 (Or.inl (by decide))).trans evz1
      have evz9 := (vn12 (355) 33 (Or.inl (by decide))).trans evz9
      refine X_aload_n rfl rfl rfl rfl ?_
      refine X_dup rfl rfl rfl ?_
      refine X_getI (v := vz9) rfl rfl rfl ((congrFun V.1 355).trans s_355) rfl evz9 ?_
      refine X_iconst (v := (1 : Int32)) rfl rfl rfl ?_
      refine S_iadd rfl rfl rfl (show (1 : Int32).toInt = 1 from rfl) (by omega) (fun vz13 hvz13 => ?_)
      refine S_putI (I := InvR _) rfl rfl rfl ((congrFun V.1 355).trans s_355) rfl rfl rfl rfl (InvR_putO V (by decide) trivial) (fun g V ve14 vn15 hq => ?_)
      have hG := hq.trans hG
      have evz1 := (vn15 (356) 1 (Or.inl (by decide))).trans evz1
      refine S_iinc (c := 1) rfl rfl rfl hx3 rfl (by omega) (fun vz16 hvz16 => ?_)
      refine LW_ls (ls' := [some (.ref 355), some (.int x1), some (.int x2), some (.int vz16), o4, o5]) rfl ?_
      refine LW_goto (tgt := 33) rfl rfl ?_
      exact ih33 _ V hG x1 y1 hx1 (by omega) x2 y2 hx2 (by omega) vz16 vz16.toInt rfl (by omega) o4 o5 (by rw [evz1]; omega) (by
        exact hq0) (by
        rw [show Int.toNat vz16.toInt = Int.toNat y3 + 1 by omega]
        refine vMB.yes hq1 ?_ (by omega) vn12 ve11 evz9 vn15 ve14 (by omega)
        unfold vbt
        rw [← nI_small (Int.toNat y3) (by omega) x3 (by omega), ← hvz3, ← hvz4.1]
        omega)  (by omega)
set_option maxRecDepth 10000 in
set_option maxHeartbeats 40000000 in
theorem C_X13_layGroup_78 {P : Par} {g g0 : LH} {d n : Nat}  (V : InvR P g) (hG : Gr g = Gr g0) (x1 : Int32) (y1 : Int) (hx1 : x1.toInt = y1) (hf1 : 0 ≤ y1 ∧ y1 ≤ 7) (x2 : Int32) (y2 : Int) (hx2 : x2.toInt = y2) (hf2 : 1 ≤ y2 ∧ y2 ≤ 67108863) (x3 : Int32) (y3 : Int) (hx3 : x3.toInt = y3) (hf3 : 0 ≤ y3 ∧ y3 ≤ 1024) (o4 : Option Value) (o5 : Option Value) (hc356_1 : 1 ≤ (Gi g 356 1).toInt ∧ (Gi g 356 1).toInt ≤ 8) (hq0 : vMG g x2) (hmu : (1024 - y3) * 14 + 13 < (n : Int) + 1) (ih33 : ∀ (g : LH) (V : InvR P g) (hG : Gr g = Gr g0) (x1 : Int32) (y1 : Int) (hx1 : x1.toInt = y1) (hf1 : 0 ≤ y1 ∧ y1 ≤ 7) (x2 : Int32) (y2 : Int) (hx2 : x2.toInt = y2) (hf2 : 1 ≤ y2 ∧ y2 ≤ 67108863) (x3 : Int32) (y3 : Int) (hx3 : x3.toInt = y3) (hf3 : 0 ≤ y3 ∧ y3 ≤ 26) (o4 : Option Value) (o5 : Option Value) (hc356_1 : 1 ≤ (Gi g 356 1).toInt ∧ (Gi g 356 1).toInt ≤ 8) (hq0 : vbS x2 26 ≤ 10) (hq1 : vMB g x2 (Int.toNat (y3))), (26 - y3) * 1 + 14351 < (n : Int) → LW 284 (d + 40) 0 0 33 [some (.ref 355), some (.int x1), some (.int x2), some (.int x3), o4, o5] [] g (fun v g' => ∃ r : Int32, v = some (.int r) ∧ 0 ≤ r.toInt ∧ r.toInt ≤ 1 ∧ InvR P g' ∧ Gr g' = Gr g0 ∧ (r.toInt = 1 → vMG g' x2))) (ih78 : ∀ (g : LH) (V : InvR P g) (hG : Gr g = Gr g0) (x1 : Int32) (y1 : Int) (hx1 : x1.toInt = y1) (hf1 : 0 ≤ y1 ∧ y1 ≤ 7) (x2 : Int32) (y2 : Int) (hx2 : x2.toInt = y2) (hf2 : 1 ≤ y2 ∧ y2 ≤ 67108863) (x3 : Int32) (y3 : Int) (hx3 : x3.toInt = y3) (hf3 : 0 ≤ y3 ∧ y3 ≤ 1024) (o4 : Option Value) (o5 : Option Value) (hc356_1 : 1 ≤ (Gi g 356 1).toInt ∧ (Gi g 356 1).toInt ≤ 8) (hq0 : vMG g x2), (1024 - y3) * 14 + 13 < (n : Int) → LW 284 (d + 40) 0 0 78 [some (.ref 355), some (.int x1), some (.int x2), some (.int x3), o4, o5] [] g (fun v g' => ∃ r : Int32, v = some (.int r) ∧ 0 ≤ r.toInt ∧ r.toInt ≤ 1 ∧ InvR P g' ∧ Gr g' = Gr g0 ∧ (r.toInt = 1 → vMG g' x2))) (ih94 : ∀ (g : LH) (V : InvR P g) (hG : Gr g = Gr g0) (x1 : Int32) (y1 : Int) (hx1 : x1.toInt = y1) (hf1 : 0 ≤ y1 ∧ y1 ≤ 7) (x2 : Int32) (y2 : Int) (hx2 : x2.toInt = y2) (hf2 : 1 ≤ y2 ∧ y2 ≤ 67108863) (x3 : Int32) (y3 : Int) (hx3 : x3.toInt = y3) (hf3 : 0 ≤ y3 ∧ y3 ≤ 1023) (x4 : Int32) (y4 : Int) (hx4 : x4.toInt = y4) (x5 : Int32) (y5 : Int) (hx5 : x5.toInt = y5) (hf5 : 0 ≤ y5 ∧ y5 ≤ 10) (hc355_33 : 0 ≤ (Gi g 355 33).toInt ∧ (Gi g 355 33).toInt ≤ 10) (hc356_1 : 1 ≤ (Gi g 356 1).toInt ∧ (Gi g 356 1).toInt ≤ 8) (hq0 : vMG g x2), (1024 - y3) * 14 + 0 + (10 - y5) * 1 + 0 < (n : Int) → LW 284 (d + 40) 0 0 94 [some (.ref 355), some (.int x1), some (.int x2), some (.int x3), some (.int x4), some (.int x5)] [] g (fun v g' => ∃ r : Int32, v = some (.int r) ∧ 0 ≤ r.toInt ∧ r.toInt ≤ 1 ∧ InvR P g' ∧ Gr g' = Gr g0 ∧ (r.toInt = 1 → vMG g' x2))) : LW 284 (d + 40) 0 0 78 [some (.ref 355), some (.int x1), some (.int x2), some (.int x3), o4, o5] [] g (fun v g' => ∃ r : Int32, v = some (.int r) ∧ 0 ≤ r.toInt ∧ r.toInt ≤ 1 ∧ InvR P g' ∧ Gr g' = Gr g0 ∧ (r.toInt = 1 → vMG g' x2)) := by
  obtain ⟨vz1, evz1⟩ : ∃ z, Gi g 356 1 = z := ⟨_, rfl⟩
  rw [evz1] at hc356_1
  refine X_iload_n rfl rfl rfl rfl ?_
  refine X_iconst (v := (1 : Int32)) rfl rfl rfl ?_
  refine X_aload_n rfl rfl rfl rfl ?_
  refine S_getI rfl rfl rfl ((congrFun V.1 355).trans s_355) rfl (fun vz2 evz2 => ?_)
  have vf3 := hq0.1
  rw [evz2] at vf3
  refine S_shl1 (n := 10) rfl rfl rfl (by omega) (fun vz4 hvz4 => ?_)
  refine S_icmp_ge (tgt := 164) rfl rfl rfl hx3 rfl (fun vh5 => ?_) (fun vh5 => ?_)
  · refine X_iconst (v := (1 : Int32)) rfl rfl rfl ?_
    exact LW_ireturn (st := []) rfl rfl rfl ⟨_, rfl, by decide, by decide, V, hG, (by
        exact fun _ => hq0)⟩
  · refine X_iconst (v := (0 : Int32)) rfl rfl rfl ?_
    refine X_istore (i := 4) (ls' := [some (.ref 355), some (.int x1), some (.int x2), some (.int x3), some (.int (0 : Int32)), o5]) rfl rfl (Nat.le_of_ble_eq_true rfl) rfl ?_
    refine X_iconst (v := (0 : Int32)) rfl rfl rfl ?_
    refine X_istore (i := 5) (ls' := [some (.ref 355), some (.int x1), some (.int x2), some (.int x3), some (.int (0 : Int32)), some (.int (0 : Int32))]) rfl rfl (Nat.le_of_ble_eq_true rfl) rfl ?_
    exact ih94 _ V hG x1 y1 hx1 (by omega) x2 y2 hx2 (by omega) x3 y3 hx3 (by omega) (0 : Int32) 0 (show (0 : Int32).toInt = 0 from rfl) (0 : Int32) 0 (show (0 : Int32).toInt = 0 from rfl) (by omega) (by rw [evz2]; omega) (by rw [evz1]; omega) (by
        exact hq0)  (by omega)
set_option maxRecDepth 10000 in
set_option maxHeartbeats 40000000 in
theorem C_X13_layGroup_94 {P : Par} {g g0 : LH} {d n : Nat}  (V : InvR P g) (hG : Gr g = Gr g0) (x1 : Int32) (y1 : Int) (hx1 : x1.toInt = y1) (hf1 : 0 ≤ y1 ∧ y1 ≤ 7) (x2 : Int32) (y2 : Int) (hx2 : x2.toInt = y2) (hf2 : 1 ≤ y2 ∧ y2 ≤ 67108863) (x3 : Int32) (y3 : Int) (hx3 : x3.toInt = y3) (hf3 : 0 ≤ y3 ∧ y3 ≤ 1023) (x4 : Int32) (y4 : Int) (hx4 : x4.toInt = y4) (x5 : Int32) (y5 : Int) (hx5 : x5.toInt = y5) (hf5 : 0 ≤ y5 ∧ y5 ≤ 10) (hc355_33 : 0 ≤ (Gi g 355 33).toInt ∧ (Gi g 355 33).toInt ≤ 10) (hc356_1 : 1 ≤ (Gi g 356 1).toInt ∧ (Gi g 356 1).toInt ≤ 8) (hq0 : vMG g x2) (hmu : (1024 - y3) * 14 + 0 + (10 - y5) * 1 + 0 < (n : Int) + 1) (ih33 : ∀ (g : LH) (V : InvR P g) (hG : Gr g = Gr g0) (x1 : Int32) (y1 : Int) (hx1 : x1.toInt = y1) (hf1 : 0 ≤ y1 ∧ y1 ≤ 7) (x2 : Int32) (y2 : Int) (hx2 : x2.toInt = y2) (hf2 : 1 ≤ y2 ∧ y2 ≤ 67108863) (x3 : Int32) (y3 : Int) (hx3 : x3.toInt = y3) (hf3 : 0 ≤ y3 ∧ y3 ≤ 26) (o4 : Option Value) (o5 : Option Value) (hc356_1 : 1 ≤ (Gi g 356 1).toInt ∧ (Gi g 356 1).toInt ≤ 8) (hq0 : vbS x2 26 ≤ 10) (hq1 : vMB g x2 (Int.toNat (y3))), (26 - y3) * 1 + 14351 < (n : Int) → LW 284 (d + 40) 0 0 33 [some (.ref 355), some (.int x1), some (.int x2), some (.int x3), o4, o5] [] g (fun v g' => ∃ r : Int32, v = some (.int r) ∧ 0 ≤ r.toInt ∧ r.toInt ≤ 1 ∧ InvR P g' ∧ Gr g' = Gr g0 ∧ (r.toInt = 1 → vMG g' x2))) (ih78 : ∀ (g : LH) (V : InvR P g) (hG : Gr g = Gr g0) (x1 : Int32) (y1 : Int) (hx1 : x1.toInt = y1) (hf1 : 0 ≤ y1 ∧ y1 ≤ 7) (x2 : Int32) (y2 : Int) (hx2 : x2.toInt = y2) (hf2 : 1 ≤ y2 ∧ y2 ≤ 67108863) (x3 : Int32) (y3 : Int) (hx3 : x3.toInt = y3) (hf3 : 0 ≤ y3 ∧ y3 ≤ 1024) (o4 : Option Value) (o5 : Option Value) (hc356_1 : 1 ≤ (Gi g 356 1).toInt ∧ (Gi g 356 1).toInt ≤ 8) (hq0 : vMG g x2), (1024 - y3) * 14 + 13 < (n : Int) → LW 284 (d + 40) 0 0 78 [some (.ref 355), some (.int x1), some (.int x2), some (.int x3), o4, o5] [] g (fun v g' => ∃ r : Int32, v = some (.int r) ∧ 0 ≤ r.toInt ∧ r.toInt ≤ 1 ∧ InvR P g' ∧ Gr g' = Gr g0 ∧ (r.toInt = 1 → vMG g' x2))) (ih94 : ∀ (g : LH) (V : InvR P g) (hG : Gr g = Gr g0) (x1 : Int32) (y1 : Int) (hx1 : x1.toInt = y1) (hf1 : 0 ≤ y1 ∧ y1 ≤ 7) (x2 : Int32) (y2 : Int) (hx2 : x2.toInt = y2) (hf2 : 1 ≤ y2 ∧ y2 ≤ 67108863) (x3 : Int32) (y3 : Int) (hx3 : x3.toInt = y3) (hf3 : 0 ≤ y3 ∧ y3 ≤ 1023) (x4 : Int32) (y4 : Int) (hx4 : x4.toInt = y4) (x5 : Int32) (y5 : Int) (hx5 : x5.toInt = y5) (hf5 : 0 ≤ y5 ∧ y5 ≤ 10) (hc355_33 : 0 ≤ (Gi g 355 33).toInt ∧ (Gi g 355 33).toInt ≤ 10) (hc356_1 : 1 ≤ (Gi g 356 1).toInt ∧ (Gi g 356 1).toInt ≤ 8) (hq0 : vMG g x2), (1024 - y3) * 14 + 0 + (10 - y5) * 1 + 0 < (n : Int) → LW 284 (d + 40) 0 0 94 [some (.ref 355), some (.int x1), some (.int x2), some (.int x3), some (.int x4), some (.int x5)] [] g (fun v g' => ∃ r : Int32, v = some (.int r) ∧ 0 ≤ r.toInt ∧ r.toInt ≤ 1 ∧ InvR P g' ∧ Gr g' = Gr g0 ∧ (r.toInt = 1 → vMG g' x2))) : LW 284 (d + 40) 0 0 94 [some (.ref 355), some (.int x1), some (.int x2), some (.int x3), some (.int x4), some (.int x5)] [] g (fun v g' => ∃ r : Int32, v = some (.int r) ∧ 0 ≤ r.toInt ∧ r.toInt ≤ 1 ∧ InvR P g' ∧ Gr g' = Gr g0 ∧ (r.toInt = 1 → vMG g' x2)) := by
  obtain ⟨vz1, evz1⟩ : ∃ z, Gi g 355 33 = z := ⟨_, rfl⟩
  rw [evz1] at hc355_33
  obtain ⟨vz2, evz2⟩ : ∃ z, Gi g 356 1 = z := ⟨_, rfl⟩
  rw [evz2] at hc356_1
  refine X_iload rfl rfl rfl ?_
  refine X_aload_n rfl rfl rfl rfl ?_
  refine X_getI (v := vz1) rfl rfl rfl ((congrFun V.1 355).trans s_355) rfl evz1 ?_
  refine S_icmp_ge (tgt := 136) rfl rfl rfl hx5 rfl (fun vh3 => ?_) (fun vh3 => ?_)
  · refine X_aload_n rfl rfl rfl rfl ?_
    refine X_getR (a := 368) rfl rfl rfl ((congrFun V.1 355).trans s_355) rfl ((congrFun (V.2.1 355 (by decide)) 31).trans r_355_31) ?_
    refine X_iload_n rfl rfl rfl rfl ?_
    refine X_aload_n rfl rfl rfl rfl ?_
    refine X_iload_n rfl rfl rfl rfl ?_
    refine X_iload rfl rfl rfl ?_
    refine X_iconst (v := (0 : Int32)) rfl rfl rfl ?_
    refine Y_callV (as := [.int x1, .int x4, .int (0 : Int32)]) (st := [.int x3, .ref 368]) rfl rfl rfl (by decide) rfl (Nat.le_of_ble_eq_true rfl) (by decide) (Nat.le_of_ble_eq_true rfl) rfl ((congrFun V.1 355).trans s_355) (by decide) (C_X13_canSayB V x1 y1 hx1 (by omega) x4 y4 hx4 (0 : Int32) 0 (show (0 : Int32).toInt = 0 from rfl) (by omega) ) ?_
    rintro _ g' ⟨vr4, rfl, hrvr40, hrvr41, hgg, vq5⟩
    subst hgg
    refine S_if_ne (tgt := 156) rfl rfl rfl rfl (fun vh6 => ?_) (fun vh6 => ?_)
    · refine X_iconst (v := (0 : Int32)) rfl rfl rfl ?_
      refine S_zastB (I := InvR _) rfl rfl ((congrFun V.1 368).trans s_368) hx3 (by omega) (fun x vhx => (InvR_putO V (by decide) (show okO 368 _ _ from (show 0 ≤ x.toInt ∧ x.toInt ≤ 1 by omega)))) (fun g V vn8 hq => ?_)
      have hG := hq.trans hG
      have evz1 := (vn8 (355) 33 (Or.inl (by decide))).trans evz1
      have evz2 := (vn8 (356) 1 (Or.inl (by decide))).trans evz2
      refine S_iinc (c := 1) rfl rfl rfl hx3 rfl (by omega) (fun vz9 hvz9 => ?_)
      refine LW_ls (ls' := [some (.ref 355), some (.int x1), some (.int x2), some (.int vz9), some (.int x4), some (.int x5)]) rfl ?_
      refine LW_goto (tgt := 78) rfl rfl ?_
      exact ih78 _ V hG x1 y1 hx1 (by omega) x2 y2 hx2 (by omega) vz9 vz9.toInt rfl (by omega) (some (.int x4)) (some (.int x5)) (by rw [evz2]; omega) (by
        exact vMG.oth (fun k => vn8 355 k (Or.inl (by decide))) (fun k => vn8 367 k (Or.inl (by decide))) hq0)  (by omega)
    · refine X_iconst (v := (1 : Int32)) rfl rfl rfl ?_
      refine LW_goto (tgt := 157) rfl rfl ?_
      refine S_zastB (I := InvR _) rfl rfl ((congrFun V.1 368).trans s_368) hx3 (by omega) (fun x vhx => (InvR_putO V (by decide) (show okO 368 _ _ from (show 0 ≤ x.toInt ∧ x.toInt ≤ 1 by omega)))) (fun g V vn11 hq => ?_)
      have hG := hq.trans hG
      have evz1 := (vn11 (355) 33 (Or.inl (by decide))).trans evz1
      have evz2 := (vn11 (356) 1 (Or.inl (by decide))).trans evz2
      refine S_iinc (c := 1) rfl rfl rfl hx3 rfl (by omega) (fun vz12 hvz12 => ?_)
      refine LW_ls (ls' := [some (.ref 355), some (.int x1), some (.int x2), some (.int vz12), some (.int x4), some (.int x5)]) rfl ?_
      refine LW_goto (tgt := 78) rfl rfl ?_
      exact ih78 _ V hG x1 y1 hx1 (by omega) x2 y2 hx2 (by omega) vz12 vz12.toInt rfl (by omega) (some (.int x4)) (some (.int x5)) (by rw [evz2]; omega) (by
        exact vMG.oth (fun k => vn11 355 k (Or.inl (by decide))) (fun k => vn11 367 k (Or.inl (by decide))) hq0)  (by omega)
  · refine X_iload rfl rfl rfl ?_
    refine X_iload_n rfl rfl rfl rfl ?_
    refine X_iload rfl rfl rfl ?_
    refine X_callS (as := [.int x3, .int x5]) (st := [.int x4]) rfl rfl rfl (by decide) rfl (Nat.le_of_ble_eq_true rfl) (by decide) (Nat.le_of_ble_eq_true rfl) rfl ?_
    refine LW_ls (ls' := [some (.int x3), some (.int x5)]) rfl ?_
    refine X_iload_n rfl rfl rfl rfl ?_
    refine X_iload_n rfl rfl rfl rfl ?_
    refine S_ishrX rfl rfl (fun vz13 hvz13 => ?_)
    refine X_iconst (v := (1 : Int32)) rfl rfl rfl ?_
    refine S_iandE (k := 1) rfl rfl rfl (fun vz14 hvz14 => ?_)
    refine X_iconst (v := (1 : Int32)) rfl rfl rfl ?_
    refine S_icmp_ne (tgt := 13) rfl rfl rfl rfl (show (1 : Int32).toInt = 1 from rfl) (fun vh15 => ?_) (fun vh15 => ?_)
    · refine X_iconst (v := (0 : Int32)) rfl rfl rfl ?_
      refine LW_ireturn (st := []) rfl rfl rfl ?_
      refine S_if_eq (tgt := 126) rfl rfl rfl (show (0 : Int32).toInt = 0 from rfl) (fun vh16 => ?_) (fun q => absurd q (by omega))
      refine X_iconst (v := (0 : Int32)) rfl rfl rfl ?_
      refine S_iorX rfl rfl (fun vz17 hvz17 => ?_)
      refine X_istore (i := 4) (ls' := [some (.ref 355), some (.int x1), some (.int x2), some (.int x3), some (.int vz17), some (.int x5)]) rfl rfl (Nat.le_of_ble_eq_true rfl) rfl ?_
      refine S_iinc (c := 1) rfl rfl rfl hx5 rfl (by omega) (fun vz18 hvz18 => ?_)
      refine LW_ls (ls' := [some (.ref 355), some (.int x1), some (.int x2), some (.int x3), some (.int vz17), some (.int vz18)]) rfl ?_
      refine LW_goto (tgt := 94) rfl rfl ?_
      exact ih94 _ V hG x1 y1 hx1 (by omega) x2 y2 hx2 (by omega) x3 y3 hx3 (by omega) vz17 vz17.toInt rfl vz18 vz18.toInt rfl (by omega) (by rw [evz1]; omega) (by rw [evz2]; omega) (by
        exact hq0)  (by omega)
    · refine X_iconst (v := (1 : Int32)) rfl rfl rfl ?_
      refine LW_goto (tgt := 14) rfl rfl ?_
      refine LW_ireturn (st := []) rfl rfl rfl ?_
      refine S_if_eq (tgt := 126) rfl rfl rfl (show (1 : Int32).toInt = 1 from rfl) (fun q => absurd q (by omega)) (fun vh19 => ?_)
      refine X_iconst (v := (1 : Int32)) rfl rfl rfl ?_
      refine X_aload_n rfl rfl rfl rfl ?_
      refine X_getR (a := 367) rfl rfl rfl ((congrFun V.1 355).trans s_355) rfl ((congrFun (V.2.1 355 (by decide)) 30).trans r_355_30) ?_
      refine X_iload rfl rfl rfl ?_
      refine S_iald rfl rfl ((congrFun V.1 367).trans s_367) hx5 (by omega) (fun vz20 evz20 => ?_)
      have vf21 := O_367 (V.2.2.2.2.2.2.1 367 ((y5 : Int).toNat) (Nat.le_of_ble_eq_true rfl))
      rw [evz20] at vf21
      refine S_ishlX rfl rfl (fun vz22 hvz22 => ?_)
      refine LW_goto (tgt := 127) rfl rfl ?_
      refine S_iorX rfl rfl (fun vz23 hvz23 => ?_)
      refine X_istore (i := 4) (ls' := [some (.ref 355), some (.int x1), some (.int x2), some (.int x3), some (.int vz23), some (.int x5)]) rfl rfl (Nat.le_of_ble_eq_true rfl) rfl ?_
      refine S_iinc (c := 1) rfl rfl rfl hx5 rfl (by omega) (fun vz24 hvz24 => ?_)
      refine LW_ls (ls' := [some (.ref 355), some (.int x1), some (.int x2), some (.int x3), some (.int vz23), some (.int vz24)]) rfl ?_
      refine LW_goto (tgt := 94) rfl rfl ?_
      exact ih94 _ V hG x1 y1 hx1 (by omega) x2 y2 hx2 (by omega) x3 y3 hx3 (by omega) vz23 vz23.toInt rfl vz24 vz24.toInt rfl (by omega) (by rw [evz1]; omega) (by rw [evz2]; omega) (by
        exact hq0)  (by omega)
theorem C_X13_layGroup_all {P : Par} {g0 : LH} {d : Nat}  : ∀ n : Nat, (∀ (g : LH) (V : InvR P g) (hG : Gr g = Gr g0) (x1 : Int32) (y1 : Int) (hx1 : x1.toInt = y1) (hf1 : 0 ≤ y1 ∧ y1 ≤ 7) (x2 : Int32) (y2 : Int) (hx2 : x2.toInt = y2) (hf2 : 1 ≤ y2 ∧ y2 ≤ 67108863) (x3 : Int32) (y3 : Int) (hx3 : x3.toInt = y3) (hf3 : 0 ≤ y3 ∧ y3 ≤ 26) (o4 : Option Value) (o5 : Option Value) (hc356_1 : 1 ≤ (Gi g 356 1).toInt ∧ (Gi g 356 1).toInt ≤ 8) (hq0 : vbS x2 26 ≤ 10) (hq1 : vMB g x2 (Int.toNat (y3))), (26 - y3) * 1 + 14351 < (n : Int) → LW 284 (d + 40) 0 0 33 [some (.ref 355), some (.int x1), some (.int x2), some (.int x3), o4, o5] [] g (fun v g' => ∃ r : Int32, v = some (.int r) ∧ 0 ≤ r.toInt ∧ r.toInt ≤ 1 ∧ InvR P g' ∧ Gr g' = Gr g0 ∧ (r.toInt = 1 → vMG g' x2))) ∧ (∀ (g : LH) (V : InvR P g) (hG : Gr g = Gr g0) (x1 : Int32) (y1 : Int) (hx1 : x1.toInt = y1) (hf1 : 0 ≤ y1 ∧ y1 ≤ 7) (x2 : Int32) (y2 : Int) (hx2 : x2.toInt = y2) (hf2 : 1 ≤ y2 ∧ y2 ≤ 67108863) (x3 : Int32) (y3 : Int) (hx3 : x3.toInt = y3) (hf3 : 0 ≤ y3 ∧ y3 ≤ 1024) (o4 : Option Value) (o5 : Option Value) (hc356_1 : 1 ≤ (Gi g 356 1).toInt ∧ (Gi g 356 1).toInt ≤ 8) (hq0 : vMG g x2), (1024 - y3) * 14 + 13 < (n : Int) → LW 284 (d + 40) 0 0 78 [some (.ref 355), some (.int x1), some (.int x2), some (.int x3), o4, o5] [] g (fun v g' => ∃ r : Int32, v = some (.int r) ∧ 0 ≤ r.toInt ∧ r.toInt ≤ 1 ∧ InvR P g' ∧ Gr g' = Gr g0 ∧ (r.toInt = 1 → vMG g' x2))) ∧ (∀ (g : LH) (V : InvR P g) (hG : Gr g = Gr g0) (x1 : Int32) (y1 : Int) (hx1 : x1.toInt = y1) (hf1 : 0 ≤ y1 ∧ y1 ≤ 7) (x2 : Int32) (y2 : Int) (hx2 : x2.toInt = y2) (hf2 : 1 ≤ y2 ∧ y2 ≤ 67108863) (x3 : Int32) (y3 : Int) (hx3 : x3.toInt = y3) (hf3 : 0 ≤ y3 ∧ y3 ≤ 1023) (x4 : Int32) (y4 : Int) (hx4 : x4.toInt = y4) (x5 : Int32) (y5 : Int) (hx5 : x5.toInt = y5) (hf5 : 0 ≤ y5 ∧ y5 ≤ 10) (hc355_33 : 0 ≤ (Gi g 355 33).toInt ∧ (Gi g 355 33).toInt ≤ 10) (hc356_1 : 1 ≤ (Gi g 356 1).toInt ∧ (Gi g 356 1).toInt ≤ 8) (hq0 : vMG g x2), (1024 - y3) * 14 + 0 + (10 - y5) * 1 + 0 < (n : Int) → LW 284 (d + 40) 0 0 94 [some (.ref 355), some (.int x1), some (.int x2), some (.int x3), some (.int x4), some (.int x5)] [] g (fun v g' => ∃ r : Int32, v = some (.int r) ∧ 0 ≤ r.toInt ∧ r.toInt ≤ 1 ∧ InvR P g' ∧ Gr g' = Gr g0 ∧ (r.toInt = 1 → vMG g' x2))) := by
  intro n
  induction n with
  | zero => exact ⟨fun g V hG x1 y1 hx1 hf1 x2 y2 hx2 hf2 x3 y3 hx3 hf3 o4 o5 hc356_1 hq0 hq1 hmu => absurd hmu (by omega), fun g V hG x1 y1 hx1 hf1 x2 y2 hx2 hf2 x3 y3 hx3 hf3 o4 o5 hc356_1 hq0 hmu => absurd hmu (by omega), fun g V hG x1 y1 hx1 hf1 x2 y2 hx2 hf2 x3 y3 hx3 hf3 x4 y4 hx4 x5 y5 hx5 hf5 hc355_33 hc356_1 hq0 hmu => absurd hmu (by omega)⟩
  | succ n ih => exact ⟨fun g V hG x1 y1 hx1 hf1 x2 y2 hx2 hf2 x3 y3 hx3 hf3 o4 o5 hc356_1 hq0 hq1 hmu => C_X13_layGroup_33  V hG x1 y1 hx1 hf1 x2 y2 hx2 hf2 x3 y3 hx3 hf3 o4 o5 hc356_1 hq0 hq1 (by omega) ih.1 ih.2.1 ih.2.2, fun g V hG x1 y1 hx1 hf1 x2 y2 hx2 hf2 x3 y3 hx3 hf3 o4 o5 hc356_1 hq0 hmu => C_X13_layGroup_78  V hG x1 y1 hx1 hf1 x2 y2 hx2 hf2 x3 y3 hx3 hf3 o4 o5 hc356_1 hq0 (by omega) ih.1 ih.2.1 ih.2.2, fun g V hG x1 y1 hx1 hf1 x2 y2 hx2 hf2 x3 y3 hx3 hf3 x4 y4 hx4 x5 y5 hx5 hf5 hc355_33 hc356_1 hq0 hmu => C_X13_layGroup_94  V hG x1 y1 hx1 hf1 x2 y2 hx2 hf2 x3 y3 hx3 hf3 x4 y4 hx4 x5 y5 hx5 hf5 hc355_33 hc356_1 hq0 (by omega) ih.1 ih.2.1 ih.2.2⟩
set_option maxRecDepth 10000 in
set_option maxHeartbeats 40000000 in
theorem C_X13_layGroup {P : Par} {g : LH} {d : Nat}  (V : InvR P g) (x1 : Int32) (y1 : Int) (hx1 : x1.toInt = y1) (x2 : Int32) (y2 : Int) (hx2 : x2.toInt = y2)   : LW 284 (d + 40) 0 0 0 (lEnt (mL 284) [.ref 355, .int x1, .int x2]) [] g (fun v g' => ∃ r : Int32, v = some (.int r) ∧ 0 ≤ r.toInt ∧ r.toInt ≤ 1 ∧ InvR P g' ∧ Gr g' = Gr g ∧ (r.toInt = 1 → vMG g' x2)) := by
  refine LW_ls (ls' := [some (.ref 355), some (.int x1), some (.int x2), none, none, none]) rfl ?_
  have hG : Gr g = Gr g := rfl
  refine X_aload_n rfl rfl rfl rfl ?_
  refine X_iload_n rfl rfl rfl rfl ?_
  refine X_callV (as := [.int x1]) (st := []) rfl rfl rfl (by decide) rfl (Nat.le_of_ble_eq_true rfl) (by decide) (Nat.le_of_ble_eq_true rfl) rfl ((congrFun V.1 355).trans s_355) (by decide) ?_
  refine LW_ls (ls' := [some (.ref 355), some (.int x1)]) rfl ?_
  refine X_iload_n rfl rfl rfl rfl ?_
  refine X_iconst (v := (0 : Int32)) rfl rfl rfl ?_
  refine X_aload_n rfl rfl rfl rfl ?_
  refine X_getR (a := 356) rfl rfl rfl ((congrFun V.1 355).trans s_355) rfl ((congrFun (V.2.1 355 (by decide)) 0).trans r_355_0) ?_
  refine X_iconst (v := (1 : Int32)) rfl rfl rfl ?_
  refine S_iald rfl rfl ((congrFun V.1 356).trans s_356) (show (1 : Int32).toInt = 1 from rfl) (by omega) (fun vz1 evz1 => ?_)
  have evz1 : Gi g 356 1 = vz1 := evz1
  have vf2 := A_SAYS (V.2.2.2.1 (1)) (by omega)
  rw [evz1] at vf2
  refine X_iconst (v := (1 : Int32)) rfl rfl rfl ?_
  refine S_isub rfl rfl rfl (show (1 : Int32).toInt = 1 from rfl) (by omega) (fun vz3 hvz3 => ?_)
  refine X_callS (as := [.int x1, .int (0 : Int32), .int vz3]) (st := []) rfl rfl rfl (by decide) rfl (Nat.le_of_ble_eq_true rfl) (by decide) (Nat.le_of_ble_eq_true rfl) rfl ?_
  refine LW_ls (ls' := [some (.int x1), some (.int (0 : Int32)), some (.int vz3)]) rfl ?_
  refine X_iload_n rfl rfl rfl rfl ?_
  refine X_iload_n rfl rfl rfl rfl ?_
  refine S_icmp_lt (tgt := 14) rfl rfl rfl hx1 (show (0 : Int32).toInt = 0 from rfl) (fun vh4 => ?_) (fun vh4 => ?_)
  · refine X_iconst (v := (0 : Int32)) rfl rfl rfl ?_
    refine LW_ireturn (st := []) rfl rfl rfl ?_
    refine LW_ireturn (st := []) rfl rfl rfl ?_
    refine S_if_eq (tgt := 24) rfl rfl rfl (show (0 : Int32).toInt = 0 from rfl) (fun vh5 => ?_) (fun q => absurd q (by omega))
    refine X_iconst (v := (0 : Int32)) rfl rfl rfl ?_
    exact LW_ireturn (st := []) rfl rfl rfl ⟨_, rfl, by decide, by decide, V, hG, (by
        exact fun q => absurd q (by decide))⟩
  · refine X_iload_n rfl rfl rfl rfl ?_
    refine X_iload_n rfl rfl rfl rfl ?_
    refine S_icmp_gt (tgt := 14) rfl rfl rfl hx1 rfl (fun vh6 => ?_) (fun vh6 => ?_)
    · refine X_iconst (v := (0 : Int32)) rfl rfl rfl ?_
      refine LW_ireturn (st := []) rfl rfl rfl ?_
      refine LW_ireturn (st := []) rfl rfl rfl ?_
      refine S_if_eq (tgt := 24) rfl rfl rfl (show (0 : Int32).toInt = 0 from rfl) (fun vh7 => ?_) (fun q => absurd q (by omega))
      refine X_iconst (v := (0 : Int32)) rfl rfl rfl ?_
      exact LW_ireturn (st := []) rfl rfl rfl ⟨_, rfl, by decide, by decide, V, hG, (by
        exact fun q => absurd q (by decide))⟩
    · refine X_iconst (v := (1 : Int32)) rfl rfl rfl ?_
      refine LW_goto (tgt := 15) rfl rfl ?_
      refine LW_ireturn (st := []) rfl rfl rfl ?_
      refine LW_ireturn (st := []) rfl rfl rfl ?_
      refine S_if_eq (tgt := 24) rfl rfl rfl (show (1 : Int32).toInt = 1 from rfl) (fun q => absurd q (by omega)) (fun vh8 => ?_)
      refine X_iload_n rfl rfl rfl rfl ?_
      refine X_callS (as := [.int x2]) (st := []) rfl rfl rfl (by decide) rfl (Nat.le_of_ble_eq_true rfl) (by decide) (Nat.le_of_ble_eq_true rfl) rfl ?_
      refine LW_ls (ls' := [some (.int x2)]) rfl ?_
      refine X_iload_n rfl rfl rfl rfl ?_
      refine X_iconst (v := (1 : Int32)) rfl rfl rfl ?_
      refine X_ldc (v := (67108863 : Int32)) rfl rfl rfl ?_
      refine X_callS (as := [.int x2, .int (1 : Int32), .int (67108863 : Int32)]) (st := []) rfl rfl rfl (by decide) rfl (Nat.le_of_ble_eq_true rfl) (by decide) (Nat.le_of_ble_eq_true rfl) rfl ?_
      refine LW_ls (ls' := [some (.int x2), some (.int (1 : Int32)), some (.int (67108863 : Int32))]) rfl ?_
      refine X_iload_n rfl rfl rfl rfl ?_
      refine X_iload_n rfl rfl rfl rfl ?_
      refine S_icmp_lt (tgt := 14) rfl rfl rfl hx2 (show (1 : Int32).toInt = 1 from rfl) (fun vh9 => ?_) (fun vh9 => ?_)
      · refine X_iconst (v := (0 : Int32)) rfl rfl rfl ?_
        refine LW_ireturn (st := []) rfl rfl rfl ?_
        refine LW_ireturn (st := []) rfl rfl rfl ?_
        refine S_if_eq (tgt := 24) rfl rfl rfl (show (0 : Int32).toInt = 0 from rfl) (fun vh10 => ?_) (fun q => absurd q (by omega))
        refine X_iconst (v := (0 : Int32)) rfl rfl rfl ?_
        exact LW_ireturn (st := []) rfl rfl rfl ⟨_, rfl, by decide, by decide, V, hG, (by
        exact fun q => absurd q (by decide))⟩
      · refine X_iload_n rfl rfl rfl rfl ?_
        refine X_iload_n rfl rfl rfl rfl ?_
        refine S_icmp_gt (tgt := 14) rfl rfl rfl hx2 (show (67108863 : Int32).toInt = 67108863 from rfl) (fun vh11 => ?_) (fun vh11 => ?_)
        · refine X_iconst (v := (0 : Int32)) rfl rfl rfl ?_
          refine LW_ireturn (st := []) rfl rfl rfl ?_
          refine LW_ireturn (st := []) rfl rfl rfl ?_
          refine S_if_eq (tgt := 24) rfl rfl rfl (show (0 : Int32).toInt = 0 from rfl) (fun vh12 => ?_) (fun q => absurd q (by omega))
          refine X_iconst (v := (0 : Int32)) rfl rfl rfl ?_
          exact LW_ireturn (st := []) rfl rfl rfl ⟨_, rfl, by decide, by decide, V, hG, (by
        exact fun q => absurd q (by decide))⟩
        · refine X_iconst (v := (1 : Int32)) rfl rfl rfl ?_
          refine LW_goto (tgt := 15) rfl rfl ?_
          refine LW_ireturn (st := []) rfl rfl rfl ?_
          refine LW_ireturn (st := []) rfl rfl rfl ?_
          refine S_if_eq (tgt := 24) rfl rfl rfl (show (1 : Int32).toInt = 1 from rfl) (fun q => absurd q (by omega)) (fun vh13 => ?_)
          refine X_iload_n rfl rfl rfl rfl ?_
          refine Y_callS (as := [.int x2]) (st := []) rfl rfl rfl (by decide) rfl (Nat.le_of_ble_eq_true rfl) (by decide) (Nat.le_of_ble_eq_true rfl) rfl (C_X13_bitsB V x2 y2 hx2 ) ?_
          rintro _ g' ⟨vr14, rfl, hrvr140, hrvr141, hgg, vq15⟩
          subst hgg
          refine X_bipush (v := (10 : Int32)) rfl rfl rfl ?_
          refine S_icmp_le (tgt := 26) rfl rfl rfl rfl (show (10 : Int32).toInt = 10 from rfl) (fun vh16 => ?_) (fun vh16 => ?_)
          · refine X_aload_n rfl rfl rfl rfl ?_
            refine X_iconst (v := (0 : Int32)) rfl rfl rfl ?_
            refine S_putI (I := InvR _) rfl rfl rfl ((congrFun V.1 355).trans s_355) rfl rfl rfl rfl (InvR_putO V (by decide) trivial) (fun g V ve17 vn18 hq => ?_)
            have hG := hq.trans hG
            have evz1 := (vn18 (356) 1 (Or.inl (by decide))).trans evz1
            refine X_iconst (v := (0 : Int32)) rfl rfl rfl ?_
            refine X_istore_n (i := 3) (ls' := [some (.ref 355), some (.int x1), some (.int x2), some (.int (0 : Int32)), none, none]) rfl rfl rfl (Nat.le_of_ble_eq_true rfl) rfl ?_
            exact (C_X13_layGroup_all (((26 - 0) * 1 + 14351) + 1 : Int).toNat).1 _ V hG x1 y1 hx1 (by omega) x2 y2 hx2 (by omega) (0 : Int32) 0 (show (0 : Int32).toInt = 0 from rfl) (by omega) none none (by rw [evz1]; omega) (by
        rw [← vq15]
        omega) (by
        exact ⟨by rw [ve17]; rfl, fun i hi => absurd hi (Nat.not_lt_zero i)⟩)  (by omega)
          · refine X_iconst (v := (0 : Int32)) rfl rfl rfl ?_
            exact LW_ireturn (st := []) rfl rfl rfl ⟨_, rfl, by decide, by decide, V, hG, (by
        exact fun q => absurd q (by decide))⟩
set_option maxRecDepth 10000 in
set_option maxHeartbeats 40000000 in
theorem C_X13_factorialB_4 {P : Par} {g : LH} {d n : Nat}  (V : InvR P g) (x0 : Int32) (y0 : Int) (hx0 : x0.toInt = y0) (hf0 : (-27) ≤ y0 ∧ y0 ≤ 26) (x1 : Int64) (x3 : Int32) (y3 : Int) (hx3 : x3.toInt = y3) (hf3 : 2 ≤ y3 ∧ y3 ≤ 30) (hq0 : x1 = vFT (Int.toNat (y3 - 2))) (hq1 : 2 ≤ y3) (hq2 : y3 ≤ y0 + 1 ∨ y3 = 2) (hmu : (30 - y3) * 1 + 0 < (n : Int) + 1) (ih4 : ∀ (V : InvR P g) (x0 : Int32) (y0 : Int) (hx0 : x0.toInt = y0) (hf0 : (-27) ≤ y0 ∧ y0 ≤ 26) (x1 : Int64) (x3 : Int32) (y3 : Int) (hx3 : x3.toInt = y3) (hf3 : 2 ≤ y3 ∧ y3 ≤ 30) (hq0 : x1 = vFT (Int.toNat (y3 - 2))) (hq1 : 2 ≤ y3) (hq2 : y3 ≤ y0 + 1 ∨ y3 = 2), (30 - y3) * 1 + 0 < (n : Int) → LW 285 (d + 3) 0 0 4 [some (.int x0), some (.long x1), none, some (.int x3)] [] g (fun v g' => ∃ r : Int64, v = some (.long r) ∧ g = g' ∧ (y0 ≤ 10 → ¬ r = 0))) : LW 285 (d + 3) 0 0 4 [some (.int x0), some (.long x1), none, some (.int x3)] [] g (fun v g' => ∃ r : Int64, v = some (.long r) ∧ g = g' ∧ (y0 ≤ 10 → ¬ r = 0)) := by
  refine X_iload_n rfl rfl rfl rfl ?_
  refine X_iload_n rfl rfl rfl rfl ?_
  refine S_icmp_gt (tgt := 20) rfl rfl rfl hx3 hx0 (fun vh1 => ?_) (fun vh1 => ?_)
  · refine X_lload_n rfl rfl rfl rfl ?_
    exact LW_lreturn (st := []) rfl rfl ⟨_, rfl, rfl, (by
        intro vh
        rw [hq0]
        exact vFT_ne _ (by omega))⟩
  · refine X_lload_n rfl rfl rfl rfl ?_
    refine X_iload_n rfl rfl rfl rfl ?_
    refine S_i2lX rfl rfl (fun vz2 hvz2 => ?_)
    refine S_lmulX rfl rfl (fun vz3 hvz3 => ?_)
    refine X_lstore_n (i := 1) (ls' := [some (.int x0), some (.long vz3), none, some (.int x3)]) rfl rfl rfl (Nat.le_of_ble_eq_true rfl) rfl ?_
    refine S_iinc (c := 1) rfl rfl rfl hx3 rfl (by omega) (fun vz4 hvz4 => ?_)
    refine LW_ls (ls' := [some (.int x0), some (.long vz3), none, some (.int vz4)]) rfl ?_
    refine LW_goto (tgt := 4) rfl rfl ?_
    exact ih4 V x0 y0 hx0 (by omega) vz3 vz4 vz4.toInt rfl (by omega)  (by
        rw [show Int.toNat (vz4.toInt - 2) = Int.toNat (y3 - 2) + 1 by omega]
        show vz3 = vFT (Int.toNat (y3 - 2)) * (nI (Int.toNat (y3 - 2) + 2)).toInt64
        rw [hvz3, hvz2, ← hq0, ← nI_small (Int.toNat (y3 - 2) + 2) (by omega) x3 (by omega)]) (by omega) (by omega)  (by omega)
theorem C_X13_factorialB_all {P : Par} {g : LH} {d : Nat}  : ∀ n : Nat, (∀ (V : InvR P g) (x0 : Int32) (y0 : Int) (hx0 : x0.toInt = y0) (hf0 : (-27) ≤ y0 ∧ y0 ≤ 26) (x1 : Int64) (x3 : Int32) (y3 : Int) (hx3 : x3.toInt = y3) (hf3 : 2 ≤ y3 ∧ y3 ≤ 30) (hq0 : x1 = vFT (Int.toNat (y3 - 2))) (hq1 : 2 ≤ y3) (hq2 : y3 ≤ y0 + 1 ∨ y3 = 2), (30 - y3) * 1 + 0 < (n : Int) → LW 285 (d + 3) 0 0 4 [some (.int x0), some (.long x1), none, some (.int x3)] [] g (fun v g' => ∃ r : Int64, v = some (.long r) ∧ g = g' ∧ (y0 ≤ 10 → ¬ r = 0))) := by
  intro n
  induction n with
  | zero => exact fun V x0 y0 hx0 hf0 x1 x3 y3 hx3 hf3 hq0 hq1 hq2 hmu => absurd hmu (by omega)
  | succ n ih => exact fun V x0 y0 hx0 hf0 x1 x3 y3 hx3 hf3 hq0 hq1 hq2 hmu => C_X13_factorialB_4  V x0 y0 hx0 hf0 x1 x3 y3 hx3 hf3 hq0 hq1 hq2 (by omega) ih
set_option maxRecDepth 10000 in
set_option maxHeartbeats 40000000 in
theorem C_X13_factorialB {P : Par} {g : LH} {d : Nat}  (V : InvR P g) (x0 : Int32) (y0 : Int) (hx0 : x0.toInt = y0) (hf0 : (-27) ≤ y0 ∧ y0 ≤ 26)   : LW 285 (d + 3) 0 0 0 (lEnt (mL 285) [.int x0]) [] g (fun v g' => ∃ r : Int64, v = some (.long r) ∧ g = g' ∧ (y0 ≤ 10 → ¬ r = 0)) := by
  refine LW_ls (ls' := [some (.int x0), none, none, none]) rfl ?_
  refine X_lconst (v := (1 : Int64)) rfl rfl rfl ?_
  refine X_lstore_n (i := 1) (ls' := [some (.int x0), some (.long (1 : Int64)), none, none]) rfl rfl rfl (Nat.le_of_ble_eq_true rfl) rfl ?_
  refine X_iconst (v := (2 : Int32)) rfl rfl rfl ?_
  refine X_istore_n (i := 3) (ls' := [some (.int x0), some (.long (1 : Int64)), none, some (.int (2 : Int32))]) rfl rfl rfl (Nat.le_of_ble_eq_true rfl) rfl ?_
  exact (C_X13_factorialB_all (((30 - 2) * 1 + 0) + 1 : Int).toNat) V x0 y0 hx0 (by omega) (1 : Int64) (2 : Int32) 2 (show (2 : Int32).toInt = 2 from rfl) (by omega)  (rfl) (by omega) (by omega)  (by omega)
set_option maxRecDepth 10000 in
set_option maxHeartbeats 40000000 in
theorem C_X13_common_6 {P : Par} {g : LH} {d n : Nat}  (V : InvR P g) (x0 : Int64) (x2 : Int64) (x4 : Int64) (x6 : Int64) (o8 : Option Value) (o9 : Option Value) (hq0 : ¬ x4 = 0 ∨ ¬ x6 = 0) (hmu : (Int.natAbs (x6.toInt) : Int) * 1 + 0 < (n : Int) + 1) (ih6 : ∀ (V : InvR P g) (x0 : Int64) (x2 : Int64) (x4 : Int64) (x6 : Int64) (o8 : Option Value) (o9 : Option Value) (hq0 : ¬ x4 = 0 ∨ ¬ x6 = 0), (Int.natAbs (x6.toInt) : Int) * 1 + 0 < (n : Int) → LW 286 (d + 3) 0 0 6 [some (.long x0), none, some (.long x2), none, some (.long x4), none, some (.long x6), none, o8, o9] [] g (fun v g' => ∃ r : Int64, v = some (.long r) ∧ g = g' ∧ (¬ r = 0))) : LW 286 (d + 3) 0 0 6 [some (.long x0), none, some (.long x2), none, some (.long x4), none, some (.long x6), none, o8, o9] [] g (fun v g' => ∃ r : Int64, v = some (.long r) ∧ g = g' ∧ (¬ r = 0)) := by
  refine X_lload rfl rfl rfl ?_
  refine X_lconst (v := (0 : Int64)) rfl rfl rfl ?_
  refine S_lcmp rfl rfl (fun vz1 hvz1 => ?_)
  refine S_if_eq (tgt := 31) rfl rfl rfl rfl (fun vh2 => ?_) (fun vh2 => ?_)
  · refine X_lload rfl rfl rfl ?_
    exact LW_lreturn (st := []) rfl rfl ⟨_, rfl, rfl, (by
        exact fun q => hq0.elim (fun vh => vh q) (fun vh => vh (hvz1.1.mp (by omega))))⟩
  · refine X_lload rfl rfl rfl ?_
    refine X_lload rfl rfl rfl ?_
    refine S_lremX rfl rfl (fun q => absurd (hvz1.1.mpr q) (by omega)) (fun vz3 hvz3 => ?_)
    have vwm := vtm (fun q => absurd (hvz1.1.mpr q) (by omega)) hvz3
    refine X_lstore (i := 8) (ls' := [some (.long x0), none, some (.long x2), none, some (.long x4), none, some (.long x6), none, some (.long vz3), none]) rfl rfl (Nat.le_of_ble_eq_true rfl) rfl ?_
    refine X_lload rfl rfl rfl ?_
    refine X_lstore (i := 4) (ls' := [some (.long x0), none, some (.long x2), none, some (.long x6), none, some (.long x6), none, some (.long vz3), none]) rfl rfl (Nat.le_of_ble_eq_true rfl) rfl ?_
    refine X_lload rfl rfl rfl ?_
    refine X_lstore (i := 6) (ls' := [some (.long x0), none, some (.long x2), none, some (.long x6), none, some (.long vz3), none, some (.long vz3), none]) rfl rfl (Nat.le_of_ble_eq_true rfl) rfl ?_
    refine LW_goto (tgt := 6) rfl rfl ?_
    exact ih6 V x0 x2 x6 vz3 (some (.long vz3)) none  (by
        exact Or.inl fun q => absurd (hvz1.1.mpr q) (by omega))  (by omega)
theorem C_X13_common_all {P : Par} {g : LH} {d : Nat}  : ∀ n : Nat, (∀ (V : InvR P g) (x0 : Int64) (x2 : Int64) (x4 : Int64) (x6 : Int64) (o8 : Option Value) (o9 : Option Value) (hq0 : ¬ x4 = 0 ∨ ¬ x6 = 0), (Int.natAbs (x6.toInt) : Int) * 1 + 0 < (n : Int) → LW 286 (d + 3) 0 0 6 [some (.long x0), none, some (.long x2), none, some (.long x4), none, some (.long x6), none, o8, o9] [] g (fun v g' => ∃ r : Int64, v = some (.long r) ∧ g = g' ∧ (¬ r = 0))) := by
  intro n
  induction n with
  | zero => exact fun V x0 x2 x4 x6 o8 o9 hq0 hmu => absurd hmu (by omega)
  | succ n ih => exact fun V x0 x2 x4 x6 o8 o9 hq0 hmu => C_X13_common_6  V x0 x2 x4 x6 o8 o9 hq0 (by omega) ih
set_option maxRecDepth 10000 in
set_option maxHeartbeats 40000000 in
theorem C_X13_common {P : Par} {g : LH} {d : Nat}  (V : InvR P g) (x0 : Int64) (x2 : Int64) (hq0 : ¬ x2 = 0)  : LW 286 (d + 3) 0 0 0 (lEnt (mL 286) [.long x0, .long x2]) [] g (fun v g' => ∃ r : Int64, v = some (.long r) ∧ g = g' ∧ (¬ r = 0)) := by
  refine LW_ls (ls' := [some (.long x0), none, some (.long x2), none, none, none, none, none, none, none]) rfl ?_
  refine X_lload_n rfl rfl rfl rfl ?_
  refine X_lstore (i := 4) (ls' := [some (.long x0), none, some (.long x2), none, some (.long x0), none, none, none, none, none]) rfl rfl (Nat.le_of_ble_eq_true rfl) rfl ?_
  refine X_lload_n rfl rfl rfl rfl ?_
  refine X_lstore (i := 6) (ls' := [some (.long x0), none, some (.long x2), none, some (.long x0), none, some (.long x2), none, none, none]) rfl rfl (Nat.le_of_ble_eq_true rfl) rfl ?_
  exact (C_X13_common_all (((Int.natAbs (x2.toInt) : Int) * 1 + 0) + 1 : Int).toNat) V x0 x2 x0 x2 none none  (by
        exact Or.inr hq0)  (by omega)
set_option maxRecDepth 10000 in
set_option maxHeartbeats 40000000 in
theorem C_X13_power_36 {P : Par} {g g0 : LH} {d n : Nat}  (V : InvR P g) (hG : Gr g = Gr g0) (x1 : Int32) (y1 : Int) (hx1 : x1.toInt = y1) (x2 : Int32) (y2 : Int) (hx2 : x2.toInt = y2) (hf2 : 1 ≤ y2 ∧ y2 ≤ 67108863) (x3 : Int32) (y3 : Int) (hx3 : x3.toInt = y3) (hf3 : 0 ≤ y3 ∧ y3 ≤ 25) (x4 : Int32) (y4 : Int) (hx4 : x4.toInt = y4) (hf4 : 0 ≤ y4 ∧ y4 ≤ 1) (x5 : Int32) (y5 : Int) (hx5 : x5.toInt = y5) (hf5 : 0 ≤ y5 ∧ y5 ≤ 9) (o6 : Option Value) (o7 : Option Value) (o8 : Option Value) (o9 : Option Value) (hq0 : 0 ≤ (Gi g 355 33).toInt ∧ (Gi g 355 33).toInt ≤ 10) (hq1 : ∃ e : Nat, y5 ≤ ↑e ∧ ↑e < (Gi g 355 33).toInt ∧ (Gi g 367 e).toInt = y3) (hmu : (9 - y5) * 1 + 1026 < (n : Int) + 1) (ih36 : ∀ (g : LH) (V : InvR P g) (hG : Gr g = Gr g0) (x1 : Int32) (y1 : Int) (hx1 : x1.toInt = y1) (x2 : Int32) (y2 : Int) (hx2 : x2.toInt = y2) (hf2 : 1 ≤ y2 ∧ y2 ≤ 67108863) (x3 : Int32) (y3 : Int) (hx3 : x3.toInt = y3) (hf3 : 0 ≤ y3 ∧ y3 ≤ 25) (x4 : Int32) (y4 : Int) (hx4 : x4.toInt = y4) (hf4 : 0 ≤ y4 ∧ y4 ≤ 1) (x5 : Int32) (y5 : Int) (hx5 : x5.toInt = y5) (hf5 : 0 ≤ y5 ∧ y5 ≤ 9) (o6 : Option Value) (o7 : Option Value) (o8 : Option Value) (o9 : Option Value) (hq0 : 0 ≤ (Gi g 355 33).toInt ∧ (Gi g 355 33).toInt ≤ 10) (hq1 : ∃ e : Nat, y5 ≤ ↑e ∧ ↑e < (Gi g 355 33).toInt ∧ (Gi g 367 e).toInt = y3), (9 - y5) * 1 + 1026 < (n : Int) → LW 287 (d + 60) 0 0 36 [some (.ref 355), some (.int x1), some (.int x2), some (.int x3), some (.int x4), some (.int x5), o6, o7, o8, o9] [] g (fun v g' => ∃ r : Int32, v = some (.int r) ∧ InvR P g' ∧ Gr g' = Gr g0)) (ih59 : ∀ (g : LH) (V : InvR P g) (hG : Gr g = Gr g0) (x1 : Int32) (y1 : Int) (hx1 : x1.toInt = y1) (x2 : Int32) (y2 : Int) (hx2 : x2.toInt = y2) (hf2 : 1 ≤ y2 ∧ y2 ≤ 67108863) (x3 : Int32) (y3 : Int) (hx3 : x3.toInt = y3) (hf3 : 0 ≤ y3 ∧ y3 ≤ 25) (x4 : Int32) (y4 : Int) (hx4 : x4.toInt = y4) (hf4 : 0 ≤ y4 ∧ y4 ≤ 1) (x5 : Int32) (y5 : Int) (hx5 : x5.toInt = y5) (hf5 : 0 ≤ y5 ∧ y5 ≤ 9) (x6 : Int64) (x8 : Int32) (y8 : Int) (hx8 : x8.toInt = y8) (hf8 : 0 ≤ y8 ∧ y8 ≤ 1024) (o9 : Option Value) (hq0 : 0 ≤ (Gi g 355 33).toInt ∧ (Gi g 355 33).toInt ≤ 10), (1024 - y8) * 1 + 0 < (n : Int) → LW 287 (d + 60) 0 0 59 [some (.ref 355), some (.int x1), some (.int x2), some (.int x3), some (.int x4), some (.int x5), some (.long x6), none, some (.int x8), o9] [] g (fun v g' => ∃ r : Int32, v = some (.int r) ∧ InvR P g' ∧ Gr g' = Gr g0)) : LW 287 (d + 60) 0 0 36 [some (.ref 355), some (.int x1), some (.int x2), some (.int x3), some (.int x4), some (.int x5), o6, o7, o8, o9] [] g (fun v g' => ∃ r : Int32, v = some (.int r) ∧ InvR P g' ∧ Gr g' = Gr g0) := by
  obtain ⟨ve, vw1, vw2, vw3⟩ := hq1
  refine X_aload_n rfl rfl rfl rfl ?_
  refine X_getR (a := 367) rfl rfl rfl ((congrFun V.1 355).trans s_355) rfl ((congrFun (V.2.1 355 (by decide)) 30).trans r_355_30) ?_
  refine X_iload rfl rfl rfl ?_
  refine S_iald rfl rfl ((congrFun V.1 367).trans s_367) hx5 (by omega) (fun vz1 evz1 => ?_)
  have vw4 : y5 = ↑ve → vz1.toInt = y3 := fun vw5 => by
    rw [← evz1, show Int.toNat y5 = ve by omega]
    exact vw3
  have vf2 := O_367 (V.2.2.2.2.2.2.1 367 ((y5 : Int).toNat) (Nat.le_of_ble_eq_true rfl))
  rw [evz1] at vf2
  refine X_iload_n rfl rfl rfl rfl ?_
  refine S_icmp_eq (tgt := 53) rfl rfl rfl rfl hx3 (fun vh3 => ?_) (fun vh3 => ?_)
  · refine X_lconst (v := (0 : Int64)) rfl rfl rfl ?_
    refine X_lstore (i := 6) (ls' := [some (.ref 355), some (.int x1), some (.int x2), some (.int x3), some (.int x4), some (.int x5), some (.long (0 : Int64)), none, o8, o9]) rfl rfl (Nat.le_of_ble_eq_true rfl) rfl ?_
    refine X_iconst (v := (0 : Int32)) rfl rfl rfl ?_
    refine X_istore (i := 8) (ls' := [some (.ref 355), some (.int x1), some (.int x2), some (.int x3), some (.int x4), some (.int x5), some (.long (0 : Int64)), none, some (.int (0 : Int32)), o9]) rfl rfl (Nat.le_of_ble_eq_true rfl) rfl ?_
    exact ih59 _ V hG x1 y1 hx1 x2 y2 hx2 (by omega) x3 y3 hx3 (by omega) x4 y4 hx4 (by omega) x5 y5 hx5 (by omega) (0 : Int64) (0 : Int32) 0 (show (0 : Int32).toInt = 0 from rfl) (by omega) o9  (hq0)  (by omega)
  · refine S_iinc (c := 1) rfl rfl rfl hx5 rfl (by omega) (fun vz4 hvz4 => ?_)
    refine LW_ls (ls' := [some (.ref 355), some (.int x1), some (.int x2), some (.int x3), some (.int x4), some (.int vz4), o6, o7, o8, o9]) rfl ?_
    refine LW_goto (tgt := 36) rfl rfl ?_
    exact ih36 _ V hG x1 y1 hx1 x2 y2 hx2 (by omega) x3 y3 hx3 (by omega) x4 y4 hx4 (by omega) vz4 vz4.toInt rfl (by omega) o6 o7 o8 o9  (hq0) (by
        exact ⟨ve, by omega, vw2, vw3⟩)  (by omega)
set_option maxRecDepth 10000 in
set_option maxHeartbeats 40000000 in
theorem C_X13_power_59 {P : Par} {g g0 : LH} {d n : Nat}  (V : InvR P g) (hG : Gr g = Gr g0) (x1 : Int32) (y1 : Int) (hx1 : x1.toInt = y1) (x2 : Int32) (y2 : Int) (hx2 : x2.toInt = y2) (hf2 : 1 ≤ y2 ∧ y2 ≤ 67108863) (x3 : Int32) (y3 : Int) (hx3 : x3.toInt = y3) (hf3 : 0 ≤ y3 ∧ y3 ≤ 25) (x4 : Int32) (y4 : Int) (hx4 : x4.toInt = y4) (hf4 : 0 ≤ y4 ∧ y4 ≤ 1) (x5 : Int32) (y5 : Int) (hx5 : x5.toInt = y5) (hf5 : 0 ≤ y5 ∧ y5 ≤ 9) (x6 : Int64) (x8 : Int32) (y8 : Int) (hx8 : x8.toInt = y8) (hf8 : 0 ≤ y8 ∧ y8 ≤ 1024) (o9 : Option Value) (hq0 : 0 ≤ (Gi g 355 33).toInt ∧ (Gi g 355 33).toInt ≤ 10) (hmu : (1024 - y8) * 1 + 0 < (n : Int) + 1) (ih36 : ∀ (g : LH) (V : InvR P g) (hG : Gr g = Gr g0) (x1 : Int32) (y1 : Int) (hx1 : x1.toInt = y1) (x2 : Int32) (y2 : Int) (hx2 : x2.toInt = y2) (hf2 : 1 ≤ y2 ∧ y2 ≤ 67108863) (x3 : Int32) (y3 : Int) (hx3 : x3.toInt = y3) (hf3 : 0 ≤ y3 ∧ y3 ≤ 25) (x4 : Int32) (y4 : Int) (hx4 : x4.toInt = y4) (hf4 : 0 ≤ y4 ∧ y4 ≤ 1) (x5 : Int32) (y5 : Int) (hx5 : x5.toInt = y5) (hf5 : 0 ≤ y5 ∧ y5 ≤ 9) (o6 : Option Value) (o7 : Option Value) (o8 : Option Value) (o9 : Option Value) (hq0 : 0 ≤ (Gi g 355 33).toInt ∧ (Gi g 355 33).toInt ≤ 10) (hq1 : ∃ e : Nat, y5 ≤ ↑e ∧ ↑e < (Gi g 355 33).toInt ∧ (Gi g 367 e).toInt = y3), (9 - y5) * 1 + 1026 < (n : Int) → LW 287 (d + 60) 0 0 36 [some (.ref 355), some (.int x1), some (.int x2), some (.int x3), some (.int x4), some (.int x5), o6, o7, o8, o9] [] g (fun v g' => ∃ r : Int32, v = some (.int r) ∧ InvR P g' ∧ Gr g' = Gr g0)) (ih59 : ∀ (g : LH) (V : InvR P g) (hG : Gr g = Gr g0) (x1 : Int32) (y1 : Int) (hx1 : x1.toInt = y1) (x2 : Int32) (y2 : Int) (hx2 : x2.toInt = y2) (hf2 : 1 ≤ y2 ∧ y2 ≤ 67108863) (x3 : Int32) (y3 : Int) (hx3 : x3.toInt = y3) (hf3 : 0 ≤ y3 ∧ y3 ≤ 25) (x4 : Int32) (y4 : Int) (hx4 : x4.toInt = y4) (hf4 : 0 ≤ y4 ∧ y4 ≤ 1) (x5 : Int32) (y5 : Int) (hx5 : x5.toInt = y5) (hf5 : 0 ≤ y5 ∧ y5 ≤ 9) (x6 : Int64) (x8 : Int32) (y8 : Int) (hx8 : x8.toInt = y8) (hf8 : 0 ≤ y8 ∧ y8 ≤ 1024) (o9 : Option Value) (hq0 : 0 ≤ (Gi g 355 33).toInt ∧ (Gi g 355 33).toInt ≤ 10), (1024 - y8) * 1 + 0 < (n : Int) → LW 287 (d + 60) 0 0 59 [some (.ref 355), some (.int x1), some (.int x2), some (.int x3), some (.int x4), some (.int x5), some (.long x6), none, some (.int x8), o9] [] g (fun v g' => ∃ r : Int32, v = some (.int r) ∧ InvR P g' ∧ Gr g' = Gr g0)) : LW 287 (d + 60) 0 0 59 [some (.ref 355), some (.int x1), some (.int x2), some (.int x3), some (.int x4), some (.int x5), some (.long x6), none, some (.int x8), o9] [] g (fun v g' => ∃ r : Int32, v = some (.int r) ∧ InvR P g' ∧ Gr g' = Gr g0) := by
  refine X_iload rfl rfl rfl ?_
  refine X_iconst (v := (1 : Int32)) rfl rfl rfl ?_
  refine X_aload_n rfl rfl rfl rfl ?_
  refine S_getI rfl rfl rfl ((congrFun V.1 355).trans s_355) rfl (fun vz1 evz1 => ?_)
  have vf2 := hq0
  rw [evz1] at vf2
  refine S_shl1 (n := 10) rfl rfl rfl (by omega) (fun vz3 hvz3 => ?_)
  refine S_icmp_ge (tgt := 143) rfl rfl rfl hx8 rfl (fun vh4 => ?_) (fun vh4 => ?_)
  · refine X_aload_n rfl rfl rfl rfl ?_
    refine X_getI (v := vz1) rfl rfl rfl ((congrFun V.1 355).trans s_355) rfl evz1 ?_
    refine Y_callS (as := [.int vz1]) (st := []) rfl rfl rfl (by decide) rfl (Nat.le_of_ble_eq_true rfl) (by decide) (Nat.le_of_ble_eq_true rfl) rfl (C_X13_factorialB V vz1 vz1.toInt rfl (by omega) ) ?_
    rintro _ g' ⟨vr5, rfl, hgg, vq6⟩
    subst hgg
    refine X_lstore (i := 8) (ls' := [some (.ref 355), some (.int x1), some (.int x2), some (.int x3), some (.int x4), some (.int x5), some (.long x6), none, some (.long vr5), none]) rfl rfl (Nat.le_of_ble_eq_true rfl) rfl ?_
    refine X_iload rfl rfl rfl ?_
    refine S_if_eq (tgt := 162) rfl rfl rfl hx4 (fun vh7 => ?_) (fun vh7 => ?_)
    · refine X_lload rfl rfl rfl ?_
      refine X_lload rfl rfl rfl ?_
      refine X_lload rfl rfl rfl ?_
      refine Y_callS (as := [.long x6, .long vr5]) (st := [.long x6]) rfl rfl rfl (by decide) rfl (Nat.le_of_ble_eq_true rfl) (by decide) (Nat.le_of_ble_eq_true rfl) rfl (C_X13_common V x6 vr5 (vq6 (by omega))) ?_
      rintro _ g' ⟨vr8, rfl, hgg, vq9⟩
      subst hgg
      refine S_ldivT rfl rfl (by
        exact vq9) (fun vz10 => ?_)
      refine S_l2iT rfl rfl (fun vz11 => ?_)
      exact LW_ireturn (st := []) rfl rfl rfl ⟨_, rfl, V, hG⟩
    · refine X_lload rfl rfl rfl ?_
      refine LW_goto (tgt := 164) rfl rfl ?_
      refine X_lload rfl rfl rfl ?_
      refine X_lload rfl rfl rfl ?_
      refine Y_callS (as := [.long x6, .long vr5]) (st := [.long vr5]) rfl rfl rfl (by decide) rfl (Nat.le_of_ble_eq_true rfl) (by decide) (Nat.le_of_ble_eq_true rfl) rfl (C_X13_common V x6 vr5 (vq6 (by omega))) ?_
      rintro _ g' ⟨vr12, rfl, hgg, vq13⟩
      subst hgg
      refine S_ldivT rfl rfl (by
        exact vq13) (fun vz14 => ?_)
      refine S_l2iT rfl rfl (fun vz15 => ?_)
      exact LW_ireturn (st := []) rfl rfl rfl ⟨_, rfl, V, hG⟩
  · refine X_iload rfl rfl rfl ?_
    refine X_iload rfl rfl rfl ?_
    refine X_callS (as := [.int x8, .int x5]) (st := []) rfl rfl rfl (by decide) rfl (Nat.le_of_ble_eq_true rfl) (by decide) (Nat.le_of_ble_eq_true rfl) rfl ?_
    refine LW_ls (ls' := [some (.int x8), some (.int x5)]) rfl ?_
    refine X_iload_n rfl rfl rfl rfl ?_
    refine X_iload_n rfl rfl rfl rfl ?_
    refine S_ishrX rfl rfl (fun vz16 hvz16 => ?_)
    refine X_iconst (v := (1 : Int32)) rfl rfl rfl ?_
    refine S_iandE (k := 1) rfl rfl rfl (fun vz17 hvz17 => ?_)
    refine X_iconst (v := (1 : Int32)) rfl rfl rfl ?_
    refine S_icmp_ne (tgt := 13) rfl rfl rfl rfl (show (1 : Int32).toInt = 1 from rfl) (fun vh18 => ?_) (fun vh18 => ?_)
    · refine X_iconst (v := (0 : Int32)) rfl rfl rfl ?_
      refine LW_ireturn (st := []) rfl rfl rfl ?_
      refine S_if_ne (tgt := 137) rfl rfl rfl (show (0 : Int32).toInt = 0 from rfl) (fun q => absurd q (by omega)) (fun vh19 => ?_)
      refine X_aload_n rfl rfl rfl rfl ?_
      refine X_getR (a := 368) rfl rfl rfl ((congrFun V.1 355).trans s_355) rfl ((congrFun (V.2.1 355 (by decide)) 31).trans r_355_31) ?_
      refine X_iload rfl rfl rfl ?_
      refine S_zald rfl rfl ((congrFun V.1 368).trans s_368) hx8 (by omega) (fun vz20 evz20 => ?_)
      have vf21 := O_368 (V.2.2.2.2.2.2.1 368 ((y8 : Int).toNat) (Nat.le_of_ble_eq_true rfl))
      rw [evz20] at vf21
      refine S_if_ne (tgt := 137) rfl rfl rfl rfl (fun vh22 => ?_) (fun vh22 => ?_)
      · refine S_iinc (c := 1) rfl rfl rfl hx8 rfl (by omega) (fun vz23 hvz23 => ?_)
        refine LW_ls (ls' := [some (.ref 355), some (.int x1), some (.int x2), some (.int x3), some (.int x4), some (.int x5), some (.long x6), none, some (.int vz23), o9]) rfl ?_
        refine LW_goto (tgt := 59) rfl rfl ?_
        exact ih59 _ V hG x1 y1 hx1 x2 y2 hx2 (by omega) x3 y3 hx3 (by omega) x4 y4 hx4 (by omega) x5 y5 hx5 (by omega) x6 vz23 vz23.toInt rfl (by omega) o9  (hq0)  (by omega)
      · refine X_aload_n rfl rfl rfl rfl ?_
        refine X_getR (a := 368) rfl rfl rfl ((congrFun V.1 355).trans s_355) rfl ((congrFun (V.2.1 355 (by decide)) 31).trans r_355_31) ?_
        refine X_iload rfl rfl rfl ?_
        refine X_iconst (v := (1 : Int32)) rfl rfl rfl ?_
        refine X_iload rfl rfl rfl ?_
        refine S_shl1 (n := 9) rfl rfl hx5 (by omega) (fun vz24 hvz24 => ?_)
        refine S_ior (n := 10) rfl rfl hx8 rfl (by omega) (by omega) (fun vz25 hvz25 => ?_)
        refine S_zald rfl rfl ((congrFun V.1 368).trans s_368) rfl (by omega) (fun vz26 evz26 => ?_)
        have vf27 := O_368 (V.2.2.2.2.2.2.1 368 ((vz25.toInt : Int).toNat) (Nat.le_of_ble_eq_true rfl))
        rw [evz26] at vf27
        refine S_if_ne (tgt := 108) rfl rfl rfl rfl (fun vh28 => ?_) (fun vh28 => ?_)
        · refine X_lload rfl rfl rfl ?_
          refine X_iload rfl rfl rfl ?_
          refine Y_callS (as := [.int x8]) (st := [.long x6]) rfl rfl rfl (by decide) rfl (Nat.le_of_ble_eq_true rfl) (by decide) (Nat.le_of_ble_eq_true rfl) rfl (C_X13_bitsB V x8 y8 hx8 ) ?_
          rintro _ g' ⟨vr29, rfl, hrvr290, hrvr291, hgg, vq30⟩
          subst hgg
          refine Y_callS (as := [.int vr29]) (st := [.long x6]) rfl rfl rfl (by decide) rfl (Nat.le_of_ble_eq_true rfl) (by decide) (Nat.le_of_ble_eq_true rfl) rfl (C_X13_factorialB V vr29 vr29.toInt rfl (by omega) ) ?_
          rintro _ g' ⟨vr31, rfl, hgg, vq32⟩
          subst hgg
          refine X_aload_n rfl rfl rfl rfl ?_
          refine X_getI (v := vz1) rfl rfl rfl ((congrFun V.1 355).trans s_355) rfl evz1 ?_
          refine X_iconst (v := (1 : Int32)) rfl rfl rfl ?_
          refine S_isub rfl rfl rfl (show (1 : Int32).toInt = 1 from rfl) (by omega) (fun vz33 hvz33 => ?_)
          refine X_iload rfl rfl rfl ?_
          refine Y_callS (as := [.int x8]) (st := [.int vz33, .long vr31, .long x6]) rfl rfl rfl (by decide) rfl (Nat.le_of_ble_eq_true rfl) (by decide) (Nat.le_of_ble_eq_true rfl) rfl (C_X13_bitsB V x8 y8 hx8 ) ?_
          rintro _ g' ⟨vr34, rfl, hrvr340, hrvr341, hgg, vq35⟩
          subst hgg
          refine S_isub rfl rfl rfl rfl (by omega) (fun vz36 hvz36 => ?_)
          refine Y_callS (as := [.int vz36]) (st := [.long vr31, .long x6]) rfl rfl rfl (by decide) rfl (Nat.le_of_ble_eq_true rfl) (by decide) (Nat.le_of_ble_eq_true rfl) rfl (C_X13_factorialB V vz36 vz36.toInt rfl (by omega) ) ?_
          rintro _ g' ⟨vr37, rfl, hgg, vq38⟩
          subst hgg
          refine S_lmulT rfl rfl (fun vz39 => ?_)
          refine S_laddT rfl rfl (fun vz40 => ?_)
          refine X_lstore (i := 6) (ls' := [some (.ref 355), some (.int x1), some (.int x2), some (.int x3), some (.int x4), some (.int x5), some (.long vz40), none, some (.int x8), o9]) rfl rfl (Nat.le_of_ble_eq_true rfl) rfl ?_
          refine S_iinc (c := 1) rfl rfl rfl hx8 rfl (by omega) (fun vz41 hvz41 => ?_)
          refine LW_ls (ls' := [some (.ref 355), some (.int x1), some (.int x2), some (.int x3), some (.int x4), some (.int x5), some (.long vz40), none, some (.int vz41), o9]) rfl ?_
          refine LW_goto (tgt := 59) rfl rfl ?_
          exact ih59 _ V hG x1 y1 hx1 x2 y2 hx2 (by omega) x3 y3 hx3 (by omega) x4 y4 hx4 (by omega) x5 y5 hx5 (by omega) vz40 vz41 vz41.toInt rfl (by omega) o9  (hq0)  (by omega)
        · refine LW_goto (tgt := 137) rfl rfl ?_
          refine S_iinc (c := 1) rfl rfl rfl hx8 rfl (by omega) (fun vz42 hvz42 => ?_)
          refine LW_ls (ls' := [some (.ref 355), some (.int x1), some (.int x2), some (.int x3), some (.int x4), some (.int x5), some (.long x6), none, some (.int vz42), o9]) rfl ?_
          refine LW_goto (tgt := 59) rfl rfl ?_
          exact ih59 _ V hG x1 y1 hx1 x2 y2 hx2 (by omega) x3 y3 hx3 (by omega) x4 y4 hx4 (by omega) x5 y5 hx5 (by omega) x6 vz42 vz42.toInt rfl (by omega) o9  (hq0)  (by omega)
    · refine X_iconst (v := (1 : Int32)) rfl rfl rfl ?_
      refine LW_goto (tgt := 14) rfl rfl ?_
      refine LW_ireturn (st := []) rfl rfl rfl ?_
      refine S_if_ne (tgt := 137) rfl rfl rfl (show (1 : Int32).toInt = 1 from rfl) (fun vh43 => ?_) (fun q => absurd q (by omega))
      refine S_iinc (c := 1) rfl rfl rfl hx8 rfl (by omega) (fun vz44 hvz44 => ?_)
      refine LW_ls (ls' := [some (.ref 355), some (.int x1), some (.int x2), some (.int x3), some (.int x4), some (.int x5), some (.long x6), none, some (.int vz44), o9]) rfl ?_
      refine LW_goto (tgt := 59) rfl rfl ?_
      exact ih59 _ V hG x1 y1 hx1 x2 y2 hx2 (by omega) x3 y3 hx3 (by omega) x4 y4 hx4 (by omega) x5 y5 hx5 (by omega) x6 vz44 vz44.toInt rfl (by omega) o9  (hq0)  (by omega)
theorem C_X13_power_all {P : Par} {g0 : LH} {d : Nat}  : ∀ n : Nat, (∀ (g : LH) (V : InvR P g) (hG : Gr g = Gr g0) (x1 : Int32) (y1 : Int) (hx1 : x1.toInt = y1) (x2 : Int32) (y2 : Int) (hx2 : x2.toInt = y2) (hf2 : 1 ≤ y2 ∧ y2 ≤ 67108863) (x3 : Int32) (y3 : Int) (hx3 : x3.toInt = y3) (hf3 : 0 ≤ y3 ∧ y3 ≤ 25) (x4 : Int32) (y4 : Int) (hx4 : x4.toInt = y4) (hf4 : 0 ≤ y4 ∧ y4 ≤ 1) (x5 : Int32) (y5 : Int) (hx5 : x5.toInt = y5) (hf5 : 0 ≤ y5 ∧ y5 ≤ 9) (o6 : Option Value) (o7 : Option Value) (o8 : Option Value) (o9 : Option Value) (hq0 : 0 ≤ (Gi g 355 33).toInt ∧ (Gi g 355 33).toInt ≤ 10) (hq1 : ∃ e : Nat, y5 ≤ ↑e ∧ ↑e < (Gi g 355 33).toInt ∧ (Gi g 367 e).toInt = y3), (9 - y5) * 1 + 1026 < (n : Int) → LW 287 (d + 60) 0 0 36 [some (.ref 355), some (.int x1), some (.int x2), some (.int x3), some (.int x4), some (.int x5), o6, o7, o8, o9] [] g (fun v g' => ∃ r : Int32, v = some (.int r) ∧ InvR P g' ∧ Gr g' = Gr g0)) ∧ (∀ (g : LH) (V : InvR P g) (hG : Gr g = Gr g0) (x1 : Int32) (y1 : Int) (hx1 : x1.toInt = y1) (x2 : Int32) (y2 : Int) (hx2 : x2.toInt = y2) (hf2 : 1 ≤ y2 ∧ y2 ≤ 67108863) (x3 : Int32) (y3 : Int) (hx3 : x3.toInt = y3) (hf3 : 0 ≤ y3 ∧ y3 ≤ 25) (x4 : Int32) (y4 : Int) (hx4 : x4.toInt = y4) (hf4 : 0 ≤ y4 ∧ y4 ≤ 1) (x5 : Int32) (y5 : Int) (hx5 : x5.toInt = y5) (hf5 : 0 ≤ y5 ∧ y5 ≤ 9) (x6 : Int64) (x8 : Int32) (y8 : Int) (hx8 : x8.toInt = y8) (hf8 : 0 ≤ y8 ∧ y8 ≤ 1024) (o9 : Option Value) (hq0 : 0 ≤ (Gi g 355 33).toInt ∧ (Gi g 355 33).toInt ≤ 10), (1024 - y8) * 1 + 0 < (n : Int) → LW 287 (d + 60) 0 0 59 [some (.ref 355), some (.int x1), some (.int x2), some (.int x3), some (.int x4), some (.int x5), some (.long x6), none, some (.int x8), o9] [] g (fun v g' => ∃ r : Int32, v = some (.int r) ∧ InvR P g' ∧ Gr g' = Gr g0)) := by
  intro n
  induction n with
  | zero => exact ⟨fun g V hG x1 y1 hx1 x2 y2 hx2 hf2 x3 y3 hx3 hf3 x4 y4 hx4 hf4 x5 y5 hx5 hf5 o6 o7 o8 o9 hq0 hq1 hmu => absurd hmu (by omega), fun g V hG x1 y1 hx1 x2 y2 hx2 hf2 x3 y3 hx3 hf3 x4 y4 hx4 hf4 x5 y5 hx5 hf5 x6 x8 y8 hx8 hf8 o9 hq0 hmu => absurd hmu (by omega)⟩
  | succ n ih => exact ⟨fun g V hG x1 y1 hx1 x2 y2 hx2 hf2 x3 y3 hx3 hf3 x4 y4 hx4 hf4 x5 y5 hx5 hf5 o6 o7 o8 o9 hq0 hq1 hmu => C_X13_power_36  V hG x1 y1 hx1 x2 y2 hx2 hf2 x3 y3 hx3 hf3 x4 y4 hx4 hf4 x5 y5 hx5 hf5 o6 o7 o8 o9 hq0 hq1 (by omega) ih.1 ih.2, fun g V hG x1 y1 hx1 x2 y2 hx2 hf2 x3 y3 hx3 hf3 x4 y4 hx4 hf4 x5 y5 hx5 hf5 x6 x8 y8 hx8 hf8 o9 hq0 hmu => C_X13_power_59  V hG x1 y1 hx1 x2 y2 hx2 hf2 x3 y3 hx3 hf3 x4 y4 hx4 hf4 x5 y5 hx5 hf5 x6 x8 y8 hx8 hf8 o9 hq0 (by omega) ih.1 ih.2⟩
set_option maxRecDepth 10000 in
set_option maxHeartbeats 40000000 in
theorem C_X13_power {P : Par} {g : LH} {d : Nat}  (V : InvR P g) (x1 : Int32) (y1 : Int) (hx1 : x1.toInt = y1) (x2 : Int32) (y2 : Int) (hx2 : x2.toInt = y2) (x3 : Int32) (y3 : Int) (hx3 : x3.toInt = y3) (x4 : Int32) (y4 : Int) (hx4 : x4.toInt = y4) (hf4 : 0 ≤ y4 ∧ y4 ≤ 1)   : LW 287 (d + 60) 0 0 0 (lEnt (mL 287) [.ref 355, .int x1, .int x2, .int x3, .int x4]) [] g (fun v g' => ∃ r : Int32, v = some (.int r) ∧ InvR P g' ∧ Gr g' = Gr g) := by
  refine LW_ls (ls' := [some (.ref 355), some (.int x1), some (.int x2), some (.int x3), some (.int x4), none, none, none, none, none]) rfl ?_
  have hG : Gr g = Gr g := rfl
  refine X_iload_n rfl rfl rfl rfl ?_
  refine X_callS (as := [.int x3]) (st := []) rfl rfl rfl (by decide) rfl (Nat.le_of_ble_eq_true rfl) (by decide) (Nat.le_of_ble_eq_true rfl) rfl ?_
  refine LW_ls (ls' := [some (.int x3)]) rfl ?_
  refine X_iload_n rfl rfl rfl rfl ?_
  refine X_iconst (v := (0 : Int32)) rfl rfl rfl ?_
  refine X_bipush (v := (25 : Int32)) rfl rfl rfl ?_
  refine X_callS (as := [.int x3, .int (0 : Int32), .int (25 : Int32)]) (st := []) rfl rfl rfl (by decide) rfl (Nat.le_of_ble_eq_true rfl) (by decide) (Nat.le_of_ble_eq_true rfl) rfl ?_
  refine LW_ls (ls' := [some (.int x3), some (.int (0 : Int32)), some (.int (25 : Int32))]) rfl ?_
  refine X_iload_n rfl rfl rfl rfl ?_
  refine X_iload_n rfl rfl rfl rfl ?_
  refine S_icmp_lt (tgt := 14) rfl rfl rfl hx3 (show (0 : Int32).toInt = 0 from rfl) (fun vh1 => ?_) (fun vh1 => ?_)
  · refine X_iconst (v := (0 : Int32)) rfl rfl rfl ?_
    refine LW_ireturn (st := []) rfl rfl rfl ?_
    refine LW_ireturn (st := []) rfl rfl rfl ?_
    refine S_if_eq (tgt := 31) rfl rfl rfl (show (0 : Int32).toInt = 0 from rfl) (fun vh2 => ?_) (fun q => absurd q (by omega))
    refine X_iconst (v := (-1 : Int32)) rfl rfl rfl ?_
    exact LW_ireturn (st := []) rfl rfl rfl ⟨_, rfl, V, hG⟩
  · refine X_iload_n rfl rfl rfl rfl ?_
    refine X_iload_n rfl rfl rfl rfl ?_
    refine S_icmp_gt (tgt := 14) rfl rfl rfl hx3 (show (25 : Int32).toInt = 25 from rfl) (fun vh3 => ?_) (fun vh3 => ?_)
    · refine X_iconst (v := (0 : Int32)) rfl rfl rfl ?_
      refine LW_ireturn (st := []) rfl rfl rfl ?_
      refine LW_ireturn (st := []) rfl rfl rfl ?_
      refine S_if_eq (tgt := 31) rfl rfl rfl (show (0 : Int32).toInt = 0 from rfl) (fun vh4 => ?_) (fun q => absurd q (by omega))
      refine X_iconst (v := (-1 : Int32)) rfl rfl rfl ?_
      exact LW_ireturn (st := []) rfl rfl rfl ⟨_, rfl, V, hG⟩
    · refine X_iconst (v := (1 : Int32)) rfl rfl rfl ?_
      refine LW_goto (tgt := 15) rfl rfl ?_
      refine LW_ireturn (st := []) rfl rfl rfl ?_
      refine LW_ireturn (st := []) rfl rfl rfl ?_
      refine S_if_eq (tgt := 31) rfl rfl rfl (show (1 : Int32).toInt = 1 from rfl) (fun q => absurd q (by omega)) (fun vh5 => ?_)
      refine X_iload_n rfl rfl rfl rfl ?_
      refine X_callS (as := [.int x2]) (st := []) rfl rfl rfl (by decide) rfl (Nat.le_of_ble_eq_true rfl) (by decide) (Nat.le_of_ble_eq_true rfl) rfl ?_
      refine LW_ls (ls' := [some (.int x2)]) rfl ?_
      refine X_iload_n rfl rfl rfl rfl ?_
      refine X_iconst (v := (1 : Int32)) rfl rfl rfl ?_
      refine X_ldc (v := (67108863 : Int32)) rfl rfl rfl ?_
      refine X_callS (as := [.int x2, .int (1 : Int32), .int (67108863 : Int32)]) (st := []) rfl rfl rfl (by decide) rfl (Nat.le_of_ble_eq_true rfl) (by decide) (Nat.le_of_ble_eq_true rfl) rfl ?_
      refine LW_ls (ls' := [some (.int x2), some (.int (1 : Int32)), some (.int (67108863 : Int32))]) rfl ?_
      refine X_iload_n rfl rfl rfl rfl ?_
      refine X_iload_n rfl rfl rfl rfl ?_
      refine S_icmp_lt (tgt := 14) rfl rfl rfl hx2 (show (1 : Int32).toInt = 1 from rfl) (fun vh6 => ?_) (fun vh6 => ?_)
      · refine X_iconst (v := (0 : Int32)) rfl rfl rfl ?_
        refine LW_ireturn (st := []) rfl rfl rfl ?_
        refine LW_ireturn (st := []) rfl rfl rfl ?_
        refine S_if_eq (tgt := 31) rfl rfl rfl (show (0 : Int32).toInt = 0 from rfl) (fun vh7 => ?_) (fun q => absurd q (by omega))
        refine X_iconst (v := (-1 : Int32)) rfl rfl rfl ?_
        exact LW_ireturn (st := []) rfl rfl rfl ⟨_, rfl, V, hG⟩
      · refine X_iload_n rfl rfl rfl rfl ?_
        refine X_iload_n rfl rfl rfl rfl ?_
        refine S_icmp_gt (tgt := 14) rfl rfl rfl hx2 (show (67108863 : Int32).toInt = 67108863 from rfl) (fun vh8 => ?_) (fun vh8 => ?_)
        · refine X_iconst (v := (0 : Int32)) rfl rfl rfl ?_
          refine LW_ireturn (st := []) rfl rfl rfl ?_
          refine LW_ireturn (st := []) rfl rfl rfl ?_
          refine S_if_eq (tgt := 31) rfl rfl rfl (show (0 : Int32).toInt = 0 from rfl) (fun vh9 => ?_) (fun q => absurd q (by omega))
          refine X_iconst (v := (-1 : Int32)) rfl rfl rfl ?_
          exact LW_ireturn (st := []) rfl rfl rfl ⟨_, rfl, V, hG⟩
        · refine X_iconst (v := (1 : Int32)) rfl rfl rfl ?_
          refine LW_goto (tgt := 15) rfl rfl ?_
          refine LW_ireturn (st := []) rfl rfl rfl ?_
          refine LW_ireturn (st := []) rfl rfl rfl ?_
          refine S_if_eq (tgt := 31) rfl rfl rfl (show (1 : Int32).toInt = 1 from rfl) (fun q => absurd q (by omega)) (fun vh10 => ?_)
          refine X_iload_n rfl rfl rfl rfl ?_
          refine X_iload_n rfl rfl rfl rfl ?_
          refine X_callS (as := [.int x2, .int x3]) (st := []) rfl rfl rfl (by decide) rfl (Nat.le_of_ble_eq_true rfl) (by decide) (Nat.le_of_ble_eq_true rfl) rfl ?_
          refine LW_ls (ls' := [some (.int x2), some (.int x3)]) rfl ?_
          refine X_iload_n rfl rfl rfl rfl ?_
          refine X_iload_n rfl rfl rfl rfl ?_
          refine S_ishrX rfl rfl (fun vz11 hvz11 => ?_)
          refine X_iconst (v := (1 : Int32)) rfl rfl rfl ?_
          refine S_iandE (k := 1) rfl rfl rfl (fun vz12 hvz12 => ?_)
          refine X_iconst (v := (1 : Int32)) rfl rfl rfl ?_
          refine S_icmp_ne (tgt := 13) rfl rfl rfl rfl (show (1 : Int32).toInt = 1 from rfl) (fun vh13 => ?_) (fun vh13 => ?_)
          · refine X_iconst (v := (0 : Int32)) rfl rfl rfl ?_
            refine LW_ireturn (st := []) rfl rfl rfl ?_
            refine S_if_eq (tgt := 31) rfl rfl rfl (show (0 : Int32).toInt = 0 from rfl) (fun vh14 => ?_) (fun q => absurd q (by omega))
            refine X_iconst (v := (-1 : Int32)) rfl rfl rfl ?_
            exact LW_ireturn (st := []) rfl rfl rfl ⟨_, rfl, V, hG⟩
          · refine X_iconst (v := (1 : Int32)) rfl rfl rfl ?_
            refine LW_goto (tgt := 14) rfl rfl ?_
            refine LW_ireturn (st := []) rfl rfl rfl ?_
            refine S_if_eq (tgt := 31) rfl rfl rfl (show (1 : Int32).toInt = 1 from rfl) (fun q => absurd q (by omega)) (fun vh15 => ?_)
            refine X_aload_n rfl rfl rfl rfl ?_
            refine X_iload_n rfl rfl rfl rfl ?_
            refine X_iload_n rfl rfl rfl rfl ?_
            refine Y_callV (as := [.int x1, .int x2]) (st := []) rfl rfl rfl (by decide) rfl (Nat.le_of_ble_eq_true rfl) (by decide) (Nat.le_of_ble_eq_true rfl) rfl ((congrFun V.1 355).trans s_355) (by decide) (C_X13_layGroup V x1 y1 hx1 x2 y2 hx2 ) ?_
            rintro _ g ⟨vr16, rfl, hrvr160, hrvr161, V, hq, vq17⟩
            have hG := hq.trans hG
            have vlg := vq17
            refine S_if_ne (tgt := 33) rfl rfl rfl rfl (fun vh18 => ?_) (fun vh18 => ?_)
            · refine X_iconst (v := (0 : Int32)) rfl rfl rfl ?_
              refine X_istore (i := 5) (ls' := [some (.ref 355), some (.int x1), some (.int x2), some (.int x3), some (.int x4), some (.int (0 : Int32)), none, none, none, none]) rfl rfl (Nat.le_of_ble_eq_true rfl) rfl ?_
              exact (C_X13_power_all (((9 - 0) * 1 + 1026) + 1 : Int).toNat).1 _ V hG x1 y1 hx1 x2 y2 hx2 (by omega) x3 y3 hx3 (by omega) x4 y4 hx4 (by omega) (0 : Int32) 0 (show (0 : Int32).toInt = 0 from rfl) (by omega) none none none none  (by
        exact (vlg (by omega)).1) (by
        obtain ⟨e, he1, he2⟩ := (vlg (by omega)).2 (Int.toNat y3) (by omega) (by unfold vbt; rw [← nI_small (Int.toNat y3) (by omega) x3 (by omega), ← hvz11, ← hvz12.1]; omega)
        exact ⟨e, by omega, he1, by omega⟩)  (by omega)
            · refine X_iconst (v := (-1 : Int32)) rfl rfl rfl ?_
              exact LW_ireturn (st := []) rfl rfl rfl ⟨_, rfl, V, hG⟩
set_option maxRecDepth 10000 in
set_option maxHeartbeats 40000000 in
theorem C_X13_game_35 {P : Par} {g g0 : LH} {d n : Nat}  (V : InvR P g) (hG : Gr g = Gr g0) (x1 : Int32) (y1 : Int) (hx1 : x1.toInt = y1) (x2 : Int32) (y2 : Int) (hx2 : x2.toInt = y2) (x3 : Int32) (y3 : Int) (hx3 : x3.toInt = y3) (hf3 : 0 ≤ y3 ∧ y3 ≤ 1) (x4 : Int32) (y4 : Int) (hx4 : x4.toInt = y4) (hf4 : 0 ≤ y4 ∧ y4 ≤ 1023) (x5 : Int32) (y5 : Int) (hx5 : x5.toInt = y5) (hf5 : (-1) ≤ y5 ∧ y5 ≤ 1023) (o6 : Option Value) (hc355_33 : 0 ≤ (Gi g 355 33).toInt ∧ (Gi g 355 33).toInt ≤ 10) (hc368_0 : 0 ≤ (Gi g 368 0).toInt ∧ (Gi g 368 0).toInt ≤ 0) (hmu : (y5 - (-1)) * 14 + 25 < (n : Int) + 1) (ih35 : ∀ (g : LH) (V : InvR P g) (hG : Gr g = Gr g0) (x1 : Int32) (y1 : Int) (hx1 : x1.toInt = y1) (x2 : Int32) (y2 : Int) (hx2 : x2.toInt = y2) (x3 : Int32) (y3 : Int) (hx3 : x3.toInt = y3) (hf3 : 0 ≤ y3 ∧ y3 ≤ 1) (x4 : Int32) (y4 : Int) (hx4 : x4.toInt = y4) (hf4 : 0 ≤ y4 ∧ y4 ≤ 1023) (x5 : Int32) (y5 : Int) (hx5 : x5.toInt = y5) (hf5 : (-1) ≤ y5 ∧ y5 ≤ 1023) (o6 : Option Value) (hc355_33 : 0 ≤ (Gi g 355 33).toInt ∧ (Gi g 355 33).toInt ≤ 10) (hc368_0 : 0 ≤ (Gi g 368 0).toInt ∧ (Gi g 368 0).toInt ≤ 0), (y5 - (-1)) * 14 + 25 < (n : Int) → LW 295 (d + 60) 0 0 35 [some (.ref 355), some (.int x1), some (.int x2), some (.int x3), some (.int x4), some (.int x5), o6] [] g (fun v g' => ∃ r : Int32, v = some (.int r) ∧ (-2) ≤ r.toInt ∧ r.toInt ≤ 25 ∧ InvR P g' ∧ Gr g' = Gr g0)) (ih62 : ∀ (g : LH) (V : InvR P g) (hG : Gr g = Gr g0) (x1 : Int32) (y1 : Int) (hx1 : x1.toInt = y1) (x2 : Int32) (y2 : Int) (hx2 : x2.toInt = y2) (x3 : Int32) (y3 : Int) (hx3 : x3.toInt = y3) (hf3 : 0 ≤ y3 ∧ y3 ≤ 1) (x4 : Int32) (y4 : Int) (hx4 : x4.toInt = y4) (hf4 : 0 ≤ y4 ∧ y4 ≤ 1023) (x5 : Int32) (y5 : Int) (hx5 : x5.toInt = y5) (hf5 : 0 ≤ y5 ∧ y5 ≤ 1023) (x6 : Int32) (y6 : Int) (hx6 : x6.toInt = y6) (hf6 : 0 ≤ y6 ∧ y6 ≤ 10) (hc355_33 : 0 ≤ (Gi g 355 33).toInt ∧ (Gi g 355 33).toInt ≤ 10) (hc368_0 : 0 ≤ (Gi g 368 0).toInt ∧ (Gi g 368 0).toInt ≤ 0), (y5 - (-1)) * 14 + 12 + (10 - y6) * 1 + 0 < (n : Int) → LW 295 (d + 60) 0 0 62 [some (.ref 355), some (.int x1), some (.int x2), some (.int x3), some (.int x4), some (.int x5), some (.int x6)] [] g (fun v g' => ∃ r : Int32, v = some (.int r) ∧ (-2) ≤ r.toInt ∧ r.toInt ≤ 25 ∧ InvR P g' ∧ Gr g' = Gr g0)) (ih138 : ∀ (g : LH) (V : InvR P g) (hG : Gr g = Gr g0) (x1 : Int32) (y1 : Int) (hx1 : x1.toInt = y1) (x2 : Int32) (y2 : Int) (hx2 : x2.toInt = y2) (x3 : Int32) (y3 : Int) (hx3 : x3.toInt = y3) (hf3 : 1 ≤ y3 ∧ y3 ≤ 1) (x4 : Int32) (y4 : Int) (hx4 : x4.toInt = y4) (hf4 : 0 ≤ y4 ∧ y4 ≤ 1023) (x5 : Int32) (y5 : Int) (hx5 : x5.toInt = y5) (hf5 : 0 ≤ y5 ∧ y5 ≤ 10) (o6 : Option Value) (hc355_33 : 0 ≤ (Gi g 355 33).toInt ∧ (Gi g 355 33).toInt ≤ 10) (hc368_0 : 0 ≤ (Gi g 368 0).toInt ∧ (Gi g 368 0).toInt ≤ 0), (10 - y5) * 1 + 0 < (n : Int) → LW 295 (d + 60) 0 0 138 [some (.ref 355), some (.int x1), some (.int x2), some (.int x3), some (.int x4), some (.int x5), o6] [] g (fun v g' => ∃ r : Int32, v = some (.int r) ∧ (-2) ≤ r.toInt ∧ r.toInt ≤ 25 ∧ InvR P g' ∧ Gr g' = Gr g0)) : LW 295 (d + 60) 0 0 35 [some (.ref 355), some (.int x1), some (.int x2), some (.int x3), some (.int x4), some (.int x5), o6] [] g (fun v g' => ∃ r : Int32, v = some (.int r) ∧ (-2) ≤ r.toInt ∧ r.toInt ≤ 25 ∧ InvR P g' ∧ Gr g' = Gr g0) := by
  obtain ⟨vz1, evz1⟩ : ∃ z, Gi g 355 33 = z := ⟨_, rfl⟩
  rw [evz1] at hc355_33
  obtain ⟨vz2, evz2⟩ : ∃ z, Gi g 368 0 = z := ⟨_, rfl⟩
  rw [evz2] at hc368_0
  refine X_iload rfl rfl rfl ?_
  refine S_if_lt (tgt := 116) rfl rfl rfl hx5 (fun vh3 => ?_) (fun vh3 => ?_)
  · refine X_iload_n rfl rfl rfl rfl ?_
    refine S_if_ne (tgt := 135) rfl rfl rfl hx3 (fun vh4 => ?_) (fun vh4 => ?_)
    · refine X_iconst (v := (0 : Int32)) rfl rfl rfl ?_
      refine X_istore (i := 5) (ls' := [some (.ref 355), some (.int x1), some (.int x2), some (.int x3), some (.int x4), some (.int (0 : Int32)), o6]) rfl rfl (Nat.le_of_ble_eq_true rfl) rfl ?_
      exact ih138 _ V hG x1 y1 hx1 x2 y2 hx2 x3 y3 hx3 (by omega) x4 y4 hx4 (by omega) (0 : Int32) 0 (show (0 : Int32).toInt = 0 from rfl) (by omega) o6 (by rw [evz1]; omega) (by rw [evz2]; omega)   (by omega)
    · refine X_aload_n rfl rfl rfl rfl ?_
      refine X_getR (a := 369) rfl rfl rfl ((congrFun V.1 355).trans s_355) rfl ((congrFun (V.2.1 355 (by decide)) 32).trans r_355_32) ?_
      refine X_iconst (v := (0 : Int32)) rfl rfl rfl ?_
      refine S_zald rfl rfl ((congrFun V.1 369).trans s_369) (show (0 : Int32).toInt = 0 from rfl) (by omega) (fun vz5 evz5 => ?_)
      have evz5 : Gi g 369 0 = vz5 := evz5
      have vf6 := O_369 (V.2.2.2.2.2.2.1 369 (0) (Nat.le_of_ble_eq_true rfl))
      rw [evz5] at vf6
      refine S_if_eq (tgt := 133) rfl rfl rfl rfl (fun vh7 => ?_) (fun vh7 => ?_)
      · refine X_iconst (v := (0 : Int32)) rfl rfl rfl ?_
        exact LW_ireturn (st := []) rfl rfl rfl ⟨_, rfl, by decide, by decide, V, hG⟩
      · refine X_iconst (v := (1 : Int32)) rfl rfl rfl ?_
        refine LW_goto (tgt := 134) rfl rfl ?_
        exact LW_ireturn (st := []) rfl rfl rfl ⟨_, rfl, by decide, by decide, V, hG⟩
  · refine X_aload_n rfl rfl rfl rfl ?_
    refine X_getR (a := 369) rfl rfl rfl ((congrFun V.1 355).trans s_355) rfl ((congrFun (V.2.1 355 (by decide)) 32).trans r_355_32) ?_
    refine X_iload rfl rfl rfl ?_
    refine X_iload rfl rfl rfl ?_
    refine X_iload rfl rfl rfl ?_
    refine S_icmp_ne (tgt := 57) rfl rfl rfl hx5 hx4 (fun vh8 => ?_) (fun vh8 => ?_)
    · refine X_iconst (v := (0 : Int32)) rfl rfl rfl ?_
      refine S_zastB (I := InvR _) rfl rfl ((congrFun V.1 369).trans s_369) hx5 (by omega) (fun x vhx => (InvR_putO V (by decide) (show okO 369 _ _ from (show 0 ≤ x.toInt ∧ x.toInt ≤ 1 by omega)))) (fun g V vn10 hq => ?_)
      have hG := hq.trans hG
      have evz1 := (vn10 (355) 33 (Or.inl (by decide))).trans evz1
      have evz2 := (vn10 (368) 0 (Or.inl (by decide))).trans evz2
      refine X_iconst (v := (0 : Int32)) rfl rfl rfl ?_
      refine X_istore (i := 6) (ls' := [some (.ref 355), some (.int x1), some (.int x2), some (.int x3), some (.int x4), some (.int x5), some (.int (0 : Int32))]) rfl rfl (Nat.le_of_ble_eq_true rfl) rfl ?_
      exact ih62 _ V hG x1 y1 hx1 x2 y2 hx2 x3 y3 hx3 (by omega) x4 y4 hx4 (by omega) x5 y5 hx5 (by omega) (0 : Int32) 0 (show (0 : Int32).toInt = 0 from rfl) (by omega) (by rw [evz1]; omega) (by rw [evz2]; omega)   (by omega)
    · refine X_iconst (v := (1 : Int32)) rfl rfl rfl ?_
      refine LW_goto (tgt := 58) rfl rfl ?_
      refine S_zastB (I := InvR _) rfl rfl ((congrFun V.1 369).trans s_369) hx5 (by omega) (fun x vhx => (InvR_putO V (by decide) (show okO 369 _ _ from (show 0 ≤ x.toInt ∧ x.toInt ≤ 1 by omega)))) (fun g V vn12 hq => ?_)
      have hG := hq.trans hG
      have evz1 := (vn12 (355) 33 (Or.inl (by decide))).trans evz1
      have evz2 := (vn12 (368) 0 (Or.inl (by decide))).trans evz2
      refine X_iconst (v := (0 : Int32)) rfl rfl rfl ?_
      refine X_istore (i := 6) (ls' := [some (.ref 355), some (.int x1), some (.int x2), some (.int x3), some (.int x4), some (.int x5), some (.int (0 : Int32))]) rfl rfl (Nat.le_of_ble_eq_true rfl) rfl ?_
      exact ih62 _ V hG x1 y1 hx1 x2 y2 hx2 x3 y3 hx3 (by omega) x4 y4 hx4 (by omega) x5 y5 hx5 (by omega) (0 : Int32) 0 (show (0 : Int32).toInt = 0 from rfl) (by omega) (by rw [evz1]; omega) (by rw [evz2]; omega)   (by omega)
set_option maxRecDepth 10000 in
set_option maxHeartbeats 40000000 in
theorem C_X13_game_62 {P : Par} {g g0 : LH} {d n : Nat}  (V : InvR P g) (hG : Gr g = Gr g0) (x1 : Int32) (y1 : Int) (hx1 : x1.toInt = y1) (x2 : Int32) (y2 : Int) (hx2 : x2.toInt = y2) (x3 : Int32) (y3 : Int) (hx3 : x3.toInt = y3) (hf3 : 0 ≤ y3 ∧ y3 ≤ 1) (x4 : Int32) (y4 : Int) (hx4 : x4.toInt = y4) (hf4 : 0 ≤ y4 ∧ y4 ≤ 1023) (x5 : Int32) (y5 : Int) (hx5 : x5.toInt = y5) (hf5 : 0 ≤ y5 ∧ y5 ≤ 1023) (x6 : Int32) (y6 : Int) (hx6 : x6.toInt = y6) (hf6 : 0 ≤ y6 ∧ y6 ≤ 10) (hc355_33 : 0 ≤ (Gi g 355 33).toInt ∧ (Gi g 355 33).toInt ≤ 10) (hc368_0 : 0 ≤ (Gi g 368 0).toInt ∧ (Gi g 368 0).toInt ≤ 0) (hmu : (y5 - (-1)) * 14 + 12 + (10 - y6) * 1 + 0 < (n : Int) + 1) (ih35 : ∀ (g : LH) (V : InvR P g) (hG : Gr g = Gr g0) (x1 : Int32) (y1 : Int) (hx1 : x1.toInt = y1) (x2 : Int32) (y2 : Int) (hx2 : x2.toInt = y2) (x3 : Int32) (y3 : Int) (hx3 : x3.toInt = y3) (hf3 : 0 ≤ y3 ∧ y3 ≤ 1) (x4 : Int32) (y4 : Int) (hx4 : x4.toInt = y4) (hf4 : 0 ≤ y4 ∧ y4 ≤ 1023) (x5 : Int32) (y5 : Int) (hx5 : x5.toInt = y5) (hf5 : (-1) ≤ y5 ∧ y5 ≤ 1023) (o6 : Option Value) (hc355_33 : 0 ≤ (Gi g 355 33).toInt ∧ (Gi g 355 33).toInt ≤ 10) (hc368_0 : 0 ≤ (Gi g 368 0).toInt ∧ (Gi g 368 0).toInt ≤ 0), (y5 - (-1)) * 14 + 25 < (n : Int) → LW 295 (d + 60) 0 0 35 [some (.ref 355), some (.int x1), some (.int x2), some (.int x3), some (.int x4), some (.int x5), o6] [] g (fun v g' => ∃ r : Int32, v = some (.int r) ∧ (-2) ≤ r.toInt ∧ r.toInt ≤ 25 ∧ InvR P g' ∧ Gr g' = Gr g0)) (ih62 : ∀ (g : LH) (V : InvR P g) (hG : Gr g = Gr g0) (x1 : Int32) (y1 : Int) (hx1 : x1.toInt = y1) (x2 : Int32) (y2 : Int) (hx2 : x2.toInt = y2) (x3 : Int32) (y3 : Int) (hx3 : x3.toInt = y3) (hf3 : 0 ≤ y3 ∧ y3 ≤ 1) (x4 : Int32) (y4 : Int) (hx4 : x4.toInt = y4) (hf4 : 0 ≤ y4 ∧ y4 ≤ 1023) (x5 : Int32) (y5 : Int) (hx5 : x5.toInt = y5) (hf5 : 0 ≤ y5 ∧ y5 ≤ 1023) (x6 : Int32) (y6 : Int) (hx6 : x6.toInt = y6) (hf6 : 0 ≤ y6 ∧ y6 ≤ 10) (hc355_33 : 0 ≤ (Gi g 355 33).toInt ∧ (Gi g 355 33).toInt ≤ 10) (hc368_0 : 0 ≤ (Gi g 368 0).toInt ∧ (Gi g 368 0).toInt ≤ 0), (y5 - (-1)) * 14 + 12 + (10 - y6) * 1 + 0 < (n : Int) → LW 295 (d + 60) 0 0 62 [some (.ref 355), some (.int x1), some (.int x2), some (.int x3), some (.int x4), some (.int x5), some (.int x6)] [] g (fun v g' => ∃ r : Int32, v = some (.int r) ∧ (-2) ≤ r.toInt ∧ r.toInt ≤ 25 ∧ InvR P g' ∧ Gr g' = Gr g0)) (ih138 : ∀ (g : LH) (V : InvR P g) (hG : Gr g = Gr g0) (x1 : Int32) (y1 : Int) (hx1 : x1.toInt = y1) (x2 : Int32) (y2 : Int) (hx2 : x2.toInt = y2) (x3 : Int32) (y3 : Int) (hx3 : x3.toInt = y3) (hf3 : 1 ≤ y3 ∧ y3 ≤ 1) (x4 : Int32) (y4 : Int) (hx4 : x4.toInt = y4) (hf4 : 0 ≤ y4 ∧ y4 ≤ 1023) (x5 : Int32) (y5 : Int) (hx5 : x5.toInt = y5) (hf5 : 0 ≤ y5 ∧ y5 ≤ 10) (o6 : Option Value) (hc355_33 : 0 ≤ (Gi g 355 33).toInt ∧ (Gi g 355 33).toInt ≤ 10) (hc368_0 : 0 ≤ (Gi g 368 0).toInt ∧ (Gi g 368 0).toInt ≤ 0), (10 - y5) * 1 + 0 < (n : Int) → LW 295 (d + 60) 0 0 138 [some (.ref 355), some (.int x1), some (.int x2), some (.int x3), some (.int x4), some (.int x5), o6] [] g (fun v g' => ∃ r : Int32, v = some (.int r) ∧ (-2) ≤ r.toInt ∧ r.toInt ≤ 25 ∧ InvR P g' ∧ Gr g' = Gr g0)) : LW 295 (d + 60) 0 0 62 [some (.ref 355), some (.int x1), some (.int x2), some (.int x3), some (.int x4), some (.int x5), some (.int x6)] [] g (fun v g' => ∃ r : Int32, v = some (.int r) ∧ (-2) ≤ r.toInt ∧ r.toInt ≤ 25 ∧ InvR P g' ∧ Gr g' = Gr g0) := by
  obtain ⟨vz1, evz1⟩ : ∃ z, Gi g 355 33 = z := ⟨_, rfl⟩
  rw [evz1] at hc355_33
  obtain ⟨vz2, evz2⟩ : ∃ z, Gi g 368 0 = z := ⟨_, rfl⟩
  rw [evz2] at hc368_0
  refine X_iload rfl rfl rfl ?_
  refine X_aload_n rfl rfl rfl rfl ?_
  refine X_getI (v := vz1) rfl rfl rfl ((congrFun V.1 355).trans s_355) rfl evz1 ?_
  refine S_icmp_ge (tgt := 110) rfl rfl rfl hx6 rfl (fun vh3 => ?_) (fun vh3 => ?_)
  · refine S_iinc (c := (-1)) rfl rfl rfl hx5 rfl (by omega) (fun vz4 hvz4 => ?_)
    refine LW_ls (ls' := [some (.ref 355), some (.int x1), some (.int x2), some (.int x3), some (.int x4), some (.int vz4), some (.int x6)]) rfl ?_
    refine LW_goto (tgt := 35) rfl rfl ?_
    exact ih35 _ V hG x1 y1 hx1 x2 y2 hx2 x3 y3 hx3 (by omega) x4 y4 hx4 (by omega) vz4 vz4.toInt rfl (by omega) (some (.int x6)) (by rw [evz1]; omega) (by rw [evz2]; omega)   (by omega)
  · refine X_aload_n rfl rfl rfl rfl ?_
    refine X_getR (a := 369) rfl rfl rfl ((congrFun V.1 355).trans s_355) rfl ((congrFun (V.2.1 355 (by decide)) 32).trans r_355_32) ?_
    refine X_iload rfl rfl rfl ?_
    refine X_aload_n rfl rfl rfl rfl ?_
    refine X_getR (a := 369) rfl rfl rfl ((congrFun V.1 355).trans s_355) rfl ((congrFun (V.2.1 355 (by decide)) 32).trans r_355_32) ?_
    refine X_iload rfl rfl rfl ?_
    refine S_zald rfl rfl ((congrFun V.1 369).trans s_369) hx5 (by omega) (fun vz5 evz5 => ?_)
    have vf6 := O_369 (V.2.2.2.2.2.2.1 369 ((y5 : Int).toNat) (Nat.le_of_ble_eq_true rfl))
    rw [evz5] at vf6
    refine S_if_ne (tgt := 98) rfl rfl rfl rfl (fun vh7 => ?_) (fun vh7 => ?_)
    · refine X_iconst (v := (1 : Int32)) rfl rfl rfl ?_
      refine LW_goto (tgt := 103) rfl rfl ?_
      refine S_zastB (I := InvR _) rfl rfl ((congrFun V.1 369).trans s_369) hx5 (by omega) (fun x vhx => (InvR_putO V (by decide) (show okO 369 _ _ from (show 0 ≤ x.toInt ∧ x.toInt ≤ 1 by omega)))) (fun g V vn9 hq => ?_)
      have hG := hq.trans hG
      have evz1 := (vn9 (355) 33 (Or.inl (by decide))).trans evz1
      have evz2 := (vn9 (368) 0 (Or.inl (by decide))).trans evz2
      refine S_iinc (c := 1) rfl rfl rfl hx6 rfl (by omega) (fun vz10 hvz10 => ?_)
      refine LW_ls (ls' := [some (.ref 355), some (.int x1), some (.int x2), some (.int x3), some (.int x4), some (.int x5), some (.int vz10)]) rfl ?_
      refine LW_goto (tgt := 62) rfl rfl ?_
      exact ih62 _ V hG x1 y1 hx1 x2 y2 hx2 x3 y3 hx3 (by omega) x4 y4 hx4 (by omega) x5 y5 hx5 (by omega) vz10 vz10.toInt rfl (by omega) (by rw [evz1]; omega) (by rw [evz2]; omega)   (by omega)
    · refine X_aload_n rfl rfl rfl rfl ?_
      refine X_iload rfl rfl rfl ?_
      refine X_iload rfl rfl rfl ?_
      refine Y_callV (as := [.int x5, .int x6]) (st := [.int x5, .ref 369]) rfl rfl rfl (by decide) rfl (Nat.le_of_ble_eq_true rfl) (by decide) (Nat.le_of_ble_eq_true rfl) rfl ((congrFun V.1 355).trans s_355) (by decide) (C_X13_isGood V x5 y5 hx5 (by omega) x6 y6 hx6 (by omega) ) ?_
      rintro _ g' ⟨vr11, rfl, hrvr110, hrvr111, hgg⟩
      subst hgg
      refine S_if_eq (tgt := 102) rfl rfl rfl rfl (fun vh12 => ?_) (fun vh12 => ?_)
      · refine X_iconst (v := (0 : Int32)) rfl rfl rfl ?_
        refine S_zastB (I := InvR _) rfl rfl ((congrFun V.1 369).trans s_369) hx5 (by omega) (fun x vhx => (InvR_putO V (by decide) (show okO 369 _ _ from (show 0 ≤ x.toInt ∧ x.toInt ≤ 1 by omega)))) (fun g V vn14 hq => ?_)
        have hG := hq.trans hG
        have evz1 := (vn14 (355) 33 (Or.inl (by decide))).trans evz1
        have evz2 := (vn14 (368) 0 (Or.inl (by decide))).trans evz2
        refine S_iinc (c := 1) rfl rfl rfl hx6 rfl (by omega) (fun vz15 hvz15 => ?_)
        refine LW_ls (ls' := [some (.ref 355), some (.int x1), some (.int x2), some (.int x3), some (.int x4), some (.int x5), some (.int vz15)]) rfl ?_
        refine LW_goto (tgt := 62) rfl rfl ?_
        exact ih62 _ V hG x1 y1 hx1 x2 y2 hx2 x3 y3 hx3 (by omega) x4 y4 hx4 (by omega) x5 y5 hx5 (by omega) vz15 vz15.toInt rfl (by omega) (by rw [evz1]; omega) (by rw [evz2]; omega)   (by omega)
      · refine X_iconst (v := (1 : Int32)) rfl rfl rfl ?_
        refine LW_goto (tgt := 103) rfl rfl ?_
        refine S_zastB (I := InvR _) rfl rfl ((congrFun V.1 369).trans s_369) hx5 (by omega) (fun x vhx => (InvR_putO V (by decide) (show okO 369 _ _ from (show 0 ≤ x.toInt ∧ x.toInt ≤ 1 by omega)))) (fun g V vn17 hq => ?_)
        have hG := hq.trans hG
        have evz1 := (vn17 (355) 33 (Or.inl (by decide))).trans evz1
        have evz2 := (vn17 (368) 0 (Or.inl (by decide))).trans evz2
        refine S_iinc (c := 1) rfl rfl rfl hx6 rfl (by omega) (fun vz18 hvz18 => ?_)
        refine LW_ls (ls' := [some (.ref 355), some (.int x1), some (.int x2), some (.int x3), some (.int x4), some (.int x5), some (.int vz18)]) rfl ?_
        refine LW_goto (tgt := 62) rfl rfl ?_
        exact ih62 _ V hG x1 y1 hx1 x2 y2 hx2 x3 y3 hx3 (by omega) x4 y4 hx4 (by omega) x5 y5 hx5 (by omega) vz18 vz18.toInt rfl (by omega) (by rw [evz1]; omega) (by rw [evz2]; omega)   (by omega)
set_option maxRecDepth 10000 in
set_option maxHeartbeats 40000000 in
theorem C_X13_game_138 {P : Par} {g g0 : LH} {d n : Nat}  (V : InvR P g) (hG : Gr g = Gr g0) (x1 : Int32) (y1 : Int) (hx1 : x1.toInt = y1) (x2 : Int32) (y2 : Int) (hx2 : x2.toInt = y2) (x3 : Int32) (y3 : Int) (hx3 : x3.toInt = y3) (hf3 : 1 ≤ y3 ∧ y3 ≤ 1) (x4 : Int32) (y4 : Int) (hx4 : x4.toInt = y4) (hf4 : 0 ≤ y4 ∧ y4 ≤ 1023) (x5 : Int32) (y5 : Int) (hx5 : x5.toInt = y5) (hf5 : 0 ≤ y5 ∧ y5 ≤ 10) (o6 : Option Value) (hc355_33 : 0 ≤ (Gi g 355 33).toInt ∧ (Gi g 355 33).toInt ≤ 10) (hc368_0 : 0 ≤ (Gi g 368 0).toInt ∧ (Gi g 368 0).toInt ≤ 0) (hmu : (10 - y5) * 1 + 0 < (n : Int) + 1) (ih35 : ∀ (g : LH) (V : InvR P g) (hG : Gr g = Gr g0) (x1 : Int32) (y1 : Int) (hx1 : x1.toInt = y1) (x2 : Int32) (y2 : Int) (hx2 : x2.toInt = y2) (x3 : Int32) (y3 : Int) (hx3 : x3.toInt = y3) (hf3 : 0 ≤ y3 ∧ y3 ≤ 1) (x4 : Int32) (y4 : Int) (hx4 : x4.toInt = y4) (hf4 : 0 ≤ y4 ∧ y4 ≤ 1023) (x5 : Int32) (y5 : Int) (hx5 : x5.toInt = y5) (hf5 : (-1) ≤ y5 ∧ y5 ≤ 1023) (o6 : Option Value) (hc355_33 : 0 ≤ (Gi g 355 33).toInt ∧ (Gi g 355 33).toInt ≤ 10) (hc368_0 : 0 ≤ (Gi g 368 0).toInt ∧ (Gi g 368 0).toInt ≤ 0), (y5 - (-1)) * 14 + 25 < (n : Int) → LW 295 (d + 60) 0 0 35 [some (.ref 355), some (.int x1), some (.int x2), some (.int x3), some (.int x4), some (.int x5), o6] [] g (fun v g' => ∃ r : Int32, v = some (.int r) ∧ (-2) ≤ r.toInt ∧ r.toInt ≤ 25 ∧ InvR P g' ∧ Gr g' = Gr g0)) (ih62 : ∀ (g : LH) (V : InvR P g) (hG : Gr g = Gr g0) (x1 : Int32) (y1 : Int) (hx1 : x1.toInt = y1) (x2 : Int32) (y2 : Int) (hx2 : x2.toInt = y2) (x3 : Int32) (y3 : Int) (hx3 : x3.toInt = y3) (hf3 : 0 ≤ y3 ∧ y3 ≤ 1) (x4 : Int32) (y4 : Int) (hx4 : x4.toInt = y4) (hf4 : 0 ≤ y4 ∧ y4 ≤ 1023) (x5 : Int32) (y5 : Int) (hx5 : x5.toInt = y5) (hf5 : 0 ≤ y5 ∧ y5 ≤ 1023) (x6 : Int32) (y6 : Int) (hx6 : x6.toInt = y6) (hf6 : 0 ≤ y6 ∧ y6 ≤ 10) (hc355_33 : 0 ≤ (Gi g 355 33).toInt ∧ (Gi g 355 33).toInt ≤ 10) (hc368_0 : 0 ≤ (Gi g 368 0).toInt ∧ (Gi g 368 0).toInt ≤ 0), (y5 - (-1)) * 14 + 12 + (10 - y6) * 1 + 0 < (n : Int) → LW 295 (d + 60) 0 0 62 [some (.ref 355), some (.int x1), some (.int x2), some (.int x3), some (.int x4), some (.int x5), some (.int x6)] [] g (fun v g' => ∃ r : Int32, v = some (.int r) ∧ (-2) ≤ r.toInt ∧ r.toInt ≤ 25 ∧ InvR P g' ∧ Gr g' = Gr g0)) (ih138 : ∀ (g : LH) (V : InvR P g) (hG : Gr g = Gr g0) (x1 : Int32) (y1 : Int) (hx1 : x1.toInt = y1) (x2 : Int32) (y2 : Int) (hx2 : x2.toInt = y2) (x3 : Int32) (y3 : Int) (hx3 : x3.toInt = y3) (hf3 : 1 ≤ y3 ∧ y3 ≤ 1) (x4 : Int32) (y4 : Int) (hx4 : x4.toInt = y4) (hf4 : 0 ≤ y4 ∧ y4 ≤ 1023) (x5 : Int32) (y5 : Int) (hx5 : x5.toInt = y5) (hf5 : 0 ≤ y5 ∧ y5 ≤ 10) (o6 : Option Value) (hc355_33 : 0 ≤ (Gi g 355 33).toInt ∧ (Gi g 355 33).toInt ≤ 10) (hc368_0 : 0 ≤ (Gi g 368 0).toInt ∧ (Gi g 368 0).toInt ≤ 0), (10 - y5) * 1 + 0 < (n : Int) → LW 295 (d + 60) 0 0 138 [some (.ref 355), some (.int x1), some (.int x2), some (.int x3), some (.int x4), some (.int x5), o6] [] g (fun v g' => ∃ r : Int32, v = some (.int r) ∧ (-2) ≤ r.toInt ∧ r.toInt ≤ 25 ∧ InvR P g' ∧ Gr g' = Gr g0)) : LW 295 (d + 60) 0 0 138 [some (.ref 355), some (.int x1), some (.int x2), some (.int x3), some (.int x4), some (.int x5), o6] [] g (fun v g' => ∃ r : Int32, v = some (.int r) ∧ (-2) ≤ r.toInt ∧ r.toInt ≤ 25 ∧ InvR P g' ∧ Gr g' = Gr g0) := by
  obtain ⟨vz1, evz1⟩ : ∃ z, Gi g 355 33 = z := ⟨_, rfl⟩
  rw [evz1] at hc355_33
  obtain ⟨vz2, evz2⟩ : ∃ z, Gi g 368 0 = z := ⟨_, rfl⟩
  rw [evz2] at hc368_0
  refine X_iload rfl rfl rfl ?_
  refine X_aload_n rfl rfl rfl rfl ?_
  refine X_getI (v := vz1) rfl rfl rfl ((congrFun V.1 355).trans s_355) rfl evz1 ?_
  refine S_icmp_ge (tgt := 171) rfl rfl rfl hx5 rfl (fun vh3 => ?_) (fun vh3 => ?_)
  · refine X_iconst (v := (-1 : Int32)) rfl rfl rfl ?_
    exact LW_ireturn (st := []) rfl rfl rfl ⟨_, rfl, by decide, by decide, V, hG⟩
  · refine X_aload_n rfl rfl rfl rfl ?_
    refine X_iconst (v := (0 : Int32)) rfl rfl rfl ?_
    refine X_iload rfl rfl rfl ?_
    refine Y_callV (as := [.int (0 : Int32), .int x5]) (st := []) rfl rfl rfl (by decide) rfl (Nat.le_of_ble_eq_true rfl) (by decide) (Nat.le_of_ble_eq_true rfl) rfl ((congrFun V.1 355).trans s_355) (by decide) (C_X13_isGood V (0 : Int32) 0 (show (0 : Int32).toInt = 0 from rfl) (by omega) x5 y5 hx5 (by omega) ) ?_
    rintro _ g' ⟨vr4, rfl, hrvr40, hrvr41, hgg⟩
    subst hgg
    refine S_if_eq (tgt := 165) rfl rfl rfl rfl (fun vh5 => ?_) (fun vh5 => ?_)
    · refine S_iinc (c := 1) rfl rfl rfl hx5 rfl (by omega) (fun vz6 hvz6 => ?_)
      refine LW_ls (ls' := [some (.ref 355), some (.int x1), some (.int x2), some (.int x3), some (.int x4), some (.int vz6), o6]) rfl ?_
      refine LW_goto (tgt := 138) rfl rfl ?_
      exact ih138 _ V hG x1 y1 hx1 x2 y2 hx2 x3 y3 hx3 (by omega) x4 y4 hx4 (by omega) vz6 vz6.toInt rfl (by omega) o6 (by rw [evz1]; omega) (by rw [evz2]; omega)   (by omega)
    · refine X_aload_n rfl rfl rfl rfl ?_
      refine X_getR (a := 367) rfl rfl rfl ((congrFun V.1 355).trans s_355) rfl ((congrFun (V.2.1 355 (by decide)) 30).trans r_355_30) ?_
      refine X_iload rfl rfl rfl ?_
      refine S_iald rfl rfl ((congrFun V.1 367).trans s_367) hx5 (by omega) (fun vz7 evz7 => ?_)
      have vf8 := O_367 (V.2.2.2.2.2.2.1 367 ((y5 : Int).toNat) (Nat.le_of_ble_eq_true rfl))
      rw [evz7] at vf8
      have hr := (rfl : vz7.toInt = vz7.toInt)
      exact LW_ireturn (st := []) rfl rfl rfl ⟨_, rfl, by omega, by omega, V, hG⟩
theorem C_X13_game_all {P : Par} {g0 : LH} {d : Nat}  : ∀ n : Nat, (∀ (g : LH) (V : InvR P g) (hG : Gr g = Gr g0) (x1 : Int32) (y1 : Int) (hx1 : x1.toInt = y1) (x2 : Int32) (y2 : Int) (hx2 : x2.toInt = y2) (x3 : Int32) (y3 : Int) (hx3 : x3.toInt = y3) (hf3 : 0 ≤ y3 ∧ y3 ≤ 1) (x4 : Int32) (y4 : Int) (hx4 : x4.toInt = y4) (hf4 : 0 ≤ y4 ∧ y4 ≤ 1023) (x5 : Int32) (y5 : Int) (hx5 : x5.toInt = y5) (hf5 : (-1) ≤ y5 ∧ y5 ≤ 1023) (o6 : Option Value) (hc355_33 : 0 ≤ (Gi g 355 33).toInt ∧ (Gi g 355 33).toInt ≤ 10) (hc368_0 : 0 ≤ (Gi g 368 0).toInt ∧ (Gi g 368 0).toInt ≤ 0), (y5 - (-1)) * 14 + 25 < (n : Int) → LW 295 (d + 60) 0 0 35 [some (.ref 355), some (.int x1), some (.int x2), some (.int x3), some (.int x4), some (.int x5), o6] [] g (fun v g' => ∃ r : Int32, v = some (.int r) ∧ (-2) ≤ r.toInt ∧ r.toInt ≤ 25 ∧ InvR P g' ∧ Gr g' = Gr g0)) ∧ (∀ (g : LH) (V : InvR P g) (hG : Gr g = Gr g0) (x1 : Int32) (y1 : Int) (hx1 : x1.toInt = y1) (x2 : Int32) (y2 : Int) (hx2 : x2.toInt = y2) (x3 : Int32) (y3 : Int) (hx3 : x3.toInt = y3) (hf3 : 0 ≤ y3 ∧ y3 ≤ 1) (x4 : Int32) (y4 : Int) (hx4 : x4.toInt = y4) (hf4 : 0 ≤ y4 ∧ y4 ≤ 1023) (x5 : Int32) (y5 : Int) (hx5 : x5.toInt = y5) (hf5 : 0 ≤ y5 ∧ y5 ≤ 1023) (x6 : Int32) (y6 : Int) (hx6 : x6.toInt = y6) (hf6 : 0 ≤ y6 ∧ y6 ≤ 10) (hc355_33 : 0 ≤ (Gi g 355 33).toInt ∧ (Gi g 355 33).toInt ≤ 10) (hc368_0 : 0 ≤ (Gi g 368 0).toInt ∧ (Gi g 368 0).toInt ≤ 0), (y5 - (-1)) * 14 + 12 + (10 - y6) * 1 + 0 < (n : Int) → LW 295 (d + 60) 0 0 62 [some (.ref 355), some (.int x1), some (.int x2), some (.int x3), some (.int x4), some (.int x5), some (.int x6)] [] g (fun v g' => ∃ r : Int32, v = some (.int r) ∧ (-2) ≤ r.toInt ∧ r.toInt ≤ 25 ∧ InvR P g' ∧ Gr g' = Gr g0)) ∧ (∀ (g : LH) (V : InvR P g) (hG : Gr g = Gr g0) (x1 : Int32) (y1 : Int) (hx1 : x1.toInt = y1) (x2 : Int32) (y2 : Int) (hx2 : x2.toInt = y2) (x3 : Int32) (y3 : Int) (hx3 : x3.toInt = y3) (hf3 : 1 ≤ y3 ∧ y3 ≤ 1) (x4 : Int32) (y4 : Int) (hx4 : x4.toInt = y4) (hf4 : 0 ≤ y4 ∧ y4 ≤ 1023) (x5 : Int32) (y5 : Int) (hx5 : x5.toInt = y5) (hf5 : 0 ≤ y5 ∧ y5 ≤ 10) (o6 : Option Value) (hc355_33 : 0 ≤ (Gi g 355 33).toInt ∧ (Gi g 355 33).toInt ≤ 10) (hc368_0 : 0 ≤ (Gi g 368 0).toInt ∧ (Gi g 368 0).toInt ≤ 0), (10 - y5) * 1 + 0 < (n : Int) → LW 295 (d + 60) 0 0 138 [some (.ref 355), some (.int x1), some (.int x2), some (.int x3), some (.int x4), some (.int x5), o6] [] g (fun v g' => ∃ r : Int32, v = some (.int r) ∧ (-2) ≤ r.toInt ∧ r.toInt ≤ 25 ∧ InvR P g' ∧ Gr g' = Gr g0)) := by
  intro n
  induction n with
  | zero => exact ⟨fun g V hG x1 y1 hx1 x2 y2 hx2 x3 y3 hx3 hf3 x4 y4 hx4 hf4 x5 y5 hx5 hf5 o6 hc355_33 hc368_0 hmu => absurd hmu (by omega), fun g V hG x1 y1 hx1 x2 y2 hx2 x3 y3 hx3 hf3 x4 y4 hx4 hf4 x5 y5 hx5 hf5 x6 y6 hx6 hf6 hc355_33 hc368_0 hmu => absurd hmu (by omega), fun g V hG x1 y1 hx1 x2 y2 hx2 x3 y3 hx3 hf3 x4 y4 hx4 hf4 x5 y5 hx5 hf5 o6 hc355_33 hc368_0 hmu => absurd hmu (by omega)⟩
  | succ n ih => exact ⟨fun g V hG x1 y1 hx1 x2 y2 hx2 x3 y3 hx3 hf3 x4 y4 hx4 hf4 x5 y5 hx5 hf5 o6 hc355_33 hc368_0 hmu => C_X13_game_35  V hG x1 y1 hx1 x2 y2 hx2 x3 y3 hx3 hf3 x4 y4 hx4 hf4 x5 y5 hx5 hf5 o6 hc355_33 hc368_0 (by omega) ih.1 ih.2.1 ih.2.2, fun g V hG x1 y1 hx1 x2 y2 hx2 x3 y3 hx3 hf3 x4 y4 hx4 hf4 x5 y5 hx5 hf5 x6 y6 hx6 hf6 hc355_33 hc368_0 hmu => C_X13_game_62  V hG x1 y1 hx1 x2 y2 hx2 x3 y3 hx3 hf3 x4 y4 hx4 hf4 x5 y5 hx5 hf5 x6 y6 hx6 hf6 hc355_33 hc368_0 (by omega) ih.1 ih.2.1 ih.2.2, fun g V hG x1 y1 hx1 x2 y2 hx2 x3 y3 hx3 hf3 x4 y4 hx4 hf4 x5 y5 hx5 hf5 o6 hc355_33 hc368_0 hmu => C_X13_game_138  V hG x1 y1 hx1 x2 y2 hx2 x3 y3 hx3 hf3 x4 y4 hx4 hf4 x5 y5 hx5 hf5 o6 hc355_33 hc368_0 (by omega) ih.1 ih.2.1 ih.2.2⟩
set_option maxRecDepth 10000 in
set_option maxHeartbeats 40000000 in
theorem C_X13_game {P : Par} {g : LH} {d : Nat}  (V : InvR P g) (x1 : Int32) (y1 : Int) (hx1 : x1.toInt = y1) (x2 : Int32) (y2 : Int) (hx2 : x2.toInt = y2) (x3 : Int32) (y3 : Int) (hx3 : x3.toInt = y3) (hf3 : 0 ≤ y3 ∧ y3 ≤ 1)   : LW 295 (d + 60) 0 0 0 (lEnt (mL 295) [.ref 355, .int x1, .int x2, .int x3]) [] g (fun v g' => ∃ r : Int32, v = some (.int r) ∧ (-2) ≤ r.toInt ∧ r.toInt ≤ 25 ∧ InvR P g' ∧ Gr g' = Gr g) := by
  refine LW_ls (ls' := [some (.ref 355), some (.int x1), some (.int x2), some (.int x3), none, none, none]) rfl ?_
  have hG : Gr g = Gr g := rfl
  refine X_aload_n rfl rfl rfl rfl ?_
  refine X_iload_n rfl rfl rfl rfl ?_
  refine X_iload_n rfl rfl rfl rfl ?_
  refine Y_callV (as := [.int x1, .int x2]) (st := []) rfl rfl rfl (by decide) rfl (Nat.le_of_ble_eq_true rfl) (by decide) (Nat.le_of_ble_eq_true rfl) rfl ((congrFun V.1 355).trans s_355) (by decide) (C_X13_layGroup V x1 y1 hx1 x2 y2 hx2 ) ?_
  rintro _ g ⟨vr1, rfl, hrvr10, hrvr11, V, hq, vq2⟩
  have hG := hq.trans hG
  have vlg := vq2
  refine S_if_eq (tgt := 18) rfl rfl rfl rfl (fun vh3 => ?_) (fun vh3 => ?_)
  · refine X_bipush (v := (-2 : Int32)) rfl rfl rfl ?_
    exact LW_ireturn (st := []) rfl rfl rfl ⟨_, rfl, by decide, by decide, V, hG⟩
  · refine X_aload_n rfl rfl rfl rfl ?_
    refine X_getR (a := 368) rfl rfl rfl ((congrFun V.1 355).trans s_355) rfl ((congrFun (V.2.1 355 (by decide)) 31).trans r_355_31) ?_
    refine X_iconst (v := (0 : Int32)) rfl rfl rfl ?_
    refine S_zald rfl rfl ((congrFun V.1 368).trans s_368) (show (0 : Int32).toInt = 0 from rfl) (by omega) (fun vz4 evz4 => ?_)
    have evz4 : Gi g 368 0 = vz4 := evz4
    have vf5 := O_368 (V.2.2.2.2.2.2.1 368 (0) (Nat.le_of_ble_eq_true rfl))
    rw [evz4] at vf5
    refine S_if_eq (tgt := 21) rfl rfl rfl rfl (fun vh6 => ?_) (fun vh6 => ?_)
    · refine X_iconst (v := (1 : Int32)) rfl rfl rfl ?_
      refine X_aload_n rfl rfl rfl rfl ?_
      refine S_getI rfl rfl rfl ((congrFun V.1 355).trans s_355) rfl (fun vz7 evz7 => ?_)
      have vf8 := (vlg (by omega)).1
      rw [evz7] at vf8
      refine S_shl1 (n := 10) rfl rfl rfl (by omega) (fun vz9 hvz9 => ?_)
      refine X_iconst (v := (1 : Int32)) rfl rfl rfl ?_
      refine S_isub rfl rfl rfl (show (1 : Int32).toInt = 1 from rfl) (by omega) (fun vz10 hvz10 => ?_)
      refine X_istore (i := 4) (ls' := [some (.ref 355), some (.int x1), some (.int x2), some (.int x3), some (.int vz10), none, none]) rfl rfl (Nat.le_of_ble_eq_true rfl) rfl ?_
      refine X_iload rfl rfl rfl ?_
      refine X_istore (i := 5) (ls' := [some (.ref 355), some (.int x1), some (.int x2), some (.int x3), some (.int vz10), some (.int vz10), none]) rfl rfl (Nat.le_of_ble_eq_true rfl) rfl ?_
      exact (C_X13_game_all (((vz10.toInt - (-1)) * 14 + 25) + 1 : Int).toNat).1 _ V hG x1 y1 hx1 x2 y2 hx2 x3 y3 hx3 (by omega) vz10 vz10.toInt rfl (by omega) vz10 vz10.toInt rfl (by omega) none (by rw [evz7]; omega) (by rw [evz4]; omega)   (by omega)
    · refine X_bipush (v := (-2 : Int32)) rfl rfl rfl ?_
      exact LW_ireturn (st := []) rfl rfl rfl ⟨_, rfl, by decide, by decide, V, hG⟩
