/-! the reference: said -/
set_option maxRecDepth 10000 in
set_option maxHeartbeats 40000000 in
theorem C_X13_setOfB_4 {P : Par} {g : LH} {d n : Nat}  (V : InvR P g) (x1 : Int32) (y1 : Int) (hx1 : x1.toInt = y1) (hf1 : 0 ≤ y1 ∧ y1 ≤ 23) (x2 : Int32) (y2 : Int) (hx2 : x2.toInt = y2) (x3 : Int32) (y3 : Int) (hx3 : x3.toInt = y3) (hf3 : 0 ≤ y3 ∧ y3 ≤ 8) (hq0 : x2 = vsF (Gi g 356) (Int.toNat (y1)) (Int.toNat (y3))) (hq1 : y3 ≤ (Gi g 356 (124 + 10 * Int.toNat (y1))).toInt) (hmu : (8 - y3) * 1 + 0 < (n : Int) + 1) (ih4 : ∀ (V : InvR P g) (x1 : Int32) (y1 : Int) (hx1 : x1.toInt = y1) (hf1 : 0 ≤ y1 ∧ y1 ≤ 23) (x2 : Int32) (y2 : Int) (hx2 : x2.toInt = y2) (x3 : Int32) (y3 : Int) (hx3 : x3.toInt = y3) (hf3 : 0 ≤ y3 ∧ y3 ≤ 8) (hq0 : x2 = vsF (Gi g 356) (Int.toNat (y1)) (Int.toNat (y3))) (hq1 : y3 ≤ (Gi g 356 (124 + 10 * Int.toNat (y1))).toInt), (8 - y3) * 1 + 0 < (n : Int) → LW 183 (d + 4) 0 0 4 [some (.ref 355), some (.int x1), some (.int x2), some (.int x3)] [] g (fun v g' => ∃ r : Int32, v = some (.int r) ∧ g = g' ∧ (r = vsW (Gi g 356) (Int.toNat (y1))))) : LW 183 (d + 4) 0 0 4 [some (.ref 355), some (.int x1), some (.int x2), some (.int x3)] [] g (fun v g' => ∃ r : Int32, v = some (.int r) ∧ g = g' ∧ (r = vsW (Gi g 356) (Int.toNat (y1)))) := by
  refine X_iload_n rfl rfl rfl rfl ?_
  refine X_aload_n rfl rfl rfl rfl ?_
  refine X_iload_n rfl rfl rfl rfl ?_
  refine X_callV (as := [.int x1]) (st := [.int x3]) rfl rfl rfl (by decide) rfl (Nat.le_of_ble_eq_true rfl) (by decide) (Nat.le_of_ble_eq_true rfl) rfl ((congrFun V.1 355).trans s_355) (by decide) ?_
  refine LW_ls (ls' := [some (.ref 355), some (.int x1)]) rfl ?_
  refine X_aload_n rfl rfl rfl rfl ?_
  refine X_getR (a := 356) rfl rfl rfl ((congrFun V.1 355).trans s_355) rfl ((congrFun (V.2.1 355 (by decide)) 0).trans r_355_0) ?_
  refine X_bipush (v := (116 : Int32)) rfl rfl rfl ?_
  refine X_bipush (v := (10 : Int32)) rfl rfl rfl ?_
  refine X_iload_n rfl rfl rfl rfl ?_
  refine S_imul rfl rfl (show (10 : Int32).toInt = 10 from rfl) hx1 (by omega) (fun vz1 hvz1 => ?_)
  refine S_iadd rfl rfl (show (116 : Int32).toInt = 116 from rfl) rfl (by omega) (fun vz2 hvz2 => ?_)
  refine X_bipush (v := (8 : Int32)) rfl rfl rfl ?_
  refine S_iadd rfl rfl rfl (show (8 : Int32).toInt = 8 from rfl) (by omega) (fun vz3 hvz3 => ?_)
  refine S_iald rfl rfl ((congrFun V.1 356).trans s_356) rfl (by omega) (fun vz4 evz4 => ?_)
  have vf5 := A_LENGTH (V.2.2.2.1 ((vz3.toInt : Int).toNat)) (by omega)
  rw [evz4] at vf5
  refine LW_ireturn (st := []) rfl rfl rfl ?_
  refine S_icmp_ge (tgt := 30) rfl rfl rfl hx3 rfl (fun vh6 => ?_) (fun vh6 => ?_)
  · refine X_iload_n rfl rfl rfl rfl ?_
    exact LW_ireturn (st := []) rfl rfl rfl ⟨_, rfl, rfl, (by
        rw [show 124 + 10 * Int.toNat y1 = Int.toNat vz3.toInt by omega, evz4] at hq1
        rw [hq0]
        unfold vsW
        rw [show 124 + 10 * Int.toNat y1 = Int.toNat vz3.toInt by omega, evz4, show Int.toNat y3 = Int.toNat vz4.toInt by omega])⟩
  · refine X_iload_n rfl rfl rfl rfl ?_
    refine X_iconst (v := (1 : Int32)) rfl rfl rfl ?_
    refine X_aload_n rfl rfl rfl rfl ?_
    refine X_iload_n rfl rfl rfl rfl ?_
    refine X_iload_n rfl rfl rfl rfl ?_
    refine X_callV (as := [.int x1, .int x3]) (st := [.int (1 : Int32), .int x2]) rfl rfl rfl (by decide) rfl (Nat.le_of_ble_eq_true rfl) (by decide) (Nat.le_of_ble_eq_true rfl) rfl ((congrFun V.1 355).trans s_355) (by decide) ?_
    refine LW_ls (ls' := [some (.ref 355), some (.int x1), some (.int x3)]) rfl ?_
    refine X_aload_n rfl rfl rfl rfl ?_
    refine X_getR (a := 356) rfl rfl rfl ((congrFun V.1 355).trans s_355) rfl ((congrFun (V.2.1 355 (by decide)) 0).trans r_355_0) ?_
    refine X_bipush (v := (116 : Int32)) rfl rfl rfl ?_
    refine X_bipush (v := (10 : Int32)) rfl rfl rfl ?_
    refine X_iload_n rfl rfl rfl rfl ?_
    refine S_imul rfl rfl (show (10 : Int32).toInt = 10 from rfl) hx1 (by omega) (fun vz7 hvz7 => ?_)
    refine S_iadd rfl rfl (show (116 : Int32).toInt = 116 from rfl) rfl (by omega) (fun vz8 hvz8 => ?_)
    refine X_iload_n rfl rfl rfl rfl ?_
    refine S_iadd rfl rfl rfl hx3 (by omega) (fun vz9 hvz9 => ?_)
    refine S_iald rfl rfl ((congrFun V.1 356).trans s_356) rfl (by omega) (fun vz10 evz10 => ?_)
    have vf11 := A_LETTER (V.2.2.2.1 ((vz9.toInt : Int).toNat)) (by omega)
    rw [evz10] at vf11
    refine LW_ireturn (st := []) rfl rfl rfl ?_
    refine S_ishlX rfl rfl (fun vz12 hvz12 => ?_)
    refine S_iorX rfl rfl (fun vz13 hvz13 => ?_)
    refine X_istore_n (i := 2) (ls' := [some (.ref 355), some (.int x1), some (.int vz13), some (.int x3)]) rfl rfl rfl (Nat.le_of_ble_eq_true rfl) rfl ?_
    refine S_iinc (c := 1) rfl rfl rfl hx3 rfl (by omega) (fun vz14 hvz14 => ?_)
    refine LW_ls (ls' := [some (.ref 355), some (.int x1), some (.int vz13), some (.int vz14)]) rfl ?_
    refine LW_goto (tgt := 4) rfl rfl ?_
    exact ih4 V x1 y1 hx1 (by omega) vz13 vz13.toInt rfl vz14 vz14.toInt rfl (by omega)  (by
        rw [hvz13, hvz12, hq0, ← evz10, show Int.toNat vz14.toInt = Int.toNat y3 + 1 by omega, show Int.toNat vz9.toInt = 116 + 10 * Int.toNat y1 + Int.toNat y3 by omega]
        rfl) (by
        rw [show 124 + 10 * Int.toNat y1 = Int.toNat vz3.toInt by omega, evz4]
        omega)  (by omega)
theorem C_X13_setOfB_all {P : Par} {g : LH} {d : Nat}  : ∀ n : Nat, (∀ (V : InvR P g) (x1 : Int32) (y1 : Int) (hx1 : x1.toInt = y1) (hf1 : 0 ≤ y1 ∧ y1 ≤ 23) (x2 : Int32) (y2 : Int) (hx2 : x2.toInt = y2) (x3 : Int32) (y3 : Int) (hx3 : x3.toInt = y3) (hf3 : 0 ≤ y3 ∧ y3 ≤ 8) (hq0 : x2 = vsF (Gi g 356) (Int.toNat (y1)) (Int.toNat (y3))) (hq1 : y3 ≤ (Gi g 356 (124 + 10 * Int.toNat (y1))).toInt), (8 - y3) * 1 + 0 < (n : Int) → LW 183 (d + 4) 0 0 4 [some (.ref 355), some (.int x1), some (.int x2), some (.int x3)] [] g (fun v g' => ∃ r : Int32, v = some (.int r) ∧ g = g' ∧ (r = vsW (Gi g 356) (Int.toNat (y1))))) := by
  intro n
  induction n with
  | zero => exact fun V x1 y1 hx1 hf1 x2 y2 hx2 x3 y3 hx3 hf3 hq0 hq1 hmu => absurd hmu (by omega)
  | succ n ih => exact fun V x1 y1 hx1 hf1 x2 y2 hx2 x3 y3 hx3 hf3 hq0 hq1 hmu => C_X13_setOfB_4  V x1 y1 hx1 hf1 x2 y2 hx2 x3 y3 hx3 hf3 hq0 hq1 (by omega) ih
set_option maxRecDepth 10000 in
set_option maxHeartbeats 40000000 in
theorem C_X13_setOfB {P : Par} {g : LH} {d : Nat}  (V : InvR P g) (x1 : Int32) (y1 : Int) (hx1 : x1.toInt = y1) (hf1 : 0 ≤ y1 ∧ y1 ≤ 23)   : LW 183 (d + 4) 0 0 0 (lEnt (mL 183) [.ref 355, .int x1]) [] g (fun v g' => ∃ r : Int32, v = some (.int r) ∧ g = g' ∧ (r = vsW (Gi g 356) (Int.toNat (y1)))) := by
  refine LW_ls (ls' := [some (.ref 355), some (.int x1), none, none]) rfl ?_
  refine X_iconst (v := (0 : Int32)) rfl rfl rfl ?_
  refine X_istore_n (i := 2) (ls' := [some (.ref 355), some (.int x1), some (.int (0 : Int32)), none]) rfl rfl rfl (Nat.le_of_ble_eq_true rfl) rfl ?_
  refine X_iconst (v := (0 : Int32)) rfl rfl rfl ?_
  refine X_istore_n (i := 3) (ls' := [some (.ref 355), some (.int x1), some (.int (0 : Int32)), some (.int (0 : Int32))]) rfl rfl rfl (Nat.le_of_ble_eq_true rfl) rfl ?_
  exact (C_X13_setOfB_all (((8 - 0) * 1 + 0) + 1 : Int).toNat) V x1 y1 hx1 (by omega) (0 : Int32) 0 (show (0 : Int32).toInt = 0 from rfl) (0 : Int32) 0 (show (0 : Int32).toInt = 0 from rfl) (by omega)  (by
        exact rfl) (by
        exact (A_LENGTH (V.2.2.2.1 (124 + 10 * Int.toNat y1)) (by omega)).1)  (by omega)
set_option maxRecDepth 10000 in
set_option maxHeartbeats 40000000 in
theorem C_X13_wordForB_6 {P : Par} {g : LH} {d n : Nat}  (V : InvR P g) (x1 : Int32) (y1 : Int) (hx1 : x1.toInt = y1) (x2 : Int32) (y2 : Int) (hx2 : x2.toInt = y2) (x3 : Int32) (y3 : Int) (hx3 : x3.toInt = y3) (hf3 : 0 ≤ y3 ∧ y3 ≤ 1) (x4 : Int32) (y4 : Int) (hx4 : x4.toInt = y4) (hf4 : (-1) ≤ y4 ∧ y4 ≤ 23) (x5 : Int32) (y5 : Int) (hx5 : x5.toInt = y5) (hf5 : 0 ≤ y5 ∧ y5 ≤ 24) (o6 : Option Value) (hq0 : 0 ≤ y4 → vSG (Gi g 356) (y3) (y2) (y1)) (hq1 : y4 < 0 → ∀ w : Nat, ↑w < y5 → ¬ ((Gi g 356 (125 + 10 * w)).toInt = y1 ∧ vWG (Gi g 356) (y3) (y2) w)) (hmu : (24 - y5) * 1 + 0 < (n : Int) + 1) (ih6 : ∀ (V : InvR P g) (x1 : Int32) (y1 : Int) (hx1 : x1.toInt = y1) (x2 : Int32) (y2 : Int) (hx2 : x2.toInt = y2) (x3 : Int32) (y3 : Int) (hx3 : x3.toInt = y3) (hf3 : 0 ≤ y3 ∧ y3 ≤ 1) (x4 : Int32) (y4 : Int) (hx4 : x4.toInt = y4) (hf4 : (-1) ≤ y4 ∧ y4 ≤ 23) (x5 : Int32) (y5 : Int) (hx5 : x5.toInt = y5) (hf5 : 0 ≤ y5 ∧ y5 ≤ 24) (o6 : Option Value) (hq0 : 0 ≤ y4 → vSG (Gi g 356) (y3) (y2) (y1)) (hq1 : y4 < 0 → ∀ w : Nat, ↑w < y5 → ¬ ((Gi g 356 (125 + 10 * w)).toInt = y1 ∧ vWG (Gi g 356) (y3) (y2) w)), (24 - y5) * 1 + 0 < (n : Int) → LW 256 (d + 16) 0 0 6 [some (.ref 355), some (.int x1), some (.int x2), some (.int x3), some (.int x4), some (.int x5), o6] [] g (fun v g' => ∃ r : Int32, v = some (.int r) ∧ (-1) ≤ r.toInt ∧ r.toInt ≤ 23 ∧ g = g' ∧ ((0 ≤ r.toInt → vSG (Gi g 356) (y3) (y2) (y1)) ∧ (vSG (Gi g 356) (y3) (y2) (y1) → 0 ≤ r.toInt)))) : LW 256 (d + 16) 0 0 6 [some (.ref 355), some (.int x1), some (.int x2), some (.int x3), some (.int x4), some (.int x5), o6] [] g (fun v g' => ∃ r : Int32, v = some (.int r) ∧ (-1) ≤ r.toInt ∧ r.toInt ≤ 23 ∧ g = g' ∧ ((0 ≤ r.toInt → vSG (Gi g 356) (y3) (y2) (y1)) ∧ (vSG (Gi g 356) (y3) (y2) (y1) → 0 ≤ r.toInt))) := by
  refine X_iload rfl rfl rfl ?_
  refine X_aload_n rfl rfl rfl rfl ?_
  refine X_getR (a := 356) rfl rfl rfl ((congrFun V.1 355).trans s_355) rfl ((congrFun (V.2.1 355 (by decide)) 0).trans r_355_0) ?_
  refine X_iconst (v := (0 : Int32)) rfl rfl rfl ?_
  refine S_iald rfl rfl ((congrFun V.1 356).trans s_356) (show (0 : Int32).toInt = 0 from rfl) (by omega) (fun vz1 evz1 => ?_)
  have evz1 : Gi g 356 0 = vz1 := evz1
  have vf2 := A_WORDS (V.2.2.2.1 (0)) (by omega)
  rw [evz1] at vf2
  refine S_icmp_ge (tgt := 96) rfl rfl rfl hx5 rfl (fun vh3 => ?_) (fun vh3 => ?_)
  · refine X_iload rfl rfl rfl ?_
    have hr := hx4
    exact LW_ireturn (st := []) rfl rfl rfl ⟨_, rfl, by omega, by omega, rfl, (by
        refine ⟨fun h0 => hq0 (by omega), fun hs => ?_⟩
        by_cases hlt : y4 < 0
        · obtain ⟨w, hw1, hw2, hw3⟩ := hs
          rw [evz1] at hw1
          exact absurd ⟨hw2, hw3⟩ (hq1 hlt w (by omega))
        · omega)⟩
  · refine X_aload_n rfl rfl rfl rfl ?_
    refine X_iload rfl rfl rfl ?_
    refine X_callV (as := [.int x5]) (st := []) rfl rfl rfl (by decide) rfl (Nat.le_of_ble_eq_true rfl) (by decide) (Nat.le_of_ble_eq_true rfl) rfl ((congrFun V.1 355).trans s_355) (by decide) ?_
    refine LW_ls (ls' := [some (.ref 355), some (.int x5)]) rfl ?_
    refine X_aload_n rfl rfl rfl rfl ?_
    refine X_getR (a := 356) rfl rfl rfl ((congrFun V.1 355).trans s_355) rfl ((congrFun (V.2.1 355 (by decide)) 0).trans r_355_0) ?_
    refine X_bipush (v := (116 : Int32)) rfl rfl rfl ?_
    refine X_bipush (v := (10 : Int32)) rfl rfl rfl ?_
    refine X_iload_n rfl rfl rfl rfl ?_
    refine S_imul rfl rfl (show (10 : Int32).toInt = 10 from rfl) hx5 (by omega) (fun vz4 hvz4 => ?_)
    refine S_iadd rfl rfl (show (116 : Int32).toInt = 116 from rfl) rfl (by omega) (fun vz5 hvz5 => ?_)
    refine X_bipush (v := (9 : Int32)) rfl rfl rfl ?_
    refine S_iadd rfl rfl rfl (show (9 : Int32).toInt = 9 from rfl) (by omega) (fun vz6 hvz6 => ?_)
    refine S_iald rfl rfl ((congrFun V.1 356).trans s_356) rfl (by omega) (fun vz7 evz7 => ?_)
    refine LW_ireturn (st := []) rfl rfl rfl ?_
    refine X_iload_n rfl rfl rfl rfl ?_
    refine S_icmp_eq (tgt := 30) rfl rfl rfl rfl hx1 (fun vh8 => ?_) (fun vh8 => ?_)
    · refine X_iload_n rfl rfl rfl rfl ?_
      refine S_if_eq (tgt := 43) rfl rfl rfl hx3 (fun vh9 => ?_) (fun vh9 => ?_)
      · refine X_aload_n rfl rfl rfl rfl ?_
        refine X_iload rfl rfl rfl ?_
        refine Y_callV (as := [.int x5]) (st := []) rfl rfl rfl (by decide) rfl (Nat.le_of_ble_eq_true rfl) (by decide) (Nat.le_of_ble_eq_true rfl) rfl ((congrFun V.1 355).trans s_355) (by decide) (C_X13_setOfB V x5 y5 hx5 (by omega) ) ?_
        rintro _ g' ⟨vr10, rfl, hgg, vq11⟩
        subst hgg
        refine X_iload_n rfl rfl rfl rfl ?_
        refine S_iandX rfl rfl (fun vz12 hvz12 => ?_)
        refine S_if_ne (tgt := 58) rfl rfl rfl rfl (fun vh13 => ?_) (fun vh13 => ?_)
        · refine X_iconst (v := (0 : Int32)) rfl rfl rfl ?_
          refine X_istore (i := 6) (ls' := [some (.ref 355), some (.int x1), some (.int x2), some (.int x3), some (.int x4), some (.int x5), some (.int (0 : Int32))]) rfl rfl (Nat.le_of_ble_eq_true rfl) rfl ?_
          refine X_iload rfl rfl rfl ?_
          refine S_if_eq (tgt := 90) rfl rfl rfl (show (0 : Int32).toInt = 0 from rfl) (fun vh14 => ?_) (fun q => absurd q (by omega))
          refine S_iinc (c := 1) rfl rfl rfl hx5 rfl (by omega) (fun vz15 hvz15 => ?_)
          refine LW_ls (ls' := [some (.ref 355), some (.int x1), some (.int x2), some (.int x3), some (.int x4), some (.int vz15), some (.int (0 : Int32))]) rfl ?_
          refine LW_goto (tgt := 6) rfl rfl ?_
          exact ih6 V x1 y1 hx1 x2 y2 hx2 x3 y3 hx3 (by omega) x4 y4 hx4 (by omega) vz15 vz15.toInt rfl (by omega) (some (.int (0 : Int32)))  (by
        exact hq0) (by
        intro hlt w hw vhh
        by_cases hw2 : ↑w < y5
        · exact hq1 hlt w hw2 vhh
        · have hw3 := vhh.2.2 (by omega) x2 hx2
          rw [show w = Int.toNat y5 by omega, ← vq11, ← hvz12] at hw3
          omega)  (by omega)
        · refine X_iconst (v := (1 : Int32)) rfl rfl rfl ?_
          refine LW_goto (tgt := 59) rfl rfl ?_
          refine X_istore (i := 6) (ls' := [some (.ref 355), some (.int x1), some (.int x2), some (.int x3), some (.int x4), some (.int x5), some (.int (1 : Int32))]) rfl rfl (Nat.le_of_ble_eq_true rfl) rfl ?_
          refine X_iload rfl rfl rfl ?_
          refine S_if_eq (tgt := 90) rfl rfl rfl (show (1 : Int32).toInt = 1 from rfl) (fun q => absurd q (by omega)) (fun vh16 => ?_)
          refine X_iload rfl rfl rfl ?_
          refine S_if_lt (tgt := 86) rfl rfl rfl hx4 (fun vh17 => ?_) (fun vh17 => ?_)
          · refine X_iload rfl rfl rfl ?_
            refine X_istore (i := 4) (ls' := [some (.ref 355), some (.int x1), some (.int x2), some (.int x3), some (.int x5), some (.int x5), some (.int (1 : Int32))]) rfl rfl (Nat.le_of_ble_eq_true rfl) rfl ?_
            refine S_iinc (c := 1) rfl rfl rfl hx5 rfl (by omega) (fun vz18 hvz18 => ?_)
            refine LW_ls (ls' := [some (.ref 355), some (.int x1), some (.int x2), some (.int x3), some (.int x5), some (.int vz18), some (.int (1 : Int32))]) rfl ?_
            refine LW_goto (tgt := 6) rfl rfl ?_
            exact ih6 V x1 y1 hx1 x2 y2 hx2 x3 y3 hx3 (by omega) x5 y5 hx5 (by omega) vz18 vz18.toInt rfl (by omega) (some (.int (1 : Int32)))  (by
        intro _
        refine ⟨Int.toNat y5, by rw [evz1]; omega, ?_, fun q => absurd q (by omega), fun _ u vhu => ?_⟩
        · rw [show 125 + 10 * Int.toNat y5 = Int.toNat vz6.toInt by omega, evz7]
          omega
        · rw [show u = x2 from Int32.toInt_inj.mp (vhu.trans hx2.symm), ← vq11, ← hvz12]
          omega) (by
        exact fun hlt => absurd hlt (by omega))  (by omega)
          · refine X_aload_n rfl rfl rfl rfl ?_
            refine X_iload rfl rfl rfl ?_
            refine X_callV (as := [.int x5]) (st := []) rfl rfl rfl (by decide) rfl (Nat.le_of_ble_eq_true rfl) (by decide) (Nat.le_of_ble_eq_true rfl) rfl ((congrFun V.1 355).trans s_355) (by decide) ?_
            refine LW_ls (ls' := [some (.ref 355), some (.int x5)]) rfl ?_
            refine X_aload_n rfl rfl rfl rfl ?_
            refine X_getR (a := 356) rfl rfl rfl ((congrFun V.1 355).trans s_355) rfl ((congrFun (V.2.1 355 (by decide)) 0).trans r_355_0) ?_
            refine X_bipush (v := (116 : Int32)) rfl rfl rfl ?_
            refine X_bipush (v := (10 : Int32)) rfl rfl rfl ?_
            refine X_iload_n rfl rfl rfl rfl ?_
            refine S_imul rfl rfl (show (10 : Int32).toInt = 10 from rfl) hx5 (by omega) (fun vz19 hvz19 => ?_)
            refine S_iadd rfl rfl (show (116 : Int32).toInt = 116 from rfl) rfl (by omega) (fun vz20 hvz20 => ?_)
            refine X_bipush (v := (8 : Int32)) rfl rfl rfl ?_
            refine S_iadd rfl rfl rfl (show (8 : Int32).toInt = 8 from rfl) (by omega) (fun vz21 hvz21 => ?_)
            refine S_iald rfl rfl ((congrFun V.1 356).trans s_356) rfl (by omega) (fun vz22 evz22 => ?_)
            have vf23 := A_LENGTH (V.2.2.2.1 ((vz21.toInt : Int).toNat)) (by omega)
            rw [evz22] at vf23
            refine LW_ireturn (st := []) rfl rfl rfl ?_
            refine X_aload_n rfl rfl rfl rfl ?_
            refine X_iload rfl rfl rfl ?_
            refine X_callV (as := [.int x4]) (st := [.int vz22]) rfl rfl rfl (by decide) rfl (Nat.le_of_ble_eq_true rfl) (by decide) (Nat.le_of_ble_eq_true rfl) rfl ((congrFun V.1 355).trans s_355) (by decide) ?_
            refine LW_ls (ls' := [some (.ref 355), some (.int x4)]) rfl ?_
            refine X_aload_n rfl rfl rfl rfl ?_
            refine X_getR (a := 356) rfl rfl rfl ((congrFun V.1 355).trans s_355) rfl ((congrFun (V.2.1 355 (by decide)) 0).trans r_355_0) ?_
            refine X_bipush (v := (116 : Int32)) rfl rfl rfl ?_
            refine X_bipush (v := (10 : Int32)) rfl rfl rfl ?_
            refine X_iload_n rfl rfl rfl rfl ?_
            refine S_imul rfl rfl (show (10 : Int32).toInt = 10 from rfl) hx4 (by omega) (fun vz24 hvz24 => ?_)
            refine S_iadd rfl rfl (show (116 : Int32).toInt = 116 from rfl) rfl (by omega) (fun vz25 hvz25 => ?_)
            refine X_bipush (v := (8 : Int32)) rfl rfl rfl ?_
            refine S_iadd rfl rfl rfl (show (8 : Int32).toInt = 8 from rfl) (by omega) (fun vz26 hvz26 => ?_)
            refine S_iald rfl rfl ((congrFun V.1 356).trans s_356) rfl (by omega) (fun vz27 evz27 => ?_)
            have vf28 := A_LENGTH (V.2.2.2.1 ((vz26.toInt : Int).toNat)) (by omega)
            rw [evz27] at vf28
            refine LW_ireturn (st := []) rfl rfl rfl ?_
            refine S_icmp_ge (tgt := 90) rfl rfl rfl rfl rfl (fun vh29 => ?_) (fun vh29 => ?_)
            · refine S_iinc (c := 1) rfl rfl rfl hx5 rfl (by omega) (fun vz30 hvz30 => ?_)
              refine LW_ls (ls' := [some (.ref 355), some (.int x1), some (.int x2), some (.int x3), some (.int x4), some (.int vz30), some (.int (1 : Int32))]) rfl ?_
              refine LW_goto (tgt := 6) rfl rfl ?_
              exact ih6 V x1 y1 hx1 x2 y2 hx2 x3 y3 hx3 (by omega) x4 y4 hx4 (by omega) vz30 vz30.toInt rfl (by omega) (some (.int (1 : Int32)))  (by
        exact hq0) (by
        exact fun hlt => absurd hlt (by omega))  (by omega)
            · refine X_iload rfl rfl rfl ?_
              refine X_istore (i := 4) (ls' := [some (.ref 355), some (.int x1), some (.int x2), some (.int x3), some (.int x5), some (.int x5), some (.int (1 : Int32))]) rfl rfl (Nat.le_of_ble_eq_true rfl) rfl ?_
              refine S_iinc (c := 1) rfl rfl rfl hx5 rfl (by omega) (fun vz31 hvz31 => ?_)
              refine LW_ls (ls' := [some (.ref 355), some (.int x1), some (.int x2), some (.int x3), some (.int x5), some (.int vz31), some (.int (1 : Int32))]) rfl ?_
              refine LW_goto (tgt := 6) rfl rfl ?_
              exact ih6 V x1 y1 hx1 x2 y2 hx2 x3 y3 hx3 (by omega) x5 y5 hx5 (by omega) vz31 vz31.toInt rfl (by omega) (some (.int (1 : Int32)))  (by
        intro _
        refine ⟨Int.toNat y5, by rw [evz1]; omega, ?_, fun q => absurd q (by omega), fun _ u vhu => ?_⟩
        · rw [show 125 + 10 * Int.toNat y5 = Int.toNat vz6.toInt by omega, evz7]
          omega
        · rw [show u = x2 from Int32.toInt_inj.mp (vhu.trans hx2.symm), ← vq11, ← hvz12]
          omega) (by
        exact fun hlt => absurd hlt (by omega))  (by omega)
      · refine X_aload_n rfl rfl rfl rfl ?_
        refine X_iload rfl rfl rfl ?_
        refine Y_callV (as := [.int x5]) (st := []) rfl rfl rfl (by decide) rfl (Nat.le_of_ble_eq_true rfl) (by decide) (Nat.le_of_ble_eq_true rfl) rfl ((congrFun V.1 355).trans s_355) (by decide) (C_X13_isWritten V x5 y5 hx5 (by omega) ) ?_
        rintro _ g' ⟨vr32, rfl, hrvr320, hrvr321, hgg, vq33⟩
        subst hgg
        refine LW_goto (tgt := 59) rfl rfl ?_
        refine X_istore (i := 6) (ls' := [some (.ref 355), some (.int x1), some (.int x2), some (.int x3), some (.int x4), some (.int x5), some (.int vr32)]) rfl rfl (Nat.le_of_ble_eq_true rfl) rfl ?_
        refine X_iload rfl rfl rfl ?_
        refine S_if_eq (tgt := 90) rfl rfl rfl rfl (fun vh34 => ?_) (fun vh34 => ?_)
        · refine S_iinc (c := 1) rfl rfl rfl hx5 rfl (by omega) (fun vz35 hvz35 => ?_)
          refine LW_ls (ls' := [some (.ref 355), some (.int x1), some (.int x2), some (.int x3), some (.int x4), some (.int vz35), some (.int vr32)]) rfl ?_
          refine LW_goto (tgt := 6) rfl rfl ?_
          exact ih6 V x1 y1 hx1 x2 y2 hx2 x3 y3 hx3 (by omega) x4 y4 hx4 (by omega) vz35 vz35.toInt rfl (by omega) (some (.int vr32))  (by
        exact hq0) (by
        intro hlt w hw vhh
        by_cases hw2 : ↑w < y5
        · exact hq1 hlt w hw2 vhh
        · have hw3 := vhh.2.1 (by omega)
          rw [show w = Int.toNat y5 by omega] at hw3
          have hw4 := vq33.2 hw3
          omega)  (by omega)
        · refine X_iload rfl rfl rfl ?_
          refine S_if_lt (tgt := 86) rfl rfl rfl hx4 (fun vh36 => ?_) (fun vh36 => ?_)
          · refine X_iload rfl rfl rfl ?_
            refine X_istore (i := 4) (ls' := [some (.ref 355), some (.int x1), some (.int x2), some (.int x3), some (.int x5), some (.int x5), some (.int vr32)]) rfl rfl (Nat.le_of_ble_eq_true rfl) rfl ?_
            refine S_iinc (c := 1) rfl rfl rfl hx5 rfl (by omega) (fun vz37 hvz37 => ?_)
            refine LW_ls (ls' := [some (.ref 355), some (.int x1), some (.int x2), some (.int x3), some (.int x5), some (.int vz37), some (.int vr32)]) rfl ?_
            refine LW_goto (tgt := 6) rfl rfl ?_
            exact ih6 V x1 y1 hx1 x2 y2 hx2 x3 y3 hx3 (by omega) x5 y5 hx5 (by omega) vz37 vz37.toInt rfl (by omega) (some (.int vr32))  (by
        intro _
        refine ⟨Int.toNat y5, by rw [evz1]; omega, ?_, fun _ => vq33.1 (by omega), fun q => absurd q (by omega)⟩
        rw [show 125 + 10 * Int.toNat y5 = Int.toNat vz6.toInt by omega, evz7]
        omega) (by
        exact fun hlt => absurd hlt (by omega))  (by omega)
          · refine X_aload_n rfl rfl rfl rfl ?_
            refine X_iload rfl rfl rfl ?_
            refine X_callV (as := [.int x5]) (st := []) rfl rfl rfl (by decide) rfl (Nat.le_of_ble_eq_true rfl) (by decide) (Nat.le_of_ble_eq_true rfl) rfl ((congrFun V.1 355).trans s_355) (by decide) ?_
            refine LW_ls (ls' := [some (.ref 355), some (.int x5)]) rfl ?_
            refine X_aload_n rfl rfl rfl rfl ?_
            refine X_getR (a := 356) rfl rfl rfl ((congrFun V.1 355).trans s_355) rfl ((congrFun (V.2.1 355 (by decide)) 0).trans r_355_0) ?_
            refine X_bipush (v := (116 : Int32)) rfl rfl rfl ?_
            refine X_bipush (v := (10 : Int32)) rfl rfl rfl ?_
            refine X_iload_n rfl rfl rfl rfl ?_
            refine S_imul rfl rfl (show (10 : Int32).toInt = 10 from rfl) hx5 (by omega) (fun vz38 hvz38 => ?_)
            refine S_iadd rfl rfl (show (116 : Int32).toInt = 116 from rfl) rfl (by omega) (fun vz39 hvz39 => ?_)
            refine X_bipush (v := (8 : Int32)) rfl rfl rfl ?_
            refine S_iadd rfl rfl rfl (show (8 : Int32).toInt = 8 from rfl) (by omega) (fun vz40 hvz40 => ?_)
            refine S_iald rfl rfl ((congrFun V.1 356).trans s_356) rfl (by omega) (fun vz41 evz41 => ?_)
            have vf42 := A_LENGTH (V.2.2.2.1 ((vz40.toInt : Int).toNat)) (by omega)
            rw [evz41] at vf42
            refine LW_ireturn (st := []) rfl rfl rfl ?_
            refine X_aload_n rfl rfl rfl rfl ?_
            refine X_iload rfl rfl rfl ?_
            refine X_callV (as := [.int x4]) (st := [.int vz41]) rfl rfl rfl (by decide) rfl (Nat.le_of_ble_eq_true rfl) (by decide) (Nat.le_of_ble_eq_true rfl) rfl ((congrFun V.1 355).trans s_355) (by decide) ?_
            refine LW_ls (ls' := [some (.ref 355), some (.int x4)]) rfl ?_
            refine X_aload_n rfl rfl rfl rfl ?_
            refine X_getR (a := 356) rfl rfl rfl ((congrFun V.1 355).trans s_355) rfl ((congrFun (V.2.1 355 (by decide)) 0).trans r_355_0) ?_
            refine X_bipush (v := (116 : Int32)) rfl rfl rfl ?_
            refine X_bipush (v := (10 : Int32)) rfl rfl rfl ?_
            refine X_iload_n rfl rfl rfl rfl ?_
            refine S_imul rfl rfl (show (10 : Int32).toInt = 10 from rfl) hx4 (by omega) (fun vz43 hvz43 => ?_)
            refine S_iadd rfl rfl (show (116 : Int32).toInt = 116 from rfl) rfl (by omega) (fun vz44 hvz44 => ?_)
            refine X_bipush (v := (8 : Int32)) rfl rfl rfl ?_
            refine S_iadd rfl rfl rfl (show (8 : Int32).toInt = 8 from rfl) (by omega) (fun vz45 hvz45 => ?_)
            refine S_iald rfl rfl ((congrFun V.1 356).trans s_356) rfl (by omega) (fun vz46 evz46 => ?_)
            have vf47 := A_LENGTH (V.2.2.2.1 ((vz45.toInt : Int).toNat)) (by omega)
            rw [evz46] at vf47
            refine LW_ireturn (st := []) rfl rfl rfl ?_
            refine S_icmp_ge (tgt := 90) rfl rfl rfl rfl rfl (fun vh48 => ?_) (fun vh48 => ?_)
            · refine S_iinc (c := 1) rfl rfl rfl hx5 rfl (by omega) (fun vz49 hvz49 => ?_)
              refine LW_ls (ls' := [some (.ref 355), some (.int x1), some (.int x2), some (.int x3), some (.int x4), some (.int vz49), some (.int vr32)]) rfl ?_
              refine LW_goto (tgt := 6) rfl rfl ?_
              exact ih6 V x1 y1 hx1 x2 y2 hx2 x3 y3 hx3 (by omega) x4 y4 hx4 (by omega) vz49 vz49.toInt rfl (by omega) (some (.int vr32))  (by
        exact hq0) (by
        exact fun hlt => absurd hlt (by omega))  (by omega)
            · refine X_iload rfl rfl rfl ?_
              refine X_istore (i := 4) (ls' := [some (.ref 355), some (.int x1), some (.int x2), some (.int x3), some (.int x5), some (.int x5), some (.int vr32)]) rfl rfl (Nat.le_of_ble_eq_true rfl) rfl ?_
              refine S_iinc (c := 1) rfl rfl rfl hx5 rfl (by omega) (fun vz50 hvz50 => ?_)
              refine LW_ls (ls' := [some (.ref 355), some (.int x1), some (.int x2), some (.int x3), some (.int x5), some (.int vz50), some (.int vr32)]) rfl ?_
              refine LW_goto (tgt := 6) rfl rfl ?_
              exact ih6 V x1 y1 hx1 x2 y2 hx2 x3 y3 hx3 (by omega) x5 y5 hx5 (by omega) vz50 vz50.toInt rfl (by omega) (some (.int vr32))  (by
        intro _
        refine ⟨Int.toNat y5, by rw [evz1]; omega, ?_, fun _ => vq33.1 (by omega), fun q => absurd q (by omega)⟩
        rw [show 125 + 10 * Int.toNat y5 = Int.toNat vz6.toInt by omega, evz7]
        omega) (by
        exact fun hlt => absurd hlt (by omega))  (by omega)
    · refine LW_goto (tgt := 90) rfl rfl ?_
      refine S_iinc (c := 1) rfl rfl rfl hx5 rfl (by omega) (fun vz51 hvz51 => ?_)
      refine LW_ls (ls' := [some (.ref 355), some (.int x1), some (.int x2), some (.int x3), some (.int x4), some (.int vz51), o6]) rfl ?_
      refine LW_goto (tgt := 6) rfl rfl ?_
      exact ih6 V x1 y1 hx1 x2 y2 hx2 x3 y3 hx3 (by omega) x4 y4 hx4 (by omega) vz51 vz51.toInt rfl (by omega) o6  (by
        exact hq0) (by
        intro hlt w hw vhh
        by_cases hw2 : ↑w < y5
        · exact hq1 hlt w hw2 vhh
        · have hw3 := vhh.1
          rw [show 125 + 10 * w = Int.toNat vz6.toInt by omega, evz7] at hw3
          omega)  (by omega)
theorem C_X13_wordForB_all {P : Par} {g : LH} {d : Nat}  : ∀ n : Nat, (∀ (V : InvR P g) (x1 : Int32) (y1 : Int) (hx1 : x1.toInt = y1) (x2 : Int32) (y2 : Int) (hx2 : x2.toInt = y2) (x3 : Int32) (y3 : Int) (hx3 : x3.toInt = y3) (hf3 : 0 ≤ y3 ∧ y3 ≤ 1) (x4 : Int32) (y4 : Int) (hx4 : x4.toInt = y4) (hf4 : (-1) ≤ y4 ∧ y4 ≤ 23) (x5 : Int32) (y5 : Int) (hx5 : x5.toInt = y5) (hf5 : 0 ≤ y5 ∧ y5 ≤ 24) (o6 : Option Value) (hq0 : 0 ≤ y4 → vSG (Gi g 356) (y3) (y2) (y1)) (hq1 : y4 < 0 → ∀ w : Nat, ↑w < y5 → ¬ ((Gi g 356 (125 + 10 * w)).toInt = y1 ∧ vWG (Gi g 356) (y3) (y2) w)), (24 - y5) * 1 + 0 < (n : Int) → LW 256 (d + 16) 0 0 6 [some (.ref 355), some (.int x1), some (.int x2), some (.int x3), some (.int x4), some (.int x5), o6] [] g (fun v g' => ∃ r : Int32, v = some (.int r) ∧ (-1) ≤ r.toInt ∧ r.toInt ≤ 23 ∧ g = g' ∧ ((0 ≤ r.toInt → vSG (Gi g 356) (y3) (y2) (y1)) ∧ (vSG (Gi g 356) (y3) (y2) (y1) → 0 ≤ r.toInt)))) := by
  intro n
  induction n with
  | zero => exact fun V x1 y1 hx1 x2 y2 hx2 x3 y3 hx3 hf3 x4 y4 hx4 hf4 x5 y5 hx5 hf5 o6 hq0 hq1 hmu => absurd hmu (by omega)
  | succ n ih => exact fun V x1 y1 hx1 x2 y2 hx2 x3 y3 hx3 hf3 x4 y4 hx4 hf4 x5 y5 hx5 hf5 o6 hq0 hq1 hmu => C_X13_wordForB_6  V x1 y1 hx1 x2 y2 hx2 x3 y3 hx3 hf3 x4 y4 hx4 hf4 x5 y5 hx5 hf5 o6 hq0 hq1 (by omega) ih
set_option maxRecDepth 10000 in
set_option maxHeartbeats 40000000 in
theorem C_X13_wordForB {P : Par} {g : LH} {d : Nat}  (V : InvR P g) (x1 : Int32) (y1 : Int) (hx1 : x1.toInt = y1) (x2 : Int32) (y2 : Int) (hx2 : x2.toInt = y2) (x3 : Int32) (y3 : Int) (hx3 : x3.toInt = y3) (hf3 : 0 ≤ y3 ∧ y3 ≤ 1)   : LW 256 (d + 16) 0 0 0 (lEnt (mL 256) [.ref 355, .int x1, .int x2, .int x3]) [] g (fun v g' => ∃ r : Int32, v = some (.int r) ∧ (-1) ≤ r.toInt ∧ r.toInt ≤ 23 ∧ g = g' ∧ ((0 ≤ r.toInt → vSG (Gi g 356) (y3) (y2) (y1)) ∧ (vSG (Gi g 356) (y3) (y2) (y1) → 0 ≤ r.toInt))) := by
  refine LW_ls (ls' := [some (.ref 355), some (.int x1), some (.int x2), some (.int x3), none, none, none]) rfl ?_
  refine X_iconst (v := (-1 : Int32)) rfl rfl rfl ?_
  refine X_istore (i := 4) (ls' := [some (.ref 355), some (.int x1), some (.int x2), some (.int x3), some (.int (-1 : Int32)), none, none]) rfl rfl (Nat.le_of_ble_eq_true rfl) rfl ?_
  refine X_iconst (v := (0 : Int32)) rfl rfl rfl ?_
  refine X_istore (i := 5) (ls' := [some (.ref 355), some (.int x1), some (.int x2), some (.int x3), some (.int (-1 : Int32)), some (.int (0 : Int32)), none]) rfl rfl (Nat.le_of_ble_eq_true rfl) rfl ?_
  exact (C_X13_wordForB_all (((24 - 0) * 1 + 0) + 1 : Int).toNat) V x1 y1 hx1 x2 y2 hx2 x3 y3 hx3 (by omega) (-1 : Int32) (-1) (show (-1 : Int32).toInt = -1 from rfl) (by omega) (0 : Int32) 0 (show (0 : Int32).toInt = 0 from rfl) (by omega) none  (by
        exact fun h0 => absurd h0 (by omega)) (by
        exact fun _ w hw => absurd hw (by omega))  (by omega)
set_option maxRecDepth 10000 in
set_option maxHeartbeats 40000000 in
theorem C_X13_canSayB_3 {P : Par} {g : LH} {d n : Nat}  (V : InvR P g) (x1 : Int32) (y1 : Int) (hx1 : x1.toInt = y1) (hf1 : 0 ≤ y1 ∧ y1 ≤ 7) (x2 : Int32) (y2 : Int) (hx2 : x2.toInt = y2) (x3 : Int32) (y3 : Int) (hx3 : x3.toInt = y3) (hf3 : 0 ≤ y3 ∧ y3 ≤ 1) (x4 : Int32) (y4 : Int) (hx4 : x4.toInt = y4) (hf4 : 0 ≤ y4 ∧ y4 ≤ 8) (hq0 : ∀ k : Nat, ↑k < y4 → vSG (Gi g 356) (y3) (y2) (Gi g 356 (357 + 9 * Int.toNat (y1) + k)).toInt) (hmu : (8 - y4) * 1 + 0 < (n : Int) + 1) (ih3 : ∀ (V : InvR P g) (x1 : Int32) (y1 : Int) (hx1 : x1.toInt = y1) (hf1 : 0 ≤ y1 ∧ y1 ≤ 7) (x2 : Int32) (y2 : Int) (hx2 : x2.toInt = y2) (x3 : Int32) (y3 : Int) (hx3 : x3.toInt = y3) (hf3 : 0 ≤ y3 ∧ y3 ≤ 1) (x4 : Int32) (y4 : Int) (hx4 : x4.toInt = y4) (hf4 : 0 ≤ y4 ∧ y4 ≤ 8) (hq0 : ∀ k : Nat, ↑k < y4 → vSG (Gi g 356) (y3) (y2) (Gi g 356 (357 + 9 * Int.toNat (y1) + k)).toInt), (8 - y4) * 1 + 0 < (n : Int) → LW 257 (d + 24) 0 0 3 [some (.ref 355), some (.int x1), some (.int x2), some (.int x3), some (.int x4)] [] g (fun v g' => ∃ r : Int32, v = some (.int r) ∧ 0 ≤ r.toInt ∧ r.toInt ≤ 1 ∧ g = g' ∧ (r.toInt = 1 → vSA (Gi g 356) (y3) (y2) (Int.toNat (y1))))) : LW 257 (d + 24) 0 0 3 [some (.ref 355), some (.int x1), some (.int x2), some (.int x3), some (.int x4)] [] g (fun v g' => ∃ r : Int32, v = some (.int r) ∧ 0 ≤ r.toInt ∧ r.toInt ≤ 1 ∧ g = g' ∧ (r.toInt = 1 → vSA (Gi g 356) (y3) (y2) (Int.toNat (y1)))) := by
  refine X_iload rfl rfl rfl ?_
  refine X_aload_n rfl rfl rfl rfl ?_
  refine X_iload_n rfl rfl rfl rfl ?_
  refine X_callV (as := [.int x1]) (st := [.int x4]) rfl rfl rfl (by decide) rfl (Nat.le_of_ble_eq_true rfl) (by decide) (Nat.le_of_ble_eq_true rfl) rfl ((congrFun V.1 355).trans s_355) (by decide) ?_
  refine LW_ls (ls' := [some (.ref 355), some (.int x1)]) rfl ?_
  refine X_aload_n rfl rfl rfl rfl ?_
  refine X_getR (a := 356) rfl rfl rfl ((congrFun V.1 355).trans s_355) rfl ((congrFun (V.2.1 355 (by decide)) 0).trans r_355_0) ?_
  refine X_sipush (v := (356 : Int32)) rfl rfl rfl ?_
  refine X_bipush (v := (9 : Int32)) rfl rfl rfl ?_
  refine X_iload_n rfl rfl rfl rfl ?_
  refine S_imul rfl rfl (show (9 : Int32).toInt = 9 from rfl) hx1 (by omega) (fun vz1 hvz1 => ?_)
  refine S_iadd rfl rfl (show (356 : Int32).toInt = 356 from rfl) rfl (by omega) (fun vz2 hvz2 => ?_)
  refine S_iald rfl rfl ((congrFun V.1 356).trans s_356) rfl (by omega) (fun vz3 evz3 => ?_)
  have vf4 := A_SCOUNT (V.2.2.2.1 ((vz2.toInt : Int).toNat)) (by omega)
  rw [evz3] at vf4
  refine LW_ireturn (st := []) rfl rfl rfl ?_
  refine S_icmp_ge (tgt := 37) rfl rfl rfl hx4 rfl (fun vh5 => ?_) (fun vh5 => ?_)
  · refine X_iconst (v := (1 : Int32)) rfl rfl rfl ?_
    exact LW_ireturn (st := []) rfl rfl rfl ⟨_, rfl, by decide, by decide, rfl, (by
        intro _ k hk
        rw [show 356 + 9 * Int.toNat y1 = Int.toNat vz2.toInt by omega, evz3] at hk
        exact hq0 k (by omega))⟩
  · refine X_aload_n rfl rfl rfl rfl ?_
    refine X_aload_n rfl rfl rfl rfl ?_
    refine X_iload_n rfl rfl rfl rfl ?_
    refine X_iload rfl rfl rfl ?_
    refine X_callV (as := [.int x1, .int x4]) (st := [.ref 355]) rfl rfl rfl (by decide) rfl (Nat.le_of_ble_eq_true rfl) (by decide) (Nat.le_of_ble_eq_true rfl) rfl ((congrFun V.1 355).trans s_355) (by decide) ?_
    refine LW_ls (ls' := [some (.ref 355), some (.int x1), some (.int x4)]) rfl ?_
    refine X_aload_n rfl rfl rfl rfl ?_
    refine X_getR (a := 356) rfl rfl rfl ((congrFun V.1 355).trans s_355) rfl ((congrFun (V.2.1 355 (by decide)) 0).trans r_355_0) ?_
    refine X_sipush (v := (356 : Int32)) rfl rfl rfl ?_
    refine X_bipush (v := (9 : Int32)) rfl rfl rfl ?_
    refine X_iload_n rfl rfl rfl rfl ?_
    refine S_imul rfl rfl (show (9 : Int32).toInt = 9 from rfl) hx1 (by omega) (fun vz6 hvz6 => ?_)
    refine S_iadd rfl rfl (show (356 : Int32).toInt = 356 from rfl) rfl (by omega) (fun vz7 hvz7 => ?_)
    refine X_iconst (v := (1 : Int32)) rfl rfl rfl ?_
    refine S_iadd rfl rfl rfl (show (1 : Int32).toInt = 1 from rfl) (by omega) (fun vz8 hvz8 => ?_)
    refine X_iload_n rfl rfl rfl rfl ?_
    refine S_iadd rfl rfl rfl hx4 (by omega) (fun vz9 hvz9 => ?_)
    refine S_iald rfl rfl ((congrFun V.1 356).trans s_356) rfl (by omega) (fun vz10 evz10 => ?_)
    refine LW_ireturn (st := []) rfl rfl rfl ?_
    refine X_iload_n rfl rfl rfl rfl ?_
    refine X_iload_n rfl rfl rfl rfl ?_
    refine Y_callV (as := [.int vz10, .int x2, .int x3]) (st := []) rfl rfl rfl (by decide) rfl (Nat.le_of_ble_eq_true rfl) (by decide) (Nat.le_of_ble_eq_true rfl) rfl ((congrFun V.1 355).trans s_355) (by decide) (C_X13_wordForB V vz10 vz10.toInt rfl x2 y2 hx2 x3 y3 hx3 (by omega) ) ?_
    rintro _ g' ⟨vr11, rfl, hrvr110, hrvr111, hgg, vq12⟩
    subst hgg
    refine S_if_ge (tgt := 31) rfl rfl rfl rfl (fun vh13 => ?_) (fun vh13 => ?_)
    · refine S_iinc (c := 1) rfl rfl rfl hx4 rfl (by omega) (fun vz14 hvz14 => ?_)
      refine LW_ls (ls' := [some (.ref 355), some (.int x1), some (.int x2), some (.int x3), some (.int vz14)]) rfl ?_
      refine LW_goto (tgt := 3) rfl rfl ?_
      exact ih3 V x1 y1 hx1 (by omega) x2 y2 hx2 x3 y3 hx3 (by omega) vz14 vz14.toInt rfl (by omega)  (by
        intro k hk
        by_cases hk2 : ↑k < y4
        · exact hq0 k hk2
        · rw [show 357 + 9 * Int.toNat y1 + k = Int.toNat vz9.toInt by omega, evz10]
          exact vq12.1 (by omega))  (by omega)
    · refine X_iconst (v := (0 : Int32)) rfl rfl rfl ?_
      exact LW_ireturn (st := []) rfl rfl rfl ⟨_, rfl, by decide, by decide, rfl, (by
        exact fun q => absurd q (by decide))⟩
theorem C_X13_canSayB_all {P : Par} {g : LH} {d : Nat}  : ∀ n : Nat, (∀ (V : InvR P g) (x1 : Int32) (y1 : Int) (hx1 : x1.toInt = y1) (hf1 : 0 ≤ y1 ∧ y1 ≤ 7) (x2 : Int32) (y2 : Int) (hx2 : x2.toInt = y2) (x3 : Int32) (y3 : Int) (hx3 : x3.toInt = y3) (hf3 : 0 ≤ y3 ∧ y3 ≤ 1) (x4 : Int32) (y4 : Int) (hx4 : x4.toInt = y4) (hf4 : 0 ≤ y4 ∧ y4 ≤ 8) (hq0 : ∀ k : Nat, ↑k < y4 → vSG (Gi g 356) (y3) (y2) (Gi g 356 (357 + 9 * Int.toNat (y1) + k)).toInt), (8 - y4) * 1 + 0 < (n : Int) → LW 257 (d + 24) 0 0 3 [some (.ref 355), some (.int x1), some (.int x2), some (.int x3), some (.int x4)] [] g (fun v g' => ∃ r : Int32, v = some (.int r) ∧ 0 ≤ r.toInt ∧ r.toInt ≤ 1 ∧ g = g' ∧ (r.toInt = 1 → vSA (Gi g 356) (y3) (y2) (Int.toNat (y1))))) := by
  intro n
  induction n with
  | zero => exact fun V x1 y1 hx1 hf1 x2 y2 hx2 x3 y3 hx3 hf3 x4 y4 hx4 hf4 hq0 hmu => absurd hmu (by omega)
  | succ n ih => exact fun V x1 y1 hx1 hf1 x2 y2 hx2 x3 y3 hx3 hf3 x4 y4 hx4 hf4 hq0 hmu => C_X13_canSayB_3  V x1 y1 hx1 hf1 x2 y2 hx2 x3 y3 hx3 hf3 x4 y4 hx4 hf4 hq0 (by omega) ih
set_option maxRecDepth 10000 in
set_option maxHeartbeats 40000000 in
theorem C_X13_canSayB {P : Par} {g : LH} {d : Nat}  (V : InvR P g) (x1 : Int32) (y1 : Int) (hx1 : x1.toInt = y1) (hf1 : 0 ≤ y1 ∧ y1 ≤ 7) (x2 : Int32) (y2 : Int) (hx2 : x2.toInt = y2) (x3 : Int32) (y3 : Int) (hx3 : x3.toInt = y3) (hf3 : 0 ≤ y3 ∧ y3 ≤ 1)   : LW 257 (d + 24) 0 0 0 (lEnt (mL 257) [.ref 355, .int x1, .int x2, .int x3]) [] g (fun v g' => ∃ r : Int32, v = some (.int r) ∧ 0 ≤ r.toInt ∧ r.toInt ≤ 1 ∧ g = g' ∧ (r.toInt = 1 → vSA (Gi g 356) (y3) (y2) (Int.toNat (y1)))) := by
  refine LW_ls (ls' := [some (.ref 355), some (.int x1), some (.int x2), some (.int x3), none]) rfl ?_
  refine X_iconst (v := (0 : Int32)) rfl rfl rfl ?_
  refine X_istore (i := 4) (ls' := [some (.ref 355), some (.int x1), some (.int x2), some (.int x3), some (.int (0 : Int32))]) rfl rfl (Nat.le_of_ble_eq_true rfl) rfl ?_
  exact (C_X13_canSayB_all (((8 - 0) * 1 + 0) + 1 : Int).toNat) V x1 y1 hx1 (by omega) x2 y2 hx2 x3 y3 hx3 (by omega) (0 : Int32) 0 (show (0 : Int32).toInt = 0 from rfl) (by omega)  (by
        exact fun k hk => absurd hk (by omega))  (by omega)
set_option maxRecDepth 10000 in
set_option maxHeartbeats 40000000 in
theorem C_X13_said_86 {P : Par} {g : LH} {d n : Nat}  (V : InvR P g) (x1 : Int32) (y1 : Int) (hx1 : x1.toInt = y1) (hf1 : 0 ≤ y1 ∧ y1 ≤ 7) (x2 : Int32) (y2 : Int) (hx2 : x2.toInt = y2) (hf2 : (-1) ≤ y2 ∧ y2 ≤ 67108863) (x3 : Int32) (y3 : Int) (hx3 : x3.toInt = y3) (hf3 : (-1) ≤ y3 ∧ y3 ≤ (-1)) (x4 : Int32) (y4 : Int) (hx4 : x4.toInt = y4) (x5 : Int32) (y5 : Int) (hx5 : x5.toInt = y5) (hf5 : 0 ≤ y5 ∧ y5 ≤ 8) (hc356_1 : 1 ≤ (Gi g 356 1).toInt ∧ (Gi g 356 1).toInt ≤ 8) (hq0 : vSA (Gi g 356) (if y2 = -1 then 1 else 0) (y2) (Int.toNat (y1))) (hq1 : y5 ≤ 8) (hmu : (8 - y5) * 1 + 0 < (n : Int) + 1) (ih86 : ∀ (V : InvR P g) (x1 : Int32) (y1 : Int) (hx1 : x1.toInt = y1) (hf1 : 0 ≤ y1 ∧ y1 ≤ 7) (x2 : Int32) (y2 : Int) (hx2 : x2.toInt = y2) (hf2 : (-1) ≤ y2 ∧ y2 ≤ 67108863) (x3 : Int32) (y3 : Int) (hx3 : x3.toInt = y3) (hf3 : (-1) ≤ y3 ∧ y3 ≤ (-1)) (x4 : Int32) (y4 : Int) (hx4 : x4.toInt = y4) (x5 : Int32) (y5 : Int) (hx5 : x5.toInt = y5) (hf5 : 0 ≤ y5 ∧ y5 ≤ 8) (hc356_1 : 1 ≤ (Gi g 356 1).toInt ∧ (Gi g 356 1).toInt ≤ 8) (hq0 : vSA (Gi g 356) (if y2 = -1 then 1 else 0) (y2) (Int.toNat (y1))) (hq1 : y5 ≤ 8), (8 - y5) * 1 + 0 < (n : Int) → LW 275 (d + 40) 0 0 86 [some (.ref 355), some (.int x1), some (.int x2), some (.int x3), some (.int x4), some (.int x5)] [] g (fun v g' => ∃ r : Int32, v = some (.int r) ∧ g = g')) : LW 275 (d + 40) 0 0 86 [some (.ref 355), some (.int x1), some (.int x2), some (.int x3), some (.int x4), some (.int x5)] [] g (fun v g' => ∃ r : Int32, v = some (.int r) ∧ g = g') := by
  obtain ⟨vz1, evz1⟩ : ∃ z, Gi g 356 1 = z := ⟨_, rfl⟩
  rw [evz1] at hc356_1
  refine X_iload rfl rfl rfl ?_
  refine X_aload_n rfl rfl rfl rfl ?_
  refine X_iload_n rfl rfl rfl rfl ?_
  refine X_callV (as := [.int x1]) (st := [.int x5]) rfl rfl rfl (by decide) rfl (Nat.le_of_ble_eq_true rfl) (by decide) (Nat.le_of_ble_eq_true rfl) rfl ((congrFun V.1 355).trans s_355) (by decide) ?_
  refine LW_ls (ls' := [some (.ref 355), some (.int x1)]) rfl ?_
  refine X_aload_n rfl rfl rfl rfl ?_
  refine X_getR (a := 356) rfl rfl rfl ((congrFun V.1 355).trans s_355) rfl ((congrFun (V.2.1 355 (by decide)) 0).trans r_355_0) ?_
  refine X_sipush (v := (356 : Int32)) rfl rfl rfl ?_
  refine X_bipush (v := (9 : Int32)) rfl rfl rfl ?_
  refine X_iload_n rfl rfl rfl rfl ?_
  refine S_imul rfl rfl (show (9 : Int32).toInt = 9 from rfl) hx1 (by omega) (fun vz2 hvz2 => ?_)
  refine S_iadd rfl rfl (show (356 : Int32).toInt = 356 from rfl) rfl (by omega) (fun vz3 hvz3 => ?_)
  refine S_iald rfl rfl ((congrFun V.1 356).trans s_356) rfl (by omega) (fun vz4 evz4 => ?_)
  have vf5 := A_SCOUNT (V.2.2.2.1 ((vz3.toInt : Int).toNat)) (by omega)
  rw [evz4] at vf5
  refine LW_ireturn (st := []) rfl rfl rfl ?_
  refine S_icmp_ge (tgt := 133) rfl rfl rfl hx5 rfl (fun vh6 => ?_) (fun vh6 => ?_)
  · refine X_iload rfl rfl rfl ?_
    exact LW_ireturn (st := []) rfl rfl rfl ⟨_, rfl, rfl⟩
  · refine X_iload rfl rfl rfl ?_
    refine X_aload_n rfl rfl rfl rfl ?_
    refine X_aload_n rfl rfl rfl rfl ?_
    refine X_aload_n rfl rfl rfl rfl ?_
    refine X_iload_n rfl rfl rfl rfl ?_
    refine X_iload rfl rfl rfl ?_
    refine X_callV (as := [.int x1, .int x5]) (st := [.ref 355, .ref 355, .int x4]) rfl rfl rfl (by decide) rfl (Nat.le_of_ble_eq_true rfl) (by decide) (Nat.le_of_ble_eq_true rfl) rfl ((congrFun V.1 355).trans s_355) (by decide) ?_
    refine LW_ls (ls' := [some (.ref 355), some (.int x1), some (.int x5)]) rfl ?_
    refine X_aload_n rfl rfl rfl rfl ?_
    refine X_getR (a := 356) rfl rfl rfl ((congrFun V.1 355).trans s_355) rfl ((congrFun (V.2.1 355 (by decide)) 0).trans r_355_0) ?_
    refine X_sipush (v := (356 : Int32)) rfl rfl rfl ?_
    refine X_bipush (v := (9 : Int32)) rfl rfl rfl ?_
    refine X_iload_n rfl rfl rfl rfl ?_
    refine S_imul rfl rfl (show (9 : Int32).toInt = 9 from rfl) hx1 (by omega) (fun vz7 hvz7 => ?_)
    refine S_iadd rfl rfl (show (356 : Int32).toInt = 356 from rfl) rfl (by omega) (fun vz8 hvz8 => ?_)
    refine X_iconst (v := (1 : Int32)) rfl rfl rfl ?_
    refine S_iadd rfl rfl rfl (show (1 : Int32).toInt = 1 from rfl) (by omega) (fun vz9 hvz9 => ?_)
    refine X_iload_n rfl rfl rfl rfl ?_
    refine S_iadd rfl rfl rfl hx5 (by omega) (fun vz10 hvz10 => ?_)
    refine S_iald rfl rfl ((congrFun V.1 356).trans s_356) rfl (by omega) (fun vz11 evz11 => ?_)
    refine LW_ireturn (st := []) rfl rfl rfl ?_
    refine X_iload_n rfl rfl rfl rfl ?_
    refine X_iload_n rfl rfl rfl rfl ?_
    refine X_iconst (v := (-1 : Int32)) rfl rfl rfl ?_
    refine S_icmp_ne (tgt := 117) rfl rfl rfl hx2 (show (-1 : Int32).toInt = -1 from rfl) (fun vh12 => ?_) (fun vh12 => ?_)
    · refine X_iconst (v := (0 : Int32)) rfl rfl rfl ?_
      refine Y_callV (as := [.int vz11, .int x2, .int (0 : Int32)]) (st := [.ref 355, .int x4]) rfl rfl rfl (by decide) rfl (Nat.le_of_ble_eq_true rfl) (by decide) (Nat.le_of_ble_eq_true rfl) rfl ((congrFun V.1 355).trans s_355) (by decide) (C_X13_wordForB V vz11 vz11.toInt rfl x2 y2 hx2 (0 : Int32) 0 (show (0 : Int32).toInt = 0 from rfl) (by omega) ) ?_
      rintro _ g' ⟨vr13, rfl, hrvr130, hrvr131, hgg, vq14⟩
      subst hgg
      have h0vr13 : 0 ≤ vr13.toInt := (by
        refine vq14.2 ?_
        have vhb := hq0 (Int.toNat y5) (by
          rw [show 356 + 9 * Int.toNat y1 = Int.toNat vz3.toInt by omega, evz4]
          omega)
        rw [if_neg (by omega), show 357 + 9 * Int.toNat y1 + Int.toNat y5 = Int.toNat vz10.toInt by omega, evz11] at vhb
        exact vhb)
      refine X_callV (as := [.int vr13]) (st := [.int x4]) rfl rfl rfl (by decide) rfl (Nat.le_of_ble_eq_true rfl) (by decide) (Nat.le_of_ble_eq_true rfl) rfl ((congrFun V.1 355).trans s_355) (by decide) ?_
      refine LW_ls (ls' := [some (.ref 355), some (.int vr13)]) rfl ?_
      refine X_aload_n rfl rfl rfl rfl ?_
      refine X_getR (a := 356) rfl rfl rfl ((congrFun V.1 355).trans s_355) rfl ((congrFun (V.2.1 355 (by decide)) 0).trans r_355_0) ?_
      refine X_bipush (v := (116 : Int32)) rfl rfl rfl ?_
      refine X_bipush (v := (10 : Int32)) rfl rfl rfl ?_
      refine X_iload_n rfl rfl rfl rfl ?_
      refine S_imul rfl rfl (show (10 : Int32).toInt = 10 from rfl) rfl (by omega) (fun vz15 hvz15 => ?_)
      refine S_iadd rfl rfl (show (116 : Int32).toInt = 116 from rfl) rfl (by omega) (fun vz16 hvz16 => ?_)
      refine X_bipush (v := (8 : Int32)) rfl rfl rfl ?_
      refine S_iadd rfl rfl rfl (show (8 : Int32).toInt = 8 from rfl) (by omega) (fun vz17 hvz17 => ?_)
      refine S_iald rfl rfl ((congrFun V.1 356).trans s_356) rfl (by omega) (fun vz18 evz18 => ?_)
      have vf19 := A_LENGTH (V.2.2.2.1 ((vz17.toInt : Int).toNat)) (by omega)
      rw [evz18] at vf19
      refine LW_ireturn (st := []) rfl rfl rfl ?_
      refine S_iaddT rfl rfl (fun vz20 => ?_)
      refine X_istore (i := 4) (ls' := [some (.ref 355), some (.int x1), some (.int x2), some (.int x3), some (.int vz20), some (.int x5)]) rfl rfl (Nat.le_of_ble_eq_true rfl) rfl ?_
      refine S_iinc (c := 1) rfl rfl rfl hx5 rfl (by omega) (fun vz21 hvz21 => ?_)
      refine LW_ls (ls' := [some (.ref 355), some (.int x1), some (.int x2), some (.int x3), some (.int vz20), some (.int vz21)]) rfl ?_
      refine LW_goto (tgt := 86) rfl rfl ?_
      exact ih86 V x1 y1 hx1 (by omega) x2 y2 hx2 (by omega) x3 y3 hx3 (by omega) vz20 vz20.toInt rfl vz21 vz21.toInt rfl (by omega) (by rw [evz1]; omega) (hq0) (by omega)  (by omega)
    · refine X_iconst (v := (1 : Int32)) rfl rfl rfl ?_
      refine LW_goto (tgt := 118) rfl rfl ?_
      refine Y_callV (as := [.int vz11, .int x2, .int (1 : Int32)]) (st := [.ref 355, .int x4]) rfl rfl rfl (by decide) rfl (Nat.le_of_ble_eq_true rfl) (by decide) (Nat.le_of_ble_eq_true rfl) rfl ((congrFun V.1 355).trans s_355) (by decide) (C_X13_wordForB V vz11 vz11.toInt rfl x2 y2 hx2 (1 : Int32) 1 (show (1 : Int32).toInt = 1 from rfl) (by omega) ) ?_
      rintro _ g' ⟨vr22, rfl, hrvr220, hrvr221, hgg, vq23⟩
      subst hgg
      have h0vr22 : 0 ≤ vr22.toInt := (by
        refine vq23.2 ?_
        have vhb := hq0 (Int.toNat y5) (by
          rw [show 356 + 9 * Int.toNat y1 = Int.toNat vz3.toInt by omega, evz4]
          omega)
        rw [if_pos (by omega), show 357 + 9 * Int.toNat y1 + Int.toNat y5 = Int.toNat vz10.toInt by omega, evz11] at vhb
        exact vhb)
      refine X_callV (as := [.int vr22]) (st := [.int x4]) rfl rfl rfl (by decide) rfl (Nat.le_of_ble_eq_true rfl) (by decide) (Nat.le_of_ble_eq_true rfl) rfl ((congrFun V.1 355).trans s_355) (by decide) ?_
      refine LW_ls (ls' := [some (.ref 355), some (.int vr22)]) rfl ?_
      refine X_aload_n rfl rfl rfl rfl ?_
      refine X_getR (a := 356) rfl rfl rfl ((congrFun V.1 355).trans s_355) rfl ((congrFun (V.2.1 355 (by decide)) 0).trans r_355_0) ?_
      refine X_bipush (v := (116 : Int32)) rfl rfl rfl ?_
      refine X_bipush (v := (10 : Int32)) rfl rfl rfl ?_
      refine X_iload_n rfl rfl rfl rfl ?_
      refine S_imul rfl rfl (show (10 : Int32).toInt = 10 from rfl) rfl (by omega) (fun vz24 hvz24 => ?_)
      refine S_iadd rfl rfl (show (116 : Int32).toInt = 116 from rfl) rfl (by omega) (fun vz25 hvz25 => ?_)
      refine X_bipush (v := (8 : Int32)) rfl rfl rfl ?_
      refine S_iadd rfl rfl rfl (show (8 : Int32).toInt = 8 from rfl) (by omega) (fun vz26 hvz26 => ?_)
      refine S_iald rfl rfl ((congrFun V.1 356).trans s_356) rfl (by omega) (fun vz27 evz27 => ?_)
      have vf28 := A_LENGTH (V.2.2.2.1 ((vz26.toInt : Int).toNat)) (by omega)
      rw [evz27] at vf28
      refine LW_ireturn (st := []) rfl rfl rfl ?_
      refine S_iaddT rfl rfl (fun vz29 => ?_)
      refine X_istore (i := 4) (ls' := [some (.ref 355), some (.int x1), some (.int x2), some (.int x3), some (.int vz29), some (.int x5)]) rfl rfl (Nat.le_of_ble_eq_true rfl) rfl ?_
      refine S_iinc (c := 1) rfl rfl rfl hx5 rfl (by omega) (fun vz30 hvz30 => ?_)
      refine LW_ls (ls' := [some (.ref 355), some (.int x1), some (.int x2), some (.int x3), some (.int vz29), some (.int vz30)]) rfl ?_
      refine LW_goto (tgt := 86) rfl rfl ?_
      exact ih86 V x1 y1 hx1 (by omega) x2 y2 hx2 (by omega) x3 y3 hx3 (by omega) vz29 vz29.toInt rfl vz30 vz30.toInt rfl (by omega) (by rw [evz1]; omega) (hq0) (by omega)  (by omega)
theorem C_X13_said_all {P : Par} {g : LH} {d : Nat}  : ∀ n : Nat, (∀ (V : InvR P g) (x1 : Int32) (y1 : Int) (hx1 : x1.toInt = y1) (hf1 : 0 ≤ y1 ∧ y1 ≤ 7) (x2 : Int32) (y2 : Int) (hx2 : x2.toInt = y2) (hf2 : (-1) ≤ y2 ∧ y2 ≤ 67108863) (x3 : Int32) (y3 : Int) (hx3 : x3.toInt = y3) (hf3 : (-1) ≤ y3 ∧ y3 ≤ (-1)) (x4 : Int32) (y4 : Int) (hx4 : x4.toInt = y4) (x5 : Int32) (y5 : Int) (hx5 : x5.toInt = y5) (hf5 : 0 ≤ y5 ∧ y5 ≤ 8) (hc356_1 : 1 ≤ (Gi g 356 1).toInt ∧ (Gi g 356 1).toInt ≤ 8) (hq0 : vSA (Gi g 356) (if y2 = -1 then 1 else 0) (y2) (Int.toNat (y1))) (hq1 : y5 ≤ 8), (8 - y5) * 1 + 0 < (n : Int) → LW 275 (d + 40) 0 0 86 [some (.ref 355), some (.int x1), some (.int x2), some (.int x3), some (.int x4), some (.int x5)] [] g (fun v g' => ∃ r : Int32, v = some (.int r) ∧ g = g')) := by
  intro n
  induction n with
  | zero => exact fun V x1 y1 hx1 hf1 x2 y2 hx2 hf2 x3 y3 hx3 hf3 x4 y4 hx4 x5 y5 hx5 hf5 hc356_1 hq0 hq1 hmu => absurd hmu (by omega)
  | succ n ih => exact fun V x1 y1 hx1 hf1 x2 y2 hx2 hf2 x3 y3 hx3 hf3 x4 y4 hx4 x5 y5 hx5 hf5 hc356_1 hq0 hq1 hmu => C_X13_said_86  V x1 y1 hx1 hf1 x2 y2 hx2 hf2 x3 y3 hx3 hf3 x4 y4 hx4 x5 y5 hx5 hf5 hc356_1 hq0 hq1 (by omega) ih
set_option maxRecDepth 10000 in
set_option maxHeartbeats 40000000 in
theorem C_X13_said {P : Par} {g : LH} {d : Nat}  (V : InvR P g) (x1 : Int32) (y1 : Int) (hx1 : x1.toInt = y1) (x2 : Int32) (y2 : Int) (hx2 : x2.toInt = y2) (x3 : Int32) (y3 : Int) (hx3 : x3.toInt = y3)   : LW 275 (d + 40) 0 0 0 (lEnt (mL 275) [.ref 355, .int x1, .int x2, .int x3]) [] g (fun v g' => ∃ r : Int32, v = some (.int r) ∧ g = g') := by
  refine LW_ls (ls' := [some (.ref 355), some (.int x1), some (.int x2), some (.int x3), none, none]) rfl ?_
  refine X_aload_n rfl rfl rfl rfl ?_
  refine X_iload_n rfl rfl rfl rfl ?_
  refine X_callV (as := [.int x1]) (st := []) rfl rfl rfl (by decide) rfl (Nat.le_of_ble_eq_true rfl) (by decide) (Nat.le_of_ble_eq_true rfl) rfl ((congrFun V.1 355).trans s_355) (by decide) ?_
  refine LW_ls (ls' := [some (.ref 355), some (.int x1)]) rfl ?_
  refine X_iload_n rfl rfl rfl rfl ?_
  refine X_iconst (v := (0 : Int32)) rfl rfl rfl ?_
  refine X_aload_n rfl rfl rfl rfl ?_
  refine X_getR (a := 356) rfl rfl rfl ((congrFun V.1 355).trans s_355) rfl ((congrFun (V.2.1 355 (by decide)) 0).trans r_355_0) ?_
  refine X_iconst (v := (1 : Int32)) rfl rfl rfl ?_
  refine S_iald rfl rfl ((congrFun V.1 356).trans s_356) (show (1 : Int32).toInt = 1 from rfl) (by omega) (fun vz1 evz1 => ?_)
  have evz1 : Gi g 356 1 = vz1 := evz1
  have vf2 := A_SAYS (V.2.2.2.1 (1)) (by omega)
  rw [evz1] at vf2
  refine X_iconst (v := (1 : Int32)) rfl rfl rfl ?_
  refine S_isub rfl rfl rfl (show (1 : Int32).toInt = 1 from rfl) (by omega) (fun vz3 hvz3 => ?_)
  refine X_callS (as := [.int x1, .int (0 : Int32), .int vz3]) (st := []) rfl rfl rfl (by decide) rfl (Nat.le_of_ble_eq_true rfl) (by decide) (Nat.le_of_ble_eq_true rfl) rfl ?_
  refine LW_ls (ls' := [some (.int x1), some (.int (0 : Int32)), some (.int vz3)]) rfl ?_
  refine X_iload_n rfl rfl rfl rfl ?_
  refine X_iload_n rfl rfl rfl rfl ?_
  refine S_icmp_lt (tgt := 14) rfl rfl rfl hx1 (show (0 : Int32).toInt = 0 from rfl) (fun vh4 => ?_) (fun vh4 => ?_)
  · refine X_iconst (v := (0 : Int32)) rfl rfl rfl ?_
    refine LW_ireturn (st := []) rfl rfl rfl ?_
    refine LW_ireturn (st := []) rfl rfl rfl ?_
    refine S_if_eq (tgt := 52) rfl rfl rfl (show (0 : Int32).toInt = 0 from rfl) (fun vh5 => ?_) (fun q => absurd q (by omega))
    refine X_iconst (v := (-1 : Int32)) rfl rfl rfl ?_
    exact LW_ireturn (st := []) rfl rfl rfl ⟨_, rfl, rfl⟩
  · refine X_iload_n rfl rfl rfl rfl ?_
    refine X_iload_n rfl rfl rfl rfl ?_
    refine S_icmp_gt (tgt := 14) rfl rfl rfl hx1 rfl (fun vh6 => ?_) (fun vh6 => ?_)
    · refine X_iconst (v := (0 : Int32)) rfl rfl rfl ?_
      refine LW_ireturn (st := []) rfl rfl rfl ?_
      refine LW_ireturn (st := []) rfl rfl rfl ?_
      refine S_if_eq (tgt := 52) rfl rfl rfl (show (0 : Int32).toInt = 0 from rfl) (fun vh7 => ?_) (fun q => absurd q (by omega))
      refine X_iconst (v := (-1 : Int32)) rfl rfl rfl ?_
      exact LW_ireturn (st := []) rfl rfl rfl ⟨_, rfl, rfl⟩
    · refine X_iconst (v := (1 : Int32)) rfl rfl rfl ?_
      refine LW_goto (tgt := 15) rfl rfl ?_
      refine LW_ireturn (st := []) rfl rfl rfl ?_
      refine LW_ireturn (st := []) rfl rfl rfl ?_
      refine S_if_eq (tgt := 52) rfl rfl rfl (show (1 : Int32).toInt = 1 from rfl) (fun q => absurd q (by omega)) (fun vh8 => ?_)
      refine X_iload_n rfl rfl rfl rfl ?_
      refine X_iconst (v := (-1 : Int32)) rfl rfl rfl ?_
      refine X_ldc (v := (67108863 : Int32)) rfl rfl rfl ?_
      refine X_callS (as := [.int x2, .int (-1 : Int32), .int (67108863 : Int32)]) (st := []) rfl rfl rfl (by decide) rfl (Nat.le_of_ble_eq_true rfl) (by decide) (Nat.le_of_ble_eq_true rfl) rfl ?_
      refine LW_ls (ls' := [some (.int x2), some (.int (-1 : Int32)), some (.int (67108863 : Int32))]) rfl ?_
      refine X_iload_n rfl rfl rfl rfl ?_
      refine X_iload_n rfl rfl rfl rfl ?_
      refine S_icmp_lt (tgt := 14) rfl rfl rfl hx2 (show (-1 : Int32).toInt = -1 from rfl) (fun vh9 => ?_) (fun vh9 => ?_)
      · refine X_iconst (v := (0 : Int32)) rfl rfl rfl ?_
        refine LW_ireturn (st := []) rfl rfl rfl ?_
        refine S_if_eq (tgt := 52) rfl rfl rfl (show (0 : Int32).toInt = 0 from rfl) (fun vh10 => ?_) (fun q => absurd q (by omega))
        refine X_iconst (v := (-1 : Int32)) rfl rfl rfl ?_
        exact LW_ireturn (st := []) rfl rfl rfl ⟨_, rfl, rfl⟩
      · refine X_iload_n rfl rfl rfl rfl ?_
        refine X_iload_n rfl rfl rfl rfl ?_
        refine S_icmp_gt (tgt := 14) rfl rfl rfl hx2 (show (67108863 : Int32).toInt = 67108863 from rfl) (fun vh11 => ?_) (fun vh11 => ?_)
        · refine X_iconst (v := (0 : Int32)) rfl rfl rfl ?_
          refine LW_ireturn (st := []) rfl rfl rfl ?_
          refine S_if_eq (tgt := 52) rfl rfl rfl (show (0 : Int32).toInt = 0 from rfl) (fun vh12 => ?_) (fun q => absurd q (by omega))
          refine X_iconst (v := (-1 : Int32)) rfl rfl rfl ?_
          exact LW_ireturn (st := []) rfl rfl rfl ⟨_, rfl, rfl⟩
        · refine X_iconst (v := (1 : Int32)) rfl rfl rfl ?_
          refine LW_goto (tgt := 15) rfl rfl ?_
          refine LW_ireturn (st := []) rfl rfl rfl ?_
          refine S_if_eq (tgt := 52) rfl rfl rfl (show (1 : Int32).toInt = 1 from rfl) (fun q => absurd q (by omega)) (fun vh13 => ?_)
          refine X_iload_n rfl rfl rfl rfl ?_
          refine X_iconst (v := (-1 : Int32)) rfl rfl rfl ?_
          refine X_aload_n rfl rfl rfl rfl ?_
          refine X_iload_n rfl rfl rfl rfl ?_
          refine X_callV (as := [.int x1]) (st := [.int (-1 : Int32), .int x3]) rfl rfl rfl (by decide) rfl (Nat.le_of_ble_eq_true rfl) (by decide) (Nat.le_of_ble_eq_true rfl) rfl ((congrFun V.1 355).trans s_355) (by decide) ?_
          refine LW_ls (ls' := [some (.ref 355), some (.int x1)]) rfl ?_
          refine X_aload_n rfl rfl rfl rfl ?_
          refine X_getR (a := 356) rfl rfl rfl ((congrFun V.1 355).trans s_355) rfl ((congrFun (V.2.1 355 (by decide)) 0).trans r_355_0) ?_
          refine X_sipush (v := (356 : Int32)) rfl rfl rfl ?_
          refine X_bipush (v := (9 : Int32)) rfl rfl rfl ?_
          refine X_iload_n rfl rfl rfl rfl ?_
          refine S_imul rfl rfl (show (9 : Int32).toInt = 9 from rfl) hx1 (by omega) (fun vz14 hvz14 => ?_)
          refine S_iadd rfl rfl (show (356 : Int32).toInt = 356 from rfl) rfl (by omega) (fun vz15 hvz15 => ?_)
          refine S_iald rfl rfl ((congrFun V.1 356).trans s_356) rfl (by omega) (fun vz16 evz16 => ?_)
          have vf17 := A_SCOUNT (V.2.2.2.1 ((vz15.toInt : Int).toNat)) (by omega)
          rw [evz16] at vf17
          refine LW_ireturn (st := []) rfl rfl rfl ?_
          refine X_iconst (v := (1 : Int32)) rfl rfl rfl ?_
          refine S_isub rfl rfl rfl (show (1 : Int32).toInt = 1 from rfl) (by omega) (fun vz18 hvz18 => ?_)
          refine X_callS (as := [.int x3, .int (-1 : Int32), .int vz18]) (st := []) rfl rfl rfl (by decide) rfl (Nat.le_of_ble_eq_true rfl) (by decide) (Nat.le_of_ble_eq_true rfl) rfl ?_
          refine LW_ls (ls' := [some (.int x3), some (.int (-1 : Int32)), some (.int vz18)]) rfl ?_
          refine X_iload_n rfl rfl rfl rfl ?_
          refine X_iload_n rfl rfl rfl rfl ?_
          refine S_icmp_lt (tgt := 14) rfl rfl rfl hx3 (show (-1 : Int32).toInt = -1 from rfl) (fun vh19 => ?_) (fun vh19 => ?_)
          · refine X_iconst (v := (0 : Int32)) rfl rfl rfl ?_
            refine LW_ireturn (st := []) rfl rfl rfl ?_
            refine S_if_eq (tgt := 52) rfl rfl rfl (show (0 : Int32).toInt = 0 from rfl) (fun vh20 => ?_) (fun q => absurd q (by omega))
            refine X_iconst (v := (-1 : Int32)) rfl rfl rfl ?_
            exact LW_ireturn (st := []) rfl rfl rfl ⟨_, rfl, rfl⟩
          · refine X_iload_n rfl rfl rfl rfl ?_
            refine X_iload_n rfl rfl rfl rfl ?_
            refine S_icmp_gt (tgt := 14) rfl rfl rfl hx3 rfl (fun vh21 => ?_) (fun vh21 => ?_)
            · refine X_iconst (v := (0 : Int32)) rfl rfl rfl ?_
              refine LW_ireturn (st := []) rfl rfl rfl ?_
              refine S_if_eq (tgt := 52) rfl rfl rfl (show (0 : Int32).toInt = 0 from rfl) (fun vh22 => ?_) (fun q => absurd q (by omega))
              refine X_iconst (v := (-1 : Int32)) rfl rfl rfl ?_
              exact LW_ireturn (st := []) rfl rfl rfl ⟨_, rfl, rfl⟩
            · refine X_iconst (v := (1 : Int32)) rfl rfl rfl ?_
              refine LW_goto (tgt := 15) rfl rfl ?_
              refine LW_ireturn (st := []) rfl rfl rfl ?_
              refine S_if_eq (tgt := 52) rfl rfl rfl (show (1 : Int32).toInt = 1 from rfl) (fun q => absurd q (by omega)) (fun vh23 => ?_)
              refine X_aload_n rfl rfl rfl rfl ?_
              refine X_iload_n rfl rfl rfl rfl ?_
              refine X_iload_n rfl rfl rfl rfl ?_
              refine X_iload_n rfl rfl rfl rfl ?_
              refine X_iconst (v := (-1 : Int32)) rfl rfl rfl ?_
              refine S_icmp_ne (tgt := 45) rfl rfl rfl hx2 (show (-1 : Int32).toInt = -1 from rfl) (fun vh24 => ?_) (fun vh24 => ?_)
              · refine X_iconst (v := (0 : Int32)) rfl rfl rfl ?_
                refine Y_callV (as := [.int x1, .int x2, .int (0 : Int32)]) (st := []) rfl rfl rfl (by decide) rfl (Nat.le_of_ble_eq_true rfl) (by decide) (Nat.le_of_ble_eq_true rfl) rfl ((congrFun V.1 355).trans s_355) (by decide) (C_X13_canSayB V x1 y1 hx1 (by omega) x2 y2 hx2 (0 : Int32) 0 (show (0 : Int32).toInt = 0 from rfl) (by omega) ) ?_
                rintro _ g' ⟨vr25, rfl, hrvr250, hrvr251, hgg, vq26⟩
                subst hgg
                refine S_if_ne (tgt := 54) rfl rfl rfl rfl (fun vh27 => ?_) (fun vh27 => ?_)
                · refine X_iload_n rfl rfl rfl rfl ?_
                  refine S_if_lt (tgt := 80) rfl rfl rfl hx3 (fun vh28 => ?_) (fun vh28 => ?_)
                  · refine X_iconst (v := (0 : Int32)) rfl rfl rfl ?_
                    refine X_istore (i := 4) (ls' := [some (.ref 355), some (.int x1), some (.int x2), some (.int x3), some (.int (0 : Int32)), none]) rfl rfl (Nat.le_of_ble_eq_true rfl) rfl ?_
                    refine X_iconst (v := (0 : Int32)) rfl rfl rfl ?_
                    refine X_istore (i := 5) (ls' := [some (.ref 355), some (.int x1), some (.int x2), some (.int x3), some (.int (0 : Int32)), some (.int (0 : Int32))]) rfl rfl (Nat.le_of_ble_eq_true rfl) rfl ?_
                    exact (C_X13_said_all (((8 - 0) * 1 + 0) + 1 : Int).toNat) V x1 y1 hx1 (by omega) x2 y2 hx2 (by omega) x3 y3 hx3 (by omega) (0 : Int32) 0 (show (0 : Int32).toInt = 0 from rfl) (0 : Int32) 0 (show (0 : Int32).toInt = 0 from rfl) (by omega) (by rw [evz1]; omega) (by
        rw [if_neg (by omega)]
        exact vq26 (by omega)) (by omega)  (by omega)
                  · refine X_aload_n rfl rfl rfl rfl ?_
                    refine X_aload_n rfl rfl rfl rfl ?_
                    refine X_iload_n rfl rfl rfl rfl ?_
                    refine X_iload_n rfl rfl rfl rfl ?_
                    refine X_callV (as := [.int x1, .int x3]) (st := [.ref 355]) rfl rfl rfl (by decide) rfl (Nat.le_of_ble_eq_true rfl) (by decide) (Nat.le_of_ble_eq_true rfl) rfl ((congrFun V.1 355).trans s_355) (by decide) ?_
                    refine LW_ls (ls' := [some (.ref 355), some (.int x1), some (.int x3)]) rfl ?_
                    refine X_aload_n rfl rfl rfl rfl ?_
                    refine X_getR (a := 356) rfl rfl rfl ((congrFun V.1 355).trans s_355) rfl ((congrFun (V.2.1 355 (by decide)) 0).trans r_355_0) ?_
                    refine X_sipush (v := (356 : Int32)) rfl rfl rfl ?_
                    refine X_bipush (v := (9 : Int32)) rfl rfl rfl ?_
                    refine X_iload_n rfl rfl rfl rfl ?_
                    refine S_imul rfl rfl (show (9 : Int32).toInt = 9 from rfl) hx1 (by omega) (fun vz29 hvz29 => ?_)
                    refine S_iadd rfl rfl (show (356 : Int32).toInt = 356 from rfl) rfl (by omega) (fun vz30 hvz30 => ?_)
                    refine X_iconst (v := (1 : Int32)) rfl rfl rfl ?_
                    refine S_iadd rfl rfl rfl (show (1 : Int32).toInt = 1 from rfl) (by omega) (fun vz31 hvz31 => ?_)
                    refine X_iload_n rfl rfl rfl rfl ?_
                    refine S_iadd rfl rfl rfl hx3 (by omega) (fun vz32 hvz32 => ?_)
                    refine S_iald rfl rfl ((congrFun V.1 356).trans s_356) rfl (by omega) (fun vz33 evz33 => ?_)
                    refine LW_ireturn (st := []) rfl rfl rfl ?_
                    refine X_iload_n rfl rfl rfl rfl ?_
                    refine X_iload_n rfl rfl rfl rfl ?_
                    refine X_iconst (v := (-1 : Int32)) rfl rfl rfl ?_
                    refine S_icmp_ne (tgt := 75) rfl rfl rfl hx2 (show (-1 : Int32).toInt = -1 from rfl) (fun vh34 => ?_) (fun q => absurd q (by omega))
                    refine X_iconst (v := (0 : Int32)) rfl rfl rfl ?_
                    refine Y_callV (as := [.int vz33, .int x2, .int (0 : Int32)]) (st := []) rfl rfl rfl (by decide) rfl (Nat.le_of_ble_eq_true rfl) (by decide) (Nat.le_of_ble_eq_true rfl) rfl ((congrFun V.1 355).trans s_355) (by decide) (C_X13_wordForB V vz33 vz33.toInt rfl x2 y2 hx2 (0 : Int32) 0 (show (0 : Int32).toInt = 0 from rfl) (by omega) ) ?_
                    rintro _ g' ⟨vr35, rfl, hrvr350, hrvr351, hgg, vq36⟩
                    subst hgg
                    have h0vr35 : 0 ≤ vr35.toInt := (by
        refine vq36.2 ?_
        have vhb := vq26 (by omega) (Int.toNat y3) (by
          rw [show 356 + 9 * Int.toNat y1 = Int.toNat vz15.toInt by omega, evz16]
          omega)
        rw [show 357 + 9 * Int.toNat y1 + Int.toNat y3 = Int.toNat vz32.toInt by omega, evz33] at vhb
        exact vhb)
                    exact LW_ireturn (st := []) rfl rfl rfl ⟨_, rfl, rfl⟩
                · refine X_iconst (v := (-1 : Int32)) rfl rfl rfl ?_
                  exact LW_ireturn (st := []) rfl rfl rfl ⟨_, rfl, rfl⟩
              · refine X_iconst (v := (1 : Int32)) rfl rfl rfl ?_
                refine LW_goto (tgt := 46) rfl rfl ?_
                refine Y_callV (as := [.int x1, .int x2, .int (1 : Int32)]) (st := []) rfl rfl rfl (by decide) rfl (Nat.le_of_ble_eq_true rfl) (by decide) (Nat.le_of_ble_eq_true rfl) rfl ((congrFun V.1 355).trans s_355) (by decide) (C_X13_canSayB V x1 y1 hx1 (by omega) x2 y2 hx2 (1 : Int32) 1 (show (1 : Int32).toInt = 1 from rfl) (by omega) ) ?_
                rintro _ g' ⟨vr37, rfl, hrvr370, hrvr371, hgg, vq38⟩
                subst hgg
                refine S_if_ne (tgt := 54) rfl rfl rfl rfl (fun vh39 => ?_) (fun vh39 => ?_)
                · refine X_iload_n rfl rfl rfl rfl ?_
                  refine S_if_lt (tgt := 80) rfl rfl rfl hx3 (fun vh40 => ?_) (fun vh40 => ?_)
                  · refine X_iconst (v := (0 : Int32)) rfl rfl rfl ?_
                    refine X_istore (i := 4) (ls' := [some (.ref 355), some (.int x1), some (.int x2), some (.int x3), some (.int (0 : Int32)), none]) rfl rfl (Nat.le_of_ble_eq_true rfl) rfl ?_
                    refine X_iconst (v := (0 : Int32)) rfl rfl rfl ?_
                    refine X_istore (i := 5) (ls' := [some (.ref 355), some (.int x1), some (.int x2), some (.int x3), some (.int (0 : Int32)), some (.int (0 : Int32))]) rfl rfl (Nat.le_of_ble_eq_true rfl) rfl ?_
                    exact (C_X13_said_all (((8 - 0) * 1 + 0) + 1 : Int).toNat) V x1 y1 hx1 (by omega) x2 y2 hx2 (by omega) x3 y3 hx3 (by omega) (0 : Int32) 0 (show (0 : Int32).toInt = 0 from rfl) (0 : Int32) 0 (show (0 : Int32).toInt = 0 from rfl) (by omega) (by rw [evz1]; omega) (by
        rw [if_pos (by omega)]
        exact vq38 (by omega)) (by omega)  (by omega)
                  · refine X_aload_n rfl rfl rfl rfl ?_
                    refine X_aload_n rfl rfl rfl rfl ?_
                    refine X_iload_n rfl rfl rfl rfl ?_
                    refine X_iload_n rfl rfl rfl rfl ?_
                    refine X_callV (as := [.int x1, .int x3]) (st := [.ref 355]) rfl rfl rfl (by decide) rfl (Nat.le_of_ble_eq_true rfl) (by decide) (Nat.le_of_ble_eq_true rfl) rfl ((congrFun V.1 355).trans s_355) (by decide) ?_
                    refine LW_ls (ls' := [some (.ref 355), some (.int x1), some (.int x3)]) rfl ?_
                    refine X_aload_n rfl rfl rfl rfl ?_
                    refine X_getR (a := 356) rfl rfl rfl ((congrFun V.1 355).trans s_355) rfl ((congrFun (V.2.1 355 (by decide)) 0).trans r_355_0) ?_
                    refine X_sipush (v := (356 : Int32)) rfl rfl rfl ?_
                    refine X_bipush (v := (9 : Int32)) rfl rfl rfl ?_
                    refine X_iload_n rfl rfl rfl rfl ?_
                    refine S_imul rfl rfl (show (9 : Int32).toInt = 9 from rfl) hx1 (by omega) (fun vz41 hvz41 => ?_)
                    refine S_iadd rfl rfl (show (356 : Int32).toInt = 356 from rfl) rfl (by omega) (fun vz42 hvz42 => ?_)
                    refine X_iconst (v := (1 : Int32)) rfl rfl rfl ?_
                    refine S_iadd rfl rfl rfl (show (1 : Int32).toInt = 1 from rfl) (by omega) (fun vz43 hvz43 => ?_)
                    refine X_iload_n rfl rfl rfl rfl ?_
                    refine S_iadd rfl rfl rfl hx3 (by omega) (fun vz44 hvz44 => ?_)
                    refine S_iald rfl rfl ((congrFun V.1 356).trans s_356) rfl (by omega) (fun vz45 evz45 => ?_)
                    refine LW_ireturn (st := []) rfl rfl rfl ?_
                    refine X_iload_n rfl rfl rfl rfl ?_
                    refine X_iload_n rfl rfl rfl rfl ?_
                    refine X_iconst (v := (-1 : Int32)) rfl rfl rfl ?_
                    refine S_icmp_ne (tgt := 75) rfl rfl rfl hx2 (show (-1 : Int32).toInt = -1 from rfl) (fun q => absurd q (by omega)) (fun vh46 => ?_)
                    refine X_iconst (v := (1 : Int32)) rfl rfl rfl ?_
                    refine LW_goto (tgt := 76) rfl rfl ?_
                    refine Y_callV (as := [.int vz45, .int x2, .int (1 : Int32)]) (st := []) rfl rfl rfl (by decide) rfl (Nat.le_of_ble_eq_true rfl) (by decide) (Nat.le_of_ble_eq_true rfl) rfl ((congrFun V.1 355).trans s_355) (by decide) (C_X13_wordForB V vz45 vz45.toInt rfl x2 y2 hx2 (1 : Int32) 1 (show (1 : Int32).toInt = 1 from rfl) (by omega) ) ?_
                    rintro _ g' ⟨vr47, rfl, hrvr470, hrvr471, hgg, vq48⟩
                    subst hgg
                    have h0vr47 : 0 ≤ vr47.toInt := (by
        refine vq48.2 ?_
        have vhb := vq38 (by omega) (Int.toNat y3) (by
          rw [show 356 + 9 * Int.toNat y1 = Int.toNat vz15.toInt by omega, evz16]
          omega)
        rw [show 357 + 9 * Int.toNat y1 + Int.toNat y3 = Int.toNat vz44.toInt by omega, evz45] at vhb
        exact vhb)
                    exact LW_ireturn (st := []) rfl rfl rfl ⟨_, rfl, rfl⟩
                · refine X_iconst (v := (-1 : Int32)) rfl rfl rfl ?_
                  exact LW_ireturn (st := []) rfl rfl rfl ⟨_, rfl, rfl⟩
