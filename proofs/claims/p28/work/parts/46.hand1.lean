/-! the reference: what can be said now -/
set_option maxRecDepth 10000 in
set_option maxHeartbeats 40000000 in
theorem C_X13_isWritten_2 {P : Par} {g : LH} {d n : Nat}  (V : InvR P g) (x1 : Int32) (y1 : Int) (hx1 : x1.toInt = y1) (hf1 : 0 ≤ y1 ∧ y1 ≤ 23) (x2 : Int32) (y2 : Int) (hx2 : x2.toInt = y2) (hf2 : 0 ≤ y2 ∧ y2 ≤ 8) (hq0 : ∀ k : Nat, ↑k < y2 → wrL (Gi g 356) (Int.toNat (y1)) k) (hmu : (8 - y2) * 1 + 0 < (n : Int) + 1) (ih2 : ∀ (V : InvR P g) (x1 : Int32) (y1 : Int) (hx1 : x1.toInt = y1) (hf1 : 0 ≤ y1 ∧ y1 ≤ 23) (x2 : Int32) (y2 : Int) (hx2 : x2.toInt = y2) (hf2 : 0 ≤ y2 ∧ y2 ≤ 8) (hq0 : ∀ k : Nat, ↑k < y2 → wrL (Gi g 356) (Int.toNat (y1)) k), (8 - y2) * 1 + 0 < (n : Int) → LW 255 (d + 6) 0 0 2 [some (.ref 355), some (.int x1), some (.int x2)] [] g (fun v g' => ∃ r : Int32, v = some (.int r) ∧ 0 ≤ r.toInt ∧ r.toInt ≤ 1 ∧ g = g' ∧ ((r.toInt = 1 → WR (Gi g 356) (Int.toNat (y1))) ∧ (WR (Gi g 356) (Int.toNat (y1)) → r.toInt = 1)))) : LW 255 (d + 6) 0 0 2 [some (.ref 355), some (.int x1), some (.int x2)] [] g (fun v g' => ∃ r : Int32, v = some (.int r) ∧ 0 ≤ r.toInt ∧ r.toInt ≤ 1 ∧ g = g' ∧ ((r.toInt = 1 → WR (Gi g 356) (Int.toNat (y1))) ∧ (WR (Gi g 356) (Int.toNat (y1)) → r.toInt = 1))) := by
  refine X_iload_n rfl rfl rfl rfl ?_
  refine X_aload_n rfl rfl rfl rfl ?_
  refine X_iload_n rfl rfl rfl rfl ?_
  refine X_callV (as := [.int x1]) (st := [.int x2]) rfl rfl rfl (by decide) rfl (Nat.le_of_ble_eq_true rfl) (by decide) (Nat.le_of_ble_eq_true rfl) rfl ((congrFun V.1 355).trans s_355) (by decide) ?_
  refine LW_ls (ls' := [some (.ref 355), some (.int x1)]) rfl ?_
  refine X_aload_n rfl rfl rfl rfl ?_
  refine X_getR (a := 356) rfl rfl rfl ((congrFun V.1 355).trans s_355) rfl ((congrFun (V.2.1 355 (by decide)) 0).trans r_355_0) ?_
  refine X_bipush (v := (116 : Int32)) rfl rfl rfl ?_
  refine X_bipush (v := (10 : Int32)) rfl rfl rfl ?_
  refine X_iload_n rfl rfl rfl rfl ?_
  refine S_imul rfl rfl (show (10 : Int32).toInt = 10 from rfl) hx1 (by omega) (fun vz1 hvz1 => ?_)
  refine S_iadd rfl rfl (show (116 : Int32).toInt = 116 from rfl) rfl (by omega) (fun vz2 hvz2 => ?_)
  refine X_bipush (v := (8 : Int32)) rfl rfl rfl ?_
  refine S_iadd rfl rfl rfl (show (8 : Int32).toInt = 8 from rfl) (by omega) (fun vz3 hvz3 => ?_)
  refine S_iald rfl rfl ((congrFun V.1 356).trans s_356) rfl (by omega) (fun vz4 evz4 => ?_)
  have vf5 := A_LENGTH (V.2.2.2.1 ((vz3.toInt : Int).toNat)) (by omega)
  rw [evz4] at vf5
  refine LW_ireturn (st := []) rfl rfl rfl ?_
  refine S_icmp_ge (tgt := 49) rfl rfl rfl hx2 rfl (fun vh6 => ?_) (fun vh6 => ?_)
  · refine X_iconst (v := (1 : Int32)) rfl rfl rfl ?_
    exact LW_ireturn (st := []) rfl rfl rfl ⟨_, rfl, by decide, by decide, rfl, (by
        refine ⟨fun _ k hk => hq0 k ?_, fun _ => rfl⟩
        rw [show 124 + 10 * Int.toNat y1 = Int.toNat vz3.toInt by omega, evz4] at hk
        omega)⟩
  · refine X_aload_n rfl rfl rfl rfl ?_
    refine X_aload_n rfl rfl rfl rfl ?_
    refine X_iload_n rfl rfl rfl rfl ?_
    refine X_iload_n rfl rfl rfl rfl ?_
    refine X_callV (as := [.int x1, .int x2]) (st := [.ref 355]) rfl rfl rfl (by decide) rfl (Nat.le_of_ble_eq_true rfl) (by decide) (Nat.le_of_ble_eq_true rfl) rfl ((congrFun V.1 355).trans s_355) (by decide) ?_
    refine LW_ls (ls' := [some (.ref 355), some (.int x1), some (.int x2)]) rfl ?_
    refine X_aload_n rfl rfl rfl rfl ?_
    refine X_getR (a := 356) rfl rfl rfl ((congrFun V.1 355).trans s_355) rfl ((congrFun (V.2.1 355 (by decide)) 0).trans r_355_0) ?_
    refine X_bipush (v := (116 : Int32)) rfl rfl rfl ?_
    refine X_bipush (v := (10 : Int32)) rfl rfl rfl ?_
    refine X_iload_n rfl rfl rfl rfl ?_
    refine S_imul rfl rfl (show (10 : Int32).toInt = 10 from rfl) hx1 (by omega) (fun vz7 hvz7 => ?_)
    refine S_iadd rfl rfl (show (116 : Int32).toInt = 116 from rfl) rfl (by omega) (fun vz8 hvz8 => ?_)
    refine X_iload_n rfl rfl rfl rfl ?_
    refine S_iadd rfl rfl rfl hx2 (by omega) (fun vz9 hvz9 => ?_)
    refine S_iald rfl rfl ((congrFun V.1 356).trans s_356) rfl (by omega) (fun vz10 evz10 => ?_)
    have vf11 := A_LETTER (V.2.2.2.1 ((vz9.toInt : Int).toNat)) (by omega)
    rw [evz10] at vf11
    refine LW_ireturn (st := []) rfl rfl rfl ?_
    refine X_callV (as := [.int vz10]) (st := []) rfl rfl rfl (by decide) rfl (Nat.le_of_ble_eq_true rfl) (by decide) (Nat.le_of_ble_eq_true rfl) rfl ((congrFun V.1 355).trans s_355) (by decide) ?_
    refine LW_ls (ls' := [some (.ref 355), some (.int vz10)]) rfl ?_
    refine X_aload_n rfl rfl rfl rfl ?_
    refine X_getR (a := 356) rfl rfl rfl ((congrFun V.1 355).trans s_355) rfl ((congrFun (V.2.1 355 (by decide)) 0).trans r_355_0) ?_
    refine X_bipush (v := (7 : Int32)) rfl rfl rfl ?_
    refine S_iald rfl rfl ((congrFun V.1 356).trans s_356) (show (7 : Int32).toInt = 7 from rfl) (by omega) (fun vz12 evz12 => ?_)
    have evz12 : Gi g 356 7 = vz12 := evz12
    refine X_iload_n rfl rfl rfl rfl ?_
    refine X_callS (as := [.int vz12, .int vz10]) (st := []) rfl rfl rfl (by decide) rfl (Nat.le_of_ble_eq_true rfl) (by decide) (Nat.le_of_ble_eq_true rfl) rfl ?_
    refine LW_ls (ls' := [some (.int vz12), some (.int vz10)]) rfl ?_
    refine X_iload_n rfl rfl rfl rfl ?_
    refine X_iload_n rfl rfl rfl rfl ?_
    refine S_ishrX rfl rfl (fun vz13 hvz13 => ?_)
    refine X_iconst (v := (1 : Int32)) rfl rfl rfl ?_
    refine S_iandE (k := 1) rfl rfl rfl (fun vz14 hvz14 => ?_)
    refine X_iconst (v := (1 : Int32)) rfl rfl rfl ?_
    refine S_icmp_ne (tgt := 13) rfl rfl rfl rfl (show (1 : Int32).toInt = 1 from rfl) (fun vh15 => ?_) (fun vh15 => ?_)
    · refine X_iconst (v := (0 : Int32)) rfl rfl rfl ?_
      refine LW_ireturn (st := []) rfl rfl rfl ?_
      refine LW_ireturn (st := []) rfl rfl rfl ?_
      refine S_if_eq (tgt := 43) rfl rfl rfl (show (0 : Int32).toInt = 0 from rfl) (fun vh16 => ?_) (fun q => absurd q (by omega))
      refine S_iinc (c := 1) rfl rfl rfl hx2 rfl (by omega) (fun vz17 hvz17 => ?_)
      refine LW_ls (ls' := [some (.ref 355), some (.int x1), some (.int vz17)]) rfl ?_
      refine LW_goto (tgt := 2) rfl rfl ?_
      exact ih2 V x1 y1 hx1 (by omega) vz17 vz17.toInt rfl (by omega)  (by
        intro k hk
        by_cases hk2 : ↑k < y2
        · exact hq0 k hk2
        · have ek : Gi g 356 (116 + 10 * Int.toNat y1 + k) = vz10 := by
            rw [show 116 + 10 * Int.toNat y1 + k = Int.toNat vz9.toInt by omega]
            exact evz10
          unfold wrL bO
          rw [ek, evz12, ← hvz13, ← hvz14.1]
          omega)  (by omega)
    · refine X_iconst (v := (1 : Int32)) rfl rfl rfl ?_
      refine LW_goto (tgt := 14) rfl rfl ?_
      refine LW_ireturn (st := []) rfl rfl rfl ?_
      refine LW_ireturn (st := []) rfl rfl rfl ?_
      refine S_if_eq (tgt := 43) rfl rfl rfl (show (1 : Int32).toInt = 1 from rfl) (fun q => absurd q (by omega)) (fun vh18 => ?_)
      refine X_aload_n rfl rfl rfl rfl ?_
      refine X_getR (a := 356) rfl rfl rfl ((congrFun V.1 355).trans s_355) rfl ((congrFun (V.2.1 355 (by decide)) 0).trans r_355_0) ?_
      refine X_bipush (v := (64 : Int32)) rfl rfl rfl ?_
      refine X_aload_n rfl rfl rfl rfl ?_
      refine X_iload_n rfl rfl rfl rfl ?_
      refine X_iload_n rfl rfl rfl rfl ?_
      refine X_callV (as := [.int x1, .int x2]) (st := [.int (64 : Int32), .ref 356]) rfl rfl rfl (by decide) rfl (Nat.le_of_ble_eq_true rfl) (by decide) (Nat.le_of_ble_eq_true rfl) rfl ((congrFun V.1 355).trans s_355) (by decide) ?_
      refine LW_ls (ls' := [some (.ref 355), some (.int x1), some (.int x2)]) rfl ?_
      refine X_aload_n rfl rfl rfl rfl ?_
      refine X_getR (a := 356) rfl rfl rfl ((congrFun V.1 355).trans s_355) rfl ((congrFun (V.2.1 355 (by decide)) 0).trans r_355_0) ?_
      refine X_bipush (v := (116 : Int32)) rfl rfl rfl ?_
      refine X_bipush (v := (10 : Int32)) rfl rfl rfl ?_
      refine X_iload_n rfl rfl rfl rfl ?_
      refine S_imul rfl rfl (show (10 : Int32).toInt = 10 from rfl) hx1 (by omega) (fun vz19 hvz19 => ?_)
      refine S_iadd rfl rfl (show (116 : Int32).toInt = 116 from rfl) rfl (by omega) (fun vz20 hvz20 => ?_)
      refine X_iload_n rfl rfl rfl rfl ?_
      refine S_iadd rfl rfl rfl hx2 (by omega) (fun vz21 hvz21 => ?_)
      refine S_iald rfl rfl ((congrFun V.1 356).trans s_356) rfl (by omega) (fun vz22 evz22 => ?_)
      have vf23 := A_LETTER (V.2.2.2.1 ((vz21.toInt : Int).toNat)) (by omega)
      rw [evz22] at vf23
      refine LW_ireturn (st := []) rfl rfl rfl ?_
      refine S_iadd rfl rfl (show (64 : Int32).toInt = 64 from rfl) rfl (by omega) (fun vz24 hvz24 => ?_)
      refine S_iald rfl rfl ((congrFun V.1 356).trans s_356) rfl (by omega) (fun vz25 evz25 => ?_)
      refine S_if_ge (tgt := 43) rfl rfl rfl rfl (fun vh26 => ?_) (fun vh26 => ?_)
      · refine S_iinc (c := 1) rfl rfl rfl hx2 rfl (by omega) (fun vz27 hvz27 => ?_)
        refine LW_ls (ls' := [some (.ref 355), some (.int x1), some (.int vz27)]) rfl ?_
        refine LW_goto (tgt := 2) rfl rfl ?_
        exact ih2 V x1 y1 hx1 (by omega) vz27 vz27.toInt rfl (by omega)  (by
        intro k hk
        by_cases hk2 : ↑k < y2
        · exact hq0 k hk2
        · have ek : Gi g 356 (116 + 10 * Int.toNat y1 + k) = vz22 := by
            rw [show 116 + 10 * Int.toNat y1 + k = Int.toNat vz21.toInt by omega]
            exact evz22
          unfold wrL
          rw [ek, show 64 + Int.toNat vz22.toInt = Int.toNat vz24.toInt by omega, evz25]
          intro hh
          exact absurd hh.2 (by omega))  (by omega)
      · refine X_iconst (v := (0 : Int32)) rfl rfl rfl ?_
        exact LW_ireturn (st := []) rfl rfl rfl ⟨_, rfl, by decide, by decide, rfl, (by
        refine ⟨fun q => absurd q (by decide), fun hh => ?_⟩
        have ek : Gi g 356 (116 + 10 * Int.toNat y1 + Int.toNat y2) = vz22 := by
          rw [show 116 + 10 * Int.toNat y1 + Int.toNat y2 = Int.toNat vz21.toInt by omega]
          exact evz22
        have ve10 : Gi g 356 (116 + 10 * Int.toNat y1 + Int.toNat y2) = vz10 := by
          rw [show 116 + 10 * Int.toNat y1 + Int.toNat y2 = Int.toNat vz9.toInt by omega]
          exact evz10
        have e2' : vz22.toInt = vz10.toInt := congrArg Int32.toInt (ek.symm.trans ve10)
        have hw := hh (Int.toNat y2) (by
          rw [show 124 + 10 * Int.toNat y1 = Int.toNat vz3.toInt by omega, evz4]
          omega)
        unfold wrL bO at hw
        rw [ve10, evz12, ← hvz13, ← hvz14.1, show 64 + Int.toNat vz10.toInt = Int.toNat vz24.toInt by omega, evz25] at hw
        omega)⟩
theorem C_X13_isWritten_all {P : Par} {g : LH} {d : Nat}  : ∀ n : Nat, (∀ (V : InvR P g) (x1 : Int32) (y1 : Int) (hx1 : x1.toInt = y1) (hf1 : 0 ≤ y1 ∧ y1 ≤ 23) (x2 : Int32) (y2 : Int) (hx2 : x2.toInt = y2) (hf2 : 0 ≤ y2 ∧ y2 ≤ 8) (hq0 : ∀ k : Nat, ↑k < y2 → wrL (Gi g 356) (Int.toNat (y1)) k), (8 - y2) * 1 + 0 < (n : Int) → LW 255 (d + 6) 0 0 2 [some (.ref 355), some (.int x1), some (.int x2)] [] g (fun v g' => ∃ r : Int32, v = some (.int r) ∧ 0 ≤ r.toInt ∧ r.toInt ≤ 1 ∧ g = g' ∧ ((r.toInt = 1 → WR (Gi g 356) (Int.toNat (y1))) ∧ (WR (Gi g 356) (Int.toNat (y1)) → r.toInt = 1)))) := by
  intro n
  induction n with
  | zero => exact fun V x1 y1 hx1 hf1 x2 y2 hx2 hf2 hq0 hmu => absurd hmu (by omega)
  | succ n ih => exact fun V x1 y1 hx1 hf1 x2 y2 hx2 hf2 hq0 hmu => C_X13_isWritten_2  V x1 y1 hx1 hf1 x2 y2 hx2 hf2 hq0 (by omega) ih
set_option maxRecDepth 10000 in
set_option maxHeartbeats 40000000 in
theorem C_X13_isWritten {P : Par} {g : LH} {d : Nat}  (V : InvR P g) (x1 : Int32) (y1 : Int) (hx1 : x1.toInt = y1) (hf1 : 0 ≤ y1 ∧ y1 ≤ 23)   : LW 255 (d + 6) 0 0 0 (lEnt (mL 255) [.ref 355, .int x1]) [] g (fun v g' => ∃ r : Int32, v = some (.int r) ∧ 0 ≤ r.toInt ∧ r.toInt ≤ 1 ∧ g = g' ∧ ((r.toInt = 1 → WR (Gi g 356) (Int.toNat (y1))) ∧ (WR (Gi g 356) (Int.toNat (y1)) → r.toInt = 1))) := by
  refine LW_ls (ls' := [some (.ref 355), some (.int x1), none]) rfl ?_
  refine X_iconst (v := (0 : Int32)) rfl rfl rfl ?_
  refine X_istore_n (i := 2) (ls' := [some (.ref 355), some (.int x1), some (.int (0 : Int32))]) rfl rfl rfl (Nat.le_of_ble_eq_true rfl) rfl ?_
  exact (C_X13_isWritten_all (((8 - 0) * 1 + 0) + 1 : Int).toNat) V x1 y1 hx1 (by omega) (0 : Int32) 0 (show (0 : Int32).toInt = 0 from rfl) (by omega)  (fun k hk => absurd hk (by omega))  (by omega)
set_option maxRecDepth 10000 in
set_option maxHeartbeats 40000000 in
theorem C_X13_wordFor_6 {P : Par} {g : LH} {d n : Nat}  (V : InvR P g) (x1 : Int32) (y1 : Int) (hx1 : x1.toInt = y1) (x2 : Int32) (y2 : Int) (hx2 : x2.toInt = y2) (x3 : Int32) (y3 : Int) (hx3 : x3.toInt = y3) (hf3 : 0 ≤ y3 ∧ y3 ≤ 1) (x4 : Int32) (y4 : Int) (hx4 : x4.toInt = y4) (hf4 : (-1) ≤ y4 ∧ y4 ≤ 23) (x5 : Int32) (y5 : Int) (hx5 : x5.toInt = y5) (hf5 : 0 ≤ y5 ∧ y5 ≤ 24) (o6 : Option Value) (hq0 : y3 = 1 → 0 ≤ y4 → SY (Gi g 356) (y1)) (hq1 : y3 = 1 → y4 < 0 → ∀ w : Nat, ↑w < y5 → ¬ ((Gi g 356 (125 + 10 * w)).toInt = y1 ∧ WR (Gi g 356) w)) (hmu : (24 - y5) * 1 + 0 < (n : Int) + 1) (ih6 : ∀ (V : InvR P g) (x1 : Int32) (y1 : Int) (hx1 : x1.toInt = y1) (x2 : Int32) (y2 : Int) (hx2 : x2.toInt = y2) (x3 : Int32) (y3 : Int) (hx3 : x3.toInt = y3) (hf3 : 0 ≤ y3 ∧ y3 ≤ 1) (x4 : Int32) (y4 : Int) (hx4 : x4.toInt = y4) (hf4 : (-1) ≤ y4 ∧ y4 ≤ 23) (x5 : Int32) (y5 : Int) (hx5 : x5.toInt = y5) (hf5 : 0 ≤ y5 ∧ y5 ≤ 24) (o6 : Option Value) (hq0 : y3 = 1 → 0 ≤ y4 → SY (Gi g 356) (y1)) (hq1 : y3 = 1 → y4 < 0 → ∀ w : Nat, ↑w < y5 → ¬ ((Gi g 356 (125 + 10 * w)).toInt = y1 ∧ WR (Gi g 356) w)), (24 - y5) * 1 + 0 < (n : Int) → LW 256 (d + 16) 0 0 6 [some (.ref 355), some (.int x1), some (.int x2), some (.int x3), some (.int x4), some (.int x5), o6] [] g (fun v g' => ∃ r : Int32, v = some (.int r) ∧ (-1) ≤ r.toInt ∧ r.toInt ≤ 23 ∧ g = g' ∧ (y3 = 1 → (0 ≤ r.toInt → SY (Gi g 356) (y1)) ∧ (SY (Gi g 356) (y1) → 0 ≤ r.toInt)))) : LW 256 (d + 16) 0 0 6 [some (.ref 355), some (.int x1), some (.int x2), some (.int x3), some (.int x4), some (.int x5), o6] [] g (fun v g' => ∃ r : Int32, v = some (.int r) ∧ (-1) ≤ r.toInt ∧ r.toInt ≤ 23 ∧ g = g' ∧ (y3 = 1 → (0 ≤ r.toInt → SY (Gi g 356) (y1)) ∧ (SY (Gi g 356) (y1) → 0 ≤ r.toInt))) := by
  refine X_iload rfl rfl rfl ?_
  refine X_aload_n rfl rfl rfl rfl ?_
  refine X_getR (a := 356) rfl rfl rfl ((congrFun V.1 355).trans s_355) rfl ((congrFun (V.2.1 355 (by decide)) 0).trans r_355_0) ?_
  refine X_iconst (v := (0 : Int32)) rfl rfl rfl ?_
  refine S_iald rfl rfl ((congrFun V.1 356).trans s_356) (show (0 : Int32).toInt = 0 from rfl) (by omega) (fun vz1 evz1 => ?_)
  have evz1 : Gi g 356 0 = vz1 := evz1
  have vf2 := A_WORDS (V.2.2.2.1 (0)) (by omega)
  rw [evz1] at vf2
  refine S_icmp_ge (tgt := 96) rfl rfl rfl hx5 rfl (fun vh3 => ?_) (fun vh3 => ?_)
  · refine X_iload rfl rfl rfl ?_
    have hr := hx4
    exact LW_ireturn (st := []) rfl rfl rfl ⟨_, rfl, by omega, by omega, rfl, (by
        intro h3
        refine ⟨fun h0 => hq0 h3 (by omega), fun hs => ?_⟩
        by_cases hlt : y4 < 0
        · obtain ⟨w, hw1, hw2, hw3⟩ := hs
          rw [evz1] at hw1
          exact absurd ⟨hw2, hw3⟩ (hq1 h3 hlt w (by omega))
        · omega)⟩
  · refine X_aload_n rfl rfl rfl rfl ?_
    refine X_iload rfl rfl rfl ?_
    refine X_callV (as := [.int x5]) (st := []) rfl rfl rfl (by decide) rfl (Nat.le_of_ble_eq_true rfl) (by decide) (Nat.le_of_ble_eq_true rfl) rfl ((congrFun V.1 355).trans s_355) (by decide) ?_
    refine LW_ls (ls' := [some (.ref 355), some (.int x5)]) rfl ?_
    refine X_aload_n rfl rfl rfl rfl ?_
    refine X_getR (a := 356) rfl rfl rfl ((congrFun V.1 355).trans s_355) rfl ((congrFun (V.2.1 355 (by decide)) 0).trans r_355_0) ?_
    refine X_bipush (v := (116 : Int32)) rfl rfl rfl ?_
    refine X_bipush (v := (10 : Int32)) rfl rfl rfl ?_
    refine X_iload_n rfl rfl rfl rfl ?_
    refine S_imul rfl rfl (show (10 : Int32).toInt = 10 from rfl) hx5 (by omega) (fun vz4 hvz4 => ?_)
    refine S_iadd rfl rfl (show (116 : Int32).toInt = 116 from rfl) rfl (by omega) (fun vz5 hvz5 => ?_)
    refine X_bipush (v := (9 : Int32)) rfl rfl rfl ?_
    refine S_iadd rfl rfl rfl (show (9 : Int32).toInt = 9 from rfl) (by omega) (fun vz6 hvz6 => ?_)
    refine S_iald rfl rfl ((congrFun V.1 356).trans s_356) rfl (by omega) (fun vz7 evz7 => ?_)
    refine LW_ireturn (st := []) rfl rfl rfl ?_
    refine X_iload_n rfl rfl rfl rfl ?_
    refine S_icmp_eq (tgt := 30) rfl rfl rfl rfl hx1 (fun vh8 => ?_) (fun vh8 => ?_)
    · refine X_iload_n rfl rfl rfl rfl ?_
      refine S_if_eq (tgt := 43) rfl rfl rfl hx3 (fun vh9 => ?_) (fun vh9 => ?_)
      · refine X_aload_n rfl rfl rfl rfl ?_
        refine X_iload rfl rfl rfl ?_
        refine Y_callV (as := [.int x5]) (st := []) rfl rfl rfl (by decide) rfl (Nat.le_of_ble_eq_true rfl) (by decide) (Nat.le_of_ble_eq_true rfl) rfl ((congrFun V.1 355).trans s_355) (by decide) (C_X13_setOf V x5 y5 hx5 (by omega) ) ?_
        rintro _ g' ⟨vr10, rfl, hgg⟩
        subst hgg
        refine X_iload_n rfl rfl rfl rfl ?_
        refine S_iandT rfl rfl (fun vz11 => ?_)
        refine S_if_ne (tgt := 58) rfl rfl rfl rfl (fun vh12 => ?_) (fun vh12 => ?_)
        · refine X_iconst (v := (0 : Int32)) rfl rfl rfl ?_
          refine X_istore (i := 6) (ls' := [some (.ref 355), some (.int x1), some (.int x2), some (.int x3), some (.int x4), some (.int x5), some (.int (0 : Int32))]) rfl rfl (Nat.le_of_ble_eq_true rfl) rfl ?_
          refine X_iload rfl rfl rfl ?_
          refine S_if_eq (tgt := 90) rfl rfl rfl (show (0 : Int32).toInt = 0 from rfl) (fun vh13 => ?_) (fun q => absurd q (by omega))
          refine S_iinc (c := 1) rfl rfl rfl hx5 rfl (by omega) (fun vz14 hvz14 => ?_)
          refine LW_ls (ls' := [some (.ref 355), some (.int x1), some (.int x2), some (.int x3), some (.int x4), some (.int vz14), some (.int (0 : Int32))]) rfl ?_
          refine LW_goto (tgt := 6) rfl rfl ?_
          exact ih6 V x1 y1 hx1 x2 y2 hx2 x3 y3 hx3 (by omega) x4 y4 hx4 (by omega) vz14 vz14.toInt rfl (by omega) (some (.int (0 : Int32)))  (by
        exact fun h3 => absurd h3 (by omega)) (by
        exact fun h3 => absurd h3 (by omega))  (by omega)
        · refine X_iconst (v := (1 : Int32)) rfl rfl rfl ?_
          refine LW_goto (tgt := 59) rfl rfl ?_
          refine X_istore (i := 6) (ls' := [some (.ref 355), some (.int x1), some (.int x2), some (.int x3), some (.int x4), some (.int x5), some (.int (1 : Int32))]) rfl rfl (Nat.le_of_ble_eq_true rfl) rfl ?_
          refine X_iload rfl rfl rfl ?_
          refine S_if_eq (tgt := 90) rfl rfl rfl (show (1 : Int32).toInt = 1 from rfl) (fun q => absurd q (by omega)) (fun vh15 => ?_)
          refine X_iload rfl rfl rfl ?_
          refine S_if_lt (tgt := 86) rfl rfl rfl hx4 (fun vh16 => ?_) (fun vh16 => ?_)
          · refine X_iload rfl rfl rfl ?_
            refine X_istore (i := 4) (ls' := [some (.ref 355), some (.int x1), some (.int x2), some (.int x3), some (.int x5), some (.int x5), some (.int (1 : Int32))]) rfl rfl (Nat.le_of_ble_eq_true rfl) rfl ?_
            refine S_iinc (c := 1) rfl rfl rfl hx5 rfl (by omega) (fun vz17 hvz17 => ?_)
            refine LW_ls (ls' := [some (.ref 355), some (.int x1), some (.int x2), some (.int x3), some (.int x5), some (.int vz17), some (.int (1 : Int32))]) rfl ?_
            refine LW_goto (tgt := 6) rfl rfl ?_
            exact ih6 V x1 y1 hx1 x2 y2 hx2 x3 y3 hx3 (by omega) x5 y5 hx5 (by omega) vz17 vz17.toInt rfl (by omega) (some (.int (1 : Int32)))  (by
        exact fun h3 => absurd h3 (by omega)) (by
        exact fun h3 => absurd h3 (by omega))  (by omega)
          · refine X_aload_n rfl rfl rfl rfl ?_
            refine X_iload rfl rfl rfl ?_
            refine X_callV (as := [.int x5]) (st := []) rfl rfl rfl (by decide) rfl (Nat.le_of_ble_eq_true rfl) (by decide) (Nat.le_of_ble_eq_true rfl) rfl ((congrFun V.1 355).trans s_355) (by decide) ?_
            refine LW_ls (ls' := [some (.ref 355), some (.int x5)]) rfl ?_
            refine X_aload_n rfl rfl rfl rfl ?_
            refine X_getR (a := 356) rfl rfl rfl ((congrFun V.1 355).trans s_355) rfl ((congrFun (V.2.1 355 (by decide)) 0).trans r_355_0) ?_
            refine X_bipush (v := (116 : Int32)) rfl rfl rfl ?_
            refine X_bipush (v := (10 : Int32)) rfl rfl rfl ?_
            refine X_iload_n rfl rfl rfl rfl ?_
            refine S_imul rfl rfl (show (10 : Int32).toInt = 10 from rfl) hx5 (by omega) (fun vz18 hvz18 => ?_)
            refine S_iadd rfl rfl (show (116 : Int32).toInt = 116 from rfl) rfl (by omega) (fun vz19 hvz19 => ?_)
            refine X_bipush (v := (8 : Int32)) rfl rfl rfl ?_
            refine S_iadd rfl rfl rfl (show (8 : Int32).toInt = 8 from rfl) (by omega) (fun vz20 hvz20 => ?_)
            refine S_iald rfl rfl ((congrFun V.1 356).trans s_356) rfl (by omega) (fun vz21 evz21 => ?_)
            have vf22 := A_LENGTH (V.2.2.2.1 ((vz20.toInt : Int).toNat)) (by omega)
            rw [evz21] at vf22
            refine LW_ireturn (st := []) rfl rfl rfl ?_
            refine X_aload_n rfl rfl rfl rfl ?_
            refine X_iload rfl rfl rfl ?_
            refine X_callV (as := [.int x4]) (st := [.int vz21]) rfl rfl rfl (by decide) rfl (Nat.le_of_ble_eq_true rfl) (by decide) (Nat.le_of_ble_eq_true rfl) rfl ((congrFun V.1 355).trans s_355) (by decide) ?_
            refine LW_ls (ls' := [some (.ref 355), some (.int x4)]) rfl ?_
            refine X_aload_n rfl rfl rfl rfl ?_
            refine X_getR (a := 356) rfl rfl rfl ((congrFun V.1 355).trans s_355) rfl ((congrFun (V.2.1 355 (by decide)) 0).trans r_355_0) ?_
            refine X_bipush (v := (116 : Int32)) rfl rfl rfl ?_
            refine X_bipush (v := (10 : Int32)) rfl rfl rfl ?_
            refine X_iload_n rfl rfl rfl rfl ?_
            refine S_imul rfl rfl (show (10 : Int32).toInt = 10 from rfl) hx4 (by omega) (fun vz23 hvz23 => ?_)
            refine S_iadd rfl rfl (show (116 : Int32).toInt = 116 from rfl) rfl (by omega) (fun vz24 hvz24 => ?_)
            refine X_bipush (v := (8 : Int32)) rfl rfl rfl ?_
            refine S_iadd rfl rfl rfl (show (8 : Int32).toInt = 8 from rfl) (by omega) (fun vz25 hvz25 => ?_)
            refine S_iald rfl rfl ((congrFun V.1 356).trans s_356) rfl (by omega) (fun vz26 evz26 => ?_)
            have vf27 := A_LENGTH (V.2.2.2.1 ((vz25.toInt : Int).toNat)) (by omega)
            rw [evz26] at vf27
            refine LW_ireturn (st := []) rfl rfl rfl ?_
            refine S_icmp_ge (tgt := 90) rfl rfl rfl rfl rfl (fun vh28 => ?_) (fun vh28 => ?_)
            · refine S_iinc (c := 1) rfl rfl rfl hx5 rfl (by omega) (fun vz29 hvz29 => ?_)
              refine LW_ls (ls' := [some (.ref 355), some (.int x1), some (.int x2), some (.int x3), some (.int x4), some (.int vz29), some (.int (1 : Int32))]) rfl ?_
              refine LW_goto (tgt := 6) rfl rfl ?_
              exact ih6 V x1 y1 hx1 x2 y2 hx2 x3 y3 hx3 (by omega) x4 y4 hx4 (by omega) vz29 vz29.toInt rfl (by omega) (some (.int (1 : Int32)))  (by
        exact fun h3 => absurd h3 (by omega)) (by
        exact fun h3 => absurd h3 (by omega))  (by omega)
            · refine X_iload rfl rfl rfl ?_
              refine X_istore (i := 4) (ls' := [some (.ref 355), some (.int x1), some (.int x2), some (.int x3), some (.int x5), some (.int x5), some (.int (1 : Int32))]) rfl rfl (Nat.le_of_ble_eq_true rfl) rfl ?_
              refine S_iinc (c := 1) rfl rfl rfl hx5 rfl (by omega) (fun vz30 hvz30 => ?_)
              refine LW_ls (ls' := [some (.ref 355), some (.int x1), some (.int x2), some (.int x3), some (.int x5), some (.int vz30), some (.int (1 : Int32))]) rfl ?_
              refine LW_goto (tgt := 6) rfl rfl ?_
              exact ih6 V x1 y1 hx1 x2 y2 hx2 x3 y3 hx3 (by omega) x5 y5 hx5 (by omega) vz30 vz30.toInt rfl (by omega) (some (.int (1 : Int32)))  (by
        exact fun h3 => absurd h3 (by omega)) (by
        exact fun h3 => absurd h3 (by omega))  (by omega)
      · refine X_aload_n rfl rfl rfl rfl ?_
        refine X_iload rfl rfl rfl ?_
        refine Y_callV (as := [.int x5]) (st := []) rfl rfl rfl (by decide) rfl (Nat.le_of_ble_eq_true rfl) (by decide) (Nat.le_of_ble_eq_true rfl) rfl ((congrFun V.1 355).trans s_355) (by decide) (C_X13_isWritten V x5 y5 hx5 (by omega) ) ?_
        rintro _ g' ⟨vr31, rfl, hrvr310, hrvr311, hgg, vq32⟩
        subst hgg
        refine LW_goto (tgt := 59) rfl rfl ?_
        refine X_istore (i := 6) (ls' := [some (.ref 355), some (.int x1), some (.int x2), some (.int x3), some (.int x4), some (.int x5), some (.int vr31)]) rfl rfl (Nat.le_of_ble_eq_true rfl) rfl ?_
        refine X_iload rfl rfl rfl ?_
        refine S_if_eq (tgt := 90) rfl rfl rfl rfl (fun vh33 => ?_) (fun vh33 => ?_)
        · refine S_iinc (c := 1) rfl rfl rfl hx5 rfl (by omega) (fun vz34 hvz34 => ?_)
          refine LW_ls (ls' := [some (.ref 355), some (.int x1), some (.int x2), some (.int x3), some (.int x4), some (.int vz34), some (.int vr31)]) rfl ?_
          refine LW_goto (tgt := 6) rfl rfl ?_
          exact ih6 V x1 y1 hx1 x2 y2 hx2 x3 y3 hx3 (by omega) x4 y4 hx4 (by omega) vz34 vz34.toInt rfl (by omega) (some (.int vr31))  (by
        exact hq0) (by
        intro h3 hlt w hw hh
        by_cases hw2 : ↑w < y5
        · exact hq1 h3 hlt w hw2 hh
        · have hw3 := hh.2
          rw [show w = Int.toNat y5 by omega] at hw3
          have hw4 := vq32.2 hw3
          omega)  (by omega)
        · refine X_iload rfl rfl rfl ?_
          refine S_if_lt (tgt := 86) rfl rfl rfl hx4 (fun vh35 => ?_) (fun vh35 => ?_)
          · refine X_iload rfl rfl rfl ?_
            refine X_istore (i := 4) (ls' := [some (.ref 355), some (.int x1), some (.int x2), some (.int x3), some (.int x5), some (.int x5), some (.int vr31)]) rfl rfl (Nat.le_of_ble_eq_true rfl) rfl ?_
            refine S_iinc (c := 1) rfl rfl rfl hx5 rfl (by omega) (fun vz36 hvz36 => ?_)
            refine LW_ls (ls' := [some (.ref 355), some (.int x1), some (.int x2), some (.int x3), some (.int x5), some (.int vz36), some (.int vr31)]) rfl ?_
            refine LW_goto (tgt := 6) rfl rfl ?_
            exact ih6 V x1 y1 hx1 x2 y2 hx2 x3 y3 hx3 (by omega) x5 y5 hx5 (by omega) vz36 vz36.toInt rfl (by omega) (some (.int vr31))  (by
        intro h3 _
        refine ⟨Int.toNat y5, by rw [evz1]; omega, ?_, vq32.1 (by omega)⟩
        rw [show 125 + 10 * Int.toNat y5 = Int.toNat vz6.toInt by omega, evz7]
        omega) (by
        exact fun h3 hlt => absurd hlt (by omega))  (by omega)
          · refine X_aload_n rfl rfl rfl rfl ?_
            refine X_iload rfl rfl rfl ?_
            refine X_callV (as := [.int x5]) (st := []) rfl rfl rfl (by decide) rfl (Nat.le_of_ble_eq_true rfl) (by decide) (Nat.le_of_ble_eq_true rfl) rfl ((congrFun V.1 355).trans s_355) (by decide) ?_
            refine LW_ls (ls' := [some (.ref 355), some (.int x5)]) rfl ?_
            refine X_aload_n rfl rfl rfl rfl ?_
            refine X_getR (a := 356) rfl rfl rfl ((congrFun V.1 355).trans s_355) rfl ((congrFun (V.2.1 355 (by decide)) 0).trans r_355_0) ?_
            refine X_bipush (v := (116 : Int32)) rfl rfl rfl ?_
            refine X_bipush (v := (10 : Int32)) rfl rfl rfl ?_
            refine X_iload_n rfl rfl rfl rfl ?_
            refine S_imul rfl rfl (show (10 : Int32).toInt = 10 from rfl) hx5 (by omega) (fun vz37 hvz37 => ?_)
            refine S_iadd rfl rfl (show (116 : Int32).toInt = 116 from rfl) rfl (by omega) (fun vz38 hvz38 => ?_)
            refine X_bipush (v := (8 : Int32)) rfl rfl rfl ?_
            refine S_iadd rfl rfl rfl (show (8 : Int32).toInt = 8 from rfl) (by omega) (fun vz39 hvz39 => ?_)
            refine S_iald rfl rfl ((congrFun V.1 356).trans s_356) rfl (by omega) (fun vz40 evz40 => ?_)
            have vf41 := A_LENGTH (V.2.2.2.1 ((vz39.toInt : Int).toNat)) (by omega)
            rw [evz40] at vf41
            refine LW_ireturn (st := []) rfl rfl rfl ?_
            refine X_aload_n rfl rfl rfl rfl ?_
            refine X_iload rfl rfl rfl ?_
            refine X_callV (as := [.int x4]) (st := [.int vz40]) rfl rfl rfl (by decide) rfl (Nat.le_of_ble_eq_true rfl) (by decide) (Nat.le_of_ble_eq_true rfl) rfl ((congrFun V.1 355).trans s_355) (by decide) ?_
            refine LW_ls (ls' := [some (.ref 355), some (.int x4)]) rfl ?_
            refine X_aload_n rfl rfl rfl rfl ?_
            refine X_getR (a := 356) rfl rfl rfl ((congrFun V.1 355).trans s_355) rfl ((congrFun (V.2.1 355 (by decide)) 0).trans r_355_0) ?_
            refine X_bipush (v := (116 : Int32)) rfl rfl rfl ?_
            refine X_bipush (v := (10 : Int32)) rfl rfl rfl ?_
            refine X_iload_n rfl rfl rfl rfl ?_
            refine S_imul rfl rfl (show (10 : Int32).toInt = 10 from rfl) hx4 (by omega) (fun vz42 hvz42 => ?_)
            refine S_iadd rfl rfl (show (116 : Int32).toInt = 116 from rfl) rfl (by omega) (fun vz43 hvz43 => ?_)
            refine X_bipush (v := (8 : Int32)) rfl rfl rfl ?_
            refine S_iadd rfl rfl rfl (show (8 : Int32).toInt = 8 from rfl) (by omega) (fun vz44 hvz44 => ?_)
            refine S_iald rfl rfl ((congrFun V.1 356).trans s_356) rfl (by omega) (fun vz45 evz45 => ?_)
            have vf46 := A_LENGTH (V.2.2.2.1 ((vz44.toInt : Int).toNat)) (by omega)
            rw [evz45] at vf46
            refine LW_ireturn (st := []) rfl rfl rfl ?_
            refine S_icmp_ge (tgt := 90) rfl rfl rfl rfl rfl (fun vh47 => ?_) (fun vh47 => ?_)
            · refine S_iinc (c := 1) rfl rfl rfl hx5 rfl (by omega) (fun vz48 hvz48 => ?_)
              refine LW_ls (ls' := [some (.ref 355), some (.int x1), some (.int x2), some (.int x3), some (.int x4), some (.int vz48), some (.int vr31)]) rfl ?_
              refine LW_goto (tgt := 6) rfl rfl ?_
              exact ih6 V x1 y1 hx1 x2 y2 hx2 x3 y3 hx3 (by omega) x4 y4 hx4 (by omega) vz48 vz48.toInt rfl (by omega) (some (.int vr31))  (by
        exact hq0) (by
        exact fun h3 hlt => absurd hlt (by omega))  (by omega)
            · refine X_iload rfl rfl rfl ?_
              refine X_istore (i := 4) (ls' := [some (.ref 355), some (.int x1), some (.int x2), some (.int x3), some (.int x5), some (.int x5), some (.int vr31)]) rfl rfl (Nat.le_of_ble_eq_true rfl) rfl ?_
              refine S_iinc (c := 1) rfl rfl rfl hx5 rfl (by omega) (fun vz49 hvz49 => ?_)
              refine LW_ls (ls' := [some (.ref 355), some (.int x1), some (.int x2), some (.int x3), some (.int x5), some (.int vz49), some (.int vr31)]) rfl ?_
              refine LW_goto (tgt := 6) rfl rfl ?_
              exact ih6 V x1 y1 hx1 x2 y2 hx2 x3 y3 hx3 (by omega) x5 y5 hx5 (by omega) vz49 vz49.toInt rfl (by omega) (some (.int vr31))  (by
        intro h3 _
        refine ⟨Int.toNat y5, by rw [evz1]; omega, ?_, vq32.1 (by omega)⟩
        rw [show 125 + 10 * Int.toNat y5 = Int.toNat vz6.toInt by omega, evz7]
        omega) (by
        exact fun h3 hlt => absurd hlt (by omega))  (by omega)
    · refine LW_goto (tgt := 90) rfl rfl ?_
      refine S_iinc (c := 1) rfl rfl rfl hx5 rfl (by omega) (fun vz50 hvz50 => ?_)
      refine LW_ls (ls' := [some (.ref 355), some (.int x1), some (.int x2), some (.int x3), some (.int x4), some (.int vz50), o6]) rfl ?_
      refine LW_goto (tgt := 6) rfl rfl ?_
      exact ih6 V x1 y1 hx1 x2 y2 hx2 x3 y3 hx3 (by omega) x4 y4 hx4 (by omega) vz50 vz50.toInt rfl (by omega) o6  (by
        exact hq0) (by
        intro h3 hlt w hw hh
        by_cases hw2 : ↑w < y5
        · exact hq1 h3 hlt w hw2 hh
        · have hw3 := hh.1
          rw [show 125 + 10 * w = Int.toNat vz6.toInt by omega, evz7] at hw3
          omega)  (by omega)
theorem C_X13_wordFor_all {P : Par} {g : LH} {d : Nat}  : ∀ n : Nat, (∀ (V : InvR P g) (x1 : Int32) (y1 : Int) (hx1 : x1.toInt = y1) (x2 : Int32) (y2 : Int) (hx2 : x2.toInt = y2) (x3 : Int32) (y3 : Int) (hx3 : x3.toInt = y3) (hf3 : 0 ≤ y3 ∧ y3 ≤ 1) (x4 : Int32) (y4 : Int) (hx4 : x4.toInt = y4) (hf4 : (-1) ≤ y4 ∧ y4 ≤ 23) (x5 : Int32) (y5 : Int) (hx5 : x5.toInt = y5) (hf5 : 0 ≤ y5 ∧ y5 ≤ 24) (o6 : Option Value) (hq0 : y3 = 1 → 0 ≤ y4 → SY (Gi g 356) (y1)) (hq1 : y3 = 1 → y4 < 0 → ∀ w : Nat, ↑w < y5 → ¬ ((Gi g 356 (125 + 10 * w)).toInt = y1 ∧ WR (Gi g 356) w)), (24 - y5) * 1 + 0 < (n : Int) → LW 256 (d + 16) 0 0 6 [some (.ref 355), some (.int x1), some (.int x2), some (.int x3), some (.int x4), some (.int x5), o6] [] g (fun v g' => ∃ r : Int32, v = some (.int r) ∧ (-1) ≤ r.toInt ∧ r.toInt ≤ 23 ∧ g = g' ∧ (y3 = 1 → (0 ≤ r.toInt → SY (Gi g 356) (y1)) ∧ (SY (Gi g 356) (y1) → 0 ≤ r.toInt)))) := by
  intro n
  induction n with
  | zero => exact fun V x1 y1 hx1 x2 y2 hx2 x3 y3 hx3 hf3 x4 y4 hx4 hf4 x5 y5 hx5 hf5 o6 hq0 hq1 hmu => absurd hmu (by omega)
  | succ n ih => exact fun V x1 y1 hx1 x2 y2 hx2 x3 y3 hx3 hf3 x4 y4 hx4 hf4 x5 y5 hx5 hf5 o6 hq0 hq1 hmu => C_X13_wordFor_6  V x1 y1 hx1 x2 y2 hx2 x3 y3 hx3 hf3 x4 y4 hx4 hf4 x5 y5 hx5 hf5 o6 hq0 hq1 (by omega) ih
set_option maxRecDepth 10000 in
set_option maxHeartbeats 40000000 in
theorem C_X13_wordFor {P : Par} {g : LH} {d : Nat}  (V : InvR P g) (x1 : Int32) (y1 : Int) (hx1 : x1.toInt = y1) (x2 : Int32) (y2 : Int) (hx2 : x2.toInt = y2) (x3 : Int32) (y3 : Int) (hx3 : x3.toInt = y3) (hf3 : 0 ≤ y3 ∧ y3 ≤ 1)   : LW 256 (d + 16) 0 0 0 (lEnt (mL 256) [.ref 355, .int x1, .int x2, .int x3]) [] g (fun v g' => ∃ r : Int32, v = some (.int r) ∧ (-1) ≤ r.toInt ∧ r.toInt ≤ 23 ∧ g = g' ∧ (y3 = 1 → (0 ≤ r.toInt → SY (Gi g 356) (y1)) ∧ (SY (Gi g 356) (y1) → 0 ≤ r.toInt))) := by
  refine LW_ls (ls' := [some (.ref 355), some (.int x1), some (.int x2), some (.int x3), none, none, none]) rfl ?_
  refine X_iconst (v := (-1 : Int32)) rfl rfl rfl ?_
  refine X_istore (i := 4) (ls' := [some (.ref 355), some (.int x1), some (.int x2), some (.int x3), some (.int (-1 : Int32)), none, none]) rfl rfl (Nat.le_of_ble_eq_true rfl) rfl ?_
  refine X_iconst (v := (0 : Int32)) rfl rfl rfl ?_
  refine X_istore (i := 5) (ls' := [some (.ref 355), some (.int x1), some (.int x2), some (.int x3), some (.int (-1 : Int32)), some (.int (0 : Int32)), none]) rfl rfl (Nat.le_of_ble_eq_true rfl) rfl ?_
  exact (C_X13_wordFor_all (((24 - 0) * 1 + 0) + 1 : Int).toNat) V x1 y1 hx1 x2 y2 hx2 x3 y3 hx3 (by omega) (-1 : Int32) (-1) (show (-1 : Int32).toInt = -1 from rfl) (by omega) (0 : Int32) 0 (show (0 : Int32).toInt = 0 from rfl) (by omega) none  (by
        exact fun h3 h0 => absurd h0 (by omega)) (by
        exact fun _ _ w hw => absurd hw (by omega))  (by omega)
set_option maxRecDepth 10000 in
set_option maxHeartbeats 40000000 in
theorem C_X13_canSay_3 {P : Par} {g : LH} {d n : Nat}  (V : InvR P g) (x1 : Int32) (y1 : Int) (hx1 : x1.toInt = y1) (hf1 : 0 ≤ y1 ∧ y1 ≤ 7) (x2 : Int32) (y2 : Int) (hx2 : x2.toInt = y2) (x3 : Int32) (y3 : Int) (hx3 : x3.toInt = y3) (hf3 : 0 ≤ y3 ∧ y3 ≤ 1) (x4 : Int32) (y4 : Int) (hx4 : x4.toInt = y4) (hf4 : 0 ≤ y4 ∧ y4 ≤ 8) (hq0 : y3 = 1 → ∀ k : Nat, ↑k < y4 → SY (Gi g 356) (Gi g 356 (357 + 9 * Int.toNat (y1) + k)).toInt) (hmu : (8 - y4) * 1 + 0 < (n : Int) + 1) (ih3 : ∀ (V : InvR P g) (x1 : Int32) (y1 : Int) (hx1 : x1.toInt = y1) (hf1 : 0 ≤ y1 ∧ y1 ≤ 7) (x2 : Int32) (y2 : Int) (hx2 : x2.toInt = y2) (x3 : Int32) (y3 : Int) (hx3 : x3.toInt = y3) (hf3 : 0 ≤ y3 ∧ y3 ≤ 1) (x4 : Int32) (y4 : Int) (hx4 : x4.toInt = y4) (hf4 : 0 ≤ y4 ∧ y4 ≤ 8) (hq0 : y3 = 1 → ∀ k : Nat, ↑k < y4 → SY (Gi g 356) (Gi g 356 (357 + 9 * Int.toNat (y1) + k)).toInt), (8 - y4) * 1 + 0 < (n : Int) → LW 257 (d + 24) 0 0 3 [some (.ref 355), some (.int x1), some (.int x2), some (.int x3), some (.int x4)] [] g (fun v g' => ∃ r : Int32, v = some (.int r) ∧ 0 ≤ r.toInt ∧ r.toInt ≤ 1 ∧ g = g' ∧ (y3 = 1 → r.toInt = 1 → SS (Gi g 356) (Int.toNat (y1))))) : LW 257 (d + 24) 0 0 3 [some (.ref 355), some (.int x1), some (.int x2), some (.int x3), some (.int x4)] [] g (fun v g' => ∃ r : Int32, v = some (.int r) ∧ 0 ≤ r.toInt ∧ r.toInt ≤ 1 ∧ g = g' ∧ (y3 = 1 → r.toInt = 1 → SS (Gi g 356) (Int.toNat (y1)))) := by
  refine X_iload rfl rfl rfl ?_
  refine X_aload_n rfl rfl rfl rfl ?_
  refine X_iload_n rfl rfl rfl rfl ?_
  refine X_callV (as := [.int x1]) (st := [.int x4]) rfl rfl rfl (by decide) rfl (Nat.le_of_ble_eq_true rfl) (by decide) (Nat.le_of_ble_eq_true rfl) rfl ((congrFun V.1 355).trans s_355) (by decide) ?_
  refine LW_ls (ls' := [some (.ref 355), some (.int x1)]) rfl ?_
  refine X_aload_n rfl rfl rfl rfl ?_
  refine X_getR (a := 356) rfl rfl rfl ((congrFun V.1 355).trans s_355) rfl ((congrFun (V.2.1 355 (by decide)) 0).trans r_355_0) ?_
  refine X_sipush (v := (356 : Int32)) rfl rfl rfl ?_
  refine X_bipush (v := (9 : Int32)) rfl rfl rfl ?_
  refine X_iload_n rfl rfl rfl rfl ?_
  refine S_imul rfl rfl (show (9 : Int32).toInt = 9 from rfl) hx1 (by omega) (fun vz1 hvz1 => ?_)
  refine S_iadd rfl rfl (show (356 : Int32).toInt = 356 from rfl) rfl (by omega) (fun vz2 hvz2 => ?_)
  refine S_iald rfl rfl ((congrFun V.1 356).trans s_356) rfl (by omega) (fun vz3 evz3 => ?_)
  have vf4 := A_SCOUNT (V.2.2.2.1 ((vz2.toInt : Int).toNat)) (by omega)
  rw [evz3] at vf4
  refine LW_ireturn (st := []) rfl rfl rfl ?_
  refine S_icmp_ge (tgt := 37) rfl rfl rfl hx4 rfl (fun vh5 => ?_) (fun vh5 => ?_)
  · refine X_iconst (v := (1 : Int32)) rfl rfl rfl ?_
    exact LW_ireturn (st := []) rfl rfl rfl ⟨_, rfl, by decide, by decide, rfl, (by
        intro h3 _ k hk
        rw [show 356 + 9 * Int.toNat y1 = Int.toNat vz2.toInt by omega, evz3] at hk
        exact hq0 h3 k (by omega))⟩
  · refine X_aload_n rfl rfl rfl rfl ?_
    refine X_aload_n rfl rfl rfl rfl ?_
    refine X_iload_n rfl rfl rfl rfl ?_
    refine X_iload rfl rfl rfl ?_
    refine X_callV (as := [.int x1, .int x4]) (st := [.ref 355]) rfl rfl rfl (by decide) rfl (Nat.le_of_ble_eq_true rfl) (by decide) (Nat.le_of_ble_eq_true rfl) rfl ((congrFun V.1 355).trans s_355) (by decide) ?_
    refine LW_ls (ls' := [some (.ref 355), some (.int x1), some (.int x4)]) rfl ?_
    refine X_aload_n rfl rfl rfl rfl ?_
    refine X_getR (a := 356) rfl rfl rfl ((congrFun V.1 355).trans s_355) rfl ((congrFun (V.2.1 355 (by decide)) 0).trans r_355_0) ?_
    refine X_sipush (v := (356 : Int32)) rfl rfl rfl ?_
    refine X_bipush (v := (9 : Int32)) rfl rfl rfl ?_
    refine X_iload_n rfl rfl rfl rfl ?_
    refine S_imul rfl rfl (show (9 : Int32).toInt = 9 from rfl) hx1 (by omega) (fun vz6 hvz6 => ?_)
    refine S_iadd rfl rfl (show (356 : Int32).toInt = 356 from rfl) rfl (by omega) (fun vz7 hvz7 => ?_)
    refine X_iconst (v := (1 : Int32)) rfl rfl rfl ?_
    refine S_iadd rfl rfl rfl (show (1 : Int32).toInt = 1 from rfl) (by omega) (fun vz8 hvz8 => ?_)
    refine X_iload_n rfl rfl rfl rfl ?_
    refine S_iadd rfl rfl rfl hx4 (by omega) (fun vz9 hvz9 => ?_)
    refine S_iald rfl rfl ((congrFun V.1 356).trans s_356) rfl (by omega) (fun vz10 evz10 => ?_)
    refine LW_ireturn (st := []) rfl rfl rfl ?_
    refine X_iload_n rfl rfl rfl rfl ?_
    refine X_iload_n rfl rfl rfl rfl ?_
    refine Y_callV (as := [.int vz10, .int x2, .int x3]) (st := []) rfl rfl rfl (by decide) rfl (Nat.le_of_ble_eq_true rfl) (by decide) (Nat.le_of_ble_eq_true rfl) rfl ((congrFun V.1 355).trans s_355) (by decide) (C_X13_wordFor V vz10 vz10.toInt rfl x2 y2 hx2 x3 y3 hx3 (by omega) ) ?_
    rintro _ g' ⟨vr11, rfl, hrvr110, hrvr111, hgg, vq12⟩
    subst hgg
    refine S_if_ge (tgt := 31) rfl rfl rfl rfl (fun vh13 => ?_) (fun vh13 => ?_)
    · refine S_iinc (c := 1) rfl rfl rfl hx4 rfl (by omega) (fun vz14 hvz14 => ?_)
      refine LW_ls (ls' := [some (.ref 355), some (.int x1), some (.int x2), some (.int x3), some (.int vz14)]) rfl ?_
      refine LW_goto (tgt := 3) rfl rfl ?_
      exact ih3 V x1 y1 hx1 (by omega) x2 y2 hx2 x3 y3 hx3 (by omega) vz14 vz14.toInt rfl (by omega)  (by
        intro h3 k hk
        by_cases hk2 : ↑k < y4
        · exact hq0 h3 k hk2
        · rw [show 357 + 9 * Int.toNat y1 + k = Int.toNat vz9.toInt by omega, evz10]
          exact (vq12 h3).1 (by omega))  (by omega)
    · refine X_iconst (v := (0 : Int32)) rfl rfl rfl ?_
      exact LW_ireturn (st := []) rfl rfl rfl ⟨_, rfl, by decide, by decide, rfl, (by
        exact fun _ q => absurd q (by decide))⟩
theorem C_X13_canSay_all {P : Par} {g : LH} {d : Nat}  : ∀ n : Nat, (∀ (V : InvR P g) (x1 : Int32) (y1 : Int) (hx1 : x1.toInt = y1) (hf1 : 0 ≤ y1 ∧ y1 ≤ 7) (x2 : Int32) (y2 : Int) (hx2 : x2.toInt = y2) (x3 : Int32) (y3 : Int) (hx3 : x3.toInt = y3) (hf3 : 0 ≤ y3 ∧ y3 ≤ 1) (x4 : Int32) (y4 : Int) (hx4 : x4.toInt = y4) (hf4 : 0 ≤ y4 ∧ y4 ≤ 8) (hq0 : y3 = 1 → ∀ k : Nat, ↑k < y4 → SY (Gi g 356) (Gi g 356 (357 + 9 * Int.toNat (y1) + k)).toInt), (8 - y4) * 1 + 0 < (n : Int) → LW 257 (d + 24) 0 0 3 [some (.ref 355), some (.int x1), some (.int x2), some (.int x3), some (.int x4)] [] g (fun v g' => ∃ r : Int32, v = some (.int r) ∧ 0 ≤ r.toInt ∧ r.toInt ≤ 1 ∧ g = g' ∧ (y3 = 1 → r.toInt = 1 → SS (Gi g 356) (Int.toNat (y1))))) := by
  intro n
  induction n with
  | zero => exact fun V x1 y1 hx1 hf1 x2 y2 hx2 x3 y3 hx3 hf3 x4 y4 hx4 hf4 hq0 hmu => absurd hmu (by omega)
  | succ n ih => exact fun V x1 y1 hx1 hf1 x2 y2 hx2 x3 y3 hx3 hf3 x4 y4 hx4 hf4 hq0 hmu => C_X13_canSay_3  V x1 y1 hx1 hf1 x2 y2 hx2 x3 y3 hx3 hf3 x4 y4 hx4 hf4 hq0 (by omega) ih
set_option maxRecDepth 10000 in
set_option maxHeartbeats 40000000 in
theorem C_X13_canSay {P : Par} {g : LH} {d : Nat}  (V : InvR P g) (x1 : Int32) (y1 : Int) (hx1 : x1.toInt = y1) (hf1 : 0 ≤ y1 ∧ y1 ≤ 7) (x2 : Int32) (y2 : Int) (hx2 : x2.toInt = y2) (x3 : Int32) (y3 : Int) (hx3 : x3.toInt = y3) (hf3 : 0 ≤ y3 ∧ y3 ≤ 1)   : LW 257 (d + 24) 0 0 0 (lEnt (mL 257) [.ref 355, .int x1, .int x2, .int x3]) [] g (fun v g' => ∃ r : Int32, v = some (.int r) ∧ 0 ≤ r.toInt ∧ r.toInt ≤ 1 ∧ g = g' ∧ (y3 = 1 → r.toInt = 1 → SS (Gi g 356) (Int.toNat (y1)))) := by
  refine LW_ls (ls' := [some (.ref 355), some (.int x1), some (.int x2), some (.int x3), none]) rfl ?_
  refine X_iconst (v := (0 : Int32)) rfl rfl rfl ?_
  refine X_istore (i := 4) (ls' := [some (.ref 355), some (.int x1), some (.int x2), some (.int x3), some (.int (0 : Int32))]) rfl rfl (Nat.le_of_ble_eq_true rfl) rfl ?_
  exact (C_X13_canSay_all (((8 - 0) * 1 + 0) + 1 : Int).toNat) V x1 y1 hx1 (by omega) x2 y2 hx2 x3 y3 hx3 (by omega) (0 : Int32) 0 (show (0 : Int32).toInt = 0 from rfl) (by omega)  (by
        exact fun _ k hk => absurd hk (by omega))  (by omega)
