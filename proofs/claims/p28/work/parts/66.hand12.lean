/-! the reference: factorial, isGood -/
set_option maxRecDepth 10000 in
set_option maxHeartbeats 40000000 in
theorem C_X13_factorial_4 {P : Par} {g : LH} {d n : Nat}  (V : InvR P g) (x0 : Int32) (y0 : Int) (hx0 : x0.toInt = y0) (hf0 : (-1) ≤ y0 ∧ y0 ≤ 10) (x1 : Int64) (o2 : Option Value) (x3 : Int32) (y3 : Int) (hx3 : x3.toInt = y3) (hf3 : 2 ≤ y3 ∧ y3 ≤ 11)  (hmu : (11 - y3) * 1 + 0 < (n : Int) + 1) (ih4 : ∀ (V : InvR P g) (x0 : Int32) (y0 : Int) (hx0 : x0.toInt = y0) (hf0 : (-1) ≤ y0 ∧ y0 ≤ 10) (x1 : Int64) (o2 : Option Value) (x3 : Int32) (y3 : Int) (hx3 : x3.toInt = y3) (hf3 : 2 ≤ y3 ∧ y3 ≤ 11) , (11 - y3) * 1 + 0 < (n : Int) → LW 285 (d + 3) 0 0 4 [some (.int x0), some (.long x1), o2, some (.int x3)] [] g (fun v g' => ∃ r : Int64, v = some (.long r) ∧ g = g')) : LW 285 (d + 3) 0 0 4 [some (.int x0), some (.long x1), o2, some (.int x3)] [] g (fun v g' => ∃ r : Int64, v = some (.long r) ∧ g = g') := by
  refine X_iload_n rfl rfl rfl rfl ?_
  refine X_iload_n rfl rfl rfl rfl ?_
  refine S_icmp_gt (tgt := 20) rfl rfl rfl hx3 hx0 (fun vh1 => ?_) (fun vh1 => ?_)
  · refine X_lload_n rfl rfl rfl rfl ?_
    exact LW_lreturn (st := []) rfl rfl ⟨_, rfl, rfl⟩
  · refine X_lload_n rfl rfl rfl rfl ?_
    refine X_iload_n rfl rfl rfl rfl ?_
    refine S_i2lT rfl rfl (fun vz2 => ?_)
    refine S_lmulT rfl rfl (fun vz3 => ?_)
    refine X_lstore_n (i := 1) (ls' := [some (.int x0), some (.long vz3), none, some (.int x3)]) rfl rfl rfl (Nat.le_of_ble_eq_true rfl) rfl ?_
    refine S_iinc (c := 1) rfl rfl rfl hx3 rfl (by omega) (fun vz4 hvz4 => ?_)
    refine LW_ls (ls' := [some (.int x0), some (.long vz3), none, some (.int vz4)]) rfl ?_
    refine LW_goto (tgt := 4) rfl rfl ?_
    exact ih4 V x0 y0 hx0 (by omega) vz3 none vz4 vz4.toInt rfl (by omega)    (by omega)
theorem C_X13_factorial_all {P : Par} {g : LH} {d : Nat}  : ∀ n : Nat, (∀ (V : InvR P g) (x0 : Int32) (y0 : Int) (hx0 : x0.toInt = y0) (hf0 : (-1) ≤ y0 ∧ y0 ≤ 10) (x1 : Int64) (o2 : Option Value) (x3 : Int32) (y3 : Int) (hx3 : x3.toInt = y3) (hf3 : 2 ≤ y3 ∧ y3 ≤ 11) , (11 - y3) * 1 + 0 < (n : Int) → LW 285 (d + 3) 0 0 4 [some (.int x0), some (.long x1), o2, some (.int x3)] [] g (fun v g' => ∃ r : Int64, v = some (.long r) ∧ g = g')) := by
  intro n
  induction n with
  | zero => exact fun V x0 y0 hx0 hf0 x1 o2 x3 y3 hx3 hf3 hmu => absurd hmu (by omega)
  | succ n ih => exact fun V x0 y0 hx0 hf0 x1 o2 x3 y3 hx3 hf3 hmu => C_X13_factorial_4  V x0 y0 hx0 hf0 x1 o2 x3 y3 hx3 hf3 (by omega) ih
set_option maxRecDepth 10000 in
set_option maxHeartbeats 40000000 in
theorem C_X13_factorial {P : Par} {g : LH} {d : Nat}  (V : InvR P g) (x0 : Int32) (y0 : Int) (hx0 : x0.toInt = y0) (hf0 : (-1) ≤ y0 ∧ y0 ≤ 10)   : LW 285 (d + 3) 0 0 0 (lEnt (mL 285) [.int x0]) [] g (fun v g' => ∃ r : Int64, v = some (.long r) ∧ g = g') := by
  refine LW_ls (ls' := [some (.int x0), none, none, none]) rfl ?_
  refine X_lconst (v := (1 : Int64)) rfl rfl rfl ?_
  refine X_lstore_n (i := 1) (ls' := [some (.int x0), some (.long (1 : Int64)), none, none]) rfl rfl rfl (Nat.le_of_ble_eq_true rfl) rfl ?_
  refine X_iconst (v := (2 : Int32)) rfl rfl rfl ?_
  refine X_istore_n (i := 3) (ls' := [some (.int x0), some (.long (1 : Int64)), none, some (.int (2 : Int32))]) rfl rfl rfl (Nat.le_of_ble_eq_true rfl) rfl ?_
  exact (C_X13_factorial_all (((11 - 2) * 1 + 0) + 1 : Int).toNat) V x0 y0 hx0 (by omega) (1 : Int64) none (2 : Int32) 2 (show (2 : Int32).toInt = 2 from rfl) (by omega)    (by omega)
set_option maxRecDepth 10000 in
set_option maxHeartbeats 40000000 in
theorem C_X13_isGood {P : Par} {g : LH} {d : Nat}  (V : InvR P g) (x1 : Int32) (y1 : Int) (hx1 : x1.toInt = y1) (hf1 : 0 ≤ y1 ∧ y1 ≤ 1023) (x2 : Int32) (y2 : Int) (hx2 : x2.toInt = y2) (hf2 : 0 ≤ y2 ∧ y2 ≤ 9)   : LW 294 (d + 4) 0 0 0 (lEnt (mL 294) [.ref 355, .int x1, .int x2]) [] g (fun v g' => ∃ r : Int32, v = some (.int r) ∧ 0 ≤ r.toInt ∧ r.toInt ≤ 1 ∧ g = g') := by
  refine LW_ls (ls' := [some (.ref 355), some (.int x1), some (.int x2)]) rfl ?_
  refine X_iload_n rfl rfl rfl rfl ?_
  refine X_iload_n rfl rfl rfl rfl ?_
  refine X_callS (as := [.int x1, .int x2]) (st := []) rfl rfl rfl (by decide) rfl (Nat.le_of_ble_eq_true rfl) (by decide) (Nat.le_of_ble_eq_true rfl) rfl ?_
  refine LW_ls (ls' := [some (.int x1), some (.int x2)]) rfl ?_
  refine X_iload_n rfl rfl rfl rfl ?_
  refine X_iload_n rfl rfl rfl rfl ?_
  refine S_ishrT rfl rfl (fun vz1 => ?_)
  refine X_iconst (v := (1 : Int32)) rfl rfl rfl ?_
  refine S_iandR (k := 1) rfl rfl rfl (fun vz2 hvz2 => ?_)
  refine X_iconst (v := (1 : Int32)) rfl rfl rfl ?_
  refine S_icmp_ne (tgt := 13) rfl rfl rfl rfl (show (1 : Int32).toInt = 1 from rfl) (fun vh3 => ?_) (fun vh3 => ?_)
  · refine X_iconst (v := (0 : Int32)) rfl rfl rfl ?_
    refine LW_ireturn (st := []) rfl rfl rfl ?_
    refine S_if_ne (tgt := 38) rfl rfl rfl (show (0 : Int32).toInt = 0 from rfl) (fun q => absurd q (by omega)) (fun vh4 => ?_)
    refine X_aload_n rfl rfl rfl rfl ?_
    refine X_getR (a := 368) rfl rfl rfl ((congrFun V.1 355).trans s_355) rfl ((congrFun (V.2.1 355 (by decide)) 31).trans r_355_31) ?_
    refine X_iload_n rfl rfl rfl rfl ?_
    refine X_iconst (v := (1 : Int32)) rfl rfl rfl ?_
    refine X_iload_n rfl rfl rfl rfl ?_
    refine S_shl1 (n := 9) rfl rfl hx2 (by omega) (fun vz5 hvz5 => ?_)
    refine S_ior (n := 10) rfl rfl hx1 rfl (by omega) (by omega) (fun vz6 hvz6 => ?_)
    refine S_zald rfl rfl ((congrFun V.1 368).trans s_368) rfl (by omega) (fun vz7 evz7 => ?_)
    have vf8 := O_368 (V.2.2.2.2.2.2.1 368 ((vz6.toInt : Int).toNat) (Nat.le_of_ble_eq_true rfl))
    rw [evz7] at vf8
    refine S_if_ne (tgt := 38) rfl rfl rfl rfl (fun vh9 => ?_) (fun vh9 => ?_)
    · refine X_iconst (v := (0 : Int32)) rfl rfl rfl ?_
      exact LW_ireturn (st := []) rfl rfl rfl ⟨_, rfl, by decide, by decide, rfl⟩
    · refine X_aload_n rfl rfl rfl rfl ?_
      refine X_getR (a := 369) rfl rfl rfl ((congrFun V.1 355).trans s_355) rfl ((congrFun (V.2.1 355 (by decide)) 32).trans r_355_32) ?_
      refine X_iload_n rfl rfl rfl rfl ?_
      refine X_iconst (v := (1 : Int32)) rfl rfl rfl ?_
      refine X_iload_n rfl rfl rfl rfl ?_
      refine S_shl1 (n := 9) rfl rfl hx2 (by omega) (fun vz10 hvz10 => ?_)
      refine S_ior (n := 10) rfl rfl hx1 rfl (by omega) (by omega) (fun vz11 hvz11 => ?_)
      refine S_zald rfl rfl ((congrFun V.1 369).trans s_369) rfl (by omega) (fun vz12 evz12 => ?_)
      have vf13 := O_369 (V.2.2.2.2.2.2.1 369 ((vz11.toInt : Int).toNat) (Nat.le_of_ble_eq_true rfl))
      rw [evz12] at vf13
      refine S_if_ne (tgt := 38) rfl rfl rfl rfl (fun vh14 => ?_) (fun vh14 => ?_)
      · refine X_iconst (v := (0 : Int32)) rfl rfl rfl ?_
        exact LW_ireturn (st := []) rfl rfl rfl ⟨_, rfl, by decide, by decide, rfl⟩
      · refine X_iconst (v := (1 : Int32)) rfl rfl rfl ?_
        refine LW_goto (tgt := 39) rfl rfl ?_
        exact LW_ireturn (st := []) rfl rfl rfl ⟨_, rfl, by decide, by decide, rfl⟩
  · refine X_iconst (v := (1 : Int32)) rfl rfl rfl ?_
    refine LW_goto (tgt := 14) rfl rfl ?_
    refine LW_ireturn (st := []) rfl rfl rfl ?_
    refine S_if_ne (tgt := 38) rfl rfl rfl (show (1 : Int32).toInt = 1 from rfl) (fun vh15 => ?_) (fun q => absurd q (by omega))
    refine X_iconst (v := (0 : Int32)) rfl rfl rfl ?_
    exact LW_ireturn (st := []) rfl rfl rfl ⟨_, rfl, by decide, by decide, rfl⟩
