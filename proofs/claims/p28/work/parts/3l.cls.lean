/-! the class's methods: each returns and keeps what every state keeps -/
set_option maxRecDepth 10000 in
set_option maxHeartbeats 40000000 in
theorem C_X6_fewestStopping_25 {P : Par} {g : LH} {d n : Nat}  (V : Inv P g) (x1 : Int32) (y1 : Int) (hx1 : x1.toInt = y1) (hf1 : 0 ≤ y1 ∧ y1 ≤ 7) (x2 : Int32) (y2 : Int) (hx2 : x2.toInt = y2) (x3 : Int32) (y3 : Int) (hx3 : x3.toInt = y3) (hf3 : 0 ≤ y3 ∧ y3 ≤ 5) (o4 : Option Value)  (hmu : (5 - y3) * 1 + 0 < (n : Int) + 1) (ih25 : ∀ (V : Inv P g) (x1 : Int32) (y1 : Int) (hx1 : x1.toInt = y1) (hf1 : 0 ≤ y1 ∧ y1 ≤ 7) (x2 : Int32) (y2 : Int) (hx2 : x2.toInt = y2) (x3 : Int32) (y3 : Int) (hx3 : x3.toInt = y3) (hf3 : 0 ≤ y3 ∧ y3 ≤ 5) (o4 : Option Value) , (5 - y3) * 1 + 0 < (n : Int) → LW 57 (d + 19) 0 0 25 [some (.ref 343), some (.int x1), some (.int x2), some (.int x3), o4] [] g (fun v g' => ∃ r : Int32, v = some (.int r) ∧ g = g')) : LW 57 (d + 19) 0 0 25 [some (.ref 343), some (.int x1), some (.int x2), some (.int x3), o4] [] g (fun v g' => ∃ r : Int32, v = some (.int r) ∧ g = g') := by
  refine X_iload_n rfl rfl rfl rfl ?_
  refine X_iconst (v := (4 : Int32)) rfl rfl rfl ?_
  refine S_icmp_gt (tgt := 61) rfl rfl rfl hx3 (show (4 : Int32).toInt = 4 from rfl) (fun vh1 => ?_) (fun vh1 => ?_)
  · refine X_iconst (v := (-1 : Int32)) rfl rfl rfl ?_
    exact LW_ireturn (st := []) rfl rfl rfl ⟨_, rfl, rfl⟩
  · refine X_aload_n rfl rfl rfl rfl ?_
    refine X_getR (a := 1) rfl rfl rfl ((congrFun V.1 343).trans s_343) rfl ((congrFun (V.2.1 343 (by decide)) 0).trans r_343_0) ?_
    refine X_getR (a := 2) rfl rfl rfl ((congrFun V.1 1).trans s_1) rfl ((congrFun (V.2.1 1 (by decide)) 0).trans r_1_0) ?_
    refine X_iload_n rfl rfl rfl rfl ?_
    refine X_iload_n rfl rfl rfl rfl ?_
    refine X_iload_n rfl rfl rfl rfl ?_
    refine X_iconst (v := (0 : Int32)) rfl rfl rfl ?_
    refine Y_callS (as := [.ref 2, .int x1, .int x2, .int x3, .int (0 : Int32)]) (st := []) rfl rfl rfl (by decide) rfl (Nat.le_of_ble_eq_true rfl) (by decide) (Nat.le_of_ble_eq_true rfl) rfl (C_X6_stopping_2 V x1 y1 hx1 (by omega) x2 y2 hx2 x3 y3 hx3 (by omega) (0 : Int32) 0 (show (0 : Int32).toInt = 0 from rfl) ) ?_
    rintro _ g' ⟨vr2, rfl, hgg⟩
    subst hgg
    refine X_istore (i := 4) (ls' := [some (.ref 343), some (.int x1), some (.int x2), some (.int x3), some (.int vr2)]) rfl rfl (Nat.le_of_ble_eq_true rfl) rfl ?_
    refine X_iload rfl rfl rfl ?_
    refine X_iconst (v := (-1 : Int32)) rfl rfl rfl ?_
    refine S_icmp_eq (tgt := 55) rfl rfl rfl rfl (show (-1 : Int32).toInt = -1 from rfl) (fun vh3 => ?_) (fun vh3 => ?_)
    · refine S_iinc (c := 1) rfl rfl rfl hx3 rfl (by omega) (fun vz4 hvz4 => ?_)
      refine LW_ls (ls' := [some (.ref 343), some (.int x1), some (.int x2), some (.int vz4), some (.int vr2)]) rfl ?_
      refine LW_goto (tgt := 25) rfl rfl ?_
      exact ih25 V x1 y1 hx1 (by omega) x2 y2 hx2 vz4 vz4.toInt rfl (by omega) (some (.int vr2))    (by omega)
    · refine X_iload rfl rfl rfl ?_
      exact LW_ireturn (st := []) rfl rfl rfl ⟨_, rfl, rfl⟩
theorem C_X6_fewestStopping_all {P : Par} {g : LH} {d : Nat}  : ∀ n : Nat, (∀ (V : Inv P g) (x1 : Int32) (y1 : Int) (hx1 : x1.toInt = y1) (hf1 : 0 ≤ y1 ∧ y1 ≤ 7) (x2 : Int32) (y2 : Int) (hx2 : x2.toInt = y2) (x3 : Int32) (y3 : Int) (hx3 : x3.toInt = y3) (hf3 : 0 ≤ y3 ∧ y3 ≤ 5) (o4 : Option Value) , (5 - y3) * 1 + 0 < (n : Int) → LW 57 (d + 19) 0 0 25 [some (.ref 343), some (.int x1), some (.int x2), some (.int x3), o4] [] g (fun v g' => ∃ r : Int32, v = some (.int r) ∧ g = g')) := by
  intro n
  induction n with
  | zero => exact fun V x1 y1 hx1 hf1 x2 y2 hx2 x3 y3 hx3 hf3 o4 hmu => absurd hmu (by omega)
  | succ n ih => exact fun V x1 y1 hx1 hf1 x2 y2 hx2 x3 y3 hx3 hf3 o4 hmu => C_X6_fewestStopping_25  V x1 y1 hx1 hf1 x2 y2 hx2 x3 y3 hx3 hf3 o4 (by omega) ih
set_option maxRecDepth 10000 in
set_option maxHeartbeats 40000000 in
theorem C_X6_fewestStopping {P : Par} {g : LH} {d : Nat}  (V : Inv P g) (x1 : Int32) (y1 : Int) (hx1 : x1.toInt = y1) (hf1 : 0 ≤ y1 ∧ y1 ≤ 7)   : LW 57 (d + 19) 0 0 0 (lEnt (mL 57) [.ref 343, .int x1]) [] g (fun v g' => ∃ r : Int32, v = some (.int r) ∧ g = g') := by
  refine LW_ls (ls' := [some (.ref 343), some (.int x1), none, none, none]) rfl ?_
  refine X_aload_n rfl rfl rfl rfl ?_
  refine X_getR (a := 1) rfl rfl rfl ((congrFun V.1 343).trans s_343) rfl ((congrFun (V.2.1 343 (by decide)) 0).trans r_343_0) ?_
  refine X_getR (a := 2) rfl rfl rfl ((congrFun V.1 1).trans s_1) rfl ((congrFun (V.2.1 1 (by decide)) 0).trans r_1_0) ?_
  refine X_aload_n rfl rfl rfl rfl ?_
  refine X_getR (a := 1) rfl rfl rfl ((congrFun V.1 343).trans s_343) rfl ((congrFun (V.2.1 343 (by decide)) 0).trans r_343_0) ?_
  refine X_getR (a := 2) rfl rfl rfl ((congrFun V.1 1).trans s_1) rfl ((congrFun (V.2.1 1 (by decide)) 0).trans r_1_0) ?_
  refine X_getR (a := 8) rfl rfl rfl ((congrFun V.1 2).trans s_2) rfl ((congrFun (V.2.1 2 (by decide)) 7).trans r_2_7) ?_
  refine X_iload_n rfl rfl rfl rfl ?_
  refine S_iald rfl rfl ((congrFun V.1 8).trans s_8) hx1 (by omega) (fun vz1 evz1 => ?_)
  refine Y_callV (as := [.int vz1]) (st := []) rfl rfl rfl (by decide) rfl (Nat.le_of_ble_eq_true rfl) (by decide) (Nat.le_of_ble_eq_true rfl) rfl ((congrFun V.1 2).trans s_2) (by decide) (C_X5_lettersFor V vz1 vz1.toInt rfl ) ?_
  rintro _ g' ⟨vr2, rfl, hgg⟩
  subst hgg
  refine X_istore_n (i := 2) (ls' := [some (.ref 343), some (.int x1), some (.int vr2), none, none]) rfl rfl rfl (Nat.le_of_ble_eq_true rfl) rfl ?_
  refine X_iconst (v := (0 : Int32)) rfl rfl rfl ?_
  refine X_istore_n (i := 3) (ls' := [some (.ref 343), some (.int x1), some (.int vr2), some (.int (0 : Int32)), none]) rfl rfl rfl (Nat.le_of_ble_eq_true rfl) rfl ?_
  exact (C_X6_fewestStopping_all (((5 - 0) * 1 + 0) + 1 : Int).toNat) V x1 y1 hx1 (by omega) vr2 vr2.toInt rfl (0 : Int32) 0 (show (0 : Int32).toInt = 0 from rfl) (by omega) none    (by omega)
set_option maxRecDepth 10000 in
set_option maxHeartbeats 40000000 in
theorem C_X12_stop {P : Par} {g : LH} {d : Nat}  (V : Inv P g) (x1 : Int32) (y1 : Int) (hx1 : x1.toInt = y1)   : LW 149 (d + 24) 0 0 0 (lEnt (mL 149) [.ref 0, .int x1]) [] g (fun v g' => ∃ r : Int32, v = some (.int r) ∧ g = g') := by
  refine LW_ls (ls' := [some (.ref 0), some (.int x1)]) rfl ?_
  refine X_aload_n rfl rfl rfl rfl ?_
  refine X_getR (a := 1) rfl rfl rfl ((congrFun V.1 0).trans s_0) rfl ((congrFun (V.2.1 0 (by decide)) 0).trans r_0_0) ?_
  refine X_getR (a := 2) rfl rfl rfl ((congrFun V.1 1).trans s_1) rfl ((congrFun (V.2.1 1 (by decide)) 0).trans r_1_0) ?_
  refine X_iload_n rfl rfl rfl rfl ?_
  refine X_callV (as := [.int x1]) (st := []) rfl rfl rfl (by decide) rfl (Nat.le_of_ble_eq_true rfl) (by decide) (Nat.le_of_ble_eq_true rfl) rfl ((congrFun V.1 2).trans s_2) (by decide) ?_
  refine LW_ls (ls' := [some (.ref 2), some (.int x1)]) rfl ?_
  refine X_iload_n rfl rfl rfl rfl ?_
  refine S_if_lt (tgt := 22) rfl rfl rfl hx1 (fun vh1 => ?_) (fun vh1 => ?_)
  · refine X_iconst (v := (0 : Int32)) rfl rfl rfl ?_
    refine LW_ireturn (st := []) rfl rfl rfl ?_
    refine S_if_eq (tgt := 25) rfl rfl rfl (show (0 : Int32).toInt = 0 from rfl) (fun vh2 => ?_) (fun q => absurd q (by omega))
    refine X_iconst (v := (-1 : Int32)) rfl rfl rfl ?_
    exact LW_ireturn (st := []) rfl rfl rfl ⟨_, rfl, rfl⟩
  · refine X_iload_n rfl rfl rfl rfl ?_
    refine X_aload_n rfl rfl rfl rfl ?_
    refine S_getI rfl rfl rfl ((congrFun V.1 2).trans s_2) rfl (fun vz3 evz3 => ?_)
    have vf4 := K_10_1 (V.2.2.2.2.1 (2) (1) (Nat.le_of_ble_eq_true rfl)) rk_2
    rw [evz3] at vf4
    refine S_icmp_ge (tgt := 22) rfl rfl rfl hx1 rfl (fun vh5 => ?_) (fun vh5 => ?_)
    · refine X_iconst (v := (0 : Int32)) rfl rfl rfl ?_
      refine LW_ireturn (st := []) rfl rfl rfl ?_
      refine S_if_eq (tgt := 25) rfl rfl rfl (show (0 : Int32).toInt = 0 from rfl) (fun vh6 => ?_) (fun q => absurd q (by omega))
      refine X_iconst (v := (-1 : Int32)) rfl rfl rfl ?_
      exact LW_ireturn (st := []) rfl rfl rfl ⟨_, rfl, rfl⟩
    · refine X_iload_n rfl rfl rfl rfl ?_
      refine X_bipush (v := (8 : Int32)) rfl rfl rfl ?_
      refine S_icmp_ge (tgt := 22) rfl rfl rfl hx1 (show (8 : Int32).toInt = 8 from rfl) (fun q => absurd q (by omega)) (fun vh7 => ?_)
      refine X_iconst (v := (1 : Int32)) rfl rfl rfl ?_
      refine LW_goto (tgt := 23) rfl rfl ?_
      refine LW_ireturn (st := []) rfl rfl rfl ?_
      refine S_if_eq (tgt := 25) rfl rfl rfl (show (1 : Int32).toInt = 1 from rfl) (fun q => absurd q (by omega)) (fun vh8 => ?_)
      refine X_aload_n rfl rfl rfl rfl ?_
      refine X_getR (a := 343) rfl rfl rfl ((congrFun V.1 0).trans s_0) rfl ((congrFun (V.2.1 0 (by decide)) 7).trans r_0_7) ?_
      refine X_iload_n rfl rfl rfl rfl ?_
      refine Y_callV (as := [.int x1]) (st := []) rfl rfl rfl (by decide) rfl (Nat.le_of_ble_eq_true rfl) (by decide) (Nat.le_of_ble_eq_true rfl) rfl ((congrFun V.1 343).trans s_343) (by decide) (C_X6_fewestStopping V x1 y1 hx1 (by omega) ) ?_
      rintro _ g' ⟨vr9, rfl, hgg⟩
      subst hgg
      refine LW_goto (tgt := 26) rfl rfl ?_
      exact LW_ireturn (st := []) rfl rfl rfl ⟨_, rfl, rfl⟩
set_option maxRecDepth 10000 in
set_option maxHeartbeats 40000000 in
theorem C_X5_unsaid_11 {P : Par} {g : LH} {d n : Nat}  (V : Inv P g) (x1 : Int32) (y1 : Int) (hx1 : x1.toInt = y1) (x2 : Int32) (y2 : Int) (hx2 : x2.toInt = y2) (hf2 : 0 ≤ y2 ∧ y2 ≤ 1023) (x3 : Int32) (y3 : Int) (hx3 : x3.toInt = y3) (hf3 : 0 ≤ y3 ∧ y3 ≤ 8) (x4 : Int32) (y4 : Int) (hx4 : x4.toInt = y4) (hf4 : 0 ≤ y4 ∧ y4 ≤ 8) (hq0 : y3 ≤ y4) (hmu : (8 - y4) * 1 + 0 < (n : Int) + 1) (ih11 : ∀ (V : Inv P g) (x1 : Int32) (y1 : Int) (hx1 : x1.toInt = y1) (x2 : Int32) (y2 : Int) (hx2 : x2.toInt = y2) (hf2 : 0 ≤ y2 ∧ y2 ≤ 1023) (x3 : Int32) (y3 : Int) (hx3 : x3.toInt = y3) (hf3 : 0 ≤ y3 ∧ y3 ≤ 8) (x4 : Int32) (y4 : Int) (hx4 : x4.toInt = y4) (hf4 : 0 ≤ y4 ∧ y4 ≤ 8) (hq0 : y3 ≤ y4), (8 - y4) * 1 + 0 < (n : Int) → LW 53 (d + 7) 0 0 11 [some (.ref 2), some (.int x1), some (.int x2), some (.int x3), some (.int x4)] [] g (fun v g' => ∃ r : Int32, v = some (.int r) ∧ 0 ≤ r.toInt ∧ r.toInt ≤ 8 ∧ g = g')) : LW 53 (d + 7) 0 0 11 [some (.ref 2), some (.int x1), some (.int x2), some (.int x3), some (.int x4)] [] g (fun v g' => ∃ r : Int32, v = some (.int r) ∧ 0 ≤ r.toInt ∧ r.toInt ≤ 8 ∧ g = g') := by
  refine X_iload rfl rfl rfl ?_
  refine X_aload_n rfl rfl rfl rfl ?_
  refine S_getI rfl rfl rfl ((congrFun V.1 2).trans s_2) rfl (fun vz1 evz1 => ?_)
  have vf2 := K_10_1 (V.2.2.2.2.1 (2) (1) (Nat.le_of_ble_eq_true rfl)) rk_2
  rw [evz1] at vf2
  refine S_icmp_ge (tgt := 48) rfl rfl rfl hx4 rfl (fun vh3 => ?_) (fun vh3 => ?_)
  · refine X_iload_n rfl rfl rfl rfl ?_
    have hr := hx3
    exact LW_ireturn (st := []) rfl rfl rfl ⟨_, rfl, by omega, by omega, rfl⟩
  · refine X_iload_n rfl rfl rfl rfl ?_
    refine X_aload_n rfl rfl rfl rfl ?_
    refine X_getR (a := 8) rfl rfl rfl ((congrFun V.1 2).trans s_2) rfl ((congrFun (V.2.1 2 (by decide)) 7).trans r_2_7) ?_
    refine X_iload rfl rfl rfl ?_
    refine S_iald rfl rfl ((congrFun V.1 8).trans s_8) hx4 (by omega) (fun vz4 evz4 => ?_)
    refine X_iload_n rfl rfl rfl rfl ?_
    refine X_iconst (v := (-1 : Int32)) rfl rfl rfl ?_
    refine S_ixorT rfl rfl (fun vz5 => ?_)
    refine S_iandT rfl rfl (fun vz6 => ?_)
    refine S_if_eq (tgt := 39) rfl rfl rfl rfl (fun vh7 => ?_) (fun vh7 => ?_)
    · refine X_iconst (v := (0 : Int32)) rfl rfl rfl ?_
      refine S_iadd rfl rfl hx3 (show (0 : Int32).toInt = 0 from rfl) (by omega) (fun vz8 hvz8 => ?_)
      refine X_istore_n (i := 3) (ls' := [some (.ref 2), some (.int x1), some (.int x2), some (.int vz8), some (.int x4)]) rfl rfl rfl (Nat.le_of_ble_eq_true rfl) rfl ?_
      refine S_iinc (c := 1) rfl rfl rfl hx4 rfl (by omega) (fun vz9 hvz9 => ?_)
      refine LW_ls (ls' := [some (.ref 2), some (.int x1), some (.int x2), some (.int vz8), some (.int vz9)]) rfl ?_
      refine LW_goto (tgt := 11) rfl rfl ?_
      exact ih11 V x1 y1 hx1 x2 y2 hx2 (by omega) vz8 vz8.toInt rfl (by omega) vz9 vz9.toInt rfl (by omega)  (by omega)  (by omega)
    · refine X_iconst (v := (1 : Int32)) rfl rfl rfl ?_
      refine LW_goto (tgt := 40) rfl rfl ?_
      refine S_iadd rfl rfl hx3 (show (1 : Int32).toInt = 1 from rfl) (by omega) (fun vz10 hvz10 => ?_)
      refine X_istore_n (i := 3) (ls' := [some (.ref 2), some (.int x1), some (.int x2), some (.int vz10), some (.int x4)]) rfl rfl rfl (Nat.le_of_ble_eq_true rfl) rfl ?_
      refine S_iinc (c := 1) rfl rfl rfl hx4 rfl (by omega) (fun vz11 hvz11 => ?_)
      refine LW_ls (ls' := [some (.ref 2), some (.int x1), some (.int x2), some (.int vz10), some (.int vz11)]) rfl ?_
      refine LW_goto (tgt := 11) rfl rfl ?_
      exact ih11 V x1 y1 hx1 x2 y2 hx2 (by omega) vz10 vz10.toInt rfl (by omega) vz11 vz11.toInt rfl (by omega)  (by omega)  (by omega)
theorem C_X5_unsaid_all {P : Par} {g : LH} {d : Nat}  : ∀ n : Nat, (∀ (V : Inv P g) (x1 : Int32) (y1 : Int) (hx1 : x1.toInt = y1) (x2 : Int32) (y2 : Int) (hx2 : x2.toInt = y2) (hf2 : 0 ≤ y2 ∧ y2 ≤ 1023) (x3 : Int32) (y3 : Int) (hx3 : x3.toInt = y3) (hf3 : 0 ≤ y3 ∧ y3 ≤ 8) (x4 : Int32) (y4 : Int) (hx4 : x4.toInt = y4) (hf4 : 0 ≤ y4 ∧ y4 ≤ 8) (hq0 : y3 ≤ y4), (8 - y4) * 1 + 0 < (n : Int) → LW 53 (d + 7) 0 0 11 [some (.ref 2), some (.int x1), some (.int x2), some (.int x3), some (.int x4)] [] g (fun v g' => ∃ r : Int32, v = some (.int r) ∧ 0 ≤ r.toInt ∧ r.toInt ≤ 8 ∧ g = g')) := by
  intro n
  induction n with
  | zero => exact fun V x1 y1 hx1 x2 y2 hx2 hf2 x3 y3 hx3 hf3 x4 y4 hx4 hf4 hq0 hmu => absurd hmu (by omega)
  | succ n ih => exact fun V x1 y1 hx1 x2 y2 hx2 hf2 x3 y3 hx3 hf3 x4 y4 hx4 hf4 hq0 hmu => C_X5_unsaid_11  V x1 y1 hx1 x2 y2 hx2 hf2 x3 y3 hx3 hf3 x4 y4 hx4 hf4 hq0 (by omega) ih
set_option maxRecDepth 10000 in
set_option maxHeartbeats 40000000 in
theorem C_X5_unsaid {P : Par} {g : LH} {d : Nat}  (V : Inv P g) (x1 : Int32) (y1 : Int) (hx1 : x1.toInt = y1)   : LW 53 (d + 7) 0 0 0 (lEnt (mL 53) [.ref 2, .int x1]) [] g (fun v g' => ∃ r : Int32, v = some (.int r) ∧ 0 ≤ r.toInt ∧ r.toInt ≤ 8 ∧ g = g') := by
  refine LW_ls (ls' := [some (.ref 2), some (.int x1), none, none, none]) rfl ?_
  refine X_aload_n rfl rfl rfl rfl ?_
  refine X_iload_n rfl rfl rfl rfl ?_
  refine Y_callV (as := [.int x1]) (st := []) rfl rfl rfl (by decide) rfl (Nat.le_of_ble_eq_true rfl) (by decide) (Nat.le_of_ble_eq_true rfl) rfl ((congrFun V.1 2).trans s_2) (by decide) (C_X5_sensesLeft V x1 y1 hx1 ) ?_
  rintro _ g' ⟨vr1, rfl, hrvr10, hrvr11, hgg⟩
  subst hgg
  refine X_istore_n (i := 2) (ls' := [some (.ref 2), some (.int x1), some (.int vr1), none, none]) rfl rfl rfl (Nat.le_of_ble_eq_true rfl) rfl ?_
  refine X_iconst (v := (0 : Int32)) rfl rfl rfl ?_
  refine X_istore_n (i := 3) (ls' := [some (.ref 2), some (.int x1), some (.int vr1), some (.int (0 : Int32)), none]) rfl rfl rfl (Nat.le_of_ble_eq_true rfl) rfl ?_
  refine X_iconst (v := (0 : Int32)) rfl rfl rfl ?_
  refine X_istore (i := 4) (ls' := [some (.ref 2), some (.int x1), some (.int vr1), some (.int (0 : Int32)), some (.int (0 : Int32))]) rfl rfl (Nat.le_of_ble_eq_true rfl) rfl ?_
  exact (C_X5_unsaid_all (((8 - 0) * 1 + 0) + 1 : Int).toNat) V x1 y1 hx1 vr1 vr1.toInt rfl (by omega) (0 : Int32) 0 (show (0 : Int32).toInt = 0 from rfl) (by omega) (0 : Int32) 0 (show (0 : Int32).toInt = 0 from rfl) (by omega)  (by omega)  (by omega)
set_option maxRecDepth 10000 in
set_option maxHeartbeats 40000000 in
theorem C_X12_spared_7 {P : Par} {g : LH} {d n : Nat}  (V : Inv P g) (x1 : Int32) (y1 : Int) (hx1 : x1.toInt = y1) (hf1 : 0 ≤ y1 ∧ y1 ≤ 1) (x2 : Int32) (y2 : Int) (hx2 : x2.toInt = y2) (hf2 : 0 ≤ y2 ∧ y2 ≤ 25) (x3 : Int32) (y3 : Int) (hx3 : x3.toInt = y3) (hf3 : (-1) ≤ y3 ∧ y3 ≤ 8) (x4 : Int32) (y4 : Int) (hx4 : x4.toInt = y4) (hf4 : 0 ≤ y4 ∧ y4 ≤ 26) (o5 : Option Value)  (hmu : (26 - y4) * 1 + 0 < (n : Int) + 1) (ih7 : ∀ (V : Inv P g) (x1 : Int32) (y1 : Int) (hx1 : x1.toInt = y1) (hf1 : 0 ≤ y1 ∧ y1 ≤ 1) (x2 : Int32) (y2 : Int) (hx2 : x2.toInt = y2) (hf2 : 0 ≤ y2 ∧ y2 ≤ 25) (x3 : Int32) (y3 : Int) (hx3 : x3.toInt = y3) (hf3 : (-1) ≤ y3 ∧ y3 ≤ 8) (x4 : Int32) (y4 : Int) (hx4 : x4.toInt = y4) (hf4 : 0 ≤ y4 ∧ y4 ≤ 26) (o5 : Option Value) , (26 - y4) * 1 + 0 < (n : Int) → LW 150 (d + 11) 0 0 7 [some (.ref 0), some (.int x1), some (.int x2), some (.int x3), some (.int x4), o5] [] g (fun v g' => ∃ r : Int32, v = some (.int r) ∧ (-1) ≤ r.toInt ∧ r.toInt ≤ 25 ∧ g = g')) : LW 150 (d + 11) 0 0 7 [some (.ref 0), some (.int x1), some (.int x2), some (.int x3), some (.int x4), o5] [] g (fun v g' => ∃ r : Int32, v = some (.int r) ∧ (-1) ≤ r.toInt ∧ r.toInt ≤ 25 ∧ g = g') := by
  refine X_iload rfl rfl rfl ?_
  refine X_bipush (v := (26 : Int32)) rfl rfl rfl ?_
  refine S_icmp_ge (tgt := 48) rfl rfl rfl hx4 (show (26 : Int32).toInt = 26 from rfl) (fun vh1 => ?_) (fun vh1 => ?_)
  · refine X_iload_n rfl rfl rfl rfl ?_
    refine S_if_eq (tgt := 56) rfl rfl rfl hx1 (fun vh2 => ?_) (fun vh2 => ?_)
    · refine X_iload_n rfl rfl rfl rfl ?_
      have hr := hx2
      exact LW_ireturn (st := []) rfl rfl rfl ⟨_, rfl, by omega, by omega, rfl⟩
    · refine X_iload_n rfl rfl rfl rfl ?_
      refine LW_goto (tgt := 57) rfl rfl ?_
      have hr := hx3
      exact LW_ireturn (st := []) rfl rfl rfl ⟨_, rfl, by omega, by omega, rfl⟩
  · refine X_aload_n rfl rfl rfl rfl ?_
    refine X_getR (a := 1) rfl rfl rfl ((congrFun V.1 0).trans s_0) rfl ((congrFun (V.2.1 0 (by decide)) 0).trans r_0_0) ?_
    refine X_getR (a := 2) rfl rfl rfl ((congrFun V.1 1).trans s_1) rfl ((congrFun (V.2.1 1 (by decide)) 0).trans r_1_0) ?_
    refine X_iconst (v := (1 : Int32)) rfl rfl rfl ?_
    refine X_iload rfl rfl rfl ?_
    refine S_ishlT rfl rfl (fun vz3 => ?_)
    refine Y_callV (as := [.int vz3]) (st := []) rfl rfl rfl (by decide) rfl (Nat.le_of_ble_eq_true rfl) (by decide) (Nat.le_of_ble_eq_true rfl) rfl ((congrFun V.1 2).trans s_2) (by decide) (C_X5_unsaid V vz3 vz3.toInt rfl ) ?_
    rintro _ g' ⟨vr4, rfl, hrvr40, hrvr41, hgg⟩
    subst hgg
    refine X_istore (i := 5) (ls' := [some (.ref 0), some (.int x1), some (.int x2), some (.int x3), some (.int x4), some (.int vr4)]) rfl rfl (Nat.le_of_ble_eq_true rfl) rfl ?_
    refine X_iload rfl rfl rfl ?_
    refine X_iload_n rfl rfl rfl rfl ?_
    refine S_icmp_le (tgt := 42) rfl rfl rfl rfl hx3 (fun vh5 => ?_) (fun vh5 => ?_)
    · refine S_iinc (c := 1) rfl rfl rfl hx4 rfl (by omega) (fun vz6 hvz6 => ?_)
      refine LW_ls (ls' := [some (.ref 0), some (.int x1), some (.int x2), some (.int x3), some (.int vz6), some (.int vr4)]) rfl ?_
      refine LW_goto (tgt := 7) rfl rfl ?_
      exact ih7 V x1 y1 hx1 (by omega) x2 y2 hx2 (by omega) x3 y3 hx3 (by omega) vz6 vz6.toInt rfl (by omega) (some (.int vr4))    (by omega)
    · refine X_iload rfl rfl rfl ?_
      refine X_istore_n (i := 3) (ls' := [some (.ref 0), some (.int x1), some (.int x2), some (.int vr4), some (.int x4), some (.int vr4)]) rfl rfl rfl (Nat.le_of_ble_eq_true rfl) rfl ?_
      refine X_iload rfl rfl rfl ?_
      refine X_istore_n (i := 2) (ls' := [some (.ref 0), some (.int x1), some (.int x4), some (.int vr4), some (.int x4), some (.int vr4)]) rfl rfl rfl (Nat.le_of_ble_eq_true rfl) rfl ?_
      refine S_iinc (c := 1) rfl rfl rfl hx4 rfl (by omega) (fun vz7 hvz7 => ?_)
      refine LW_ls (ls' := [some (.ref 0), some (.int x1), some (.int x4), some (.int vr4), some (.int vz7), some (.int vr4)]) rfl ?_
      refine LW_goto (tgt := 7) rfl rfl ?_
      exact ih7 V x1 y1 hx1 (by omega) x4 y4 hx4 (by omega) vr4 vr4.toInt rfl (by omega) vz7 vz7.toInt rfl (by omega) (some (.int vr4))    (by omega)
theorem C_X12_spared_all {P : Par} {g : LH} {d : Nat}  : ∀ n : Nat, (∀ (V : Inv P g) (x1 : Int32) (y1 : Int) (hx1 : x1.toInt = y1) (hf1 : 0 ≤ y1 ∧ y1 ≤ 1) (x2 : Int32) (y2 : Int) (hx2 : x2.toInt = y2) (hf2 : 0 ≤ y2 ∧ y2 ≤ 25) (x3 : Int32) (y3 : Int) (hx3 : x3.toInt = y3) (hf3 : (-1) ≤ y3 ∧ y3 ≤ 8) (x4 : Int32) (y4 : Int) (hx4 : x4.toInt = y4) (hf4 : 0 ≤ y4 ∧ y4 ≤ 26) (o5 : Option Value) , (26 - y4) * 1 + 0 < (n : Int) → LW 150 (d + 11) 0 0 7 [some (.ref 0), some (.int x1), some (.int x2), some (.int x3), some (.int x4), o5] [] g (fun v g' => ∃ r : Int32, v = some (.int r) ∧ (-1) ≤ r.toInt ∧ r.toInt ≤ 25 ∧ g = g')) := by
  intro n
  induction n with
  | zero => exact fun V x1 y1 hx1 hf1 x2 y2 hx2 hf2 x3 y3 hx3 hf3 x4 y4 hx4 hf4 o5 hmu => absurd hmu (by omega)
  | succ n ih => exact fun V x1 y1 hx1 hf1 x2 y2 hx2 hf2 x3 y3 hx3 hf3 x4 y4 hx4 hf4 o5 hmu => C_X12_spared_7  V x1 y1 hx1 hf1 x2 y2 hx2 hf2 x3 y3 hx3 hf3 x4 y4 hx4 hf4 o5 (by omega) ih
set_option maxRecDepth 10000 in
set_option maxHeartbeats 40000000 in
theorem C_X12_spared {P : Par} {g : LH} {d : Nat}  (V : Inv P g) (x1 : Int32) (y1 : Int) (hx1 : x1.toInt = y1) (hf1 : 0 ≤ y1 ∧ y1 ≤ 1)   : LW 150 (d + 11) 0 0 0 (lEnt (mL 150) [.ref 0, .int x1]) [] g (fun v g' => ∃ r : Int32, v = some (.int r) ∧ (-1) ≤ r.toInt ∧ r.toInt ≤ 25 ∧ g = g') := by
  refine LW_ls (ls' := [some (.ref 0), some (.int x1), none, none, none, none]) rfl ?_
  refine X_iconst (v := (0 : Int32)) rfl rfl rfl ?_
  refine X_istore_n (i := 2) (ls' := [some (.ref 0), some (.int x1), some (.int (0 : Int32)), none, none, none]) rfl rfl rfl (Nat.le_of_ble_eq_true rfl) rfl ?_
  refine X_iconst (v := (-1 : Int32)) rfl rfl rfl ?_
  refine X_istore_n (i := 3) (ls' := [some (.ref 0), some (.int x1), some (.int (0 : Int32)), some (.int (-1 : Int32)), none, none]) rfl rfl rfl (Nat.le_of_ble_eq_true rfl) rfl ?_
  refine X_iconst (v := (0 : Int32)) rfl rfl rfl ?_
  refine X_istore (i := 4) (ls' := [some (.ref 0), some (.int x1), some (.int (0 : Int32)), some (.int (-1 : Int32)), some (.int (0 : Int32)), none]) rfl rfl (Nat.le_of_ble_eq_true rfl) rfl ?_
  exact (C_X12_spared_all (((26 - 0) * 1 + 0) + 1 : Int).toNat) V x1 y1 hx1 (by omega) (0 : Int32) 0 (show (0 : Int32).toInt = 0 from rfl) (by omega) (-1 : Int32) (-1) (show (-1 : Int32).toInt = -1 from rfl) (by omega) (0 : Int32) 0 (show (0 : Int32).toInt = 0 from rfl) (by omega) none    (by omega)
set_option maxRecDepth 10000 in
set_option maxHeartbeats 40000000 in
theorem C_X12_greatestDivisor_7 {P : Par} {g : LH} {d n : Nat}  (V : Inv P g) (x0 : Int32) (y0 : Int) (hx0 : x0.toInt = y0) (x1 : Int32) (y1 : Int) (hx1 : x1.toInt = y1) (x2 : Int32) (y2 : Int) (hx2 : x2.toInt = y2) (x3 : Int32) (y3 : Int) (hx3 : x3.toInt = y3) (x4 : Int32) (y4 : Int) (hx4 : x4.toInt = y4) (hf4 : 0 ≤ y4 ∧ y4 ≤ 64) (o5 : Option Value)  (hmu : (64 - y4) * 1 + 0 < (n : Int) + 1) (ih7 : ∀ (V : Inv P g) (x0 : Int32) (y0 : Int) (hx0 : x0.toInt = y0) (x1 : Int32) (y1 : Int) (hx1 : x1.toInt = y1) (x2 : Int32) (y2 : Int) (hx2 : x2.toInt = y2) (x3 : Int32) (y3 : Int) (hx3 : x3.toInt = y3) (x4 : Int32) (y4 : Int) (hx4 : x4.toInt = y4) (hf4 : 0 ≤ y4 ∧ y4 ≤ 64) (o5 : Option Value) , (64 - y4) * 1 + 0 < (n : Int) → LW 169 (d + 3) 0 0 7 [some (.int x0), some (.int x1), some (.int x2), some (.int x3), some (.int x4), o5] [] g (fun v g' => ∃ r : Int32, v = some (.int r) ∧ g = g')) : LW 169 (d + 3) 0 0 7 [some (.int x0), some (.int x1), some (.int x2), some (.int x3), some (.int x4), o5] [] g (fun v g' => ∃ r : Int32, v = some (.int r) ∧ g = g') := by
  refine X_iload rfl rfl rfl ?_
  refine X_bipush (v := (64 : Int32)) rfl rfl rfl ?_
  refine S_icmp_ge (tgt := 34) rfl rfl rfl hx4 (show (64 : Int32).toInt = 64 from rfl) (fun vh1 => ?_) (fun vh1 => ?_)
  · refine X_iload_n rfl rfl rfl rfl ?_
    exact LW_ireturn (st := []) rfl rfl rfl ⟨_, rfl, rfl⟩
  · refine X_iload_n rfl rfl rfl rfl ?_
    refine S_if_eq (tgt := 34) rfl rfl rfl hx3 (fun vh2 => ?_) (fun vh2 => ?_)
    · refine X_iload_n rfl rfl rfl rfl ?_
      exact LW_ireturn (st := []) rfl rfl rfl ⟨_, rfl, rfl⟩
    · refine X_iload_n rfl rfl rfl rfl ?_
      refine X_iload_n rfl rfl rfl rfl ?_
      refine S_iremT rfl rfl hx3 (by omega) (fun vz3 hvz3 => ?_)
      refine X_istore (i := 5) (ls' := [some (.int x0), some (.int x1), some (.int x2), some (.int x3), some (.int x4), some (.int vz3)]) rfl rfl (Nat.le_of_ble_eq_true rfl) rfl ?_
      refine X_iload_n rfl rfl rfl rfl ?_
      refine X_istore_n (i := 2) (ls' := [some (.int x0), some (.int x1), some (.int x3), some (.int x3), some (.int x4), some (.int vz3)]) rfl rfl rfl (Nat.le_of_ble_eq_true rfl) rfl ?_
      refine X_iload rfl rfl rfl ?_
      refine X_istore_n (i := 3) (ls' := [some (.int x0), some (.int x1), some (.int x3), some (.int vz3), some (.int x4), some (.int vz3)]) rfl rfl rfl (Nat.le_of_ble_eq_true rfl) rfl ?_
      refine S_iinc (c := 1) rfl rfl rfl hx4 rfl (by omega) (fun vz4 hvz4 => ?_)
      refine LW_ls (ls' := [some (.int x0), some (.int x1), some (.int x3), some (.int vz3), some (.int vz4), some (.int vz3)]) rfl ?_
      refine LW_goto (tgt := 7) rfl rfl ?_
      exact ih7 V x0 y0 hx0 x1 y1 hx1 x3 y3 hx3 vz3 vz3.toInt rfl vz4 vz4.toInt rfl (by omega) (some (.int vz3))    (by omega)
theorem C_X12_greatestDivisor_all {P : Par} {g : LH} {d : Nat}  : ∀ n : Nat, (∀ (V : Inv P g) (x0 : Int32) (y0 : Int) (hx0 : x0.toInt = y0) (x1 : Int32) (y1 : Int) (hx1 : x1.toInt = y1) (x2 : Int32) (y2 : Int) (hx2 : x2.toInt = y2) (x3 : Int32) (y3 : Int) (hx3 : x3.toInt = y3) (x4 : Int32) (y4 : Int) (hx4 : x4.toInt = y4) (hf4 : 0 ≤ y4 ∧ y4 ≤ 64) (o5 : Option Value) , (64 - y4) * 1 + 0 < (n : Int) → LW 169 (d + 3) 0 0 7 [some (.int x0), some (.int x1), some (.int x2), some (.int x3), some (.int x4), o5] [] g (fun v g' => ∃ r : Int32, v = some (.int r) ∧ g = g')) := by
  intro n
  induction n with
  | zero => exact fun V x0 y0 hx0 x1 y1 hx1 x2 y2 hx2 x3 y3 hx3 x4 y4 hx4 hf4 o5 hmu => absurd hmu (by omega)
  | succ n ih => exact fun V x0 y0 hx0 x1 y1 hx1 x2 y2 hx2 x3 y3 hx3 x4 y4 hx4 hf4 o5 hmu => C_X12_greatestDivisor_7  V x0 y0 hx0 x1 y1 hx1 x2 y2 hx2 x3 y3 hx3 x4 y4 hx4 hf4 o5 (by omega) ih
set_option maxRecDepth 10000 in
set_option maxHeartbeats 40000000 in
theorem C_X12_greatestDivisor {P : Par} {g : LH} {d : Nat}  (V : Inv P g) (x0 : Int32) (y0 : Int) (hx0 : x0.toInt = y0) (x1 : Int32) (y1 : Int) (hx1 : x1.toInt = y1)   : LW 169 (d + 3) 0 0 0 (lEnt (mL 169) [.int x0, .int x1]) [] g (fun v g' => ∃ r : Int32, v = some (.int r) ∧ g = g') := by
  refine LW_ls (ls' := [some (.int x0), some (.int x1), none, none, none, none]) rfl ?_
  refine X_iload_n rfl rfl rfl rfl ?_
  refine X_istore_n (i := 2) (ls' := [some (.int x0), some (.int x1), some (.int x0), none, none, none]) rfl rfl rfl (Nat.le_of_ble_eq_true rfl) rfl ?_
  refine X_iload_n rfl rfl rfl rfl ?_
  refine X_istore_n (i := 3) (ls' := [some (.int x0), some (.int x1), some (.int x0), some (.int x1), none, none]) rfl rfl rfl (Nat.le_of_ble_eq_true rfl) rfl ?_
  refine X_iconst (v := (0 : Int32)) rfl rfl rfl ?_
  refine X_istore (i := 4) (ls' := [some (.int x0), some (.int x1), some (.int x0), some (.int x1), some (.int (0 : Int32)), none]) rfl rfl (Nat.le_of_ble_eq_true rfl) rfl ?_
  exact (C_X12_greatestDivisor_all (((64 - 0) * 1 + 0) + 1 : Int).toNat) V x0 y0 hx0 x1 y1 hx1 x0 y0 hx0 x1 y1 hx1 (0 : Int32) 0 (show (0 : Int32).toInt = 0 from rfl) (by omega) none    (by omega)
set_option maxRecDepth 10000 in
set_option maxHeartbeats 40000000 in
theorem C_X6_orders {P : Par} {g : LH} {d : Nat}  (V : Inv P g) (x1 : Int32) (y1 : Int) (hx1 : x1.toInt = y1) (hf1 : 1 ≤ y1 ∧ y1 ≤ 67108863)   : LW 59 (d + 7) 0 0 0 (lEnt (mL 59) [.ref 343, .int x1]) [] g (fun v g' => ∃ r : Int32, v = some (.int r) ∧ g = g') := by
  refine LW_ls (ls' := [some (.ref 343), some (.int x1), none]) rfl ?_
  refine X_iload_n rfl rfl rfl rfl ?_
  refine Y_callS (as := [.int x1]) (st := []) rfl rfl rfl (by decide) rfl (Nat.le_of_ble_eq_true rfl) (by decide) (Nat.le_of_ble_eq_true rfl) rfl (c_bc hx1 26 (by omega) (by decide)) ?_
  rintro _ g' ⟨vr1, rfl, hrvr10, hrvr11, hgg⟩
  subst hgg
  refine X_istore_n (i := 2) (ls' := [some (.ref 343), some (.int x1), some (.int vr1)]) rfl rfl rfl (Nat.le_of_ble_eq_true rfl) rfl ?_
  refine X_iload_n rfl rfl rfl rfl ?_
  refine X_getsZ (v := .retAddr 1) rfl rfl (lAt_mem (p := 1277) (by decide +kernel)) (fun _ => trivial) (fun _ _ _ _ _ h => h.1) ?_
  refine X_oalen (v := (11 : Int32)) rfl rfl (fun _ _ _ _ h => h.2.1) rfl ?_
  refine S_icmp_ge (tgt := 21) rfl rfl rfl rfl (show (11 : Int32).toInt = 11 from rfl) (fun vh2 => ?_) (fun vh2 => ?_)
  · refine X_iconst (v := (0 : Int32)) rfl rfl rfl ?_
    exact LW_ireturn (st := []) rfl rfl rfl ⟨_, rfl, rfl⟩
  · refine X_getsZ (v := .retAddr 1) rfl rfl (lAt_mem (p := 1277) (by decide +kernel)) (fun _ => trivial) (fun _ _ _ _ _ h => h.1) ?_
    refine X_iload_n rfl rfl rfl rfl ?_
    refine X_oiald (f := fun k => ordL.getD k 0) rfl rfl (fun _ _ _ _ h => h.2.1) (ti_idx (n := 11) rfl (by omega)).1 ?_
    generalize ordL.getD vr1.toNatClampNeg 0 = vz3
    refine LW_goto (tgt := 22) rfl rfl ?_
    exact LW_ireturn (st := []) rfl rfl rfl ⟨_, rfl, rfl⟩
set_option maxRecDepth 10000 in
set_option maxHeartbeats 40000000 in
theorem C_X6_tryGroup_7 {P : Par} {g g0 : LH} {d n : Nat}  (V : Inv P g) (hG : Gr g = Gr g0) (x1 : Int32) (y1 : Int) (hx1 : x1.toInt = y1) (hf1 : 0 ≤ y1 ∧ y1 ≤ 7) (x2 : Int32) (y2 : Int) (hx2 : x2.toInt = y2) (hf2 : 1 ≤ y2 ∧ y2 ≤ 67108863) (x3 : Int32) (y3 : Int) (hx3 : x3.toInt = y3) (hf3 : 0 ≤ y3 ∧ y3 ≤ 26) (o4 : Option Value) (o5 : Option Value) (hc343_4 : 0 ≤ (Gi g 343 4).toInt ∧ (Gi g 343 4).toInt ≤ 10) (hmu : (26 - y3) * 1 + 14351 < (n : Int) + 1) (ih7 : ∀ (g : LH) (V : Inv P g) (hG : Gr g = Gr g0) (x1 : Int32) (y1 : Int) (hx1 : x1.toInt = y1) (hf1 : 0 ≤ y1 ∧ y1 ≤ 7) (x2 : Int32) (y2 : Int) (hx2 : x2.toInt = y2) (hf2 : 1 ≤ y2 ∧ y2 ≤ 67108863) (x3 : Int32) (y3 : Int) (hx3 : x3.toInt = y3) (hf3 : 0 ≤ y3 ∧ y3 ≤ 26) (o4 : Option Value) (o5 : Option Value) (hc343_4 : 0 ≤ (Gi g 343 4).toInt ∧ (Gi g 343 4).toInt ≤ 10), (26 - y3) * 1 + 14351 < (n : Int) → LW 61 (d + 9) 0 0 7 [some (.ref 343), some (.int x1), some (.int x2), some (.int x3), o4, o5] [] g (fun v g' => v = none ∧ Inv P g' ∧ Gr g' = Gr g0)) (ih58 : ∀ (g : LH) (V : Inv P g) (hG : Gr g = Gr g0) (x1 : Int32) (y1 : Int) (hx1 : x1.toInt = y1) (hf1 : 0 ≤ y1 ∧ y1 ≤ 7) (x2 : Int32) (y2 : Int) (hx2 : x2.toInt = y2) (hf2 : 1 ≤ y2 ∧ y2 ≤ 67108863) (x3 : Int32) (y3 : Int) (hx3 : x3.toInt = y3) (hf3 : 0 ≤ y3 ∧ y3 ≤ 1024) (o4 : Option Value) (o5 : Option Value) (hc343_4 : 0 ≤ (Gi g 343 4).toInt ∧ (Gi g 343 4).toInt ≤ 10), (1024 - y3) * 14 + 13 < (n : Int) → LW 61 (d + 9) 0 0 58 [some (.ref 343), some (.int x1), some (.int x2), some (.int x3), o4, o5] [] g (fun v g' => v = none ∧ Inv P g' ∧ Gr g' = Gr g0)) (ih74 : ∀ (g : LH) (V : Inv P g) (hG : Gr g = Gr g0) (x1 : Int32) (y1 : Int) (hx1 : x1.toInt = y1) (hf1 : 0 ≤ y1 ∧ y1 ≤ 7) (x2 : Int32) (y2 : Int) (hx2 : x2.toInt = y2) (hf2 : 1 ≤ y2 ∧ y2 ≤ 67108863) (x3 : Int32) (y3 : Int) (hx3 : x3.toInt = y3) (hf3 : 0 ≤ y3 ∧ y3 ≤ 1023) (x4 : Int32) (y4 : Int) (hx4 : x4.toInt = y4) (x5 : Int32) (y5 : Int) (hx5 : x5.toInt = y5) (hf5 : 0 ≤ y5 ∧ y5 ≤ 10) (hc343_4 : 0 ≤ (Gi g 343 4).toInt ∧ (Gi g 343 4).toInt ≤ 10), (1024 - y3) * 14 + 0 + (10 - y5) * 1 + 0 < (n : Int) → LW 61 (d + 9) 0 0 74 [some (.ref 343), some (.int x1), some (.int x2), some (.int x3), some (.int x4), some (.int x5)] [] g (fun v g' => v = none ∧ Inv P g' ∧ Gr g' = Gr g0)) : LW 61 (d + 9) 0 0 7 [some (.ref 343), some (.int x1), some (.int x2), some (.int x3), o4, o5] [] g (fun v g' => v = none ∧ Inv P g' ∧ Gr g' = Gr g0) := by
  obtain ⟨vz1, evz1⟩ : ∃ z, Gi g 343 4 = z := ⟨_, rfl⟩
  rw [evz1] at hc343_4
  refine X_iload_n rfl rfl rfl rfl ?_
  refine X_bipush (v := (26 : Int32)) rfl rfl rfl ?_
  refine S_icmp_ge (tgt := 56) rfl rfl rfl hx3 (show (26 : Int32).toInt = 26 from rfl) (fun vh2 => ?_) (fun vh2 => ?_)
  · refine X_iconst (v := (0 : Int32)) rfl rfl rfl ?_
    refine X_istore_n (i := 3) (ls' := [some (.ref 343), some (.int x1), some (.int x2), some (.int (0 : Int32)), o4, o5]) rfl rfl rfl (Nat.le_of_ble_eq_true rfl) rfl ?_
    exact ih58 _ V hG x1 y1 hx1 (by omega) x2 y2 hx2 (by omega) (0 : Int32) 0 (show (0 : Int32).toInt = 0 from rfl) (by omega) o4 o5 (by rw [evz1]; omega)   (by omega)
  · refine X_iload_n rfl rfl rfl rfl ?_
    refine X_iload_n rfl rfl rfl rfl ?_
    refine S_ishrT rfl rfl (fun vz3 => ?_)
    refine X_iconst (v := (1 : Int32)) rfl rfl rfl ?_
    refine S_iandR (k := 1) rfl rfl rfl (fun vz4 hvz4 => ?_)
    refine S_if_eq (tgt := 50) rfl rfl rfl rfl (fun vh5 => ?_) (fun vh5 => ?_)
    · refine S_iinc (c := 1) rfl rfl rfl hx3 rfl (by omega) (fun vz6 hvz6 => ?_)
      refine LW_ls (ls' := [some (.ref 343), some (.int x1), some (.int x2), some (.int vz6), o4, o5]) rfl ?_
      refine LW_goto (tgt := 7) rfl rfl ?_
      exact ih7 _ V hG x1 y1 hx1 (by omega) x2 y2 hx2 (by omega) vz6 vz6.toInt rfl (by omega) o4 o5 (by rw [evz1]; omega)   (by omega)
    · refine X_aload_n rfl rfl rfl rfl ?_
      refine X_getI (v := vz1) rfl rfl rfl ((congrFun V.1 343).trans s_343) rfl evz1 ?_
      refine X_bipush (v := (10 : Int32)) rfl rfl rfl ?_
      refine S_icmp_ge (tgt := 50) rfl rfl rfl rfl (show (10 : Int32).toInt = 10 from rfl) (fun vh7 => ?_) (fun vh7 => ?_)
      · refine S_iinc (c := 1) rfl rfl rfl hx3 rfl (by omega) (fun vz8 hvz8 => ?_)
        refine LW_ls (ls' := [some (.ref 343), some (.int x1), some (.int x2), some (.int vz8), o4, o5]) rfl ?_
        refine LW_goto (tgt := 7) rfl rfl ?_
        exact ih7 _ V hG x1 y1 hx1 (by omega) x2 y2 hx2 (by omega) vz8 vz8.toInt rfl (by omega) o4 o5 (by rw [evz1]; omega)   (by omega)
      · refine X_aload_n rfl rfl rfl rfl ?_
        refine X_getR (a := 346) rfl rfl rfl ((congrFun V.1 343).trans s_343) rfl ((congrFun (V.2.1 343 (by decide)) 3).trans r_343_3) ?_
        refine X_aload_n rfl rfl rfl rfl ?_
        refine X_getI (v := vz1) rfl rfl rfl ((congrFun V.1 343).trans s_343) rfl evz1 ?_
        refine X_iload_n rfl rfl rfl rfl ?_
        refine S_iast (I := Inv _) rfl rfl ((congrFun V.1 346).trans s_346) rfl (by omega) (Inv_putI V (Nat.le_of_ble_eq_true rfl) (Or.inl (by decide)) (Q_3 rk_346 (by omega))) (fun g V ve9 vn10 hq => ?_)
        have hG := hq.trans hG
        have evz1 := (vn10 (343) 4 (Or.inl (by decide))).trans evz1
        refine X_aload_n rfl rfl rfl rfl ?_
        refine X_dup rfl rfl rfl ?_
        refine X_getI (v := vz1) rfl rfl rfl ((congrFun V.1 343).trans s_343) rfl evz1 ?_
        refine X_iconst (v := (1 : Int32)) rfl rfl rfl ?_
        refine S_iadd rfl rfl rfl (show (1 : Int32).toInt = 1 from rfl) (by omega) (fun vz11 hvz11 => ?_)
        refine S_putI (I := Inv _) rfl rfl rfl ((congrFun V.1 343).trans s_343) rfl rfl rfl rfl (Inv_putI V (Nat.le_of_ble_eq_true rfl) (Or.inl (by decide)) (Q_18_4 rk_343 (by omega))) (fun g V ve12 vn13 hq => ?_)
        have hG := hq.trans hG
        refine S_iinc (c := 1) rfl rfl rfl hx3 rfl (by omega) (fun vz14 hvz14 => ?_)
        refine LW_ls (ls' := [some (.ref 343), some (.int x1), some (.int x2), some (.int vz14), o4, o5]) rfl ?_
        refine LW_goto (tgt := 7) rfl rfl ?_
        exact ih7 _ V hG x1 y1 hx1 (by omega) x2 y2 hx2 (by omega) vz14 vz14.toInt rfl (by omega) o4 o5 (by rw [ve12]; omega)   (by omega)
set_option maxRecDepth 10000 in
set_option maxHeartbeats 40000000 in
theorem C_X6_tryGroup_58 {P : Par} {g g0 : LH} {d n : Nat}  (V : Inv P g) (hG : Gr g = Gr g0) (x1 : Int32) (y1 : Int) (hx1 : x1.toInt = y1) (hf1 : 0 ≤ y1 ∧ y1 ≤ 7) (x2 : Int32) (y2 : Int) (hx2 : x2.toInt = y2) (hf2 : 1 ≤ y2 ∧ y2 ≤ 67108863) (x3 : Int32) (y3 : Int) (hx3 : x3.toInt = y3) (hf3 : 0 ≤ y3 ∧ y3 ≤ 1024) (o4 : Option Value) (o5 : Option Value) (hc343_4 : 0 ≤ (Gi g 343 4).toInt ∧ (Gi g 343 4).toInt ≤ 10) (hmu : (1024 - y3) * 14 + 13 < (n : Int) + 1) (ih7 : ∀ (g : LH) (V : Inv P g) (hG : Gr g = Gr g0) (x1 : Int32) (y1 : Int) (hx1 : x1.toInt = y1) (hf1 : 0 ≤ y1 ∧ y1 ≤ 7) (x2 : Int32) (y2 : Int) (hx2 : x2.toInt = y2) (hf2 : 1 ≤ y2 ∧ y2 ≤ 67108863) (x3 : Int32) (y3 : Int) (hx3 : x3.toInt = y3) (hf3 : 0 ≤ y3 ∧ y3 ≤ 26) (o4 : Option Value) (o5 : Option Value) (hc343_4 : 0 ≤ (Gi g 343 4).toInt ∧ (Gi g 343 4).toInt ≤ 10), (26 - y3) * 1 + 14351 < (n : Int) → LW 61 (d + 9) 0 0 7 [some (.ref 343), some (.int x1), some (.int x2), some (.int x3), o4, o5] [] g (fun v g' => v = none ∧ Inv P g' ∧ Gr g' = Gr g0)) (ih58 : ∀ (g : LH) (V : Inv P g) (hG : Gr g = Gr g0) (x1 : Int32) (y1 : Int) (hx1 : x1.toInt = y1) (hf1 : 0 ≤ y1 ∧ y1 ≤ 7) (x2 : Int32) (y2 : Int) (hx2 : x2.toInt = y2) (hf2 : 1 ≤ y2 ∧ y2 ≤ 67108863) (x3 : Int32) (y3 : Int) (hx3 : x3.toInt = y3) (hf3 : 0 ≤ y3 ∧ y3 ≤ 1024) (o4 : Option Value) (o5 : Option Value) (hc343_4 : 0 ≤ (Gi g 343 4).toInt ∧ (Gi g 343 4).toInt ≤ 10), (1024 - y3) * 14 + 13 < (n : Int) → LW 61 (d + 9) 0 0 58 [some (.ref 343), some (.int x1), some (.int x2), some (.int x3), o4, o5] [] g (fun v g' => v = none ∧ Inv P g' ∧ Gr g' = Gr g0)) (ih74 : ∀ (g : LH) (V : Inv P g) (hG : Gr g = Gr g0) (x1 : Int32) (y1 : Int) (hx1 : x1.toInt = y1) (hf1 : 0 ≤ y1 ∧ y1 ≤ 7) (x2 : Int32) (y2 : Int) (hx2 : x2.toInt = y2) (hf2 : 1 ≤ y2 ∧ y2 ≤ 67108863) (x3 : Int32) (y3 : Int) (hx3 : x3.toInt = y3) (hf3 : 0 ≤ y3 ∧ y3 ≤ 1023) (x4 : Int32) (y4 : Int) (hx4 : x4.toInt = y4) (x5 : Int32) (y5 : Int) (hx5 : x5.toInt = y5) (hf5 : 0 ≤ y5 ∧ y5 ≤ 10) (hc343_4 : 0 ≤ (Gi g 343 4).toInt ∧ (Gi g 343 4).toInt ≤ 10), (1024 - y3) * 14 + 0 + (10 - y5) * 1 + 0 < (n : Int) → LW 61 (d + 9) 0 0 74 [some (.ref 343), some (.int x1), some (.int x2), some (.int x3), some (.int x4), some (.int x5)] [] g (fun v g' => v = none ∧ Inv P g' ∧ Gr g' = Gr g0)) : LW 61 (d + 9) 0 0 58 [some (.ref 343), some (.int x1), some (.int x2), some (.int x3), o4, o5] [] g (fun v g' => v = none ∧ Inv P g' ∧ Gr g' = Gr g0) := by
  obtain ⟨vz1, evz1⟩ : ∃ z, Gi g 343 4 = z := ⟨_, rfl⟩
  rw [evz1] at hc343_4
  refine X_iload_n rfl rfl rfl rfl ?_
  refine X_iconst (v := (1 : Int32)) rfl rfl rfl ?_
  refine X_aload_n rfl rfl rfl rfl ?_
  refine X_getI (v := vz1) rfl rfl rfl ((congrFun V.1 343).trans s_343) rfl evz1 ?_
  refine S_shl1 (n := 10) rfl rfl rfl (by omega) (fun vz2 hvz2 => ?_)
  refine S_icmp_ge (tgt := 133) rfl rfl rfl hx3 rfl (fun vh3 => ?_) (fun vh3 => ?_)
  · exact LW_return (st := []) rfl rfl ⟨rfl, V, hG⟩
  · refine X_iconst (v := (0 : Int32)) rfl rfl rfl ?_
    refine X_istore (i := 4) (ls' := [some (.ref 343), some (.int x1), some (.int x2), some (.int x3), some (.int (0 : Int32)), o5]) rfl rfl (Nat.le_of_ble_eq_true rfl) rfl ?_
    refine X_iconst (v := (0 : Int32)) rfl rfl rfl ?_
    refine X_istore (i := 5) (ls' := [some (.ref 343), some (.int x1), some (.int x2), some (.int x3), some (.int (0 : Int32)), some (.int (0 : Int32))]) rfl rfl (Nat.le_of_ble_eq_true rfl) rfl ?_
    exact ih74 _ V hG x1 y1 hx1 (by omega) x2 y2 hx2 (by omega) x3 y3 hx3 (by omega) (0 : Int32) 0 (show (0 : Int32).toInt = 0 from rfl) (0 : Int32) 0 (show (0 : Int32).toInt = 0 from rfl) (by omega) (by rw [evz1]; omega)   (by omega)
set_option maxRecDepth 10000 in
set_option maxHeartbeats 40000000 in
theorem C_X6_tryGroup_74 {P : Par} {g g0 : LH} {d n : Nat}  (V : Inv P g) (hG : Gr g = Gr g0) (x1 : Int32) (y1 : Int) (hx1 : x1.toInt = y1) (hf1 : 0 ≤ y1 ∧ y1 ≤ 7) (x2 : Int32) (y2 : Int) (hx2 : x2.toInt = y2) (hf2 : 1 ≤ y2 ∧ y2 ≤ 67108863) (x3 : Int32) (y3 : Int) (hx3 : x3.toInt = y3) (hf3 : 0 ≤ y3 ∧ y3 ≤ 1023) (x4 : Int32) (y4 : Int) (hx4 : x4.toInt = y4) (x5 : Int32) (y5 : Int) (hx5 : x5.toInt = y5) (hf5 : 0 ≤ y5 ∧ y5 ≤ 10) (hc343_4 : 0 ≤ (Gi g 343 4).toInt ∧ (Gi g 343 4).toInt ≤ 10) (hmu : (1024 - y3) * 14 + 0 + (10 - y5) * 1 + 0 < (n : Int) + 1) (ih7 : ∀ (g : LH) (V : Inv P g) (hG : Gr g = Gr g0) (x1 : Int32) (y1 : Int) (hx1 : x1.toInt = y1) (hf1 : 0 ≤ y1 ∧ y1 ≤ 7) (x2 : Int32) (y2 : Int) (hx2 : x2.toInt = y2) (hf2 : 1 ≤ y2 ∧ y2 ≤ 67108863) (x3 : Int32) (y3 : Int) (hx3 : x3.toInt = y3) (hf3 : 0 ≤ y3 ∧ y3 ≤ 26) (o4 : Option Value) (o5 : Option Value) (hc343_4 : 0 ≤ (Gi g 343 4).toInt ∧ (Gi g 343 4).toInt ≤ 10), (26 - y3) * 1 + 14351 < (n : Int) → LW 61 (d + 9) 0 0 7 [some (.ref 343), some (.int x1), some (.int x2), some (.int x3), o4, o5] [] g (fun v g' => v = none ∧ Inv P g' ∧ Gr g' = Gr g0)) (ih58 : ∀ (g : LH) (V : Inv P g) (hG : Gr g = Gr g0) (x1 : Int32) (y1 : Int) (hx1 : x1.toInt = y1) (hf1 : 0 ≤ y1 ∧ y1 ≤ 7) (x2 : Int32) (y2 : Int) (hx2 : x2.toInt = y2) (hf2 : 1 ≤ y2 ∧ y2 ≤ 67108863) (x3 : Int32) (y3 : Int) (hx3 : x3.toInt = y3) (hf3 : 0 ≤ y3 ∧ y3 ≤ 1024) (o4 : Option Value) (o5 : Option Value) (hc343_4 : 0 ≤ (Gi g 343 4).toInt ∧ (Gi g 343 4).toInt ≤ 10), (1024 - y3) * 14 + 13 < (n : Int) → LW 61 (d + 9) 0 0 58 [some (.ref 343), some (.int x1), some (.int x2), some (.int x3), o4, o5] [] g (fun v g' => v = none ∧ Inv P g' ∧ Gr g' = Gr g0)) (ih74 : ∀ (g : LH) (V : Inv P g) (hG : Gr g = Gr g0) (x1 : Int32) (y1 : Int) (hx1 : x1.toInt = y1) (hf1 : 0 ≤ y1 ∧ y1 ≤ 7) (x2 : Int32) (y2 : Int) (hx2 : x2.toInt = y2) (hf2 : 1 ≤ y2 ∧ y2 ≤ 67108863) (x3 : Int32) (y3 : Int) (hx3 : x3.toInt = y3) (hf3 : 0 ≤ y3 ∧ y3 ≤ 1023) (x4 : Int32) (y4 : Int) (hx4 : x4.toInt = y4) (x5 : Int32) (y5 : Int) (hx5 : x5.toInt = y5) (hf5 : 0 ≤ y5 ∧ y5 ≤ 10) (hc343_4 : 0 ≤ (Gi g 343 4).toInt ∧ (Gi g 343 4).toInt ≤ 10), (1024 - y3) * 14 + 0 + (10 - y5) * 1 + 0 < (n : Int) → LW 61 (d + 9) 0 0 74 [some (.ref 343), some (.int x1), some (.int x2), some (.int x3), some (.int x4), some (.int x5)] [] g (fun v g' => v = none ∧ Inv P g' ∧ Gr g' = Gr g0)) : LW 61 (d + 9) 0 0 74 [some (.ref 343), some (.int x1), some (.int x2), some (.int x3), some (.int x4), some (.int x5)] [] g (fun v g' => v = none ∧ Inv P g' ∧ Gr g' = Gr g0) := by
  obtain ⟨vz1, evz1⟩ : ∃ z, Gi g 343 4 = z := ⟨_, rfl⟩
  rw [evz1] at hc343_4
  refine X_iload rfl rfl rfl ?_
  refine X_aload_n rfl rfl rfl rfl ?_
  refine X_getI (v := vz1) rfl rfl rfl ((congrFun V.1 343).trans s_343) rfl evz1 ?_
  refine S_icmp_ge (tgt := 108) rfl rfl rfl hx5 rfl (fun vh2 => ?_) (fun vh2 => ?_)
  · refine X_aload_n rfl rfl rfl rfl ?_
    refine X_getR (a := 347) rfl rfl rfl ((congrFun V.1 343).trans s_343) rfl ((congrFun (V.2.1 343 (by decide)) 5).trans r_343_5) ?_
    refine X_iload_n rfl rfl rfl rfl ?_
    refine X_aload_n rfl rfl rfl rfl ?_
    refine X_getR (a := 1) rfl rfl rfl ((congrFun V.1 343).trans s_343) rfl ((congrFun (V.2.1 343 (by decide)) 0).trans r_343_0) ?_
    refine X_getR (a := 2) rfl rfl rfl ((congrFun V.1 1).trans s_1) rfl ((congrFun (V.2.1 1 (by decide)) 0).trans r_1_0) ?_
    refine X_iload_n rfl rfl rfl rfl ?_
    refine X_iload rfl rfl rfl ?_
    refine X_callV (as := [.int x1, .int x4]) (st := [.int x3, .ref 347]) rfl rfl rfl (by decide) rfl (Nat.le_of_ble_eq_true rfl) (by decide) (Nat.le_of_ble_eq_true rfl) rfl ((congrFun V.1 2).trans s_2) (by decide) ?_
    refine LW_ls (ls' := [some (.ref 2), some (.int x1), some (.int x4)]) rfl ?_
    refine X_aload_n rfl rfl rfl rfl ?_
    refine X_iload_n rfl rfl rfl rfl ?_
    refine X_callV (as := [.int x1]) (st := []) rfl rfl rfl (by decide) rfl (Nat.le_of_ble_eq_true rfl) (by decide) (Nat.le_of_ble_eq_true rfl) rfl ((congrFun V.1 2).trans s_2) (by decide) ?_
    refine LW_ls (ls' := [some (.ref 2), some (.int x1)]) rfl ?_
    refine X_iload_n rfl rfl rfl rfl ?_
    refine S_if_lt (tgt := 22) rfl rfl rfl hx1 (fun q => absurd q (by omega)) (fun vh3 => ?_)
    refine X_iload_n rfl rfl rfl rfl ?_
    refine X_aload_n rfl rfl rfl rfl ?_
    refine S_getI rfl rfl rfl ((congrFun V.1 2).trans s_2) rfl (fun vz4 evz4 => ?_)
    have vf5 := K_10_1 (V.2.2.2.2.1 (2) (1) (Nat.le_of_ble_eq_true rfl)) rk_2
    rw [evz4] at vf5
    refine S_icmp_ge (tgt := 22) rfl rfl rfl hx1 rfl (fun vh6 => ?_) (fun vh6 => ?_)
    · refine X_iconst (v := (0 : Int32)) rfl rfl rfl ?_
      refine LW_ireturn (st := []) rfl rfl rfl ?_
      refine S_if_eq (tgt := 29) rfl rfl rfl (show (0 : Int32).toInt = 0 from rfl) (fun vh7 => ?_) (fun q => absurd q (by omega))
      refine X_iconst (v := (0 : Int32)) rfl rfl rfl ?_
      refine LW_ireturn (st := []) rfl rfl rfl ?_
      refine S_zast (I := Inv _) rfl rfl ((congrFun V.1 347).trans s_347) hx3 (by omega) (fun x => (Inv_putI V (Nat.le_of_ble_eq_true rfl) (Or.inl (by decide)) (Q_0 rk_347))) (fun g V vn9 hq => ?_)
      have hG := hq.trans hG
      have evz1 := (vn9 (343) 4 (Or.inl (by decide))).trans evz1
      have evz4 := (vn9 (2) 1 (Or.inl (by decide))).trans evz4
      refine S_iinc (c := 1) rfl rfl rfl hx3 rfl (by omega) (fun vz10 hvz10 => ?_)
      refine LW_ls (ls' := [some (.ref 343), some (.int x1), some (.int x2), some (.int vz10), some (.int x4), some (.int x5)]) rfl ?_
      refine LW_goto (tgt := 58) rfl rfl ?_
      exact ih58 _ V hG x1 y1 hx1 (by omega) x2 y2 hx2 (by omega) vz10 vz10.toInt rfl (by omega) (some (.int x4)) (some (.int x5)) (by rw [evz1]; omega)   (by omega)
    · refine X_iload_n rfl rfl rfl rfl ?_
      refine X_bipush (v := (8 : Int32)) rfl rfl rfl ?_
      refine S_icmp_ge (tgt := 22) rfl rfl rfl hx1 (show (8 : Int32).toInt = 8 from rfl) (fun q => absurd q (by omega)) (fun vh11 => ?_)
      refine X_iconst (v := (1 : Int32)) rfl rfl rfl ?_
      refine LW_goto (tgt := 23) rfl rfl ?_
      refine LW_ireturn (st := []) rfl rfl rfl ?_
      refine S_if_eq (tgt := 29) rfl rfl rfl (show (1 : Int32).toInt = 1 from rfl) (fun q => absurd q (by omega)) (fun vh12 => ?_)
      refine X_aload_n rfl rfl rfl rfl ?_
      refine X_getR (a := 8) rfl rfl rfl ((congrFun V.1 2).trans s_2) rfl ((congrFun (V.2.1 2 (by decide)) 7).trans r_2_7) ?_
      refine X_iload_n rfl rfl rfl rfl ?_
      refine S_iald rfl rfl ((congrFun V.1 8).trans s_8) hx1 (by omega) (fun vz13 evz13 => ?_)
      refine X_aload_n rfl rfl rfl rfl ?_
      refine X_iload_n rfl rfl rfl rfl ?_
      refine Y_callV (as := [.int x4]) (st := [.int vz13]) rfl rfl rfl (by decide) rfl (Nat.le_of_ble_eq_true rfl) (by decide) (Nat.le_of_ble_eq_true rfl) rfl ((congrFun V.1 2).trans s_2) (by decide) (C_X5_sensesLeft V x4 y4 hx4 ) ?_
      rintro _ g' ⟨vr14, rfl, hrvr140, hrvr141, hgg⟩
      subst hgg
      refine X_iconst (v := (-1 : Int32)) rfl rfl rfl ?_
      refine S_ixorT rfl rfl (fun vz15 => ?_)
      refine S_iandT rfl rfl (fun vz16 => ?_)
      refine S_if_ne (tgt := 29) rfl rfl rfl rfl (fun vh17 => ?_) (fun vh17 => ?_)
      · refine X_iconst (v := (0 : Int32)) rfl rfl rfl ?_
        refine LW_ireturn (st := []) rfl rfl rfl ?_
        refine S_zast (I := Inv _) rfl rfl ((congrFun V.1 347).trans s_347) hx3 (by omega) (fun x => (Inv_putI V (Nat.le_of_ble_eq_true rfl) (Or.inl (by decide)) (Q_0 rk_347))) (fun g V vn19 hq => ?_)
        have hG := hq.trans hG
        have evz1 := (vn19 (343) 4 (Or.inl (by decide))).trans evz1
        have evz4 := (vn19 (2) 1 (Or.inl (by decide))).trans evz4
        have evz13 := (vn19 (8) ((y1 : Int).toNat) (Or.inl (by decide))).trans evz13
        refine S_iinc (c := 1) rfl rfl rfl hx3 rfl (by omega) (fun vz20 hvz20 => ?_)
        refine LW_ls (ls' := [some (.ref 343), some (.int x1), some (.int x2), some (.int vz20), some (.int x4), some (.int x5)]) rfl ?_
        refine LW_goto (tgt := 58) rfl rfl ?_
        exact ih58 _ V hG x1 y1 hx1 (by omega) x2 y2 hx2 (by omega) vz20 vz20.toInt rfl (by omega) (some (.int x4)) (some (.int x5)) (by rw [evz1]; omega)   (by omega)
      · refine X_iconst (v := (1 : Int32)) rfl rfl rfl ?_
        refine LW_goto (tgt := 30) rfl rfl ?_
        refine LW_ireturn (st := []) rfl rfl rfl ?_
        refine S_zast (I := Inv _) rfl rfl ((congrFun V.1 347).trans s_347) hx3 (by omega) (fun x => (Inv_putI V (Nat.le_of_ble_eq_true rfl) (Or.inl (by decide)) (Q_0 rk_347))) (fun g V vn22 hq => ?_)
        have hG := hq.trans hG
        have evz1 := (vn22 (343) 4 (Or.inl (by decide))).trans evz1
        have evz4 := (vn22 (2) 1 (Or.inl (by decide))).trans evz4
        have evz13 := (vn22 (8) ((y1 : Int).toNat) (Or.inl (by decide))).trans evz13
        refine S_iinc (c := 1) rfl rfl rfl hx3 rfl (by omega) (fun vz23 hvz23 => ?_)
        refine LW_ls (ls' := [some (.ref 343), some (.int x1), some (.int x2), some (.int vz23), some (.int x4), some (.int x5)]) rfl ?_
        refine LW_goto (tgt := 58) rfl rfl ?_
        exact ih58 _ V hG x1 y1 hx1 (by omega) x2 y2 hx2 (by omega) vz23 vz23.toInt rfl (by omega) (some (.int x4)) (some (.int x5)) (by rw [evz1]; omega)   (by omega)
  · refine X_iload rfl rfl rfl ?_
    refine X_iload_n rfl rfl rfl rfl ?_
    refine X_iload rfl rfl rfl ?_
    refine S_ishrT rfl rfl (fun vz24 => ?_)
    refine X_iconst (v := (1 : Int32)) rfl rfl rfl ?_
    refine S_iandR (k := 1) rfl rfl rfl (fun vz25 hvz25 => ?_)
    refine X_aload_n rfl rfl rfl rfl ?_
    refine X_getR (a := 346) rfl rfl rfl ((congrFun V.1 343).trans s_343) rfl ((congrFun (V.2.1 343 (by decide)) 3).trans r_343_3) ?_
    refine X_iload rfl rfl rfl ?_
    refine S_iald rfl rfl ((congrFun V.1 346).trans s_346) hx5 (by omega) (fun vz26 evz26 => ?_)
    have vf27 := K_3 (V.2.2.2.2.1 (346) ((y5 : Int).toNat) (Nat.le_of_ble_eq_true rfl)) rk_346
    rw [evz26] at vf27
    refine S_ishlT rfl rfl (fun vz28 => ?_)
    refine S_iorT rfl rfl (fun vz29 => ?_)
    refine X_istore (i := 4) (ls' := [some (.ref 343), some (.int x1), some (.int x2), some (.int x3), some (.int vz29), some (.int x5)]) rfl rfl (Nat.le_of_ble_eq_true rfl) rfl ?_
    refine S_iinc (c := 1) rfl rfl rfl hx5 rfl (by omega) (fun vz30 hvz30 => ?_)
    refine LW_ls (ls' := [some (.ref 343), some (.int x1), some (.int x2), some (.int x3), some (.int vz29), some (.int vz30)]) rfl ?_
    refine LW_goto (tgt := 74) rfl rfl ?_
    exact ih74 _ V hG x1 y1 hx1 (by omega) x2 y2 hx2 (by omega) x3 y3 hx3 (by omega) vz29 vz29.toInt rfl vz30 vz30.toInt rfl (by omega) (by rw [evz1]; omega)   (by omega)
theorem C_X6_tryGroup_all {P : Par} {g0 : LH} {d : Nat}  : ∀ n : Nat, (∀ (g : LH) (V : Inv P g) (hG : Gr g = Gr g0) (x1 : Int32) (y1 : Int) (hx1 : x1.toInt = y1) (hf1 : 0 ≤ y1 ∧ y1 ≤ 7) (x2 : Int32) (y2 : Int) (hx2 : x2.toInt = y2) (hf2 : 1 ≤ y2 ∧ y2 ≤ 67108863) (x3 : Int32) (y3 : Int) (hx3 : x3.toInt = y3) (hf3 : 0 ≤ y3 ∧ y3 ≤ 26) (o4 : Option Value) (o5 : Option Value) (hc343_4 : 0 ≤ (Gi g 343 4).toInt ∧ (Gi g 343 4).toInt ≤ 10), (26 - y3) * 1 + 14351 < (n : Int) → LW 61 (d + 9) 0 0 7 [some (.ref 343), some (.int x1), some (.int x2), some (.int x3), o4, o5] [] g (fun v g' => v = none ∧ Inv P g' ∧ Gr g' = Gr g0)) ∧ (∀ (g : LH) (V : Inv P g) (hG : Gr g = Gr g0) (x1 : Int32) (y1 : Int) (hx1 : x1.toInt = y1) (hf1 : 0 ≤ y1 ∧ y1 ≤ 7) (x2 : Int32) (y2 : Int) (hx2 : x2.toInt = y2) (hf2 : 1 ≤ y2 ∧ y2 ≤ 67108863) (x3 : Int32) (y3 : Int) (hx3 : x3.toInt = y3) (hf3 : 0 ≤ y3 ∧ y3 ≤ 1024) (o4 : Option Value) (o5 : Option Value) (hc343_4 : 0 ≤ (Gi g 343 4).toInt ∧ (Gi g 343 4).toInt ≤ 10), (1024 - y3) * 14 + 13 < (n : Int) → LW 61 (d + 9) 0 0 58 [some (.ref 343), some (.int x1), some (.int x2), some (.int x3), o4, o5] [] g (fun v g' => v = none ∧ Inv P g' ∧ Gr g' = Gr g0)) ∧ (∀ (g : LH) (V : Inv P g) (hG : Gr g = Gr g0) (x1 : Int32) (y1 : Int) (hx1 : x1.toInt = y1) (hf1 : 0 ≤ y1 ∧ y1 ≤ 7) (x2 : Int32) (y2 : Int) (hx2 : x2.toInt = y2) (hf2 : 1 ≤ y2 ∧ y2 ≤ 67108863) (x3 : Int32) (y3 : Int) (hx3 : x3.toInt = y3) (hf3 : 0 ≤ y3 ∧ y3 ≤ 1023) (x4 : Int32) (y4 : Int) (hx4 : x4.toInt = y4) (x5 : Int32) (y5 : Int) (hx5 : x5.toInt = y5) (hf5 : 0 ≤ y5 ∧ y5 ≤ 10) (hc343_4 : 0 ≤ (Gi g 343 4).toInt ∧ (Gi g 343 4).toInt ≤ 10), (1024 - y3) * 14 + 0 + (10 - y5) * 1 + 0 < (n : Int) → LW 61 (d + 9) 0 0 74 [some (.ref 343), some (.int x1), some (.int x2), some (.int x3), some (.int x4), some (.int x5)] [] g (fun v g' => v = none ∧ Inv P g' ∧ Gr g' = Gr g0)) := by
  intro n
  induction n with
  | zero => exact ⟨fun g V hG x1 y1 hx1 hf1 x2 y2 hx2 hf2 x3 y3 hx3 hf3 o4 o5 hc343_4 hmu => absurd hmu (by omega), fun g V hG x1 y1 hx1 hf1 x2 y2 hx2 hf2 x3 y3 hx3 hf3 o4 o5 hc343_4 hmu => absurd hmu (by omega), fun g V hG x1 y1 hx1 hf1 x2 y2 hx2 hf2 x3 y3 hx3 hf3 x4 y4 hx4 x5 y5 hx5 hf5 hc343_4 hmu => absurd hmu (by omega)⟩
  | succ n ih => exact ⟨fun g V hG x1 y1 hx1 hf1 x2 y2 hx2 hf2 x3 y3 hx3 hf3 o4 o5 hc343_4 hmu => C_X6_tryGroup_7  V hG x1 y1 hx1 hf1 x2 y2 hx2 hf2 x3 y3 hx3 hf3 o4 o5 hc343_4 (by omega) ih.1 ih.2.1 ih.2.2, fun g V hG x1 y1 hx1 hf1 x2 y2 hx2 hf2 x3 y3 hx3 hf3 o4 o5 hc343_4 hmu => C_X6_tryGroup_58  V hG x1 y1 hx1 hf1 x2 y2 hx2 hf2 x3 y3 hx3 hf3 o4 o5 hc343_4 (by omega) ih.1 ih.2.1 ih.2.2, fun g V hG x1 y1 hx1 hf1 x2 y2 hx2 hf2 x3 y3 hx3 hf3 x4 y4 hx4 x5 y5 hx5 hf5 hc343_4 hmu => C_X6_tryGroup_74  V hG x1 y1 hx1 hf1 x2 y2 hx2 hf2 x3 y3 hx3 hf3 x4 y4 hx4 x5 y5 hx5 hf5 hc343_4 (by omega) ih.1 ih.2.1 ih.2.2⟩
set_option maxRecDepth 10000 in
set_option maxHeartbeats 40000000 in
theorem C_X6_tryGroup {P : Par} {g : LH} {d : Nat}  (V : Inv P g) (x1 : Int32) (y1 : Int) (hx1 : x1.toInt = y1) (hf1 : 0 ≤ y1 ∧ y1 ≤ 7) (x2 : Int32) (y2 : Int) (hx2 : x2.toInt = y2) (hf2 : 1 ≤ y2 ∧ y2 ≤ 67108863)   : LW 61 (d + 9) 0 0 0 (lEnt (mL 61) [.ref 343, .int x1, .int x2]) [] g (fun v g' => v = none ∧ Inv P g' ∧ Gr g' = Gr g) := by
  refine LW_ls (ls' := [some (.ref 343), some (.int x1), some (.int x2), none, none, none]) rfl ?_
  have hG : Gr g = Gr g := rfl
  refine X_aload_n rfl rfl rfl rfl ?_
  refine X_iconst (v := (0 : Int32)) rfl rfl rfl ?_
  refine S_putI (I := Inv _) rfl rfl rfl ((congrFun V.1 343).trans s_343) rfl rfl rfl rfl (Inv_putI V (Nat.le_of_ble_eq_true rfl) (Or.inl (by decide)) (Q_18_4 rk_343 (by decide))) (fun g V ve1 vn2 hq => ?_)
  have hG := hq.trans hG
  refine X_iconst (v := (0 : Int32)) rfl rfl rfl ?_
  refine X_istore_n (i := 3) (ls' := [some (.ref 343), some (.int x1), some (.int x2), some (.int (0 : Int32)), none, none]) rfl rfl rfl (Nat.le_of_ble_eq_true rfl) rfl ?_
  exact (C_X6_tryGroup_all (((26 - 0) * 1 + 14351) + 1 : Int).toNat).1 _ V hG x1 y1 hx1 (by omega) x2 y2 hx2 (by omega) (0 : Int32) 0 (show (0 : Int32).toInt = 0 from rfl) (by omega) none none (by rw [ve1]; decide)   (by omega)
set_option maxRecDepth 10000 in
set_option maxHeartbeats 40000000 in
theorem C_X6_pivotalOrders_12 {P : Par} {g g0 : LH} {d n : Nat}  (V : Inv P g) (hG : Gr g = Gr g0) (x1 : Int32) (y1 : Int) (hx1 : x1.toInt = y1) (hf1 : 0 ≤ y1 ∧ y1 ≤ 7) (x2 : Int32) (y2 : Int) (hx2 : x2.toInt = y2) (hf2 : 1 ≤ y2 ∧ y2 ≤ 67108863) (x3 : Int32) (y3 : Int) (hx3 : x3.toInt = y3) (hf3 : 0 ≤ y3 ∧ y3 ≤ 25) (x4 : Int32) (y4 : Int) (hx4 : x4.toInt = y4) (hf4 : 0 ≤ y4 ∧ y4 ≤ 1023) (x5 : Int32) (y5 : Int) (hx5 : x5.toInt = y5) (hf5 : 0 ≤ y5 ∧ y5 ≤ 10) (o6 : Option Value) (o7 : Option Value) (o8 : Option Value)  (hmu : (10 - y5) * 1 + 1026 < (n : Int) + 1) (ih12 : ∀ (g : LH) (V : Inv P g) (hG : Gr g = Gr g0) (x1 : Int32) (y1 : Int) (hx1 : x1.toInt = y1) (hf1 : 0 ≤ y1 ∧ y1 ≤ 7) (x2 : Int32) (y2 : Int) (hx2 : x2.toInt = y2) (hf2 : 1 ≤ y2 ∧ y2 ≤ 67108863) (x3 : Int32) (y3 : Int) (hx3 : x3.toInt = y3) (hf3 : 0 ≤ y3 ∧ y3 ≤ 25) (x4 : Int32) (y4 : Int) (hx4 : x4.toInt = y4) (hf4 : 0 ≤ y4 ∧ y4 ≤ 1023) (x5 : Int32) (y5 : Int) (hx5 : x5.toInt = y5) (hf5 : 0 ≤ y5 ∧ y5 ≤ 10) (o6 : Option Value) (o7 : Option Value) (o8 : Option Value) , (10 - y5) * 1 + 1026 < (n : Int) → LW 60 (d + 13) 0 0 12 [some (.ref 343), some (.int x1), some (.int x2), some (.int x3), some (.int x4), some (.int x5), o6, o7, o8] [] g (fun v g' => ∃ r : Int32, v = some (.int r) ∧ Inv P g' ∧ Gr g' = Gr g0)) (ih57 : ∀ (g : LH) (V : Inv P g) (hG : Gr g = Gr g0) (x1 : Int32) (y1 : Int) (hx1 : x1.toInt = y1) (hf1 : 0 ≤ y1 ∧ y1 ≤ 7) (x2 : Int32) (y2 : Int) (hx2 : x2.toInt = y2) (hf2 : 1 ≤ y2 ∧ y2 ≤ 67108863) (x3 : Int32) (y3 : Int) (hx3 : x3.toInt = y3) (hf3 : 0 ≤ y3 ∧ y3 ≤ 25) (x4 : Int32) (y4 : Int) (hx4 : x4.toInt = y4) (hf4 : 0 ≤ y4 ∧ y4 ≤ 1023) (x5 : Int32) (y5 : Int) (hx5 : x5.toInt = y5) (x6 : Int32) (y6 : Int) (hx6 : x6.toInt = y6) (hf6 : 0 ≤ y6 ∧ y6 ≤ 1024) (o7 : Option Value) (o8 : Option Value) (hc343_4 : 0 ≤ (Gi g 343 4).toInt ∧ (Gi g 343 4).toInt ≤ 10), (1024 - y6) * 1 + 0 < (n : Int) → LW 60 (d + 13) 0 0 57 [some (.ref 343), some (.int x1), some (.int x2), some (.int x3), some (.int x4), some (.int x5), some (.int x6), o7, o8] [] g (fun v g' => ∃ r : Int32, v = some (.int r) ∧ Inv P g' ∧ Gr g' = Gr g0)) : LW 60 (d + 13) 0 0 12 [some (.ref 343), some (.int x1), some (.int x2), some (.int x3), some (.int x4), some (.int x5), o6, o7, o8] [] g (fun v g' => ∃ r : Int32, v = some (.int r) ∧ Inv P g' ∧ Gr g' = Gr g0) := by
  refine X_iload rfl rfl rfl ?_
  refine X_aload_n rfl rfl rfl rfl ?_
  refine S_getI rfl rfl rfl ((congrFun V.1 343).trans s_343) rfl (fun vz1 evz1 => ?_)
  have vf2 := K_18_4 (V.2.2.2.2.1 (343) (4) (Nat.le_of_ble_eq_true rfl)) rk_343
  rw [evz1] at vf2
  refine S_icmp_ge (tgt := 51) rfl rfl rfl hx5 rfl (fun vh3 => ?_) (fun vh3 => ?_)
  · refine X_iconst (v := (0 : Int32)) rfl rfl rfl ?_
    refine X_istore (i := 5) (ls' := [some (.ref 343), some (.int x1), some (.int x2), some (.int x3), some (.int x4), some (.int (0 : Int32)), o6, o7, o8]) rfl rfl (Nat.le_of_ble_eq_true rfl) rfl ?_
    refine X_iconst (v := (0 : Int32)) rfl rfl rfl ?_
    refine X_istore (i := 6) (ls' := [some (.ref 343), some (.int x1), some (.int x2), some (.int x3), some (.int x4), some (.int (0 : Int32)), some (.int (0 : Int32)), o7, o8]) rfl rfl (Nat.le_of_ble_eq_true rfl) rfl ?_
    exact ih57 _ V hG x1 y1 hx1 (by omega) x2 y2 hx2 (by omega) x3 y3 hx3 (by omega) x4 y4 hx4 (by omega) (0 : Int32) 0 (show (0 : Int32).toInt = 0 from rfl) (0 : Int32) 0 (show (0 : Int32).toInt = 0 from rfl) (by omega) o7 o8 (by rw [evz1]; omega)   (by omega)
  · refine X_iload rfl rfl rfl ?_
    refine X_aload_n rfl rfl rfl rfl ?_
    refine X_getR (a := 346) rfl rfl rfl ((congrFun V.1 343).trans s_343) rfl ((congrFun (V.2.1 343 (by decide)) 3).trans r_343_3) ?_
    refine X_iload rfl rfl rfl ?_
    refine S_iald rfl rfl ((congrFun V.1 346).trans s_346) hx5 (by omega) (fun vz4 evz4 => ?_)
    have vf5 := K_3 (V.2.2.2.2.1 (346) ((y5 : Int).toNat) (Nat.le_of_ble_eq_true rfl)) rk_346
    rw [evz4] at vf5
    refine X_iload_n rfl rfl rfl rfl ?_
    refine S_icmp_ne (tgt := 41) rfl rfl rfl rfl hx3 (fun vh6 => ?_) (fun vh6 => ?_)
    · refine X_iconst (v := (0 : Int32)) rfl rfl rfl ?_
      refine S_ior (n := 10) rfl rfl hx4 (show (0 : Int32).toInt = 0 from rfl) (by omega) (by omega) (fun vz7 hvz7 => ?_)
      refine X_istore (i := 4) (ls' := [some (.ref 343), some (.int x1), some (.int x2), some (.int x3), some (.int vz7), some (.int x5), o6, o7, o8]) rfl rfl (Nat.le_of_ble_eq_true rfl) rfl ?_
      refine S_iinc (c := 1) rfl rfl rfl hx5 rfl (by omega) (fun vz8 hvz8 => ?_)
      refine LW_ls (ls' := [some (.ref 343), some (.int x1), some (.int x2), some (.int x3), some (.int vz7), some (.int vz8), o6, o7, o8]) rfl ?_
      refine LW_goto (tgt := 12) rfl rfl ?_
      exact ih12 _ V hG x1 y1 hx1 (by omega) x2 y2 hx2 (by omega) x3 y3 hx3 (by omega) vz7 vz7.toInt rfl (by omega) vz8 vz8.toInt rfl (by omega) o6 o7 o8    (by omega)
    · refine X_iconst (v := (1 : Int32)) rfl rfl rfl ?_
      refine X_iload rfl rfl rfl ?_
      refine S_shl1 (n := 9) rfl rfl hx5 (by omega) (fun vz9 hvz9 => ?_)
      refine LW_goto (tgt := 42) rfl rfl ?_
      refine S_ior (n := 10) rfl rfl hx4 rfl (by omega) (by omega) (fun vz10 hvz10 => ?_)
      refine X_istore (i := 4) (ls' := [some (.ref 343), some (.int x1), some (.int x2), some (.int x3), some (.int vz10), some (.int x5), o6, o7, o8]) rfl rfl (Nat.le_of_ble_eq_true rfl) rfl ?_
      refine S_iinc (c := 1) rfl rfl rfl hx5 rfl (by omega) (fun vz11 hvz11 => ?_)
      refine LW_ls (ls' := [some (.ref 343), some (.int x1), some (.int x2), some (.int x3), some (.int vz10), some (.int vz11), o6, o7, o8]) rfl ?_
      refine LW_goto (tgt := 12) rfl rfl ?_
      exact ih12 _ V hG x1 y1 hx1 (by omega) x2 y2 hx2 (by omega) x3 y3 hx3 (by omega) vz10 vz10.toInt rfl (by omega) vz11 vz11.toInt rfl (by omega) o6 o7 o8    (by omega)
set_option maxRecDepth 10000 in
set_option maxHeartbeats 40000000 in
theorem C_X6_pivotalOrders_57 {P : Par} {g g0 : LH} {d n : Nat}  (V : Inv P g) (hG : Gr g = Gr g0) (x1 : Int32) (y1 : Int) (hx1 : x1.toInt = y1) (hf1 : 0 ≤ y1 ∧ y1 ≤ 7) (x2 : Int32) (y2 : Int) (hx2 : x2.toInt = y2) (hf2 : 1 ≤ y2 ∧ y2 ≤ 67108863) (x3 : Int32) (y3 : Int) (hx3 : x3.toInt = y3) (hf3 : 0 ≤ y3 ∧ y3 ≤ 25) (x4 : Int32) (y4 : Int) (hx4 : x4.toInt = y4) (hf4 : 0 ≤ y4 ∧ y4 ≤ 1023) (x5 : Int32) (y5 : Int) (hx5 : x5.toInt = y5) (x6 : Int32) (y6 : Int) (hx6 : x6.toInt = y6) (hf6 : 0 ≤ y6 ∧ y6 ≤ 1024) (o7 : Option Value) (o8 : Option Value) (hc343_4 : 0 ≤ (Gi g 343 4).toInt ∧ (Gi g 343 4).toInt ≤ 10) (hmu : (1024 - y6) * 1 + 0 < (n : Int) + 1) (ih12 : ∀ (g : LH) (V : Inv P g) (hG : Gr g = Gr g0) (x1 : Int32) (y1 : Int) (hx1 : x1.toInt = y1) (hf1 : 0 ≤ y1 ∧ y1 ≤ 7) (x2 : Int32) (y2 : Int) (hx2 : x2.toInt = y2) (hf2 : 1 ≤ y2 ∧ y2 ≤ 67108863) (x3 : Int32) (y3 : Int) (hx3 : x3.toInt = y3) (hf3 : 0 ≤ y3 ∧ y3 ≤ 25) (x4 : Int32) (y4 : Int) (hx4 : x4.toInt = y4) (hf4 : 0 ≤ y4 ∧ y4 ≤ 1023) (x5 : Int32) (y5 : Int) (hx5 : x5.toInt = y5) (hf5 : 0 ≤ y5 ∧ y5 ≤ 10) (o6 : Option Value) (o7 : Option Value) (o8 : Option Value) , (10 - y5) * 1 + 1026 < (n : Int) → LW 60 (d + 13) 0 0 12 [some (.ref 343), some (.int x1), some (.int x2), some (.int x3), some (.int x4), some (.int x5), o6, o7, o8] [] g (fun v g' => ∃ r : Int32, v = some (.int r) ∧ Inv P g' ∧ Gr g' = Gr g0)) (ih57 : ∀ (g : LH) (V : Inv P g) (hG : Gr g = Gr g0) (x1 : Int32) (y1 : Int) (hx1 : x1.toInt = y1) (hf1 : 0 ≤ y1 ∧ y1 ≤ 7) (x2 : Int32) (y2 : Int) (hx2 : x2.toInt = y2) (hf2 : 1 ≤ y2 ∧ y2 ≤ 67108863) (x3 : Int32) (y3 : Int) (hx3 : x3.toInt = y3) (hf3 : 0 ≤ y3 ∧ y3 ≤ 25) (x4 : Int32) (y4 : Int) (hx4 : x4.toInt = y4) (hf4 : 0 ≤ y4 ∧ y4 ≤ 1023) (x5 : Int32) (y5 : Int) (hx5 : x5.toInt = y5) (x6 : Int32) (y6 : Int) (hx6 : x6.toInt = y6) (hf6 : 0 ≤ y6 ∧ y6 ≤ 1024) (o7 : Option Value) (o8 : Option Value) (hc343_4 : 0 ≤ (Gi g 343 4).toInt ∧ (Gi g 343 4).toInt ≤ 10), (1024 - y6) * 1 + 0 < (n : Int) → LW 60 (d + 13) 0 0 57 [some (.ref 343), some (.int x1), some (.int x2), some (.int x3), some (.int x4), some (.int x5), some (.int x6), o7, o8] [] g (fun v g' => ∃ r : Int32, v = some (.int r) ∧ Inv P g' ∧ Gr g' = Gr g0)) : LW 60 (d + 13) 0 0 57 [some (.ref 343), some (.int x1), some (.int x2), some (.int x3), some (.int x4), some (.int x5), some (.int x6), o7, o8] [] g (fun v g' => ∃ r : Int32, v = some (.int r) ∧ Inv P g' ∧ Gr g' = Gr g0) := by
  obtain ⟨vz1, evz1⟩ : ∃ z, Gi g 343 4 = z := ⟨_, rfl⟩
  rw [evz1] at hc343_4
  refine X_iload rfl rfl rfl ?_
  refine X_iconst (v := (1 : Int32)) rfl rfl rfl ?_
  refine X_aload_n rfl rfl rfl rfl ?_
  refine X_getI (v := vz1) rfl rfl rfl ((congrFun V.1 343).trans s_343) rfl evz1 ?_
  refine S_shl1 (n := 10) rfl rfl rfl (by omega) (fun vz2 hvz2 => ?_)
  refine S_icmp_ge (tgt := 150) rfl rfl rfl hx6 rfl (fun vh3 => ?_) (fun vh3 => ?_)
  · refine X_iload rfl rfl rfl ?_
    exact LW_ireturn (st := []) rfl rfl rfl ⟨_, rfl, V, hG⟩
  · refine X_iload rfl rfl rfl ?_
    refine X_iload rfl rfl rfl ?_
    refine S_iandT rfl rfl (fun vz4 => ?_)
    refine S_if_ne (tgt := 144) rfl rfl rfl rfl (fun vh5 => ?_) (fun vh5 => ?_)
    · refine S_iinc (c := 1) rfl rfl rfl hx6 rfl (by omega) (fun vz6 hvz6 => ?_)
      refine LW_ls (ls' := [some (.ref 343), some (.int x1), some (.int x2), some (.int x3), some (.int x4), some (.int x5), some (.int vz6), o7, o8]) rfl ?_
      refine LW_goto (tgt := 57) rfl rfl ?_
      exact ih57 _ V hG x1 y1 hx1 (by omega) x2 y2 hx2 (by omega) x3 y3 hx3 (by omega) x4 y4 hx4 (by omega) x5 y5 hx5 vz6 vz6.toInt rfl (by omega) o7 o8 (by rw [evz1]; omega)   (by omega)
    · refine X_aload_n rfl rfl rfl rfl ?_
      refine X_getR (a := 347) rfl rfl rfl ((congrFun V.1 343).trans s_343) rfl ((congrFun (V.2.1 343 (by decide)) 5).trans r_343_5) ?_
      refine X_iload rfl rfl rfl ?_
      refine S_zald rfl rfl ((congrFun V.1 347).trans s_347) hx6 (by omega) (fun vz7 evz7 => ?_)
      refine S_if_eq (tgt := 144) rfl rfl rfl rfl (fun vh8 => ?_) (fun vh8 => ?_)
      · refine S_iinc (c := 1) rfl rfl rfl hx6 rfl (by omega) (fun vz9 hvz9 => ?_)
        refine LW_ls (ls' := [some (.ref 343), some (.int x1), some (.int x2), some (.int x3), some (.int x4), some (.int x5), some (.int vz9), o7, o8]) rfl ?_
        refine LW_goto (tgt := 57) rfl rfl ?_
        exact ih57 _ V hG x1 y1 hx1 (by omega) x2 y2 hx2 (by omega) x3 y3 hx3 (by omega) x4 y4 hx4 (by omega) x5 y5 hx5 vz9 vz9.toInt rfl (by omega) o7 o8 (by rw [evz1]; omega)   (by omega)
      · refine X_aload_n rfl rfl rfl rfl ?_
        refine X_getR (a := 347) rfl rfl rfl ((congrFun V.1 343).trans s_343) rfl ((congrFun (V.2.1 343 (by decide)) 5).trans r_343_5) ?_
        refine X_iload rfl rfl rfl ?_
        refine X_iload rfl rfl rfl ?_
        refine S_ior (n := 10) rfl rfl hx6 hx4 (by omega) (by omega) (fun vz10 hvz10 => ?_)
        refine S_zald rfl rfl ((congrFun V.1 347).trans s_347) rfl (by omega) (fun vz11 evz11 => ?_)
        refine S_if_ne (tgt := 144) rfl rfl rfl rfl (fun vh12 => ?_) (fun vh12 => ?_)
        · refine S_iinc (c := 1) rfl rfl rfl hx6 rfl (by omega) (fun vz13 hvz13 => ?_)
          refine LW_ls (ls' := [some (.ref 343), some (.int x1), some (.int x2), some (.int x3), some (.int x4), some (.int x5), some (.int vz13), o7, o8]) rfl ?_
          refine LW_goto (tgt := 57) rfl rfl ?_
          exact ih57 _ V hG x1 y1 hx1 (by omega) x2 y2 hx2 (by omega) x3 y3 hx3 (by omega) x4 y4 hx4 (by omega) x5 y5 hx5 vz13 vz13.toInt rfl (by omega) o7 o8 (by rw [evz1]; omega)   (by omega)
        · refine X_iload rfl rfl rfl ?_
          refine Y_callS (as := [.int x6]) (st := []) rfl rfl rfl (by decide) rfl (Nat.le_of_ble_eq_true rfl) (by decide) (Nat.le_of_ble_eq_true rfl) rfl (c_bc hx6 10 (by omega) (by decide)) ?_
          rintro _ g' ⟨vr14, rfl, hrvr140, hrvr141, hgg⟩
          subst hgg
          refine X_istore (i := 7) (ls' := [some (.ref 343), some (.int x1), some (.int x2), some (.int x3), some (.int x4), some (.int x5), some (.int x6), some (.int vr14), o8]) rfl rfl (Nat.le_of_ble_eq_true rfl) rfl ?_
          refine X_aload_n rfl rfl rfl rfl ?_
          refine X_getI (v := vz1) rfl rfl rfl ((congrFun V.1 343).trans s_343) rfl evz1 ?_
          refine X_iconst (v := (1 : Int32)) rfl rfl rfl ?_
          refine S_isub rfl rfl rfl (show (1 : Int32).toInt = 1 from rfl) (by omega) (fun vz15 hvz15 => ?_)
          refine X_iload rfl rfl rfl ?_
          refine S_isub rfl rfl rfl rfl (by omega) (fun vz16 hvz16 => ?_)
          refine X_istore (i := 8) (ls' := [some (.ref 343), some (.int x1), some (.int x2), some (.int x3), some (.int x4), some (.int x5), some (.int x6), some (.int vr14), some (.int vz16)]) rfl rfl (Nat.le_of_ble_eq_true rfl) rfl ?_
          refine X_iload rfl rfl rfl ?_
          refine X_iload rfl rfl rfl ?_
          refine S_if_ge (tgt := 128) rfl rfl rfl rfl (fun vh17 => ?_) (fun vh17 => ?_)
          · refine X_getsZ (v := .retAddr 1) rfl rfl (lAt_mem (p := 1277) (by decide +kernel)) (fun _ => trivial) (fun _ _ _ _ _ h => h.1) ?_
            refine X_iload rfl rfl rfl ?_
            refine X_oiald (f := fun k => ordL.getD k 0) rfl rfl (fun _ _ _ _ h => h.2.1) (ti_idx (n := 11) rfl (by omega)).1 ?_
            generalize ordL.getD vr14.toNatClampNeg 0 = vz18
            refine X_getsZ (v := .retAddr 1) rfl rfl (lAt_mem (p := 1277) (by decide +kernel)) (fun _ => trivial) (fun _ _ _ _ _ h => h.1) ?_
            refine X_iload rfl rfl rfl ?_
            refine X_oiald (f := fun k => ordL.getD k 0) rfl rfl (fun _ _ _ _ h => h.2.1) (ti_idx (n := 11) rfl (by omega)).1 ?_
            generalize ordL.getD vz16.toNatClampNeg 0 = vz19
            refine S_imulT rfl rfl (fun vz20 => ?_)
            refine S_iaddT rfl rfl (fun vz21 => ?_)
            refine X_istore (i := 5) (ls' := [some (.ref 343), some (.int x1), some (.int x2), some (.int x3), some (.int x4), some (.int vz21), some (.int x6), some (.int vr14), some (.int vz16)]) rfl rfl (Nat.le_of_ble_eq_true rfl) rfl ?_
            refine S_iinc (c := 1) rfl rfl rfl hx6 rfl (by omega) (fun vz22 hvz22 => ?_)
            refine LW_ls (ls' := [some (.ref 343), some (.int x1), some (.int x2), some (.int x3), some (.int x4), some (.int vz21), some (.int vz22), some (.int vr14), some (.int vz16)]) rfl ?_
            refine LW_goto (tgt := 57) rfl rfl ?_
            exact ih57 _ V hG x1 y1 hx1 (by omega) x2 y2 hx2 (by omega) x3 y3 hx3 (by omega) x4 y4 hx4 (by omega) vz21 vz21.toInt rfl vz22 vz22.toInt rfl (by omega) (some (.int vr14)) (some (.int vz16)) (by rw [evz1]; omega)   (by omega)
          · refine X_iconst (v := (0 : Int32)) rfl rfl rfl ?_
            refine LW_goto (tgt := 141) rfl rfl ?_
            refine S_iaddT rfl rfl (fun vz23 => ?_)
            refine X_istore (i := 5) (ls' := [some (.ref 343), some (.int x1), some (.int x2), some (.int x3), some (.int x4), some (.int vz23), some (.int x6), some (.int vr14), some (.int vz16)]) rfl rfl (Nat.le_of_ble_eq_true rfl) rfl ?_
            refine S_iinc (c := 1) rfl rfl rfl hx6 rfl (by omega) (fun vz24 hvz24 => ?_)
            refine LW_ls (ls' := [some (.ref 343), some (.int x1), some (.int x2), some (.int x3), some (.int x4), some (.int vz23), some (.int vz24), some (.int vr14), some (.int vz16)]) rfl ?_
            refine LW_goto (tgt := 57) rfl rfl ?_
            exact ih57 _ V hG x1 y1 hx1 (by omega) x2 y2 hx2 (by omega) x3 y3 hx3 (by omega) x4 y4 hx4 (by omega) vz23 vz23.toInt rfl vz24 vz24.toInt rfl (by omega) (some (.int vr14)) (some (.int vz16)) (by rw [evz1]; omega)   (by omega)
theorem C_X6_pivotalOrders_all {P : Par} {g0 : LH} {d : Nat}  : ∀ n : Nat, (∀ (g : LH) (V : Inv P g) (hG : Gr g = Gr g0) (x1 : Int32) (y1 : Int) (hx1 : x1.toInt = y1) (hf1 : 0 ≤ y1 ∧ y1 ≤ 7) (x2 : Int32) (y2 : Int) (hx2 : x2.toInt = y2) (hf2 : 1 ≤ y2 ∧ y2 ≤ 67108863) (x3 : Int32) (y3 : Int) (hx3 : x3.toInt = y3) (hf3 : 0 ≤ y3 ∧ y3 ≤ 25) (x4 : Int32) (y4 : Int) (hx4 : x4.toInt = y4) (hf4 : 0 ≤ y4 ∧ y4 ≤ 1023) (x5 : Int32) (y5 : Int) (hx5 : x5.toInt = y5) (hf5 : 0 ≤ y5 ∧ y5 ≤ 10) (o6 : Option Value) (o7 : Option Value) (o8 : Option Value) , (10 - y5) * 1 + 1026 < (n : Int) → LW 60 (d + 13) 0 0 12 [some (.ref 343), some (.int x1), some (.int x2), some (.int x3), some (.int x4), some (.int x5), o6, o7, o8] [] g (fun v g' => ∃ r : Int32, v = some (.int r) ∧ Inv P g' ∧ Gr g' = Gr g0)) ∧ (∀ (g : LH) (V : Inv P g) (hG : Gr g = Gr g0) (x1 : Int32) (y1 : Int) (hx1 : x1.toInt = y1) (hf1 : 0 ≤ y1 ∧ y1 ≤ 7) (x2 : Int32) (y2 : Int) (hx2 : x2.toInt = y2) (hf2 : 1 ≤ y2 ∧ y2 ≤ 67108863) (x3 : Int32) (y3 : Int) (hx3 : x3.toInt = y3) (hf3 : 0 ≤ y3 ∧ y3 ≤ 25) (x4 : Int32) (y4 : Int) (hx4 : x4.toInt = y4) (hf4 : 0 ≤ y4 ∧ y4 ≤ 1023) (x5 : Int32) (y5 : Int) (hx5 : x5.toInt = y5) (x6 : Int32) (y6 : Int) (hx6 : x6.toInt = y6) (hf6 : 0 ≤ y6 ∧ y6 ≤ 1024) (o7 : Option Value) (o8 : Option Value) (hc343_4 : 0 ≤ (Gi g 343 4).toInt ∧ (Gi g 343 4).toInt ≤ 10), (1024 - y6) * 1 + 0 < (n : Int) → LW 60 (d + 13) 0 0 57 [some (.ref 343), some (.int x1), some (.int x2), some (.int x3), some (.int x4), some (.int x5), some (.int x6), o7, o8] [] g (fun v g' => ∃ r : Int32, v = some (.int r) ∧ Inv P g' ∧ Gr g' = Gr g0)) := by
  intro n
  induction n with
  | zero => exact ⟨fun g V hG x1 y1 hx1 hf1 x2 y2 hx2 hf2 x3 y3 hx3 hf3 x4 y4 hx4 hf4 x5 y5 hx5 hf5 o6 o7 o8 hmu => absurd hmu (by omega), fun g V hG x1 y1 hx1 hf1 x2 y2 hx2 hf2 x3 y3 hx3 hf3 x4 y4 hx4 hf4 x5 y5 hx5 x6 y6 hx6 hf6 o7 o8 hc343_4 hmu => absurd hmu (by omega)⟩
  | succ n ih => exact ⟨fun g V hG x1 y1 hx1 hf1 x2 y2 hx2 hf2 x3 y3 hx3 hf3 x4 y4 hx4 hf4 x5 y5 hx5 hf5 o6 o7 o8 hmu => C_X6_pivotalOrders_12  V hG x1 y1 hx1 hf1 x2 y2 hx2 hf2 x3 y3 hx3 hf3 x4 y4 hx4 hf4 x5 y5 hx5 hf5 o6 o7 o8 (by omega) ih.1 ih.2, fun g V hG x1 y1 hx1 hf1 x2 y2 hx2 hf2 x3 y3 hx3 hf3 x4 y4 hx4 hf4 x5 y5 hx5 x6 y6 hx6 hf6 o7 o8 hc343_4 hmu => C_X6_pivotalOrders_57  V hG x1 y1 hx1 hf1 x2 y2 hx2 hf2 x3 y3 hx3 hf3 x4 y4 hx4 hf4 x5 y5 hx5 x6 y6 hx6 hf6 o7 o8 hc343_4 (by omega) ih.1 ih.2⟩
set_option maxRecDepth 10000 in
set_option maxHeartbeats 40000000 in
theorem C_X6_pivotalOrders {P : Par} {g : LH} {d : Nat}  (V : Inv P g) (x1 : Int32) (y1 : Int) (hx1 : x1.toInt = y1) (hf1 : 0 ≤ y1 ∧ y1 ≤ 7) (x2 : Int32) (y2 : Int) (hx2 : x2.toInt = y2) (hf2 : 1 ≤ y2 ∧ y2 ≤ 67108863) (x3 : Int32) (y3 : Int) (hx3 : x3.toInt = y3) (hf3 : 0 ≤ y3 ∧ y3 ≤ 25)   : LW 60 (d + 13) 0 0 0 (lEnt (mL 60) [.ref 343, .int x1, .int x2, .int x3]) [] g (fun v g' => ∃ r : Int32, v = some (.int r) ∧ Inv P g' ∧ Gr g' = Gr g) := by
  refine LW_ls (ls' := [some (.ref 343), some (.int x1), some (.int x2), some (.int x3), none, none, none, none, none]) rfl ?_
  have hG : Gr g = Gr g := rfl
  refine X_aload_n rfl rfl rfl rfl ?_
  refine X_iload_n rfl rfl rfl rfl ?_
  refine X_iload_n rfl rfl rfl rfl ?_
  refine Y_callV (as := [.int x1, .int x2]) (st := []) rfl rfl rfl (by decide) rfl (Nat.le_of_ble_eq_true rfl) (by decide) (Nat.le_of_ble_eq_true rfl) rfl ((congrFun V.1 343).trans s_343) (by decide) (C_X6_tryGroup V x1 y1 hx1 (by omega) x2 y2 hx2 (by omega) ) ?_
  rintro _ g ⟨rfl, V, hq⟩
  have hG := hq.trans hG
  refine X_iconst (v := (0 : Int32)) rfl rfl rfl ?_
  refine X_istore (i := 4) (ls' := [some (.ref 343), some (.int x1), some (.int x2), some (.int x3), some (.int (0 : Int32)), none, none, none, none]) rfl rfl (Nat.le_of_ble_eq_true rfl) rfl ?_
  refine X_iconst (v := (0 : Int32)) rfl rfl rfl ?_
  refine X_istore (i := 5) (ls' := [some (.ref 343), some (.int x1), some (.int x2), some (.int x3), some (.int (0 : Int32)), some (.int (0 : Int32)), none, none, none]) rfl rfl (Nat.le_of_ble_eq_true rfl) rfl ?_
  exact (C_X6_pivotalOrders_all (((10 - 0) * 1 + 1026) + 1 : Int).toNat).1 _ V hG x1 y1 hx1 (by omega) x2 y2 hx2 (by omega) x3 y3 hx3 (by omega) (0 : Int32) 0 (show (0 : Int32).toInt = 0 from rfl) (by omega) (0 : Int32) 0 (show (0 : Int32).toInt = 0 from rfl) (by omega) none none none    (by omega)
set_option maxRecDepth 10000 in
set_option maxHeartbeats 40000000 in
theorem C_X12_power {P : Par} {g : LH} {d : Nat}  (V : Inv P g) (x1 : Int32) (y1 : Int) (hx1 : x1.toInt = y1) (x2 : Int32) (y2 : Int) (hx2 : x2.toInt = y2) (x3 : Int32) (y3 : Int) (hx3 : x3.toInt = y3) (x4 : Int32) (y4 : Int) (hx4 : x4.toInt = y4) (hf4 : 0 ≤ y4 ∧ y4 ≤ 1)   : LW 151 (d + 18) 0 0 0 (lEnt (mL 151) [.ref 0, .int x1, .int x2, .int x3, .int x4]) [] g (fun v g' => ∃ r : Int32, v = some (.int r) ∧ Inv P g' ∧ Gr g' = Gr g) := by
  refine LW_ls (ls' := [some (.ref 0), some (.int x1), some (.int x2), some (.int x3), some (.int x4), none, none, none]) rfl ?_
  have hG : Gr g = Gr g := rfl
  refine X_aload_n rfl rfl rfl rfl ?_
  refine X_getR (a := 1) rfl rfl rfl ((congrFun V.1 0).trans s_0) rfl ((congrFun (V.2.1 0 (by decide)) 0).trans r_0_0) ?_
  refine X_getR (a := 2) rfl rfl rfl ((congrFun V.1 1).trans s_1) rfl ((congrFun (V.2.1 1 (by decide)) 0).trans r_1_0) ?_
  refine X_iload_n rfl rfl rfl rfl ?_
  refine X_callV (as := [.int x1]) (st := []) rfl rfl rfl (by decide) rfl (Nat.le_of_ble_eq_true rfl) (by decide) (Nat.le_of_ble_eq_true rfl) rfl ((congrFun V.1 2).trans s_2) (by decide) ?_
  refine LW_ls (ls' := [some (.ref 2), some (.int x1)]) rfl ?_
  refine X_iload_n rfl rfl rfl rfl ?_
  refine S_if_lt (tgt := 22) rfl rfl rfl hx1 (fun vh1 => ?_) (fun vh1 => ?_)
  · refine X_iconst (v := (0 : Int32)) rfl rfl rfl ?_
    refine LW_ireturn (st := []) rfl rfl rfl ?_
    refine S_if_eq (tgt := 28) rfl rfl rfl (show (0 : Int32).toInt = 0 from rfl) (fun vh2 => ?_) (fun q => absurd q (by omega))
    refine X_iconst (v := (-1 : Int32)) rfl rfl rfl ?_
    exact LW_ireturn (st := []) rfl rfl rfl ⟨_, rfl, V, hG⟩
  · refine X_iload_n rfl rfl rfl rfl ?_
    refine X_aload_n rfl rfl rfl rfl ?_
    refine S_getI rfl rfl rfl ((congrFun V.1 2).trans s_2) rfl (fun vz3 evz3 => ?_)
    have vf4 := K_10_1 (V.2.2.2.2.1 (2) (1) (Nat.le_of_ble_eq_true rfl)) rk_2
    rw [evz3] at vf4
    refine S_icmp_ge (tgt := 22) rfl rfl rfl hx1 rfl (fun vh5 => ?_) (fun vh5 => ?_)
    · refine X_iconst (v := (0 : Int32)) rfl rfl rfl ?_
      refine LW_ireturn (st := []) rfl rfl rfl ?_
      refine S_if_eq (tgt := 28) rfl rfl rfl (show (0 : Int32).toInt = 0 from rfl) (fun vh6 => ?_) (fun q => absurd q (by omega))
      refine X_iconst (v := (-1 : Int32)) rfl rfl rfl ?_
      exact LW_ireturn (st := []) rfl rfl rfl ⟨_, rfl, V, hG⟩
    · refine X_iload_n rfl rfl rfl rfl ?_
      refine X_bipush (v := (8 : Int32)) rfl rfl rfl ?_
      refine S_icmp_ge (tgt := 22) rfl rfl rfl hx1 (show (8 : Int32).toInt = 8 from rfl) (fun q => absurd q (by omega)) (fun vh7 => ?_)
      refine X_iconst (v := (1 : Int32)) rfl rfl rfl ?_
      refine LW_goto (tgt := 23) rfl rfl ?_
      refine LW_ireturn (st := []) rfl rfl rfl ?_
      refine S_if_eq (tgt := 28) rfl rfl rfl (show (1 : Int32).toInt = 1 from rfl) (fun q => absurd q (by omega)) (fun vh8 => ?_)
      refine X_iload_n rfl rfl rfl rfl ?_
      refine X_callS (as := [.int x2]) (st := []) rfl rfl rfl (by decide) rfl (Nat.le_of_ble_eq_true rfl) (by decide) (Nat.le_of_ble_eq_true rfl) rfl ?_
      refine LW_ls (ls' := [some (.int x2)]) rfl ?_
      refine X_iload_n rfl rfl rfl rfl ?_
      refine S_if_le (tgt := 15) rfl rfl rfl hx2 (fun vh9 => ?_) (fun vh9 => ?_)
      · refine X_iconst (v := (0 : Int32)) rfl rfl rfl ?_
        refine LW_ireturn (st := []) rfl rfl rfl ?_
        refine S_if_eq (tgt := 28) rfl rfl rfl (show (0 : Int32).toInt = 0 from rfl) (fun vh10 => ?_) (fun q => absurd q (by omega))
        refine X_iconst (v := (-1 : Int32)) rfl rfl rfl ?_
        exact LW_ireturn (st := []) rfl rfl rfl ⟨_, rfl, V, hG⟩
      · refine X_iload_n rfl rfl rfl rfl ?_
        refine X_ldcw (v := (67108864 : Int32)) rfl rfl rfl ?_
        refine S_icmp_ge (tgt := 15) rfl rfl rfl hx2 (show (67108864 : Int32).toInt = 67108864 from rfl) (fun vh11 => ?_) (fun vh11 => ?_)
        · refine X_iconst (v := (0 : Int32)) rfl rfl rfl ?_
          refine LW_ireturn (st := []) rfl rfl rfl ?_
          refine S_if_eq (tgt := 28) rfl rfl rfl (show (0 : Int32).toInt = 0 from rfl) (fun vh12 => ?_) (fun q => absurd q (by omega))
          refine X_iconst (v := (-1 : Int32)) rfl rfl rfl ?_
          exact LW_ireturn (st := []) rfl rfl rfl ⟨_, rfl, V, hG⟩
        · refine X_iconst (v := (1 : Int32)) rfl rfl rfl ?_
          refine LW_goto (tgt := 16) rfl rfl ?_
          refine LW_ireturn (st := []) rfl rfl rfl ?_
          refine S_if_eq (tgt := 28) rfl rfl rfl (show (1 : Int32).toInt = 1 from rfl) (fun q => absurd q (by omega)) (fun vh13 => ?_)
          refine X_iload_n rfl rfl rfl rfl ?_
          refine X_callS (as := [.int x3]) (st := []) rfl rfl rfl (by decide) rfl (Nat.le_of_ble_eq_true rfl) (by decide) (Nat.le_of_ble_eq_true rfl) rfl ?_
          refine LW_ls (ls' := [some (.int x3)]) rfl ?_
          refine X_iload_n rfl rfl rfl rfl ?_
          refine S_if_lt (tgt := 14) rfl rfl rfl hx3 (fun vh14 => ?_) (fun vh14 => ?_)
          · refine X_iconst (v := (0 : Int32)) rfl rfl rfl ?_
            refine LW_ireturn (st := []) rfl rfl rfl ?_
            refine S_if_ne (tgt := 30) rfl rfl rfl (show (0 : Int32).toInt = 0 from rfl) (fun q => absurd q (by omega)) (fun vh15 => ?_)
            refine X_iconst (v := (-1 : Int32)) rfl rfl rfl ?_
            exact LW_ireturn (st := []) rfl rfl rfl ⟨_, rfl, V, hG⟩
          · refine X_iload_n rfl rfl rfl rfl ?_
            refine X_bipush (v := (26 : Int32)) rfl rfl rfl ?_
            refine S_icmp_ge (tgt := 14) rfl rfl rfl hx3 (show (26 : Int32).toInt = 26 from rfl) (fun vh16 => ?_) (fun vh16 => ?_)
            · refine X_iconst (v := (0 : Int32)) rfl rfl rfl ?_
              refine LW_ireturn (st := []) rfl rfl rfl ?_
              refine S_if_ne (tgt := 30) rfl rfl rfl (show (0 : Int32).toInt = 0 from rfl) (fun q => absurd q (by omega)) (fun vh17 => ?_)
              refine X_iconst (v := (-1 : Int32)) rfl rfl rfl ?_
              exact LW_ireturn (st := []) rfl rfl rfl ⟨_, rfl, V, hG⟩
            · refine X_iconst (v := (1 : Int32)) rfl rfl rfl ?_
              refine LW_goto (tgt := 15) rfl rfl ?_
              refine LW_ireturn (st := []) rfl rfl rfl ?_
              refine S_if_ne (tgt := 30) rfl rfl rfl (show (1 : Int32).toInt = 1 from rfl) (fun vh18 => ?_) (fun q => absurd q (by omega))
              refine X_iload_n rfl rfl rfl rfl ?_
              refine X_iload_n rfl rfl rfl rfl ?_
              refine S_ishrT rfl rfl (fun vz19 => ?_)
              refine X_iconst (v := (1 : Int32)) rfl rfl rfl ?_
              refine S_iandR (k := 1) rfl rfl rfl (fun vz20 hvz20 => ?_)
              refine S_if_eq (tgt := 47) rfl rfl rfl rfl (fun vh21 => ?_) (fun vh21 => ?_)
              · refine X_iconst (v := (-1 : Int32)) rfl rfl rfl ?_
                exact LW_ireturn (st := []) rfl rfl rfl ⟨_, rfl, V, hG⟩
              · refine X_iload_n rfl rfl rfl rfl ?_
                refine Y_callS (as := [.int x2]) (st := []) rfl rfl rfl (by decide) rfl (Nat.le_of_ble_eq_true rfl) (by decide) (Nat.le_of_ble_eq_true rfl) rfl (c_bc hx2 26 (by omega) (by decide)) ?_
                rintro _ g' ⟨vr22, rfl, hrvr220, hrvr221, hgg⟩
                subst hgg
                refine X_bipush (v := (10 : Int32)) rfl rfl rfl ?_
                refine S_icmp_le (tgt := 49) rfl rfl rfl rfl (show (10 : Int32).toInt = 10 from rfl) (fun vh23 => ?_) (fun vh23 => ?_)
                · refine X_aload_n rfl rfl rfl rfl ?_
                  refine X_getR (a := 343) rfl rfl rfl ((congrFun V.1 0).trans s_0) rfl ((congrFun (V.2.1 0 (by decide)) 7).trans r_0_7) ?_
                  refine X_iload_n rfl rfl rfl rfl ?_
                  refine X_iload_n rfl rfl rfl rfl ?_
                  refine X_iload_n rfl rfl rfl rfl ?_
                  refine Y_callV (as := [.int x1, .int x2, .int x3]) (st := []) rfl rfl rfl (by decide) rfl (Nat.le_of_ble_eq_true rfl) (by decide) (Nat.le_of_ble_eq_true rfl) rfl ((congrFun V.1 343).trans s_343) (by decide) (C_X6_pivotalOrders V x1 y1 hx1 (by omega) x2 y2 hx2 (by omega) x3 y3 hx3 (by omega) ) ?_
                  rintro _ g ⟨vr24, rfl, V, hq⟩
                  have hG := hq.trans hG
                  refine X_istore (i := 5) (ls' := [some (.ref 0), some (.int x1), some (.int x2), some (.int x3), some (.int x4), some (.int vr24), none, none]) rfl rfl (Nat.le_of_ble_eq_true rfl) rfl ?_
                  refine X_aload_n rfl rfl rfl rfl ?_
                  refine X_getR (a := 343) rfl rfl rfl ((congrFun V.1 0).trans s_0) rfl ((congrFun (V.2.1 0 (by decide)) 7).trans r_0_7) ?_
                  refine X_iload_n rfl rfl rfl rfl ?_
                  refine Y_callV (as := [.int x2]) (st := []) rfl rfl rfl (by decide) rfl (Nat.le_of_ble_eq_true rfl) (by decide) (Nat.le_of_ble_eq_true rfl) rfl ((congrFun V.1 343).trans s_343) (by decide) (C_X6_orders V x2 y2 hx2 (by omega) ) ?_
                  rintro _ g' ⟨vr25, rfl, hgg⟩
                  subst hgg
                  refine X_istore (i := 6) (ls' := [some (.ref 0), some (.int x1), some (.int x2), some (.int x3), some (.int x4), some (.int vr24), some (.int vr25), none]) rfl rfl (Nat.le_of_ble_eq_true rfl) rfl ?_
                  refine X_iload rfl rfl rfl ?_
                  refine X_iload rfl rfl rfl ?_
                  refine Y_callS (as := [.int vr24, .int vr25]) (st := []) rfl rfl rfl (by decide) rfl (Nat.le_of_ble_eq_true rfl) (by decide) (Nat.le_of_ble_eq_true rfl) rfl (C_X12_greatestDivisor V vr24 vr24.toInt rfl vr25 vr25.toInt rfl ) ?_
                  rintro _ g' ⟨vr26, rfl, hgg⟩
                  subst hgg
                  refine X_istore (i := 7) (ls' := [some (.ref 0), some (.int x1), some (.int x2), some (.int x3), some (.int x4), some (.int vr24), some (.int vr25), some (.int vr26)]) rfl rfl (Nat.le_of_ble_eq_true rfl) rfl ?_
                  refine X_iload rfl rfl rfl ?_
                  refine S_if_gt (tgt := 87) rfl rfl rfl rfl (fun vh27 => ?_) (fun vh27 => ?_)
                  · refine X_iload rfl rfl rfl ?_
                    refine S_if_eq (tgt := 97) rfl rfl rfl hx4 (fun vh28 => ?_) (fun vh28 => ?_)
                    · refine X_iload rfl rfl rfl ?_
                      refine X_iload rfl rfl rfl ?_
                      refine S_idivT rfl rfl rfl (by omega) (fun vz29 => ?_)
                      exact LW_ireturn (st := []) rfl rfl rfl ⟨_, rfl, V, hG⟩
                    · refine X_iload rfl rfl rfl ?_
                      refine LW_goto (tgt := 99) rfl rfl ?_
                      refine X_iload rfl rfl rfl ?_
                      refine S_idivT rfl rfl rfl (by omega) (fun vz30 => ?_)
                      exact LW_ireturn (st := []) rfl rfl rfl ⟨_, rfl, V, hG⟩
                  · refine X_iconst (v := (-1 : Int32)) rfl rfl rfl ?_
                    exact LW_ireturn (st := []) rfl rfl rfl ⟨_, rfl, V, hG⟩
                · refine X_iconst (v := (-1 : Int32)) rfl rfl rfl ?_
                  exact LW_ireturn (st := []) rfl rfl rfl ⟨_, rfl, V, hG⟩
set_option maxRecDepth 10000 in
set_option maxHeartbeats 40000000 in
theorem C_X12_party {P : Par} {g : LH} {d : Nat}  (V : Inv P g) (x1 : Int32) (y1 : Int) (hx1 : x1.toInt = y1)   : LW 152 (d + 4) 0 0 0 (lEnt (mL 152) [.ref 0, .int x1]) [] g (fun v g' => ∃ r : Int32, v = some (.int r) ∧ r.toInt = parA P.1 y1 ∧ Inv (parN P.1 y1, P.2) g' ∧ Gr g' = Gr g) := by
  refine LW_ls (ls' := [some (.ref 0), some (.int x1)]) rfl ?_
  have hG : Gr g = Gr g := rfl
  refine X_iload_n rfl rfl rfl rfl ?_
  refine X_iconst (v := (-1 : Int32)) rfl rfl rfl ?_
  refine S_icmp_ne (tgt := 15) rfl rfl rfl hx1 (show (-1 : Int32).toInt = -1 from rfl) (fun vh1 => ?_) (fun vh1 => ?_)
  · refine X_iload_n rfl rfl rfl rfl ?_
    refine X_callS (as := [.int x1]) (st := []) rfl rfl rfl (by decide) rfl (Nat.le_of_ble_eq_true rfl) (by decide) (Nat.le_of_ble_eq_true rfl) rfl ?_
    refine LW_ls (ls' := [some (.int x1)]) rfl ?_
    refine X_iload_n rfl rfl rfl rfl ?_
    refine S_if_le (tgt := 15) rfl rfl rfl hx1 (fun vh2 => ?_) (fun vh2 => ?_)
    · refine X_iconst (v := (0 : Int32)) rfl rfl rfl ?_
      refine LW_ireturn (st := []) rfl rfl rfl ?_
      refine S_if_eq (tgt := 33) rfl rfl rfl (show (0 : Int32).toInt = 0 from rfl) (fun vh3 => ?_) (fun q => absurd q (by omega))
      refine X_bipush (v := (-2 : Int32)) rfl rfl rfl ?_
      have ea : (-2 : Int32).toInt = parA P.1 y1 := by
        rw [show (-2 : Int32).toInt = -2 from rfl]
        unfold parA
        (repeat' split) <;> omega
      have en : parN P.1 y1 = P.1 := by
        unfold parN
        (repeat' split) <;> omega
      exact LW_ireturn (st := []) rfl rfl rfl ⟨_, rfl, ea, by rw [en]; exact V, hG⟩
    · refine X_iload_n rfl rfl rfl rfl ?_
      refine X_ldcw (v := (67108864 : Int32)) rfl rfl rfl ?_
      refine S_icmp_ge (tgt := 15) rfl rfl rfl hx1 (show (67108864 : Int32).toInt = 67108864 from rfl) (fun vh4 => ?_) (fun vh4 => ?_)
      · refine X_iconst (v := (0 : Int32)) rfl rfl rfl ?_
        refine LW_ireturn (st := []) rfl rfl rfl ?_
        refine S_if_eq (tgt := 33) rfl rfl rfl (show (0 : Int32).toInt = 0 from rfl) (fun vh5 => ?_) (fun q => absurd q (by omega))
        refine X_bipush (v := (-2 : Int32)) rfl rfl rfl ?_
        have ea : (-2 : Int32).toInt = parA P.1 y1 := by
          rw [show (-2 : Int32).toInt = -2 from rfl]
          unfold parA
          (repeat' split) <;> omega
        have en : parN P.1 y1 = P.1 := by
          unfold parN
          (repeat' split) <;> omega
        exact LW_ireturn (st := []) rfl rfl rfl ⟨_, rfl, ea, by rw [en]; exact V, hG⟩
      · refine X_iconst (v := (1 : Int32)) rfl rfl rfl ?_
        refine LW_goto (tgt := 16) rfl rfl ?_
        refine LW_ireturn (st := []) rfl rfl rfl ?_
        refine S_if_eq (tgt := 33) rfl rfl rfl (show (1 : Int32).toInt = 1 from rfl) (fun q => absurd q (by omega)) (fun vh6 => ?_)
        refine X_aload_n rfl rfl rfl rfl ?_
        refine X_getR (a := 1) rfl rfl rfl ((congrFun V.1 0).trans s_0) rfl ((congrFun (V.2.1 0 (by decide)) 0).trans r_0_0) ?_
        refine S_getI rfl rfl rfl ((congrFun V.1 1).trans s_1) rfl (fun vz7 evz7 => ?_)
        have vf8 := K_13_7 (V.2.2.2.2.1 (1) (7) (Nat.le_of_ble_eq_true rfl)) rk_1
        rw [evz7] at vf8
        have pvz7 := V.2.2.2.2.2.2.1
        rw [evz7] at pvz7
        refine X_iconst (v := (4 : Int32)) rfl rfl rfl ?_
        refine S_icmp_lt (tgt := 36) rfl rfl rfl rfl (show (4 : Int32).toInt = 4 from rfl) (fun vh9 => ?_) (fun vh9 => ?_)
        · refine X_aload_n rfl rfl rfl rfl ?_
          refine X_getR (a := 1) rfl rfl rfl ((congrFun V.1 0).trans s_0) rfl ((congrFun (V.2.1 0 (by decide)) 0).trans r_0_0) ?_
          refine X_getR (a := 142) rfl rfl rfl ((congrFun V.1 1).trans s_1) rfl ((congrFun (V.2.1 1 (by decide)) 8).trans r_1_8) ?_
          refine X_aload_n rfl rfl rfl rfl ?_
          refine X_getR (a := 1) rfl rfl rfl ((congrFun V.1 0).trans s_0) rfl ((congrFun (V.2.1 0 (by decide)) 0).trans r_0_0) ?_
          refine X_getI (v := vz7) rfl rfl rfl ((congrFun V.1 1).trans s_1) rfl evz7 ?_
          refine X_iload_n rfl rfl rfl rfl ?_
          refine S_iast (I := Inv _) rfl rfl ((congrFun V.1 142).trans s_142) rfl (by omega) (Inv_putI V (Nat.le_of_ble_eq_true rfl) (Or.inl (by decide)) (Q_0 rk_142)) (fun g V ve10 vn11 hq => ?_)
          have hG := hq.trans hG
          have evz7 := (vn11 (1) 7 (Or.inl (by decide))).trans evz7
          refine X_aload_n rfl rfl rfl rfl ?_
          refine X_getR (a := 1) rfl rfl rfl ((congrFun V.1 0).trans s_0) rfl ((congrFun (V.2.1 0 (by decide)) 0).trans r_0_0) ?_
          refine X_dup rfl rfl rfl ?_
          refine X_getI (v := vz7) rfl rfl rfl ((congrFun V.1 1).trans s_1) rfl evz7 ?_
          refine X_iconst (v := (1 : Int32)) rfl rfl rfl ?_
          refine S_iadd rfl rfl rfl (show (1 : Int32).toInt = 1 from rfl) (by omega) (fun vz12 hvz12 => ?_)
          refine S_putI (I := Inv _) rfl rfl rfl ((congrFun V.1 1).trans s_1) rfl rfl rfl rfl (Inv_parN V (n := (P.1 + 1)) (by omega) (by omega)) (fun g V ve13 vn14 hq => ?_)
          have hG := hq.trans hG
          refine X_aload_n rfl rfl rfl rfl ?_
          refine X_getR (a := 1) rfl rfl rfl ((congrFun V.1 0).trans s_0) rfl ((congrFun (V.2.1 0 (by decide)) 0).trans r_0_0) ?_
          refine X_getI (v := vz12) rfl rfl rfl ((congrFun V.1 1).trans s_1) rfl ve13 ?_
          have ea : vz12.toInt = parA P.1 y1 := by
            unfold parA
            (repeat' split) <;> omega
          have en : parN P.1 y1 = (P.1 + 1) := by
            unfold parN
            (repeat' split) <;> omega
          exact LW_ireturn (st := []) rfl rfl rfl ⟨_, rfl, ea, by rw [en]; exact V, hG⟩
        · refine X_bipush (v := (-2 : Int32)) rfl rfl rfl ?_
          have ea : (-2 : Int32).toInt = parA P.1 y1 := by
            rw [show (-2 : Int32).toInt = -2 from rfl]
            unfold parA
            (repeat' split) <;> omega
          have en : parN P.1 y1 = P.1 := by
            unfold parN
            (repeat' split) <;> omega
          exact LW_ireturn (st := []) rfl rfl rfl ⟨_, rfl, ea, by rw [en]; exact V, hG⟩
  · refine X_aload_n rfl rfl rfl rfl ?_
    refine X_getR (a := 1) rfl rfl rfl ((congrFun V.1 0).trans s_0) rfl ((congrFun (V.2.1 0 (by decide)) 0).trans r_0_0) ?_
    refine X_iconst (v := (0 : Int32)) rfl rfl rfl ?_
    refine S_putI (I := Inv _) rfl rfl rfl ((congrFun V.1 1).trans s_1) rfl rfl rfl rfl (Inv_parN V (n := 0) (by rfl) (by omega)) (fun g V ve15 vn16 hq => ?_)
    have hG := hq.trans hG
    refine X_iconst (v := (0 : Int32)) rfl rfl rfl ?_
    have ea : (0 : Int32).toInt = parA P.1 y1 := by
      rw [show (0 : Int32).toInt = 0 from rfl]
      unfold parA
      (repeat' split) <;> omega
    have en : parN P.1 y1 = 0 := by
      unfold parN
      (repeat' split) <;> omega
    exact LW_ireturn (st := []) rfl rfl rfl ⟨_, rfl, ea, by rw [en]; exact V, hG⟩
