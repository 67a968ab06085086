/-! the class's methods: each returns and keeps what every state keeps -/
set_option maxRecDepth 10000 in
set_option maxHeartbeats 40000000 in
theorem C_X6_worthOf_4 {P : Par} {g : LH} {d n : Nat}  (V : Inv P g) (x1 : Int32) (y1 : Int) (hx1 : x1.toInt = y1) (hf1 : 0 ≤ y1 ∧ y1 ≤ 15) (x2 : Int32) (y2 : Int) (hx2 : x2.toInt = y2) (x3 : Int32) (y3 : Int) (hx3 : x3.toInt = y3) (hf3 : 0 ≤ y3 ∧ y3 ≤ 4)  (hmu : (4 - y3) * 1 + 0 < (n : Int) + 1) (ih4 : ∀ (V : Inv P g) (x1 : Int32) (y1 : Int) (hx1 : x1.toInt = y1) (hf1 : 0 ≤ y1 ∧ y1 ≤ 15) (x2 : Int32) (y2 : Int) (hx2 : x2.toInt = y2) (x3 : Int32) (y3 : Int) (hx3 : x3.toInt = y3) (hf3 : 0 ≤ y3 ∧ y3 ≤ 4) , (4 - y3) * 1 + 0 < (n : Int) → LW 64 (d + 11) 0 0 4 [some (.ref 343), some (.int x1), some (.int x2), some (.int x3)] [] g (fun v g' => ∃ r : Int32, v = some (.int r) ∧ 0 ≤ r.toInt ∧ r.toInt ≤ 8 ∧ g = g')) : LW 64 (d + 11) 0 0 4 [some (.ref 343), some (.int x1), some (.int x2), some (.int x3)] [] g (fun v g' => ∃ r : Int32, v = some (.int r) ∧ 0 ≤ r.toInt ∧ r.toInt ≤ 8 ∧ g = g') := by
  refine X_iload_n rfl rfl rfl rfl ?_
  refine X_aload_n rfl rfl rfl rfl ?_
  refine X_getR (a := 1) rfl rfl rfl ((congrFun V.1 343).trans s_343) rfl ((congrFun (V.2.1 343 (by decide)) 0).trans r_343_0) ?_
  refine S_getI rfl rfl rfl ((congrFun V.1 1).trans s_1) rfl (fun vz1 evz1 => ?_)
  have vf2 := K_13_7 (V.2.2.2.2.1 (1) (7) (Nat.le_of_ble_eq_true rfl)) rk_1
  rw [evz1] at vf2
  have pvz1 := V.2.2.2.2.2.2.1
  rw [evz1] at pvz1
  refine S_icmp_ge (tgt := 45) rfl rfl rfl hx3 rfl (fun vh3 => ?_) (fun vh3 => ?_)
  · refine X_aload_n rfl rfl rfl rfl ?_
    refine X_getR (a := 1) rfl rfl rfl ((congrFun V.1 343).trans s_343) rfl ((congrFun (V.2.1 343 (by decide)) 0).trans r_343_0) ?_
    refine X_getR (a := 2) rfl rfl rfl ((congrFun V.1 1).trans s_1) rfl ((congrFun (V.2.1 1 (by decide)) 0).trans r_1_0) ?_
    refine X_iload_n rfl rfl rfl rfl ?_
    refine Y_callV (as := [.int x2]) (st := []) rfl rfl rfl (by decide) rfl (Nat.le_of_ble_eq_true rfl) (by decide) (Nat.le_of_ble_eq_true rfl) rfl ((congrFun V.1 2).trans s_2) (by decide) (C_X5_unsaid V x2 y2 hx2 ) ?_
    rintro _ g' ⟨vr4, rfl, hrvr40, hrvr41, hgg⟩
    subst hgg
    have hr := (rfl : vr4.toInt = vr4.toInt)
    exact LW_ireturn (st := []) rfl rfl rfl ⟨_, rfl, by omega, by omega, rfl⟩
  · refine X_iload_n rfl rfl rfl rfl ?_
    refine X_iload_n rfl rfl rfl rfl ?_
    refine X_iload_n rfl rfl rfl rfl ?_
    refine S_ishrT rfl rfl (fun vz5 => ?_)
    refine X_iconst (v := (1 : Int32)) rfl rfl rfl ?_
    refine S_iandR (k := 1) rfl rfl rfl (fun vz6 hvz6 => ?_)
    refine S_if_eq (tgt := 36) rfl rfl rfl rfl (fun vh7 => ?_) (fun vh7 => ?_)
    · refine X_iconst (v := (0 : Int32)) rfl rfl rfl ?_
      refine S_iorT rfl rfl (fun vz8 => ?_)
      refine X_istore_n (i := 2) (ls' := [some (.ref 343), some (.int x1), some (.int vz8), some (.int x3)]) rfl rfl rfl (Nat.le_of_ble_eq_true rfl) rfl ?_
      refine S_iinc (c := 1) rfl rfl rfl hx3 rfl (by omega) (fun vz9 hvz9 => ?_)
      refine LW_ls (ls' := [some (.ref 343), some (.int x1), some (.int vz8), some (.int vz9)]) rfl ?_
      refine LW_goto (tgt := 4) rfl rfl ?_
      exact ih4 V x1 y1 hx1 (by omega) vz8 vz8.toInt rfl vz9 vz9.toInt rfl (by omega)    (by omega)
    · refine X_aload_n rfl rfl rfl rfl ?_
      refine X_getR (a := 1) rfl rfl rfl ((congrFun V.1 343).trans s_343) rfl ((congrFun (V.2.1 343 (by decide)) 0).trans r_343_0) ?_
      refine X_getR (a := 142) rfl rfl rfl ((congrFun V.1 1).trans s_1) rfl ((congrFun (V.2.1 1 (by decide)) 8).trans r_1_8) ?_
      refine X_iload_n rfl rfl rfl rfl ?_
      refine S_iald rfl rfl ((congrFun V.1 142).trans s_142) hx3 (by omega) (fun vz10 evz10 => ?_)
      refine LW_goto (tgt := 37) rfl rfl ?_
      refine S_iorT rfl rfl (fun vz11 => ?_)
      refine X_istore_n (i := 2) (ls' := [some (.ref 343), some (.int x1), some (.int vz11), some (.int x3)]) rfl rfl rfl (Nat.le_of_ble_eq_true rfl) rfl ?_
      refine S_iinc (c := 1) rfl rfl rfl hx3 rfl (by omega) (fun vz12 hvz12 => ?_)
      refine LW_ls (ls' := [some (.ref 343), some (.int x1), some (.int vz11), some (.int vz12)]) rfl ?_
      refine LW_goto (tgt := 4) rfl rfl ?_
      exact ih4 V x1 y1 hx1 (by omega) vz11 vz11.toInt rfl vz12 vz12.toInt rfl (by omega)    (by omega)
theorem C_X6_worthOf_all {P : Par} {g : LH} {d : Nat}  : ∀ n : Nat, (∀ (V : Inv P g) (x1 : Int32) (y1 : Int) (hx1 : x1.toInt = y1) (hf1 : 0 ≤ y1 ∧ y1 ≤ 15) (x2 : Int32) (y2 : Int) (hx2 : x2.toInt = y2) (x3 : Int32) (y3 : Int) (hx3 : x3.toInt = y3) (hf3 : 0 ≤ y3 ∧ y3 ≤ 4) , (4 - y3) * 1 + 0 < (n : Int) → LW 64 (d + 11) 0 0 4 [some (.ref 343), some (.int x1), some (.int x2), some (.int x3)] [] g (fun v g' => ∃ r : Int32, v = some (.int r) ∧ 0 ≤ r.toInt ∧ r.toInt ≤ 8 ∧ g = g')) := by
  intro n
  induction n with
  | zero => exact fun V x1 y1 hx1 hf1 x2 y2 hx2 x3 y3 hx3 hf3 hmu => absurd hmu (by omega)
  | succ n ih => exact fun V x1 y1 hx1 hf1 x2 y2 hx2 x3 y3 hx3 hf3 hmu => C_X6_worthOf_4  V x1 y1 hx1 hf1 x2 y2 hx2 x3 y3 hx3 hf3 (by omega) ih
set_option maxRecDepth 10000 in
set_option maxHeartbeats 40000000 in
theorem C_X6_worthOf {P : Par} {g : LH} {d : Nat}  (V : Inv P g) (x1 : Int32) (y1 : Int) (hx1 : x1.toInt = y1) (hf1 : 0 ≤ y1 ∧ y1 ≤ 15)   : LW 64 (d + 11) 0 0 0 (lEnt (mL 64) [.ref 343, .int x1]) [] g (fun v g' => ∃ r : Int32, v = some (.int r) ∧ 0 ≤ r.toInt ∧ r.toInt ≤ 8 ∧ g = g') := by
  refine LW_ls (ls' := [some (.ref 343), some (.int x1), none, none]) rfl ?_
  refine X_iconst (v := (0 : Int32)) rfl rfl rfl ?_
  refine X_istore_n (i := 2) (ls' := [some (.ref 343), some (.int x1), some (.int (0 : Int32)), none]) rfl rfl rfl (Nat.le_of_ble_eq_true rfl) rfl ?_
  refine X_iconst (v := (0 : Int32)) rfl rfl rfl ?_
  refine X_istore_n (i := 3) (ls' := [some (.ref 343), some (.int x1), some (.int (0 : Int32)), some (.int (0 : Int32))]) rfl rfl rfl (Nat.le_of_ble_eq_true rfl) rfl ?_
  exact (C_X6_worthOf_all (((4 - 0) * 1 + 0) + 1 : Int).toNat) V x1 y1 hx1 (by omega) (0 : Int32) 0 (show (0 : Int32).toInt = 0 from rfl) (0 : Int32) 0 (show (0 : Int32).toInt = 0 from rfl) (by omega)    (by omega)
set_option maxRecDepth 10000 in
set_option maxHeartbeats 40000000 in
theorem C_X12_worth {P : Par} {g : LH} {d : Nat}  (V : Inv P g) (x1 : Int32) (y1 : Int) (hx1 : x1.toInt = y1)   : LW 153 (d + 15) 0 0 0 (lEnt (mL 153) [.ref 0, .int x1]) [] g (fun v g' => ∃ r : Int32, v = some (.int r) ∧ (-1) ≤ r.toInt ∧ r.toInt ≤ 8 ∧ g = g') := by
  refine LW_ls (ls' := [some (.ref 0), some (.int x1)]) rfl ?_
  refine X_iload_n rfl rfl rfl rfl ?_
  refine S_if_lt (tgt := 17) rfl rfl rfl hx1 (fun vh1 => ?_) (fun vh1 => ?_)
  · refine X_iconst (v := (-1 : Int32)) rfl rfl rfl ?_
    exact LW_ireturn (st := []) rfl rfl rfl ⟨_, rfl, by decide, by decide, rfl⟩
  · refine X_iload_n rfl rfl rfl rfl ?_
    refine X_iconst (v := (1 : Int32)) rfl rfl rfl ?_
    refine X_aload_n rfl rfl rfl rfl ?_
    refine X_getR (a := 1) rfl rfl rfl ((congrFun V.1 0).trans s_0) rfl ((congrFun (V.2.1 0 (by decide)) 0).trans r_0_0) ?_
    refine S_getI rfl rfl rfl ((congrFun V.1 1).trans s_1) rfl (fun vz2 evz2 => ?_)
    have vf3 := K_13_7 (V.2.2.2.2.1 (1) (7) (Nat.le_of_ble_eq_true rfl)) rk_1
    rw [evz2] at vf3
    have pvz2 := V.2.2.2.2.2.2.1
    rw [evz2] at pvz2
    refine S_shl1 (n := 4) rfl rfl rfl (by omega) (fun vz4 hvz4 => ?_)
    refine S_icmp_lt (tgt := 19) rfl rfl rfl hx1 rfl (fun vh5 => ?_) (fun vh5 => ?_)
    · refine X_aload_n rfl rfl rfl rfl ?_
      refine X_getR (a := 343) rfl rfl rfl ((congrFun V.1 0).trans s_0) rfl ((congrFun (V.2.1 0 (by decide)) 7).trans r_0_7) ?_
      refine X_iload_n rfl rfl rfl rfl ?_
      refine Y_callV (as := [.int x1]) (st := []) rfl rfl rfl (by decide) rfl (Nat.le_of_ble_eq_true rfl) (by decide) (Nat.le_of_ble_eq_true rfl) rfl ((congrFun V.1 343).trans s_343) (by decide) (C_X6_worthOf V x1 y1 hx1 (by omega) ) ?_
      rintro _ g' ⟨vr6, rfl, hrvr60, hrvr61, hgg⟩
      subst hgg
      have hr := (rfl : vr6.toInt = vr6.toInt)
      exact LW_ireturn (st := []) rfl rfl rfl ⟨_, rfl, by omega, by omega, rfl⟩
    · refine X_iconst (v := (-1 : Int32)) rfl rfl rfl ?_
      exact LW_ireturn (st := []) rfl rfl rfl ⟨_, rfl, by decide, by decide, rfl⟩
set_option maxRecDepth 10000 in
set_option maxHeartbeats 40000000 in
theorem C_X6_nobodyLeaves_2 {P : Par} {g : LH} {d n : Nat}  (V : Inv P g) (x1 : Int32) (y1 : Int) (hx1 : x1.toInt = y1) (hf1 : 1 ≤ y1 ∧ y1 ≤ 16) (o2 : Option Value) (o3 : Option Value)  (hmu : (16 - y1) * 8 + 7 < (n : Int) + 1) (ih2 : ∀ (V : Inv P g) (x1 : Int32) (y1 : Int) (hx1 : x1.toInt = y1) (hf1 : 1 ≤ y1 ∧ y1 ≤ 16) (o2 : Option Value) (o3 : Option Value) , (16 - y1) * 8 + 7 < (n : Int) → LW 67 (d + 3) 0 0 2 [some (.ref 343), some (.int x1), o2, o3] [] g (fun v g' => ∃ r : Int32, v = some (.int r) ∧ 0 ≤ r.toInt ∧ r.toInt ≤ 1 ∧ g = g')) (ih19 : ∀ (V : Inv P g) (x1 : Int32) (y1 : Int) (hx1 : x1.toInt = y1) (hf1 : 1 ≤ y1 ∧ y1 ≤ 15) (x2 : Int32) (y2 : Int) (hx2 : x2.toInt = y2) (x3 : Int32) (y3 : Int) (hx3 : x3.toInt = y3) (hf3 : 0 ≤ y3 ∧ y3 ≤ 4) (hc1_7 : 0 ≤ (Gi g 1 7).toInt ∧ (Gi g 1 7).toInt ≤ 4), (16 - y1) * 8 + 0 + (4 - y3) * 1 + 0 < (n : Int) → LW 67 (d + 3) 0 0 19 [some (.ref 343), some (.int x1), some (.int x2), some (.int x3)] [] g (fun v g' => ∃ r : Int32, v = some (.int r) ∧ 0 ≤ r.toInt ∧ r.toInt ≤ 1 ∧ g = g')) : LW 67 (d + 3) 0 0 2 [some (.ref 343), some (.int x1), o2, o3] [] g (fun v g' => ∃ r : Int32, v = some (.int r) ∧ 0 ≤ r.toInt ∧ r.toInt ≤ 1 ∧ g = g') := by
  refine X_iload_n rfl rfl rfl rfl ?_
  refine X_iconst (v := (1 : Int32)) rfl rfl rfl ?_
  refine X_aload_n rfl rfl rfl rfl ?_
  refine X_getR (a := 1) rfl rfl rfl ((congrFun V.1 343).trans s_343) rfl ((congrFun (V.2.1 343 (by decide)) 0).trans r_343_0) ?_
  refine S_getI rfl rfl rfl ((congrFun V.1 1).trans s_1) rfl (fun vz1 evz1 => ?_)
  have vf2 := K_13_7 (V.2.2.2.2.1 (1) (7) (Nat.le_of_ble_eq_true rfl)) rk_1
  rw [evz1] at vf2
  have pvz1 := V.2.2.2.2.2.2.1
  rw [evz1] at pvz1
  refine S_shl1 (n := 4) rfl rfl rfl (by omega) (fun vz3 hvz3 => ?_)
  refine S_icmp_ge (tgt := 75) rfl rfl rfl hx1 rfl (fun vh4 => ?_) (fun vh4 => ?_)
  · refine X_iconst (v := (1 : Int32)) rfl rfl rfl ?_
    exact LW_ireturn (st := []) rfl rfl rfl ⟨_, rfl, by decide, by decide, rfl⟩
  · refine X_iconst (v := (0 : Int32)) rfl rfl rfl ?_
    refine X_istore_n (i := 2) (ls' := [some (.ref 343), some (.int x1), some (.int (0 : Int32)), o3]) rfl rfl rfl (Nat.le_of_ble_eq_true rfl) rfl ?_
    refine X_iconst (v := (0 : Int32)) rfl rfl rfl ?_
    refine X_istore_n (i := 3) (ls' := [some (.ref 343), some (.int x1), some (.int (0 : Int32)), some (.int (0 : Int32))]) rfl rfl rfl (Nat.le_of_ble_eq_true rfl) rfl ?_
    exact ih19 V x1 y1 hx1 (by omega) (0 : Int32) 0 (show (0 : Int32).toInt = 0 from rfl) (0 : Int32) 0 (show (0 : Int32).toInt = 0 from rfl) (by omega) (by rw [evz1]; omega)   (by omega)
set_option maxRecDepth 10000 in
set_option maxHeartbeats 40000000 in
theorem C_X6_nobodyLeaves_19 {P : Par} {g : LH} {d n : Nat}  (V : Inv P g) (x1 : Int32) (y1 : Int) (hx1 : x1.toInt = y1) (hf1 : 1 ≤ y1 ∧ y1 ≤ 15) (x2 : Int32) (y2 : Int) (hx2 : x2.toInt = y2) (x3 : Int32) (y3 : Int) (hx3 : x3.toInt = y3) (hf3 : 0 ≤ y3 ∧ y3 ≤ 4) (hc1_7 : 0 ≤ (Gi g 1 7).toInt ∧ (Gi g 1 7).toInt ≤ 4) (hmu : (16 - y1) * 8 + 0 + (4 - y3) * 1 + 0 < (n : Int) + 1) (ih2 : ∀ (V : Inv P g) (x1 : Int32) (y1 : Int) (hx1 : x1.toInt = y1) (hf1 : 1 ≤ y1 ∧ y1 ≤ 16) (o2 : Option Value) (o3 : Option Value) , (16 - y1) * 8 + 7 < (n : Int) → LW 67 (d + 3) 0 0 2 [some (.ref 343), some (.int x1), o2, o3] [] g (fun v g' => ∃ r : Int32, v = some (.int r) ∧ 0 ≤ r.toInt ∧ r.toInt ≤ 1 ∧ g = g')) (ih19 : ∀ (V : Inv P g) (x1 : Int32) (y1 : Int) (hx1 : x1.toInt = y1) (hf1 : 1 ≤ y1 ∧ y1 ≤ 15) (x2 : Int32) (y2 : Int) (hx2 : x2.toInt = y2) (x3 : Int32) (y3 : Int) (hx3 : x3.toInt = y3) (hf3 : 0 ≤ y3 ∧ y3 ≤ 4) (hc1_7 : 0 ≤ (Gi g 1 7).toInt ∧ (Gi g 1 7).toInt ≤ 4), (16 - y1) * 8 + 0 + (4 - y3) * 1 + 0 < (n : Int) → LW 67 (d + 3) 0 0 19 [some (.ref 343), some (.int x1), some (.int x2), some (.int x3)] [] g (fun v g' => ∃ r : Int32, v = some (.int r) ∧ 0 ≤ r.toInt ∧ r.toInt ≤ 1 ∧ g = g')) : LW 67 (d + 3) 0 0 19 [some (.ref 343), some (.int x1), some (.int x2), some (.int x3)] [] g (fun v g' => ∃ r : Int32, v = some (.int r) ∧ 0 ≤ r.toInt ∧ r.toInt ≤ 1 ∧ g = g') := by
  obtain ⟨vz1, evz1⟩ : ∃ z, Gi g 1 7 = z := ⟨_, rfl⟩
  rw [evz1] at hc1_7
  have pvz1 := V.2.2.2.2.2.2.1
  rw [evz1] at pvz1
  refine X_iload_n rfl rfl rfl rfl ?_
  refine X_aload_n rfl rfl rfl rfl ?_
  refine X_getR (a := 1) rfl rfl rfl ((congrFun V.1 343).trans s_343) rfl ((congrFun (V.2.1 343 (by decide)) 0).trans r_343_0) ?_
  refine X_getI (v := vz1) rfl rfl rfl ((congrFun V.1 1).trans s_1) rfl evz1 ?_
  refine S_icmp_ge (tgt := 57) rfl rfl rfl hx3 rfl (fun vh2 => ?_) (fun vh2 => ?_)
  · refine X_iload_n rfl rfl rfl rfl ?_
    refine X_aload_n rfl rfl rfl rfl ?_
    refine X_getR (a := 345) rfl rfl rfl ((congrFun V.1 343).trans s_343) rfl ((congrFun (V.2.1 343 (by decide)) 2).trans r_343_2) ?_
    refine X_iload_n rfl rfl rfl rfl ?_
    refine S_iald rfl rfl ((congrFun V.1 345).trans s_345) hx1 (by omega) (fun vz3 evz3 => ?_)
    have vf4 := K_1 (V.2.2.2.2.1 (345) ((y1 : Int).toNat) (Nat.le_of_ble_eq_true rfl)) rk_345
    rw [evz3] at vf4
    refine S_icmp_ge (tgt := 69) rfl rfl rfl hx2 rfl (fun vh5 => ?_) (fun vh5 => ?_)
    · refine S_iinc (c := 1) rfl rfl rfl hx1 rfl (by omega) (fun vz6 hvz6 => ?_)
      refine LW_ls (ls' := [some (.ref 343), some (.int vz6), some (.int x2), some (.int x3)]) rfl ?_
      refine LW_goto (tgt := 2) rfl rfl ?_
      exact ih2 V vz6 vz6.toInt rfl (by omega) (some (.int x2)) (some (.int x3))    (by omega)
    · refine X_iconst (v := (0 : Int32)) rfl rfl rfl ?_
      exact LW_ireturn (st := []) rfl rfl rfl ⟨_, rfl, by decide, by decide, rfl⟩
  · refine X_iload_n rfl rfl rfl rfl ?_
    refine X_iload_n rfl rfl rfl rfl ?_
    refine X_iload_n rfl rfl rfl rfl ?_
    refine S_ishrT rfl rfl (fun vz7 => ?_)
    refine X_iconst (v := (1 : Int32)) rfl rfl rfl ?_
    refine S_iandR (k := 1) rfl rfl rfl (fun vz8 hvz8 => ?_)
    refine S_if_eq (tgt := 48) rfl rfl rfl rfl (fun vh9 => ?_) (fun vh9 => ?_)
    · refine X_iconst (v := (0 : Int32)) rfl rfl rfl ?_
      refine S_iaddT rfl rfl (fun vz10 => ?_)
      refine X_istore_n (i := 2) (ls' := [some (.ref 343), some (.int x1), some (.int vz10), some (.int x3)]) rfl rfl rfl (Nat.le_of_ble_eq_true rfl) rfl ?_
      refine S_iinc (c := 1) rfl rfl rfl hx3 rfl (by omega) (fun vz11 hvz11 => ?_)
      refine LW_ls (ls' := [some (.ref 343), some (.int x1), some (.int vz10), some (.int vz11)]) rfl ?_
      refine LW_goto (tgt := 19) rfl rfl ?_
      exact ih19 V x1 y1 hx1 (by omega) vz10 vz10.toInt rfl vz11 vz11.toInt rfl (by omega) (by rw [evz1]; omega)   (by omega)
    · refine X_aload_n rfl rfl rfl rfl ?_
      refine X_getR (a := 344) rfl rfl rfl ((congrFun V.1 343).trans s_343) rfl ((congrFun (V.2.1 343 (by decide)) 1).trans r_343_1) ?_
      refine X_iload_n rfl rfl rfl rfl ?_
      refine S_iald rfl rfl ((congrFun V.1 344).trans s_344) hx3 (by omega) (fun vz12 evz12 => ?_)
      refine LW_goto (tgt := 49) rfl rfl ?_
      refine S_iaddT rfl rfl (fun vz13 => ?_)
      refine X_istore_n (i := 2) (ls' := [some (.ref 343), some (.int x1), some (.int vz13), some (.int x3)]) rfl rfl rfl (Nat.le_of_ble_eq_true rfl) rfl ?_
      refine S_iinc (c := 1) rfl rfl rfl hx3 rfl (by omega) (fun vz14 hvz14 => ?_)
      refine LW_ls (ls' := [some (.ref 343), some (.int x1), some (.int vz13), some (.int vz14)]) rfl ?_
      refine LW_goto (tgt := 19) rfl rfl ?_
      exact ih19 V x1 y1 hx1 (by omega) vz13 vz13.toInt rfl vz14 vz14.toInt rfl (by omega) (by rw [evz1]; omega)   (by omega)
theorem C_X6_nobodyLeaves_all {P : Par} {g : LH} {d : Nat}  : ∀ n : Nat, (∀ (V : Inv P g) (x1 : Int32) (y1 : Int) (hx1 : x1.toInt = y1) (hf1 : 1 ≤ y1 ∧ y1 ≤ 16) (o2 : Option Value) (o3 : Option Value) , (16 - y1) * 8 + 7 < (n : Int) → LW 67 (d + 3) 0 0 2 [some (.ref 343), some (.int x1), o2, o3] [] g (fun v g' => ∃ r : Int32, v = some (.int r) ∧ 0 ≤ r.toInt ∧ r.toInt ≤ 1 ∧ g = g')) ∧ (∀ (V : Inv P g) (x1 : Int32) (y1 : Int) (hx1 : x1.toInt = y1) (hf1 : 1 ≤ y1 ∧ y1 ≤ 15) (x2 : Int32) (y2 : Int) (hx2 : x2.toInt = y2) (x3 : Int32) (y3 : Int) (hx3 : x3.toInt = y3) (hf3 : 0 ≤ y3 ∧ y3 ≤ 4) (hc1_7 : 0 ≤ (Gi g 1 7).toInt ∧ (Gi g 1 7).toInt ≤ 4), (16 - y1) * 8 + 0 + (4 - y3) * 1 + 0 < (n : Int) → LW 67 (d + 3) 0 0 19 [some (.ref 343), some (.int x1), some (.int x2), some (.int x3)] [] g (fun v g' => ∃ r : Int32, v = some (.int r) ∧ 0 ≤ r.toInt ∧ r.toInt ≤ 1 ∧ g = g')) := by
  intro n
  induction n with
  | zero => exact ⟨fun V x1 y1 hx1 hf1 o2 o3 hmu => absurd hmu (by omega), fun V x1 y1 hx1 hf1 x2 y2 hx2 x3 y3 hx3 hf3 hc1_7 hmu => absurd hmu (by omega)⟩
  | succ n ih => exact ⟨fun V x1 y1 hx1 hf1 o2 o3 hmu => C_X6_nobodyLeaves_2  V x1 y1 hx1 hf1 o2 o3 (by omega) ih.1 ih.2, fun V x1 y1 hx1 hf1 x2 y2 hx2 x3 y3 hx3 hf3 hc1_7 hmu => C_X6_nobodyLeaves_19  V x1 y1 hx1 hf1 x2 y2 hx2 x3 y3 hx3 hf3 hc1_7 (by omega) ih.1 ih.2⟩
set_option maxRecDepth 10000 in
set_option maxHeartbeats 40000000 in
theorem C_X6_nobodyLeaves {P : Par} {g : LH} {d : Nat}  (V : Inv P g)    : LW 67 (d + 3) 0 0 0 (lEnt (mL 67) [.ref 343]) [] g (fun v g' => ∃ r : Int32, v = some (.int r) ∧ 0 ≤ r.toInt ∧ r.toInt ≤ 1 ∧ g = g') := by
  refine LW_ls (ls' := [some (.ref 343), none, none, none]) rfl ?_
  refine X_iconst (v := (1 : Int32)) rfl rfl rfl ?_
  refine X_istore_n (i := 1) (ls' := [some (.ref 343), some (.int (1 : Int32)), none, none]) rfl rfl rfl (Nat.le_of_ble_eq_true rfl) rfl ?_
  exact (C_X6_nobodyLeaves_all (((16 - 1) * 8 + 7) + 1 : Int).toNat).1 V (1 : Int32) 1 (show (1 : Int32).toInt = 1 from rfl) (by omega) none none    (by omega)
set_option maxRecDepth 10000 in
set_option maxHeartbeats 40000000 in
theorem C_X6_share_56 {P : Par} {g g0 : LH} {d n m : Nat} (ihr66 : ∀ (g : LH) (V : Inv P g) (x1 : Int32) (y1 : Int) (hx1 : x1.toInt = y1) (hf1 : 0 ≤ y1 ∧ y1 ≤ 4) (x2 : Int32) (y2 : Int) (hx2 : x2.toInt = y2) (hf2 : (-30) ≤ y2 ∧ y2 ≤ 30) , 5 - y1 < ((m : Nat) : Int) → LW 66 (d + 1 * m + 7) 0 0 0 (lEnt (mL 66) [.ref 343, .int x1, .int x2]) [] g (fun v g' => ∃ r : Int32, v = some (.int r) ∧ 0 ≤ r.toInt ∧ r.toInt ≤ 1 ∧ Inv P g' ∧ Gr g' = Gr g)) (V : Inv P g) (hG : Gr g = Gr g0) (x1 : Int32) (y1 : Int) (hx1 : x1.toInt = y1) (hf1 : 0 ≤ y1 ∧ y1 ≤ 3) (x2 : Int32) (y2 : Int) (hx2 : x2.toInt = y2) (hf2 : (-30) ≤ y2 ∧ y2 ≤ 30) (x3 : Int32) (y3 : Int) (hx3 : x3.toInt = y3) (hf3 : 0 ≤ y3 ∧ y3 ≤ 31) (hlev : 5 - y1 < (((m + 1) : Nat) : Int)) (hmu : (31 - y3) * 1 + 0 < (n : Int) + 1) (ih56 : ∀ (g : LH) (V : Inv P g) (hG : Gr g = Gr g0) (x1 : Int32) (y1 : Int) (hx1 : x1.toInt = y1) (hf1 : 0 ≤ y1 ∧ y1 ≤ 3) (x2 : Int32) (y2 : Int) (hx2 : x2.toInt = y2) (hf2 : (-30) ≤ y2 ∧ y2 ≤ 30) (x3 : Int32) (y3 : Int) (hx3 : x3.toInt = y3) (hf3 : 0 ≤ y3 ∧ y3 ≤ 31) (hlev : 5 - y1 < (((m + 1) : Nat) : Int)), (31 - y3) * 1 + 0 < (n : Int) → LW 66 (d + 1 * (m + 1) + 7) 0 0 56 [some (.ref 343), some (.int x1), some (.int x2), some (.int x3)] [] g (fun v g' => ∃ r : Int32, v = some (.int r) ∧ 0 ≤ r.toInt ∧ r.toInt ≤ 1 ∧ Inv P g' ∧ Gr g' = Gr g0)) : LW 66 (d + 1 * (m + 1) + 7) 0 0 56 [some (.ref 343), some (.int x1), some (.int x2), some (.int x3)] [] g (fun v g' => ∃ r : Int32, v = some (.int r) ∧ 0 ≤ r.toInt ∧ r.toInt ≤ 1 ∧ Inv P g' ∧ Gr g' = Gr g0) := by
  refine X_iload_n rfl rfl rfl rfl ?_
  refine X_iload_n rfl rfl rfl rfl ?_
  refine S_icmp_gt (tgt := 89) rfl rfl rfl hx3 hx2 (fun vh1 => ?_) (fun vh1 => ?_)
  · refine X_iconst (v := (0 : Int32)) rfl rfl rfl ?_
    exact LW_ireturn (st := []) rfl rfl rfl ⟨_, rfl, by decide, by decide, V, hG⟩
  · refine X_aload_n rfl rfl rfl rfl ?_
    refine X_getR (a := 344) rfl rfl rfl ((congrFun V.1 343).trans s_343) rfl ((congrFun (V.2.1 343 (by decide)) 1).trans r_343_1) ?_
    refine X_iload_n rfl rfl rfl rfl ?_
    refine X_iload_n rfl rfl rfl rfl ?_
    refine S_iast (I := Inv _) rfl rfl ((congrFun V.1 344).trans s_344) hx1 (by omega) (Inv_putI V (Nat.le_of_ble_eq_true rfl) (Or.inl (by decide)) (Q_0 rk_344)) (fun g V ve2 vn3 hq => ?_)
    have hG := hq.trans hG
    refine X_aload_n rfl rfl rfl rfl ?_
    refine X_iload_n rfl rfl rfl rfl ?_
    refine X_iconst (v := (1 : Int32)) rfl rfl rfl ?_
    refine S_iadd rfl rfl hx1 (show (1 : Int32).toInt = 1 from rfl) (by omega) (fun vz4 hvz4 => ?_)
    refine X_iload_n rfl rfl rfl rfl ?_
    refine X_iload_n rfl rfl rfl rfl ?_
    refine S_isub rfl rfl hx2 hx3 (by omega) (fun vz5 hvz5 => ?_)
    refine Y_callV (as := [.int vz4, .int vz5]) (st := []) rfl rfl rfl (by decide) rfl (Nat.le_of_ble_eq_true rfl) (by decide) (Nat.le_of_ble_eq_true rfl) rfl ((congrFun V.1 343).trans s_343) (by decide) (LW_room (Nat.le_refl _) (Nat.le_refl _) (by omega) (ihr66 _ V vz4 vz4.toInt rfl (by omega) vz5 vz5.toInt rfl (by omega)  (by omega))) ?_
    rintro _ g ⟨vr6, rfl, hrvr60, hrvr61, V, hq⟩
    have hG := hq.trans hG
    refine S_if_eq (tgt := 83) rfl rfl rfl rfl (fun vh7 => ?_) (fun vh7 => ?_)
    · refine S_iinc (c := 1) rfl rfl rfl hx3 rfl (by omega) (fun vz8 hvz8 => ?_)
      refine LW_ls (ls' := [some (.ref 343), some (.int x1), some (.int x2), some (.int vz8)]) rfl ?_
      refine LW_goto (tgt := 56) rfl rfl ?_
      exact ih56 _ V hG x1 y1 hx1 (by omega) x2 y2 hx2 (by omega) vz8 vz8.toInt rfl (by omega)   (by omega) (by omega)
    · refine X_iconst (v := (1 : Int32)) rfl rfl rfl ?_
      exact LW_ireturn (st := []) rfl rfl rfl ⟨_, rfl, by decide, by decide, V, hG⟩
theorem C_X6_share_all {P : Par} {g0 : LH} {d m : Nat} (ihr66 : ∀ (g : LH) (V : Inv P g) (x1 : Int32) (y1 : Int) (hx1 : x1.toInt = y1) (hf1 : 0 ≤ y1 ∧ y1 ≤ 4) (x2 : Int32) (y2 : Int) (hx2 : x2.toInt = y2) (hf2 : (-30) ≤ y2 ∧ y2 ≤ 30) , 5 - y1 < ((m : Nat) : Int) → LW 66 (d + 1 * m + 7) 0 0 0 (lEnt (mL 66) [.ref 343, .int x1, .int x2]) [] g (fun v g' => ∃ r : Int32, v = some (.int r) ∧ 0 ≤ r.toInt ∧ r.toInt ≤ 1 ∧ Inv P g' ∧ Gr g' = Gr g)) : ∀ n : Nat, (∀ (g : LH) (V : Inv P g) (hG : Gr g = Gr g0) (x1 : Int32) (y1 : Int) (hx1 : x1.toInt = y1) (hf1 : 0 ≤ y1 ∧ y1 ≤ 3) (x2 : Int32) (y2 : Int) (hx2 : x2.toInt = y2) (hf2 : (-30) ≤ y2 ∧ y2 ≤ 30) (x3 : Int32) (y3 : Int) (hx3 : x3.toInt = y3) (hf3 : 0 ≤ y3 ∧ y3 ≤ 31) (hlev : 5 - y1 < (((m + 1) : Nat) : Int)), (31 - y3) * 1 + 0 < (n : Int) → LW 66 (d + 1 * (m + 1) + 7) 0 0 56 [some (.ref 343), some (.int x1), some (.int x2), some (.int x3)] [] g (fun v g' => ∃ r : Int32, v = some (.int r) ∧ 0 ≤ r.toInt ∧ r.toInt ≤ 1 ∧ Inv P g' ∧ Gr g' = Gr g0)) := by
  intro n
  induction n with
  | zero => exact fun g V hG x1 y1 hx1 hf1 x2 y2 hx2 hf2 x3 y3 hx3 hf3 hlev hmu => absurd hmu (by omega)
  | succ n ih => exact fun g V hG x1 y1 hx1 hf1 x2 y2 hx2 hf2 x3 y3 hx3 hf3 hlev hmu => C_X6_share_56 ihr66 V hG x1 y1 hx1 hf1 x2 y2 hx2 hf2 x3 y3 hx3 hf3 hlev (by omega) ih
set_option maxRecDepth 10000 in
set_option maxHeartbeats 40000000 in
theorem C_X6_share_s {P : Par} {g : LH} {d m : Nat} (ihr66 : ∀ (g : LH) (V : Inv P g) (x1 : Int32) (y1 : Int) (hx1 : x1.toInt = y1) (hf1 : 0 ≤ y1 ∧ y1 ≤ 4) (x2 : Int32) (y2 : Int) (hx2 : x2.toInt = y2) (hf2 : (-30) ≤ y2 ∧ y2 ≤ 30) , 5 - y1 < ((m : Nat) : Int) → LW 66 (d + 1 * m + 7) 0 0 0 (lEnt (mL 66) [.ref 343, .int x1, .int x2]) [] g (fun v g' => ∃ r : Int32, v = some (.int r) ∧ 0 ≤ r.toInt ∧ r.toInt ≤ 1 ∧ Inv P g' ∧ Gr g' = Gr g)) (V : Inv P g) (x1 : Int32) (y1 : Int) (hx1 : x1.toInt = y1) (hf1 : 0 ≤ y1 ∧ y1 ≤ 4) (x2 : Int32) (y2 : Int) (hx2 : x2.toInt = y2) (hf2 : (-30) ≤ y2 ∧ y2 ≤ 30)  (hlev : 5 - y1 < (((m + 1) : Nat) : Int)) : LW 66 (d + 1 * (m + 1) + 7) 0 0 0 (lEnt (mL 66) [.ref 343, .int x1, .int x2]) [] g (fun v g' => ∃ r : Int32, v = some (.int r) ∧ 0 ≤ r.toInt ∧ r.toInt ≤ 1 ∧ Inv P g' ∧ Gr g' = Gr g) := by
  refine LW_ls (ls' := [some (.ref 343), some (.int x1), some (.int x2), none]) rfl ?_
  have hG : Gr g = Gr g := rfl
  refine X_iload_n rfl rfl rfl rfl ?_
  refine X_aload_n rfl rfl rfl rfl ?_
  refine X_getR (a := 1) rfl rfl rfl ((congrFun V.1 343).trans s_343) rfl ((congrFun (V.2.1 343 (by decide)) 0).trans r_343_0) ?_
  refine S_getI rfl rfl rfl ((congrFun V.1 1).trans s_1) rfl (fun vz1 evz1 => ?_)
  have vf2 := K_13_7 (V.2.2.2.2.1 (1) (7) (Nat.le_of_ble_eq_true rfl)) rk_1
  rw [evz1] at vf2
  have pvz1 := V.2.2.2.2.2.2.1
  rw [evz1] at pvz1
  refine S_icmp_ge (tgt := 20) rfl rfl rfl hx1 rfl (fun vh3 => ?_) (fun vh3 => ?_)
  · refine X_iconst (v := (0 : Int32)) rfl rfl rfl ?_
    exact LW_ireturn (st := []) rfl rfl rfl ⟨_, rfl, by decide, by decide, V, hG⟩
  · refine X_iload_n rfl rfl rfl rfl ?_
    refine X_aload_n rfl rfl rfl rfl ?_
    refine X_getR (a := 344) rfl rfl rfl ((congrFun V.1 343).trans s_343) rfl ((congrFun (V.2.1 343 (by decide)) 1).trans r_343_1) ?_
    refine X_alen (t0 := 0) (v := (4 : Int32)) rfl rfl ((congrFun V.1 344).trans s_344) rfl rfl ?_
    refine S_icmp_lt (tgt := 22) rfl rfl rfl hx1 (show (4 : Int32).toInt = 4 from rfl) (fun vh4 => ?_) (fun q => absurd q (by omega))
    refine X_iload_n rfl rfl rfl rfl ?_
    refine X_aload_n rfl rfl rfl rfl ?_
    refine X_getR (a := 1) rfl rfl rfl ((congrFun V.1 343).trans s_343) rfl ((congrFun (V.2.1 343 (by decide)) 0).trans r_343_0) ?_
    refine X_getI (v := vz1) rfl rfl rfl ((congrFun V.1 1).trans s_1) rfl evz1 ?_
    refine X_iconst (v := (1 : Int32)) rfl rfl rfl ?_
    refine S_isub rfl rfl rfl (show (1 : Int32).toInt = 1 from rfl) (by omega) (fun vz5 hvz5 => ?_)
    refine S_icmp_ne (tgt := 47) rfl rfl rfl hx1 rfl (fun vh6 => ?_) (fun vh6 => ?_)
    · refine X_aload_n rfl rfl rfl rfl ?_
      refine X_getR (a := 345) rfl rfl rfl ((congrFun V.1 343).trans s_343) rfl ((congrFun (V.2.1 343 (by decide)) 2).trans r_343_2) ?_
      refine X_iconst (v := (1 : Int32)) rfl rfl rfl ?_
      refine X_iload_n rfl rfl rfl rfl ?_
      refine S_shl1 (n := 3) rfl rfl hx1 (by omega) (fun vz7 hvz7 => ?_)
      refine S_iald rfl rfl ((congrFun V.1 345).trans s_345) rfl (by omega) (fun vz8 evz8 => ?_)
      have vf9 := K_1 (V.2.2.2.2.1 (345) ((vz7.toInt : Int).toNat) (Nat.le_of_ble_eq_true rfl)) rk_345
      rw [evz8] at vf9
      refine X_istore_n (i := 3) (ls' := [some (.ref 343), some (.int x1), some (.int x2), some (.int vz8)]) rfl rfl rfl (Nat.le_of_ble_eq_true rfl) rfl ?_
      exact (C_X6_share_all ihr66 (((31 - vz8.toInt) * 1 + 0) + 1 : Int).toNat) _ V hG x1 y1 hx1 (by omega) x2 y2 hx2 (by omega) vz8 vz8.toInt rfl (by omega)   (by omega) (by omega)
    · refine X_aload_n rfl rfl rfl rfl ?_
      refine X_getR (a := 344) rfl rfl rfl ((congrFun V.1 343).trans s_343) rfl ((congrFun (V.2.1 343 (by decide)) 1).trans r_343_1) ?_
      refine X_iload_n rfl rfl rfl rfl ?_
      refine X_iload_n rfl rfl rfl rfl ?_
      refine S_iast (I := Inv _) rfl rfl ((congrFun V.1 344).trans s_344) hx1 (by omega) (Inv_putI V (Nat.le_of_ble_eq_true rfl) (Or.inl (by decide)) (Q_0 rk_344)) (fun g V ve10 vn11 hq => ?_)
      have hG := hq.trans hG
      have evz1 := (vn11 (1) 7 (Or.inl (by decide))).trans evz1
      refine X_aload_n rfl rfl rfl rfl ?_
      refine Y_callV (as := []) (st := []) rfl rfl rfl (by decide) rfl (Nat.le_of_ble_eq_true rfl) (by decide) (Nat.le_of_ble_eq_true rfl) rfl ((congrFun V.1 343).trans s_343) (by decide) (C_X6_nobodyLeaves V  ) ?_
      rintro _ g' ⟨vr12, rfl, hrvr120, hrvr121, hgg⟩
      subst hgg
      have hr := (rfl : vr12.toInt = vr12.toInt)
      exact LW_ireturn (st := []) rfl rfl (nbool rfl (by omega)) ⟨_, rfl, by omega, by omega, V, hG⟩
theorem C_X6_share_r {P : Par} {d : Nat} : ∀ (m : Nat) (g : LH) (V : Inv P g) (x1 : Int32) (y1 : Int) (hx1 : x1.toInt = y1) (hf1 : 0 ≤ y1 ∧ y1 ≤ 4) (x2 : Int32) (y2 : Int) (hx2 : x2.toInt = y2) (hf2 : (-30) ≤ y2 ∧ y2 ≤ 30) , 5 - y1 < ((m : Nat) : Int) → LW 66 (d + 1 * m + 7) 0 0 0 (lEnt (mL 66) [.ref 343, .int x1, .int x2]) [] g (fun v g' => ∃ r : Int32, v = some (.int r) ∧ 0 ≤ r.toInt ∧ r.toInt ≤ 1 ∧ Inv P g' ∧ Gr g' = Gr g) := by
  intro m
  induction m with
  | zero => intro g V x1 y1 hx1 hf1 x2 y2 hx2 hf2 hlev; exact absurd hlev (by omega)
  | succ m ih => intro g V x1 y1 hx1 hf1 x2 y2 hx2 hf2 hlev; exact C_X6_share_s ih V x1 y1 hx1 hf1 x2 y2 hx2 hf2 (by omega)
theorem C_X6_share {P : Par} {g : LH} {d : Nat} (V : Inv P g) (x1 : Int32) (y1 : Int) (hx1 : x1.toInt = y1) (hf1 : 0 ≤ y1 ∧ y1 ≤ 4) (x2 : Int32) (y2 : Int) (hx2 : x2.toInt = y2) (hf2 : (-30) ≤ y2 ∧ y2 ≤ 30)  : LW 66 (d + 13) 0 0 0 (lEnt (mL 66) [.ref 343, .int x1, .int x2]) [] g (fun v g' => ∃ r : Int32, v = some (.int r) ∧ 0 ≤ r.toInt ∧ r.toInt ≤ 1 ∧ Inv P g' ∧ Gr g' = Gr g) :=
  LW_room (Nat.le_refl _) (Nat.le_refl _) (by omega) (C_X6_share_r (d := d) 6 _ V x1 y1 hx1 hf1 x2 y2 hx2 hf2 (by omega))
set_option maxRecDepth 10000 in
set_option maxHeartbeats 40000000 in
theorem C_X6_findCore_2 {P : Par} {g g0 : LH} {d n : Nat}  (V : Inv P g) (hG : Gr g = Gr g0) (x1 : Int32) (y1 : Int) (hx1 : x1.toInt = y1) (hf1 : 0 ≤ y1 ∧ y1 ≤ 30) (x2 : Int32) (y2 : Int) (hx2 : x2.toInt = y2) (hf2 : 0 ≤ y2 ∧ y2 ≤ 16)  (hmu : (16 - y2) * 1 + 0 < (n : Int) + 1) (ih2 : ∀ (g : LH) (V : Inv P g) (hG : Gr g = Gr g0) (x1 : Int32) (y1 : Int) (hx1 : x1.toInt = y1) (hf1 : 0 ≤ y1 ∧ y1 ≤ 30) (x2 : Int32) (y2 : Int) (hx2 : x2.toInt = y2) (hf2 : 0 ≤ y2 ∧ y2 ≤ 16) , (16 - y2) * 1 + 0 < (n : Int) → LW 65 (d + 17) 0 0 2 [some (.ref 343), some (.int x1), some (.int x2)] [] g (fun v g' => ∃ r : Int32, v = some (.int r) ∧ 0 ≤ r.toInt ∧ r.toInt ≤ 1 ∧ Inv P g' ∧ Gr g' = Gr g0)) : LW 65 (d + 17) 0 0 2 [some (.ref 343), some (.int x1), some (.int x2)] [] g (fun v g' => ∃ r : Int32, v = some (.int r) ∧ 0 ≤ r.toInt ∧ r.toInt ≤ 1 ∧ Inv P g' ∧ Gr g' = Gr g0) := by
  refine X_iload_n rfl rfl rfl rfl ?_
  refine X_iconst (v := (1 : Int32)) rfl rfl rfl ?_
  refine X_aload_n rfl rfl rfl rfl ?_
  refine X_getR (a := 1) rfl rfl rfl ((congrFun V.1 343).trans s_343) rfl ((congrFun (V.2.1 343 (by decide)) 0).trans r_343_0) ?_
  refine S_getI rfl rfl rfl ((congrFun V.1 1).trans s_1) rfl (fun vz1 evz1 => ?_)
  have vf2 := K_13_7 (V.2.2.2.2.1 (1) (7) (Nat.le_of_ble_eq_true rfl)) rk_1
  rw [evz1] at vf2
  have pvz1 := V.2.2.2.2.2.2.1
  rw [evz1] at pvz1
  refine S_shl1 (n := 4) rfl rfl rfl (by omega) (fun vz3 hvz3 => ?_)
  refine S_icmp_ge (tgt := 32) rfl rfl rfl hx2 rfl (fun vh4 => ?_) (fun vh4 => ?_)
  · refine X_aload_n rfl rfl rfl rfl ?_
    refine X_iconst (v := (0 : Int32)) rfl rfl rfl ?_
    refine X_iload_n rfl rfl rfl rfl ?_
    refine Y_callV (as := [.int (0 : Int32), .int x1]) (st := []) rfl rfl rfl (by decide) rfl (Nat.le_of_ble_eq_true rfl) (by decide) (Nat.le_of_ble_eq_true rfl) rfl ((congrFun V.1 343).trans s_343) (by decide) (C_X6_share V (0 : Int32) 0 (show (0 : Int32).toInt = 0 from rfl) (by omega) x1 y1 hx1 (by omega) ) ?_
    rintro _ g ⟨vr5, rfl, hrvr50, hrvr51, V, hq⟩
    have hG := hq.trans hG
    have hr := (rfl : vr5.toInt = vr5.toInt)
    exact LW_ireturn (st := []) rfl rfl (nbool rfl (by omega)) ⟨_, rfl, by omega, by omega, V, hG⟩
  · refine X_aload_n rfl rfl rfl rfl ?_
    refine X_getR (a := 345) rfl rfl rfl ((congrFun V.1 343).trans s_343) rfl ((congrFun (V.2.1 343 (by decide)) 2).trans r_343_2) ?_
    refine X_iload_n rfl rfl rfl rfl ?_
    refine X_aload_n rfl rfl rfl rfl ?_
    refine X_iload_n rfl rfl rfl rfl ?_
    refine Y_callV (as := [.int x2]) (st := [.int x2, .ref 345]) rfl rfl rfl (by decide) rfl (Nat.le_of_ble_eq_true rfl) (by decide) (Nat.le_of_ble_eq_true rfl) rfl ((congrFun V.1 343).trans s_343) (by decide) (C_X6_worthOf V x2 y2 hx2 (by omega) ) ?_
    rintro _ g' ⟨vr6, rfl, hrvr60, hrvr61, hgg⟩
    subst hgg
    refine S_iast (I := Inv _) rfl rfl ((congrFun V.1 345).trans s_345) hx2 (by omega) (Inv_putI V (Nat.le_of_ble_eq_true rfl) (Or.inl (by decide)) (Q_1 rk_345 (by omega))) (fun g V ve7 vn8 hq => ?_)
    have hG := hq.trans hG
    have evz1 := (vn8 (1) 7 (Or.inl (by decide))).trans evz1
    refine S_iinc (c := 1) rfl rfl rfl hx2 rfl (by omega) (fun vz9 hvz9 => ?_)
    refine LW_ls (ls' := [some (.ref 343), some (.int x1), some (.int vz9)]) rfl ?_
    refine LW_goto (tgt := 2) rfl rfl ?_
    exact ih2 _ V hG x1 y1 hx1 (by omega) vz9 vz9.toInt rfl (by omega)    (by omega)
theorem C_X6_findCore_all {P : Par} {g0 : LH} {d : Nat}  : ∀ n : Nat, (∀ (g : LH) (V : Inv P g) (hG : Gr g = Gr g0) (x1 : Int32) (y1 : Int) (hx1 : x1.toInt = y1) (hf1 : 0 ≤ y1 ∧ y1 ≤ 30) (x2 : Int32) (y2 : Int) (hx2 : x2.toInt = y2) (hf2 : 0 ≤ y2 ∧ y2 ≤ 16) , (16 - y2) * 1 + 0 < (n : Int) → LW 65 (d + 17) 0 0 2 [some (.ref 343), some (.int x1), some (.int x2)] [] g (fun v g' => ∃ r : Int32, v = some (.int r) ∧ 0 ≤ r.toInt ∧ r.toInt ≤ 1 ∧ Inv P g' ∧ Gr g' = Gr g0)) := by
  intro n
  induction n with
  | zero => exact fun g V hG x1 y1 hx1 hf1 x2 y2 hx2 hf2 hmu => absurd hmu (by omega)
  | succ n ih => exact fun g V hG x1 y1 hx1 hf1 x2 y2 hx2 hf2 hmu => C_X6_findCore_2  V hG x1 y1 hx1 hf1 x2 y2 hx2 hf2 (by omega) ih
set_option maxRecDepth 10000 in
set_option maxHeartbeats 40000000 in
theorem C_X6_findCore {P : Par} {g : LH} {d : Nat}  (V : Inv P g) (x1 : Int32) (y1 : Int) (hx1 : x1.toInt = y1) (hf1 : 0 ≤ y1 ∧ y1 ≤ 30)   : LW 65 (d + 17) 0 0 0 (lEnt (mL 65) [.ref 343, .int x1]) [] g (fun v g' => ∃ r : Int32, v = some (.int r) ∧ 0 ≤ r.toInt ∧ r.toInt ≤ 1 ∧ Inv P g' ∧ Gr g' = Gr g) := by
  refine LW_ls (ls' := [some (.ref 343), some (.int x1), none]) rfl ?_
  have hG : Gr g = Gr g := rfl
  refine X_iconst (v := (0 : Int32)) rfl rfl rfl ?_
  refine X_istore_n (i := 2) (ls' := [some (.ref 343), some (.int x1), some (.int (0 : Int32))]) rfl rfl rfl (Nat.le_of_ble_eq_true rfl) rfl ?_
  exact (C_X6_findCore_all (((16 - 0) * 1 + 0) + 1 : Int).toNat) _ V hG x1 y1 hx1 (by omega) (0 : Int32) 0 (show (0 : Int32).toInt = 0 from rfl) (by omega)    (by omega)
set_option maxRecDepth 10000 in
set_option maxHeartbeats 40000000 in
theorem C_X12_core {P : Par} {g : LH} {d : Nat}  (V : Inv P g) (x1 : Int32) (y1 : Int) (hx1 : x1.toInt = y1) (x2 : Int32) (y2 : Int) (hx2 : x2.toInt = y2)   : LW 154 (d + 21) 0 0 0 (lEnt (mL 154) [.ref 0, .int x1, .int x2]) [] g (fun v g' => ∃ r : Int32, v = some (.int r) ∧ Inv P g' ∧ Gr g' = Gr g) := by
  refine LW_ls (ls' := [some (.ref 0), some (.int x1), some (.int x2)]) rfl ?_
  have hG : Gr g = Gr g := rfl
  refine X_iload_n rfl rfl rfl rfl ?_
  refine S_if_lt (tgt := 25) rfl rfl rfl hx1 (fun vh1 => ?_) (fun vh1 => ?_)
  · refine X_iconst (v := (-1 : Int32)) rfl rfl rfl ?_
    exact LW_ireturn (st := []) rfl rfl rfl ⟨_, rfl, V, hG⟩
  · refine X_iload_n rfl rfl rfl rfl ?_
    refine X_bipush (v := (30 : Int32)) rfl rfl rfl ?_
    refine S_icmp_gt (tgt := 25) rfl rfl rfl hx1 (show (30 : Int32).toInt = 30 from rfl) (fun vh2 => ?_) (fun vh2 => ?_)
    · refine X_iconst (v := (-1 : Int32)) rfl rfl rfl ?_
      exact LW_ireturn (st := []) rfl rfl rfl ⟨_, rfl, V, hG⟩
    · refine X_iload_n rfl rfl rfl rfl ?_
      refine S_if_lt (tgt := 25) rfl rfl rfl hx2 (fun vh3 => ?_) (fun vh3 => ?_)
      · refine X_iconst (v := (-1 : Int32)) rfl rfl rfl ?_
        exact LW_ireturn (st := []) rfl rfl rfl ⟨_, rfl, V, hG⟩
      · refine X_iload_n rfl rfl rfl rfl ?_
        refine X_aload_n rfl rfl rfl rfl ?_
        refine X_getR (a := 1) rfl rfl rfl ((congrFun V.1 0).trans s_0) rfl ((congrFun (V.2.1 0 (by decide)) 0).trans r_0_0) ?_
        refine S_getI rfl rfl rfl ((congrFun V.1 1).trans s_1) rfl (fun vz4 evz4 => ?_)
        have vf5 := K_13_7 (V.2.2.2.2.1 (1) (7) (Nat.le_of_ble_eq_true rfl)) rk_1
        rw [evz4] at vf5
        have pvz4 := V.2.2.2.2.2.2.1
        rw [evz4] at pvz4
        refine S_icmp_lt (tgt := 27) rfl rfl rfl hx2 rfl (fun vh6 => ?_) (fun vh6 => ?_)
        · refine X_aload_n rfl rfl rfl rfl ?_
          refine X_getR (a := 343) rfl rfl rfl ((congrFun V.1 0).trans s_0) rfl ((congrFun (V.2.1 0 (by decide)) 7).trans r_0_7) ?_
          refine X_iload_n rfl rfl rfl rfl ?_
          refine Y_callV (as := [.int x1]) (st := []) rfl rfl rfl (by decide) rfl (Nat.le_of_ble_eq_true rfl) (by decide) (Nat.le_of_ble_eq_true rfl) rfl ((congrFun V.1 343).trans s_343) (by decide) (C_X6_findCore V x1 y1 hx1 (by omega) ) ?_
          rintro _ g ⟨vr7, rfl, hrvr70, hrvr71, V, hq⟩
          have hG := hq.trans hG
          refine S_if_eq (tgt := 50) rfl rfl rfl rfl (fun vh8 => ?_) (fun vh8 => ?_)
          · refine X_iconst (v := (-1 : Int32)) rfl rfl rfl ?_
            exact LW_ireturn (st := []) rfl rfl rfl ⟨_, rfl, V, hG⟩
          · refine X_aload_n rfl rfl rfl rfl ?_
            refine X_getR (a := 343) rfl rfl rfl ((congrFun V.1 0).trans s_0) rfl ((congrFun (V.2.1 0 (by decide)) 7).trans r_0_7) ?_
            refine X_getR (a := 344) rfl rfl rfl ((congrFun V.1 343).trans s_343) rfl ((congrFun (V.2.1 343 (by decide)) 1).trans r_343_1) ?_
            refine X_iload_n rfl rfl rfl rfl ?_
            refine S_iald rfl rfl ((congrFun V.1 344).trans s_344) hx2 (by omega) (fun vz9 evz9 => ?_)
            refine LW_goto (tgt := 51) rfl rfl ?_
            exact LW_ireturn (st := []) rfl rfl rfl ⟨_, rfl, V, hG⟩
        · refine X_iconst (v := (-1 : Int32)) rfl rfl rfl ?_
          exact LW_ireturn (st := []) rfl rfl rfl ⟨_, rfl, V, hG⟩
set_option maxRecDepth 10000 in
set_option maxHeartbeats 40000000 in
theorem C_X6_goodCall_2 {P : Par} {g : LH} {d n : Nat}  (V : Inv P g) (x1 : Int32) (y1 : Int) (hx1 : x1.toInt = y1) (hf1 : 0 ≤ y1 ∧ y1 ≤ 1022) (x2 : Int32) (y2 : Int) (hx2 : x2.toInt = y2) (hf2 : 0 ≤ y2 ∧ y2 ≤ 10) (o3 : Option Value)  (hmu : (10 - y2) * 1 + 0 < (n : Int) + 1) (ih2 : ∀ (V : Inv P g) (x1 : Int32) (y1 : Int) (hx1 : x1.toInt = y1) (hf1 : 0 ≤ y1 ∧ y1 ≤ 1022) (x2 : Int32) (y2 : Int) (hx2 : x2.toInt = y2) (hf2 : 0 ≤ y2 ∧ y2 ≤ 10) (o3 : Option Value) , (10 - y2) * 1 + 0 < (n : Int) → LW 63 (d + 3) 0 0 2 [some (.ref 343), some (.int x1), some (.int x2), o3] [] g (fun v g' => ∃ r : Int32, v = some (.int r) ∧ (-1) ≤ r.toInt ∧ r.toInt ≤ 9 ∧ g = g')) : LW 63 (d + 3) 0 0 2 [some (.ref 343), some (.int x1), some (.int x2), o3] [] g (fun v g' => ∃ r : Int32, v = some (.int r) ∧ (-1) ≤ r.toInt ∧ r.toInt ≤ 9 ∧ g = g') := by
  refine X_iload_n rfl rfl rfl rfl ?_
  refine X_aload_n rfl rfl rfl rfl ?_
  refine S_getI rfl rfl rfl ((congrFun V.1 343).trans s_343) rfl (fun vz1 evz1 => ?_)
  have vf2 := K_18_4 (V.2.2.2.2.1 (343) (4) (Nat.le_of_ble_eq_true rfl)) rk_343
  rw [evz1] at vf2
  refine S_icmp_ge (tgt := 47) rfl rfl rfl hx2 rfl (fun vh3 => ?_) (fun vh3 => ?_)
  · refine X_iconst (v := (-1 : Int32)) rfl rfl rfl ?_
    exact LW_ireturn (st := []) rfl rfl rfl ⟨_, rfl, by decide, by decide, rfl⟩
  · refine X_iload_n rfl rfl rfl rfl ?_
    refine X_iconst (v := (1 : Int32)) rfl rfl rfl ?_
    refine X_iload_n rfl rfl rfl rfl ?_
    refine S_shl1 (n := 9) rfl rfl hx2 (by omega) (fun vz4 hvz4 => ?_)
    refine S_ior (n := 10) rfl rfl hx1 rfl (by omega) (by omega) (fun vz5 hvz5 => ?_)
    refine X_istore_n (i := 3) (ls' := [some (.ref 343), some (.int x1), some (.int x2), some (.int vz5)]) rfl rfl rfl (Nat.le_of_ble_eq_true rfl) rfl ?_
    refine X_iload_n rfl rfl rfl rfl ?_
    refine X_iload_n rfl rfl rfl rfl ?_
    refine S_icmp_eq (tgt := 41) rfl rfl rfl rfl hx1 (fun vh6 => ?_) (fun vh6 => ?_)
    · refine S_iinc (c := 1) rfl rfl rfl hx2 rfl (by omega) (fun vz7 hvz7 => ?_)
      refine LW_ls (ls' := [some (.ref 343), some (.int x1), some (.int vz7), some (.int vz5)]) rfl ?_
      refine LW_goto (tgt := 2) rfl rfl ?_
      exact ih2 V x1 y1 hx1 (by omega) vz7 vz7.toInt rfl (by omega) (some (.int vz5))    (by omega)
    · refine X_aload_n rfl rfl rfl rfl ?_
      refine X_getR (a := 347) rfl rfl rfl ((congrFun V.1 343).trans s_343) rfl ((congrFun (V.2.1 343 (by decide)) 5).trans r_343_5) ?_
      refine X_iload_n rfl rfl rfl rfl ?_
      refine S_zald rfl rfl ((congrFun V.1 347).trans s_347) rfl (by omega) (fun vz8 evz8 => ?_)
      refine S_if_eq (tgt := 41) rfl rfl rfl rfl (fun vh9 => ?_) (fun vh9 => ?_)
      · refine S_iinc (c := 1) rfl rfl rfl hx2 rfl (by omega) (fun vz10 hvz10 => ?_)
        refine LW_ls (ls' := [some (.ref 343), some (.int x1), some (.int vz10), some (.int vz5)]) rfl ?_
        refine LW_goto (tgt := 2) rfl rfl ?_
        exact ih2 V x1 y1 hx1 (by omega) vz10 vz10.toInt rfl (by omega) (some (.int vz5))    (by omega)
      · refine X_aload_n rfl rfl rfl rfl ?_
        refine X_getR (a := 348) rfl rfl rfl ((congrFun V.1 343).trans s_343) rfl ((congrFun (V.2.1 343 (by decide)) 6).trans r_343_6) ?_
        refine X_iload_n rfl rfl rfl rfl ?_
        refine S_zald rfl rfl ((congrFun V.1 348).trans s_348) rfl (by omega) (fun vz11 evz11 => ?_)
        refine S_if_ne (tgt := 41) rfl rfl rfl rfl (fun vh12 => ?_) (fun vh12 => ?_)
        · refine S_iinc (c := 1) rfl rfl rfl hx2 rfl (by omega) (fun vz13 hvz13 => ?_)
          refine LW_ls (ls' := [some (.ref 343), some (.int x1), some (.int vz13), some (.int vz5)]) rfl ?_
          refine LW_goto (tgt := 2) rfl rfl ?_
          exact ih2 V x1 y1 hx1 (by omega) vz13 vz13.toInt rfl (by omega) (some (.int vz5))    (by omega)
        · refine X_iload_n rfl rfl rfl rfl ?_
          have hr := hx2
          exact LW_ireturn (st := []) rfl rfl rfl ⟨_, rfl, by omega, by omega, rfl⟩
theorem C_X6_goodCall_all {P : Par} {g : LH} {d : Nat}  : ∀ n : Nat, (∀ (V : Inv P g) (x1 : Int32) (y1 : Int) (hx1 : x1.toInt = y1) (hf1 : 0 ≤ y1 ∧ y1 ≤ 1022) (x2 : Int32) (y2 : Int) (hx2 : x2.toInt = y2) (hf2 : 0 ≤ y2 ∧ y2 ≤ 10) (o3 : Option Value) , (10 - y2) * 1 + 0 < (n : Int) → LW 63 (d + 3) 0 0 2 [some (.ref 343), some (.int x1), some (.int x2), o3] [] g (fun v g' => ∃ r : Int32, v = some (.int r) ∧ (-1) ≤ r.toInt ∧ r.toInt ≤ 9 ∧ g = g')) := by
  intro n
  induction n with
  | zero => exact fun V x1 y1 hx1 hf1 x2 y2 hx2 hf2 o3 hmu => absurd hmu (by omega)
  | succ n ih => exact fun V x1 y1 hx1 hf1 x2 y2 hx2 hf2 o3 hmu => C_X6_goodCall_2  V x1 y1 hx1 hf1 x2 y2 hx2 hf2 o3 (by omega) ih
set_option maxRecDepth 10000 in
set_option maxHeartbeats 40000000 in
theorem C_X6_goodCall {P : Par} {g : LH} {d : Nat}  (V : Inv P g) (x1 : Int32) (y1 : Int) (hx1 : x1.toInt = y1) (hf1 : 0 ≤ y1 ∧ y1 ≤ 1022)   : LW 63 (d + 3) 0 0 0 (lEnt (mL 63) [.ref 343, .int x1]) [] g (fun v g' => ∃ r : Int32, v = some (.int r) ∧ (-1) ≤ r.toInt ∧ r.toInt ≤ 9 ∧ g = g') := by
  refine LW_ls (ls' := [some (.ref 343), some (.int x1), none, none]) rfl ?_
  refine X_iconst (v := (0 : Int32)) rfl rfl rfl ?_
  refine X_istore_n (i := 2) (ls' := [some (.ref 343), some (.int x1), some (.int (0 : Int32)), none]) rfl rfl rfl (Nat.le_of_ble_eq_true rfl) rfl ?_
  exact (C_X6_goodCall_all (((10 - 0) * 1 + 0) + 1 : Int).toNat) V x1 y1 hx1 (by omega) (0 : Int32) 0 (show (0 : Int32).toInt = 0 from rfl) (by omega) none    (by omega)
set_option maxRecDepth 10000 in
set_option maxHeartbeats 40000000 in
theorem C_X6_winningCall_27 {P : Par} {g g0 : LH} {d n : Nat}  (V : Inv P g) (hG : Gr g = Gr g0) (x1 : Int32) (y1 : Int) (hx1 : x1.toInt = y1) (hf1 : 0 ≤ y1 ∧ y1 ≤ 7) (x2 : Int32) (y2 : Int) (hx2 : x2.toInt = y2) (hf2 : 1 ≤ y2 ∧ y2 ≤ 67108863) (x3 : Int32) (y3 : Int) (hx3 : x3.toInt = y3) (hf3 : 0 ≤ y3 ∧ y3 ≤ 1023) (x4 : Int32) (y4 : Int) (hx4 : x4.toInt = y4) (hf4 : (-1) ≤ y4 ∧ y4 ≤ 1022) (hc343_4 : 0 ≤ (Gi g 343 4).toInt ∧ (Gi g 343 4).toInt ≤ 10) (hmu : (y4 - (-1)) * 1 + 0 < (n : Int) + 1) (ih27 : ∀ (g : LH) (V : Inv P g) (hG : Gr g = Gr g0) (x1 : Int32) (y1 : Int) (hx1 : x1.toInt = y1) (hf1 : 0 ≤ y1 ∧ y1 ≤ 7) (x2 : Int32) (y2 : Int) (hx2 : x2.toInt = y2) (hf2 : 1 ≤ y2 ∧ y2 ≤ 67108863) (x3 : Int32) (y3 : Int) (hx3 : x3.toInt = y3) (hf3 : 0 ≤ y3 ∧ y3 ≤ 1023) (x4 : Int32) (y4 : Int) (hx4 : x4.toInt = y4) (hf4 : (-1) ≤ y4 ∧ y4 ≤ 1022) (hc343_4 : 0 ≤ (Gi g 343 4).toInt ∧ (Gi g 343 4).toInt ≤ 10), (y4 - (-1)) * 1 + 0 < (n : Int) → LW 62 (d + 13) 0 0 27 [some (.ref 343), some (.int x1), some (.int x2), some (.int x3), some (.int x4)] [] g (fun v g' => ∃ r : Int32, v = some (.int r) ∧ (-1) ≤ r.toInt ∧ r.toInt ≤ 25 ∧ Inv P g' ∧ Gr g' = Gr g0)) : LW 62 (d + 13) 0 0 27 [some (.ref 343), some (.int x1), some (.int x2), some (.int x3), some (.int x4)] [] g (fun v g' => ∃ r : Int32, v = some (.int r) ∧ (-1) ≤ r.toInt ∧ r.toInt ≤ 25 ∧ Inv P g' ∧ Gr g' = Gr g0) := by
  obtain ⟨vz1, evz1⟩ : ∃ z, Gi g 343 4 = z := ⟨_, rfl⟩
  rw [evz1] at hc343_4
  refine X_iload rfl rfl rfl ?_
  refine S_if_lt (tgt := 60) rfl rfl rfl hx4 (fun vh2 => ?_) (fun vh2 => ?_)
  · refine X_aload_n rfl rfl rfl rfl ?_
    refine X_iconst (v := (0 : Int32)) rfl rfl rfl ?_
    refine Y_callV (as := [.int (0 : Int32)]) (st := []) rfl rfl rfl (by decide) rfl (Nat.le_of_ble_eq_true rfl) (by decide) (Nat.le_of_ble_eq_true rfl) rfl ((congrFun V.1 343).trans s_343) (by decide) (C_X6_goodCall V (0 : Int32) 0 (show (0 : Int32).toInt = 0 from rfl) (by omega) ) ?_
    rintro _ g' ⟨vr3, rfl, hrvr30, hrvr31, hgg⟩
    subst hgg
    refine X_istore (i := 4) (ls' := [some (.ref 343), some (.int x1), some (.int x2), some (.int x3), some (.int vr3)]) rfl rfl (Nat.le_of_ble_eq_true rfl) rfl ?_
    refine X_iload rfl rfl rfl ?_
    refine X_iconst (v := (-1 : Int32)) rfl rfl rfl ?_
    refine S_icmp_ne (tgt := 77) rfl rfl rfl rfl (show (-1 : Int32).toInt = -1 from rfl) (fun vh4 => ?_) (fun vh4 => ?_)
    · refine X_aload_n rfl rfl rfl rfl ?_
      refine X_getR (a := 346) rfl rfl rfl ((congrFun V.1 343).trans s_343) rfl ((congrFun (V.2.1 343 (by decide)) 3).trans r_343_3) ?_
      refine X_iload rfl rfl rfl ?_
      refine S_iald rfl rfl ((congrFun V.1 346).trans s_346) rfl (by omega) (fun vz5 evz5 => ?_)
      have vf6 := K_3 (V.2.2.2.2.1 (346) ((vr3.toInt : Int).toNat) (Nat.le_of_ble_eq_true rfl)) rk_346
      rw [evz5] at vf6
      have hr := (rfl : vz5.toInt = vz5.toInt)
      exact LW_ireturn (st := []) rfl rfl rfl ⟨_, rfl, by omega, by omega, V, hG⟩
    · refine X_iconst (v := (-1 : Int32)) rfl rfl rfl ?_
      refine LW_goto (tgt := 84) rfl rfl ?_
      exact LW_ireturn (st := []) rfl rfl rfl ⟨_, rfl, by decide, by decide, V, hG⟩
  · refine X_aload_n rfl rfl rfl rfl ?_
    refine X_getR (a := 348) rfl rfl rfl ((congrFun V.1 343).trans s_343) rfl ((congrFun (V.2.1 343 (by decide)) 6).trans r_343_6) ?_
    refine X_iload rfl rfl rfl ?_
    refine X_aload_n rfl rfl rfl rfl ?_
    refine X_iload rfl rfl rfl ?_
    refine Y_callV (as := [.int x4]) (st := [.int x4, .ref 348]) rfl rfl rfl (by decide) rfl (Nat.le_of_ble_eq_true rfl) (by decide) (Nat.le_of_ble_eq_true rfl) rfl ((congrFun V.1 343).trans s_343) (by decide) (C_X6_goodCall V x4 y4 hx4 (by omega) ) ?_
    rintro _ g' ⟨vr7, rfl, hrvr70, hrvr71, hgg⟩
    subst hgg
    refine X_iconst (v := (-1 : Int32)) rfl rfl rfl ?_
    refine S_icmp_eq (tgt := 52) rfl rfl rfl rfl (show (-1 : Int32).toInt = -1 from rfl) (fun vh8 => ?_) (fun vh8 => ?_)
    · refine X_iconst (v := (0 : Int32)) rfl rfl rfl ?_
      refine S_zast (I := Inv _) rfl rfl ((congrFun V.1 348).trans s_348) hx4 (by omega) (fun x => (Inv_putI V (Nat.le_of_ble_eq_true rfl) (Or.inl (by decide)) (Q_0 rk_348))) (fun g V vn10 hq => ?_)
      have hG := hq.trans hG
      have evz1 := (vn10 (343) 4 (Or.inl (by decide))).trans evz1
      refine S_iinc (c := (-1)) rfl rfl rfl hx4 rfl (by omega) (fun vz11 hvz11 => ?_)
      refine LW_ls (ls' := [some (.ref 343), some (.int x1), some (.int x2), some (.int x3), some (.int vz11)]) rfl ?_
      refine LW_goto (tgt := 27) rfl rfl ?_
      exact ih27 _ V hG x1 y1 hx1 (by omega) x2 y2 hx2 (by omega) x3 y3 hx3 (by omega) vz11 vz11.toInt rfl (by omega) (by rw [evz1]; omega)   (by omega)
    · refine X_iconst (v := (1 : Int32)) rfl rfl rfl ?_
      refine LW_goto (tgt := 53) rfl rfl ?_
      refine S_zast (I := Inv _) rfl rfl ((congrFun V.1 348).trans s_348) hx4 (by omega) (fun x => (Inv_putI V (Nat.le_of_ble_eq_true rfl) (Or.inl (by decide)) (Q_0 rk_348))) (fun g V vn13 hq => ?_)
      have hG := hq.trans hG
      have evz1 := (vn13 (343) 4 (Or.inl (by decide))).trans evz1
      refine S_iinc (c := (-1)) rfl rfl rfl hx4 rfl (by omega) (fun vz14 hvz14 => ?_)
      refine LW_ls (ls' := [some (.ref 343), some (.int x1), some (.int x2), some (.int x3), some (.int vz14)]) rfl ?_
      refine LW_goto (tgt := 27) rfl rfl ?_
      exact ih27 _ V hG x1 y1 hx1 (by omega) x2 y2 hx2 (by omega) x3 y3 hx3 (by omega) vz14 vz14.toInt rfl (by omega) (by rw [evz1]; omega)   (by omega)
theorem C_X6_winningCall_all {P : Par} {g0 : LH} {d : Nat}  : ∀ n : Nat, (∀ (g : LH) (V : Inv P g) (hG : Gr g = Gr g0) (x1 : Int32) (y1 : Int) (hx1 : x1.toInt = y1) (hf1 : 0 ≤ y1 ∧ y1 ≤ 7) (x2 : Int32) (y2 : Int) (hx2 : x2.toInt = y2) (hf2 : 1 ≤ y2 ∧ y2 ≤ 67108863) (x3 : Int32) (y3 : Int) (hx3 : x3.toInt = y3) (hf3 : 0 ≤ y3 ∧ y3 ≤ 1023) (x4 : Int32) (y4 : Int) (hx4 : x4.toInt = y4) (hf4 : (-1) ≤ y4 ∧ y4 ≤ 1022) (hc343_4 : 0 ≤ (Gi g 343 4).toInt ∧ (Gi g 343 4).toInt ≤ 10), (y4 - (-1)) * 1 + 0 < (n : Int) → LW 62 (d + 13) 0 0 27 [some (.ref 343), some (.int x1), some (.int x2), some (.int x3), some (.int x4)] [] g (fun v g' => ∃ r : Int32, v = some (.int r) ∧ (-1) ≤ r.toInt ∧ r.toInt ≤ 25 ∧ Inv P g' ∧ Gr g' = Gr g0)) := by
  intro n
  induction n with
  | zero => exact fun g V hG x1 y1 hx1 hf1 x2 y2 hx2 hf2 x3 y3 hx3 hf3 x4 y4 hx4 hf4 hc343_4 hmu => absurd hmu (by omega)
  | succ n ih => exact fun g V hG x1 y1 hx1 hf1 x2 y2 hx2 hf2 x3 y3 hx3 hf3 x4 y4 hx4 hf4 hc343_4 hmu => C_X6_winningCall_27  V hG x1 y1 hx1 hf1 x2 y2 hx2 hf2 x3 y3 hx3 hf3 x4 y4 hx4 hf4 hc343_4 (by omega) ih
set_option maxRecDepth 10000 in
set_option maxHeartbeats 40000000 in
theorem C_X6_winningCall {P : Par} {g : LH} {d : Nat}  (V : Inv P g) (x1 : Int32) (y1 : Int) (hx1 : x1.toInt = y1) (hf1 : 0 ≤ y1 ∧ y1 ≤ 7) (x2 : Int32) (y2 : Int) (hx2 : x2.toInt = y2) (hf2 : 1 ≤ y2 ∧ y2 ≤ 67108863)   : LW 62 (d + 13) 0 0 0 (lEnt (mL 62) [.ref 343, .int x1, .int x2]) [] g (fun v g' => ∃ r : Int32, v = some (.int r) ∧ (-1) ≤ r.toInt ∧ r.toInt ≤ 25 ∧ Inv P g' ∧ Gr g' = Gr g) := by
  refine LW_ls (ls' := [some (.ref 343), some (.int x1), some (.int x2), none, none]) rfl ?_
  have hG : Gr g = Gr g := rfl
  refine X_aload_n rfl rfl rfl rfl ?_
  refine X_iload_n rfl rfl rfl rfl ?_
  refine X_iload_n rfl rfl rfl rfl ?_
  refine Y_callV (as := [.int x1, .int x2]) (st := []) rfl rfl rfl (by decide) rfl (Nat.le_of_ble_eq_true rfl) (by decide) (Nat.le_of_ble_eq_true rfl) rfl ((congrFun V.1 343).trans s_343) (by decide) (C_X6_tryGroup V x1 y1 hx1 (by omega) x2 y2 hx2 (by omega) ) ?_
  rintro _ g ⟨rfl, V, hq⟩
  have hG := hq.trans hG
  refine X_iconst (v := (1 : Int32)) rfl rfl rfl ?_
  refine X_aload_n rfl rfl rfl rfl ?_
  refine S_getI rfl rfl rfl ((congrFun V.1 343).trans s_343) rfl (fun vz2 evz2 => ?_)
  have vf3 := K_18_4 (V.2.2.2.2.1 (343) (4) (Nat.le_of_ble_eq_true rfl)) rk_343
  rw [evz2] at vf3
  refine S_shl1 (n := 10) rfl rfl rfl (by omega) (fun vz4 hvz4 => ?_)
  refine X_iconst (v := (1 : Int32)) rfl rfl rfl ?_
  refine S_isub rfl rfl rfl (show (1 : Int32).toInt = 1 from rfl) (by omega) (fun vz5 hvz5 => ?_)
  refine X_istore_n (i := 3) (ls' := [some (.ref 343), some (.int x1), some (.int x2), some (.int vz5), none]) rfl rfl rfl (Nat.le_of_ble_eq_true rfl) rfl ?_
  refine X_aload_n rfl rfl rfl rfl ?_
  refine X_getR (a := 348) rfl rfl rfl ((congrFun V.1 343).trans s_343) rfl ((congrFun (V.2.1 343 (by decide)) 6).trans r_343_6) ?_
  refine X_iload_n rfl rfl rfl rfl ?_
  refine X_iconst (v := (1 : Int32)) rfl rfl rfl ?_
  refine S_zast (I := Inv _) rfl rfl ((congrFun V.1 348).trans s_348) rfl (by omega) (fun x => (Inv_putI V (Nat.le_of_ble_eq_true rfl) (Or.inl (by decide)) (Q_0 rk_348))) (fun g V vn7 hq => ?_)
  have hG := hq.trans hG
  have evz2 := (vn7 (343) 4 (Or.inl (by decide))).trans evz2
  refine X_iload_n rfl rfl rfl rfl ?_
  refine X_iconst (v := (1 : Int32)) rfl rfl rfl ?_
  refine S_isub rfl rfl rfl (show (1 : Int32).toInt = 1 from rfl) (by omega) (fun vz8 hvz8 => ?_)
  refine X_istore (i := 4) (ls' := [some (.ref 343), some (.int x1), some (.int x2), some (.int vz5), some (.int vz8)]) rfl rfl (Nat.le_of_ble_eq_true rfl) rfl ?_
  exact (C_X6_winningCall_all (((vz8.toInt - (-1)) * 1 + 0) + 1 : Int).toNat) _ V hG x1 y1 hx1 (by omega) x2 y2 hx2 (by omega) vz5 vz5.toInt rfl (by omega) vz8 vz8.toInt rfl (by omega) (by rw [evz2]; omega)   (by omega)
set_option maxRecDepth 10000 in
set_option maxHeartbeats 40000000 in
theorem C_X12_game {P : Par} {g : LH} {d : Nat}  (V : Inv P g) (x1 : Int32) (y1 : Int) (hx1 : x1.toInt = y1) (x2 : Int32) (y2 : Int) (hx2 : x2.toInt = y2) (x3 : Int32) (y3 : Int) (hx3 : x3.toInt = y3) (hf3 : 0 ≤ y3 ∧ y3 ≤ 1)   : LW 155 (d + 19) 0 0 0 (lEnt (mL 155) [.ref 0, .int x1, .int x2, .int x3]) [] g (fun v g' => ∃ r : Int32, v = some (.int r) ∧ (-2) ≤ r.toInt ∧ r.toInt ≤ 25 ∧ Inv P g' ∧ Gr g' = Gr g) := by
  refine LW_ls (ls' := [some (.ref 0), some (.int x1), some (.int x2), some (.int x3), none]) rfl ?_
  have hG : Gr g = Gr g := rfl
  refine X_iload_n rfl rfl rfl rfl ?_
  refine X_callS (as := [.int x2]) (st := []) rfl rfl rfl (by decide) rfl (Nat.le_of_ble_eq_true rfl) (by decide) (Nat.le_of_ble_eq_true rfl) rfl ?_
  refine LW_ls (ls' := [some (.int x2)]) rfl ?_
  refine X_iload_n rfl rfl rfl rfl ?_
  refine S_if_le (tgt := 15) rfl rfl rfl hx2 (fun vh1 => ?_) (fun vh1 => ?_)
  · refine X_iconst (v := (0 : Int32)) rfl rfl rfl ?_
    refine LW_ireturn (st := []) rfl rfl rfl ?_
    refine S_if_eq (tgt := 16) rfl rfl rfl (show (0 : Int32).toInt = 0 from rfl) (fun vh2 => ?_) (fun q => absurd q (by omega))
    refine X_bipush (v := (-2 : Int32)) rfl rfl rfl ?_
    exact LW_ireturn (st := []) rfl rfl rfl ⟨_, rfl, by decide, by decide, V, hG⟩
  · refine X_iload_n rfl rfl rfl rfl ?_
    refine X_ldcw (v := (67108864 : Int32)) rfl rfl rfl ?_
    refine S_icmp_ge (tgt := 15) rfl rfl rfl hx2 (show (67108864 : Int32).toInt = 67108864 from rfl) (fun vh3 => ?_) (fun vh3 => ?_)
    · refine X_iconst (v := (0 : Int32)) rfl rfl rfl ?_
      refine LW_ireturn (st := []) rfl rfl rfl ?_
      refine S_if_eq (tgt := 16) rfl rfl rfl (show (0 : Int32).toInt = 0 from rfl) (fun vh4 => ?_) (fun q => absurd q (by omega))
      refine X_bipush (v := (-2 : Int32)) rfl rfl rfl ?_
      exact LW_ireturn (st := []) rfl rfl rfl ⟨_, rfl, by decide, by decide, V, hG⟩
    · refine X_iconst (v := (1 : Int32)) rfl rfl rfl ?_
      refine LW_goto (tgt := 16) rfl rfl ?_
      refine LW_ireturn (st := []) rfl rfl rfl ?_
      refine S_if_eq (tgt := 16) rfl rfl rfl (show (1 : Int32).toInt = 1 from rfl) (fun q => absurd q (by omega)) (fun vh5 => ?_)
      refine X_iload_n rfl rfl rfl rfl ?_
      refine Y_callS (as := [.int x2]) (st := []) rfl rfl rfl (by decide) rfl (Nat.le_of_ble_eq_true rfl) (by decide) (Nat.le_of_ble_eq_true rfl) rfl (c_bc hx2 26 (by omega) (by decide)) ?_
      rintro _ g' ⟨vr6, rfl, hrvr60, hrvr61, hgg⟩
      subst hgg
      refine X_bipush (v := (10 : Int32)) rfl rfl rfl ?_
      refine S_icmp_le (tgt := 19) rfl rfl rfl rfl (show (10 : Int32).toInt = 10 from rfl) (fun vh7 => ?_) (fun vh7 => ?_)
      · refine X_aload_n rfl rfl rfl rfl ?_
        refine X_getR (a := 1) rfl rfl rfl ((congrFun V.1 0).trans s_0) rfl ((congrFun (V.2.1 0 (by decide)) 0).trans r_0_0) ?_
        refine X_getR (a := 2) rfl rfl rfl ((congrFun V.1 1).trans s_1) rfl ((congrFun (V.2.1 1 (by decide)) 0).trans r_1_0) ?_
        refine X_iload_n rfl rfl rfl rfl ?_
        refine X_iconst (v := (0 : Int32)) rfl rfl rfl ?_
        refine X_callV (as := [.int x1, .int (0 : Int32)]) (st := []) rfl rfl rfl (by decide) rfl (Nat.le_of_ble_eq_true rfl) (by decide) (Nat.le_of_ble_eq_true rfl) rfl ((congrFun V.1 2).trans s_2) (by decide) ?_
        refine LW_ls (ls' := [some (.ref 2), some (.int x1), some (.int (0 : Int32))]) rfl ?_
        refine X_aload_n rfl rfl rfl rfl ?_
        refine X_iload_n rfl rfl rfl rfl ?_
        refine X_callV (as := [.int x1]) (st := []) rfl rfl rfl (by decide) rfl (Nat.le_of_ble_eq_true rfl) (by decide) (Nat.le_of_ble_eq_true rfl) rfl ((congrFun V.1 2).trans s_2) (by decide) ?_
        refine LW_ls (ls' := [some (.ref 2), some (.int x1)]) rfl ?_
        refine X_iload_n rfl rfl rfl rfl ?_
        refine S_if_lt (tgt := 22) rfl rfl rfl hx1 (fun vh8 => ?_) (fun vh8 => ?_)
        · refine X_iconst (v := (0 : Int32)) rfl rfl rfl ?_
          refine LW_ireturn (st := []) rfl rfl rfl ?_
          refine S_if_eq (tgt := 29) rfl rfl rfl (show (0 : Int32).toInt = 0 from rfl) (fun vh9 => ?_) (fun q => absurd q (by omega))
          refine X_iconst (v := (0 : Int32)) rfl rfl rfl ?_
          refine LW_ireturn (st := []) rfl rfl rfl ?_
          refine S_if_ne (tgt := 37) rfl rfl rfl (show (0 : Int32).toInt = 0 from rfl) (fun q => absurd q (by omega)) (fun vh10 => ?_)
          refine X_bipush (v := (-2 : Int32)) rfl rfl rfl ?_
          exact LW_ireturn (st := []) rfl rfl rfl ⟨_, rfl, by decide, by decide, V, hG⟩
        · refine X_iload_n rfl rfl rfl rfl ?_
          refine X_aload_n rfl rfl rfl rfl ?_
          refine S_getI rfl rfl rfl ((congrFun V.1 2).trans s_2) rfl (fun vz11 evz11 => ?_)
          have vf12 := K_10_1 (V.2.2.2.2.1 (2) (1) (Nat.le_of_ble_eq_true rfl)) rk_2
          rw [evz11] at vf12
          refine S_icmp_ge (tgt := 22) rfl rfl rfl hx1 rfl (fun vh13 => ?_) (fun vh13 => ?_)
          · refine X_iconst (v := (0 : Int32)) rfl rfl rfl ?_
            refine LW_ireturn (st := []) rfl rfl rfl ?_
            refine S_if_eq (tgt := 29) rfl rfl rfl (show (0 : Int32).toInt = 0 from rfl) (fun vh14 => ?_) (fun q => absurd q (by omega))
            refine X_iconst (v := (0 : Int32)) rfl rfl rfl ?_
            refine LW_ireturn (st := []) rfl rfl rfl ?_
            refine S_if_ne (tgt := 37) rfl rfl rfl (show (0 : Int32).toInt = 0 from rfl) (fun q => absurd q (by omega)) (fun vh15 => ?_)
            refine X_bipush (v := (-2 : Int32)) rfl rfl rfl ?_
            exact LW_ireturn (st := []) rfl rfl rfl ⟨_, rfl, by decide, by decide, V, hG⟩
          · refine X_iload_n rfl rfl rfl rfl ?_
            refine X_bipush (v := (8 : Int32)) rfl rfl rfl ?_
            refine S_icmp_ge (tgt := 22) rfl rfl rfl hx1 (show (8 : Int32).toInt = 8 from rfl) (fun q => absurd q (by omega)) (fun vh16 => ?_)
            refine X_iconst (v := (1 : Int32)) rfl rfl rfl ?_
            refine LW_goto (tgt := 23) rfl rfl ?_
            refine LW_ireturn (st := []) rfl rfl rfl ?_
            refine S_if_eq (tgt := 29) rfl rfl rfl (show (1 : Int32).toInt = 1 from rfl) (fun q => absurd q (by omega)) (fun vh17 => ?_)
            refine X_aload_n rfl rfl rfl rfl ?_
            refine X_getR (a := 8) rfl rfl rfl ((congrFun V.1 2).trans s_2) rfl ((congrFun (V.2.1 2 (by decide)) 7).trans r_2_7) ?_
            refine X_iload_n rfl rfl rfl rfl ?_
            refine S_iald rfl rfl ((congrFun V.1 8).trans s_8) hx1 (by omega) (fun vz18 evz18 => ?_)
            refine X_aload_n rfl rfl rfl rfl ?_
            refine X_iload_n rfl rfl rfl rfl ?_
            refine Y_callV (as := [.int (0 : Int32)]) (st := [.int vz18]) rfl rfl rfl (by decide) rfl (Nat.le_of_ble_eq_true rfl) (by decide) (Nat.le_of_ble_eq_true rfl) rfl ((congrFun V.1 2).trans s_2) (by decide) (C_X5_sensesLeft V (0 : Int32) 0 (show (0 : Int32).toInt = 0 from rfl) ) ?_
            rintro _ g' ⟨vr19, rfl, hrvr190, hrvr191, hgg⟩
            subst hgg
            refine X_iconst (v := (-1 : Int32)) rfl rfl rfl ?_
            refine S_ixorT rfl rfl (fun vz20 => ?_)
            refine S_iandT rfl rfl (fun vz21 => ?_)
            refine S_if_ne (tgt := 29) rfl rfl rfl rfl (fun vh22 => ?_) (fun vh22 => ?_)
            · refine X_iconst (v := (0 : Int32)) rfl rfl rfl ?_
              refine LW_ireturn (st := []) rfl rfl rfl ?_
              refine S_if_ne (tgt := 37) rfl rfl rfl (show (0 : Int32).toInt = 0 from rfl) (fun q => absurd q (by omega)) (fun vh23 => ?_)
              refine X_bipush (v := (-2 : Int32)) rfl rfl rfl ?_
              exact LW_ireturn (st := []) rfl rfl rfl ⟨_, rfl, by decide, by decide, V, hG⟩
            · refine X_iconst (v := (1 : Int32)) rfl rfl rfl ?_
              refine LW_goto (tgt := 30) rfl rfl ?_
              refine LW_ireturn (st := []) rfl rfl rfl ?_
              refine S_if_ne (tgt := 37) rfl rfl rfl (show (1 : Int32).toInt = 1 from rfl) (fun vh24 => ?_) (fun q => absurd q (by omega))
              refine X_aload_n rfl rfl rfl rfl ?_
              refine X_getR (a := 343) rfl rfl rfl ((congrFun V.1 0).trans s_0) rfl ((congrFun (V.2.1 0 (by decide)) 7).trans r_0_7) ?_
              refine X_iload_n rfl rfl rfl rfl ?_
              refine X_iload_n rfl rfl rfl rfl ?_
              refine Y_callV (as := [.int x1, .int x2]) (st := []) rfl rfl rfl (by decide) rfl (Nat.le_of_ble_eq_true rfl) (by decide) (Nat.le_of_ble_eq_true rfl) rfl ((congrFun V.1 343).trans s_343) (by decide) (C_X6_winningCall V x1 y1 hx1 (by omega) x2 y2 hx2 (by omega) ) ?_
              rintro _ g ⟨vr25, rfl, hrvr250, hrvr251, V, hq⟩
              have hG := hq.trans hG
              refine X_istore (i := 4) (ls' := [some (.ref 0), some (.int x1), some (.int x2), some (.int x3), some (.int vr25)]) rfl rfl (Nat.le_of_ble_eq_true rfl) rfl ?_
              refine X_iload_n rfl rfl rfl rfl ?_
              refine S_if_eq (tgt := 57) rfl rfl rfl hx3 (fun vh26 => ?_) (fun vh26 => ?_)
              · refine X_iload rfl rfl rfl ?_
                refine X_iconst (v := (-1 : Int32)) rfl rfl rfl ?_
                refine S_icmp_ne (tgt := 67) rfl rfl rfl rfl (show (-1 : Int32).toInt = -1 from rfl) (fun vh27 => ?_) (fun vh27 => ?_)
                · refine X_iconst (v := (1 : Int32)) rfl rfl rfl ?_
                  exact LW_ireturn (st := []) rfl rfl rfl ⟨_, rfl, by decide, by decide, V, hG⟩
                · refine X_iconst (v := (0 : Int32)) rfl rfl rfl ?_
                  refine LW_goto (tgt := 68) rfl rfl ?_
                  exact LW_ireturn (st := []) rfl rfl rfl ⟨_, rfl, by decide, by decide, V, hG⟩
              · refine X_iload rfl rfl rfl ?_
                refine LW_goto (tgt := 68) rfl rfl ?_
                have hr := (rfl : vr25.toInt = vr25.toInt)
                exact LW_ireturn (st := []) rfl rfl rfl ⟨_, rfl, by omega, by omega, V, hG⟩
      · refine X_bipush (v := (-2 : Int32)) rfl rfl rfl ?_
        exact LW_ireturn (st := []) rfl rfl rfl ⟨_, rfl, by decide, by decide, V, hG⟩
set_option maxRecDepth 10000 in
set_option maxHeartbeats 40000000 in
theorem C_X7_nothingMistaken_2 {P : Par} {g : LH} {d n : Nat}  (V : Inv P g) (x1 : Int32) (y1 : Int) (hx1 : x1.toInt = y1) (hf1 : 0 ≤ y1 ∧ y1 ≤ 24) (o2 : Option Value)  (hmu : (24 - y1) * 27 + 26 < (n : Int) + 1) (ih2 : ∀ (V : Inv P g) (x1 : Int32) (y1 : Int) (hx1 : x1.toInt = y1) (hf1 : 0 ≤ y1 ∧ y1 ≤ 24) (o2 : Option Value) , (24 - y1) * 27 + 26 < (n : Int) → LW 73 (d + 9) 0 0 2 [some (.ref 349), some (.int x1), o2] [] g (fun v g' => ∃ r : Int32, v = some (.int r) ∧ 0 ≤ r.toInt ∧ r.toInt ≤ 1 ∧ g = g')) (ih18 : ∀ (V : Inv P g) (x1 : Int32) (y1 : Int) (hx1 : x1.toInt = y1) (hf1 : 0 ≤ y1 ∧ y1 ≤ 23) (x2 : Int32) (y2 : Int) (hx2 : x2.toInt = y2) (hf2 : 0 ≤ y2 ∧ y2 ≤ 23) (hc2_0 : 1 ≤ (Gi g 2 0).toInt ∧ (Gi g 2 0).toInt ≤ 24) (hq0 : y1 < (Gi g 2 0).toInt), (24 - y1) * 27 + 0 + (23 - y2) * 1 + 0 < (n : Int) → LW 73 (d + 9) 0 0 18 [some (.ref 349), some (.int x1), some (.int x2)] [] g (fun v g' => ∃ r : Int32, v = some (.int r) ∧ 0 ≤ r.toInt ∧ r.toInt ≤ 1 ∧ g = g')) : LW 73 (d + 9) 0 0 2 [some (.ref 349), some (.int x1), o2] [] g (fun v g' => ∃ r : Int32, v = some (.int r) ∧ 0 ≤ r.toInt ∧ r.toInt ≤ 1 ∧ g = g') := by
  refine X_iload_n rfl rfl rfl rfl ?_
  refine X_aload_n rfl rfl rfl rfl ?_
  refine X_getR (a := 1) rfl rfl rfl ((congrFun V.1 349).trans s_349) rfl ((congrFun (V.2.1 349 (by decide)) 0).trans r_349_0) ?_
  refine X_getR (a := 2) rfl rfl rfl ((congrFun V.1 1).trans s_1) rfl ((congrFun (V.2.1 1 (by decide)) 0).trans r_1_0) ?_
  refine S_getI rfl rfl rfl ((congrFun V.1 2).trans s_2) rfl (fun vz1 evz1 => ?_)
  have vf2 := K_10_0 (V.2.2.2.2.1 (2) (0) (Nat.le_of_ble_eq_true rfl)) rk_2
  rw [evz1] at vf2
  refine S_icmp_ge (tgt := 46) rfl rfl rfl hx1 rfl (fun vh3 => ?_) (fun vh3 => ?_)
  · refine X_iconst (v := (1 : Int32)) rfl rfl rfl ?_
    exact LW_ireturn (st := []) rfl rfl rfl ⟨_, rfl, by decide, by decide, rfl⟩
  · refine X_iconst (v := (0 : Int32)) rfl rfl rfl ?_
    refine X_istore_n (i := 2) (ls' := [some (.ref 349), some (.int x1), some (.int (0 : Int32))]) rfl rfl rfl (Nat.le_of_ble_eq_true rfl) rfl ?_
    exact ih18 V x1 y1 hx1 (by omega) (0 : Int32) 0 (show (0 : Int32).toInt = 0 from rfl) (by omega) (by rw [evz1]; omega) (by rw [evz1]; omega)  (by omega)
set_option maxRecDepth 10000 in
set_option maxHeartbeats 40000000 in
theorem C_X7_nothingMistaken_18 {P : Par} {g : LH} {d n : Nat}  (V : Inv P g) (x1 : Int32) (y1 : Int) (hx1 : x1.toInt = y1) (hf1 : 0 ≤ y1 ∧ y1 ≤ 23) (x2 : Int32) (y2 : Int) (hx2 : x2.toInt = y2) (hf2 : 0 ≤ y2 ∧ y2 ≤ 23) (hc2_0 : 1 ≤ (Gi g 2 0).toInt ∧ (Gi g 2 0).toInt ≤ 24) (hq0 : y1 < (Gi g 2 0).toInt) (hmu : (24 - y1) * 27 + 0 + (23 - y2) * 1 + 0 < (n : Int) + 1) (ih2 : ∀ (V : Inv P g) (x1 : Int32) (y1 : Int) (hx1 : x1.toInt = y1) (hf1 : 0 ≤ y1 ∧ y1 ≤ 24) (o2 : Option Value) , (24 - y1) * 27 + 26 < (n : Int) → LW 73 (d + 9) 0 0 2 [some (.ref 349), some (.int x1), o2] [] g (fun v g' => ∃ r : Int32, v = some (.int r) ∧ 0 ≤ r.toInt ∧ r.toInt ≤ 1 ∧ g = g')) (ih18 : ∀ (V : Inv P g) (x1 : Int32) (y1 : Int) (hx1 : x1.toInt = y1) (hf1 : 0 ≤ y1 ∧ y1 ≤ 23) (x2 : Int32) (y2 : Int) (hx2 : x2.toInt = y2) (hf2 : 0 ≤ y2 ∧ y2 ≤ 23) (hc2_0 : 1 ≤ (Gi g 2 0).toInt ∧ (Gi g 2 0).toInt ≤ 24) (hq0 : y1 < (Gi g 2 0).toInt), (24 - y1) * 27 + 0 + (23 - y2) * 1 + 0 < (n : Int) → LW 73 (d + 9) 0 0 18 [some (.ref 349), some (.int x1), some (.int x2)] [] g (fun v g' => ∃ r : Int32, v = some (.int r) ∧ 0 ≤ r.toInt ∧ r.toInt ≤ 1 ∧ g = g')) : LW 73 (d + 9) 0 0 18 [some (.ref 349), some (.int x1), some (.int x2)] [] g (fun v g' => ∃ r : Int32, v = some (.int r) ∧ 0 ≤ r.toInt ∧ r.toInt ≤ 1 ∧ g = g') := by
  obtain ⟨vz1, evz1⟩ : ∃ z, Gi g 2 0 = z := ⟨_, rfl⟩
  rw [evz1] at hc2_0
  rw [evz1] at hq0
  refine X_iload_n rfl rfl rfl rfl ?_
  refine X_iload_n rfl rfl rfl rfl ?_
  refine S_icmp_ge (tgt := 40) rfl rfl rfl hx2 hx1 (fun vh2 => ?_) (fun vh2 => ?_)
  · refine S_iinc (c := 1) rfl rfl rfl hx1 rfl (by omega) (fun vz3 hvz3 => ?_)
    refine LW_ls (ls' := [some (.ref 349), some (.int vz3), some (.int x2)]) rfl ?_
    refine LW_goto (tgt := 2) rfl rfl ?_
    exact ih2 V vz3 vz3.toInt rfl (by omega) (some (.int x2))    (by omega)
  · refine X_aload_n rfl rfl rfl rfl ?_
    refine X_iload_n rfl rfl rfl rfl ?_
    refine X_iload_n rfl rfl rfl rfl ?_
    refine Y_callV (as := [.int x1, .int x2]) (st := []) rfl rfl rfl (by decide) rfl (Nat.le_of_ble_eq_true rfl) (by decide) (Nat.le_of_ble_eq_true rfl) rfl ((congrFun V.1 349).trans s_349) (by decide) (C_X7_alike V x1 y1 hx1 (by omega) x2 y2 hx2 (by omega) (by rw [evz1]; omega) (by rw [evz1]; omega)) ?_
    rintro _ g' ⟨vr4, rfl, hrvr40, hrvr41, hgg⟩
    subst hgg
    refine S_if_eq (tgt := 34) rfl rfl rfl rfl (fun vh5 => ?_) (fun vh5 => ?_)
    · refine S_iinc (c := 1) rfl rfl rfl hx2 rfl (by omega) (fun vz6 hvz6 => ?_)
      refine LW_ls (ls' := [some (.ref 349), some (.int x1), some (.int vz6)]) rfl ?_
      refine LW_goto (tgt := 18) rfl rfl ?_
      exact ih18 V x1 y1 hx1 (by omega) vz6 vz6.toInt rfl (by omega) (by rw [evz1]; omega) (by rw [evz1]; omega)  (by omega)
    · refine X_iconst (v := (0 : Int32)) rfl rfl rfl ?_
      exact LW_ireturn (st := []) rfl rfl rfl ⟨_, rfl, by decide, by decide, rfl⟩
theorem C_X7_nothingMistaken_all {P : Par} {g : LH} {d : Nat}  : ∀ n : Nat, (∀ (V : Inv P g) (x1 : Int32) (y1 : Int) (hx1 : x1.toInt = y1) (hf1 : 0 ≤ y1 ∧ y1 ≤ 24) (o2 : Option Value) , (24 - y1) * 27 + 26 < (n : Int) → LW 73 (d + 9) 0 0 2 [some (.ref 349), some (.int x1), o2] [] g (fun v g' => ∃ r : Int32, v = some (.int r) ∧ 0 ≤ r.toInt ∧ r.toInt ≤ 1 ∧ g = g')) ∧ (∀ (V : Inv P g) (x1 : Int32) (y1 : Int) (hx1 : x1.toInt = y1) (hf1 : 0 ≤ y1 ∧ y1 ≤ 23) (x2 : Int32) (y2 : Int) (hx2 : x2.toInt = y2) (hf2 : 0 ≤ y2 ∧ y2 ≤ 23) (hc2_0 : 1 ≤ (Gi g 2 0).toInt ∧ (Gi g 2 0).toInt ≤ 24) (hq0 : y1 < (Gi g 2 0).toInt), (24 - y1) * 27 + 0 + (23 - y2) * 1 + 0 < (n : Int) → LW 73 (d + 9) 0 0 18 [some (.ref 349), some (.int x1), some (.int x2)] [] g (fun v g' => ∃ r : Int32, v = some (.int r) ∧ 0 ≤ r.toInt ∧ r.toInt ≤ 1 ∧ g = g')) := by
  intro n
  induction n with
  | zero => exact ⟨fun V x1 y1 hx1 hf1 o2 hmu => absurd hmu (by omega), fun V x1 y1 hx1 hf1 x2 y2 hx2 hf2 hc2_0 hq0 hmu => absurd hmu (by omega)⟩
  | succ n ih => exact ⟨fun V x1 y1 hx1 hf1 o2 hmu => C_X7_nothingMistaken_2  V x1 y1 hx1 hf1 o2 (by omega) ih.1 ih.2, fun V x1 y1 hx1 hf1 x2 y2 hx2 hf2 hc2_0 hq0 hmu => C_X7_nothingMistaken_18  V x1 y1 hx1 hf1 x2 y2 hx2 hf2 hc2_0 hq0 (by omega) ih.1 ih.2⟩
set_option maxRecDepth 10000 in
set_option maxHeartbeats 40000000 in
theorem C_X7_nothingMistaken {P : Par} {g : LH} {d : Nat}  (V : Inv P g)    : LW 73 (d + 9) 0 0 0 (lEnt (mL 73) [.ref 349]) [] g (fun v g' => ∃ r : Int32, v = some (.int r) ∧ 0 ≤ r.toInt ∧ r.toInt ≤ 1 ∧ g = g') := by
  refine LW_ls (ls' := [some (.ref 349), none, none]) rfl ?_
  refine X_iconst (v := (0 : Int32)) rfl rfl rfl ?_
  refine X_istore_n (i := 1) (ls' := [some (.ref 349), some (.int (0 : Int32)), none]) rfl rfl rfl (Nat.le_of_ble_eq_true rfl) rfl ?_
  exact (C_X7_nothingMistaken_all (((24 - 0) * 27 + 26) + 1 : Int).toNat).1 V (0 : Int32) 0 (show (0 : Int32).toInt = 0 from rfl) (by omega) none    (by omega)
set_option maxRecDepth 10000 in
set_option maxHeartbeats 40000000 in
theorem C_X7_putSigns_3 {P : Par} {g g0 : LH} {d n m : Nat} (ihr72 : ∀ (g : LH) (V : Inv P g) (x1 : Int32) (y1 : Int) (hx1 : x1.toInt = y1) (hf1 : 1 ≤ y1 ∧ y1 ≤ 67108863) (x2 : Int32) (y2 : Int) (hx2 : x2.toInt = y2) (hf2 : 0 ≤ y2 ∧ y2 ≤ 26) (x3 : Int32) (y3 : Int) (hx3 : x3.toInt = y3) (hf3 : 0 ≤ y3 ∧ y3 ≤ 6) (x4 : Int32) (y4 : Int) (hx4 : x4.toInt = y4) (hf4 : 1 ≤ y4 ∧ y4 ≤ 6) , 27 - y2 < ((m : Nat) : Int) → LW 72 (d + 1 * m + 13) 0 0 0 (lEnt (mL 72) [.ref 349, .int x1, .int x2, .int x3, .int x4]) [] g (fun v g' => ∃ r : Int32, v = some (.int r) ∧ 0 ≤ r.toInt ∧ r.toInt ≤ 1 ∧ Inv P g' ∧ Gr g' = Gr g)) (V : Inv P g) (hG : Gr g = Gr g0) (x1 : Int32) (y1 : Int) (hx1 : x1.toInt = y1) (hf1 : 1 ≤ y1 ∧ y1 ≤ 67108863) (x2 : Int32) (y2 : Int) (hx2 : x2.toInt = y2) (hf2 : 0 ≤ y2 ∧ y2 ≤ 26) (x3 : Int32) (y3 : Int) (hx3 : x3.toInt = y3) (hf3 : 0 ≤ y3 ∧ y3 ≤ 6) (x4 : Int32) (y4 : Int) (hx4 : x4.toInt = y4) (hf4 : 1 ≤ y4 ∧ y4 ≤ 6) (x5 : Int32) (y5 : Int) (hx5 : x5.toInt = y5) (hf5 : 0 ≤ y5 ∧ y5 ≤ 26) (o6 : Option Value) (hq0 : y2 ≤ y5) (hlev : 27 - y2 < (((m + 1) : Nat) : Int)) (hmu : (26 - y5) * 1 + 8 < (n : Int) + 1) (ih3 : ∀ (g : LH) (V : Inv P g) (hG : Gr g = Gr g0) (x1 : Int32) (y1 : Int) (hx1 : x1.toInt = y1) (hf1 : 1 ≤ y1 ∧ y1 ≤ 67108863) (x2 : Int32) (y2 : Int) (hx2 : x2.toInt = y2) (hf2 : 0 ≤ y2 ∧ y2 ≤ 26) (x3 : Int32) (y3 : Int) (hx3 : x3.toInt = y3) (hf3 : 0 ≤ y3 ∧ y3 ≤ 6) (x4 : Int32) (y4 : Int) (hx4 : x4.toInt = y4) (hf4 : 1 ≤ y4 ∧ y4 ≤ 6) (x5 : Int32) (y5 : Int) (hx5 : x5.toInt = y5) (hf5 : 0 ≤ y5 ∧ y5 ≤ 26) (o6 : Option Value) (hq0 : y2 ≤ y5) (hlev : 27 - y2 < (((m + 1) : Nat) : Int)), (26 - y5) * 1 + 8 < (n : Int) → LW 72 (d + 1 * (m + 1) + 13) 0 0 3 [some (.ref 349), some (.int x1), some (.int x2), some (.int x3), some (.int x4), some (.int x5), o6] [] g (fun v g' => ∃ r : Int32, v = some (.int r) ∧ 0 ≤ r.toInt ∧ r.toInt ≤ 1 ∧ Inv P g' ∧ Gr g' = Gr g0)) (ih40 : ∀ (g : LH) (V : Inv P g) (hG : Gr g = Gr g0) (x1 : Int32) (y1 : Int) (hx1 : x1.toInt = y1) (hf1 : 1 ≤ y1 ∧ y1 ≤ 67108863) (x2 : Int32) (y2 : Int) (hx2 : x2.toInt = y2) (hf2 : 0 ≤ y2 ∧ y2 ≤ 26) (x3 : Int32) (y3 : Int) (hx3 : x3.toInt = y3) (hf3 : 0 ≤ y3 ∧ y3 ≤ 6) (x4 : Int32) (y4 : Int) (hx4 : x4.toInt = y4) (hf4 : 1 ≤ y4 ∧ y4 ≤ 6) (x5 : Int32) (y5 : Int) (hx5 : x5.toInt = y5) (hf5 : 0 ≤ y5 ∧ y5 ≤ 25) (x6 : Int32) (y6 : Int) (hx6 : x6.toInt = y6) (hf6 : 0 ≤ y6 ∧ y6 ≤ 6) (hq0 : y2 ≤ y5) (hlev : 27 - y2 < (((m + 1) : Nat) : Int)), (6 - y6) * 1 + 0 < (n : Int) → LW 72 (d + 1 * (m + 1) + 13) 0 0 40 [some (.ref 349), some (.int x1), some (.int x2), some (.int x3), some (.int x4), some (.int x5), some (.int x6)] [] g (fun v g' => ∃ r : Int32, v = some (.int r) ∧ 0 ≤ r.toInt ∧ r.toInt ≤ 1 ∧ Inv P g' ∧ Gr g' = Gr g0)) : LW 72 (d + 1 * (m + 1) + 13) 0 0 3 [some (.ref 349), some (.int x1), some (.int x2), some (.int x3), some (.int x4), some (.int x5), o6] [] g (fun v g' => ∃ r : Int32, v = some (.int r) ∧ 0 ≤ r.toInt ∧ r.toInt ≤ 1 ∧ Inv P g' ∧ Gr g' = Gr g0) := by
  refine X_iload rfl rfl rfl ?_
  refine X_bipush (v := (26 : Int32)) rfl rfl rfl ?_
  refine S_icmp_ge (tgt := 25) rfl rfl rfl hx5 (show (26 : Int32).toInt = 26 from rfl) (fun vh1 => ?_) (fun vh1 => ?_)
  · refine X_iload rfl rfl rfl ?_
    refine X_bipush (v := (26 : Int32)) rfl rfl rfl ?_
    refine S_icmp_lt (tgt := 37) rfl rfl rfl hx5 (show (26 : Int32).toInt = 26 from rfl) (fun q => absurd q (by omega)) (fun vh2 => ?_)
    refine X_aload_n rfl rfl rfl rfl ?_
    refine Y_callV (as := []) (st := []) rfl rfl rfl (by decide) rfl (Nat.le_of_ble_eq_true rfl) (by decide) (Nat.le_of_ble_eq_true rfl) rfl ((congrFun V.1 349).trans s_349) (by decide) (C_X7_nothingMistaken V  ) ?_
    rintro _ g' ⟨vr3, rfl, hrvr30, hrvr31, hgg⟩
    subst hgg
    have hr := (rfl : vr3.toInt = vr3.toInt)
    exact LW_ireturn (st := []) rfl rfl (nbool rfl (by omega)) ⟨_, rfl, by omega, by omega, V, hG⟩
  · refine X_iload_n rfl rfl rfl rfl ?_
    refine X_iload rfl rfl rfl ?_
    refine S_ishrT rfl rfl (fun vz4 => ?_)
    refine X_iconst (v := (1 : Int32)) rfl rfl rfl ?_
    refine S_iandR (k := 1) rfl rfl rfl (fun vz5 hvz5 => ?_)
    refine S_if_ne (tgt := 25) rfl rfl rfl rfl (fun vh6 => ?_) (fun vh6 => ?_)
    · refine X_iload rfl rfl rfl ?_
      refine X_bipush (v := (26 : Int32)) rfl rfl rfl ?_
      refine S_icmp_lt (tgt := 37) rfl rfl rfl hx5 (show (26 : Int32).toInt = 26 from rfl) (fun vh7 => ?_) (fun q => absurd q (by omega))
      refine X_iconst (v := (0 : Int32)) rfl rfl rfl ?_
      refine X_istore (i := 6) (ls' := [some (.ref 349), some (.int x1), some (.int x2), some (.int x3), some (.int x4), some (.int x5), some (.int (0 : Int32))]) rfl rfl (Nat.le_of_ble_eq_true rfl) rfl ?_
      exact ih40 _ V hG x1 y1 hx1 (by omega) x2 y2 hx2 (by omega) x3 y3 hx3 (by omega) x4 y4 hx4 (by omega) x5 y5 hx5 (by omega) (0 : Int32) 0 (show (0 : Int32).toInt = 0 from rfl) (by omega)  (by omega) (by omega) (by omega)
    · refine S_iinc (c := 1) rfl rfl rfl hx5 rfl (by omega) (fun vz8 hvz8 => ?_)
      refine LW_ls (ls' := [some (.ref 349), some (.int x1), some (.int x2), some (.int x3), some (.int x4), some (.int vz8), o6]) rfl ?_
      refine LW_goto (tgt := 3) rfl rfl ?_
      exact ih3 _ V hG x1 y1 hx1 (by omega) x2 y2 hx2 (by omega) x3 y3 hx3 (by omega) x4 y4 hx4 (by omega) vz8 vz8.toInt rfl (by omega) o6  (by omega) (by omega) (by omega)
set_option maxRecDepth 10000 in
set_option maxHeartbeats 40000000 in
theorem C_X7_putSigns_40 {P : Par} {g g0 : LH} {d n m : Nat} (ihr72 : ∀ (g : LH) (V : Inv P g) (x1 : Int32) (y1 : Int) (hx1 : x1.toInt = y1) (hf1 : 1 ≤ y1 ∧ y1 ≤ 67108863) (x2 : Int32) (y2 : Int) (hx2 : x2.toInt = y2) (hf2 : 0 ≤ y2 ∧ y2 ≤ 26) (x3 : Int32) (y3 : Int) (hx3 : x3.toInt = y3) (hf3 : 0 ≤ y3 ∧ y3 ≤ 6) (x4 : Int32) (y4 : Int) (hx4 : x4.toInt = y4) (hf4 : 1 ≤ y4 ∧ y4 ≤ 6) , 27 - y2 < ((m : Nat) : Int) → LW 72 (d + 1 * m + 13) 0 0 0 (lEnt (mL 72) [.ref 349, .int x1, .int x2, .int x3, .int x4]) [] g (fun v g' => ∃ r : Int32, v = some (.int r) ∧ 0 ≤ r.toInt ∧ r.toInt ≤ 1 ∧ Inv P g' ∧ Gr g' = Gr g)) (V : Inv P g) (hG : Gr g = Gr g0) (x1 : Int32) (y1 : Int) (hx1 : x1.toInt = y1) (hf1 : 1 ≤ y1 ∧ y1 ≤ 67108863) (x2 : Int32) (y2 : Int) (hx2 : x2.toInt = y2) (hf2 : 0 ≤ y2 ∧ y2 ≤ 26) (x3 : Int32) (y3 : Int) (hx3 : x3.toInt = y3) (hf3 : 0 ≤ y3 ∧ y3 ≤ 6) (x4 : Int32) (y4 : Int) (hx4 : x4.toInt = y4) (hf4 : 1 ≤ y4 ∧ y4 ≤ 6) (x5 : Int32) (y5 : Int) (hx5 : x5.toInt = y5) (hf5 : 0 ≤ y5 ∧ y5 ≤ 25) (x6 : Int32) (y6 : Int) (hx6 : x6.toInt = y6) (hf6 : 0 ≤ y6 ∧ y6 ≤ 6) (hq0 : y2 ≤ y5) (hlev : 27 - y2 < (((m + 1) : Nat) : Int)) (hmu : (6 - y6) * 1 + 0 < (n : Int) + 1) (ih3 : ∀ (g : LH) (V : Inv P g) (hG : Gr g = Gr g0) (x1 : Int32) (y1 : Int) (hx1 : x1.toInt = y1) (hf1 : 1 ≤ y1 ∧ y1 ≤ 67108863) (x2 : Int32) (y2 : Int) (hx2 : x2.toInt = y2) (hf2 : 0 ≤ y2 ∧ y2 ≤ 26) (x3 : Int32) (y3 : Int) (hx3 : x3.toInt = y3) (hf3 : 0 ≤ y3 ∧ y3 ≤ 6) (x4 : Int32) (y4 : Int) (hx4 : x4.toInt = y4) (hf4 : 1 ≤ y4 ∧ y4 ≤ 6) (x5 : Int32) (y5 : Int) (hx5 : x5.toInt = y5) (hf5 : 0 ≤ y5 ∧ y5 ≤ 26) (o6 : Option Value) (hq0 : y2 ≤ y5) (hlev : 27 - y2 < (((m + 1) : Nat) : Int)), (26 - y5) * 1 + 8 < (n : Int) → LW 72 (d + 1 * (m + 1) + 13) 0 0 3 [some (.ref 349), some (.int x1), some (.int x2), some (.int x3), some (.int x4), some (.int x5), o6] [] g (fun v g' => ∃ r : Int32, v = some (.int r) ∧ 0 ≤ r.toInt ∧ r.toInt ≤ 1 ∧ Inv P g' ∧ Gr g' = Gr g0)) (ih40 : ∀ (g : LH) (V : Inv P g) (hG : Gr g = Gr g0) (x1 : Int32) (y1 : Int) (hx1 : x1.toInt = y1) (hf1 : 1 ≤ y1 ∧ y1 ≤ 67108863) (x2 : Int32) (y2 : Int) (hx2 : x2.toInt = y2) (hf2 : 0 ≤ y2 ∧ y2 ≤ 26) (x3 : Int32) (y3 : Int) (hx3 : x3.toInt = y3) (hf3 : 0 ≤ y3 ∧ y3 ≤ 6) (x4 : Int32) (y4 : Int) (hx4 : x4.toInt = y4) (hf4 : 1 ≤ y4 ∧ y4 ≤ 6) (x5 : Int32) (y5 : Int) (hx5 : x5.toInt = y5) (hf5 : 0 ≤ y5 ∧ y5 ≤ 25) (x6 : Int32) (y6 : Int) (hx6 : x6.toInt = y6) (hf6 : 0 ≤ y6 ∧ y6 ≤ 6) (hq0 : y2 ≤ y5) (hlev : 27 - y2 < (((m + 1) : Nat) : Int)), (6 - y6) * 1 + 0 < (n : Int) → LW 72 (d + 1 * (m + 1) + 13) 0 0 40 [some (.ref 349), some (.int x1), some (.int x2), some (.int x3), some (.int x4), some (.int x5), some (.int x6)] [] g (fun v g' => ∃ r : Int32, v = some (.int r) ∧ 0 ≤ r.toInt ∧ r.toInt ≤ 1 ∧ Inv P g' ∧ Gr g' = Gr g0)) : LW 72 (d + 1 * (m + 1) + 13) 0 0 40 [some (.ref 349), some (.int x1), some (.int x2), some (.int x3), some (.int x4), some (.int x5), some (.int x6)] [] g (fun v g' => ∃ r : Int32, v = some (.int r) ∧ 0 ≤ r.toInt ∧ r.toInt ≤ 1 ∧ Inv P g' ∧ Gr g' = Gr g0) := by
  refine X_iload rfl rfl rfl ?_
  refine X_iload_n rfl rfl rfl rfl ?_
  refine S_icmp_gt (tgt := 92) rfl rfl rfl hx6 hx3 (fun vh1 => ?_) (fun vh1 => ?_)
  · refine X_iconst (v := (0 : Int32)) rfl rfl rfl ?_
    exact LW_ireturn (st := []) rfl rfl rfl ⟨_, rfl, by decide, by decide, V, hG⟩
  · refine X_iload rfl rfl rfl ?_
    refine X_iload rfl rfl rfl ?_
    refine S_icmp_ge (tgt := 92) rfl rfl rfl hx6 hx4 (fun vh2 => ?_) (fun vh2 => ?_)
    · refine X_iconst (v := (0 : Int32)) rfl rfl rfl ?_
      exact LW_ireturn (st := []) rfl rfl rfl ⟨_, rfl, by decide, by decide, V, hG⟩
    · refine X_aload_n rfl rfl rfl rfl ?_
      refine X_getR (a := 350) rfl rfl rfl ((congrFun V.1 349).trans s_349) rfl ((congrFun (V.2.1 349 (by decide)) 1).trans r_349_1) ?_
      refine X_iload rfl rfl rfl ?_
      refine X_iload rfl rfl rfl ?_
      refine S_iast (I := Inv _) rfl rfl ((congrFun V.1 350).trans s_350) hx5 (by omega) (Inv_putI V (Nat.le_of_ble_eq_true rfl) (Or.inl (by decide)) (Q_0 rk_350)) (fun g V ve3 vn4 hq => ?_)
      have hG := hq.trans hG
      refine X_aload_n rfl rfl rfl rfl ?_
      refine X_iload_n rfl rfl rfl rfl ?_
      refine X_iload rfl rfl rfl ?_
      refine X_iconst (v := (1 : Int32)) rfl rfl rfl ?_
      refine S_iadd rfl rfl hx5 (show (1 : Int32).toInt = 1 from rfl) (by omega) (fun vz5 hvz5 => ?_)
      refine X_iload_n rfl rfl rfl rfl ?_
      refine X_iload rfl rfl rfl ?_
      refine X_iconst (v := (1 : Int32)) rfl rfl rfl ?_
      refine S_iadd rfl rfl hx6 (show (1 : Int32).toInt = 1 from rfl) (by omega) (fun vz6 hvz6 => ?_)
      refine S_max rfl rfl rfl (Nat.le_of_ble_eq_true rfl) hx3 rfl (fun vz7 hvz7 => ?_)
      refine X_iload rfl rfl rfl ?_
      refine Y_callV (as := [.int x1, .int vz5, .int vz7, .int x4]) (st := []) rfl rfl rfl (by decide) rfl (Nat.le_of_ble_eq_true rfl) (by decide) (Nat.le_of_ble_eq_true rfl) rfl ((congrFun V.1 349).trans s_349) (by decide) (LW_room (Nat.le_refl _) (Nat.le_refl _) (by omega) (ihr72 _ V x1 y1 hx1 (by omega) vz5 vz5.toInt rfl (by omega) vz7 vz7.toInt rfl (by omega) x4 y4 hx4 (by omega)  (by omega))) ?_
      rintro _ g ⟨vr8, rfl, hrvr80, hrvr81, V, hq⟩
      have hG := hq.trans hG
      refine S_if_eq (tgt := 86) rfl rfl rfl rfl (fun vh9 => ?_) (fun vh9 => ?_)
      · refine S_iinc (c := 1) rfl rfl rfl hx6 rfl (by omega) (fun vz10 hvz10 => ?_)
        refine LW_ls (ls' := [some (.ref 349), some (.int x1), some (.int x2), some (.int x3), some (.int x4), some (.int x5), some (.int vz10)]) rfl ?_
        refine LW_goto (tgt := 40) rfl rfl ?_
        exact ih40 _ V hG x1 y1 hx1 (by omega) x2 y2 hx2 (by omega) x3 y3 hx3 (by omega) x4 y4 hx4 (by omega) x5 y5 hx5 (by omega) vz10 vz10.toInt rfl (by omega)  (by omega) (by omega) (by omega)
      · refine X_iconst (v := (1 : Int32)) rfl rfl rfl ?_
        exact LW_ireturn (st := []) rfl rfl rfl ⟨_, rfl, by decide, by decide, V, hG⟩
theorem C_X7_putSigns_all {P : Par} {g0 : LH} {d m : Nat} (ihr72 : ∀ (g : LH) (V : Inv P g) (x1 : Int32) (y1 : Int) (hx1 : x1.toInt = y1) (hf1 : 1 ≤ y1 ∧ y1 ≤ 67108863) (x2 : Int32) (y2 : Int) (hx2 : x2.toInt = y2) (hf2 : 0 ≤ y2 ∧ y2 ≤ 26) (x3 : Int32) (y3 : Int) (hx3 : x3.toInt = y3) (hf3 : 0 ≤ y3 ∧ y3 ≤ 6) (x4 : Int32) (y4 : Int) (hx4 : x4.toInt = y4) (hf4 : 1 ≤ y4 ∧ y4 ≤ 6) , 27 - y2 < ((m : Nat) : Int) → LW 72 (d + 1 * m + 13) 0 0 0 (lEnt (mL 72) [.ref 349, .int x1, .int x2, .int x3, .int x4]) [] g (fun v g' => ∃ r : Int32, v = some (.int r) ∧ 0 ≤ r.toInt ∧ r.toInt ≤ 1 ∧ Inv P g' ∧ Gr g' = Gr g)) : ∀ n : Nat, (∀ (g : LH) (V : Inv P g) (hG : Gr g = Gr g0) (x1 : Int32) (y1 : Int) (hx1 : x1.toInt = y1) (hf1 : 1 ≤ y1 ∧ y1 ≤ 67108863) (x2 : Int32) (y2 : Int) (hx2 : x2.toInt = y2) (hf2 : 0 ≤ y2 ∧ y2 ≤ 26) (x3 : Int32) (y3 : Int) (hx3 : x3.toInt = y3) (hf3 : 0 ≤ y3 ∧ y3 ≤ 6) (x4 : Int32) (y4 : Int) (hx4 : x4.toInt = y4) (hf4 : 1 ≤ y4 ∧ y4 ≤ 6) (x5 : Int32) (y5 : Int) (hx5 : x5.toInt = y5) (hf5 : 0 ≤ y5 ∧ y5 ≤ 26) (o6 : Option Value) (hq0 : y2 ≤ y5) (hlev : 27 - y2 < (((m + 1) : Nat) : Int)), (26 - y5) * 1 + 8 < (n : Int) → LW 72 (d + 1 * (m + 1) + 13) 0 0 3 [some (.ref 349), some (.int x1), some (.int x2), some (.int x3), some (.int x4), some (.int x5), o6] [] g (fun v g' => ∃ r : Int32, v = some (.int r) ∧ 0 ≤ r.toInt ∧ r.toInt ≤ 1 ∧ Inv P g' ∧ Gr g' = Gr g0)) ∧ (∀ (g : LH) (V : Inv P g) (hG : Gr g = Gr g0) (x1 : Int32) (y1 : Int) (hx1 : x1.toInt = y1) (hf1 : 1 ≤ y1 ∧ y1 ≤ 67108863) (x2 : Int32) (y2 : Int) (hx2 : x2.toInt = y2) (hf2 : 0 ≤ y2 ∧ y2 ≤ 26) (x3 : Int32) (y3 : Int) (hx3 : x3.toInt = y3) (hf3 : 0 ≤ y3 ∧ y3 ≤ 6) (x4 : Int32) (y4 : Int) (hx4 : x4.toInt = y4) (hf4 : 1 ≤ y4 ∧ y4 ≤ 6) (x5 : Int32) (y5 : Int) (hx5 : x5.toInt = y5) (hf5 : 0 ≤ y5 ∧ y5 ≤ 25) (x6 : Int32) (y6 : Int) (hx6 : x6.toInt = y6) (hf6 : 0 ≤ y6 ∧ y6 ≤ 6) (hq0 : y2 ≤ y5) (hlev : 27 - y2 < (((m + 1) : Nat) : Int)), (6 - y6) * 1 + 0 < (n : Int) → LW 72 (d + 1 * (m + 1) + 13) 0 0 40 [some (.ref 349), some (.int x1), some (.int x2), some (.int x3), some (.int x4), some (.int x5), some (.int x6)] [] g (fun v g' => ∃ r : Int32, v = some (.int r) ∧ 0 ≤ r.toInt ∧ r.toInt ≤ 1 ∧ Inv P g' ∧ Gr g' = Gr g0)) := by
  intro n
  induction n with
  | zero => exact ⟨fun g V hG x1 y1 hx1 hf1 x2 y2 hx2 hf2 x3 y3 hx3 hf3 x4 y4 hx4 hf4 x5 y5 hx5 hf5 o6 hq0 hlev hmu => absurd hmu (by omega), fun g V hG x1 y1 hx1 hf1 x2 y2 hx2 hf2 x3 y3 hx3 hf3 x4 y4 hx4 hf4 x5 y5 hx5 hf5 x6 y6 hx6 hf6 hq0 hlev hmu => absurd hmu (by omega)⟩
  | succ n ih => exact ⟨fun g V hG x1 y1 hx1 hf1 x2 y2 hx2 hf2 x3 y3 hx3 hf3 x4 y4 hx4 hf4 x5 y5 hx5 hf5 o6 hq0 hlev hmu => C_X7_putSigns_3 ihr72 V hG x1 y1 hx1 hf1 x2 y2 hx2 hf2 x3 y3 hx3 hf3 x4 y4 hx4 hf4 x5 y5 hx5 hf5 o6 hq0 hlev (by omega) ih.1 ih.2, fun g V hG x1 y1 hx1 hf1 x2 y2 hx2 hf2 x3 y3 hx3 hf3 x4 y4 hx4 hf4 x5 y5 hx5 hf5 x6 y6 hx6 hf6 hq0 hlev hmu => C_X7_putSigns_40 ihr72 V hG x1 y1 hx1 hf1 x2 y2 hx2 hf2 x3 y3 hx3 hf3 x4 y4 hx4 hf4 x5 y5 hx5 hf5 x6 y6 hx6 hf6 hq0 hlev (by omega) ih.1 ih.2⟩
set_option maxRecDepth 10000 in
set_option maxHeartbeats 40000000 in
theorem C_X7_putSigns_s {P : Par} {g : LH} {d m : Nat} (ihr72 : ∀ (g : LH) (V : Inv P g) (x1 : Int32) (y1 : Int) (hx1 : x1.toInt = y1) (hf1 : 1 ≤ y1 ∧ y1 ≤ 67108863) (x2 : Int32) (y2 : Int) (hx2 : x2.toInt = y2) (hf2 : 0 ≤ y2 ∧ y2 ≤ 26) (x3 : Int32) (y3 : Int) (hx3 : x3.toInt = y3) (hf3 : 0 ≤ y3 ∧ y3 ≤ 6) (x4 : Int32) (y4 : Int) (hx4 : x4.toInt = y4) (hf4 : 1 ≤ y4 ∧ y4 ≤ 6) , 27 - y2 < ((m : Nat) : Int) → LW 72 (d + 1 * m + 13) 0 0 0 (lEnt (mL 72) [.ref 349, .int x1, .int x2, .int x3, .int x4]) [] g (fun v g' => ∃ r : Int32, v = some (.int r) ∧ 0 ≤ r.toInt ∧ r.toInt ≤ 1 ∧ Inv P g' ∧ Gr g' = Gr g)) (V : Inv P g) (x1 : Int32) (y1 : Int) (hx1 : x1.toInt = y1) (hf1 : 1 ≤ y1 ∧ y1 ≤ 67108863) (x2 : Int32) (y2 : Int) (hx2 : x2.toInt = y2) (hf2 : 0 ≤ y2 ∧ y2 ≤ 26) (x3 : Int32) (y3 : Int) (hx3 : x3.toInt = y3) (hf3 : 0 ≤ y3 ∧ y3 ≤ 6) (x4 : Int32) (y4 : Int) (hx4 : x4.toInt = y4) (hf4 : 1 ≤ y4 ∧ y4 ≤ 6)  (hlev : 27 - y2 < (((m + 1) : Nat) : Int)) : LW 72 (d + 1 * (m + 1) + 13) 0 0 0 (lEnt (mL 72) [.ref 349, .int x1, .int x2, .int x3, .int x4]) [] g (fun v g' => ∃ r : Int32, v = some (.int r) ∧ 0 ≤ r.toInt ∧ r.toInt ≤ 1 ∧ Inv P g' ∧ Gr g' = Gr g) := by
  refine LW_ls (ls' := [some (.ref 349), some (.int x1), some (.int x2), some (.int x3), some (.int x4), none, none]) rfl ?_
  have hG : Gr g = Gr g := rfl
  refine X_iload_n rfl rfl rfl rfl ?_
  refine X_istore (i := 5) (ls' := [some (.ref 349), some (.int x1), some (.int x2), some (.int x3), some (.int x4), some (.int x2), none]) rfl rfl (Nat.le_of_ble_eq_true rfl) rfl ?_
  exact (C_X7_putSigns_all ihr72 (((26 - y2) * 1 + 8) + 1 : Int).toNat).1 _ V hG x1 y1 hx1 (by omega) x2 y2 hx2 (by omega) x3 y3 hx3 (by omega) x4 y4 hx4 (by omega) x2 y2 hx2 (by omega) none  (by omega) (by omega) (by omega)
theorem C_X7_putSigns_r {P : Par} {d : Nat} : ∀ (m : Nat) (g : LH) (V : Inv P g) (x1 : Int32) (y1 : Int) (hx1 : x1.toInt = y1) (hf1 : 1 ≤ y1 ∧ y1 ≤ 67108863) (x2 : Int32) (y2 : Int) (hx2 : x2.toInt = y2) (hf2 : 0 ≤ y2 ∧ y2 ≤ 26) (x3 : Int32) (y3 : Int) (hx3 : x3.toInt = y3) (hf3 : 0 ≤ y3 ∧ y3 ≤ 6) (x4 : Int32) (y4 : Int) (hx4 : x4.toInt = y4) (hf4 : 1 ≤ y4 ∧ y4 ≤ 6) , 27 - y2 < ((m : Nat) : Int) → LW 72 (d + 1 * m + 13) 0 0 0 (lEnt (mL 72) [.ref 349, .int x1, .int x2, .int x3, .int x4]) [] g (fun v g' => ∃ r : Int32, v = some (.int r) ∧ 0 ≤ r.toInt ∧ r.toInt ≤ 1 ∧ Inv P g' ∧ Gr g' = Gr g) := by
  intro m
  induction m with
  | zero => intro g V x1 y1 hx1 hf1 x2 y2 hx2 hf2 x3 y3 hx3 hf3 x4 y4 hx4 hf4 hlev; exact absurd hlev (by omega)
  | succ m ih => intro g V x1 y1 hx1 hf1 x2 y2 hx2 hf2 x3 y3 hx3 hf3 x4 y4 hx4 hf4 hlev; exact C_X7_putSigns_s ih V x1 y1 hx1 hf1 x2 y2 hx2 hf2 x3 y3 hx3 hf3 x4 y4 hx4 hf4 (by omega)
theorem C_X7_putSigns {P : Par} {g : LH} {d : Nat} (V : Inv P g) (x1 : Int32) (y1 : Int) (hx1 : x1.toInt = y1) (hf1 : 1 ≤ y1 ∧ y1 ≤ 67108863) (x2 : Int32) (y2 : Int) (hx2 : x2.toInt = y2) (hf2 : 0 ≤ y2 ∧ y2 ≤ 26) (x3 : Int32) (y3 : Int) (hx3 : x3.toInt = y3) (hf3 : 0 ≤ y3 ∧ y3 ≤ 6) (x4 : Int32) (y4 : Int) (hx4 : x4.toInt = y4) (hf4 : 1 ≤ y4 ∧ y4 ≤ 6)  : LW 72 (d + 41) 0 0 0 (lEnt (mL 72) [.ref 349, .int x1, .int x2, .int x3, .int x4]) [] g (fun v g' => ∃ r : Int32, v = some (.int r) ∧ 0 ≤ r.toInt ∧ r.toInt ≤ 1 ∧ Inv P g' ∧ Gr g' = Gr g) :=
  LW_room (Nat.le_refl _) (Nat.le_refl _) (by omega) (C_X7_putSigns_r (d := d) 28 _ V x1 y1 hx1 hf1 x2 y2 hx2 hf2 x3 y3 hx3 hf3 x4 y4 hx4 hf4 (by omega))
set_option maxRecDepth 10000 in
set_option maxHeartbeats 40000000 in
theorem C_X7_fewestSigns_2 {P : Par} {g g0 : LH} {d n : Nat}  (V : Inv P g) (hG : Gr g = Gr g0) (x1 : Int32) (y1 : Int) (hx1 : x1.toInt = y1) (hf1 : 1 ≤ y1 ∧ y1 ≤ 67108863) (x2 : Int32) (y2 : Int) (hx2 : x2.toInt = y2) (hf2 : 0 ≤ y2 ∧ y2 ≤ 26)  (hmu : (26 - y2) * 1 + 8 < (n : Int) + 1) (ih2 : ∀ (g : LH) (V : Inv P g) (hG : Gr g = Gr g0) (x1 : Int32) (y1 : Int) (hx1 : x1.toInt = y1) (hf1 : 1 ≤ y1 ∧ y1 ≤ 67108863) (x2 : Int32) (y2 : Int) (hx2 : x2.toInt = y2) (hf2 : 0 ≤ y2 ∧ y2 ≤ 26) , (26 - y2) * 1 + 8 < (n : Int) → LW 71 (d + 45) 0 0 2 [some (.ref 349), some (.int x1), some (.int x2)] [] g (fun v g' => ∃ r : Int32, v = some (.int r) ∧ (-1) ≤ r.toInt ∧ r.toInt ≤ 6 ∧ Inv P g' ∧ Gr g' = Gr g0)) (ih26 : ∀ (g : LH) (V : Inv P g) (hG : Gr g = Gr g0) (x1 : Int32) (y1 : Int) (hx1 : x1.toInt = y1) (hf1 : 1 ≤ y1 ∧ y1 ≤ 67108863) (x2 : Int32) (y2 : Int) (hx2 : x2.toInt = y2) (hf2 : 1 ≤ y2 ∧ y2 ≤ 7) , (7 - y2) * 1 + 0 < (n : Int) → LW 71 (d + 45) 0 0 26 [some (.ref 349), some (.int x1), some (.int x2)] [] g (fun v g' => ∃ r : Int32, v = some (.int r) ∧ (-1) ≤ r.toInt ∧ r.toInt ≤ 6 ∧ Inv P g' ∧ Gr g' = Gr g0)) : LW 71 (d + 45) 0 0 2 [some (.ref 349), some (.int x1), some (.int x2)] [] g (fun v g' => ∃ r : Int32, v = some (.int r) ∧ (-1) ≤ r.toInt ∧ r.toInt ≤ 6 ∧ Inv P g' ∧ Gr g' = Gr g0) := by
  refine X_iload_n rfl rfl rfl rfl ?_
  refine X_bipush (v := (26 : Int32)) rfl rfl rfl ?_
  refine S_icmp_ge (tgt := 24) rfl rfl rfl hx2 (show (26 : Int32).toInt = 26 from rfl) (fun vh1 => ?_) (fun vh1 => ?_)
  · refine X_iconst (v := (1 : Int32)) rfl rfl rfl ?_
    refine X_istore_n (i := 2) (ls' := [some (.ref 349), some (.int x1), some (.int (1 : Int32))]) rfl rfl rfl (Nat.le_of_ble_eq_true rfl) rfl ?_
    exact ih26 _ V hG x1 y1 hx1 (by omega) (1 : Int32) 1 (show (1 : Int32).toInt = 1 from rfl) (by omega)    (by omega)
  · refine X_aload_n rfl rfl rfl rfl ?_
    refine X_getR (a := 350) rfl rfl rfl ((congrFun V.1 349).trans s_349) rfl ((congrFun (V.2.1 349 (by decide)) 1).trans r_349_1) ?_
    refine X_iload_n rfl rfl rfl rfl ?_
    refine X_iload_n rfl rfl rfl rfl ?_
    refine X_bipush (v := (10 : Int32)) rfl rfl rfl ?_
    refine S_iadd rfl rfl hx2 (show (10 : Int32).toInt = 10 from rfl) (by omega) (fun vz2 hvz2 => ?_)
    refine S_iast (I := Inv _) rfl rfl ((congrFun V.1 350).trans s_350) hx2 (by omega) (Inv_putI V (Nat.le_of_ble_eq_true rfl) (Or.inl (by decide)) (Q_0 rk_350)) (fun g V ve3 vn4 hq => ?_)
    have hG := hq.trans hG
    refine S_iinc (c := 1) rfl rfl rfl hx2 rfl (by omega) (fun vz5 hvz5 => ?_)
    refine LW_ls (ls' := [some (.ref 349), some (.int x1), some (.int vz5)]) rfl ?_
    refine LW_goto (tgt := 2) rfl rfl ?_
    exact ih2 _ V hG x1 y1 hx1 (by omega) vz5 vz5.toInt rfl (by omega)    (by omega)
set_option maxRecDepth 10000 in
set_option maxHeartbeats 40000000 in
theorem C_X7_fewestSigns_26 {P : Par} {g g0 : LH} {d n : Nat}  (V : Inv P g) (hG : Gr g = Gr g0) (x1 : Int32) (y1 : Int) (hx1 : x1.toInt = y1) (hf1 : 1 ≤ y1 ∧ y1 ≤ 67108863) (x2 : Int32) (y2 : Int) (hx2 : x2.toInt = y2) (hf2 : 1 ≤ y2 ∧ y2 ≤ 7)  (hmu : (7 - y2) * 1 + 0 < (n : Int) + 1) (ih2 : ∀ (g : LH) (V : Inv P g) (hG : Gr g = Gr g0) (x1 : Int32) (y1 : Int) (hx1 : x1.toInt = y1) (hf1 : 1 ≤ y1 ∧ y1 ≤ 67108863) (x2 : Int32) (y2 : Int) (hx2 : x2.toInt = y2) (hf2 : 0 ≤ y2 ∧ y2 ≤ 26) , (26 - y2) * 1 + 8 < (n : Int) → LW 71 (d + 45) 0 0 2 [some (.ref 349), some (.int x1), some (.int x2)] [] g (fun v g' => ∃ r : Int32, v = some (.int r) ∧ (-1) ≤ r.toInt ∧ r.toInt ≤ 6 ∧ Inv P g' ∧ Gr g' = Gr g0)) (ih26 : ∀ (g : LH) (V : Inv P g) (hG : Gr g = Gr g0) (x1 : Int32) (y1 : Int) (hx1 : x1.toInt = y1) (hf1 : 1 ≤ y1 ∧ y1 ≤ 67108863) (x2 : Int32) (y2 : Int) (hx2 : x2.toInt = y2) (hf2 : 1 ≤ y2 ∧ y2 ≤ 7) , (7 - y2) * 1 + 0 < (n : Int) → LW 71 (d + 45) 0 0 26 [some (.ref 349), some (.int x1), some (.int x2)] [] g (fun v g' => ∃ r : Int32, v = some (.int r) ∧ (-1) ≤ r.toInt ∧ r.toInt ≤ 6 ∧ Inv P g' ∧ Gr g' = Gr g0)) : LW 71 (d + 45) 0 0 26 [some (.ref 349), some (.int x1), some (.int x2)] [] g (fun v g' => ∃ r : Int32, v = some (.int r) ∧ (-1) ≤ r.toInt ∧ r.toInt ≤ 6 ∧ Inv P g' ∧ Gr g' = Gr g0) := by
  refine X_iload_n rfl rfl rfl rfl ?_
  refine X_bipush (v := (6 : Int32)) rfl rfl rfl ?_
  refine S_icmp_gt (tgt := 51) rfl rfl rfl hx2 (show (6 : Int32).toInt = 6 from rfl) (fun vh1 => ?_) (fun vh1 => ?_)
  · refine X_iconst (v := (-1 : Int32)) rfl rfl rfl ?_
    exact LW_ireturn (st := []) rfl rfl rfl ⟨_, rfl, by decide, by decide, V, hG⟩
  · refine X_aload_n rfl rfl rfl rfl ?_
    refine X_iload_n rfl rfl rfl rfl ?_
    refine X_iconst (v := (0 : Int32)) rfl rfl rfl ?_
    refine X_iconst (v := (0 : Int32)) rfl rfl rfl ?_
    refine X_iload_n rfl rfl rfl rfl ?_
    refine Y_callV (as := [.int x1, .int (0 : Int32), .int (0 : Int32), .int x2]) (st := []) rfl rfl rfl (by decide) rfl (Nat.le_of_ble_eq_true rfl) (by decide) (Nat.le_of_ble_eq_true rfl) rfl ((congrFun V.1 349).trans s_349) (by decide) (C_X7_putSigns V x1 y1 hx1 (by omega) (0 : Int32) 0 (show (0 : Int32).toInt = 0 from rfl) (by omega) (0 : Int32) 0 (show (0 : Int32).toInt = 0 from rfl) (by omega) x2 y2 hx2 (by omega) ) ?_
    rintro _ g ⟨vr2, rfl, hrvr20, hrvr21, V, hq⟩
    have hG := hq.trans hG
    refine S_if_eq (tgt := 45) rfl rfl rfl rfl (fun vh3 => ?_) (fun vh3 => ?_)
    · refine S_iinc (c := 1) rfl rfl rfl hx2 rfl (by omega) (fun vz4 hvz4 => ?_)
      refine LW_ls (ls' := [some (.ref 349), some (.int x1), some (.int vz4)]) rfl ?_
      refine LW_goto (tgt := 26) rfl rfl ?_
      exact ih26 _ V hG x1 y1 hx1 (by omega) vz4 vz4.toInt rfl (by omega)    (by omega)
    · refine X_iload_n rfl rfl rfl rfl ?_
      have hr := hx2
      exact LW_ireturn (st := []) rfl rfl rfl ⟨_, rfl, by omega, by omega, V, hG⟩
theorem C_X7_fewestSigns_all {P : Par} {g0 : LH} {d : Nat}  : ∀ n : Nat, (∀ (g : LH) (V : Inv P g) (hG : Gr g = Gr g0) (x1 : Int32) (y1 : Int) (hx1 : x1.toInt = y1) (hf1 : 1 ≤ y1 ∧ y1 ≤ 67108863) (x2 : Int32) (y2 : Int) (hx2 : x2.toInt = y2) (hf2 : 0 ≤ y2 ∧ y2 ≤ 26) , (26 - y2) * 1 + 8 < (n : Int) → LW 71 (d + 45) 0 0 2 [some (.ref 349), some (.int x1), some (.int x2)] [] g (fun v g' => ∃ r : Int32, v = some (.int r) ∧ (-1) ≤ r.toInt ∧ r.toInt ≤ 6 ∧ Inv P g' ∧ Gr g' = Gr g0)) ∧ (∀ (g : LH) (V : Inv P g) (hG : Gr g = Gr g0) (x1 : Int32) (y1 : Int) (hx1 : x1.toInt = y1) (hf1 : 1 ≤ y1 ∧ y1 ≤ 67108863) (x2 : Int32) (y2 : Int) (hx2 : x2.toInt = y2) (hf2 : 1 ≤ y2 ∧ y2 ≤ 7) , (7 - y2) * 1 + 0 < (n : Int) → LW 71 (d + 45) 0 0 26 [some (.ref 349), some (.int x1), some (.int x2)] [] g (fun v g' => ∃ r : Int32, v = some (.int r) ∧ (-1) ≤ r.toInt ∧ r.toInt ≤ 6 ∧ Inv P g' ∧ Gr g' = Gr g0)) := by
  intro n
  induction n with
  | zero => exact ⟨fun g V hG x1 y1 hx1 hf1 x2 y2 hx2 hf2 hmu => absurd hmu (by omega), fun g V hG x1 y1 hx1 hf1 x2 y2 hx2 hf2 hmu => absurd hmu (by omega)⟩
  | succ n ih => exact ⟨fun g V hG x1 y1 hx1 hf1 x2 y2 hx2 hf2 hmu => C_X7_fewestSigns_2  V hG x1 y1 hx1 hf1 x2 y2 hx2 hf2 (by omega) ih.1 ih.2, fun g V hG x1 y1 hx1 hf1 x2 y2 hx2 hf2 hmu => C_X7_fewestSigns_26  V hG x1 y1 hx1 hf1 x2 y2 hx2 hf2 (by omega) ih.1 ih.2⟩
set_option maxRecDepth 10000 in
set_option maxHeartbeats 40000000 in
theorem C_X7_fewestSigns {P : Par} {g : LH} {d : Nat}  (V : Inv P g) (x1 : Int32) (y1 : Int) (hx1 : x1.toInt = y1) (hf1 : 1 ≤ y1 ∧ y1 ≤ 67108863)   : LW 71 (d + 45) 0 0 0 (lEnt (mL 71) [.ref 349, .int x1]) [] g (fun v g' => ∃ r : Int32, v = some (.int r) ∧ (-1) ≤ r.toInt ∧ r.toInt ≤ 6 ∧ Inv P g' ∧ Gr g' = Gr g) := by
  refine LW_ls (ls' := [some (.ref 349), some (.int x1), none]) rfl ?_
  have hG : Gr g = Gr g := rfl
  refine X_iconst (v := (0 : Int32)) rfl rfl rfl ?_
  refine X_istore_n (i := 2) (ls' := [some (.ref 349), some (.int x1), some (.int (0 : Int32))]) rfl rfl rfl (Nat.le_of_ble_eq_true rfl) rfl ?_
  exact (C_X7_fewestSigns_all (((26 - 0) * 1 + 8) + 1 : Int).toNat).1 _ V hG x1 y1 hx1 (by omega) (0 : Int32) 0 (show (0 : Int32).toInt = 0 from rfl) (by omega)    (by omega)
