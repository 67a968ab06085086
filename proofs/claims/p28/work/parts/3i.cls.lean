/-! the class's methods: each returns and keeps what every state keeps -/
set_option maxRecDepth 10000 in
set_option maxHeartbeats 40000000 in
theorem C_X12_contract {P : Par} {g : LH} {d : Nat}  (V : Inv P g) (x1 : Int32) (y1 : Int) (hx1 : x1.toInt = y1)   : LW 139 (d + 20) 0 0 0 (lEnt (mL 139) [.ref 0, .int x1]) [] g (fun v g' => ∃ r : Int32, v = some (.int r) ∧ (-1) ≤ r.toInt ∧ r.toInt ≤ 9 ∧ Inv P g' ∧ Gr g' = Gr g) := by
  refine LW_ls (ls' := [some (.ref 0), some (.int x1)]) rfl ?_
  have hG : Gr g = Gr g := rfl
  refine X_aload_n rfl rfl rfl rfl ?_
  refine X_getR (a := 342) rfl rfl rfl ((congrFun V.1 0).trans s_0) rfl ((congrFun (V.2.1 0 (by decide)) 6).trans r_0_6) ?_
  refine X_iload_n rfl rfl rfl rfl ?_
  refine Y_callV (as := [.int x1]) (st := []) rfl rfl rfl (by decide) rfl (Nat.le_of_ble_eq_true rfl) (by decide) (Nat.le_of_ble_eq_true rfl) rfl ((congrFun V.1 342).trans s_342) (by decide) (C_X1_conclude V x1 y1 hx1 ) ?_
  rintro _ g ⟨vr1, rfl, hrvr10, hrvr11, V, hq⟩
  have hG := hq.trans hG
  have hr := (rfl : vr1.toInt = vr1.toInt)
  exact LW_ireturn (st := []) rfl rfl rfl ⟨_, rfl, by omega, by omega, V, hG⟩
set_option maxRecDepth 10000 in
set_option maxHeartbeats 40000000 in
theorem C_X1_raiseAll_5 {P : Par} {g g0 : LH} {d n : Nat}  (V : Inv P g) (hG : Gr g = Gr g0) (x1 : Int32) (y1 : Int) (hx1 : x1.toInt = y1) (x2 : Int32) (y2 : Int) (hx2 : x2.toInt = y2) (x3 : Int32) (y3 : Int) (hx3 : x3.toInt = y3) (hf3 : 0 ≤ y3 ∧ y3 ≤ 1) (x4 : Int32) (y4 : Int) (hx4 : x4.toInt = y4) (hf4 : 0 ≤ y4 ∧ y4 ≤ 26)  (hmu : (26 - y4) * 1 + 0 < (n : Int) + 1) (ih5 : ∀ (g : LH) (V : Inv P g) (hG : Gr g = Gr g0) (x1 : Int32) (y1 : Int) (hx1 : x1.toInt = y1) (x2 : Int32) (y2 : Int) (hx2 : x2.toInt = y2) (x3 : Int32) (y3 : Int) (hx3 : x3.toInt = y3) (hf3 : 0 ≤ y3 ∧ y3 ≤ 1) (x4 : Int32) (y4 : Int) (hx4 : x4.toInt = y4) (hf4 : 0 ≤ y4 ∧ y4 ≤ 26) , (26 - y4) * 1 + 0 < (n : Int) → LW 17 (d + 10) 0 0 5 [some (.ref 342), some (.int x1), some (.int x2), some (.int x3), some (.int x4)] [] g (fun v g' => ∃ r : Int32, v = some (.int r) ∧ 0 ≤ r.toInt ∧ r.toInt ≤ 1 ∧ Inv P g' ∧ Gr g' = Gr g0)) : LW 17 (d + 10) 0 0 5 [some (.ref 342), some (.int x1), some (.int x2), some (.int x3), some (.int x4)] [] g (fun v g' => ∃ r : Int32, v = some (.int r) ∧ 0 ≤ r.toInt ∧ r.toInt ≤ 1 ∧ Inv P g' ∧ Gr g' = Gr g0) := by
  refine X_iload rfl rfl rfl ?_
  refine X_bipush (v := (26 : Int32)) rfl rfl rfl ?_
  refine S_icmp_ge (tgt := 53) rfl rfl rfl hx4 (show (26 : Int32).toInt = 26 from rfl) (fun vh1 => ?_) (fun vh1 => ?_)
  · refine X_iload_n rfl rfl rfl rfl ?_
    have hr := hx3
    exact LW_ireturn (st := []) rfl rfl (nbool hx3 (by omega)) ⟨_, rfl, by omega, by omega, V, hG⟩
  · refine X_iload_n rfl rfl rfl rfl ?_
    refine X_iload rfl rfl rfl ?_
    refine S_ishrT rfl rfl (fun vz2 => ?_)
    refine X_iconst (v := (1 : Int32)) rfl rfl rfl ?_
    refine S_iandR (k := 1) rfl rfl rfl (fun vz3 hvz3 => ?_)
    refine S_if_eq (tgt := 47) rfl rfl rfl rfl (fun vh4 => ?_) (fun vh4 => ?_)
    · refine S_iinc (c := 1) rfl rfl rfl hx4 rfl (by omega) (fun vz5 hvz5 => ?_)
      refine LW_ls (ls' := [some (.ref 342), some (.int x1), some (.int x2), some (.int x3), some (.int vz5)]) rfl ?_
      refine LW_goto (tgt := 5) rfl rfl ?_
      exact ih5 _ V hG x1 y1 hx1 x2 y2 hx2 x3 y3 hx3 (by omega) vz5 vz5.toInt rfl (by omega)    (by omega)
    · refine X_iload_n rfl rfl rfl rfl ?_
      refine X_aload_n rfl rfl rfl rfl ?_
      refine X_iload rfl rfl rfl ?_
      refine X_bipush (v := (99 : Int32)) rfl rfl rfl ?_
      refine X_aload_n rfl rfl rfl rfl ?_
      refine X_getR (a := 10) rfl rfl rfl ((congrFun V.1 342).trans s_342) rfl ((congrFun (V.2.1 342 (by decide)) 1).trans r_342_1) ?_
      refine X_getR (a := 11) rfl rfl rfl ((congrFun V.1 10).trans s_10) rfl ((congrFun (V.2.1 10 (by decide)) 4).trans r_10_4) ?_
      refine X_iload rfl rfl rfl ?_
      refine S_iald rfl rfl ((congrFun V.1 11).trans s_11) hx4 (by omega) (fun vz6 evz6 => ?_)
      refine X_iload_n rfl rfl rfl rfl ?_
      refine S_iaddT rfl rfl (fun vz7 => ?_)
      refine S_min rfl rfl rfl (Nat.le_of_ble_eq_true rfl) (show (99 : Int32).toInt = 99 from rfl) rfl (fun vz8 hvz8 => ?_)
      refine Y_callV (as := [.int x4, .int vz8]) (st := [.int x3]) rfl rfl rfl (by decide) rfl (Nat.le_of_ble_eq_true rfl) (by decide) (Nat.le_of_ble_eq_true rfl) rfl ((congrFun V.1 342).trans s_342) (by decide) (C_X1_setWage V x4 y4 hx4 (by omega) vz8 vz8.toInt rfl (by omega) ) ?_
      rintro _ g ⟨vr9, rfl, hrvr90, hrvr91, V, hq⟩
      have hG := hq.trans hG
      refine S_ior (n := 1) rfl rfl hx3 rfl (by omega) (by omega) (fun vz10 hvz10 => ?_)
      refine X_istore_n (i := 3) (ls' := [some (.ref 342), some (.int x1), some (.int x2), some (.int vz10), some (.int x4)]) rfl rfl rfl (Nat.le_of_ble_eq_true rfl) rfl ?_
      refine S_iinc (c := 1) rfl rfl rfl hx4 rfl (by omega) (fun vz11 hvz11 => ?_)
      refine LW_ls (ls' := [some (.ref 342), some (.int x1), some (.int x2), some (.int vz10), some (.int vz11)]) rfl ?_
      refine LW_goto (tgt := 5) rfl rfl ?_
      exact ih5 _ V hG x1 y1 hx1 x2 y2 hx2 vz10 vz10.toInt rfl (by omega) vz11 vz11.toInt rfl (by omega)    (by omega)
theorem C_X1_raiseAll_all {P : Par} {g0 : LH} {d : Nat}  : ∀ n : Nat, (∀ (g : LH) (V : Inv P g) (hG : Gr g = Gr g0) (x1 : Int32) (y1 : Int) (hx1 : x1.toInt = y1) (x2 : Int32) (y2 : Int) (hx2 : x2.toInt = y2) (x3 : Int32) (y3 : Int) (hx3 : x3.toInt = y3) (hf3 : 0 ≤ y3 ∧ y3 ≤ 1) (x4 : Int32) (y4 : Int) (hx4 : x4.toInt = y4) (hf4 : 0 ≤ y4 ∧ y4 ≤ 26) , (26 - y4) * 1 + 0 < (n : Int) → LW 17 (d + 10) 0 0 5 [some (.ref 342), some (.int x1), some (.int x2), some (.int x3), some (.int x4)] [] g (fun v g' => ∃ r : Int32, v = some (.int r) ∧ 0 ≤ r.toInt ∧ r.toInt ≤ 1 ∧ Inv P g' ∧ Gr g' = Gr g0)) := by
  intro n
  induction n with
  | zero => exact fun g V hG x1 y1 hx1 x2 y2 hx2 x3 y3 hx3 hf3 x4 y4 hx4 hf4 hmu => absurd hmu (by omega)
  | succ n ih => exact fun g V hG x1 y1 hx1 x2 y2 hx2 x3 y3 hx3 hf3 x4 y4 hx4 hf4 hmu => C_X1_raiseAll_5  V hG x1 y1 hx1 x2 y2 hx2 x3 y3 hx3 hf3 x4 y4 hx4 hf4 (by omega) ih
set_option maxRecDepth 10000 in
set_option maxHeartbeats 40000000 in
theorem C_X1_raiseAll {P : Par} {g : LH} {d : Nat}  (V : Inv P g) (x1 : Int32) (y1 : Int) (hx1 : x1.toInt = y1) (x2 : Int32) (y2 : Int) (hx2 : x2.toInt = y2)   : LW 17 (d + 10) 0 0 0 (lEnt (mL 17) [.ref 342, .int x1, .int x2]) [] g (fun v g' => ∃ r : Int32, v = some (.int r) ∧ 0 ≤ r.toInt ∧ r.toInt ≤ 1 ∧ Inv P g' ∧ Gr g' = Gr g) := by
  refine LW_ls (ls' := [some (.ref 342), some (.int x1), some (.int x2), none, none]) rfl ?_
  have hG : Gr g = Gr g := rfl
  refine X_iconst (v := (0 : Int32)) rfl rfl rfl ?_
  refine X_istore_n (i := 3) (ls' := [some (.ref 342), some (.int x1), some (.int x2), some (.int (0 : Int32)), none]) rfl rfl rfl (Nat.le_of_ble_eq_true rfl) rfl ?_
  refine X_iconst (v := (0 : Int32)) rfl rfl rfl ?_
  refine X_istore (i := 4) (ls' := [some (.ref 342), some (.int x1), some (.int x2), some (.int (0 : Int32)), some (.int (0 : Int32))]) rfl rfl (Nat.le_of_ble_eq_true rfl) rfl ?_
  exact (C_X1_raiseAll_all (((26 - 0) * 1 + 0) + 1 : Int).toNat) _ V hG x1 y1 hx1 x2 y2 hx2 (0 : Int32) 0 (show (0 : Int32).toInt = 0 from rfl) (by omega) (0 : Int32) 0 (show (0 : Int32).toInt = 0 from rfl) (by omega)    (by omega)
set_option maxRecDepth 10000 in
set_option maxHeartbeats 40000000 in
theorem C_X1_signAll_5 {P : Par} {g g0 : LH} {d n : Nat}  (V : Inv P g) (hG : Gr g = Gr g0) (x1 : Int32) (y1 : Int) (hx1 : x1.toInt = y1) (x2 : Int32) (y2 : Int) (hx2 : x2.toInt = y2) (x3 : Int32) (y3 : Int) (hx3 : x3.toInt = y3) (hf3 : 0 ≤ y3 ∧ y3 ≤ 1) (x4 : Int32) (y4 : Int) (hx4 : x4.toInt = y4) (hf4 : 0 ≤ y4 ∧ y4 ≤ 26)  (hmu : (26 - y4) * 1 + 0 < (n : Int) + 1) (ih5 : ∀ (g : LH) (V : Inv P g) (hG : Gr g = Gr g0) (x1 : Int32) (y1 : Int) (hx1 : x1.toInt = y1) (x2 : Int32) (y2 : Int) (hx2 : x2.toInt = y2) (x3 : Int32) (y3 : Int) (hx3 : x3.toInt = y3) (hf3 : 0 ≤ y3 ∧ y3 ≤ 1) (x4 : Int32) (y4 : Int) (hx4 : x4.toInt = y4) (hf4 : 0 ≤ y4 ∧ y4 ≤ 26) , (26 - y4) * 1 + 0 < (n : Int) → LW 18 (d + 10) 0 0 5 [some (.ref 342), some (.int x1), some (.int x2), some (.int x3), some (.int x4)] [] g (fun v g' => ∃ r : Int32, v = some (.int r) ∧ 0 ≤ r.toInt ∧ r.toInt ≤ 1 ∧ Inv P g' ∧ Gr g' = Gr g0)) : LW 18 (d + 10) 0 0 5 [some (.ref 342), some (.int x1), some (.int x2), some (.int x3), some (.int x4)] [] g (fun v g' => ∃ r : Int32, v = some (.int r) ∧ 0 ≤ r.toInt ∧ r.toInt ≤ 1 ∧ Inv P g' ∧ Gr g' = Gr g0) := by
  refine X_iload rfl rfl rfl ?_
  refine X_bipush (v := (26 : Int32)) rfl rfl rfl ?_
  refine S_icmp_ge (tgt := 37) rfl rfl rfl hx4 (show (26 : Int32).toInt = 26 from rfl) (fun vh1 => ?_) (fun vh1 => ?_)
  · refine X_iload_n rfl rfl rfl rfl ?_
    have hr := hx3
    exact LW_ireturn (st := []) rfl rfl (nbool hx3 (by omega)) ⟨_, rfl, by omega, by omega, V, hG⟩
  · refine X_iload_n rfl rfl rfl rfl ?_
    refine X_iload rfl rfl rfl ?_
    refine S_ishrT rfl rfl (fun vz2 => ?_)
    refine X_iconst (v := (1 : Int32)) rfl rfl rfl ?_
    refine S_iandR (k := 1) rfl rfl rfl (fun vz3 hvz3 => ?_)
    refine S_if_eq (tgt := 31) rfl rfl rfl rfl (fun vh4 => ?_) (fun vh4 => ?_)
    · refine S_iinc (c := 1) rfl rfl rfl hx4 rfl (by omega) (fun vz5 hvz5 => ?_)
      refine LW_ls (ls' := [some (.ref 342), some (.int x1), some (.int x2), some (.int x3), some (.int vz5)]) rfl ?_
      refine LW_goto (tgt := 5) rfl rfl ?_
      exact ih5 _ V hG x1 y1 hx1 x2 y2 hx2 x3 y3 hx3 (by omega) vz5 vz5.toInt rfl (by omega)    (by omega)
    · refine X_iload_n rfl rfl rfl rfl ?_
      refine X_aload_n rfl rfl rfl rfl ?_
      refine X_iload rfl rfl rfl ?_
      refine X_iload_n rfl rfl rfl rfl ?_
      refine Y_callV (as := [.int x4, .int x2]) (st := [.int x3]) rfl rfl rfl (by decide) rfl (Nat.le_of_ble_eq_true rfl) (by decide) (Nat.le_of_ble_eq_true rfl) rfl ((congrFun V.1 342).trans s_342) (by decide) (C_X1_putSign V x4 y4 hx4 (by omega) x2 y2 hx2 ) ?_
      rintro _ g ⟨vr6, rfl, hrvr60, hrvr61, V, hq⟩
      have hG := hq.trans hG
      refine S_ior (n := 1) rfl rfl hx3 rfl (by omega) (by omega) (fun vz7 hvz7 => ?_)
      refine X_istore_n (i := 3) (ls' := [some (.ref 342), some (.int x1), some (.int x2), some (.int vz7), some (.int x4)]) rfl rfl rfl (Nat.le_of_ble_eq_true rfl) rfl ?_
      refine S_iinc (c := 1) rfl rfl rfl hx4 rfl (by omega) (fun vz8 hvz8 => ?_)
      refine LW_ls (ls' := [some (.ref 342), some (.int x1), some (.int x2), some (.int vz7), some (.int vz8)]) rfl ?_
      refine LW_goto (tgt := 5) rfl rfl ?_
      exact ih5 _ V hG x1 y1 hx1 x2 y2 hx2 vz7 vz7.toInt rfl (by omega) vz8 vz8.toInt rfl (by omega)    (by omega)
theorem C_X1_signAll_all {P : Par} {g0 : LH} {d : Nat}  : ∀ n : Nat, (∀ (g : LH) (V : Inv P g) (hG : Gr g = Gr g0) (x1 : Int32) (y1 : Int) (hx1 : x1.toInt = y1) (x2 : Int32) (y2 : Int) (hx2 : x2.toInt = y2) (x3 : Int32) (y3 : Int) (hx3 : x3.toInt = y3) (hf3 : 0 ≤ y3 ∧ y3 ≤ 1) (x4 : Int32) (y4 : Int) (hx4 : x4.toInt = y4) (hf4 : 0 ≤ y4 ∧ y4 ≤ 26) , (26 - y4) * 1 + 0 < (n : Int) → LW 18 (d + 10) 0 0 5 [some (.ref 342), some (.int x1), some (.int x2), some (.int x3), some (.int x4)] [] g (fun v g' => ∃ r : Int32, v = some (.int r) ∧ 0 ≤ r.toInt ∧ r.toInt ≤ 1 ∧ Inv P g' ∧ Gr g' = Gr g0)) := by
  intro n
  induction n with
  | zero => exact fun g V hG x1 y1 hx1 x2 y2 hx2 x3 y3 hx3 hf3 x4 y4 hx4 hf4 hmu => absurd hmu (by omega)
  | succ n ih => exact fun g V hG x1 y1 hx1 x2 y2 hx2 x3 y3 hx3 hf3 x4 y4 hx4 hf4 hmu => C_X1_signAll_5  V hG x1 y1 hx1 x2 y2 hx2 x3 y3 hx3 hf3 x4 y4 hx4 hf4 (by omega) ih
set_option maxRecDepth 10000 in
set_option maxHeartbeats 40000000 in
theorem C_X1_signAll {P : Par} {g : LH} {d : Nat}  (V : Inv P g) (x1 : Int32) (y1 : Int) (hx1 : x1.toInt = y1) (x2 : Int32) (y2 : Int) (hx2 : x2.toInt = y2)   : LW 18 (d + 10) 0 0 0 (lEnt (mL 18) [.ref 342, .int x1, .int x2]) [] g (fun v g' => ∃ r : Int32, v = some (.int r) ∧ 0 ≤ r.toInt ∧ r.toInt ≤ 1 ∧ Inv P g' ∧ Gr g' = Gr g) := by
  refine LW_ls (ls' := [some (.ref 342), some (.int x1), some (.int x2), none, none]) rfl ?_
  have hG : Gr g = Gr g := rfl
  refine X_iconst (v := (0 : Int32)) rfl rfl rfl ?_
  refine X_istore_n (i := 3) (ls' := [some (.ref 342), some (.int x1), some (.int x2), some (.int (0 : Int32)), none]) rfl rfl rfl (Nat.le_of_ble_eq_true rfl) rfl ?_
  refine X_iconst (v := (0 : Int32)) rfl rfl rfl ?_
  refine X_istore (i := 4) (ls' := [some (.ref 342), some (.int x1), some (.int x2), some (.int (0 : Int32)), some (.int (0 : Int32))]) rfl rfl (Nat.le_of_ble_eq_true rfl) rfl ?_
  exact (C_X1_signAll_all (((26 - 0) * 1 + 0) + 1 : Int).toNat) _ V hG x1 y1 hx1 x2 y2 hx2 (0 : Int32) 0 (show (0 : Int32).toInt = 0 from rfl) (by omega) (0 : Int32) 0 (show (0 : Int32).toInt = 0 from rfl) (by omega)    (by omega)
set_option maxRecDepth 10000 in
set_option maxHeartbeats 40000000 in
theorem C_X5_isTold_2_Tt6_3 {P : Par} {g : LH} {d n : Nat}  {u : Nat} (hu : u < 4) (V : Inv P g) (x2 : Int32) (y2 : Int) (hx2 : x2.toInt = y2) (hf2 : 0 ≤ y2 ∧ y2 ≤ 184) (x3 : Int32) (y3 : Int) (hx3 : x3.toInt = y3) (hf3 : 1 ≤ y3 ∧ y3 ≤ 8) (x4 : Int32) (y4 : Int) (hx4 : x4.toInt = y4) (hf4 : 0 ≤ y4 ∧ y4 ≤ 24) (o5 : Option Value) (o6 : Option Value)  (hmu : (24 - y4) * 12 + 11 < (n : Int) + 1) (ih3 : ∀ {u : Nat} (hu : u < 4) (V : Inv P g) (x2 : Int32) (y2 : Int) (hx2 : x2.toInt = y2) (hf2 : 0 ≤ y2 ∧ y2 ≤ 184) (x3 : Int32) (y3 : Int) (hx3 : x3.toInt = y3) (hf3 : 1 ≤ y3 ∧ y3 ≤ 8) (x4 : Int32) (y4 : Int) (hx4 : x4.toInt = y4) (hf4 : 0 ≤ y4 ∧ y4 ≤ 24) (o5 : Option Value) (o6 : Option Value) , (24 - y4) * 12 + 11 < (n : Int) → LW 45 (d + 5) 0 0 3 [some (.ref 2), some (.ref (298 + 10 * u)), some (.int x2), some (.int x3), some (.int x4), o5, o6] [] g (fun v g' => ∃ r : Int32, v = some (.int r) ∧ 0 ≤ r.toInt ∧ r.toInt ≤ 1 ∧ g = g')) (ih18 : ∀ {u : Nat} (hu : u < 4) (V : Inv P g) (x2 : Int32) (y2 : Int) (hx2 : x2.toInt = y2) (hf2 : 0 ≤ y2 ∧ y2 ≤ 184) (x3 : Int32) (y3 : Int) (hx3 : x3.toInt = y3) (hf3 : 1 ≤ y3 ∧ y3 ≤ 8) (x4 : Int32) (y4 : Int) (hx4 : x4.toInt = y4) (hf4 : 0 ≤ y4 ∧ y4 ≤ 23) (x5 : Int32) (y5 : Int) (hx5 : x5.toInt = y5) (x6 : Int32) (y6 : Int) (hx6 : x6.toInt = y6) (hf6 : 0 ≤ y6 ∧ y6 ≤ 8) (hc2_0 : 1 ≤ (Gi g 2 0).toInt ∧ (Gi g 2 0).toInt ≤ 24), (24 - y4) * 12 + 0 + (8 - y6) * 1 + 0 < (n : Int) → LW 45 (d + 5) 0 0 18 [some (.ref 2), some (.ref (298 + 10 * u)), some (.int x2), some (.int x3), some (.int x4), some (.int x5), some (.int x6)] [] g (fun v g' => ∃ r : Int32, v = some (.int r) ∧ 0 ≤ r.toInt ∧ r.toInt ≤ 1 ∧ g = g')) : LW 45 (d + 5) 0 0 3 [some (.ref 2), some (.ref (298 + 10 * u)), some (.int x2), some (.int x3), some (.int x4), o5, o6] [] g (fun v g' => ∃ r : Int32, v = some (.int r) ∧ 0 ≤ r.toInt ∧ r.toInt ≤ 1 ∧ g = g') := by
  refine X_iload rfl rfl rfl ?_
  refine X_aload_n rfl rfl rfl rfl ?_
  refine S_getI rfl rfl rfl ((congrFun V.1 2).trans s_2) rfl (fun vz1 evz1 => ?_)
  have vf2 := K_10_0 (V.2.2.2.2.1 (2) (0) (Nat.le_of_ble_eq_true rfl)) rk_2
  rw [evz1] at vf2
  refine S_icmp_ge (tgt := 91) rfl rfl rfl hx4 rfl (fun vh3 => ?_) (fun vh3 => ?_)
  · refine X_iconst (v := (0 : Int32)) rfl rfl rfl ?_
    exact LW_ireturn (st := []) rfl rfl rfl ⟨_, rfl, by decide, by decide, rfl⟩
  · refine X_iconst (v := (0 : Int32)) rfl rfl rfl ?_
    refine X_istore (i := 5) (ls' := [some (.ref 2), some (.ref (298 + 10 * u)), some (.int x2), some (.int x3), some (.int x4), some (.int (0 : Int32)), o6]) rfl rfl (Nat.le_of_ble_eq_true rfl) rfl ?_
    refine X_iconst (v := (0 : Int32)) rfl rfl rfl ?_
    refine X_istore (i := 6) (ls' := [some (.ref 2), some (.ref (298 + 10 * u)), some (.int x2), some (.int x3), some (.int x4), some (.int (0 : Int32)), some (.int (0 : Int32))]) rfl rfl (Nat.le_of_ble_eq_true rfl) rfl ?_
    exact ih18 hu V x2 y2 hx2 (by omega) x3 y3 hx3 (by omega) x4 y4 hx4 (by omega) (0 : Int32) 0 (show (0 : Int32).toInt = 0 from rfl) (0 : Int32) 0 (show (0 : Int32).toInt = 0 from rfl) (by omega) (by rw [evz1]; omega)   (by omega)
set_option maxRecDepth 10000 in
set_option maxHeartbeats 40000000 in
theorem C_X5_isTold_2_Tt6_18 {P : Par} {g : LH} {d n : Nat}  {u : Nat} (hu : u < 4) (V : Inv P g) (x2 : Int32) (y2 : Int) (hx2 : x2.toInt = y2) (hf2 : 0 ≤ y2 ∧ y2 ≤ 184) (x3 : Int32) (y3 : Int) (hx3 : x3.toInt = y3) (hf3 : 1 ≤ y3 ∧ y3 ≤ 8) (x4 : Int32) (y4 : Int) (hx4 : x4.toInt = y4) (hf4 : 0 ≤ y4 ∧ y4 ≤ 23) (x5 : Int32) (y5 : Int) (hx5 : x5.toInt = y5) (x6 : Int32) (y6 : Int) (hx6 : x6.toInt = y6) (hf6 : 0 ≤ y6 ∧ y6 ≤ 8) (hc2_0 : 1 ≤ (Gi g 2 0).toInt ∧ (Gi g 2 0).toInt ≤ 24) (hmu : (24 - y4) * 12 + 0 + (8 - y6) * 1 + 0 < (n : Int) + 1) (ih3 : ∀ {u : Nat} (hu : u < 4) (V : Inv P g) (x2 : Int32) (y2 : Int) (hx2 : x2.toInt = y2) (hf2 : 0 ≤ y2 ∧ y2 ≤ 184) (x3 : Int32) (y3 : Int) (hx3 : x3.toInt = y3) (hf3 : 1 ≤ y3 ∧ y3 ≤ 8) (x4 : Int32) (y4 : Int) (hx4 : x4.toInt = y4) (hf4 : 0 ≤ y4 ∧ y4 ≤ 24) (o5 : Option Value) (o6 : Option Value) , (24 - y4) * 12 + 11 < (n : Int) → LW 45 (d + 5) 0 0 3 [some (.ref 2), some (.ref (298 + 10 * u)), some (.int x2), some (.int x3), some (.int x4), o5, o6] [] g (fun v g' => ∃ r : Int32, v = some (.int r) ∧ 0 ≤ r.toInt ∧ r.toInt ≤ 1 ∧ g = g')) (ih18 : ∀ {u : Nat} (hu : u < 4) (V : Inv P g) (x2 : Int32) (y2 : Int) (hx2 : x2.toInt = y2) (hf2 : 0 ≤ y2 ∧ y2 ≤ 184) (x3 : Int32) (y3 : Int) (hx3 : x3.toInt = y3) (hf3 : 1 ≤ y3 ∧ y3 ≤ 8) (x4 : Int32) (y4 : Int) (hx4 : x4.toInt = y4) (hf4 : 0 ≤ y4 ∧ y4 ≤ 23) (x5 : Int32) (y5 : Int) (hx5 : x5.toInt = y5) (x6 : Int32) (y6 : Int) (hx6 : x6.toInt = y6) (hf6 : 0 ≤ y6 ∧ y6 ≤ 8) (hc2_0 : 1 ≤ (Gi g 2 0).toInt ∧ (Gi g 2 0).toInt ≤ 24), (24 - y4) * 12 + 0 + (8 - y6) * 1 + 0 < (n : Int) → LW 45 (d + 5) 0 0 18 [some (.ref 2), some (.ref (298 + 10 * u)), some (.int x2), some (.int x3), some (.int x4), some (.int x5), some (.int x6)] [] g (fun v g' => ∃ r : Int32, v = some (.int r) ∧ 0 ≤ r.toInt ∧ r.toInt ≤ 1 ∧ g = g')) : LW 45 (d + 5) 0 0 18 [some (.ref 2), some (.ref (298 + 10 * u)), some (.int x2), some (.int x3), some (.int x4), some (.int x5), some (.int x6)] [] g (fun v g' => ∃ r : Int32, v = some (.int r) ∧ 0 ≤ r.toInt ∧ r.toInt ≤ 1 ∧ g = g') := by
  obtain ⟨vz1, evz1⟩ : ∃ z, Gi g 2 0 = z := ⟨_, rfl⟩
  rw [evz1] at hc2_0
  refine X_iload rfl rfl rfl ?_
  refine X_iload_n rfl rfl rfl rfl ?_
  refine S_icmp_ge (tgt := 66) rfl rfl rfl hx6 hx3 (fun vh2 => ?_) (fun vh2 => ?_)
  · refine X_iload rfl rfl rfl ?_
    refine X_iload_n rfl rfl rfl rfl ?_
    refine S_icmp_ne (tgt := 85) rfl rfl rfl hx5 hx3 (fun vh3 => ?_) (fun vh3 => ?_)
    · refine S_iinc (c := 1) rfl rfl rfl hx4 rfl (by omega) (fun vz4 hvz4 => ?_)
      refine LW_ls (ls' := [some (.ref 2), some (.ref (298 + 10 * u)), some (.int x2), some (.int x3), some (.int vz4), some (.int x5), some (.int x6)]) rfl ?_
      refine LW_goto (tgt := 3) rfl rfl ?_
      exact ih3 hu V x2 y2 hx2 (by omega) x3 y3 hx3 (by omega) vz4 vz4.toInt rfl (by omega) (some (.int x5)) (some (.int x6))    (by omega)
    · refine X_aload_n rfl rfl rfl rfl ?_
      refine X_getR (a := 3) rfl rfl rfl ((congrFun V.1 2).trans s_2) rfl ((congrFun (V.2.1 2 (by decide)) 2).trans r_2_2) ?_
      refine X_iload rfl rfl rfl ?_
      refine S_iald rfl rfl ((congrFun V.1 3).trans s_3) hx4 (by omega) (fun vz5 evz5 => ?_)
      have vf6 := K_1 (V.2.2.2.2.1 (3) ((y4 : Int).toNat) (Nat.le_of_ble_eq_true rfl)) rk_3
      rw [evz5] at vf6
      refine X_iload_n rfl rfl rfl rfl ?_
      refine S_icmp_ne (tgt := 85) rfl rfl rfl rfl hx3 (fun vh7 => ?_) (fun vh7 => ?_)
      · refine S_iinc (c := 1) rfl rfl rfl hx4 rfl (by omega) (fun vz8 hvz8 => ?_)
        refine LW_ls (ls' := [some (.ref 2), some (.ref (298 + 10 * u)), some (.int x2), some (.int x3), some (.int vz8), some (.int x5), some (.int x6)]) rfl ?_
        refine LW_goto (tgt := 3) rfl rfl ?_
        exact ih3 hu V x2 y2 hx2 (by omega) x3 y3 hx3 (by omega) vz8 vz8.toInt rfl (by omega) (some (.int x5)) (some (.int x6))    (by omega)
      · refine X_iconst (v := (1 : Int32)) rfl rfl rfl ?_
        exact LW_ireturn (st := []) rfl rfl rfl ⟨_, rfl, by decide, by decide, rfl⟩
  · refine X_iload_n rfl rfl rfl rfl ?_
    refine X_iload rfl rfl rfl ?_
    refine S_iadd rfl rfl hx2 hx6 (by omega) (fun vz9 hvz9 => ?_)
    refine X_aload_n rfl rfl rfl rfl ?_
    refine X_alen (t0 := 0) (v := (192 : Int32)) rfl rfl ((congrFun V.1 _).trans (tx_s6 u hu)) rfl rfl ?_
    refine S_icmp_ge (tgt := 66) rfl rfl rfl rfl (show (192 : Int32).toInt = 192 from rfl) (fun q => absurd q (by omega)) (fun vh10 => ?_)
    refine X_iload rfl rfl rfl ?_
    refine X_aload_n rfl rfl rfl rfl ?_
    refine X_iload rfl rfl rfl ?_
    refine X_iload rfl rfl rfl ?_
    refine X_callV (as := [.int x4, .int x6]) (st := [.int x5]) rfl rfl rfl (by decide) rfl (Nat.le_of_ble_eq_true rfl) (by decide) (Nat.le_of_ble_eq_true rfl) rfl ((congrFun V.1 2).trans s_2) (by decide) ?_
    refine LW_ls (ls' := [some (.ref 2), some (.int x4), some (.int x6)]) rfl ?_
    refine X_aload_n rfl rfl rfl rfl ?_
    refine X_iload_n rfl rfl rfl rfl ?_
    refine X_callV (as := [.int x4]) (st := []) rfl rfl rfl (by decide) rfl (Nat.le_of_ble_eq_true rfl) (by decide) (Nat.le_of_ble_eq_true rfl) rfl ((congrFun V.1 2).trans s_2) (by decide) ?_
    refine LW_ls (ls' := [some (.ref 2), some (.int x4)]) rfl ?_
    refine X_iload_n rfl rfl rfl rfl ?_
    refine S_if_lt (tgt := 22) rfl rfl rfl hx4 (fun q => absurd q (by omega)) (fun vh11 => ?_)
    refine X_iload_n rfl rfl rfl rfl ?_
    refine X_aload_n rfl rfl rfl rfl ?_
    refine X_getI (v := vz1) rfl rfl rfl ((congrFun V.1 2).trans s_2) rfl evz1 ?_
    refine S_icmp_ge (tgt := 22) rfl rfl rfl hx4 rfl (fun vh12 => ?_) (fun vh12 => ?_)
    · refine X_iconst (v := (0 : Int32)) rfl rfl rfl ?_
      refine LW_ireturn (st := []) rfl rfl rfl ?_
      refine S_if_eq (tgt := 36) rfl rfl rfl (show (0 : Int32).toInt = 0 from rfl) (fun vh13 => ?_) (fun q => absurd q (by omega))
      refine X_iconst (v := (-1 : Int32)) rfl rfl rfl ?_
      refine LW_ireturn (st := []) rfl rfl rfl ?_
      refine X_aload_n rfl rfl rfl rfl ?_
      refine X_iload_n rfl rfl rfl rfl ?_
      refine X_iload rfl rfl rfl ?_
      refine S_iadd rfl rfl hx2 hx6 (by omega) (fun vz14 hvz14 => ?_)
      refine S_iald rfl rfl ((congrFun V.1 _).trans (tx_s6 u hu)) rfl (by omega) (fun vz15 evz15 => ?_)
      have vf16 := K_3 (V.2.2.2.2.1 (298 + 10 * u) ((vz14.toInt : Int).toNat) (by omega)) (tx_k6 u hu)
      rw [evz15] at vf16
      refine S_icmp_ne (tgt := 56) rfl rfl rfl (show (-1 : Int32).toInt = -1 from rfl) rfl (fun vh17 => ?_) (fun q => absurd q (by omega))
      refine X_iconst (v := (0 : Int32)) rfl rfl rfl ?_
      refine S_iaddT rfl rfl (fun vz18 => ?_)
      refine X_istore (i := 5) (ls' := [some (.ref 2), some (.ref (298 + 10 * u)), some (.int x2), some (.int x3), some (.int x4), some (.int vz18), some (.int x6)]) rfl rfl (Nat.le_of_ble_eq_true rfl) rfl ?_
      refine S_iinc (c := 1) rfl rfl rfl hx6 rfl (by omega) (fun vz19 hvz19 => ?_)
      refine LW_ls (ls' := [some (.ref 2), some (.ref (298 + 10 * u)), some (.int x2), some (.int x3), some (.int x4), some (.int vz18), some (.int vz19)]) rfl ?_
      refine LW_goto (tgt := 18) rfl rfl ?_
      exact ih18 hu V x2 y2 hx2 (by omega) x3 y3 hx3 (by omega) x4 y4 hx4 (by omega) vz18 vz18.toInt rfl vz19 vz19.toInt rfl (by omega) (by rw [evz1]; omega)   (by omega)
    · refine X_iload_n rfl rfl rfl rfl ?_
      refine X_bipush (v := (24 : Int32)) rfl rfl rfl ?_
      refine S_icmp_ge (tgt := 22) rfl rfl rfl hx4 (show (24 : Int32).toInt = 24 from rfl) (fun q => absurd q (by omega)) (fun vh20 => ?_)
      refine X_iconst (v := (1 : Int32)) rfl rfl rfl ?_
      refine LW_goto (tgt := 23) rfl rfl ?_
      refine LW_ireturn (st := []) rfl rfl rfl ?_
      refine S_if_eq (tgt := 36) rfl rfl rfl (show (1 : Int32).toInt = 1 from rfl) (fun q => absurd q (by omega)) (fun vh21 => ?_)
      refine X_iload_n rfl rfl rfl rfl ?_
      refine S_if_lt (tgt := 36) rfl rfl rfl hx6 (fun q => absurd q (by omega)) (fun vh22 => ?_)
      refine X_iload_n rfl rfl rfl rfl ?_
      refine X_aload_n rfl rfl rfl rfl ?_
      refine X_getR (a := 3) rfl rfl rfl ((congrFun V.1 2).trans s_2) rfl ((congrFun (V.2.1 2 (by decide)) 2).trans r_2_2) ?_
      refine X_iload_n rfl rfl rfl rfl ?_
      refine S_iald rfl rfl ((congrFun V.1 3).trans s_3) hx4 (by omega) (fun vz23 evz23 => ?_)
      have vf24 := K_1 (V.2.2.2.2.1 (3) ((y4 : Int).toNat) (Nat.le_of_ble_eq_true rfl)) rk_3
      rw [evz23] at vf24
      refine S_icmp_ge (tgt := 36) rfl rfl rfl hx6 rfl (fun vh25 => ?_) (fun vh25 => ?_)
      · refine X_iconst (v := (-1 : Int32)) rfl rfl rfl ?_
        refine LW_ireturn (st := []) rfl rfl rfl ?_
        refine X_aload_n rfl rfl rfl rfl ?_
        refine X_iload_n rfl rfl rfl rfl ?_
        refine X_iload rfl rfl rfl ?_
        refine S_iadd rfl rfl hx2 hx6 (by omega) (fun vz26 hvz26 => ?_)
        refine S_iald rfl rfl ((congrFun V.1 _).trans (tx_s6 u hu)) rfl (by omega) (fun vz27 evz27 => ?_)
        have vf28 := K_3 (V.2.2.2.2.1 (298 + 10 * u) ((vz26.toInt : Int).toNat) (by omega)) (tx_k6 u hu)
        rw [evz27] at vf28
        refine S_icmp_ne (tgt := 56) rfl rfl rfl (show (-1 : Int32).toInt = -1 from rfl) rfl (fun vh29 => ?_) (fun q => absurd q (by omega))
        refine X_iconst (v := (0 : Int32)) rfl rfl rfl ?_
        refine S_iaddT rfl rfl (fun vz30 => ?_)
        refine X_istore (i := 5) (ls' := [some (.ref 2), some (.ref (298 + 10 * u)), some (.int x2), some (.int x3), some (.int x4), some (.int vz30), some (.int x6)]) rfl rfl (Nat.le_of_ble_eq_true rfl) rfl ?_
        refine S_iinc (c := 1) rfl rfl rfl hx6 rfl (by omega) (fun vz31 hvz31 => ?_)
        refine LW_ls (ls' := [some (.ref 2), some (.ref (298 + 10 * u)), some (.int x2), some (.int x3), some (.int x4), some (.int vz30), some (.int vz31)]) rfl ?_
        refine LW_goto (tgt := 18) rfl rfl ?_
        exact ih18 hu V x2 y2 hx2 (by omega) x3 y3 hx3 (by omega) x4 y4 hx4 (by omega) vz30 vz30.toInt rfl vz31 vz31.toInt rfl (by omega) (by rw [evz1]; omega)   (by omega)
      · refine X_aload_n rfl rfl rfl rfl ?_
        refine X_getR (a := 6) rfl rfl rfl ((congrFun V.1 2).trans s_2) rfl ((congrFun (V.2.1 2 (by decide)) 5).trans r_2_5) ?_
        refine X_iload_n rfl rfl rfl rfl ?_
        refine X_bipush (v := (8 : Int32)) rfl rfl rfl ?_
        refine S_imul rfl rfl hx4 (show (8 : Int32).toInt = 8 from rfl) (by omega) (fun vz32 hvz32 => ?_)
        refine X_iload_n rfl rfl rfl rfl ?_
        refine S_iadd rfl rfl rfl hx6 (by omega) (fun vz33 hvz33 => ?_)
        refine S_iald rfl rfl ((congrFun V.1 6).trans s_6) rfl (by omega) (fun vz34 evz34 => ?_)
        have vf35 := K_3 (V.2.2.2.2.1 (6) ((vz33.toInt : Int).toNat) (Nat.le_of_ble_eq_true rfl)) rk_6
        rw [evz34] at vf35
        refine LW_goto (tgt := 37) rfl rfl ?_
        refine LW_ireturn (st := []) rfl rfl rfl ?_
        refine X_aload_n rfl rfl rfl rfl ?_
        refine X_iload_n rfl rfl rfl rfl ?_
        refine X_iload rfl rfl rfl ?_
        refine S_iadd rfl rfl hx2 hx6 (by omega) (fun vz36 hvz36 => ?_)
        refine S_iald rfl rfl ((congrFun V.1 _).trans (tx_s6 u hu)) rfl (by omega) (fun vz37 evz37 => ?_)
        have vf38 := K_3 (V.2.2.2.2.1 (298 + 10 * u) ((vz36.toInt : Int).toNat) (by omega)) (tx_k6 u hu)
        rw [evz37] at vf38
        refine S_icmp_ne (tgt := 56) rfl rfl rfl rfl rfl (fun vh39 => ?_) (fun vh39 => ?_)
        · refine X_iconst (v := (0 : Int32)) rfl rfl rfl ?_
          refine S_iaddT rfl rfl (fun vz40 => ?_)
          refine X_istore (i := 5) (ls' := [some (.ref 2), some (.ref (298 + 10 * u)), some (.int x2), some (.int x3), some (.int x4), some (.int vz40), some (.int x6)]) rfl rfl (Nat.le_of_ble_eq_true rfl) rfl ?_
          refine S_iinc (c := 1) rfl rfl rfl hx6 rfl (by omega) (fun vz41 hvz41 => ?_)
          refine LW_ls (ls' := [some (.ref 2), some (.ref (298 + 10 * u)), some (.int x2), some (.int x3), some (.int x4), some (.int vz40), some (.int vz41)]) rfl ?_
          refine LW_goto (tgt := 18) rfl rfl ?_
          exact ih18 hu V x2 y2 hx2 (by omega) x3 y3 hx3 (by omega) x4 y4 hx4 (by omega) vz40 vz40.toInt rfl vz41 vz41.toInt rfl (by omega) (by rw [evz1]; omega)   (by omega)
        · refine X_iconst (v := (1 : Int32)) rfl rfl rfl ?_
          refine LW_goto (tgt := 57) rfl rfl ?_
          refine S_iaddT rfl rfl (fun vz42 => ?_)
          refine X_istore (i := 5) (ls' := [some (.ref 2), some (.ref (298 + 10 * u)), some (.int x2), some (.int x3), some (.int x4), some (.int vz42), some (.int x6)]) rfl rfl (Nat.le_of_ble_eq_true rfl) rfl ?_
          refine S_iinc (c := 1) rfl rfl rfl hx6 rfl (by omega) (fun vz43 hvz43 => ?_)
          refine LW_ls (ls' := [some (.ref 2), some (.ref (298 + 10 * u)), some (.int x2), some (.int x3), some (.int x4), some (.int vz42), some (.int vz43)]) rfl ?_
          refine LW_goto (tgt := 18) rfl rfl ?_
          exact ih18 hu V x2 y2 hx2 (by omega) x3 y3 hx3 (by omega) x4 y4 hx4 (by omega) vz42 vz42.toInt rfl vz43 vz43.toInt rfl (by omega) (by rw [evz1]; omega)   (by omega)
theorem C_X5_isTold_2_Tt6_all {P : Par} {g : LH} {d : Nat}  : ∀ n : Nat, (∀ {u : Nat} (hu : u < 4) (V : Inv P g) (x2 : Int32) (y2 : Int) (hx2 : x2.toInt = y2) (hf2 : 0 ≤ y2 ∧ y2 ≤ 184) (x3 : Int32) (y3 : Int) (hx3 : x3.toInt = y3) (hf3 : 1 ≤ y3 ∧ y3 ≤ 8) (x4 : Int32) (y4 : Int) (hx4 : x4.toInt = y4) (hf4 : 0 ≤ y4 ∧ y4 ≤ 24) (o5 : Option Value) (o6 : Option Value) , (24 - y4) * 12 + 11 < (n : Int) → LW 45 (d + 5) 0 0 3 [some (.ref 2), some (.ref (298 + 10 * u)), some (.int x2), some (.int x3), some (.int x4), o5, o6] [] g (fun v g' => ∃ r : Int32, v = some (.int r) ∧ 0 ≤ r.toInt ∧ r.toInt ≤ 1 ∧ g = g')) ∧ (∀ {u : Nat} (hu : u < 4) (V : Inv P g) (x2 : Int32) (y2 : Int) (hx2 : x2.toInt = y2) (hf2 : 0 ≤ y2 ∧ y2 ≤ 184) (x3 : Int32) (y3 : Int) (hx3 : x3.toInt = y3) (hf3 : 1 ≤ y3 ∧ y3 ≤ 8) (x4 : Int32) (y4 : Int) (hx4 : x4.toInt = y4) (hf4 : 0 ≤ y4 ∧ y4 ≤ 23) (x5 : Int32) (y5 : Int) (hx5 : x5.toInt = y5) (x6 : Int32) (y6 : Int) (hx6 : x6.toInt = y6) (hf6 : 0 ≤ y6 ∧ y6 ≤ 8) (hc2_0 : 1 ≤ (Gi g 2 0).toInt ∧ (Gi g 2 0).toInt ≤ 24), (24 - y4) * 12 + 0 + (8 - y6) * 1 + 0 < (n : Int) → LW 45 (d + 5) 0 0 18 [some (.ref 2), some (.ref (298 + 10 * u)), some (.int x2), some (.int x3), some (.int x4), some (.int x5), some (.int x6)] [] g (fun v g' => ∃ r : Int32, v = some (.int r) ∧ 0 ≤ r.toInt ∧ r.toInt ≤ 1 ∧ g = g')) := by
  intro n
  induction n with
  | zero => exact ⟨@fun u hu V x2 y2 hx2 hf2 x3 y3 hx3 hf3 x4 y4 hx4 hf4 o5 o6 hmu => absurd hmu (by omega), @fun u hu V x2 y2 hx2 hf2 x3 y3 hx3 hf3 x4 y4 hx4 hf4 x5 y5 hx5 x6 y6 hx6 hf6 hc2_0 hmu => absurd hmu (by omega)⟩
  | succ n ih => exact ⟨@fun u hu V x2 y2 hx2 hf2 x3 y3 hx3 hf3 x4 y4 hx4 hf4 o5 o6 hmu => C_X5_isTold_2_Tt6_3  hu V x2 y2 hx2 hf2 x3 y3 hx3 hf3 x4 y4 hx4 hf4 o5 o6 (by omega) ih.1 ih.2, @fun u hu V x2 y2 hx2 hf2 x3 y3 hx3 hf3 x4 y4 hx4 hf4 x5 y5 hx5 x6 y6 hx6 hf6 hc2_0 hmu => C_X5_isTold_2_Tt6_18  hu V x2 y2 hx2 hf2 x3 y3 hx3 hf3 x4 y4 hx4 hf4 x5 y5 hx5 x6 y6 hx6 hf6 hc2_0 (by omega) ih.1 ih.2⟩
set_option maxRecDepth 10000 in
set_option maxHeartbeats 40000000 in
theorem C_X5_isTold_2_Tt6 {P : Par} {g : LH} {d : Nat}  {u : Nat} (hu : u < 4) (V : Inv P g) (x2 : Int32) (y2 : Int) (hx2 : x2.toInt = y2) (hf2 : 0 ≤ y2 ∧ y2 ≤ 184) (x3 : Int32) (y3 : Int) (hx3 : x3.toInt = y3) (hf3 : 1 ≤ y3 ∧ y3 ≤ 8)   : LW 45 (d + 5) 0 0 0 (lEnt (mL 45) [.ref 2, .ref (298 + 10 * u), .int x2, .int x3]) [] g (fun v g' => ∃ r : Int32, v = some (.int r) ∧ 0 ≤ r.toInt ∧ r.toInt ≤ 1 ∧ g = g') := by
  refine LW_ls (ls' := [some (.ref 2), some (.ref (298 + 10 * u)), some (.int x2), some (.int x3), none, none, none]) rfl ?_
  refine X_iconst (v := (0 : Int32)) rfl rfl rfl ?_
  refine X_istore (i := 4) (ls' := [some (.ref 2), some (.ref (298 + 10 * u)), some (.int x2), some (.int x3), some (.int (0 : Int32)), none, none]) rfl rfl (Nat.le_of_ble_eq_true rfl) rfl ?_
  exact (C_X5_isTold_2_Tt6_all (((24 - 0) * 12 + 11) + 1 : Int).toNat).1 hu V x2 y2 hx2 (by omega) x3 y3 hx3 (by omega) (0 : Int32) 0 (show (0 : Int32).toInt = 0 from rfl) (by omega) none none    (by omega)
set_option maxRecDepth 10000 in
set_option maxHeartbeats 40000000 in
theorem C_X5_tellWord_2_Tt6_66 {P : Par} {g g0 : LH} {d n : Nat}  {u : Nat} (hu : u < 4) (V : Inv P g) (hG : Gr g = Gr g0) (x2 : Int32) (y2 : Int) (hx2 : x2.toInt = y2) (hf2 : 0 ≤ y2 ∧ y2 ≤ 184) (x3 : Int32) (y3 : Int) (hx3 : x3.toInt = y3) (hf3 : 1 ≤ y3 ∧ y3 ≤ 8) (x4 : Int32) (y4 : Int) (hx4 : x4.toInt = y4) (hf4 : 0 ≤ y4 ∧ y4 ≤ 9) (x5 : Int32) (y5 : Int) (hx5 : x5.toInt = y5) (x6 : Int32) (y6 : Int) (hx6 : x6.toInt = y6) (hf6 : 0 ≤ y6 ∧ y6 ≤ 8) (hc2_0 : 0 ≤ (Gi g 2 0).toInt ∧ (Gi g 2 0).toInt ≤ 23) (hmu : (8 - y6) * 1 + 0 < (n : Int) + 1) (ih66 : ∀ (g : LH) {u : Nat} (hu : u < 4) (V : Inv P g) (hG : Gr g = Gr g0) (x2 : Int32) (y2 : Int) (hx2 : x2.toInt = y2) (hf2 : 0 ≤ y2 ∧ y2 ≤ 184) (x3 : Int32) (y3 : Int) (hx3 : x3.toInt = y3) (hf3 : 1 ≤ y3 ∧ y3 ≤ 8) (x4 : Int32) (y4 : Int) (hx4 : x4.toInt = y4) (hf4 : 0 ≤ y4 ∧ y4 ≤ 9) (x5 : Int32) (y5 : Int) (hx5 : x5.toInt = y5) (x6 : Int32) (y6 : Int) (hx6 : x6.toInt = y6) (hf6 : 0 ≤ y6 ∧ y6 ≤ 8) (hc2_0 : 0 ≤ (Gi g 2 0).toInt ∧ (Gi g 2 0).toInt ≤ 23), (8 - y6) * 1 + 0 < (n : Int) → LW 44 (d + 9) 0 0 66 [some (.ref 2), some (.ref (298 + 10 * u)), some (.int x2), some (.int x3), some (.int x4), some (.int x5), some (.int x6)] [] g (fun v g' => ∃ r : Int32, v = some (.int r) ∧ (-1) ≤ r.toInt ∧ r.toInt ≤ 23 ∧ Inv P g' ∧ Gr g' = Gr g0)) : LW 44 (d + 9) 0 0 66 [some (.ref 2), some (.ref (298 + 10 * u)), some (.int x2), some (.int x3), some (.int x4), some (.int x5), some (.int x6)] [] g (fun v g' => ∃ r : Int32, v = some (.int r) ∧ (-1) ≤ r.toInt ∧ r.toInt ≤ 23 ∧ Inv P g' ∧ Gr g' = Gr g0) := by
  obtain ⟨vz1, evz1⟩ : ∃ z, Gi g 2 0 = z := ⟨_, rfl⟩
  rw [evz1] at hc2_0
  refine X_iload rfl rfl rfl ?_
  refine X_iload_n rfl rfl rfl rfl ?_
  refine S_icmp_ge (tgt := 112) rfl rfl rfl hx6 hx3 (fun vh2 => ?_) (fun vh2 => ?_)
  · refine X_aload_n rfl rfl rfl rfl ?_
    refine X_getR (a := 3) rfl rfl rfl ((congrFun V.1 2).trans s_2) rfl ((congrFun (V.2.1 2 (by decide)) 2).trans r_2_2) ?_
    refine X_aload_n rfl rfl rfl rfl ?_
    refine X_getI (v := vz1) rfl rfl rfl ((congrFun V.1 2).trans s_2) rfl evz1 ?_
    refine X_iload_n rfl rfl rfl rfl ?_
    refine S_iast (I := Inv _) rfl rfl ((congrFun V.1 3).trans s_3) rfl (by omega) (Inv_putI V (Nat.le_of_ble_eq_true rfl) (Or.inl (by decide)) (Q_1 rk_3 (by omega))) (fun g V ve3 vn4 hq => ?_)
    have hG := hq.trans hG
    have evz1 := (vn4 (2) 0 (Or.inl (by decide))).trans evz1
    refine X_aload_n rfl rfl rfl rfl ?_
    refine X_getR (a := 4) rfl rfl rfl ((congrFun V.1 2).trans s_2) rfl ((congrFun (V.2.1 2 (by decide)) 3).trans r_2_3) ?_
    refine X_aload_n rfl rfl rfl rfl ?_
    refine X_getI (v := vz1) rfl rfl rfl ((congrFun V.1 2).trans s_2) rfl evz1 ?_
    refine X_iload rfl rfl rfl ?_
    refine S_iast (I := Inv _) rfl rfl ((congrFun V.1 4).trans s_4) rfl (by omega) (Inv_putI V (Nat.le_of_ble_eq_true rfl) (Or.inl (by decide)) (Q_2 rk_4 (by omega))) (fun g V ve5 vn6 hq => ?_)
    have hG := hq.trans hG
    have evz1 := (vn6 (2) 0 (Or.inl (by decide))).trans evz1
    refine X_aload_n rfl rfl rfl rfl ?_
    refine X_getR (a := 5) rfl rfl rfl ((congrFun V.1 2).trans s_2) rfl ((congrFun (V.2.1 2 (by decide)) 4).trans r_2_4) ?_
    refine X_aload_n rfl rfl rfl rfl ?_
    refine X_getI (v := vz1) rfl rfl rfl ((congrFun V.1 2).trans s_2) rfl evz1 ?_
    refine X_iload rfl rfl rfl ?_
    refine S_iast (I := Inv _) rfl rfl ((congrFun V.1 5).trans s_5) rfl (by omega) (Inv_putI V (Nat.le_of_ble_eq_true rfl) (Or.inl (by decide)) (Q_0 rk_5)) (fun g V ve7 vn8 hq => ?_)
    have hG := hq.trans hG
    have evz1 := (vn8 (2) 0 (Or.inl (by decide))).trans evz1
    refine X_aload_n rfl rfl rfl rfl ?_
    refine X_dup rfl rfl rfl ?_
    refine X_getI (v := vz1) rfl rfl rfl ((congrFun V.1 2).trans s_2) rfl evz1 ?_
    refine X_iconst (v := (1 : Int32)) rfl rfl rfl ?_
    refine S_iadd rfl rfl rfl (show (1 : Int32).toInt = 1 from rfl) (by omega) (fun vz9 hvz9 => ?_)
    refine S_putI (I := Inv _) rfl rfl rfl ((congrFun V.1 2).trans s_2) rfl rfl rfl rfl (Inv_putI V (Nat.le_of_ble_eq_true rfl) (Or.inl (by decide)) (Q_10_0 rk_2 (by omega))) (fun g V ve10 vn11 hq => ?_)
    have hG := hq.trans hG
    refine X_aload_n rfl rfl rfl rfl ?_
    refine X_getI (v := vz9) rfl rfl rfl ((congrFun V.1 2).trans s_2) rfl ve10 ?_
    refine X_iconst (v := (1 : Int32)) rfl rfl rfl ?_
    refine S_isub rfl rfl rfl (show (1 : Int32).toInt = 1 from rfl) (by omega) (fun vz12 hvz12 => ?_)
    have hr := (rfl : vz12.toInt = vz12.toInt)
    exact LW_ireturn (st := []) rfl rfl rfl ⟨_, rfl, by omega, by omega, V, hG⟩
  · refine X_aload_n rfl rfl rfl rfl ?_
    refine X_getR (a := 6) rfl rfl rfl ((congrFun V.1 2).trans s_2) rfl ((congrFun (V.2.1 2 (by decide)) 5).trans r_2_5) ?_
    refine X_aload_n rfl rfl rfl rfl ?_
    refine X_getI (v := vz1) rfl rfl rfl ((congrFun V.1 2).trans s_2) rfl evz1 ?_
    refine X_bipush (v := (8 : Int32)) rfl rfl rfl ?_
    refine S_imul rfl rfl rfl (show (8 : Int32).toInt = 8 from rfl) (by omega) (fun vz13 hvz13 => ?_)
    refine X_iload rfl rfl rfl ?_
    refine S_iadd rfl rfl rfl hx6 (by omega) (fun vz14 hvz14 => ?_)
    refine X_aload_n rfl rfl rfl rfl ?_
    refine X_iload_n rfl rfl rfl rfl ?_
    refine X_iload rfl rfl rfl ?_
    refine S_iadd rfl rfl hx2 hx6 (by omega) (fun vz15 hvz15 => ?_)
    refine S_iald rfl rfl ((congrFun V.1 _).trans (tx_s6 u hu)) rfl (by omega) (fun vz16 evz16 => ?_)
    have vf17 := K_3 (V.2.2.2.2.1 (298 + 10 * u) ((vz15.toInt : Int).toNat) (by omega)) (tx_k6 u hu)
    rw [evz16] at vf17
    refine S_iast (I := Inv _) rfl rfl ((congrFun V.1 6).trans s_6) rfl (by omega) (Inv_putI V (Nat.le_of_ble_eq_true rfl) (Or.inl (by decide)) (Q_3 rk_6 (by omega))) (fun g V ve18 vn19 hq => ?_)
    have hG := hq.trans hG
    have evz1 := (vn19 (2) 0 (Or.inl (by decide))).trans evz1
    have evz16 := (vn19 (298 + 10 * u) ((vz15.toInt : Int).toNat) (Or.inl (by omega))).trans evz16
    refine X_iload rfl rfl rfl ?_
    refine X_iconst (v := (1 : Int32)) rfl rfl rfl ?_
    refine X_aload_n rfl rfl rfl rfl ?_
    refine X_iload_n rfl rfl rfl rfl ?_
    refine X_iload rfl rfl rfl ?_
    refine S_iadd rfl rfl hx2 hx6 (by omega) (fun vz20 hvz20 => ?_)
    refine S_iald rfl rfl ((congrFun V.1 _).trans (tx_s6 u hu)) rfl (by omega) (fun vz21 evz21 => ?_)
    have vf22 := K_3 (V.2.2.2.2.1 (298 + 10 * u) ((vz20.toInt : Int).toNat) (by omega)) (tx_k6 u hu)
    rw [evz21] at vf22
    refine S_ishlT rfl rfl (fun vz23 => ?_)
    refine S_iorT rfl rfl (fun vz24 => ?_)
    refine X_istore (i := 5) (ls' := [some (.ref 2), some (.ref (298 + 10 * u)), some (.int x2), some (.int x3), some (.int x4), some (.int vz24), some (.int x6)]) rfl rfl (Nat.le_of_ble_eq_true rfl) rfl ?_
    refine S_iinc (c := 1) rfl rfl rfl hx6 rfl (by omega) (fun vz25 hvz25 => ?_)
    refine LW_ls (ls' := [some (.ref 2), some (.ref (298 + 10 * u)), some (.int x2), some (.int x3), some (.int x4), some (.int vz24), some (.int vz25)]) rfl ?_
    refine LW_goto (tgt := 66) rfl rfl ?_
    exact ih66 _ hu V hG x2 y2 hx2 (by omega) x3 y3 hx3 (by omega) x4 y4 hx4 (by omega) vz24 vz24.toInt rfl vz25 vz25.toInt rfl (by omega) (by rw [evz1]; omega)   (by omega)
theorem C_X5_tellWord_2_Tt6_all {P : Par} {g0 : LH} {d : Nat}  : ∀ n : Nat, (∀ (g : LH) {u : Nat} (hu : u < 4) (V : Inv P g) (hG : Gr g = Gr g0) (x2 : Int32) (y2 : Int) (hx2 : x2.toInt = y2) (hf2 : 0 ≤ y2 ∧ y2 ≤ 184) (x3 : Int32) (y3 : Int) (hx3 : x3.toInt = y3) (hf3 : 1 ≤ y3 ∧ y3 ≤ 8) (x4 : Int32) (y4 : Int) (hx4 : x4.toInt = y4) (hf4 : 0 ≤ y4 ∧ y4 ≤ 9) (x5 : Int32) (y5 : Int) (hx5 : x5.toInt = y5) (x6 : Int32) (y6 : Int) (hx6 : x6.toInt = y6) (hf6 : 0 ≤ y6 ∧ y6 ≤ 8) (hc2_0 : 0 ≤ (Gi g 2 0).toInt ∧ (Gi g 2 0).toInt ≤ 23), (8 - y6) * 1 + 0 < (n : Int) → LW 44 (d + 9) 0 0 66 [some (.ref 2), some (.ref (298 + 10 * u)), some (.int x2), some (.int x3), some (.int x4), some (.int x5), some (.int x6)] [] g (fun v g' => ∃ r : Int32, v = some (.int r) ∧ (-1) ≤ r.toInt ∧ r.toInt ≤ 23 ∧ Inv P g' ∧ Gr g' = Gr g0)) := by
  intro n
  induction n with
  | zero => exact fun g u hu V hG x2 y2 hx2 hf2 x3 y3 hx3 hf3 x4 y4 hx4 hf4 x5 y5 hx5 x6 y6 hx6 hf6 hc2_0 hmu => absurd hmu (by omega)
  | succ n ih => exact fun g u hu V hG x2 y2 hx2 hf2 x3 y3 hx3 hf3 x4 y4 hx4 hf4 x5 y5 hx5 x6 y6 hx6 hf6 hc2_0 hmu => C_X5_tellWord_2_Tt6_66  hu V hG x2 y2 hx2 hf2 x3 y3 hx3 hf3 x4 y4 hx4 hf4 x5 y5 hx5 x6 y6 hx6 hf6 hc2_0 (by omega) ih
set_option maxRecDepth 10000 in
set_option maxHeartbeats 40000000 in
theorem C_X5_tellWord_2_Tt6 {P : Par} {g : LH} {d : Nat}  {u : Nat} (hu : u < 4) (V : Inv P g) (x2 : Int32) (y2 : Int) (hx2 : x2.toInt = y2) (hf2 : 0 ≤ y2 ∧ y2 ≤ 184) (x3 : Int32) (y3 : Int) (hx3 : x3.toInt = y3) (hf3 : 0 ≤ y3 ∧ y3 ≤ 8) (x4 : Int32) (y4 : Int) (hx4 : x4.toInt = y4)   : LW 44 (d + 9) 0 0 0 (lEnt (mL 44) [.ref 2, .ref (298 + 10 * u), .int x2, .int x3, .int x4]) [] g (fun v g' => ∃ r : Int32, v = some (.int r) ∧ (-1) ≤ r.toInt ∧ r.toInt ≤ 23 ∧ Inv P g' ∧ Gr g' = Gr g) := by
  refine LW_ls (ls' := [some (.ref 2), some (.ref (298 + 10 * u)), some (.int x2), some (.int x3), some (.int x4), none, none]) rfl ?_
  have hG : Gr g = Gr g := rfl
  refine X_iload_n rfl rfl rfl rfl ?_
  refine X_iconst (v := (1 : Int32)) rfl rfl rfl ?_
  refine S_icmp_lt (tgt := 23) rfl rfl rfl hx3 (show (1 : Int32).toInt = 1 from rfl) (fun vh1 => ?_) (fun vh1 => ?_)
  · refine X_iconst (v := (-1 : Int32)) rfl rfl rfl ?_
    exact LW_ireturn (st := []) rfl rfl rfl ⟨_, rfl, by decide, by decide, V, hG⟩
  · refine X_iload_n rfl rfl rfl rfl ?_
    refine X_bipush (v := (8 : Int32)) rfl rfl rfl ?_
    refine S_icmp_gt (tgt := 23) rfl rfl rfl hx3 (show (8 : Int32).toInt = 8 from rfl) (fun q => absurd q (by omega)) (fun vh2 => ?_)
    refine X_iload_n rfl rfl rfl rfl ?_
    refine S_if_lt (tgt := 23) rfl rfl rfl hx2 (fun q => absurd q (by omega)) (fun vh3 => ?_)
    refine X_iload_n rfl rfl rfl rfl ?_
    refine X_iload_n rfl rfl rfl rfl ?_
    refine S_iadd rfl rfl hx2 hx3 (by omega) (fun vz4 hvz4 => ?_)
    refine X_aload_n rfl rfl rfl rfl ?_
    refine X_alen (t0 := 0) (v := (192 : Int32)) rfl rfl ((congrFun V.1 _).trans (tx_s6 u hu)) rfl rfl ?_
    refine S_icmp_le (tgt := 25) rfl rfl rfl rfl (show (192 : Int32).toInt = 192 from rfl) (fun vh5 => ?_) (fun q => absurd q (by omega))
    refine X_iload rfl rfl rfl ?_
    refine S_if_lt (tgt := 46) rfl rfl rfl hx4 (fun vh6 => ?_) (fun vh6 => ?_)
    · refine X_iconst (v := (-1 : Int32)) rfl rfl rfl ?_
      exact LW_ireturn (st := []) rfl rfl rfl ⟨_, rfl, by decide, by decide, V, hG⟩
    · refine X_iload rfl rfl rfl ?_
      refine X_bipush (v := (9 : Int32)) rfl rfl rfl ?_
      refine S_icmp_gt (tgt := 46) rfl rfl rfl hx4 (show (9 : Int32).toInt = 9 from rfl) (fun vh7 => ?_) (fun vh7 => ?_)
      · refine X_iconst (v := (-1 : Int32)) rfl rfl rfl ?_
        exact LW_ireturn (st := []) rfl rfl rfl ⟨_, rfl, by decide, by decide, V, hG⟩
      · refine X_aload_n rfl rfl rfl rfl ?_
        refine S_getI rfl rfl rfl ((congrFun V.1 2).trans s_2) rfl (fun vz8 evz8 => ?_)
        have vf9 := K_10_0 (V.2.2.2.2.1 (2) (0) (Nat.le_of_ble_eq_true rfl)) rk_2
        rw [evz8] at vf9
        refine X_bipush (v := (24 : Int32)) rfl rfl rfl ?_
        refine S_icmp_lt (tgt := 48) rfl rfl rfl rfl (show (24 : Int32).toInt = 24 from rfl) (fun vh10 => ?_) (fun vh10 => ?_)
        · refine X_aload_n rfl rfl rfl rfl ?_
          refine X_aload_n rfl rfl rfl rfl ?_
          refine X_iload_n rfl rfl rfl rfl ?_
          refine X_iload_n rfl rfl rfl rfl ?_
          refine Y_callV (as := [.ref (298 + 10 * u), .int x2, .int x3]) (st := []) rfl rfl rfl (by decide) rfl (Nat.le_of_ble_eq_true rfl) (by decide) (Nat.le_of_ble_eq_true rfl) rfl ((congrFun V.1 2).trans s_2) (by decide) (C_X5_isTold_2_Tt6 hu V x2 y2 hx2 (by omega) x3 y3 hx3 (by omega) ) ?_
          rintro _ g' ⟨vr11, rfl, hrvr110, hrvr111, hgg⟩
          subst hgg
          refine S_if_eq (tgt := 60) rfl rfl rfl rfl (fun vh12 => ?_) (fun vh12 => ?_)
          · refine X_iconst (v := (0 : Int32)) rfl rfl rfl ?_
            refine X_istore (i := 5) (ls' := [some (.ref 2), some (.ref (298 + 10 * u)), some (.int x2), some (.int x3), some (.int x4), some (.int (0 : Int32)), none]) rfl rfl (Nat.le_of_ble_eq_true rfl) rfl ?_
            refine X_iconst (v := (0 : Int32)) rfl rfl rfl ?_
            refine X_istore (i := 6) (ls' := [some (.ref 2), some (.ref (298 + 10 * u)), some (.int x2), some (.int x3), some (.int x4), some (.int (0 : Int32)), some (.int (0 : Int32))]) rfl rfl (Nat.le_of_ble_eq_true rfl) rfl ?_
            exact (C_X5_tellWord_2_Tt6_all (((8 - 0) * 1 + 0) + 1 : Int).toNat) _ hu V hG x2 y2 hx2 (by omega) x3 y3 hx3 (by omega) x4 y4 hx4 (by omega) (0 : Int32) 0 (show (0 : Int32).toInt = 0 from rfl) (0 : Int32) 0 (show (0 : Int32).toInt = 0 from rfl) (by omega) (by rw [evz8]; omega)   (by omega)
          · refine X_iconst (v := (-1 : Int32)) rfl rfl rfl ?_
            exact LW_ireturn (st := []) rfl rfl rfl ⟨_, rfl, by decide, by decide, V, hG⟩
        · refine X_iconst (v := (-1 : Int32)) rfl rfl rfl ?_
          exact LW_ireturn (st := []) rfl rfl rfl ⟨_, rfl, by decide, by decide, V, hG⟩
set_option maxRecDepth 10000 in
set_option maxHeartbeats 40000000 in
theorem C_X5_tellSaying_2_Tt6_42 {P : Par} {g g0 : LH} {d n : Nat}  {u : Nat} (hu : u < 4) (V : Inv P g) (hG : Gr g = Gr g0) (x2 : Int32) (y2 : Int) (hx2 : x2.toInt = y2) (hf2 : 0 ≤ y2 ∧ y2 ≤ 184) (x3 : Int32) (y3 : Int) (hx3 : x3.toInt = y3) (hf3 : 1 ≤ y3 ∧ y3 ≤ 8) (x4 : Int32) (y4 : Int) (hx4 : x4.toInt = y4) (x5 : Int32) (y5 : Int) (hx5 : x5.toInt = y5) (hf5 : 0 ≤ y5 ∧ y5 ≤ 8) (hc2_1 : 0 ≤ (Gi g 2 1).toInt ∧ (Gi g 2 1).toInt ≤ 7) (hmu : (8 - y5) * 1 + 0 < (n : Int) + 1) (ih42 : ∀ (g : LH) {u : Nat} (hu : u < 4) (V : Inv P g) (hG : Gr g = Gr g0) (x2 : Int32) (y2 : Int) (hx2 : x2.toInt = y2) (hf2 : 0 ≤ y2 ∧ y2 ≤ 184) (x3 : Int32) (y3 : Int) (hx3 : x3.toInt = y3) (hf3 : 1 ≤ y3 ∧ y3 ≤ 8) (x4 : Int32) (y4 : Int) (hx4 : x4.toInt = y4) (x5 : Int32) (y5 : Int) (hx5 : x5.toInt = y5) (hf5 : 0 ≤ y5 ∧ y5 ≤ 8) (hc2_1 : 0 ≤ (Gi g 2 1).toInt ∧ (Gi g 2 1).toInt ≤ 7), (8 - y5) * 1 + 0 < (n : Int) → LW 46 (d + 3) 0 0 42 [some (.ref 2), some (.ref (298 + 10 * u)), some (.int x2), some (.int x3), some (.int x4), some (.int x5)] [] g (fun v g' => ∃ r : Int32, v = some (.int r) ∧ (-1) ≤ r.toInt ∧ r.toInt ≤ 7 ∧ Inv P g' ∧ Gr g' = Gr g0)) : LW 46 (d + 3) 0 0 42 [some (.ref 2), some (.ref (298 + 10 * u)), some (.int x2), some (.int x3), some (.int x4), some (.int x5)] [] g (fun v g' => ∃ r : Int32, v = some (.int r) ∧ (-1) ≤ r.toInt ∧ r.toInt ≤ 7 ∧ Inv P g' ∧ Gr g' = Gr g0) := by
  obtain ⟨vz1, evz1⟩ : ∃ z, Gi g 2 1 = z := ⟨_, rfl⟩
  rw [evz1] at hc2_1
  refine X_iload rfl rfl rfl ?_
  refine X_iload_n rfl rfl rfl rfl ?_
  refine S_icmp_ge (tgt := 88) rfl rfl rfl hx5 hx3 (fun vh2 => ?_) (fun vh2 => ?_)
  · refine X_aload_n rfl rfl rfl rfl ?_
    refine X_getR (a := 7) rfl rfl rfl ((congrFun V.1 2).trans s_2) rfl ((congrFun (V.2.1 2 (by decide)) 6).trans r_2_6) ?_
    refine X_aload_n rfl rfl rfl rfl ?_
    refine X_getI (v := vz1) rfl rfl rfl ((congrFun V.1 2).trans s_2) rfl evz1 ?_
    refine X_iload_n rfl rfl rfl rfl ?_
    refine S_iast (I := Inv _) rfl rfl ((congrFun V.1 7).trans s_7) rfl (by omega) (Inv_putI V (Nat.le_of_ble_eq_true rfl) (Or.inl (by decide)) (Q_1 rk_7 (by omega))) (fun g V ve3 vn4 hq => ?_)
    have hG := hq.trans hG
    have evz1 := (vn4 (2) 1 (Or.inl (by decide))).trans evz1
    refine X_aload_n rfl rfl rfl rfl ?_
    refine X_getR (a := 8) rfl rfl rfl ((congrFun V.1 2).trans s_2) rfl ((congrFun (V.2.1 2 (by decide)) 7).trans r_2_7) ?_
    refine X_aload_n rfl rfl rfl rfl ?_
    refine X_getI (v := vz1) rfl rfl rfl ((congrFun V.1 2).trans s_2) rfl evz1 ?_
    refine X_iload rfl rfl rfl ?_
    refine S_iast (I := Inv _) rfl rfl ((congrFun V.1 8).trans s_8) rfl (by omega) (Inv_putI V (Nat.le_of_ble_eq_true rfl) (Or.inl (by decide)) (Q_0 rk_8)) (fun g V ve5 vn6 hq => ?_)
    have hG := hq.trans hG
    have evz1 := (vn6 (2) 1 (Or.inl (by decide))).trans evz1
    refine X_aload_n rfl rfl rfl rfl ?_
    refine X_dup rfl rfl rfl ?_
    refine X_getI (v := vz1) rfl rfl rfl ((congrFun V.1 2).trans s_2) rfl evz1 ?_
    refine X_iconst (v := (1 : Int32)) rfl rfl rfl ?_
    refine S_iadd rfl rfl rfl (show (1 : Int32).toInt = 1 from rfl) (by omega) (fun vz7 hvz7 => ?_)
    refine S_putI (I := Inv _) rfl rfl rfl ((congrFun V.1 2).trans s_2) rfl rfl rfl rfl (Inv_putI V (Nat.le_of_ble_eq_true rfl) (Or.inl (by decide)) (Q_10_1 rk_2 (by omega))) (fun g V ve8 vn9 hq => ?_)
    have hG := hq.trans hG
    refine X_aload_n rfl rfl rfl rfl ?_
    refine X_getI (v := vz7) rfl rfl rfl ((congrFun V.1 2).trans s_2) rfl ve8 ?_
    refine X_iconst (v := (1 : Int32)) rfl rfl rfl ?_
    refine S_isub rfl rfl rfl (show (1 : Int32).toInt = 1 from rfl) (by omega) (fun vz10 hvz10 => ?_)
    have hr := (rfl : vz10.toInt = vz10.toInt)
    exact LW_ireturn (st := []) rfl rfl rfl ⟨_, rfl, by omega, by omega, V, hG⟩
  · refine X_aload_n rfl rfl rfl rfl ?_
    refine X_getR (a := 9) rfl rfl rfl ((congrFun V.1 2).trans s_2) rfl ((congrFun (V.2.1 2 (by decide)) 8).trans r_2_8) ?_
    refine X_aload_n rfl rfl rfl rfl ?_
    refine X_getI (v := vz1) rfl rfl rfl ((congrFun V.1 2).trans s_2) rfl evz1 ?_
    refine X_bipush (v := (8 : Int32)) rfl rfl rfl ?_
    refine S_imul rfl rfl rfl (show (8 : Int32).toInt = 8 from rfl) (by omega) (fun vz11 hvz11 => ?_)
    refine X_iload rfl rfl rfl ?_
    refine S_iadd rfl rfl rfl hx5 (by omega) (fun vz12 hvz12 => ?_)
    refine X_aload_n rfl rfl rfl rfl ?_
    refine X_iload_n rfl rfl rfl rfl ?_
    refine X_iload rfl rfl rfl ?_
    refine S_iadd rfl rfl hx2 hx5 (by omega) (fun vz13 hvz13 => ?_)
    refine S_iald rfl rfl ((congrFun V.1 _).trans (tx_s6 u hu)) rfl (by omega) (fun vz14 evz14 => ?_)
    have vf15 := K_3 (V.2.2.2.2.1 (298 + 10 * u) ((vz13.toInt : Int).toNat) (by omega)) (tx_k6 u hu)
    rw [evz14] at vf15
    refine S_iast (I := Inv _) rfl rfl ((congrFun V.1 9).trans s_9) rfl (by omega) (Inv_putI V (Nat.le_of_ble_eq_true rfl) (Or.inl (by decide)) (Q_3 rk_9 (by omega))) (fun g V ve16 vn17 hq => ?_)
    have hG := hq.trans hG
    have evz1 := (vn17 (2) 1 (Or.inl (by decide))).trans evz1
    have evz14 := (vn17 (298 + 10 * u) ((vz13.toInt : Int).toNat) (Or.inl (by omega))).trans evz14
    refine X_iload rfl rfl rfl ?_
    refine X_iconst (v := (1 : Int32)) rfl rfl rfl ?_
    refine X_aload_n rfl rfl rfl rfl ?_
    refine X_iload_n rfl rfl rfl rfl ?_
    refine X_iload rfl rfl rfl ?_
    refine S_iadd rfl rfl hx2 hx5 (by omega) (fun vz18 hvz18 => ?_)
    refine S_iald rfl rfl ((congrFun V.1 _).trans (tx_s6 u hu)) rfl (by omega) (fun vz19 evz19 => ?_)
    have vf20 := K_3 (V.2.2.2.2.1 (298 + 10 * u) ((vz18.toInt : Int).toNat) (by omega)) (tx_k6 u hu)
    rw [evz19] at vf20
    refine S_ishlT rfl rfl (fun vz21 => ?_)
    refine S_iorT rfl rfl (fun vz22 => ?_)
    refine X_istore (i := 4) (ls' := [some (.ref 2), some (.ref (298 + 10 * u)), some (.int x2), some (.int x3), some (.int vz22), some (.int x5)]) rfl rfl (Nat.le_of_ble_eq_true rfl) rfl ?_
    refine S_iinc (c := 1) rfl rfl rfl hx5 rfl (by omega) (fun vz23 hvz23 => ?_)
    refine LW_ls (ls' := [some (.ref 2), some (.ref (298 + 10 * u)), some (.int x2), some (.int x3), some (.int vz22), some (.int vz23)]) rfl ?_
    refine LW_goto (tgt := 42) rfl rfl ?_
    exact ih42 _ hu V hG x2 y2 hx2 (by omega) x3 y3 hx3 (by omega) vz22 vz22.toInt rfl vz23 vz23.toInt rfl (by omega) (by rw [evz1]; omega)   (by omega)
theorem C_X5_tellSaying_2_Tt6_all {P : Par} {g0 : LH} {d : Nat}  : ∀ n : Nat, (∀ (g : LH) {u : Nat} (hu : u < 4) (V : Inv P g) (hG : Gr g = Gr g0) (x2 : Int32) (y2 : Int) (hx2 : x2.toInt = y2) (hf2 : 0 ≤ y2 ∧ y2 ≤ 184) (x3 : Int32) (y3 : Int) (hx3 : x3.toInt = y3) (hf3 : 1 ≤ y3 ∧ y3 ≤ 8) (x4 : Int32) (y4 : Int) (hx4 : x4.toInt = y4) (x5 : Int32) (y5 : Int) (hx5 : x5.toInt = y5) (hf5 : 0 ≤ y5 ∧ y5 ≤ 8) (hc2_1 : 0 ≤ (Gi g 2 1).toInt ∧ (Gi g 2 1).toInt ≤ 7), (8 - y5) * 1 + 0 < (n : Int) → LW 46 (d + 3) 0 0 42 [some (.ref 2), some (.ref (298 + 10 * u)), some (.int x2), some (.int x3), some (.int x4), some (.int x5)] [] g (fun v g' => ∃ r : Int32, v = some (.int r) ∧ (-1) ≤ r.toInt ∧ r.toInt ≤ 7 ∧ Inv P g' ∧ Gr g' = Gr g0)) := by
  intro n
  induction n with
  | zero => exact fun g u hu V hG x2 y2 hx2 hf2 x3 y3 hx3 hf3 x4 y4 hx4 x5 y5 hx5 hf5 hc2_1 hmu => absurd hmu (by omega)
  | succ n ih => exact fun g u hu V hG x2 y2 hx2 hf2 x3 y3 hx3 hf3 x4 y4 hx4 x5 y5 hx5 hf5 hc2_1 hmu => C_X5_tellSaying_2_Tt6_42  hu V hG x2 y2 hx2 hf2 x3 y3 hx3 hf3 x4 y4 hx4 x5 y5 hx5 hf5 hc2_1 (by omega) ih
set_option maxRecDepth 10000 in
set_option maxHeartbeats 40000000 in
theorem C_X5_tellSaying_2_Tt6 {P : Par} {g : LH} {d : Nat}  {u : Nat} (hu : u < 4) (V : Inv P g) (x2 : Int32) (y2 : Int) (hx2 : x2.toInt = y2) (hf2 : 0 ≤ y2 ∧ y2 ≤ 184) (x3 : Int32) (y3 : Int) (hx3 : x3.toInt = y3) (hf3 : 0 ≤ y3 ∧ y3 ≤ 8)   : LW 46 (d + 3) 0 0 0 (lEnt (mL 46) [.ref 2, .ref (298 + 10 * u), .int x2, .int x3]) [] g (fun v g' => ∃ r : Int32, v = some (.int r) ∧ (-1) ≤ r.toInt ∧ r.toInt ≤ 7 ∧ Inv P g' ∧ Gr g' = Gr g) := by
  refine LW_ls (ls' := [some (.ref 2), some (.ref (298 + 10 * u)), some (.int x2), some (.int x3), none, none]) rfl ?_
  have hG : Gr g = Gr g := rfl
  refine X_iload_n rfl rfl rfl rfl ?_
  refine X_iconst (v := (1 : Int32)) rfl rfl rfl ?_
  refine S_icmp_lt (tgt := 23) rfl rfl rfl hx3 (show (1 : Int32).toInt = 1 from rfl) (fun vh1 => ?_) (fun vh1 => ?_)
  · refine X_iconst (v := (-1 : Int32)) rfl rfl rfl ?_
    exact LW_ireturn (st := []) rfl rfl rfl ⟨_, rfl, by decide, by decide, V, hG⟩
  · refine X_iload_n rfl rfl rfl rfl ?_
    refine X_bipush (v := (8 : Int32)) rfl rfl rfl ?_
    refine S_icmp_gt (tgt := 23) rfl rfl rfl hx3 (show (8 : Int32).toInt = 8 from rfl) (fun q => absurd q (by omega)) (fun vh2 => ?_)
    refine X_iload_n rfl rfl rfl rfl ?_
    refine S_if_lt (tgt := 23) rfl rfl rfl hx2 (fun q => absurd q (by omega)) (fun vh3 => ?_)
    refine X_iload_n rfl rfl rfl rfl ?_
    refine X_iload_n rfl rfl rfl rfl ?_
    refine S_iadd rfl rfl hx2 hx3 (by omega) (fun vz4 hvz4 => ?_)
    refine X_aload_n rfl rfl rfl rfl ?_
    refine X_alen (t0 := 0) (v := (192 : Int32)) rfl rfl ((congrFun V.1 _).trans (tx_s6 u hu)) rfl rfl ?_
    refine S_icmp_le (tgt := 25) rfl rfl rfl rfl (show (192 : Int32).toInt = 192 from rfl) (fun vh5 => ?_) (fun q => absurd q (by omega))
    refine X_aload_n rfl rfl rfl rfl ?_
    refine S_getI rfl rfl rfl ((congrFun V.1 2).trans s_2) rfl (fun vz6 evz6 => ?_)
    have vf7 := K_10_1 (V.2.2.2.2.1 (2) (1) (Nat.le_of_ble_eq_true rfl)) rk_2
    rw [evz6] at vf7
    refine X_bipush (v := (8 : Int32)) rfl rfl rfl ?_
    refine S_icmp_lt (tgt := 36) rfl rfl rfl rfl (show (8 : Int32).toInt = 8 from rfl) (fun vh8 => ?_) (fun vh8 => ?_)
    · refine X_iconst (v := (0 : Int32)) rfl rfl rfl ?_
      refine X_istore (i := 4) (ls' := [some (.ref 2), some (.ref (298 + 10 * u)), some (.int x2), some (.int x3), some (.int (0 : Int32)), none]) rfl rfl (Nat.le_of_ble_eq_true rfl) rfl ?_
      refine X_iconst (v := (0 : Int32)) rfl rfl rfl ?_
      refine X_istore (i := 5) (ls' := [some (.ref 2), some (.ref (298 + 10 * u)), some (.int x2), some (.int x3), some (.int (0 : Int32)), some (.int (0 : Int32))]) rfl rfl (Nat.le_of_ble_eq_true rfl) rfl ?_
      exact (C_X5_tellSaying_2_Tt6_all (((8 - 0) * 1 + 0) + 1 : Int).toNat) _ hu V hG x2 y2 hx2 (by omega) x3 y3 hx3 (by omega) (0 : Int32) 0 (show (0 : Int32).toInt = 0 from rfl) (0 : Int32) 0 (show (0 : Int32).toInt = 0 from rfl) (by omega) (by rw [evz6]; omega)   (by omega)
    · refine X_iconst (v := (-1 : Int32)) rfl rfl rfl ?_
      exact LW_ireturn (st := []) rfl rfl rfl ⟨_, rfl, by decide, by decide, V, hG⟩
set_option maxRecDepth 10000 in
set_option maxHeartbeats 40000000 in
theorem C_X1_playClause_342_T {P : Par} {g : LH} {d : Nat}  {u : Nat} (hu : u < 4) (V : Inv P g) (x2 : Int32) (y2 : Int) (hx2 : x2.toInt = y2) (hf2 : 0 ≤ y2 ∧ y2 ≤ 23)   : LW 16 (d + 27) 0 0 0 (lEnt (mL 16) [.ref 342, .ref (292 + 10 * u), .int x2]) [] g (fun v g' => ∃ r : Int32, v = some (.int r) ∧ 0 ≤ r.toInt ∧ r.toInt ≤ 1 ∧ Inv P g' ∧ Gr g' = Gr g) := by
  refine LW_ls (ls' := [some (.ref 342), some (.ref (292 + 10 * u)), some (.int x2), none, none, none]) rfl ?_
  have hG : Gr g = Gr g := rfl
  refine X_aload_n rfl rfl rfl rfl ?_
  refine X_getR (a := 294 + 10 * u) rfl rfl rfl ((congrFun V.1 _).trans (tx_s u hu)) rfl ((congrFun (V.2.1 (292 + 10 * u) (by omega)) 2).trans (tx_r2 u hu)) ?_
  refine X_iload_n rfl rfl rfl rfl ?_
  refine S_iald rfl rfl ((congrFun V.1 _).trans (tx_s2 u hu)) hx2 (by omega) (fun vz1 evz1 => ?_)
  refine X_istore_n (i := 3) (ls' := [some (.ref 342), some (.ref (292 + 10 * u)), some (.int x2), some (.int vz1), none, none]) rfl rfl rfl (Nat.le_of_ble_eq_true rfl) rfl ?_
  refine X_aload_n rfl rfl rfl rfl ?_
  refine X_getR (a := 296 + 10 * u) rfl rfl rfl ((congrFun V.1 _).trans (tx_s u hu)) rfl ((congrFun (V.2.1 (292 + 10 * u) (by omega)) 4).trans (tx_r4 u hu)) ?_
  refine X_iload_n rfl rfl rfl rfl ?_
  refine S_iald rfl rfl ((congrFun V.1 _).trans (tx_s4 u hu)) hx2 (by omega) (fun vz2 evz2 => ?_)
  refine X_istore (i := 4) (ls' := [some (.ref 342), some (.ref (292 + 10 * u)), some (.int x2), some (.int vz1), some (.int vz2), none]) rfl rfl (Nat.le_of_ble_eq_true rfl) rfl ?_
  refine X_iload_n rfl rfl rfl rfl ?_
  refine X_bipush (v := (8 : Int32)) rfl rfl rfl ?_
  refine S_imul rfl rfl hx2 (show (8 : Int32).toInt = 8 from rfl) (by omega) (fun vz3 hvz3 => ?_)
  refine X_istore (i := 5) (ls' := [some (.ref 342), some (.ref (292 + 10 * u)), some (.int x2), some (.int vz1), some (.int vz2), some (.int vz3)]) rfl rfl (Nat.le_of_ble_eq_true rfl) rfl ?_
  refine X_aload_n rfl rfl rfl rfl ?_
  refine X_getR (a := 293 + 10 * u) rfl rfl rfl ((congrFun V.1 _).trans (tx_s u hu)) rfl ((congrFun (V.2.1 (292 + 10 * u) (by omega)) 1).trans (tx_r1 u hu)) ?_
  refine X_iload_n rfl rfl rfl rfl ?_
  refine S_iald rfl rfl ((congrFun V.1 _).trans (tx_s1 u hu)) hx2 (by omega) (fun vz4 evz4 => ?_)
  by_cases vh5 : vz4.toInt = 4
  · refine S_tableIn (tgt := 76) (c := 4) rfl ((rfl : _ = vz4.toInt).trans vh5) (by decide) (by decide) rfl rfl ?_
    refine X_aload_n rfl rfl rfl rfl ?_
    refine X_getR (a := 1) rfl rfl rfl ((congrFun V.1 342).trans s_342) rfl ((congrFun (V.2.1 342 (by decide)) 0).trans r_342_0) ?_
    refine X_getR (a := 2) rfl rfl rfl ((congrFun V.1 1).trans s_1) rfl ((congrFun (V.2.1 1 (by decide)) 0).trans r_1_0) ?_
    refine X_aload_n rfl rfl rfl rfl ?_
    refine X_getR (a := 298 + 10 * u) rfl rfl rfl ((congrFun V.1 _).trans (tx_s u hu)) rfl ((congrFun (V.2.1 (292 + 10 * u) (by omega)) 6).trans (tx_r6 u hu)) ?_
    refine X_iload rfl rfl rfl ?_
    refine X_aload_n rfl rfl rfl rfl ?_
    refine X_getR (a := 297 + 10 * u) rfl rfl rfl ((congrFun V.1 _).trans (tx_s u hu)) rfl ((congrFun (V.2.1 (292 + 10 * u) (by omega)) 5).trans (tx_r5 u hu)) ?_
    refine X_iload_n rfl rfl rfl rfl ?_
    refine S_iald rfl rfl ((congrFun V.1 _).trans (tx_s5 u hu)) hx2 (by omega) (fun vz6 evz6 => ?_)
    have vf7 := K_1 (V.2.2.2.2.1 (297 + 10 * u) ((y2 : Int).toNat) (by omega)) (tx_k5 u hu)
    rw [evz6] at vf7
    refine X_iload rfl rfl rfl ?_
    refine Y_callV (as := [.ref (298 + 10 * u), .int vz3, .int vz6, .int vz2]) (st := []) rfl rfl rfl (by decide) rfl (Nat.le_of_ble_eq_true rfl) (by decide) (Nat.le_of_ble_eq_true rfl) rfl ((congrFun V.1 2).trans s_2) (by decide) (C_X5_tellWord_2_Tt6 hu V vz3 vz3.toInt rfl (by omega) vz6 vz6.toInt rfl (by omega) vz2 vz2.toInt rfl ) ?_
    rintro _ g ⟨vr8, rfl, hrvr80, hrvr81, V, hq⟩
    have hG := hq.trans hG
    refine X_iconst (v := (-1 : Int32)) rfl rfl rfl ?_
    refine S_icmp_eq (tgt := 108) rfl rfl rfl rfl (show (-1 : Int32).toInt = -1 from rfl) (fun vh9 => ?_) (fun vh9 => ?_)
    · refine X_iconst (v := (0 : Int32)) rfl rfl rfl ?_
      exact LW_ireturn (st := []) rfl rfl rfl ⟨_, rfl, by decide, by decide, V, hG⟩
    · refine X_iconst (v := (1 : Int32)) rfl rfl rfl ?_
      refine LW_goto (tgt := 109) rfl rfl ?_
      exact LW_ireturn (st := []) rfl rfl rfl ⟨_, rfl, by decide, by decide, V, hG⟩
  by_cases vh10 : vz4.toInt = 5
  · refine S_tableIn (tgt := 110) (c := 5) rfl ((rfl : _ = vz4.toInt).trans vh10) (by decide) (by decide) rfl rfl ?_
    refine X_aload_n rfl rfl rfl rfl ?_
    refine X_getR (a := 1) rfl rfl rfl ((congrFun V.1 342).trans s_342) rfl ((congrFun (V.2.1 342 (by decide)) 0).trans r_342_0) ?_
    refine X_getR (a := 2) rfl rfl rfl ((congrFun V.1 1).trans s_1) rfl ((congrFun (V.2.1 1 (by decide)) 0).trans r_1_0) ?_
    refine X_aload_n rfl rfl rfl rfl ?_
    refine X_getR (a := 298 + 10 * u) rfl rfl rfl ((congrFun V.1 _).trans (tx_s u hu)) rfl ((congrFun (V.2.1 (292 + 10 * u) (by omega)) 6).trans (tx_r6 u hu)) ?_
    refine X_iload rfl rfl rfl ?_
    refine X_aload_n rfl rfl rfl rfl ?_
    refine X_getR (a := 297 + 10 * u) rfl rfl rfl ((congrFun V.1 _).trans (tx_s u hu)) rfl ((congrFun (V.2.1 (292 + 10 * u) (by omega)) 5).trans (tx_r5 u hu)) ?_
    refine X_iload_n rfl rfl rfl rfl ?_
    refine S_iald rfl rfl ((congrFun V.1 _).trans (tx_s5 u hu)) hx2 (by omega) (fun vz11 evz11 => ?_)
    have vf12 := K_1 (V.2.2.2.2.1 (297 + 10 * u) ((y2 : Int).toNat) (by omega)) (tx_k5 u hu)
    rw [evz11] at vf12
    refine Y_callV (as := [.ref (298 + 10 * u), .int vz3, .int vz11]) (st := []) rfl rfl rfl (by decide) rfl (Nat.le_of_ble_eq_true rfl) (by decide) (Nat.le_of_ble_eq_true rfl) rfl ((congrFun V.1 2).trans s_2) (by decide) (C_X5_tellSaying_2_Tt6 hu V vz3 vz3.toInt rfl (by omega) vz11 vz11.toInt rfl (by omega) ) ?_
    rintro _ g ⟨vr13, rfl, hrvr130, hrvr131, V, hq⟩
    have hG := hq.trans hG
    refine X_iconst (v := (-1 : Int32)) rfl rfl rfl ?_
    refine S_icmp_eq (tgt := 140) rfl rfl rfl rfl (show (-1 : Int32).toInt = -1 from rfl) (fun vh14 => ?_) (fun vh14 => ?_)
    · refine X_iconst (v := (0 : Int32)) rfl rfl rfl ?_
      exact LW_ireturn (st := []) rfl rfl rfl ⟨_, rfl, by decide, by decide, V, hG⟩
    · refine X_iconst (v := (1 : Int32)) rfl rfl rfl ?_
      refine LW_goto (tgt := 141) rfl rfl ?_
      exact LW_ireturn (st := []) rfl rfl rfl ⟨_, rfl, by decide, by decide, V, hG⟩
  by_cases vh15 : vz4.toInt = 6
  · refine S_tableIn (tgt := 142) (c := 6) rfl ((rfl : _ = vz4.toInt).trans vh15) (by decide) (by decide) rfl rfl ?_
    refine X_aload_n rfl rfl rfl rfl ?_
    refine X_getR (a := 1) rfl rfl rfl ((congrFun V.1 342).trans s_342) rfl ((congrFun (V.2.1 342 (by decide)) 0).trans r_342_0) ?_
    refine X_iload_n rfl rfl rfl rfl ?_
    refine X_aload_n rfl rfl rfl rfl ?_
    refine X_getR (a := 295 + 10 * u) rfl rfl rfl ((congrFun V.1 _).trans (tx_s u hu)) rfl ((congrFun (V.2.1 (292 + 10 * u) (by omega)) 3).trans (tx_r3 u hu)) ?_
    refine X_iload_n rfl rfl rfl rfl ?_
    refine S_iald rfl rfl ((congrFun V.1 _).trans (tx_s3 u hu)) hx2 (by omega) (fun vz16 evz16 => ?_)
    refine Y_callV (as := [.int vz1, .int vz16]) (st := []) rfl rfl rfl (by decide) rfl (Nat.le_of_ble_eq_true rfl) (by decide) (Nat.le_of_ble_eq_true rfl) rfl ((congrFun V.1 1).trans s_1) (by decide) (C_X2_tieAll V vz1 vz1.toInt rfl vz16 vz16.toInt rfl ) ?_
    rintro _ g ⟨vr17, rfl, hrvr170, hrvr171, V, hq⟩
    have hG := hq.trans hG
    have hr := (rfl : vr17.toInt = vr17.toInt)
    exact LW_ireturn (st := []) rfl rfl (nbool rfl (by omega)) ⟨_, rfl, by omega, by omega, V, hG⟩
  by_cases vh18 : vz4.toInt = 7
  · refine S_tableIn (tgt := 157) (c := 7) rfl ((rfl : _ = vz4.toInt).trans vh18) (by decide) (by decide) rfl rfl ?_
    refine X_aload_n rfl rfl rfl rfl ?_
    refine X_iload_n rfl rfl rfl rfl ?_
    refine Y_callV (as := [.int vz1]) (st := []) rfl rfl rfl (by decide) rfl (Nat.le_of_ble_eq_true rfl) (by decide) (Nat.le_of_ble_eq_true rfl) rfl ((congrFun V.1 342).trans s_342) (by decide) (C_X1_callOut V vz1 vz1.toInt rfl ) ?_
    rintro _ g ⟨vr19, rfl, hrvr190, hrvr191, V, hq⟩
    have hG := hq.trans hG
    refine S_if_le (tgt := 169) rfl rfl rfl rfl (fun vh20 => ?_) (fun vh20 => ?_)
    · refine X_iconst (v := (0 : Int32)) rfl rfl rfl ?_
      exact LW_ireturn (st := []) rfl rfl rfl ⟨_, rfl, by decide, by decide, V, hG⟩
    · refine X_iconst (v := (1 : Int32)) rfl rfl rfl ?_
      refine LW_goto (tgt := 170) rfl rfl ?_
      exact LW_ireturn (st := []) rfl rfl rfl ⟨_, rfl, by decide, by decide, V, hG⟩
  by_cases vh21 : vz4.toInt = 8
  · refine S_tableIn (tgt := 171) (c := 8) rfl ((rfl : _ = vz4.toInt).trans vh21) (by decide) (by decide) rfl rfl ?_
    refine X_aload_n rfl rfl rfl rfl ?_
    refine X_iload_n rfl rfl rfl rfl ?_
    refine Y_callV (as := [.int vz1]) (st := []) rfl rfl rfl (by decide) rfl (Nat.le_of_ble_eq_true rfl) (by decide) (Nat.le_of_ble_eq_true rfl) rfl ((congrFun V.1 342).trans s_342) (by decide) (C_X1_callBack V vz1 vz1.toInt rfl ) ?_
    rintro _ g ⟨vr22, rfl, hrvr220, hrvr221, V, hq⟩
    have hG := hq.trans hG
    refine S_if_le (tgt := 183) rfl rfl rfl rfl (fun vh23 => ?_) (fun vh23 => ?_)
    · refine X_iconst (v := (0 : Int32)) rfl rfl rfl ?_
      exact LW_ireturn (st := []) rfl rfl rfl ⟨_, rfl, by decide, by decide, V, hG⟩
    · refine X_iconst (v := (1 : Int32)) rfl rfl rfl ?_
      refine LW_goto (tgt := 184) rfl rfl ?_
      exact LW_ireturn (st := []) rfl rfl rfl ⟨_, rfl, by decide, by decide, V, hG⟩
  by_cases vh24 : vz4.toInt = 9
  · refine S_tableIn (tgt := 185) (c := 9) rfl ((rfl : _ = vz4.toInt).trans vh24) (by decide) (by decide) rfl rfl ?_
    refine X_aload_n rfl rfl rfl rfl ?_
    refine X_iload_n rfl rfl rfl rfl ?_
    refine X_iload rfl rfl rfl ?_
    refine Y_callV (as := [.int vz1, .int vz2]) (st := []) rfl rfl rfl (by decide) rfl (Nat.le_of_ble_eq_true rfl) (by decide) (Nat.le_of_ble_eq_true rfl) rfl ((congrFun V.1 342).trans s_342) (by decide) (C_X1_raiseAll V vz1 vz1.toInt rfl vz2 vz2.toInt rfl ) ?_
    rintro _ g ⟨vr25, rfl, hrvr250, hrvr251, V, hq⟩
    have hG := hq.trans hG
    have hr := (rfl : vr25.toInt = vr25.toInt)
    exact LW_ireturn (st := []) rfl rfl (nbool rfl (by omega)) ⟨_, rfl, by omega, by omega, V, hG⟩
  by_cases vh26 : vz4.toInt = 10
  · refine S_tableIn (tgt := 193) (c := 10) rfl ((rfl : _ = vz4.toInt).trans vh26) (by decide) (by decide) rfl rfl ?_
    refine X_aload_n rfl rfl rfl rfl ?_
    refine X_iload_n rfl rfl rfl rfl ?_
    refine X_iload rfl rfl rfl ?_
    refine Y_callV (as := [.int vz1, .int vz2]) (st := []) rfl rfl rfl (by decide) rfl (Nat.le_of_ble_eq_true rfl) (by decide) (Nat.le_of_ble_eq_true rfl) rfl ((congrFun V.1 342).trans s_342) (by decide) (C_X1_signAll V vz1 vz1.toInt rfl vz2 vz2.toInt rfl ) ?_
    rintro _ g ⟨vr27, rfl, hrvr270, hrvr271, V, hq⟩
    have hG := hq.trans hG
    have hr := (rfl : vr27.toInt = vr27.toInt)
    exact LW_ireturn (st := []) rfl rfl (nbool rfl (by omega)) ⟨_, rfl, by omega, by omega, V, hG⟩
  by_cases vh28 : vz4.toInt = 11
  · refine S_tableIn (tgt := 201) (c := 11) rfl ((rfl : _ = vz4.toInt).trans vh28) (by decide) (by decide) rfl rfl ?_
    refine X_aload_n rfl rfl rfl rfl ?_
    refine X_iload rfl rfl rfl ?_
    refine Y_callV (as := [.int vz2]) (st := []) rfl rfl rfl (by decide) rfl (Nat.le_of_ble_eq_true rfl) (by decide) (Nat.le_of_ble_eq_true rfl) rfl ((congrFun V.1 342).trans s_342) (by decide) (C_X1_conclude V vz2 vz2.toInt rfl ) ?_
    rintro _ g ⟨vr29, rfl, hrvr290, hrvr291, V, hq⟩
    have hG := hq.trans hG
    refine X_iconst (v := (-1 : Int32)) rfl rfl rfl ?_
    refine S_icmp_eq (tgt := 215) rfl rfl rfl rfl (show (-1 : Int32).toInt = -1 from rfl) (fun vh30 => ?_) (fun vh30 => ?_)
    · refine X_iconst (v := (0 : Int32)) rfl rfl rfl ?_
      exact LW_ireturn (st := []) rfl rfl rfl ⟨_, rfl, by decide, by decide, V, hG⟩
    · refine X_iconst (v := (1 : Int32)) rfl rfl rfl ?_
      refine LW_goto (tgt := 216) rfl rfl ?_
      exact LW_ireturn (st := []) rfl rfl rfl ⟨_, rfl, by decide, by decide, V, hG⟩
  by_cases vh31 : vz4.toInt = 12
  · refine S_tableIn (tgt := 217) (c := 12) rfl ((rfl : _ = vz4.toInt).trans vh31) (by decide) (by decide) rfl rfl ?_
    refine X_aload_n rfl rfl rfl rfl ?_
    refine X_iload rfl rfl rfl ?_
    refine Y_callV (as := [.int vz2]) (st := []) rfl rfl rfl (by decide) rfl (Nat.le_of_ble_eq_true rfl) (by decide) (Nat.le_of_ble_eq_true rfl) rfl ((congrFun V.1 342).trans s_342) (by decide) (C_X1_passMornings V vz2 vz2.toInt rfl ) ?_
    rintro _ g ⟨vr32, rfl, V, hq⟩
    have hG := hq.trans hG
    refine X_iload rfl rfl rfl ?_
    refine S_icmp_ne (tgt := 232) rfl rfl rfl rfl rfl (fun vh33 => ?_) (fun vh33 => ?_)
    · refine X_iconst (v := (0 : Int32)) rfl rfl rfl ?_
      exact LW_ireturn (st := []) rfl rfl rfl ⟨_, rfl, by decide, by decide, V, hG⟩
    · refine X_iconst (v := (1 : Int32)) rfl rfl rfl ?_
      refine LW_goto (tgt := 233) rfl rfl ?_
      exact LW_ireturn (st := []) rfl rfl rfl ⟨_, rfl, by decide, by decide, V, hG⟩
  refine S_tableOut (tgt := 234) rfl rfl (by omega) rfl ?_
  refine X_iconst (v := (0 : Int32)) rfl rfl rfl ?_
  exact LW_ireturn (st := []) rfl rfl rfl ⟨_, rfl, by decide, by decide, V, hG⟩
set_option maxRecDepth 10000 in
set_option maxHeartbeats 40000000 in
theorem C_X1_play_342_T_2 {P : Par} {g g0 : LH} {d n : Nat}  {u : Nat} (hu : u < 4) (V : Inv P g) (hG : Gr g = Gr g0) (x2 : Int32) (y2 : Int) (hx2 : x2.toInt = y2) (hf2 : 0 ≤ y2 ∧ y2 ≤ 24)  (hmu : (24 - y2) * 1 + 0 < (n : Int) + 1) (ih2 : ∀ (g : LH) {u : Nat} (hu : u < 4) (V : Inv P g) (hG : Gr g = Gr g0) (x2 : Int32) (y2 : Int) (hx2 : x2.toInt = y2) (hf2 : 0 ≤ y2 ∧ y2 ≤ 24) , (24 - y2) * 1 + 0 < (n : Int) → LW 15 (d + 31) 0 0 2 [some (.ref 342), some (.ref (292 + 10 * u)), some (.int x2)] [] g (fun v g' => ∃ r : Int32, v = some (.int r) ∧ (-1) ≤ r.toInt ∧ r.toInt ≤ 23 ∧ Inv P g' ∧ Gr g' = Gr g0)) : LW 15 (d + 31) 0 0 2 [some (.ref 342), some (.ref (292 + 10 * u)), some (.int x2)] [] g (fun v g' => ∃ r : Int32, v = some (.int r) ∧ (-1) ≤ r.toInt ∧ r.toInt ≤ 23 ∧ Inv P g' ∧ Gr g' = Gr g0) := by
  refine X_iload_n rfl rfl rfl rfl ?_
  refine X_aload_n rfl rfl rfl rfl ?_
  refine S_getI rfl rfl rfl ((congrFun V.1 _).trans (tx_s u hu)) rfl (fun vz1 evz1 => ?_)
  have vf2 := K_15_0 (V.2.2.2.2.1 (292 + 10 * u) (0) (by omega)) (tx_k u hu)
  rw [evz1] at vf2
  refine S_icmp_ge (tgt := 37) rfl rfl rfl hx2 rfl (fun vh3 => ?_) (fun vh3 => ?_)
  · refine X_iconst (v := (-1 : Int32)) rfl rfl rfl ?_
    exact LW_ireturn (st := []) rfl rfl rfl ⟨_, rfl, by decide, by decide, V, hG⟩
  · refine X_aload_n rfl rfl rfl rfl ?_
    refine X_getR (a := 293 + 10 * u) rfl rfl rfl ((congrFun V.1 _).trans (tx_s u hu)) rfl ((congrFun (V.2.1 (292 + 10 * u) (by omega)) 1).trans (tx_r1 u hu)) ?_
    refine X_iload_n rfl rfl rfl rfl ?_
    refine S_iald rfl rfl ((congrFun V.1 _).trans (tx_s1 u hu)) hx2 (by omega) (fun vz4 evz4 => ?_)
    refine X_iconst (v := (4 : Int32)) rfl rfl rfl ?_
    refine S_icmp_lt (tgt := 31) rfl rfl rfl rfl (show (4 : Int32).toInt = 4 from rfl) (fun vh5 => ?_) (fun vh5 => ?_)
    · refine S_iinc (c := 1) rfl rfl rfl hx2 rfl (by omega) (fun vz6 hvz6 => ?_)
      refine LW_ls (ls' := [some (.ref 342), some (.ref (292 + 10 * u)), some (.int vz6)]) rfl ?_
      refine LW_goto (tgt := 2) rfl rfl ?_
      exact ih2 _ hu V hG vz6 vz6.toInt rfl (by omega)    (by omega)
    · refine X_aload_n rfl rfl rfl rfl ?_
      refine X_aload_n rfl rfl rfl rfl ?_
      refine X_iload_n rfl rfl rfl rfl ?_
      refine Y_callV (as := [.ref (292 + 10 * u), .int x2]) (st := []) rfl rfl rfl (by decide) rfl (Nat.le_of_ble_eq_true rfl) (by decide) (Nat.le_of_ble_eq_true rfl) rfl ((congrFun V.1 342).trans s_342) (by decide) (C_X1_playClause_342_T hu V x2 y2 hx2 (by omega) ) ?_
      rintro _ g ⟨vr7, rfl, hrvr70, hrvr71, V, hq⟩
      have hG := hq.trans hG
      refine S_if_ne (tgt := 31) rfl rfl rfl rfl (fun vh8 => ?_) (fun vh8 => ?_)
      · refine S_iinc (c := 1) rfl rfl rfl hx2 rfl (by omega) (fun vz9 hvz9 => ?_)
        refine LW_ls (ls' := [some (.ref 342), some (.ref (292 + 10 * u)), some (.int vz9)]) rfl ?_
        refine LW_goto (tgt := 2) rfl rfl ?_
        exact ih2 _ hu V hG vz9 vz9.toInt rfl (by omega)    (by omega)
      · refine X_iload_n rfl rfl rfl rfl ?_
        have hr := hx2
        exact LW_ireturn (st := []) rfl rfl rfl ⟨_, rfl, by omega, by omega, V, hG⟩
theorem C_X1_play_342_T_all {P : Par} {g0 : LH} {d : Nat}  : ∀ n : Nat, (∀ (g : LH) {u : Nat} (hu : u < 4) (V : Inv P g) (hG : Gr g = Gr g0) (x2 : Int32) (y2 : Int) (hx2 : x2.toInt = y2) (hf2 : 0 ≤ y2 ∧ y2 ≤ 24) , (24 - y2) * 1 + 0 < (n : Int) → LW 15 (d + 31) 0 0 2 [some (.ref 342), some (.ref (292 + 10 * u)), some (.int x2)] [] g (fun v g' => ∃ r : Int32, v = some (.int r) ∧ (-1) ≤ r.toInt ∧ r.toInt ≤ 23 ∧ Inv P g' ∧ Gr g' = Gr g0)) := by
  intro n
  induction n with
  | zero => exact fun g u hu V hG x2 y2 hx2 hf2 hmu => absurd hmu (by omega)
  | succ n ih => exact fun g u hu V hG x2 y2 hx2 hf2 hmu => C_X1_play_342_T_2  hu V hG x2 y2 hx2 hf2 (by omega) ih
set_option maxRecDepth 10000 in
set_option maxHeartbeats 40000000 in
theorem C_X1_play_342_T {P : Par} {g : LH} {d : Nat}  {u : Nat} (hu : u < 4) (V : Inv P g)    : LW 15 (d + 31) 0 0 0 (lEnt (mL 15) [.ref 342, .ref (292 + 10 * u)]) [] g (fun v g' => ∃ r : Int32, v = some (.int r) ∧ (-1) ≤ r.toInt ∧ r.toInt ≤ 23 ∧ Inv P g' ∧ Gr g' = Gr g) := by
  refine LW_ls (ls' := [some (.ref 342), some (.ref (292 + 10 * u)), none]) rfl ?_
  have hG : Gr g = Gr g := rfl
  refine X_iconst (v := (0 : Int32)) rfl rfl rfl ?_
  refine X_istore_n (i := 2) (ls' := [some (.ref 342), some (.ref (292 + 10 * u)), some (.int (0 : Int32))]) rfl rfl rfl (Nat.le_of_ble_eq_true rfl) rfl ?_
  exact (C_X1_play_342_T_all (((24 - 0) * 1 + 0) + 1 : Int).toNat) _ hu V hG (0 : Int32) 0 (show (0 : Int32).toInt = 0 from rfl) (by omega)    (by omega)
set_option maxRecDepth 10000 in
set_option maxHeartbeats 40000000 in
theorem C_X12_played {P : Par} {g : LH} {d : Nat}  (V : Inv P g) (x1 : Int32) (y1 : Int) (hx1 : x1.toInt = y1)   : LW 140 (d + 36) 0 0 0 (lEnt (mL 140) [.ref 0, .int x1]) [] g (fun v g' => ∃ r : Int32, v = some (.int r) ∧ (-2) ≤ r.toInt ∧ r.toInt ≤ 23 ∧ Inv P g' ∧ Gr g' = Gr g) := by
  refine LW_ls (ls' := [some (.ref 0), some (.int x1)]) rfl ?_
  have hG : Gr g = Gr g := rfl
  refine X_aload_n rfl rfl rfl rfl ?_
  refine X_iload_n rfl rfl rfl rfl ?_
  refine X_callV (as := [.int x1]) (st := []) rfl rfl rfl (by decide) rfl (Nat.le_of_ble_eq_true rfl) (by decide) (Nat.le_of_ble_eq_true rfl) rfl ((congrFun V.1 0).trans s_0) (by decide) ?_
  refine LW_ls (ls' := [some (.ref 0), some (.int x1)]) rfl ?_
  refine X_iload_n rfl rfl rfl rfl ?_
  refine S_if_lt (tgt := 28) rfl rfl rfl hx1 (fun vh1 => ?_) (fun vh1 => ?_)
  · refine X_iconst (v := (0 : Int32)) rfl rfl rfl ?_
    refine LW_ireturn (st := []) rfl rfl rfl ?_
    refine S_if_eq (tgt := 24) rfl rfl rfl (show (0 : Int32).toInt = 0 from rfl) (fun vh2 => ?_) (fun q => absurd q (by omega))
    refine X_bipush (v := (-2 : Int32)) rfl rfl rfl ?_
    exact LW_ireturn (st := []) rfl rfl rfl ⟨_, rfl, by decide, by decide, V, hG⟩
  · refine X_iload_n rfl rfl rfl rfl ?_
    refine X_aload_n rfl rfl rfl rfl ?_
    refine X_getR (a := 1) rfl rfl rfl ((congrFun V.1 0).trans s_0) rfl ((congrFun (V.2.1 0 (by decide)) 0).trans r_0_0) ?_
    refine S_getI rfl rfl rfl ((congrFun V.1 1).trans s_1) rfl (fun vz3 evz3 => ?_)
    have vf4 := K_13_5 (V.2.2.2.2.1 (1) (5) (Nat.le_of_ble_eq_true rfl)) rk_1
    rw [evz3] at vf4
    refine S_icmp_ge (tgt := 28) rfl rfl rfl hx1 rfl (fun vh5 => ?_) (fun vh5 => ?_)
    · refine X_iconst (v := (0 : Int32)) rfl rfl rfl ?_
      refine LW_ireturn (st := []) rfl rfl rfl ?_
      refine S_if_eq (tgt := 24) rfl rfl rfl (show (0 : Int32).toInt = 0 from rfl) (fun vh6 => ?_) (fun q => absurd q (by omega))
      refine X_bipush (v := (-2 : Int32)) rfl rfl rfl ?_
      exact LW_ireturn (st := []) rfl rfl rfl ⟨_, rfl, by decide, by decide, V, hG⟩
    · refine X_iload_n rfl rfl rfl rfl ?_
      refine X_aload_n rfl rfl rfl rfl ?_
      refine X_getR (a := 291) rfl rfl rfl ((congrFun V.1 0).trans s_0) rfl ((congrFun (V.2.1 0 (by decide)) 2).trans r_0_2) ?_
      refine X_alen (t0 := 4) (v := (4 : Int32)) rfl rfl ((congrFun V.1 291).trans s_291) rfl rfl ?_
      refine S_icmp_ge (tgt := 28) rfl rfl rfl hx1 (show (4 : Int32).toInt = 4 from rfl) (fun q => absurd q (by omega)) (fun vh7 => ?_)
      refine X_iconst (v := (1 : Int32)) rfl rfl rfl ?_
      refine LW_goto (tgt := 29) rfl rfl ?_
      refine LW_ireturn (st := []) rfl rfl rfl ?_
      refine S_if_eq (tgt := 24) rfl rfl rfl (show (1 : Int32).toInt = 1 from rfl) (fun q => absurd q (by omega)) (fun vh8 => ?_)
      refine X_aload_n rfl rfl rfl rfl ?_
      refine X_getR (a := 342) rfl rfl rfl ((congrFun V.1 0).trans s_0) rfl ((congrFun (V.2.1 0 (by decide)) 6).trans r_0_6) ?_
      refine X_aload_n rfl rfl rfl rfl ?_
      refine X_getR (a := 291) rfl rfl rfl ((congrFun V.1 0).trans s_0) rfl ((congrFun (V.2.1 0 (by decide)) 2).trans r_0_2) ?_
      refine X_iload_n rfl rfl rfl rfl ?_
      obtain ⟨u, hu, eu⟩ : ∃ t : Nat, t < 4 ∧ (t : Int) = y1 := ⟨(y1 : Int).toNat, by omega, by omega⟩
      refine X_aald (a := 292 + 10 * u) (t0 := 4) rfl rfl ((congrFun V.1 291).trans s_291) rfl (ti_idx (n := 4) hx1 (by omega)).1 (by rw [(ti_idx (n := 4) hx1 (by omega)).2, show (y1 : Int).toNat = u by omega]; exact (congrFun (V.2.1 291 (by decide)) u).trans (tx_a u hu)) ?_
      refine Y_callV (as := [.ref (292 + 10 * u)]) (st := []) rfl rfl rfl (by decide) rfl (Nat.le_of_ble_eq_true rfl) (by decide) (Nat.le_of_ble_eq_true rfl) rfl ((congrFun V.1 342).trans s_342) (by decide) (C_X1_play_342_T hu V  ) ?_
      rintro _ g ⟨vr9, rfl, hrvr90, hrvr91, V, hq⟩
      have hG := hq.trans hG
      refine LW_goto (tgt := 26) rfl rfl ?_
      have hr := (rfl : vr9.toInt = vr9.toInt)
      exact LW_ireturn (st := []) rfl rfl rfl ⟨_, rfl, by omega, by omega, V, hG⟩
set_option maxRecDepth 10000 in
set_option maxHeartbeats 40000000 in
theorem C_X1_drawX {P : Par} {g : LH} {d : Nat}  (V : Inv P g)    : LW 13 (d + 3) 0 0 0 (lEnt (mL 13) [.ref 342]) [] g (fun v g' => v = none ∧ Inv P g' ∧ Gr g' = Gr g) := by
  refine LW_ls (ls' := [some (.ref 342)]) rfl ?_
  have hG : Gr g = Gr g := rfl
  refine X_aload_n rfl rfl rfl rfl ?_
  refine X_getR (a := 10) rfl rfl rfl ((congrFun V.1 342).trans s_342) rfl ((congrFun (V.2.1 342 (by decide)) 1).trans r_342_1) ?_
  refine X_aload_n rfl rfl rfl rfl ?_
  refine X_getR (a := 10) rfl rfl rfl ((congrFun V.1 342).trans s_342) rfl ((congrFun (V.2.1 342 (by decide)) 1).trans r_342_1) ?_
  refine S_getI rfl rfl rfl ((congrFun V.1 10).trans s_10) rfl (fun vz1 evz1 => ?_)
  refine X_sipush (v := (211 : Int32)) rfl rfl rfl ?_
  refine S_imulT rfl rfl (fun vz2 => ?_)
  refine X_bipush (v := (97 : Int32)) rfl rfl rfl ?_
  refine S_iaddT rfl rfl (fun vz3 => ?_)
  refine X_sipush (v := (30139 : Int32)) rfl rfl rfl ?_
  refine S_iremT rfl rfl (show (30139 : Int32).toInt = 30139 from rfl) (by omega) (fun vz4 hvz4 => ?_)
  refine S_putI (I := Inv _) rfl rfl rfl ((congrFun V.1 10).trans s_10) rfl rfl rfl rfl (Inv_putI V (Nat.le_of_ble_eq_true rfl) (Or.inl (by decide)) (Q_11_2 rk_10)) (fun g V ve5 vn6 hq => ?_)
  have hG := hq.trans hG
  exact LW_return (st := []) rfl rfl ⟨rfl, V, hG⟩
set_option maxRecDepth 10000 in
set_option maxHeartbeats 40000000 in
theorem C_X1_befall {P : Par} {g : LH} {d : Nat}  (V : Inv P g) (x1 : Int32) (y1 : Int) (hx1 : x1.toInt = y1) (hf1 : (-25) ≤ y1 ∧ y1 ≤ 25)   : LW 14 (d + 24) 0 0 0 (lEnt (mL 14) [.ref 342, .int x1]) [] g (fun v g' => v = none ∧ Inv P g' ∧ Gr g' = Gr g) := by
  refine LW_ls (ls' := [some (.ref 342), some (.int x1)]) rfl ?_
  have hG : Gr g = Gr g := rfl
  refine X_iload_n rfl rfl rfl rfl ?_
  refine X_callN (as := [.int x1]) (st := []) rfl rfl rfl (by decide) rfl (Nat.le_of_ble_eq_true rfl) (by decide) (Nat.le_of_ble_eq_true rfl) rfl ?_
  refine LW_ls (ls' := [some (.int x1)]) rfl ?_
  refine X_iload_n rfl rfl rfl rfl ?_
  refine S_if_lt (tgt := 14) rfl rfl rfl hx1 (fun vh1 => ?_) (fun vh1 => ?_)
  · refine X_iconst (v := (0 : Int32)) rfl rfl rfl ?_
    refine LW_ireturn (st := []) rfl rfl rfl ?_
    refine S_if_ne (tgt := 8) rfl rfl rfl (show (0 : Int32).toInt = 0 from rfl) (fun q => absurd q (by omega)) (fun vh2 => ?_)
    exact LW_return (st := []) rfl rfl ⟨rfl, V, hG⟩
  · refine X_iload_n rfl rfl rfl rfl ?_
    refine X_bipush (v := (26 : Int32)) rfl rfl rfl ?_
    refine S_icmp_ge (tgt := 14) rfl rfl rfl hx1 (show (26 : Int32).toInt = 26 from rfl) (fun q => absurd q (by omega)) (fun vh3 => ?_)
    refine X_iconst (v := (1 : Int32)) rfl rfl rfl ?_
    refine LW_goto (tgt := 15) rfl rfl ?_
    refine LW_ireturn (st := []) rfl rfl rfl ?_
    refine S_if_ne (tgt := 8) rfl rfl rfl (show (1 : Int32).toInt = 1 from rfl) (fun vh4 => ?_) (fun q => absurd q (by omega))
    refine X_aload_n rfl rfl rfl rfl ?_
    refine X_getR (a := 10) rfl rfl rfl ((congrFun V.1 342).trans s_342) rfl ((congrFun (V.2.1 342 (by decide)) 1).trans r_342_1) ?_
    refine S_getI rfl rfl rfl ((congrFun V.1 10).trans s_10) rfl (fun vz5 evz5 => ?_)
    refine X_iconst (v := (4 : Int32)) rfl rfl rfl ?_
    refine S_iremT rfl rfl (show (4 : Int32).toInt = 4 from rfl) (by omega) (fun vz6 hvz6 => ?_)
    by_cases vh7 : vz6.toInt = 0
    · refine S_tableIn (tgt := 44) (c := 0) rfl ((rfl : _ = vz6.toInt).trans vh7) (by decide) (by decide) rfl rfl ?_
      refine X_aload_n rfl rfl rfl rfl ?_
      refine X_getR (a := 10) rfl rfl rfl ((congrFun V.1 342).trans s_342) rfl ((congrFun (V.2.1 342 (by decide)) 1).trans r_342_1) ?_
      refine X_getR (a := 11) rfl rfl rfl ((congrFun V.1 10).trans s_10) rfl ((congrFun (V.2.1 10 (by decide)) 4).trans r_10_4) ?_
      refine X_iload_n rfl rfl rfl rfl ?_
      refine X_bipush (v := (99 : Int32)) rfl rfl rfl ?_
      refine X_aload_n rfl rfl rfl rfl ?_
      refine X_getR (a := 10) rfl rfl rfl ((congrFun V.1 342).trans s_342) rfl ((congrFun (V.2.1 342 (by decide)) 1).trans r_342_1) ?_
      refine X_getR (a := 11) rfl rfl rfl ((congrFun V.1 10).trans s_10) rfl ((congrFun (V.2.1 10 (by decide)) 4).trans r_10_4) ?_
      refine X_iload_n rfl rfl rfl rfl ?_
      refine S_iald rfl rfl ((congrFun V.1 11).trans s_11) hx1 (by omega) (fun vz8 evz8 => ?_)
      refine X_iconst (v := (1 : Int32)) rfl rfl rfl ?_
      refine S_iaddT rfl rfl (fun vz9 => ?_)
      refine S_min rfl rfl rfl (Nat.le_of_ble_eq_true rfl) (show (99 : Int32).toInt = 99 from rfl) rfl (fun vz10 hvz10 => ?_)
      refine S_iast (I := Inv _) rfl rfl ((congrFun V.1 11).trans s_11) hx1 (by omega) (Inv_putI V (Nat.le_of_ble_eq_true rfl) (Or.inl (by decide)) (Q_0 rk_11)) (fun g V ve11 vn12 hq => ?_)
      have hG := hq.trans hG
      have evz5 := (vn12 (10) 2 (Or.inl (by decide))).trans evz5
      refine LW_goto (tgt := 127) rfl rfl ?_
      exact LW_return (st := []) rfl rfl ⟨rfl, V, hG⟩
    by_cases vh13 : vz6.toInt = 1
    · refine S_tableIn (tgt := 72) (c := 1) rfl ((rfl : _ = vz6.toInt).trans vh13) (by decide) (by decide) rfl rfl ?_
      refine X_aload_n rfl rfl rfl rfl ?_
      refine X_getR (a := 10) rfl rfl rfl ((congrFun V.1 342).trans s_342) rfl ((congrFun (V.2.1 342 (by decide)) 1).trans r_342_1) ?_
      refine X_iconst (v := (1 : Int32)) rfl rfl rfl ?_
      refine X_iload_n rfl rfl rfl rfl ?_
      refine S_ishlT rfl rfl (fun vz14 => ?_)
      refine Y_callV (as := [.int vz14]) (st := []) rfl rfl rfl (by decide) rfl (Nat.le_of_ble_eq_true rfl) (by decide) (Nat.le_of_ble_eq_true rfl) rfl ((congrFun V.1 10).trans s_10) (by decide) (C_X9_move V vz14 vz14.toInt rfl ) ?_
      rintro _ g ⟨rfl, V, hq⟩
      have hG := hq.trans hG
      refine LW_goto (tgt := 127) rfl rfl ?_
      exact LW_return (st := []) rfl rfl ⟨rfl, V, hG⟩
    by_cases vh16 : vz6.toInt = 2
    · refine S_tableIn (tgt := 85) (c := 2) rfl ((rfl : _ = vz6.toInt).trans vh16) (by decide) (by decide) rfl rfl ?_
      refine X_aload_n rfl rfl rfl rfl ?_
      refine X_getR (a := 10) rfl rfl rfl ((congrFun V.1 342).trans s_342) rfl ((congrFun (V.2.1 342 (by decide)) 1).trans r_342_1) ?_
      refine X_getR (a := 13) rfl rfl rfl ((congrFun V.1 10).trans s_10) rfl ((congrFun (V.2.1 10 (by decide)) 6).trans r_10_6) ?_
      refine X_iload_n rfl rfl rfl rfl ?_
      refine X_aload_n rfl rfl rfl rfl ?_
      refine X_getR (a := 10) rfl rfl rfl ((congrFun V.1 342).trans s_342) rfl ((congrFun (V.2.1 342 (by decide)) 1).trans r_342_1) ?_
      refine X_getI (v := vz5) rfl rfl rfl ((congrFun V.1 10).trans s_10) rfl evz5 ?_
      refine X_bipush (v := (11 : Int32)) rfl rfl rfl ?_
      refine S_iremT rfl rfl (show (11 : Int32).toInt = 11 from rfl) (by omega) (fun vz17 hvz17 => ?_)
      refine X_iconst (v := (1 : Int32)) rfl rfl rfl ?_
      refine S_isub rfl rfl rfl (show (1 : Int32).toInt = 1 from rfl) (by omega) (fun vz18 hvz18 => ?_)
      refine S_iast (I := Inv _) rfl rfl ((congrFun V.1 13).trans s_13) hx1 (by omega) (Inv_putI V (Nat.le_of_ble_eq_true rfl) (Or.inl (by decide)) (Q_0 rk_13)) (fun g V ve19 vn20 hq => ?_)
      have hG := hq.trans hG
      have evz5 := (vn20 (10) 2 (Or.inl (by decide))).trans evz5
      refine LW_goto (tgt := 127) rfl rfl ?_
      exact LW_return (st := []) rfl rfl ⟨rfl, V, hG⟩
    refine S_tableOut (tgt := 109) rfl rfl (by omega) rfl ?_
    refine X_aload_n rfl rfl rfl rfl ?_
    refine X_getR (a := 10) rfl rfl rfl ((congrFun V.1 342).trans s_342) rfl ((congrFun (V.2.1 342 (by decide)) 1).trans r_342_1) ?_
    refine S_getI rfl rfl rfl ((congrFun V.1 10).trans s_10) rfl (fun vz21 evz21 => ?_)
    refine X_sipush (v := (999 : Int32)) rfl rfl rfl ?_
    refine S_icmp_ge (tgt := 127) rfl rfl rfl rfl (show (999 : Int32).toInt = 999 from rfl) (fun vh22 => ?_) (fun vh22 => ?_)
    · exact LW_return (st := []) rfl rfl ⟨rfl, V, hG⟩
    · refine X_aload_n rfl rfl rfl rfl ?_
      refine X_iconst (v := (0 : Int32)) rfl rfl rfl ?_
      refine Y_callV (as := [.int (0 : Int32)]) (st := []) rfl rfl rfl (by decide) rfl (Nat.le_of_ble_eq_true rfl) (by decide) (Nat.le_of_ble_eq_true rfl) rfl ((congrFun V.1 342).trans s_342) (by decide) (C_X1_dawn V (0 : Int32) 0 (show (0 : Int32).toInt = 0 from rfl) (by omega) ) ?_
      rintro _ g ⟨rfl, V, hq⟩
      have hG := hq.trans hG
      exact LW_return (st := []) rfl rfl ⟨rfl, V, hG⟩
set_option maxRecDepth 10000 in
set_option maxHeartbeats 40000000 in
theorem C_X1_liveYear_29 {P : Par} {g g0 : LH} {d n : Nat}  (V : Inv P g) (hG : Gr g = Gr g0) (x1 : Int32) (y1 : Int) (hx1 : x1.toInt = y1) (hf1 : 0 ≤ y1 ∧ y1 ≤ 9999) (x2 : Int32) (y2 : Int) (hx2 : x2.toInt = y2) (hf2 : 1 ≤ y2 ∧ y2 ≤ 40) (x3 : Int32) (y3 : Int) (hx3 : x3.toInt = y3) (hf3 : 0 ≤ y3 ∧ y3 ≤ 40) (o4 : Option Value)  (hmu : (40 - y3) * 1 + 0 < (n : Int) + 1) (ih29 : ∀ (g : LH) (V : Inv P g) (hG : Gr g = Gr g0) (x1 : Int32) (y1 : Int) (hx1 : x1.toInt = y1) (hf1 : 0 ≤ y1 ∧ y1 ≤ 9999) (x2 : Int32) (y2 : Int) (hx2 : x2.toInt = y2) (hf2 : 1 ≤ y2 ∧ y2 ≤ 40) (x3 : Int32) (y3 : Int) (hx3 : x3.toInt = y3) (hf3 : 0 ≤ y3 ∧ y3 ≤ 40) (o4 : Option Value) , (40 - y3) * 1 + 0 < (n : Int) → LW 12 (d + 31) 0 0 29 [some (.ref 342), some (.int x1), some (.int x2), some (.int x3), o4] [] g (fun v g' => v = none ∧ Inv P g' ∧ Gr g' = Gr g0)) : LW 12 (d + 31) 0 0 29 [some (.ref 342), some (.int x1), some (.int x2), some (.int x3), o4] [] g (fun v g' => v = none ∧ Inv P g' ∧ Gr g' = Gr g0) := by
  refine X_iload_n rfl rfl rfl rfl ?_
  refine X_iload_n rfl rfl rfl rfl ?_
  refine S_icmp_ge (tgt := 66) rfl rfl rfl hx3 hx2 (fun vh1 => ?_) (fun vh1 => ?_)
  · exact LW_return (st := []) rfl rfl ⟨rfl, V, hG⟩
  · refine X_aload_n rfl rfl rfl rfl ?_
    refine X_getR (a := 10) rfl rfl rfl ((congrFun V.1 342).trans s_342) rfl ((congrFun (V.2.1 342 (by decide)) 1).trans r_342_1) ?_
    refine S_getI rfl rfl rfl ((congrFun V.1 10).trans s_10) rfl (fun vz2 evz2 => ?_)
    refine X_bipush (v := (26 : Int32)) rfl rfl rfl ?_
    refine S_iremT rfl rfl (show (26 : Int32).toInt = 26 from rfl) (by omega) (fun vz3 hvz3 => ?_)
    refine X_istore (i := 4) (ls' := [some (.ref 342), some (.int x1), some (.int x2), some (.int x3), some (.int vz3)]) rfl rfl (Nat.le_of_ble_eq_true rfl) rfl ?_
    refine X_aload_n rfl rfl rfl rfl ?_
    refine Y_callV (as := []) (st := []) rfl rfl rfl (by decide) rfl (Nat.le_of_ble_eq_true rfl) (by decide) (Nat.le_of_ble_eq_true rfl) rfl ((congrFun V.1 342).trans s_342) (by decide) (C_X1_drawX V  ) ?_
    rintro _ g ⟨rfl, V, hq⟩
    have hG := hq.trans hG
    refine X_aload_n rfl rfl rfl rfl ?_
    refine X_iload rfl rfl rfl ?_
    refine Y_callV (as := [.int vz3]) (st := []) rfl rfl rfl (by decide) rfl (Nat.le_of_ble_eq_true rfl) (by decide) (Nat.le_of_ble_eq_true rfl) rfl ((congrFun V.1 342).trans s_342) (by decide) (C_X1_befall V vz3 vz3.toInt rfl (by omega) ) ?_
    rintro _ g ⟨rfl, V, hq⟩
    have hG := hq.trans hG
    refine X_aload_n rfl rfl rfl rfl ?_
    refine Y_callV (as := []) (st := []) rfl rfl rfl (by decide) rfl (Nat.le_of_ble_eq_true rfl) (by decide) (Nat.le_of_ble_eq_true rfl) rfl ((congrFun V.1 342).trans s_342) (by decide) (C_X1_drawX V  ) ?_
    rintro _ g ⟨rfl, V, hq⟩
    have hG := hq.trans hG
    refine S_iinc (c := 1) rfl rfl rfl hx3 rfl (by omega) (fun vz7 hvz7 => ?_)
    refine LW_ls (ls' := [some (.ref 342), some (.int x1), some (.int x2), some (.int vz7), some (.int vz3)]) rfl ?_
    refine LW_goto (tgt := 29) rfl rfl ?_
    exact ih29 _ V hG x1 y1 hx1 (by omega) x2 y2 hx2 (by omega) vz7 vz7.toInt rfl (by omega) (some (.int vz3))    (by omega)
theorem C_X1_liveYear_all {P : Par} {g0 : LH} {d : Nat}  : ∀ n : Nat, (∀ (g : LH) (V : Inv P g) (hG : Gr g = Gr g0) (x1 : Int32) (y1 : Int) (hx1 : x1.toInt = y1) (hf1 : 0 ≤ y1 ∧ y1 ≤ 9999) (x2 : Int32) (y2 : Int) (hx2 : x2.toInt = y2) (hf2 : 1 ≤ y2 ∧ y2 ≤ 40) (x3 : Int32) (y3 : Int) (hx3 : x3.toInt = y3) (hf3 : 0 ≤ y3 ∧ y3 ≤ 40) (o4 : Option Value) , (40 - y3) * 1 + 0 < (n : Int) → LW 12 (d + 31) 0 0 29 [some (.ref 342), some (.int x1), some (.int x2), some (.int x3), o4] [] g (fun v g' => v = none ∧ Inv P g' ∧ Gr g' = Gr g0)) := by
  intro n
  induction n with
  | zero => exact fun g V hG x1 y1 hx1 hf1 x2 y2 hx2 hf2 x3 y3 hx3 hf3 o4 hmu => absurd hmu (by omega)
  | succ n ih => exact fun g V hG x1 y1 hx1 hf1 x2 y2 hx2 hf2 x3 y3 hx3 hf3 o4 hmu => C_X1_liveYear_29  V hG x1 y1 hx1 hf1 x2 y2 hx2 hf2 x3 y3 hx3 hf3 o4 (by omega) ih
set_option maxRecDepth 10000 in
set_option maxHeartbeats 40000000 in
theorem C_X1_liveYear {P : Par} {g : LH} {d : Nat}  (V : Inv P g) (x1 : Int32) (y1 : Int) (hx1 : x1.toInt = y1) (hf1 : 0 ≤ y1 ∧ y1 ≤ 9999) (x2 : Int32) (y2 : Int) (hx2 : x2.toInt = y2) (hf2 : 1 ≤ y2 ∧ y2 ≤ 40)   : LW 12 (d + 31) 0 0 0 (lEnt (mL 12) [.ref 342, .int x1, .int x2]) [] g (fun v g' => v = none ∧ Inv P g' ∧ Gr g' = Gr g) := by
  refine LW_ls (ls' := [some (.ref 342), some (.int x1), some (.int x2), none, none]) rfl ?_
  have hG : Gr g = Gr g := rfl
  refine X_aload_n rfl rfl rfl rfl ?_
  refine X_getR (a := 1) rfl rfl rfl ((congrFun V.1 342).trans s_342) rfl ((congrFun (V.2.1 342 (by decide)) 0).trans r_342_0) ?_
  refine X_getR (a := 14) rfl rfl rfl ((congrFun V.1 1).trans s_1) rfl ((congrFun (V.2.1 1 (by decide)) 2).trans r_1_2) ?_
  refine X_aload_n rfl rfl rfl rfl ?_
  refine X_getR (a := 10) rfl rfl rfl ((congrFun V.1 342).trans s_342) rfl ((congrFun (V.2.1 342 (by decide)) 1).trans r_342_1) ?_
  refine X_callV (as := [.ref 10]) (st := []) rfl rfl rfl (by decide) rfl (Nat.le_of_ble_eq_true rfl) (by decide) (Nat.le_of_ble_eq_true rfl) rfl ((congrFun V.1 14).trans s_14) (by decide) ?_
  refine LW_ls (ls' := [some (.ref 14), some (.ref 10)]) rfl ?_
  refine X_aload_n rfl rfl rfl rfl ?_
  refine S_getI rfl rfl rfl ((congrFun V.1 14).trans s_14) rfl (fun vz1 evz1 => ?_)
  have vf2 := K_12_0 (V.2.2.2.2.1 (14) (0) (Nat.le_of_ble_eq_true rfl)) rk_14
  rw [evz1] at vf2
  refine X_bipush (v := (30 : Int32)) rfl rfl rfl ?_
  refine S_icmp_ne (tgt := 32) rfl rfl rfl rfl (show (30 : Int32).toInt = 30 from rfl) (fun vh3 => ?_) (fun vh3 => ?_)
  · refine X_aload_n rfl rfl rfl rfl ?_
    refine X_getR (a := 15) rfl rfl rfl ((congrFun V.1 14).trans s_14) rfl ((congrFun (V.2.1 14 (by decide)) 2).trans r_14_2) ?_
    refine X_aload_n rfl rfl rfl rfl ?_
    refine S_getI rfl rfl rfl ((congrFun V.1 14).trans s_14) rfl (fun vz4 evz4 => ?_)
    have vf5 := K_12_1 (V.2.2.2.2.1 (14) (1) (Nat.le_of_ble_eq_true rfl)) rk_14
    rw [evz4] at vf5
    refine X_aload_n rfl rfl rfl rfl ?_
    refine X_getI (v := vz1) rfl rfl rfl ((congrFun V.1 14).trans s_14) rfl evz1 ?_
    refine S_iadd rfl rfl rfl rfl (by omega) (fun vz6 hvz6 => ?_)
    refine X_bipush (v := (30 : Int32)) rfl rfl rfl ?_
    refine S_irem rfl rfl rfl (show (30 : Int32).toInt = 30 from rfl) (by omega) (by omega) (fun vz7 hvz7 => ?_)
    obtain ⟨t, ht, et⟩ : ∃ t : Nat, t < 30 ∧ (t : Int) = vz7.toInt := ⟨(vz7.toInt : Int).toNat, by omega, by omega⟩
    refine X_aald (a := 16 + 4 * t) (t0 := 3) rfl rfl ((congrFun V.1 15).trans s_15) rfl (ti_idx (n := 30) rfl (by omega)).1 (by rw [(ti_idx (n := 30) rfl (by omega)).2, show (vz7.toInt : Int).toNat = t by omega]; exact (congrFun (V.2.1 15 (by decide)) t).trans (sp_a t ht)) ?_
    refine X_aload_n rfl rfl rfl rfl ?_
    refine X_callV (as := [.ref 10]) (st := []) rfl rfl rfl (by decide) rfl (Nat.le_of_ble_eq_true rfl) (by decide) (Nat.le_of_ble_eq_true rfl) rfl ((congrFun V.1 _).trans (sp_s t ht)) (by decide) ?_
    refine LW_ls (ls' := [some (.ref (16 + 4 * t)), some (.ref 10)]) rfl ?_
    refine X_aload_n rfl rfl rfl rfl ?_
    refine X_aload_n rfl rfl rfl rfl ?_
    refine S_getI rfl rfl rfl ((congrFun V.1 10).trans s_10) rfl (fun vz8 evz8 => ?_)
    refine S_putI (I := Inv _) rfl rfl rfl ((congrFun V.1 _).trans (sp_s t ht)) rfl rfl rfl rfl (Inv_putI V (by omega) (Or.inl (by omega)) (Q_11_0 (sp_k t ht))) (fun g V ve9 vn10 hq => ?_)
    have hG := hq.trans hG
    have evz1 := (vn10 (14) 0 (Or.inl (by omega))).trans evz1
    have evz4 := (vn10 (14) 1 (Or.inl (by omega))).trans evz4
    have evz8 := (vn10 (10) 0 (Or.inl (by omega))).trans evz8
    refine X_aload_n rfl rfl rfl rfl ?_
    refine X_aload_n rfl rfl rfl rfl ?_
    refine S_getI rfl rfl rfl ((congrFun V.1 10).trans s_10) rfl (fun vz11 evz11 => ?_)
    refine S_putI (I := Inv _) rfl rfl rfl ((congrFun V.1 _).trans (sp_s t ht)) rfl rfl rfl rfl (Inv_putI V (by omega) (Or.inl (by omega)) (Q_11_1 (sp_k t ht))) (fun g V ve12 vn13 hq => ?_)
    have hG := hq.trans hG
    have evz1 := (vn13 (14) 0 (Or.inl (by omega))).trans evz1
    have evz4 := (vn13 (14) 1 (Or.inl (by omega))).trans evz4
    have evz8 := (vn13 (10) 0 (Or.inl (by omega))).trans evz8
    have ve9 := (vn13 (16 + 4 * t) 0 (Or.inr (by decide))).trans ve9
    have evz11 := (vn13 (10) 1 (Or.inl (by omega))).trans evz11
    refine X_aload_n rfl rfl rfl rfl ?_
    refine X_aload_n rfl rfl rfl rfl ?_
    refine S_getI rfl rfl rfl ((congrFun V.1 10).trans s_10) rfl (fun vz14 evz14 => ?_)
    refine S_putI (I := Inv _) rfl rfl rfl ((congrFun V.1 _).trans (sp_s t ht)) rfl rfl rfl rfl (Inv_putI V (by omega) (Or.inl (by omega)) (Q_11_2 (sp_k t ht))) (fun g V ve15 vn16 hq => ?_)
    have hG := hq.trans hG
    have evz1 := (vn16 (14) 0 (Or.inl (by omega))).trans evz1
    have evz4 := (vn16 (14) 1 (Or.inl (by omega))).trans evz4
    have evz8 := (vn16 (10) 0 (Or.inl (by omega))).trans evz8
    have ve9 := (vn16 (16 + 4 * t) 0 (Or.inr (by decide))).trans ve9
    have evz11 := (vn16 (10) 1 (Or.inl (by omega))).trans evz11
    have ve12 := (vn16 (16 + 4 * t) 1 (Or.inr (by decide))).trans ve12
    have evz14 := (vn16 (10) 2 (Or.inl (by omega))).trans evz14
    refine X_aload_n rfl rfl rfl rfl ?_
    refine X_aload_n rfl rfl rfl rfl ?_
    refine S_getI rfl rfl rfl ((congrFun V.1 10).trans s_10) rfl (fun vz17 evz17 => ?_)
    have vf18 := K_11_3 (V.2.2.2.2.1 (10) (3) (Nat.le_of_ble_eq_true rfl)) rk_10
    rw [evz17] at vf18
    refine S_putI (I := Inv _) rfl rfl rfl ((congrFun V.1 _).trans (sp_s t ht)) rfl rfl rfl rfl (Inv_putI V (by omega) (Or.inl (by omega)) (Q_11_3 (sp_k t ht) (by omega))) (fun g V ve19 vn20 hq => ?_)
    have hG := hq.trans hG
    have evz1 := (vn20 (14) 0 (Or.inl (by omega))).trans evz1
    have evz4 := (vn20 (14) 1 (Or.inl (by omega))).trans evz4
    have evz8 := (vn20 (10) 0 (Or.inl (by omega))).trans evz8
    have ve9 := (vn20 (16 + 4 * t) 0 (Or.inr (by decide))).trans ve9
    have evz11 := (vn20 (10) 1 (Or.inl (by omega))).trans evz11
    have ve12 := (vn20 (16 + 4 * t) 1 (Or.inr (by decide))).trans ve12
    have evz14 := (vn20 (10) 2 (Or.inl (by omega))).trans evz14
    have ve15 := (vn20 (16 + 4 * t) 2 (Or.inr (by decide))).trans ve15
    have evz17 := (vn20 (10) 3 (Or.inl (by omega))).trans evz17
    refine X_aload_n rfl rfl rfl rfl ?_
    refine X_getR (a := 11) rfl rfl rfl ((congrFun V.1 10).trans s_10) rfl ((congrFun (V.2.1 10 (by decide)) 4).trans r_10_4) ?_
    refine X_iconst (v := (0 : Int32)) rfl rfl rfl ?_
    refine X_aload_n rfl rfl rfl rfl ?_
    refine X_getR (a := 17 + 4 * t) rfl rfl rfl ((congrFun V.1 _).trans (sp_s t ht)) rfl ((congrFun (V.2.1 (16 + 4 * t) (by omega)) 4).trans (sp_r4 t ht)) ?_
    refine X_iconst (v := (0 : Int32)) rfl rfl rfl ?_
    refine X_bipush (v := (26 : Int32)) rfl rfl rfl ?_
    refine S_copy (I := Inv _) (sp' := 0) (dp' := 0) (n' := 26) rfl rfl rfl ((congrFun V.1 11).trans s_11) ((congrFun V.1 _).trans (sp_s4 t ht)) (by decide) (by decide) (by decide) rfl rfl rfl (by decide) (by decide) (Nat.le_of_ble_eq_true rfl) (Inv_cpy V (Nat.le_of_ble_eq_true rfl) (by omega) (by omega) (U_0 rk_11 (sp_k4 t ht))) (fun g V vn21 hq => ?_)
    have hG := hq.trans hG
    have evz1 := (vn21 (14) 0 (by omega)).trans evz1
    have evz4 := (vn21 (14) 1 (by omega)).trans evz4
    have evz8 := (vn21 (10) 0 (by omega)).trans evz8
    have ve9 := (vn21 (16 + 4 * t) 0 (by omega)).trans ve9
    have evz11 := (vn21 (10) 1 (by omega)).trans evz11
    have ve12 := (vn21 (16 + 4 * t) 1 (by omega)).trans ve12
    have evz14 := (vn21 (10) 2 (by omega)).trans evz14
    have ve15 := (vn21 (16 + 4 * t) 2 (by omega)).trans ve15
    have evz17 := (vn21 (10) 3 (by omega)).trans evz17
    have ve19 := (vn21 (16 + 4 * t) 3 (by omega)).trans ve19
    refine X_aload_n rfl rfl rfl rfl ?_
    refine X_getR (a := 12) rfl rfl rfl ((congrFun V.1 10).trans s_10) rfl ((congrFun (V.2.1 10 (by decide)) 5).trans r_10_5) ?_
    refine X_iconst (v := (0 : Int32)) rfl rfl rfl ?_
    refine X_aload_n rfl rfl rfl rfl ?_
    refine X_getR (a := 18 + 4 * t) rfl rfl rfl ((congrFun V.1 _).trans (sp_s t ht)) rfl ((congrFun (V.2.1 (16 + 4 * t) (by omega)) 5).trans (sp_r5 t ht)) ?_
    refine X_iconst (v := (0 : Int32)) rfl rfl rfl ?_
    refine X_bipush (v := (26 : Int32)) rfl rfl rfl ?_
    refine S_copy (I := Inv _) (sp' := 0) (dp' := 0) (n' := 26) rfl rfl rfl ((congrFun V.1 12).trans s_12) ((congrFun V.1 _).trans (sp_s5 t ht)) (by decide) (by decide) (by decide) rfl rfl rfl (by decide) (by decide) (Nat.le_of_ble_eq_true rfl) (Inv_cpy V (Nat.le_of_ble_eq_true rfl) (by omega) (by omega) (U_0 rk_12 (sp_k5 t ht))) (fun g V vn22 hq => ?_)
    have hG := hq.trans hG
    have evz1 := (vn22 (14) 0 (by omega)).trans evz1
    have evz4 := (vn22 (14) 1 (by omega)).trans evz4
    have evz8 := (vn22 (10) 0 (by omega)).trans evz8
    have ve9 := (vn22 (16 + 4 * t) 0 (by omega)).trans ve9
    have evz11 := (vn22 (10) 1 (by omega)).trans evz11
    have ve12 := (vn22 (16 + 4 * t) 1 (by omega)).trans ve12
    have evz14 := (vn22 (10) 2 (by omega)).trans evz14
    have ve15 := (vn22 (16 + 4 * t) 2 (by omega)).trans ve15
    have evz17 := (vn22 (10) 3 (by omega)).trans evz17
    have ve19 := (vn22 (16 + 4 * t) 3 (by omega)).trans ve19
    refine X_aload_n rfl rfl rfl rfl ?_
    refine X_getR (a := 13) rfl rfl rfl ((congrFun V.1 10).trans s_10) rfl ((congrFun (V.2.1 10 (by decide)) 6).trans r_10_6) ?_
    refine X_iconst (v := (0 : Int32)) rfl rfl rfl ?_
    refine X_aload_n rfl rfl rfl rfl ?_
    refine X_getR (a := 19 + 4 * t) rfl rfl rfl ((congrFun V.1 _).trans (sp_s t ht)) rfl ((congrFun (V.2.1 (16 + 4 * t) (by omega)) 6).trans (sp_r6 t ht)) ?_
    refine X_iconst (v := (0 : Int32)) rfl rfl rfl ?_
    refine X_bipush (v := (26 : Int32)) rfl rfl rfl ?_
    refine S_copy (I := Inv _) (sp' := 0) (dp' := 0) (n' := 26) rfl rfl rfl ((congrFun V.1 13).trans s_13) ((congrFun V.1 _).trans (sp_s6 t ht)) (by decide) (by decide) (by decide) rfl rfl rfl (by decide) (by decide) (Nat.le_of_ble_eq_true rfl) (Inv_cpy V (Nat.le_of_ble_eq_true rfl) (by omega) (by omega) (U_0 rk_13 (sp_k6 t ht))) (fun g V vn23 hq => ?_)
    have hG := hq.trans hG
    have evz1 := (vn23 (14) 0 (by omega)).trans evz1
    have evz4 := (vn23 (14) 1 (by omega)).trans evz4
    have evz8 := (vn23 (10) 0 (by omega)).trans evz8
    have ve9 := (vn23 (16 + 4 * t) 0 (by omega)).trans ve9
    have evz11 := (vn23 (10) 1 (by omega)).trans evz11
    have ve12 := (vn23 (16 + 4 * t) 1 (by omega)).trans ve12
    have evz14 := (vn23 (10) 2 (by omega)).trans evz14
    have ve15 := (vn23 (16 + 4 * t) 2 (by omega)).trans ve15
    have evz17 := (vn23 (10) 3 (by omega)).trans evz17
    have ve19 := (vn23 (16 + 4 * t) 3 (by omega)).trans ve19
    refine LW_return (st := []) rfl rfl ?_
    refine X_aload_n rfl rfl rfl rfl ?_
    refine X_dup rfl rfl rfl ?_
    refine X_getI (v := vz1) rfl rfl rfl ((congrFun V.1 14).trans s_14) rfl evz1 ?_
    refine X_iconst (v := (1 : Int32)) rfl rfl rfl ?_
    refine S_iadd rfl rfl rfl (show (1 : Int32).toInt = 1 from rfl) (by omega) (fun vz24 hvz24 => ?_)
    refine S_putI (I := Inv _) rfl rfl rfl ((congrFun V.1 14).trans s_14) rfl rfl rfl rfl (Inv_putI V (Nat.le_of_ble_eq_true rfl) (Or.inl (by decide)) (Q_12_0 rk_14 (by omega))) (fun g V ve25 vn26 hq => ?_)
    have hG := hq.trans hG
    have evz4 := (vn26 (14) 1 (Or.inr (by decide))).trans evz4
    have evz8 := (vn26 (10) 0 (Or.inl (by decide))).trans evz8
    have ve9 := (vn26 (16 + 4 * t) 0 (Or.inl (by omega))).trans ve9
    have evz11 := (vn26 (10) 1 (Or.inl (by decide))).trans evz11
    have ve12 := (vn26 (16 + 4 * t) 1 (Or.inl (by omega))).trans ve12
    have evz14 := (vn26 (10) 2 (Or.inl (by decide))).trans evz14
    have ve15 := (vn26 (16 + 4 * t) 2 (Or.inl (by omega))).trans ve15
    have evz17 := (vn26 (10) 3 (Or.inl (by decide))).trans evz17
    have ve19 := (vn26 (16 + 4 * t) 3 (Or.inl (by omega))).trans ve19
    refine LW_return (st := []) rfl rfl ?_
    refine X_aload_n rfl rfl rfl rfl ?_
    refine X_getR (a := 10) rfl rfl rfl ((congrFun V.1 342).trans s_342) rfl ((congrFun (V.2.1 342 (by decide)) 1).trans r_342_1) ?_
    refine X_iload_n rfl rfl rfl rfl ?_
    refine X_iconst (v := (5 : Int32)) rfl rfl rfl ?_
    refine S_imul rfl rfl hx1 (show (5 : Int32).toInt = 5 from rfl) (by omega) (fun vz27 hvz27 => ?_)
    refine X_bipush (v := (17 : Int32)) rfl rfl rfl ?_
    refine S_iadd rfl rfl rfl (show (17 : Int32).toInt = 17 from rfl) (by omega) (fun vz28 hvz28 => ?_)
    refine S_putI (I := Inv _) rfl rfl rfl ((congrFun V.1 10).trans s_10) rfl rfl rfl rfl (Inv_putI V (Nat.le_of_ble_eq_true rfl) (Or.inl (by decide)) (Q_11_2 rk_10)) (fun g V ve29 vn30 hq => ?_)
    have hG := hq.trans hG
    have evz4 := (vn30 (14) 1 (Or.inl (by decide))).trans evz4
    have evz8 := (vn30 (10) 0 (Or.inr (by decide))).trans evz8
    have ve9 := (vn30 (16 + 4 * t) 0 (Or.inl (by omega))).trans ve9
    have evz11 := (vn30 (10) 1 (Or.inr (by decide))).trans evz11
    have ve12 := (vn30 (16 + 4 * t) 1 (Or.inl (by omega))).trans ve12
    have ve15 := (vn30 (16 + 4 * t) 2 (Or.inl (by omega))).trans ve15
    have evz17 := (vn30 (10) 3 (Or.inr (by decide))).trans evz17
    have ve19 := (vn30 (16 + 4 * t) 3 (Or.inl (by omega))).trans ve19
    have ve25 := (vn30 (14) 0 (Or.inl (by decide))).trans ve25
    refine X_iconst (v := (0 : Int32)) rfl rfl rfl ?_
    refine X_istore_n (i := 3) (ls' := [some (.ref 342), some (.int x1), some (.int x2), some (.int (0 : Int32)), none]) rfl rfl rfl (Nat.le_of_ble_eq_true rfl) rfl ?_
    exact (C_X1_liveYear_all (((40 - 0) * 1 + 0) + 1 : Int).toNat) _ V hG x1 y1 hx1 (by omega) x2 y2 hx2 (by omega) (0 : Int32) 0 (show (0 : Int32).toInt = 0 from rfl) (by omega) none    (by omega)
  · refine X_aload_n rfl rfl rfl rfl ?_
    refine X_aload_n rfl rfl rfl rfl ?_
    refine S_getI rfl rfl rfl ((congrFun V.1 14).trans s_14) rfl (fun vz31 evz31 => ?_)
    have vf32 := K_12_1 (V.2.2.2.2.1 (14) (1) (Nat.le_of_ble_eq_true rfl)) rk_14
    rw [evz31] at vf32
    refine X_iconst (v := (1 : Int32)) rfl rfl rfl ?_
    refine S_iadd rfl rfl rfl (show (1 : Int32).toInt = 1 from rfl) (by omega) (fun vz33 hvz33 => ?_)
    refine X_bipush (v := (30 : Int32)) rfl rfl rfl ?_
    refine S_irem rfl rfl rfl (show (30 : Int32).toInt = 30 from rfl) (by omega) (by omega) (fun vz34 hvz34 => ?_)
    refine S_putI (I := Inv _) rfl rfl rfl ((congrFun V.1 14).trans s_14) rfl rfl rfl rfl (Inv_putI V (Nat.le_of_ble_eq_true rfl) (Or.inl (by decide)) (Q_12_1 rk_14 (by omega))) (fun g V ve35 vn36 hq => ?_)
    have hG := hq.trans hG
    have evz1 := (vn36 (14) 0 (Or.inr (by decide))).trans evz1
    refine X_aload_n rfl rfl rfl rfl ?_
    refine X_dup rfl rfl rfl ?_
    refine X_getI (v := vz1) rfl rfl rfl ((congrFun V.1 14).trans s_14) rfl evz1 ?_
    refine X_iconst (v := (1 : Int32)) rfl rfl rfl ?_
    refine S_isub rfl rfl rfl (show (1 : Int32).toInt = 1 from rfl) (by omega) (fun vz37 hvz37 => ?_)
    refine S_putI (I := Inv _) rfl rfl rfl ((congrFun V.1 14).trans s_14) rfl rfl rfl rfl (Inv_putI V (Nat.le_of_ble_eq_true rfl) (Or.inl (by decide)) (Q_12_0 rk_14 (by omega))) (fun g V ve38 vn39 hq => ?_)
    have hG := hq.trans hG
    have ve35 := (vn39 (14) 1 (Or.inr (by decide))).trans ve35
    refine X_aload_n rfl rfl rfl rfl ?_
    refine X_getR (a := 15) rfl rfl rfl ((congrFun V.1 14).trans s_14) rfl ((congrFun (V.2.1 14 (by decide)) 2).trans r_14_2) ?_
    refine X_aload_n rfl rfl rfl rfl ?_
    refine X_getI (v := vz34) rfl rfl rfl ((congrFun V.1 14).trans s_14) rfl ve35 ?_
    refine X_aload_n rfl rfl rfl rfl ?_
    refine X_getI (v := vz37) rfl rfl rfl ((congrFun V.1 14).trans s_14) rfl ve38 ?_
    refine S_iadd rfl rfl rfl rfl (by omega) (fun vz40 hvz40 => ?_)
    refine X_bipush (v := (30 : Int32)) rfl rfl rfl ?_
    refine S_irem rfl rfl rfl (show (30 : Int32).toInt = 30 from rfl) (by omega) (by omega) (fun vz41 hvz41 => ?_)
    obtain ⟨t, ht, et⟩ : ∃ t : Nat, t < 30 ∧ (t : Int) = vz41.toInt := ⟨(vz41.toInt : Int).toNat, by omega, by omega⟩
    refine X_aald (a := 16 + 4 * t) (t0 := 3) rfl rfl ((congrFun V.1 15).trans s_15) rfl (ti_idx (n := 30) rfl (by omega)).1 (by rw [(ti_idx (n := 30) rfl (by omega)).2, show (vz41.toInt : Int).toNat = t by omega]; exact (congrFun (V.2.1 15 (by decide)) t).trans (sp_a t ht)) ?_
    refine X_aload_n rfl rfl rfl rfl ?_
    refine X_callV (as := [.ref 10]) (st := []) rfl rfl rfl (by decide) rfl (Nat.le_of_ble_eq_true rfl) (by decide) (Nat.le_of_ble_eq_true rfl) rfl ((congrFun V.1 _).trans (sp_s t ht)) (by decide) ?_
    refine LW_ls (ls' := [some (.ref (16 + 4 * t)), some (.ref 10)]) rfl ?_
    refine X_aload_n rfl rfl rfl rfl ?_
    refine X_aload_n rfl rfl rfl rfl ?_
    refine S_getI rfl rfl rfl ((congrFun V.1 10).trans s_10) rfl (fun vz42 evz42 => ?_)
    refine S_putI (I := Inv _) rfl rfl rfl ((congrFun V.1 _).trans (sp_s t ht)) rfl rfl rfl rfl (Inv_putI V (by omega) (Or.inl (by omega)) (Q_11_0 (sp_k t ht))) (fun g V ve43 vn44 hq => ?_)
    have hG := hq.trans hG
    have ve35 := (vn44 (14) 1 (Or.inl (by omega))).trans ve35
    have ve38 := (vn44 (14) 0 (Or.inl (by omega))).trans ve38
    have evz42 := (vn44 (10) 0 (Or.inl (by omega))).trans evz42
    refine X_aload_n rfl rfl rfl rfl ?_
    refine X_aload_n rfl rfl rfl rfl ?_
    refine S_getI rfl rfl rfl ((congrFun V.1 10).trans s_10) rfl (fun vz45 evz45 => ?_)
    refine S_putI (I := Inv _) rfl rfl rfl ((congrFun V.1 _).trans (sp_s t ht)) rfl rfl rfl rfl (Inv_putI V (by omega) (Or.inl (by omega)) (Q_11_1 (sp_k t ht))) (fun g V ve46 vn47 hq => ?_)
    have hG := hq.trans hG
    have ve35 := (vn47 (14) 1 (Or.inl (by omega))).trans ve35
    have ve38 := (vn47 (14) 0 (Or.inl (by omega))).trans ve38
    have evz42 := (vn47 (10) 0 (Or.inl (by omega))).trans evz42
    have ve43 := (vn47 (16 + 4 * t) 0 (Or.inr (by decide))).trans ve43
    have evz45 := (vn47 (10) 1 (Or.inl (by omega))).trans evz45
    refine X_aload_n rfl rfl rfl rfl ?_
    refine X_aload_n rfl rfl rfl rfl ?_
    refine S_getI rfl rfl rfl ((congrFun V.1 10).trans s_10) rfl (fun vz48 evz48 => ?_)
    refine S_putI (I := Inv _) rfl rfl rfl ((congrFun V.1 _).trans (sp_s t ht)) rfl rfl rfl rfl (Inv_putI V (by omega) (Or.inl (by omega)) (Q_11_2 (sp_k t ht))) (fun g V ve49 vn50 hq => ?_)
    have hG := hq.trans hG
    have ve35 := (vn50 (14) 1 (Or.inl (by omega))).trans ve35
    have ve38 := (vn50 (14) 0 (Or.inl (by omega))).trans ve38
    have evz42 := (vn50 (10) 0 (Or.inl (by omega))).trans evz42
    have ve43 := (vn50 (16 + 4 * t) 0 (Or.inr (by decide))).trans ve43
    have evz45 := (vn50 (10) 1 (Or.inl (by omega))).trans evz45
    have ve46 := (vn50 (16 + 4 * t) 1 (Or.inr (by decide))).trans ve46
    have evz48 := (vn50 (10) 2 (Or.inl (by omega))).trans evz48
    refine X_aload_n rfl rfl rfl rfl ?_
    refine X_aload_n rfl rfl rfl rfl ?_
    refine S_getI rfl rfl rfl ((congrFun V.1 10).trans s_10) rfl (fun vz51 evz51 => ?_)
    have vf52 := K_11_3 (V.2.2.2.2.1 (10) (3) (Nat.le_of_ble_eq_true rfl)) rk_10
    rw [evz51] at vf52
    refine S_putI (I := Inv _) rfl rfl rfl ((congrFun V.1 _).trans (sp_s t ht)) rfl rfl rfl rfl (Inv_putI V (by omega) (Or.inl (by omega)) (Q_11_3 (sp_k t ht) (by omega))) (fun g V ve53 vn54 hq => ?_)
    have hG := hq.trans hG
    have ve35 := (vn54 (14) 1 (Or.inl (by omega))).trans ve35
    have ve38 := (vn54 (14) 0 (Or.inl (by omega))).trans ve38
    have evz42 := (vn54 (10) 0 (Or.inl (by omega))).trans evz42
    have ve43 := (vn54 (16 + 4 * t) 0 (Or.inr (by decide))).trans ve43
    have evz45 := (vn54 (10) 1 (Or.inl (by omega))).trans evz45
    have ve46 := (vn54 (16 + 4 * t) 1 (Or.inr (by decide))).trans ve46
    have evz48 := (vn54 (10) 2 (Or.inl (by omega))).trans evz48
    have ve49 := (vn54 (16 + 4 * t) 2 (Or.inr (by decide))).trans ve49
    have evz51 := (vn54 (10) 3 (Or.inl (by omega))).trans evz51
    refine X_aload_n rfl rfl rfl rfl ?_
    refine X_getR (a := 11) rfl rfl rfl ((congrFun V.1 10).trans s_10) rfl ((congrFun (V.2.1 10 (by decide)) 4).trans r_10_4) ?_
    refine X_iconst (v := (0 : Int32)) rfl rfl rfl ?_
    refine X_aload_n rfl rfl rfl rfl ?_
    refine X_getR (a := 17 + 4 * t) rfl rfl rfl ((congrFun V.1 _).trans (sp_s t ht)) rfl ((congrFun (V.2.1 (16 + 4 * t) (by omega)) 4).trans (sp_r4 t ht)) ?_
    refine X_iconst (v := (0 : Int32)) rfl rfl rfl ?_
    refine X_bipush (v := (26 : Int32)) rfl rfl rfl ?_
    refine S_copy (I := Inv _) (sp' := 0) (dp' := 0) (n' := 26) rfl rfl rfl ((congrFun V.1 11).trans s_11) ((congrFun V.1 _).trans (sp_s4 t ht)) (by decide) (by decide) (by decide) rfl rfl rfl (by decide) (by decide) (Nat.le_of_ble_eq_true rfl) (Inv_cpy V (Nat.le_of_ble_eq_true rfl) (by omega) (by omega) (U_0 rk_11 (sp_k4 t ht))) (fun g V vn55 hq => ?_)
    have hG := hq.trans hG
    have ve35 := (vn55 (14) 1 (by omega)).trans ve35
    have ve38 := (vn55 (14) 0 (by omega)).trans ve38
    have evz42 := (vn55 (10) 0 (by omega)).trans evz42
    have ve43 := (vn55 (16 + 4 * t) 0 (by omega)).trans ve43
    have evz45 := (vn55 (10) 1 (by omega)).trans evz45
    have ve46 := (vn55 (16 + 4 * t) 1 (by omega)).trans ve46
    have evz48 := (vn55 (10) 2 (by omega)).trans evz48
    have ve49 := (vn55 (16 + 4 * t) 2 (by omega)).trans ve49
    have evz51 := (vn55 (10) 3 (by omega)).trans evz51
    have ve53 := (vn55 (16 + 4 * t) 3 (by omega)).trans ve53
    refine X_aload_n rfl rfl rfl rfl ?_
    refine X_getR (a := 12) rfl rfl rfl ((congrFun V.1 10).trans s_10) rfl ((congrFun (V.2.1 10 (by decide)) 5).trans r_10_5) ?_
    refine X_iconst (v := (0 : Int32)) rfl rfl rfl ?_
    refine X_aload_n rfl rfl rfl rfl ?_
    refine X_getR (a := 18 + 4 * t) rfl rfl rfl ((congrFun V.1 _).trans (sp_s t ht)) rfl ((congrFun (V.2.1 (16 + 4 * t) (by omega)) 5).trans (sp_r5 t ht)) ?_
    refine X_iconst (v := (0 : Int32)) rfl rfl rfl ?_
    refine X_bipush (v := (26 : Int32)) rfl rfl rfl ?_
    refine S_copy (I := Inv _) (sp' := 0) (dp' := 0) (n' := 26) rfl rfl rfl ((congrFun V.1 12).trans s_12) ((congrFun V.1 _).trans (sp_s5 t ht)) (by decide) (by decide) (by decide) rfl rfl rfl (by decide) (by decide) (Nat.le_of_ble_eq_true rfl) (Inv_cpy V (Nat.le_of_ble_eq_true rfl) (by omega) (by omega) (U_0 rk_12 (sp_k5 t ht))) (fun g V vn56 hq => ?_)
    have hG := hq.trans hG
    have ve35 := (vn56 (14) 1 (by omega)).trans ve35
    have ve38 := (vn56 (14) 0 (by omega)).trans ve38
    have evz42 := (vn56 (10) 0 (by omega)).trans evz42
    have ve43 := (vn56 (16 + 4 * t) 0 (by omega)).trans ve43
    have evz45 := (vn56 (10) 1 (by omega)).trans evz45
    have ve46 := (vn56 (16 + 4 * t) 1 (by omega)).trans ve46
    have evz48 := (vn56 (10) 2 (by omega)).trans evz48
    have ve49 := (vn56 (16 + 4 * t) 2 (by omega)).trans ve49
    have evz51 := (vn56 (10) 3 (by omega)).trans evz51
    have ve53 := (vn56 (16 + 4 * t) 3 (by omega)).trans ve53
    refine X_aload_n rfl rfl rfl rfl ?_
    refine X_getR (a := 13) rfl rfl rfl ((congrFun V.1 10).trans s_10) rfl ((congrFun (V.2.1 10 (by decide)) 6).trans r_10_6) ?_
    refine X_iconst (v := (0 : Int32)) rfl rfl rfl ?_
    refine X_aload_n rfl rfl rfl rfl ?_
    refine X_getR (a := 19 + 4 * t) rfl rfl rfl ((congrFun V.1 _).trans (sp_s t ht)) rfl ((congrFun (V.2.1 (16 + 4 * t) (by omega)) 6).trans (sp_r6 t ht)) ?_
    refine X_iconst (v := (0 : Int32)) rfl rfl rfl ?_
    refine X_bipush (v := (26 : Int32)) rfl rfl rfl ?_
    refine S_copy (I := Inv _) (sp' := 0) (dp' := 0) (n' := 26) rfl rfl rfl ((congrFun V.1 13).trans s_13) ((congrFun V.1 _).trans (sp_s6 t ht)) (by decide) (by decide) (by decide) rfl rfl rfl (by decide) (by decide) (Nat.le_of_ble_eq_true rfl) (Inv_cpy V (Nat.le_of_ble_eq_true rfl) (by omega) (by omega) (U_0 rk_13 (sp_k6 t ht))) (fun g V vn57 hq => ?_)
    have hG := hq.trans hG
    have ve35 := (vn57 (14) 1 (by omega)).trans ve35
    have ve38 := (vn57 (14) 0 (by omega)).trans ve38
    have evz42 := (vn57 (10) 0 (by omega)).trans evz42
    have ve43 := (vn57 (16 + 4 * t) 0 (by omega)).trans ve43
    have evz45 := (vn57 (10) 1 (by omega)).trans evz45
    have ve46 := (vn57 (16 + 4 * t) 1 (by omega)).trans ve46
    have evz48 := (vn57 (10) 2 (by omega)).trans evz48
    have ve49 := (vn57 (16 + 4 * t) 2 (by omega)).trans ve49
    have evz51 := (vn57 (10) 3 (by omega)).trans evz51
    have ve53 := (vn57 (16 + 4 * t) 3 (by omega)).trans ve53
    refine LW_return (st := []) rfl rfl ?_
    refine X_aload_n rfl rfl rfl rfl ?_
    refine X_dup rfl rfl rfl ?_
    refine X_getI (v := vz37) rfl rfl rfl ((congrFun V.1 14).trans s_14) rfl ve38 ?_
    refine X_iconst (v := (1 : Int32)) rfl rfl rfl ?_
    refine S_iadd rfl rfl rfl (show (1 : Int32).toInt = 1 from rfl) (by omega) (fun vz58 hvz58 => ?_)
    refine S_putI (I := Inv _) rfl rfl rfl ((congrFun V.1 14).trans s_14) rfl rfl rfl rfl (Inv_putI V (Nat.le_of_ble_eq_true rfl) (Or.inl (by decide)) (Q_12_0 rk_14 (by omega))) (fun g V ve59 vn60 hq => ?_)
    have hG := hq.trans hG
    have ve35 := (vn60 (14) 1 (Or.inr (by decide))).trans ve35
    have evz42 := (vn60 (10) 0 (Or.inl (by decide))).trans evz42
    have ve43 := (vn60 (16 + 4 * t) 0 (Or.inl (by omega))).trans ve43
    have evz45 := (vn60 (10) 1 (Or.inl (by decide))).trans evz45
    have ve46 := (vn60 (16 + 4 * t) 1 (Or.inl (by omega))).trans ve46
    have evz48 := (vn60 (10) 2 (Or.inl (by decide))).trans evz48
    have ve49 := (vn60 (16 + 4 * t) 2 (Or.inl (by omega))).trans ve49
    have evz51 := (vn60 (10) 3 (Or.inl (by decide))).trans evz51
    have ve53 := (vn60 (16 + 4 * t) 3 (Or.inl (by omega))).trans ve53
    refine LW_return (st := []) rfl rfl ?_
    refine X_aload_n rfl rfl rfl rfl ?_
    refine X_getR (a := 10) rfl rfl rfl ((congrFun V.1 342).trans s_342) rfl ((congrFun (V.2.1 342 (by decide)) 1).trans r_342_1) ?_
    refine X_iload_n rfl rfl rfl rfl ?_
    refine X_iconst (v := (5 : Int32)) rfl rfl rfl ?_
    refine S_imul rfl rfl hx1 (show (5 : Int32).toInt = 5 from rfl) (by omega) (fun vz61 hvz61 => ?_)
    refine X_bipush (v := (17 : Int32)) rfl rfl rfl ?_
    refine S_iadd rfl rfl rfl (show (17 : Int32).toInt = 17 from rfl) (by omega) (fun vz62 hvz62 => ?_)
    refine S_putI (I := Inv _) rfl rfl rfl ((congrFun V.1 10).trans s_10) rfl rfl rfl rfl (Inv_putI V (Nat.le_of_ble_eq_true rfl) (Or.inl (by decide)) (Q_11_2 rk_10)) (fun g V ve63 vn64 hq => ?_)
    have hG := hq.trans hG
    have ve35 := (vn64 (14) 1 (Or.inl (by decide))).trans ve35
    have evz42 := (vn64 (10) 0 (Or.inr (by decide))).trans evz42
    have ve43 := (vn64 (16 + 4 * t) 0 (Or.inl (by omega))).trans ve43
    have evz45 := (vn64 (10) 1 (Or.inr (by decide))).trans evz45
    have ve46 := (vn64 (16 + 4 * t) 1 (Or.inl (by omega))).trans ve46
    have ve49 := (vn64 (16 + 4 * t) 2 (Or.inl (by omega))).trans ve49
    have evz51 := (vn64 (10) 3 (Or.inr (by decide))).trans evz51
    have ve53 := (vn64 (16 + 4 * t) 3 (Or.inl (by omega))).trans ve53
    have ve59 := (vn64 (14) 0 (Or.inl (by decide))).trans ve59
    refine X_iconst (v := (0 : Int32)) rfl rfl rfl ?_
    refine X_istore_n (i := 3) (ls' := [some (.ref 342), some (.int x1), some (.int x2), some (.int (0 : Int32)), none]) rfl rfl rfl (Nat.le_of_ble_eq_true rfl) rfl ?_
    exact (C_X1_liveYear_all (((40 - 0) * 1 + 0) + 1 : Int).toNat) _ V hG x1 y1 hx1 (by omega) x2 y2 hx2 (by omega) (0 : Int32) 0 (show (0 : Int32).toInt = 0 from rfl) (by omega) none    (by omega)
