/-! the class's methods: each returns and keeps what every state keeps -/
set_option maxRecDepth 10000 in
set_option maxHeartbeats 40000000 in
theorem C_X5_uses_4 {P : Par} {g : LH} {d n : Nat}  (V : Inv P g) (x1 : Int32) (y1 : Int) (hx1 : x1.toInt = y1) (hf1 : 0 ≤ y1 ∧ y1 ≤ 25) (x2 : Int32) (y2 : Int) (hx2 : x2.toInt = y2) (x3 : Int32) (y3 : Int) (hx3 : x3.toInt = y3) (hf3 : 0 ≤ y3 ∧ y3 ≤ 24)  (hmu : (24 - y3) * 1 + 0 < (n : Int) + 1) (ih4 : ∀ (V : Inv P g) (x1 : Int32) (y1 : Int) (hx1 : x1.toInt = y1) (hf1 : 0 ≤ y1 ∧ y1 ≤ 25) (x2 : Int32) (y2 : Int) (hx2 : x2.toInt = y2) (x3 : Int32) (y3 : Int) (hx3 : x3.toInt = y3) (hf3 : 0 ≤ y3 ∧ y3 ≤ 24) , (24 - y3) * 1 + 0 < (n : Int) → LW 47 (d + 3) 0 0 4 [some (.ref 2), some (.int x1), some (.int x2), some (.int x3)] [] g (fun v g' => ∃ r : Int32, v = some (.int r) ∧ g = g')) : LW 47 (d + 3) 0 0 4 [some (.ref 2), some (.int x1), some (.int x2), some (.int x3)] [] g (fun v g' => ∃ r : Int32, v = some (.int r) ∧ g = g') := by
  refine X_iload_n rfl rfl rfl rfl ?_
  refine X_aload_n rfl rfl rfl rfl ?_
  refine S_getI rfl rfl rfl ((congrFun V.1 2).trans s_2) rfl (fun vz1 evz1 => ?_)
  have vf2 := K_10_0 (V.2.2.2.2.1 (2) (0) (Nat.le_of_ble_eq_true rfl)) rk_2
  rw [evz1] at vf2
  refine S_icmp_ge (tgt := 31) rfl rfl rfl hx3 rfl (fun vh3 => ?_) (fun vh3 => ?_)
  · refine X_iload_n rfl rfl rfl rfl ?_
    exact LW_ireturn (st := []) rfl rfl rfl ⟨_, rfl, rfl⟩
  · refine X_iload_n rfl rfl rfl rfl ?_
    refine X_aload_n rfl rfl rfl rfl ?_
    refine X_getR (a := 5) rfl rfl rfl ((congrFun V.1 2).trans s_2) rfl ((congrFun (V.2.1 2 (by decide)) 4).trans r_2_4) ?_
    refine X_iload_n rfl rfl rfl rfl ?_
    refine S_iald rfl rfl ((congrFun V.1 5).trans s_5) hx3 (by omega) (fun vz4 evz4 => ?_)
    refine X_iload_n rfl rfl rfl rfl ?_
    refine S_ishrT rfl rfl (fun vz5 => ?_)
    refine X_iconst (v := (1 : Int32)) rfl rfl rfl ?_
    refine S_iandR (k := 1) rfl rfl rfl (fun vz6 hvz6 => ?_)
    refine S_iaddT rfl rfl (fun vz7 => ?_)
    refine X_istore_n (i := 2) (ls' := [some (.ref 2), some (.int x1), some (.int vz7), some (.int x3)]) rfl rfl rfl (Nat.le_of_ble_eq_true rfl) rfl ?_
    refine S_iinc (c := 1) rfl rfl rfl hx3 rfl (by omega) (fun vz8 hvz8 => ?_)
    refine LW_ls (ls' := [some (.ref 2), some (.int x1), some (.int vz7), some (.int vz8)]) rfl ?_
    refine LW_goto (tgt := 4) rfl rfl ?_
    exact ih4 V x1 y1 hx1 (by omega) vz7 vz7.toInt rfl vz8 vz8.toInt rfl (by omega)    (by omega)
theorem C_X5_uses_all {P : Par} {g : LH} {d : Nat}  : ∀ n : Nat, (∀ (V : Inv P g) (x1 : Int32) (y1 : Int) (hx1 : x1.toInt = y1) (hf1 : 0 ≤ y1 ∧ y1 ≤ 25) (x2 : Int32) (y2 : Int) (hx2 : x2.toInt = y2) (x3 : Int32) (y3 : Int) (hx3 : x3.toInt = y3) (hf3 : 0 ≤ y3 ∧ y3 ≤ 24) , (24 - y3) * 1 + 0 < (n : Int) → LW 47 (d + 3) 0 0 4 [some (.ref 2), some (.int x1), some (.int x2), some (.int x3)] [] g (fun v g' => ∃ r : Int32, v = some (.int r) ∧ g = g')) := by
  intro n
  induction n with
  | zero => exact fun V x1 y1 hx1 hf1 x2 y2 hx2 x3 y3 hx3 hf3 hmu => absurd hmu (by omega)
  | succ n ih => exact fun V x1 y1 hx1 hf1 x2 y2 hx2 x3 y3 hx3 hf3 hmu => C_X5_uses_4  V x1 y1 hx1 hf1 x2 y2 hx2 x3 y3 hx3 hf3 (by omega) ih
set_option maxRecDepth 10000 in
set_option maxHeartbeats 40000000 in
theorem C_X5_uses {P : Par} {g : LH} {d : Nat}  (V : Inv P g) (x1 : Int32) (y1 : Int) (hx1 : x1.toInt = y1) (hf1 : 0 ≤ y1 ∧ y1 ≤ 25)   : LW 47 (d + 3) 0 0 0 (lEnt (mL 47) [.ref 2, .int x1]) [] g (fun v g' => ∃ r : Int32, v = some (.int r) ∧ g = g') := by
  refine LW_ls (ls' := [some (.ref 2), some (.int x1), none, none]) rfl ?_
  refine X_iconst (v := (0 : Int32)) rfl rfl rfl ?_
  refine X_istore_n (i := 2) (ls' := [some (.ref 2), some (.int x1), some (.int (0 : Int32)), none]) rfl rfl rfl (Nat.le_of_ble_eq_true rfl) rfl ?_
  refine X_iconst (v := (0 : Int32)) rfl rfl rfl ?_
  refine X_istore_n (i := 3) (ls' := [some (.ref 2), some (.int x1), some (.int (0 : Int32)), some (.int (0 : Int32))]) rfl rfl rfl (Nat.le_of_ble_eq_true rfl) rfl ?_
  exact (C_X5_uses_all (((24 - 0) * 1 + 0) + 1 : Int).toNat) V x1 y1 hx1 (by omega) (0 : Int32) 0 (show (0 : Int32).toInt = 0 from rfl) (0 : Int32) 0 (show (0 : Int32).toInt = 0 from rfl) (by omega)    (by omega)
set_option maxRecDepth 10000 in
set_option maxHeartbeats 40000000 in
theorem C_X4_moves {P : Par} {g : LH} {d : Nat}  (V : Inv P g) (x1 : Int32) (y1 : Int) (hx1 : x1.toInt = y1) (hf1 : 0 ≤ y1 ∧ y1 ≤ 25)   : LW 28 (d + 12) 0 0 0 (lEnt (mL 28) [.ref 339, .int x1]) [] g (fun v g' => ∃ r : Int32, v = some (.int r) ∧ 0 ≤ r.toInt ∧ r.toInt ≤ 1 ∧ Inv P g' ∧ Gr g' = Gr g) := by
  refine LW_ls (ls' := [some (.ref 339), some (.int x1), none, none, none, none]) rfl ?_
  have hG : Gr g = Gr g := rfl
  refine X_aload_n rfl rfl rfl rfl ?_
  refine X_getR (a := 1) rfl rfl rfl ((congrFun V.1 339).trans s_339) rfl ((congrFun (V.2.1 339 (by decide)) 0).trans r_339_0) ?_
  refine X_getR (a := 10) rfl rfl rfl ((congrFun V.1 1).trans s_1) rfl ((congrFun (V.2.1 1 (by decide)) 1).trans r_1_1) ?_
  refine X_astore_n (i := 2) (ls' := [some (.ref 339), some (.int x1), some (.ref 10), none, none, none]) rfl rfl rfl (Nat.le_of_ble_eq_true rfl) rfl ?_
  refine X_aload_n rfl rfl rfl rfl ?_
  refine X_getR (a := 1) rfl rfl rfl ((congrFun V.1 339).trans s_339) rfl ((congrFun (V.2.1 339 (by decide)) 0).trans r_339_0) ?_
  refine X_getR (a := 141) rfl rfl rfl ((congrFun V.1 1).trans s_1) rfl ((congrFun (V.2.1 1 (by decide)) 4).trans r_1_4) ?_
  refine X_iload_n rfl rfl rfl rfl ?_
  refine S_iald rfl rfl ((congrFun V.1 141).trans s_141) hx1 (by omega) (fun vz1 evz1 => ?_)
  refine X_aload_n rfl rfl rfl rfl ?_
  refine S_getI rfl rfl rfl ((congrFun V.1 10).trans s_10) rfl (fun vz2 evz2 => ?_)
  refine S_iandT rfl rfl (fun vz3 => ?_)
  refine Y_callS (as := [.int vz3]) (st := []) rfl rfl rfl (by decide) rfl (Nat.le_of_ble_eq_true rfl) (by decide) (Nat.le_of_ble_eq_true rfl) rfl (C_J6_bitCount_0f7a4 V vz3 vz3.toInt rfl ) ?_
  rintro _ g' ⟨vr4, rfl, hrvr40, hrvr41, hgg⟩
  subst hgg
  refine X_istore_n (i := 3) (ls' := [some (.ref 339), some (.int x1), some (.ref 10), some (.int vr4), none, none]) rfl rfl rfl (Nat.le_of_ble_eq_true rfl) rfl ?_
  refine X_aload_n rfl rfl rfl rfl ?_
  refine X_iload_n rfl rfl rfl rfl ?_
  refine X_callV (as := [.int x1]) (st := []) rfl rfl rfl (by decide) rfl (Nat.le_of_ble_eq_true rfl) (by decide) (Nat.le_of_ble_eq_true rfl) rfl ((congrFun V.1 10).trans s_10) (by decide) ?_
  refine LW_ls (ls' := [some (.ref 10), some (.int x1)]) rfl ?_
  refine X_aload_n rfl rfl rfl rfl ?_
  refine X_getI (v := vz2) rfl rfl rfl ((congrFun V.1 10).trans s_10) rfl evz2 ?_
  refine X_iload_n rfl rfl rfl rfl ?_
  refine S_ishrT rfl rfl (fun vz5 => ?_)
  refine X_iconst (v := (1 : Int32)) rfl rfl rfl ?_
  refine S_iandR (k := 1) rfl rfl rfl (fun vz6 hvz6 => ?_)
  refine S_if_eq (tgt := 15) rfl rfl rfl rfl (fun vh7 => ?_) (fun vh7 => ?_)
  · refine X_iconst (v := (0 : Int32)) rfl rfl rfl ?_
    refine LW_ireturn (st := []) rfl rfl rfl ?_
    refine S_if_eq (tgt := 38) rfl rfl rfl (show (0 : Int32).toInt = 0 from rfl) (fun vh8 => ?_) (fun q => absurd q (by omega))
    refine X_iconst (v := (0 : Int32)) rfl rfl rfl ?_
    refine X_istore (i := 4) (ls' := [some (.ref 339), some (.int x1), some (.ref 10), some (.int vr4), some (.int (0 : Int32)), none]) rfl rfl (Nat.le_of_ble_eq_true rfl) rfl ?_
    refine X_aload_n rfl rfl rfl rfl ?_
    refine X_iload rfl rfl rfl ?_
    refine Y_callV (as := [.int (0 : Int32)]) (st := []) rfl rfl rfl (by decide) rfl (Nat.le_of_ble_eq_true rfl) (by decide) (Nat.le_of_ble_eq_true rfl) rfl ((congrFun V.1 339).trans s_339) (by decide) (C_X4_ruling V (0 : Int32) 0 (show (0 : Int32).toInt = 0 from rfl) (by omega) ) ?_
    rintro _ g' ⟨rfl | ⟨u, hu, rfl, hl⟩, hgg⟩
    · subst hgg
      refine X_astoreN (i := 5) (ls' := [some (.ref 339), some (.int x1), some (.ref 10), some (.int vr4), some (.int (0 : Int32)), some (.null)]) rfl rfl (Nat.le_of_ble_eq_true rfl) rfl ?_
      refine X_aloadN rfl rfl rfl ?_
      refine X_ifnonnullN (tgt := 98) rfl rfl rfl ?_
      refine X_iload rfl rfl rfl ?_
      refine X_iconst (v := (1 : Int32)) rfl rfl rfl ?_
      refine S_icmp_ne (tgt := 79) rfl rfl rfl (show (0 : Int32).toInt = 0 from rfl) (show (1 : Int32).toInt = 1 from rfl) (fun vh9 => ?_) (fun q => absurd q (by omega))
      refine X_iload_n rfl rfl rfl rfl ?_
      refine S_if_le (tgt := 96) rfl rfl rfl rfl (fun vh10 => ?_) (fun vh10 => ?_)
      · refine X_iconst (v := (0 : Int32)) rfl rfl rfl ?_
        exact LW_ireturn (st := []) rfl rfl rfl ⟨_, rfl, by decide, by decide, V, hG⟩
      · refine X_aload_n rfl rfl rfl rfl ?_
        refine X_getR (a := 12) rfl rfl rfl ((congrFun V.1 10).trans s_10) rfl ((congrFun (V.2.1 10 (by decide)) 5).trans r_10_5) ?_
        refine X_iload_n rfl rfl rfl rfl ?_
        refine S_iald rfl rfl ((congrFun V.1 12).trans s_12) hx1 (by omega) (fun vz11 evz11 => ?_)
        refine S_if_le (tgt := 96) rfl rfl rfl rfl (fun vh12 => ?_) (fun vh12 => ?_)
        · refine X_iconst (v := (0 : Int32)) rfl rfl rfl ?_
          exact LW_ireturn (st := []) rfl rfl rfl ⟨_, rfl, by decide, by decide, V, hG⟩
        · refine X_iconst (v := (1 : Int32)) rfl rfl rfl ?_
          refine LW_goto (tgt := 97) rfl rfl ?_
          exact LW_ireturn (st := []) rfl rfl rfl ⟨_, rfl, by decide, by decide, V, hG⟩
    · subst hgg
      refine X_astore (i := 5) (ls' := [some (.ref 339), some (.int x1), some (.ref 10), some (.int vr4), some (.int (0 : Int32)), some (.ref (292 + 10 * u))]) rfl rfl (Nat.le_of_ble_eq_true rfl) rfl ?_
      refine X_aload rfl rfl rfl ?_
      refine LW_ifnonnull (tgt := 98) rfl rfl ?_
      refine X_aload_n rfl rfl rfl rfl ?_
      refine X_aload_n rfl rfl rfl rfl ?_
      refine Y_callV (as := []) (st := [.ref 339]) rfl rfl rfl (by decide) rfl (Nat.le_of_ble_eq_true rfl) (by decide) (Nat.le_of_ble_eq_true rfl) rfl ((congrFun V.1 10).trans s_10) (by decide) (C_X9_outs V  ) ?_
      rintro _ g' ⟨vr13, rfl, hrvr130, hrvr131, hgg⟩
      subst hgg
      refine X_callV (as := [.int vr13]) (st := []) rfl rfl rfl (by decide) rfl (Nat.le_of_ble_eq_true rfl) (by decide) (Nat.le_of_ble_eq_true rfl) rfl ((congrFun V.1 339).trans s_339) (by decide) ?_
      refine LW_ls (ls' := [some (.ref 339), some (.int vr13)]) rfl ?_
      refine X_aload_n rfl rfl rfl rfl ?_
      refine X_getR (a := 340) rfl rfl rfl ((congrFun V.1 339).trans s_339) rfl ((congrFun (V.2.1 339 (by decide)) 2).trans r_339_2) ?_
      refine X_iconst (v := (0 : Int32)) rfl rfl rfl ?_
      refine X_aload_n rfl rfl rfl rfl ?_
      refine X_getR (a := 1) rfl rfl rfl ((congrFun V.1 339).trans s_339) rfl ((congrFun (V.2.1 339 (by decide)) 0).trans r_339_0) ?_
      refine X_getR (a := 10) rfl rfl rfl ((congrFun V.1 1).trans s_1) rfl ((congrFun (V.2.1 1 (by decide)) 1).trans r_1_1) ?_
      refine S_getI rfl rfl rfl ((congrFun V.1 10).trans s_10) rfl (fun vz14 evz14 => ?_)
      refine S_iast (I := Inv _) rfl rfl ((congrFun V.1 340).trans s_340) (show (0 : Int32).toInt = 0 from rfl) (by omega) (Inv_putI V (Nat.le_of_ble_eq_true rfl) (Or.inl (by decide)) (Q_0 rk_340)) (fun g V ve15 vn16 hq => ?_)
      have hG := hq.trans hG
      have evz1 := (vn16 (141) ((y1 : Int).toNat) (Or.inl (by decide))).trans evz1
      have evz2 := (vn16 (10) 0 (Or.inl (by decide))).trans evz2
      have evz14 := (vn16 (10) 1 (Or.inl (by decide))).trans evz14
      rw [← vn16 (299 + 10 * u) (0 : Int).toNat (Or.inl (by omega))] at hl
      refine X_aload_n rfl rfl rfl rfl ?_
      refine X_getR (a := 340) rfl rfl rfl ((congrFun V.1 339).trans s_339) rfl ((congrFun (V.2.1 339 (by decide)) 2).trans r_339_2) ?_
      refine X_iconst (v := (1 : Int32)) rfl rfl rfl ?_
      refine X_iload_n rfl rfl rfl rfl ?_
      refine S_iast (I := Inv _) rfl rfl ((congrFun V.1 340).trans s_340) (show (1 : Int32).toInt = 1 from rfl) (by omega) (Inv_putI V (Nat.le_of_ble_eq_true rfl) (Or.inl (by decide)) (Q_0 rk_340)) (fun g V ve17 vn18 hq => ?_)
      have hG := hq.trans hG
      have evz1 := (vn18 (141) ((y1 : Int).toNat) (Or.inl (by decide))).trans evz1
      have evz2 := (vn18 (10) 0 (Or.inl (by decide))).trans evz2
      have evz14 := (vn18 (10) 1 (Or.inl (by decide))).trans evz14
      rw [← vn18 (299 + 10 * u) (0 : Int).toNat (Or.inl (by omega))] at hl
      refine LW_return (st := []) rfl rfl ?_
      refine X_aload_n rfl rfl rfl rfl ?_
      refine X_getR (a := 340) rfl rfl rfl ((congrFun V.1 339).trans s_339) rfl ((congrFun (V.2.1 339 (by decide)) 2).trans r_339_2) ?_
      refine X_iconst (v := (2 : Int32)) rfl rfl rfl ?_
      refine X_iload_n rfl rfl rfl rfl ?_
      refine S_iast (I := Inv _) rfl rfl ((congrFun V.1 340).trans s_340) (show (2 : Int32).toInt = 2 from rfl) (by omega) (Inv_putI V (Nat.le_of_ble_eq_true rfl) (Or.inl (by decide)) (Q_0 rk_340)) (fun g V ve19 vn20 hq => ?_)
      have hG := hq.trans hG
      have evz1 := (vn20 (141) ((y1 : Int).toNat) (Or.inl (by decide))).trans evz1
      have evz2 := (vn20 (10) 0 (Or.inl (by decide))).trans evz2
      have evz14 := (vn20 (10) 1 (Or.inl (by decide))).trans evz14
      rw [← vn20 (299 + 10 * u) (0 : Int).toNat (Or.inl (by omega))] at hl
      refine X_aload_n rfl rfl rfl rfl ?_
      refine X_getR (a := 340) rfl rfl rfl ((congrFun V.1 339).trans s_339) rfl ((congrFun (V.2.1 339 (by decide)) 2).trans r_339_2) ?_
      refine X_iconst (v := (3 : Int32)) rfl rfl rfl ?_
      refine X_aload_n rfl rfl rfl rfl ?_
      refine X_getR (a := 11) rfl rfl rfl ((congrFun V.1 10).trans s_10) rfl ((congrFun (V.2.1 10 (by decide)) 4).trans r_10_4) ?_
      refine X_iload_n rfl rfl rfl rfl ?_
      refine S_iald rfl rfl ((congrFun V.1 11).trans s_11) hx1 (by omega) (fun vz21 evz21 => ?_)
      refine S_iast (I := Inv _) rfl rfl ((congrFun V.1 340).trans s_340) (show (3 : Int32).toInt = 3 from rfl) (by omega) (Inv_putI V (Nat.le_of_ble_eq_true rfl) (Or.inl (by decide)) (Q_0 rk_340)) (fun g V ve22 vn23 hq => ?_)
      have hG := hq.trans hG
      have evz1 := (vn23 (141) ((y1 : Int).toNat) (Or.inl (by decide))).trans evz1
      have evz2 := (vn23 (10) 0 (Or.inl (by decide))).trans evz2
      have evz14 := (vn23 (10) 1 (Or.inl (by decide))).trans evz14
      have evz21 := (vn23 (11) ((y1 : Int).toNat) (Or.inl (by decide))).trans evz21
      rw [← vn23 (299 + 10 * u) (0 : Int).toNat (Or.inl (by omega))] at hl
      refine X_aload_n rfl rfl rfl rfl ?_
      refine X_getR (a := 340) rfl rfl rfl ((congrFun V.1 339).trans s_339) rfl ((congrFun (V.2.1 339 (by decide)) 2).trans r_339_2) ?_
      refine X_iconst (v := (4 : Int32)) rfl rfl rfl ?_
      refine X_aload_n rfl rfl rfl rfl ?_
      refine X_getR (a := 12) rfl rfl rfl ((congrFun V.1 10).trans s_10) rfl ((congrFun (V.2.1 10 (by decide)) 5).trans r_10_5) ?_
      refine X_iload_n rfl rfl rfl rfl ?_
      refine S_iald rfl rfl ((congrFun V.1 12).trans s_12) hx1 (by omega) (fun vz24 evz24 => ?_)
      refine S_iast (I := Inv _) rfl rfl ((congrFun V.1 340).trans s_340) (show (4 : Int32).toInt = 4 from rfl) (by omega) (Inv_putI V (Nat.le_of_ble_eq_true rfl) (Or.inl (by decide)) (Q_0 rk_340)) (fun g V ve25 vn26 hq => ?_)
      have hG := hq.trans hG
      have evz1 := (vn26 (141) ((y1 : Int).toNat) (Or.inl (by decide))).trans evz1
      have evz2 := (vn26 (10) 0 (Or.inl (by decide))).trans evz2
      have evz14 := (vn26 (10) 1 (Or.inl (by decide))).trans evz14
      have evz21 := (vn26 (11) ((y1 : Int).toNat) (Or.inl (by decide))).trans evz21
      have evz24 := (vn26 (12) ((y1 : Int).toNat) (Or.inl (by decide))).trans evz24
      rw [← vn26 (299 + 10 * u) (0 : Int).toNat (Or.inl (by omega))] at hl
      refine X_aload_n rfl rfl rfl rfl ?_
      refine X_getR (a := 340) rfl rfl rfl ((congrFun V.1 339).trans s_339) rfl ((congrFun (V.2.1 339 (by decide)) 2).trans r_339_2) ?_
      refine X_iconst (v := (5 : Int32)) rfl rfl rfl ?_
      refine X_ldc (v := (1065233 : Int32)) rfl rfl rfl ?_
      refine X_iload_n rfl rfl rfl rfl ?_
      refine S_ishrT rfl rfl (fun vz27 => ?_)
      refine X_iconst (v := (1 : Int32)) rfl rfl rfl ?_
      refine S_iandR (k := 1) rfl rfl rfl (fun vz28 hvz28 => ?_)
      refine S_iast (I := Inv _) rfl rfl ((congrFun V.1 340).trans s_340) (show (5 : Int32).toInt = 5 from rfl) (by omega) (Inv_putI V (Nat.le_of_ble_eq_true rfl) (Or.inl (by decide)) (Q_0 rk_340)) (fun g V ve29 vn30 hq => ?_)
      have hG := hq.trans hG
      have evz1 := (vn30 (141) ((y1 : Int).toNat) (Or.inl (by decide))).trans evz1
      have evz2 := (vn30 (10) 0 (Or.inl (by decide))).trans evz2
      have evz14 := (vn30 (10) 1 (Or.inl (by decide))).trans evz14
      have evz21 := (vn30 (11) ((y1 : Int).toNat) (Or.inl (by decide))).trans evz21
      have evz24 := (vn30 (12) ((y1 : Int).toNat) (Or.inl (by decide))).trans evz24
      rw [← vn30 (299 + 10 * u) (0 : Int).toNat (Or.inl (by omega))] at hl
      refine X_aload_n rfl rfl rfl rfl ?_
      refine X_getR (a := 340) rfl rfl rfl ((congrFun V.1 339).trans s_339) rfl ((congrFun (V.2.1 339 (by decide)) 2).trans r_339_2) ?_
      refine X_bipush (v := (6 : Int32)) rfl rfl rfl ?_
      refine X_iload_n rfl rfl rfl rfl ?_
      refine S_iast (I := Inv _) rfl rfl ((congrFun V.1 340).trans s_340) (show (6 : Int32).toInt = 6 from rfl) (by omega) (Inv_putI V (Nat.le_of_ble_eq_true rfl) (Or.inl (by decide)) (Q_0 rk_340)) (fun g V ve31 vn32 hq => ?_)
      have hG := hq.trans hG
      have evz1 := (vn32 (141) ((y1 : Int).toNat) (Or.inl (by decide))).trans evz1
      have evz2 := (vn32 (10) 0 (Or.inl (by decide))).trans evz2
      have evz14 := (vn32 (10) 1 (Or.inl (by decide))).trans evz14
      have evz21 := (vn32 (11) ((y1 : Int).toNat) (Or.inl (by decide))).trans evz21
      have evz24 := (vn32 (12) ((y1 : Int).toNat) (Or.inl (by decide))).trans evz24
      rw [← vn32 (299 + 10 * u) (0 : Int).toNat (Or.inl (by omega))] at hl
      refine X_aload_n rfl rfl rfl rfl ?_
      refine X_getR (a := 340) rfl rfl rfl ((congrFun V.1 339).trans s_339) rfl ((congrFun (V.2.1 339 (by decide)) 2).trans r_339_2) ?_
      refine X_bipush (v := (7 : Int32)) rfl rfl rfl ?_
      refine X_aload_n rfl rfl rfl rfl ?_
      refine X_getR (a := 1) rfl rfl rfl ((congrFun V.1 339).trans s_339) rfl ((congrFun (V.2.1 339 (by decide)) 0).trans r_339_0) ?_
      refine X_getR (a := 2) rfl rfl rfl ((congrFun V.1 1).trans s_1) rfl ((congrFun (V.2.1 1 (by decide)) 0).trans r_1_0) ?_
      refine X_iload_n rfl rfl rfl rfl ?_
      refine Y_callV (as := [.int x1]) (st := [.int (7 : Int32), .ref 340]) rfl rfl rfl (by decide) rfl (Nat.le_of_ble_eq_true rfl) (by decide) (Nat.le_of_ble_eq_true rfl) rfl ((congrFun V.1 2).trans s_2) (by decide) (C_X5_uses V x1 y1 hx1 (by omega) ) ?_
      rintro _ g' ⟨vr33, rfl, hgg⟩
      subst hgg
      refine S_iast (I := Inv _) rfl rfl ((congrFun V.1 340).trans s_340) (show (7 : Int32).toInt = 7 from rfl) (by omega) (Inv_putI V (Nat.le_of_ble_eq_true rfl) (Or.inl (by decide)) (Q_0 rk_340)) (fun g V ve34 vn35 hq => ?_)
      have hG := hq.trans hG
      have evz1 := (vn35 (141) ((y1 : Int).toNat) (Or.inl (by decide))).trans evz1
      have evz2 := (vn35 (10) 0 (Or.inl (by decide))).trans evz2
      have evz14 := (vn35 (10) 1 (Or.inl (by decide))).trans evz14
      have evz21 := (vn35 (11) ((y1 : Int).toNat) (Or.inl (by decide))).trans evz21
      have evz24 := (vn35 (12) ((y1 : Int).toNat) (Or.inl (by decide))).trans evz24
      rw [← vn35 (299 + 10 * u) (0 : Int).toNat (Or.inl (by omega))] at hl
      refine X_aload_n rfl rfl rfl rfl ?_
      refine X_aload rfl rfl rfl ?_
      refine X_iload rfl rfl rfl ?_
      refine Y_callV (as := [.ref (292 + 10 * u), .int (0 : Int32)]) (st := []) rfl rfl rfl (by decide) rfl (Nat.le_of_ble_eq_true rfl) (by decide) (Nat.le_of_ble_eq_true rfl) rfl ((congrFun V.1 339).trans s_339) (by decide) (C_X4_run_339_T hu V (0 : Int32) 0 (show (0 : Int32).toInt = 0 from rfl) (by omega) hl) ?_
      rintro _ g ⟨vr36, rfl, V, hq⟩
      have hG := hq.trans hG
      refine S_if_eq (tgt := 190) rfl rfl rfl rfl (fun vh37 => ?_) (fun vh37 => ?_)
      · refine X_iconst (v := (0 : Int32)) rfl rfl rfl ?_
        exact LW_ireturn (st := []) rfl rfl rfl ⟨_, rfl, by decide, by decide, V, hG⟩
      · refine X_iconst (v := (1 : Int32)) rfl rfl rfl ?_
        refine LW_goto (tgt := 191) rfl rfl ?_
        exact LW_ireturn (st := []) rfl rfl rfl ⟨_, rfl, by decide, by decide, V, hG⟩
  · refine X_iconst (v := (1 : Int32)) rfl rfl rfl ?_
    refine LW_goto (tgt := 16) rfl rfl ?_
    refine LW_ireturn (st := []) rfl rfl rfl ?_
    refine S_if_eq (tgt := 38) rfl rfl rfl (show (1 : Int32).toInt = 1 from rfl) (fun q => absurd q (by omega)) (fun vh38 => ?_)
    refine X_iconst (v := (1 : Int32)) rfl rfl rfl ?_
    refine LW_goto (tgt := 39) rfl rfl ?_
    refine X_istore (i := 4) (ls' := [some (.ref 339), some (.int x1), some (.ref 10), some (.int vr4), some (.int (1 : Int32)), none]) rfl rfl (Nat.le_of_ble_eq_true rfl) rfl ?_
    refine X_aload_n rfl rfl rfl rfl ?_
    refine X_iload rfl rfl rfl ?_
    refine Y_callV (as := [.int (1 : Int32)]) (st := []) rfl rfl rfl (by decide) rfl (Nat.le_of_ble_eq_true rfl) (by decide) (Nat.le_of_ble_eq_true rfl) rfl ((congrFun V.1 339).trans s_339) (by decide) (C_X4_ruling V (1 : Int32) 1 (show (1 : Int32).toInt = 1 from rfl) (by omega) ) ?_
    rintro _ g' ⟨rfl | ⟨u, hu, rfl, hl⟩, hgg⟩
    · subst hgg
      refine X_astoreN (i := 5) (ls' := [some (.ref 339), some (.int x1), some (.ref 10), some (.int vr4), some (.int (1 : Int32)), some (.null)]) rfl rfl (Nat.le_of_ble_eq_true rfl) rfl ?_
      refine X_aloadN rfl rfl rfl ?_
      refine X_ifnonnullN (tgt := 98) rfl rfl rfl ?_
      refine X_iload rfl rfl rfl ?_
      refine X_iconst (v := (1 : Int32)) rfl rfl rfl ?_
      refine S_icmp_ne (tgt := 79) rfl rfl rfl (show (1 : Int32).toInt = 1 from rfl) (show (1 : Int32).toInt = 1 from rfl) (fun q => absurd q (by omega)) (fun vh39 => ?_)
      refine X_aload_n rfl rfl rfl rfl ?_
      refine X_getR (a := 11) rfl rfl rfl ((congrFun V.1 10).trans s_10) rfl ((congrFun (V.2.1 10 (by decide)) 4).trans r_10_4) ?_
      refine X_iload_n rfl rfl rfl rfl ?_
      refine S_iald rfl rfl ((congrFun V.1 11).trans s_11) hx1 (by omega) (fun vz40 evz40 => ?_)
      refine X_bipush (v := (9 : Int32)) rfl rfl rfl ?_
      refine S_icmp_le (tgt := 75) rfl rfl rfl rfl (show (9 : Int32).toInt = 9 from rfl) (fun vh41 => ?_) (fun vh41 => ?_)
      · refine X_iconst (v := (0 : Int32)) rfl rfl rfl ?_
        refine LW_goto (tgt := 97) rfl rfl ?_
        exact LW_ireturn (st := []) rfl rfl rfl ⟨_, rfl, by decide, by decide, V, hG⟩
      · refine X_iconst (v := (1 : Int32)) rfl rfl rfl ?_
        refine LW_goto (tgt := 97) rfl rfl ?_
        exact LW_ireturn (st := []) rfl rfl rfl ⟨_, rfl, by decide, by decide, V, hG⟩
    · subst hgg
      refine X_astore (i := 5) (ls' := [some (.ref 339), some (.int x1), some (.ref 10), some (.int vr4), some (.int (1 : Int32)), some (.ref (292 + 10 * u))]) rfl rfl (Nat.le_of_ble_eq_true rfl) rfl ?_
      refine X_aload rfl rfl rfl ?_
      refine LW_ifnonnull (tgt := 98) rfl rfl ?_
      refine X_aload_n rfl rfl rfl rfl ?_
      refine X_aload_n rfl rfl rfl rfl ?_
      refine Y_callV (as := []) (st := [.ref 339]) rfl rfl rfl (by decide) rfl (Nat.le_of_ble_eq_true rfl) (by decide) (Nat.le_of_ble_eq_true rfl) rfl ((congrFun V.1 10).trans s_10) (by decide) (C_X9_outs V  ) ?_
      rintro _ g' ⟨vr42, rfl, hrvr420, hrvr421, hgg⟩
      subst hgg
      refine X_callV (as := [.int vr42]) (st := []) rfl rfl rfl (by decide) rfl (Nat.le_of_ble_eq_true rfl) (by decide) (Nat.le_of_ble_eq_true rfl) rfl ((congrFun V.1 339).trans s_339) (by decide) ?_
      refine LW_ls (ls' := [some (.ref 339), some (.int vr42)]) rfl ?_
      refine X_aload_n rfl rfl rfl rfl ?_
      refine X_getR (a := 340) rfl rfl rfl ((congrFun V.1 339).trans s_339) rfl ((congrFun (V.2.1 339 (by decide)) 2).trans r_339_2) ?_
      refine X_iconst (v := (0 : Int32)) rfl rfl rfl ?_
      refine X_aload_n rfl rfl rfl rfl ?_
      refine X_getR (a := 1) rfl rfl rfl ((congrFun V.1 339).trans s_339) rfl ((congrFun (V.2.1 339 (by decide)) 0).trans r_339_0) ?_
      refine X_getR (a := 10) rfl rfl rfl ((congrFun V.1 1).trans s_1) rfl ((congrFun (V.2.1 1 (by decide)) 1).trans r_1_1) ?_
      refine S_getI rfl rfl rfl ((congrFun V.1 10).trans s_10) rfl (fun vz43 evz43 => ?_)
      refine S_iast (I := Inv _) rfl rfl ((congrFun V.1 340).trans s_340) (show (0 : Int32).toInt = 0 from rfl) (by omega) (Inv_putI V (Nat.le_of_ble_eq_true rfl) (Or.inl (by decide)) (Q_0 rk_340)) (fun g V ve44 vn45 hq => ?_)
      have hG := hq.trans hG
      have evz1 := (vn45 (141) ((y1 : Int).toNat) (Or.inl (by decide))).trans evz1
      have evz2 := (vn45 (10) 0 (Or.inl (by decide))).trans evz2
      have evz43 := (vn45 (10) 1 (Or.inl (by decide))).trans evz43
      rw [← vn45 (299 + 10 * u) (1 : Int).toNat (Or.inl (by omega))] at hl
      refine X_aload_n rfl rfl rfl rfl ?_
      refine X_getR (a := 340) rfl rfl rfl ((congrFun V.1 339).trans s_339) rfl ((congrFun (V.2.1 339 (by decide)) 2).trans r_339_2) ?_
      refine X_iconst (v := (1 : Int32)) rfl rfl rfl ?_
      refine X_iload_n rfl rfl rfl rfl ?_
      refine S_iast (I := Inv _) rfl rfl ((congrFun V.1 340).trans s_340) (show (1 : Int32).toInt = 1 from rfl) (by omega) (Inv_putI V (Nat.le_of_ble_eq_true rfl) (Or.inl (by decide)) (Q_0 rk_340)) (fun g V ve46 vn47 hq => ?_)
      have hG := hq.trans hG
      have evz1 := (vn47 (141) ((y1 : Int).toNat) (Or.inl (by decide))).trans evz1
      have evz2 := (vn47 (10) 0 (Or.inl (by decide))).trans evz2
      have evz43 := (vn47 (10) 1 (Or.inl (by decide))).trans evz43
      rw [← vn47 (299 + 10 * u) (1 : Int).toNat (Or.inl (by omega))] at hl
      refine LW_return (st := []) rfl rfl ?_
      refine X_aload_n rfl rfl rfl rfl ?_
      refine X_getR (a := 340) rfl rfl rfl ((congrFun V.1 339).trans s_339) rfl ((congrFun (V.2.1 339 (by decide)) 2).trans r_339_2) ?_
      refine X_iconst (v := (2 : Int32)) rfl rfl rfl ?_
      refine X_iload_n rfl rfl rfl rfl ?_
      refine S_iast (I := Inv _) rfl rfl ((congrFun V.1 340).trans s_340) (show (2 : Int32).toInt = 2 from rfl) (by omega) (Inv_putI V (Nat.le_of_ble_eq_true rfl) (Or.inl (by decide)) (Q_0 rk_340)) (fun g V ve48 vn49 hq => ?_)
      have hG := hq.trans hG
      have evz1 := (vn49 (141) ((y1 : Int).toNat) (Or.inl (by decide))).trans evz1
      have evz2 := (vn49 (10) 0 (Or.inl (by decide))).trans evz2
      have evz43 := (vn49 (10) 1 (Or.inl (by decide))).trans evz43
      rw [← vn49 (299 + 10 * u) (1 : Int).toNat (Or.inl (by omega))] at hl
      refine X_aload_n rfl rfl rfl rfl ?_
      refine X_getR (a := 340) rfl rfl rfl ((congrFun V.1 339).trans s_339) rfl ((congrFun (V.2.1 339 (by decide)) 2).trans r_339_2) ?_
      refine X_iconst (v := (3 : Int32)) rfl rfl rfl ?_
      refine X_aload_n rfl rfl rfl rfl ?_
      refine X_getR (a := 11) rfl rfl rfl ((congrFun V.1 10).trans s_10) rfl ((congrFun (V.2.1 10 (by decide)) 4).trans r_10_4) ?_
      refine X_iload_n rfl rfl rfl rfl ?_
      refine S_iald rfl rfl ((congrFun V.1 11).trans s_11) hx1 (by omega) (fun vz50 evz50 => ?_)
      refine S_iast (I := Inv _) rfl rfl ((congrFun V.1 340).trans s_340) (show (3 : Int32).toInt = 3 from rfl) (by omega) (Inv_putI V (Nat.le_of_ble_eq_true rfl) (Or.inl (by decide)) (Q_0 rk_340)) (fun g V ve51 vn52 hq => ?_)
      have hG := hq.trans hG
      have evz1 := (vn52 (141) ((y1 : Int).toNat) (Or.inl (by decide))).trans evz1
      have evz2 := (vn52 (10) 0 (Or.inl (by decide))).trans evz2
      have evz43 := (vn52 (10) 1 (Or.inl (by decide))).trans evz43
      have evz50 := (vn52 (11) ((y1 : Int).toNat) (Or.inl (by decide))).trans evz50
      rw [← vn52 (299 + 10 * u) (1 : Int).toNat (Or.inl (by omega))] at hl
      refine X_aload_n rfl rfl rfl rfl ?_
      refine X_getR (a := 340) rfl rfl rfl ((congrFun V.1 339).trans s_339) rfl ((congrFun (V.2.1 339 (by decide)) 2).trans r_339_2) ?_
      refine X_iconst (v := (4 : Int32)) rfl rfl rfl ?_
      refine X_aload_n rfl rfl rfl rfl ?_
      refine X_getR (a := 12) rfl rfl rfl ((congrFun V.1 10).trans s_10) rfl ((congrFun (V.2.1 10 (by decide)) 5).trans r_10_5) ?_
      refine X_iload_n rfl rfl rfl rfl ?_
      refine S_iald rfl rfl ((congrFun V.1 12).trans s_12) hx1 (by omega) (fun vz53 evz53 => ?_)
      refine S_iast (I := Inv _) rfl rfl ((congrFun V.1 340).trans s_340) (show (4 : Int32).toInt = 4 from rfl) (by omega) (Inv_putI V (Nat.le_of_ble_eq_true rfl) (Or.inl (by decide)) (Q_0 rk_340)) (fun g V ve54 vn55 hq => ?_)
      have hG := hq.trans hG
      have evz1 := (vn55 (141) ((y1 : Int).toNat) (Or.inl (by decide))).trans evz1
      have evz2 := (vn55 (10) 0 (Or.inl (by decide))).trans evz2
      have evz43 := (vn55 (10) 1 (Or.inl (by decide))).trans evz43
      have evz50 := (vn55 (11) ((y1 : Int).toNat) (Or.inl (by decide))).trans evz50
      have evz53 := (vn55 (12) ((y1 : Int).toNat) (Or.inl (by decide))).trans evz53
      rw [← vn55 (299 + 10 * u) (1 : Int).toNat (Or.inl (by omega))] at hl
      refine X_aload_n rfl rfl rfl rfl ?_
      refine X_getR (a := 340) rfl rfl rfl ((congrFun V.1 339).trans s_339) rfl ((congrFun (V.2.1 339 (by decide)) 2).trans r_339_2) ?_
      refine X_iconst (v := (5 : Int32)) rfl rfl rfl ?_
      refine X_ldc (v := (1065233 : Int32)) rfl rfl rfl ?_
      refine X_iload_n rfl rfl rfl rfl ?_
      refine S_ishrT rfl rfl (fun vz56 => ?_)
      refine X_iconst (v := (1 : Int32)) rfl rfl rfl ?_
      refine S_iandR (k := 1) rfl rfl rfl (fun vz57 hvz57 => ?_)
      refine S_iast (I := Inv _) rfl rfl ((congrFun V.1 340).trans s_340) (show (5 : Int32).toInt = 5 from rfl) (by omega) (Inv_putI V (Nat.le_of_ble_eq_true rfl) (Or.inl (by decide)) (Q_0 rk_340)) (fun g V ve58 vn59 hq => ?_)
      have hG := hq.trans hG
      have evz1 := (vn59 (141) ((y1 : Int).toNat) (Or.inl (by decide))).trans evz1
      have evz2 := (vn59 (10) 0 (Or.inl (by decide))).trans evz2
      have evz43 := (vn59 (10) 1 (Or.inl (by decide))).trans evz43
      have evz50 := (vn59 (11) ((y1 : Int).toNat) (Or.inl (by decide))).trans evz50
      have evz53 := (vn59 (12) ((y1 : Int).toNat) (Or.inl (by decide))).trans evz53
      rw [← vn59 (299 + 10 * u) (1 : Int).toNat (Or.inl (by omega))] at hl
      refine X_aload_n rfl rfl rfl rfl ?_
      refine X_getR (a := 340) rfl rfl rfl ((congrFun V.1 339).trans s_339) rfl ((congrFun (V.2.1 339 (by decide)) 2).trans r_339_2) ?_
      refine X_bipush (v := (6 : Int32)) rfl rfl rfl ?_
      refine X_iload_n rfl rfl rfl rfl ?_
      refine S_iast (I := Inv _) rfl rfl ((congrFun V.1 340).trans s_340) (show (6 : Int32).toInt = 6 from rfl) (by omega) (Inv_putI V (Nat.le_of_ble_eq_true rfl) (Or.inl (by decide)) (Q_0 rk_340)) (fun g V ve60 vn61 hq => ?_)
      have hG := hq.trans hG
      have evz1 := (vn61 (141) ((y1 : Int).toNat) (Or.inl (by decide))).trans evz1
      have evz2 := (vn61 (10) 0 (Or.inl (by decide))).trans evz2
      have evz43 := (vn61 (10) 1 (Or.inl (by decide))).trans evz43
      have evz50 := (vn61 (11) ((y1 : Int).toNat) (Or.inl (by decide))).trans evz50
      have evz53 := (vn61 (12) ((y1 : Int).toNat) (Or.inl (by decide))).trans evz53
      rw [← vn61 (299 + 10 * u) (1 : Int).toNat (Or.inl (by omega))] at hl
      refine X_aload_n rfl rfl rfl rfl ?_
      refine X_getR (a := 340) rfl rfl rfl ((congrFun V.1 339).trans s_339) rfl ((congrFun (V.2.1 339 (by decide)) 2).trans r_339_2) ?_
      refine X_bipush (v := (7 : Int32)) rfl rfl rfl ?_
      refine X_aload_n rfl rfl rfl rfl ?_
      refine X_getR (a := 1) rfl rfl rfl ((congrFun V.1 339).trans s_339) rfl ((congrFun (V.2.1 339 (by decide)) 0).trans r_339_0) ?_
      refine X_getR (a := 2) rfl rfl rfl ((congrFun V.1 1).trans s_1) rfl ((congrFun (V.2.1 1 (by decide)) 0).trans r_1_0) ?_
      refine X_iload_n rfl rfl rfl rfl ?_
      refine Y_callV (as := [.int x1]) (st := [.int (7 : Int32), .ref 340]) rfl rfl rfl (by decide) rfl (Nat.le_of_ble_eq_true rfl) (by decide) (Nat.le_of_ble_eq_true rfl) rfl ((congrFun V.1 2).trans s_2) (by decide) (C_X5_uses V x1 y1 hx1 (by omega) ) ?_
      rintro _ g' ⟨vr62, rfl, hgg⟩
      subst hgg
      refine S_iast (I := Inv _) rfl rfl ((congrFun V.1 340).trans s_340) (show (7 : Int32).toInt = 7 from rfl) (by omega) (Inv_putI V (Nat.le_of_ble_eq_true rfl) (Or.inl (by decide)) (Q_0 rk_340)) (fun g V ve63 vn64 hq => ?_)
      have hG := hq.trans hG
      have evz1 := (vn64 (141) ((y1 : Int).toNat) (Or.inl (by decide))).trans evz1
      have evz2 := (vn64 (10) 0 (Or.inl (by decide))).trans evz2
      have evz43 := (vn64 (10) 1 (Or.inl (by decide))).trans evz43
      have evz50 := (vn64 (11) ((y1 : Int).toNat) (Or.inl (by decide))).trans evz50
      have evz53 := (vn64 (12) ((y1 : Int).toNat) (Or.inl (by decide))).trans evz53
      rw [← vn64 (299 + 10 * u) (1 : Int).toNat (Or.inl (by omega))] at hl
      refine X_aload_n rfl rfl rfl rfl ?_
      refine X_aload rfl rfl rfl ?_
      refine X_iload rfl rfl rfl ?_
      refine Y_callV (as := [.ref (292 + 10 * u), .int (1 : Int32)]) (st := []) rfl rfl rfl (by decide) rfl (Nat.le_of_ble_eq_true rfl) (by decide) (Nat.le_of_ble_eq_true rfl) rfl ((congrFun V.1 339).trans s_339) (by decide) (C_X4_run_339_T hu V (1 : Int32) 1 (show (1 : Int32).toInt = 1 from rfl) (by omega) hl) ?_
      rintro _ g ⟨vr65, rfl, V, hq⟩
      have hG := hq.trans hG
      refine S_if_eq (tgt := 190) rfl rfl rfl rfl (fun vh66 => ?_) (fun vh66 => ?_)
      · refine X_iconst (v := (0 : Int32)) rfl rfl rfl ?_
        exact LW_ireturn (st := []) rfl rfl rfl ⟨_, rfl, by decide, by decide, V, hG⟩
      · refine X_iconst (v := (1 : Int32)) rfl rfl rfl ?_
        refine LW_goto (tgt := 191) rfl rfl ?_
        exact LW_ireturn (st := []) rfl rfl rfl ⟨_, rfl, by decide, by decide, V, hG⟩
set_option maxRecDepth 10000 in
set_option maxHeartbeats 40000000 in
theorem C_X1_dawn_22 {P : Par} {g g0 : LH} {d n : Nat}  (V : Inv P g) (hG : Gr g = Gr g0) (x1 : Int32) (y1 : Int) (hx1 : x1.toInt = y1) (hf1 : 0 ≤ y1 ∧ y1 ≤ 1) (x2 : Int32) (y2 : Int) (hx2 : x2.toInt = y2) (x3 : Int32) (y3 : Int) (hx3 : x3.toInt = y3) (hf3 : 0 ≤ y3 ∧ y3 ≤ 26)  (hmu : (26 - y3) * 1 + 28 < (n : Int) + 1) (ih22 : ∀ (g : LH) (V : Inv P g) (hG : Gr g = Gr g0) (x1 : Int32) (y1 : Int) (hx1 : x1.toInt = y1) (hf1 : 0 ≤ y1 ∧ y1 ≤ 1) (x2 : Int32) (y2 : Int) (hx2 : x2.toInt = y2) (x3 : Int32) (y3 : Int) (hx3 : x3.toInt = y3) (hf3 : 0 ≤ y3 ∧ y3 ≤ 26) , (26 - y3) * 1 + 28 < (n : Int) → LW 5 (d + 16) 0 0 22 [some (.ref 342), some (.int x1), some (.int x2), some (.int x3)] [] g (fun v g' => v = none ∧ Inv P g' ∧ Gr g' = Gr g0)) (ih57 : ∀ (g : LH) (V : Inv P g) (hG : Gr g = Gr g0) (x1 : Int32) (y1 : Int) (hx1 : x1.toInt = y1) (hf1 : 0 ≤ y1 ∧ y1 ≤ 1) (x2 : Int32) (y2 : Int) (hx2 : x2.toInt = y2) (x3 : Int32) (y3 : Int) (hx3 : x3.toInt = y3) (hf3 : 0 ≤ y3 ∧ y3 ≤ 26) , (26 - y3) * 1 + 0 < (n : Int) → LW 5 (d + 16) 0 0 57 [some (.ref 342), some (.int x1), some (.int x2), some (.int x3)] [] g (fun v g' => v = none ∧ Inv P g' ∧ Gr g' = Gr g0)) : LW 5 (d + 16) 0 0 22 [some (.ref 342), some (.int x1), some (.int x2), some (.int x3)] [] g (fun v g' => v = none ∧ Inv P g' ∧ Gr g' = Gr g0) := by
  refine X_iload_n rfl rfl rfl rfl ?_
  refine X_bipush (v := (26 : Int32)) rfl rfl rfl ?_
  refine S_icmp_ge (tgt := 55) rfl rfl rfl hx3 (show (26 : Int32).toInt = 26 from rfl) (fun vh1 => ?_) (fun vh1 => ?_)
  · refine X_iconst (v := (0 : Int32)) rfl rfl rfl ?_
    refine X_istore_n (i := 3) (ls' := [some (.ref 342), some (.int x1), some (.int x2), some (.int (0 : Int32))]) rfl rfl rfl (Nat.le_of_ble_eq_true rfl) rfl ?_
    exact ih57 _ V hG x1 y1 hx1 (by omega) x2 y2 hx2 (0 : Int32) 0 (show (0 : Int32).toInt = 0 from rfl) (by omega)    (by omega)
  · refine X_iload_n rfl rfl rfl rfl ?_
    refine X_aload_n rfl rfl rfl rfl ?_
    refine X_getR (a := 339) rfl rfl rfl ((congrFun V.1 342).trans s_342) rfl ((congrFun (V.2.1 342 (by decide)) 2).trans r_342_2) ?_
    refine X_iload_n rfl rfl rfl rfl ?_
    refine Y_callV (as := [.int x3]) (st := [.int x2]) rfl rfl rfl (by decide) rfl (Nat.le_of_ble_eq_true rfl) (by decide) (Nat.le_of_ble_eq_true rfl) rfl ((congrFun V.1 339).trans s_339) (by decide) (C_X4_moves V x3 y3 hx3 (by omega) ) ?_
    rintro _ g ⟨vr2, rfl, hrvr20, hrvr21, V, hq⟩
    have hG := hq.trans hG
    refine S_if_eq (tgt := 46) rfl rfl rfl rfl (fun vh3 => ?_) (fun vh3 => ?_)
    · refine X_iconst (v := (0 : Int32)) rfl rfl rfl ?_
      refine S_iorT rfl rfl (fun vz4 => ?_)
      refine X_istore_n (i := 2) (ls' := [some (.ref 342), some (.int x1), some (.int vz4), some (.int x3)]) rfl rfl rfl (Nat.le_of_ble_eq_true rfl) rfl ?_
      refine S_iinc (c := 1) rfl rfl rfl hx3 rfl (by omega) (fun vz5 hvz5 => ?_)
      refine LW_ls (ls' := [some (.ref 342), some (.int x1), some (.int vz4), some (.int vz5)]) rfl ?_
      refine LW_goto (tgt := 22) rfl rfl ?_
      exact ih22 _ V hG x1 y1 hx1 (by omega) vz4 vz4.toInt rfl vz5 vz5.toInt rfl (by omega)    (by omega)
    · refine X_iconst (v := (1 : Int32)) rfl rfl rfl ?_
      refine X_iload_n rfl rfl rfl rfl ?_
      refine S_ishlT rfl rfl (fun vz6 => ?_)
      refine LW_goto (tgt := 47) rfl rfl ?_
      refine S_iorT rfl rfl (fun vz7 => ?_)
      refine X_istore_n (i := 2) (ls' := [some (.ref 342), some (.int x1), some (.int vz7), some (.int x3)]) rfl rfl rfl (Nat.le_of_ble_eq_true rfl) rfl ?_
      refine S_iinc (c := 1) rfl rfl rfl hx3 rfl (by omega) (fun vz8 hvz8 => ?_)
      refine LW_ls (ls' := [some (.ref 342), some (.int x1), some (.int vz7), some (.int vz8)]) rfl ?_
      refine LW_goto (tgt := 22) rfl rfl ?_
      exact ih22 _ V hG x1 y1 hx1 (by omega) vz7 vz7.toInt rfl vz8 vz8.toInt rfl (by omega)    (by omega)
set_option maxRecDepth 10000 in
set_option maxHeartbeats 40000000 in
theorem C_X1_dawn_57 {P : Par} {g g0 : LH} {d n : Nat}  (V : Inv P g) (hG : Gr g = Gr g0) (x1 : Int32) (y1 : Int) (hx1 : x1.toInt = y1) (hf1 : 0 ≤ y1 ∧ y1 ≤ 1) (x2 : Int32) (y2 : Int) (hx2 : x2.toInt = y2) (x3 : Int32) (y3 : Int) (hx3 : x3.toInt = y3) (hf3 : 0 ≤ y3 ∧ y3 ≤ 26)  (hmu : (26 - y3) * 1 + 0 < (n : Int) + 1) (ih22 : ∀ (g : LH) (V : Inv P g) (hG : Gr g = Gr g0) (x1 : Int32) (y1 : Int) (hx1 : x1.toInt = y1) (hf1 : 0 ≤ y1 ∧ y1 ≤ 1) (x2 : Int32) (y2 : Int) (hx2 : x2.toInt = y2) (x3 : Int32) (y3 : Int) (hx3 : x3.toInt = y3) (hf3 : 0 ≤ y3 ∧ y3 ≤ 26) , (26 - y3) * 1 + 28 < (n : Int) → LW 5 (d + 16) 0 0 22 [some (.ref 342), some (.int x1), some (.int x2), some (.int x3)] [] g (fun v g' => v = none ∧ Inv P g' ∧ Gr g' = Gr g0)) (ih57 : ∀ (g : LH) (V : Inv P g) (hG : Gr g = Gr g0) (x1 : Int32) (y1 : Int) (hx1 : x1.toInt = y1) (hf1 : 0 ≤ y1 ∧ y1 ≤ 1) (x2 : Int32) (y2 : Int) (hx2 : x2.toInt = y2) (x3 : Int32) (y3 : Int) (hx3 : x3.toInt = y3) (hf3 : 0 ≤ y3 ∧ y3 ≤ 26) , (26 - y3) * 1 + 0 < (n : Int) → LW 5 (d + 16) 0 0 57 [some (.ref 342), some (.int x1), some (.int x2), some (.int x3)] [] g (fun v g' => v = none ∧ Inv P g' ∧ Gr g' = Gr g0)) : LW 5 (d + 16) 0 0 57 [some (.ref 342), some (.int x1), some (.int x2), some (.int x3)] [] g (fun v g' => v = none ∧ Inv P g' ∧ Gr g' = Gr g0) := by
  refine X_iload_n rfl rfl rfl rfl ?_
  refine X_bipush (v := (26 : Int32)) rfl rfl rfl ?_
  refine S_icmp_ge (tgt := 95) rfl rfl rfl hx3 (show (26 : Int32).toInt = 26 from rfl) (fun vh1 => ?_) (fun vh1 => ?_)
  · refine X_aload_n rfl rfl rfl rfl ?_
    refine X_getR (a := 10) rfl rfl rfl ((congrFun V.1 342).trans s_342) rfl ((congrFun (V.2.1 342 (by decide)) 1).trans r_342_1) ?_
    refine X_iload_n rfl rfl rfl rfl ?_
    refine Y_callV (as := [.int x2]) (st := []) rfl rfl rfl (by decide) rfl (Nat.le_of_ble_eq_true rfl) (by decide) (Nat.le_of_ble_eq_true rfl) rfl ((congrFun V.1 10).trans s_10) (by decide) (C_X9_move V x2 y2 hx2 ) ?_
    rintro _ g ⟨rfl, V, hq⟩
    have hG := hq.trans hG
    refine X_aload_n rfl rfl rfl rfl ?_
    refine X_getR (a := 10) rfl rfl rfl ((congrFun V.1 342).trans s_342) rfl ((congrFun (V.2.1 342 (by decide)) 1).trans r_342_1) ?_
    refine X_dup rfl rfl rfl ?_
    refine S_getI rfl rfl rfl ((congrFun V.1 10).trans s_10) rfl (fun vz3 evz3 => ?_)
    refine X_iconst (v := (1 : Int32)) rfl rfl rfl ?_
    refine S_iaddT rfl rfl (fun vz4 => ?_)
    refine S_putI (I := Inv _) rfl rfl rfl ((congrFun V.1 10).trans s_10) rfl rfl rfl rfl (Inv_putI V (Nat.le_of_ble_eq_true rfl) (Or.inl (by decide)) (Q_11_1 rk_10)) (fun g V ve5 vn6 hq => ?_)
    have hG := hq.trans hG
    exact LW_return (st := []) rfl rfl ⟨rfl, V, hG⟩
  · refine X_aload_n rfl rfl rfl rfl ?_
    refine X_getR (a := 10) rfl rfl rfl ((congrFun V.1 342).trans s_342) rfl ((congrFun (V.2.1 342 (by decide)) 1).trans r_342_1) ?_
    refine X_getR (a := 12) rfl rfl rfl ((congrFun V.1 10).trans s_10) rfl ((congrFun (V.2.1 10 (by decide)) 5).trans r_10_5) ?_
    refine X_iload_n rfl rfl rfl rfl ?_
    refine X_sipush (v := (999 : Int32)) rfl rfl rfl ?_
    refine X_aload_n rfl rfl rfl rfl ?_
    refine X_getR (a := 10) rfl rfl rfl ((congrFun V.1 342).trans s_342) rfl ((congrFun (V.2.1 342 (by decide)) 1).trans r_342_1) ?_
    refine X_getR (a := 12) rfl rfl rfl ((congrFun V.1 10).trans s_10) rfl ((congrFun (V.2.1 10 (by decide)) 5).trans r_10_5) ?_
    refine X_iload_n rfl rfl rfl rfl ?_
    refine S_iald rfl rfl ((congrFun V.1 12).trans s_12) hx3 (by omega) (fun vz7 evz7 => ?_)
    refine X_iconst (v := (1 : Int32)) rfl rfl rfl ?_
    refine S_iaddT rfl rfl (fun vz8 => ?_)
    refine S_min rfl rfl rfl (Nat.le_of_ble_eq_true rfl) (show (999 : Int32).toInt = 999 from rfl) rfl (fun vz9 hvz9 => ?_)
    refine S_iast (I := Inv _) rfl rfl ((congrFun V.1 12).trans s_12) hx3 (by omega) (Inv_putI V (Nat.le_of_ble_eq_true rfl) (Or.inl (by decide)) (Q_0 rk_12)) (fun g V ve10 vn11 hq => ?_)
    have hG := hq.trans hG
    refine S_iinc (c := 1) rfl rfl rfl hx3 rfl (by omega) (fun vz12 hvz12 => ?_)
    refine LW_ls (ls' := [some (.ref 342), some (.int x1), some (.int x2), some (.int vz12)]) rfl ?_
    refine LW_goto (tgt := 57) rfl rfl ?_
    exact ih57 _ V hG x1 y1 hx1 (by omega) x2 y2 hx2 vz12 vz12.toInt rfl (by omega)    (by omega)
theorem C_X1_dawn_all {P : Par} {g0 : LH} {d : Nat}  : ∀ n : Nat, (∀ (g : LH) (V : Inv P g) (hG : Gr g = Gr g0) (x1 : Int32) (y1 : Int) (hx1 : x1.toInt = y1) (hf1 : 0 ≤ y1 ∧ y1 ≤ 1) (x2 : Int32) (y2 : Int) (hx2 : x2.toInt = y2) (x3 : Int32) (y3 : Int) (hx3 : x3.toInt = y3) (hf3 : 0 ≤ y3 ∧ y3 ≤ 26) , (26 - y3) * 1 + 28 < (n : Int) → LW 5 (d + 16) 0 0 22 [some (.ref 342), some (.int x1), some (.int x2), some (.int x3)] [] g (fun v g' => v = none ∧ Inv P g' ∧ Gr g' = Gr g0)) ∧ (∀ (g : LH) (V : Inv P g) (hG : Gr g = Gr g0) (x1 : Int32) (y1 : Int) (hx1 : x1.toInt = y1) (hf1 : 0 ≤ y1 ∧ y1 ≤ 1) (x2 : Int32) (y2 : Int) (hx2 : x2.toInt = y2) (x3 : Int32) (y3 : Int) (hx3 : x3.toInt = y3) (hf3 : 0 ≤ y3 ∧ y3 ≤ 26) , (26 - y3) * 1 + 0 < (n : Int) → LW 5 (d + 16) 0 0 57 [some (.ref 342), some (.int x1), some (.int x2), some (.int x3)] [] g (fun v g' => v = none ∧ Inv P g' ∧ Gr g' = Gr g0)) := by
  intro n
  induction n with
  | zero => exact ⟨fun g V hG x1 y1 hx1 hf1 x2 y2 hx2 x3 y3 hx3 hf3 hmu => absurd hmu (by omega), fun g V hG x1 y1 hx1 hf1 x2 y2 hx2 x3 y3 hx3 hf3 hmu => absurd hmu (by omega)⟩
  | succ n ih => exact ⟨fun g V hG x1 y1 hx1 hf1 x2 y2 hx2 x3 y3 hx3 hf3 hmu => C_X1_dawn_22  V hG x1 y1 hx1 hf1 x2 y2 hx2 x3 y3 hx3 hf3 (by omega) ih.1 ih.2, fun g V hG x1 y1 hx1 hf1 x2 y2 hx2 x3 y3 hx3 hf3 hmu => C_X1_dawn_57  V hG x1 y1 hx1 hf1 x2 y2 hx2 x3 y3 hx3 hf3 (by omega) ih.1 ih.2⟩
set_option maxRecDepth 10000 in
set_option maxHeartbeats 40000000 in
theorem C_X1_dawn {P : Par} {g : LH} {d : Nat}  (V : Inv P g) (x1 : Int32) (y1 : Int) (hx1 : x1.toInt = y1) (hf1 : 0 ≤ y1 ∧ y1 ≤ 1)   : LW 5 (d + 16) 0 0 0 (lEnt (mL 5) [.ref 342, .int x1]) [] g (fun v g' => v = none ∧ Inv P g' ∧ Gr g' = Gr g) := by
  refine LW_ls (ls' := [some (.ref 342), some (.int x1), none, none]) rfl ?_
  have hG : Gr g = Gr g := rfl
  refine X_iload_n rfl rfl rfl rfl ?_
  refine S_if_eq (tgt := 18) rfl rfl rfl hx1 (fun vh1 => ?_) (fun vh1 => ?_)
  · refine X_iconst (v := (0 : Int32)) rfl rfl rfl ?_
    refine X_istore_n (i := 2) (ls' := [some (.ref 342), some (.int x1), some (.int (0 : Int32)), none]) rfl rfl rfl (Nat.le_of_ble_eq_true rfl) rfl ?_
    refine X_iconst (v := (0 : Int32)) rfl rfl rfl ?_
    refine X_istore_n (i := 3) (ls' := [some (.ref 342), some (.int x1), some (.int (0 : Int32)), some (.int (0 : Int32))]) rfl rfl rfl (Nat.le_of_ble_eq_true rfl) rfl ?_
    exact (C_X1_dawn_all (((26 - 0) * 1 + 28) + 1 : Int).toNat).1 _ V hG x1 y1 hx1 (by omega) (0 : Int32) 0 (show (0 : Int32).toInt = 0 from rfl) (0 : Int32) 0 (show (0 : Int32).toInt = 0 from rfl) (by omega)    (by omega)
  · refine X_aload_n rfl rfl rfl rfl ?_
    refine X_getR (a := 1) rfl rfl rfl ((congrFun V.1 342).trans s_342) rfl ((congrFun (V.2.1 342 (by decide)) 0).trans r_342_0) ?_
    refine X_getR (a := 14) rfl rfl rfl ((congrFun V.1 1).trans s_1) rfl ((congrFun (V.2.1 1 (by decide)) 2).trans r_1_2) ?_
    refine X_aload_n rfl rfl rfl rfl ?_
    refine X_getR (a := 10) rfl rfl rfl ((congrFun V.1 342).trans s_342) rfl ((congrFun (V.2.1 342 (by decide)) 1).trans r_342_1) ?_
    refine Y_callV (as := [.ref 10]) (st := []) rfl rfl rfl (by decide) rfl (Nat.le_of_ble_eq_true rfl) (by decide) (Nat.le_of_ble_eq_true rfl) rfl ((congrFun V.1 14).trans s_14) (by decide) (C_X3_keep_14_10 V  ) ?_
    rintro _ g ⟨rfl, V, hq⟩
    have hG := hq.trans hG
    refine X_iconst (v := (0 : Int32)) rfl rfl rfl ?_
    refine X_istore_n (i := 2) (ls' := [some (.ref 342), some (.int x1), some (.int (0 : Int32)), none]) rfl rfl rfl (Nat.le_of_ble_eq_true rfl) rfl ?_
    refine X_iconst (v := (0 : Int32)) rfl rfl rfl ?_
    refine X_istore_n (i := 3) (ls' := [some (.ref 342), some (.int x1), some (.int (0 : Int32)), some (.int (0 : Int32))]) rfl rfl rfl (Nat.le_of_ble_eq_true rfl) rfl ?_
    exact (C_X1_dawn_all (((26 - 0) * 1 + 28) + 1 : Int).toNat).1 _ V hG x1 y1 hx1 (by omega) (0 : Int32) 0 (show (0 : Int32).toInt = 0 from rfl) (0 : Int32) 0 (show (0 : Int32).toInt = 0 from rfl) (by omega)    (by omega)
set_option maxRecDepth 10000 in
set_option maxHeartbeats 40000000 in
theorem C_X12_morning {P : Par} {g : LH} {d : Nat}  (V : Inv P g) (x1 : Int32) (y1 : Int) (hx1 : x1.toInt = y1)   : LW 134 (d + 24) 0 0 0 (lEnt (mL 134) [.ref 0, .int x1]) [] g (fun v g' => ∃ r : Int32, v = some (.int r) ∧ (-1) ≤ r.toInt ∧ r.toInt ≤ 63 ∧ Inv P g' ∧ Gr g' = Gr g) := by
  refine LW_ls (ls' := [some (.ref 0), some (.int x1)]) rfl ?_
  have hG : Gr g = Gr g := rfl
  refine X_iload_n rfl rfl rfl rfl ?_
  refine X_iconst (v := (1 : Int32)) rfl rfl rfl ?_
  refine S_icmp_lt (tgt := 29) rfl rfl rfl hx1 (show (1 : Int32).toInt = 1 from rfl) (fun vh1 => ?_) (fun vh1 => ?_)
  · refine X_iconst (v := (-1 : Int32)) rfl rfl rfl ?_
    exact LW_ireturn (st := []) rfl rfl rfl ⟨_, rfl, by decide, by decide, V, hG⟩
  · refine X_iload_n rfl rfl rfl rfl ?_
    refine X_bipush (v := (99 : Int32)) rfl rfl rfl ?_
    refine S_icmp_gt (tgt := 29) rfl rfl rfl hx1 (show (99 : Int32).toInt = 99 from rfl) (fun vh2 => ?_) (fun vh2 => ?_)
    · refine X_iconst (v := (-1 : Int32)) rfl rfl rfl ?_
      exact LW_ireturn (st := []) rfl rfl rfl ⟨_, rfl, by decide, by decide, V, hG⟩
    · refine X_aload_n rfl rfl rfl rfl ?_
      refine X_getR (a := 1) rfl rfl rfl ((congrFun V.1 0).trans s_0) rfl ((congrFun (V.2.1 0 (by decide)) 0).trans r_0_0) ?_
      refine X_getR (a := 10) rfl rfl rfl ((congrFun V.1 1).trans s_1) rfl ((congrFun (V.2.1 1 (by decide)) 1).trans r_1_1) ?_
      refine S_getI rfl rfl rfl ((congrFun V.1 10).trans s_10) rfl (fun vz3 evz3 => ?_)
      refine X_iload_n rfl rfl rfl rfl ?_
      refine S_iaddT rfl rfl (fun vz4 => ?_)
      refine X_sipush (v := (999 : Int32)) rfl rfl rfl ?_
      refine S_icmp_le (tgt := 31) rfl rfl rfl rfl (show (999 : Int32).toInt = 999 from rfl) (fun vh5 => ?_) (fun vh5 => ?_)
      · refine X_aload_n rfl rfl rfl rfl ?_
        refine X_getR (a := 342) rfl rfl rfl ((congrFun V.1 0).trans s_0) rfl ((congrFun (V.2.1 0 (by decide)) 6).trans r_0_6) ?_
        refine X_iload_n rfl rfl rfl rfl ?_
        refine Y_callV (as := [.int x1]) (st := []) rfl rfl rfl (by decide) rfl (Nat.le_of_ble_eq_true rfl) (by decide) (Nat.le_of_ble_eq_true rfl) rfl ((congrFun V.1 342).trans s_342) (by decide) (C_X1_passMornings V x1 y1 hx1 ) ?_
        rintro _ g ⟨vr6, rfl, V, hq⟩
        have hG := hq.trans hG
        refine X_pop rfl rfl rfl ?_
        refine X_aload_n rfl rfl rfl rfl ?_
        refine X_getR (a := 1) rfl rfl rfl ((congrFun V.1 0).trans s_0) rfl ((congrFun (V.2.1 0 (by decide)) 0).trans r_0_0) ?_
        refine X_getR (a := 10) rfl rfl rfl ((congrFun V.1 1).trans s_1) rfl ((congrFun (V.2.1 1 (by decide)) 1).trans r_1_1) ?_
        refine Y_callV (as := []) (st := []) rfl rfl rfl (by decide) rfl (Nat.le_of_ble_eq_true rfl) (by decide) (Nat.le_of_ble_eq_true rfl) rfl ((congrFun V.1 10).trans s_10) (by decide) (C_X9_outs V  ) ?_
        rintro _ g' ⟨vr7, rfl, hrvr70, hrvr71, hgg⟩
        subst hgg
        have hr := (rfl : vr7.toInt = vr7.toInt)
        exact LW_ireturn (st := []) rfl rfl rfl ⟨_, rfl, by omega, by omega, V, hG⟩
      · refine X_iconst (v := (-1 : Int32)) rfl rfl rfl ?_
        exact LW_ireturn (st := []) rfl rfl rfl ⟨_, rfl, by decide, by decide, V, hG⟩
set_option maxRecDepth 10000 in
set_option maxHeartbeats 40000000 in
theorem C_X1_call {P : Par} {g : LH} {d : Nat}  (V : Inv P g) (x1 : Int32) (y1 : Int) (hx1 : x1.toInt = y1)   : LW 8 (d + 9) 0 0 0 (lEnt (mL 8) [.ref 342, .int x1]) [] g (fun v g' => ∃ r : Int32, v = some (.int r) ∧ 0 ≤ r.toInt ∧ r.toInt ≤ 63 ∧ Inv P g' ∧ Gr g' = Gr g) := by
  refine LW_ls (ls' := [some (.ref 342), some (.int x1)]) rfl ?_
  have hG : Gr g = Gr g := rfl
  refine X_iload_n rfl rfl rfl rfl ?_
  refine S_if_eq (tgt := 26) rfl rfl rfl hx1 (fun vh1 => ?_) (fun vh1 => ?_)
  · refine X_iload_n rfl rfl rfl rfl ?_
    refine Y_callS (as := [.int x1]) (st := []) rfl rfl rfl (by decide) rfl (Nat.le_of_ble_eq_true rfl) (by decide) (Nat.le_of_ble_eq_true rfl) rfl (c_bc hx1 0 (by omega) (by decide)) ?_
    rintro _ g' ⟨vr2, rfl, hrvr20, hrvr21, hgg⟩
    subst hgg
    have hr := (rfl : vr2.toInt = vr2.toInt)
    exact LW_ireturn (st := []) rfl rfl rfl ⟨_, rfl, by omega, by omega, V, hG⟩
  · refine X_aload_n rfl rfl rfl rfl ?_
    refine X_getR (a := 1) rfl rfl rfl ((congrFun V.1 342).trans s_342) rfl ((congrFun (V.2.1 342 (by decide)) 0).trans r_342_0) ?_
    refine X_getR (a := 14) rfl rfl rfl ((congrFun V.1 1).trans s_1) rfl ((congrFun (V.2.1 1 (by decide)) 2).trans r_1_2) ?_
    refine X_aload_n rfl rfl rfl rfl ?_
    refine X_getR (a := 10) rfl rfl rfl ((congrFun V.1 342).trans s_342) rfl ((congrFun (V.2.1 342 (by decide)) 1).trans r_342_1) ?_
    refine Y_callV (as := [.ref 10]) (st := []) rfl rfl rfl (by decide) rfl (Nat.le_of_ble_eq_true rfl) (by decide) (Nat.le_of_ble_eq_true rfl) rfl ((congrFun V.1 14).trans s_14) (by decide) (C_X3_keep_14_10 V  ) ?_
    rintro _ g ⟨rfl, V, hq⟩
    have hG := hq.trans hG
    refine X_aload_n rfl rfl rfl rfl ?_
    refine X_getR (a := 10) rfl rfl rfl ((congrFun V.1 342).trans s_342) rfl ((congrFun (V.2.1 342 (by decide)) 1).trans r_342_1) ?_
    refine X_iload_n rfl rfl rfl rfl ?_
    refine Y_callV (as := [.int x1]) (st := []) rfl rfl rfl (by decide) rfl (Nat.le_of_ble_eq_true rfl) (by decide) (Nat.le_of_ble_eq_true rfl) rfl ((congrFun V.1 10).trans s_10) (by decide) (C_X9_move V x1 y1 hx1 ) ?_
    rintro _ g ⟨rfl, V, hq⟩
    have hG := hq.trans hG
    refine X_iload_n rfl rfl rfl rfl ?_
    refine Y_callS (as := [.int x1]) (st := []) rfl rfl rfl (by decide) rfl (Nat.le_of_ble_eq_true rfl) (by decide) (Nat.le_of_ble_eq_true rfl) rfl (C_J6_bitCount_0f7a4 V x1 y1 hx1 ) ?_
    rintro _ g' ⟨vr5, rfl, hrvr50, hrvr51, hgg⟩
    subst hgg
    have hr := (rfl : vr5.toInt = vr5.toInt)
    exact LW_ireturn (st := []) rfl rfl rfl ⟨_, rfl, by omega, by omega, V, hG⟩
set_option maxRecDepth 10000 in
set_option maxHeartbeats 40000000 in
theorem C_X1_callOut {P : Par} {g : LH} {d : Nat}  (V : Inv P g) (x1 : Int32) (y1 : Int) (hx1 : x1.toInt = y1)   : LW 6 (d + 13) 0 0 0 (lEnt (mL 6) [.ref 342, .int x1]) [] g (fun v g' => ∃ r : Int32, v = some (.int r) ∧ 0 ≤ r.toInt ∧ r.toInt ≤ 63 ∧ Inv P g' ∧ Gr g' = Gr g) := by
  refine LW_ls (ls' := [some (.ref 342), some (.int x1)]) rfl ?_
  have hG : Gr g = Gr g := rfl
  refine X_aload_n rfl rfl rfl rfl ?_
  refine X_iload_n rfl rfl rfl rfl ?_
  refine X_aload_n rfl rfl rfl rfl ?_
  refine X_getR (a := 10) rfl rfl rfl ((congrFun V.1 342).trans s_342) rfl ((congrFun (V.2.1 342 (by decide)) 1).trans r_342_1) ?_
  refine S_getI rfl rfl rfl ((congrFun V.1 10).trans s_10) rfl (fun vz1 evz1 => ?_)
  refine X_iconst (v := (-1 : Int32)) rfl rfl rfl ?_
  refine S_ixorT rfl rfl (fun vz2 => ?_)
  refine S_iandT rfl rfl (fun vz3 => ?_)
  refine Y_callV (as := [.int vz3]) (st := []) rfl rfl rfl (by decide) rfl (Nat.le_of_ble_eq_true rfl) (by decide) (Nat.le_of_ble_eq_true rfl) rfl ((congrFun V.1 342).trans s_342) (by decide) (C_X1_call V vz3 vz3.toInt rfl ) ?_
  rintro _ g ⟨vr4, rfl, hrvr40, hrvr41, V, hq⟩
  have hG := hq.trans hG
  have hr := (rfl : vr4.toInt = vr4.toInt)
  exact LW_ireturn (st := []) rfl rfl rfl ⟨_, rfl, by omega, by omega, V, hG⟩
set_option maxRecDepth 10000 in
set_option maxHeartbeats 40000000 in
theorem C_X12_strike {P : Par} {g : LH} {d : Nat}  (V : Inv P g) (x1 : Int32) (y1 : Int) (hx1 : x1.toInt = y1)   : LW 135 (d + 18) 0 0 0 (lEnt (mL 135) [.ref 0, .int x1]) [] g (fun v g' => ∃ r : Int32, v = some (.int r) ∧ (-1) ≤ r.toInt ∧ r.toInt ≤ 63 ∧ Inv P g' ∧ Gr g' = Gr g) := by
  refine LW_ls (ls' := [some (.ref 0), some (.int x1), none]) rfl ?_
  have hG : Gr g = Gr g := rfl
  refine X_iload_n rfl rfl rfl rfl ?_
  refine X_callS (as := [.int x1]) (st := []) rfl rfl rfl (by decide) rfl (Nat.le_of_ble_eq_true rfl) (by decide) (Nat.le_of_ble_eq_true rfl) rfl ?_
  refine LW_ls (ls' := [some (.int x1)]) rfl ?_
  refine X_iload_n rfl rfl rfl rfl ?_
  refine S_if_le (tgt := 15) rfl rfl rfl hx1 (fun vh1 => ?_) (fun vh1 => ?_)
  · refine X_iconst (v := (0 : Int32)) rfl rfl rfl ?_
    refine LW_ireturn (st := []) rfl rfl rfl ?_
    refine S_if_eq (tgt := 18) rfl rfl rfl (show (0 : Int32).toInt = 0 from rfl) (fun vh2 => ?_) (fun q => absurd q (by omega))
    refine X_iconst (v := (0 : Int32)) rfl rfl rfl ?_
    refine X_istore_n (i := 2) (ls' := [some (.ref 0), some (.int x1), some (.int (0 : Int32))]) rfl rfl rfl (Nat.le_of_ble_eq_true rfl) rfl ?_
    refine X_iload_n rfl rfl rfl rfl ?_
    refine S_if_le (tgt := 28) rfl rfl rfl (show (0 : Int32).toInt = 0 from rfl) (fun vh3 => ?_) (fun q => absurd q (by omega))
    refine X_iconst (v := (-1 : Int32)) rfl rfl rfl ?_
    exact LW_ireturn (st := []) rfl rfl rfl ⟨_, rfl, by decide, by decide, V, hG⟩
  · refine X_iload_n rfl rfl rfl rfl ?_
    refine X_ldcw (v := (67108864 : Int32)) rfl rfl rfl ?_
    refine S_icmp_ge (tgt := 15) rfl rfl rfl hx1 (show (67108864 : Int32).toInt = 67108864 from rfl) (fun vh4 => ?_) (fun vh4 => ?_)
    · refine X_iconst (v := (0 : Int32)) rfl rfl rfl ?_
      refine LW_ireturn (st := []) rfl rfl rfl ?_
      refine S_if_eq (tgt := 18) rfl rfl rfl (show (0 : Int32).toInt = 0 from rfl) (fun vh5 => ?_) (fun q => absurd q (by omega))
      refine X_iconst (v := (0 : Int32)) rfl rfl rfl ?_
      refine X_istore_n (i := 2) (ls' := [some (.ref 0), some (.int x1), some (.int (0 : Int32))]) rfl rfl rfl (Nat.le_of_ble_eq_true rfl) rfl ?_
      refine X_iload_n rfl rfl rfl rfl ?_
      refine S_if_le (tgt := 28) rfl rfl rfl (show (0 : Int32).toInt = 0 from rfl) (fun vh6 => ?_) (fun q => absurd q (by omega))
      refine X_iconst (v := (-1 : Int32)) rfl rfl rfl ?_
      exact LW_ireturn (st := []) rfl rfl rfl ⟨_, rfl, by decide, by decide, V, hG⟩
    · refine X_iconst (v := (1 : Int32)) rfl rfl rfl ?_
      refine LW_goto (tgt := 16) rfl rfl ?_
      refine LW_ireturn (st := []) rfl rfl rfl ?_
      refine S_if_eq (tgt := 18) rfl rfl rfl (show (1 : Int32).toInt = 1 from rfl) (fun q => absurd q (by omega)) (fun vh7 => ?_)
      refine X_aload_n rfl rfl rfl rfl ?_
      refine X_getR (a := 342) rfl rfl rfl ((congrFun V.1 0).trans s_0) rfl ((congrFun (V.2.1 0 (by decide)) 6).trans r_0_6) ?_
      refine X_iload_n rfl rfl rfl rfl ?_
      refine Y_callV (as := [.int x1]) (st := []) rfl rfl rfl (by decide) rfl (Nat.le_of_ble_eq_true rfl) (by decide) (Nat.le_of_ble_eq_true rfl) rfl ((congrFun V.1 342).trans s_342) (by decide) (C_X1_callOut V x1 y1 hx1 ) ?_
      rintro _ g ⟨vr8, rfl, hrvr80, hrvr81, V, hq⟩
      have hG := hq.trans hG
      refine LW_goto (tgt := 19) rfl rfl ?_
      refine X_istore_n (i := 2) (ls' := [some (.ref 0), some (.int x1), some (.int vr8)]) rfl rfl rfl (Nat.le_of_ble_eq_true rfl) rfl ?_
      refine X_iload_n rfl rfl rfl rfl ?_
      refine S_if_le (tgt := 28) rfl rfl rfl rfl (fun vh9 => ?_) (fun vh9 => ?_)
      · refine X_iconst (v := (-1 : Int32)) rfl rfl rfl ?_
        exact LW_ireturn (st := []) rfl rfl rfl ⟨_, rfl, by decide, by decide, V, hG⟩
      · refine X_iload_n rfl rfl rfl rfl ?_
        refine LW_goto (tgt := 29) rfl rfl ?_
        have hr := (rfl : vr8.toInt = vr8.toInt)
        exact LW_ireturn (st := []) rfl rfl rfl ⟨_, rfl, by omega, by omega, V, hG⟩
set_option maxRecDepth 10000 in
set_option maxHeartbeats 40000000 in
theorem C_X1_callBack {P : Par} {g : LH} {d : Nat}  (V : Inv P g) (x1 : Int32) (y1 : Int) (hx1 : x1.toInt = y1)   : LW 7 (d + 13) 0 0 0 (lEnt (mL 7) [.ref 342, .int x1]) [] g (fun v g' => ∃ r : Int32, v = some (.int r) ∧ 0 ≤ r.toInt ∧ r.toInt ≤ 63 ∧ Inv P g' ∧ Gr g' = Gr g) := by
  refine LW_ls (ls' := [some (.ref 342), some (.int x1)]) rfl ?_
  have hG : Gr g = Gr g := rfl
  refine X_aload_n rfl rfl rfl rfl ?_
  refine X_iload_n rfl rfl rfl rfl ?_
  refine X_aload_n rfl rfl rfl rfl ?_
  refine X_getR (a := 10) rfl rfl rfl ((congrFun V.1 342).trans s_342) rfl ((congrFun (V.2.1 342 (by decide)) 1).trans r_342_1) ?_
  refine S_getI rfl rfl rfl ((congrFun V.1 10).trans s_10) rfl (fun vz1 evz1 => ?_)
  refine S_iandT rfl rfl (fun vz2 => ?_)
  refine Y_callV (as := [.int vz2]) (st := []) rfl rfl rfl (by decide) rfl (Nat.le_of_ble_eq_true rfl) (by decide) (Nat.le_of_ble_eq_true rfl) rfl ((congrFun V.1 342).trans s_342) (by decide) (C_X1_call V vz2 vz2.toInt rfl ) ?_
  rintro _ g ⟨vr3, rfl, hrvr30, hrvr31, V, hq⟩
  have hG := hq.trans hG
  have hr := (rfl : vr3.toInt = vr3.toInt)
  exact LW_ireturn (st := []) rfl rfl rfl ⟨_, rfl, by omega, by omega, V, hG⟩
set_option maxRecDepth 10000 in
set_option maxHeartbeats 40000000 in
theorem C_X12_comeBack {P : Par} {g : LH} {d : Nat}  (V : Inv P g) (x1 : Int32) (y1 : Int) (hx1 : x1.toInt = y1)   : LW 136 (d + 18) 0 0 0 (lEnt (mL 136) [.ref 0, .int x1]) [] g (fun v g' => ∃ r : Int32, v = some (.int r) ∧ (-1) ≤ r.toInt ∧ r.toInt ≤ 63 ∧ Inv P g' ∧ Gr g' = Gr g) := by
  refine LW_ls (ls' := [some (.ref 0), some (.int x1), none]) rfl ?_
  have hG : Gr g = Gr g := rfl
  refine X_iload_n rfl rfl rfl rfl ?_
  refine X_callS (as := [.int x1]) (st := []) rfl rfl rfl (by decide) rfl (Nat.le_of_ble_eq_true rfl) (by decide) (Nat.le_of_ble_eq_true rfl) rfl ?_
  refine LW_ls (ls' := [some (.int x1)]) rfl ?_
  refine X_iload_n rfl rfl rfl rfl ?_
  refine S_if_le (tgt := 15) rfl rfl rfl hx1 (fun vh1 => ?_) (fun vh1 => ?_)
  · refine X_iconst (v := (0 : Int32)) rfl rfl rfl ?_
    refine LW_ireturn (st := []) rfl rfl rfl ?_
    refine S_if_eq (tgt := 18) rfl rfl rfl (show (0 : Int32).toInt = 0 from rfl) (fun vh2 => ?_) (fun q => absurd q (by omega))
    refine X_iconst (v := (0 : Int32)) rfl rfl rfl ?_
    refine X_istore_n (i := 2) (ls' := [some (.ref 0), some (.int x1), some (.int (0 : Int32))]) rfl rfl rfl (Nat.le_of_ble_eq_true rfl) rfl ?_
    refine X_iload_n rfl rfl rfl rfl ?_
    refine S_if_le (tgt := 28) rfl rfl rfl (show (0 : Int32).toInt = 0 from rfl) (fun vh3 => ?_) (fun q => absurd q (by omega))
    refine X_iconst (v := (-1 : Int32)) rfl rfl rfl ?_
    exact LW_ireturn (st := []) rfl rfl rfl ⟨_, rfl, by decide, by decide, V, hG⟩
  · refine X_iload_n rfl rfl rfl rfl ?_
    refine X_ldcw (v := (67108864 : Int32)) rfl rfl rfl ?_
    refine S_icmp_ge (tgt := 15) rfl rfl rfl hx1 (show (67108864 : Int32).toInt = 67108864 from rfl) (fun vh4 => ?_) (fun vh4 => ?_)
    · refine X_iconst (v := (0 : Int32)) rfl rfl rfl ?_
      refine LW_ireturn (st := []) rfl rfl rfl ?_
      refine S_if_eq (tgt := 18) rfl rfl rfl (show (0 : Int32).toInt = 0 from rfl) (fun vh5 => ?_) (fun q => absurd q (by omega))
      refine X_iconst (v := (0 : Int32)) rfl rfl rfl ?_
      refine X_istore_n (i := 2) (ls' := [some (.ref 0), some (.int x1), some (.int (0 : Int32))]) rfl rfl rfl (Nat.le_of_ble_eq_true rfl) rfl ?_
      refine X_iload_n rfl rfl rfl rfl ?_
      refine S_if_le (tgt := 28) rfl rfl rfl (show (0 : Int32).toInt = 0 from rfl) (fun vh6 => ?_) (fun q => absurd q (by omega))
      refine X_iconst (v := (-1 : Int32)) rfl rfl rfl ?_
      exact LW_ireturn (st := []) rfl rfl rfl ⟨_, rfl, by decide, by decide, V, hG⟩
    · refine X_iconst (v := (1 : Int32)) rfl rfl rfl ?_
      refine LW_goto (tgt := 16) rfl rfl ?_
      refine LW_ireturn (st := []) rfl rfl rfl ?_
      refine S_if_eq (tgt := 18) rfl rfl rfl (show (1 : Int32).toInt = 1 from rfl) (fun q => absurd q (by omega)) (fun vh7 => ?_)
      refine X_aload_n rfl rfl rfl rfl ?_
      refine X_getR (a := 342) rfl rfl rfl ((congrFun V.1 0).trans s_0) rfl ((congrFun (V.2.1 0 (by decide)) 6).trans r_0_6) ?_
      refine X_iload_n rfl rfl rfl rfl ?_
      refine Y_callV (as := [.int x1]) (st := []) rfl rfl rfl (by decide) rfl (Nat.le_of_ble_eq_true rfl) (by decide) (Nat.le_of_ble_eq_true rfl) rfl ((congrFun V.1 342).trans s_342) (by decide) (C_X1_callBack V x1 y1 hx1 ) ?_
      rintro _ g ⟨vr8, rfl, hrvr80, hrvr81, V, hq⟩
      have hG := hq.trans hG
      refine LW_goto (tgt := 19) rfl rfl ?_
      refine X_istore_n (i := 2) (ls' := [some (.ref 0), some (.int x1), some (.int vr8)]) rfl rfl rfl (Nat.le_of_ble_eq_true rfl) rfl ?_
      refine X_iload_n rfl rfl rfl rfl ?_
      refine S_if_le (tgt := 28) rfl rfl rfl rfl (fun vh9 => ?_) (fun vh9 => ?_)
      · refine X_iconst (v := (-1 : Int32)) rfl rfl rfl ?_
        exact LW_ireturn (st := []) rfl rfl rfl ⟨_, rfl, by decide, by decide, V, hG⟩
      · refine X_iload_n rfl rfl rfl rfl ?_
        refine LW_goto (tgt := 29) rfl rfl ?_
        have hr := (rfl : vr8.toInt = vr8.toInt)
        exact LW_ireturn (st := []) rfl rfl rfl ⟨_, rfl, by omega, by omega, V, hG⟩
set_option maxRecDepth 10000 in
set_option maxHeartbeats 40000000 in
theorem C_X1_setWage {P : Par} {g : LH} {d : Nat}  (V : Inv P g) (x1 : Int32) (y1 : Int) (hx1 : x1.toInt = y1) (hf1 : 0 ≤ y1 ∧ y1 ≤ 25) (x2 : Int32) (y2 : Int) (hx2 : x2.toInt = y2) (hf2 : y2 ≤ 99)   : LW 9 (d + 9) 0 0 0 (lEnt (mL 9) [.ref 342, .int x1, .int x2]) [] g (fun v g' => ∃ r : Int32, v = some (.int r) ∧ 0 ≤ r.toInt ∧ r.toInt ≤ 1 ∧ Inv P g' ∧ Gr g' = Gr g) := by
  refine LW_ls (ls' := [some (.ref 342), some (.int x1), some (.int x2)]) rfl ?_
  have hG : Gr g = Gr g := rfl
  refine X_aload_n rfl rfl rfl rfl ?_
  refine X_getR (a := 10) rfl rfl rfl ((congrFun V.1 342).trans s_342) rfl ((congrFun (V.2.1 342 (by decide)) 1).trans r_342_1) ?_
  refine X_getR (a := 11) rfl rfl rfl ((congrFun V.1 10).trans s_10) rfl ((congrFun (V.2.1 10 (by decide)) 4).trans r_10_4) ?_
  refine X_iload_n rfl rfl rfl rfl ?_
  refine S_iald rfl rfl ((congrFun V.1 11).trans s_11) hx1 (by omega) (fun vz1 evz1 => ?_)
  refine X_iload_n rfl rfl rfl rfl ?_
  refine S_icmp_ne (tgt := 15) rfl rfl rfl rfl hx2 (fun vh2 => ?_) (fun vh2 => ?_)
  · refine X_aload_n rfl rfl rfl rfl ?_
    refine X_getR (a := 1) rfl rfl rfl ((congrFun V.1 342).trans s_342) rfl ((congrFun (V.2.1 342 (by decide)) 0).trans r_342_0) ?_
    refine X_getR (a := 14) rfl rfl rfl ((congrFun V.1 1).trans s_1) rfl ((congrFun (V.2.1 1 (by decide)) 2).trans r_1_2) ?_
    refine X_aload_n rfl rfl rfl rfl ?_
    refine X_getR (a := 10) rfl rfl rfl ((congrFun V.1 342).trans s_342) rfl ((congrFun (V.2.1 342 (by decide)) 1).trans r_342_1) ?_
    refine Y_callV (as := [.ref 10]) (st := []) rfl rfl rfl (by decide) rfl (Nat.le_of_ble_eq_true rfl) (by decide) (Nat.le_of_ble_eq_true rfl) rfl ((congrFun V.1 14).trans s_14) (by decide) (C_X3_keep_14_10 V  ) ?_
    rintro _ g ⟨rfl, V, hq⟩
    have hG := hq.trans hG
    refine X_aload_n rfl rfl rfl rfl ?_
    refine X_getR (a := 10) rfl rfl rfl ((congrFun V.1 342).trans s_342) rfl ((congrFun (V.2.1 342 (by decide)) 1).trans r_342_1) ?_
    refine X_getR (a := 11) rfl rfl rfl ((congrFun V.1 10).trans s_10) rfl ((congrFun (V.2.1 10 (by decide)) 4).trans r_10_4) ?_
    refine X_iload_n rfl rfl rfl rfl ?_
    refine X_iload_n rfl rfl rfl rfl ?_
    refine S_iast (I := Inv _) rfl rfl ((congrFun V.1 11).trans s_11) hx1 (by omega) (Inv_putI V (Nat.le_of_ble_eq_true rfl) (Or.inl (by decide)) (Q_0 rk_11)) (fun g V ve4 vn5 hq => ?_)
    have hG := hq.trans hG
    refine X_iconst (v := (1 : Int32)) rfl rfl rfl ?_
    exact LW_ireturn (st := []) rfl rfl rfl ⟨_, rfl, by decide, by decide, V, hG⟩
  · refine X_iconst (v := (0 : Int32)) rfl rfl rfl ?_
    exact LW_ireturn (st := []) rfl rfl rfl ⟨_, rfl, by decide, by decide, V, hG⟩
set_option maxRecDepth 10000 in
set_option maxHeartbeats 40000000 in
theorem C_X12_raise {P : Par} {g : LH} {d : Nat}  (V : Inv P g) (x1 : Int32) (y1 : Int) (hx1 : x1.toInt = y1) (x2 : Int32) (y2 : Int) (hx2 : x2.toInt = y2)   : LW 137 (d + 14) 0 0 0 (lEnt (mL 137) [.ref 0, .int x1, .int x2]) [] g (fun v g' => ∃ r : Int32, v = some (.int r) ∧ 0 ≤ r.toInt ∧ r.toInt ≤ 1 ∧ Inv P g' ∧ Gr g' = Gr g) := by
  refine LW_ls (ls' := [some (.ref 0), some (.int x1), some (.int x2)]) rfl ?_
  have hG : Gr g = Gr g := rfl
  refine X_iload_n rfl rfl rfl rfl ?_
  refine X_callS (as := [.int x1]) (st := []) rfl rfl rfl (by decide) rfl (Nat.le_of_ble_eq_true rfl) (by decide) (Nat.le_of_ble_eq_true rfl) rfl ?_
  refine LW_ls (ls' := [some (.int x1)]) rfl ?_
  refine X_iload_n rfl rfl rfl rfl ?_
  refine S_if_lt (tgt := 14) rfl rfl rfl hx1 (fun vh1 => ?_) (fun vh1 => ?_)
  · refine X_iconst (v := (0 : Int32)) rfl rfl rfl ?_
    refine LW_ireturn (st := []) rfl rfl rfl ?_
    refine S_if_eq (tgt := 33) rfl rfl rfl (show (0 : Int32).toInt = 0 from rfl) (fun vh2 => ?_) (fun q => absurd q (by omega))
    refine X_iconst (v := (0 : Int32)) rfl rfl rfl ?_
    exact LW_ireturn (st := []) rfl rfl rfl ⟨_, rfl, by decide, by decide, V, hG⟩
  · refine X_iload_n rfl rfl rfl rfl ?_
    refine X_bipush (v := (26 : Int32)) rfl rfl rfl ?_
    refine S_icmp_ge (tgt := 14) rfl rfl rfl hx1 (show (26 : Int32).toInt = 26 from rfl) (fun vh3 => ?_) (fun vh3 => ?_)
    · refine X_iconst (v := (0 : Int32)) rfl rfl rfl ?_
      refine LW_ireturn (st := []) rfl rfl rfl ?_
      refine S_if_eq (tgt := 33) rfl rfl rfl (show (0 : Int32).toInt = 0 from rfl) (fun vh4 => ?_) (fun q => absurd q (by omega))
      refine X_iconst (v := (0 : Int32)) rfl rfl rfl ?_
      exact LW_ireturn (st := []) rfl rfl rfl ⟨_, rfl, by decide, by decide, V, hG⟩
    · refine X_iconst (v := (1 : Int32)) rfl rfl rfl ?_
      refine LW_goto (tgt := 15) rfl rfl ?_
      refine LW_ireturn (st := []) rfl rfl rfl ?_
      refine S_if_eq (tgt := 33) rfl rfl rfl (show (1 : Int32).toInt = 1 from rfl) (fun q => absurd q (by omega)) (fun vh5 => ?_)
      refine X_iload_n rfl rfl rfl rfl ?_
      refine S_if_lt (tgt := 33) rfl rfl rfl hx2 (fun vh6 => ?_) (fun vh6 => ?_)
      · refine X_iconst (v := (0 : Int32)) rfl rfl rfl ?_
        exact LW_ireturn (st := []) rfl rfl rfl ⟨_, rfl, by decide, by decide, V, hG⟩
      · refine X_iload_n rfl rfl rfl rfl ?_
        refine X_bipush (v := (99 : Int32)) rfl rfl rfl ?_
        refine S_icmp_gt (tgt := 33) rfl rfl rfl hx2 (show (99 : Int32).toInt = 99 from rfl) (fun vh7 => ?_) (fun vh7 => ?_)
        · refine X_iconst (v := (0 : Int32)) rfl rfl rfl ?_
          exact LW_ireturn (st := []) rfl rfl rfl ⟨_, rfl, by decide, by decide, V, hG⟩
        · refine X_aload_n rfl rfl rfl rfl ?_
          refine X_getR (a := 342) rfl rfl rfl ((congrFun V.1 0).trans s_0) rfl ((congrFun (V.2.1 0 (by decide)) 6).trans r_0_6) ?_
          refine X_iload_n rfl rfl rfl rfl ?_
          refine X_iload_n rfl rfl rfl rfl ?_
          refine Y_callV (as := [.int x1, .int x2]) (st := []) rfl rfl rfl (by decide) rfl (Nat.le_of_ble_eq_true rfl) (by decide) (Nat.le_of_ble_eq_true rfl) rfl ((congrFun V.1 342).trans s_342) (by decide) (C_X1_setWage V x1 y1 hx1 (by omega) x2 y2 hx2 (by omega) ) ?_
          rintro _ g ⟨vr8, rfl, hrvr80, hrvr81, V, hq⟩
          have hG := hq.trans hG
          refine S_if_eq (tgt := 33) rfl rfl rfl rfl (fun vh9 => ?_) (fun vh9 => ?_)
          · refine X_iconst (v := (0 : Int32)) rfl rfl rfl ?_
            exact LW_ireturn (st := []) rfl rfl rfl ⟨_, rfl, by decide, by decide, V, hG⟩
          · refine X_iconst (v := (1 : Int32)) rfl rfl rfl ?_
            refine LW_goto (tgt := 34) rfl rfl ?_
            exact LW_ireturn (st := []) rfl rfl rfl ⟨_, rfl, by decide, by decide, V, hG⟩
set_option maxRecDepth 10000 in
set_option maxHeartbeats 40000000 in
theorem C_X1_putSign {P : Par} {g : LH} {d : Nat}  (V : Inv P g) (x1 : Int32) (y1 : Int) (hx1 : x1.toInt = y1) (hf1 : 0 ≤ y1 ∧ y1 ≤ 25) (x2 : Int32) (y2 : Int) (hx2 : x2.toInt = y2)   : LW 10 (d + 9) 0 0 0 (lEnt (mL 10) [.ref 342, .int x1, .int x2]) [] g (fun v g' => ∃ r : Int32, v = some (.int r) ∧ 0 ≤ r.toInt ∧ r.toInt ≤ 1 ∧ Inv P g' ∧ Gr g' = Gr g) := by
  refine LW_ls (ls' := [some (.ref 342), some (.int x1), some (.int x2)]) rfl ?_
  have hG : Gr g = Gr g := rfl
  refine X_aload_n rfl rfl rfl rfl ?_
  refine X_getR (a := 10) rfl rfl rfl ((congrFun V.1 342).trans s_342) rfl ((congrFun (V.2.1 342 (by decide)) 1).trans r_342_1) ?_
  refine X_getR (a := 13) rfl rfl rfl ((congrFun V.1 10).trans s_10) rfl ((congrFun (V.2.1 10 (by decide)) 6).trans r_10_6) ?_
  refine X_iload_n rfl rfl rfl rfl ?_
  refine S_iald rfl rfl ((congrFun V.1 13).trans s_13) hx1 (by omega) (fun vz1 evz1 => ?_)
  refine X_iload_n rfl rfl rfl rfl ?_
  refine S_icmp_ne (tgt := 15) rfl rfl rfl rfl hx2 (fun vh2 => ?_) (fun vh2 => ?_)
  · refine X_aload_n rfl rfl rfl rfl ?_
    refine X_getR (a := 1) rfl rfl rfl ((congrFun V.1 342).trans s_342) rfl ((congrFun (V.2.1 342 (by decide)) 0).trans r_342_0) ?_
    refine X_getR (a := 14) rfl rfl rfl ((congrFun V.1 1).trans s_1) rfl ((congrFun (V.2.1 1 (by decide)) 2).trans r_1_2) ?_
    refine X_aload_n rfl rfl rfl rfl ?_
    refine X_getR (a := 10) rfl rfl rfl ((congrFun V.1 342).trans s_342) rfl ((congrFun (V.2.1 342 (by decide)) 1).trans r_342_1) ?_
    refine Y_callV (as := [.ref 10]) (st := []) rfl rfl rfl (by decide) rfl (Nat.le_of_ble_eq_true rfl) (by decide) (Nat.le_of_ble_eq_true rfl) rfl ((congrFun V.1 14).trans s_14) (by decide) (C_X3_keep_14_10 V  ) ?_
    rintro _ g ⟨rfl, V, hq⟩
    have hG := hq.trans hG
    refine X_aload_n rfl rfl rfl rfl ?_
    refine X_getR (a := 10) rfl rfl rfl ((congrFun V.1 342).trans s_342) rfl ((congrFun (V.2.1 342 (by decide)) 1).trans r_342_1) ?_
    refine X_getR (a := 13) rfl rfl rfl ((congrFun V.1 10).trans s_10) rfl ((congrFun (V.2.1 10 (by decide)) 6).trans r_10_6) ?_
    refine X_iload_n rfl rfl rfl rfl ?_
    refine X_iload_n rfl rfl rfl rfl ?_
    refine S_iast (I := Inv _) rfl rfl ((congrFun V.1 13).trans s_13) hx1 (by omega) (Inv_putI V (Nat.le_of_ble_eq_true rfl) (Or.inl (by decide)) (Q_0 rk_13)) (fun g V ve4 vn5 hq => ?_)
    have hG := hq.trans hG
    refine X_iconst (v := (1 : Int32)) rfl rfl rfl ?_
    exact LW_ireturn (st := []) rfl rfl rfl ⟨_, rfl, by decide, by decide, V, hG⟩
  · refine X_iconst (v := (0 : Int32)) rfl rfl rfl ?_
    exact LW_ireturn (st := []) rfl rfl rfl ⟨_, rfl, by decide, by decide, V, hG⟩
set_option maxRecDepth 10000 in
set_option maxHeartbeats 40000000 in
theorem C_X12_sign {P : Par} {g : LH} {d : Nat}  (V : Inv P g) (x1 : Int32) (y1 : Int) (hx1 : x1.toInt = y1) (x2 : Int32) (y2 : Int) (hx2 : x2.toInt = y2)   : LW 138 (d + 14) 0 0 0 (lEnt (mL 138) [.ref 0, .int x1, .int x2]) [] g (fun v g' => ∃ r : Int32, v = some (.int r) ∧ 0 ≤ r.toInt ∧ r.toInt ≤ 1 ∧ Inv P g' ∧ Gr g' = Gr g) := by
  refine LW_ls (ls' := [some (.ref 0), some (.int x1), some (.int x2)]) rfl ?_
  have hG : Gr g = Gr g := rfl
  refine X_iload_n rfl rfl rfl rfl ?_
  refine X_callS (as := [.int x1]) (st := []) rfl rfl rfl (by decide) rfl (Nat.le_of_ble_eq_true rfl) (by decide) (Nat.le_of_ble_eq_true rfl) rfl ?_
  refine LW_ls (ls' := [some (.int x1)]) rfl ?_
  refine X_iload_n rfl rfl rfl rfl ?_
  refine S_if_lt (tgt := 14) rfl rfl rfl hx1 (fun vh1 => ?_) (fun vh1 => ?_)
  · refine X_iconst (v := (0 : Int32)) rfl rfl rfl ?_
    refine LW_ireturn (st := []) rfl rfl rfl ?_
    refine S_if_eq (tgt := 34) rfl rfl rfl (show (0 : Int32).toInt = 0 from rfl) (fun vh2 => ?_) (fun q => absurd q (by omega))
    refine X_iconst (v := (0 : Int32)) rfl rfl rfl ?_
    exact LW_ireturn (st := []) rfl rfl rfl ⟨_, rfl, by decide, by decide, V, hG⟩
  · refine X_iload_n rfl rfl rfl rfl ?_
    refine X_bipush (v := (26 : Int32)) rfl rfl rfl ?_
    refine S_icmp_ge (tgt := 14) rfl rfl rfl hx1 (show (26 : Int32).toInt = 26 from rfl) (fun vh3 => ?_) (fun vh3 => ?_)
    · refine X_iconst (v := (0 : Int32)) rfl rfl rfl ?_
      refine LW_ireturn (st := []) rfl rfl rfl ?_
      refine S_if_eq (tgt := 34) rfl rfl rfl (show (0 : Int32).toInt = 0 from rfl) (fun vh4 => ?_) (fun q => absurd q (by omega))
      refine X_iconst (v := (0 : Int32)) rfl rfl rfl ?_
      exact LW_ireturn (st := []) rfl rfl rfl ⟨_, rfl, by decide, by decide, V, hG⟩
    · refine X_iconst (v := (1 : Int32)) rfl rfl rfl ?_
      refine LW_goto (tgt := 15) rfl rfl ?_
      refine LW_ireturn (st := []) rfl rfl rfl ?_
      refine S_if_eq (tgt := 34) rfl rfl rfl (show (1 : Int32).toInt = 1 from rfl) (fun q => absurd q (by omega)) (fun vh5 => ?_)
      refine X_iload_n rfl rfl rfl rfl ?_
      refine X_iconst (v := (-1 : Int32)) rfl rfl rfl ?_
      refine S_icmp_lt (tgt := 34) rfl rfl rfl hx2 (show (-1 : Int32).toInt = -1 from rfl) (fun vh6 => ?_) (fun vh6 => ?_)
      · refine X_iconst (v := (0 : Int32)) rfl rfl rfl ?_
        exact LW_ireturn (st := []) rfl rfl rfl ⟨_, rfl, by decide, by decide, V, hG⟩
      · refine X_iload_n rfl rfl rfl rfl ?_
        refine X_bipush (v := (9 : Int32)) rfl rfl rfl ?_
        refine S_icmp_gt (tgt := 34) rfl rfl rfl hx2 (show (9 : Int32).toInt = 9 from rfl) (fun vh7 => ?_) (fun vh7 => ?_)
        · refine X_iconst (v := (0 : Int32)) rfl rfl rfl ?_
          exact LW_ireturn (st := []) rfl rfl rfl ⟨_, rfl, by decide, by decide, V, hG⟩
        · refine X_aload_n rfl rfl rfl rfl ?_
          refine X_getR (a := 342) rfl rfl rfl ((congrFun V.1 0).trans s_0) rfl ((congrFun (V.2.1 0 (by decide)) 6).trans r_0_6) ?_
          refine X_iload_n rfl rfl rfl rfl ?_
          refine X_iload_n rfl rfl rfl rfl ?_
          refine Y_callV (as := [.int x1, .int x2]) (st := []) rfl rfl rfl (by decide) rfl (Nat.le_of_ble_eq_true rfl) (by decide) (Nat.le_of_ble_eq_true rfl) rfl ((congrFun V.1 342).trans s_342) (by decide) (C_X1_putSign V x1 y1 hx1 (by omega) x2 y2 hx2 ) ?_
          rintro _ g ⟨vr8, rfl, hrvr80, hrvr81, V, hq⟩
          have hG := hq.trans hG
          refine S_if_eq (tgt := 34) rfl rfl rfl rfl (fun vh9 => ?_) (fun vh9 => ?_)
          · refine X_iconst (v := (0 : Int32)) rfl rfl rfl ?_
            exact LW_ireturn (st := []) rfl rfl rfl ⟨_, rfl, by decide, by decide, V, hG⟩
          · refine X_iconst (v := (1 : Int32)) rfl rfl rfl ?_
            refine LW_goto (tgt := 35) rfl rfl ?_
            exact LW_ireturn (st := []) rfl rfl rfl ⟨_, rfl, by decide, by decide, V, hG⟩
set_option maxRecDepth 10000 in
set_option maxHeartbeats 40000000 in
theorem C_X9_missing_7 {P : Par} {g : LH} {d n : Nat}  (V : Inv P g) (x1 : Int32) (y1 : Int) (hx1 : x1.toInt = y1) (x2 : Int32) (y2 : Int) (hx2 : x2.toInt = y2) (hf2 : 0 ≤ y2 ∧ y2 ≤ 26)  (hmu : (26 - y2) * 1 + 0 < (n : Int) + 1) (ih7 : ∀ (V : Inv P g) (x1 : Int32) (y1 : Int) (hx1 : x1.toInt = y1) (x2 : Int32) (y2 : Int) (hx2 : x2.toInt = y2) (hf2 : 0 ≤ y2 ∧ y2 ≤ 26) , (26 - y2) * 1 + 0 < (n : Int) → LW 108 (d + 3) 0 0 7 [some (.ref 10), some (.int x1), some (.int x2)] [] g (fun v g' => ∃ r : Int32, v = some (.int r) ∧ g = g')) : LW 108 (d + 3) 0 0 7 [some (.ref 10), some (.int x1), some (.int x2)] [] g (fun v g' => ∃ r : Int32, v = some (.int r) ∧ g = g') := by
  refine X_iload_n rfl rfl rfl rfl ?_
  refine X_bipush (v := (26 : Int32)) rfl rfl rfl ?_
  refine S_icmp_ge (tgt := 37) rfl rfl rfl hx2 (show (26 : Int32).toInt = 26 from rfl) (fun vh1 => ?_) (fun vh1 => ?_)
  · refine X_iload_n rfl rfl rfl rfl ?_
    exact LW_ireturn (st := []) rfl rfl rfl ⟨_, rfl, rfl⟩
  · refine X_aload_n rfl rfl rfl rfl ?_
    refine X_getR (a := 13) rfl rfl rfl ((congrFun V.1 10).trans s_10) rfl ((congrFun (V.2.1 10 (by decide)) 6).trans r_10_6) ?_
    refine X_iload_n rfl rfl rfl rfl ?_
    refine S_iald rfl rfl ((congrFun V.1 13).trans s_13) hx2 (by omega) (fun vz2 evz2 => ?_)
    refine X_iconst (v := (-1 : Int32)) rfl rfl rfl ?_
    refine S_icmp_eq (tgt := 31) rfl rfl rfl rfl (show (-1 : Int32).toInt = -1 from rfl) (fun vh3 => ?_) (fun vh3 => ?_)
    · refine S_iinc (c := 1) rfl rfl rfl hx2 rfl (by omega) (fun vz4 hvz4 => ?_)
      refine LW_ls (ls' := [some (.ref 10), some (.int x1), some (.int vz4)]) rfl ?_
      refine LW_goto (tgt := 7) rfl rfl ?_
      exact ih7 V x1 y1 hx1 vz4 vz4.toInt rfl (by omega)    (by omega)
    · refine X_iload_n rfl rfl rfl rfl ?_
      refine X_iconst (v := (1 : Int32)) rfl rfl rfl ?_
      refine X_iload_n rfl rfl rfl rfl ?_
      refine S_ishlT rfl rfl (fun vz5 => ?_)
      refine X_iconst (v := (-1 : Int32)) rfl rfl rfl ?_
      refine S_ixorT rfl rfl (fun vz6 => ?_)
      refine S_iandT rfl rfl (fun vz7 => ?_)
      refine X_istore_n (i := 1) (ls' := [some (.ref 10), some (.int vz7), some (.int x2)]) rfl rfl rfl (Nat.le_of_ble_eq_true rfl) rfl ?_
      refine S_iinc (c := 1) rfl rfl rfl hx2 rfl (by omega) (fun vz8 hvz8 => ?_)
      refine LW_ls (ls' := [some (.ref 10), some (.int vz7), some (.int vz8)]) rfl ?_
      refine LW_goto (tgt := 7) rfl rfl ?_
      exact ih7 V vz7 vz7.toInt rfl vz8 vz8.toInt rfl (by omega)    (by omega)
theorem C_X9_missing_all {P : Par} {g : LH} {d : Nat}  : ∀ n : Nat, (∀ (V : Inv P g) (x1 : Int32) (y1 : Int) (hx1 : x1.toInt = y1) (x2 : Int32) (y2 : Int) (hx2 : x2.toInt = y2) (hf2 : 0 ≤ y2 ∧ y2 ≤ 26) , (26 - y2) * 1 + 0 < (n : Int) → LW 108 (d + 3) 0 0 7 [some (.ref 10), some (.int x1), some (.int x2)] [] g (fun v g' => ∃ r : Int32, v = some (.int r) ∧ g = g')) := by
  intro n
  induction n with
  | zero => exact fun V x1 y1 hx1 x2 y2 hx2 hf2 hmu => absurd hmu (by omega)
  | succ n ih => exact fun V x1 y1 hx1 x2 y2 hx2 hf2 hmu => C_X9_missing_7  V x1 y1 hx1 x2 y2 hx2 hf2 (by omega) ih
set_option maxRecDepth 10000 in
set_option maxHeartbeats 40000000 in
theorem C_X9_missing {P : Par} {g : LH} {d : Nat}  (V : Inv P g)    : LW 108 (d + 3) 0 0 0 (lEnt (mL 108) [.ref 10]) [] g (fun v g' => ∃ r : Int32, v = some (.int r) ∧ g = g') := by
  refine LW_ls (ls' := [some (.ref 10), none, none]) rfl ?_
  refine X_aload_n rfl rfl rfl rfl ?_
  refine S_getI rfl rfl rfl ((congrFun V.1 10).trans s_10) rfl (fun vz1 evz1 => ?_)
  refine X_istore_n (i := 1) (ls' := [some (.ref 10), some (.int vz1), none]) rfl rfl rfl (Nat.le_of_ble_eq_true rfl) rfl ?_
  refine X_iconst (v := (0 : Int32)) rfl rfl rfl ?_
  refine X_istore_n (i := 2) (ls' := [some (.ref 10), some (.int vz1), some (.int (0 : Int32))]) rfl rfl rfl (Nat.le_of_ble_eq_true rfl) rfl ?_
  exact (C_X9_missing_all (((26 - 0) * 1 + 0) + 1 : Int).toNat) V vz1 vz1.toInt rfl (0 : Int32) 0 (show (0 : Int32).toInt = 0 from rfl) (by omega)    (by omega)
set_option maxRecDepth 10000 in
set_option maxHeartbeats 40000000 in
theorem C_X5_wordFor_5 {P : Par} {g : LH} {d n : Nat}  (V : Inv P g) (x1 : Int32) (y1 : Int) (hx1 : x1.toInt = y1) (hf1 : 0 ≤ y1 ∧ y1 ≤ 25) (x2 : Int32) (y2 : Int) (hx2 : x2.toInt = y2) (x3 : Int32) (y3 : Int) (hx3 : x3.toInt = y3) (hf3 : (-1) ≤ y3 ∧ y3 ≤ 23) (x4 : Int32) (y4 : Int) (hx4 : x4.toInt = y4) (hf4 : 0 ≤ y4 ∧ y4 ≤ 24)  (hmu : (24 - y4) * 1 + 0 < (n : Int) + 1) (ih5 : ∀ (V : Inv P g) (x1 : Int32) (y1 : Int) (hx1 : x1.toInt = y1) (hf1 : 0 ≤ y1 ∧ y1 ≤ 25) (x2 : Int32) (y2 : Int) (hx2 : x2.toInt = y2) (x3 : Int32) (y3 : Int) (hx3 : x3.toInt = y3) (hf3 : (-1) ≤ y3 ∧ y3 ≤ 23) (x4 : Int32) (y4 : Int) (hx4 : x4.toInt = y4) (hf4 : 0 ≤ y4 ∧ y4 ≤ 24) , (24 - y4) * 1 + 0 < (n : Int) → LW 48 (d + 3) 0 0 5 [some (.ref 2), some (.int x1), some (.int x2), some (.int x3), some (.int x4)] [] g (fun v g' => ∃ r : Int32, v = some (.int r) ∧ (-1) ≤ r.toInt ∧ r.toInt ≤ 23 ∧ g = g')) : LW 48 (d + 3) 0 0 5 [some (.ref 2), some (.int x1), some (.int x2), some (.int x3), some (.int x4)] [] g (fun v g' => ∃ r : Int32, v = some (.int r) ∧ (-1) ≤ r.toInt ∧ r.toInt ≤ 23 ∧ g = g') := by
  refine X_iload rfl rfl rfl ?_
  refine X_aload_n rfl rfl rfl rfl ?_
  refine S_getI rfl rfl rfl ((congrFun V.1 2).trans s_2) rfl (fun vz1 evz1 => ?_)
  have vf2 := K_10_0 (V.2.2.2.2.1 (2) (0) (Nat.le_of_ble_eq_true rfl)) rk_2
  rw [evz1] at vf2
  refine S_icmp_ge (tgt := 67) rfl rfl rfl hx4 rfl (fun vh3 => ?_) (fun vh3 => ?_)
  · refine X_iload_n rfl rfl rfl rfl ?_
    have hr := hx3
    exact LW_ireturn (st := []) rfl rfl rfl ⟨_, rfl, by omega, by omega, rfl⟩
  · refine X_aload_n rfl rfl rfl rfl ?_
    refine X_getR (a := 4) rfl rfl rfl ((congrFun V.1 2).trans s_2) rfl ((congrFun (V.2.1 2 (by decide)) 3).trans r_2_3) ?_
    refine X_iload rfl rfl rfl ?_
    refine S_iald rfl rfl ((congrFun V.1 4).trans s_4) hx4 (by omega) (fun vz4 evz4 => ?_)
    have vf5 := K_2 (V.2.2.2.2.1 (4) ((y4 : Int).toNat) (Nat.le_of_ble_eq_true rfl)) rk_4
    rw [evz4] at vf5
    refine X_iload_n rfl rfl rfl rfl ?_
    refine S_icmp_ne (tgt := 61) rfl rfl rfl rfl hx1 (fun vh6 => ?_) (fun vh6 => ?_)
    · refine S_iinc (c := 1) rfl rfl rfl hx4 rfl (by omega) (fun vz7 hvz7 => ?_)
      refine LW_ls (ls' := [some (.ref 2), some (.int x1), some (.int x2), some (.int x3), some (.int vz7)]) rfl ?_
      refine LW_goto (tgt := 5) rfl rfl ?_
      exact ih5 V x1 y1 hx1 (by omega) x2 y2 hx2 x3 y3 hx3 (by omega) vz7 vz7.toInt rfl (by omega)    (by omega)
    · refine X_aload_n rfl rfl rfl rfl ?_
      refine X_getR (a := 5) rfl rfl rfl ((congrFun V.1 2).trans s_2) rfl ((congrFun (V.2.1 2 (by decide)) 4).trans r_2_4) ?_
      refine X_iload rfl rfl rfl ?_
      refine S_iald rfl rfl ((congrFun V.1 5).trans s_5) hx4 (by omega) (fun vz8 evz8 => ?_)
      refine X_iload_n rfl rfl rfl rfl ?_
      refine S_iandT rfl rfl (fun vz9 => ?_)
      refine S_if_ne (tgt := 61) rfl rfl rfl rfl (fun vh10 => ?_) (fun vh10 => ?_)
      · refine S_iinc (c := 1) rfl rfl rfl hx4 rfl (by omega) (fun vz11 hvz11 => ?_)
        refine LW_ls (ls' := [some (.ref 2), some (.int x1), some (.int x2), some (.int x3), some (.int vz11)]) rfl ?_
        refine LW_goto (tgt := 5) rfl rfl ?_
        exact ih5 V x1 y1 hx1 (by omega) x2 y2 hx2 x3 y3 hx3 (by omega) vz11 vz11.toInt rfl (by omega)    (by omega)
      · refine X_iload_n rfl rfl rfl rfl ?_
        refine X_iconst (v := (-1 : Int32)) rfl rfl rfl ?_
        refine S_icmp_eq (tgt := 58) rfl rfl rfl hx3 (show (-1 : Int32).toInt = -1 from rfl) (fun vh12 => ?_) (fun vh12 => ?_)
        · refine X_iload rfl rfl rfl ?_
          refine X_istore_n (i := 3) (ls' := [some (.ref 2), some (.int x1), some (.int x2), some (.int x4), some (.int x4)]) rfl rfl rfl (Nat.le_of_ble_eq_true rfl) rfl ?_
          refine S_iinc (c := 1) rfl rfl rfl hx4 rfl (by omega) (fun vz13 hvz13 => ?_)
          refine LW_ls (ls' := [some (.ref 2), some (.int x1), some (.int x2), some (.int x4), some (.int vz13)]) rfl ?_
          refine LW_goto (tgt := 5) rfl rfl ?_
          exact ih5 V x1 y1 hx1 (by omega) x2 y2 hx2 x4 y4 hx4 (by omega) vz13 vz13.toInt rfl (by omega)    (by omega)
        · refine X_aload_n rfl rfl rfl rfl ?_
          refine X_getR (a := 3) rfl rfl rfl ((congrFun V.1 2).trans s_2) rfl ((congrFun (V.2.1 2 (by decide)) 2).trans r_2_2) ?_
          refine X_iload rfl rfl rfl ?_
          refine S_iald rfl rfl ((congrFun V.1 3).trans s_3) hx4 (by omega) (fun vz14 evz14 => ?_)
          have vf15 := K_1 (V.2.2.2.2.1 (3) ((y4 : Int).toNat) (Nat.le_of_ble_eq_true rfl)) rk_3
          rw [evz14] at vf15
          refine X_aload_n rfl rfl rfl rfl ?_
          refine X_getR (a := 3) rfl rfl rfl ((congrFun V.1 2).trans s_2) rfl ((congrFun (V.2.1 2 (by decide)) 2).trans r_2_2) ?_
          refine X_iload_n rfl rfl rfl rfl ?_
          refine S_iald rfl rfl ((congrFun V.1 3).trans s_3) hx3 (by omega) (fun vz16 evz16 => ?_)
          have vf17 := K_1 (V.2.2.2.2.1 (3) ((y3 : Int).toNat) (Nat.le_of_ble_eq_true rfl)) rk_3
          rw [evz16] at vf17
          refine S_icmp_ge (tgt := 61) rfl rfl rfl rfl rfl (fun vh18 => ?_) (fun vh18 => ?_)
          · refine S_iinc (c := 1) rfl rfl rfl hx4 rfl (by omega) (fun vz19 hvz19 => ?_)
            refine LW_ls (ls' := [some (.ref 2), some (.int x1), some (.int x2), some (.int x3), some (.int vz19)]) rfl ?_
            refine LW_goto (tgt := 5) rfl rfl ?_
            exact ih5 V x1 y1 hx1 (by omega) x2 y2 hx2 x3 y3 hx3 (by omega) vz19 vz19.toInt rfl (by omega)    (by omega)
          · refine X_iload rfl rfl rfl ?_
            refine X_istore_n (i := 3) (ls' := [some (.ref 2), some (.int x1), some (.int x2), some (.int x4), some (.int x4)]) rfl rfl rfl (Nat.le_of_ble_eq_true rfl) rfl ?_
            refine S_iinc (c := 1) rfl rfl rfl hx4 rfl (by omega) (fun vz20 hvz20 => ?_)
            refine LW_ls (ls' := [some (.ref 2), some (.int x1), some (.int x2), some (.int x4), some (.int vz20)]) rfl ?_
            refine LW_goto (tgt := 5) rfl rfl ?_
            exact ih5 V x1 y1 hx1 (by omega) x2 y2 hx2 x4 y4 hx4 (by omega) vz20 vz20.toInt rfl (by omega)    (by omega)
theorem C_X5_wordFor_all {P : Par} {g : LH} {d : Nat}  : ∀ n : Nat, (∀ (V : Inv P g) (x1 : Int32) (y1 : Int) (hx1 : x1.toInt = y1) (hf1 : 0 ≤ y1 ∧ y1 ≤ 25) (x2 : Int32) (y2 : Int) (hx2 : x2.toInt = y2) (x3 : Int32) (y3 : Int) (hx3 : x3.toInt = y3) (hf3 : (-1) ≤ y3 ∧ y3 ≤ 23) (x4 : Int32) (y4 : Int) (hx4 : x4.toInt = y4) (hf4 : 0 ≤ y4 ∧ y4 ≤ 24) , (24 - y4) * 1 + 0 < (n : Int) → LW 48 (d + 3) 0 0 5 [some (.ref 2), some (.int x1), some (.int x2), some (.int x3), some (.int x4)] [] g (fun v g' => ∃ r : Int32, v = some (.int r) ∧ (-1) ≤ r.toInt ∧ r.toInt ≤ 23 ∧ g = g')) := by
  intro n
  induction n with
  | zero => exact fun V x1 y1 hx1 hf1 x2 y2 hx2 x3 y3 hx3 hf3 x4 y4 hx4 hf4 hmu => absurd hmu (by omega)
  | succ n ih => exact fun V x1 y1 hx1 hf1 x2 y2 hx2 x3 y3 hx3 hf3 x4 y4 hx4 hf4 hmu => C_X5_wordFor_5  V x1 y1 hx1 hf1 x2 y2 hx2 x3 y3 hx3 hf3 x4 y4 hx4 hf4 (by omega) ih
set_option maxRecDepth 10000 in
set_option maxHeartbeats 40000000 in
theorem C_X5_wordFor {P : Par} {g : LH} {d : Nat}  (V : Inv P g) (x1 : Int32) (y1 : Int) (hx1 : x1.toInt = y1) (hf1 : 0 ≤ y1 ∧ y1 ≤ 25) (x2 : Int32) (y2 : Int) (hx2 : x2.toInt = y2)   : LW 48 (d + 3) 0 0 0 (lEnt (mL 48) [.ref 2, .int x1, .int x2]) [] g (fun v g' => ∃ r : Int32, v = some (.int r) ∧ (-1) ≤ r.toInt ∧ r.toInt ≤ 23 ∧ g = g') := by
  refine LW_ls (ls' := [some (.ref 2), some (.int x1), some (.int x2), none, none]) rfl ?_
  refine X_iconst (v := (-1 : Int32)) rfl rfl rfl ?_
  refine X_istore_n (i := 3) (ls' := [some (.ref 2), some (.int x1), some (.int x2), some (.int (-1 : Int32)), none]) rfl rfl rfl (Nat.le_of_ble_eq_true rfl) rfl ?_
  refine X_iconst (v := (0 : Int32)) rfl rfl rfl ?_
  refine X_istore (i := 4) (ls' := [some (.ref 2), some (.int x1), some (.int x2), some (.int (-1 : Int32)), some (.int (0 : Int32))]) rfl rfl (Nat.le_of_ble_eq_true rfl) rfl ?_
  exact (C_X5_wordFor_all (((24 - 0) * 1 + 0) + 1 : Int).toNat) V x1 y1 hx1 (by omega) x2 y2 hx2 (-1 : Int32) (-1) (show (-1 : Int32).toInt = -1 from rfl) (by omega) (0 : Int32) 0 (show (0 : Int32).toInt = 0 from rfl) (by omega)    (by omega)
set_option maxRecDepth 10000 in
set_option maxHeartbeats 40000000 in
theorem C_X5_wordSaid {P : Par} {g : LH} {d : Nat}  (V : Inv P g) (x1 : Int32) (y1 : Int) (hx1 : x1.toInt = y1) (hf1 : 0 ≤ y1 ∧ y1 ≤ 7) (x2 : Int32) (y2 : Int) (hx2 : x2.toInt = y2) (hf2 : 0 ≤ y2) (x3 : Int32) (y3 : Int) (hx3 : x3.toInt = y3)   : LW 49 (d + 9) 0 0 0 (lEnt (mL 49) [.ref 2, .int x1, .int x2, .int x3]) [] g (fun v g' => ∃ r : Int32, v = some (.int r) ∧ (-1) ≤ r.toInt ∧ r.toInt ≤ 23 ∧ g = g') := by
  refine LW_ls (ls' := [some (.ref 2), some (.int x1), some (.int x2), some (.int x3), none]) rfl ?_
  refine X_aload_n rfl rfl rfl rfl ?_
  refine X_iload_n rfl rfl rfl rfl ?_
  refine X_iload_n rfl rfl rfl rfl ?_
  refine X_callV (as := [.int x1, .int x2]) (st := []) rfl rfl rfl (by decide) rfl (Nat.le_of_ble_eq_true rfl) (by decide) (Nat.le_of_ble_eq_true rfl) rfl ((congrFun V.1 2).trans s_2) (by decide) ?_
  refine LW_ls (ls' := [some (.ref 2), some (.int x1), some (.int x2)]) rfl ?_
  refine X_aload_n rfl rfl rfl rfl ?_
  refine X_iload_n rfl rfl rfl rfl ?_
  refine X_callV (as := [.int x1]) (st := []) rfl rfl rfl (by decide) rfl (Nat.le_of_ble_eq_true rfl) (by decide) (Nat.le_of_ble_eq_true rfl) rfl ((congrFun V.1 2).trans s_2) (by decide) ?_
  refine LW_ls (ls' := [some (.ref 2), some (.int x1)]) rfl ?_
  refine X_iload_n rfl rfl rfl rfl ?_
  refine S_if_lt (tgt := 22) rfl rfl rfl hx1 (fun q => absurd q (by omega)) (fun vh1 => ?_)
  refine X_iload_n rfl rfl rfl rfl ?_
  refine X_aload_n rfl rfl rfl rfl ?_
  refine S_getI rfl rfl rfl ((congrFun V.1 2).trans s_2) rfl (fun vz2 evz2 => ?_)
  have vf3 := K_10_1 (V.2.2.2.2.1 (2) (1) (Nat.le_of_ble_eq_true rfl)) rk_2
  rw [evz2] at vf3
  refine S_icmp_ge (tgt := 22) rfl rfl rfl hx1 rfl (fun vh4 => ?_) (fun vh4 => ?_)
  · refine X_iconst (v := (0 : Int32)) rfl rfl rfl ?_
    refine LW_ireturn (st := []) rfl rfl rfl ?_
    refine S_if_eq (tgt := 36) rfl rfl rfl (show (0 : Int32).toInt = 0 from rfl) (fun vh5 => ?_) (fun q => absurd q (by omega))
    refine X_iconst (v := (-1 : Int32)) rfl rfl rfl ?_
    refine LW_ireturn (st := []) rfl rfl rfl ?_
    refine X_istore (i := 4) (ls' := [some (.ref 2), some (.int x1), some (.int x2), some (.int x3), some (.int (-1 : Int32))]) rfl rfl (Nat.le_of_ble_eq_true rfl) rfl ?_
    refine X_iload rfl rfl rfl ?_
    refine X_iconst (v := (-1 : Int32)) rfl rfl rfl ?_
    refine S_icmp_ne (tgt := 18) rfl rfl rfl (show (-1 : Int32).toInt = -1 from rfl) (show (-1 : Int32).toInt = -1 from rfl) (fun q => absurd q (by omega)) (fun vh6 => ?_)
    refine X_iconst (v := (-1 : Int32)) rfl rfl rfl ?_
    refine LW_goto (tgt := 25) rfl rfl ?_
    exact LW_ireturn (st := []) rfl rfl rfl ⟨_, rfl, by decide, by decide, rfl⟩
  · refine X_iload_n rfl rfl rfl rfl ?_
    refine X_bipush (v := (8 : Int32)) rfl rfl rfl ?_
    refine S_icmp_ge (tgt := 22) rfl rfl rfl hx1 (show (8 : Int32).toInt = 8 from rfl) (fun q => absurd q (by omega)) (fun vh7 => ?_)
    refine X_iconst (v := (1 : Int32)) rfl rfl rfl ?_
    refine LW_goto (tgt := 23) rfl rfl ?_
    refine LW_ireturn (st := []) rfl rfl rfl ?_
    refine S_if_eq (tgt := 36) rfl rfl rfl (show (1 : Int32).toInt = 1 from rfl) (fun q => absurd q (by omega)) (fun vh8 => ?_)
    refine X_iload_n rfl rfl rfl rfl ?_
    refine S_if_lt (tgt := 36) rfl rfl rfl hx2 (fun q => absurd q (by omega)) (fun vh9 => ?_)
    refine X_iload_n rfl rfl rfl rfl ?_
    refine X_aload_n rfl rfl rfl rfl ?_
    refine X_getR (a := 7) rfl rfl rfl ((congrFun V.1 2).trans s_2) rfl ((congrFun (V.2.1 2 (by decide)) 6).trans r_2_6) ?_
    refine X_iload_n rfl rfl rfl rfl ?_
    refine S_iald rfl rfl ((congrFun V.1 7).trans s_7) hx1 (by omega) (fun vz10 evz10 => ?_)
    have vf11 := K_1 (V.2.2.2.2.1 (7) ((y1 : Int).toNat) (Nat.le_of_ble_eq_true rfl)) rk_7
    rw [evz10] at vf11
    refine S_icmp_ge (tgt := 36) rfl rfl rfl hx2 rfl (fun vh12 => ?_) (fun vh12 => ?_)
    · refine X_iconst (v := (-1 : Int32)) rfl rfl rfl ?_
      refine LW_ireturn (st := []) rfl rfl rfl ?_
      refine X_istore (i := 4) (ls' := [some (.ref 2), some (.int x1), some (.int x2), some (.int x3), some (.int (-1 : Int32))]) rfl rfl (Nat.le_of_ble_eq_true rfl) rfl ?_
      refine X_iload rfl rfl rfl ?_
      refine X_iconst (v := (-1 : Int32)) rfl rfl rfl ?_
      refine S_icmp_ne (tgt := 18) rfl rfl rfl (show (-1 : Int32).toInt = -1 from rfl) (show (-1 : Int32).toInt = -1 from rfl) (fun q => absurd q (by omega)) (fun vh13 => ?_)
      refine X_iconst (v := (-1 : Int32)) rfl rfl rfl ?_
      refine LW_goto (tgt := 25) rfl rfl ?_
      exact LW_ireturn (st := []) rfl rfl rfl ⟨_, rfl, by decide, by decide, rfl⟩
    · refine X_aload_n rfl rfl rfl rfl ?_
      refine X_getR (a := 9) rfl rfl rfl ((congrFun V.1 2).trans s_2) rfl ((congrFun (V.2.1 2 (by decide)) 8).trans r_2_8) ?_
      refine X_iload_n rfl rfl rfl rfl ?_
      refine X_bipush (v := (8 : Int32)) rfl rfl rfl ?_
      refine S_imul rfl rfl hx1 (show (8 : Int32).toInt = 8 from rfl) (by omega) (fun vz14 hvz14 => ?_)
      refine X_iload_n rfl rfl rfl rfl ?_
      refine S_iadd rfl rfl rfl hx2 (by omega) (fun vz15 hvz15 => ?_)
      refine S_iald rfl rfl ((congrFun V.1 9).trans s_9) rfl (by omega) (fun vz16 evz16 => ?_)
      have vf17 := K_3 (V.2.2.2.2.1 (9) ((vz15.toInt : Int).toNat) (Nat.le_of_ble_eq_true rfl)) rk_9
      rw [evz16] at vf17
      refine LW_goto (tgt := 37) rfl rfl ?_
      refine LW_ireturn (st := []) rfl rfl rfl ?_
      refine X_istore (i := 4) (ls' := [some (.ref 2), some (.int x1), some (.int x2), some (.int x3), some (.int vz16)]) rfl rfl (Nat.le_of_ble_eq_true rfl) rfl ?_
      refine X_iload rfl rfl rfl ?_
      refine X_iconst (v := (-1 : Int32)) rfl rfl rfl ?_
      refine S_icmp_ne (tgt := 18) rfl rfl rfl rfl (show (-1 : Int32).toInt = -1 from rfl) (fun vh18 => ?_) (fun q => absurd q (by omega))
      refine X_aload_n rfl rfl rfl rfl ?_
      refine X_iload rfl rfl rfl ?_
      refine X_iload_n rfl rfl rfl rfl ?_
      refine Y_callV (as := [.int vz16, .int x3]) (st := []) rfl rfl rfl (by decide) rfl (Nat.le_of_ble_eq_true rfl) (by decide) (Nat.le_of_ble_eq_true rfl) rfl ((congrFun V.1 2).trans s_2) (by decide) (C_X5_wordFor V vz16 vz16.toInt rfl (by omega) x3 y3 hx3 ) ?_
      rintro _ g' ⟨vr19, rfl, hrvr190, hrvr191, hgg⟩
      subst hgg
      have hr := (rfl : vr19.toInt = vr19.toInt)
      exact LW_ireturn (st := []) rfl rfl rfl ⟨_, rfl, by omega, by omega, rfl⟩
