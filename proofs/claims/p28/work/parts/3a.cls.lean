/-! the class's methods: each returns and keeps what every state keeps -/
set_option maxRecDepth 10000 in
set_option maxHeartbeats 40000000 in
theorem C_X11_emit_T {P : Par} {g : LH} {d : Nat}  {u : Nat} (hu : u < 4) (V : Inv P g) (x1 : Int32) (y1 : Int) (hx1 : x1.toInt = y1) (hf1 : 0 ≤ y1 ∧ y1 ≤ 20013) (hq0 : y1 ≤ 10013 ∨ 20000 ≤ y1)  : LW 123 (d + 3) 0 0 0 (lEnt (mL 123) [.ref (292 + 10 * u), .int x1]) [] g (fun v g' => v = none ∧ Inv P g' ∧ Gr g' = Gr g ∧ Gi g' 1 5 = Gi g 1 5) := by
  refine LW_ls (ls' := [some (.ref (292 + 10 * u)), some (.int x1)]) rfl ?_
  have hG : Gr g = Gr g := rfl
  have hK : Gi g 1 5 = Gi g 1 5 := rfl
  refine X_aload_n rfl rfl rfl rfl ?_
  refine S_getI rfl rfl rfl ((congrFun V.1 _).trans (tx_s u hu)) rfl (fun vz1 evz1 => ?_)
  have vf2 := K_15_9 (V.2.2.2.2.1 (292 + 10 * u) (9) (by omega)) (tx_k u hu)
  rw [evz1] at vf2
  refine X_sipush (v := (300 : Int32)) rfl rfl rfl ?_
  refine S_icmp_ge (tgt := 30) rfl rfl rfl rfl (show (300 : Int32).toInt = 300 from rfl) (fun vh3 => ?_) (fun vh3 => ?_)
  · exact LW_return (st := []) rfl rfl ⟨rfl, V, hG, hK⟩
  · refine X_aload_n rfl rfl rfl rfl ?_
    refine X_getR (a := 301 + 10 * u) rfl rfl rfl ((congrFun V.1 _).trans (tx_s u hu)) rfl ((congrFun (V.2.1 (292 + 10 * u) (by omega)) 10).trans (tx_r10 u hu)) ?_
    refine X_aload_n rfl rfl rfl rfl ?_
    refine X_getI (v := vz1) rfl rfl rfl ((congrFun V.1 _).trans (tx_s u hu)) rfl evz1 ?_
    refine X_iload_n rfl rfl rfl rfl ?_
    refine S_iast (I := Inv _) rfl rfl ((congrFun V.1 _).trans (tx_s10 u hu)) rfl (by omega) (Inv_putI V (by omega) (Or.inl (by omega)) (Q_9 (tx_k10 u hu) (by omega))) (fun g V ve4 vn5 hq => ?_)
    have hG := hq.trans hG
    have hK := (vn5 1 5 (Or.inl (by omega))).trans hK
    have evz1 := (vn5 (292 + 10 * u) 9 (Or.inl (by omega))).trans evz1
    refine X_aload_n rfl rfl rfl rfl ?_
    refine X_dup rfl rfl rfl ?_
    refine X_getI (v := vz1) rfl rfl rfl ((congrFun V.1 _).trans (tx_s u hu)) rfl evz1 ?_
    refine X_iconst (v := (1 : Int32)) rfl rfl rfl ?_
    refine S_iadd rfl rfl rfl (show (1 : Int32).toInt = 1 from rfl) (by omega) (fun vz6 hvz6 => ?_)
    refine S_putI (I := Inv _) rfl rfl rfl ((congrFun V.1 _).trans (tx_s u hu)) rfl rfl rfl rfl (Inv_putI V (by omega) (Or.inl (by omega)) (Q_15_9 (tx_k u hu) (by omega))) (fun g V ve7 vn8 hq => ?_)
    have hG := hq.trans hG
    have hK := (vn8 1 5 (Or.inl (by omega))).trans hK
    exact LW_return (st := []) rfl rfl ⟨rfl, V, hG, hK⟩
set_option maxRecDepth 10000 in
set_option maxHeartbeats 40000000 in
theorem C_X4_isNameOf {P : Par} {g : LH} {d : Nat}  (V : Inv P g) (x0 : Int32) (y0 : Int) (hx0 : x0.toInt = y0) (hf0 : 0 ≤ y0 ∧ y0 ≤ 3) (x1 : Int32) (y1 : Int) (hx1 : x1.toInt = y1) (hf1 : 0 ≤ y1 ∧ y1 ≤ 13)   : LW 27 (d + 3) 0 0 0 (lEnt (mL 27) [.int x0, .int x1]) [] g (fun v g' => ∃ r : Int32, v = some (.int r) ∧ 0 ≤ r.toInt ∧ r.toInt ≤ 1 ∧ g = g') := by
  refine LW_ls (ls' := [some (.int x0), some (.int x1)]) rfl ?_
  refine X_iload_n rfl rfl rfl rfl ?_
  refine X_iconst (v := (2 : Int32)) rfl rfl rfl ?_
  refine S_icmp_ge (tgt := 7) rfl rfl rfl hx1 (show (2 : Int32).toInt = 2 from rfl) (fun vh1 => ?_) (fun vh1 => ?_)
  · refine X_iload_n rfl rfl rfl rfl ?_
    refine X_bipush (v := (8 : Int32)) rfl rfl rfl ?_
    refine S_icmp_ge (tgt := 28) rfl rfl rfl hx1 (show (8 : Int32).toInt = 8 from rfl) (fun vh2 => ?_) (fun vh2 => ?_)
    · refine X_iload_n rfl rfl rfl rfl ?_
      refine X_bipush (v := (11 : Int32)) rfl rfl rfl ?_
      refine S_icmp_ge (tgt := 47) rfl rfl rfl hx1 (show (11 : Int32).toInt = 11 from rfl) (fun vh3 => ?_) (fun vh3 => ?_)
      · refine X_iload_n rfl rfl rfl rfl ?_
        refine X_iconst (v := (3 : Int32)) rfl rfl rfl ?_
        refine S_icmp_ne (tgt := 56) rfl rfl rfl hx0 (show (3 : Int32).toInt = 3 from rfl) (fun vh4 => ?_) (fun vh4 => ?_)
        · refine X_iconst (v := (0 : Int32)) rfl rfl rfl ?_
          exact LW_ireturn (st := []) rfl rfl rfl ⟨_, rfl, by decide, by decide, rfl⟩
        · refine X_iconst (v := (1 : Int32)) rfl rfl rfl ?_
          refine LW_goto (tgt := 57) rfl rfl ?_
          exact LW_ireturn (st := []) rfl rfl rfl ⟨_, rfl, by decide, by decide, rfl⟩
      · refine X_iload_n rfl rfl rfl rfl ?_
        refine X_iconst (v := (2 : Int32)) rfl rfl rfl ?_
        refine S_icmp_ne (tgt := 43) rfl rfl rfl hx0 (show (2 : Int32).toInt = 2 from rfl) (fun vh5 => ?_) (fun vh5 => ?_)
        · refine X_iconst (v := (0 : Int32)) rfl rfl rfl ?_
          refine LW_goto (tgt := 57) rfl rfl ?_
          exact LW_ireturn (st := []) rfl rfl rfl ⟨_, rfl, by decide, by decide, rfl⟩
        · refine X_iconst (v := (1 : Int32)) rfl rfl rfl ?_
          refine LW_goto (tgt := 57) rfl rfl ?_
          exact LW_ireturn (st := []) rfl rfl rfl ⟨_, rfl, by decide, by decide, rfl⟩
    · refine X_iload_n rfl rfl rfl rfl ?_
      refine S_if_eq (tgt := 22) rfl rfl rfl hx0 (fun vh6 => ?_) (fun vh6 => ?_)
      · refine X_iconst (v := (1 : Int32)) rfl rfl rfl ?_
        refine LW_goto (tgt := 27) rfl rfl ?_
        exact LW_ireturn (st := []) rfl rfl rfl ⟨_, rfl, by decide, by decide, rfl⟩
      · refine X_iload_n rfl rfl rfl rfl ?_
        refine X_iconst (v := (1 : Int32)) rfl rfl rfl ?_
        refine S_icmp_ne (tgt := 26) rfl rfl rfl hx0 (show (1 : Int32).toInt = 1 from rfl) (fun vh7 => ?_) (fun vh7 => ?_)
        · refine X_iconst (v := (0 : Int32)) rfl rfl rfl ?_
          exact LW_ireturn (st := []) rfl rfl rfl ⟨_, rfl, by decide, by decide, rfl⟩
        · refine X_iconst (v := (1 : Int32)) rfl rfl rfl ?_
          refine LW_goto (tgt := 27) rfl rfl ?_
          exact LW_ireturn (st := []) rfl rfl rfl ⟨_, rfl, by decide, by decide, rfl⟩
  · refine X_iconst (v := (1 : Int32)) rfl rfl rfl ?_
    exact LW_ireturn (st := []) rfl rfl rfl ⟨_, rfl, by decide, by decide, rfl⟩
set_option maxRecDepth 10000 in
set_option maxHeartbeats 40000000 in
theorem C_X8_fail {P : Par} {g : LH} {d : Nat}  (V : Inv P g) {u : Nat} (hu : u < 4) (hTt : Gr g 338 1 = some (292 + 10 * u)) (x1 : Int32) (y1 : Int) (hx1 : x1.toInt = y1) (hf1 : 1 ≤ y1 ∧ y1 ≤ 8)   : LW 84 (d + 3) 0 0 0 (lEnt (mL 84) [.ref 338, .int x1]) [] g (fun v g' => ∃ r : Int32, v = some (.int r) ∧ 0 ≤ r.toInt ∧ r.toInt ≤ 0 ∧ Inv P g' ∧ Gr g' = Gr g ∧ Gi g' 1 5 = Gi g 1 5) := by
  refine LW_ls (ls' := [some (.ref 338), some (.int x1)]) rfl ?_
  have hG : Gr g = Gr g := rfl
  have hK : Gi g 1 5 = Gi g 1 5 := rfl
  refine X_aload_n rfl rfl rfl rfl ?_
  refine S_getI rfl rfl rfl ((congrFun V.1 338).trans s_338) rfl (fun vz1 evz1 => ?_)
  refine S_if_ne (tgt := 20) rfl rfl rfl rfl (fun vh2 => ?_) (fun vh2 => ?_)
  · refine X_iconst (v := (0 : Int32)) rfl rfl rfl ?_
    exact LW_ireturn (st := []) rfl rfl rfl ⟨_, rfl, by decide, by decide, V, hG, hK⟩
  · refine X_aload_n rfl rfl rfl rfl ?_
    refine X_iload_n rfl rfl rfl rfl ?_
    refine S_putI (I := Inv _) rfl rfl rfl ((congrFun V.1 338).trans s_338) rfl rfl rfl rfl (Inv_putI V (Nat.le_of_ble_eq_true rfl) (Or.inl (by decide)) (Q_17_8 rk_338)) (fun g V ve3 vn4 hq => ?_)
    have hG := hq.trans hG
    have hK := (vn4 1 5 (Or.inl (by decide))).trans hK
    refine X_aload_n rfl rfl rfl rfl ?_
    refine X_aload_n rfl rfl rfl rfl ?_
    refine S_getI rfl rfl rfl ((congrFun V.1 338).trans s_338) rfl (fun vz5 evz5 => ?_)
    have vf6 := K_17_5 (V.2.2.2.2.1 (338) (5) (Nat.le_of_ble_eq_true rfl)) rk_338
    rw [evz5] at vf6
    refine S_putI (I := Inv _) rfl rfl rfl ((congrFun V.1 338).trans s_338) rfl rfl rfl rfl (Inv_putI V (Nat.le_of_ble_eq_true rfl) (Or.inl (by decide)) (Q_17_9 rk_338)) (fun g V ve7 vn8 hq => ?_)
    have hG := hq.trans hG
    have hK := (vn8 1 5 (Or.inl (by decide))).trans hK
    have ve3 := (vn8 (338) 8 (Or.inr (by decide))).trans ve3
    have evz5 := (vn8 (338) 5 (Or.inr (by decide))).trans evz5
    refine X_iconst (v := (0 : Int32)) rfl rfl rfl ?_
    exact LW_ireturn (st := []) rfl rfl rfl ⟨_, rfl, by decide, by decide, V, hG, hK⟩
set_option maxRecDepth 10000 in
set_option maxHeartbeats 40000000 in
theorem C_X8_next {P : Par} {g : LH} {d : Nat}  (V : Inv P g) {u : Nat} (hu : u < 4) (hTt : Gr g 338 1 = some (292 + 10 * u))    : LW 85 (d + 3) 0 0 0 (lEnt (mL 85) [.ref 338]) [] g (fun v g' => v = none ∧ Inv P g' ∧ Gr g' = Gr g ∧ Gi g' 1 5 = Gi g 1 5) := by
  refine LW_ls (ls' := [some (.ref 338)]) rfl ?_
  have hG : Gr g = Gr g := rfl
  have hK : Gi g 1 5 = Gi g 1 5 := rfl
  refine X_aload_n rfl rfl rfl rfl ?_
  refine S_getI rfl rfl rfl ((congrFun V.1 338).trans s_338) rfl (fun vz1 evz1 => ?_)
  refine S_if_ne (tgt := 100) rfl rfl rfl rfl (fun vh2 => ?_) (fun vh2 => ?_)
  · exact LW_return (st := []) rfl rfl ⟨rfl, V, hG, hK⟩
  · refine X_aload_n rfl rfl rfl rfl ?_
    refine S_getI rfl rfl rfl ((congrFun V.1 338).trans s_338) rfl (fun vz3 evz3 => ?_)
    have vf4 := K_17_2 (V.2.2.2.2.1 (338) (2) (Nat.le_of_ble_eq_true rfl)) rk_338
    rw [evz3] at vf4
    refine X_iconst (v := (1 : Int32)) rfl rfl rfl ?_
    refine S_iadd rfl rfl rfl (show (1 : Int32).toInt = 1 from rfl) (by omega) (fun vz5 hvz5 => ?_)
    refine S_if_lt (tgt := 100) rfl rfl rfl rfl (fun q => absurd q (by omega)) (fun vh6 => ?_)
    refine X_aload_n rfl rfl rfl rfl ?_
    refine X_getI (v := vz3) rfl rfl rfl ((congrFun V.1 338).trans s_338) rfl evz3 ?_
    refine X_iconst (v := (1 : Int32)) rfl rfl rfl ?_
    refine S_iadd rfl rfl rfl (show (1 : Int32).toInt = 1 from rfl) (by omega) (fun vz7 hvz7 => ?_)
    refine X_aload_n rfl rfl rfl rfl ?_
    refine X_getR (a := 332) rfl rfl rfl ((congrFun V.1 338).trans s_338) rfl ((V.2.2.1 0 (by decide)).trans r_338_0) ?_
    refine S_getI rfl rfl rfl ((congrFun V.1 332).trans s_332) rfl (fun vz8 evz8 => ?_)
    have vf9 := K_16_2 (V.2.2.2.2.1 (332) (2) (Nat.le_of_ble_eq_true rfl)) rk_332
    rw [evz8] at vf9
    refine S_icmp_ge (tgt := 100) rfl rfl rfl rfl rfl (fun vh10 => ?_) (fun vh10 => ?_)
    · exact LW_return (st := []) rfl rfl ⟨rfl, V, hG, hK⟩
    · refine X_aload_n rfl rfl rfl rfl ?_
      refine X_getI (v := vz3) rfl rfl rfl ((congrFun V.1 338).trans s_338) rfl evz3 ?_
      refine X_sipush (v := (300 : Int32)) rfl rfl rfl ?_
      refine S_icmp_ge (tgt := 100) rfl rfl rfl rfl (show (300 : Int32).toInt = 300 from rfl) (fun q => absurd q (by omega)) (fun vh11 => ?_)
      refine X_aload_n rfl rfl rfl rfl ?_
      refine X_dup rfl rfl rfl ?_
      refine X_getI (v := vz3) rfl rfl rfl ((congrFun V.1 338).trans s_338) rfl evz3 ?_
      refine X_iconst (v := (1 : Int32)) rfl rfl rfl ?_
      refine S_iadd rfl rfl rfl (show (1 : Int32).toInt = 1 from rfl) (by omega) (fun vz12 hvz12 => ?_)
      refine S_putI (I := Inv _) rfl rfl rfl ((congrFun V.1 338).trans s_338) rfl rfl rfl rfl (Inv_putI V (Nat.le_of_ble_eq_true rfl) (Or.inl (by decide)) (Q_17_2 rk_338 (by omega))) (fun g V ve13 vn14 hq => ?_)
      have hG := hq.trans hG
      have hK := (vn14 1 5 (Or.inl (by decide))).trans hK
      have evz1 := (vn14 (338) 8 (Or.inr (by decide))).trans evz1
      have evz8 := (vn14 (332) 2 (Or.inl (by decide))).trans evz8
      refine X_aload_n rfl rfl rfl rfl ?_
      refine X_aload_n rfl rfl rfl rfl ?_
      refine X_getR (a := 332) rfl rfl rfl ((congrFun V.1 338).trans s_338) rfl ((V.2.2.1 0 (by decide)).trans r_338_0) ?_
      refine X_getR (a := 334) rfl rfl rfl ((congrFun V.1 332).trans s_332) rfl ((congrFun (V.2.1 332 (by decide)) 3).trans r_332_3) ?_
      refine X_aload_n rfl rfl rfl rfl ?_
      refine X_getI (v := vz12) rfl rfl rfl ((congrFun V.1 338).trans s_338) rfl ve13 ?_
      refine S_iald rfl rfl ((congrFun V.1 334).trans s_334) rfl (by omega) (fun vz15 evz15 => ?_)
      refine S_putI (I := Inv _) rfl rfl rfl ((congrFun V.1 338).trans s_338) rfl rfl rfl rfl (Inv_putI V (Nat.le_of_ble_eq_true rfl) (Or.inl (by decide)) (Q_17_3 rk_338)) (fun g V ve16 vn17 hq => ?_)
      have hG := hq.trans hG
      have hK := (vn17 1 5 (Or.inl (by decide))).trans hK
      have evz1 := (vn17 (338) 8 (Or.inr (by decide))).trans evz1
      have evz8 := (vn17 (332) 2 (Or.inl (by decide))).trans evz8
      have ve13 := (vn17 (338) 2 (Or.inr (by decide))).trans ve13
      have evz15 := (vn17 (334) ((vz12.toInt : Int).toNat) (Or.inl (by decide))).trans evz15
      refine X_aload_n rfl rfl rfl rfl ?_
      refine X_aload_n rfl rfl rfl rfl ?_
      refine X_getR (a := 332) rfl rfl rfl ((congrFun V.1 338).trans s_338) rfl ((V.2.2.1 0 (by decide)).trans r_338_0) ?_
      refine X_getR (a := 337) rfl rfl rfl ((congrFun V.1 332).trans s_332) rfl ((congrFun (V.2.1 332 (by decide)) 6).trans r_332_6) ?_
      refine X_aload_n rfl rfl rfl rfl ?_
      refine X_getI (v := vz12) rfl rfl rfl ((congrFun V.1 338).trans s_338) rfl ve13 ?_
      refine S_iald rfl rfl ((congrFun V.1 337).trans s_337) rfl (by omega) (fun vz18 evz18 => ?_)
      refine S_putI (I := Inv _) rfl rfl rfl ((congrFun V.1 338).trans s_338) rfl rfl rfl rfl (Inv_putI V (Nat.le_of_ble_eq_true rfl) (Or.inl (by decide)) (Q_17_4 rk_338)) (fun g V ve19 vn20 hq => ?_)
      have hG := hq.trans hG
      have hK := (vn20 1 5 (Or.inl (by decide))).trans hK
      have evz1 := (vn20 (338) 8 (Or.inr (by decide))).trans evz1
      have evz8 := (vn20 (332) 2 (Or.inl (by decide))).trans evz8
      have ve13 := (vn20 (338) 2 (Or.inr (by decide))).trans ve13
      have evz15 := (vn20 (334) ((vz12.toInt : Int).toNat) (Or.inl (by decide))).trans evz15
      have ve16 := (vn20 (338) 3 (Or.inr (by decide))).trans ve16
      have evz18 := (vn20 (337) ((vz12.toInt : Int).toNat) (Or.inl (by decide))).trans evz18
      refine X_aload_n rfl rfl rfl rfl ?_
      refine X_aload_n rfl rfl rfl rfl ?_
      refine X_getR (a := 332) rfl rfl rfl ((congrFun V.1 338).trans s_338) rfl ((V.2.2.1 0 (by decide)).trans r_338_0) ?_
      refine X_getR (a := 335) rfl rfl rfl ((congrFun V.1 332).trans s_332) rfl ((congrFun (V.2.1 332 (by decide)) 4).trans r_332_4) ?_
      refine X_aload_n rfl rfl rfl rfl ?_
      refine X_getI (v := vz12) rfl rfl rfl ((congrFun V.1 338).trans s_338) rfl ve13 ?_
      refine S_iald rfl rfl ((congrFun V.1 335).trans s_335) rfl (by omega) (fun vz21 evz21 => ?_)
      have vf22 := K_8 (V.2.2.2.2.1 (335) ((vz12.toInt : Int).toNat) (Nat.le_of_ble_eq_true rfl)) rk_335
      rw [evz21] at vf22
      refine S_putI (I := Inv _) rfl rfl rfl ((congrFun V.1 338).trans s_338) rfl rfl rfl rfl (Inv_putI V (Nat.le_of_ble_eq_true rfl) (Or.inl (by decide)) (Q_17_5 rk_338 (by omega))) (fun g V ve23 vn24 hq => ?_)
      have hG := hq.trans hG
      have hK := (vn24 1 5 (Or.inl (by decide))).trans hK
      have evz1 := (vn24 (338) 8 (Or.inr (by decide))).trans evz1
      have evz8 := (vn24 (332) 2 (Or.inl (by decide))).trans evz8
      have ve13 := (vn24 (338) 2 (Or.inr (by decide))).trans ve13
      have evz15 := (vn24 (334) ((vz12.toInt : Int).toNat) (Or.inl (by decide))).trans evz15
      have ve16 := (vn24 (338) 3 (Or.inr (by decide))).trans ve16
      have evz18 := (vn24 (337) ((vz12.toInt : Int).toNat) (Or.inl (by decide))).trans evz18
      have ve19 := (vn24 (338) 4 (Or.inr (by decide))).trans ve19
      have evz21 := (vn24 (335) ((vz12.toInt : Int).toNat) (Or.inl (by decide))).trans evz21
      exact LW_return (st := []) rfl rfl ⟨rfl, V, hG, hK⟩
set_option maxRecDepth 10000 in
set_option maxHeartbeats 40000000 in
theorem C_X8_readName {P : Par} {g : LH} {d : Nat}  (V : Inv P g) {u : Nat} (hu : u < 4) (hTt : Gr g 338 1 = some (292 + 10 * u)) (x1 : Int32) (y1 : Int) (hx1 : x1.toInt = y1) (hf1 : 0 ≤ y1 ∧ y1 ≤ 3)   : LW 103 (d + 7) 0 0 0 (lEnt (mL 103) [.ref 338, .int x1]) [] g (fun v g' => v = none ∧ Inv P g' ∧ Gr g' = Gr g ∧ Gi g' 1 5 = Gi g 1 5) := by
  refine LW_ls (ls' := [some (.ref 338), some (.int x1), none]) rfl ?_
  have hG : Gr g = Gr g := rfl
  have hK : Gi g 1 5 = Gi g 1 5 := rfl
  refine X_aload_n rfl rfl rfl rfl ?_
  refine S_getI rfl rfl rfl ((congrFun V.1 338).trans s_338) rfl (fun vz1 evz1 => ?_)
  refine X_bipush (v := (21 : Int32)) rfl rfl rfl ?_
  refine S_isubT rfl rfl (fun vz2 => ?_)
  refine X_istore_n (i := 2) (ls' := [some (.ref 338), some (.int x1), some (.int vz2)]) rfl rfl rfl (Nat.le_of_ble_eq_true rfl) rfl ?_
  refine X_iload_n rfl rfl rfl rfl ?_
  refine S_if_lt (tgt := 18) rfl rfl rfl rfl (fun vh3 => ?_) (fun vh3 => ?_)
  · refine X_aload_n rfl rfl rfl rfl ?_
    refine X_iconst (v := (1 : Int32)) rfl rfl rfl ?_
    refine Y_callV (as := [.int (1 : Int32)]) (st := []) rfl rfl rfl (by decide) rfl (Nat.le_of_ble_eq_true rfl) (by decide) (Nat.le_of_ble_eq_true rfl) rfl ((congrFun V.1 338).trans s_338) (by decide) (C_X8_fail V hu ((congrFun (congrFun hG 338) 1).trans hTt) (1 : Int32) 1 (show (1 : Int32).toInt = 1 from rfl) (by omega) ) ?_
    rintro _ g ⟨vr4, rfl, hrvr40, hrvr41, V, hq, hk⟩
    have hG := hq.trans hG
    have hK := hk.trans hK
    refine X_pop rfl rfl rfl ?_
    refine LW_goto (tgt := 60) rfl rfl ?_
    exact LW_return (st := []) rfl rfl ⟨rfl, V, hG, hK⟩
  · refine X_iload_n rfl rfl rfl rfl ?_
    refine X_bipush (v := (14 : Int32)) rfl rfl rfl ?_
    refine S_icmp_lt (tgt := 27) rfl rfl rfl rfl (show (14 : Int32).toInt = 14 from rfl) (fun vh5 => ?_) (fun vh5 => ?_)
    · refine X_iload_n rfl rfl rfl rfl ?_
      refine X_iload_n rfl rfl rfl rfl ?_
      refine Y_callS (as := [.int x1, .int vz2]) (st := []) rfl rfl rfl (by decide) rfl (Nat.le_of_ble_eq_true rfl) (by decide) (Nat.le_of_ble_eq_true rfl) rfl (C_X4_isNameOf V x1 y1 hx1 (by omega) vz2 vz2.toInt rfl (by omega) ) ?_
      rintro _ g' ⟨vr6, rfl, hrvr60, hrvr61, hgg⟩
      subst hgg
      refine S_if_ne (tgt := 44) rfl rfl rfl rfl (fun vh7 => ?_) (fun vh7 => ?_)
      · refine X_aload_n rfl rfl rfl rfl ?_
        refine X_getR (a := 292 + 10 * u) rfl rfl rfl ((congrFun V.1 338).trans s_338) rfl ((congrFun (congrFun hG 338) 1).trans hTt) ?_
        refine X_sipush (v := (10000 : Int32)) rfl rfl rfl ?_
        refine X_iload_n rfl rfl rfl rfl ?_
        refine S_iadd rfl rfl (show (10000 : Int32).toInt = 10000 from rfl) rfl (by omega) (fun vz8 hvz8 => ?_)
        refine Y_callV (as := [.int vz8]) (st := []) rfl rfl rfl (by decide) rfl (Nat.le_of_ble_eq_true rfl) (by decide) (Nat.le_of_ble_eq_true rfl) rfl ((congrFun V.1 _).trans (tx_s u hu)) (by decide) (C_X11_emit_T hu V vz8 vz8.toInt rfl (by omega) (by omega)) ?_
        rintro _ g ⟨rfl, V, hq, hk⟩
        have hG := hq.trans hG
        have hK := hk.trans hK
        refine X_aload_n rfl rfl rfl rfl ?_
        refine Y_callV (as := []) (st := []) rfl rfl rfl (by decide) rfl (Nat.le_of_ble_eq_true rfl) (by decide) (Nat.le_of_ble_eq_true rfl) rfl ((congrFun V.1 338).trans s_338) (by decide) (C_X8_next V hu ((congrFun (congrFun hG 338) 1).trans hTt)  ) ?_
        rintro _ g ⟨rfl, V, hq, hk⟩
        have hG := hq.trans hG
        have hK := hk.trans hK
        exact LW_return (st := []) rfl rfl ⟨rfl, V, hG, hK⟩
      · refine X_aload_n rfl rfl rfl rfl ?_
        refine X_iconst (v := (5 : Int32)) rfl rfl rfl ?_
        refine Y_callV (as := [.int (5 : Int32)]) (st := []) rfl rfl rfl (by decide) rfl (Nat.le_of_ble_eq_true rfl) (by decide) (Nat.le_of_ble_eq_true rfl) rfl ((congrFun V.1 338).trans s_338) (by decide) (C_X8_fail V hu ((congrFun (congrFun hG 338) 1).trans hTt) (5 : Int32) 5 (show (5 : Int32).toInt = 5 from rfl) (by omega) ) ?_
        rintro _ g ⟨vr11, rfl, hrvr110, hrvr111, V, hq, hk⟩
        have hG := hq.trans hG
        have hK := hk.trans hK
        refine X_pop rfl rfl rfl ?_
        refine LW_goto (tgt := 60) rfl rfl ?_
        exact LW_return (st := []) rfl rfl ⟨rfl, V, hG, hK⟩
    · refine X_aload_n rfl rfl rfl rfl ?_
      refine X_iconst (v := (1 : Int32)) rfl rfl rfl ?_
      refine Y_callV (as := [.int (1 : Int32)]) (st := []) rfl rfl rfl (by decide) rfl (Nat.le_of_ble_eq_true rfl) (by decide) (Nat.le_of_ble_eq_true rfl) rfl ((congrFun V.1 338).trans s_338) (by decide) (C_X8_fail V hu ((congrFun (congrFun hG 338) 1).trans hTt) (1 : Int32) 1 (show (1 : Int32).toInt = 1 from rfl) (by omega) ) ?_
      rintro _ g ⟨vr12, rfl, hrvr120, hrvr121, V, hq, hk⟩
      have hG := hq.trans hG
      have hK := hk.trans hK
      refine X_pop rfl rfl rfl ?_
      refine LW_goto (tgt := 60) rfl rfl ?_
      exact LW_return (st := []) rfl rfl ⟨rfl, V, hG, hK⟩
set_option maxRecDepth 10000 in
set_option maxHeartbeats 40000000 in
theorem C_X8_takeSymbol {P : Par} {g : LH} {d : Nat}  (V : Inv P g) {u : Nat} (hu : u < 4) (hTt : Gr g 338 1 = some (292 + 10 * u)) (x1 : Int32) (y1 : Int) (hx1 : x1.toInt = y1) (hf1 : 41 ≤ y1 ∧ y1 ≤ 59)   : LW 89 (d + 8) 0 0 0 (lEnt (mL 89) [.ref 338, .int x1]) [] g (fun v g' => v = none ∧ Inv P g' ∧ Gr g' = Gr g ∧ Gi g' 1 5 = Gi g 1 5) := by
  refine LW_ls (ls' := [some (.ref 338), some (.int x1)]) rfl ?_
  have hG : Gr g = Gr g := rfl
  have hK : Gi g 1 5 = Gi g 1 5 := rfl
  refine X_aload_n rfl rfl rfl rfl ?_
  refine X_iload_n rfl rfl rfl rfl ?_
  refine X_callV (as := [.int x1]) (st := []) rfl rfl rfl (by decide) rfl (Nat.le_of_ble_eq_true rfl) (by decide) (Nat.le_of_ble_eq_true rfl) rfl ((congrFun V.1 338).trans s_338) (by decide) ?_
  refine LW_ls (ls' := [some (.ref 338), some (.int x1)]) rfl ?_
  refine X_aload_n rfl rfl rfl rfl ?_
  refine S_getI rfl rfl rfl ((congrFun V.1 338).trans s_338) rfl (fun vz1 evz1 => ?_)
  refine X_iconst (v := (3 : Int32)) rfl rfl rfl ?_
  refine S_icmp_ne (tgt := 20) rfl rfl rfl rfl (show (3 : Int32).toInt = 3 from rfl) (fun vh2 => ?_) (fun vh2 => ?_)
  · refine X_iconst (v := (0 : Int32)) rfl rfl rfl ?_
    refine LW_ireturn (st := []) rfl rfl rfl ?_
    refine S_if_ne (tgt := 14) rfl rfl rfl (show (0 : Int32).toInt = 0 from rfl) (fun q => absurd q (by omega)) (fun vh3 => ?_)
    refine X_aload_n rfl rfl rfl rfl ?_
    refine X_iconst (v := (1 : Int32)) rfl rfl rfl ?_
    refine Y_callV (as := [.int (1 : Int32)]) (st := []) rfl rfl rfl (by decide) rfl (Nat.le_of_ble_eq_true rfl) (by decide) (Nat.le_of_ble_eq_true rfl) rfl ((congrFun V.1 338).trans s_338) (by decide) (C_X8_fail V hu ((congrFun (congrFun hG 338) 1).trans hTt) (1 : Int32) 1 (show (1 : Int32).toInt = 1 from rfl) (by omega) ) ?_
    rintro _ g ⟨vr4, rfl, hrvr40, hrvr41, V, hq, hk⟩
    have hG := hq.trans hG
    have hK := hk.trans hK
    refine X_pop rfl rfl rfl ?_
    refine X_aload_n rfl rfl rfl rfl ?_
    refine Y_callV (as := []) (st := []) rfl rfl rfl (by decide) rfl (Nat.le_of_ble_eq_true rfl) (by decide) (Nat.le_of_ble_eq_true rfl) rfl ((congrFun V.1 338).trans s_338) (by decide) (C_X8_next V hu ((congrFun (congrFun hG 338) 1).trans hTt)  ) ?_
    rintro _ g ⟨rfl, V, hq, hk⟩
    have hG := hq.trans hG
    have hK := hk.trans hK
    exact LW_return (st := []) rfl rfl ⟨rfl, V, hG, hK⟩
  · refine X_aload_n rfl rfl rfl rfl ?_
    refine S_getI rfl rfl rfl ((congrFun V.1 338).trans s_338) rfl (fun vz6 evz6 => ?_)
    refine X_iload_n rfl rfl rfl rfl ?_
    refine S_icmp_ne (tgt := 20) rfl rfl rfl rfl hx1 (fun vh7 => ?_) (fun vh7 => ?_)
    · refine X_iconst (v := (0 : Int32)) rfl rfl rfl ?_
      refine LW_ireturn (st := []) rfl rfl rfl ?_
      refine S_if_ne (tgt := 14) rfl rfl rfl (show (0 : Int32).toInt = 0 from rfl) (fun q => absurd q (by omega)) (fun vh8 => ?_)
      refine X_aload_n rfl rfl rfl rfl ?_
      refine X_iconst (v := (1 : Int32)) rfl rfl rfl ?_
      refine Y_callV (as := [.int (1 : Int32)]) (st := []) rfl rfl rfl (by decide) rfl (Nat.le_of_ble_eq_true rfl) (by decide) (Nat.le_of_ble_eq_true rfl) rfl ((congrFun V.1 338).trans s_338) (by decide) (C_X8_fail V hu ((congrFun (congrFun hG 338) 1).trans hTt) (1 : Int32) 1 (show (1 : Int32).toInt = 1 from rfl) (by omega) ) ?_
      rintro _ g ⟨vr9, rfl, hrvr90, hrvr91, V, hq, hk⟩
      have hG := hq.trans hG
      have hK := hk.trans hK
      refine X_pop rfl rfl rfl ?_
      refine X_aload_n rfl rfl rfl rfl ?_
      refine Y_callV (as := []) (st := []) rfl rfl rfl (by decide) rfl (Nat.le_of_ble_eq_true rfl) (by decide) (Nat.le_of_ble_eq_true rfl) rfl ((congrFun V.1 338).trans s_338) (by decide) (C_X8_next V hu ((congrFun (congrFun hG 338) 1).trans hTt)  ) ?_
      rintro _ g ⟨rfl, V, hq, hk⟩
      have hG := hq.trans hG
      have hK := hk.trans hK
      exact LW_return (st := []) rfl rfl ⟨rfl, V, hG, hK⟩
    · refine X_iconst (v := (1 : Int32)) rfl rfl rfl ?_
      refine LW_goto (tgt := 21) rfl rfl ?_
      refine LW_ireturn (st := []) rfl rfl rfl ?_
      refine S_if_ne (tgt := 14) rfl rfl rfl (show (1 : Int32).toInt = 1 from rfl) (fun vh11 => ?_) (fun q => absurd q (by omega))
      refine X_aload_n rfl rfl rfl rfl ?_
      refine Y_callV (as := []) (st := []) rfl rfl rfl (by decide) rfl (Nat.le_of_ble_eq_true rfl) (by decide) (Nat.le_of_ble_eq_true rfl) rfl ((congrFun V.1 338).trans s_338) (by decide) (C_X8_next V hu ((congrFun (congrFun hG 338) 1).trans hTt)  ) ?_
      rintro _ g ⟨rfl, V, hq, hk⟩
      have hG := hq.trans hG
      have hK := hk.trans hK
      exact LW_return (st := []) rfl rfl ⟨rfl, V, hG, hK⟩
set_option maxRecDepth 10000 in
set_option maxHeartbeats 40000000 in
theorem C_X8_readOne_s {P : Par} {g : LH} {d m : Nat} (ihr102 : ∀ (g : LH) (V : Inv P g) {u : Nat} (hu : u < 4) (hTt : Gr g 338 1 = some (292 + 10 * u)) (x1 : Int32) (y1 : Int) (hx1 : x1.toInt = y1) (hf1 : 0 ≤ y1 ∧ y1 ≤ 3) (x2 : Int32) (y2 : Int) (hx2 : x2.toInt = y2) (hf2 : 0 ≤ y2 ∧ y2 ≤ 8) , 9 - y2 < ((m : Nat) : Int) → LW 102 (d + 3 * m + 12) 0 0 0 (lEnt (mL 102) [.ref 338, .int x1, .int x2]) [] g (fun v g' => v = none ∧ Inv P g' ∧ Gr g' = Gr g ∧ Gi g' 1 5 = Gi g 1 5)) (ihr100 : ∀ (g : LH) (V : Inv P g) {u : Nat} (hu : u < 4) (hTt : Gr g 338 1 = some (292 + 10 * u)) (x1 : Int32) (y1 : Int) (hx1 : x1.toInt = y1) (hf1 : 0 ≤ y1 ∧ y1 ≤ 3) (x2 : Int32) (y2 : Int) (hx2 : x2.toInt = y2) (hf2 : 0 ≤ y2 ∧ y2 ≤ 8) , 9 - y2 < ((m : Nat) : Int) → LW 100 (d + 3 * m + 14) 0 0 0 (lEnt (mL 100) [.ref 338, .int x1, .int x2]) [] g (fun v g' => v = none ∧ Inv P g' ∧ Gr g' = Gr g ∧ Gi g' 1 5 = Gi g 1 5)) (V : Inv P g) {u : Nat} (hu : u < 4) (hTt : Gr g 338 1 = some (292 + 10 * u)) (x1 : Int32) (y1 : Int) (hx1 : x1.toInt = y1) (hf1 : 0 ≤ y1 ∧ y1 ≤ 3) (x2 : Int32) (y2 : Int) (hx2 : x2.toInt = y2) (hf2 : 0 ≤ y2 ∧ y2 ≤ 8)  (hlev : 9 - y2 < (((m + 1) : Nat) : Int)) : LW 102 (d + 3 * (m + 1) + 12) 0 0 0 (lEnt (mL 102) [.ref 338, .int x1, .int x2]) [] g (fun v g' => v = none ∧ Inv P g' ∧ Gr g' = Gr g ∧ Gi g' 1 5 = Gi g 1 5) := by
  refine LW_ls (ls' := [some (.ref 338), some (.int x1), some (.int x2)]) rfl ?_
  have hG : Gr g = Gr g := rfl
  have hK : Gi g 1 5 = Gi g 1 5 := rfl
  refine X_aload_n rfl rfl rfl rfl ?_
  refine S_getI rfl rfl rfl ((congrFun V.1 338).trans s_338) rfl (fun vz1 evz1 => ?_)
  refine S_if_eq (tgt := 8) rfl rfl rfl rfl (fun vh2 => ?_) (fun vh2 => ?_)
  · refine X_aload_n rfl rfl rfl rfl ?_
    refine S_getI rfl rfl rfl ((congrFun V.1 338).trans s_338) rfl (fun vz3 evz3 => ?_)
    refine X_iconst (v := (2 : Int32)) rfl rfl rfl ?_
    refine S_icmp_ne (tgt := 34) rfl rfl rfl rfl (show (2 : Int32).toInt = 2 from rfl) (fun vh4 => ?_) (fun vh4 => ?_)
    · refine X_aload_n rfl rfl rfl rfl ?_
      refine X_getI (v := vz3) rfl rfl rfl ((congrFun V.1 338).trans s_338) rfl evz3 ?_
      refine X_iconst (v := (1 : Int32)) rfl rfl rfl ?_
      refine S_icmp_ne (tgt := 50) rfl rfl rfl rfl (show (1 : Int32).toInt = 1 from rfl) (fun vh5 => ?_) (fun vh5 => ?_)
      · refine X_aload_n rfl rfl rfl rfl ?_
        refine X_bipush (v := (40 : Int32)) rfl rfl rfl ?_
        refine X_callV (as := [.int (40 : Int32)]) (st := []) rfl rfl rfl (by decide) rfl (Nat.le_of_ble_eq_true rfl) (by decide) (Nat.le_of_ble_eq_true rfl) rfl ((congrFun V.1 338).trans s_338) (by decide) ?_
        refine LW_ls (ls' := [some (.ref 338), some (.int (40 : Int32))]) rfl ?_
        refine X_aload_n rfl rfl rfl rfl ?_
        refine X_getI (v := vz3) rfl rfl rfl ((congrFun V.1 338).trans s_338) rfl evz3 ?_
        refine X_iconst (v := (3 : Int32)) rfl rfl rfl ?_
        refine S_icmp_ne (tgt := 20) rfl rfl rfl rfl (show (3 : Int32).toInt = 3 from rfl) (fun vh6 => ?_) (fun vh6 => ?_)
        · refine X_iconst (v := (0 : Int32)) rfl rfl rfl ?_
          refine LW_ireturn (st := []) rfl rfl rfl ?_
          refine S_if_ne (tgt := 77) rfl rfl rfl (show (0 : Int32).toInt = 0 from rfl) (fun q => absurd q (by omega)) (fun vh7 => ?_)
          refine X_aload_n rfl rfl rfl rfl ?_
          refine X_bipush (v := (45 : Int32)) rfl rfl rfl ?_
          refine X_callV (as := [.int (45 : Int32)]) (st := []) rfl rfl rfl (by decide) rfl (Nat.le_of_ble_eq_true rfl) (by decide) (Nat.le_of_ble_eq_true rfl) rfl ((congrFun V.1 338).trans s_338) (by decide) ?_
          refine LW_ls (ls' := [some (.ref 338), some (.int (45 : Int32))]) rfl ?_
          refine X_aload_n rfl rfl rfl rfl ?_
          refine X_getI (v := vz3) rfl rfl rfl ((congrFun V.1 338).trans s_338) rfl evz3 ?_
          refine X_iconst (v := (3 : Int32)) rfl rfl rfl ?_
          refine S_icmp_ne (tgt := 20) rfl rfl rfl rfl (show (3 : Int32).toInt = 3 from rfl) (fun vh8 => ?_) (fun vh8 => ?_)
          · refine X_iconst (v := (0 : Int32)) rfl rfl rfl ?_
            refine LW_ireturn (st := []) rfl rfl rfl ?_
            refine S_if_ne (tgt := 77) rfl rfl rfl (show (0 : Int32).toInt = 0 from rfl) (fun q => absurd q (by omega)) (fun vh9 => ?_)
            refine X_aload_n rfl rfl rfl rfl ?_
            refine X_iconst (v := (1 : Int32)) rfl rfl rfl ?_
            refine Y_callV (as := [.int (1 : Int32)]) (st := []) rfl rfl rfl (by decide) rfl (Nat.le_of_ble_eq_true rfl) (by decide) (Nat.le_of_ble_eq_true rfl) rfl ((congrFun V.1 338).trans s_338) (by decide) (C_X8_fail V hu ((congrFun (congrFun hG 338) 1).trans hTt) (1 : Int32) 1 (show (1 : Int32).toInt = 1 from rfl) (by omega) ) ?_
            rintro _ g ⟨vr10, rfl, hrvr100, hrvr101, V, hq, hk⟩
            have hG := hq.trans hG
            have hK := hk.trans hK
            refine X_pop rfl rfl rfl ?_
            refine LW_goto (tgt := 144) rfl rfl ?_
            exact LW_return (st := []) rfl rfl ⟨rfl, V, hG, hK⟩
          · refine X_aload_n rfl rfl rfl rfl ?_
            refine S_getI rfl rfl rfl ((congrFun V.1 338).trans s_338) rfl (fun vz11 evz11 => ?_)
            refine X_iload_n rfl rfl rfl rfl ?_
            refine S_icmp_ne (tgt := 20) rfl rfl rfl rfl (show (45 : Int32).toInt = 45 from rfl) (fun vh12 => ?_) (fun vh12 => ?_)
            · refine X_iconst (v := (0 : Int32)) rfl rfl rfl ?_
              refine LW_ireturn (st := []) rfl rfl rfl ?_
              refine S_if_ne (tgt := 77) rfl rfl rfl (show (0 : Int32).toInt = 0 from rfl) (fun q => absurd q (by omega)) (fun vh13 => ?_)
              refine X_aload_n rfl rfl rfl rfl ?_
              refine X_iconst (v := (1 : Int32)) rfl rfl rfl ?_
              refine Y_callV (as := [.int (1 : Int32)]) (st := []) rfl rfl rfl (by decide) rfl (Nat.le_of_ble_eq_true rfl) (by decide) (Nat.le_of_ble_eq_true rfl) rfl ((congrFun V.1 338).trans s_338) (by decide) (C_X8_fail V hu ((congrFun (congrFun hG 338) 1).trans hTt) (1 : Int32) 1 (show (1 : Int32).toInt = 1 from rfl) (by omega) ) ?_
              rintro _ g ⟨vr14, rfl, hrvr140, hrvr141, V, hq, hk⟩
              have hG := hq.trans hG
              have hK := hk.trans hK
              refine X_pop rfl rfl rfl ?_
              refine LW_goto (tgt := 144) rfl rfl ?_
              exact LW_return (st := []) rfl rfl ⟨rfl, V, hG, hK⟩
            · refine X_iconst (v := (1 : Int32)) rfl rfl rfl ?_
              refine LW_goto (tgt := 21) rfl rfl ?_
              refine LW_ireturn (st := []) rfl rfl rfl ?_
              refine S_if_ne (tgt := 77) rfl rfl rfl (show (1 : Int32).toInt = 1 from rfl) (fun vh15 => ?_) (fun q => absurd q (by omega))
              refine X_iload_n rfl rfl rfl rfl ?_
              refine X_bipush (v := (8 : Int32)) rfl rfl rfl ?_
              refine S_icmp_lt (tgt := 92) rfl rfl rfl hx2 (show (8 : Int32).toInt = 8 from rfl) (fun vh16 => ?_) (fun vh16 => ?_)
              · refine X_aload_n rfl rfl rfl rfl ?_
                refine X_bipush (v := (40 : Int32)) rfl rfl rfl ?_
                refine X_callV (as := [.int (40 : Int32)]) (st := []) rfl rfl rfl (by decide) rfl (Nat.le_of_ble_eq_true rfl) (by decide) (Nat.le_of_ble_eq_true rfl) rfl ((congrFun V.1 338).trans s_338) (by decide) ?_
                refine LW_ls (ls' := [some (.ref 338), some (.int (40 : Int32))]) rfl ?_
                refine X_aload_n rfl rfl rfl rfl ?_
                refine X_getI (v := vz3) rfl rfl rfl ((congrFun V.1 338).trans s_338) rfl evz3 ?_
                refine X_iconst (v := (3 : Int32)) rfl rfl rfl ?_
                refine S_icmp_ne (tgt := 20) rfl rfl rfl rfl (show (3 : Int32).toInt = 3 from rfl) (fun q => absurd q (by omega)) (fun vh17 => ?_)
                refine X_aload_n rfl rfl rfl rfl ?_
                refine X_getI (v := vz11) rfl rfl rfl ((congrFun V.1 338).trans s_338) rfl evz11 ?_
                refine X_iload_n rfl rfl rfl rfl ?_
                refine S_icmp_ne (tgt := 20) rfl rfl rfl rfl (show (40 : Int32).toInt = 40 from rfl) (fun vh18 => ?_) (fun q => absurd q (by omega))
                refine X_iconst (v := (0 : Int32)) rfl rfl rfl ?_
                refine LW_ireturn (st := []) rfl rfl rfl ?_
                refine S_if_eq (tgt := 122) rfl rfl rfl (show (0 : Int32).toInt = 0 from rfl) (fun vh19 => ?_) (fun q => absurd q (by omega))
                refine X_aload_n rfl rfl rfl rfl ?_
                refine Y_callV (as := []) (st := []) rfl rfl rfl (by decide) rfl (Nat.le_of_ble_eq_true rfl) (by decide) (Nat.le_of_ble_eq_true rfl) rfl ((congrFun V.1 338).trans s_338) (by decide) (C_X8_next V hu ((congrFun (congrFun hG 338) 1).trans hTt)  ) ?_
                rintro _ g ⟨rfl, V, hq, hk⟩
                have hG := hq.trans hG
                have hK := hk.trans hK
                refine X_aload_n rfl rfl rfl rfl ?_
                refine X_iload_n rfl rfl rfl rfl ?_
                refine X_iload_n rfl rfl rfl rfl ?_
                refine X_iconst (v := (1 : Int32)) rfl rfl rfl ?_
                refine S_iadd rfl rfl hx2 (show (1 : Int32).toInt = 1 from rfl) (by omega) (fun vz21 hvz21 => ?_)
                refine Y_callV (as := [.int x1, .int vz21]) (st := []) rfl rfl rfl (by decide) rfl (Nat.le_of_ble_eq_true rfl) (by decide) (Nat.le_of_ble_eq_true rfl) rfl ((congrFun V.1 338).trans s_338) (by decide) (LW_room (Nat.le_refl _) (Nat.le_refl _) (by omega) (ihr102 _ V hu ((congrFun (congrFun hG 338) 1).trans hTt) x1 y1 hx1 (by omega) vz21 vz21.toInt rfl (by omega)  (by omega))) ?_
                rintro _ g ⟨rfl, V, hq, hk⟩
                have hG := hq.trans hG
                have hK := hk.trans hK
                refine X_aload_n rfl rfl rfl rfl ?_
                refine X_getR (a := 292 + 10 * u) rfl rfl rfl ((congrFun V.1 338).trans s_338) rfl ((congrFun (congrFun hG 338) 1).trans hTt) ?_
                refine X_sipush (v := (20013 : Int32)) rfl rfl rfl ?_
                refine Y_callV (as := [.int (20013 : Int32)]) (st := []) rfl rfl rfl (by decide) rfl (Nat.le_of_ble_eq_true rfl) (by decide) (Nat.le_of_ble_eq_true rfl) rfl ((congrFun V.1 _).trans (tx_s u hu)) (by decide) (C_X11_emit_T hu V (20013 : Int32) 20013 (show (20013 : Int32).toInt = 20013 from rfl) (by omega) (by omega)) ?_
                rintro _ g ⟨rfl, V, hq, hk⟩
                have hG := hq.trans hG
                have hK := hk.trans hK
                exact LW_return (st := []) rfl rfl ⟨rfl, V, hG, hK⟩
              · refine X_aload_n rfl rfl rfl rfl ?_
                refine X_iconst (v := (3 : Int32)) rfl rfl rfl ?_
                refine Y_callV (as := [.int (3 : Int32)]) (st := []) rfl rfl rfl (by decide) rfl (Nat.le_of_ble_eq_true rfl) (by decide) (Nat.le_of_ble_eq_true rfl) rfl ((congrFun V.1 338).trans s_338) (by decide) (C_X8_fail V hu ((congrFun (congrFun hG 338) 1).trans hTt) (3 : Int32) 3 (show (3 : Int32).toInt = 3 from rfl) (by omega) ) ?_
                rintro _ g ⟨vr24, rfl, hrvr240, hrvr241, V, hq, hk⟩
                have hG := hq.trans hG
                have hK := hk.trans hK
                refine X_pop rfl rfl rfl ?_
                refine LW_goto (tgt := 144) rfl rfl ?_
                exact LW_return (st := []) rfl rfl ⟨rfl, V, hG, hK⟩
        · refine X_aload_n rfl rfl rfl rfl ?_
          refine S_getI rfl rfl rfl ((congrFun V.1 338).trans s_338) rfl (fun vz25 evz25 => ?_)
          refine X_iload_n rfl rfl rfl rfl ?_
          refine S_icmp_ne (tgt := 20) rfl rfl rfl rfl (show (40 : Int32).toInt = 40 from rfl) (fun vh26 => ?_) (fun vh26 => ?_)
          · refine X_iconst (v := (0 : Int32)) rfl rfl rfl ?_
            refine LW_ireturn (st := []) rfl rfl rfl ?_
            refine S_if_ne (tgt := 77) rfl rfl rfl (show (0 : Int32).toInt = 0 from rfl) (fun q => absurd q (by omega)) (fun vh27 => ?_)
            refine X_aload_n rfl rfl rfl rfl ?_
            refine X_bipush (v := (45 : Int32)) rfl rfl rfl ?_
            refine X_callV (as := [.int (45 : Int32)]) (st := []) rfl rfl rfl (by decide) rfl (Nat.le_of_ble_eq_true rfl) (by decide) (Nat.le_of_ble_eq_true rfl) rfl ((congrFun V.1 338).trans s_338) (by decide) ?_
            refine LW_ls (ls' := [some (.ref 338), some (.int (45 : Int32))]) rfl ?_
            refine X_aload_n rfl rfl rfl rfl ?_
            refine X_getI (v := vz3) rfl rfl rfl ((congrFun V.1 338).trans s_338) rfl evz3 ?_
            refine X_iconst (v := (3 : Int32)) rfl rfl rfl ?_
            refine S_icmp_ne (tgt := 20) rfl rfl rfl rfl (show (3 : Int32).toInt = 3 from rfl) (fun q => absurd q (by omega)) (fun vh28 => ?_)
            refine X_aload_n rfl rfl rfl rfl ?_
            refine X_getI (v := vz25) rfl rfl rfl ((congrFun V.1 338).trans s_338) rfl evz25 ?_
            refine X_iload_n rfl rfl rfl rfl ?_
            refine S_icmp_ne (tgt := 20) rfl rfl rfl rfl (show (45 : Int32).toInt = 45 from rfl) (fun vh29 => ?_) (fun vh29 => ?_)
            · refine X_iconst (v := (0 : Int32)) rfl rfl rfl ?_
              refine LW_ireturn (st := []) rfl rfl rfl ?_
              refine S_if_ne (tgt := 77) rfl rfl rfl (show (0 : Int32).toInt = 0 from rfl) (fun q => absurd q (by omega)) (fun vh30 => ?_)
              refine X_aload_n rfl rfl rfl rfl ?_
              refine X_iconst (v := (1 : Int32)) rfl rfl rfl ?_
              refine Y_callV (as := [.int (1 : Int32)]) (st := []) rfl rfl rfl (by decide) rfl (Nat.le_of_ble_eq_true rfl) (by decide) (Nat.le_of_ble_eq_true rfl) rfl ((congrFun V.1 338).trans s_338) (by decide) (C_X8_fail V hu ((congrFun (congrFun hG 338) 1).trans hTt) (1 : Int32) 1 (show (1 : Int32).toInt = 1 from rfl) (by omega) ) ?_
              rintro _ g ⟨vr31, rfl, hrvr310, hrvr311, V, hq, hk⟩
              have hG := hq.trans hG
              have hK := hk.trans hK
              refine X_pop rfl rfl rfl ?_
              refine LW_goto (tgt := 144) rfl rfl ?_
              exact LW_return (st := []) rfl rfl ⟨rfl, V, hG, hK⟩
            · refine X_iconst (v := (1 : Int32)) rfl rfl rfl ?_
              refine LW_goto (tgt := 21) rfl rfl ?_
              refine LW_ireturn (st := []) rfl rfl rfl ?_
              refine S_if_ne (tgt := 77) rfl rfl rfl (show (1 : Int32).toInt = 1 from rfl) (fun vh32 => ?_) (fun q => absurd q (by omega))
              refine X_iload_n rfl rfl rfl rfl ?_
              refine X_bipush (v := (8 : Int32)) rfl rfl rfl ?_
              refine S_icmp_lt (tgt := 92) rfl rfl rfl hx2 (show (8 : Int32).toInt = 8 from rfl) (fun vh33 => ?_) (fun vh33 => ?_)
              · refine X_aload_n rfl rfl rfl rfl ?_
                refine X_bipush (v := (40 : Int32)) rfl rfl rfl ?_
                refine X_callV (as := [.int (40 : Int32)]) (st := []) rfl rfl rfl (by decide) rfl (Nat.le_of_ble_eq_true rfl) (by decide) (Nat.le_of_ble_eq_true rfl) rfl ((congrFun V.1 338).trans s_338) (by decide) ?_
                refine LW_ls (ls' := [some (.ref 338), some (.int (40 : Int32))]) rfl ?_
                refine X_aload_n rfl rfl rfl rfl ?_
                refine X_getI (v := vz3) rfl rfl rfl ((congrFun V.1 338).trans s_338) rfl evz3 ?_
                refine X_iconst (v := (3 : Int32)) rfl rfl rfl ?_
                refine S_icmp_ne (tgt := 20) rfl rfl rfl rfl (show (3 : Int32).toInt = 3 from rfl) (fun q => absurd q (by omega)) (fun vh34 => ?_)
                refine X_aload_n rfl rfl rfl rfl ?_
                refine X_getI (v := vz25) rfl rfl rfl ((congrFun V.1 338).trans s_338) rfl evz25 ?_
                refine X_iload_n rfl rfl rfl rfl ?_
                refine S_icmp_ne (tgt := 20) rfl rfl rfl rfl (show (40 : Int32).toInt = 40 from rfl) (fun vh35 => ?_) (fun q => absurd q (by omega))
                refine X_iconst (v := (0 : Int32)) rfl rfl rfl ?_
                refine LW_ireturn (st := []) rfl rfl rfl ?_
                refine S_if_eq (tgt := 122) rfl rfl rfl (show (0 : Int32).toInt = 0 from rfl) (fun vh36 => ?_) (fun q => absurd q (by omega))
                refine X_aload_n rfl rfl rfl rfl ?_
                refine Y_callV (as := []) (st := []) rfl rfl rfl (by decide) rfl (Nat.le_of_ble_eq_true rfl) (by decide) (Nat.le_of_ble_eq_true rfl) rfl ((congrFun V.1 338).trans s_338) (by decide) (C_X8_next V hu ((congrFun (congrFun hG 338) 1).trans hTt)  ) ?_
                rintro _ g ⟨rfl, V, hq, hk⟩
                have hG := hq.trans hG
                have hK := hk.trans hK
                refine X_aload_n rfl rfl rfl rfl ?_
                refine X_iload_n rfl rfl rfl rfl ?_
                refine X_iload_n rfl rfl rfl rfl ?_
                refine X_iconst (v := (1 : Int32)) rfl rfl rfl ?_
                refine S_iadd rfl rfl hx2 (show (1 : Int32).toInt = 1 from rfl) (by omega) (fun vz38 hvz38 => ?_)
                refine Y_callV (as := [.int x1, .int vz38]) (st := []) rfl rfl rfl (by decide) rfl (Nat.le_of_ble_eq_true rfl) (by decide) (Nat.le_of_ble_eq_true rfl) rfl ((congrFun V.1 338).trans s_338) (by decide) (LW_room (Nat.le_refl _) (Nat.le_refl _) (by omega) (ihr102 _ V hu ((congrFun (congrFun hG 338) 1).trans hTt) x1 y1 hx1 (by omega) vz38 vz38.toInt rfl (by omega)  (by omega))) ?_
                rintro _ g ⟨rfl, V, hq, hk⟩
                have hG := hq.trans hG
                have hK := hk.trans hK
                refine X_aload_n rfl rfl rfl rfl ?_
                refine X_getR (a := 292 + 10 * u) rfl rfl rfl ((congrFun V.1 338).trans s_338) rfl ((congrFun (congrFun hG 338) 1).trans hTt) ?_
                refine X_sipush (v := (20013 : Int32)) rfl rfl rfl ?_
                refine Y_callV (as := [.int (20013 : Int32)]) (st := []) rfl rfl rfl (by decide) rfl (Nat.le_of_ble_eq_true rfl) (by decide) (Nat.le_of_ble_eq_true rfl) rfl ((congrFun V.1 _).trans (tx_s u hu)) (by decide) (C_X11_emit_T hu V (20013 : Int32) 20013 (show (20013 : Int32).toInt = 20013 from rfl) (by omega) (by omega)) ?_
                rintro _ g ⟨rfl, V, hq, hk⟩
                have hG := hq.trans hG
                have hK := hk.trans hK
                exact LW_return (st := []) rfl rfl ⟨rfl, V, hG, hK⟩
              · refine X_aload_n rfl rfl rfl rfl ?_
                refine X_iconst (v := (3 : Int32)) rfl rfl rfl ?_
                refine Y_callV (as := [.int (3 : Int32)]) (st := []) rfl rfl rfl (by decide) rfl (Nat.le_of_ble_eq_true rfl) (by decide) (Nat.le_of_ble_eq_true rfl) rfl ((congrFun V.1 338).trans s_338) (by decide) (C_X8_fail V hu ((congrFun (congrFun hG 338) 1).trans hTt) (3 : Int32) 3 (show (3 : Int32).toInt = 3 from rfl) (by omega) ) ?_
                rintro _ g ⟨vr41, rfl, hrvr410, hrvr411, V, hq, hk⟩
                have hG := hq.trans hG
                have hK := hk.trans hK
                refine X_pop rfl rfl rfl ?_
                refine LW_goto (tgt := 144) rfl rfl ?_
                exact LW_return (st := []) rfl rfl ⟨rfl, V, hG, hK⟩
          · refine X_iconst (v := (1 : Int32)) rfl rfl rfl ?_
            refine LW_goto (tgt := 21) rfl rfl ?_
            refine LW_ireturn (st := []) rfl rfl rfl ?_
            refine S_if_ne (tgt := 77) rfl rfl rfl (show (1 : Int32).toInt = 1 from rfl) (fun vh42 => ?_) (fun q => absurd q (by omega))
            refine X_iload_n rfl rfl rfl rfl ?_
            refine X_bipush (v := (8 : Int32)) rfl rfl rfl ?_
            refine S_icmp_lt (tgt := 92) rfl rfl rfl hx2 (show (8 : Int32).toInt = 8 from rfl) (fun vh43 => ?_) (fun vh43 => ?_)
            · refine X_aload_n rfl rfl rfl rfl ?_
              refine X_bipush (v := (40 : Int32)) rfl rfl rfl ?_
              refine X_callV (as := [.int (40 : Int32)]) (st := []) rfl rfl rfl (by decide) rfl (Nat.le_of_ble_eq_true rfl) (by decide) (Nat.le_of_ble_eq_true rfl) rfl ((congrFun V.1 338).trans s_338) (by decide) ?_
              refine LW_ls (ls' := [some (.ref 338), some (.int (40 : Int32))]) rfl ?_
              refine X_aload_n rfl rfl rfl rfl ?_
              refine X_getI (v := vz3) rfl rfl rfl ((congrFun V.1 338).trans s_338) rfl evz3 ?_
              refine X_iconst (v := (3 : Int32)) rfl rfl rfl ?_
              refine S_icmp_ne (tgt := 20) rfl rfl rfl rfl (show (3 : Int32).toInt = 3 from rfl) (fun q => absurd q (by omega)) (fun vh44 => ?_)
              refine X_aload_n rfl rfl rfl rfl ?_
              refine X_getI (v := vz25) rfl rfl rfl ((congrFun V.1 338).trans s_338) rfl evz25 ?_
              refine X_iload_n rfl rfl rfl rfl ?_
              refine S_icmp_ne (tgt := 20) rfl rfl rfl rfl (show (40 : Int32).toInt = 40 from rfl) (fun q => absurd q (by omega)) (fun vh45 => ?_)
              refine X_iconst (v := (1 : Int32)) rfl rfl rfl ?_
              refine LW_goto (tgt := 21) rfl rfl ?_
              refine LW_ireturn (st := []) rfl rfl rfl ?_
              refine S_if_eq (tgt := 122) rfl rfl rfl (show (1 : Int32).toInt = 1 from rfl) (fun q => absurd q (by omega)) (fun vh46 => ?_)
              refine X_aload_n rfl rfl rfl rfl ?_
              refine Y_callV (as := []) (st := []) rfl rfl rfl (by decide) rfl (Nat.le_of_ble_eq_true rfl) (by decide) (Nat.le_of_ble_eq_true rfl) rfl ((congrFun V.1 338).trans s_338) (by decide) (C_X8_next V hu ((congrFun (congrFun hG 338) 1).trans hTt)  ) ?_
              rintro _ g ⟨rfl, V, hq, hk⟩
              have hG := hq.trans hG
              have hK := hk.trans hK
              refine X_aload_n rfl rfl rfl rfl ?_
              refine X_iload_n rfl rfl rfl rfl ?_
              refine X_iload_n rfl rfl rfl rfl ?_
              refine X_iconst (v := (1 : Int32)) rfl rfl rfl ?_
              refine S_iadd rfl rfl hx2 (show (1 : Int32).toInt = 1 from rfl) (by omega) (fun vz48 hvz48 => ?_)
              refine Y_callV (as := [.int x1, .int vz48]) (st := []) rfl rfl rfl (by decide) rfl (Nat.le_of_ble_eq_true rfl) (by decide) (Nat.le_of_ble_eq_true rfl) rfl ((congrFun V.1 338).trans s_338) (by decide) (LW_room (Nat.le_refl _) (Nat.le_refl _) (by omega) (ihr100 _ V hu ((congrFun (congrFun hG 338) 1).trans hTt) x1 y1 hx1 (by omega) vz48 vz48.toInt rfl (by omega)  (by omega))) ?_
              rintro _ g ⟨rfl, V, hq, hk⟩
              have hG := hq.trans hG
              have hK := hk.trans hK
              refine X_aload_n rfl rfl rfl rfl ?_
              refine X_bipush (v := (41 : Int32)) rfl rfl rfl ?_
              refine Y_callV (as := [.int (41 : Int32)]) (st := []) rfl rfl rfl (by decide) rfl (Nat.le_of_ble_eq_true rfl) (by decide) (Nat.le_of_ble_eq_true rfl) rfl ((congrFun V.1 338).trans s_338) (by decide) (C_X8_takeSymbol V hu ((congrFun (congrFun hG 338) 1).trans hTt) (41 : Int32) 41 (show (41 : Int32).toInt = 41 from rfl) (by omega) ) ?_
              rintro _ g ⟨rfl, V, hq, hk⟩
              have hG := hq.trans hG
              have hK := hk.trans hK
              refine LW_goto (tgt := 144) rfl rfl ?_
              exact LW_return (st := []) rfl rfl ⟨rfl, V, hG, hK⟩
            · refine X_aload_n rfl rfl rfl rfl ?_
              refine X_iconst (v := (3 : Int32)) rfl rfl rfl ?_
              refine Y_callV (as := [.int (3 : Int32)]) (st := []) rfl rfl rfl (by decide) rfl (Nat.le_of_ble_eq_true rfl) (by decide) (Nat.le_of_ble_eq_true rfl) rfl ((congrFun V.1 338).trans s_338) (by decide) (C_X8_fail V hu ((congrFun (congrFun hG 338) 1).trans hTt) (3 : Int32) 3 (show (3 : Int32).toInt = 3 from rfl) (by omega) ) ?_
              rintro _ g ⟨vr51, rfl, hrvr510, hrvr511, V, hq, hk⟩
              have hG := hq.trans hG
              have hK := hk.trans hK
              refine X_pop rfl rfl rfl ?_
              refine LW_goto (tgt := 144) rfl rfl ?_
              exact LW_return (st := []) rfl rfl ⟨rfl, V, hG, hK⟩
      · refine X_aload_n rfl rfl rfl rfl ?_
        refine X_iload_n rfl rfl rfl rfl ?_
        refine Y_callV (as := [.int x1]) (st := []) rfl rfl rfl (by decide) rfl (Nat.le_of_ble_eq_true rfl) (by decide) (Nat.le_of_ble_eq_true rfl) rfl ((congrFun V.1 338).trans s_338) (by decide) (C_X8_readName V hu ((congrFun (congrFun hG 338) 1).trans hTt) x1 y1 hx1 (by omega) ) ?_
        rintro _ g ⟨rfl, V, hq, hk⟩
        have hG := hq.trans hG
        have hK := hk.trans hK
        refine LW_goto (tgt := 144) rfl rfl ?_
        exact LW_return (st := []) rfl rfl ⟨rfl, V, hG, hK⟩
    · refine X_aload_n rfl rfl rfl rfl ?_
      refine X_getR (a := 292 + 10 * u) rfl rfl rfl ((congrFun V.1 338).trans s_338) rfl ((congrFun (congrFun hG 338) 1).trans hTt) ?_
      refine X_aload_n rfl rfl rfl rfl ?_
      refine X_iconst (v := (0 : Int32)) rfl rfl rfl ?_
      refine X_sipush (v := (9999 : Int32)) rfl rfl rfl ?_
      refine X_callV (as := [.int (0 : Int32), .int (9999 : Int32)]) (st := [.ref (292 + 10 * u)]) rfl rfl rfl (by decide) rfl (Nat.le_of_ble_eq_true rfl) (by decide) (Nat.le_of_ble_eq_true rfl) rfl ((congrFun V.1 338).trans s_338) (by decide) ?_
      refine LW_ls (ls' := [some (.ref 338), some (.int (0 : Int32)), some (.int (9999 : Int32)), none]) rfl ?_
      refine X_aload_n rfl rfl rfl rfl ?_
      refine X_getI (v := vz3) rfl rfl rfl ((congrFun V.1 338).trans s_338) rfl evz3 ?_
      refine X_iconst (v := (2 : Int32)) rfl rfl rfl ?_
      refine S_icmp_eq (tgt := 14) rfl rfl rfl rfl (show (2 : Int32).toInt = 2 from rfl) (fun vh53 => ?_) (fun q => absurd q (by omega))
      refine X_aload_n rfl rfl rfl rfl ?_
      refine S_getI rfl rfl rfl ((congrFun V.1 338).trans s_338) rfl (fun vz54 evz54 => ?_)
      refine X_istore_n (i := 3) (ls' := [some (.ref 338), some (.int (0 : Int32)), some (.int (9999 : Int32)), some (.int vz54)]) rfl rfl rfl (Nat.le_of_ble_eq_true rfl) rfl ?_
      refine X_iload_n rfl rfl rfl rfl ?_
      refine X_iload_n rfl rfl rfl rfl ?_
      refine S_icmp_lt (tgt := 29) rfl rfl rfl rfl (show (0 : Int32).toInt = 0 from rfl) (fun vh55 => ?_) (fun vh55 => ?_)
      · refine X_aload_n rfl rfl rfl rfl ?_
        refine X_iconst (v := (2 : Int32)) rfl rfl rfl ?_
        refine Y_callV (as := [.int (2 : Int32)]) (st := []) rfl rfl rfl (by decide) rfl (Nat.le_of_ble_eq_true rfl) (by decide) (Nat.le_of_ble_eq_true rfl) rfl ((congrFun V.1 338).trans s_338) (by decide) (C_X8_fail V hu ((congrFun (congrFun hG 338) 1).trans hTt) (2 : Int32) 2 (show (2 : Int32).toInt = 2 from rfl) (by omega) ) ?_
        rintro _ g ⟨vr56, rfl, hrvr560, hrvr561, V, hq, hk⟩
        have hG := hq.trans hG
        have hK := hk.trans hK
        refine LW_ireturn (st := []) rfl rfl rfl ?_
        refine Y_callV (as := [.int vr56]) (st := []) rfl rfl rfl (by decide) rfl (Nat.le_of_ble_eq_true rfl) (by decide) (Nat.le_of_ble_eq_true rfl) rfl ((congrFun V.1 _).trans (tx_s u hu)) (by decide) (C_X11_emit_T hu V vr56 vr56.toInt rfl (by omega) (by omega)) ?_
        rintro _ g ⟨rfl, V, hq, hk⟩
        have hG := hq.trans hG
        have hK := hk.trans hK
        refine LW_goto (tgt := 144) rfl rfl ?_
        exact LW_return (st := []) rfl rfl ⟨rfl, V, hG, hK⟩
      · refine X_iload_n rfl rfl rfl rfl ?_
        refine X_iload_n rfl rfl rfl rfl ?_
        refine S_icmp_le (tgt := 35) rfl rfl rfl rfl (show (9999 : Int32).toInt = 9999 from rfl) (fun vh58 => ?_) (fun vh58 => ?_)
        · refine X_aload_n rfl rfl rfl rfl ?_
          refine Y_callV (as := []) (st := []) rfl rfl rfl (by decide) rfl (Nat.le_of_ble_eq_true rfl) (by decide) (Nat.le_of_ble_eq_true rfl) rfl ((congrFun V.1 338).trans s_338) (by decide) (C_X8_next V hu ((congrFun (congrFun hG 338) 1).trans hTt)  ) ?_
          rintro _ g ⟨rfl, V, hq, hk⟩
          have hG := hq.trans hG
          have hK := hk.trans hK
          refine X_iload_n rfl rfl rfl rfl ?_
          refine LW_ireturn (st := []) rfl rfl rfl ?_
          refine Y_callV (as := [.int vz54]) (st := []) rfl rfl rfl (by decide) rfl (Nat.le_of_ble_eq_true rfl) (by decide) (Nat.le_of_ble_eq_true rfl) rfl ((congrFun V.1 _).trans (tx_s u hu)) (by decide) (C_X11_emit_T hu V vz54 vz54.toInt rfl (by omega) (by omega)) ?_
          rintro _ g ⟨rfl, V, hq, hk⟩
          have hG := hq.trans hG
          have hK := hk.trans hK
          refine LW_goto (tgt := 144) rfl rfl ?_
          exact LW_return (st := []) rfl rfl ⟨rfl, V, hG, hK⟩
        · refine X_aload_n rfl rfl rfl rfl ?_
          refine X_iconst (v := (2 : Int32)) rfl rfl rfl ?_
          refine Y_callV (as := [.int (2 : Int32)]) (st := []) rfl rfl rfl (by decide) rfl (Nat.le_of_ble_eq_true rfl) (by decide) (Nat.le_of_ble_eq_true rfl) rfl ((congrFun V.1 338).trans s_338) (by decide) (C_X8_fail V hu ((congrFun (congrFun hG 338) 1).trans hTt) (2 : Int32) 2 (show (2 : Int32).toInt = 2 from rfl) (by omega) ) ?_
          rintro _ g ⟨vr61, rfl, hrvr610, hrvr611, V, hq, hk⟩
          have hG := hq.trans hG
          have hK := hk.trans hK
          refine LW_ireturn (st := []) rfl rfl rfl ?_
          refine Y_callV (as := [.int vr61]) (st := []) rfl rfl rfl (by decide) rfl (Nat.le_of_ble_eq_true rfl) (by decide) (Nat.le_of_ble_eq_true rfl) rfl ((congrFun V.1 _).trans (tx_s u hu)) (by decide) (C_X11_emit_T hu V vr61 vr61.toInt rfl (by omega) (by omega)) ?_
          rintro _ g ⟨rfl, V, hq, hk⟩
          have hG := hq.trans hG
          have hK := hk.trans hK
          refine LW_goto (tgt := 144) rfl rfl ?_
          exact LW_return (st := []) rfl rfl ⟨rfl, V, hG, hK⟩
  · exact LW_return (st := []) rfl rfl ⟨rfl, V, hG, hK⟩
set_option maxRecDepth 10000 in
set_option maxHeartbeats 40000000 in
theorem C_X8_readProduct_8 {P : Par} {g g0 : LH} {d n m : Nat} (ihr102 : ∀ (g : LH) (V : Inv P g) {u : Nat} (hu : u < 4) (hTt : Gr g 338 1 = some (292 + 10 * u)) (x1 : Int32) (y1 : Int) (hx1 : x1.toInt = y1) (hf1 : 0 ≤ y1 ∧ y1 ≤ 3) (x2 : Int32) (y2 : Int) (hx2 : x2.toInt = y2) (hf2 : 0 ≤ y2 ∧ y2 ≤ 8) , 9 - y2 < ((m : Nat) : Int) → LW 102 (d + 3 * m + 12) 0 0 0 (lEnt (mL 102) [.ref 338, .int x1, .int x2]) [] g (fun v g' => v = none ∧ Inv P g' ∧ Gr g' = Gr g ∧ Gi g' 1 5 = Gi g 1 5)) (V : Inv P g) (hG : Gr g = Gr g0) (hK : Gi g 1 5 = Gi g0 1 5) {u : Nat} (hu : u < 4) (hTt : Gr g0 338 1 = some (292 + 10 * u)) (x1 : Int32) (y1 : Int) (hx1 : x1.toInt = y1) (hf1 : 0 ≤ y1 ∧ y1 ≤ 3) (x2 : Int32) (y2 : Int) (hx2 : x2.toInt = y2) (hf2 : 0 ≤ y2 ∧ y2 ≤ 8) (x3 : Int32) (y3 : Int) (hx3 : x3.toInt = y3) (hf3 : 0 ≤ y3 ∧ y3 ≤ 301) (o4 : Option Value) (hlev : 9 - y2 < ((m : Nat) : Int)) (hmu : (301 - y3) * 1 + 0 < (n : Int) + 1) (ih8 : ∀ (g : LH) (V : Inv P g) (hG : Gr g = Gr g0) (hK : Gi g 1 5 = Gi g0 1 5) {u : Nat} (hu : u < 4) (hTt : Gr g0 338 1 = some (292 + 10 * u)) (x1 : Int32) (y1 : Int) (hx1 : x1.toInt = y1) (hf1 : 0 ≤ y1 ∧ y1 ≤ 3) (x2 : Int32) (y2 : Int) (hx2 : x2.toInt = y2) (hf2 : 0 ≤ y2 ∧ y2 ≤ 8) (x3 : Int32) (y3 : Int) (hx3 : x3.toInt = y3) (hf3 : 0 ≤ y3 ∧ y3 ≤ 301) (o4 : Option Value) (hlev : 9 - y2 < ((m : Nat) : Int)), (301 - y3) * 1 + 0 < (n : Int) → LW 101 (d + 3 * m + 13) 0 0 8 [some (.ref 338), some (.int x1), some (.int x2), some (.int x3), o4] [] g (fun v g' => v = none ∧ Inv P g' ∧ Gr g' = Gr g0 ∧ Gi g' 1 5 = Gi g0 1 5)) : LW 101 (d + 3 * m + 13) 0 0 8 [some (.ref 338), some (.int x1), some (.int x2), some (.int x3), o4] [] g (fun v g' => v = none ∧ Inv P g' ∧ Gr g' = Gr g0 ∧ Gi g' 1 5 = Gi g0 1 5) := by
  refine X_iload_n rfl rfl rfl rfl ?_
  refine X_sipush (v := (300 : Int32)) rfl rfl rfl ?_
  refine S_icmp_gt (tgt := 85) rfl rfl rfl hx3 (show (300 : Int32).toInt = 300 from rfl) (fun vh1 => ?_) (fun vh1 => ?_)
  · exact LW_return (st := []) rfl rfl ⟨rfl, V, hG, hK⟩
  · refine X_aload_n rfl rfl rfl rfl ?_
    refine S_getI rfl rfl rfl ((congrFun V.1 338).trans s_338) rfl (fun vz2 evz2 => ?_)
    refine S_if_ne (tgt := 85) rfl rfl rfl rfl (fun vh3 => ?_) (fun vh3 => ?_)
    · exact LW_return (st := []) rfl rfl ⟨rfl, V, hG, hK⟩
    · refine X_aload_n rfl rfl rfl rfl ?_
      refine X_bipush (v := (42 : Int32)) rfl rfl rfl ?_
      refine X_callV (as := [.int (42 : Int32)]) (st := []) rfl rfl rfl (by decide) rfl (Nat.le_of_ble_eq_true rfl) (by decide) (Nat.le_of_ble_eq_true rfl) rfl ((congrFun V.1 338).trans s_338) (by decide) ?_
      refine LW_ls (ls' := [some (.ref 338), some (.int (42 : Int32))]) rfl ?_
      refine X_aload_n rfl rfl rfl rfl ?_
      refine S_getI rfl rfl rfl ((congrFun V.1 338).trans s_338) rfl (fun vz4 evz4 => ?_)
      refine X_iconst (v := (3 : Int32)) rfl rfl rfl ?_
      refine S_icmp_ne (tgt := 20) rfl rfl rfl rfl (show (3 : Int32).toInt = 3 from rfl) (fun vh5 => ?_) (fun vh5 => ?_)
      · refine X_iconst (v := (0 : Int32)) rfl rfl rfl ?_
        refine LW_ireturn (st := []) rfl rfl rfl ?_
        refine S_if_ne (tgt := 40) rfl rfl rfl (show (0 : Int32).toInt = 0 from rfl) (fun q => absurd q (by omega)) (fun vh6 => ?_)
        refine X_aload_n rfl rfl rfl rfl ?_
        refine X_bipush (v := (47 : Int32)) rfl rfl rfl ?_
        refine X_callV (as := [.int (47 : Int32)]) (st := []) rfl rfl rfl (by decide) rfl (Nat.le_of_ble_eq_true rfl) (by decide) (Nat.le_of_ble_eq_true rfl) rfl ((congrFun V.1 338).trans s_338) (by decide) ?_
        refine LW_ls (ls' := [some (.ref 338), some (.int (47 : Int32))]) rfl ?_
        refine X_aload_n rfl rfl rfl rfl ?_
        refine X_getI (v := vz4) rfl rfl rfl ((congrFun V.1 338).trans s_338) rfl evz4 ?_
        refine X_iconst (v := (3 : Int32)) rfl rfl rfl ?_
        refine S_icmp_ne (tgt := 20) rfl rfl rfl rfl (show (3 : Int32).toInt = 3 from rfl) (fun vh7 => ?_) (fun vh7 => ?_)
        · refine X_iconst (v := (0 : Int32)) rfl rfl rfl ?_
          refine LW_ireturn (st := []) rfl rfl rfl ?_
          refine S_if_eq (tgt := 85) rfl rfl rfl (show (0 : Int32).toInt = 0 from rfl) (fun vh8 => ?_) (fun q => absurd q (by omega))
          exact LW_return (st := []) rfl rfl ⟨rfl, V, hG, hK⟩
        · refine X_aload_n rfl rfl rfl rfl ?_
          refine S_getI rfl rfl rfl ((congrFun V.1 338).trans s_338) rfl (fun vz9 evz9 => ?_)
          refine X_iload_n rfl rfl rfl rfl ?_
          refine S_icmp_ne (tgt := 20) rfl rfl rfl rfl (show (47 : Int32).toInt = 47 from rfl) (fun vh10 => ?_) (fun vh10 => ?_)
          · refine X_iconst (v := (0 : Int32)) rfl rfl rfl ?_
            refine LW_ireturn (st := []) rfl rfl rfl ?_
            refine S_if_eq (tgt := 85) rfl rfl rfl (show (0 : Int32).toInt = 0 from rfl) (fun vh11 => ?_) (fun q => absurd q (by omega))
            exact LW_return (st := []) rfl rfl ⟨rfl, V, hG, hK⟩
          · refine X_iconst (v := (1 : Int32)) rfl rfl rfl ?_
            refine LW_goto (tgt := 21) rfl rfl ?_
            refine LW_ireturn (st := []) rfl rfl rfl ?_
            refine S_if_eq (tgt := 85) rfl rfl rfl (show (1 : Int32).toInt = 1 from rfl) (fun q => absurd q (by omega)) (fun vh12 => ?_)
            refine X_aload_n rfl rfl rfl rfl ?_
            refine X_bipush (v := (42 : Int32)) rfl rfl rfl ?_
            refine X_callV (as := [.int (42 : Int32)]) (st := []) rfl rfl rfl (by decide) rfl (Nat.le_of_ble_eq_true rfl) (by decide) (Nat.le_of_ble_eq_true rfl) rfl ((congrFun V.1 338).trans s_338) (by decide) ?_
            refine LW_ls (ls' := [some (.ref 338), some (.int (42 : Int32))]) rfl ?_
            refine X_aload_n rfl rfl rfl rfl ?_
            refine X_getI (v := vz4) rfl rfl rfl ((congrFun V.1 338).trans s_338) rfl evz4 ?_
            refine X_iconst (v := (3 : Int32)) rfl rfl rfl ?_
            refine S_icmp_ne (tgt := 20) rfl rfl rfl rfl (show (3 : Int32).toInt = 3 from rfl) (fun q => absurd q (by omega)) (fun vh13 => ?_)
            refine X_aload_n rfl rfl rfl rfl ?_
            refine X_getI (v := vz9) rfl rfl rfl ((congrFun V.1 338).trans s_338) rfl evz9 ?_
            refine X_iload_n rfl rfl rfl rfl ?_
            refine S_icmp_ne (tgt := 20) rfl rfl rfl rfl (show (42 : Int32).toInt = 42 from rfl) (fun vh14 => ?_) (fun q => absurd q (by omega))
            refine X_iconst (v := (0 : Int32)) rfl rfl rfl ?_
            refine LW_ireturn (st := []) rfl rfl rfl ?_
            refine X_istore (i := 4) (ls' := [some (.ref 338), some (.int x1), some (.int x2), some (.int x3), some (.int (0 : Int32))]) rfl rfl (Nat.le_of_ble_eq_true rfl) rfl ?_
            refine X_aload_n rfl rfl rfl rfl ?_
            refine Y_callV (as := []) (st := []) rfl rfl rfl (by decide) rfl (Nat.le_of_ble_eq_true rfl) (by decide) (Nat.le_of_ble_eq_true rfl) rfl ((congrFun V.1 338).trans s_338) (by decide) (C_X8_next V hu ((congrFun (congrFun hG 338) 1).trans hTt)  ) ?_
            rintro _ g ⟨rfl, V, hq, hk⟩
            have hG := hq.trans hG
            have hK := hk.trans hK
            refine X_aload_n rfl rfl rfl rfl ?_
            refine X_iload_n rfl rfl rfl rfl ?_
            refine X_iload_n rfl rfl rfl rfl ?_
            refine Y_callV (as := [.int x1, .int x2]) (st := []) rfl rfl rfl (by decide) rfl (Nat.le_of_ble_eq_true rfl) (by decide) (Nat.le_of_ble_eq_true rfl) rfl ((congrFun V.1 338).trans s_338) (by decide) (LW_room (Nat.le_refl _) (Nat.le_refl _) (by omega) (ihr102 _ V hu ((congrFun (congrFun hG 338) 1).trans hTt) x1 y1 hx1 (by omega) x2 y2 hx2 (by omega)  (by omega))) ?_
            rintro _ g ⟨rfl, V, hq, hk⟩
            have hG := hq.trans hG
            have hK := hk.trans hK
            refine X_aload_n rfl rfl rfl rfl ?_
            refine X_getR (a := 292 + 10 * u) rfl rfl rfl ((congrFun V.1 338).trans s_338) rfl ((congrFun (congrFun hG 338) 1).trans hTt) ?_
            refine X_iload rfl rfl rfl ?_
            refine S_if_eq (tgt := 73) rfl rfl rfl (show (0 : Int32).toInt = 0 from rfl) (fun vh17 => ?_) (fun q => absurd q (by omega))
            refine X_sipush (v := (20003 : Int32)) rfl rfl rfl ?_
            refine Y_callV (as := [.int (20003 : Int32)]) (st := []) rfl rfl rfl (by decide) rfl (Nat.le_of_ble_eq_true rfl) (by decide) (Nat.le_of_ble_eq_true rfl) rfl ((congrFun V.1 _).trans (tx_s u hu)) (by decide) (C_X11_emit_T hu V (20003 : Int32) 20003 (show (20003 : Int32).toInt = 20003 from rfl) (by omega) (by omega)) ?_
            rintro _ g ⟨rfl, V, hq, hk⟩
            have hG := hq.trans hG
            have hK := hk.trans hK
            refine S_iinc (c := 1) rfl rfl rfl hx3 rfl (by omega) (fun vz19 hvz19 => ?_)
            refine LW_ls (ls' := [some (.ref 338), some (.int x1), some (.int x2), some (.int vz19), some (.int (0 : Int32))]) rfl ?_
            refine LW_goto (tgt := 8) rfl rfl ?_
            exact ih8 _ V hG hK hu hTt x1 y1 hx1 (by omega) x2 y2 hx2 (by omega) vz19 vz19.toInt rfl (by omega) (some (.int (0 : Int32)))   (by omega) (by omega)
      · refine X_aload_n rfl rfl rfl rfl ?_
        refine S_getI rfl rfl rfl ((congrFun V.1 338).trans s_338) rfl (fun vz20 evz20 => ?_)
        refine X_iload_n rfl rfl rfl rfl ?_
        refine S_icmp_ne (tgt := 20) rfl rfl rfl rfl (show (42 : Int32).toInt = 42 from rfl) (fun vh21 => ?_) (fun vh21 => ?_)
        · refine X_iconst (v := (0 : Int32)) rfl rfl rfl ?_
          refine LW_ireturn (st := []) rfl rfl rfl ?_
          refine S_if_ne (tgt := 40) rfl rfl rfl (show (0 : Int32).toInt = 0 from rfl) (fun q => absurd q (by omega)) (fun vh22 => ?_)
          refine X_aload_n rfl rfl rfl rfl ?_
          refine X_bipush (v := (47 : Int32)) rfl rfl rfl ?_
          refine X_callV (as := [.int (47 : Int32)]) (st := []) rfl rfl rfl (by decide) rfl (Nat.le_of_ble_eq_true rfl) (by decide) (Nat.le_of_ble_eq_true rfl) rfl ((congrFun V.1 338).trans s_338) (by decide) ?_
          refine LW_ls (ls' := [some (.ref 338), some (.int (47 : Int32))]) rfl ?_
          refine X_aload_n rfl rfl rfl rfl ?_
          refine X_getI (v := vz4) rfl rfl rfl ((congrFun V.1 338).trans s_338) rfl evz4 ?_
          refine X_iconst (v := (3 : Int32)) rfl rfl rfl ?_
          refine S_icmp_ne (tgt := 20) rfl rfl rfl rfl (show (3 : Int32).toInt = 3 from rfl) (fun q => absurd q (by omega)) (fun vh23 => ?_)
          refine X_aload_n rfl rfl rfl rfl ?_
          refine X_getI (v := vz20) rfl rfl rfl ((congrFun V.1 338).trans s_338) rfl evz20 ?_
          refine X_iload_n rfl rfl rfl rfl ?_
          refine S_icmp_ne (tgt := 20) rfl rfl rfl rfl (show (47 : Int32).toInt = 47 from rfl) (fun vh24 => ?_) (fun vh24 => ?_)
          · refine X_iconst (v := (0 : Int32)) rfl rfl rfl ?_
            refine LW_ireturn (st := []) rfl rfl rfl ?_
            refine S_if_eq (tgt := 85) rfl rfl rfl (show (0 : Int32).toInt = 0 from rfl) (fun vh25 => ?_) (fun q => absurd q (by omega))
            exact LW_return (st := []) rfl rfl ⟨rfl, V, hG, hK⟩
          · refine X_iconst (v := (1 : Int32)) rfl rfl rfl ?_
            refine LW_goto (tgt := 21) rfl rfl ?_
            refine LW_ireturn (st := []) rfl rfl rfl ?_
            refine S_if_eq (tgt := 85) rfl rfl rfl (show (1 : Int32).toInt = 1 from rfl) (fun q => absurd q (by omega)) (fun vh26 => ?_)
            refine X_aload_n rfl rfl rfl rfl ?_
            refine X_bipush (v := (42 : Int32)) rfl rfl rfl ?_
            refine X_callV (as := [.int (42 : Int32)]) (st := []) rfl rfl rfl (by decide) rfl (Nat.le_of_ble_eq_true rfl) (by decide) (Nat.le_of_ble_eq_true rfl) rfl ((congrFun V.1 338).trans s_338) (by decide) ?_
            refine LW_ls (ls' := [some (.ref 338), some (.int (42 : Int32))]) rfl ?_
            refine X_aload_n rfl rfl rfl rfl ?_
            refine X_getI (v := vz4) rfl rfl rfl ((congrFun V.1 338).trans s_338) rfl evz4 ?_
            refine X_iconst (v := (3 : Int32)) rfl rfl rfl ?_
            refine S_icmp_ne (tgt := 20) rfl rfl rfl rfl (show (3 : Int32).toInt = 3 from rfl) (fun q => absurd q (by omega)) (fun vh27 => ?_)
            refine X_aload_n rfl rfl rfl rfl ?_
            refine X_getI (v := vz20) rfl rfl rfl ((congrFun V.1 338).trans s_338) rfl evz20 ?_
            refine X_iload_n rfl rfl rfl rfl ?_
            refine S_icmp_ne (tgt := 20) rfl rfl rfl rfl (show (42 : Int32).toInt = 42 from rfl) (fun vh28 => ?_) (fun q => absurd q (by omega))
            refine X_iconst (v := (0 : Int32)) rfl rfl rfl ?_
            refine LW_ireturn (st := []) rfl rfl rfl ?_
            refine X_istore (i := 4) (ls' := [some (.ref 338), some (.int x1), some (.int x2), some (.int x3), some (.int (0 : Int32))]) rfl rfl (Nat.le_of_ble_eq_true rfl) rfl ?_
            refine X_aload_n rfl rfl rfl rfl ?_
            refine Y_callV (as := []) (st := []) rfl rfl rfl (by decide) rfl (Nat.le_of_ble_eq_true rfl) (by decide) (Nat.le_of_ble_eq_true rfl) rfl ((congrFun V.1 338).trans s_338) (by decide) (C_X8_next V hu ((congrFun (congrFun hG 338) 1).trans hTt)  ) ?_
            rintro _ g ⟨rfl, V, hq, hk⟩
            have hG := hq.trans hG
            have hK := hk.trans hK
            refine X_aload_n rfl rfl rfl rfl ?_
            refine X_iload_n rfl rfl rfl rfl ?_
            refine X_iload_n rfl rfl rfl rfl ?_
            refine Y_callV (as := [.int x1, .int x2]) (st := []) rfl rfl rfl (by decide) rfl (Nat.le_of_ble_eq_true rfl) (by decide) (Nat.le_of_ble_eq_true rfl) rfl ((congrFun V.1 338).trans s_338) (by decide) (LW_room (Nat.le_refl _) (Nat.le_refl _) (by omega) (ihr102 _ V hu ((congrFun (congrFun hG 338) 1).trans hTt) x1 y1 hx1 (by omega) x2 y2 hx2 (by omega)  (by omega))) ?_
            rintro _ g ⟨rfl, V, hq, hk⟩
            have hG := hq.trans hG
            have hK := hk.trans hK
            refine X_aload_n rfl rfl rfl rfl ?_
            refine X_getR (a := 292 + 10 * u) rfl rfl rfl ((congrFun V.1 338).trans s_338) rfl ((congrFun (congrFun hG 338) 1).trans hTt) ?_
            refine X_iload rfl rfl rfl ?_
            refine S_if_eq (tgt := 73) rfl rfl rfl (show (0 : Int32).toInt = 0 from rfl) (fun vh31 => ?_) (fun q => absurd q (by omega))
            refine X_sipush (v := (20003 : Int32)) rfl rfl rfl ?_
            refine Y_callV (as := [.int (20003 : Int32)]) (st := []) rfl rfl rfl (by decide) rfl (Nat.le_of_ble_eq_true rfl) (by decide) (Nat.le_of_ble_eq_true rfl) rfl ((congrFun V.1 _).trans (tx_s u hu)) (by decide) (C_X11_emit_T hu V (20003 : Int32) 20003 (show (20003 : Int32).toInt = 20003 from rfl) (by omega) (by omega)) ?_
            rintro _ g ⟨rfl, V, hq, hk⟩
            have hG := hq.trans hG
            have hK := hk.trans hK
            refine S_iinc (c := 1) rfl rfl rfl hx3 rfl (by omega) (fun vz33 hvz33 => ?_)
            refine LW_ls (ls' := [some (.ref 338), some (.int x1), some (.int x2), some (.int vz33), some (.int (0 : Int32))]) rfl ?_
            refine LW_goto (tgt := 8) rfl rfl ?_
            exact ih8 _ V hG hK hu hTt x1 y1 hx1 (by omega) x2 y2 hx2 (by omega) vz33 vz33.toInt rfl (by omega) (some (.int (0 : Int32)))   (by omega) (by omega)
        · refine X_iconst (v := (1 : Int32)) rfl rfl rfl ?_
          refine LW_goto (tgt := 21) rfl rfl ?_
          refine LW_ireturn (st := []) rfl rfl rfl ?_
          refine S_if_ne (tgt := 40) rfl rfl rfl (show (1 : Int32).toInt = 1 from rfl) (fun vh34 => ?_) (fun q => absurd q (by omega))
          refine X_aload_n rfl rfl rfl rfl ?_
          refine X_bipush (v := (42 : Int32)) rfl rfl rfl ?_
          refine X_callV (as := [.int (42 : Int32)]) (st := []) rfl rfl rfl (by decide) rfl (Nat.le_of_ble_eq_true rfl) (by decide) (Nat.le_of_ble_eq_true rfl) rfl ((congrFun V.1 338).trans s_338) (by decide) ?_
          refine LW_ls (ls' := [some (.ref 338), some (.int (42 : Int32))]) rfl ?_
          refine X_aload_n rfl rfl rfl rfl ?_
          refine X_getI (v := vz4) rfl rfl rfl ((congrFun V.1 338).trans s_338) rfl evz4 ?_
          refine X_iconst (v := (3 : Int32)) rfl rfl rfl ?_
          refine S_icmp_ne (tgt := 20) rfl rfl rfl rfl (show (3 : Int32).toInt = 3 from rfl) (fun q => absurd q (by omega)) (fun vh35 => ?_)
          refine X_aload_n rfl rfl rfl rfl ?_
          refine X_getI (v := vz20) rfl rfl rfl ((congrFun V.1 338).trans s_338) rfl evz20 ?_
          refine X_iload_n rfl rfl rfl rfl ?_
          refine S_icmp_ne (tgt := 20) rfl rfl rfl rfl (show (42 : Int32).toInt = 42 from rfl) (fun q => absurd q (by omega)) (fun vh36 => ?_)
          refine X_iconst (v := (1 : Int32)) rfl rfl rfl ?_
          refine LW_goto (tgt := 21) rfl rfl ?_
          refine LW_ireturn (st := []) rfl rfl rfl ?_
          refine X_istore (i := 4) (ls' := [some (.ref 338), some (.int x1), some (.int x2), some (.int x3), some (.int (1 : Int32))]) rfl rfl (Nat.le_of_ble_eq_true rfl) rfl ?_
          refine X_aload_n rfl rfl rfl rfl ?_
          refine Y_callV (as := []) (st := []) rfl rfl rfl (by decide) rfl (Nat.le_of_ble_eq_true rfl) (by decide) (Nat.le_of_ble_eq_true rfl) rfl ((congrFun V.1 338).trans s_338) (by decide) (C_X8_next V hu ((congrFun (congrFun hG 338) 1).trans hTt)  ) ?_
          rintro _ g ⟨rfl, V, hq, hk⟩
          have hG := hq.trans hG
          have hK := hk.trans hK
          refine X_aload_n rfl rfl rfl rfl ?_
          refine X_iload_n rfl rfl rfl rfl ?_
          refine X_iload_n rfl rfl rfl rfl ?_
          refine Y_callV (as := [.int x1, .int x2]) (st := []) rfl rfl rfl (by decide) rfl (Nat.le_of_ble_eq_true rfl) (by decide) (Nat.le_of_ble_eq_true rfl) rfl ((congrFun V.1 338).trans s_338) (by decide) (LW_room (Nat.le_refl _) (Nat.le_refl _) (by omega) (ihr102 _ V hu ((congrFun (congrFun hG 338) 1).trans hTt) x1 y1 hx1 (by omega) x2 y2 hx2 (by omega)  (by omega))) ?_
          rintro _ g ⟨rfl, V, hq, hk⟩
          have hG := hq.trans hG
          have hK := hk.trans hK
          refine X_aload_n rfl rfl rfl rfl ?_
          refine X_getR (a := 292 + 10 * u) rfl rfl rfl ((congrFun V.1 338).trans s_338) rfl ((congrFun (congrFun hG 338) 1).trans hTt) ?_
          refine X_iload rfl rfl rfl ?_
          refine S_if_eq (tgt := 73) rfl rfl rfl (show (1 : Int32).toInt = 1 from rfl) (fun q => absurd q (by omega)) (fun vh39 => ?_)
          refine X_sipush (v := (20002 : Int32)) rfl rfl rfl ?_
          refine LW_goto (tgt := 76) rfl rfl ?_
          refine Y_callV (as := [.int (20002 : Int32)]) (st := []) rfl rfl rfl (by decide) rfl (Nat.le_of_ble_eq_true rfl) (by decide) (Nat.le_of_ble_eq_true rfl) rfl ((congrFun V.1 _).trans (tx_s u hu)) (by decide) (C_X11_emit_T hu V (20002 : Int32) 20002 (show (20002 : Int32).toInt = 20002 from rfl) (by omega) (by omega)) ?_
          rintro _ g ⟨rfl, V, hq, hk⟩
          have hG := hq.trans hG
          have hK := hk.trans hK
          refine S_iinc (c := 1) rfl rfl rfl hx3 rfl (by omega) (fun vz41 hvz41 => ?_)
          refine LW_ls (ls' := [some (.ref 338), some (.int x1), some (.int x2), some (.int vz41), some (.int (1 : Int32))]) rfl ?_
          refine LW_goto (tgt := 8) rfl rfl ?_
          exact ih8 _ V hG hK hu hTt x1 y1 hx1 (by omega) x2 y2 hx2 (by omega) vz41 vz41.toInt rfl (by omega) (some (.int (1 : Int32)))   (by omega) (by omega)
theorem C_X8_readProduct_all {P : Par} {g0 : LH} {d m : Nat} (ihr102 : ∀ (g : LH) (V : Inv P g) {u : Nat} (hu : u < 4) (hTt : Gr g 338 1 = some (292 + 10 * u)) (x1 : Int32) (y1 : Int) (hx1 : x1.toInt = y1) (hf1 : 0 ≤ y1 ∧ y1 ≤ 3) (x2 : Int32) (y2 : Int) (hx2 : x2.toInt = y2) (hf2 : 0 ≤ y2 ∧ y2 ≤ 8) , 9 - y2 < ((m : Nat) : Int) → LW 102 (d + 3 * m + 12) 0 0 0 (lEnt (mL 102) [.ref 338, .int x1, .int x2]) [] g (fun v g' => v = none ∧ Inv P g' ∧ Gr g' = Gr g ∧ Gi g' 1 5 = Gi g 1 5)) : ∀ n : Nat, (∀ (g : LH) (V : Inv P g) (hG : Gr g = Gr g0) (hK : Gi g 1 5 = Gi g0 1 5) {u : Nat} (hu : u < 4) (hTt : Gr g0 338 1 = some (292 + 10 * u)) (x1 : Int32) (y1 : Int) (hx1 : x1.toInt = y1) (hf1 : 0 ≤ y1 ∧ y1 ≤ 3) (x2 : Int32) (y2 : Int) (hx2 : x2.toInt = y2) (hf2 : 0 ≤ y2 ∧ y2 ≤ 8) (x3 : Int32) (y3 : Int) (hx3 : x3.toInt = y3) (hf3 : 0 ≤ y3 ∧ y3 ≤ 301) (o4 : Option Value) (hlev : 9 - y2 < ((m : Nat) : Int)), (301 - y3) * 1 + 0 < (n : Int) → LW 101 (d + 3 * m + 13) 0 0 8 [some (.ref 338), some (.int x1), some (.int x2), some (.int x3), o4] [] g (fun v g' => v = none ∧ Inv P g' ∧ Gr g' = Gr g0 ∧ Gi g' 1 5 = Gi g0 1 5)) := by
  intro n
  induction n with
  | zero => exact fun g V hG hK u hu hTt x1 y1 hx1 hf1 x2 y2 hx2 hf2 x3 y3 hx3 hf3 o4 hlev hmu => absurd hmu (by omega)
  | succ n ih => exact fun g V hG hK u hu hTt x1 y1 hx1 hf1 x2 y2 hx2 hf2 x3 y3 hx3 hf3 o4 hlev hmu => C_X8_readProduct_8 ihr102 V hG hK hu hTt x1 y1 hx1 hf1 x2 y2 hx2 hf2 x3 y3 hx3 hf3 o4 hlev (by omega) ih
set_option maxRecDepth 10000 in
set_option maxHeartbeats 40000000 in
theorem C_X8_readProduct_s {P : Par} {g : LH} {d m : Nat} (ihr102 : ∀ (g : LH) (V : Inv P g) {u : Nat} (hu : u < 4) (hTt : Gr g 338 1 = some (292 + 10 * u)) (x1 : Int32) (y1 : Int) (hx1 : x1.toInt = y1) (hf1 : 0 ≤ y1 ∧ y1 ≤ 3) (x2 : Int32) (y2 : Int) (hx2 : x2.toInt = y2) (hf2 : 0 ≤ y2 ∧ y2 ≤ 8) , 9 - y2 < ((m : Nat) : Int) → LW 102 (d + 3 * m + 12) 0 0 0 (lEnt (mL 102) [.ref 338, .int x1, .int x2]) [] g (fun v g' => v = none ∧ Inv P g' ∧ Gr g' = Gr g ∧ Gi g' 1 5 = Gi g 1 5)) (V : Inv P g) {u : Nat} (hu : u < 4) (hTt : Gr g 338 1 = some (292 + 10 * u)) (x1 : Int32) (y1 : Int) (hx1 : x1.toInt = y1) (hf1 : 0 ≤ y1 ∧ y1 ≤ 3) (x2 : Int32) (y2 : Int) (hx2 : x2.toInt = y2) (hf2 : 0 ≤ y2 ∧ y2 ≤ 8)  (hlev : 9 - y2 < ((m : Nat) : Int)) : LW 101 (d + 3 * m + 13) 0 0 0 (lEnt (mL 101) [.ref 338, .int x1, .int x2]) [] g (fun v g' => v = none ∧ Inv P g' ∧ Gr g' = Gr g ∧ Gi g' 1 5 = Gi g 1 5) := by
  refine LW_ls (ls' := [some (.ref 338), some (.int x1), some (.int x2), none, none]) rfl ?_
  have hG : Gr g = Gr g := rfl
  have hK : Gi g 1 5 = Gi g 1 5 := rfl
  refine X_aload_n rfl rfl rfl rfl ?_
  refine X_iload_n rfl rfl rfl rfl ?_
  refine X_iload_n rfl rfl rfl rfl ?_
  refine Y_callV (as := [.int x1, .int x2]) (st := []) rfl rfl rfl (by decide) rfl (Nat.le_of_ble_eq_true rfl) (by decide) (Nat.le_of_ble_eq_true rfl) rfl ((congrFun V.1 338).trans s_338) (by decide) (LW_room (Nat.le_refl _) (Nat.le_refl _) (by omega) (ihr102 _ V hu ((congrFun (congrFun hG 338) 1).trans hTt) x1 y1 hx1 (by omega) x2 y2 hx2 (by omega)  (by omega))) ?_
  rintro _ g ⟨rfl, V, hq, hk⟩
  have hG := hq.trans hG
  have hK := hk.trans hK
  refine X_iconst (v := (0 : Int32)) rfl rfl rfl ?_
  refine X_istore_n (i := 3) (ls' := [some (.ref 338), some (.int x1), some (.int x2), some (.int (0 : Int32)), none]) rfl rfl rfl (Nat.le_of_ble_eq_true rfl) rfl ?_
  exact (C_X8_readProduct_all ihr102 (((301 - 0) * 1 + 0) + 1 : Int).toNat) _ V hG hK hu hTt x1 y1 hx1 (by omega) x2 y2 hx2 (by omega) (0 : Int32) 0 (show (0 : Int32).toInt = 0 from rfl) (by omega) none   (by omega) (by omega)
set_option maxRecDepth 10000 in
set_option maxHeartbeats 40000000 in
theorem C_X8_readSum_8 {P : Par} {g g0 : LH} {d n m : Nat} (ihr101 : ∀ (g : LH) (V : Inv P g) {u : Nat} (hu : u < 4) (hTt : Gr g 338 1 = some (292 + 10 * u)) (x1 : Int32) (y1 : Int) (hx1 : x1.toInt = y1) (hf1 : 0 ≤ y1 ∧ y1 ≤ 3) (x2 : Int32) (y2 : Int) (hx2 : x2.toInt = y2) (hf2 : 0 ≤ y2 ∧ y2 ≤ 8) , 9 - y2 < ((m : Nat) : Int) → LW 101 (d + 3 * m + 13) 0 0 0 (lEnt (mL 101) [.ref 338, .int x1, .int x2]) [] g (fun v g' => v = none ∧ Inv P g' ∧ Gr g' = Gr g ∧ Gi g' 1 5 = Gi g 1 5)) (V : Inv P g) (hG : Gr g = Gr g0) (hK : Gi g 1 5 = Gi g0 1 5) {u : Nat} (hu : u < 4) (hTt : Gr g0 338 1 = some (292 + 10 * u)) (x1 : Int32) (y1 : Int) (hx1 : x1.toInt = y1) (hf1 : 0 ≤ y1 ∧ y1 ≤ 3) (x2 : Int32) (y2 : Int) (hx2 : x2.toInt = y2) (hf2 : 0 ≤ y2 ∧ y2 ≤ 8) (x3 : Int32) (y3 : Int) (hx3 : x3.toInt = y3) (hf3 : 0 ≤ y3 ∧ y3 ≤ 301) (o4 : Option Value) (hlev : 9 - y2 < ((m : Nat) : Int)) (hmu : (301 - y3) * 1 + 0 < (n : Int) + 1) (ih8 : ∀ (g : LH) (V : Inv P g) (hG : Gr g = Gr g0) (hK : Gi g 1 5 = Gi g0 1 5) {u : Nat} (hu : u < 4) (hTt : Gr g0 338 1 = some (292 + 10 * u)) (x1 : Int32) (y1 : Int) (hx1 : x1.toInt = y1) (hf1 : 0 ≤ y1 ∧ y1 ≤ 3) (x2 : Int32) (y2 : Int) (hx2 : x2.toInt = y2) (hf2 : 0 ≤ y2 ∧ y2 ≤ 8) (x3 : Int32) (y3 : Int) (hx3 : x3.toInt = y3) (hf3 : 0 ≤ y3 ∧ y3 ≤ 301) (o4 : Option Value) (hlev : 9 - y2 < ((m : Nat) : Int)), (301 - y3) * 1 + 0 < (n : Int) → LW 100 (d + 3 * m + 14) 0 0 8 [some (.ref 338), some (.int x1), some (.int x2), some (.int x3), o4] [] g (fun v g' => v = none ∧ Inv P g' ∧ Gr g' = Gr g0 ∧ Gi g' 1 5 = Gi g0 1 5)) : LW 100 (d + 3 * m + 14) 0 0 8 [some (.ref 338), some (.int x1), some (.int x2), some (.int x3), o4] [] g (fun v g' => v = none ∧ Inv P g' ∧ Gr g' = Gr g0 ∧ Gi g' 1 5 = Gi g0 1 5) := by
  refine X_iload_n rfl rfl rfl rfl ?_
  refine X_sipush (v := (300 : Int32)) rfl rfl rfl ?_
  refine S_icmp_gt (tgt := 85) rfl rfl rfl hx3 (show (300 : Int32).toInt = 300 from rfl) (fun vh1 => ?_) (fun vh1 => ?_)
  · exact LW_return (st := []) rfl rfl ⟨rfl, V, hG, hK⟩
  · refine X_aload_n rfl rfl rfl rfl ?_
    refine S_getI rfl rfl rfl ((congrFun V.1 338).trans s_338) rfl (fun vz2 evz2 => ?_)
    refine S_if_ne (tgt := 85) rfl rfl rfl rfl (fun vh3 => ?_) (fun vh3 => ?_)
    · exact LW_return (st := []) rfl rfl ⟨rfl, V, hG, hK⟩
    · refine X_aload_n rfl rfl rfl rfl ?_
      refine X_bipush (v := (43 : Int32)) rfl rfl rfl ?_
      refine X_callV (as := [.int (43 : Int32)]) (st := []) rfl rfl rfl (by decide) rfl (Nat.le_of_ble_eq_true rfl) (by decide) (Nat.le_of_ble_eq_true rfl) rfl ((congrFun V.1 338).trans s_338) (by decide) ?_
      refine LW_ls (ls' := [some (.ref 338), some (.int (43 : Int32))]) rfl ?_
      refine X_aload_n rfl rfl rfl rfl ?_
      refine S_getI rfl rfl rfl ((congrFun V.1 338).trans s_338) rfl (fun vz4 evz4 => ?_)
      refine X_iconst (v := (3 : Int32)) rfl rfl rfl ?_
      refine S_icmp_ne (tgt := 20) rfl rfl rfl rfl (show (3 : Int32).toInt = 3 from rfl) (fun vh5 => ?_) (fun vh5 => ?_)
      · refine X_iconst (v := (0 : Int32)) rfl rfl rfl ?_
        refine LW_ireturn (st := []) rfl rfl rfl ?_
        refine S_if_ne (tgt := 40) rfl rfl rfl (show (0 : Int32).toInt = 0 from rfl) (fun q => absurd q (by omega)) (fun vh6 => ?_)
        refine X_aload_n rfl rfl rfl rfl ?_
        refine X_bipush (v := (45 : Int32)) rfl rfl rfl ?_
        refine X_callV (as := [.int (45 : Int32)]) (st := []) rfl rfl rfl (by decide) rfl (Nat.le_of_ble_eq_true rfl) (by decide) (Nat.le_of_ble_eq_true rfl) rfl ((congrFun V.1 338).trans s_338) (by decide) ?_
        refine LW_ls (ls' := [some (.ref 338), some (.int (45 : Int32))]) rfl ?_
        refine X_aload_n rfl rfl rfl rfl ?_
        refine X_getI (v := vz4) rfl rfl rfl ((congrFun V.1 338).trans s_338) rfl evz4 ?_
        refine X_iconst (v := (3 : Int32)) rfl rfl rfl ?_
        refine S_icmp_ne (tgt := 20) rfl rfl rfl rfl (show (3 : Int32).toInt = 3 from rfl) (fun vh7 => ?_) (fun vh7 => ?_)
        · refine X_iconst (v := (0 : Int32)) rfl rfl rfl ?_
          refine LW_ireturn (st := []) rfl rfl rfl ?_
          refine S_if_eq (tgt := 85) rfl rfl rfl (show (0 : Int32).toInt = 0 from rfl) (fun vh8 => ?_) (fun q => absurd q (by omega))
          exact LW_return (st := []) rfl rfl ⟨rfl, V, hG, hK⟩
        · refine X_aload_n rfl rfl rfl rfl ?_
          refine S_getI rfl rfl rfl ((congrFun V.1 338).trans s_338) rfl (fun vz9 evz9 => ?_)
          refine X_iload_n rfl rfl rfl rfl ?_
          refine S_icmp_ne (tgt := 20) rfl rfl rfl rfl (show (45 : Int32).toInt = 45 from rfl) (fun vh10 => ?_) (fun vh10 => ?_)
          · refine X_iconst (v := (0 : Int32)) rfl rfl rfl ?_
            refine LW_ireturn (st := []) rfl rfl rfl ?_
            refine S_if_eq (tgt := 85) rfl rfl rfl (show (0 : Int32).toInt = 0 from rfl) (fun vh11 => ?_) (fun q => absurd q (by omega))
            exact LW_return (st := []) rfl rfl ⟨rfl, V, hG, hK⟩
          · refine X_iconst (v := (1 : Int32)) rfl rfl rfl ?_
            refine LW_goto (tgt := 21) rfl rfl ?_
            refine LW_ireturn (st := []) rfl rfl rfl ?_
            refine S_if_eq (tgt := 85) rfl rfl rfl (show (1 : Int32).toInt = 1 from rfl) (fun q => absurd q (by omega)) (fun vh12 => ?_)
            refine X_aload_n rfl rfl rfl rfl ?_
            refine X_bipush (v := (43 : Int32)) rfl rfl rfl ?_
            refine X_callV (as := [.int (43 : Int32)]) (st := []) rfl rfl rfl (by decide) rfl (Nat.le_of_ble_eq_true rfl) (by decide) (Nat.le_of_ble_eq_true rfl) rfl ((congrFun V.1 338).trans s_338) (by decide) ?_
            refine LW_ls (ls' := [some (.ref 338), some (.int (43 : Int32))]) rfl ?_
            refine X_aload_n rfl rfl rfl rfl ?_
            refine X_getI (v := vz4) rfl rfl rfl ((congrFun V.1 338).trans s_338) rfl evz4 ?_
            refine X_iconst (v := (3 : Int32)) rfl rfl rfl ?_
            refine S_icmp_ne (tgt := 20) rfl rfl rfl rfl (show (3 : Int32).toInt = 3 from rfl) (fun q => absurd q (by omega)) (fun vh13 => ?_)
            refine X_aload_n rfl rfl rfl rfl ?_
            refine X_getI (v := vz9) rfl rfl rfl ((congrFun V.1 338).trans s_338) rfl evz9 ?_
            refine X_iload_n rfl rfl rfl rfl ?_
            refine S_icmp_ne (tgt := 20) rfl rfl rfl rfl (show (43 : Int32).toInt = 43 from rfl) (fun vh14 => ?_) (fun q => absurd q (by omega))
            refine X_iconst (v := (0 : Int32)) rfl rfl rfl ?_
            refine LW_ireturn (st := []) rfl rfl rfl ?_
            refine X_istore (i := 4) (ls' := [some (.ref 338), some (.int x1), some (.int x2), some (.int x3), some (.int (0 : Int32))]) rfl rfl (Nat.le_of_ble_eq_true rfl) rfl ?_
            refine X_aload_n rfl rfl rfl rfl ?_
            refine Y_callV (as := []) (st := []) rfl rfl rfl (by decide) rfl (Nat.le_of_ble_eq_true rfl) (by decide) (Nat.le_of_ble_eq_true rfl) rfl ((congrFun V.1 338).trans s_338) (by decide) (C_X8_next V hu ((congrFun (congrFun hG 338) 1).trans hTt)  ) ?_
            rintro _ g ⟨rfl, V, hq, hk⟩
            have hG := hq.trans hG
            have hK := hk.trans hK
            refine X_aload_n rfl rfl rfl rfl ?_
            refine X_iload_n rfl rfl rfl rfl ?_
            refine X_iload_n rfl rfl rfl rfl ?_
            refine Y_callV (as := [.int x1, .int x2]) (st := []) rfl rfl rfl (by decide) rfl (Nat.le_of_ble_eq_true rfl) (by decide) (Nat.le_of_ble_eq_true rfl) rfl ((congrFun V.1 338).trans s_338) (by decide) (LW_room (Nat.le_refl _) (Nat.le_refl _) (by omega) (ihr101 _ V hu ((congrFun (congrFun hG 338) 1).trans hTt) x1 y1 hx1 (by omega) x2 y2 hx2 (by omega)  (by omega))) ?_
            rintro _ g ⟨rfl, V, hq, hk⟩
            have hG := hq.trans hG
            have hK := hk.trans hK
            refine X_aload_n rfl rfl rfl rfl ?_
            refine X_getR (a := 292 + 10 * u) rfl rfl rfl ((congrFun V.1 338).trans s_338) rfl ((congrFun (congrFun hG 338) 1).trans hTt) ?_
            refine X_iload rfl rfl rfl ?_
            refine S_if_eq (tgt := 73) rfl rfl rfl (show (0 : Int32).toInt = 0 from rfl) (fun vh17 => ?_) (fun q => absurd q (by omega))
            refine X_sipush (v := (20001 : Int32)) rfl rfl rfl ?_
            refine Y_callV (as := [.int (20001 : Int32)]) (st := []) rfl rfl rfl (by decide) rfl (Nat.le_of_ble_eq_true rfl) (by decide) (Nat.le_of_ble_eq_true rfl) rfl ((congrFun V.1 _).trans (tx_s u hu)) (by decide) (C_X11_emit_T hu V (20001 : Int32) 20001 (show (20001 : Int32).toInt = 20001 from rfl) (by omega) (by omega)) ?_
            rintro _ g ⟨rfl, V, hq, hk⟩
            have hG := hq.trans hG
            have hK := hk.trans hK
            refine S_iinc (c := 1) rfl rfl rfl hx3 rfl (by omega) (fun vz19 hvz19 => ?_)
            refine LW_ls (ls' := [some (.ref 338), some (.int x1), some (.int x2), some (.int vz19), some (.int (0 : Int32))]) rfl ?_
            refine LW_goto (tgt := 8) rfl rfl ?_
            exact ih8 _ V hG hK hu hTt x1 y1 hx1 (by omega) x2 y2 hx2 (by omega) vz19 vz19.toInt rfl (by omega) (some (.int (0 : Int32)))   (by omega) (by omega)
      · refine X_aload_n rfl rfl rfl rfl ?_
        refine S_getI rfl rfl rfl ((congrFun V.1 338).trans s_338) rfl (fun vz20 evz20 => ?_)
        refine X_iload_n rfl rfl rfl rfl ?_
        refine S_icmp_ne (tgt := 20) rfl rfl rfl rfl (show (43 : Int32).toInt = 43 from rfl) (fun vh21 => ?_) (fun vh21 => ?_)
        · refine X_iconst (v := (0 : Int32)) rfl rfl rfl ?_
          refine LW_ireturn (st := []) rfl rfl rfl ?_
          refine S_if_ne (tgt := 40) rfl rfl rfl (show (0 : Int32).toInt = 0 from rfl) (fun q => absurd q (by omega)) (fun vh22 => ?_)
          refine X_aload_n rfl rfl rfl rfl ?_
          refine X_bipush (v := (45 : Int32)) rfl rfl rfl ?_
          refine X_callV (as := [.int (45 : Int32)]) (st := []) rfl rfl rfl (by decide) rfl (Nat.le_of_ble_eq_true rfl) (by decide) (Nat.le_of_ble_eq_true rfl) rfl ((congrFun V.1 338).trans s_338) (by decide) ?_
          refine LW_ls (ls' := [some (.ref 338), some (.int (45 : Int32))]) rfl ?_
          refine X_aload_n rfl rfl rfl rfl ?_
          refine X_getI (v := vz4) rfl rfl rfl ((congrFun V.1 338).trans s_338) rfl evz4 ?_
          refine X_iconst (v := (3 : Int32)) rfl rfl rfl ?_
          refine S_icmp_ne (tgt := 20) rfl rfl rfl rfl (show (3 : Int32).toInt = 3 from rfl) (fun q => absurd q (by omega)) (fun vh23 => ?_)
          refine X_aload_n rfl rfl rfl rfl ?_
          refine X_getI (v := vz20) rfl rfl rfl ((congrFun V.1 338).trans s_338) rfl evz20 ?_
          refine X_iload_n rfl rfl rfl rfl ?_
          refine S_icmp_ne (tgt := 20) rfl rfl rfl rfl (show (45 : Int32).toInt = 45 from rfl) (fun vh24 => ?_) (fun vh24 => ?_)
          · refine X_iconst (v := (0 : Int32)) rfl rfl rfl ?_
            refine LW_ireturn (st := []) rfl rfl rfl ?_
            refine S_if_eq (tgt := 85) rfl rfl rfl (show (0 : Int32).toInt = 0 from rfl) (fun vh25 => ?_) (fun q => absurd q (by omega))
            exact LW_return (st := []) rfl rfl ⟨rfl, V, hG, hK⟩
          · refine X_iconst (v := (1 : Int32)) rfl rfl rfl ?_
            refine LW_goto (tgt := 21) rfl rfl ?_
            refine LW_ireturn (st := []) rfl rfl rfl ?_
            refine S_if_eq (tgt := 85) rfl rfl rfl (show (1 : Int32).toInt = 1 from rfl) (fun q => absurd q (by omega)) (fun vh26 => ?_)
            refine X_aload_n rfl rfl rfl rfl ?_
            refine X_bipush (v := (43 : Int32)) rfl rfl rfl ?_
            refine X_callV (as := [.int (43 : Int32)]) (st := []) rfl rfl rfl (by decide) rfl (Nat.le_of_ble_eq_true rfl) (by decide) (Nat.le_of_ble_eq_true rfl) rfl ((congrFun V.1 338).trans s_338) (by decide) ?_
            refine LW_ls (ls' := [some (.ref 338), some (.int (43 : Int32))]) rfl ?_
            refine X_aload_n rfl rfl rfl rfl ?_
            refine X_getI (v := vz4) rfl rfl rfl ((congrFun V.1 338).trans s_338) rfl evz4 ?_
            refine X_iconst (v := (3 : Int32)) rfl rfl rfl ?_
            refine S_icmp_ne (tgt := 20) rfl rfl rfl rfl (show (3 : Int32).toInt = 3 from rfl) (fun q => absurd q (by omega)) (fun vh27 => ?_)
            refine X_aload_n rfl rfl rfl rfl ?_
            refine X_getI (v := vz20) rfl rfl rfl ((congrFun V.1 338).trans s_338) rfl evz20 ?_
            refine X_iload_n rfl rfl rfl rfl ?_
            refine S_icmp_ne (tgt := 20) rfl rfl rfl rfl (show (43 : Int32).toInt = 43 from rfl) (fun vh28 => ?_) (fun q => absurd q (by omega))
            refine X_iconst (v := (0 : Int32)) rfl rfl rfl ?_
            refine LW_ireturn (st := []) rfl rfl rfl ?_
            refine X_istore (i := 4) (ls' := [some (.ref 338), some (.int x1), some (.int x2), some (.int x3), some (.int (0 : Int32))]) rfl rfl (Nat.le_of_ble_eq_true rfl) rfl ?_
            refine X_aload_n rfl rfl rfl rfl ?_
            refine Y_callV (as := []) (st := []) rfl rfl rfl (by decide) rfl (Nat.le_of_ble_eq_true rfl) (by decide) (Nat.le_of_ble_eq_true rfl) rfl ((congrFun V.1 338).trans s_338) (by decide) (C_X8_next V hu ((congrFun (congrFun hG 338) 1).trans hTt)  ) ?_
            rintro _ g ⟨rfl, V, hq, hk⟩
            have hG := hq.trans hG
            have hK := hk.trans hK
            refine X_aload_n rfl rfl rfl rfl ?_
            refine X_iload_n rfl rfl rfl rfl ?_
            refine X_iload_n rfl rfl rfl rfl ?_
            refine Y_callV (as := [.int x1, .int x2]) (st := []) rfl rfl rfl (by decide) rfl (Nat.le_of_ble_eq_true rfl) (by decide) (Nat.le_of_ble_eq_true rfl) rfl ((congrFun V.1 338).trans s_338) (by decide) (LW_room (Nat.le_refl _) (Nat.le_refl _) (by omega) (ihr101 _ V hu ((congrFun (congrFun hG 338) 1).trans hTt) x1 y1 hx1 (by omega) x2 y2 hx2 (by omega)  (by omega))) ?_
            rintro _ g ⟨rfl, V, hq, hk⟩
            have hG := hq.trans hG
            have hK := hk.trans hK
            refine X_aload_n rfl rfl rfl rfl ?_
            refine X_getR (a := 292 + 10 * u) rfl rfl rfl ((congrFun V.1 338).trans s_338) rfl ((congrFun (congrFun hG 338) 1).trans hTt) ?_
            refine X_iload rfl rfl rfl ?_
            refine S_if_eq (tgt := 73) rfl rfl rfl (show (0 : Int32).toInt = 0 from rfl) (fun vh31 => ?_) (fun q => absurd q (by omega))
            refine X_sipush (v := (20001 : Int32)) rfl rfl rfl ?_
            refine Y_callV (as := [.int (20001 : Int32)]) (st := []) rfl rfl rfl (by decide) rfl (Nat.le_of_ble_eq_true rfl) (by decide) (Nat.le_of_ble_eq_true rfl) rfl ((congrFun V.1 _).trans (tx_s u hu)) (by decide) (C_X11_emit_T hu V (20001 : Int32) 20001 (show (20001 : Int32).toInt = 20001 from rfl) (by omega) (by omega)) ?_
            rintro _ g ⟨rfl, V, hq, hk⟩
            have hG := hq.trans hG
            have hK := hk.trans hK
            refine S_iinc (c := 1) rfl rfl rfl hx3 rfl (by omega) (fun vz33 hvz33 => ?_)
            refine LW_ls (ls' := [some (.ref 338), some (.int x1), some (.int x2), some (.int vz33), some (.int (0 : Int32))]) rfl ?_
            refine LW_goto (tgt := 8) rfl rfl ?_
            exact ih8 _ V hG hK hu hTt x1 y1 hx1 (by omega) x2 y2 hx2 (by omega) vz33 vz33.toInt rfl (by omega) (some (.int (0 : Int32)))   (by omega) (by omega)
        · refine X_iconst (v := (1 : Int32)) rfl rfl rfl ?_
          refine LW_goto (tgt := 21) rfl rfl ?_
          refine LW_ireturn (st := []) rfl rfl rfl ?_
          refine S_if_ne (tgt := 40) rfl rfl rfl (show (1 : Int32).toInt = 1 from rfl) (fun vh34 => ?_) (fun q => absurd q (by omega))
          refine X_aload_n rfl rfl rfl rfl ?_
          refine X_bipush (v := (43 : Int32)) rfl rfl rfl ?_
          refine X_callV (as := [.int (43 : Int32)]) (st := []) rfl rfl rfl (by decide) rfl (Nat.le_of_ble_eq_true rfl) (by decide) (Nat.le_of_ble_eq_true rfl) rfl ((congrFun V.1 338).trans s_338) (by decide) ?_
          refine LW_ls (ls' := [some (.ref 338), some (.int (43 : Int32))]) rfl ?_
          refine X_aload_n rfl rfl rfl rfl ?_
          refine X_getI (v := vz4) rfl rfl rfl ((congrFun V.1 338).trans s_338) rfl evz4 ?_
          refine X_iconst (v := (3 : Int32)) rfl rfl rfl ?_
          refine S_icmp_ne (tgt := 20) rfl rfl rfl rfl (show (3 : Int32).toInt = 3 from rfl) (fun q => absurd q (by omega)) (fun vh35 => ?_)
          refine X_aload_n rfl rfl rfl rfl ?_
          refine X_getI (v := vz20) rfl rfl rfl ((congrFun V.1 338).trans s_338) rfl evz20 ?_
          refine X_iload_n rfl rfl rfl rfl ?_
          refine S_icmp_ne (tgt := 20) rfl rfl rfl rfl (show (43 : Int32).toInt = 43 from rfl) (fun q => absurd q (by omega)) (fun vh36 => ?_)
          refine X_iconst (v := (1 : Int32)) rfl rfl rfl ?_
          refine LW_goto (tgt := 21) rfl rfl ?_
          refine LW_ireturn (st := []) rfl rfl rfl ?_
          refine X_istore (i := 4) (ls' := [some (.ref 338), some (.int x1), some (.int x2), some (.int x3), some (.int (1 : Int32))]) rfl rfl (Nat.le_of_ble_eq_true rfl) rfl ?_
          refine X_aload_n rfl rfl rfl rfl ?_
          refine Y_callV (as := []) (st := []) rfl rfl rfl (by decide) rfl (Nat.le_of_ble_eq_true rfl) (by decide) (Nat.le_of_ble_eq_true rfl) rfl ((congrFun V.1 338).trans s_338) (by decide) (C_X8_next V hu ((congrFun (congrFun hG 338) 1).trans hTt)  ) ?_
          rintro _ g ⟨rfl, V, hq, hk⟩
          have hG := hq.trans hG
          have hK := hk.trans hK
          refine X_aload_n rfl rfl rfl rfl ?_
          refine X_iload_n rfl rfl rfl rfl ?_
          refine X_iload_n rfl rfl rfl rfl ?_
          refine Y_callV (as := [.int x1, .int x2]) (st := []) rfl rfl rfl (by decide) rfl (Nat.le_of_ble_eq_true rfl) (by decide) (Nat.le_of_ble_eq_true rfl) rfl ((congrFun V.1 338).trans s_338) (by decide) (LW_room (Nat.le_refl _) (Nat.le_refl _) (by omega) (ihr101 _ V hu ((congrFun (congrFun hG 338) 1).trans hTt) x1 y1 hx1 (by omega) x2 y2 hx2 (by omega)  (by omega))) ?_
          rintro _ g ⟨rfl, V, hq, hk⟩
          have hG := hq.trans hG
          have hK := hk.trans hK
          refine X_aload_n rfl rfl rfl rfl ?_
          refine X_getR (a := 292 + 10 * u) rfl rfl rfl ((congrFun V.1 338).trans s_338) rfl ((congrFun (congrFun hG 338) 1).trans hTt) ?_
          refine X_iload rfl rfl rfl ?_
          refine S_if_eq (tgt := 73) rfl rfl rfl (show (1 : Int32).toInt = 1 from rfl) (fun q => absurd q (by omega)) (fun vh39 => ?_)
          refine X_sipush (v := (20000 : Int32)) rfl rfl rfl ?_
          refine LW_goto (tgt := 76) rfl rfl ?_
          refine Y_callV (as := [.int (20000 : Int32)]) (st := []) rfl rfl rfl (by decide) rfl (Nat.le_of_ble_eq_true rfl) (by decide) (Nat.le_of_ble_eq_true rfl) rfl ((congrFun V.1 _).trans (tx_s u hu)) (by decide) (C_X11_emit_T hu V (20000 : Int32) 20000 (show (20000 : Int32).toInt = 20000 from rfl) (by omega) (by omega)) ?_
          rintro _ g ⟨rfl, V, hq, hk⟩
          have hG := hq.trans hG
          have hK := hk.trans hK
          refine S_iinc (c := 1) rfl rfl rfl hx3 rfl (by omega) (fun vz41 hvz41 => ?_)
          refine LW_ls (ls' := [some (.ref 338), some (.int x1), some (.int x2), some (.int vz41), some (.int (1 : Int32))]) rfl ?_
          refine LW_goto (tgt := 8) rfl rfl ?_
          exact ih8 _ V hG hK hu hTt x1 y1 hx1 (by omega) x2 y2 hx2 (by omega) vz41 vz41.toInt rfl (by omega) (some (.int (1 : Int32)))   (by omega) (by omega)
theorem C_X8_readSum_all {P : Par} {g0 : LH} {d m : Nat} (ihr101 : ∀ (g : LH) (V : Inv P g) {u : Nat} (hu : u < 4) (hTt : Gr g 338 1 = some (292 + 10 * u)) (x1 : Int32) (y1 : Int) (hx1 : x1.toInt = y1) (hf1 : 0 ≤ y1 ∧ y1 ≤ 3) (x2 : Int32) (y2 : Int) (hx2 : x2.toInt = y2) (hf2 : 0 ≤ y2 ∧ y2 ≤ 8) , 9 - y2 < ((m : Nat) : Int) → LW 101 (d + 3 * m + 13) 0 0 0 (lEnt (mL 101) [.ref 338, .int x1, .int x2]) [] g (fun v g' => v = none ∧ Inv P g' ∧ Gr g' = Gr g ∧ Gi g' 1 5 = Gi g 1 5)) : ∀ n : Nat, (∀ (g : LH) (V : Inv P g) (hG : Gr g = Gr g0) (hK : Gi g 1 5 = Gi g0 1 5) {u : Nat} (hu : u < 4) (hTt : Gr g0 338 1 = some (292 + 10 * u)) (x1 : Int32) (y1 : Int) (hx1 : x1.toInt = y1) (hf1 : 0 ≤ y1 ∧ y1 ≤ 3) (x2 : Int32) (y2 : Int) (hx2 : x2.toInt = y2) (hf2 : 0 ≤ y2 ∧ y2 ≤ 8) (x3 : Int32) (y3 : Int) (hx3 : x3.toInt = y3) (hf3 : 0 ≤ y3 ∧ y3 ≤ 301) (o4 : Option Value) (hlev : 9 - y2 < ((m : Nat) : Int)), (301 - y3) * 1 + 0 < (n : Int) → LW 100 (d + 3 * m + 14) 0 0 8 [some (.ref 338), some (.int x1), some (.int x2), some (.int x3), o4] [] g (fun v g' => v = none ∧ Inv P g' ∧ Gr g' = Gr g0 ∧ Gi g' 1 5 = Gi g0 1 5)) := by
  intro n
  induction n with
  | zero => exact fun g V hG hK u hu hTt x1 y1 hx1 hf1 x2 y2 hx2 hf2 x3 y3 hx3 hf3 o4 hlev hmu => absurd hmu (by omega)
  | succ n ih => exact fun g V hG hK u hu hTt x1 y1 hx1 hf1 x2 y2 hx2 hf2 x3 y3 hx3 hf3 o4 hlev hmu => C_X8_readSum_8 ihr101 V hG hK hu hTt x1 y1 hx1 hf1 x2 y2 hx2 hf2 x3 y3 hx3 hf3 o4 hlev (by omega) ih
set_option maxRecDepth 10000 in
set_option maxHeartbeats 40000000 in
theorem C_X8_readSum_s {P : Par} {g : LH} {d m : Nat} (ihr101 : ∀ (g : LH) (V : Inv P g) {u : Nat} (hu : u < 4) (hTt : Gr g 338 1 = some (292 + 10 * u)) (x1 : Int32) (y1 : Int) (hx1 : x1.toInt = y1) (hf1 : 0 ≤ y1 ∧ y1 ≤ 3) (x2 : Int32) (y2 : Int) (hx2 : x2.toInt = y2) (hf2 : 0 ≤ y2 ∧ y2 ≤ 8) , 9 - y2 < ((m : Nat) : Int) → LW 101 (d + 3 * m + 13) 0 0 0 (lEnt (mL 101) [.ref 338, .int x1, .int x2]) [] g (fun v g' => v = none ∧ Inv P g' ∧ Gr g' = Gr g ∧ Gi g' 1 5 = Gi g 1 5)) (V : Inv P g) {u : Nat} (hu : u < 4) (hTt : Gr g 338 1 = some (292 + 10 * u)) (x1 : Int32) (y1 : Int) (hx1 : x1.toInt = y1) (hf1 : 0 ≤ y1 ∧ y1 ≤ 3) (x2 : Int32) (y2 : Int) (hx2 : x2.toInt = y2) (hf2 : 0 ≤ y2 ∧ y2 ≤ 8)  (hlev : 9 - y2 < ((m : Nat) : Int)) : LW 100 (d + 3 * m + 14) 0 0 0 (lEnt (mL 100) [.ref 338, .int x1, .int x2]) [] g (fun v g' => v = none ∧ Inv P g' ∧ Gr g' = Gr g ∧ Gi g' 1 5 = Gi g 1 5) := by
  refine LW_ls (ls' := [some (.ref 338), some (.int x1), some (.int x2), none, none]) rfl ?_
  have hG : Gr g = Gr g := rfl
  have hK : Gi g 1 5 = Gi g 1 5 := rfl
  refine X_aload_n rfl rfl rfl rfl ?_
  refine X_iload_n rfl rfl rfl rfl ?_
  refine X_iload_n rfl rfl rfl rfl ?_
  refine Y_callV (as := [.int x1, .int x2]) (st := []) rfl rfl rfl (by decide) rfl (Nat.le_of_ble_eq_true rfl) (by decide) (Nat.le_of_ble_eq_true rfl) rfl ((congrFun V.1 338).trans s_338) (by decide) (LW_room (Nat.le_refl _) (Nat.le_refl _) (by omega) (ihr101 _ V hu ((congrFun (congrFun hG 338) 1).trans hTt) x1 y1 hx1 (by omega) x2 y2 hx2 (by omega)  (by omega))) ?_
  rintro _ g ⟨rfl, V, hq, hk⟩
  have hG := hq.trans hG
  have hK := hk.trans hK
  refine X_iconst (v := (0 : Int32)) rfl rfl rfl ?_
  refine X_istore_n (i := 3) (ls' := [some (.ref 338), some (.int x1), some (.int x2), some (.int (0 : Int32)), none]) rfl rfl rfl (Nat.le_of_ble_eq_true rfl) rfl ?_
  exact (C_X8_readSum_all ihr101 (((301 - 0) * 1 + 0) + 1 : Int).toNat) _ V hG hK hu hTt x1 y1 hx1 (by omega) x2 y2 hx2 (by omega) (0 : Int32) 0 (show (0 : Int32).toInt = 0 from rfl) (by omega) none   (by omega) (by omega)
theorem C_grp {P : Par} {d : Nat} : ∀ m : Nat, (∀ (g : LH) (V : Inv P g) {u : Nat} (hu : u < 4) (hTt : Gr g 338 1 = some (292 + 10 * u)) (x1 : Int32) (y1 : Int) (hx1 : x1.toInt = y1) (hf1 : 0 ≤ y1 ∧ y1 ≤ 3) (x2 : Int32) (y2 : Int) (hx2 : x2.toInt = y2) (hf2 : 0 ≤ y2 ∧ y2 ≤ 8) , 9 - y2 < ((m : Nat) : Int) → LW 102 (d + 3 * m + 12) 0 0 0 (lEnt (mL 102) [.ref 338, .int x1, .int x2]) [] g (fun v g' => v = none ∧ Inv P g' ∧ Gr g' = Gr g ∧ Gi g' 1 5 = Gi g 1 5)) ∧ (∀ (g : LH) (V : Inv P g) {u : Nat} (hu : u < 4) (hTt : Gr g 338 1 = some (292 + 10 * u)) (x1 : Int32) (y1 : Int) (hx1 : x1.toInt = y1) (hf1 : 0 ≤ y1 ∧ y1 ≤ 3) (x2 : Int32) (y2 : Int) (hx2 : x2.toInt = y2) (hf2 : 0 ≤ y2 ∧ y2 ≤ 8) , 9 - y2 < ((m : Nat) : Int) → LW 101 (d + 3 * m + 13) 0 0 0 (lEnt (mL 101) [.ref 338, .int x1, .int x2]) [] g (fun v g' => v = none ∧ Inv P g' ∧ Gr g' = Gr g ∧ Gi g' 1 5 = Gi g 1 5)) ∧ (∀ (g : LH) (V : Inv P g) {u : Nat} (hu : u < 4) (hTt : Gr g 338 1 = some (292 + 10 * u)) (x1 : Int32) (y1 : Int) (hx1 : x1.toInt = y1) (hf1 : 0 ≤ y1 ∧ y1 ≤ 3) (x2 : Int32) (y2 : Int) (hx2 : x2.toInt = y2) (hf2 : 0 ≤ y2 ∧ y2 ≤ 8) , 9 - y2 < ((m : Nat) : Int) → LW 100 (d + 3 * m + 14) 0 0 0 (lEnt (mL 100) [.ref 338, .int x1, .int x2]) [] g (fun v g' => v = none ∧ Inv P g' ∧ Gr g' = Gr g ∧ Gi g' 1 5 = Gi g 1 5)) := by
  have hclose : ∀ m : Nat, (∀ (g : LH) (V : Inv P g) {u : Nat} (hu : u < 4) (hTt : Gr g 338 1 = some (292 + 10 * u)) (x1 : Int32) (y1 : Int) (hx1 : x1.toInt = y1) (hf1 : 0 ≤ y1 ∧ y1 ≤ 3) (x2 : Int32) (y2 : Int) (hx2 : x2.toInt = y2) (hf2 : 0 ≤ y2 ∧ y2 ≤ 8) , 9 - y2 < ((m : Nat) : Int) → LW 102 (d + 3 * m + 12) 0 0 0 (lEnt (mL 102) [.ref 338, .int x1, .int x2]) [] g (fun v g' => v = none ∧ Inv P g' ∧ Gr g' = Gr g ∧ Gi g' 1 5 = Gi g 1 5)) → (∀ (g : LH) (V : Inv P g) {u : Nat} (hu : u < 4) (hTt : Gr g 338 1 = some (292 + 10 * u)) (x1 : Int32) (y1 : Int) (hx1 : x1.toInt = y1) (hf1 : 0 ≤ y1 ∧ y1 ≤ 3) (x2 : Int32) (y2 : Int) (hx2 : x2.toInt = y2) (hf2 : 0 ≤ y2 ∧ y2 ≤ 8) , 9 - y2 < ((m : Nat) : Int) → LW 102 (d + 3 * m + 12) 0 0 0 (lEnt (mL 102) [.ref 338, .int x1, .int x2]) [] g (fun v g' => v = none ∧ Inv P g' ∧ Gr g' = Gr g ∧ Gi g' 1 5 = Gi g 1 5)) ∧ (∀ (g : LH) (V : Inv P g) {u : Nat} (hu : u < 4) (hTt : Gr g 338 1 = some (292 + 10 * u)) (x1 : Int32) (y1 : Int) (hx1 : x1.toInt = y1) (hf1 : 0 ≤ y1 ∧ y1 ≤ 3) (x2 : Int32) (y2 : Int) (hx2 : x2.toInt = y2) (hf2 : 0 ≤ y2 ∧ y2 ≤ 8) , 9 - y2 < ((m : Nat) : Int) → LW 101 (d + 3 * m + 13) 0 0 0 (lEnt (mL 101) [.ref 338, .int x1, .int x2]) [] g (fun v g' => v = none ∧ Inv P g' ∧ Gr g' = Gr g ∧ Gi g' 1 5 = Gi g 1 5)) ∧ (∀ (g : LH) (V : Inv P g) {u : Nat} (hu : u < 4) (hTt : Gr g 338 1 = some (292 + 10 * u)) (x1 : Int32) (y1 : Int) (hx1 : x1.toInt = y1) (hf1 : 0 ≤ y1 ∧ y1 ≤ 3) (x2 : Int32) (y2 : Int) (hx2 : x2.toInt = y2) (hf2 : 0 ≤ y2 ∧ y2 ≤ 8) , 9 - y2 < ((m : Nat) : Int) → LW 100 (d + 3 * m + 14) 0 0 0 (lEnt (mL 100) [.ref 338, .int x1, .int x2]) [] g (fun v g' => v = none ∧ Inv P g' ∧ Gr g' = Gr g ∧ Gi g' 1 5 = Gi g 1 5)) := by
    intro m hO
    have hP : (∀ (g : LH) (V : Inv P g) {u : Nat} (hu : u < 4) (hTt : Gr g 338 1 = some (292 + 10 * u)) (x1 : Int32) (y1 : Int) (hx1 : x1.toInt = y1) (hf1 : 0 ≤ y1 ∧ y1 ≤ 3) (x2 : Int32) (y2 : Int) (hx2 : x2.toInt = y2) (hf2 : 0 ≤ y2 ∧ y2 ≤ 8) , 9 - y2 < ((m : Nat) : Int) → LW 101 (d + 3 * m + 13) 0 0 0 (lEnt (mL 101) [.ref 338, .int x1, .int x2]) [] g (fun v g' => v = none ∧ Inv P g' ∧ Gr g' = Gr g ∧ Gi g' 1 5 = Gi g 1 5)) := fun g V u hu hTt x1 y1 hx1 hf1 x2 y2 hx2 hf2 hlev => C_X8_readProduct_s hO V hu hTt x1 y1 hx1 hf1 x2 y2 hx2 hf2 hlev
    exact ⟨hO, hP, fun g V u hu hTt x1 y1 hx1 hf1 x2 y2 hx2 hf2 hlev => C_X8_readSum_s hP V hu hTt x1 y1 hx1 hf1 x2 y2 hx2 hf2 hlev⟩
  intro m
  induction m with
  | zero => exact hclose 0 (fun g V u hu hTt x1 y1 hx1 hf1 x2 y2 hx2 hf2 hlev => absurd hlev (by omega))
  | succ m ih => exact hclose (m + 1) (fun g V u hu hTt x1 y1 hx1 hf1 x2 y2 hx2 hf2 hlev => C_X8_readOne_s ih.1 ih.2.2 V hu hTt x1 y1 hx1 hf1 x2 y2 hx2 hf2 hlev)
theorem C_X8_readSum {P : Par} {g : LH} {d : Nat} (V : Inv P g) {u : Nat} (hu : u < 4) (hTt : Gr g 338 1 = some (292 + 10 * u)) (x1 : Int32) (y1 : Int) (hx1 : x1.toInt = y1) (hf1 : 0 ≤ y1 ∧ y1 ≤ 3) (x2 : Int32) (y2 : Int) (hx2 : x2.toInt = y2) (hf2 : 0 ≤ y2 ∧ y2 ≤ 8)  : LW 100 (d + 44) 0 0 0 (lEnt (mL 100) [.ref 338, .int x1, .int x2]) [] g (fun v g' => v = none ∧ Inv P g' ∧ Gr g' = Gr g ∧ Gi g' 1 5 = Gi g 1 5) :=
  LW_room (Nat.le_refl _) (Nat.le_refl _) (by omega) ((C_grp (d := d) 10).2.2 _ V hu hTt x1 y1 hx1 hf1 x2 y2 hx2 hf2 (by omega))
