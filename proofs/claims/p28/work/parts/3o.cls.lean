/-! the class's methods: each returns and keeps what every state keeps -/
set_option maxRecDepth 10000 in
set_option maxHeartbeats 40000000 in
theorem C_X12_hair_21 {P : Par} {g : LH} {d n : Nat}  (V : Inv P g) (x1 : Int32) (y1 : Int) (hx1 : x1.toInt = y1) (hf1 : 0 ≤ y1 ∧ y1 ≤ 23) (x2 : Int32) (y2 : Int) (hx2 : x2.toInt = y2) (x3 : Int32) (y3 : Int) (hx3 : x3.toInt = y3) (x4 : Int32) (y4 : Int) (hx4 : x4.toInt = y4) (hf4 : 0 ≤ y4 ∧ y4 ≤ 24) (hc2_0 : 1 ≤ (Gi g 2 0).toInt ∧ (Gi g 2 0).toInt ≤ 24) (hmu : (24 - y4) * 1 + 0 < (n : Int) + 1) (ih21 : ∀ (V : Inv P g) (x1 : Int32) (y1 : Int) (hx1 : x1.toInt = y1) (hf1 : 0 ≤ y1 ∧ y1 ≤ 23) (x2 : Int32) (y2 : Int) (hx2 : x2.toInt = y2) (x3 : Int32) (y3 : Int) (hx3 : x3.toInt = y3) (x4 : Int32) (y4 : Int) (hx4 : x4.toInt = y4) (hf4 : 0 ≤ y4 ∧ y4 ≤ 24) (hc2_0 : 1 ≤ (Gi g 2 0).toInt ∧ (Gi g 2 0).toInt ≤ 24), (24 - y4) * 1 + 0 < (n : Int) → LW 159 (d + 10) 0 0 21 [some (.ref 0), some (.int x1), some (.int x2), some (.int x3), some (.int x4)] [] g (fun v g' => ∃ r : Int32, v = some (.int r) ∧ g = g')) : LW 159 (d + 10) 0 0 21 [some (.ref 0), some (.int x1), some (.int x2), some (.int x3), some (.int x4)] [] g (fun v g' => ∃ r : Int32, v = some (.int r) ∧ g = g') := by
  obtain ⟨vz1, evz1⟩ : ∃ z, Gi g 2 0 = z := ⟨_, rfl⟩
  rw [evz1] at hc2_0
  refine X_iload rfl rfl rfl ?_
  refine X_aload_n rfl rfl rfl rfl ?_
  refine X_getR (a := 1) rfl rfl rfl ((congrFun V.1 0).trans s_0) rfl ((congrFun (V.2.1 0 (by decide)) 0).trans r_0_0) ?_
  refine X_getR (a := 2) rfl rfl rfl ((congrFun V.1 1).trans s_1) rfl ((congrFun (V.2.1 1 (by decide)) 0).trans r_1_0) ?_
  refine X_getI (v := vz1) rfl rfl rfl ((congrFun V.1 2).trans s_2) rfl evz1 ?_
  refine S_icmp_ge (tgt := 70) rfl rfl rfl hx4 rfl (fun vh2 => ?_) (fun vh2 => ?_)
  · refine X_iload_n rfl rfl rfl rfl ?_
    refine X_iconst (v := (-1 : Int32)) rfl rfl rfl ?_
    refine S_icmp_ne (tgt := 79) rfl rfl rfl hx2 (show (-1 : Int32).toInt = -1 from rfl) (fun vh3 => ?_) (fun vh3 => ?_)
    · refine X_iconst (v := (-1 : Int32)) rfl rfl rfl ?_
      exact LW_ireturn (st := []) rfl rfl rfl ⟨_, rfl, rfl⟩
    · refine X_iload_n rfl rfl rfl rfl ?_
      refine LW_goto (tgt := 80) rfl rfl ?_
      exact LW_ireturn (st := []) rfl rfl rfl ⟨_, rfl, rfl⟩
  · refine X_aload_n rfl rfl rfl rfl ?_
    refine X_getR (a := 1) rfl rfl rfl ((congrFun V.1 0).trans s_0) rfl ((congrFun (V.2.1 0 (by decide)) 0).trans r_0_0) ?_
    refine X_getR (a := 2) rfl rfl rfl ((congrFun V.1 1).trans s_1) rfl ((congrFun (V.2.1 1 (by decide)) 0).trans r_1_0) ?_
    refine X_iload_n rfl rfl rfl rfl ?_
    refine X_iload rfl rfl rfl ?_
    refine Y_callV (as := [.int x1, .int x4]) (st := []) rfl rfl rfl (by decide) rfl (Nat.le_of_ble_eq_true rfl) (by decide) (Nat.le_of_ble_eq_true rfl) rfl ((congrFun V.1 2).trans s_2) (by decide) (C_X5_placesUnlike V x1 y1 hx1 (by omega) x4 y4 hx4 (by omega) ) ?_
    rintro _ g' ⟨vr4, rfl, hgg⟩
    subst hgg
    refine X_iconst (v := (1 : Int32)) rfl rfl rfl ?_
    refine S_icmp_ne (tgt := 64) rfl rfl rfl rfl (show (1 : Int32).toInt = 1 from rfl) (fun vh5 => ?_) (fun vh5 => ?_)
    · refine S_iinc (c := 1) rfl rfl rfl hx4 rfl (by omega) (fun vz6 hvz6 => ?_)
      refine LW_ls (ls' := [some (.ref 0), some (.int x1), some (.int x2), some (.int x3), some (.int vz6)]) rfl ?_
      refine LW_goto (tgt := 21) rfl rfl ?_
      exact ih21 V x1 y1 hx1 (by omega) x2 y2 hx2 x3 y3 hx3 vz6 vz6.toInt rfl (by omega) (by rw [evz1]; omega)   (by omega)
    · refine X_iload_n rfl rfl rfl rfl ?_
      refine X_iload_n rfl rfl rfl rfl ?_
      refine S_icmp_ne (tgt := 61) rfl rfl rfl hx3 hx2 (fun vh7 => ?_) (fun vh7 => ?_)
      · refine S_iincT rfl rfl rfl (fun vz8 => ?_)
        refine LW_ls (ls' := [some (.ref 0), some (.int x1), some (.int x2), some (.int vz8), some (.int x4)]) rfl ?_
        refine S_iinc (c := 1) rfl rfl rfl hx4 rfl (by omega) (fun vz9 hvz9 => ?_)
        refine LW_ls (ls' := [some (.ref 0), some (.int x1), some (.int x2), some (.int vz8), some (.int vz9)]) rfl ?_
        refine LW_goto (tgt := 21) rfl rfl ?_
        exact ih21 V x1 y1 hx1 (by omega) x2 y2 hx2 vz8 vz8.toInt rfl vz9 vz9.toInt rfl (by omega) (by rw [evz1]; omega)   (by omega)
      · refine X_iload rfl rfl rfl ?_
        exact LW_ireturn (st := []) rfl rfl rfl ⟨_, rfl, rfl⟩
theorem C_X12_hair_all {P : Par} {g : LH} {d : Nat}  : ∀ n : Nat, (∀ (V : Inv P g) (x1 : Int32) (y1 : Int) (hx1 : x1.toInt = y1) (hf1 : 0 ≤ y1 ∧ y1 ≤ 23) (x2 : Int32) (y2 : Int) (hx2 : x2.toInt = y2) (x3 : Int32) (y3 : Int) (hx3 : x3.toInt = y3) (x4 : Int32) (y4 : Int) (hx4 : x4.toInt = y4) (hf4 : 0 ≤ y4 ∧ y4 ≤ 24) (hc2_0 : 1 ≤ (Gi g 2 0).toInt ∧ (Gi g 2 0).toInt ≤ 24), (24 - y4) * 1 + 0 < (n : Int) → LW 159 (d + 10) 0 0 21 [some (.ref 0), some (.int x1), some (.int x2), some (.int x3), some (.int x4)] [] g (fun v g' => ∃ r : Int32, v = some (.int r) ∧ g = g')) := by
  intro n
  induction n with
  | zero => exact fun V x1 y1 hx1 hf1 x2 y2 hx2 x3 y3 hx3 x4 y4 hx4 hf4 hc2_0 hmu => absurd hmu (by omega)
  | succ n ih => exact fun V x1 y1 hx1 hf1 x2 y2 hx2 x3 y3 hx3 x4 y4 hx4 hf4 hc2_0 hmu => C_X12_hair_21  V x1 y1 hx1 hf1 x2 y2 hx2 x3 y3 hx3 x4 y4 hx4 hf4 hc2_0 (by omega) ih
set_option maxRecDepth 10000 in
set_option maxHeartbeats 40000000 in
theorem C_X12_hair {P : Par} {g : LH} {d : Nat}  (V : Inv P g) (x1 : Int32) (y1 : Int) (hx1 : x1.toInt = y1) (x2 : Int32) (y2 : Int) (hx2 : x2.toInt = y2)   : LW 159 (d + 10) 0 0 0 (lEnt (mL 159) [.ref 0, .int x1, .int x2]) [] g (fun v g' => ∃ r : Int32, v = some (.int r) ∧ g = g') := by
  refine LW_ls (ls' := [some (.ref 0), some (.int x1), some (.int x2), none, none]) rfl ?_
  refine X_aload_n rfl rfl rfl rfl ?_
  refine X_getR (a := 1) rfl rfl rfl ((congrFun V.1 0).trans s_0) rfl ((congrFun (V.2.1 0 (by decide)) 0).trans r_0_0) ?_
  refine X_getR (a := 2) rfl rfl rfl ((congrFun V.1 1).trans s_1) rfl ((congrFun (V.2.1 1 (by decide)) 0).trans r_1_0) ?_
  refine X_iload_n rfl rfl rfl rfl ?_
  refine X_callV (as := [.int x1]) (st := []) rfl rfl rfl (by decide) rfl (Nat.le_of_ble_eq_true rfl) (by decide) (Nat.le_of_ble_eq_true rfl) rfl ((congrFun V.1 2).trans s_2) (by decide) ?_
  refine LW_ls (ls' := [some (.ref 2), some (.int x1)]) rfl ?_
  refine X_iload_n rfl rfl rfl rfl ?_
  refine S_if_lt (tgt := 22) rfl rfl rfl hx1 (fun vh1 => ?_) (fun vh1 => ?_)
  · refine X_iconst (v := (0 : Int32)) rfl rfl rfl ?_
    refine LW_ireturn (st := []) rfl rfl rfl ?_
    refine S_if_ne (tgt := 16) rfl rfl rfl (show (0 : Int32).toInt = 0 from rfl) (fun q => absurd q (by omega)) (fun vh2 => ?_)
    refine X_iconst (v := (-1 : Int32)) rfl rfl rfl ?_
    exact LW_ireturn (st := []) rfl rfl rfl ⟨_, rfl, rfl⟩
  · refine X_iload_n rfl rfl rfl rfl ?_
    refine X_aload_n rfl rfl rfl rfl ?_
    refine S_getI rfl rfl rfl ((congrFun V.1 2).trans s_2) rfl (fun vz3 evz3 => ?_)
    have vf4 := K_10_0 (V.2.2.2.2.1 (2) (0) (Nat.le_of_ble_eq_true rfl)) rk_2
    rw [evz3] at vf4
    refine S_icmp_ge (tgt := 22) rfl rfl rfl hx1 rfl (fun vh5 => ?_) (fun vh5 => ?_)
    · refine X_iconst (v := (0 : Int32)) rfl rfl rfl ?_
      refine LW_ireturn (st := []) rfl rfl rfl ?_
      refine S_if_ne (tgt := 16) rfl rfl rfl (show (0 : Int32).toInt = 0 from rfl) (fun q => absurd q (by omega)) (fun vh6 => ?_)
      refine X_iconst (v := (-1 : Int32)) rfl rfl rfl ?_
      exact LW_ireturn (st := []) rfl rfl rfl ⟨_, rfl, rfl⟩
    · refine X_iload_n rfl rfl rfl rfl ?_
      refine X_bipush (v := (24 : Int32)) rfl rfl rfl ?_
      refine S_icmp_ge (tgt := 22) rfl rfl rfl hx1 (show (24 : Int32).toInt = 24 from rfl) (fun q => absurd q (by omega)) (fun vh7 => ?_)
      refine X_iconst (v := (1 : Int32)) rfl rfl rfl ?_
      refine LW_goto (tgt := 23) rfl rfl ?_
      refine LW_ireturn (st := []) rfl rfl rfl ?_
      refine S_if_ne (tgt := 16) rfl rfl rfl (show (1 : Int32).toInt = 1 from rfl) (fun vh8 => ?_) (fun q => absurd q (by omega))
      refine X_iconst (v := (0 : Int32)) rfl rfl rfl ?_
      refine X_istore_n (i := 3) (ls' := [some (.ref 0), some (.int x1), some (.int x2), some (.int (0 : Int32)), none]) rfl rfl rfl (Nat.le_of_ble_eq_true rfl) rfl ?_
      refine X_iconst (v := (0 : Int32)) rfl rfl rfl ?_
      refine X_istore (i := 4) (ls' := [some (.ref 0), some (.int x1), some (.int x2), some (.int (0 : Int32)), some (.int (0 : Int32))]) rfl rfl (Nat.le_of_ble_eq_true rfl) rfl ?_
      exact (C_X12_hair_all (((24 - 0) * 1 + 0) + 1 : Int).toNat) V x1 y1 hx1 (by omega) x2 y2 hx2 (0 : Int32) 0 (show (0 : Int32).toInt = 0 from rfl) (0 : Int32) 0 (show (0 : Int32).toInt = 0 from rfl) (by omega) (by rw [evz3]; omega)   (by omega)
set_option maxRecDepth 10000 in
set_option maxHeartbeats 40000000 in
theorem C_X12_printed {P : Par} {g : LH} {d : Nat}  (V : Inv P g) (x1 : Int32) (y1 : Int) (hx1 : x1.toInt = y1) (x2 : Int32) (y2 : Int) (hx2 : x2.toInt = y2) (x3 : Int32) (y3 : Int) (hx3 : x3.toInt = y3) (hf3 : 0 ≤ y3 ∧ y3 ≤ 1)   : LW 160 (d + 4) 0 0 0 (lEnt (mL 160) [.ref 0, .int x1, .int x2, .int x3]) [] g (fun v g' => ∃ r : Int32, v = some (.int r) ∧ (-2) ≤ r.toInt ∧ r.toInt ≤ 12 ∧ Inv P g' ∧ Gr g' = Gr g) := by
  refine LW_ls (ls' := [some (.ref 0), some (.int x1), some (.int x2), some (.int x3)]) rfl ?_
  have hG : Gr g = Gr g := rfl
  refine X_iload_n rfl rfl rfl rfl ?_
  refine X_iconst (v := (-1 : Int32)) rfl rfl rfl ?_
  refine S_icmp_ne (tgt := 15) rfl rfl rfl hx1 (show (-1 : Int32).toInt = -1 from rfl) (fun vh1 => ?_) (fun vh1 => ?_)
  · refine X_aload_n rfl rfl rfl rfl ?_
    refine X_getR (a := 1) rfl rfl rfl ((congrFun V.1 0).trans s_0) rfl ((congrFun (V.2.1 0 (by decide)) 0).trans r_0_0) ?_
    refine X_getR (a := 2) rfl rfl rfl ((congrFun V.1 1).trans s_1) rfl ((congrFun (V.2.1 1 (by decide)) 0).trans r_1_0) ?_
    refine X_iload_n rfl rfl rfl rfl ?_
    refine X_callV (as := [.int x1]) (st := []) rfl rfl rfl (by decide) rfl (Nat.le_of_ble_eq_true rfl) (by decide) (Nat.le_of_ble_eq_true rfl) rfl ((congrFun V.1 2).trans s_2) (by decide) ?_
    refine LW_ls (ls' := [some (.ref 2), some (.int x1)]) rfl ?_
    refine X_iload_n rfl rfl rfl rfl ?_
    refine S_if_lt (tgt := 22) rfl rfl rfl hx1 (fun vh2 => ?_) (fun vh2 => ?_)
    · refine X_iconst (v := (0 : Int32)) rfl rfl rfl ?_
      refine LW_ireturn (st := []) rfl rfl rfl ?_
      refine S_if_eq (tgt := 39) rfl rfl rfl (show (0 : Int32).toInt = 0 from rfl) (fun vh3 => ?_) (fun q => absurd q (by omega))
      refine X_bipush (v := (-2 : Int32)) rfl rfl rfl ?_
      exact LW_ireturn (st := []) rfl rfl rfl ⟨_, rfl, by decide, by decide, V, hG⟩
    · refine X_iload_n rfl rfl rfl rfl ?_
      refine X_aload_n rfl rfl rfl rfl ?_
      refine S_getI rfl rfl rfl ((congrFun V.1 2).trans s_2) rfl (fun vz4 evz4 => ?_)
      have vf5 := K_10_0 (V.2.2.2.2.1 (2) (0) (Nat.le_of_ble_eq_true rfl)) rk_2
      rw [evz4] at vf5
      refine S_icmp_ge (tgt := 22) rfl rfl rfl hx1 rfl (fun vh6 => ?_) (fun vh6 => ?_)
      · refine X_iconst (v := (0 : Int32)) rfl rfl rfl ?_
        refine LW_ireturn (st := []) rfl rfl rfl ?_
        refine S_if_eq (tgt := 39) rfl rfl rfl (show (0 : Int32).toInt = 0 from rfl) (fun vh7 => ?_) (fun q => absurd q (by omega))
        refine X_bipush (v := (-2 : Int32)) rfl rfl rfl ?_
        exact LW_ireturn (st := []) rfl rfl rfl ⟨_, rfl, by decide, by decide, V, hG⟩
      · refine X_iload_n rfl rfl rfl rfl ?_
        refine X_bipush (v := (24 : Int32)) rfl rfl rfl ?_
        refine S_icmp_ge (tgt := 22) rfl rfl rfl hx1 (show (24 : Int32).toInt = 24 from rfl) (fun q => absurd q (by omega)) (fun vh8 => ?_)
        refine X_iconst (v := (1 : Int32)) rfl rfl rfl ?_
        refine LW_goto (tgt := 23) rfl rfl ?_
        refine LW_ireturn (st := []) rfl rfl rfl ?_
        refine S_if_eq (tgt := 39) rfl rfl rfl (show (1 : Int32).toInt = 1 from rfl) (fun q => absurd q (by omega)) (fun vh9 => ?_)
        refine X_iload_n rfl rfl rfl rfl ?_
        refine S_if_lt (tgt := 39) rfl rfl rfl hx2 (fun vh10 => ?_) (fun vh10 => ?_)
        · refine X_bipush (v := (-2 : Int32)) rfl rfl rfl ?_
          exact LW_ireturn (st := []) rfl rfl rfl ⟨_, rfl, by decide, by decide, V, hG⟩
        · refine X_iload_n rfl rfl rfl rfl ?_
          refine X_bipush (v := (31 : Int32)) rfl rfl rfl ?_
          refine S_icmp_lt (tgt := 42) rfl rfl rfl hx2 (show (31 : Int32).toInt = 31 from rfl) (fun vh11 => ?_) (fun vh11 => ?_)
          · refine X_aload_n rfl rfl rfl rfl ?_
            refine X_getR (a := 1) rfl rfl rfl ((congrFun V.1 0).trans s_0) rfl ((congrFun (V.2.1 0 (by decide)) 0).trans r_0_0) ?_
            refine S_getI rfl rfl rfl ((congrFun V.1 1).trans s_1) rfl (fun vz12 evz12 => ?_)
            have vf13 := K_13_9 (V.2.2.2.2.1 (1) (9) (Nat.le_of_ble_eq_true rfl)) rk_1
            rw [evz12] at vf13
            refine X_bipush (v := (12 : Int32)) rfl rfl rfl ?_
            refine S_icmp_lt (tgt := 57) rfl rfl rfl rfl (show (12 : Int32).toInt = 12 from rfl) (fun vh14 => ?_) (fun vh14 => ?_)
            · refine X_aload_n rfl rfl rfl rfl ?_
              refine X_getR (a := 1) rfl rfl rfl ((congrFun V.1 0).trans s_0) rfl ((congrFun (V.2.1 0 (by decide)) 0).trans r_0_0) ?_
              refine X_getR (a := 143) rfl rfl rfl ((congrFun V.1 1).trans s_1) rfl ((congrFun (V.2.1 1 (by decide)) 10).trans r_1_10) ?_
              refine X_aload_n rfl rfl rfl rfl ?_
              refine X_getR (a := 1) rfl rfl rfl ((congrFun V.1 0).trans s_0) rfl ((congrFun (V.2.1 0 (by decide)) 0).trans r_0_0) ?_
              refine X_getI (v := vz12) rfl rfl rfl ((congrFun V.1 1).trans s_1) rfl evz12 ?_
              refine X_iload_n rfl rfl rfl rfl ?_
              refine S_iast (I := Inv _) rfl rfl ((congrFun V.1 143).trans s_143) rfl (by omega) (Inv_putI V (Nat.le_of_ble_eq_true rfl) (Or.inl (by decide)) (Q_4 rk_143 (by omega))) (fun g V ve15 vn16 hq => ?_)
              have hG := hq.trans hG
              have evz4 := (vn16 (2) 0 (Or.inl (by decide))).trans evz4
              have evz12 := (vn16 (1) 9 (Or.inl (by decide))).trans evz12
              refine X_aload_n rfl rfl rfl rfl ?_
              refine X_getR (a := 1) rfl rfl rfl ((congrFun V.1 0).trans s_0) rfl ((congrFun (V.2.1 0 (by decide)) 0).trans r_0_0) ?_
              refine X_getR (a := 144) rfl rfl rfl ((congrFun V.1 1).trans s_1) rfl ((congrFun (V.2.1 1 (by decide)) 11).trans r_1_11) ?_
              refine X_aload_n rfl rfl rfl rfl ?_
              refine X_getR (a := 1) rfl rfl rfl ((congrFun V.1 0).trans s_0) rfl ((congrFun (V.2.1 0 (by decide)) 0).trans r_0_0) ?_
              refine X_getI (v := vz12) rfl rfl rfl ((congrFun V.1 1).trans s_1) rfl evz12 ?_
              refine X_iload_n rfl rfl rfl rfl ?_
              refine S_iast (I := Inv _) rfl rfl ((congrFun V.1 144).trans s_144) rfl (by omega) (Inv_putI V (Nat.le_of_ble_eq_true rfl) (Or.inl (by decide)) (Q_5 rk_144 (by omega))) (fun g V ve17 vn18 hq => ?_)
              have hG := hq.trans hG
              have evz4 := (vn18 (2) 0 (Or.inl (by decide))).trans evz4
              have evz12 := (vn18 (1) 9 (Or.inl (by decide))).trans evz12
              refine X_aload_n rfl rfl rfl rfl ?_
              refine X_getR (a := 1) rfl rfl rfl ((congrFun V.1 0).trans s_0) rfl ((congrFun (V.2.1 0 (by decide)) 0).trans r_0_0) ?_
              refine X_getR (a := 145) rfl rfl rfl ((congrFun V.1 1).trans s_1) rfl ((congrFun (V.2.1 1 (by decide)) 12).trans r_1_12) ?_
              refine X_aload_n rfl rfl rfl rfl ?_
              refine X_getR (a := 1) rfl rfl rfl ((congrFun V.1 0).trans s_0) rfl ((congrFun (V.2.1 0 (by decide)) 0).trans r_0_0) ?_
              refine X_getI (v := vz12) rfl rfl rfl ((congrFun V.1 1).trans s_1) rfl evz12 ?_
              refine X_iload_n rfl rfl rfl rfl ?_
              refine S_if_eq (tgt := 111) rfl rfl rfl hx3 (fun vh19 => ?_) (fun vh19 => ?_)
              · refine X_iconst (v := (0 : Int32)) rfl rfl rfl ?_
                refine S_iast (I := Inv _) rfl rfl ((congrFun V.1 145).trans s_145) rfl (by omega) (Inv_putI V (Nat.le_of_ble_eq_true rfl) (Or.inl (by decide)) (Q_0 rk_145)) (fun g V ve20 vn21 hq => ?_)
                have hG := hq.trans hG
                have evz4 := (vn21 (2) 0 (Or.inl (by decide))).trans evz4
                have evz12 := (vn21 (1) 9 (Or.inl (by decide))).trans evz12
                refine X_aload_n rfl rfl rfl rfl ?_
                refine X_getR (a := 1) rfl rfl rfl ((congrFun V.1 0).trans s_0) rfl ((congrFun (V.2.1 0 (by decide)) 0).trans r_0_0) ?_
                refine X_dup rfl rfl rfl ?_
                refine X_getI (v := vz12) rfl rfl rfl ((congrFun V.1 1).trans s_1) rfl evz12 ?_
                refine X_iconst (v := (1 : Int32)) rfl rfl rfl ?_
                refine S_iadd rfl rfl rfl (show (1 : Int32).toInt = 1 from rfl) (by omega) (fun vz22 hvz22 => ?_)
                refine S_putI (I := Inv _) rfl rfl rfl ((congrFun V.1 1).trans s_1) rfl rfl rfl rfl (Inv_putI V (Nat.le_of_ble_eq_true rfl) (Or.inr (by decide)) (Q_13_9 rk_1 (by omega))) (fun g V ve23 vn24 hq => ?_)
                have hG := hq.trans hG
                have evz4 := (vn24 (2) 0 (Or.inl (by decide))).trans evz4
                refine X_aload_n rfl rfl rfl rfl ?_
                refine X_getR (a := 1) rfl rfl rfl ((congrFun V.1 0).trans s_0) rfl ((congrFun (V.2.1 0 (by decide)) 0).trans r_0_0) ?_
                refine X_getI (v := vz22) rfl rfl rfl ((congrFun V.1 1).trans s_1) rfl ve23 ?_
                have hr := (rfl : vz22.toInt = vz22.toInt)
                exact LW_ireturn (st := []) rfl rfl rfl ⟨_, rfl, by omega, by omega, V, hG⟩
              · refine X_iconst (v := (1 : Int32)) rfl rfl rfl ?_
                refine LW_goto (tgt := 112) rfl rfl ?_
                refine S_iast (I := Inv _) rfl rfl ((congrFun V.1 145).trans s_145) rfl (by omega) (Inv_putI V (Nat.le_of_ble_eq_true rfl) (Or.inl (by decide)) (Q_0 rk_145)) (fun g V ve25 vn26 hq => ?_)
                have hG := hq.trans hG
                have evz4 := (vn26 (2) 0 (Or.inl (by decide))).trans evz4
                have evz12 := (vn26 (1) 9 (Or.inl (by decide))).trans evz12
                refine X_aload_n rfl rfl rfl rfl ?_
                refine X_getR (a := 1) rfl rfl rfl ((congrFun V.1 0).trans s_0) rfl ((congrFun (V.2.1 0 (by decide)) 0).trans r_0_0) ?_
                refine X_dup rfl rfl rfl ?_
                refine X_getI (v := vz12) rfl rfl rfl ((congrFun V.1 1).trans s_1) rfl evz12 ?_
                refine X_iconst (v := (1 : Int32)) rfl rfl rfl ?_
                refine S_iadd rfl rfl rfl (show (1 : Int32).toInt = 1 from rfl) (by omega) (fun vz27 hvz27 => ?_)
                refine S_putI (I := Inv _) rfl rfl rfl ((congrFun V.1 1).trans s_1) rfl rfl rfl rfl (Inv_putI V (Nat.le_of_ble_eq_true rfl) (Or.inr (by decide)) (Q_13_9 rk_1 (by omega))) (fun g V ve28 vn29 hq => ?_)
                have hG := hq.trans hG
                have evz4 := (vn29 (2) 0 (Or.inl (by decide))).trans evz4
                refine X_aload_n rfl rfl rfl rfl ?_
                refine X_getR (a := 1) rfl rfl rfl ((congrFun V.1 0).trans s_0) rfl ((congrFun (V.2.1 0 (by decide)) 0).trans r_0_0) ?_
                refine X_getI (v := vz27) rfl rfl rfl ((congrFun V.1 1).trans s_1) rfl ve28 ?_
                have hr := (rfl : vz27.toInt = vz27.toInt)
                exact LW_ireturn (st := []) rfl rfl rfl ⟨_, rfl, by omega, by omega, V, hG⟩
            · refine X_bipush (v := (-2 : Int32)) rfl rfl rfl ?_
              exact LW_ireturn (st := []) rfl rfl rfl ⟨_, rfl, by decide, by decide, V, hG⟩
          · refine X_bipush (v := (-2 : Int32)) rfl rfl rfl ?_
            exact LW_ireturn (st := []) rfl rfl rfl ⟨_, rfl, by decide, by decide, V, hG⟩
  · refine X_aload_n rfl rfl rfl rfl ?_
    refine X_getR (a := 1) rfl rfl rfl ((congrFun V.1 0).trans s_0) rfl ((congrFun (V.2.1 0 (by decide)) 0).trans r_0_0) ?_
    refine X_iconst (v := (0 : Int32)) rfl rfl rfl ?_
    refine S_putI (I := Inv _) rfl rfl rfl ((congrFun V.1 1).trans s_1) rfl rfl rfl rfl (Inv_putI V (Nat.le_of_ble_eq_true rfl) (Or.inr (by decide)) (Q_13_9 rk_1 (by decide))) (fun g V ve30 vn31 hq => ?_)
    have hG := hq.trans hG
    refine X_iconst (v := (0 : Int32)) rfl rfl rfl ?_
    exact LW_ireturn (st := []) rfl rfl rfl ⟨_, rfl, by decide, by decide, V, hG⟩
set_option maxRecDepth 10000 in
set_option maxHeartbeats 40000000 in
theorem C_X7_gatherPrinted_7 {P : Par} {g g0 : LH} {d n : Nat}  (V : Inv P g) (hG : Gr g = Gr g0) (x1 : Int32) (y1 : Int) (hx1 : x1.toInt = y1) (hf1 : 0 ≤ y1 ∧ y1 ≤ 25) (x2 : Int32) (y2 : Int) (hx2 : x2.toInt = y2) (hf2 : 0 ≤ y2 ∧ y2 ≤ 31) (o3 : Option Value) (hc349_9 : 0 ≤ (Gi g 349 9).toInt ∧ (Gi g 349 9).toInt ≤ 0) (hmu : (31 - y2) * 1 + 14 < (n : Int) + 1) (ih7 : ∀ (g : LH) (V : Inv P g) (hG : Gr g = Gr g0) (x1 : Int32) (y1 : Int) (hx1 : x1.toInt = y1) (hf1 : 0 ≤ y1 ∧ y1 ≤ 25) (x2 : Int32) (y2 : Int) (hx2 : x2.toInt = y2) (hf2 : 0 ≤ y2 ∧ y2 ≤ 31) (o3 : Option Value) (hc349_9 : 0 ≤ (Gi g 349 9).toInt ∧ (Gi g 349 9).toInt ≤ 0), (31 - y2) * 1 + 14 < (n : Int) → LW 81 (d + 3) 0 0 7 [some (.ref 349), some (.int x1), some (.int x2), o3] [] g (fun v g' => v = none ∧ Inv P g' ∧ Gr g' = Gr g0)) (ih28 : ∀ (g : LH) (V : Inv P g) (hG : Gr g = Gr g0) (x1 : Int32) (y1 : Int) (hx1 : x1.toInt = y1) (hf1 : 0 ≤ y1 ∧ y1 ≤ 25) (x2 : Int32) (y2 : Int) (hx2 : x2.toInt = y2) (hf2 : 0 ≤ y2 ∧ y2 ≤ 12) (o3 : Option Value) , (12 - y2) * 1 + 0 < (n : Int) → LW 81 (d + 3) 0 0 28 [some (.ref 349), some (.int x1), some (.int x2), o3] [] g (fun v g' => v = none ∧ Inv P g' ∧ Gr g' = Gr g0)) : LW 81 (d + 3) 0 0 7 [some (.ref 349), some (.int x1), some (.int x2), o3] [] g (fun v g' => v = none ∧ Inv P g' ∧ Gr g' = Gr g0) := by
  obtain ⟨vz1, evz1⟩ : ∃ z, Gi g 349 9 = z := ⟨_, rfl⟩
  rw [evz1] at hc349_9
  refine X_iload_n rfl rfl rfl rfl ?_
  refine X_bipush (v := (31 : Int32)) rfl rfl rfl ?_
  refine S_icmp_ge (tgt := 26) rfl rfl rfl hx2 (show (31 : Int32).toInt = 31 from rfl) (fun vh2 => ?_) (fun vh2 => ?_)
  · refine X_iconst (v := (0 : Int32)) rfl rfl rfl ?_
    refine X_istore_n (i := 2) (ls' := [some (.ref 349), some (.int x1), some (.int (0 : Int32)), o3]) rfl rfl rfl (Nat.le_of_ble_eq_true rfl) rfl ?_
    exact ih28 _ V hG x1 y1 hx1 (by omega) (0 : Int32) 0 (show (0 : Int32).toInt = 0 from rfl) (by omega) o3    (by omega)
  · refine X_aload_n rfl rfl rfl rfl ?_
    refine X_getR (a := 353) rfl rfl rfl ((congrFun V.1 349).trans s_349) rfl ((congrFun (V.2.1 349 (by decide)) 7).trans r_349_7) ?_
    refine X_iload_n rfl rfl rfl rfl ?_
    refine X_iconst (v := (0 : Int32)) rfl rfl rfl ?_
    refine S_iast (I := Inv _) rfl rfl ((congrFun V.1 353).trans s_353) hx2 (by omega) (Inv_putI V (Nat.le_of_ble_eq_true rfl) (Or.inl (by decide)) (Q_0 rk_353)) (fun g V ve3 vn4 hq => ?_)
    have hG := hq.trans hG
    have evz1 := (vn4 (349) 9 (Or.inl (by decide))).trans evz1
    refine S_iinc (c := 1) rfl rfl rfl hx2 rfl (by omega) (fun vz5 hvz5 => ?_)
    refine LW_ls (ls' := [some (.ref 349), some (.int x1), some (.int vz5), o3]) rfl ?_
    refine LW_goto (tgt := 7) rfl rfl ?_
    exact ih7 _ V hG x1 y1 hx1 (by omega) vz5 vz5.toInt rfl (by omega) o3 (by rw [evz1]; omega)   (by omega)
set_option maxRecDepth 10000 in
set_option maxHeartbeats 40000000 in
theorem C_X7_gatherPrinted_28 {P : Par} {g g0 : LH} {d n : Nat}  (V : Inv P g) (hG : Gr g = Gr g0) (x1 : Int32) (y1 : Int) (hx1 : x1.toInt = y1) (hf1 : 0 ≤ y1 ∧ y1 ≤ 25) (x2 : Int32) (y2 : Int) (hx2 : x2.toInt = y2) (hf2 : 0 ≤ y2 ∧ y2 ≤ 12) (o3 : Option Value)  (hmu : (12 - y2) * 1 + 0 < (n : Int) + 1) (ih7 : ∀ (g : LH) (V : Inv P g) (hG : Gr g = Gr g0) (x1 : Int32) (y1 : Int) (hx1 : x1.toInt = y1) (hf1 : 0 ≤ y1 ∧ y1 ≤ 25) (x2 : Int32) (y2 : Int) (hx2 : x2.toInt = y2) (hf2 : 0 ≤ y2 ∧ y2 ≤ 31) (o3 : Option Value) (hc349_9 : 0 ≤ (Gi g 349 9).toInt ∧ (Gi g 349 9).toInt ≤ 0), (31 - y2) * 1 + 14 < (n : Int) → LW 81 (d + 3) 0 0 7 [some (.ref 349), some (.int x1), some (.int x2), o3] [] g (fun v g' => v = none ∧ Inv P g' ∧ Gr g' = Gr g0)) (ih28 : ∀ (g : LH) (V : Inv P g) (hG : Gr g = Gr g0) (x1 : Int32) (y1 : Int) (hx1 : x1.toInt = y1) (hf1 : 0 ≤ y1 ∧ y1 ≤ 25) (x2 : Int32) (y2 : Int) (hx2 : x2.toInt = y2) (hf2 : 0 ≤ y2 ∧ y2 ≤ 12) (o3 : Option Value) , (12 - y2) * 1 + 0 < (n : Int) → LW 81 (d + 3) 0 0 28 [some (.ref 349), some (.int x1), some (.int x2), o3] [] g (fun v g' => v = none ∧ Inv P g' ∧ Gr g' = Gr g0)) : LW 81 (d + 3) 0 0 28 [some (.ref 349), some (.int x1), some (.int x2), o3] [] g (fun v g' => v = none ∧ Inv P g' ∧ Gr g' = Gr g0) := by
  refine X_iload_n rfl rfl rfl rfl ?_
  refine X_aload_n rfl rfl rfl rfl ?_
  refine X_getR (a := 1) rfl rfl rfl ((congrFun V.1 349).trans s_349) rfl ((congrFun (V.2.1 349 (by decide)) 0).trans r_349_0) ?_
  refine S_getI rfl rfl rfl ((congrFun V.1 1).trans s_1) rfl (fun vz1 evz1 => ?_)
  have vf2 := K_13_9 (V.2.2.2.2.1 (1) (9) (Nat.le_of_ble_eq_true rfl)) rk_1
  rw [evz1] at vf2
  refine S_icmp_ge (tgt := 117) rfl rfl rfl hx2 rfl (fun vh3 => ?_) (fun vh3 => ?_)
  · exact LW_return (st := []) rfl rfl ⟨rfl, V, hG⟩
  · refine X_aload_n rfl rfl rfl rfl ?_
    refine X_getR (a := 1) rfl rfl rfl ((congrFun V.1 349).trans s_349) rfl ((congrFun (V.2.1 349 (by decide)) 0).trans r_349_0) ?_
    refine X_getR (a := 145) rfl rfl rfl ((congrFun V.1 1).trans s_1) rfl ((congrFun (V.2.1 1 (by decide)) 12).trans r_1_12) ?_
    refine X_iload_n rfl rfl rfl rfl ?_
    refine S_iald rfl rfl ((congrFun V.1 145).trans s_145) hx2 (by omega) (fun vz4 evz4 => ?_)
    refine S_if_eq (tgt := 111) rfl rfl rfl rfl (fun vh5 => ?_) (fun vh5 => ?_)
    · refine S_iinc (c := 1) rfl rfl rfl hx2 rfl (by omega) (fun vz6 hvz6 => ?_)
      refine LW_ls (ls' := [some (.ref 349), some (.int x1), some (.int vz6), o3]) rfl ?_
      refine LW_goto (tgt := 28) rfl rfl ?_
      exact ih28 _ V hG x1 y1 hx1 (by omega) vz6 vz6.toInt rfl (by omega) o3    (by omega)
    · refine X_aload_n rfl rfl rfl rfl ?_
      refine X_getR (a := 1) rfl rfl rfl ((congrFun V.1 349).trans s_349) rfl ((congrFun (V.2.1 349 (by decide)) 0).trans r_349_0) ?_
      refine X_getR (a := 144) rfl rfl rfl ((congrFun V.1 1).trans s_1) rfl ((congrFun (V.2.1 1 (by decide)) 11).trans r_1_11) ?_
      refine X_iload_n rfl rfl rfl rfl ?_
      refine S_iald rfl rfl ((congrFun V.1 144).trans s_144) hx2 (by omega) (fun vz7 evz7 => ?_)
      have vf8 := K_5 (V.2.2.2.2.1 (144) ((y2 : Int).toNat) (Nat.le_of_ble_eq_true rfl)) rk_144
      rw [evz7] at vf8
      refine X_istore_n (i := 3) (ls' := [some (.ref 349), some (.int x1), some (.int x2), some (.int vz7)]) rfl rfl rfl (Nat.le_of_ble_eq_true rfl) rfl ?_
      refine X_aload_n rfl rfl rfl rfl ?_
      refine X_getR (a := 353) rfl rfl rfl ((congrFun V.1 349).trans s_349) rfl ((congrFun (V.2.1 349 (by decide)) 7).trans r_349_7) ?_
      refine X_iload_n rfl rfl rfl rfl ?_
      refine X_dup2 rfl rfl rfl rfl ?_
      refine S_iald rfl rfl ((congrFun V.1 353).trans s_353) rfl (by omega) (fun vz9 evz9 => ?_)
      refine X_aload_n rfl rfl rfl rfl ?_
      refine X_getR (a := 1) rfl rfl rfl ((congrFun V.1 349).trans s_349) rfl ((congrFun (V.2.1 349 (by decide)) 0).trans r_349_0) ?_
      refine X_getR (a := 2) rfl rfl rfl ((congrFun V.1 1).trans s_1) rfl ((congrFun (V.2.1 1 (by decide)) 0).trans r_1_0) ?_
      refine X_getR (a := 5) rfl rfl rfl ((congrFun V.1 2).trans s_2) rfl ((congrFun (V.2.1 2 (by decide)) 4).trans r_2_4) ?_
      refine X_aload_n rfl rfl rfl rfl ?_
      refine X_getR (a := 1) rfl rfl rfl ((congrFun V.1 349).trans s_349) rfl ((congrFun (V.2.1 349 (by decide)) 0).trans r_349_0) ?_
      refine X_getR (a := 143) rfl rfl rfl ((congrFun V.1 1).trans s_1) rfl ((congrFun (V.2.1 1 (by decide)) 10).trans r_1_10) ?_
      refine X_iload_n rfl rfl rfl rfl ?_
      refine S_iald rfl rfl ((congrFun V.1 143).trans s_143) hx2 (by omega) (fun vz10 evz10 => ?_)
      have vf11 := K_4 (V.2.2.2.2.1 (143) ((y2 : Int).toNat) (Nat.le_of_ble_eq_true rfl)) rk_143
      rw [evz10] at vf11
      refine S_iald rfl rfl ((congrFun V.1 5).trans s_5) rfl (by omega) (fun vz12 evz12 => ?_)
      refine S_iorT rfl rfl (fun vz13 => ?_)
      refine S_iast (I := Inv _) rfl rfl ((congrFun V.1 353).trans s_353) rfl (by omega) (Inv_putI V (Nat.le_of_ble_eq_true rfl) (Or.inl (by decide)) (Q_0 rk_353)) (fun g V ve14 vn15 hq => ?_)
      have hG := hq.trans hG
      have evz1 := (vn15 (1) 9 (Or.inl (by decide))).trans evz1
      have evz4 := (vn15 (145) ((y2 : Int).toNat) (Or.inl (by decide))).trans evz4
      have evz7 := (vn15 (144) ((y2 : Int).toNat) (Or.inl (by decide))).trans evz7
      have evz10 := (vn15 (143) ((y2 : Int).toNat) (Or.inl (by decide))).trans evz10
      have evz12 := (vn15 (5) ((vz10.toInt : Int).toNat) (Or.inl (by decide))).trans evz12
      refine X_aload_n rfl rfl rfl rfl ?_
      refine X_dup rfl rfl rfl ?_
      refine S_getI rfl rfl rfl ((congrFun V.1 349).trans s_349) rfl (fun vz16 evz16 => ?_)
      refine X_aload_n rfl rfl rfl rfl ?_
      refine X_getR (a := 353) rfl rfl rfl ((congrFun V.1 349).trans s_349) rfl ((congrFun (V.2.1 349 (by decide)) 7).trans r_349_7) ?_
      refine X_iload_n rfl rfl rfl rfl ?_
      refine S_iald rfl rfl ((congrFun V.1 353).trans s_353) rfl (by omega) (fun vz17 evz17 => ?_)
      refine X_iload_n rfl rfl rfl rfl ?_
      refine S_ishrT rfl rfl (fun vz18 => ?_)
      refine X_iconst (v := (1 : Int32)) rfl rfl rfl ?_
      refine S_iandR (k := 1) rfl rfl rfl (fun vz19 hvz19 => ?_)
      refine X_iload_n rfl rfl rfl rfl ?_
      refine S_ishlT rfl rfl (fun vz20 => ?_)
      refine S_iorT rfl rfl (fun vz21 => ?_)
      refine S_putI (I := Inv _) rfl rfl rfl ((congrFun V.1 349).trans s_349) rfl rfl rfl rfl (Inv_putI V (Nat.le_of_ble_eq_true rfl) (Or.inl (by decide)) (Q_0 rk_349)) (fun g V ve22 vn23 hq => ?_)
      have hG := hq.trans hG
      have evz1 := (vn23 (1) 9 (Or.inl (by decide))).trans evz1
      have evz4 := (vn23 (145) ((y2 : Int).toNat) (Or.inl (by decide))).trans evz4
      have evz7 := (vn23 (144) ((y2 : Int).toNat) (Or.inl (by decide))).trans evz7
      have evz10 := (vn23 (143) ((y2 : Int).toNat) (Or.inl (by decide))).trans evz10
      have evz12 := (vn23 (5) ((vz10.toInt : Int).toNat) (Or.inl (by decide))).trans evz12
      have evz17 := (vn23 (353) ((vz7.toInt : Int).toNat) (Or.inl (by decide))).trans evz17
      refine S_iinc (c := 1) rfl rfl rfl hx2 rfl (by omega) (fun vz24 hvz24 => ?_)
      refine LW_ls (ls' := [some (.ref 349), some (.int x1), some (.int vz24), some (.int vz7)]) rfl ?_
      refine LW_goto (tgt := 28) rfl rfl ?_
      exact ih28 _ V hG x1 y1 hx1 (by omega) vz24 vz24.toInt rfl (by omega) (some (.int vz7))    (by omega)
theorem C_X7_gatherPrinted_all {P : Par} {g0 : LH} {d : Nat}  : ∀ n : Nat, (∀ (g : LH) (V : Inv P g) (hG : Gr g = Gr g0) (x1 : Int32) (y1 : Int) (hx1 : x1.toInt = y1) (hf1 : 0 ≤ y1 ∧ y1 ≤ 25) (x2 : Int32) (y2 : Int) (hx2 : x2.toInt = y2) (hf2 : 0 ≤ y2 ∧ y2 ≤ 31) (o3 : Option Value) (hc349_9 : 0 ≤ (Gi g 349 9).toInt ∧ (Gi g 349 9).toInt ≤ 0), (31 - y2) * 1 + 14 < (n : Int) → LW 81 (d + 3) 0 0 7 [some (.ref 349), some (.int x1), some (.int x2), o3] [] g (fun v g' => v = none ∧ Inv P g' ∧ Gr g' = Gr g0)) ∧ (∀ (g : LH) (V : Inv P g) (hG : Gr g = Gr g0) (x1 : Int32) (y1 : Int) (hx1 : x1.toInt = y1) (hf1 : 0 ≤ y1 ∧ y1 ≤ 25) (x2 : Int32) (y2 : Int) (hx2 : x2.toInt = y2) (hf2 : 0 ≤ y2 ∧ y2 ≤ 12) (o3 : Option Value) , (12 - y2) * 1 + 0 < (n : Int) → LW 81 (d + 3) 0 0 28 [some (.ref 349), some (.int x1), some (.int x2), o3] [] g (fun v g' => v = none ∧ Inv P g' ∧ Gr g' = Gr g0)) := by
  intro n
  induction n with
  | zero => exact ⟨fun g V hG x1 y1 hx1 hf1 x2 y2 hx2 hf2 o3 hc349_9 hmu => absurd hmu (by omega), fun g V hG x1 y1 hx1 hf1 x2 y2 hx2 hf2 o3 hmu => absurd hmu (by omega)⟩
  | succ n ih => exact ⟨fun g V hG x1 y1 hx1 hf1 x2 y2 hx2 hf2 o3 hc349_9 hmu => C_X7_gatherPrinted_7  V hG x1 y1 hx1 hf1 x2 y2 hx2 hf2 o3 hc349_9 (by omega) ih.1 ih.2, fun g V hG x1 y1 hx1 hf1 x2 y2 hx2 hf2 o3 hmu => C_X7_gatherPrinted_28  V hG x1 y1 hx1 hf1 x2 y2 hx2 hf2 o3 (by omega) ih.1 ih.2⟩
set_option maxRecDepth 10000 in
set_option maxHeartbeats 40000000 in
theorem C_X7_gatherPrinted {P : Par} {g : LH} {d : Nat}  (V : Inv P g) (x1 : Int32) (y1 : Int) (hx1 : x1.toInt = y1) (hf1 : 0 ≤ y1 ∧ y1 ≤ 25)   : LW 81 (d + 3) 0 0 0 (lEnt (mL 81) [.ref 349, .int x1]) [] g (fun v g' => v = none ∧ Inv P g' ∧ Gr g' = Gr g) := by
  refine LW_ls (ls' := [some (.ref 349), some (.int x1), none, none]) rfl ?_
  have hG : Gr g = Gr g := rfl
  refine X_aload_n rfl rfl rfl rfl ?_
  refine X_iconst (v := (0 : Int32)) rfl rfl rfl ?_
  refine S_putI (I := Inv _) rfl rfl rfl ((congrFun V.1 349).trans s_349) rfl rfl rfl rfl (Inv_putI V (Nat.le_of_ble_eq_true rfl) (Or.inl (by decide)) (Q_0 rk_349)) (fun g V ve1 vn2 hq => ?_)
  have hG := hq.trans hG
  refine X_iconst (v := (0 : Int32)) rfl rfl rfl ?_
  refine X_istore_n (i := 2) (ls' := [some (.ref 349), some (.int x1), some (.int (0 : Int32)), none]) rfl rfl rfl (Nat.le_of_ble_eq_true rfl) rfl ?_
  exact (C_X7_gatherPrinted_all (((31 - 0) * 1 + 14) + 1 : Int).toNat).1 _ V hG x1 y1 hx1 (by omega) (0 : Int32) 0 (show (0 : Int32).toInt = 0 from rfl) (by omega) none (by rw [ve1]; decide)   (by omega)
set_option maxRecDepth 10000 in
set_option maxHeartbeats 40000000 in
theorem C_X7_weighPrints_12 {P : Par} {g g0 : LH} {d n : Nat}  (V : Inv P g) (hG : Gr g = Gr g0) (x1 : Int32) (y1 : Int) (hx1 : x1.toInt = y1) (hf1 : 0 ≤ y1 ∧ y1 ≤ 25) (x2 : Int32) (y2 : Int) (hx2 : x2.toInt = y2) (hf2 : 0 ≤ y2 ∧ y2 ≤ 12) (o3 : Option Value) (o4 : Option Value)  (hmu : (12 - y2) * 1 + 0 < (n : Int) + 1) (ih12 : ∀ (g : LH) (V : Inv P g) (hG : Gr g = Gr g0) (x1 : Int32) (y1 : Int) (hx1 : x1.toInt = y1) (hf1 : 0 ≤ y1 ∧ y1 ≤ 25) (x2 : Int32) (y2 : Int) (hx2 : x2.toInt = y2) (hf2 : 0 ≤ y2 ∧ y2 ≤ 12) (o3 : Option Value) (o4 : Option Value) , (12 - y2) * 1 + 0 < (n : Int) → LW 80 (d + 7) 0 0 12 [some (.ref 349), some (.int x1), some (.int x2), o3, o4] [] g (fun v g' => ∃ r : Int32, v = some (.int r) ∧ 0 ≤ r.toInt ∧ r.toInt ≤ 1 ∧ Inv P g' ∧ Gr g' = Gr g0)) : LW 80 (d + 7) 0 0 12 [some (.ref 349), some (.int x1), some (.int x2), o3, o4] [] g (fun v g' => ∃ r : Int32, v = some (.int r) ∧ 0 ≤ r.toInt ∧ r.toInt ≤ 1 ∧ Inv P g' ∧ Gr g' = Gr g0) := by
  refine X_iload_n rfl rfl rfl rfl ?_
  refine X_aload_n rfl rfl rfl rfl ?_
  refine X_getR (a := 1) rfl rfl rfl ((congrFun V.1 349).trans s_349) rfl ((congrFun (V.2.1 349 (by decide)) 0).trans r_349_0) ?_
  refine S_getI rfl rfl rfl ((congrFun V.1 1).trans s_1) rfl (fun vz1 evz1 => ?_)
  have vf2 := K_13_9 (V.2.2.2.2.1 (1) (9) (Nat.le_of_ble_eq_true rfl)) rk_1
  rw [evz1] at vf2
  refine S_icmp_ge (tgt := 113) rfl rfl rfl hx2 rfl (fun vh3 => ?_) (fun vh3 => ?_)
  · refine X_iconst (v := (1 : Int32)) rfl rfl rfl ?_
    exact LW_ireturn (st := []) rfl rfl rfl ⟨_, rfl, by decide, by decide, V, hG⟩
  · refine X_aload_n rfl rfl rfl rfl ?_
    refine X_getR (a := 1) rfl rfl rfl ((congrFun V.1 349).trans s_349) rfl ((congrFun (V.2.1 349 (by decide)) 0).trans r_349_0) ?_
    refine X_getR (a := 145) rfl rfl rfl ((congrFun V.1 1).trans s_1) rfl ((congrFun (V.2.1 1 (by decide)) 12).trans r_1_12) ?_
    refine X_iload_n rfl rfl rfl rfl ?_
    refine S_iald rfl rfl ((congrFun V.1 145).trans s_145) hx2 (by omega) (fun vz4 evz4 => ?_)
    refine S_if_ne (tgt := 107) rfl rfl rfl rfl (fun vh5 => ?_) (fun vh5 => ?_)
    · refine S_iinc (c := 1) rfl rfl rfl hx2 rfl (by omega) (fun vz6 hvz6 => ?_)
      refine LW_ls (ls' := [some (.ref 349), some (.int x1), some (.int vz6), o3, o4]) rfl ?_
      refine LW_goto (tgt := 12) rfl rfl ?_
      exact ih12 _ V hG x1 y1 hx1 (by omega) vz6 vz6.toInt rfl (by omega) o3 o4    (by omega)
    · refine X_aload_n rfl rfl rfl rfl ?_
      refine X_getR (a := 1) rfl rfl rfl ((congrFun V.1 349).trans s_349) rfl ((congrFun (V.2.1 349 (by decide)) 0).trans r_349_0) ?_
      refine X_getR (a := 144) rfl rfl rfl ((congrFun V.1 1).trans s_1) rfl ((congrFun (V.2.1 1 (by decide)) 11).trans r_1_11) ?_
      refine X_iload_n rfl rfl rfl rfl ?_
      refine S_iald rfl rfl ((congrFun V.1 144).trans s_144) hx2 (by omega) (fun vz7 evz7 => ?_)
      have vf8 := K_5 (V.2.2.2.2.1 (144) ((y2 : Int).toNat) (Nat.le_of_ble_eq_true rfl)) rk_144
      rw [evz7] at vf8
      refine X_istore_n (i := 3) (ls' := [some (.ref 349), some (.int x1), some (.int x2), some (.int vz7), o4]) rfl rfl rfl (Nat.le_of_ble_eq_true rfl) rfl ?_
      refine X_aload_n rfl rfl rfl rfl ?_
      refine X_getR (a := 1) rfl rfl rfl ((congrFun V.1 349).trans s_349) rfl ((congrFun (V.2.1 349 (by decide)) 0).trans r_349_0) ?_
      refine X_getR (a := 2) rfl rfl rfl ((congrFun V.1 1).trans s_1) rfl ((congrFun (V.2.1 1 (by decide)) 0).trans r_1_0) ?_
      refine X_getR (a := 5) rfl rfl rfl ((congrFun V.1 2).trans s_2) rfl ((congrFun (V.2.1 2 (by decide)) 4).trans r_2_4) ?_
      refine X_aload_n rfl rfl rfl rfl ?_
      refine X_getR (a := 1) rfl rfl rfl ((congrFun V.1 349).trans s_349) rfl ((congrFun (V.2.1 349 (by decide)) 0).trans r_349_0) ?_
      refine X_getR (a := 143) rfl rfl rfl ((congrFun V.1 1).trans s_1) rfl ((congrFun (V.2.1 1 (by decide)) 10).trans r_1_10) ?_
      refine X_iload_n rfl rfl rfl rfl ?_
      refine S_iald rfl rfl ((congrFun V.1 143).trans s_143) hx2 (by omega) (fun vz9 evz9 => ?_)
      have vf10 := K_4 (V.2.2.2.2.1 (143) ((y2 : Int).toNat) (Nat.le_of_ble_eq_true rfl)) rk_143
      rw [evz9] at vf10
      refine S_iald rfl rfl ((congrFun V.1 5).trans s_5) rfl (by omega) (fun vz11 evz11 => ?_)
      refine X_aload_n rfl rfl rfl rfl ?_
      refine X_getR (a := 353) rfl rfl rfl ((congrFun V.1 349).trans s_349) rfl ((congrFun (V.2.1 349 (by decide)) 7).trans r_349_7) ?_
      refine X_iload_n rfl rfl rfl rfl ?_
      refine S_iald rfl rfl ((congrFun V.1 353).trans s_353) rfl (by omega) (fun vz12 evz12 => ?_)
      refine X_iconst (v := (-1 : Int32)) rfl rfl rfl ?_
      refine S_ixorT rfl rfl (fun vz13 => ?_)
      refine S_iandT rfl rfl (fun vz14 => ?_)
      refine X_istore (i := 4) (ls' := [some (.ref 349), some (.int x1), some (.int x2), some (.int vz7), some (.int vz14)]) rfl rfl (Nat.le_of_ble_eq_true rfl) rfl ?_
      refine X_iload rfl rfl rfl ?_
      refine S_if_ne (tgt := 83) rfl rfl rfl rfl (fun vh15 => ?_) (fun vh15 => ?_)
      · refine X_aload_n rfl rfl rfl rfl ?_
        refine X_dup rfl rfl rfl ?_
        refine S_getI rfl rfl rfl ((congrFun V.1 349).trans s_349) rfl (fun vz16 evz16 => ?_)
        refine X_iload rfl rfl rfl ?_
        refine X_iconst (v := (1 : Int32)) rfl rfl rfl ?_
        refine X_iload_n rfl rfl rfl rfl ?_
        refine S_ishlT rfl rfl (fun vz17 => ?_)
        refine S_icmp_ne (tgt := 102) rfl rfl rfl rfl rfl (fun vh18 => ?_) (fun vh18 => ?_)
        · refine X_iconst (v := (0 : Int32)) rfl rfl rfl ?_
          refine S_iorT rfl rfl (fun vz19 => ?_)
          refine S_putI (I := Inv _) rfl rfl rfl ((congrFun V.1 349).trans s_349) rfl rfl rfl rfl (Inv_putI V (Nat.le_of_ble_eq_true rfl) (Or.inl (by decide)) (Q_0 rk_349)) (fun g V ve20 vn21 hq => ?_)
          have hG := hq.trans hG
          have evz1 := (vn21 (1) 9 (Or.inl (by decide))).trans evz1
          have evz4 := (vn21 (145) ((y2 : Int).toNat) (Or.inl (by decide))).trans evz4
          have evz7 := (vn21 (144) ((y2 : Int).toNat) (Or.inl (by decide))).trans evz7
          have evz9 := (vn21 (143) ((y2 : Int).toNat) (Or.inl (by decide))).trans evz9
          have evz11 := (vn21 (5) ((vz9.toInt : Int).toNat) (Or.inl (by decide))).trans evz11
          have evz12 := (vn21 (353) ((vz7.toInt : Int).toNat) (Or.inl (by decide))).trans evz12
          refine S_iinc (c := 1) rfl rfl rfl hx2 rfl (by omega) (fun vz22 hvz22 => ?_)
          refine LW_ls (ls' := [some (.ref 349), some (.int x1), some (.int vz22), some (.int vz7), some (.int vz14)]) rfl ?_
          refine LW_goto (tgt := 12) rfl rfl ?_
          exact ih12 _ V hG x1 y1 hx1 (by omega) vz22 vz22.toInt rfl (by omega) (some (.int vz7)) (some (.int vz14))    (by omega)
        · refine X_iconst (v := (1 : Int32)) rfl rfl rfl ?_
          refine X_iload_n rfl rfl rfl rfl ?_
          refine S_ishlT rfl rfl (fun vz23 => ?_)
          refine LW_goto (tgt := 103) rfl rfl ?_
          refine S_iorT rfl rfl (fun vz24 => ?_)
          refine S_putI (I := Inv _) rfl rfl rfl ((congrFun V.1 349).trans s_349) rfl rfl rfl rfl (Inv_putI V (Nat.le_of_ble_eq_true rfl) (Or.inl (by decide)) (Q_0 rk_349)) (fun g V ve25 vn26 hq => ?_)
          have hG := hq.trans hG
          have evz1 := (vn26 (1) 9 (Or.inl (by decide))).trans evz1
          have evz4 := (vn26 (145) ((y2 : Int).toNat) (Or.inl (by decide))).trans evz4
          have evz7 := (vn26 (144) ((y2 : Int).toNat) (Or.inl (by decide))).trans evz7
          have evz9 := (vn26 (143) ((y2 : Int).toNat) (Or.inl (by decide))).trans evz9
          have evz11 := (vn26 (5) ((vz9.toInt : Int).toNat) (Or.inl (by decide))).trans evz11
          have evz12 := (vn26 (353) ((vz7.toInt : Int).toNat) (Or.inl (by decide))).trans evz12
          refine S_iinc (c := 1) rfl rfl rfl hx2 rfl (by omega) (fun vz27 hvz27 => ?_)
          refine LW_ls (ls' := [some (.ref 349), some (.int x1), some (.int vz27), some (.int vz7), some (.int vz14)]) rfl ?_
          refine LW_goto (tgt := 12) rfl rfl ?_
          exact ih12 _ V hG x1 y1 hx1 (by omega) vz27 vz27.toInt rfl (by omega) (some (.int vz7)) (some (.int vz14))    (by omega)
      · refine X_iconst (v := (0 : Int32)) rfl rfl rfl ?_
        exact LW_ireturn (st := []) rfl rfl rfl ⟨_, rfl, by decide, by decide, V, hG⟩
theorem C_X7_weighPrints_all {P : Par} {g0 : LH} {d : Nat}  : ∀ n : Nat, (∀ (g : LH) (V : Inv P g) (hG : Gr g = Gr g0) (x1 : Int32) (y1 : Int) (hx1 : x1.toInt = y1) (hf1 : 0 ≤ y1 ∧ y1 ≤ 25) (x2 : Int32) (y2 : Int) (hx2 : x2.toInt = y2) (hf2 : 0 ≤ y2 ∧ y2 ≤ 12) (o3 : Option Value) (o4 : Option Value) , (12 - y2) * 1 + 0 < (n : Int) → LW 80 (d + 7) 0 0 12 [some (.ref 349), some (.int x1), some (.int x2), o3, o4] [] g (fun v g' => ∃ r : Int32, v = some (.int r) ∧ 0 ≤ r.toInt ∧ r.toInt ≤ 1 ∧ Inv P g' ∧ Gr g' = Gr g0)) := by
  intro n
  induction n with
  | zero => exact fun g V hG x1 y1 hx1 hf1 x2 y2 hx2 hf2 o3 o4 hmu => absurd hmu (by omega)
  | succ n ih => exact fun g V hG x1 y1 hx1 hf1 x2 y2 hx2 hf2 o3 o4 hmu => C_X7_weighPrints_12  V hG x1 y1 hx1 hf1 x2 y2 hx2 hf2 o3 o4 (by omega) ih
set_option maxRecDepth 10000 in
set_option maxHeartbeats 40000000 in
theorem C_X7_weighPrints {P : Par} {g : LH} {d : Nat}  (V : Inv P g) (x1 : Int32) (y1 : Int) (hx1 : x1.toInt = y1) (hf1 : 0 ≤ y1 ∧ y1 ≤ 25)   : LW 80 (d + 7) 0 0 0 (lEnt (mL 80) [.ref 349, .int x1]) [] g (fun v g' => ∃ r : Int32, v = some (.int r) ∧ 0 ≤ r.toInt ∧ r.toInt ≤ 1 ∧ Inv P g' ∧ Gr g' = Gr g) := by
  refine LW_ls (ls' := [some (.ref 349), some (.int x1), none, none, none]) rfl ?_
  have hG : Gr g = Gr g := rfl
  refine X_aload_n rfl rfl rfl rfl ?_
  refine X_iload_n rfl rfl rfl rfl ?_
  refine Y_callV (as := [.int x1]) (st := []) rfl rfl rfl (by decide) rfl (Nat.le_of_ble_eq_true rfl) (by decide) (Nat.le_of_ble_eq_true rfl) rfl ((congrFun V.1 349).trans s_349) (by decide) (C_X7_gatherPrinted V x1 y1 hx1 (by omega) ) ?_
  rintro _ g ⟨rfl, V, hq⟩
  have hG := hq.trans hG
  refine X_aload_n rfl rfl rfl rfl ?_
  refine X_iconst (v := (0 : Int32)) rfl rfl rfl ?_
  refine S_putI (I := Inv _) rfl rfl rfl ((congrFun V.1 349).trans s_349) rfl rfl rfl rfl (Inv_putI V (Nat.le_of_ble_eq_true rfl) (Or.inl (by decide)) (Q_0 rk_349)) (fun g V ve2 vn3 hq => ?_)
  have hG := hq.trans hG
  refine X_iconst (v := (0 : Int32)) rfl rfl rfl ?_
  refine X_istore_n (i := 2) (ls' := [some (.ref 349), some (.int x1), some (.int (0 : Int32)), none, none]) rfl rfl rfl (Nat.le_of_ble_eq_true rfl) rfl ?_
  exact (C_X7_weighPrints_all (((12 - 0) * 1 + 0) + 1 : Int).toNat) _ V hG x1 y1 hx1 (by omega) (0 : Int32) 0 (show (0 : Int32).toInt = 0 from rfl) (by omega) none none    (by omega)
set_option maxRecDepth 10000 in
set_option maxHeartbeats 40000000 in
theorem C_X7_spell_41 {P : Par} {g g0 : LH} {d n : Nat}  (V : Inv P g) (hG : Gr g = Gr g0) (x1 : Int32) (y1 : Int) (hx1 : x1.toInt = y1) (hf1 : 0 ≤ y1 ∧ y1 ≤ 25) (x2 : Int32) (y2 : Int) (hx2 : x2.toInt = y2) (hf2 : (-1) ≤ y2) (x3 : Int32) (y3 : Int) (hx3 : x3.toInt = y3) (x4 : Int32) (y4 : Int) (hx4 : x4.toInt = y4) (hf4 : 0 ≤ y4 ∧ y4 ≤ 31) (o5 : Option Value) (o6 : Option Value)  (hmu : (31 - y4) * 35 + 34 < (n : Int) + 1) (ih41 : ∀ (g : LH) (V : Inv P g) (hG : Gr g = Gr g0) (x1 : Int32) (y1 : Int) (hx1 : x1.toInt = y1) (hf1 : 0 ≤ y1 ∧ y1 ≤ 25) (x2 : Int32) (y2 : Int) (hx2 : x2.toInt = y2) (hf2 : (-1) ≤ y2) (x3 : Int32) (y3 : Int) (hx3 : x3.toInt = y3) (x4 : Int32) (y4 : Int) (hx4 : x4.toInt = y4) (hf4 : 0 ≤ y4 ∧ y4 ≤ 31) (o5 : Option Value) (o6 : Option Value) , (31 - y4) * 35 + 34 < (n : Int) → LW 79 (d + 11) 0 0 41 [some (.ref 349), some (.int x1), some (.int x2), some (.int x3), some (.int x4), o5, o6] [] g (fun v g' => ∃ r : Int32, v = some (.int r) ∧ Inv P g' ∧ Gr g' = Gr g0)) (ih55 : ∀ (g : LH) (V : Inv P g) (hG : Gr g = Gr g0) (x1 : Int32) (y1 : Int) (hx1 : x1.toInt = y1) (hf1 : 0 ≤ y1 ∧ y1 ≤ 25) (x2 : Int32) (y2 : Int) (hx2 : x2.toInt = y2) (hf2 : (-1) ≤ y2) (x3 : Int32) (y3 : Int) (hx3 : x3.toInt = y3) (x4 : Int32) (y4 : Int) (hx4 : x4.toInt = y4) (hf4 : 0 ≤ y4 ∧ y4 ≤ 30) (x5 : Int32) (y5 : Int) (hx5 : x5.toInt = y5) (x6 : Int32) (y6 : Int) (hx6 : x6.toInt = y6) (hf6 : 0 ≤ y6 ∧ y6 ≤ 31) , (31 - y4) * 35 + 0 + (31 - y6) * 1 + 0 < (n : Int) → LW 79 (d + 11) 0 0 55 [some (.ref 349), some (.int x1), some (.int x2), some (.int x3), some (.int x4), some (.int x5), some (.int x6)] [] g (fun v g' => ∃ r : Int32, v = some (.int r) ∧ Inv P g' ∧ Gr g' = Gr g0)) : LW 79 (d + 11) 0 0 41 [some (.ref 349), some (.int x1), some (.int x2), some (.int x3), some (.int x4), o5, o6] [] g (fun v g' => ∃ r : Int32, v = some (.int r) ∧ Inv P g' ∧ Gr g' = Gr g0) := by
  refine X_iload rfl rfl rfl ?_
  refine X_bipush (v := (31 : Int32)) rfl rfl rfl ?_
  refine S_icmp_ge (tgt := 122) rfl rfl rfl hx4 (show (31 : Int32).toInt = 31 from rfl) (fun vh1 => ?_) (fun vh1 => ?_)
  · refine X_iload_n rfl rfl rfl rfl ?_
    refine X_iconst (v := (-1 : Int32)) rfl rfl rfl ?_
    refine S_icmp_ne (tgt := 131) rfl rfl rfl hx2 (show (-1 : Int32).toInt = -1 from rfl) (fun vh2 => ?_) (fun vh2 => ?_)
    · refine X_bipush (v := (-2 : Int32)) rfl rfl rfl ?_
      exact LW_ireturn (st := []) rfl rfl rfl ⟨_, rfl, V, hG⟩
    · refine X_iload_n rfl rfl rfl rfl ?_
      refine LW_goto (tgt := 133) rfl rfl ?_
      exact LW_ireturn (st := []) rfl rfl rfl ⟨_, rfl, V, hG⟩
  · refine X_iconst (v := (0 : Int32)) rfl rfl rfl ?_
    refine X_istore (i := 5) (ls' := [some (.ref 349), some (.int x1), some (.int x2), some (.int x3), some (.int x4), some (.int (0 : Int32)), o6]) rfl rfl (Nat.le_of_ble_eq_true rfl) rfl ?_
    refine X_iload rfl rfl rfl ?_
    refine X_istore (i := 6) (ls' := [some (.ref 349), some (.int x1), some (.int x2), some (.int x3), some (.int x4), some (.int (0 : Int32)), some (.int x4)]) rfl rfl (Nat.le_of_ble_eq_true rfl) rfl ?_
    exact ih55 _ V hG x1 y1 hx1 (by omega) x2 y2 hx2 (by omega) x3 y3 hx3 x4 y4 hx4 (by omega) (0 : Int32) 0 (show (0 : Int32).toInt = 0 from rfl) x4 y4 hx4 (by omega)    (by omega)
set_option maxRecDepth 10000 in
set_option maxHeartbeats 40000000 in
theorem C_X7_spell_55 {P : Par} {g g0 : LH} {d n : Nat}  (V : Inv P g) (hG : Gr g = Gr g0) (x1 : Int32) (y1 : Int) (hx1 : x1.toInt = y1) (hf1 : 0 ≤ y1 ∧ y1 ≤ 25) (x2 : Int32) (y2 : Int) (hx2 : x2.toInt = y2) (hf2 : (-1) ≤ y2) (x3 : Int32) (y3 : Int) (hx3 : x3.toInt = y3) (x4 : Int32) (y4 : Int) (hx4 : x4.toInt = y4) (hf4 : 0 ≤ y4 ∧ y4 ≤ 30) (x5 : Int32) (y5 : Int) (hx5 : x5.toInt = y5) (x6 : Int32) (y6 : Int) (hx6 : x6.toInt = y6) (hf6 : 0 ≤ y6 ∧ y6 ≤ 31)  (hmu : (31 - y4) * 35 + 0 + (31 - y6) * 1 + 0 < (n : Int) + 1) (ih41 : ∀ (g : LH) (V : Inv P g) (hG : Gr g = Gr g0) (x1 : Int32) (y1 : Int) (hx1 : x1.toInt = y1) (hf1 : 0 ≤ y1 ∧ y1 ≤ 25) (x2 : Int32) (y2 : Int) (hx2 : x2.toInt = y2) (hf2 : (-1) ≤ y2) (x3 : Int32) (y3 : Int) (hx3 : x3.toInt = y3) (x4 : Int32) (y4 : Int) (hx4 : x4.toInt = y4) (hf4 : 0 ≤ y4 ∧ y4 ≤ 31) (o5 : Option Value) (o6 : Option Value) , (31 - y4) * 35 + 34 < (n : Int) → LW 79 (d + 11) 0 0 41 [some (.ref 349), some (.int x1), some (.int x2), some (.int x3), some (.int x4), o5, o6] [] g (fun v g' => ∃ r : Int32, v = some (.int r) ∧ Inv P g' ∧ Gr g' = Gr g0)) (ih55 : ∀ (g : LH) (V : Inv P g) (hG : Gr g = Gr g0) (x1 : Int32) (y1 : Int) (hx1 : x1.toInt = y1) (hf1 : 0 ≤ y1 ∧ y1 ≤ 25) (x2 : Int32) (y2 : Int) (hx2 : x2.toInt = y2) (hf2 : (-1) ≤ y2) (x3 : Int32) (y3 : Int) (hx3 : x3.toInt = y3) (x4 : Int32) (y4 : Int) (hx4 : x4.toInt = y4) (hf4 : 0 ≤ y4 ∧ y4 ≤ 30) (x5 : Int32) (y5 : Int) (hx5 : x5.toInt = y5) (x6 : Int32) (y6 : Int) (hx6 : x6.toInt = y6) (hf6 : 0 ≤ y6 ∧ y6 ≤ 31) , (31 - y4) * 35 + 0 + (31 - y6) * 1 + 0 < (n : Int) → LW 79 (d + 11) 0 0 55 [some (.ref 349), some (.int x1), some (.int x2), some (.int x3), some (.int x4), some (.int x5), some (.int x6)] [] g (fun v g' => ∃ r : Int32, v = some (.int r) ∧ Inv P g' ∧ Gr g' = Gr g0)) : LW 79 (d + 11) 0 0 55 [some (.ref 349), some (.int x1), some (.int x2), some (.int x3), some (.int x4), some (.int x5), some (.int x6)] [] g (fun v g' => ∃ r : Int32, v = some (.int r) ∧ Inv P g' ∧ Gr g' = Gr g0) := by
  refine X_iload rfl rfl rfl ?_
  refine X_bipush (v := (31 : Int32)) rfl rfl rfl ?_
  refine S_icmp_ge (tgt := 116) rfl rfl rfl hx6 (show (31 : Int32).toInt = 31 from rfl) (fun vh1 => ?_) (fun vh1 => ?_)
  · refine S_iinc (c := 1) rfl rfl rfl hx4 rfl (by omega) (fun vz2 hvz2 => ?_)
    refine LW_ls (ls' := [some (.ref 349), some (.int x1), some (.int x2), some (.int x3), some (.int vz2), some (.int x5), some (.int x6)]) rfl ?_
    refine LW_goto (tgt := 41) rfl rfl ?_
    exact ih41 _ V hG x1 y1 hx1 (by omega) x2 y2 hx2 (by omega) x3 y3 hx3 vz2 vz2.toInt rfl (by omega) (some (.int x5)) (some (.int x6))    (by omega)
  · refine X_iload rfl rfl rfl ?_
    refine X_iconst (v := (1 : Int32)) rfl rfl rfl ?_
    refine X_iload rfl rfl rfl ?_
    refine S_ishlT rfl rfl (fun vz3 => ?_)
    refine S_iorT rfl rfl (fun vz4 => ?_)
    refine X_istore (i := 5) (ls' := [some (.ref 349), some (.int x1), some (.int x2), some (.int x3), some (.int x4), some (.int vz4), some (.int x6)]) rfl rfl (Nat.le_of_ble_eq_true rfl) rfl ?_
    refine X_iload rfl rfl rfl ?_
    refine X_aload_n rfl rfl rfl rfl ?_
    refine S_getI rfl rfl rfl ((congrFun V.1 349).trans s_349) rfl (fun vz5 evz5 => ?_)
    refine S_iandT rfl rfl (fun vz6 => ?_)
    refine S_if_ne (tgt := 110) rfl rfl rfl rfl (fun vh7 => ?_) (fun vh7 => ?_)
    · refine S_iinc (c := 1) rfl rfl rfl hx6 rfl (by omega) (fun vz8 hvz8 => ?_)
      refine LW_ls (ls' := [some (.ref 349), some (.int x1), some (.int x2), some (.int x3), some (.int x4), some (.int vz4), some (.int vz8)]) rfl ?_
      refine LW_goto (tgt := 55) rfl rfl ?_
      exact ih55 _ V hG x1 y1 hx1 (by omega) x2 y2 hx2 (by omega) x3 y3 hx3 x4 y4 hx4 (by omega) vz4 vz4.toInt rfl vz8 vz8.toInt rfl (by omega)    (by omega)
    · refine X_aload_n rfl rfl rfl rfl ?_
      refine S_getI rfl rfl rfl ((congrFun V.1 349).trans s_349) rfl (fun vz9 evz9 => ?_)
      refine X_iload rfl rfl rfl ?_
      refine X_iconst (v := (-1 : Int32)) rfl rfl rfl ?_
      refine S_ixorT rfl rfl (fun vz10 => ?_)
      refine S_iandT rfl rfl (fun vz11 => ?_)
      refine S_if_ne (tgt := 110) rfl rfl rfl rfl (fun vh12 => ?_) (fun vh12 => ?_)
      · refine S_iinc (c := 1) rfl rfl rfl hx6 rfl (by omega) (fun vz13 hvz13 => ?_)
        refine LW_ls (ls' := [some (.ref 349), some (.int x1), some (.int x2), some (.int x3), some (.int x4), some (.int vz4), some (.int vz13)]) rfl ?_
        refine LW_goto (tgt := 55) rfl rfl ?_
        exact ih55 _ V hG x1 y1 hx1 (by omega) x2 y2 hx2 (by omega) x3 y3 hx3 x4 y4 hx4 (by omega) vz4 vz4.toInt rfl vz13 vz13.toInt rfl (by omega)    (by omega)
      · refine X_iload_n rfl rfl rfl rfl ?_
        refine X_iload_n rfl rfl rfl rfl ?_
        refine S_icmp_ne (tgt := 107) rfl rfl rfl hx3 hx2 (fun vh14 => ?_) (fun vh14 => ?_)
        · refine S_iincT rfl rfl rfl (fun vz15 => ?_)
          refine LW_ls (ls' := [some (.ref 349), some (.int x1), some (.int x2), some (.int vz15), some (.int x4), some (.int vz4), some (.int x6)]) rfl ?_
          refine S_iinc (c := 1) rfl rfl rfl hx6 rfl (by omega) (fun vz16 hvz16 => ?_)
          refine LW_ls (ls' := [some (.ref 349), some (.int x1), some (.int x2), some (.int vz15), some (.int x4), some (.int vz4), some (.int vz16)]) rfl ?_
          refine LW_goto (tgt := 55) rfl rfl ?_
          exact ih55 _ V hG x1 y1 hx1 (by omega) x2 y2 hx2 (by omega) vz15 vz15.toInt rfl x4 y4 hx4 (by omega) vz4 vz4.toInt rfl vz16 vz16.toInt rfl (by omega)    (by omega)
        · refine X_bipush (v := (31 : Int32)) rfl rfl rfl ?_
          refine X_iload rfl rfl rfl ?_
          refine S_imul rfl rfl (show (31 : Int32).toInt = 31 from rfl) hx4 (by omega) (fun vz17 hvz17 => ?_)
          refine X_iload rfl rfl rfl ?_
          refine S_iadd rfl rfl rfl hx6 (by omega) (fun vz18 hvz18 => ?_)
          exact LW_ireturn (st := []) rfl rfl rfl ⟨_, rfl, V, hG⟩
theorem C_X7_spell_all {P : Par} {g0 : LH} {d : Nat}  : ∀ n : Nat, (∀ (g : LH) (V : Inv P g) (hG : Gr g = Gr g0) (x1 : Int32) (y1 : Int) (hx1 : x1.toInt = y1) (hf1 : 0 ≤ y1 ∧ y1 ≤ 25) (x2 : Int32) (y2 : Int) (hx2 : x2.toInt = y2) (hf2 : (-1) ≤ y2) (x3 : Int32) (y3 : Int) (hx3 : x3.toInt = y3) (x4 : Int32) (y4 : Int) (hx4 : x4.toInt = y4) (hf4 : 0 ≤ y4 ∧ y4 ≤ 31) (o5 : Option Value) (o6 : Option Value) , (31 - y4) * 35 + 34 < (n : Int) → LW 79 (d + 11) 0 0 41 [some (.ref 349), some (.int x1), some (.int x2), some (.int x3), some (.int x4), o5, o6] [] g (fun v g' => ∃ r : Int32, v = some (.int r) ∧ Inv P g' ∧ Gr g' = Gr g0)) ∧ (∀ (g : LH) (V : Inv P g) (hG : Gr g = Gr g0) (x1 : Int32) (y1 : Int) (hx1 : x1.toInt = y1) (hf1 : 0 ≤ y1 ∧ y1 ≤ 25) (x2 : Int32) (y2 : Int) (hx2 : x2.toInt = y2) (hf2 : (-1) ≤ y2) (x3 : Int32) (y3 : Int) (hx3 : x3.toInt = y3) (x4 : Int32) (y4 : Int) (hx4 : x4.toInt = y4) (hf4 : 0 ≤ y4 ∧ y4 ≤ 30) (x5 : Int32) (y5 : Int) (hx5 : x5.toInt = y5) (x6 : Int32) (y6 : Int) (hx6 : x6.toInt = y6) (hf6 : 0 ≤ y6 ∧ y6 ≤ 31) , (31 - y4) * 35 + 0 + (31 - y6) * 1 + 0 < (n : Int) → LW 79 (d + 11) 0 0 55 [some (.ref 349), some (.int x1), some (.int x2), some (.int x3), some (.int x4), some (.int x5), some (.int x6)] [] g (fun v g' => ∃ r : Int32, v = some (.int r) ∧ Inv P g' ∧ Gr g' = Gr g0)) := by
  intro n
  induction n with
  | zero => exact ⟨fun g V hG x1 y1 hx1 hf1 x2 y2 hx2 hf2 x3 y3 hx3 x4 y4 hx4 hf4 o5 o6 hmu => absurd hmu (by have hb2 := ti_hi x2; omega), fun g V hG x1 y1 hx1 hf1 x2 y2 hx2 hf2 x3 y3 hx3 x4 y4 hx4 hf4 x5 y5 hx5 x6 y6 hx6 hf6 hmu => absurd hmu (by have hb2 := ti_hi x2; omega)⟩
  | succ n ih => exact ⟨fun g V hG x1 y1 hx1 hf1 x2 y2 hx2 hf2 x3 y3 hx3 x4 y4 hx4 hf4 o5 o6 hmu => C_X7_spell_41  V hG x1 y1 hx1 hf1 x2 y2 hx2 hf2 x3 y3 hx3 x4 y4 hx4 hf4 o5 o6 (by omega) ih.1 ih.2, fun g V hG x1 y1 hx1 hf1 x2 y2 hx2 hf2 x3 y3 hx3 x4 y4 hx4 hf4 x5 y5 hx5 x6 y6 hx6 hf6 hmu => C_X7_spell_55  V hG x1 y1 hx1 hf1 x2 y2 hx2 hf2 x3 y3 hx3 x4 y4 hx4 hf4 x5 y5 hx5 x6 y6 hx6 hf6 (by omega) ih.1 ih.2⟩
set_option maxRecDepth 10000 in
set_option maxHeartbeats 40000000 in
theorem C_X7_spell {P : Par} {g : LH} {d : Nat}  (V : Inv P g) (x1 : Int32) (y1 : Int) (hx1 : x1.toInt = y1) (hf1 : 0 ≤ y1 ∧ y1 ≤ 25) (x2 : Int32) (y2 : Int) (hx2 : x2.toInt = y2) (hf2 : (-1) ≤ y2)   : LW 79 (d + 11) 0 0 0 (lEnt (mL 79) [.ref 349, .int x1, .int x2]) [] g (fun v g' => ∃ r : Int32, v = some (.int r) ∧ Inv P g' ∧ Gr g' = Gr g) := by
  refine LW_ls (ls' := [some (.ref 349), some (.int x1), some (.int x2), none, none, none, none]) rfl ?_
  have hG : Gr g = Gr g := rfl
  refine X_iconst (v := (0 : Int32)) rfl rfl rfl ?_
  refine X_istore_n (i := 3) (ls' := [some (.ref 349), some (.int x1), some (.int x2), some (.int (0 : Int32)), none, none, none]) rfl rfl rfl (Nat.le_of_ble_eq_true rfl) rfl ?_
  refine X_aload_n rfl rfl rfl rfl ?_
  refine X_iload_n rfl rfl rfl rfl ?_
  refine Y_callV (as := [.int x1]) (st := []) rfl rfl rfl (by decide) rfl (Nat.le_of_ble_eq_true rfl) (by decide) (Nat.le_of_ble_eq_true rfl) rfl ((congrFun V.1 349).trans s_349) (by decide) (C_X7_weighPrints V x1 y1 hx1 (by omega) ) ?_
  rintro _ g ⟨vr1, rfl, hrvr10, hrvr11, V, hq⟩
  have hG := hq.trans hG
  refine S_if_ne (tgt := 22) rfl rfl rfl rfl (fun vh2 => ?_) (fun vh2 => ?_)
  · refine X_aload_n rfl rfl rfl rfl ?_
    refine S_getI rfl rfl rfl ((congrFun V.1 349).trans s_349) rfl (fun vz3 evz3 => ?_)
    refine S_if_ne (tgt := 38) rfl rfl rfl rfl (fun vh4 => ?_) (fun vh4 => ?_)
    · refine X_iconst (v := (0 : Int32)) rfl rfl rfl ?_
      refine X_istore (i := 4) (ls' := [some (.ref 349), some (.int x1), some (.int x2), some (.int (0 : Int32)), some (.int (0 : Int32)), none, none]) rfl rfl (Nat.le_of_ble_eq_true rfl) rfl ?_
      exact (C_X7_spell_all (((31 - 0) * 35 + 34) + 1 : Int).toNat).1 _ V hG x1 y1 hx1 (by omega) x2 y2 hx2 (by omega) (0 : Int32) 0 (show (0 : Int32).toInt = 0 from rfl) (0 : Int32) 0 (show (0 : Int32).toInt = 0 from rfl) (by omega) none none    (by omega)
    · refine X_iload_n rfl rfl rfl rfl ?_
      refine S_if_ne (tgt := 35) rfl rfl rfl hx2 (fun vh5 => ?_) (fun vh5 => ?_)
      · refine X_iinc (v := (1 : Int32)) (ls' := [some (.ref 349), some (.int x1), some (.int x2), some (.int (1 : Int32)), none, none, none]) rfl rfl rfl rfl rfl ?_
        refine X_iconst (v := (0 : Int32)) rfl rfl rfl ?_
        refine X_istore (i := 4) (ls' := [some (.ref 349), some (.int x1), some (.int x2), some (.int (1 : Int32)), some (.int (0 : Int32)), none, none]) rfl rfl (Nat.le_of_ble_eq_true rfl) rfl ?_
        exact (C_X7_spell_all (((31 - 0) * 35 + 34) + 1 : Int).toNat).1 _ V hG x1 y1 hx1 (by omega) x2 y2 hx2 (by omega) (1 : Int32) 1 (show (1 : Int32).toInt = 1 from rfl) (0 : Int32) 0 (show (0 : Int32).toInt = 0 from rfl) (by omega) none none    (by omega)
      · refine X_iconst (v := (-1 : Int32)) rfl rfl rfl ?_
        exact LW_ireturn (st := []) rfl rfl rfl ⟨_, rfl, V, hG⟩
  · refine X_iload_n rfl rfl rfl rfl ?_
    refine X_iconst (v := (-1 : Int32)) rfl rfl rfl ?_
    refine S_icmp_ne (tgt := 19) rfl rfl rfl hx2 (show (-1 : Int32).toInt = -1 from rfl) (fun vh6 => ?_) (fun vh6 => ?_)
    · refine X_bipush (v := (-2 : Int32)) rfl rfl rfl ?_
      exact LW_ireturn (st := []) rfl rfl rfl ⟨_, rfl, V, hG⟩
    · refine X_iconst (v := (0 : Int32)) rfl rfl rfl ?_
      refine LW_goto (tgt := 21) rfl rfl ?_
      exact LW_ireturn (st := []) rfl rfl rfl ⟨_, rfl, V, hG⟩
set_option maxRecDepth 10000 in
set_option maxHeartbeats 40000000 in
theorem C_X12_spells {P : Par} {g : LH} {d : Nat}  (V : Inv P g) (x1 : Int32) (y1 : Int) (hx1 : x1.toInt = y1) (x2 : Int32) (y2 : Int) (hx2 : x2.toInt = y2)   : LW 161 (d + 16) 0 0 0 (lEnt (mL 161) [.ref 0, .int x1, .int x2]) [] g (fun v g' => ∃ r : Int32, v = some (.int r) ∧ Inv P g' ∧ Gr g' = Gr g) := by
  refine LW_ls (ls' := [some (.ref 0), some (.int x1), some (.int x2)]) rfl ?_
  have hG : Gr g = Gr g := rfl
  refine X_iload_n rfl rfl rfl rfl ?_
  refine X_callS (as := [.int x1]) (st := []) rfl rfl rfl (by decide) rfl (Nat.le_of_ble_eq_true rfl) (by decide) (Nat.le_of_ble_eq_true rfl) rfl ?_
  refine LW_ls (ls' := [some (.int x1)]) rfl ?_
  refine X_iload_n rfl rfl rfl rfl ?_
  refine S_if_lt (tgt := 14) rfl rfl rfl hx1 (fun vh1 => ?_) (fun vh1 => ?_)
  · refine X_iconst (v := (0 : Int32)) rfl rfl rfl ?_
    refine LW_ireturn (st := []) rfl rfl rfl ?_
    refine S_if_eq (tgt := 24) rfl rfl rfl (show (0 : Int32).toInt = 0 from rfl) (fun vh2 => ?_) (fun q => absurd q (by omega))
    refine X_bipush (v := (-2 : Int32)) rfl rfl rfl ?_
    exact LW_ireturn (st := []) rfl rfl rfl ⟨_, rfl, V, hG⟩
  · refine X_iload_n rfl rfl rfl rfl ?_
    refine X_bipush (v := (26 : Int32)) rfl rfl rfl ?_
    refine S_icmp_ge (tgt := 14) rfl rfl rfl hx1 (show (26 : Int32).toInt = 26 from rfl) (fun vh3 => ?_) (fun vh3 => ?_)
    · refine X_iconst (v := (0 : Int32)) rfl rfl rfl ?_
      refine LW_ireturn (st := []) rfl rfl rfl ?_
      refine S_if_eq (tgt := 24) rfl rfl rfl (show (0 : Int32).toInt = 0 from rfl) (fun vh4 => ?_) (fun q => absurd q (by omega))
      refine X_bipush (v := (-2 : Int32)) rfl rfl rfl ?_
      exact LW_ireturn (st := []) rfl rfl rfl ⟨_, rfl, V, hG⟩
    · refine X_iconst (v := (1 : Int32)) rfl rfl rfl ?_
      refine LW_goto (tgt := 15) rfl rfl ?_
      refine LW_ireturn (st := []) rfl rfl rfl ?_
      refine S_if_eq (tgt := 24) rfl rfl rfl (show (1 : Int32).toInt = 1 from rfl) (fun q => absurd q (by omega)) (fun vh5 => ?_)
      refine X_iload_n rfl rfl rfl rfl ?_
      refine X_iconst (v := (-1 : Int32)) rfl rfl rfl ?_
      refine S_icmp_lt (tgt := 24) rfl rfl rfl hx2 (show (-1 : Int32).toInt = -1 from rfl) (fun vh6 => ?_) (fun vh6 => ?_)
      · refine X_bipush (v := (-2 : Int32)) rfl rfl rfl ?_
        exact LW_ireturn (st := []) rfl rfl rfl ⟨_, rfl, V, hG⟩
      · refine X_aload_n rfl rfl rfl rfl ?_
        refine X_getR (a := 349) rfl rfl rfl ((congrFun V.1 0).trans s_0) rfl ((congrFun (V.2.1 0 (by decide)) 8).trans r_0_8) ?_
        refine X_iload_n rfl rfl rfl rfl ?_
        refine X_iload_n rfl rfl rfl rfl ?_
        refine Y_callV (as := [.int x1, .int x2]) (st := []) rfl rfl rfl (by decide) rfl (Nat.le_of_ble_eq_true rfl) (by decide) (Nat.le_of_ble_eq_true rfl) rfl ((congrFun V.1 349).trans s_349) (by decide) (C_X7_spell V x1 y1 hx1 (by omega) x2 y2 hx2 (by omega) ) ?_
        rintro _ g ⟨vr7, rfl, V, hq⟩
        have hG := hq.trans hG
        refine LW_goto (tgt := 26) rfl rfl ?_
        exact LW_ireturn (st := []) rfl rfl rfl ⟨_, rfl, V, hG⟩
set_option maxRecDepth 10000 in
set_option maxHeartbeats 40000000 in
theorem C_X0_wordAt {P : Par} {g : LH} {d : Nat}  (V : Inv P g) (x1 : Int32) (y1 : Int) (hx1 : x1.toInt = y1) (hf1 : 0 ≤ y1 ∧ y1 ≤ 9) (x2 : Int32) (y2 : Int) (hx2 : x2.toInt = y2)   : LW 2 (d + 3) 0 0 0 (lEnt (mL 2) [.ref 136, .int x1, .int x2]) [] g (fun v g' => ∃ r : Int32, v = some (.int r) ∧ g = g') := by
  refine LW_ls (ls' := [some (.ref 136), some (.int x1), some (.int x2)]) rfl ?_
  refine X_iload_n rfl rfl rfl rfl ?_
  refine S_if_lt (tgt := 24) rfl rfl rfl hx1 (fun q => absurd q (by omega)) (fun vh1 => ?_)
  refine X_iload_n rfl rfl rfl rfl ?_
  refine X_bipush (v := (10 : Int32)) rfl rfl rfl ?_
  refine S_icmp_ge (tgt := 24) rfl rfl rfl hx1 (show (10 : Int32).toInt = 10 from rfl) (fun q => absurd q (by omega)) (fun vh2 => ?_)
  refine X_iload_n rfl rfl rfl rfl ?_
  refine S_if_lt (tgt := 24) rfl rfl rfl hx2 (fun vh3 => ?_) (fun vh3 => ?_)
  · refine X_iconst (v := (-1 : Int32)) rfl rfl rfl ?_
    exact LW_ireturn (st := []) rfl rfl rfl ⟨_, rfl, rfl⟩
  · refine X_iload_n rfl rfl rfl rfl ?_
    refine X_aload_n rfl rfl rfl rfl ?_
    refine X_getR (a := 139) rfl rfl rfl ((congrFun V.1 136).trans s_136) rfl ((congrFun (V.2.1 136 (by decide)) 2).trans r_136_2) ?_
    refine X_iload_n rfl rfl rfl rfl ?_
    refine S_iald rfl rfl ((congrFun V.1 139).trans s_139) hx1 (by omega) (fun vz4 evz4 => ?_)
    have vf5 := K_1 (V.2.2.2.2.1 (139) ((y1 : Int).toNat) (Nat.le_of_ble_eq_true rfl)) rk_139
    rw [evz4] at vf5
    refine S_icmp_lt (tgt := 26) rfl rfl rfl hx2 rfl (fun vh6 => ?_) (fun vh6 => ?_)
    · refine X_aload_n rfl rfl rfl rfl ?_
      refine X_getR (a := 140) rfl rfl rfl ((congrFun V.1 136).trans s_136) rfl ((congrFun (V.2.1 136 (by decide)) 3).trans r_136_3) ?_
      refine X_iload_n rfl rfl rfl rfl ?_
      refine X_bipush (v := (8 : Int32)) rfl rfl rfl ?_
      refine S_imul rfl rfl hx1 (show (8 : Int32).toInt = 8 from rfl) (by omega) (fun vz7 hvz7 => ?_)
      refine X_iload_n rfl rfl rfl rfl ?_
      refine S_iadd rfl rfl rfl hx2 (by omega) (fun vz8 hvz8 => ?_)
      refine S_iald rfl rfl ((congrFun V.1 140).trans s_140) rfl (by omega) (fun vz9 evz9 => ?_)
      exact LW_ireturn (st := []) rfl rfl rfl ⟨_, rfl, rfl⟩
    · refine X_iconst (v := (-1 : Int32)) rfl rfl rfl ?_
      exact LW_ireturn (st := []) rfl rfl rfl ⟨_, rfl, rfl⟩
set_option maxRecDepth 10000 in
set_option maxHeartbeats 40000000 in
theorem C_X4_broken_5 {P : Par} {g : LH} {d n : Nat}  (V : Inv P g) (x1 : Int32) (y1 : Int) (hx1 : x1.toInt = y1) (hf1 : 0 ≤ y1 ∧ y1 ≤ 9) (x2 : Int32) (y2 : Int) (hx2 : x2.toInt = y2) (x3 : Int32) (y3 : Int) (hx3 : x3.toInt = y3) (x4 : Int32) (y4 : Int) (hx4 : x4.toInt = y4) (hf4 : 0 ≤ y4 ∧ y4 ≤ 8) (o5 : Option Value)  (hmu : (8 - y4) * 1 + 0 < (n : Int) + 1) (ih5 : ∀ (V : Inv P g) (x1 : Int32) (y1 : Int) (hx1 : x1.toInt = y1) (hf1 : 0 ≤ y1 ∧ y1 ≤ 9) (x2 : Int32) (y2 : Int) (hx2 : x2.toInt = y2) (x3 : Int32) (y3 : Int) (hx3 : x3.toInt = y3) (x4 : Int32) (y4 : Int) (hx4 : x4.toInt = y4) (hf4 : 0 ≤ y4 ∧ y4 ≤ 8) (o5 : Option Value) , (8 - y4) * 1 + 0 < (n : Int) → LW 31 (d + 8) 0 0 5 [some (.ref 339), some (.int x1), some (.int x2), some (.int x3), some (.int x4), o5] [] g (fun v g' => ∃ r : Int32, v = some (.int r) ∧ g = g')) : LW 31 (d + 8) 0 0 5 [some (.ref 339), some (.int x1), some (.int x2), some (.int x3), some (.int x4), o5] [] g (fun v g' => ∃ r : Int32, v = some (.int r) ∧ g = g') := by
  refine X_iload rfl rfl rfl ?_
  refine X_bipush (v := (8 : Int32)) rfl rfl rfl ?_
  refine S_icmp_ge (tgt := 69) rfl rfl rfl hx4 (show (8 : Int32).toInt = 8 from rfl) (fun vh1 => ?_) (fun vh1 => ?_)
  · refine X_iload_n rfl rfl rfl rfl ?_
    exact LW_ireturn (st := []) rfl rfl rfl ⟨_, rfl, rfl⟩
  · refine X_aload_n rfl rfl rfl rfl ?_
    refine X_getR (a := 1) rfl rfl rfl ((congrFun V.1 339).trans s_339) rfl ((congrFun (V.2.1 339 (by decide)) 0).trans r_339_0) ?_
    refine X_getR (a := 136) rfl rfl rfl ((congrFun V.1 1).trans s_1) rfl ((congrFun (V.2.1 1 (by decide)) 3).trans r_1_3) ?_
    refine X_iload_n rfl rfl rfl rfl ?_
    refine X_iload rfl rfl rfl ?_
    refine Y_callV (as := [.int x1, .int x4]) (st := []) rfl rfl rfl (by decide) rfl (Nat.le_of_ble_eq_true rfl) (by decide) (Nat.le_of_ble_eq_true rfl) rfl ((congrFun V.1 136).trans s_136) (by decide) (C_X0_wordAt V x1 y1 hx1 (by omega) x4 y4 hx4 ) ?_
    rintro _ g' ⟨vr2, rfl, hgg⟩
    subst hgg
    refine X_istore (i := 5) (ls' := [some (.ref 339), some (.int x1), some (.int x2), some (.int x3), some (.int x4), some (.int vr2)]) rfl rfl (Nat.le_of_ble_eq_true rfl) rfl ?_
    refine X_aload_n rfl rfl rfl rfl ?_
    refine X_getR (a := 1) rfl rfl rfl ((congrFun V.1 339).trans s_339) rfl ((congrFun (V.2.1 339 (by decide)) 0).trans r_339_0) ?_
    refine X_getR (a := 2) rfl rfl rfl ((congrFun V.1 1).trans s_1) rfl ((congrFun (V.2.1 1 (by decide)) 0).trans r_1_0) ?_
    refine X_iload rfl rfl rfl ?_
    refine X_callV (as := [.int vr2]) (st := []) rfl rfl rfl (by decide) rfl (Nat.le_of_ble_eq_true rfl) (by decide) (Nat.le_of_ble_eq_true rfl) rfl ((congrFun V.1 2).trans s_2) (by decide) ?_
    refine LW_ls (ls' := [some (.ref 2), some (.int vr2)]) rfl ?_
    refine X_iload_n rfl rfl rfl rfl ?_
    refine S_if_lt (tgt := 22) rfl rfl rfl rfl (fun vh3 => ?_) (fun vh3 => ?_)
    · refine X_iconst (v := (0 : Int32)) rfl rfl rfl ?_
      refine LW_ireturn (st := []) rfl rfl rfl ?_
      refine S_if_eq (tgt := 63) rfl rfl rfl (show (0 : Int32).toInt = 0 from rfl) (fun vh4 => ?_) (fun q => absurd q (by omega))
      refine S_iinc (c := 1) rfl rfl rfl hx4 rfl (by omega) (fun vz5 hvz5 => ?_)
      refine LW_ls (ls' := [some (.ref 339), some (.int x1), some (.int x2), some (.int x3), some (.int vz5), some (.int vr2)]) rfl ?_
      refine LW_goto (tgt := 5) rfl rfl ?_
      exact ih5 V x1 y1 hx1 (by omega) x2 y2 hx2 x3 y3 hx3 vz5 vz5.toInt rfl (by omega) (some (.int vr2))    (by omega)
    · refine X_iload_n rfl rfl rfl rfl ?_
      refine X_aload_n rfl rfl rfl rfl ?_
      refine S_getI rfl rfl rfl ((congrFun V.1 2).trans s_2) rfl (fun vz6 evz6 => ?_)
      have vf7 := K_10_0 (V.2.2.2.2.1 (2) (0) (Nat.le_of_ble_eq_true rfl)) rk_2
      rw [evz6] at vf7
      refine S_icmp_ge (tgt := 22) rfl rfl rfl rfl rfl (fun vh8 => ?_) (fun vh8 => ?_)
      · refine X_iconst (v := (0 : Int32)) rfl rfl rfl ?_
        refine LW_ireturn (st := []) rfl rfl rfl ?_
        refine S_if_eq (tgt := 63) rfl rfl rfl (show (0 : Int32).toInt = 0 from rfl) (fun vh9 => ?_) (fun q => absurd q (by omega))
        refine S_iinc (c := 1) rfl rfl rfl hx4 rfl (by omega) (fun vz10 hvz10 => ?_)
        refine LW_ls (ls' := [some (.ref 339), some (.int x1), some (.int x2), some (.int x3), some (.int vz10), some (.int vr2)]) rfl ?_
        refine LW_goto (tgt := 5) rfl rfl ?_
        exact ih5 V x1 y1 hx1 (by omega) x2 y2 hx2 x3 y3 hx3 vz10 vz10.toInt rfl (by omega) (some (.int vr2))    (by omega)
      · refine X_iload_n rfl rfl rfl rfl ?_
        refine X_bipush (v := (24 : Int32)) rfl rfl rfl ?_
        refine S_icmp_ge (tgt := 22) rfl rfl rfl rfl (show (24 : Int32).toInt = 24 from rfl) (fun q => absurd q (by omega)) (fun vh11 => ?_)
        refine X_iconst (v := (1 : Int32)) rfl rfl rfl ?_
        refine LW_goto (tgt := 23) rfl rfl ?_
        refine LW_ireturn (st := []) rfl rfl rfl ?_
        refine S_if_eq (tgt := 63) rfl rfl rfl (show (1 : Int32).toInt = 1 from rfl) (fun q => absurd q (by omega)) (fun vh12 => ?_)
        refine X_aload_n rfl rfl rfl rfl ?_
        refine X_getR (a := 1) rfl rfl rfl ((congrFun V.1 339).trans s_339) rfl ((congrFun (V.2.1 339 (by decide)) 0).trans r_339_0) ?_
        refine X_getR (a := 2) rfl rfl rfl ((congrFun V.1 1).trans s_1) rfl ((congrFun (V.2.1 1 (by decide)) 0).trans r_1_0) ?_
        refine X_getR (a := 5) rfl rfl rfl ((congrFun V.1 2).trans s_2) rfl ((congrFun (V.2.1 2 (by decide)) 4).trans r_2_4) ?_
        refine X_iload rfl rfl rfl ?_
        refine S_iald rfl rfl ((congrFun V.1 5).trans s_5) rfl (by omega) (fun vz13 evz13 => ?_)
        refine X_iload_n rfl rfl rfl rfl ?_
        refine S_iandT rfl rfl (fun vz14 => ?_)
        refine S_if_eq (tgt := 63) rfl rfl rfl rfl (fun vh15 => ?_) (fun vh15 => ?_)
        · refine S_iinc (c := 1) rfl rfl rfl hx4 rfl (by omega) (fun vz16 hvz16 => ?_)
          refine LW_ls (ls' := [some (.ref 339), some (.int x1), some (.int x2), some (.int x3), some (.int vz16), some (.int vr2)]) rfl ?_
          refine LW_goto (tgt := 5) rfl rfl ?_
          exact ih5 V x1 y1 hx1 (by omega) x2 y2 hx2 x3 y3 hx3 vz16 vz16.toInt rfl (by omega) (some (.int vr2))    (by omega)
        · refine S_iincT rfl rfl rfl (fun vz17 => ?_)
          refine LW_ls (ls' := [some (.ref 339), some (.int x1), some (.int x2), some (.int vz17), some (.int x4), some (.int vr2)]) rfl ?_
          refine S_iinc (c := 1) rfl rfl rfl hx4 rfl (by omega) (fun vz18 hvz18 => ?_)
          refine LW_ls (ls' := [some (.ref 339), some (.int x1), some (.int x2), some (.int vz17), some (.int vz18), some (.int vr2)]) rfl ?_
          refine LW_goto (tgt := 5) rfl rfl ?_
          exact ih5 V x1 y1 hx1 (by omega) x2 y2 hx2 vz17 vz17.toInt rfl vz18 vz18.toInt rfl (by omega) (some (.int vr2))    (by omega)
theorem C_X4_broken_all {P : Par} {g : LH} {d : Nat}  : ∀ n : Nat, (∀ (V : Inv P g) (x1 : Int32) (y1 : Int) (hx1 : x1.toInt = y1) (hf1 : 0 ≤ y1 ∧ y1 ≤ 9) (x2 : Int32) (y2 : Int) (hx2 : x2.toInt = y2) (x3 : Int32) (y3 : Int) (hx3 : x3.toInt = y3) (x4 : Int32) (y4 : Int) (hx4 : x4.toInt = y4) (hf4 : 0 ≤ y4 ∧ y4 ≤ 8) (o5 : Option Value) , (8 - y4) * 1 + 0 < (n : Int) → LW 31 (d + 8) 0 0 5 [some (.ref 339), some (.int x1), some (.int x2), some (.int x3), some (.int x4), o5] [] g (fun v g' => ∃ r : Int32, v = some (.int r) ∧ g = g')) := by
  intro n
  induction n with
  | zero => exact fun V x1 y1 hx1 hf1 x2 y2 hx2 x3 y3 hx3 x4 y4 hx4 hf4 o5 hmu => absurd hmu (by omega)
  | succ n ih => exact fun V x1 y1 hx1 hf1 x2 y2 hx2 x3 y3 hx3 x4 y4 hx4 hf4 o5 hmu => C_X4_broken_5  V x1 y1 hx1 hf1 x2 y2 hx2 x3 y3 hx3 x4 y4 hx4 hf4 o5 (by omega) ih
set_option maxRecDepth 10000 in
set_option maxHeartbeats 40000000 in
theorem C_X4_broken {P : Par} {g : LH} {d : Nat}  (V : Inv P g) (x1 : Int32) (y1 : Int) (hx1 : x1.toInt = y1) (hf1 : 0 ≤ y1 ∧ y1 ≤ 9) (x2 : Int32) (y2 : Int) (hx2 : x2.toInt = y2)   : LW 31 (d + 8) 0 0 0 (lEnt (mL 31) [.ref 339, .int x1, .int x2]) [] g (fun v g' => ∃ r : Int32, v = some (.int r) ∧ g = g') := by
  refine LW_ls (ls' := [some (.ref 339), some (.int x1), some (.int x2), none, none, none]) rfl ?_
  refine X_iconst (v := (0 : Int32)) rfl rfl rfl ?_
  refine X_istore_n (i := 3) (ls' := [some (.ref 339), some (.int x1), some (.int x2), some (.int (0 : Int32)), none, none]) rfl rfl rfl (Nat.le_of_ble_eq_true rfl) rfl ?_
  refine X_iconst (v := (0 : Int32)) rfl rfl rfl ?_
  refine X_istore (i := 4) (ls' := [some (.ref 339), some (.int x1), some (.int x2), some (.int (0 : Int32)), some (.int (0 : Int32)), none]) rfl rfl (Nat.le_of_ble_eq_true rfl) rfl ?_
  exact (C_X4_broken_all (((8 - 0) * 1 + 0) + 1 : Int).toNat) V x1 y1 hx1 (by omega) x2 y2 hx2 (0 : Int32) 0 (show (0 : Int32).toInt = 0 from rfl) (0 : Int32) 0 (show (0 : Int32).toInt = 0 from rfl) (by omega) none    (by omega)
set_option maxRecDepth 10000 in
set_option maxHeartbeats 40000000 in
theorem C_X4_binds {P : Par} {g : LH} {d : Nat}  (V : Inv P g) (x1 : Int32) (y1 : Int) (hx1 : x1.toInt = y1) (hf1 : 0 ≤ y1 ∧ y1 ≤ 9) (x2 : Int32) (y2 : Int) (hx2 : x2.toInt = y2) (hf2 : (-1) ≤ y2 ∧ y2 ≤ 25)   : LW 30 (d + 13) 0 0 0 (lEnt (mL 30) [.ref 339, .int x1, .int x2]) [] g (fun v g' => ∃ r : Int32, v = some (.int r) ∧ 0 ≤ r.toInt ∧ r.toInt ≤ 1 ∧ Inv P g' ∧ Gr g' = Gr g) := by
  refine LW_ls (ls' := [some (.ref 339), some (.int x1), some (.int x2), none, none, none, none, none]) rfl ?_
  have hG : Gr g = Gr g := rfl
  refine X_aload_n rfl rfl rfl rfl ?_
  refine X_getR (a := 1) rfl rfl rfl ((congrFun V.1 339).trans s_339) rfl ((congrFun (V.2.1 339 (by decide)) 0).trans r_339_0) ?_
  refine X_getR (a := 10) rfl rfl rfl ((congrFun V.1 1).trans s_1) rfl ((congrFun (V.2.1 1 (by decide)) 1).trans r_1_1) ?_
  refine X_astore_n (i := 3) (ls' := [some (.ref 339), some (.int x1), some (.int x2), some (.ref 10), none, none, none, none]) rfl rfl rfl (Nat.le_of_ble_eq_true rfl) rfl ?_
  refine X_aload_n rfl rfl rfl rfl ?_
  refine Y_callV (as := []) (st := []) rfl rfl rfl (by decide) rfl (Nat.le_of_ble_eq_true rfl) (by decide) (Nat.le_of_ble_eq_true rfl) rfl ((congrFun V.1 10).trans s_10) (by decide) (C_X9_missing V  ) ?_
  rintro _ g' ⟨vr1, rfl, hgg⟩
  subst hgg
  refine X_istore (i := 4) (ls' := [some (.ref 339), some (.int x1), some (.int x2), some (.ref 10), some (.int vr1), none, none, none]) rfl rfl (Nat.le_of_ble_eq_true rfl) rfl ?_
  refine X_aload_n rfl rfl rfl rfl ?_
  refine Y_callV (as := []) (st := []) rfl rfl rfl (by decide) rfl (Nat.le_of_ble_eq_true rfl) (by decide) (Nat.le_of_ble_eq_true rfl) rfl ((congrFun V.1 10).trans s_10) (by decide) (C_X9_outs V  ) ?_
  rintro _ g' ⟨vr2, rfl, hrvr20, hrvr21, hgg⟩
  subst hgg
  refine X_istore (i := 5) (ls' := [some (.ref 339), some (.int x1), some (.int x2), some (.ref 10), some (.int vr1), some (.int vr2), none, none]) rfl rfl (Nat.le_of_ble_eq_true rfl) rfl ?_
  refine X_iload_n rfl rfl rfl rfl ?_
  refine X_callN (as := [.int x2]) (st := []) rfl rfl rfl (by decide) rfl (Nat.le_of_ble_eq_true rfl) (by decide) (Nat.le_of_ble_eq_true rfl) rfl ?_
  refine LW_ls (ls' := [some (.int x2)]) rfl ?_
  refine X_iload_n rfl rfl rfl rfl ?_
  refine S_if_lt (tgt := 14) rfl rfl rfl hx2 (fun vh3 => ?_) (fun vh3 => ?_)
  · refine X_iconst (v := (0 : Int32)) rfl rfl rfl ?_
    refine LW_ireturn (st := []) rfl rfl rfl ?_
    refine S_if_eq (tgt := 52) rfl rfl rfl (show (0 : Int32).toInt = 0 from rfl) (fun vh4 => ?_) (fun q => absurd q (by omega))
    refine X_aload_n rfl rfl rfl rfl ?_
    refine X_iload_n rfl rfl rfl rfl ?_
    refine X_iload rfl rfl rfl ?_
    refine Y_callV (as := [.int x1, .int vr1]) (st := []) rfl rfl rfl (by decide) rfl (Nat.le_of_ble_eq_true rfl) (by decide) (Nat.le_of_ble_eq_true rfl) rfl ((congrFun V.1 339).trans s_339) (by decide) (C_X4_broken V x1 y1 hx1 (by omega) vr1 vr1.toInt rfl ) ?_
    rintro _ g' ⟨vr5, rfl, hgg⟩
    subst hgg
    refine X_istore (i := 6) (ls' := [some (.ref 339), some (.int x1), some (.int x2), some (.ref 10), some (.int vr1), some (.int vr2), some (.int vr5), none]) rfl rfl (Nat.le_of_ble_eq_true rfl) rfl ?_
    refine X_aload_n rfl rfl rfl rfl ?_
    refine X_iconst (v := (3 : Int32)) rfl rfl rfl ?_
    refine Y_callV (as := [.int (3 : Int32)]) (st := []) rfl rfl rfl (by decide) rfl (Nat.le_of_ble_eq_true rfl) (by decide) (Nat.le_of_ble_eq_true rfl) rfl ((congrFun V.1 339).trans s_339) (by decide) (C_X4_ruling V (3 : Int32) 3 (show (3 : Int32).toInt = 3 from rfl) (by omega) ) ?_
    rintro _ g' ⟨rfl | ⟨u, hu, rfl, hl⟩, hgg⟩
    · subst hgg
      refine X_astoreN (i := 7) (ls' := [some (.ref 339), some (.int x1), some (.int x2), some (.ref 10), some (.int vr1), some (.int vr2), some (.int vr5), some (.null)]) rfl rfl (Nat.le_of_ble_eq_true rfl) rfl ?_
      refine X_aloadN rfl rfl rfl ?_
      refine X_ifnonnullN (tgt := 84) rfl rfl rfl ?_
      refine X_iload rfl rfl rfl ?_
      refine S_if_ne (tgt := 82) rfl rfl rfl rfl (fun vh6 => ?_) (fun vh6 => ?_)
      · refine X_iconst (v := (0 : Int32)) rfl rfl rfl ?_
        exact LW_ireturn (st := []) rfl rfl rfl ⟨_, rfl, by decide, by decide, V, hG⟩
      · refine X_iconst (v := (1 : Int32)) rfl rfl rfl ?_
        refine LW_goto (tgt := 83) rfl rfl ?_
        exact LW_ireturn (st := []) rfl rfl rfl ⟨_, rfl, by decide, by decide, V, hG⟩
    · subst hgg
      refine X_astore (i := 7) (ls' := [some (.ref 339), some (.int x1), some (.int x2), some (.ref 10), some (.int vr1), some (.int vr2), some (.int vr5), some (.ref (292 + 10 * u))]) rfl rfl (Nat.le_of_ble_eq_true rfl) rfl ?_
      refine X_aload rfl rfl rfl ?_
      refine LW_ifnonnull (tgt := 84) rfl rfl ?_
      refine X_aload_n rfl rfl rfl rfl ?_
      refine X_iload rfl rfl rfl ?_
      refine X_callV (as := [.int vr2]) (st := []) rfl rfl rfl (by decide) rfl (Nat.le_of_ble_eq_true rfl) (by decide) (Nat.le_of_ble_eq_true rfl) rfl ((congrFun V.1 339).trans s_339) (by decide) ?_
      refine LW_ls (ls' := [some (.ref 339), some (.int vr2)]) rfl ?_
      refine X_aload_n rfl rfl rfl rfl ?_
      refine X_getR (a := 340) rfl rfl rfl ((congrFun V.1 339).trans s_339) rfl ((congrFun (V.2.1 339 (by decide)) 2).trans r_339_2) ?_
      refine X_iconst (v := (0 : Int32)) rfl rfl rfl ?_
      refine X_aload_n rfl rfl rfl rfl ?_
      refine X_getR (a := 1) rfl rfl rfl ((congrFun V.1 339).trans s_339) rfl ((congrFun (V.2.1 339 (by decide)) 0).trans r_339_0) ?_
      refine X_getR (a := 10) rfl rfl rfl ((congrFun V.1 1).trans s_1) rfl ((congrFun (V.2.1 1 (by decide)) 1).trans r_1_1) ?_
      refine S_getI rfl rfl rfl ((congrFun V.1 10).trans s_10) rfl (fun vz7 evz7 => ?_)
      refine S_iast (I := Inv _) rfl rfl ((congrFun V.1 340).trans s_340) (show (0 : Int32).toInt = 0 from rfl) (by omega) (Inv_putI V (Nat.le_of_ble_eq_true rfl) (Or.inl (by decide)) (Q_0 rk_340)) (fun g V ve8 vn9 hq => ?_)
      have hG := hq.trans hG
      have evz7 := (vn9 (10) 1 (Or.inl (by decide))).trans evz7
      rw [← vn9 (299 + 10 * u) (3 : Int).toNat (Or.inl (by omega))] at hl
      refine X_aload_n rfl rfl rfl rfl ?_
      refine X_getR (a := 340) rfl rfl rfl ((congrFun V.1 339).trans s_339) rfl ((congrFun (V.2.1 339 (by decide)) 2).trans r_339_2) ?_
      refine X_iconst (v := (1 : Int32)) rfl rfl rfl ?_
      refine X_iload_n rfl rfl rfl rfl ?_
      refine S_iast (I := Inv _) rfl rfl ((congrFun V.1 340).trans s_340) (show (1 : Int32).toInt = 1 from rfl) (by omega) (Inv_putI V (Nat.le_of_ble_eq_true rfl) (Or.inl (by decide)) (Q_0 rk_340)) (fun g V ve10 vn11 hq => ?_)
      have hG := hq.trans hG
      have evz7 := (vn11 (10) 1 (Or.inl (by decide))).trans evz7
      rw [← vn11 (299 + 10 * u) (3 : Int).toNat (Or.inl (by omega))] at hl
      refine LW_return (st := []) rfl rfl ?_
      refine X_aload_n rfl rfl rfl rfl ?_
      refine X_getR (a := 340) rfl rfl rfl ((congrFun V.1 339).trans s_339) rfl ((congrFun (V.2.1 339 (by decide)) 2).trans r_339_2) ?_
      refine X_bipush (v := (11 : Int32)) rfl rfl rfl ?_
      refine X_iload rfl rfl rfl ?_
      refine S_iast (I := Inv _) rfl rfl ((congrFun V.1 340).trans s_340) (show (11 : Int32).toInt = 11 from rfl) (by omega) (Inv_putI V (Nat.le_of_ble_eq_true rfl) (Or.inl (by decide)) (Q_0 rk_340)) (fun g V ve12 vn13 hq => ?_)
      have hG := hq.trans hG
      have evz7 := (vn13 (10) 1 (Or.inl (by decide))).trans evz7
      rw [← vn13 (299 + 10 * u) (3 : Int).toNat (Or.inl (by omega))] at hl
      refine X_aload_n rfl rfl rfl rfl ?_
      refine X_getR (a := 340) rfl rfl rfl ((congrFun V.1 339).trans s_339) rfl ((congrFun (V.2.1 339 (by decide)) 2).trans r_339_2) ?_
      refine X_bipush (v := (12 : Int32)) rfl rfl rfl ?_
      refine X_aload_n rfl rfl rfl rfl ?_
      refine X_getR (a := 1) rfl rfl rfl ((congrFun V.1 339).trans s_339) rfl ((congrFun (V.2.1 339 (by decide)) 0).trans r_339_0) ?_
      refine X_getR (a := 136) rfl rfl rfl ((congrFun V.1 1).trans s_1) rfl ((congrFun (V.2.1 1 (by decide)) 3).trans r_1_3) ?_
      refine X_getR (a := 139) rfl rfl rfl ((congrFun V.1 136).trans s_136) rfl ((congrFun (V.2.1 136 (by decide)) 2).trans r_136_2) ?_
      refine X_iload_n rfl rfl rfl rfl ?_
      refine S_iald rfl rfl ((congrFun V.1 139).trans s_139) hx1 (by omega) (fun vz14 evz14 => ?_)
      have vf15 := K_1 (V.2.2.2.2.1 (139) ((y1 : Int).toNat) (Nat.le_of_ble_eq_true rfl)) rk_139
      rw [evz14] at vf15
      refine S_iast (I := Inv _) rfl rfl ((congrFun V.1 340).trans s_340) (show (12 : Int32).toInt = 12 from rfl) (by omega) (Inv_putI V (Nat.le_of_ble_eq_true rfl) (Or.inl (by decide)) (Q_0 rk_340)) (fun g V ve16 vn17 hq => ?_)
      have hG := hq.trans hG
      have evz7 := (vn17 (10) 1 (Or.inl (by decide))).trans evz7
      have evz14 := (vn17 (139) ((y1 : Int).toNat) (Or.inl (by decide))).trans evz14
      rw [← vn17 (299 + 10 * u) (3 : Int).toNat (Or.inl (by omega))] at hl
      refine X_aload_n rfl rfl rfl rfl ?_
      refine X_getR (a := 340) rfl rfl rfl ((congrFun V.1 339).trans s_339) rfl ((congrFun (V.2.1 339 (by decide)) 2).trans r_339_2) ?_
      refine X_bipush (v := (13 : Int32)) rfl rfl rfl ?_
      refine X_aload_n rfl rfl rfl rfl ?_
      refine X_getI (v := vz7) rfl rfl rfl ((congrFun V.1 10).trans s_10) rfl evz7 ?_
      refine X_aload_n rfl rfl rfl rfl ?_
      refine X_getR (a := 1) rfl rfl rfl ((congrFun V.1 339).trans s_339) rfl ((congrFun (V.2.1 339 (by decide)) 0).trans r_339_0) ?_
      refine X_getR (a := 136) rfl rfl rfl ((congrFun V.1 1).trans s_1) rfl ((congrFun (V.2.1 1 (by decide)) 3).trans r_1_3) ?_
      refine X_getR (a := 138) rfl rfl rfl ((congrFun V.1 136).trans s_136) rfl ((congrFun (V.2.1 136 (by decide)) 1).trans r_136_1) ?_
      refine X_iload_n rfl rfl rfl rfl ?_
      refine S_iald rfl rfl ((congrFun V.1 138).trans s_138) hx1 (by omega) (fun vz18 evz18 => ?_)
      refine S_isubT rfl rfl (fun vz19 => ?_)
      refine S_iast (I := Inv _) rfl rfl ((congrFun V.1 340).trans s_340) (show (13 : Int32).toInt = 13 from rfl) (by omega) (Inv_putI V (Nat.le_of_ble_eq_true rfl) (Or.inl (by decide)) (Q_0 rk_340)) (fun g V ve20 vn21 hq => ?_)
      have hG := hq.trans hG
      have evz7 := (vn21 (10) 1 (Or.inl (by decide))).trans evz7
      have evz14 := (vn21 (139) ((y1 : Int).toNat) (Or.inl (by decide))).trans evz14
      have evz18 := (vn21 (138) ((y1 : Int).toNat) (Or.inl (by decide))).trans evz18
      rw [← vn21 (299 + 10 * u) (3 : Int).toNat (Or.inl (by omega))] at hl
      refine X_aload_n rfl rfl rfl rfl ?_
      refine X_aload rfl rfl rfl ?_
      refine X_iconst (v := (3 : Int32)) rfl rfl rfl ?_
      refine Y_callV (as := [.ref (292 + 10 * u), .int (3 : Int32)]) (st := []) rfl rfl rfl (by decide) rfl (Nat.le_of_ble_eq_true rfl) (by decide) (Nat.le_of_ble_eq_true rfl) rfl ((congrFun V.1 339).trans s_339) (by decide) (C_X4_run_339_T hu V (3 : Int32) 3 (show (3 : Int32).toInt = 3 from rfl) (by omega) hl) ?_
      rintro _ g ⟨vr22, rfl, V, hq⟩
      have hG := hq.trans hG
      refine S_if_eq (tgt := 156) rfl rfl rfl rfl (fun vh23 => ?_) (fun vh23 => ?_)
      · refine X_iconst (v := (0 : Int32)) rfl rfl rfl ?_
        exact LW_ireturn (st := []) rfl rfl rfl ⟨_, rfl, by decide, by decide, V, hG⟩
      · refine X_iconst (v := (1 : Int32)) rfl rfl rfl ?_
        refine LW_goto (tgt := 157) rfl rfl ?_
        exact LW_ireturn (st := []) rfl rfl rfl ⟨_, rfl, by decide, by decide, V, hG⟩
  · refine X_iload_n rfl rfl rfl rfl ?_
    refine X_bipush (v := (26 : Int32)) rfl rfl rfl ?_
    refine S_icmp_ge (tgt := 14) rfl rfl rfl hx2 (show (26 : Int32).toInt = 26 from rfl) (fun q => absurd q (by omega)) (fun vh24 => ?_)
    refine X_iconst (v := (1 : Int32)) rfl rfl rfl ?_
    refine LW_goto (tgt := 15) rfl rfl ?_
    refine LW_ireturn (st := []) rfl rfl rfl ?_
    refine S_if_eq (tgt := 52) rfl rfl rfl (show (1 : Int32).toInt = 1 from rfl) (fun q => absurd q (by omega)) (fun vh25 => ?_)
    refine S_iinc (c := 1) rfl rfl rfl rfl rfl (by omega) (fun vz26 hvz26 => ?_)
    refine LW_ls (ls' := [some (.ref 339), some (.int x1), some (.int x2), some (.ref 10), some (.int vr1), some (.int vz26), none, none]) rfl ?_
    refine X_iload rfl rfl rfl ?_
    refine X_aload_n rfl rfl rfl rfl ?_
    refine X_getR (a := 13) rfl rfl rfl ((congrFun V.1 10).trans s_10) rfl ((congrFun (V.2.1 10 (by decide)) 6).trans r_10_6) ?_
    refine X_iload_n rfl rfl rfl rfl ?_
    refine S_iald rfl rfl ((congrFun V.1 13).trans s_13) hx2 (by omega) (fun vz27 evz27 => ?_)
    refine X_iconst (v := (-1 : Int32)) rfl rfl rfl ?_
    refine S_icmp_ne (tgt := 48) rfl rfl rfl rfl (show (-1 : Int32).toInt = -1 from rfl) (fun vh28 => ?_) (fun vh28 => ?_)
    · refine X_iconst (v := (0 : Int32)) rfl rfl rfl ?_
      refine S_iorT rfl rfl (fun vz29 => ?_)
      refine X_istore (i := 4) (ls' := [some (.ref 339), some (.int x1), some (.int x2), some (.ref 10), some (.int vz29), some (.int vz26), none, none]) rfl rfl (Nat.le_of_ble_eq_true rfl) rfl ?_
      refine X_aload_n rfl rfl rfl rfl ?_
      refine X_iload_n rfl rfl rfl rfl ?_
      refine X_iload rfl rfl rfl ?_
      refine Y_callV (as := [.int x1, .int vz29]) (st := []) rfl rfl rfl (by decide) rfl (Nat.le_of_ble_eq_true rfl) (by decide) (Nat.le_of_ble_eq_true rfl) rfl ((congrFun V.1 339).trans s_339) (by decide) (C_X4_broken V x1 y1 hx1 (by omega) vz29 vz29.toInt rfl ) ?_
      rintro _ g' ⟨vr30, rfl, hgg⟩
      subst hgg
      refine X_istore (i := 6) (ls' := [some (.ref 339), some (.int x1), some (.int x2), some (.ref 10), some (.int vz29), some (.int vz26), some (.int vr30), none]) rfl rfl (Nat.le_of_ble_eq_true rfl) rfl ?_
      refine X_aload_n rfl rfl rfl rfl ?_
      refine X_iconst (v := (3 : Int32)) rfl rfl rfl ?_
      refine Y_callV (as := [.int (3 : Int32)]) (st := []) rfl rfl rfl (by decide) rfl (Nat.le_of_ble_eq_true rfl) (by decide) (Nat.le_of_ble_eq_true rfl) rfl ((congrFun V.1 339).trans s_339) (by decide) (C_X4_ruling V (3 : Int32) 3 (show (3 : Int32).toInt = 3 from rfl) (by omega) ) ?_
      rintro _ g' ⟨rfl | ⟨u, hu, rfl, hl⟩, hgg⟩
      · subst hgg
        refine X_astoreN (i := 7) (ls' := [some (.ref 339), some (.int x1), some (.int x2), some (.ref 10), some (.int vz29), some (.int vz26), some (.int vr30), some (.null)]) rfl rfl (Nat.le_of_ble_eq_true rfl) rfl ?_
        refine X_aloadN rfl rfl rfl ?_
        refine X_ifnonnullN (tgt := 84) rfl rfl rfl ?_
        refine X_iload rfl rfl rfl ?_
        refine S_if_ne (tgt := 82) rfl rfl rfl rfl (fun vh31 => ?_) (fun vh31 => ?_)
        · refine X_iconst (v := (0 : Int32)) rfl rfl rfl ?_
          exact LW_ireturn (st := []) rfl rfl rfl ⟨_, rfl, by decide, by decide, V, hG⟩
        · refine X_iconst (v := (1 : Int32)) rfl rfl rfl ?_
          refine LW_goto (tgt := 83) rfl rfl ?_
          exact LW_ireturn (st := []) rfl rfl rfl ⟨_, rfl, by decide, by decide, V, hG⟩
      · subst hgg
        refine X_astore (i := 7) (ls' := [some (.ref 339), some (.int x1), some (.int x2), some (.ref 10), some (.int vz29), some (.int vz26), some (.int vr30), some (.ref (292 + 10 * u))]) rfl rfl (Nat.le_of_ble_eq_true rfl) rfl ?_
        refine X_aload rfl rfl rfl ?_
        refine LW_ifnonnull (tgt := 84) rfl rfl ?_
        refine X_aload_n rfl rfl rfl rfl ?_
        refine X_iload rfl rfl rfl ?_
        refine X_callV (as := [.int vz26]) (st := []) rfl rfl rfl (by decide) rfl (Nat.le_of_ble_eq_true rfl) (by decide) (Nat.le_of_ble_eq_true rfl) rfl ((congrFun V.1 339).trans s_339) (by decide) ?_
        refine LW_ls (ls' := [some (.ref 339), some (.int vz26)]) rfl ?_
        refine X_aload_n rfl rfl rfl rfl ?_
        refine X_getR (a := 340) rfl rfl rfl ((congrFun V.1 339).trans s_339) rfl ((congrFun (V.2.1 339 (by decide)) 2).trans r_339_2) ?_
        refine X_iconst (v := (0 : Int32)) rfl rfl rfl ?_
        refine X_aload_n rfl rfl rfl rfl ?_
        refine X_getR (a := 1) rfl rfl rfl ((congrFun V.1 339).trans s_339) rfl ((congrFun (V.2.1 339 (by decide)) 0).trans r_339_0) ?_
        refine X_getR (a := 10) rfl rfl rfl ((congrFun V.1 1).trans s_1) rfl ((congrFun (V.2.1 1 (by decide)) 1).trans r_1_1) ?_
        refine S_getI rfl rfl rfl ((congrFun V.1 10).trans s_10) rfl (fun vz32 evz32 => ?_)
        refine S_iast (I := Inv _) rfl rfl ((congrFun V.1 340).trans s_340) (show (0 : Int32).toInt = 0 from rfl) (by omega) (Inv_putI V (Nat.le_of_ble_eq_true rfl) (Or.inl (by decide)) (Q_0 rk_340)) (fun g V ve33 vn34 hq => ?_)
        have hG := hq.trans hG
        have evz27 := (vn34 (13) ((y2 : Int).toNat) (Or.inl (by decide))).trans evz27
        have evz32 := (vn34 (10) 1 (Or.inl (by decide))).trans evz32
        rw [← vn34 (299 + 10 * u) (3 : Int).toNat (Or.inl (by omega))] at hl
        refine X_aload_n rfl rfl rfl rfl ?_
        refine X_getR (a := 340) rfl rfl rfl ((congrFun V.1 339).trans s_339) rfl ((congrFun (V.2.1 339 (by decide)) 2).trans r_339_2) ?_
        refine X_iconst (v := (1 : Int32)) rfl rfl rfl ?_
        refine X_iload_n rfl rfl rfl rfl ?_
        refine S_iast (I := Inv _) rfl rfl ((congrFun V.1 340).trans s_340) (show (1 : Int32).toInt = 1 from rfl) (by omega) (Inv_putI V (Nat.le_of_ble_eq_true rfl) (Or.inl (by decide)) (Q_0 rk_340)) (fun g V ve35 vn36 hq => ?_)
        have hG := hq.trans hG
        have evz27 := (vn36 (13) ((y2 : Int).toNat) (Or.inl (by decide))).trans evz27
        have evz32 := (vn36 (10) 1 (Or.inl (by decide))).trans evz32
        rw [← vn36 (299 + 10 * u) (3 : Int).toNat (Or.inl (by omega))] at hl
        refine LW_return (st := []) rfl rfl ?_
        refine X_aload_n rfl rfl rfl rfl ?_
        refine X_getR (a := 340) rfl rfl rfl ((congrFun V.1 339).trans s_339) rfl ((congrFun (V.2.1 339 (by decide)) 2).trans r_339_2) ?_
        refine X_bipush (v := (11 : Int32)) rfl rfl rfl ?_
        refine X_iload rfl rfl rfl ?_
        refine S_iast (I := Inv _) rfl rfl ((congrFun V.1 340).trans s_340) (show (11 : Int32).toInt = 11 from rfl) (by omega) (Inv_putI V (Nat.le_of_ble_eq_true rfl) (Or.inl (by decide)) (Q_0 rk_340)) (fun g V ve37 vn38 hq => ?_)
        have hG := hq.trans hG
        have evz27 := (vn38 (13) ((y2 : Int).toNat) (Or.inl (by decide))).trans evz27
        have evz32 := (vn38 (10) 1 (Or.inl (by decide))).trans evz32
        rw [← vn38 (299 + 10 * u) (3 : Int).toNat (Or.inl (by omega))] at hl
        refine X_aload_n rfl rfl rfl rfl ?_
        refine X_getR (a := 340) rfl rfl rfl ((congrFun V.1 339).trans s_339) rfl ((congrFun (V.2.1 339 (by decide)) 2).trans r_339_2) ?_
        refine X_bipush (v := (12 : Int32)) rfl rfl rfl ?_
        refine X_aload_n rfl rfl rfl rfl ?_
        refine X_getR (a := 1) rfl rfl rfl ((congrFun V.1 339).trans s_339) rfl ((congrFun (V.2.1 339 (by decide)) 0).trans r_339_0) ?_
        refine X_getR (a := 136) rfl rfl rfl ((congrFun V.1 1).trans s_1) rfl ((congrFun (V.2.1 1 (by decide)) 3).trans r_1_3) ?_
        refine X_getR (a := 139) rfl rfl rfl ((congrFun V.1 136).trans s_136) rfl ((congrFun (V.2.1 136 (by decide)) 2).trans r_136_2) ?_
        refine X_iload_n rfl rfl rfl rfl ?_
        refine S_iald rfl rfl ((congrFun V.1 139).trans s_139) hx1 (by omega) (fun vz39 evz39 => ?_)
        have vf40 := K_1 (V.2.2.2.2.1 (139) ((y1 : Int).toNat) (Nat.le_of_ble_eq_true rfl)) rk_139
        rw [evz39] at vf40
        refine S_iast (I := Inv _) rfl rfl ((congrFun V.1 340).trans s_340) (show (12 : Int32).toInt = 12 from rfl) (by omega) (Inv_putI V (Nat.le_of_ble_eq_true rfl) (Or.inl (by decide)) (Q_0 rk_340)) (fun g V ve41 vn42 hq => ?_)
        have hG := hq.trans hG
        have evz27 := (vn42 (13) ((y2 : Int).toNat) (Or.inl (by decide))).trans evz27
        have evz32 := (vn42 (10) 1 (Or.inl (by decide))).trans evz32
        have evz39 := (vn42 (139) ((y1 : Int).toNat) (Or.inl (by decide))).trans evz39
        rw [← vn42 (299 + 10 * u) (3 : Int).toNat (Or.inl (by omega))] at hl
        refine X_aload_n rfl rfl rfl rfl ?_
        refine X_getR (a := 340) rfl rfl rfl ((congrFun V.1 339).trans s_339) rfl ((congrFun (V.2.1 339 (by decide)) 2).trans r_339_2) ?_
        refine X_bipush (v := (13 : Int32)) rfl rfl rfl ?_
        refine X_aload_n rfl rfl rfl rfl ?_
        refine X_getI (v := vz32) rfl rfl rfl ((congrFun V.1 10).trans s_10) rfl evz32 ?_
        refine X_aload_n rfl rfl rfl rfl ?_
        refine X_getR (a := 1) rfl rfl rfl ((congrFun V.1 339).trans s_339) rfl ((congrFun (V.2.1 339 (by decide)) 0).trans r_339_0) ?_
        refine X_getR (a := 136) rfl rfl rfl ((congrFun V.1 1).trans s_1) rfl ((congrFun (V.2.1 1 (by decide)) 3).trans r_1_3) ?_
        refine X_getR (a := 138) rfl rfl rfl ((congrFun V.1 136).trans s_136) rfl ((congrFun (V.2.1 136 (by decide)) 1).trans r_136_1) ?_
        refine X_iload_n rfl rfl rfl rfl ?_
        refine S_iald rfl rfl ((congrFun V.1 138).trans s_138) hx1 (by omega) (fun vz43 evz43 => ?_)
        refine S_isubT rfl rfl (fun vz44 => ?_)
        refine S_iast (I := Inv _) rfl rfl ((congrFun V.1 340).trans s_340) (show (13 : Int32).toInt = 13 from rfl) (by omega) (Inv_putI V (Nat.le_of_ble_eq_true rfl) (Or.inl (by decide)) (Q_0 rk_340)) (fun g V ve45 vn46 hq => ?_)
        have hG := hq.trans hG
        have evz27 := (vn46 (13) ((y2 : Int).toNat) (Or.inl (by decide))).trans evz27
        have evz32 := (vn46 (10) 1 (Or.inl (by decide))).trans evz32
        have evz39 := (vn46 (139) ((y1 : Int).toNat) (Or.inl (by decide))).trans evz39
        have evz43 := (vn46 (138) ((y1 : Int).toNat) (Or.inl (by decide))).trans evz43
        rw [← vn46 (299 + 10 * u) (3 : Int).toNat (Or.inl (by omega))] at hl
        refine X_aload_n rfl rfl rfl rfl ?_
        refine X_aload rfl rfl rfl ?_
        refine X_iconst (v := (3 : Int32)) rfl rfl rfl ?_
        refine Y_callV (as := [.ref (292 + 10 * u), .int (3 : Int32)]) (st := []) rfl rfl rfl (by decide) rfl (Nat.le_of_ble_eq_true rfl) (by decide) (Nat.le_of_ble_eq_true rfl) rfl ((congrFun V.1 339).trans s_339) (by decide) (C_X4_run_339_T hu V (3 : Int32) 3 (show (3 : Int32).toInt = 3 from rfl) (by omega) hl) ?_
        rintro _ g ⟨vr47, rfl, V, hq⟩
        have hG := hq.trans hG
        refine S_if_eq (tgt := 156) rfl rfl rfl rfl (fun vh48 => ?_) (fun vh48 => ?_)
        · refine X_iconst (v := (0 : Int32)) rfl rfl rfl ?_
          exact LW_ireturn (st := []) rfl rfl rfl ⟨_, rfl, by decide, by decide, V, hG⟩
        · refine X_iconst (v := (1 : Int32)) rfl rfl rfl ?_
          refine LW_goto (tgt := 157) rfl rfl ?_
          exact LW_ireturn (st := []) rfl rfl rfl ⟨_, rfl, by decide, by decide, V, hG⟩
    · refine X_iconst (v := (1 : Int32)) rfl rfl rfl ?_
      refine X_iload_n rfl rfl rfl rfl ?_
      refine S_ishlT rfl rfl (fun vz49 => ?_)
      refine LW_goto (tgt := 49) rfl rfl ?_
      refine S_iorT rfl rfl (fun vz50 => ?_)
      refine X_istore (i := 4) (ls' := [some (.ref 339), some (.int x1), some (.int x2), some (.ref 10), some (.int vz50), some (.int vz26), none, none]) rfl rfl (Nat.le_of_ble_eq_true rfl) rfl ?_
      refine X_aload_n rfl rfl rfl rfl ?_
      refine X_iload_n rfl rfl rfl rfl ?_
      refine X_iload rfl rfl rfl ?_
      refine Y_callV (as := [.int x1, .int vz50]) (st := []) rfl rfl rfl (by decide) rfl (Nat.le_of_ble_eq_true rfl) (by decide) (Nat.le_of_ble_eq_true rfl) rfl ((congrFun V.1 339).trans s_339) (by decide) (C_X4_broken V x1 y1 hx1 (by omega) vz50 vz50.toInt rfl ) ?_
      rintro _ g' ⟨vr51, rfl, hgg⟩
      subst hgg
      refine X_istore (i := 6) (ls' := [some (.ref 339), some (.int x1), some (.int x2), some (.ref 10), some (.int vz50), some (.int vz26), some (.int vr51), none]) rfl rfl (Nat.le_of_ble_eq_true rfl) rfl ?_
      refine X_aload_n rfl rfl rfl rfl ?_
      refine X_iconst (v := (3 : Int32)) rfl rfl rfl ?_
      refine Y_callV (as := [.int (3 : Int32)]) (st := []) rfl rfl rfl (by decide) rfl (Nat.le_of_ble_eq_true rfl) (by decide) (Nat.le_of_ble_eq_true rfl) rfl ((congrFun V.1 339).trans s_339) (by decide) (C_X4_ruling V (3 : Int32) 3 (show (3 : Int32).toInt = 3 from rfl) (by omega) ) ?_
      rintro _ g' ⟨rfl | ⟨u, hu, rfl, hl⟩, hgg⟩
      · subst hgg
        refine X_astoreN (i := 7) (ls' := [some (.ref 339), some (.int x1), some (.int x2), some (.ref 10), some (.int vz50), some (.int vz26), some (.int vr51), some (.null)]) rfl rfl (Nat.le_of_ble_eq_true rfl) rfl ?_
        refine X_aloadN rfl rfl rfl ?_
        refine X_ifnonnullN (tgt := 84) rfl rfl rfl ?_
        refine X_iload rfl rfl rfl ?_
        refine S_if_ne (tgt := 82) rfl rfl rfl rfl (fun vh52 => ?_) (fun vh52 => ?_)
        · refine X_iconst (v := (0 : Int32)) rfl rfl rfl ?_
          exact LW_ireturn (st := []) rfl rfl rfl ⟨_, rfl, by decide, by decide, V, hG⟩
        · refine X_iconst (v := (1 : Int32)) rfl rfl rfl ?_
          refine LW_goto (tgt := 83) rfl rfl ?_
          exact LW_ireturn (st := []) rfl rfl rfl ⟨_, rfl, by decide, by decide, V, hG⟩
      · subst hgg
        refine X_astore (i := 7) (ls' := [some (.ref 339), some (.int x1), some (.int x2), some (.ref 10), some (.int vz50), some (.int vz26), some (.int vr51), some (.ref (292 + 10 * u))]) rfl rfl (Nat.le_of_ble_eq_true rfl) rfl ?_
        refine X_aload rfl rfl rfl ?_
        refine LW_ifnonnull (tgt := 84) rfl rfl ?_
        refine X_aload_n rfl rfl rfl rfl ?_
        refine X_iload rfl rfl rfl ?_
        refine X_callV (as := [.int vz26]) (st := []) rfl rfl rfl (by decide) rfl (Nat.le_of_ble_eq_true rfl) (by decide) (Nat.le_of_ble_eq_true rfl) rfl ((congrFun V.1 339).trans s_339) (by decide) ?_
        refine LW_ls (ls' := [some (.ref 339), some (.int vz26)]) rfl ?_
        refine X_aload_n rfl rfl rfl rfl ?_
        refine X_getR (a := 340) rfl rfl rfl ((congrFun V.1 339).trans s_339) rfl ((congrFun (V.2.1 339 (by decide)) 2).trans r_339_2) ?_
        refine X_iconst (v := (0 : Int32)) rfl rfl rfl ?_
        refine X_aload_n rfl rfl rfl rfl ?_
        refine X_getR (a := 1) rfl rfl rfl ((congrFun V.1 339).trans s_339) rfl ((congrFun (V.2.1 339 (by decide)) 0).trans r_339_0) ?_
        refine X_getR (a := 10) rfl rfl rfl ((congrFun V.1 1).trans s_1) rfl ((congrFun (V.2.1 1 (by decide)) 1).trans r_1_1) ?_
        refine S_getI rfl rfl rfl ((congrFun V.1 10).trans s_10) rfl (fun vz53 evz53 => ?_)
        refine S_iast (I := Inv _) rfl rfl ((congrFun V.1 340).trans s_340) (show (0 : Int32).toInt = 0 from rfl) (by omega) (Inv_putI V (Nat.le_of_ble_eq_true rfl) (Or.inl (by decide)) (Q_0 rk_340)) (fun g V ve54 vn55 hq => ?_)
        have hG := hq.trans hG
        have evz27 := (vn55 (13) ((y2 : Int).toNat) (Or.inl (by decide))).trans evz27
        have evz53 := (vn55 (10) 1 (Or.inl (by decide))).trans evz53
        rw [← vn55 (299 + 10 * u) (3 : Int).toNat (Or.inl (by omega))] at hl
        refine X_aload_n rfl rfl rfl rfl ?_
        refine X_getR (a := 340) rfl rfl rfl ((congrFun V.1 339).trans s_339) rfl ((congrFun (V.2.1 339 (by decide)) 2).trans r_339_2) ?_
        refine X_iconst (v := (1 : Int32)) rfl rfl rfl ?_
        refine X_iload_n rfl rfl rfl rfl ?_
        refine S_iast (I := Inv _) rfl rfl ((congrFun V.1 340).trans s_340) (show (1 : Int32).toInt = 1 from rfl) (by omega) (Inv_putI V (Nat.le_of_ble_eq_true rfl) (Or.inl (by decide)) (Q_0 rk_340)) (fun g V ve56 vn57 hq => ?_)
        have hG := hq.trans hG
        have evz27 := (vn57 (13) ((y2 : Int).toNat) (Or.inl (by decide))).trans evz27
        have evz53 := (vn57 (10) 1 (Or.inl (by decide))).trans evz53
        rw [← vn57 (299 + 10 * u) (3 : Int).toNat (Or.inl (by omega))] at hl
        refine LW_return (st := []) rfl rfl ?_
        refine X_aload_n rfl rfl rfl rfl ?_
        refine X_getR (a := 340) rfl rfl rfl ((congrFun V.1 339).trans s_339) rfl ((congrFun (V.2.1 339 (by decide)) 2).trans r_339_2) ?_
        refine X_bipush (v := (11 : Int32)) rfl rfl rfl ?_
        refine X_iload rfl rfl rfl ?_
        refine S_iast (I := Inv _) rfl rfl ((congrFun V.1 340).trans s_340) (show (11 : Int32).toInt = 11 from rfl) (by omega) (Inv_putI V (Nat.le_of_ble_eq_true rfl) (Or.inl (by decide)) (Q_0 rk_340)) (fun g V ve58 vn59 hq => ?_)
        have hG := hq.trans hG
        have evz27 := (vn59 (13) ((y2 : Int).toNat) (Or.inl (by decide))).trans evz27
        have evz53 := (vn59 (10) 1 (Or.inl (by decide))).trans evz53
        rw [← vn59 (299 + 10 * u) (3 : Int).toNat (Or.inl (by omega))] at hl
        refine X_aload_n rfl rfl rfl rfl ?_
        refine X_getR (a := 340) rfl rfl rfl ((congrFun V.1 339).trans s_339) rfl ((congrFun (V.2.1 339 (by decide)) 2).trans r_339_2) ?_
        refine X_bipush (v := (12 : Int32)) rfl rfl rfl ?_
        refine X_aload_n rfl rfl rfl rfl ?_
        refine X_getR (a := 1) rfl rfl rfl ((congrFun V.1 339).trans s_339) rfl ((congrFun (V.2.1 339 (by decide)) 0).trans r_339_0) ?_
        refine X_getR (a := 136) rfl rfl rfl ((congrFun V.1 1).trans s_1) rfl ((congrFun (V.2.1 1 (by decide)) 3).trans r_1_3) ?_
        refine X_getR (a := 139) rfl rfl rfl ((congrFun V.1 136).trans s_136) rfl ((congrFun (V.2.1 136 (by decide)) 2).trans r_136_2) ?_
        refine X_iload_n rfl rfl rfl rfl ?_
        refine S_iald rfl rfl ((congrFun V.1 139).trans s_139) hx1 (by omega) (fun vz60 evz60 => ?_)
        have vf61 := K_1 (V.2.2.2.2.1 (139) ((y1 : Int).toNat) (Nat.le_of_ble_eq_true rfl)) rk_139
        rw [evz60] at vf61
        refine S_iast (I := Inv _) rfl rfl ((congrFun V.1 340).trans s_340) (show (12 : Int32).toInt = 12 from rfl) (by omega) (Inv_putI V (Nat.le_of_ble_eq_true rfl) (Or.inl (by decide)) (Q_0 rk_340)) (fun g V ve62 vn63 hq => ?_)
        have hG := hq.trans hG
        have evz27 := (vn63 (13) ((y2 : Int).toNat) (Or.inl (by decide))).trans evz27
        have evz53 := (vn63 (10) 1 (Or.inl (by decide))).trans evz53
        have evz60 := (vn63 (139) ((y1 : Int).toNat) (Or.inl (by decide))).trans evz60
        rw [← vn63 (299 + 10 * u) (3 : Int).toNat (Or.inl (by omega))] at hl
        refine X_aload_n rfl rfl rfl rfl ?_
        refine X_getR (a := 340) rfl rfl rfl ((congrFun V.1 339).trans s_339) rfl ((congrFun (V.2.1 339 (by decide)) 2).trans r_339_2) ?_
        refine X_bipush (v := (13 : Int32)) rfl rfl rfl ?_
        refine X_aload_n rfl rfl rfl rfl ?_
        refine X_getI (v := vz53) rfl rfl rfl ((congrFun V.1 10).trans s_10) rfl evz53 ?_
        refine X_aload_n rfl rfl rfl rfl ?_
        refine X_getR (a := 1) rfl rfl rfl ((congrFun V.1 339).trans s_339) rfl ((congrFun (V.2.1 339 (by decide)) 0).trans r_339_0) ?_
        refine X_getR (a := 136) rfl rfl rfl ((congrFun V.1 1).trans s_1) rfl ((congrFun (V.2.1 1 (by decide)) 3).trans r_1_3) ?_
        refine X_getR (a := 138) rfl rfl rfl ((congrFun V.1 136).trans s_136) rfl ((congrFun (V.2.1 136 (by decide)) 1).trans r_136_1) ?_
        refine X_iload_n rfl rfl rfl rfl ?_
        refine S_iald rfl rfl ((congrFun V.1 138).trans s_138) hx1 (by omega) (fun vz64 evz64 => ?_)
        refine S_isubT rfl rfl (fun vz65 => ?_)
        refine S_iast (I := Inv _) rfl rfl ((congrFun V.1 340).trans s_340) (show (13 : Int32).toInt = 13 from rfl) (by omega) (Inv_putI V (Nat.le_of_ble_eq_true rfl) (Or.inl (by decide)) (Q_0 rk_340)) (fun g V ve66 vn67 hq => ?_)
        have hG := hq.trans hG
        have evz27 := (vn67 (13) ((y2 : Int).toNat) (Or.inl (by decide))).trans evz27
        have evz53 := (vn67 (10) 1 (Or.inl (by decide))).trans evz53
        have evz60 := (vn67 (139) ((y1 : Int).toNat) (Or.inl (by decide))).trans evz60
        have evz64 := (vn67 (138) ((y1 : Int).toNat) (Or.inl (by decide))).trans evz64
        rw [← vn67 (299 + 10 * u) (3 : Int).toNat (Or.inl (by omega))] at hl
        refine X_aload_n rfl rfl rfl rfl ?_
        refine X_aload rfl rfl rfl ?_
        refine X_iconst (v := (3 : Int32)) rfl rfl rfl ?_
        refine Y_callV (as := [.ref (292 + 10 * u), .int (3 : Int32)]) (st := []) rfl rfl rfl (by decide) rfl (Nat.le_of_ble_eq_true rfl) (by decide) (Nat.le_of_ble_eq_true rfl) rfl ((congrFun V.1 339).trans s_339) (by decide) (C_X4_run_339_T hu V (3 : Int32) 3 (show (3 : Int32).toInt = 3 from rfl) (by omega) hl) ?_
        rintro _ g ⟨vr68, rfl, V, hq⟩
        have hG := hq.trans hG
        refine S_if_eq (tgt := 156) rfl rfl rfl rfl (fun vh69 => ?_) (fun vh69 => ?_)
        · refine X_iconst (v := (0 : Int32)) rfl rfl rfl ?_
          exact LW_ireturn (st := []) rfl rfl rfl ⟨_, rfl, by decide, by decide, V, hG⟩
        · refine X_iconst (v := (1 : Int32)) rfl rfl rfl ?_
          refine LW_goto (tgt := 157) rfl rfl ?_
          exact LW_ireturn (st := []) rfl rfl rfl ⟨_, rfl, by decide, by decide, V, hG⟩
