/-! the class's methods: each returns and keeps what every state keeps -/
set_option maxRecDepth 10000 in
set_option maxHeartbeats 40000000 in
theorem C_X5_lettersSaid_5 {P : Par} {g : LH} {d n : Nat}  (V : Inv P g) (x1 : Int32) (y1 : Int) (hx1 : x1.toInt = y1) (hf1 : 0 ≤ y1 ∧ y1 ≤ 7) (x2 : Int32) (y2 : Int) (hx2 : x2.toInt = y2) (x3 : Int32) (y3 : Int) (hx3 : x3.toInt = y3) (x4 : Int32) (y4 : Int) (hx4 : x4.toInt = y4) (hf4 : 0 ≤ y4 ∧ y4 ≤ 8) (o5 : Option Value)  (hmu : (8 - y4) * 1 + 0 < (n : Int) + 1) (ih5 : ∀ (V : Inv P g) (x1 : Int32) (y1 : Int) (hx1 : x1.toInt = y1) (hf1 : 0 ≤ y1 ∧ y1 ≤ 7) (x2 : Int32) (y2 : Int) (hx2 : x2.toInt = y2) (x3 : Int32) (y3 : Int) (hx3 : x3.toInt = y3) (x4 : Int32) (y4 : Int) (hx4 : x4.toInt = y4) (hf4 : 0 ≤ y4 ∧ y4 ≤ 8) (o5 : Option Value) , (8 - y4) * 1 + 0 < (n : Int) → LW 50 (d + 14) 0 0 5 [some (.ref 2), some (.int x1), some (.int x2), some (.int x3), some (.int x4), o5] [] g (fun v g' => ∃ r : Int32, v = some (.int r) ∧ g = g')) : LW 50 (d + 14) 0 0 5 [some (.ref 2), some (.int x1), some (.int x2), some (.int x3), some (.int x4), o5] [] g (fun v g' => ∃ r : Int32, v = some (.int r) ∧ g = g') := by
  refine X_iload rfl rfl rfl ?_
  refine X_aload_n rfl rfl rfl rfl ?_
  refine X_getR (a := 7) rfl rfl rfl ((congrFun V.1 2).trans s_2) rfl ((congrFun (V.2.1 2 (by decide)) 6).trans r_2_6) ?_
  refine X_iload_n rfl rfl rfl rfl ?_
  refine S_iald rfl rfl ((congrFun V.1 7).trans s_7) hx1 (by omega) (fun vz1 evz1 => ?_)
  have vf2 := K_1 (V.2.2.2.2.1 (7) ((y1 : Int).toNat) (Nat.le_of_ble_eq_true rfl)) rk_7
  rw [evz1] at vf2
  refine S_icmp_ge (tgt := 55) rfl rfl rfl hx4 rfl (fun vh3 => ?_) (fun vh3 => ?_)
  · refine X_iload_n rfl rfl rfl rfl ?_
    exact LW_ireturn (st := []) rfl rfl rfl ⟨_, rfl, rfl⟩
  · refine X_aload_n rfl rfl rfl rfl ?_
    refine X_iload_n rfl rfl rfl rfl ?_
    refine X_iload rfl rfl rfl ?_
    refine X_iload_n rfl rfl rfl rfl ?_
    refine Y_callV (as := [.int x1, .int x4, .int x2]) (st := []) rfl rfl rfl (by decide) rfl (Nat.le_of_ble_eq_true rfl) (by decide) (Nat.le_of_ble_eq_true rfl) rfl ((congrFun V.1 2).trans s_2) (by decide) (C_X5_wordSaid V x1 y1 hx1 (by omega) x4 y4 hx4 (by omega) x2 y2 hx2 ) ?_
    rintro _ g' ⟨vr4, rfl, hrvr40, hrvr41, hgg⟩
    subst hgg
    refine X_istore (i := 5) (ls' := [some (.ref 2), some (.int x1), some (.int x2), some (.int x3), some (.int x4), some (.int vr4)]) rfl rfl (Nat.le_of_ble_eq_true rfl) rfl ?_
    refine X_iload_n rfl rfl rfl rfl ?_
    refine X_aload_n rfl rfl rfl rfl ?_
    refine X_iload rfl rfl rfl ?_
    refine X_callV (as := [.int vr4]) (st := [.int x3]) rfl rfl rfl (by decide) rfl (Nat.le_of_ble_eq_true rfl) (by decide) (Nat.le_of_ble_eq_true rfl) rfl ((congrFun V.1 2).trans s_2) (by decide) ?_
    refine LW_ls (ls' := [some (.ref 2), some (.int vr4)]) rfl ?_
    refine X_iload_n rfl rfl rfl rfl ?_
    refine S_if_lt (tgt := 22) rfl rfl rfl rfl (fun vh5 => ?_) (fun vh5 => ?_)
    · refine X_iconst (v := (0 : Int32)) rfl rfl rfl ?_
      refine LW_ireturn (st := []) rfl rfl rfl ?_
      refine S_if_eq (tgt := 46) rfl rfl rfl (show (0 : Int32).toInt = 0 from rfl) (fun vh6 => ?_) (fun q => absurd q (by omega))
      refine X_iconst (v := (0 : Int32)) rfl rfl rfl ?_
      refine S_iaddT rfl rfl (fun vz7 => ?_)
      refine X_istore_n (i := 3) (ls' := [some (.ref 2), some (.int x1), some (.int x2), some (.int vz7), some (.int x4), some (.int vr4)]) rfl rfl rfl (Nat.le_of_ble_eq_true rfl) rfl ?_
      refine S_iinc (c := 1) rfl rfl rfl hx4 rfl (by omega) (fun vz8 hvz8 => ?_)
      refine LW_ls (ls' := [some (.ref 2), some (.int x1), some (.int x2), some (.int vz7), some (.int vz8), some (.int vr4)]) rfl ?_
      refine LW_goto (tgt := 5) rfl rfl ?_
      exact ih5 V x1 y1 hx1 (by omega) x2 y2 hx2 vz7 vz7.toInt rfl vz8 vz8.toInt rfl (by omega) (some (.int vr4))    (by omega)
    · refine X_iload_n rfl rfl rfl rfl ?_
      refine X_aload_n rfl rfl rfl rfl ?_
      refine S_getI rfl rfl rfl ((congrFun V.1 2).trans s_2) rfl (fun vz9 evz9 => ?_)
      have vf10 := K_10_0 (V.2.2.2.2.1 (2) (0) (Nat.le_of_ble_eq_true rfl)) rk_2
      rw [evz9] at vf10
      refine S_icmp_ge (tgt := 22) rfl rfl rfl rfl rfl (fun vh11 => ?_) (fun vh11 => ?_)
      · refine X_iconst (v := (0 : Int32)) rfl rfl rfl ?_
        refine LW_ireturn (st := []) rfl rfl rfl ?_
        refine S_if_eq (tgt := 46) rfl rfl rfl (show (0 : Int32).toInt = 0 from rfl) (fun vh12 => ?_) (fun q => absurd q (by omega))
        refine X_iconst (v := (0 : Int32)) rfl rfl rfl ?_
        refine S_iaddT rfl rfl (fun vz13 => ?_)
        refine X_istore_n (i := 3) (ls' := [some (.ref 2), some (.int x1), some (.int x2), some (.int vz13), some (.int x4), some (.int vr4)]) rfl rfl rfl (Nat.le_of_ble_eq_true rfl) rfl ?_
        refine S_iinc (c := 1) rfl rfl rfl hx4 rfl (by omega) (fun vz14 hvz14 => ?_)
        refine LW_ls (ls' := [some (.ref 2), some (.int x1), some (.int x2), some (.int vz13), some (.int vz14), some (.int vr4)]) rfl ?_
        refine LW_goto (tgt := 5) rfl rfl ?_
        exact ih5 V x1 y1 hx1 (by omega) x2 y2 hx2 vz13 vz13.toInt rfl vz14 vz14.toInt rfl (by omega) (some (.int vr4))    (by omega)
      · refine X_iload_n rfl rfl rfl rfl ?_
        refine X_bipush (v := (24 : Int32)) rfl rfl rfl ?_
        refine S_icmp_ge (tgt := 22) rfl rfl rfl rfl (show (24 : Int32).toInt = 24 from rfl) (fun q => absurd q (by omega)) (fun vh15 => ?_)
        refine X_iconst (v := (1 : Int32)) rfl rfl rfl ?_
        refine LW_goto (tgt := 23) rfl rfl ?_
        refine LW_ireturn (st := []) rfl rfl rfl ?_
        refine S_if_eq (tgt := 46) rfl rfl rfl (show (1 : Int32).toInt = 1 from rfl) (fun q => absurd q (by omega)) (fun vh16 => ?_)
        refine X_aload_n rfl rfl rfl rfl ?_
        refine X_getR (a := 3) rfl rfl rfl ((congrFun V.1 2).trans s_2) rfl ((congrFun (V.2.1 2 (by decide)) 2).trans r_2_2) ?_
        refine X_iload rfl rfl rfl ?_
        refine S_iald rfl rfl ((congrFun V.1 3).trans s_3) rfl (by omega) (fun vz17 evz17 => ?_)
        have vf18 := K_1 (V.2.2.2.2.1 (3) ((vr4.toInt : Int).toNat) (Nat.le_of_ble_eq_true rfl)) rk_3
        rw [evz17] at vf18
        refine LW_goto (tgt := 47) rfl rfl ?_
        refine S_iaddT rfl rfl (fun vz19 => ?_)
        refine X_istore_n (i := 3) (ls' := [some (.ref 2), some (.int x1), some (.int x2), some (.int vz19), some (.int x4), some (.int vr4)]) rfl rfl rfl (Nat.le_of_ble_eq_true rfl) rfl ?_
        refine S_iinc (c := 1) rfl rfl rfl hx4 rfl (by omega) (fun vz20 hvz20 => ?_)
        refine LW_ls (ls' := [some (.ref 2), some (.int x1), some (.int x2), some (.int vz19), some (.int vz20), some (.int vr4)]) rfl ?_
        refine LW_goto (tgt := 5) rfl rfl ?_
        exact ih5 V x1 y1 hx1 (by omega) x2 y2 hx2 vz19 vz19.toInt rfl vz20 vz20.toInt rfl (by omega) (some (.int vr4))    (by omega)
theorem C_X5_lettersSaid_all {P : Par} {g : LH} {d : Nat}  : ∀ n : Nat, (∀ (V : Inv P g) (x1 : Int32) (y1 : Int) (hx1 : x1.toInt = y1) (hf1 : 0 ≤ y1 ∧ y1 ≤ 7) (x2 : Int32) (y2 : Int) (hx2 : x2.toInt = y2) (x3 : Int32) (y3 : Int) (hx3 : x3.toInt = y3) (x4 : Int32) (y4 : Int) (hx4 : x4.toInt = y4) (hf4 : 0 ≤ y4 ∧ y4 ≤ 8) (o5 : Option Value) , (8 - y4) * 1 + 0 < (n : Int) → LW 50 (d + 14) 0 0 5 [some (.ref 2), some (.int x1), some (.int x2), some (.int x3), some (.int x4), o5] [] g (fun v g' => ∃ r : Int32, v = some (.int r) ∧ g = g')) := by
  intro n
  induction n with
  | zero => exact fun V x1 y1 hx1 hf1 x2 y2 hx2 x3 y3 hx3 x4 y4 hx4 hf4 o5 hmu => absurd hmu (by omega)
  | succ n ih => exact fun V x1 y1 hx1 hf1 x2 y2 hx2 x3 y3 hx3 x4 y4 hx4 hf4 o5 hmu => C_X5_lettersSaid_5  V x1 y1 hx1 hf1 x2 y2 hx2 x3 y3 hx3 x4 y4 hx4 hf4 o5 (by omega) ih
set_option maxRecDepth 10000 in
set_option maxHeartbeats 40000000 in
theorem C_X5_lettersSaid {P : Par} {g : LH} {d : Nat}  (V : Inv P g) (x1 : Int32) (y1 : Int) (hx1 : x1.toInt = y1) (hf1 : 0 ≤ y1 ∧ y1 ≤ 7) (x2 : Int32) (y2 : Int) (hx2 : x2.toInt = y2)   : LW 50 (d + 14) 0 0 0 (lEnt (mL 50) [.ref 2, .int x1, .int x2]) [] g (fun v g' => ∃ r : Int32, v = some (.int r) ∧ g = g') := by
  refine LW_ls (ls' := [some (.ref 2), some (.int x1), some (.int x2), none, none, none]) rfl ?_
  refine X_iconst (v := (0 : Int32)) rfl rfl rfl ?_
  refine X_istore_n (i := 3) (ls' := [some (.ref 2), some (.int x1), some (.int x2), some (.int (0 : Int32)), none, none]) rfl rfl rfl (Nat.le_of_ble_eq_true rfl) rfl ?_
  refine X_iconst (v := (0 : Int32)) rfl rfl rfl ?_
  refine X_istore (i := 4) (ls' := [some (.ref 2), some (.int x1), some (.int x2), some (.int (0 : Int32)), some (.int (0 : Int32)), none]) rfl rfl (Nat.le_of_ble_eq_true rfl) rfl ?_
  exact (C_X5_lettersSaid_all (((8 - 0) * 1 + 0) + 1 : Int).toNat) V x1 y1 hx1 (by omega) x2 y2 hx2 (0 : Int32) 0 (show (0 : Int32).toInt = 0 from rfl) (0 : Int32) 0 (show (0 : Int32).toInt = 0 from rfl) (by omega) none    (by omega)
set_option maxRecDepth 10000 in
set_option maxHeartbeats 40000000 in
theorem C_X12_said {P : Par} {g : LH} {d : Nat}  (V : Inv P g) (x1 : Int32) (y1 : Int) (hx1 : x1.toInt = y1) (x2 : Int32) (y2 : Int) (hx2 : x2.toInt = y2) (x3 : Int32) (y3 : Int) (hx3 : x3.toInt = y3)   : LW 147 (d + 20) 0 0 0 (lEnt (mL 147) [.ref 0, .int x1, .int x2, .int x3]) [] g (fun v g' => ∃ r : Int32, v = some (.int r) ∧ g = g') := by
  refine LW_ls (ls' := [some (.ref 0), some (.int x1), some (.int x2), some (.int x3), none, none, none]) rfl ?_
  refine X_aload_n rfl rfl rfl rfl ?_
  refine X_getR (a := 1) rfl rfl rfl ((congrFun V.1 0).trans s_0) rfl ((congrFun (V.2.1 0 (by decide)) 0).trans r_0_0) ?_
  refine X_getR (a := 2) rfl rfl rfl ((congrFun V.1 1).trans s_1) rfl ((congrFun (V.2.1 1 (by decide)) 0).trans r_1_0) ?_
  refine X_astore (i := 4) (ls' := [some (.ref 0), some (.int x1), some (.int x2), some (.int x3), some (.ref 2), none, none]) rfl rfl (Nat.le_of_ble_eq_true rfl) rfl ?_
  refine X_iload_n rfl rfl rfl rfl ?_
  refine X_iconst (v := (-1 : Int32)) rfl rfl rfl ?_
  refine S_icmp_eq (tgt := 25) rfl rfl rfl hx2 (show (-1 : Int32).toInt = -1 from rfl) (fun vh1 => ?_) (fun vh1 => ?_)
  · refine X_iconst (v := (1 : Int32)) rfl rfl rfl ?_
    refine LW_goto (tgt := 30) rfl rfl ?_
    refine X_istore (i := 5) (ls' := [some (.ref 0), some (.int x1), some (.int x2), some (.int x3), some (.ref 2), some (.int (1 : Int32)), none]) rfl rfl (Nat.le_of_ble_eq_true rfl) rfl ?_
    refine X_iload rfl rfl rfl ?_
    refine S_if_eq (tgt := 51) rfl rfl rfl (show (1 : Int32).toInt = 1 from rfl) (fun q => absurd q (by omega)) (fun vh2 => ?_)
    refine X_iload_n rfl rfl rfl rfl ?_
    refine X_iconst (v := (-1 : Int32)) rfl rfl rfl ?_
    refine S_icmp_lt (tgt := 51) rfl rfl rfl hx3 (show (-1 : Int32).toInt = -1 from rfl) (fun vh3 => ?_) (fun vh3 => ?_)
    · refine X_iconst (v := (-1 : Int32)) rfl rfl rfl ?_
      exact LW_ireturn (st := []) rfl rfl rfl ⟨_, rfl, rfl⟩
    · refine X_aload rfl rfl rfl ?_
      refine X_iload_n rfl rfl rfl rfl ?_
      refine X_callV (as := [.int x1]) (st := []) rfl rfl rfl (by decide) rfl (Nat.le_of_ble_eq_true rfl) (by decide) (Nat.le_of_ble_eq_true rfl) rfl ((congrFun V.1 2).trans s_2) (by decide) ?_
      refine LW_ls (ls' := [some (.ref 2), some (.int x1)]) rfl ?_
      refine X_iload_n rfl rfl rfl rfl ?_
      refine S_if_lt (tgt := 22) rfl rfl rfl hx1 (fun vh4 => ?_) (fun vh4 => ?_)
      · refine X_iconst (v := (0 : Int32)) rfl rfl rfl ?_
        refine LW_ireturn (st := []) rfl rfl rfl ?_
        refine S_if_ne (tgt := 53) rfl rfl rfl (show (0 : Int32).toInt = 0 from rfl) (fun q => absurd q (by omega)) (fun vh5 => ?_)
        refine X_iconst (v := (-1 : Int32)) rfl rfl rfl ?_
        exact LW_ireturn (st := []) rfl rfl rfl ⟨_, rfl, rfl⟩
      · refine X_iload_n rfl rfl rfl rfl ?_
        refine X_aload_n rfl rfl rfl rfl ?_
        refine S_getI rfl rfl rfl ((congrFun V.1 2).trans s_2) rfl (fun vz6 evz6 => ?_)
        have vf7 := K_10_1 (V.2.2.2.2.1 (2) (1) (Nat.le_of_ble_eq_true rfl)) rk_2
        rw [evz6] at vf7
        refine S_icmp_ge (tgt := 22) rfl rfl rfl hx1 rfl (fun vh8 => ?_) (fun vh8 => ?_)
        · refine X_iconst (v := (0 : Int32)) rfl rfl rfl ?_
          refine LW_ireturn (st := []) rfl rfl rfl ?_
          refine S_if_ne (tgt := 53) rfl rfl rfl (show (0 : Int32).toInt = 0 from rfl) (fun q => absurd q (by omega)) (fun vh9 => ?_)
          refine X_iconst (v := (-1 : Int32)) rfl rfl rfl ?_
          exact LW_ireturn (st := []) rfl rfl rfl ⟨_, rfl, rfl⟩
        · refine X_iload_n rfl rfl rfl rfl ?_
          refine X_bipush (v := (8 : Int32)) rfl rfl rfl ?_
          refine S_icmp_ge (tgt := 22) rfl rfl rfl hx1 (show (8 : Int32).toInt = 8 from rfl) (fun q => absurd q (by omega)) (fun vh10 => ?_)
          refine X_iconst (v := (1 : Int32)) rfl rfl rfl ?_
          refine LW_goto (tgt := 23) rfl rfl ?_
          refine LW_ireturn (st := []) rfl rfl rfl ?_
          refine S_if_ne (tgt := 53) rfl rfl rfl (show (1 : Int32).toInt = 1 from rfl) (fun vh11 => ?_) (fun q => absurd q (by omega))
          refine X_iload_n rfl rfl rfl rfl ?_
          refine X_iconst (v := (-1 : Int32)) rfl rfl rfl ?_
          refine S_icmp_ne (tgt := 71) rfl rfl rfl hx2 (show (-1 : Int32).toInt = -1 from rfl) (fun q => absurd q (by omega)) (fun vh12 => ?_)
          refine X_aload_n rfl rfl rfl rfl ?_
          refine X_getR (a := 1) rfl rfl rfl ((congrFun V.1 0).trans s_0) rfl ((congrFun (V.2.1 0 (by decide)) 0).trans r_0_0) ?_
          refine X_getR (a := 10) rfl rfl rfl ((congrFun V.1 1).trans s_1) rfl ((congrFun (V.2.1 1 (by decide)) 1).trans r_1_1) ?_
          refine Y_callV (as := []) (st := []) rfl rfl rfl (by decide) rfl (Nat.le_of_ble_eq_true rfl) (by decide) (Nat.le_of_ble_eq_true rfl) rfl ((congrFun V.1 10).trans s_10) (by decide) (C_X9_missing V  ) ?_
          rintro _ g' ⟨vr13, rfl, hgg⟩
          subst hgg
          refine LW_goto (tgt := 72) rfl rfl ?_
          refine X_istore (i := 6) (ls' := [some (.ref 0), some (.int x1), some (.int x2), some (.int x3), some (.ref 2), some (.int (1 : Int32)), some (.int vr13)]) rfl rfl (Nat.le_of_ble_eq_true rfl) rfl ?_
          refine X_aload rfl rfl rfl ?_
          refine X_iload_n rfl rfl rfl rfl ?_
          refine X_iload rfl rfl rfl ?_
          refine X_callV (as := [.int x1, .int vr13]) (st := []) rfl rfl rfl (by decide) rfl (Nat.le_of_ble_eq_true rfl) (by decide) (Nat.le_of_ble_eq_true rfl) rfl ((congrFun V.1 2).trans s_2) (by decide) ?_
          refine LW_ls (ls' := [some (.ref 2), some (.int x1), some (.int vr13)]) rfl ?_
          refine X_aload_n rfl rfl rfl rfl ?_
          refine X_iload_n rfl rfl rfl rfl ?_
          refine X_callV (as := [.int x1]) (st := []) rfl rfl rfl (by decide) rfl (Nat.le_of_ble_eq_true rfl) (by decide) (Nat.le_of_ble_eq_true rfl) rfl ((congrFun V.1 2).trans s_2) (by decide) ?_
          refine LW_ls (ls' := [some (.ref 2), some (.int x1)]) rfl ?_
          refine X_iload_n rfl rfl rfl rfl ?_
          refine S_if_lt (tgt := 22) rfl rfl rfl hx1 (fun q => absurd q (by omega)) (fun vh14 => ?_)
          refine X_iload_n rfl rfl rfl rfl ?_
          refine X_aload_n rfl rfl rfl rfl ?_
          refine X_getI (v := vz6) rfl rfl rfl ((congrFun V.1 2).trans s_2) rfl evz6 ?_
          refine S_icmp_ge (tgt := 22) rfl rfl rfl hx1 rfl (fun vh15 => ?_) (fun vh15 => ?_)
          · refine X_iconst (v := (0 : Int32)) rfl rfl rfl ?_
            refine LW_ireturn (st := []) rfl rfl rfl ?_
            refine S_if_eq (tgt := 29) rfl rfl rfl (show (0 : Int32).toInt = 0 from rfl) (fun vh16 => ?_) (fun q => absurd q (by omega))
            refine X_iconst (v := (0 : Int32)) rfl rfl rfl ?_
            refine LW_ireturn (st := []) rfl rfl rfl ?_
            refine S_if_ne (tgt := 87) rfl rfl rfl (show (0 : Int32).toInt = 0 from rfl) (fun q => absurd q (by omega)) (fun vh17 => ?_)
            refine X_iconst (v := (-1 : Int32)) rfl rfl rfl ?_
            exact LW_ireturn (st := []) rfl rfl rfl ⟨_, rfl, rfl⟩
          · refine X_iload_n rfl rfl rfl rfl ?_
            refine X_bipush (v := (8 : Int32)) rfl rfl rfl ?_
            refine S_icmp_ge (tgt := 22) rfl rfl rfl hx1 (show (8 : Int32).toInt = 8 from rfl) (fun q => absurd q (by omega)) (fun vh18 => ?_)
            refine X_iconst (v := (1 : Int32)) rfl rfl rfl ?_
            refine LW_goto (tgt := 23) rfl rfl ?_
            refine LW_ireturn (st := []) rfl rfl rfl ?_
            refine S_if_eq (tgt := 29) rfl rfl rfl (show (1 : Int32).toInt = 1 from rfl) (fun q => absurd q (by omega)) (fun vh19 => ?_)
            refine X_aload_n rfl rfl rfl rfl ?_
            refine X_getR (a := 8) rfl rfl rfl ((congrFun V.1 2).trans s_2) rfl ((congrFun (V.2.1 2 (by decide)) 7).trans r_2_7) ?_
            refine X_iload_n rfl rfl rfl rfl ?_
            refine S_iald rfl rfl ((congrFun V.1 8).trans s_8) hx1 (by omega) (fun vz20 evz20 => ?_)
            refine X_aload_n rfl rfl rfl rfl ?_
            refine X_iload_n rfl rfl rfl rfl ?_
            refine Y_callV (as := [.int vr13]) (st := [.int vz20]) rfl rfl rfl (by decide) rfl (Nat.le_of_ble_eq_true rfl) (by decide) (Nat.le_of_ble_eq_true rfl) rfl ((congrFun V.1 2).trans s_2) (by decide) (C_X5_sensesLeft V vr13 vr13.toInt rfl ) ?_
            rintro _ g' ⟨vr21, rfl, hrvr210, hrvr211, hgg⟩
            subst hgg
            refine X_iconst (v := (-1 : Int32)) rfl rfl rfl ?_
            refine S_ixorT rfl rfl (fun vz22 => ?_)
            refine S_iandT rfl rfl (fun vz23 => ?_)
            refine S_if_ne (tgt := 29) rfl rfl rfl rfl (fun vh24 => ?_) (fun vh24 => ?_)
            · refine X_iconst (v := (0 : Int32)) rfl rfl rfl ?_
              refine LW_ireturn (st := []) rfl rfl rfl ?_
              refine S_if_ne (tgt := 87) rfl rfl rfl (show (0 : Int32).toInt = 0 from rfl) (fun q => absurd q (by omega)) (fun vh25 => ?_)
              refine X_iconst (v := (-1 : Int32)) rfl rfl rfl ?_
              exact LW_ireturn (st := []) rfl rfl rfl ⟨_, rfl, rfl⟩
            · refine X_iconst (v := (1 : Int32)) rfl rfl rfl ?_
              refine LW_goto (tgt := 30) rfl rfl ?_
              refine LW_ireturn (st := []) rfl rfl rfl ?_
              refine S_if_ne (tgt := 87) rfl rfl rfl (show (1 : Int32).toInt = 1 from rfl) (fun vh26 => ?_) (fun q => absurd q (by omega))
              refine X_iload_n rfl rfl rfl rfl ?_
              refine X_iconst (v := (-1 : Int32)) rfl rfl rfl ?_
              refine S_icmp_ne (tgt := 101) rfl rfl rfl hx3 (show (-1 : Int32).toInt = -1 from rfl) (fun vh27 => ?_) (fun vh27 => ?_)
              · refine X_aload rfl rfl rfl ?_
                refine X_iload_n rfl rfl rfl rfl ?_
                refine X_iload_n rfl rfl rfl rfl ?_
                refine X_iload rfl rfl rfl ?_
                refine Y_callV (as := [.int x1, .int x3, .int vr13]) (st := []) rfl rfl rfl (by decide) rfl (Nat.le_of_ble_eq_true rfl) (by decide) (Nat.le_of_ble_eq_true rfl) rfl ((congrFun V.1 2).trans s_2) (by decide) (C_X5_wordSaid V x1 y1 hx1 (by omega) x3 y3 hx3 (by omega) vr13 vr13.toInt rfl ) ?_
                rintro _ g' ⟨vr28, rfl, hrvr280, hrvr281, hgg⟩
                subst hgg
                exact LW_ireturn (st := []) rfl rfl rfl ⟨_, rfl, rfl⟩
              · refine X_aload rfl rfl rfl ?_
                refine X_iload_n rfl rfl rfl rfl ?_
                refine X_iload rfl rfl rfl ?_
                refine Y_callV (as := [.int x1, .int vr13]) (st := []) rfl rfl rfl (by decide) rfl (Nat.le_of_ble_eq_true rfl) (by decide) (Nat.le_of_ble_eq_true rfl) rfl ((congrFun V.1 2).trans s_2) (by decide) (C_X5_lettersSaid V x1 y1 hx1 (by omega) vr13 vr13.toInt rfl ) ?_
                rintro _ g' ⟨vr29, rfl, hgg⟩
                subst hgg
                exact LW_ireturn (st := []) rfl rfl rfl ⟨_, rfl, rfl⟩
  · refine X_iload_n rfl rfl rfl rfl ?_
    refine S_if_eq (tgt := 25) rfl rfl rfl hx2 (fun vh30 => ?_) (fun vh30 => ?_)
    · refine X_iconst (v := (1 : Int32)) rfl rfl rfl ?_
      refine LW_goto (tgt := 30) rfl rfl ?_
      refine X_istore (i := 5) (ls' := [some (.ref 0), some (.int x1), some (.int x2), some (.int x3), some (.ref 2), some (.int (1 : Int32)), none]) rfl rfl (Nat.le_of_ble_eq_true rfl) rfl ?_
      refine X_iload rfl rfl rfl ?_
      refine S_if_eq (tgt := 51) rfl rfl rfl (show (1 : Int32).toInt = 1 from rfl) (fun q => absurd q (by omega)) (fun vh31 => ?_)
      refine X_iload_n rfl rfl rfl rfl ?_
      refine X_iconst (v := (-1 : Int32)) rfl rfl rfl ?_
      refine S_icmp_lt (tgt := 51) rfl rfl rfl hx3 (show (-1 : Int32).toInt = -1 from rfl) (fun vh32 => ?_) (fun vh32 => ?_)
      · refine X_iconst (v := (-1 : Int32)) rfl rfl rfl ?_
        exact LW_ireturn (st := []) rfl rfl rfl ⟨_, rfl, rfl⟩
      · refine X_aload rfl rfl rfl ?_
        refine X_iload_n rfl rfl rfl rfl ?_
        refine X_callV (as := [.int x1]) (st := []) rfl rfl rfl (by decide) rfl (Nat.le_of_ble_eq_true rfl) (by decide) (Nat.le_of_ble_eq_true rfl) rfl ((congrFun V.1 2).trans s_2) (by decide) ?_
        refine LW_ls (ls' := [some (.ref 2), some (.int x1)]) rfl ?_
        refine X_iload_n rfl rfl rfl rfl ?_
        refine S_if_lt (tgt := 22) rfl rfl rfl hx1 (fun vh33 => ?_) (fun vh33 => ?_)
        · refine X_iconst (v := (0 : Int32)) rfl rfl rfl ?_
          refine LW_ireturn (st := []) rfl rfl rfl ?_
          refine S_if_ne (tgt := 53) rfl rfl rfl (show (0 : Int32).toInt = 0 from rfl) (fun q => absurd q (by omega)) (fun vh34 => ?_)
          refine X_iconst (v := (-1 : Int32)) rfl rfl rfl ?_
          exact LW_ireturn (st := []) rfl rfl rfl ⟨_, rfl, rfl⟩
        · refine X_iload_n rfl rfl rfl rfl ?_
          refine X_aload_n rfl rfl rfl rfl ?_
          refine S_getI rfl rfl rfl ((congrFun V.1 2).trans s_2) rfl (fun vz35 evz35 => ?_)
          have vf36 := K_10_1 (V.2.2.2.2.1 (2) (1) (Nat.le_of_ble_eq_true rfl)) rk_2
          rw [evz35] at vf36
          refine S_icmp_ge (tgt := 22) rfl rfl rfl hx1 rfl (fun vh37 => ?_) (fun vh37 => ?_)
          · refine X_iconst (v := (0 : Int32)) rfl rfl rfl ?_
            refine LW_ireturn (st := []) rfl rfl rfl ?_
            refine S_if_ne (tgt := 53) rfl rfl rfl (show (0 : Int32).toInt = 0 from rfl) (fun q => absurd q (by omega)) (fun vh38 => ?_)
            refine X_iconst (v := (-1 : Int32)) rfl rfl rfl ?_
            exact LW_ireturn (st := []) rfl rfl rfl ⟨_, rfl, rfl⟩
          · refine X_iload_n rfl rfl rfl rfl ?_
            refine X_bipush (v := (8 : Int32)) rfl rfl rfl ?_
            refine S_icmp_ge (tgt := 22) rfl rfl rfl hx1 (show (8 : Int32).toInt = 8 from rfl) (fun q => absurd q (by omega)) (fun vh39 => ?_)
            refine X_iconst (v := (1 : Int32)) rfl rfl rfl ?_
            refine LW_goto (tgt := 23) rfl rfl ?_
            refine LW_ireturn (st := []) rfl rfl rfl ?_
            refine S_if_ne (tgt := 53) rfl rfl rfl (show (1 : Int32).toInt = 1 from rfl) (fun vh40 => ?_) (fun q => absurd q (by omega))
            refine X_iload_n rfl rfl rfl rfl ?_
            refine X_iconst (v := (-1 : Int32)) rfl rfl rfl ?_
            refine S_icmp_ne (tgt := 71) rfl rfl rfl hx2 (show (-1 : Int32).toInt = -1 from rfl) (fun vh41 => ?_) (fun q => absurd q (by omega))
            refine X_iload_n rfl rfl rfl rfl ?_
            refine X_istore (i := 6) (ls' := [some (.ref 0), some (.int x1), some (.int x2), some (.int x3), some (.ref 2), some (.int (1 : Int32)), some (.int x2)]) rfl rfl (Nat.le_of_ble_eq_true rfl) rfl ?_
            refine X_aload rfl rfl rfl ?_
            refine X_iload_n rfl rfl rfl rfl ?_
            refine X_iload rfl rfl rfl ?_
            refine X_callV (as := [.int x1, .int x2]) (st := []) rfl rfl rfl (by decide) rfl (Nat.le_of_ble_eq_true rfl) (by decide) (Nat.le_of_ble_eq_true rfl) rfl ((congrFun V.1 2).trans s_2) (by decide) ?_
            refine LW_ls (ls' := [some (.ref 2), some (.int x1), some (.int x2)]) rfl ?_
            refine X_aload_n rfl rfl rfl rfl ?_
            refine X_iload_n rfl rfl rfl rfl ?_
            refine X_callV (as := [.int x1]) (st := []) rfl rfl rfl (by decide) rfl (Nat.le_of_ble_eq_true rfl) (by decide) (Nat.le_of_ble_eq_true rfl) rfl ((congrFun V.1 2).trans s_2) (by decide) ?_
            refine LW_ls (ls' := [some (.ref 2), some (.int x1)]) rfl ?_
            refine X_iload_n rfl rfl rfl rfl ?_
            refine S_if_lt (tgt := 22) rfl rfl rfl hx1 (fun q => absurd q (by omega)) (fun vh42 => ?_)
            refine X_iload_n rfl rfl rfl rfl ?_
            refine X_aload_n rfl rfl rfl rfl ?_
            refine X_getI (v := vz35) rfl rfl rfl ((congrFun V.1 2).trans s_2) rfl evz35 ?_
            refine S_icmp_ge (tgt := 22) rfl rfl rfl hx1 rfl (fun vh43 => ?_) (fun vh43 => ?_)
            · refine X_iconst (v := (0 : Int32)) rfl rfl rfl ?_
              refine LW_ireturn (st := []) rfl rfl rfl ?_
              refine S_if_eq (tgt := 29) rfl rfl rfl (show (0 : Int32).toInt = 0 from rfl) (fun vh44 => ?_) (fun q => absurd q (by omega))
              refine X_iconst (v := (0 : Int32)) rfl rfl rfl ?_
              refine LW_ireturn (st := []) rfl rfl rfl ?_
              refine S_if_ne (tgt := 87) rfl rfl rfl (show (0 : Int32).toInt = 0 from rfl) (fun q => absurd q (by omega)) (fun vh45 => ?_)
              refine X_iconst (v := (-1 : Int32)) rfl rfl rfl ?_
              exact LW_ireturn (st := []) rfl rfl rfl ⟨_, rfl, rfl⟩
            · refine X_iload_n rfl rfl rfl rfl ?_
              refine X_bipush (v := (8 : Int32)) rfl rfl rfl ?_
              refine S_icmp_ge (tgt := 22) rfl rfl rfl hx1 (show (8 : Int32).toInt = 8 from rfl) (fun q => absurd q (by omega)) (fun vh46 => ?_)
              refine X_iconst (v := (1 : Int32)) rfl rfl rfl ?_
              refine LW_goto (tgt := 23) rfl rfl ?_
              refine LW_ireturn (st := []) rfl rfl rfl ?_
              refine S_if_eq (tgt := 29) rfl rfl rfl (show (1 : Int32).toInt = 1 from rfl) (fun q => absurd q (by omega)) (fun vh47 => ?_)
              refine X_aload_n rfl rfl rfl rfl ?_
              refine X_getR (a := 8) rfl rfl rfl ((congrFun V.1 2).trans s_2) rfl ((congrFun (V.2.1 2 (by decide)) 7).trans r_2_7) ?_
              refine X_iload_n rfl rfl rfl rfl ?_
              refine S_iald rfl rfl ((congrFun V.1 8).trans s_8) hx1 (by omega) (fun vz48 evz48 => ?_)
              refine X_aload_n rfl rfl rfl rfl ?_
              refine X_iload_n rfl rfl rfl rfl ?_
              refine Y_callV (as := [.int x2]) (st := [.int vz48]) rfl rfl rfl (by decide) rfl (Nat.le_of_ble_eq_true rfl) (by decide) (Nat.le_of_ble_eq_true rfl) rfl ((congrFun V.1 2).trans s_2) (by decide) (C_X5_sensesLeft V x2 y2 hx2 ) ?_
              rintro _ g' ⟨vr49, rfl, hrvr490, hrvr491, hgg⟩
              subst hgg
              refine X_iconst (v := (-1 : Int32)) rfl rfl rfl ?_
              refine S_ixorT rfl rfl (fun vz50 => ?_)
              refine S_iandT rfl rfl (fun vz51 => ?_)
              refine S_if_ne (tgt := 29) rfl rfl rfl rfl (fun vh52 => ?_) (fun vh52 => ?_)
              · refine X_iconst (v := (0 : Int32)) rfl rfl rfl ?_
                refine LW_ireturn (st := []) rfl rfl rfl ?_
                refine S_if_ne (tgt := 87) rfl rfl rfl (show (0 : Int32).toInt = 0 from rfl) (fun q => absurd q (by omega)) (fun vh53 => ?_)
                refine X_iconst (v := (-1 : Int32)) rfl rfl rfl ?_
                exact LW_ireturn (st := []) rfl rfl rfl ⟨_, rfl, rfl⟩
              · refine X_iconst (v := (1 : Int32)) rfl rfl rfl ?_
                refine LW_goto (tgt := 30) rfl rfl ?_
                refine LW_ireturn (st := []) rfl rfl rfl ?_
                refine S_if_ne (tgt := 87) rfl rfl rfl (show (1 : Int32).toInt = 1 from rfl) (fun vh54 => ?_) (fun q => absurd q (by omega))
                refine X_iload_n rfl rfl rfl rfl ?_
                refine X_iconst (v := (-1 : Int32)) rfl rfl rfl ?_
                refine S_icmp_ne (tgt := 101) rfl rfl rfl hx3 (show (-1 : Int32).toInt = -1 from rfl) (fun vh55 => ?_) (fun vh55 => ?_)
                · refine X_aload rfl rfl rfl ?_
                  refine X_iload_n rfl rfl rfl rfl ?_
                  refine X_iload_n rfl rfl rfl rfl ?_
                  refine X_iload rfl rfl rfl ?_
                  refine Y_callV (as := [.int x1, .int x3, .int x2]) (st := []) rfl rfl rfl (by decide) rfl (Nat.le_of_ble_eq_true rfl) (by decide) (Nat.le_of_ble_eq_true rfl) rfl ((congrFun V.1 2).trans s_2) (by decide) (C_X5_wordSaid V x1 y1 hx1 (by omega) x3 y3 hx3 (by omega) x2 y2 hx2 ) ?_
                  rintro _ g' ⟨vr56, rfl, hrvr560, hrvr561, hgg⟩
                  subst hgg
                  exact LW_ireturn (st := []) rfl rfl rfl ⟨_, rfl, rfl⟩
                · refine X_aload rfl rfl rfl ?_
                  refine X_iload_n rfl rfl rfl rfl ?_
                  refine X_iload rfl rfl rfl ?_
                  refine Y_callV (as := [.int x1, .int x2]) (st := []) rfl rfl rfl (by decide) rfl (Nat.le_of_ble_eq_true rfl) (by decide) (Nat.le_of_ble_eq_true rfl) rfl ((congrFun V.1 2).trans s_2) (by decide) (C_X5_lettersSaid V x1 y1 hx1 (by omega) x2 y2 hx2 ) ?_
                  rintro _ g' ⟨vr57, rfl, hgg⟩
                  subst hgg
                  exact LW_ireturn (st := []) rfl rfl rfl ⟨_, rfl, rfl⟩
    · refine X_iload_n rfl rfl rfl rfl ?_
      refine X_callS (as := [.int x2]) (st := []) rfl rfl rfl (by decide) rfl (Nat.le_of_ble_eq_true rfl) (by decide) (Nat.le_of_ble_eq_true rfl) rfl ?_
      refine LW_ls (ls' := [some (.int x2)]) rfl ?_
      refine X_iload_n rfl rfl rfl rfl ?_
      refine S_if_le (tgt := 15) rfl rfl rfl hx2 (fun vh58 => ?_) (fun vh58 => ?_)
      · refine X_iconst (v := (0 : Int32)) rfl rfl rfl ?_
        refine LW_ireturn (st := []) rfl rfl rfl ?_
        refine S_if_eq (tgt := 29) rfl rfl rfl (show (0 : Int32).toInt = 0 from rfl) (fun vh59 => ?_) (fun q => absurd q (by omega))
        refine X_iconst (v := (0 : Int32)) rfl rfl rfl ?_
        refine X_istore (i := 5) (ls' := [some (.ref 0), some (.int x1), some (.int x2), some (.int x3), some (.ref 2), some (.int (0 : Int32)), none]) rfl rfl (Nat.le_of_ble_eq_true rfl) rfl ?_
        refine X_iload rfl rfl rfl ?_
        refine S_if_eq (tgt := 51) rfl rfl rfl (show (0 : Int32).toInt = 0 from rfl) (fun vh60 => ?_) (fun q => absurd q (by omega))
        refine X_iconst (v := (-1 : Int32)) rfl rfl rfl ?_
        exact LW_ireturn (st := []) rfl rfl rfl ⟨_, rfl, rfl⟩
      · refine X_iload_n rfl rfl rfl rfl ?_
        refine X_ldcw (v := (67108864 : Int32)) rfl rfl rfl ?_
        refine S_icmp_ge (tgt := 15) rfl rfl rfl hx2 (show (67108864 : Int32).toInt = 67108864 from rfl) (fun vh61 => ?_) (fun vh61 => ?_)
        · refine X_iconst (v := (0 : Int32)) rfl rfl rfl ?_
          refine LW_ireturn (st := []) rfl rfl rfl ?_
          refine S_if_eq (tgt := 29) rfl rfl rfl (show (0 : Int32).toInt = 0 from rfl) (fun vh62 => ?_) (fun q => absurd q (by omega))
          refine X_iconst (v := (0 : Int32)) rfl rfl rfl ?_
          refine X_istore (i := 5) (ls' := [some (.ref 0), some (.int x1), some (.int x2), some (.int x3), some (.ref 2), some (.int (0 : Int32)), none]) rfl rfl (Nat.le_of_ble_eq_true rfl) rfl ?_
          refine X_iload rfl rfl rfl ?_
          refine S_if_eq (tgt := 51) rfl rfl rfl (show (0 : Int32).toInt = 0 from rfl) (fun vh63 => ?_) (fun q => absurd q (by omega))
          refine X_iconst (v := (-1 : Int32)) rfl rfl rfl ?_
          exact LW_ireturn (st := []) rfl rfl rfl ⟨_, rfl, rfl⟩
        · refine X_iconst (v := (1 : Int32)) rfl rfl rfl ?_
          refine LW_goto (tgt := 16) rfl rfl ?_
          refine LW_ireturn (st := []) rfl rfl rfl ?_
          refine S_if_eq (tgt := 29) rfl rfl rfl (show (1 : Int32).toInt = 1 from rfl) (fun q => absurd q (by omega)) (fun vh64 => ?_)
          refine X_iconst (v := (1 : Int32)) rfl rfl rfl ?_
          refine LW_goto (tgt := 30) rfl rfl ?_
          refine X_istore (i := 5) (ls' := [some (.ref 0), some (.int x1), some (.int x2), some (.int x3), some (.ref 2), some (.int (1 : Int32)), none]) rfl rfl (Nat.le_of_ble_eq_true rfl) rfl ?_
          refine X_iload rfl rfl rfl ?_
          refine S_if_eq (tgt := 51) rfl rfl rfl (show (1 : Int32).toInt = 1 from rfl) (fun q => absurd q (by omega)) (fun vh65 => ?_)
          refine X_iload_n rfl rfl rfl rfl ?_
          refine X_iconst (v := (-1 : Int32)) rfl rfl rfl ?_
          refine S_icmp_lt (tgt := 51) rfl rfl rfl hx3 (show (-1 : Int32).toInt = -1 from rfl) (fun vh66 => ?_) (fun vh66 => ?_)
          · refine X_iconst (v := (-1 : Int32)) rfl rfl rfl ?_
            exact LW_ireturn (st := []) rfl rfl rfl ⟨_, rfl, rfl⟩
          · refine X_aload rfl rfl rfl ?_
            refine X_iload_n rfl rfl rfl rfl ?_
            refine X_callV (as := [.int x1]) (st := []) rfl rfl rfl (by decide) rfl (Nat.le_of_ble_eq_true rfl) (by decide) (Nat.le_of_ble_eq_true rfl) rfl ((congrFun V.1 2).trans s_2) (by decide) ?_
            refine LW_ls (ls' := [some (.ref 2), some (.int x1)]) rfl ?_
            refine X_iload_n rfl rfl rfl rfl ?_
            refine S_if_lt (tgt := 22) rfl rfl rfl hx1 (fun vh67 => ?_) (fun vh67 => ?_)
            · refine X_iconst (v := (0 : Int32)) rfl rfl rfl ?_
              refine LW_ireturn (st := []) rfl rfl rfl ?_
              refine S_if_ne (tgt := 53) rfl rfl rfl (show (0 : Int32).toInt = 0 from rfl) (fun q => absurd q (by omega)) (fun vh68 => ?_)
              refine X_iconst (v := (-1 : Int32)) rfl rfl rfl ?_
              exact LW_ireturn (st := []) rfl rfl rfl ⟨_, rfl, rfl⟩
            · refine X_iload_n rfl rfl rfl rfl ?_
              refine X_aload_n rfl rfl rfl rfl ?_
              refine S_getI rfl rfl rfl ((congrFun V.1 2).trans s_2) rfl (fun vz69 evz69 => ?_)
              have vf70 := K_10_1 (V.2.2.2.2.1 (2) (1) (Nat.le_of_ble_eq_true rfl)) rk_2
              rw [evz69] at vf70
              refine S_icmp_ge (tgt := 22) rfl rfl rfl hx1 rfl (fun vh71 => ?_) (fun vh71 => ?_)
              · refine X_iconst (v := (0 : Int32)) rfl rfl rfl ?_
                refine LW_ireturn (st := []) rfl rfl rfl ?_
                refine S_if_ne (tgt := 53) rfl rfl rfl (show (0 : Int32).toInt = 0 from rfl) (fun q => absurd q (by omega)) (fun vh72 => ?_)
                refine X_iconst (v := (-1 : Int32)) rfl rfl rfl ?_
                exact LW_ireturn (st := []) rfl rfl rfl ⟨_, rfl, rfl⟩
              · refine X_iload_n rfl rfl rfl rfl ?_
                refine X_bipush (v := (8 : Int32)) rfl rfl rfl ?_
                refine S_icmp_ge (tgt := 22) rfl rfl rfl hx1 (show (8 : Int32).toInt = 8 from rfl) (fun q => absurd q (by omega)) (fun vh73 => ?_)
                refine X_iconst (v := (1 : Int32)) rfl rfl rfl ?_
                refine LW_goto (tgt := 23) rfl rfl ?_
                refine LW_ireturn (st := []) rfl rfl rfl ?_
                refine S_if_ne (tgt := 53) rfl rfl rfl (show (1 : Int32).toInt = 1 from rfl) (fun vh74 => ?_) (fun q => absurd q (by omega))
                refine X_iload_n rfl rfl rfl rfl ?_
                refine X_iconst (v := (-1 : Int32)) rfl rfl rfl ?_
                refine S_icmp_ne (tgt := 71) rfl rfl rfl hx2 (show (-1 : Int32).toInt = -1 from rfl) (fun vh75 => ?_) (fun q => absurd q (by omega))
                refine X_iload_n rfl rfl rfl rfl ?_
                refine X_istore (i := 6) (ls' := [some (.ref 0), some (.int x1), some (.int x2), some (.int x3), some (.ref 2), some (.int (1 : Int32)), some (.int x2)]) rfl rfl (Nat.le_of_ble_eq_true rfl) rfl ?_
                refine X_aload rfl rfl rfl ?_
                refine X_iload_n rfl rfl rfl rfl ?_
                refine X_iload rfl rfl rfl ?_
                refine X_callV (as := [.int x1, .int x2]) (st := []) rfl rfl rfl (by decide) rfl (Nat.le_of_ble_eq_true rfl) (by decide) (Nat.le_of_ble_eq_true rfl) rfl ((congrFun V.1 2).trans s_2) (by decide) ?_
                refine LW_ls (ls' := [some (.ref 2), some (.int x1), some (.int x2)]) rfl ?_
                refine X_aload_n rfl rfl rfl rfl ?_
                refine X_iload_n rfl rfl rfl rfl ?_
                refine X_callV (as := [.int x1]) (st := []) rfl rfl rfl (by decide) rfl (Nat.le_of_ble_eq_true rfl) (by decide) (Nat.le_of_ble_eq_true rfl) rfl ((congrFun V.1 2).trans s_2) (by decide) ?_
                refine LW_ls (ls' := [some (.ref 2), some (.int x1)]) rfl ?_
                refine X_iload_n rfl rfl rfl rfl ?_
                refine S_if_lt (tgt := 22) rfl rfl rfl hx1 (fun q => absurd q (by omega)) (fun vh76 => ?_)
                refine X_iload_n rfl rfl rfl rfl ?_
                refine X_aload_n rfl rfl rfl rfl ?_
                refine X_getI (v := vz69) rfl rfl rfl ((congrFun V.1 2).trans s_2) rfl evz69 ?_
                refine S_icmp_ge (tgt := 22) rfl rfl rfl hx1 rfl (fun vh77 => ?_) (fun vh77 => ?_)
                · refine X_iconst (v := (0 : Int32)) rfl rfl rfl ?_
                  refine LW_ireturn (st := []) rfl rfl rfl ?_
                  refine S_if_eq (tgt := 29) rfl rfl rfl (show (0 : Int32).toInt = 0 from rfl) (fun vh78 => ?_) (fun q => absurd q (by omega))
                  refine X_iconst (v := (0 : Int32)) rfl rfl rfl ?_
                  refine LW_ireturn (st := []) rfl rfl rfl ?_
                  refine S_if_ne (tgt := 87) rfl rfl rfl (show (0 : Int32).toInt = 0 from rfl) (fun q => absurd q (by omega)) (fun vh79 => ?_)
                  refine X_iconst (v := (-1 : Int32)) rfl rfl rfl ?_
                  exact LW_ireturn (st := []) rfl rfl rfl ⟨_, rfl, rfl⟩
                · refine X_iload_n rfl rfl rfl rfl ?_
                  refine X_bipush (v := (8 : Int32)) rfl rfl rfl ?_
                  refine S_icmp_ge (tgt := 22) rfl rfl rfl hx1 (show (8 : Int32).toInt = 8 from rfl) (fun q => absurd q (by omega)) (fun vh80 => ?_)
                  refine X_iconst (v := (1 : Int32)) rfl rfl rfl ?_
                  refine LW_goto (tgt := 23) rfl rfl ?_
                  refine LW_ireturn (st := []) rfl rfl rfl ?_
                  refine S_if_eq (tgt := 29) rfl rfl rfl (show (1 : Int32).toInt = 1 from rfl) (fun q => absurd q (by omega)) (fun vh81 => ?_)
                  refine X_aload_n rfl rfl rfl rfl ?_
                  refine X_getR (a := 8) rfl rfl rfl ((congrFun V.1 2).trans s_2) rfl ((congrFun (V.2.1 2 (by decide)) 7).trans r_2_7) ?_
                  refine X_iload_n rfl rfl rfl rfl ?_
                  refine S_iald rfl rfl ((congrFun V.1 8).trans s_8) hx1 (by omega) (fun vz82 evz82 => ?_)
                  refine X_aload_n rfl rfl rfl rfl ?_
                  refine X_iload_n rfl rfl rfl rfl ?_
                  refine Y_callV (as := [.int x2]) (st := [.int vz82]) rfl rfl rfl (by decide) rfl (Nat.le_of_ble_eq_true rfl) (by decide) (Nat.le_of_ble_eq_true rfl) rfl ((congrFun V.1 2).trans s_2) (by decide) (C_X5_sensesLeft V x2 y2 hx2 ) ?_
                  rintro _ g' ⟨vr83, rfl, hrvr830, hrvr831, hgg⟩
                  subst hgg
                  refine X_iconst (v := (-1 : Int32)) rfl rfl rfl ?_
                  refine S_ixorT rfl rfl (fun vz84 => ?_)
                  refine S_iandT rfl rfl (fun vz85 => ?_)
                  refine S_if_ne (tgt := 29) rfl rfl rfl rfl (fun vh86 => ?_) (fun vh86 => ?_)
                  · refine X_iconst (v := (0 : Int32)) rfl rfl rfl ?_
                    refine LW_ireturn (st := []) rfl rfl rfl ?_
                    refine S_if_ne (tgt := 87) rfl rfl rfl (show (0 : Int32).toInt = 0 from rfl) (fun q => absurd q (by omega)) (fun vh87 => ?_)
                    refine X_iconst (v := (-1 : Int32)) rfl rfl rfl ?_
                    exact LW_ireturn (st := []) rfl rfl rfl ⟨_, rfl, rfl⟩
                  · refine X_iconst (v := (1 : Int32)) rfl rfl rfl ?_
                    refine LW_goto (tgt := 30) rfl rfl ?_
                    refine LW_ireturn (st := []) rfl rfl rfl ?_
                    refine S_if_ne (tgt := 87) rfl rfl rfl (show (1 : Int32).toInt = 1 from rfl) (fun vh88 => ?_) (fun q => absurd q (by omega))
                    refine X_iload_n rfl rfl rfl rfl ?_
                    refine X_iconst (v := (-1 : Int32)) rfl rfl rfl ?_
                    refine S_icmp_ne (tgt := 101) rfl rfl rfl hx3 (show (-1 : Int32).toInt = -1 from rfl) (fun vh89 => ?_) (fun vh89 => ?_)
                    · refine X_aload rfl rfl rfl ?_
                      refine X_iload_n rfl rfl rfl rfl ?_
                      refine X_iload_n rfl rfl rfl rfl ?_
                      refine X_iload rfl rfl rfl ?_
                      refine Y_callV (as := [.int x1, .int x3, .int x2]) (st := []) rfl rfl rfl (by decide) rfl (Nat.le_of_ble_eq_true rfl) (by decide) (Nat.le_of_ble_eq_true rfl) rfl ((congrFun V.1 2).trans s_2) (by decide) (C_X5_wordSaid V x1 y1 hx1 (by omega) x3 y3 hx3 (by omega) x2 y2 hx2 ) ?_
                      rintro _ g' ⟨vr90, rfl, hrvr900, hrvr901, hgg⟩
                      subst hgg
                      exact LW_ireturn (st := []) rfl rfl rfl ⟨_, rfl, rfl⟩
                    · refine X_aload rfl rfl rfl ?_
                      refine X_iload_n rfl rfl rfl rfl ?_
                      refine X_iload rfl rfl rfl ?_
                      refine Y_callV (as := [.int x1, .int x2]) (st := []) rfl rfl rfl (by decide) rfl (Nat.le_of_ble_eq_true rfl) (by decide) (Nat.le_of_ble_eq_true rfl) rfl ((congrFun V.1 2).trans s_2) (by decide) (C_X5_lettersSaid V x1 y1 hx1 (by omega) x2 y2 hx2 ) ?_
                      rintro _ g' ⟨vr91, rfl, hgg⟩
                      subst hgg
                      exact LW_ireturn (st := []) rfl rfl rfl ⟨_, rfl, rfl⟩
set_option maxRecDepth 10000 in
set_option maxHeartbeats 40000000 in
theorem C_X4_price_43 {P : Par} {g g0 : LH} {d n : Nat}  (V : Inv P g) (hG : Gr g = Gr g0) (u : Nat) (hu : u < 4) (x1 : Int32) (y1 : Int) (hx1 : x1.toInt = y1) (hf1 : 0 ≤ y1 ∧ y1 ≤ 23) (x4 : Int32) (y4 : Int) (hx4 : x4.toInt = y4) (x5 : Int32) (y5 : Int) (hx5 : x5.toInt = y5) (hf5 : 0 ≤ y5 ∧ y5 ≤ 8) (hc2_0 : 1 ≤ (Gi g 2 0).toInt ∧ (Gi g 2 0).toInt ≤ 24) (hq0 : ¬ (Gi g (299 + 10 * u) (Int.toNat 2)).toInt = -1) (hmu : (8 - y5) * 1 + 0 < (n : Int) + 1) (ih43 : ∀ (g : LH) (V : Inv P g) (hG : Gr g = Gr g0) (u : Nat) (hu : u < 4) (x1 : Int32) (y1 : Int) (hx1 : x1.toInt = y1) (hf1 : 0 ≤ y1 ∧ y1 ≤ 23) (x4 : Int32) (y4 : Int) (hx4 : x4.toInt = y4) (x5 : Int32) (y5 : Int) (hx5 : x5.toInt = y5) (hf5 : 0 ≤ y5 ∧ y5 ≤ 8) (hc2_0 : 1 ≤ (Gi g 2 0).toInt ∧ (Gi g 2 0).toInt ≤ 24) (hq0 : ¬ (Gi g (299 + 10 * u) (Int.toNat 2)).toInt = -1), (8 - y5) * 1 + 0 < (n : Int) → LW 29 (d + 13) 0 0 43 [some (.ref 339), some (.int x1), some (.ref 2), some (.ref (292 + 10 * u)), some (.int x4), some (.int x5)] [] g (fun v g' => ∃ r : Int32, v = some (.int r) ∧ 0 ≤ r.toInt ∧ r.toInt ≤ 999 ∧ Inv P g' ∧ Gr g' = Gr g0)) : LW 29 (d + 13) 0 0 43 [some (.ref 339), some (.int x1), some (.ref 2), some (.ref (292 + 10 * u)), some (.int x4), some (.int x5)] [] g (fun v g' => ∃ r : Int32, v = some (.int r) ∧ 0 ≤ r.toInt ∧ r.toInt ≤ 999 ∧ Inv P g' ∧ Gr g' = Gr g0) := by
  obtain ⟨vz1, evz1⟩ : ∃ z, Gi g 2 0 = z := ⟨_, rfl⟩
  rw [evz1] at hc2_0
  have hl := hq0
  refine X_iload rfl rfl rfl ?_
  refine X_aload_n rfl rfl rfl rfl ?_
  refine X_getR (a := 3) rfl rfl rfl ((congrFun V.1 2).trans s_2) rfl ((congrFun (V.2.1 2 (by decide)) 2).trans r_2_2) ?_
  refine X_iload_n rfl rfl rfl rfl ?_
  refine S_iald rfl rfl ((congrFun V.1 3).trans s_3) hx1 (by omega) (fun vz2 evz2 => ?_)
  have vf3 := K_1 (V.2.2.2.2.1 (3) ((y1 : Int).toNat) (Nat.le_of_ble_eq_true rfl)) rk_3
  rw [evz2] at vf3
  refine S_icmp_ge (tgt := 90) rfl rfl rfl hx5 rfl (fun vh4 => ?_) (fun vh4 => ?_)
  · refine X_aload_n rfl rfl rfl rfl ?_
    refine X_aload_n rfl rfl rfl rfl ?_
    refine X_getR (a := 1) rfl rfl rfl ((congrFun V.1 339).trans s_339) rfl ((congrFun (V.2.1 339 (by decide)) 0).trans r_339_0) ?_
    refine X_getR (a := 10) rfl rfl rfl ((congrFun V.1 1).trans s_1) rfl ((congrFun (V.2.1 1 (by decide)) 1).trans r_1_1) ?_
    refine Y_callV (as := []) (st := [.ref 339]) rfl rfl rfl (by decide) rfl (Nat.le_of_ble_eq_true rfl) (by decide) (Nat.le_of_ble_eq_true rfl) rfl ((congrFun V.1 10).trans s_10) (by decide) (C_X9_outs V  ) ?_
    rintro _ g' ⟨vr5, rfl, hrvr50, hrvr51, hgg⟩
    subst hgg
    refine X_callV (as := [.int vr5]) (st := []) rfl rfl rfl (by decide) rfl (Nat.le_of_ble_eq_true rfl) (by decide) (Nat.le_of_ble_eq_true rfl) rfl ((congrFun V.1 339).trans s_339) (by decide) ?_
    refine LW_ls (ls' := [some (.ref 339), some (.int vr5)]) rfl ?_
    refine X_aload_n rfl rfl rfl rfl ?_
    refine X_getR (a := 340) rfl rfl rfl ((congrFun V.1 339).trans s_339) rfl ((congrFun (V.2.1 339 (by decide)) 2).trans r_339_2) ?_
    refine X_iconst (v := (0 : Int32)) rfl rfl rfl ?_
    refine X_aload_n rfl rfl rfl rfl ?_
    refine X_getR (a := 1) rfl rfl rfl ((congrFun V.1 339).trans s_339) rfl ((congrFun (V.2.1 339 (by decide)) 0).trans r_339_0) ?_
    refine X_getR (a := 10) rfl rfl rfl ((congrFun V.1 1).trans s_1) rfl ((congrFun (V.2.1 1 (by decide)) 1).trans r_1_1) ?_
    refine S_getI rfl rfl rfl ((congrFun V.1 10).trans s_10) rfl (fun vz6 evz6 => ?_)
    refine S_iast (I := Inv _) rfl rfl ((congrFun V.1 340).trans s_340) (show (0 : Int32).toInt = 0 from rfl) (by omega) (Inv_putI V (Nat.le_of_ble_eq_true rfl) (Or.inl (by decide)) (Q_0 rk_340)) (fun g V ve7 vn8 hq => ?_)
    have hG := hq.trans hG
    have evz1 := (vn8 (2) 0 (Or.inl (by decide))).trans evz1
    have evz2 := (vn8 (3) ((y1 : Int).toNat) (Or.inl (by decide))).trans evz2
    have evz6 := (vn8 (10) 1 (Or.inl (by decide))).trans evz6
    rw [← vn8 (299 + 10 * u) (2 : Int).toNat (Or.inl (by omega))] at hl
    refine X_aload_n rfl rfl rfl rfl ?_
    refine X_getR (a := 340) rfl rfl rfl ((congrFun V.1 339).trans s_339) rfl ((congrFun (V.2.1 339 (by decide)) 2).trans r_339_2) ?_
    refine X_iconst (v := (1 : Int32)) rfl rfl rfl ?_
    refine X_iload_n rfl rfl rfl rfl ?_
    refine S_iast (I := Inv _) rfl rfl ((congrFun V.1 340).trans s_340) (show (1 : Int32).toInt = 1 from rfl) (by omega) (Inv_putI V (Nat.le_of_ble_eq_true rfl) (Or.inl (by decide)) (Q_0 rk_340)) (fun g V ve9 vn10 hq => ?_)
    have hG := hq.trans hG
    have evz1 := (vn10 (2) 0 (Or.inl (by decide))).trans evz1
    have evz2 := (vn10 (3) ((y1 : Int).toNat) (Or.inl (by decide))).trans evz2
    have evz6 := (vn10 (10) 1 (Or.inl (by decide))).trans evz6
    rw [← vn10 (299 + 10 * u) (2 : Int).toNat (Or.inl (by omega))] at hl
    refine LW_return (st := []) rfl rfl ?_
    refine X_aload_n rfl rfl rfl rfl ?_
    refine X_getR (a := 340) rfl rfl rfl ((congrFun V.1 339).trans s_339) rfl ((congrFun (V.2.1 339 (by decide)) 2).trans r_339_2) ?_
    refine X_bipush (v := (8 : Int32)) rfl rfl rfl ?_
    refine X_aload_n rfl rfl rfl rfl ?_
    refine X_getR (a := 3) rfl rfl rfl ((congrFun V.1 2).trans s_2) rfl ((congrFun (V.2.1 2 (by decide)) 2).trans r_2_2) ?_
    refine X_iload_n rfl rfl rfl rfl ?_
    refine S_iald_v rfl rfl ((congrFun V.1 3).trans s_3) hx1 (by omega) evz2 ?_
    refine S_iast (I := Inv _) rfl rfl ((congrFun V.1 340).trans s_340) (show (8 : Int32).toInt = 8 from rfl) (by omega) (Inv_putI V (Nat.le_of_ble_eq_true rfl) (Or.inl (by decide)) (Q_0 rk_340)) (fun g V ve12 vn13 hq => ?_)
    have hG := hq.trans hG
    have evz1 := (vn13 (2) 0 (Or.inl (by decide))).trans evz1
    have evz2 := (vn13 (3) ((y1 : Int).toNat) (Or.inl (by decide))).trans evz2
    have evz6 := (vn13 (10) 1 (Or.inl (by decide))).trans evz6
    rw [← vn13 (299 + 10 * u) (2 : Int).toNat (Or.inl (by omega))] at hl
    refine X_aload_n rfl rfl rfl rfl ?_
    refine X_getR (a := 340) rfl rfl rfl ((congrFun V.1 339).trans s_339) rfl ((congrFun (V.2.1 339 (by decide)) 2).trans r_339_2) ?_
    refine X_bipush (v := (9 : Int32)) rfl rfl rfl ?_
    refine X_aload_n rfl rfl rfl rfl ?_
    refine X_getR (a := 4) rfl rfl rfl ((congrFun V.1 2).trans s_2) rfl ((congrFun (V.2.1 2 (by decide)) 3).trans r_2_3) ?_
    refine X_iload_n rfl rfl rfl rfl ?_
    refine S_iald rfl rfl ((congrFun V.1 4).trans s_4) hx1 (by omega) (fun vz14 evz14 => ?_)
    have vf15 := K_2 (V.2.2.2.2.1 (4) ((y1 : Int).toNat) (Nat.le_of_ble_eq_true rfl)) rk_4
    rw [evz14] at vf15
    refine S_iast (I := Inv _) rfl rfl ((congrFun V.1 340).trans s_340) (show (9 : Int32).toInt = 9 from rfl) (by omega) (Inv_putI V (Nat.le_of_ble_eq_true rfl) (Or.inl (by decide)) (Q_0 rk_340)) (fun g V ve16 vn17 hq => ?_)
    have hG := hq.trans hG
    have evz1 := (vn17 (2) 0 (Or.inl (by decide))).trans evz1
    have evz2 := (vn17 (3) ((y1 : Int).toNat) (Or.inl (by decide))).trans evz2
    have evz6 := (vn17 (10) 1 (Or.inl (by decide))).trans evz6
    have evz14 := (vn17 (4) ((y1 : Int).toNat) (Or.inl (by decide))).trans evz14
    rw [← vn17 (299 + 10 * u) (2 : Int).toNat (Or.inl (by omega))] at hl
    refine X_aload_n rfl rfl rfl rfl ?_
    refine X_getR (a := 340) rfl rfl rfl ((congrFun V.1 339).trans s_339) rfl ((congrFun (V.2.1 339 (by decide)) 2).trans r_339_2) ?_
    refine X_bipush (v := (10 : Int32)) rfl rfl rfl ?_
    refine X_iload rfl rfl rfl ?_
    refine S_iast (I := Inv _) rfl rfl ((congrFun V.1 340).trans s_340) (show (10 : Int32).toInt = 10 from rfl) (by omega) (Inv_putI V (Nat.le_of_ble_eq_true rfl) (Or.inl (by decide)) (Q_0 rk_340)) (fun g V ve18 vn19 hq => ?_)
    have hG := hq.trans hG
    have evz1 := (vn19 (2) 0 (Or.inl (by decide))).trans evz1
    have evz2 := (vn19 (3) ((y1 : Int).toNat) (Or.inl (by decide))).trans evz2
    have evz6 := (vn19 (10) 1 (Or.inl (by decide))).trans evz6
    have evz14 := (vn19 (4) ((y1 : Int).toNat) (Or.inl (by decide))).trans evz14
    rw [← vn19 (299 + 10 * u) (2 : Int).toNat (Or.inl (by omega))] at hl
    refine X_iconst (v := (0 : Int32)) rfl rfl rfl ?_
    refine X_sipush (v := (999 : Int32)) rfl rfl rfl ?_
    refine X_aload_n rfl rfl rfl rfl ?_
    refine X_aload_n rfl rfl rfl rfl ?_
    refine X_iconst (v := (2 : Int32)) rfl rfl rfl ?_
    refine Y_callV (as := [.ref (292 + 10 * u), .int (2 : Int32)]) (st := [.int (999 : Int32), .int (0 : Int32)]) rfl rfl rfl (by decide) rfl (Nat.le_of_ble_eq_true rfl) (by decide) (Nat.le_of_ble_eq_true rfl) rfl ((congrFun V.1 339).trans s_339) (by decide) (C_X4_run_339_T hu V (2 : Int32) 2 (show (2 : Int32).toInt = 2 from rfl) (by omega) hl) ?_
    rintro _ g ⟨vr20, rfl, V, hq⟩
    have hG := hq.trans hG
    refine S_min rfl rfl rfl (Nat.le_of_ble_eq_true rfl) (show (999 : Int32).toInt = 999 from rfl) rfl (fun vz21 hvz21 => ?_)
    refine S_max rfl rfl rfl (Nat.le_of_ble_eq_true rfl) (show (0 : Int32).toInt = 0 from rfl) rfl (fun vz22 hvz22 => ?_)
    have hr := (rfl : vz22.toInt = vz22.toInt)
    exact LW_ireturn (st := []) rfl rfl rfl ⟨_, rfl, by omega, by omega, V, hG⟩
  · refine X_iload rfl rfl rfl ?_
    refine X_aload_n rfl rfl rfl rfl ?_
    refine X_getR (a := 1) rfl rfl rfl ((congrFun V.1 339).trans s_339) rfl ((congrFun (V.2.1 339 (by decide)) 0).trans r_339_0) ?_
    refine X_getR (a := 10) rfl rfl rfl ((congrFun V.1 1).trans s_1) rfl ((congrFun (V.2.1 1 (by decide)) 1).trans r_1_1) ?_
    refine X_aload_n rfl rfl rfl rfl ?_
    refine X_iload_n rfl rfl rfl rfl ?_
    refine X_iload rfl rfl rfl ?_
    refine X_callV (as := [.int x1, .int x5]) (st := [.ref 10, .int x4]) rfl rfl rfl (by decide) rfl (Nat.le_of_ble_eq_true rfl) (by decide) (Nat.le_of_ble_eq_true rfl) rfl ((congrFun V.1 2).trans s_2) (by decide) ?_
    refine LW_ls (ls' := [some (.ref 2), some (.int x1), some (.int x5)]) rfl ?_
    refine X_aload_n rfl rfl rfl rfl ?_
    refine X_iload_n rfl rfl rfl rfl ?_
    refine X_callV (as := [.int x1]) (st := []) rfl rfl rfl (by decide) rfl (Nat.le_of_ble_eq_true rfl) (by decide) (Nat.le_of_ble_eq_true rfl) rfl ((congrFun V.1 2).trans s_2) (by decide) ?_
    refine LW_ls (ls' := [some (.ref 2), some (.int x1)]) rfl ?_
    refine X_iload_n rfl rfl rfl rfl ?_
    refine S_if_lt (tgt := 22) rfl rfl rfl hx1 (fun q => absurd q (by omega)) (fun vh23 => ?_)
    refine X_iload_n rfl rfl rfl rfl ?_
    refine X_aload_n rfl rfl rfl rfl ?_
    refine X_getI (v := vz1) rfl rfl rfl ((congrFun V.1 2).trans s_2) rfl evz1 ?_
    refine S_icmp_ge (tgt := 22) rfl rfl rfl hx1 rfl (fun vh24 => ?_) (fun vh24 => ?_)
    · refine X_iconst (v := (0 : Int32)) rfl rfl rfl ?_
      refine LW_ireturn (st := []) rfl rfl rfl ?_
      refine S_if_eq (tgt := 36) rfl rfl rfl (show (0 : Int32).toInt = 0 from rfl) (fun vh25 => ?_) (fun q => absurd q (by omega))
      refine X_iconst (v := (-1 : Int32)) rfl rfl rfl ?_
      refine LW_ireturn (st := []) rfl rfl rfl ?_
      refine X_callV (as := [.int (-1 : Int32)]) (st := [.int x4]) rfl rfl rfl (by decide) rfl (Nat.le_of_ble_eq_true rfl) (by decide) (Nat.le_of_ble_eq_true rfl) rfl ((congrFun V.1 10).trans s_10) (by decide) ?_
      refine LW_ls (ls' := [some (.ref 10), some (.int (-1 : Int32))]) rfl ?_
      refine X_aload_n rfl rfl rfl rfl ?_
      refine S_getI rfl rfl rfl ((congrFun V.1 10).trans s_10) rfl (fun vz26 evz26 => ?_)
      refine X_iload_n rfl rfl rfl rfl ?_
      refine S_ishrT rfl rfl (fun vz27 => ?_)
      refine X_iconst (v := (1 : Int32)) rfl rfl rfl ?_
      refine S_iandR (k := 1) rfl rfl rfl (fun vz28 hvz28 => ?_)
      refine S_if_eq (tgt := 15) rfl rfl rfl rfl (fun vh29 => ?_) (fun vh29 => ?_)
      · refine X_iconst (v := (0 : Int32)) rfl rfl rfl ?_
        refine LW_ireturn (st := []) rfl rfl rfl ?_
        refine S_if_eq (tgt := 80) rfl rfl rfl (show (0 : Int32).toInt = 0 from rfl) (fun vh30 => ?_) (fun q => absurd q (by omega))
        refine X_iconst (v := (0 : Int32)) rfl rfl rfl ?_
        refine S_iaddT rfl rfl (fun vz31 => ?_)
        refine X_istore (i := 4) (ls' := [some (.ref 339), some (.int x1), some (.ref 2), some (.ref (292 + 10 * u)), some (.int vz31), some (.int x5)]) rfl rfl (Nat.le_of_ble_eq_true rfl) rfl ?_
        refine S_iinc (c := 1) rfl rfl rfl hx5 rfl (by omega) (fun vz32 hvz32 => ?_)
        refine LW_ls (ls' := [some (.ref 339), some (.int x1), some (.ref 2), some (.ref (292 + 10 * u)), some (.int vz31), some (.int vz32)]) rfl ?_
        refine LW_goto (tgt := 43) rfl rfl ?_
        exact ih43 _ V hG u hu x1 y1 hx1 (by omega) vz31 vz31.toInt rfl vz32 vz32.toInt rfl (by omega) (by rw [evz1]; omega) (hl)  (by omega)
      · refine X_iconst (v := (1 : Int32)) rfl rfl rfl ?_
        refine LW_goto (tgt := 16) rfl rfl ?_
        refine LW_ireturn (st := []) rfl rfl rfl ?_
        refine S_if_eq (tgt := 80) rfl rfl rfl (show (1 : Int32).toInt = 1 from rfl) (fun q => absurd q (by omega)) (fun vh33 => ?_)
        refine X_iconst (v := (1 : Int32)) rfl rfl rfl ?_
        refine LW_goto (tgt := 81) rfl rfl ?_
        refine S_iaddT rfl rfl (fun vz34 => ?_)
        refine X_istore (i := 4) (ls' := [some (.ref 339), some (.int x1), some (.ref 2), some (.ref (292 + 10 * u)), some (.int vz34), some (.int x5)]) rfl rfl (Nat.le_of_ble_eq_true rfl) rfl ?_
        refine S_iinc (c := 1) rfl rfl rfl hx5 rfl (by omega) (fun vz35 hvz35 => ?_)
        refine LW_ls (ls' := [some (.ref 339), some (.int x1), some (.ref 2), some (.ref (292 + 10 * u)), some (.int vz34), some (.int vz35)]) rfl ?_
        refine LW_goto (tgt := 43) rfl rfl ?_
        exact ih43 _ V hG u hu x1 y1 hx1 (by omega) vz34 vz34.toInt rfl vz35 vz35.toInt rfl (by omega) (by rw [evz1]; omega) (hl)  (by omega)
    · refine X_iload_n rfl rfl rfl rfl ?_
      refine X_bipush (v := (24 : Int32)) rfl rfl rfl ?_
      refine S_icmp_ge (tgt := 22) rfl rfl rfl hx1 (show (24 : Int32).toInt = 24 from rfl) (fun q => absurd q (by omega)) (fun vh36 => ?_)
      refine X_iconst (v := (1 : Int32)) rfl rfl rfl ?_
      refine LW_goto (tgt := 23) rfl rfl ?_
      refine LW_ireturn (st := []) rfl rfl rfl ?_
      refine S_if_eq (tgt := 36) rfl rfl rfl (show (1 : Int32).toInt = 1 from rfl) (fun q => absurd q (by omega)) (fun vh37 => ?_)
      refine X_iload_n rfl rfl rfl rfl ?_
      refine S_if_lt (tgt := 36) rfl rfl rfl hx5 (fun q => absurd q (by omega)) (fun vh38 => ?_)
      refine X_iload_n rfl rfl rfl rfl ?_
      refine X_aload_n rfl rfl rfl rfl ?_
      refine X_getR (a := 3) rfl rfl rfl ((congrFun V.1 2).trans s_2) rfl ((congrFun (V.2.1 2 (by decide)) 2).trans r_2_2) ?_
      refine X_iload_n rfl rfl rfl rfl ?_
      refine S_iald_v rfl rfl ((congrFun V.1 3).trans s_3) hx1 (by omega) evz2 ?_
      refine S_icmp_ge (tgt := 36) rfl rfl rfl hx5 rfl (fun vh40 => ?_) (fun vh40 => ?_)
      · refine X_iconst (v := (-1 : Int32)) rfl rfl rfl ?_
        refine LW_ireturn (st := []) rfl rfl rfl ?_
        refine X_callV (as := [.int (-1 : Int32)]) (st := [.int x4]) rfl rfl rfl (by decide) rfl (Nat.le_of_ble_eq_true rfl) (by decide) (Nat.le_of_ble_eq_true rfl) rfl ((congrFun V.1 10).trans s_10) (by decide) ?_
        refine LW_ls (ls' := [some (.ref 10), some (.int (-1 : Int32))]) rfl ?_
        refine X_aload_n rfl rfl rfl rfl ?_
        refine S_getI rfl rfl rfl ((congrFun V.1 10).trans s_10) rfl (fun vz41 evz41 => ?_)
        refine X_iload_n rfl rfl rfl rfl ?_
        refine S_ishrT rfl rfl (fun vz42 => ?_)
        refine X_iconst (v := (1 : Int32)) rfl rfl rfl ?_
        refine S_iandR (k := 1) rfl rfl rfl (fun vz43 hvz43 => ?_)
        refine S_if_eq (tgt := 15) rfl rfl rfl rfl (fun vh44 => ?_) (fun vh44 => ?_)
        · refine X_iconst (v := (0 : Int32)) rfl rfl rfl ?_
          refine LW_ireturn (st := []) rfl rfl rfl ?_
          refine S_if_eq (tgt := 80) rfl rfl rfl (show (0 : Int32).toInt = 0 from rfl) (fun vh45 => ?_) (fun q => absurd q (by omega))
          refine X_iconst (v := (0 : Int32)) rfl rfl rfl ?_
          refine S_iaddT rfl rfl (fun vz46 => ?_)
          refine X_istore (i := 4) (ls' := [some (.ref 339), some (.int x1), some (.ref 2), some (.ref (292 + 10 * u)), some (.int vz46), some (.int x5)]) rfl rfl (Nat.le_of_ble_eq_true rfl) rfl ?_
          refine S_iinc (c := 1) rfl rfl rfl hx5 rfl (by omega) (fun vz47 hvz47 => ?_)
          refine LW_ls (ls' := [some (.ref 339), some (.int x1), some (.ref 2), some (.ref (292 + 10 * u)), some (.int vz46), some (.int vz47)]) rfl ?_
          refine LW_goto (tgt := 43) rfl rfl ?_
          exact ih43 _ V hG u hu x1 y1 hx1 (by omega) vz46 vz46.toInt rfl vz47 vz47.toInt rfl (by omega) (by rw [evz1]; omega) (hl)  (by omega)
        · refine X_iconst (v := (1 : Int32)) rfl rfl rfl ?_
          refine LW_goto (tgt := 16) rfl rfl ?_
          refine LW_ireturn (st := []) rfl rfl rfl ?_
          refine S_if_eq (tgt := 80) rfl rfl rfl (show (1 : Int32).toInt = 1 from rfl) (fun q => absurd q (by omega)) (fun vh48 => ?_)
          refine X_iconst (v := (1 : Int32)) rfl rfl rfl ?_
          refine LW_goto (tgt := 81) rfl rfl ?_
          refine S_iaddT rfl rfl (fun vz49 => ?_)
          refine X_istore (i := 4) (ls' := [some (.ref 339), some (.int x1), some (.ref 2), some (.ref (292 + 10 * u)), some (.int vz49), some (.int x5)]) rfl rfl (Nat.le_of_ble_eq_true rfl) rfl ?_
          refine S_iinc (c := 1) rfl rfl rfl hx5 rfl (by omega) (fun vz50 hvz50 => ?_)
          refine LW_ls (ls' := [some (.ref 339), some (.int x1), some (.ref 2), some (.ref (292 + 10 * u)), some (.int vz49), some (.int vz50)]) rfl ?_
          refine LW_goto (tgt := 43) rfl rfl ?_
          exact ih43 _ V hG u hu x1 y1 hx1 (by omega) vz49 vz49.toInt rfl vz50 vz50.toInt rfl (by omega) (by rw [evz1]; omega) (hl)  (by omega)
      · refine X_aload_n rfl rfl rfl rfl ?_
        refine X_getR (a := 6) rfl rfl rfl ((congrFun V.1 2).trans s_2) rfl ((congrFun (V.2.1 2 (by decide)) 5).trans r_2_5) ?_
        refine X_iload_n rfl rfl rfl rfl ?_
        refine X_bipush (v := (8 : Int32)) rfl rfl rfl ?_
        refine S_imul rfl rfl hx1 (show (8 : Int32).toInt = 8 from rfl) (by omega) (fun vz51 hvz51 => ?_)
        refine X_iload_n rfl rfl rfl rfl ?_
        refine S_iadd rfl rfl rfl hx5 (by omega) (fun vz52 hvz52 => ?_)
        refine S_iald rfl rfl ((congrFun V.1 6).trans s_6) rfl (by omega) (fun vz53 evz53 => ?_)
        have vf54 := K_3 (V.2.2.2.2.1 (6) ((vz52.toInt : Int).toNat) (Nat.le_of_ble_eq_true rfl)) rk_6
        rw [evz53] at vf54
        refine LW_goto (tgt := 37) rfl rfl ?_
        refine LW_ireturn (st := []) rfl rfl rfl ?_
        refine X_callV (as := [.int vz53]) (st := [.int x4]) rfl rfl rfl (by decide) rfl (Nat.le_of_ble_eq_true rfl) (by decide) (Nat.le_of_ble_eq_true rfl) rfl ((congrFun V.1 10).trans s_10) (by decide) ?_
        refine LW_ls (ls' := [some (.ref 10), some (.int vz53)]) rfl ?_
        refine X_aload_n rfl rfl rfl rfl ?_
        refine S_getI rfl rfl rfl ((congrFun V.1 10).trans s_10) rfl (fun vz55 evz55 => ?_)
        refine X_iload_n rfl rfl rfl rfl ?_
        refine S_ishrT rfl rfl (fun vz56 => ?_)
        refine X_iconst (v := (1 : Int32)) rfl rfl rfl ?_
        refine S_iandR (k := 1) rfl rfl rfl (fun vz57 hvz57 => ?_)
        refine S_if_eq (tgt := 15) rfl rfl rfl rfl (fun vh58 => ?_) (fun vh58 => ?_)
        · refine X_iconst (v := (0 : Int32)) rfl rfl rfl ?_
          refine LW_ireturn (st := []) rfl rfl rfl ?_
          refine S_if_eq (tgt := 80) rfl rfl rfl (show (0 : Int32).toInt = 0 from rfl) (fun vh59 => ?_) (fun q => absurd q (by omega))
          refine X_iconst (v := (0 : Int32)) rfl rfl rfl ?_
          refine S_iaddT rfl rfl (fun vz60 => ?_)
          refine X_istore (i := 4) (ls' := [some (.ref 339), some (.int x1), some (.ref 2), some (.ref (292 + 10 * u)), some (.int vz60), some (.int x5)]) rfl rfl (Nat.le_of_ble_eq_true rfl) rfl ?_
          refine S_iinc (c := 1) rfl rfl rfl hx5 rfl (by omega) (fun vz61 hvz61 => ?_)
          refine LW_ls (ls' := [some (.ref 339), some (.int x1), some (.ref 2), some (.ref (292 + 10 * u)), some (.int vz60), some (.int vz61)]) rfl ?_
          refine LW_goto (tgt := 43) rfl rfl ?_
          exact ih43 _ V hG u hu x1 y1 hx1 (by omega) vz60 vz60.toInt rfl vz61 vz61.toInt rfl (by omega) (by rw [evz1]; omega) (hl)  (by omega)
        · refine X_iconst (v := (1 : Int32)) rfl rfl rfl ?_
          refine LW_goto (tgt := 16) rfl rfl ?_
          refine LW_ireturn (st := []) rfl rfl rfl ?_
          refine S_if_eq (tgt := 80) rfl rfl rfl (show (1 : Int32).toInt = 1 from rfl) (fun q => absurd q (by omega)) (fun vh62 => ?_)
          refine X_iconst (v := (1 : Int32)) rfl rfl rfl ?_
          refine LW_goto (tgt := 81) rfl rfl ?_
          refine S_iaddT rfl rfl (fun vz63 => ?_)
          refine X_istore (i := 4) (ls' := [some (.ref 339), some (.int x1), some (.ref 2), some (.ref (292 + 10 * u)), some (.int vz63), some (.int x5)]) rfl rfl (Nat.le_of_ble_eq_true rfl) rfl ?_
          refine S_iinc (c := 1) rfl rfl rfl hx5 rfl (by omega) (fun vz64 hvz64 => ?_)
          refine LW_ls (ls' := [some (.ref 339), some (.int x1), some (.ref 2), some (.ref (292 + 10 * u)), some (.int vz63), some (.int vz64)]) rfl ?_
          refine LW_goto (tgt := 43) rfl rfl ?_
          exact ih43 _ V hG u hu x1 y1 hx1 (by omega) vz63 vz63.toInt rfl vz64 vz64.toInt rfl (by omega) (by rw [evz1]; omega) (hl)  (by omega)
theorem C_X4_price_all {P : Par} {g0 : LH} {d : Nat}  : ∀ n : Nat, (∀ (g : LH) (V : Inv P g) (hG : Gr g = Gr g0) (u : Nat) (hu : u < 4) (x1 : Int32) (y1 : Int) (hx1 : x1.toInt = y1) (hf1 : 0 ≤ y1 ∧ y1 ≤ 23) (x4 : Int32) (y4 : Int) (hx4 : x4.toInt = y4) (x5 : Int32) (y5 : Int) (hx5 : x5.toInt = y5) (hf5 : 0 ≤ y5 ∧ y5 ≤ 8) (hc2_0 : 1 ≤ (Gi g 2 0).toInt ∧ (Gi g 2 0).toInt ≤ 24) (hq0 : ¬ (Gi g (299 + 10 * u) (Int.toNat 2)).toInt = -1), (8 - y5) * 1 + 0 < (n : Int) → LW 29 (d + 13) 0 0 43 [some (.ref 339), some (.int x1), some (.ref 2), some (.ref (292 + 10 * u)), some (.int x4), some (.int x5)] [] g (fun v g' => ∃ r : Int32, v = some (.int r) ∧ 0 ≤ r.toInt ∧ r.toInt ≤ 999 ∧ Inv P g' ∧ Gr g' = Gr g0)) := by
  intro n
  induction n with
  | zero => exact fun g V hG u hu x1 y1 hx1 hf1 x4 y4 hx4 x5 y5 hx5 hf5 hc2_0 hq0 hmu => absurd hmu (by omega)
  | succ n ih => exact fun g V hG u hu x1 y1 hx1 hf1 x4 y4 hx4 x5 y5 hx5 hf5 hc2_0 hq0 hmu => C_X4_price_43  V hG u hu x1 y1 hx1 hf1 x4 y4 hx4 x5 y5 hx5 hf5 hc2_0 hq0 (by omega) ih
set_option maxRecDepth 10000 in
set_option maxHeartbeats 40000000 in
theorem C_X4_price {P : Par} {g : LH} {d : Nat}  (V : Inv P g) (x1 : Int32) (y1 : Int) (hx1 : x1.toInt = y1) (hf1 : (-1) ≤ y1 ∧ y1 ≤ 23)   : LW 29 (d + 13) 0 0 0 (lEnt (mL 29) [.ref 339, .int x1]) [] g (fun v g' => ∃ r : Int32, v = some (.int r) ∧ 0 ≤ r.toInt ∧ r.toInt ≤ 999 ∧ Inv P g' ∧ Gr g' = Gr g) := by
  refine LW_ls (ls' := [some (.ref 339), some (.int x1), none, none, none, none]) rfl ?_
  have hG : Gr g = Gr g := rfl
  refine X_aload_n rfl rfl rfl rfl ?_
  refine X_getR (a := 1) rfl rfl rfl ((congrFun V.1 339).trans s_339) rfl ((congrFun (V.2.1 339 (by decide)) 0).trans r_339_0) ?_
  refine X_getR (a := 2) rfl rfl rfl ((congrFun V.1 1).trans s_1) rfl ((congrFun (V.2.1 1 (by decide)) 0).trans r_1_0) ?_
  refine X_astore_n (i := 2) (ls' := [some (.ref 339), some (.int x1), some (.ref 2), none, none, none]) rfl rfl rfl (Nat.le_of_ble_eq_true rfl) rfl ?_
  refine X_aload_n rfl rfl rfl rfl ?_
  refine X_iload_n rfl rfl rfl rfl ?_
  refine X_callV (as := [.int x1]) (st := []) rfl rfl rfl (by decide) rfl (Nat.le_of_ble_eq_true rfl) (by decide) (Nat.le_of_ble_eq_true rfl) rfl ((congrFun V.1 2).trans s_2) (by decide) ?_
  refine LW_ls (ls' := [some (.ref 2), some (.int x1)]) rfl ?_
  refine X_iload_n rfl rfl rfl rfl ?_
  refine S_if_lt (tgt := 22) rfl rfl rfl hx1 (fun vh1 => ?_) (fun vh1 => ?_)
  · refine X_iconst (v := (0 : Int32)) rfl rfl rfl ?_
    refine LW_ireturn (st := []) rfl rfl rfl ?_
    refine S_if_ne (tgt := 18) rfl rfl rfl (show (0 : Int32).toInt = 0 from rfl) (fun q => absurd q (by omega)) (fun vh2 => ?_)
    refine X_iconst (v := (0 : Int32)) rfl rfl rfl ?_
    exact LW_ireturn (st := []) rfl rfl rfl ⟨_, rfl, by decide, by decide, V, hG⟩
  · refine X_iload_n rfl rfl rfl rfl ?_
    refine X_aload_n rfl rfl rfl rfl ?_
    refine S_getI rfl rfl rfl ((congrFun V.1 2).trans s_2) rfl (fun vz3 evz3 => ?_)
    have vf4 := K_10_0 (V.2.2.2.2.1 (2) (0) (Nat.le_of_ble_eq_true rfl)) rk_2
    rw [evz3] at vf4
    refine S_icmp_ge (tgt := 22) rfl rfl rfl hx1 rfl (fun vh5 => ?_) (fun vh5 => ?_)
    · refine X_iconst (v := (0 : Int32)) rfl rfl rfl ?_
      refine LW_ireturn (st := []) rfl rfl rfl ?_
      refine S_if_ne (tgt := 18) rfl rfl rfl (show (0 : Int32).toInt = 0 from rfl) (fun q => absurd q (by omega)) (fun vh6 => ?_)
      refine X_iconst (v := (0 : Int32)) rfl rfl rfl ?_
      exact LW_ireturn (st := []) rfl rfl rfl ⟨_, rfl, by decide, by decide, V, hG⟩
    · refine X_iload_n rfl rfl rfl rfl ?_
      refine X_bipush (v := (24 : Int32)) rfl rfl rfl ?_
      refine S_icmp_ge (tgt := 22) rfl rfl rfl hx1 (show (24 : Int32).toInt = 24 from rfl) (fun q => absurd q (by omega)) (fun vh7 => ?_)
      refine X_iconst (v := (1 : Int32)) rfl rfl rfl ?_
      refine LW_goto (tgt := 23) rfl rfl ?_
      refine LW_ireturn (st := []) rfl rfl rfl ?_
      refine S_if_ne (tgt := 18) rfl rfl rfl (show (1 : Int32).toInt = 1 from rfl) (fun vh8 => ?_) (fun q => absurd q (by omega))
      refine X_aload_n rfl rfl rfl rfl ?_
      refine X_iconst (v := (2 : Int32)) rfl rfl rfl ?_
      refine Y_callV (as := [.int (2 : Int32)]) (st := []) rfl rfl rfl (by decide) rfl (Nat.le_of_ble_eq_true rfl) (by decide) (Nat.le_of_ble_eq_true rfl) rfl ((congrFun V.1 339).trans s_339) (by decide) (C_X4_ruling V (2 : Int32) 2 (show (2 : Int32).toInt = 2 from rfl) (by omega) ) ?_
      rintro _ g' ⟨rfl | ⟨u, hu, rfl, hl⟩, hgg⟩
      · subst hgg
        refine X_astore_nN (i := 3) (ls' := [some (.ref 339), some (.int x1), some (.ref 2), some (.null), none, none]) rfl rfl rfl (Nat.le_of_ble_eq_true rfl) rfl ?_
        refine X_aload_nN rfl rfl rfl rfl ?_
        refine X_ifnonnullN (tgt := 37) rfl rfl rfl ?_
        refine X_aload_n rfl rfl rfl rfl ?_
        refine X_getR (a := 3) rfl rfl rfl ((congrFun V.1 2).trans s_2) rfl ((congrFun (V.2.1 2 (by decide)) 2).trans r_2_2) ?_
        refine X_iload_n rfl rfl rfl rfl ?_
        refine S_iald rfl rfl ((congrFun V.1 3).trans s_3) hx1 (by omega) (fun vz9 evz9 => ?_)
        have vf10 := K_1 (V.2.2.2.2.1 (3) ((y1 : Int).toNat) (Nat.le_of_ble_eq_true rfl)) rk_3
        rw [evz9] at vf10
        refine X_iconst (v := (1 : Int32)) rfl rfl rfl ?_
        refine S_iadd rfl rfl rfl (show (1 : Int32).toInt = 1 from rfl) (by omega) (fun vz11 hvz11 => ?_)
        have hr := (rfl : vz11.toInt = vz11.toInt)
        exact LW_ireturn (st := []) rfl rfl rfl ⟨_, rfl, by omega, by omega, V, hG⟩
      · subst hgg
        refine X_astore_n (i := 3) (ls' := [some (.ref 339), some (.int x1), some (.ref 2), some (.ref (292 + 10 * u)), none, none]) rfl rfl rfl (Nat.le_of_ble_eq_true rfl) rfl ?_
        refine X_aload_n rfl rfl rfl rfl ?_
        refine LW_ifnonnull (tgt := 37) rfl rfl ?_
        refine X_iconst (v := (0 : Int32)) rfl rfl rfl ?_
        refine X_istore (i := 4) (ls' := [some (.ref 339), some (.int x1), some (.ref 2), some (.ref (292 + 10 * u)), some (.int (0 : Int32)), none]) rfl rfl (Nat.le_of_ble_eq_true rfl) rfl ?_
        refine X_iconst (v := (0 : Int32)) rfl rfl rfl ?_
        refine X_istore (i := 5) (ls' := [some (.ref 339), some (.int x1), some (.ref 2), some (.ref (292 + 10 * u)), some (.int (0 : Int32)), some (.int (0 : Int32))]) rfl rfl (Nat.le_of_ble_eq_true rfl) rfl ?_
        exact (C_X4_price_all (((8 - 0) * 1 + 0) + 1 : Int).toNat) _ V hG u hu x1 y1 hx1 (by omega) (0 : Int32) 0 (show (0 : Int32).toInt = 0 from rfl) (0 : Int32) 0 (show (0 : Int32).toInt = 0 from rfl) (by omega) (by rw [evz3]; omega) (hl)  (by omega)
set_option maxRecDepth 10000 in
set_option maxHeartbeats 40000000 in
theorem C_X12_dear_33 {P : Par} {g g0 : LH} {d n : Nat}  (V : Inv P g) (hG : Gr g = Gr g0) (x1 : Int32) (y1 : Int) (hx1 : x1.toInt = y1) (hf1 : 0 ≤ y1 ∧ y1 ≤ 7) (x2 : Int32) (y2 : Int) (hx2 : x2.toInt = y2) (x3 : Int32) (y3 : Int) (hx3 : x3.toInt = y3) (x4 : Int32) (y4 : Int) (hx4 : x4.toInt = y4) (hf4 : 0 ≤ y4 ∧ y4 ≤ 8)  (hmu : (8 - y4) * 1 + 0 < (n : Int) + 1) (ih33 : ∀ (g : LH) (V : Inv P g) (hG : Gr g = Gr g0) (x1 : Int32) (y1 : Int) (hx1 : x1.toInt = y1) (hf1 : 0 ≤ y1 ∧ y1 ≤ 7) (x2 : Int32) (y2 : Int) (hx2 : x2.toInt = y2) (x3 : Int32) (y3 : Int) (hx3 : x3.toInt = y3) (x4 : Int32) (y4 : Int) (hx4 : x4.toInt = y4) (hf4 : 0 ≤ y4 ∧ y4 ≤ 8) , (8 - y4) * 1 + 0 < (n : Int) → LW 148 (d + 19) 0 0 33 [some (.ref 0), some (.int x1), some (.int x2), some (.int x3), some (.int x4)] [] g (fun v g' => ∃ r : Int32, v = some (.int r) ∧ Inv P g' ∧ Gr g' = Gr g0)) : LW 148 (d + 19) 0 0 33 [some (.ref 0), some (.int x1), some (.int x2), some (.int x3), some (.int x4)] [] g (fun v g' => ∃ r : Int32, v = some (.int r) ∧ Inv P g' ∧ Gr g' = Gr g0) := by
  refine X_iload rfl rfl rfl ?_
  refine X_aload_n rfl rfl rfl rfl ?_
  refine X_getR (a := 1) rfl rfl rfl ((congrFun V.1 0).trans s_0) rfl ((congrFun (V.2.1 0 (by decide)) 0).trans r_0_0) ?_
  refine X_getR (a := 2) rfl rfl rfl ((congrFun V.1 1).trans s_1) rfl ((congrFun (V.2.1 1 (by decide)) 0).trans r_1_0) ?_
  refine X_getR (a := 7) rfl rfl rfl ((congrFun V.1 2).trans s_2) rfl ((congrFun (V.2.1 2 (by decide)) 6).trans r_2_6) ?_
  refine X_iload_n rfl rfl rfl rfl ?_
  refine S_iald rfl rfl ((congrFun V.1 7).trans s_7) hx1 (by omega) (fun vz1 evz1 => ?_)
  have vf2 := K_1 (V.2.2.2.2.1 (7) ((y1 : Int).toNat) (Nat.le_of_ble_eq_true rfl)) rk_7
  rw [evz1] at vf2
  refine S_icmp_ge (tgt := 80) rfl rfl rfl hx4 rfl (fun vh3 => ?_) (fun vh3 => ?_)
  · refine X_iload_n rfl rfl rfl rfl ?_
    exact LW_ireturn (st := []) rfl rfl rfl ⟨_, rfl, V, hG⟩
  · refine X_iload_n rfl rfl rfl rfl ?_
    refine X_aload_n rfl rfl rfl rfl ?_
    refine X_getR (a := 339) rfl rfl rfl ((congrFun V.1 0).trans s_0) rfl ((congrFun (V.2.1 0 (by decide)) 5).trans r_0_5) ?_
    refine X_aload_n rfl rfl rfl rfl ?_
    refine X_getR (a := 1) rfl rfl rfl ((congrFun V.1 0).trans s_0) rfl ((congrFun (V.2.1 0 (by decide)) 0).trans r_0_0) ?_
    refine X_getR (a := 2) rfl rfl rfl ((congrFun V.1 1).trans s_1) rfl ((congrFun (V.2.1 1 (by decide)) 0).trans r_1_0) ?_
    refine X_iload_n rfl rfl rfl rfl ?_
    refine X_iload rfl rfl rfl ?_
    refine X_iload_n rfl rfl rfl rfl ?_
    refine Y_callV (as := [.int x1, .int x4, .int x2]) (st := [.ref 339, .int x3]) rfl rfl rfl (by decide) rfl (Nat.le_of_ble_eq_true rfl) (by decide) (Nat.le_of_ble_eq_true rfl) rfl ((congrFun V.1 2).trans s_2) (by decide) (C_X5_wordSaid V x1 y1 hx1 (by omega) x4 y4 hx4 (by omega) x2 y2 hx2 ) ?_
    rintro _ g' ⟨vr4, rfl, hrvr40, hrvr41, hgg⟩
    subst hgg
    refine Y_callV (as := [.int vr4]) (st := [.int x3]) rfl rfl rfl (by decide) rfl (Nat.le_of_ble_eq_true rfl) (by decide) (Nat.le_of_ble_eq_true rfl) rfl ((congrFun V.1 339).trans s_339) (by decide) (C_X4_price V vr4 vr4.toInt rfl (by omega) ) ?_
    rintro _ g ⟨vr5, rfl, hrvr50, hrvr51, V, hq⟩
    have hG := hq.trans hG
    refine S_iaddT rfl rfl (fun vz6 => ?_)
    refine X_istore_n (i := 3) (ls' := [some (.ref 0), some (.int x1), some (.int x2), some (.int vz6), some (.int x4)]) rfl rfl rfl (Nat.le_of_ble_eq_true rfl) rfl ?_
    refine S_iinc (c := 1) rfl rfl rfl hx4 rfl (by omega) (fun vz7 hvz7 => ?_)
    refine LW_ls (ls' := [some (.ref 0), some (.int x1), some (.int x2), some (.int vz6), some (.int vz7)]) rfl ?_
    refine LW_goto (tgt := 33) rfl rfl ?_
    exact ih33 _ V hG x1 y1 hx1 (by omega) x2 y2 hx2 vz6 vz6.toInt rfl vz7 vz7.toInt rfl (by omega)    (by omega)
theorem C_X12_dear_all {P : Par} {g0 : LH} {d : Nat}  : ∀ n : Nat, (∀ (g : LH) (V : Inv P g) (hG : Gr g = Gr g0) (x1 : Int32) (y1 : Int) (hx1 : x1.toInt = y1) (hf1 : 0 ≤ y1 ∧ y1 ≤ 7) (x2 : Int32) (y2 : Int) (hx2 : x2.toInt = y2) (x3 : Int32) (y3 : Int) (hx3 : x3.toInt = y3) (x4 : Int32) (y4 : Int) (hx4 : x4.toInt = y4) (hf4 : 0 ≤ y4 ∧ y4 ≤ 8) , (8 - y4) * 1 + 0 < (n : Int) → LW 148 (d + 19) 0 0 33 [some (.ref 0), some (.int x1), some (.int x2), some (.int x3), some (.int x4)] [] g (fun v g' => ∃ r : Int32, v = some (.int r) ∧ Inv P g' ∧ Gr g' = Gr g0)) := by
  intro n
  induction n with
  | zero => exact fun g V hG x1 y1 hx1 hf1 x2 y2 hx2 x3 y3 hx3 x4 y4 hx4 hf4 hmu => absurd hmu (by omega)
  | succ n ih => exact fun g V hG x1 y1 hx1 hf1 x2 y2 hx2 x3 y3 hx3 x4 y4 hx4 hf4 hmu => C_X12_dear_33  V hG x1 y1 hx1 hf1 x2 y2 hx2 x3 y3 hx3 x4 y4 hx4 hf4 (by omega) ih
set_option maxRecDepth 10000 in
set_option maxHeartbeats 40000000 in
theorem C_X12_dear {P : Par} {g : LH} {d : Nat}  (V : Inv P g) (x1 : Int32) (y1 : Int) (hx1 : x1.toInt = y1)   : LW 148 (d + 19) 0 0 0 (lEnt (mL 148) [.ref 0, .int x1]) [] g (fun v g' => ∃ r : Int32, v = some (.int r) ∧ Inv P g' ∧ Gr g' = Gr g) := by
  refine LW_ls (ls' := [some (.ref 0), some (.int x1), none, none, none]) rfl ?_
  have hG : Gr g = Gr g := rfl
  refine X_aload_n rfl rfl rfl rfl ?_
  refine X_getR (a := 1) rfl rfl rfl ((congrFun V.1 0).trans s_0) rfl ((congrFun (V.2.1 0 (by decide)) 0).trans r_0_0) ?_
  refine X_getR (a := 10) rfl rfl rfl ((congrFun V.1 1).trans s_1) rfl ((congrFun (V.2.1 1 (by decide)) 1).trans r_1_1) ?_
  refine Y_callV (as := []) (st := []) rfl rfl rfl (by decide) rfl (Nat.le_of_ble_eq_true rfl) (by decide) (Nat.le_of_ble_eq_true rfl) rfl ((congrFun V.1 10).trans s_10) (by decide) (C_X9_missing V  ) ?_
  rintro _ g' ⟨vr1, rfl, hgg⟩
  subst hgg
  refine X_istore_n (i := 2) (ls' := [some (.ref 0), some (.int x1), some (.int vr1), none, none]) rfl rfl rfl (Nat.le_of_ble_eq_true rfl) rfl ?_
  refine X_aload_n rfl rfl rfl rfl ?_
  refine X_getR (a := 1) rfl rfl rfl ((congrFun V.1 0).trans s_0) rfl ((congrFun (V.2.1 0 (by decide)) 0).trans r_0_0) ?_
  refine X_getR (a := 2) rfl rfl rfl ((congrFun V.1 1).trans s_1) rfl ((congrFun (V.2.1 1 (by decide)) 0).trans r_1_0) ?_
  refine X_iload_n rfl rfl rfl rfl ?_
  refine X_iload_n rfl rfl rfl rfl ?_
  refine X_callV (as := [.int x1, .int vr1]) (st := []) rfl rfl rfl (by decide) rfl (Nat.le_of_ble_eq_true rfl) (by decide) (Nat.le_of_ble_eq_true rfl) rfl ((congrFun V.1 2).trans s_2) (by decide) ?_
  refine LW_ls (ls' := [some (.ref 2), some (.int x1), some (.int vr1)]) rfl ?_
  refine X_aload_n rfl rfl rfl rfl ?_
  refine X_iload_n rfl rfl rfl rfl ?_
  refine X_callV (as := [.int x1]) (st := []) rfl rfl rfl (by decide) rfl (Nat.le_of_ble_eq_true rfl) (by decide) (Nat.le_of_ble_eq_true rfl) rfl ((congrFun V.1 2).trans s_2) (by decide) ?_
  refine LW_ls (ls' := [some (.ref 2), some (.int x1)]) rfl ?_
  refine X_iload_n rfl rfl rfl rfl ?_
  refine S_if_lt (tgt := 22) rfl rfl rfl hx1 (fun vh2 => ?_) (fun vh2 => ?_)
  · refine X_iconst (v := (0 : Int32)) rfl rfl rfl ?_
    refine LW_ireturn (st := []) rfl rfl rfl ?_
    refine S_if_eq (tgt := 29) rfl rfl rfl (show (0 : Int32).toInt = 0 from rfl) (fun vh3 => ?_) (fun q => absurd q (by omega))
    refine X_iconst (v := (0 : Int32)) rfl rfl rfl ?_
    refine LW_ireturn (st := []) rfl rfl rfl ?_
    refine S_if_ne (tgt := 28) rfl rfl rfl (show (0 : Int32).toInt = 0 from rfl) (fun q => absurd q (by omega)) (fun vh4 => ?_)
    refine X_iconst (v := (-1 : Int32)) rfl rfl rfl ?_
    exact LW_ireturn (st := []) rfl rfl rfl ⟨_, rfl, V, hG⟩
  · refine X_iload_n rfl rfl rfl rfl ?_
    refine X_aload_n rfl rfl rfl rfl ?_
    refine S_getI rfl rfl rfl ((congrFun V.1 2).trans s_2) rfl (fun vz5 evz5 => ?_)
    have vf6 := K_10_1 (V.2.2.2.2.1 (2) (1) (Nat.le_of_ble_eq_true rfl)) rk_2
    rw [evz5] at vf6
    refine S_icmp_ge (tgt := 22) rfl rfl rfl hx1 rfl (fun vh7 => ?_) (fun vh7 => ?_)
    · refine X_iconst (v := (0 : Int32)) rfl rfl rfl ?_
      refine LW_ireturn (st := []) rfl rfl rfl ?_
      refine S_if_eq (tgt := 29) rfl rfl rfl (show (0 : Int32).toInt = 0 from rfl) (fun vh8 => ?_) (fun q => absurd q (by omega))
      refine X_iconst (v := (0 : Int32)) rfl rfl rfl ?_
      refine LW_ireturn (st := []) rfl rfl rfl ?_
      refine S_if_ne (tgt := 28) rfl rfl rfl (show (0 : Int32).toInt = 0 from rfl) (fun q => absurd q (by omega)) (fun vh9 => ?_)
      refine X_iconst (v := (-1 : Int32)) rfl rfl rfl ?_
      exact LW_ireturn (st := []) rfl rfl rfl ⟨_, rfl, V, hG⟩
    · refine X_iload_n rfl rfl rfl rfl ?_
      refine X_bipush (v := (8 : Int32)) rfl rfl rfl ?_
      refine S_icmp_ge (tgt := 22) rfl rfl rfl hx1 (show (8 : Int32).toInt = 8 from rfl) (fun q => absurd q (by omega)) (fun vh10 => ?_)
      refine X_iconst (v := (1 : Int32)) rfl rfl rfl ?_
      refine LW_goto (tgt := 23) rfl rfl ?_
      refine LW_ireturn (st := []) rfl rfl rfl ?_
      refine S_if_eq (tgt := 29) rfl rfl rfl (show (1 : Int32).toInt = 1 from rfl) (fun q => absurd q (by omega)) (fun vh11 => ?_)
      refine X_aload_n rfl rfl rfl rfl ?_
      refine X_getR (a := 8) rfl rfl rfl ((congrFun V.1 2).trans s_2) rfl ((congrFun (V.2.1 2 (by decide)) 7).trans r_2_7) ?_
      refine X_iload_n rfl rfl rfl rfl ?_
      refine S_iald rfl rfl ((congrFun V.1 8).trans s_8) hx1 (by omega) (fun vz12 evz12 => ?_)
      refine X_aload_n rfl rfl rfl rfl ?_
      refine X_iload_n rfl rfl rfl rfl ?_
      refine Y_callV (as := [.int vr1]) (st := [.int vz12]) rfl rfl rfl (by decide) rfl (Nat.le_of_ble_eq_true rfl) (by decide) (Nat.le_of_ble_eq_true rfl) rfl ((congrFun V.1 2).trans s_2) (by decide) (C_X5_sensesLeft V vr1 vr1.toInt rfl ) ?_
      rintro _ g' ⟨vr13, rfl, hrvr130, hrvr131, hgg⟩
      subst hgg
      refine X_iconst (v := (-1 : Int32)) rfl rfl rfl ?_
      refine S_ixorT rfl rfl (fun vz14 => ?_)
      refine S_iandT rfl rfl (fun vz15 => ?_)
      refine S_if_ne (tgt := 29) rfl rfl rfl rfl (fun vh16 => ?_) (fun vh16 => ?_)
      · refine X_iconst (v := (0 : Int32)) rfl rfl rfl ?_
        refine LW_ireturn (st := []) rfl rfl rfl ?_
        refine S_if_ne (tgt := 28) rfl rfl rfl (show (0 : Int32).toInt = 0 from rfl) (fun q => absurd q (by omega)) (fun vh17 => ?_)
        refine X_iconst (v := (-1 : Int32)) rfl rfl rfl ?_
        exact LW_ireturn (st := []) rfl rfl rfl ⟨_, rfl, V, hG⟩
      · refine X_iconst (v := (1 : Int32)) rfl rfl rfl ?_
        refine LW_goto (tgt := 30) rfl rfl ?_
        refine LW_ireturn (st := []) rfl rfl rfl ?_
        refine S_if_ne (tgt := 28) rfl rfl rfl (show (1 : Int32).toInt = 1 from rfl) (fun vh18 => ?_) (fun q => absurd q (by omega))
        refine X_iconst (v := (0 : Int32)) rfl rfl rfl ?_
        refine X_istore_n (i := 3) (ls' := [some (.ref 0), some (.int x1), some (.int vr1), some (.int (0 : Int32)), none]) rfl rfl rfl (Nat.le_of_ble_eq_true rfl) rfl ?_
        refine X_iconst (v := (0 : Int32)) rfl rfl rfl ?_
        refine X_istore (i := 4) (ls' := [some (.ref 0), some (.int x1), some (.int vr1), some (.int (0 : Int32)), some (.int (0 : Int32))]) rfl rfl (Nat.le_of_ble_eq_true rfl) rfl ?_
        exact (C_X12_dear_all (((8 - 0) * 1 + 0) + 1 : Int).toNat) _ V hG x1 y1 hx1 (by omega) vr1 vr1.toInt rfl (0 : Int32) 0 (show (0 : Int32).toInt = 0 from rfl) (0 : Int32) 0 (show (0 : Int32).toInt = 0 from rfl) (by omega)    (by omega)
set_option maxRecDepth 10000 in
set_option maxHeartbeats 40000000 in
theorem C_X5_lettersFor_4 {P : Par} {g : LH} {d n : Nat}  (V : Inv P g) (x1 : Int32) (y1 : Int) (hx1 : x1.toInt = y1) (x2 : Int32) (y2 : Int) (hx2 : x2.toInt = y2) (x3 : Int32) (y3 : Int) (hx3 : x3.toInt = y3) (hf3 : 0 ≤ y3 ∧ y3 ≤ 24)  (hmu : (24 - y3) * 1 + 0 < (n : Int) + 1) (ih4 : ∀ (V : Inv P g) (x1 : Int32) (y1 : Int) (hx1 : x1.toInt = y1) (x2 : Int32) (y2 : Int) (hx2 : x2.toInt = y2) (x3 : Int32) (y3 : Int) (hx3 : x3.toInt = y3) (hf3 : 0 ≤ y3 ∧ y3 ≤ 24) , (24 - y3) * 1 + 0 < (n : Int) → LW 54 (d + 3) 0 0 4 [some (.ref 2), some (.int x1), some (.int x2), some (.int x3)] [] g (fun v g' => ∃ r : Int32, v = some (.int r) ∧ g = g')) : LW 54 (d + 3) 0 0 4 [some (.ref 2), some (.int x1), some (.int x2), some (.int x3)] [] g (fun v g' => ∃ r : Int32, v = some (.int r) ∧ g = g') := by
  refine X_iload_n rfl rfl rfl rfl ?_
  refine X_aload_n rfl rfl rfl rfl ?_
  refine S_getI rfl rfl rfl ((congrFun V.1 2).trans s_2) rfl (fun vz1 evz1 => ?_)
  have vf2 := K_10_0 (V.2.2.2.2.1 (2) (0) (Nat.le_of_ble_eq_true rfl)) rk_2
  rw [evz1] at vf2
  refine S_icmp_ge (tgt := 44) rfl rfl rfl hx3 rfl (fun vh3 => ?_) (fun vh3 => ?_)
  · refine X_iload_n rfl rfl rfl rfl ?_
    exact LW_ireturn (st := []) rfl rfl rfl ⟨_, rfl, rfl⟩
  · refine X_iload_n rfl rfl rfl rfl ?_
    refine X_iload_n rfl rfl rfl rfl ?_
    refine X_aload_n rfl rfl rfl rfl ?_
    refine X_getR (a := 4) rfl rfl rfl ((congrFun V.1 2).trans s_2) rfl ((congrFun (V.2.1 2 (by decide)) 3).trans r_2_3) ?_
    refine X_iload_n rfl rfl rfl rfl ?_
    refine S_iald rfl rfl ((congrFun V.1 4).trans s_4) hx3 (by omega) (fun vz4 evz4 => ?_)
    have vf5 := K_2 (V.2.2.2.2.1 (4) ((y3 : Int).toNat) (Nat.le_of_ble_eq_true rfl)) rk_4
    rw [evz4] at vf5
    refine S_ishrT rfl rfl (fun vz6 => ?_)
    refine X_iconst (v := (1 : Int32)) rfl rfl rfl ?_
    refine S_iandR (k := 1) rfl rfl rfl (fun vz7 hvz7 => ?_)
    refine S_if_eq (tgt := 35) rfl rfl rfl rfl (fun vh8 => ?_) (fun vh8 => ?_)
    · refine X_iconst (v := (0 : Int32)) rfl rfl rfl ?_
      refine S_iorT rfl rfl (fun vz9 => ?_)
      refine X_istore_n (i := 2) (ls' := [some (.ref 2), some (.int x1), some (.int vz9), some (.int x3)]) rfl rfl rfl (Nat.le_of_ble_eq_true rfl) rfl ?_
      refine S_iinc (c := 1) rfl rfl rfl hx3 rfl (by omega) (fun vz10 hvz10 => ?_)
      refine LW_ls (ls' := [some (.ref 2), some (.int x1), some (.int vz9), some (.int vz10)]) rfl ?_
      refine LW_goto (tgt := 4) rfl rfl ?_
      exact ih4 V x1 y1 hx1 vz9 vz9.toInt rfl vz10 vz10.toInt rfl (by omega)    (by omega)
    · refine X_aload_n rfl rfl rfl rfl ?_
      refine X_getR (a := 5) rfl rfl rfl ((congrFun V.1 2).trans s_2) rfl ((congrFun (V.2.1 2 (by decide)) 4).trans r_2_4) ?_
      refine X_iload_n rfl rfl rfl rfl ?_
      refine S_iald rfl rfl ((congrFun V.1 5).trans s_5) hx3 (by omega) (fun vz11 evz11 => ?_)
      refine LW_goto (tgt := 36) rfl rfl ?_
      refine S_iorT rfl rfl (fun vz12 => ?_)
      refine X_istore_n (i := 2) (ls' := [some (.ref 2), some (.int x1), some (.int vz12), some (.int x3)]) rfl rfl rfl (Nat.le_of_ble_eq_true rfl) rfl ?_
      refine S_iinc (c := 1) rfl rfl rfl hx3 rfl (by omega) (fun vz13 hvz13 => ?_)
      refine LW_ls (ls' := [some (.ref 2), some (.int x1), some (.int vz12), some (.int vz13)]) rfl ?_
      refine LW_goto (tgt := 4) rfl rfl ?_
      exact ih4 V x1 y1 hx1 vz12 vz12.toInt rfl vz13 vz13.toInt rfl (by omega)    (by omega)
theorem C_X5_lettersFor_all {P : Par} {g : LH} {d : Nat}  : ∀ n : Nat, (∀ (V : Inv P g) (x1 : Int32) (y1 : Int) (hx1 : x1.toInt = y1) (x2 : Int32) (y2 : Int) (hx2 : x2.toInt = y2) (x3 : Int32) (y3 : Int) (hx3 : x3.toInt = y3) (hf3 : 0 ≤ y3 ∧ y3 ≤ 24) , (24 - y3) * 1 + 0 < (n : Int) → LW 54 (d + 3) 0 0 4 [some (.ref 2), some (.int x1), some (.int x2), some (.int x3)] [] g (fun v g' => ∃ r : Int32, v = some (.int r) ∧ g = g')) := by
  intro n
  induction n with
  | zero => exact fun V x1 y1 hx1 x2 y2 hx2 x3 y3 hx3 hf3 hmu => absurd hmu (by omega)
  | succ n ih => exact fun V x1 y1 hx1 x2 y2 hx2 x3 y3 hx3 hf3 hmu => C_X5_lettersFor_4  V x1 y1 hx1 x2 y2 hx2 x3 y3 hx3 hf3 (by omega) ih
set_option maxRecDepth 10000 in
set_option maxHeartbeats 40000000 in
theorem C_X5_lettersFor {P : Par} {g : LH} {d : Nat}  (V : Inv P g) (x1 : Int32) (y1 : Int) (hx1 : x1.toInt = y1)   : LW 54 (d + 3) 0 0 0 (lEnt (mL 54) [.ref 2, .int x1]) [] g (fun v g' => ∃ r : Int32, v = some (.int r) ∧ g = g') := by
  refine LW_ls (ls' := [some (.ref 2), some (.int x1), none, none]) rfl ?_
  refine X_iconst (v := (0 : Int32)) rfl rfl rfl ?_
  refine X_istore_n (i := 2) (ls' := [some (.ref 2), some (.int x1), some (.int (0 : Int32)), none]) rfl rfl rfl (Nat.le_of_ble_eq_true rfl) rfl ?_
  refine X_iconst (v := (0 : Int32)) rfl rfl rfl ?_
  refine X_istore_n (i := 3) (ls' := [some (.ref 2), some (.int x1), some (.int (0 : Int32)), some (.int (0 : Int32))]) rfl rfl rfl (Nat.le_of_ble_eq_true rfl) rfl ?_
  exact (C_X5_lettersFor_all (((24 - 0) * 1 + 0) + 1 : Int).toNat) V x1 y1 hx1 (0 : Int32) 0 (show (0 : Int32).toInt = 0 from rfl) (0 : Int32) 0 (show (0 : Int32).toInt = 0 from rfl) (by omega)    (by omega)
set_option maxRecDepth 10000 in
set_option maxHeartbeats 40000000 in
theorem C_X6_stopping_2_24 {P : Par} {g : LH} {d n m : Nat} (ihr58 : ∀ (g : LH) (V : Inv P g) (x1 : Int32) (y1 : Int) (hx1 : x1.toInt = y1) (hf1 : 0 ≤ y1 ∧ y1 ≤ 7) (x2 : Int32) (y2 : Int) (hx2 : x2.toInt = y2) (x3 : Int32) (y3 : Int) (hx3 : x3.toInt = y3) (hf3 : 0 ≤ y3 ∧ y3 ≤ 4) (x4 : Int32) (y4 : Int) (hx4 : x4.toInt = y4) , y3 + 1 < ((m : Nat) : Int) → LW 58 (d + 1 * m + 9) 0 0 0 (lEnt (mL 58) [.ref 2, .int x1, .int x2, .int x3, .int x4]) [] g (fun v g' => ∃ r : Int32, v = some (.int r) ∧ g = g')) (V : Inv P g) (x1 : Int32) (y1 : Int) (hx1 : x1.toInt = y1) (hf1 : 0 ≤ y1 ∧ y1 ≤ 7) (x2 : Int32) (y2 : Int) (hx2 : x2.toInt = y2) (x3 : Int32) (y3 : Int) (hx3 : x3.toInt = y3) (hf3 : 1 ≤ y3 ∧ y3 ≤ 4) (x4 : Int32) (y4 : Int) (hx4 : x4.toInt = y4) (x5 : Int32) (y5 : Int) (hx5 : x5.toInt = y5) (hf5 : 0 ≤ y5 ∧ y5 ≤ 26) (o6 : Option Value) (o7 : Option Value) (hlev : y3 + 1 < (((m + 1) : Nat) : Int)) (hmu : (26 - y5) * 1 + 0 < (n : Int) + 1) (ih24 : ∀ (V : Inv P g) (x1 : Int32) (y1 : Int) (hx1 : x1.toInt = y1) (hf1 : 0 ≤ y1 ∧ y1 ≤ 7) (x2 : Int32) (y2 : Int) (hx2 : x2.toInt = y2) (x3 : Int32) (y3 : Int) (hx3 : x3.toInt = y3) (hf3 : 1 ≤ y3 ∧ y3 ≤ 4) (x4 : Int32) (y4 : Int) (hx4 : x4.toInt = y4) (x5 : Int32) (y5 : Int) (hx5 : x5.toInt = y5) (hf5 : 0 ≤ y5 ∧ y5 ≤ 26) (o6 : Option Value) (o7 : Option Value) (hlev : y3 + 1 < (((m + 1) : Nat) : Int)), (26 - y5) * 1 + 0 < (n : Int) → LW 58 (d + 1 * (m + 1) + 9) 0 0 24 [some (.ref 2), some (.int x1), some (.int x2), some (.int x3), some (.int x4), some (.int x5), o6, o7] [] g (fun v g' => ∃ r : Int32, v = some (.int r) ∧ g = g')) : LW 58 (d + 1 * (m + 1) + 9) 0 0 24 [some (.ref 2), some (.int x1), some (.int x2), some (.int x3), some (.int x4), some (.int x5), o6, o7] [] g (fun v g' => ∃ r : Int32, v = some (.int r) ∧ g = g') := by
  refine X_iload rfl rfl rfl ?_
  refine X_bipush (v := (26 : Int32)) rfl rfl rfl ?_
  refine S_icmp_ge (tgt := 82) rfl rfl rfl hx5 (show (26 : Int32).toInt = 26 from rfl) (fun vh1 => ?_) (fun vh1 => ?_)
  · refine X_iconst (v := (-1 : Int32)) rfl rfl rfl ?_
    exact LW_ireturn (st := []) rfl rfl rfl ⟨_, rfl, rfl⟩
  · refine X_iconst (v := (1 : Int32)) rfl rfl rfl ?_
    refine X_iload rfl rfl rfl ?_
    refine S_ishlT rfl rfl (fun vz2 => ?_)
    refine X_istore (i := 6) (ls' := [some (.ref 2), some (.int x1), some (.int x2), some (.int x3), some (.int x4), some (.int x5), some (.int vz2), o7]) rfl rfl (Nat.le_of_ble_eq_true rfl) rfl ?_
    refine X_iload_n rfl rfl rfl rfl ?_
    refine X_iload rfl rfl rfl ?_
    refine S_iandT rfl rfl (fun vz3 => ?_)
    refine S_if_eq (tgt := 76) rfl rfl rfl rfl (fun vh4 => ?_) (fun vh4 => ?_)
    · refine S_iinc (c := 1) rfl rfl rfl hx5 rfl (by omega) (fun vz5 hvz5 => ?_)
      refine LW_ls (ls' := [some (.ref 2), some (.int x1), some (.int x2), some (.int x3), some (.int x4), some (.int vz5), some (.int vz2), o7]) rfl ?_
      refine LW_goto (tgt := 24) rfl rfl ?_
      exact ih24 V x1 y1 hx1 (by omega) x2 y2 hx2 x3 y3 hx3 (by omega) x4 y4 hx4 vz5 vz5.toInt rfl (by omega) (some (.int vz2)) o7   (by omega) (by omega)
    · refine X_iload rfl rfl rfl ?_
      refine X_iload rfl rfl rfl ?_
      refine S_icmp_le (tgt := 76) rfl rfl rfl rfl hx4 (fun vh6 => ?_) (fun vh6 => ?_)
      · refine S_iinc (c := 1) rfl rfl rfl hx5 rfl (by omega) (fun vz7 hvz7 => ?_)
        refine LW_ls (ls' := [some (.ref 2), some (.int x1), some (.int x2), some (.int x3), some (.int x4), some (.int vz7), some (.int vz2), o7]) rfl ?_
        refine LW_goto (tgt := 24) rfl rfl ?_
        exact ih24 V x1 y1 hx1 (by omega) x2 y2 hx2 x3 y3 hx3 (by omega) x4 y4 hx4 vz7 vz7.toInt rfl (by omega) (some (.int vz2)) o7   (by omega) (by omega)
      · refine X_aload_n rfl rfl rfl rfl ?_
        refine X_iload_n rfl rfl rfl rfl ?_
        refine X_iload_n rfl rfl rfl rfl ?_
        refine X_iload_n rfl rfl rfl rfl ?_
        refine X_iconst (v := (1 : Int32)) rfl rfl rfl ?_
        refine S_isub rfl rfl hx3 (show (1 : Int32).toInt = 1 from rfl) (by omega) (fun vz8 hvz8 => ?_)
        refine X_iload rfl rfl rfl ?_
        refine X_iload rfl rfl rfl ?_
        refine S_iorT rfl rfl (fun vz9 => ?_)
        refine Y_callS (as := [.ref 2, .int x1, .int x2, .int vz8, .int vz9]) (st := []) rfl rfl rfl (by decide) rfl (Nat.le_of_ble_eq_true rfl) (by decide) (Nat.le_of_ble_eq_true rfl) rfl (LW_room (Nat.le_refl _) (Nat.le_refl _) (by omega) (ihr58 _ V x1 y1 hx1 (by omega) x2 y2 hx2 vz8 vz8.toInt rfl (by omega) vz9 vz9.toInt rfl  (by omega))) ?_
        rintro _ g' ⟨vr10, rfl, hgg⟩
        subst hgg
        refine X_istore (i := 7) (ls' := [some (.ref 2), some (.int x1), some (.int x2), some (.int x3), some (.int x4), some (.int x5), some (.int vz2), some (.int vr10)]) rfl rfl (Nat.le_of_ble_eq_true rfl) rfl ?_
        refine X_iload rfl rfl rfl ?_
        refine X_iconst (v := (-1 : Int32)) rfl rfl rfl ?_
        refine S_icmp_eq (tgt := 76) rfl rfl rfl rfl (show (-1 : Int32).toInt = -1 from rfl) (fun vh11 => ?_) (fun vh11 => ?_)
        · refine S_iinc (c := 1) rfl rfl rfl hx5 rfl (by omega) (fun vz12 hvz12 => ?_)
          refine LW_ls (ls' := [some (.ref 2), some (.int x1), some (.int x2), some (.int x3), some (.int x4), some (.int vz12), some (.int vz2), some (.int vr10)]) rfl ?_
          refine LW_goto (tgt := 24) rfl rfl ?_
          exact ih24 V x1 y1 hx1 (by omega) x2 y2 hx2 x3 y3 hx3 (by omega) x4 y4 hx4 vz12 vz12.toInt rfl (by omega) (some (.int vz2)) (some (.int vr10))   (by omega) (by omega)
        · refine X_iload rfl rfl rfl ?_
          exact LW_ireturn (st := []) rfl rfl rfl ⟨_, rfl, rfl⟩
theorem C_X6_stopping_2_all {P : Par} {g : LH} {d m : Nat} (ihr58 : ∀ (g : LH) (V : Inv P g) (x1 : Int32) (y1 : Int) (hx1 : x1.toInt = y1) (hf1 : 0 ≤ y1 ∧ y1 ≤ 7) (x2 : Int32) (y2 : Int) (hx2 : x2.toInt = y2) (x3 : Int32) (y3 : Int) (hx3 : x3.toInt = y3) (hf3 : 0 ≤ y3 ∧ y3 ≤ 4) (x4 : Int32) (y4 : Int) (hx4 : x4.toInt = y4) , y3 + 1 < ((m : Nat) : Int) → LW 58 (d + 1 * m + 9) 0 0 0 (lEnt (mL 58) [.ref 2, .int x1, .int x2, .int x3, .int x4]) [] g (fun v g' => ∃ r : Int32, v = some (.int r) ∧ g = g')) : ∀ n : Nat, (∀ (V : Inv P g) (x1 : Int32) (y1 : Int) (hx1 : x1.toInt = y1) (hf1 : 0 ≤ y1 ∧ y1 ≤ 7) (x2 : Int32) (y2 : Int) (hx2 : x2.toInt = y2) (x3 : Int32) (y3 : Int) (hx3 : x3.toInt = y3) (hf3 : 1 ≤ y3 ∧ y3 ≤ 4) (x4 : Int32) (y4 : Int) (hx4 : x4.toInt = y4) (x5 : Int32) (y5 : Int) (hx5 : x5.toInt = y5) (hf5 : 0 ≤ y5 ∧ y5 ≤ 26) (o6 : Option Value) (o7 : Option Value) (hlev : y3 + 1 < (((m + 1) : Nat) : Int)), (26 - y5) * 1 + 0 < (n : Int) → LW 58 (d + 1 * (m + 1) + 9) 0 0 24 [some (.ref 2), some (.int x1), some (.int x2), some (.int x3), some (.int x4), some (.int x5), o6, o7] [] g (fun v g' => ∃ r : Int32, v = some (.int r) ∧ g = g')) := by
  intro n
  induction n with
  | zero => exact fun V x1 y1 hx1 hf1 x2 y2 hx2 x3 y3 hx3 hf3 x4 y4 hx4 x5 y5 hx5 hf5 o6 o7 hlev hmu => absurd hmu (by omega)
  | succ n ih => exact fun V x1 y1 hx1 hf1 x2 y2 hx2 x3 y3 hx3 hf3 x4 y4 hx4 x5 y5 hx5 hf5 o6 o7 hlev hmu => C_X6_stopping_2_24 ihr58 V x1 y1 hx1 hf1 x2 y2 hx2 x3 y3 hx3 hf3 x4 y4 hx4 x5 y5 hx5 hf5 o6 o7 hlev (by omega) ih
set_option maxRecDepth 10000 in
set_option maxHeartbeats 40000000 in
theorem C_X6_stopping_2_s {P : Par} {g : LH} {d m : Nat} (ihr58 : ∀ (g : LH) (V : Inv P g) (x1 : Int32) (y1 : Int) (hx1 : x1.toInt = y1) (hf1 : 0 ≤ y1 ∧ y1 ≤ 7) (x2 : Int32) (y2 : Int) (hx2 : x2.toInt = y2) (x3 : Int32) (y3 : Int) (hx3 : x3.toInt = y3) (hf3 : 0 ≤ y3 ∧ y3 ≤ 4) (x4 : Int32) (y4 : Int) (hx4 : x4.toInt = y4) , y3 + 1 < ((m : Nat) : Int) → LW 58 (d + 1 * m + 9) 0 0 0 (lEnt (mL 58) [.ref 2, .int x1, .int x2, .int x3, .int x4]) [] g (fun v g' => ∃ r : Int32, v = some (.int r) ∧ g = g')) (V : Inv P g) (x1 : Int32) (y1 : Int) (hx1 : x1.toInt = y1) (hf1 : 0 ≤ y1 ∧ y1 ≤ 7) (x2 : Int32) (y2 : Int) (hx2 : x2.toInt = y2) (x3 : Int32) (y3 : Int) (hx3 : x3.toInt = y3) (hf3 : 0 ≤ y3 ∧ y3 ≤ 4) (x4 : Int32) (y4 : Int) (hx4 : x4.toInt = y4)  (hlev : y3 + 1 < (((m + 1) : Nat) : Int)) : LW 58 (d + 1 * (m + 1) + 9) 0 0 0 (lEnt (mL 58) [.ref 2, .int x1, .int x2, .int x3, .int x4]) [] g (fun v g' => ∃ r : Int32, v = some (.int r) ∧ g = g') := by
  refine LW_ls (ls' := [some (.ref 2), some (.int x1), some (.int x2), some (.int x3), some (.int x4), none, none, none]) rfl ?_
  refine X_iload_n rfl rfl rfl rfl ?_
  refine S_if_gt (tgt := 21) rfl rfl rfl hx3 (fun vh1 => ?_) (fun vh1 => ?_)
  · refine X_iconst (v := (0 : Int32)) rfl rfl rfl ?_
    refine X_istore (i := 5) (ls' := [some (.ref 2), some (.int x1), some (.int x2), some (.int x3), some (.int x4), some (.int (0 : Int32)), none, none]) rfl rfl (Nat.le_of_ble_eq_true rfl) rfl ?_
    exact (C_X6_stopping_2_all ihr58 (((26 - 0) * 1 + 0) + 1 : Int).toNat) V x1 y1 hx1 (by omega) x2 y2 hx2 x3 y3 hx3 (by omega) x4 y4 hx4 (0 : Int32) 0 (show (0 : Int32).toInt = 0 from rfl) (by omega) none none   (by omega) (by omega)
  · refine X_aload_n rfl rfl rfl rfl ?_
    refine X_iload_n rfl rfl rfl rfl ?_
    refine X_iload rfl rfl rfl ?_
    refine X_callV (as := [.int x1, .int x4]) (st := []) rfl rfl rfl (by decide) rfl (Nat.le_of_ble_eq_true rfl) (by decide) (Nat.le_of_ble_eq_true rfl) rfl ((congrFun V.1 2).trans s_2) (by decide) ?_
    refine LW_ls (ls' := [some (.ref 2), some (.int x1), some (.int x4)]) rfl ?_
    refine X_aload_n rfl rfl rfl rfl ?_
    refine X_iload_n rfl rfl rfl rfl ?_
    refine X_callV (as := [.int x1]) (st := []) rfl rfl rfl (by decide) rfl (Nat.le_of_ble_eq_true rfl) (by decide) (Nat.le_of_ble_eq_true rfl) rfl ((congrFun V.1 2).trans s_2) (by decide) ?_
    refine LW_ls (ls' := [some (.ref 2), some (.int x1)]) rfl ?_
    refine X_iload_n rfl rfl rfl rfl ?_
    refine S_if_lt (tgt := 22) rfl rfl rfl hx1 (fun q => absurd q (by omega)) (fun vh2 => ?_)
    refine X_iload_n rfl rfl rfl rfl ?_
    refine X_aload_n rfl rfl rfl rfl ?_
    refine S_getI rfl rfl rfl ((congrFun V.1 2).trans s_2) rfl (fun vz3 evz3 => ?_)
    have vf4 := K_10_1 (V.2.2.2.2.1 (2) (1) (Nat.le_of_ble_eq_true rfl)) rk_2
    rw [evz3] at vf4
    refine S_icmp_ge (tgt := 22) rfl rfl rfl hx1 rfl (fun vh5 => ?_) (fun vh5 => ?_)
    · refine X_iconst (v := (0 : Int32)) rfl rfl rfl ?_
      refine LW_ireturn (st := []) rfl rfl rfl ?_
      refine S_if_eq (tgt := 29) rfl rfl rfl (show (0 : Int32).toInt = 0 from rfl) (fun vh6 => ?_) (fun q => absurd q (by omega))
      refine X_iconst (v := (0 : Int32)) rfl rfl rfl ?_
      refine LW_ireturn (st := []) rfl rfl rfl ?_
      refine S_if_eq (tgt := 18) rfl rfl rfl (show (0 : Int32).toInt = 0 from rfl) (fun vh7 => ?_) (fun q => absurd q (by omega))
      refine X_iload rfl rfl rfl ?_
      exact LW_ireturn (st := []) rfl rfl rfl ⟨_, rfl, rfl⟩
    · refine X_iload_n rfl rfl rfl rfl ?_
      refine X_bipush (v := (8 : Int32)) rfl rfl rfl ?_
      refine S_icmp_ge (tgt := 22) rfl rfl rfl hx1 (show (8 : Int32).toInt = 8 from rfl) (fun q => absurd q (by omega)) (fun vh8 => ?_)
      refine X_iconst (v := (1 : Int32)) rfl rfl rfl ?_
      refine LW_goto (tgt := 23) rfl rfl ?_
      refine LW_ireturn (st := []) rfl rfl rfl ?_
      refine S_if_eq (tgt := 29) rfl rfl rfl (show (1 : Int32).toInt = 1 from rfl) (fun q => absurd q (by omega)) (fun vh9 => ?_)
      refine X_aload_n rfl rfl rfl rfl ?_
      refine X_getR (a := 8) rfl rfl rfl ((congrFun V.1 2).trans s_2) rfl ((congrFun (V.2.1 2 (by decide)) 7).trans r_2_7) ?_
      refine X_iload_n rfl rfl rfl rfl ?_
      refine S_iald rfl rfl ((congrFun V.1 8).trans s_8) hx1 (by omega) (fun vz10 evz10 => ?_)
      refine X_aload_n rfl rfl rfl rfl ?_
      refine X_iload_n rfl rfl rfl rfl ?_
      refine Y_callV (as := [.int x4]) (st := [.int vz10]) rfl rfl rfl (by decide) rfl (Nat.le_of_ble_eq_true rfl) (by decide) (Nat.le_of_ble_eq_true rfl) rfl ((congrFun V.1 2).trans s_2) (by decide) (C_X5_sensesLeft V x4 y4 hx4 ) ?_
      rintro _ g' ⟨vr11, rfl, hrvr110, hrvr111, hgg⟩
      subst hgg
      refine X_iconst (v := (-1 : Int32)) rfl rfl rfl ?_
      refine S_ixorT rfl rfl (fun vz12 => ?_)
      refine S_iandT rfl rfl (fun vz13 => ?_)
      refine S_if_ne (tgt := 29) rfl rfl rfl rfl (fun vh14 => ?_) (fun vh14 => ?_)
      · refine X_iconst (v := (0 : Int32)) rfl rfl rfl ?_
        refine LW_ireturn (st := []) rfl rfl rfl ?_
        refine S_if_eq (tgt := 18) rfl rfl rfl (show (0 : Int32).toInt = 0 from rfl) (fun vh15 => ?_) (fun q => absurd q (by omega))
        refine X_iload rfl rfl rfl ?_
        exact LW_ireturn (st := []) rfl rfl rfl ⟨_, rfl, rfl⟩
      · refine X_iconst (v := (1 : Int32)) rfl rfl rfl ?_
        refine LW_goto (tgt := 30) rfl rfl ?_
        refine LW_ireturn (st := []) rfl rfl rfl ?_
        refine S_if_eq (tgt := 18) rfl rfl rfl (show (1 : Int32).toInt = 1 from rfl) (fun q => absurd q (by omega)) (fun vh16 => ?_)
        refine X_iconst (v := (-1 : Int32)) rfl rfl rfl ?_
        refine LW_goto (tgt := 20) rfl rfl ?_
        exact LW_ireturn (st := []) rfl rfl rfl ⟨_, rfl, rfl⟩
theorem C_X6_stopping_2_r {P : Par} {d : Nat} : ∀ (m : Nat) (g : LH) (V : Inv P g) (x1 : Int32) (y1 : Int) (hx1 : x1.toInt = y1) (hf1 : 0 ≤ y1 ∧ y1 ≤ 7) (x2 : Int32) (y2 : Int) (hx2 : x2.toInt = y2) (x3 : Int32) (y3 : Int) (hx3 : x3.toInt = y3) (hf3 : 0 ≤ y3 ∧ y3 ≤ 4) (x4 : Int32) (y4 : Int) (hx4 : x4.toInt = y4) , y3 + 1 < ((m : Nat) : Int) → LW 58 (d + 1 * m + 9) 0 0 0 (lEnt (mL 58) [.ref 2, .int x1, .int x2, .int x3, .int x4]) [] g (fun v g' => ∃ r : Int32, v = some (.int r) ∧ g = g') := by
  intro m
  induction m with
  | zero => intro g V x1 y1 hx1 hf1 x2 y2 hx2 x3 y3 hx3 hf3 x4 y4 hx4 hlev; exact absurd hlev (by omega)
  | succ m ih => intro g V x1 y1 hx1 hf1 x2 y2 hx2 x3 y3 hx3 hf3 x4 y4 hx4 hlev; exact C_X6_stopping_2_s ih V x1 y1 hx1 hf1 x2 y2 hx2 x3 y3 hx3 hf3 x4 y4 hx4 (by omega)
theorem C_X6_stopping_2 {P : Par} {g : LH} {d : Nat} (V : Inv P g) (x1 : Int32) (y1 : Int) (hx1 : x1.toInt = y1) (hf1 : 0 ≤ y1 ∧ y1 ≤ 7) (x2 : Int32) (y2 : Int) (hx2 : x2.toInt = y2) (x3 : Int32) (y3 : Int) (hx3 : x3.toInt = y3) (hf3 : 0 ≤ y3 ∧ y3 ≤ 4) (x4 : Int32) (y4 : Int) (hx4 : x4.toInt = y4)  : LW 58 (d + 15) 0 0 0 (lEnt (mL 58) [.ref 2, .int x1, .int x2, .int x3, .int x4]) [] g (fun v g' => ∃ r : Int32, v = some (.int r) ∧ g = g') :=
  LW_room (Nat.le_refl _) (Nat.le_refl _) (by omega) (C_X6_stopping_2_r (d := d) 6 _ V x1 y1 hx1 hf1 x2 y2 hx2 x3 y3 hx3 hf3 x4 y4 hx4 (by omega))
