/-! the class's methods: each returns and keeps what every state keeps -/
set_option maxRecDepth 10000 in
set_option maxHeartbeats 40000000 in
theorem C_X4_loophole_13 {P : Par} {g g0 : LH} {d n : Nat}  (V : Inv P g) (hG : Gr g = Gr g0) (x1 : Int32) (y1 : Int) (hx1 : x1.toInt = y1) (hf1 : 0 ≤ y1 ∧ y1 ≤ 9) (x2 : Int32) (y2 : Int) (hx2 : x2.toInt = y2) (hf2 : 0 ≤ y2 ∧ y2 ≤ 26)  (hmu : (26 - y2) * 1 + 0 < (n : Int) + 1) (ih13 : ∀ (g : LH) (V : Inv P g) (hG : Gr g = Gr g0) (x1 : Int32) (y1 : Int) (hx1 : x1.toInt = y1) (hf1 : 0 ≤ y1 ∧ y1 ≤ 9) (x2 : Int32) (y2 : Int) (hx2 : x2.toInt = y2) (hf2 : 0 ≤ y2 ∧ y2 ≤ 26) , (26 - y2) * 1 + 0 < (n : Int) → LW 32 (d + 18) 0 0 13 [some (.ref 339), some (.int x1), some (.int x2)] [] g (fun v g' => ∃ r : Int32, v = some (.int r) ∧ (-1) ≤ r.toInt ∧ r.toInt ≤ 25 ∧ Inv P g' ∧ Gr g' = Gr g0)) : LW 32 (d + 18) 0 0 13 [some (.ref 339), some (.int x1), some (.int x2)] [] g (fun v g' => ∃ r : Int32, v = some (.int r) ∧ (-1) ≤ r.toInt ∧ r.toInt ≤ 25 ∧ Inv P g' ∧ Gr g' = Gr g0) := by
  refine X_iload_n rfl rfl rfl rfl ?_
  refine X_bipush (v := (26 : Int32)) rfl rfl rfl ?_
  refine S_icmp_ge (tgt := 50) rfl rfl rfl hx2 (show (26 : Int32).toInt = 26 from rfl) (fun vh1 => ?_) (fun vh1 => ?_)
  · refine X_iconst (v := (-1 : Int32)) rfl rfl rfl ?_
    exact LW_ireturn (st := []) rfl rfl rfl ⟨_, rfl, by decide, by decide, V, hG⟩
  · refine X_aload_n rfl rfl rfl rfl ?_
    refine X_getR (a := 1) rfl rfl rfl ((congrFun V.1 339).trans s_339) rfl ((congrFun (V.2.1 339 (by decide)) 0).trans r_339_0) ?_
    refine X_getR (a := 10) rfl rfl rfl ((congrFun V.1 1).trans s_1) rfl ((congrFun (V.2.1 1 (by decide)) 1).trans r_1_1) ?_
    refine X_iload_n rfl rfl rfl rfl ?_
    refine X_callV (as := [.int x2]) (st := []) rfl rfl rfl (by decide) rfl (Nat.le_of_ble_eq_true rfl) (by decide) (Nat.le_of_ble_eq_true rfl) rfl ((congrFun V.1 10).trans s_10) (by decide) ?_
    refine LW_ls (ls' := [some (.ref 10), some (.int x2)]) rfl ?_
    refine X_aload_n rfl rfl rfl rfl ?_
    refine S_getI rfl rfl rfl ((congrFun V.1 10).trans s_10) rfl (fun vz2 evz2 => ?_)
    refine X_iload_n rfl rfl rfl rfl ?_
    refine S_ishrT rfl rfl (fun vz3 => ?_)
    refine X_iconst (v := (1 : Int32)) rfl rfl rfl ?_
    refine S_iandR (k := 1) rfl rfl rfl (fun vz4 hvz4 => ?_)
    refine S_if_eq (tgt := 15) rfl rfl rfl rfl (fun vh5 => ?_) (fun vh5 => ?_)
    · refine X_iconst (v := (0 : Int32)) rfl rfl rfl ?_
      refine LW_ireturn (st := []) rfl rfl rfl ?_
      refine S_if_ne (tgt := 44) rfl rfl rfl (show (0 : Int32).toInt = 0 from rfl) (fun q => absurd q (by omega)) (fun vh6 => ?_)
      refine X_aload_n rfl rfl rfl rfl ?_
      refine X_iload_n rfl rfl rfl rfl ?_
      refine X_iload_n rfl rfl rfl rfl ?_
      refine Y_callV (as := [.int x1, .int x2]) (st := []) rfl rfl rfl (by decide) rfl (Nat.le_of_ble_eq_true rfl) (by decide) (Nat.le_of_ble_eq_true rfl) rfl ((congrFun V.1 339).trans s_339) (by decide) (C_X4_binds V x1 y1 hx1 (by omega) x2 y2 hx2 (by omega) ) ?_
      rintro _ g ⟨vr7, rfl, hrvr70, hrvr71, V, hq⟩
      have hG := hq.trans hG
      refine S_if_ne (tgt := 44) rfl rfl rfl rfl (fun vh8 => ?_) (fun vh8 => ?_)
      · refine S_iinc (c := 1) rfl rfl rfl hx2 rfl (by omega) (fun vz9 hvz9 => ?_)
        refine LW_ls (ls' := [some (.ref 339), some (.int x1), some (.int vz9)]) rfl ?_
        refine LW_goto (tgt := 13) rfl rfl ?_
        exact ih13 _ V hG x1 y1 hx1 (by omega) vz9 vz9.toInt rfl (by omega)    (by omega)
      · refine X_iload_n rfl rfl rfl rfl ?_
        have hr := hx2
        exact LW_ireturn (st := []) rfl rfl rfl ⟨_, rfl, by omega, by omega, V, hG⟩
    · refine X_iconst (v := (1 : Int32)) rfl rfl rfl ?_
      refine LW_goto (tgt := 16) rfl rfl ?_
      refine LW_ireturn (st := []) rfl rfl rfl ?_
      refine S_if_ne (tgt := 44) rfl rfl rfl (show (1 : Int32).toInt = 1 from rfl) (fun vh10 => ?_) (fun q => absurd q (by omega))
      refine S_iinc (c := 1) rfl rfl rfl hx2 rfl (by omega) (fun vz11 hvz11 => ?_)
      refine LW_ls (ls' := [some (.ref 339), some (.int x1), some (.int vz11)]) rfl ?_
      refine LW_goto (tgt := 13) rfl rfl ?_
      exact ih13 _ V hG x1 y1 hx1 (by omega) vz11 vz11.toInt rfl (by omega)    (by omega)
theorem C_X4_loophole_all {P : Par} {g0 : LH} {d : Nat}  : ∀ n : Nat, (∀ (g : LH) (V : Inv P g) (hG : Gr g = Gr g0) (x1 : Int32) (y1 : Int) (hx1 : x1.toInt = y1) (hf1 : 0 ≤ y1 ∧ y1 ≤ 9) (x2 : Int32) (y2 : Int) (hx2 : x2.toInt = y2) (hf2 : 0 ≤ y2 ∧ y2 ≤ 26) , (26 - y2) * 1 + 0 < (n : Int) → LW 32 (d + 18) 0 0 13 [some (.ref 339), some (.int x1), some (.int x2)] [] g (fun v g' => ∃ r : Int32, v = some (.int r) ∧ (-1) ≤ r.toInt ∧ r.toInt ≤ 25 ∧ Inv P g' ∧ Gr g' = Gr g0)) := by
  intro n
  induction n with
  | zero => exact fun g V hG x1 y1 hx1 hf1 x2 y2 hx2 hf2 hmu => absurd hmu (by omega)
  | succ n ih => exact fun g V hG x1 y1 hx1 hf1 x2 y2 hx2 hf2 hmu => C_X4_loophole_13  V hG x1 y1 hx1 hf1 x2 y2 hx2 hf2 (by omega) ih
set_option maxRecDepth 10000 in
set_option maxHeartbeats 40000000 in
theorem C_X4_loophole {P : Par} {g : LH} {d : Nat}  (V : Inv P g) (x1 : Int32) (y1 : Int) (hx1 : x1.toInt = y1) (hf1 : 0 ≤ y1 ∧ y1 ≤ 9)   : LW 32 (d + 18) 0 0 0 (lEnt (mL 32) [.ref 339, .int x1]) [] g (fun v g' => ∃ r : Int32, v = some (.int r) ∧ (-1) ≤ r.toInt ∧ r.toInt ≤ 25 ∧ Inv P g' ∧ Gr g' = Gr g) := by
  refine LW_ls (ls' := [some (.ref 339), some (.int x1), none]) rfl ?_
  have hG : Gr g = Gr g := rfl
  refine X_aload_n rfl rfl rfl rfl ?_
  refine X_iload_n rfl rfl rfl rfl ?_
  refine X_iconst (v := (-1 : Int32)) rfl rfl rfl ?_
  refine Y_callV (as := [.int x1, .int (-1 : Int32)]) (st := []) rfl rfl rfl (by decide) rfl (Nat.le_of_ble_eq_true rfl) (by decide) (Nat.le_of_ble_eq_true rfl) rfl ((congrFun V.1 339).trans s_339) (by decide) (C_X4_binds V x1 y1 hx1 (by omega) (-1 : Int32) (-1) (show (-1 : Int32).toInt = -1 from rfl) (by omega) ) ?_
  rintro _ g ⟨vr1, rfl, hrvr10, hrvr11, V, hq⟩
  have hG := hq.trans hG
  refine S_if_ne (tgt := 11) rfl rfl rfl rfl (fun vh2 => ?_) (fun vh2 => ?_)
  · refine X_iconst (v := (0 : Int32)) rfl rfl rfl ?_
    refine X_istore_n (i := 2) (ls' := [some (.ref 339), some (.int x1), some (.int (0 : Int32))]) rfl rfl rfl (Nat.le_of_ble_eq_true rfl) rfl ?_
    exact (C_X4_loophole_all (((26 - 0) * 1 + 0) + 1 : Int).toNat) _ V hG x1 y1 hx1 (by omega) (0 : Int32) 0 (show (0 : Int32).toInt = 0 from rfl) (by omega)    (by omega)
  · refine X_iconst (v := (-1 : Int32)) rfl rfl rfl ?_
    exact LW_ireturn (st := []) rfl rfl rfl ⟨_, rfl, by decide, by decide, V, hG⟩
set_option maxRecDepth 10000 in
set_option maxHeartbeats 40000000 in
theorem C_X12_signed {P : Par} {g : LH} {d : Nat}  (V : Inv P g) (x1 : Int32) (y1 : Int) (hx1 : x1.toInt = y1) (x2 : Int32) (y2 : Int) (hx2 : x2.toInt = y2)   : LW 162 (d + 22) 0 0 0 (lEnt (mL 162) [.ref 0, .int x1, .int x2]) [] g (fun v g' => ∃ r : Int32, v = some (.int r) ∧ Inv P g' ∧ Gr g' = Gr g) := by
  refine LW_ls (ls' := [some (.ref 0), some (.int x1), some (.int x2), none, none]) rfl ?_
  have hG : Gr g = Gr g := rfl
  refine X_aload_n rfl rfl rfl rfl ?_
  refine X_getR (a := 1) rfl rfl rfl ((congrFun V.1 0).trans s_0) rfl ((congrFun (V.2.1 0 (by decide)) 0).trans r_0_0) ?_
  refine X_getR (a := 10) rfl rfl rfl ((congrFun V.1 1).trans s_1) rfl ((congrFun (V.2.1 1 (by decide)) 1).trans r_1_1) ?_
  refine S_getI rfl rfl rfl ((congrFun V.1 10).trans s_10) rfl (fun vz1 evz1 => ?_)
  have vf2 := K_11_3 (V.2.2.2.2.1 (10) (3) (Nat.le_of_ble_eq_true rfl)) rk_10
  rw [evz1] at vf2
  refine X_istore_n (i := 3) (ls' := [some (.ref 0), some (.int x1), some (.int x2), some (.int vz1), none]) rfl rfl rfl (Nat.le_of_ble_eq_true rfl) rfl ?_
  refine X_iload_n rfl rfl rfl rfl ?_
  refine X_iconst (v := (-1 : Int32)) rfl rfl rfl ?_
  refine S_icmp_ne (tgt := 18) rfl rfl rfl hx1 (show (-1 : Int32).toInt = -1 from rfl) (fun vh3 => ?_) (fun vh3 => ?_)
  · refine X_iload_n rfl rfl rfl rfl ?_
    refine S_if_lt (tgt := 33) rfl rfl rfl hx1 (fun vh4 => ?_) (fun vh4 => ?_)
    · refine X_bipush (v := (-2 : Int32)) rfl rfl rfl ?_
      exact LW_ireturn (st := []) rfl rfl rfl ⟨_, rfl, V, hG⟩
    · refine X_iload_n rfl rfl rfl rfl ?_
      refine X_iload_n rfl rfl rfl rfl ?_
      refine S_icmp_ge (tgt := 33) rfl rfl rfl hx1 rfl (fun vh5 => ?_) (fun vh5 => ?_)
      · refine X_bipush (v := (-2 : Int32)) rfl rfl rfl ?_
        exact LW_ireturn (st := []) rfl rfl rfl ⟨_, rfl, V, hG⟩
      · refine X_iload_n rfl rfl rfl rfl ?_
        refine X_bipush (v := (10 : Int32)) rfl rfl rfl ?_
        refine S_icmp_lt (tgt := 36) rfl rfl rfl hx1 (show (10 : Int32).toInt = 10 from rfl) (fun vh6 => ?_) (fun q => absurd q (by omega))
        refine X_iload_n rfl rfl rfl rfl ?_
        by_cases vh7 : y2 = 0
        · refine S_tableIn (tgt := 76) (c := 0) rfl (hx2.trans vh7) (by decide) (by decide) rfl rfl ?_
          refine X_aload_n rfl rfl rfl rfl ?_
          refine X_getR (a := 1) rfl rfl rfl ((congrFun V.1 0).trans s_0) rfl ((congrFun (V.2.1 0 (by decide)) 0).trans r_0_0) ?_
          refine X_getR (a := 136) rfl rfl rfl ((congrFun V.1 1).trans s_1) rfl ((congrFun (V.2.1 1 (by decide)) 3).trans r_1_3) ?_
          refine X_getR (a := 137) rfl rfl rfl ((congrFun V.1 136).trans s_136) rfl ((congrFun (V.2.1 136 (by decide)) 0).trans r_136_0) ?_
          refine X_iload_n rfl rfl rfl rfl ?_
          refine S_iald rfl rfl ((congrFun V.1 137).trans s_137) hx1 (by omega) (fun vz8 evz8 => ?_)
          exact LW_ireturn (st := []) rfl rfl rfl ⟨_, rfl, V, hG⟩
        by_cases vh9 : y2 = 1
        · refine S_tableIn (tgt := 89) (c := 1) rfl (hx2.trans vh9) (by decide) (by decide) rfl rfl ?_
          refine X_aload_n rfl rfl rfl rfl ?_
          refine X_getR (a := 1) rfl rfl rfl ((congrFun V.1 0).trans s_0) rfl ((congrFun (V.2.1 0 (by decide)) 0).trans r_0_0) ?_
          refine X_getR (a := 136) rfl rfl rfl ((congrFun V.1 1).trans s_1) rfl ((congrFun (V.2.1 1 (by decide)) 3).trans r_1_3) ?_
          refine X_getR (a := 138) rfl rfl rfl ((congrFun V.1 136).trans s_136) rfl ((congrFun (V.2.1 136 (by decide)) 1).trans r_136_1) ?_
          refine X_iload_n rfl rfl rfl rfl ?_
          refine S_iald rfl rfl ((congrFun V.1 138).trans s_138) hx1 (by omega) (fun vz10 evz10 => ?_)
          exact LW_ireturn (st := []) rfl rfl rfl ⟨_, rfl, V, hG⟩
        by_cases vh11 : y2 = 2
        · refine S_tableIn (tgt := 102) (c := 2) rfl (hx2.trans vh11) (by decide) (by decide) rfl rfl ?_
          refine X_aload_n rfl rfl rfl rfl ?_
          refine X_getR (a := 1) rfl rfl rfl ((congrFun V.1 0).trans s_0) rfl ((congrFun (V.2.1 0 (by decide)) 0).trans r_0_0) ?_
          refine X_getR (a := 136) rfl rfl rfl ((congrFun V.1 1).trans s_1) rfl ((congrFun (V.2.1 1 (by decide)) 3).trans r_1_3) ?_
          refine X_getR (a := 139) rfl rfl rfl ((congrFun V.1 136).trans s_136) rfl ((congrFun (V.2.1 136 (by decide)) 2).trans r_136_2) ?_
          refine X_iload_n rfl rfl rfl rfl ?_
          refine S_iald rfl rfl ((congrFun V.1 139).trans s_139) hx1 (by omega) (fun vz12 evz12 => ?_)
          have vf13 := K_1 (V.2.2.2.2.1 (139) ((y1 : Int).toNat) (Nat.le_of_ble_eq_true rfl)) rk_139
          rw [evz12] at vf13
          exact LW_ireturn (st := []) rfl rfl rfl ⟨_, rfl, V, hG⟩
        by_cases vh14 : y2 = 3
        · refine S_tableIn (tgt := 115) (c := 3) rfl (hx2.trans vh14) (by decide) (by decide) rfl rfl ?_
          refine X_aload_n rfl rfl rfl rfl ?_
          refine X_getR (a := 339) rfl rfl rfl ((congrFun V.1 0).trans s_0) rfl ((congrFun (V.2.1 0 (by decide)) 5).trans r_0_5) ?_
          refine X_iload_n rfl rfl rfl rfl ?_
          refine X_iconst (v := (-1 : Int32)) rfl rfl rfl ?_
          refine Y_callV (as := [.int x1, .int (-1 : Int32)]) (st := []) rfl rfl rfl (by decide) rfl (Nat.le_of_ble_eq_true rfl) (by decide) (Nat.le_of_ble_eq_true rfl) rfl ((congrFun V.1 339).trans s_339) (by decide) (C_X4_binds V x1 y1 hx1 (by omega) (-1 : Int32) (-1) (show (-1 : Int32).toInt = -1 from rfl) (by omega) ) ?_
          rintro _ g ⟨vr15, rfl, hrvr150, hrvr151, V, hq⟩
          have hG := hq.trans hG
          refine S_if_eq (tgt := 131) rfl rfl rfl rfl (fun vh16 => ?_) (fun vh16 => ?_)
          · refine X_iconst (v := (0 : Int32)) rfl rfl rfl ?_
            exact LW_ireturn (st := []) rfl rfl rfl ⟨_, rfl, V, hG⟩
          · refine X_iconst (v := (1 : Int32)) rfl rfl rfl ?_
            refine LW_goto (tgt := 132) rfl rfl ?_
            exact LW_ireturn (st := []) rfl rfl rfl ⟨_, rfl, V, hG⟩
        by_cases vh17 : y2 = 4
        · refine S_tableIn (tgt := 133) (c := 4) rfl (hx2.trans vh17) (by decide) (by decide) rfl rfl ?_
          refine X_aload_n rfl rfl rfl rfl ?_
          refine X_getR (a := 339) rfl rfl rfl ((congrFun V.1 0).trans s_0) rfl ((congrFun (V.2.1 0 (by decide)) 5).trans r_0_5) ?_
          refine X_iload_n rfl rfl rfl rfl ?_
          refine X_aload_n rfl rfl rfl rfl ?_
          refine X_getR (a := 1) rfl rfl rfl ((congrFun V.1 0).trans s_0) rfl ((congrFun (V.2.1 0 (by decide)) 0).trans r_0_0) ?_
          refine X_getR (a := 10) rfl rfl rfl ((congrFun V.1 1).trans s_1) rfl ((congrFun (V.2.1 1 (by decide)) 1).trans r_1_1) ?_
          refine Y_callV (as := []) (st := [.int x1, .ref 339]) rfl rfl rfl (by decide) rfl (Nat.le_of_ble_eq_true rfl) (by decide) (Nat.le_of_ble_eq_true rfl) rfl ((congrFun V.1 10).trans s_10) (by decide) (C_X9_missing V  ) ?_
          rintro _ g' ⟨vr18, rfl, hgg⟩
          subst hgg
          refine Y_callV (as := [.int x1, .int vr18]) (st := []) rfl rfl rfl (by decide) rfl (Nat.le_of_ble_eq_true rfl) (by decide) (Nat.le_of_ble_eq_true rfl) rfl ((congrFun V.1 339).trans s_339) (by decide) (C_X4_broken V x1 y1 hx1 (by omega) vr18 vr18.toInt rfl ) ?_
          rintro _ g' ⟨vr19, rfl, hgg⟩
          subst hgg
          exact LW_ireturn (st := []) rfl rfl rfl ⟨_, rfl, V, hG⟩
        by_cases vh20 : y2 = 5
        · refine S_tableIn (tgt := 152) (c := 5) rfl (hx2.trans vh20) (by decide) (by decide) rfl rfl ?_
          refine X_aload_n rfl rfl rfl rfl ?_
          refine X_getR (a := 339) rfl rfl rfl ((congrFun V.1 0).trans s_0) rfl ((congrFun (V.2.1 0 (by decide)) 5).trans r_0_5) ?_
          refine X_iload_n rfl rfl rfl rfl ?_
          refine Y_callV (as := [.int x1]) (st := []) rfl rfl rfl (by decide) rfl (Nat.le_of_ble_eq_true rfl) (by decide) (Nat.le_of_ble_eq_true rfl) rfl ((congrFun V.1 339).trans s_339) (by decide) (C_X4_loophole V x1 y1 hx1 (by omega) ) ?_
          rintro _ g ⟨vr21, rfl, hrvr210, hrvr211, V, hq⟩
          have hG := hq.trans hG
          exact LW_ireturn (st := []) rfl rfl rfl ⟨_, rfl, V, hG⟩
        refine S_tableOut (tgt := 161) rfl hx2 (by omega) rfl ?_
        refine X_iload_n rfl rfl rfl rfl ?_
        refine X_bipush (v := (10 : Int32)) rfl rfl rfl ?_
        refine S_icmp_ge (tgt := 171) rfl rfl rfl hx2 (show (10 : Int32).toInt = 10 from rfl) (fun vh22 => ?_) (fun vh22 => ?_)
        · refine X_aload_n rfl rfl rfl rfl ?_
          refine X_getR (a := 1) rfl rfl rfl ((congrFun V.1 0).trans s_0) rfl ((congrFun (V.2.1 0 (by decide)) 0).trans r_0_0) ?_
          refine X_getR (a := 136) rfl rfl rfl ((congrFun V.1 1).trans s_1) rfl ((congrFun (V.2.1 1 (by decide)) 3).trans r_1_3) ?_
          refine X_iload_n rfl rfl rfl rfl ?_
          refine X_iload_n rfl rfl rfl rfl ?_
          refine X_bipush (v := (10 : Int32)) rfl rfl rfl ?_
          refine S_isubT rfl rfl (fun vz23 => ?_)
          refine Y_callV (as := [.int x1, .int vz23]) (st := []) rfl rfl rfl (by decide) rfl (Nat.le_of_ble_eq_true rfl) (by decide) (Nat.le_of_ble_eq_true rfl) rfl ((congrFun V.1 136).trans s_136) (by decide) (C_X0_wordAt V x1 y1 hx1 (by omega) vz23 vz23.toInt rfl ) ?_
          rintro _ g' ⟨vr24, rfl, hgg⟩
          subst hgg
          refine X_istore (i := 4) (ls' := [some (.ref 0), some (.int x1), some (.int x2), some (.int vz1), some (.int vr24)]) rfl rfl (Nat.le_of_ble_eq_true rfl) rfl ?_
          refine X_iload rfl rfl rfl ?_
          refine X_iconst (v := (-1 : Int32)) rfl rfl rfl ?_
          refine S_icmp_ne (tgt := 199) rfl rfl rfl rfl (show (-1 : Int32).toInt = -1 from rfl) (fun vh25 => ?_) (fun vh25 => ?_)
          · refine X_iload rfl rfl rfl ?_
            exact LW_ireturn (st := []) rfl rfl rfl ⟨_, rfl, V, hG⟩
          · refine X_bipush (v := (-2 : Int32)) rfl rfl rfl ?_
            refine LW_goto (tgt := 201) rfl rfl ?_
            exact LW_ireturn (st := []) rfl rfl rfl ⟨_, rfl, V, hG⟩
        · refine X_iconst (v := (-1 : Int32)) rfl rfl rfl ?_
          refine LW_goto (tgt := 186) rfl rfl ?_
          refine X_istore (i := 4) (ls' := [some (.ref 0), some (.int x1), some (.int x2), some (.int vz1), some (.int (-1 : Int32))]) rfl rfl (Nat.le_of_ble_eq_true rfl) rfl ?_
          refine X_iload rfl rfl rfl ?_
          refine X_iconst (v := (-1 : Int32)) rfl rfl rfl ?_
          refine S_icmp_ne (tgt := 199) rfl rfl rfl (show (-1 : Int32).toInt = -1 from rfl) (show (-1 : Int32).toInt = -1 from rfl) (fun q => absurd q (by omega)) (fun vh26 => ?_)
          refine X_bipush (v := (-2 : Int32)) rfl rfl rfl ?_
          refine LW_goto (tgt := 201) rfl rfl ?_
          exact LW_ireturn (st := []) rfl rfl rfl ⟨_, rfl, V, hG⟩
  · refine X_iload_n rfl rfl rfl rfl ?_
    exact LW_ireturn (st := []) rfl rfl rfl ⟨_, rfl, V, hG⟩
set_option maxRecDepth 10000 in
set_option maxHeartbeats 40000000 in
theorem C_X0_copyFrom_281_136 {P : Par} {g : LH} {d : Nat}  (V : Inv P g)    : LW 1 (d + 4) 0 0 0 (lEnt (mL 1) [.ref 281, .ref 136]) [] g (fun v g' => v = none ∧ Inv P g' ∧ Gr g' = Gr g) := by
  refine LW_ls (ls' := [some (.ref 281), some (.ref 136)]) rfl ?_
  have hG : Gr g = Gr g := rfl
  refine X_aload_n rfl rfl rfl rfl ?_
  refine X_getR (a := 137) rfl rfl rfl ((congrFun V.1 136).trans s_136) rfl ((congrFun (V.2.1 136 (by decide)) 0).trans r_136_0) ?_
  refine X_iconst (v := (0 : Int32)) rfl rfl rfl ?_
  refine X_aload_n rfl rfl rfl rfl ?_
  refine X_getR (a := 282) rfl rfl rfl ((congrFun V.1 281).trans s_281) rfl ((congrFun (V.2.1 281 (by decide)) 0).trans r_281_0) ?_
  refine X_iconst (v := (0 : Int32)) rfl rfl rfl ?_
  refine X_bipush (v := (10 : Int32)) rfl rfl rfl ?_
  refine S_copy (I := Inv _) (sp' := 0) (dp' := 0) (n' := 10) rfl rfl rfl ((congrFun V.1 137).trans s_137) ((congrFun V.1 282).trans s_282) (by decide) (by decide) (by decide) rfl rfl rfl (by decide) (by decide) (Nat.le_of_ble_eq_true rfl) (Inv_cpy V (Nat.le_of_ble_eq_true rfl) (Nat.le_of_ble_eq_true rfl) (by omega) (U_0 rk_137 rk_282)) (fun g V vn1 hq => ?_)
  have hG := hq.trans hG
  refine X_aload_n rfl rfl rfl rfl ?_
  refine X_getR (a := 138) rfl rfl rfl ((congrFun V.1 136).trans s_136) rfl ((congrFun (V.2.1 136 (by decide)) 1).trans r_136_1) ?_
  refine X_iconst (v := (0 : Int32)) rfl rfl rfl ?_
  refine X_aload_n rfl rfl rfl rfl ?_
  refine X_getR (a := 283) rfl rfl rfl ((congrFun V.1 281).trans s_281) rfl ((congrFun (V.2.1 281 (by decide)) 1).trans r_281_1) ?_
  refine X_iconst (v := (0 : Int32)) rfl rfl rfl ?_
  refine X_bipush (v := (10 : Int32)) rfl rfl rfl ?_
  refine S_copy (I := Inv _) (sp' := 0) (dp' := 0) (n' := 10) rfl rfl rfl ((congrFun V.1 138).trans s_138) ((congrFun V.1 283).trans s_283) (by decide) (by decide) (by decide) rfl rfl rfl (by decide) (by decide) (Nat.le_of_ble_eq_true rfl) (Inv_cpy V (Nat.le_of_ble_eq_true rfl) (Nat.le_of_ble_eq_true rfl) (by omega) (U_0 rk_138 rk_283)) (fun g V vn2 hq => ?_)
  have hG := hq.trans hG
  refine X_aload_n rfl rfl rfl rfl ?_
  refine X_getR (a := 139) rfl rfl rfl ((congrFun V.1 136).trans s_136) rfl ((congrFun (V.2.1 136 (by decide)) 2).trans r_136_2) ?_
  refine X_iconst (v := (0 : Int32)) rfl rfl rfl ?_
  refine X_aload_n rfl rfl rfl rfl ?_
  refine X_getR (a := 284) rfl rfl rfl ((congrFun V.1 281).trans s_281) rfl ((congrFun (V.2.1 281 (by decide)) 2).trans r_281_2) ?_
  refine X_iconst (v := (0 : Int32)) rfl rfl rfl ?_
  refine X_bipush (v := (10 : Int32)) rfl rfl rfl ?_
  refine S_copy (I := Inv _) (sp' := 0) (dp' := 0) (n' := 10) rfl rfl rfl ((congrFun V.1 139).trans s_139) ((congrFun V.1 284).trans s_284) (by decide) (by decide) (by decide) rfl rfl rfl (by decide) (by decide) (Nat.le_of_ble_eq_true rfl) (Inv_cpy V (Nat.le_of_ble_eq_true rfl) (Nat.le_of_ble_eq_true rfl) (by omega) (U_1 rk_139 rk_284)) (fun g V vn3 hq => ?_)
  have hG := hq.trans hG
  refine X_aload_n rfl rfl rfl rfl ?_
  refine X_getR (a := 140) rfl rfl rfl ((congrFun V.1 136).trans s_136) rfl ((congrFun (V.2.1 136 (by decide)) 3).trans r_136_3) ?_
  refine X_iconst (v := (0 : Int32)) rfl rfl rfl ?_
  refine X_aload_n rfl rfl rfl rfl ?_
  refine X_getR (a := 285) rfl rfl rfl ((congrFun V.1 281).trans s_281) rfl ((congrFun (V.2.1 281 (by decide)) 3).trans r_281_3) ?_
  refine X_iconst (v := (0 : Int32)) rfl rfl rfl ?_
  refine X_bipush (v := (80 : Int32)) rfl rfl rfl ?_
  refine S_copy (I := Inv _) (sp' := 0) (dp' := 0) (n' := 80) rfl rfl rfl ((congrFun V.1 140).trans s_140) ((congrFun V.1 285).trans s_285) (by decide) (by decide) (by decide) rfl rfl rfl (by decide) (by decide) (Nat.le_of_ble_eq_true rfl) (Inv_cpy V (Nat.le_of_ble_eq_true rfl) (Nat.le_of_ble_eq_true rfl) (by omega) (U_0 rk_140 rk_285)) (fun g V vn4 hq => ?_)
  have hG := hq.trans hG
  exact LW_return (st := []) rfl rfl ⟨rfl, V, hG⟩
set_option maxRecDepth 10000 in
set_option maxHeartbeats 40000000 in
theorem C_X3_copyFrom_159_14_18 {P : Par} {g g0 : LH} {d n : Nat}  (V : Inv P g) (hG : Gr g = Gr g0) (x2 : Int32) (y2 : Int) (hx2 : x2.toInt = y2) (hf2 : 0 ≤ y2 ∧ y2 ≤ 30) (hc14_0 : 0 ≤ (Gi g 14 0).toInt ∧ (Gi g 14 0).toInt ≤ 30) (hc14_1 : 0 ≤ (Gi g 14 1).toInt ∧ (Gi g 14 1).toInt ≤ 29) (hc159_0 : 0 ≤ (Gi g 159 0).toInt ∧ (Gi g 159 0).toInt ≤ 30) (hc159_1 : 0 ≤ (Gi g 159 1).toInt ∧ (Gi g 159 1).toInt ≤ 29) (hmu : (30 - y2) * 1 + 0 < (n : Int) + 1) (ih18 : ∀ (g : LH) (V : Inv P g) (hG : Gr g = Gr g0) (x2 : Int32) (y2 : Int) (hx2 : x2.toInt = y2) (hf2 : 0 ≤ y2 ∧ y2 ≤ 30) (hc14_0 : 0 ≤ (Gi g 14 0).toInt ∧ (Gi g 14 0).toInt ≤ 30) (hc14_1 : 0 ≤ (Gi g 14 1).toInt ∧ (Gi g 14 1).toInt ≤ 29) (hc159_0 : 0 ≤ (Gi g 159 0).toInt ∧ (Gi g 159 0).toInt ≤ 30) (hc159_1 : 0 ≤ (Gi g 159 1).toInt ∧ (Gi g 159 1).toInt ≤ 29), (30 - y2) * 1 + 0 < (n : Int) → LW 23 (d + 5) 0 0 18 [some (.ref 159), some (.ref 14), some (.int x2)] [] g (fun v g' => v = none ∧ Inv P g' ∧ Gr g' = Gr g0)) : LW 23 (d + 5) 0 0 18 [some (.ref 159), some (.ref 14), some (.int x2)] [] g (fun v g' => v = none ∧ Inv P g' ∧ Gr g' = Gr g0) := by
  obtain ⟨vz1, evz1⟩ : ∃ z, Gi g 14 0 = z := ⟨_, rfl⟩
  rw [evz1] at hc14_0
  obtain ⟨vz2, evz2⟩ : ∃ z, Gi g 14 1 = z := ⟨_, rfl⟩
  rw [evz2] at hc14_1
  obtain ⟨vz3, evz3⟩ : ∃ z, Gi g 159 0 = z := ⟨_, rfl⟩
  rw [evz3] at hc159_0
  obtain ⟨vz4, evz4⟩ : ∃ z, Gi g 159 1 = z := ⟨_, rfl⟩
  rw [evz4] at hc159_1
  refine X_iload_n rfl rfl rfl rfl ?_
  refine X_bipush (v := (30 : Int32)) rfl rfl rfl ?_
  refine S_icmp_ge (tgt := 45) rfl rfl rfl hx2 (show (30 : Int32).toInt = 30 from rfl) (fun vh5 => ?_) (fun vh5 => ?_)
  · exact LW_return (st := []) rfl rfl ⟨rfl, V, hG⟩
  · refine X_aload_n rfl rfl rfl rfl ?_
    refine X_getR (a := 160) rfl rfl rfl ((congrFun V.1 159).trans s_159) rfl ((congrFun (V.2.1 159 (by decide)) 2).trans r_159_2) ?_
    refine X_iload_n rfl rfl rfl rfl ?_
    obtain ⟨w, hw, ew⟩ : ∃ t : Nat, t < 30 ∧ (t : Int) = y2 := ⟨(y2 : Int).toNat, by omega, by omega⟩
    refine X_aald (a := 161 + 4 * w) (t0 := 3) rfl rfl ((congrFun V.1 160).trans s_160) rfl (ti_idx (n := 30) hx2 (by omega)).1 (by rw [(ti_idx (n := 30) hx2 (by omega)).2, show (y2 : Int).toNat = w by omega]; exact (congrFun (V.2.1 160 (by decide)) w).trans (sk_a w hw)) ?_
    refine X_aload_n rfl rfl rfl rfl ?_
    refine X_getR (a := 15) rfl rfl rfl ((congrFun V.1 14).trans s_14) rfl ((congrFun (V.2.1 14 (by decide)) 2).trans r_14_2) ?_
    refine X_iload_n rfl rfl rfl rfl ?_
    obtain ⟨t, ht, et⟩ : ∃ t : Nat, t < 30 ∧ (t : Int) = y2 := ⟨(y2 : Int).toNat, by omega, by omega⟩
    refine X_aald (a := 16 + 4 * t) (t0 := 3) rfl rfl ((congrFun V.1 15).trans s_15) rfl (ti_idx (n := 30) hx2 (by omega)).1 (by rw [(ti_idx (n := 30) hx2 (by omega)).2, show (y2 : Int).toNat = t by omega]; exact (congrFun (V.2.1 15 (by decide)) t).trans (sp_a t ht)) ?_
    refine X_callV (as := [.ref (16 + 4 * t)]) (st := []) rfl rfl rfl (by decide) rfl (Nat.le_of_ble_eq_true rfl) (by decide) (Nat.le_of_ble_eq_true rfl) rfl ((congrFun V.1 _).trans (sk_s w hw)) (by decide) ?_
    refine LW_ls (ls' := [some (.ref (161 + 4 * w)), some (.ref (16 + 4 * t))]) rfl ?_
    refine X_aload_n rfl rfl rfl rfl ?_
    refine X_aload_n rfl rfl rfl rfl ?_
    refine S_getI rfl rfl rfl ((congrFun V.1 _).trans (sp_s t ht)) rfl (fun vz6 evz6 => ?_)
    refine S_putI (I := Inv _) rfl rfl rfl ((congrFun V.1 _).trans (sk_s w hw)) rfl rfl rfl rfl (Inv_putI V (by omega) (Or.inl (by omega)) (Q_11_0 (sk_k w hw))) (fun g V ve7 vn8 hq => ?_)
    have hG := hq.trans hG
    have evz1 := (vn8 (14) 0 (Or.inl (by omega))).trans evz1
    have evz2 := (vn8 (14) 1 (Or.inl (by omega))).trans evz2
    have evz3 := (vn8 (159) 0 (Or.inl (by omega))).trans evz3
    have evz4 := (vn8 (159) 1 (Or.inl (by omega))).trans evz4
    have evz6 := (vn8 (16 + 4 * t) 0 (Or.inl (by omega))).trans evz6
    refine X_aload_n rfl rfl rfl rfl ?_
    refine X_aload_n rfl rfl rfl rfl ?_
    refine S_getI rfl rfl rfl ((congrFun V.1 _).trans (sp_s t ht)) rfl (fun vz9 evz9 => ?_)
    refine S_putI (I := Inv _) rfl rfl rfl ((congrFun V.1 _).trans (sk_s w hw)) rfl rfl rfl rfl (Inv_putI V (by omega) (Or.inl (by omega)) (Q_11_1 (sk_k w hw))) (fun g V ve10 vn11 hq => ?_)
    have hG := hq.trans hG
    have evz1 := (vn11 (14) 0 (Or.inl (by omega))).trans evz1
    have evz2 := (vn11 (14) 1 (Or.inl (by omega))).trans evz2
    have evz3 := (vn11 (159) 0 (Or.inl (by omega))).trans evz3
    have evz4 := (vn11 (159) 1 (Or.inl (by omega))).trans evz4
    have evz6 := (vn11 (16 + 4 * t) 0 (Or.inl (by omega))).trans evz6
    have ve7 := (vn11 (161 + 4 * w) 0 (Or.inr (by decide))).trans ve7
    have evz9 := (vn11 (16 + 4 * t) 1 (Or.inl (by omega))).trans evz9
    refine X_aload_n rfl rfl rfl rfl ?_
    refine X_aload_n rfl rfl rfl rfl ?_
    refine S_getI rfl rfl rfl ((congrFun V.1 _).trans (sp_s t ht)) rfl (fun vz12 evz12 => ?_)
    refine S_putI (I := Inv _) rfl rfl rfl ((congrFun V.1 _).trans (sk_s w hw)) rfl rfl rfl rfl (Inv_putI V (by omega) (Or.inl (by omega)) (Q_11_2 (sk_k w hw))) (fun g V ve13 vn14 hq => ?_)
    have hG := hq.trans hG
    have evz1 := (vn14 (14) 0 (Or.inl (by omega))).trans evz1
    have evz2 := (vn14 (14) 1 (Or.inl (by omega))).trans evz2
    have evz3 := (vn14 (159) 0 (Or.inl (by omega))).trans evz3
    have evz4 := (vn14 (159) 1 (Or.inl (by omega))).trans evz4
    have evz6 := (vn14 (16 + 4 * t) 0 (Or.inl (by omega))).trans evz6
    have ve7 := (vn14 (161 + 4 * w) 0 (Or.inr (by decide))).trans ve7
    have evz9 := (vn14 (16 + 4 * t) 1 (Or.inl (by omega))).trans evz9
    have ve10 := (vn14 (161 + 4 * w) 1 (Or.inr (by decide))).trans ve10
    have evz12 := (vn14 (16 + 4 * t) 2 (Or.inl (by omega))).trans evz12
    refine X_aload_n rfl rfl rfl rfl ?_
    refine X_aload_n rfl rfl rfl rfl ?_
    refine S_getI rfl rfl rfl ((congrFun V.1 _).trans (sp_s t ht)) rfl (fun vz15 evz15 => ?_)
    have vf16 := K_11_3 (V.2.2.2.2.1 (16 + 4 * t) (3) (by omega)) (sp_k t ht)
    rw [evz15] at vf16
    refine S_putI (I := Inv _) rfl rfl rfl ((congrFun V.1 _).trans (sk_s w hw)) rfl rfl rfl rfl (Inv_putI V (by omega) (Or.inl (by omega)) (Q_11_3 (sk_k w hw) (by omega))) (fun g V ve17 vn18 hq => ?_)
    have hG := hq.trans hG
    have evz1 := (vn18 (14) 0 (Or.inl (by omega))).trans evz1
    have evz2 := (vn18 (14) 1 (Or.inl (by omega))).trans evz2
    have evz3 := (vn18 (159) 0 (Or.inl (by omega))).trans evz3
    have evz4 := (vn18 (159) 1 (Or.inl (by omega))).trans evz4
    have evz6 := (vn18 (16 + 4 * t) 0 (Or.inl (by omega))).trans evz6
    have ve7 := (vn18 (161 + 4 * w) 0 (Or.inr (by decide))).trans ve7
    have evz9 := (vn18 (16 + 4 * t) 1 (Or.inl (by omega))).trans evz9
    have ve10 := (vn18 (161 + 4 * w) 1 (Or.inr (by decide))).trans ve10
    have evz12 := (vn18 (16 + 4 * t) 2 (Or.inl (by omega))).trans evz12
    have ve13 := (vn18 (161 + 4 * w) 2 (Or.inr (by decide))).trans ve13
    have evz15 := (vn18 (16 + 4 * t) 3 (Or.inl (by omega))).trans evz15
    refine X_aload_n rfl rfl rfl rfl ?_
    refine X_getR (a := 17 + 4 * t) rfl rfl rfl ((congrFun V.1 _).trans (sp_s t ht)) rfl ((congrFun (V.2.1 (16 + 4 * t) (by omega)) 4).trans (sp_r4 t ht)) ?_
    refine X_iconst (v := (0 : Int32)) rfl rfl rfl ?_
    refine X_aload_n rfl rfl rfl rfl ?_
    refine X_getR (a := 162 + 4 * w) rfl rfl rfl ((congrFun V.1 _).trans (sk_s w hw)) rfl ((congrFun (V.2.1 (161 + 4 * w) (by omega)) 4).trans (sk_r4 w hw)) ?_
    refine X_iconst (v := (0 : Int32)) rfl rfl rfl ?_
    refine X_bipush (v := (26 : Int32)) rfl rfl rfl ?_
    refine S_copy (I := Inv _) (sp' := 0) (dp' := 0) (n' := 26) rfl rfl rfl ((congrFun V.1 _).trans (sp_s4 t ht)) ((congrFun V.1 _).trans (sk_s4 w hw)) (by decide) (by decide) (by decide) rfl rfl rfl (by decide) (by decide) (Nat.le_of_ble_eq_true rfl) (Inv_cpy V (by omega) (by omega) (by omega) (U_0 (sp_k4 t ht) (sk_k4 w hw))) (fun g V vn19 hq => ?_)
    have hG := hq.trans hG
    have evz1 := (vn19 (14) 0 (by omega)).trans evz1
    have evz2 := (vn19 (14) 1 (by omega)).trans evz2
    have evz3 := (vn19 (159) 0 (by omega)).trans evz3
    have evz4 := (vn19 (159) 1 (by omega)).trans evz4
    have evz6 := (vn19 (16 + 4 * t) 0 (by omega)).trans evz6
    have ve7 := (vn19 (161 + 4 * w) 0 (by omega)).trans ve7
    have evz9 := (vn19 (16 + 4 * t) 1 (by omega)).trans evz9
    have ve10 := (vn19 (161 + 4 * w) 1 (by omega)).trans ve10
    have evz12 := (vn19 (16 + 4 * t) 2 (by omega)).trans evz12
    have ve13 := (vn19 (161 + 4 * w) 2 (by omega)).trans ve13
    have evz15 := (vn19 (16 + 4 * t) 3 (by omega)).trans evz15
    have ve17 := (vn19 (161 + 4 * w) 3 (by omega)).trans ve17
    refine X_aload_n rfl rfl rfl rfl ?_
    refine X_getR (a := 18 + 4 * t) rfl rfl rfl ((congrFun V.1 _).trans (sp_s t ht)) rfl ((congrFun (V.2.1 (16 + 4 * t) (by omega)) 5).trans (sp_r5 t ht)) ?_
    refine X_iconst (v := (0 : Int32)) rfl rfl rfl ?_
    refine X_aload_n rfl rfl rfl rfl ?_
    refine X_getR (a := 163 + 4 * w) rfl rfl rfl ((congrFun V.1 _).trans (sk_s w hw)) rfl ((congrFun (V.2.1 (161 + 4 * w) (by omega)) 5).trans (sk_r5 w hw)) ?_
    refine X_iconst (v := (0 : Int32)) rfl rfl rfl ?_
    refine X_bipush (v := (26 : Int32)) rfl rfl rfl ?_
    refine S_copy (I := Inv _) (sp' := 0) (dp' := 0) (n' := 26) rfl rfl rfl ((congrFun V.1 _).trans (sp_s5 t ht)) ((congrFun V.1 _).trans (sk_s5 w hw)) (by decide) (by decide) (by decide) rfl rfl rfl (by decide) (by decide) (Nat.le_of_ble_eq_true rfl) (Inv_cpy V (by omega) (by omega) (by omega) (U_0 (sp_k5 t ht) (sk_k5 w hw))) (fun g V vn20 hq => ?_)
    have hG := hq.trans hG
    have evz1 := (vn20 (14) 0 (by omega)).trans evz1
    have evz2 := (vn20 (14) 1 (by omega)).trans evz2
    have evz3 := (vn20 (159) 0 (by omega)).trans evz3
    have evz4 := (vn20 (159) 1 (by omega)).trans evz4
    have evz6 := (vn20 (16 + 4 * t) 0 (by omega)).trans evz6
    have ve7 := (vn20 (161 + 4 * w) 0 (by omega)).trans ve7
    have evz9 := (vn20 (16 + 4 * t) 1 (by omega)).trans evz9
    have ve10 := (vn20 (161 + 4 * w) 1 (by omega)).trans ve10
    have evz12 := (vn20 (16 + 4 * t) 2 (by omega)).trans evz12
    have ve13 := (vn20 (161 + 4 * w) 2 (by omega)).trans ve13
    have evz15 := (vn20 (16 + 4 * t) 3 (by omega)).trans evz15
    have ve17 := (vn20 (161 + 4 * w) 3 (by omega)).trans ve17
    refine X_aload_n rfl rfl rfl rfl ?_
    refine X_getR (a := 19 + 4 * t) rfl rfl rfl ((congrFun V.1 _).trans (sp_s t ht)) rfl ((congrFun (V.2.1 (16 + 4 * t) (by omega)) 6).trans (sp_r6 t ht)) ?_
    refine X_iconst (v := (0 : Int32)) rfl rfl rfl ?_
    refine X_aload_n rfl rfl rfl rfl ?_
    refine X_getR (a := 164 + 4 * w) rfl rfl rfl ((congrFun V.1 _).trans (sk_s w hw)) rfl ((congrFun (V.2.1 (161 + 4 * w) (by omega)) 6).trans (sk_r6 w hw)) ?_
    refine X_iconst (v := (0 : Int32)) rfl rfl rfl ?_
    refine X_bipush (v := (26 : Int32)) rfl rfl rfl ?_
    refine S_copy (I := Inv _) (sp' := 0) (dp' := 0) (n' := 26) rfl rfl rfl ((congrFun V.1 _).trans (sp_s6 t ht)) ((congrFun V.1 _).trans (sk_s6 w hw)) (by decide) (by decide) (by decide) rfl rfl rfl (by decide) (by decide) (Nat.le_of_ble_eq_true rfl) (Inv_cpy V (by omega) (by omega) (by omega) (U_0 (sp_k6 t ht) (sk_k6 w hw))) (fun g V vn21 hq => ?_)
    have hG := hq.trans hG
    have evz1 := (vn21 (14) 0 (by omega)).trans evz1
    have evz2 := (vn21 (14) 1 (by omega)).trans evz2
    have evz3 := (vn21 (159) 0 (by omega)).trans evz3
    have evz4 := (vn21 (159) 1 (by omega)).trans evz4
    have evz6 := (vn21 (16 + 4 * t) 0 (by omega)).trans evz6
    have ve7 := (vn21 (161 + 4 * w) 0 (by omega)).trans ve7
    have evz9 := (vn21 (16 + 4 * t) 1 (by omega)).trans evz9
    have ve10 := (vn21 (161 + 4 * w) 1 (by omega)).trans ve10
    have evz12 := (vn21 (16 + 4 * t) 2 (by omega)).trans evz12
    have ve13 := (vn21 (161 + 4 * w) 2 (by omega)).trans ve13
    have evz15 := (vn21 (16 + 4 * t) 3 (by omega)).trans evz15
    have ve17 := (vn21 (161 + 4 * w) 3 (by omega)).trans ve17
    refine LW_return (st := []) rfl rfl ?_
    refine S_iinc (c := 1) rfl rfl rfl hx2 rfl (by omega) (fun vz22 hvz22 => ?_)
    refine LW_ls (ls' := [some (.ref 159), some (.ref 14), some (.int vz22)]) rfl ?_
    refine LW_goto (tgt := 18) rfl rfl ?_
    exact ih18 _ V hG vz22 vz22.toInt rfl (by omega) (by rw [evz1]; omega) (by rw [evz2]; omega) (by rw [evz3]; omega) (by rw [evz4]; omega)   (by omega)
theorem C_X3_copyFrom_159_14_all {P : Par} {g0 : LH} {d : Nat}  : ∀ n : Nat, (∀ (g : LH) (V : Inv P g) (hG : Gr g = Gr g0) (x2 : Int32) (y2 : Int) (hx2 : x2.toInt = y2) (hf2 : 0 ≤ y2 ∧ y2 ≤ 30) (hc14_0 : 0 ≤ (Gi g 14 0).toInt ∧ (Gi g 14 0).toInt ≤ 30) (hc14_1 : 0 ≤ (Gi g 14 1).toInt ∧ (Gi g 14 1).toInt ≤ 29) (hc159_0 : 0 ≤ (Gi g 159 0).toInt ∧ (Gi g 159 0).toInt ≤ 30) (hc159_1 : 0 ≤ (Gi g 159 1).toInt ∧ (Gi g 159 1).toInt ≤ 29), (30 - y2) * 1 + 0 < (n : Int) → LW 23 (d + 5) 0 0 18 [some (.ref 159), some (.ref 14), some (.int x2)] [] g (fun v g' => v = none ∧ Inv P g' ∧ Gr g' = Gr g0)) := by
  intro n
  induction n with
  | zero => exact fun g V hG x2 y2 hx2 hf2 hc14_0 hc14_1 hc159_0 hc159_1 hmu => absurd hmu (by omega)
  | succ n ih => exact fun g V hG x2 y2 hx2 hf2 hc14_0 hc14_1 hc159_0 hc159_1 hmu => C_X3_copyFrom_159_14_18  V hG x2 y2 hx2 hf2 hc14_0 hc14_1 hc159_0 hc159_1 (by omega) ih
set_option maxRecDepth 10000 in
set_option maxHeartbeats 40000000 in
theorem C_X3_copyFrom_159_14 {P : Par} {g : LH} {d : Nat}  (V : Inv P g)    : LW 23 (d + 5) 0 0 0 (lEnt (mL 23) [.ref 159, .ref 14]) [] g (fun v g' => v = none ∧ Inv P g' ∧ Gr g' = Gr g) := by
  refine LW_ls (ls' := [some (.ref 159), some (.ref 14), none]) rfl ?_
  have hG : Gr g = Gr g := rfl
  refine X_aload_n rfl rfl rfl rfl ?_
  refine X_aload_n rfl rfl rfl rfl ?_
  refine S_getI rfl rfl rfl ((congrFun V.1 14).trans s_14) rfl (fun vz1 evz1 => ?_)
  have vf2 := K_12_0 (V.2.2.2.2.1 (14) (0) (Nat.le_of_ble_eq_true rfl)) rk_14
  rw [evz1] at vf2
  refine S_putI (I := Inv _) rfl rfl rfl ((congrFun V.1 159).trans s_159) rfl rfl rfl rfl (Inv_putI V (Nat.le_of_ble_eq_true rfl) (Or.inl (by decide)) (Q_12_0 rk_159 (by omega))) (fun g V ve3 vn4 hq => ?_)
  have hG := hq.trans hG
  have evz1 := (vn4 (14) 0 (Or.inl (by decide))).trans evz1
  refine X_aload_n rfl rfl rfl rfl ?_
  refine X_aload_n rfl rfl rfl rfl ?_
  refine S_getI rfl rfl rfl ((congrFun V.1 14).trans s_14) rfl (fun vz5 evz5 => ?_)
  have vf6 := K_12_1 (V.2.2.2.2.1 (14) (1) (Nat.le_of_ble_eq_true rfl)) rk_14
  rw [evz5] at vf6
  refine S_putI (I := Inv _) rfl rfl rfl ((congrFun V.1 159).trans s_159) rfl rfl rfl rfl (Inv_putI V (Nat.le_of_ble_eq_true rfl) (Or.inl (by decide)) (Q_12_1 rk_159 (by omega))) (fun g V ve7 vn8 hq => ?_)
  have hG := hq.trans hG
  have evz1 := (vn8 (14) 0 (Or.inl (by decide))).trans evz1
  have ve3 := (vn8 (159) 0 (Or.inr (by decide))).trans ve3
  have evz5 := (vn8 (14) 1 (Or.inl (by decide))).trans evz5
  refine X_iconst (v := (0 : Int32)) rfl rfl rfl ?_
  refine X_istore_n (i := 2) (ls' := [some (.ref 159), some (.ref 14), some (.int (0 : Int32))]) rfl rfl rfl (Nat.le_of_ble_eq_true rfl) rfl ?_
  exact (C_X3_copyFrom_159_14_all (((30 - 0) * 1 + 0) + 1 : Int).toNat) _ V hG (0 : Int32) 0 (show (0 : Int32).toInt = 0 from rfl) (by omega) (by rw [evz1]; omega) (by rw [evz5]; omega) (by rw [ve3]; omega) (by rw [ve7]; omega)   (by omega)
set_option maxRecDepth 10000 in
set_option maxHeartbeats 40000000 in
theorem C_X5_copyFrom_147_2 {P : Par} {g : LH} {d : Nat}  (V : Inv P g)    : LW 39 (d + 4) 0 0 0 (lEnt (mL 39) [.ref 147, .ref 2]) [] g (fun v g' => v = none ∧ Inv P g' ∧ Gr g' = Gr g) := by
  refine LW_ls (ls' := [some (.ref 147), some (.ref 2)]) rfl ?_
  have hG : Gr g = Gr g := rfl
  refine X_aload_n rfl rfl rfl rfl ?_
  refine X_aload_n rfl rfl rfl rfl ?_
  refine S_getI rfl rfl rfl ((congrFun V.1 2).trans s_2) rfl (fun vz1 evz1 => ?_)
  have vf2 := K_10_0 (V.2.2.2.2.1 (2) (0) (Nat.le_of_ble_eq_true rfl)) rk_2
  rw [evz1] at vf2
  refine S_putI (I := Inv _) rfl rfl rfl ((congrFun V.1 147).trans s_147) rfl rfl rfl rfl (Inv_putI V (Nat.le_of_ble_eq_true rfl) (Or.inl (by decide)) (Q_10_0 rk_147 (by omega))) (fun g V ve3 vn4 hq => ?_)
  have hG := hq.trans hG
  have evz1 := (vn4 (2) 0 (Or.inl (by decide))).trans evz1
  refine X_aload_n rfl rfl rfl rfl ?_
  refine X_aload_n rfl rfl rfl rfl ?_
  refine S_getI rfl rfl rfl ((congrFun V.1 2).trans s_2) rfl (fun vz5 evz5 => ?_)
  have vf6 := K_10_1 (V.2.2.2.2.1 (2) (1) (Nat.le_of_ble_eq_true rfl)) rk_2
  rw [evz5] at vf6
  refine S_putI (I := Inv _) rfl rfl rfl ((congrFun V.1 147).trans s_147) rfl rfl rfl rfl (Inv_putI V (Nat.le_of_ble_eq_true rfl) (Or.inl (by decide)) (Q_10_1 rk_147 (by omega))) (fun g V ve7 vn8 hq => ?_)
  have hG := hq.trans hG
  have evz1 := (vn8 (2) 0 (Or.inl (by decide))).trans evz1
  have ve3 := (vn8 (147) 0 (Or.inr (by decide))).trans ve3
  have evz5 := (vn8 (2) 1 (Or.inl (by decide))).trans evz5
  refine X_aload_n rfl rfl rfl rfl ?_
  refine X_getR (a := 3) rfl rfl rfl ((congrFun V.1 2).trans s_2) rfl ((congrFun (V.2.1 2 (by decide)) 2).trans r_2_2) ?_
  refine X_iconst (v := (0 : Int32)) rfl rfl rfl ?_
  refine X_aload_n rfl rfl rfl rfl ?_
  refine X_getR (a := 148) rfl rfl rfl ((congrFun V.1 147).trans s_147) rfl ((congrFun (V.2.1 147 (by decide)) 2).trans r_147_2) ?_
  refine X_iconst (v := (0 : Int32)) rfl rfl rfl ?_
  refine X_bipush (v := (24 : Int32)) rfl rfl rfl ?_
  refine S_copy (I := Inv _) (sp' := 0) (dp' := 0) (n' := 24) rfl rfl rfl ((congrFun V.1 3).trans s_3) ((congrFun V.1 148).trans s_148) (by decide) (by decide) (by decide) rfl rfl rfl (by decide) (by decide) (Nat.le_of_ble_eq_true rfl) (Inv_cpy V (Nat.le_of_ble_eq_true rfl) (Nat.le_of_ble_eq_true rfl) (by omega) (U_1 rk_3 rk_148)) (fun g V vn9 hq => ?_)
  have hG := hq.trans hG
  have evz1 := (vn9 (2) 0 (by decide)).trans evz1
  have ve3 := (vn9 (147) 0 (by decide)).trans ve3
  have evz5 := (vn9 (2) 1 (by decide)).trans evz5
  have ve7 := (vn9 (147) 1 (by decide)).trans ve7
  refine X_aload_n rfl rfl rfl rfl ?_
  refine X_getR (a := 4) rfl rfl rfl ((congrFun V.1 2).trans s_2) rfl ((congrFun (V.2.1 2 (by decide)) 3).trans r_2_3) ?_
  refine X_iconst (v := (0 : Int32)) rfl rfl rfl ?_
  refine X_aload_n rfl rfl rfl rfl ?_
  refine X_getR (a := 149) rfl rfl rfl ((congrFun V.1 147).trans s_147) rfl ((congrFun (V.2.1 147 (by decide)) 3).trans r_147_3) ?_
  refine X_iconst (v := (0 : Int32)) rfl rfl rfl ?_
  refine X_bipush (v := (24 : Int32)) rfl rfl rfl ?_
  refine S_copy (I := Inv _) (sp' := 0) (dp' := 0) (n' := 24) rfl rfl rfl ((congrFun V.1 4).trans s_4) ((congrFun V.1 149).trans s_149) (by decide) (by decide) (by decide) rfl rfl rfl (by decide) (by decide) (Nat.le_of_ble_eq_true rfl) (Inv_cpy V (Nat.le_of_ble_eq_true rfl) (Nat.le_of_ble_eq_true rfl) (by omega) (U_2 rk_4 rk_149)) (fun g V vn10 hq => ?_)
  have hG := hq.trans hG
  have evz1 := (vn10 (2) 0 (by decide)).trans evz1
  have ve3 := (vn10 (147) 0 (by decide)).trans ve3
  have evz5 := (vn10 (2) 1 (by decide)).trans evz5
  have ve7 := (vn10 (147) 1 (by decide)).trans ve7
  refine X_aload_n rfl rfl rfl rfl ?_
  refine X_getR (a := 5) rfl rfl rfl ((congrFun V.1 2).trans s_2) rfl ((congrFun (V.2.1 2 (by decide)) 4).trans r_2_4) ?_
  refine X_iconst (v := (0 : Int32)) rfl rfl rfl ?_
  refine X_aload_n rfl rfl rfl rfl ?_
  refine X_getR (a := 150) rfl rfl rfl ((congrFun V.1 147).trans s_147) rfl ((congrFun (V.2.1 147 (by decide)) 4).trans r_147_4) ?_
  refine X_iconst (v := (0 : Int32)) rfl rfl rfl ?_
  refine X_bipush (v := (24 : Int32)) rfl rfl rfl ?_
  refine S_copy (I := Inv _) (sp' := 0) (dp' := 0) (n' := 24) rfl rfl rfl ((congrFun V.1 5).trans s_5) ((congrFun V.1 150).trans s_150) (by decide) (by decide) (by decide) rfl rfl rfl (by decide) (by decide) (Nat.le_of_ble_eq_true rfl) (Inv_cpy V (Nat.le_of_ble_eq_true rfl) (Nat.le_of_ble_eq_true rfl) (by omega) (U_0 rk_5 rk_150)) (fun g V vn11 hq => ?_)
  have hG := hq.trans hG
  have evz1 := (vn11 (2) 0 (by decide)).trans evz1
  have ve3 := (vn11 (147) 0 (by decide)).trans ve3
  have evz5 := (vn11 (2) 1 (by decide)).trans evz5
  have ve7 := (vn11 (147) 1 (by decide)).trans ve7
  refine X_aload_n rfl rfl rfl rfl ?_
  refine X_getR (a := 6) rfl rfl rfl ((congrFun V.1 2).trans s_2) rfl ((congrFun (V.2.1 2 (by decide)) 5).trans r_2_5) ?_
  refine X_iconst (v := (0 : Int32)) rfl rfl rfl ?_
  refine X_aload_n rfl rfl rfl rfl ?_
  refine X_getR (a := 151) rfl rfl rfl ((congrFun V.1 147).trans s_147) rfl ((congrFun (V.2.1 147 (by decide)) 5).trans r_147_5) ?_
  refine X_iconst (v := (0 : Int32)) rfl rfl rfl ?_
  refine X_sipush (v := (192 : Int32)) rfl rfl rfl ?_
  refine S_copy (I := Inv _) (sp' := 0) (dp' := 0) (n' := 192) rfl rfl rfl ((congrFun V.1 6).trans s_6) ((congrFun V.1 151).trans s_151) (by decide) (by decide) (by decide) rfl rfl rfl (by decide) (by decide) (Nat.le_of_ble_eq_true rfl) (Inv_cpy V (Nat.le_of_ble_eq_true rfl) (Nat.le_of_ble_eq_true rfl) (by omega) (U_3 rk_6 rk_151)) (fun g V vn12 hq => ?_)
  have hG := hq.trans hG
  have evz1 := (vn12 (2) 0 (by decide)).trans evz1
  have ve3 := (vn12 (147) 0 (by decide)).trans ve3
  have evz5 := (vn12 (2) 1 (by decide)).trans evz5
  have ve7 := (vn12 (147) 1 (by decide)).trans ve7
  refine X_aload_n rfl rfl rfl rfl ?_
  refine X_getR (a := 7) rfl rfl rfl ((congrFun V.1 2).trans s_2) rfl ((congrFun (V.2.1 2 (by decide)) 6).trans r_2_6) ?_
  refine X_iconst (v := (0 : Int32)) rfl rfl rfl ?_
  refine X_aload_n rfl rfl rfl rfl ?_
  refine X_getR (a := 152) rfl rfl rfl ((congrFun V.1 147).trans s_147) rfl ((congrFun (V.2.1 147 (by decide)) 6).trans r_147_6) ?_
  refine X_iconst (v := (0 : Int32)) rfl rfl rfl ?_
  refine X_bipush (v := (8 : Int32)) rfl rfl rfl ?_
  refine S_copy (I := Inv _) (sp' := 0) (dp' := 0) (n' := 8) rfl rfl rfl ((congrFun V.1 7).trans s_7) ((congrFun V.1 152).trans s_152) (by decide) (by decide) (by decide) rfl rfl rfl (by decide) (by decide) (Nat.le_of_ble_eq_true rfl) (Inv_cpy V (Nat.le_of_ble_eq_true rfl) (Nat.le_of_ble_eq_true rfl) (by omega) (U_1 rk_7 rk_152)) (fun g V vn13 hq => ?_)
  have hG := hq.trans hG
  have evz1 := (vn13 (2) 0 (by decide)).trans evz1
  have ve3 := (vn13 (147) 0 (by decide)).trans ve3
  have evz5 := (vn13 (2) 1 (by decide)).trans evz5
  have ve7 := (vn13 (147) 1 (by decide)).trans ve7
  refine X_aload_n rfl rfl rfl rfl ?_
  refine X_getR (a := 8) rfl rfl rfl ((congrFun V.1 2).trans s_2) rfl ((congrFun (V.2.1 2 (by decide)) 7).trans r_2_7) ?_
  refine X_iconst (v := (0 : Int32)) rfl rfl rfl ?_
  refine X_aload_n rfl rfl rfl rfl ?_
  refine X_getR (a := 153) rfl rfl rfl ((congrFun V.1 147).trans s_147) rfl ((congrFun (V.2.1 147 (by decide)) 7).trans r_147_7) ?_
  refine X_iconst (v := (0 : Int32)) rfl rfl rfl ?_
  refine X_bipush (v := (8 : Int32)) rfl rfl rfl ?_
  refine S_copy (I := Inv _) (sp' := 0) (dp' := 0) (n' := 8) rfl rfl rfl ((congrFun V.1 8).trans s_8) ((congrFun V.1 153).trans s_153) (by decide) (by decide) (by decide) rfl rfl rfl (by decide) (by decide) (Nat.le_of_ble_eq_true rfl) (Inv_cpy V (Nat.le_of_ble_eq_true rfl) (Nat.le_of_ble_eq_true rfl) (by omega) (U_0 rk_8 rk_153)) (fun g V vn14 hq => ?_)
  have hG := hq.trans hG
  have evz1 := (vn14 (2) 0 (by decide)).trans evz1
  have ve3 := (vn14 (147) 0 (by decide)).trans ve3
  have evz5 := (vn14 (2) 1 (by decide)).trans evz5
  have ve7 := (vn14 (147) 1 (by decide)).trans ve7
  refine X_aload_n rfl rfl rfl rfl ?_
  refine X_getR (a := 9) rfl rfl rfl ((congrFun V.1 2).trans s_2) rfl ((congrFun (V.2.1 2 (by decide)) 8).trans r_2_8) ?_
  refine X_iconst (v := (0 : Int32)) rfl rfl rfl ?_
  refine X_aload_n rfl rfl rfl rfl ?_
  refine X_getR (a := 154) rfl rfl rfl ((congrFun V.1 147).trans s_147) rfl ((congrFun (V.2.1 147 (by decide)) 8).trans r_147_8) ?_
  refine X_iconst (v := (0 : Int32)) rfl rfl rfl ?_
  refine X_bipush (v := (64 : Int32)) rfl rfl rfl ?_
  refine S_copy (I := Inv _) (sp' := 0) (dp' := 0) (n' := 64) rfl rfl rfl ((congrFun V.1 9).trans s_9) ((congrFun V.1 154).trans s_154) (by decide) (by decide) (by decide) rfl rfl rfl (by decide) (by decide) (Nat.le_of_ble_eq_true rfl) (Inv_cpy V (Nat.le_of_ble_eq_true rfl) (Nat.le_of_ble_eq_true rfl) (by omega) (U_3 rk_9 rk_154)) (fun g V vn15 hq => ?_)
  have hG := hq.trans hG
  have evz1 := (vn15 (2) 0 (by decide)).trans evz1
  have ve3 := (vn15 (147) 0 (by decide)).trans ve3
  have evz5 := (vn15 (2) 1 (by decide)).trans evz5
  have ve7 := (vn15 (147) 1 (by decide)).trans ve7
  exact LW_return (st := []) rfl rfl ⟨rfl, V, hG⟩
set_option maxRecDepth 10000 in
set_option maxHeartbeats 40000000 in
theorem C_X2_copyFrom_146_1 {P : Par} {g : LH} {d : Nat}  (V : Inv P g)    : LW 20 (d + 11) 0 0 0 (lEnt (mL 20) [.ref 146, .ref 1]) [] g (fun v g' => v = none ∧ Inv (P.1, P.1, P.2.2) g' ∧ Gr g' = Gr g) := by
  refine LW_ls (ls' := [some (.ref 146), some (.ref 1)]) rfl ?_
  have hG : Gr g = Gr g := rfl
  refine X_aload_n rfl rfl rfl rfl ?_
  refine X_getR (a := 147) rfl rfl rfl ((congrFun V.1 146).trans s_146) rfl ((congrFun (V.2.1 146 (by decide)) 0).trans r_146_0) ?_
  refine X_aload_n rfl rfl rfl rfl ?_
  refine X_getR (a := 2) rfl rfl rfl ((congrFun V.1 1).trans s_1) rfl ((congrFun (V.2.1 1 (by decide)) 0).trans r_1_0) ?_
  refine Y_callV (as := [.ref 2]) (st := []) rfl rfl rfl (by decide) rfl (Nat.le_of_ble_eq_true rfl) (by decide) (Nat.le_of_ble_eq_true rfl) rfl ((congrFun V.1 147).trans s_147) (by decide) (C_X5_copyFrom_147_2 V  ) ?_
  rintro _ g ⟨rfl, V, hq⟩
  have hG := hq.trans hG
  refine X_aload_n rfl rfl rfl rfl ?_
  refine X_getR (a := 155) rfl rfl rfl ((congrFun V.1 146).trans s_146) rfl ((congrFun (V.2.1 146 (by decide)) 1).trans r_146_1) ?_
  refine X_aload_n rfl rfl rfl rfl ?_
  refine X_getR (a := 10) rfl rfl rfl ((congrFun V.1 1).trans s_1) rfl ((congrFun (V.2.1 1 (by decide)) 1).trans r_1_1) ?_
  refine X_callV (as := [.ref 10]) (st := []) rfl rfl rfl (by decide) rfl (Nat.le_of_ble_eq_true rfl) (by decide) (Nat.le_of_ble_eq_true rfl) rfl ((congrFun V.1 155).trans s_155) (by decide) ?_
  refine LW_ls (ls' := [some (.ref 155), some (.ref 10)]) rfl ?_
  refine X_aload_n rfl rfl rfl rfl ?_
  refine X_aload_n rfl rfl rfl rfl ?_
  refine S_getI rfl rfl rfl ((congrFun V.1 10).trans s_10) rfl (fun vz2 evz2 => ?_)
  refine S_putI (I := Inv _) rfl rfl rfl ((congrFun V.1 155).trans s_155) rfl rfl rfl rfl (Inv_putI V (Nat.le_of_ble_eq_true rfl) (Or.inl (by decide)) (Q_11_0 rk_155)) (fun g V ve3 vn4 hq => ?_)
  have hG := hq.trans hG
  have evz2 := (vn4 (10) 0 (Or.inl (by decide))).trans evz2
  refine X_aload_n rfl rfl rfl rfl ?_
  refine X_aload_n rfl rfl rfl rfl ?_
  refine S_getI rfl rfl rfl ((congrFun V.1 10).trans s_10) rfl (fun vz5 evz5 => ?_)
  refine S_putI (I := Inv _) rfl rfl rfl ((congrFun V.1 155).trans s_155) rfl rfl rfl rfl (Inv_putI V (Nat.le_of_ble_eq_true rfl) (Or.inl (by decide)) (Q_11_1 rk_155)) (fun g V ve6 vn7 hq => ?_)
  have hG := hq.trans hG
  have evz2 := (vn7 (10) 0 (Or.inl (by decide))).trans evz2
  have ve3 := (vn7 (155) 0 (Or.inr (by decide))).trans ve3
  have evz5 := (vn7 (10) 1 (Or.inl (by decide))).trans evz5
  refine X_aload_n rfl rfl rfl rfl ?_
  refine X_aload_n rfl rfl rfl rfl ?_
  refine S_getI rfl rfl rfl ((congrFun V.1 10).trans s_10) rfl (fun vz8 evz8 => ?_)
  refine S_putI (I := Inv _) rfl rfl rfl ((congrFun V.1 155).trans s_155) rfl rfl rfl rfl (Inv_putI V (Nat.le_of_ble_eq_true rfl) (Or.inl (by decide)) (Q_11_2 rk_155)) (fun g V ve9 vn10 hq => ?_)
  have hG := hq.trans hG
  have evz2 := (vn10 (10) 0 (Or.inl (by decide))).trans evz2
  have ve3 := (vn10 (155) 0 (Or.inr (by decide))).trans ve3
  have evz5 := (vn10 (10) 1 (Or.inl (by decide))).trans evz5
  have ve6 := (vn10 (155) 1 (Or.inr (by decide))).trans ve6
  have evz8 := (vn10 (10) 2 (Or.inl (by decide))).trans evz8
  refine X_aload_n rfl rfl rfl rfl ?_
  refine X_aload_n rfl rfl rfl rfl ?_
  refine S_getI rfl rfl rfl ((congrFun V.1 10).trans s_10) rfl (fun vz11 evz11 => ?_)
  have vf12 := K_11_3 (V.2.2.2.2.1 (10) (3) (Nat.le_of_ble_eq_true rfl)) rk_10
  rw [evz11] at vf12
  refine S_putI (I := Inv _) rfl rfl rfl ((congrFun V.1 155).trans s_155) rfl rfl rfl rfl (Inv_putI V (Nat.le_of_ble_eq_true rfl) (Or.inl (by decide)) (Q_11_3 rk_155 (by omega))) (fun g V ve13 vn14 hq => ?_)
  have hG := hq.trans hG
  have evz2 := (vn14 (10) 0 (Or.inl (by decide))).trans evz2
  have ve3 := (vn14 (155) 0 (Or.inr (by decide))).trans ve3
  have evz5 := (vn14 (10) 1 (Or.inl (by decide))).trans evz5
  have ve6 := (vn14 (155) 1 (Or.inr (by decide))).trans ve6
  have evz8 := (vn14 (10) 2 (Or.inl (by decide))).trans evz8
  have ve9 := (vn14 (155) 2 (Or.inr (by decide))).trans ve9
  have evz11 := (vn14 (10) 3 (Or.inl (by decide))).trans evz11
  refine X_aload_n rfl rfl rfl rfl ?_
  refine X_getR (a := 11) rfl rfl rfl ((congrFun V.1 10).trans s_10) rfl ((congrFun (V.2.1 10 (by decide)) 4).trans r_10_4) ?_
  refine X_iconst (v := (0 : Int32)) rfl rfl rfl ?_
  refine X_aload_n rfl rfl rfl rfl ?_
  refine X_getR (a := 156) rfl rfl rfl ((congrFun V.1 155).trans s_155) rfl ((congrFun (V.2.1 155 (by decide)) 4).trans r_155_4) ?_
  refine X_iconst (v := (0 : Int32)) rfl rfl rfl ?_
  refine X_bipush (v := (26 : Int32)) rfl rfl rfl ?_
  refine S_copy (I := Inv _) (sp' := 0) (dp' := 0) (n' := 26) rfl rfl rfl ((congrFun V.1 11).trans s_11) ((congrFun V.1 156).trans s_156) (by decide) (by decide) (by decide) rfl rfl rfl (by decide) (by decide) (Nat.le_of_ble_eq_true rfl) (Inv_cpy V (Nat.le_of_ble_eq_true rfl) (Nat.le_of_ble_eq_true rfl) (by omega) (U_0 rk_11 rk_156)) (fun g V vn15 hq => ?_)
  have hG := hq.trans hG
  have evz2 := (vn15 (10) 0 (by decide)).trans evz2
  have ve3 := (vn15 (155) 0 (by decide)).trans ve3
  have evz5 := (vn15 (10) 1 (by decide)).trans evz5
  have ve6 := (vn15 (155) 1 (by decide)).trans ve6
  have evz8 := (vn15 (10) 2 (by decide)).trans evz8
  have ve9 := (vn15 (155) 2 (by decide)).trans ve9
  have evz11 := (vn15 (10) 3 (by decide)).trans evz11
  have ve13 := (vn15 (155) 3 (by decide)).trans ve13
  refine X_aload_n rfl rfl rfl rfl ?_
  refine X_getR (a := 12) rfl rfl rfl ((congrFun V.1 10).trans s_10) rfl ((congrFun (V.2.1 10 (by decide)) 5).trans r_10_5) ?_
  refine X_iconst (v := (0 : Int32)) rfl rfl rfl ?_
  refine X_aload_n rfl rfl rfl rfl ?_
  refine X_getR (a := 157) rfl rfl rfl ((congrFun V.1 155).trans s_155) rfl ((congrFun (V.2.1 155 (by decide)) 5).trans r_155_5) ?_
  refine X_iconst (v := (0 : Int32)) rfl rfl rfl ?_
  refine X_bipush (v := (26 : Int32)) rfl rfl rfl ?_
  refine S_copy (I := Inv _) (sp' := 0) (dp' := 0) (n' := 26) rfl rfl rfl ((congrFun V.1 12).trans s_12) ((congrFun V.1 157).trans s_157) (by decide) (by decide) (by decide) rfl rfl rfl (by decide) (by decide) (Nat.le_of_ble_eq_true rfl) (Inv_cpy V (Nat.le_of_ble_eq_true rfl) (Nat.le_of_ble_eq_true rfl) (by omega) (U_0 rk_12 rk_157)) (fun g V vn16 hq => ?_)
  have hG := hq.trans hG
  have evz2 := (vn16 (10) 0 (by decide)).trans evz2
  have ve3 := (vn16 (155) 0 (by decide)).trans ve3
  have evz5 := (vn16 (10) 1 (by decide)).trans evz5
  have ve6 := (vn16 (155) 1 (by decide)).trans ve6
  have evz8 := (vn16 (10) 2 (by decide)).trans evz8
  have ve9 := (vn16 (155) 2 (by decide)).trans ve9
  have evz11 := (vn16 (10) 3 (by decide)).trans evz11
  have ve13 := (vn16 (155) 3 (by decide)).trans ve13
  refine X_aload_n rfl rfl rfl rfl ?_
  refine X_getR (a := 13) rfl rfl rfl ((congrFun V.1 10).trans s_10) rfl ((congrFun (V.2.1 10 (by decide)) 6).trans r_10_6) ?_
  refine X_iconst (v := (0 : Int32)) rfl rfl rfl ?_
  refine X_aload_n rfl rfl rfl rfl ?_
  refine X_getR (a := 158) rfl rfl rfl ((congrFun V.1 155).trans s_155) rfl ((congrFun (V.2.1 155 (by decide)) 6).trans r_155_6) ?_
  refine X_iconst (v := (0 : Int32)) rfl rfl rfl ?_
  refine X_bipush (v := (26 : Int32)) rfl rfl rfl ?_
  refine S_copy (I := Inv _) (sp' := 0) (dp' := 0) (n' := 26) rfl rfl rfl ((congrFun V.1 13).trans s_13) ((congrFun V.1 158).trans s_158) (by decide) (by decide) (by decide) rfl rfl rfl (by decide) (by decide) (Nat.le_of_ble_eq_true rfl) (Inv_cpy V (Nat.le_of_ble_eq_true rfl) (Nat.le_of_ble_eq_true rfl) (by omega) (U_0 rk_13 rk_158)) (fun g V vn17 hq => ?_)
  have hG := hq.trans hG
  have evz2 := (vn17 (10) 0 (by decide)).trans evz2
  have ve3 := (vn17 (155) 0 (by decide)).trans ve3
  have evz5 := (vn17 (10) 1 (by decide)).trans evz5
  have ve6 := (vn17 (155) 1 (by decide)).trans ve6
  have evz8 := (vn17 (10) 2 (by decide)).trans evz8
  have ve9 := (vn17 (155) 2 (by decide)).trans ve9
  have evz11 := (vn17 (10) 3 (by decide)).trans evz11
  have ve13 := (vn17 (155) 3 (by decide)).trans ve13
  refine LW_return (st := []) rfl rfl ?_
  refine X_aload_n rfl rfl rfl rfl ?_
  refine X_getR (a := 159) rfl rfl rfl ((congrFun V.1 146).trans s_146) rfl ((congrFun (V.2.1 146 (by decide)) 2).trans r_146_2) ?_
  refine X_aload_n rfl rfl rfl rfl ?_
  refine X_getR (a := 14) rfl rfl rfl ((congrFun V.1 1).trans s_1) rfl ((congrFun (V.2.1 1 (by decide)) 2).trans r_1_2) ?_
  refine Y_callV (as := [.ref 14]) (st := []) rfl rfl rfl (by decide) rfl (Nat.le_of_ble_eq_true rfl) (by decide) (Nat.le_of_ble_eq_true rfl) rfl ((congrFun V.1 159).trans s_159) (by decide) (C_X3_copyFrom_159_14 V  ) ?_
  rintro _ g ⟨rfl, V, hq⟩
  have hG := hq.trans hG
  refine X_aload_n rfl rfl rfl rfl ?_
  refine X_getR (a := 281) rfl rfl rfl ((congrFun V.1 146).trans s_146) rfl ((congrFun (V.2.1 146 (by decide)) 3).trans r_146_3) ?_
  refine X_aload_n rfl rfl rfl rfl ?_
  refine X_getR (a := 136) rfl rfl rfl ((congrFun V.1 1).trans s_1) rfl ((congrFun (V.2.1 1 (by decide)) 3).trans r_1_3) ?_
  refine Y_callV (as := [.ref 136]) (st := []) rfl rfl rfl (by decide) rfl (Nat.le_of_ble_eq_true rfl) (by decide) (Nat.le_of_ble_eq_true rfl) rfl ((congrFun V.1 281).trans s_281) (by decide) (C_X0_copyFrom_281_136 V  ) ?_
  rintro _ g ⟨rfl, V, hq⟩
  have hG := hq.trans hG
  refine X_aload_n rfl rfl rfl rfl ?_
  refine X_getR (a := 141) rfl rfl rfl ((congrFun V.1 1).trans s_1) rfl ((congrFun (V.2.1 1 (by decide)) 4).trans r_1_4) ?_
  refine X_iconst (v := (0 : Int32)) rfl rfl rfl ?_
  refine X_aload_n rfl rfl rfl rfl ?_
  refine X_getR (a := 286) rfl rfl rfl ((congrFun V.1 146).trans s_146) rfl ((congrFun (V.2.1 146 (by decide)) 4).trans r_146_4) ?_
  refine X_iconst (v := (0 : Int32)) rfl rfl rfl ?_
  refine X_bipush (v := (26 : Int32)) rfl rfl rfl ?_
  refine S_copy (I := Inv _) (sp' := 0) (dp' := 0) (n' := 26) rfl rfl rfl ((congrFun V.1 141).trans s_141) ((congrFun V.1 286).trans s_286) (by decide) (by decide) (by decide) rfl rfl rfl (by decide) (by decide) (Nat.le_of_ble_eq_true rfl) (Inv_cpy V (Nat.le_of_ble_eq_true rfl) (Nat.le_of_ble_eq_true rfl) (by omega) (U_0 rk_141 rk_286)) (fun g V vn20 hq => ?_)
  have hG := hq.trans hG
  refine X_aload_n rfl rfl rfl rfl ?_
  refine X_aload_n rfl rfl rfl rfl ?_
  refine S_getI rfl rfl rfl ((congrFun V.1 1).trans s_1) rfl (fun vz21 evz21 => ?_)
  have vf22 := K_13_5 (V.2.2.2.2.1 (1) (5) (Nat.le_of_ble_eq_true rfl)) rk_1
  rw [evz21] at vf22
  refine S_putI (I := Inv _) rfl rfl rfl ((congrFun V.1 146).trans s_146) rfl rfl rfl rfl (Inv_putI V (Nat.le_of_ble_eq_true rfl) (Or.inr (by decide)) (Q_14_5 rk_146 (by omega))) (fun g V ve23 vn24 hq => ?_)
  have hG := hq.trans hG
  have evz21 := (vn24 (1) 5 (Or.inl (by decide))).trans evz21
  refine X_aload_n rfl rfl rfl rfl ?_
  refine X_aload_n rfl rfl rfl rfl ?_
  refine S_getI rfl rfl rfl ((congrFun V.1 1).trans s_1) rfl (fun vz25 evz25 => ?_)
  have vf26 := K_13_6 (V.2.2.2.2.1 (1) (6) (Nat.le_of_ble_eq_true rfl)) rk_1
  rw [evz25] at vf26
  refine S_putI (I := Inv _) rfl rfl rfl ((congrFun V.1 146).trans s_146) rfl rfl rfl rfl (Inv_putI V (Nat.le_of_ble_eq_true rfl) (Or.inr (by decide)) (Q_14_6 rk_146 (by omega))) (fun g V ve27 vn28 hq => ?_)
  have hG := hq.trans hG
  have evz21 := (vn28 (1) 5 (Or.inl (by decide))).trans evz21
  have ve23 := (vn28 (146) 5 (Or.inr (by decide))).trans ve23
  have evz25 := (vn28 (1) 6 (Or.inl (by decide))).trans evz25
  refine X_aload_n rfl rfl rfl rfl ?_
  refine X_aload_n rfl rfl rfl rfl ?_
  refine S_getI rfl rfl rfl ((congrFun V.1 1).trans s_1) rfl (fun vz29 evz29 => ?_)
  have vf30 := K_13_7 (V.2.2.2.2.1 (1) (7) (Nat.le_of_ble_eq_true rfl)) rk_1
  rw [evz29] at vf30
  have pvz29 := V.2.2.2.2.2.2.1
  rw [evz29] at pvz29
  refine S_putI (I := Inv _) rfl rfl rfl ((congrFun V.1 146).trans s_146) rfl rfl rfl rfl (Inv_parK V (n := P.1) (by omega) (by omega)) (fun g V ve31 vn32 hq => ?_)
  have hG := hq.trans hG
  have evz21 := (vn32 (1) 5 (Or.inl (by decide))).trans evz21
  have ve23 := (vn32 (146) 5 (Or.inr (by decide))).trans ve23
  have evz25 := (vn32 (1) 6 (Or.inl (by decide))).trans evz25
  have ve27 := (vn32 (146) 6 (Or.inr (by decide))).trans ve27
  have evz29 := (vn32 (1) 7 (Or.inl (by decide))).trans evz29
  refine X_aload_n rfl rfl rfl rfl ?_
  refine X_getR (a := 142) rfl rfl rfl ((congrFun V.1 1).trans s_1) rfl ((congrFun (V.2.1 1 (by decide)) 8).trans r_1_8) ?_
  refine X_iconst (v := (0 : Int32)) rfl rfl rfl ?_
  refine X_aload_n rfl rfl rfl rfl ?_
  refine X_getR (a := 287) rfl rfl rfl ((congrFun V.1 146).trans s_146) rfl ((congrFun (V.2.1 146 (by decide)) 8).trans r_146_8) ?_
  refine X_iconst (v := (0 : Int32)) rfl rfl rfl ?_
  refine X_iconst (v := (4 : Int32)) rfl rfl rfl ?_
  refine S_copy (I := Inv _) (sp' := 0) (dp' := 0) (n' := 4) rfl rfl rfl ((congrFun V.1 142).trans s_142) ((congrFun V.1 287).trans s_287) (by decide) (by decide) (by decide) rfl rfl rfl (by decide) (by decide) (Nat.le_of_ble_eq_true rfl) (Inv_cpy V (Nat.le_of_ble_eq_true rfl) (Nat.le_of_ble_eq_true rfl) (by omega) (U_0 rk_142 rk_287)) (fun g V vn33 hq => ?_)
  have hG := hq.trans hG
  have evz21 := (vn33 (1) 5 (by decide)).trans evz21
  have ve23 := (vn33 (146) 5 (by decide)).trans ve23
  have evz25 := (vn33 (1) 6 (by decide)).trans evz25
  have ve27 := (vn33 (146) 6 (by decide)).trans ve27
  have evz29 := (vn33 (1) 7 (by decide)).trans evz29
  have ve31 := (vn33 (146) 7 (by decide)).trans ve31
  refine X_aload_n rfl rfl rfl rfl ?_
  refine X_aload_n rfl rfl rfl rfl ?_
  refine S_getI rfl rfl rfl ((congrFun V.1 1).trans s_1) rfl (fun vz34 evz34 => ?_)
  have vf35 := K_13_9 (V.2.2.2.2.1 (1) (9) (Nat.le_of_ble_eq_true rfl)) rk_1
  rw [evz34] at vf35
  refine S_putI (I := Inv _) rfl rfl rfl ((congrFun V.1 146).trans s_146) rfl rfl rfl rfl (Inv_putI V (Nat.le_of_ble_eq_true rfl) (Or.inr (by decide)) (Q_14_9 rk_146 (by omega))) (fun g V ve36 vn37 hq => ?_)
  have hG := hq.trans hG
  have evz21 := (vn37 (1) 5 (Or.inl (by decide))).trans evz21
  have ve23 := (vn37 (146) 5 (Or.inr (by decide))).trans ve23
  have evz25 := (vn37 (1) 6 (Or.inl (by decide))).trans evz25
  have ve27 := (vn37 (146) 6 (Or.inr (by decide))).trans ve27
  have evz29 := (vn37 (1) 7 (Or.inl (by decide))).trans evz29
  have ve31 := (vn37 (146) 7 (Or.inr (by decide))).trans ve31
  have evz34 := (vn37 (1) 9 (Or.inl (by decide))).trans evz34
  refine X_aload_n rfl rfl rfl rfl ?_
  refine X_getR (a := 143) rfl rfl rfl ((congrFun V.1 1).trans s_1) rfl ((congrFun (V.2.1 1 (by decide)) 10).trans r_1_10) ?_
  refine X_iconst (v := (0 : Int32)) rfl rfl rfl ?_
  refine X_aload_n rfl rfl rfl rfl ?_
  refine X_getR (a := 288) rfl rfl rfl ((congrFun V.1 146).trans s_146) rfl ((congrFun (V.2.1 146 (by decide)) 10).trans r_146_10) ?_
  refine X_iconst (v := (0 : Int32)) rfl rfl rfl ?_
  refine X_bipush (v := (12 : Int32)) rfl rfl rfl ?_
  refine S_copy (I := Inv _) (sp' := 0) (dp' := 0) (n' := 12) rfl rfl rfl ((congrFun V.1 143).trans s_143) ((congrFun V.1 288).trans s_288) (by decide) (by decide) (by decide) rfl rfl rfl (by decide) (by decide) (Nat.le_of_ble_eq_true rfl) (Inv_cpy V (Nat.le_of_ble_eq_true rfl) (Nat.le_of_ble_eq_true rfl) (by omega) (U_4 rk_143 rk_288)) (fun g V vn38 hq => ?_)
  have hG := hq.trans hG
  have evz21 := (vn38 (1) 5 (by decide)).trans evz21
  have ve23 := (vn38 (146) 5 (by decide)).trans ve23
  have evz25 := (vn38 (1) 6 (by decide)).trans evz25
  have ve27 := (vn38 (146) 6 (by decide)).trans ve27
  have evz29 := (vn38 (1) 7 (by decide)).trans evz29
  have ve31 := (vn38 (146) 7 (by decide)).trans ve31
  have evz34 := (vn38 (1) 9 (by decide)).trans evz34
  have ve36 := (vn38 (146) 9 (by decide)).trans ve36
  refine X_aload_n rfl rfl rfl rfl ?_
  refine X_getR (a := 144) rfl rfl rfl ((congrFun V.1 1).trans s_1) rfl ((congrFun (V.2.1 1 (by decide)) 11).trans r_1_11) ?_
  refine X_iconst (v := (0 : Int32)) rfl rfl rfl ?_
  refine X_aload_n rfl rfl rfl rfl ?_
  refine X_getR (a := 289) rfl rfl rfl ((congrFun V.1 146).trans s_146) rfl ((congrFun (V.2.1 146 (by decide)) 11).trans r_146_11) ?_
  refine X_iconst (v := (0 : Int32)) rfl rfl rfl ?_
  refine X_bipush (v := (12 : Int32)) rfl rfl rfl ?_
  refine S_copy (I := Inv _) (sp' := 0) (dp' := 0) (n' := 12) rfl rfl rfl ((congrFun V.1 144).trans s_144) ((congrFun V.1 289).trans s_289) (by decide) (by decide) (by decide) rfl rfl rfl (by decide) (by decide) (Nat.le_of_ble_eq_true rfl) (Inv_cpy V (Nat.le_of_ble_eq_true rfl) (Nat.le_of_ble_eq_true rfl) (by omega) (U_5 rk_144 rk_289)) (fun g V vn39 hq => ?_)
  have hG := hq.trans hG
  have evz21 := (vn39 (1) 5 (by decide)).trans evz21
  have ve23 := (vn39 (146) 5 (by decide)).trans ve23
  have evz25 := (vn39 (1) 6 (by decide)).trans evz25
  have ve27 := (vn39 (146) 6 (by decide)).trans ve27
  have evz29 := (vn39 (1) 7 (by decide)).trans evz29
  have ve31 := (vn39 (146) 7 (by decide)).trans ve31
  have evz34 := (vn39 (1) 9 (by decide)).trans evz34
  have ve36 := (vn39 (146) 9 (by decide)).trans ve36
  refine X_aload_n rfl rfl rfl rfl ?_
  refine X_getR (a := 145) rfl rfl rfl ((congrFun V.1 1).trans s_1) rfl ((congrFun (V.2.1 1 (by decide)) 12).trans r_1_12) ?_
  refine X_iconst (v := (0 : Int32)) rfl rfl rfl ?_
  refine X_aload_n rfl rfl rfl rfl ?_
  refine X_getR (a := 290) rfl rfl rfl ((congrFun V.1 146).trans s_146) rfl ((congrFun (V.2.1 146 (by decide)) 12).trans r_146_12) ?_
  refine X_iconst (v := (0 : Int32)) rfl rfl rfl ?_
  refine X_bipush (v := (12 : Int32)) rfl rfl rfl ?_
  refine S_copy (I := Inv _) (sp' := 0) (dp' := 0) (n' := 12) rfl rfl rfl ((congrFun V.1 145).trans s_145) ((congrFun V.1 290).trans s_290) (by decide) (by decide) (by decide) rfl rfl rfl (by decide) (by decide) (Nat.le_of_ble_eq_true rfl) (Inv_cpy V (Nat.le_of_ble_eq_true rfl) (Nat.le_of_ble_eq_true rfl) (by omega) (U_0 rk_145 rk_290)) (fun g V vn40 hq => ?_)
  have hG := hq.trans hG
  have evz21 := (vn40 (1) 5 (by decide)).trans evz21
  have ve23 := (vn40 (146) 5 (by decide)).trans ve23
  have evz25 := (vn40 (1) 6 (by decide)).trans evz25
  have ve27 := (vn40 (146) 6 (by decide)).trans ve27
  have evz29 := (vn40 (1) 7 (by decide)).trans evz29
  have ve31 := (vn40 (146) 7 (by decide)).trans ve31
  have evz34 := (vn40 (1) 9 (by decide)).trans evz34
  have ve36 := (vn40 (146) 9 (by decide)).trans ve36
  have V : Inv (P.1, P.1, P.2.2) _ := V
  exact LW_return (st := []) rfl rfl ⟨rfl, V, hG⟩
set_option maxRecDepth 10000 in
set_option maxHeartbeats 40000000 in
theorem C_X12_image {P : Par} {g : LH} {d : Nat}  (V : Inv P g)    : LW 163 (d + 15) 0 0 0 (lEnt (mL 163) [.ref 0]) [] g (fun v g' => ∃ r : Int32, v = some (.int r) ∧ Inv (P.1, P.1, P.2.2) g' ∧ Gr g' = Gr g) := by
  refine LW_ls (ls' := [some (.ref 0)]) rfl ?_
  have hG : Gr g = Gr g := rfl
  refine X_aload_n rfl rfl rfl rfl ?_
  refine X_getR (a := 146) rfl rfl rfl ((congrFun V.1 0).trans s_0) rfl ((congrFun (V.2.1 0 (by decide)) 1).trans r_0_1) ?_
  refine X_aload_n rfl rfl rfl rfl ?_
  refine X_getR (a := 1) rfl rfl rfl ((congrFun V.1 0).trans s_0) rfl ((congrFun (V.2.1 0 (by decide)) 0).trans r_0_0) ?_
  refine Y_callV (as := [.ref 1]) (st := []) rfl rfl rfl (by decide) rfl (Nat.le_of_ble_eq_true rfl) (by decide) (Nat.le_of_ble_eq_true rfl) rfl ((congrFun V.1 146).trans s_146) (by decide) (C_X2_copyFrom_146_1 V  ) ?_
  rintro _ g ⟨rfl, V, hq⟩
  have hG := hq.trans hG
  refine X_aload_n rfl rfl rfl rfl ?_
  refine X_getR (a := 1) rfl rfl rfl ((congrFun V.1 0).trans s_0) rfl ((congrFun (V.2.1 0 (by decide)) 0).trans r_0_0) ?_
  refine X_getR (a := 10) rfl rfl rfl ((congrFun V.1 1).trans s_1) rfl ((congrFun (V.2.1 1 (by decide)) 1).trans r_1_1) ?_
  refine S_getI rfl rfl rfl ((congrFun V.1 10).trans s_10) rfl (fun vz2 evz2 => ?_)
  have V : Inv (P.1, P.1, P.2.2) _ := V
  exact LW_ireturn (st := []) rfl rfl rfl ⟨_, rfl, V, hG⟩
set_option maxRecDepth 10000 in
set_option maxHeartbeats 40000000 in
theorem C_X0_copyFrom_136_281 {P : Par} {g : LH} {d : Nat}  (V : Inv P g)    : LW 1 (d + 4) 0 0 0 (lEnt (mL 1) [.ref 136, .ref 281]) [] g (fun v g' => v = none ∧ Inv P g' ∧ Gr g' = Gr g) := by
  refine LW_ls (ls' := [some (.ref 136), some (.ref 281)]) rfl ?_
  have hG : Gr g = Gr g := rfl
  refine X_aload_n rfl rfl rfl rfl ?_
  refine X_getR (a := 282) rfl rfl rfl ((congrFun V.1 281).trans s_281) rfl ((congrFun (V.2.1 281 (by decide)) 0).trans r_281_0) ?_
  refine X_iconst (v := (0 : Int32)) rfl rfl rfl ?_
  refine X_aload_n rfl rfl rfl rfl ?_
  refine X_getR (a := 137) rfl rfl rfl ((congrFun V.1 136).trans s_136) rfl ((congrFun (V.2.1 136 (by decide)) 0).trans r_136_0) ?_
  refine X_iconst (v := (0 : Int32)) rfl rfl rfl ?_
  refine X_bipush (v := (10 : Int32)) rfl rfl rfl ?_
  refine S_copy (I := Inv _) (sp' := 0) (dp' := 0) (n' := 10) rfl rfl rfl ((congrFun V.1 282).trans s_282) ((congrFun V.1 137).trans s_137) (by decide) (by decide) (by decide) rfl rfl rfl (by decide) (by decide) (Nat.le_of_ble_eq_true rfl) (Inv_cpy V (Nat.le_of_ble_eq_true rfl) (Nat.le_of_ble_eq_true rfl) (by omega) (U_0 rk_282 rk_137)) (fun g V vn1 hq => ?_)
  have hG := hq.trans hG
  refine X_aload_n rfl rfl rfl rfl ?_
  refine X_getR (a := 283) rfl rfl rfl ((congrFun V.1 281).trans s_281) rfl ((congrFun (V.2.1 281 (by decide)) 1).trans r_281_1) ?_
  refine X_iconst (v := (0 : Int32)) rfl rfl rfl ?_
  refine X_aload_n rfl rfl rfl rfl ?_
  refine X_getR (a := 138) rfl rfl rfl ((congrFun V.1 136).trans s_136) rfl ((congrFun (V.2.1 136 (by decide)) 1).trans r_136_1) ?_
  refine X_iconst (v := (0 : Int32)) rfl rfl rfl ?_
  refine X_bipush (v := (10 : Int32)) rfl rfl rfl ?_
  refine S_copy (I := Inv _) (sp' := 0) (dp' := 0) (n' := 10) rfl rfl rfl ((congrFun V.1 283).trans s_283) ((congrFun V.1 138).trans s_138) (by decide) (by decide) (by decide) rfl rfl rfl (by decide) (by decide) (Nat.le_of_ble_eq_true rfl) (Inv_cpy V (Nat.le_of_ble_eq_true rfl) (Nat.le_of_ble_eq_true rfl) (by omega) (U_0 rk_283 rk_138)) (fun g V vn2 hq => ?_)
  have hG := hq.trans hG
  refine X_aload_n rfl rfl rfl rfl ?_
  refine X_getR (a := 284) rfl rfl rfl ((congrFun V.1 281).trans s_281) rfl ((congrFun (V.2.1 281 (by decide)) 2).trans r_281_2) ?_
  refine X_iconst (v := (0 : Int32)) rfl rfl rfl ?_
  refine X_aload_n rfl rfl rfl rfl ?_
  refine X_getR (a := 139) rfl rfl rfl ((congrFun V.1 136).trans s_136) rfl ((congrFun (V.2.1 136 (by decide)) 2).trans r_136_2) ?_
  refine X_iconst (v := (0 : Int32)) rfl rfl rfl ?_
  refine X_bipush (v := (10 : Int32)) rfl rfl rfl ?_
  refine S_copy (I := Inv _) (sp' := 0) (dp' := 0) (n' := 10) rfl rfl rfl ((congrFun V.1 284).trans s_284) ((congrFun V.1 139).trans s_139) (by decide) (by decide) (by decide) rfl rfl rfl (by decide) (by decide) (Nat.le_of_ble_eq_true rfl) (Inv_cpy V (Nat.le_of_ble_eq_true rfl) (Nat.le_of_ble_eq_true rfl) (by omega) (U_1 rk_284 rk_139)) (fun g V vn3 hq => ?_)
  have hG := hq.trans hG
  refine X_aload_n rfl rfl rfl rfl ?_
  refine X_getR (a := 285) rfl rfl rfl ((congrFun V.1 281).trans s_281) rfl ((congrFun (V.2.1 281 (by decide)) 3).trans r_281_3) ?_
  refine X_iconst (v := (0 : Int32)) rfl rfl rfl ?_
  refine X_aload_n rfl rfl rfl rfl ?_
  refine X_getR (a := 140) rfl rfl rfl ((congrFun V.1 136).trans s_136) rfl ((congrFun (V.2.1 136 (by decide)) 3).trans r_136_3) ?_
  refine X_iconst (v := (0 : Int32)) rfl rfl rfl ?_
  refine X_bipush (v := (80 : Int32)) rfl rfl rfl ?_
  refine S_copy (I := Inv _) (sp' := 0) (dp' := 0) (n' := 80) rfl rfl rfl ((congrFun V.1 285).trans s_285) ((congrFun V.1 140).trans s_140) (by decide) (by decide) (by decide) rfl rfl rfl (by decide) (by decide) (Nat.le_of_ble_eq_true rfl) (Inv_cpy V (Nat.le_of_ble_eq_true rfl) (Nat.le_of_ble_eq_true rfl) (by omega) (U_0 rk_285 rk_140)) (fun g V vn4 hq => ?_)
  have hG := hq.trans hG
  exact LW_return (st := []) rfl rfl ⟨rfl, V, hG⟩
set_option maxRecDepth 10000 in
set_option maxHeartbeats 40000000 in
theorem C_X3_copyFrom_14_159_18 {P : Par} {g g0 : LH} {d n : Nat}  (V : Inv P g) (hG : Gr g = Gr g0) (x2 : Int32) (y2 : Int) (hx2 : x2.toInt = y2) (hf2 : 0 ≤ y2 ∧ y2 ≤ 30) (hc14_0 : 0 ≤ (Gi g 14 0).toInt ∧ (Gi g 14 0).toInt ≤ 30) (hc14_1 : 0 ≤ (Gi g 14 1).toInt ∧ (Gi g 14 1).toInt ≤ 29) (hc159_0 : 0 ≤ (Gi g 159 0).toInt ∧ (Gi g 159 0).toInt ≤ 30) (hc159_1 : 0 ≤ (Gi g 159 1).toInt ∧ (Gi g 159 1).toInt ≤ 29) (hmu : (30 - y2) * 1 + 0 < (n : Int) + 1) (ih18 : ∀ (g : LH) (V : Inv P g) (hG : Gr g = Gr g0) (x2 : Int32) (y2 : Int) (hx2 : x2.toInt = y2) (hf2 : 0 ≤ y2 ∧ y2 ≤ 30) (hc14_0 : 0 ≤ (Gi g 14 0).toInt ∧ (Gi g 14 0).toInt ≤ 30) (hc14_1 : 0 ≤ (Gi g 14 1).toInt ∧ (Gi g 14 1).toInt ≤ 29) (hc159_0 : 0 ≤ (Gi g 159 0).toInt ∧ (Gi g 159 0).toInt ≤ 30) (hc159_1 : 0 ≤ (Gi g 159 1).toInt ∧ (Gi g 159 1).toInt ≤ 29), (30 - y2) * 1 + 0 < (n : Int) → LW 23 (d + 5) 0 0 18 [some (.ref 14), some (.ref 159), some (.int x2)] [] g (fun v g' => v = none ∧ Inv P g' ∧ Gr g' = Gr g0)) : LW 23 (d + 5) 0 0 18 [some (.ref 14), some (.ref 159), some (.int x2)] [] g (fun v g' => v = none ∧ Inv P g' ∧ Gr g' = Gr g0) := by
  obtain ⟨vz1, evz1⟩ : ∃ z, Gi g 14 0 = z := ⟨_, rfl⟩
  rw [evz1] at hc14_0
  obtain ⟨vz2, evz2⟩ : ∃ z, Gi g 14 1 = z := ⟨_, rfl⟩
  rw [evz2] at hc14_1
  obtain ⟨vz3, evz3⟩ : ∃ z, Gi g 159 0 = z := ⟨_, rfl⟩
  rw [evz3] at hc159_0
  obtain ⟨vz4, evz4⟩ : ∃ z, Gi g 159 1 = z := ⟨_, rfl⟩
  rw [evz4] at hc159_1
  refine X_iload_n rfl rfl rfl rfl ?_
  refine X_bipush (v := (30 : Int32)) rfl rfl rfl ?_
  refine S_icmp_ge (tgt := 45) rfl rfl rfl hx2 (show (30 : Int32).toInt = 30 from rfl) (fun vh5 => ?_) (fun vh5 => ?_)
  · exact LW_return (st := []) rfl rfl ⟨rfl, V, hG⟩
  · refine X_aload_n rfl rfl rfl rfl ?_
    refine X_getR (a := 15) rfl rfl rfl ((congrFun V.1 14).trans s_14) rfl ((congrFun (V.2.1 14 (by decide)) 2).trans r_14_2) ?_
    refine X_iload_n rfl rfl rfl rfl ?_
    obtain ⟨t, ht, et⟩ : ∃ t : Nat, t < 30 ∧ (t : Int) = y2 := ⟨(y2 : Int).toNat, by omega, by omega⟩
    refine X_aald (a := 16 + 4 * t) (t0 := 3) rfl rfl ((congrFun V.1 15).trans s_15) rfl (ti_idx (n := 30) hx2 (by omega)).1 (by rw [(ti_idx (n := 30) hx2 (by omega)).2, show (y2 : Int).toNat = t by omega]; exact (congrFun (V.2.1 15 (by decide)) t).trans (sp_a t ht)) ?_
    refine X_aload_n rfl rfl rfl rfl ?_
    refine X_getR (a := 160) rfl rfl rfl ((congrFun V.1 159).trans s_159) rfl ((congrFun (V.2.1 159 (by decide)) 2).trans r_159_2) ?_
    refine X_iload_n rfl rfl rfl rfl ?_
    obtain ⟨w, hw, ew⟩ : ∃ t : Nat, t < 30 ∧ (t : Int) = y2 := ⟨(y2 : Int).toNat, by omega, by omega⟩
    refine X_aald (a := 161 + 4 * w) (t0 := 3) rfl rfl ((congrFun V.1 160).trans s_160) rfl (ti_idx (n := 30) hx2 (by omega)).1 (by rw [(ti_idx (n := 30) hx2 (by omega)).2, show (y2 : Int).toNat = w by omega]; exact (congrFun (V.2.1 160 (by decide)) w).trans (sk_a w hw)) ?_
    refine X_callV (as := [.ref (161 + 4 * w)]) (st := []) rfl rfl rfl (by decide) rfl (Nat.le_of_ble_eq_true rfl) (by decide) (Nat.le_of_ble_eq_true rfl) rfl ((congrFun V.1 _).trans (sp_s t ht)) (by decide) ?_
    refine LW_ls (ls' := [some (.ref (16 + 4 * t)), some (.ref (161 + 4 * w))]) rfl ?_
    refine X_aload_n rfl rfl rfl rfl ?_
    refine X_aload_n rfl rfl rfl rfl ?_
    refine S_getI rfl rfl rfl ((congrFun V.1 _).trans (sk_s w hw)) rfl (fun vz6 evz6 => ?_)
    refine S_putI (I := Inv _) rfl rfl rfl ((congrFun V.1 _).trans (sp_s t ht)) rfl rfl rfl rfl (Inv_putI V (by omega) (Or.inl (by omega)) (Q_11_0 (sp_k t ht))) (fun g V ve7 vn8 hq => ?_)
    have hG := hq.trans hG
    have evz1 := (vn8 (14) 0 (Or.inl (by omega))).trans evz1
    have evz2 := (vn8 (14) 1 (Or.inl (by omega))).trans evz2
    have evz3 := (vn8 (159) 0 (Or.inl (by omega))).trans evz3
    have evz4 := (vn8 (159) 1 (Or.inl (by omega))).trans evz4
    have evz6 := (vn8 (161 + 4 * w) 0 (Or.inl (by omega))).trans evz6
    refine X_aload_n rfl rfl rfl rfl ?_
    refine X_aload_n rfl rfl rfl rfl ?_
    refine S_getI rfl rfl rfl ((congrFun V.1 _).trans (sk_s w hw)) rfl (fun vz9 evz9 => ?_)
    refine S_putI (I := Inv _) rfl rfl rfl ((congrFun V.1 _).trans (sp_s t ht)) rfl rfl rfl rfl (Inv_putI V (by omega) (Or.inl (by omega)) (Q_11_1 (sp_k t ht))) (fun g V ve10 vn11 hq => ?_)
    have hG := hq.trans hG
    have evz1 := (vn11 (14) 0 (Or.inl (by omega))).trans evz1
    have evz2 := (vn11 (14) 1 (Or.inl (by omega))).trans evz2
    have evz3 := (vn11 (159) 0 (Or.inl (by omega))).trans evz3
    have evz4 := (vn11 (159) 1 (Or.inl (by omega))).trans evz4
    have evz6 := (vn11 (161 + 4 * w) 0 (Or.inl (by omega))).trans evz6
    have ve7 := (vn11 (16 + 4 * t) 0 (Or.inr (by decide))).trans ve7
    have evz9 := (vn11 (161 + 4 * w) 1 (Or.inl (by omega))).trans evz9
    refine X_aload_n rfl rfl rfl rfl ?_
    refine X_aload_n rfl rfl rfl rfl ?_
    refine S_getI rfl rfl rfl ((congrFun V.1 _).trans (sk_s w hw)) rfl (fun vz12 evz12 => ?_)
    refine S_putI (I := Inv _) rfl rfl rfl ((congrFun V.1 _).trans (sp_s t ht)) rfl rfl rfl rfl (Inv_putI V (by omega) (Or.inl (by omega)) (Q_11_2 (sp_k t ht))) (fun g V ve13 vn14 hq => ?_)
    have hG := hq.trans hG
    have evz1 := (vn14 (14) 0 (Or.inl (by omega))).trans evz1
    have evz2 := (vn14 (14) 1 (Or.inl (by omega))).trans evz2
    have evz3 := (vn14 (159) 0 (Or.inl (by omega))).trans evz3
    have evz4 := (vn14 (159) 1 (Or.inl (by omega))).trans evz4
    have evz6 := (vn14 (161 + 4 * w) 0 (Or.inl (by omega))).trans evz6
    have ve7 := (vn14 (16 + 4 * t) 0 (Or.inr (by decide))).trans ve7
    have evz9 := (vn14 (161 + 4 * w) 1 (Or.inl (by omega))).trans evz9
    have ve10 := (vn14 (16 + 4 * t) 1 (Or.inr (by decide))).trans ve10
    have evz12 := (vn14 (161 + 4 * w) 2 (Or.inl (by omega))).trans evz12
    refine X_aload_n rfl rfl rfl rfl ?_
    refine X_aload_n rfl rfl rfl rfl ?_
    refine S_getI rfl rfl rfl ((congrFun V.1 _).trans (sk_s w hw)) rfl (fun vz15 evz15 => ?_)
    have vf16 := K_11_3 (V.2.2.2.2.1 (161 + 4 * w) (3) (by omega)) (sk_k w hw)
    rw [evz15] at vf16
    refine S_putI (I := Inv _) rfl rfl rfl ((congrFun V.1 _).trans (sp_s t ht)) rfl rfl rfl rfl (Inv_putI V (by omega) (Or.inl (by omega)) (Q_11_3 (sp_k t ht) (by omega))) (fun g V ve17 vn18 hq => ?_)
    have hG := hq.trans hG
    have evz1 := (vn18 (14) 0 (Or.inl (by omega))).trans evz1
    have evz2 := (vn18 (14) 1 (Or.inl (by omega))).trans evz2
    have evz3 := (vn18 (159) 0 (Or.inl (by omega))).trans evz3
    have evz4 := (vn18 (159) 1 (Or.inl (by omega))).trans evz4
    have evz6 := (vn18 (161 + 4 * w) 0 (Or.inl (by omega))).trans evz6
    have ve7 := (vn18 (16 + 4 * t) 0 (Or.inr (by decide))).trans ve7
    have evz9 := (vn18 (161 + 4 * w) 1 (Or.inl (by omega))).trans evz9
    have ve10 := (vn18 (16 + 4 * t) 1 (Or.inr (by decide))).trans ve10
    have evz12 := (vn18 (161 + 4 * w) 2 (Or.inl (by omega))).trans evz12
    have ve13 := (vn18 (16 + 4 * t) 2 (Or.inr (by decide))).trans ve13
    have evz15 := (vn18 (161 + 4 * w) 3 (Or.inl (by omega))).trans evz15
    refine X_aload_n rfl rfl rfl rfl ?_
    refine X_getR (a := 162 + 4 * w) rfl rfl rfl ((congrFun V.1 _).trans (sk_s w hw)) rfl ((congrFun (V.2.1 (161 + 4 * w) (by omega)) 4).trans (sk_r4 w hw)) ?_
    refine X_iconst (v := (0 : Int32)) rfl rfl rfl ?_
    refine X_aload_n rfl rfl rfl rfl ?_
    refine X_getR (a := 17 + 4 * t) rfl rfl rfl ((congrFun V.1 _).trans (sp_s t ht)) rfl ((congrFun (V.2.1 (16 + 4 * t) (by omega)) 4).trans (sp_r4 t ht)) ?_
    refine X_iconst (v := (0 : Int32)) rfl rfl rfl ?_
    refine X_bipush (v := (26 : Int32)) rfl rfl rfl ?_
    refine S_copy (I := Inv _) (sp' := 0) (dp' := 0) (n' := 26) rfl rfl rfl ((congrFun V.1 _).trans (sk_s4 w hw)) ((congrFun V.1 _).trans (sp_s4 t ht)) (by decide) (by decide) (by decide) rfl rfl rfl (by decide) (by decide) (Nat.le_of_ble_eq_true rfl) (Inv_cpy V (by omega) (by omega) (by omega) (U_0 (sk_k4 w hw) (sp_k4 t ht))) (fun g V vn19 hq => ?_)
    have hG := hq.trans hG
    have evz1 := (vn19 (14) 0 (by omega)).trans evz1
    have evz2 := (vn19 (14) 1 (by omega)).trans evz2
    have evz3 := (vn19 (159) 0 (by omega)).trans evz3
    have evz4 := (vn19 (159) 1 (by omega)).trans evz4
    have evz6 := (vn19 (161 + 4 * w) 0 (by omega)).trans evz6
    have ve7 := (vn19 (16 + 4 * t) 0 (by omega)).trans ve7
    have evz9 := (vn19 (161 + 4 * w) 1 (by omega)).trans evz9
    have ve10 := (vn19 (16 + 4 * t) 1 (by omega)).trans ve10
    have evz12 := (vn19 (161 + 4 * w) 2 (by omega)).trans evz12
    have ve13 := (vn19 (16 + 4 * t) 2 (by omega)).trans ve13
    have evz15 := (vn19 (161 + 4 * w) 3 (by omega)).trans evz15
    have ve17 := (vn19 (16 + 4 * t) 3 (by omega)).trans ve17
    refine X_aload_n rfl rfl rfl rfl ?_
    refine X_getR (a := 163 + 4 * w) rfl rfl rfl ((congrFun V.1 _).trans (sk_s w hw)) rfl ((congrFun (V.2.1 (161 + 4 * w) (by omega)) 5).trans (sk_r5 w hw)) ?_
    refine X_iconst (v := (0 : Int32)) rfl rfl rfl ?_
    refine X_aload_n rfl rfl rfl rfl ?_
    refine X_getR (a := 18 + 4 * t) rfl rfl rfl ((congrFun V.1 _).trans (sp_s t ht)) rfl ((congrFun (V.2.1 (16 + 4 * t) (by omega)) 5).trans (sp_r5 t ht)) ?_
    refine X_iconst (v := (0 : Int32)) rfl rfl rfl ?_
    refine X_bipush (v := (26 : Int32)) rfl rfl rfl ?_
    refine S_copy (I := Inv _) (sp' := 0) (dp' := 0) (n' := 26) rfl rfl rfl ((congrFun V.1 _).trans (sk_s5 w hw)) ((congrFun V.1 _).trans (sp_s5 t ht)) (by decide) (by decide) (by decide) rfl rfl rfl (by decide) (by decide) (Nat.le_of_ble_eq_true rfl) (Inv_cpy V (by omega) (by omega) (by omega) (U_0 (sk_k5 w hw) (sp_k5 t ht))) (fun g V vn20 hq => ?_)
    have hG := hq.trans hG
    have evz1 := (vn20 (14) 0 (by omega)).trans evz1
    have evz2 := (vn20 (14) 1 (by omega)).trans evz2
    have evz3 := (vn20 (159) 0 (by omega)).trans evz3
    have evz4 := (vn20 (159) 1 (by omega)).trans evz4
    have evz6 := (vn20 (161 + 4 * w) 0 (by omega)).trans evz6
    have ve7 := (vn20 (16 + 4 * t) 0 (by omega)).trans ve7
    have evz9 := (vn20 (161 + 4 * w) 1 (by omega)).trans evz9
    have ve10 := (vn20 (16 + 4 * t) 1 (by omega)).trans ve10
    have evz12 := (vn20 (161 + 4 * w) 2 (by omega)).trans evz12
    have ve13 := (vn20 (16 + 4 * t) 2 (by omega)).trans ve13
    have evz15 := (vn20 (161 + 4 * w) 3 (by omega)).trans evz15
    have ve17 := (vn20 (16 + 4 * t) 3 (by omega)).trans ve17
    refine X_aload_n rfl rfl rfl rfl ?_
    refine X_getR (a := 164 + 4 * w) rfl rfl rfl ((congrFun V.1 _).trans (sk_s w hw)) rfl ((congrFun (V.2.1 (161 + 4 * w) (by omega)) 6).trans (sk_r6 w hw)) ?_
    refine X_iconst (v := (0 : Int32)) rfl rfl rfl ?_
    refine X_aload_n rfl rfl rfl rfl ?_
    refine X_getR (a := 19 + 4 * t) rfl rfl rfl ((congrFun V.1 _).trans (sp_s t ht)) rfl ((congrFun (V.2.1 (16 + 4 * t) (by omega)) 6).trans (sp_r6 t ht)) ?_
    refine X_iconst (v := (0 : Int32)) rfl rfl rfl ?_
    refine X_bipush (v := (26 : Int32)) rfl rfl rfl ?_
    refine S_copy (I := Inv _) (sp' := 0) (dp' := 0) (n' := 26) rfl rfl rfl ((congrFun V.1 _).trans (sk_s6 w hw)) ((congrFun V.1 _).trans (sp_s6 t ht)) (by decide) (by decide) (by decide) rfl rfl rfl (by decide) (by decide) (Nat.le_of_ble_eq_true rfl) (Inv_cpy V (by omega) (by omega) (by omega) (U_0 (sk_k6 w hw) (sp_k6 t ht))) (fun g V vn21 hq => ?_)
    have hG := hq.trans hG
    have evz1 := (vn21 (14) 0 (by omega)).trans evz1
    have evz2 := (vn21 (14) 1 (by omega)).trans evz2
    have evz3 := (vn21 (159) 0 (by omega)).trans evz3
    have evz4 := (vn21 (159) 1 (by omega)).trans evz4
    have evz6 := (vn21 (161 + 4 * w) 0 (by omega)).trans evz6
    have ve7 := (vn21 (16 + 4 * t) 0 (by omega)).trans ve7
    have evz9 := (vn21 (161 + 4 * w) 1 (by omega)).trans evz9
    have ve10 := (vn21 (16 + 4 * t) 1 (by omega)).trans ve10
    have evz12 := (vn21 (161 + 4 * w) 2 (by omega)).trans evz12
    have ve13 := (vn21 (16 + 4 * t) 2 (by omega)).trans ve13
    have evz15 := (vn21 (161 + 4 * w) 3 (by omega)).trans evz15
    have ve17 := (vn21 (16 + 4 * t) 3 (by omega)).trans ve17
    refine LW_return (st := []) rfl rfl ?_
    refine S_iinc (c := 1) rfl rfl rfl hx2 rfl (by omega) (fun vz22 hvz22 => ?_)
    refine LW_ls (ls' := [some (.ref 14), some (.ref 159), some (.int vz22)]) rfl ?_
    refine LW_goto (tgt := 18) rfl rfl ?_
    exact ih18 _ V hG vz22 vz22.toInt rfl (by omega) (by rw [evz1]; omega) (by rw [evz2]; omega) (by rw [evz3]; omega) (by rw [evz4]; omega)   (by omega)
theorem C_X3_copyFrom_14_159_all {P : Par} {g0 : LH} {d : Nat}  : ∀ n : Nat, (∀ (g : LH) (V : Inv P g) (hG : Gr g = Gr g0) (x2 : Int32) (y2 : Int) (hx2 : x2.toInt = y2) (hf2 : 0 ≤ y2 ∧ y2 ≤ 30) (hc14_0 : 0 ≤ (Gi g 14 0).toInt ∧ (Gi g 14 0).toInt ≤ 30) (hc14_1 : 0 ≤ (Gi g 14 1).toInt ∧ (Gi g 14 1).toInt ≤ 29) (hc159_0 : 0 ≤ (Gi g 159 0).toInt ∧ (Gi g 159 0).toInt ≤ 30) (hc159_1 : 0 ≤ (Gi g 159 1).toInt ∧ (Gi g 159 1).toInt ≤ 29), (30 - y2) * 1 + 0 < (n : Int) → LW 23 (d + 5) 0 0 18 [some (.ref 14), some (.ref 159), some (.int x2)] [] g (fun v g' => v = none ∧ Inv P g' ∧ Gr g' = Gr g0)) := by
  intro n
  induction n with
  | zero => exact fun g V hG x2 y2 hx2 hf2 hc14_0 hc14_1 hc159_0 hc159_1 hmu => absurd hmu (by omega)
  | succ n ih => exact fun g V hG x2 y2 hx2 hf2 hc14_0 hc14_1 hc159_0 hc159_1 hmu => C_X3_copyFrom_14_159_18  V hG x2 y2 hx2 hf2 hc14_0 hc14_1 hc159_0 hc159_1 (by omega) ih
set_option maxRecDepth 10000 in
set_option maxHeartbeats 40000000 in
theorem C_X3_copyFrom_14_159 {P : Par} {g : LH} {d : Nat}  (V : Inv P g)    : LW 23 (d + 5) 0 0 0 (lEnt (mL 23) [.ref 14, .ref 159]) [] g (fun v g' => v = none ∧ Inv P g' ∧ Gr g' = Gr g) := by
  refine LW_ls (ls' := [some (.ref 14), some (.ref 159), none]) rfl ?_
  have hG : Gr g = Gr g := rfl
  refine X_aload_n rfl rfl rfl rfl ?_
  refine X_aload_n rfl rfl rfl rfl ?_
  refine S_getI rfl rfl rfl ((congrFun V.1 159).trans s_159) rfl (fun vz1 evz1 => ?_)
  have vf2 := K_12_0 (V.2.2.2.2.1 (159) (0) (Nat.le_of_ble_eq_true rfl)) rk_159
  rw [evz1] at vf2
  refine S_putI (I := Inv _) rfl rfl rfl ((congrFun V.1 14).trans s_14) rfl rfl rfl rfl (Inv_putI V (Nat.le_of_ble_eq_true rfl) (Or.inl (by decide)) (Q_12_0 rk_14 (by omega))) (fun g V ve3 vn4 hq => ?_)
  have hG := hq.trans hG
  have evz1 := (vn4 (159) 0 (Or.inl (by decide))).trans evz1
  refine X_aload_n rfl rfl rfl rfl ?_
  refine X_aload_n rfl rfl rfl rfl ?_
  refine S_getI rfl rfl rfl ((congrFun V.1 159).trans s_159) rfl (fun vz5 evz5 => ?_)
  have vf6 := K_12_1 (V.2.2.2.2.1 (159) (1) (Nat.le_of_ble_eq_true rfl)) rk_159
  rw [evz5] at vf6
  refine S_putI (I := Inv _) rfl rfl rfl ((congrFun V.1 14).trans s_14) rfl rfl rfl rfl (Inv_putI V (Nat.le_of_ble_eq_true rfl) (Or.inl (by decide)) (Q_12_1 rk_14 (by omega))) (fun g V ve7 vn8 hq => ?_)
  have hG := hq.trans hG
  have evz1 := (vn8 (159) 0 (Or.inl (by decide))).trans evz1
  have ve3 := (vn8 (14) 0 (Or.inr (by decide))).trans ve3
  have evz5 := (vn8 (159) 1 (Or.inl (by decide))).trans evz5
  refine X_iconst (v := (0 : Int32)) rfl rfl rfl ?_
  refine X_istore_n (i := 2) (ls' := [some (.ref 14), some (.ref 159), some (.int (0 : Int32))]) rfl rfl rfl (Nat.le_of_ble_eq_true rfl) rfl ?_
  exact (C_X3_copyFrom_14_159_all (((30 - 0) * 1 + 0) + 1 : Int).toNat) _ V hG (0 : Int32) 0 (show (0 : Int32).toInt = 0 from rfl) (by omega) (by rw [ve3]; omega) (by rw [ve7]; omega) (by rw [evz1]; omega) (by rw [evz5]; omega)   (by omega)
set_option maxRecDepth 10000 in
set_option maxHeartbeats 40000000 in
theorem C_X5_copyFrom_2_147 {P : Par} {g : LH} {d : Nat}  (V : Inv P g)    : LW 39 (d + 4) 0 0 0 (lEnt (mL 39) [.ref 2, .ref 147]) [] g (fun v g' => v = none ∧ Inv P g' ∧ Gr g' = Gr g) := by
  refine LW_ls (ls' := [some (.ref 2), some (.ref 147)]) rfl ?_
  have hG : Gr g = Gr g := rfl
  refine X_aload_n rfl rfl rfl rfl ?_
  refine X_aload_n rfl rfl rfl rfl ?_
  refine S_getI rfl rfl rfl ((congrFun V.1 147).trans s_147) rfl (fun vz1 evz1 => ?_)
  have vf2 := K_10_0 (V.2.2.2.2.1 (147) (0) (Nat.le_of_ble_eq_true rfl)) rk_147
  rw [evz1] at vf2
  refine S_putI (I := Inv _) rfl rfl rfl ((congrFun V.1 2).trans s_2) rfl rfl rfl rfl (Inv_putI V (Nat.le_of_ble_eq_true rfl) (Or.inl (by decide)) (Q_10_0 rk_2 (by omega))) (fun g V ve3 vn4 hq => ?_)
  have hG := hq.trans hG
  have evz1 := (vn4 (147) 0 (Or.inl (by decide))).trans evz1
  refine X_aload_n rfl rfl rfl rfl ?_
  refine X_aload_n rfl rfl rfl rfl ?_
  refine S_getI rfl rfl rfl ((congrFun V.1 147).trans s_147) rfl (fun vz5 evz5 => ?_)
  have vf6 := K_10_1 (V.2.2.2.2.1 (147) (1) (Nat.le_of_ble_eq_true rfl)) rk_147
  rw [evz5] at vf6
  refine S_putI (I := Inv _) rfl rfl rfl ((congrFun V.1 2).trans s_2) rfl rfl rfl rfl (Inv_putI V (Nat.le_of_ble_eq_true rfl) (Or.inl (by decide)) (Q_10_1 rk_2 (by omega))) (fun g V ve7 vn8 hq => ?_)
  have hG := hq.trans hG
  have evz1 := (vn8 (147) 0 (Or.inl (by decide))).trans evz1
  have ve3 := (vn8 (2) 0 (Or.inr (by decide))).trans ve3
  have evz5 := (vn8 (147) 1 (Or.inl (by decide))).trans evz5
  refine X_aload_n rfl rfl rfl rfl ?_
  refine X_getR (a := 148) rfl rfl rfl ((congrFun V.1 147).trans s_147) rfl ((congrFun (V.2.1 147 (by decide)) 2).trans r_147_2) ?_
  refine X_iconst (v := (0 : Int32)) rfl rfl rfl ?_
  refine X_aload_n rfl rfl rfl rfl ?_
  refine X_getR (a := 3) rfl rfl rfl ((congrFun V.1 2).trans s_2) rfl ((congrFun (V.2.1 2 (by decide)) 2).trans r_2_2) ?_
  refine X_iconst (v := (0 : Int32)) rfl rfl rfl ?_
  refine X_bipush (v := (24 : Int32)) rfl rfl rfl ?_
  refine S_copy (I := Inv _) (sp' := 0) (dp' := 0) (n' := 24) rfl rfl rfl ((congrFun V.1 148).trans s_148) ((congrFun V.1 3).trans s_3) (by decide) (by decide) (by decide) rfl rfl rfl (by decide) (by decide) (Nat.le_of_ble_eq_true rfl) (Inv_cpy V (Nat.le_of_ble_eq_true rfl) (Nat.le_of_ble_eq_true rfl) (by omega) (U_1 rk_148 rk_3)) (fun g V vn9 hq => ?_)
  have hG := hq.trans hG
  have evz1 := (vn9 (147) 0 (by decide)).trans evz1
  have ve3 := (vn9 (2) 0 (by decide)).trans ve3
  have evz5 := (vn9 (147) 1 (by decide)).trans evz5
  have ve7 := (vn9 (2) 1 (by decide)).trans ve7
  refine X_aload_n rfl rfl rfl rfl ?_
  refine X_getR (a := 149) rfl rfl rfl ((congrFun V.1 147).trans s_147) rfl ((congrFun (V.2.1 147 (by decide)) 3).trans r_147_3) ?_
  refine X_iconst (v := (0 : Int32)) rfl rfl rfl ?_
  refine X_aload_n rfl rfl rfl rfl ?_
  refine X_getR (a := 4) rfl rfl rfl ((congrFun V.1 2).trans s_2) rfl ((congrFun (V.2.1 2 (by decide)) 3).trans r_2_3) ?_
  refine X_iconst (v := (0 : Int32)) rfl rfl rfl ?_
  refine X_bipush (v := (24 : Int32)) rfl rfl rfl ?_
  refine S_copy (I := Inv _) (sp' := 0) (dp' := 0) (n' := 24) rfl rfl rfl ((congrFun V.1 149).trans s_149) ((congrFun V.1 4).trans s_4) (by decide) (by decide) (by decide) rfl rfl rfl (by decide) (by decide) (Nat.le_of_ble_eq_true rfl) (Inv_cpy V (Nat.le_of_ble_eq_true rfl) (Nat.le_of_ble_eq_true rfl) (by omega) (U_2 rk_149 rk_4)) (fun g V vn10 hq => ?_)
  have hG := hq.trans hG
  have evz1 := (vn10 (147) 0 (by decide)).trans evz1
  have ve3 := (vn10 (2) 0 (by decide)).trans ve3
  have evz5 := (vn10 (147) 1 (by decide)).trans evz5
  have ve7 := (vn10 (2) 1 (by decide)).trans ve7
  refine X_aload_n rfl rfl rfl rfl ?_
  refine X_getR (a := 150) rfl rfl rfl ((congrFun V.1 147).trans s_147) rfl ((congrFun (V.2.1 147 (by decide)) 4).trans r_147_4) ?_
  refine X_iconst (v := (0 : Int32)) rfl rfl rfl ?_
  refine X_aload_n rfl rfl rfl rfl ?_
  refine X_getR (a := 5) rfl rfl rfl ((congrFun V.1 2).trans s_2) rfl ((congrFun (V.2.1 2 (by decide)) 4).trans r_2_4) ?_
  refine X_iconst (v := (0 : Int32)) rfl rfl rfl ?_
  refine X_bipush (v := (24 : Int32)) rfl rfl rfl ?_
  refine S_copy (I := Inv _) (sp' := 0) (dp' := 0) (n' := 24) rfl rfl rfl ((congrFun V.1 150).trans s_150) ((congrFun V.1 5).trans s_5) (by decide) (by decide) (by decide) rfl rfl rfl (by decide) (by decide) (Nat.le_of_ble_eq_true rfl) (Inv_cpy V (Nat.le_of_ble_eq_true rfl) (Nat.le_of_ble_eq_true rfl) (by omega) (U_0 rk_150 rk_5)) (fun g V vn11 hq => ?_)
  have hG := hq.trans hG
  have evz1 := (vn11 (147) 0 (by decide)).trans evz1
  have ve3 := (vn11 (2) 0 (by decide)).trans ve3
  have evz5 := (vn11 (147) 1 (by decide)).trans evz5
  have ve7 := (vn11 (2) 1 (by decide)).trans ve7
  refine X_aload_n rfl rfl rfl rfl ?_
  refine X_getR (a := 151) rfl rfl rfl ((congrFun V.1 147).trans s_147) rfl ((congrFun (V.2.1 147 (by decide)) 5).trans r_147_5) ?_
  refine X_iconst (v := (0 : Int32)) rfl rfl rfl ?_
  refine X_aload_n rfl rfl rfl rfl ?_
  refine X_getR (a := 6) rfl rfl rfl ((congrFun V.1 2).trans s_2) rfl ((congrFun (V.2.1 2 (by decide)) 5).trans r_2_5) ?_
  refine X_iconst (v := (0 : Int32)) rfl rfl rfl ?_
  refine X_sipush (v := (192 : Int32)) rfl rfl rfl ?_
  refine S_copy (I := Inv _) (sp' := 0) (dp' := 0) (n' := 192) rfl rfl rfl ((congrFun V.1 151).trans s_151) ((congrFun V.1 6).trans s_6) (by decide) (by decide) (by decide) rfl rfl rfl (by decide) (by decide) (Nat.le_of_ble_eq_true rfl) (Inv_cpy V (Nat.le_of_ble_eq_true rfl) (Nat.le_of_ble_eq_true rfl) (by omega) (U_3 rk_151 rk_6)) (fun g V vn12 hq => ?_)
  have hG := hq.trans hG
  have evz1 := (vn12 (147) 0 (by decide)).trans evz1
  have ve3 := (vn12 (2) 0 (by decide)).trans ve3
  have evz5 := (vn12 (147) 1 (by decide)).trans evz5
  have ve7 := (vn12 (2) 1 (by decide)).trans ve7
  refine X_aload_n rfl rfl rfl rfl ?_
  refine X_getR (a := 152) rfl rfl rfl ((congrFun V.1 147).trans s_147) rfl ((congrFun (V.2.1 147 (by decide)) 6).trans r_147_6) ?_
  refine X_iconst (v := (0 : Int32)) rfl rfl rfl ?_
  refine X_aload_n rfl rfl rfl rfl ?_
  refine X_getR (a := 7) rfl rfl rfl ((congrFun V.1 2).trans s_2) rfl ((congrFun (V.2.1 2 (by decide)) 6).trans r_2_6) ?_
  refine X_iconst (v := (0 : Int32)) rfl rfl rfl ?_
  refine X_bipush (v := (8 : Int32)) rfl rfl rfl ?_
  refine S_copy (I := Inv _) (sp' := 0) (dp' := 0) (n' := 8) rfl rfl rfl ((congrFun V.1 152).trans s_152) ((congrFun V.1 7).trans s_7) (by decide) (by decide) (by decide) rfl rfl rfl (by decide) (by decide) (Nat.le_of_ble_eq_true rfl) (Inv_cpy V (Nat.le_of_ble_eq_true rfl) (Nat.le_of_ble_eq_true rfl) (by omega) (U_1 rk_152 rk_7)) (fun g V vn13 hq => ?_)
  have hG := hq.trans hG
  have evz1 := (vn13 (147) 0 (by decide)).trans evz1
  have ve3 := (vn13 (2) 0 (by decide)).trans ve3
  have evz5 := (vn13 (147) 1 (by decide)).trans evz5
  have ve7 := (vn13 (2) 1 (by decide)).trans ve7
  refine X_aload_n rfl rfl rfl rfl ?_
  refine X_getR (a := 153) rfl rfl rfl ((congrFun V.1 147).trans s_147) rfl ((congrFun (V.2.1 147 (by decide)) 7).trans r_147_7) ?_
  refine X_iconst (v := (0 : Int32)) rfl rfl rfl ?_
  refine X_aload_n rfl rfl rfl rfl ?_
  refine X_getR (a := 8) rfl rfl rfl ((congrFun V.1 2).trans s_2) rfl ((congrFun (V.2.1 2 (by decide)) 7).trans r_2_7) ?_
  refine X_iconst (v := (0 : Int32)) rfl rfl rfl ?_
  refine X_bipush (v := (8 : Int32)) rfl rfl rfl ?_
  refine S_copy (I := Inv _) (sp' := 0) (dp' := 0) (n' := 8) rfl rfl rfl ((congrFun V.1 153).trans s_153) ((congrFun V.1 8).trans s_8) (by decide) (by decide) (by decide) rfl rfl rfl (by decide) (by decide) (Nat.le_of_ble_eq_true rfl) (Inv_cpy V (Nat.le_of_ble_eq_true rfl) (Nat.le_of_ble_eq_true rfl) (by omega) (U_0 rk_153 rk_8)) (fun g V vn14 hq => ?_)
  have hG := hq.trans hG
  have evz1 := (vn14 (147) 0 (by decide)).trans evz1
  have ve3 := (vn14 (2) 0 (by decide)).trans ve3
  have evz5 := (vn14 (147) 1 (by decide)).trans evz5
  have ve7 := (vn14 (2) 1 (by decide)).trans ve7
  refine X_aload_n rfl rfl rfl rfl ?_
  refine X_getR (a := 154) rfl rfl rfl ((congrFun V.1 147).trans s_147) rfl ((congrFun (V.2.1 147 (by decide)) 8).trans r_147_8) ?_
  refine X_iconst (v := (0 : Int32)) rfl rfl rfl ?_
  refine X_aload_n rfl rfl rfl rfl ?_
  refine X_getR (a := 9) rfl rfl rfl ((congrFun V.1 2).trans s_2) rfl ((congrFun (V.2.1 2 (by decide)) 8).trans r_2_8) ?_
  refine X_iconst (v := (0 : Int32)) rfl rfl rfl ?_
  refine X_bipush (v := (64 : Int32)) rfl rfl rfl ?_
  refine S_copy (I := Inv _) (sp' := 0) (dp' := 0) (n' := 64) rfl rfl rfl ((congrFun V.1 154).trans s_154) ((congrFun V.1 9).trans s_9) (by decide) (by decide) (by decide) rfl rfl rfl (by decide) (by decide) (Nat.le_of_ble_eq_true rfl) (Inv_cpy V (Nat.le_of_ble_eq_true rfl) (Nat.le_of_ble_eq_true rfl) (by omega) (U_3 rk_154 rk_9)) (fun g V vn15 hq => ?_)
  have hG := hq.trans hG
  have evz1 := (vn15 (147) 0 (by decide)).trans evz1
  have ve3 := (vn15 (2) 0 (by decide)).trans ve3
  have evz5 := (vn15 (147) 1 (by decide)).trans evz5
  have ve7 := (vn15 (2) 1 (by decide)).trans ve7
  exact LW_return (st := []) rfl rfl ⟨rfl, V, hG⟩
