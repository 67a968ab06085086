/-! the class's methods: each returns and keeps what every state keeps -/
set_option maxRecDepth 10000 in
set_option maxHeartbeats 40000000 in
theorem C_X8_readDeed {P : Par} {g : LH} {d : Nat}  (V : Inv P g) {u : Nat} (hu : u < 4) (hTt : Gr g 338 1 = some (292 + 10 * u)) (x1 : Int32) (y1 : Int) (hx1 : x1.toInt = y1) (hf1 : 4 ≤ y1 ∧ y1 ≤ 12)   : LW 91 (d + 18) 0 0 0 (lEnt (mL 91) [.ref 338, .int x1]) [] g (fun v g' => v = none ∧ Inv P g' ∧ Gr g' = Gr g ∧ Gi g' 1 5 = Gi g 1 5) := by
  refine LW_ls (ls' := [some (.ref 338), some (.int x1)]) rfl ?_
  have hG : Gr g = Gr g := rfl
  have hK : Gi g 1 5 = Gi g 1 5 := rfl
  refine X_iload_n rfl rfl rfl rfl ?_
  by_cases vh1 : y1 = 5
  · refine S_lookIn (tgt := 36) (a := 5) rfl hx1 vh1 rfl rfl rfl ?_
    refine X_aload_n rfl rfl rfl rfl ?_
    refine Y_callV (as := []) (st := []) rfl rfl rfl (by decide) rfl (Nat.le_of_ble_eq_true rfl) (by decide) (Nat.le_of_ble_eq_true rfl) rfl ((congrFun V.1 338).trans s_338) (by decide) (C_X8_readSenses V hu ((congrFun (congrFun hG 338) 1).trans hTt)  ) ?_
    rintro _ g ⟨rfl, V, hq, hk⟩
    have hG := hq.trans hG
    have hK := hk.trans hK
    refine LW_goto (tgt := 118) rfl rfl ?_
    exact LW_return (st := []) rfl rfl ⟨rfl, V, hG, hK⟩
  by_cases vh3 : y1 = 11
  · refine S_lookIn (tgt := 43) (a := 11) rfl hx1 vh3 rfl rfl rfl ?_
    refine X_aload_n rfl rfl rfl rfl ?_
    refine X_getR (a := 292 + 10 * u) rfl rfl rfl ((congrFun V.1 338).trans s_338) rfl ((congrFun (congrFun hG 338) 1).trans hTt) ?_
    refine X_getR (a := 296 + 10 * u) rfl rfl rfl ((congrFun V.1 _).trans (tx_s u hu)) rfl ((congrFun (V.2.1 (292 + 10 * u) (by omega)) 4).trans (tx_r4 u hu)) ?_
    refine X_aload_n rfl rfl rfl rfl ?_
    refine S_getI rfl rfl rfl ((congrFun V.1 338).trans s_338) rfl (fun vz4 evz4 => ?_)
    have vf5 := K_17_6 (V.2.2.2.2.1 (338) (6) (Nat.le_of_ble_eq_true rfl)) rk_338
    rw [evz4] at vf5
    refine X_aload_n rfl rfl rfl rfl ?_
    refine X_iconst (v := (0 : Int32)) rfl rfl rfl ?_
    refine X_bipush (v := (7 : Int32)) rfl rfl rfl ?_
    refine X_callV (as := [.int (0 : Int32), .int (7 : Int32)]) (st := [.int vz4, .ref (296 + 10 * u)]) rfl rfl rfl (by decide) rfl (Nat.le_of_ble_eq_true rfl) (by decide) (Nat.le_of_ble_eq_true rfl) rfl ((congrFun V.1 338).trans s_338) (by decide) ?_
    refine LW_ls (ls' := [some (.ref 338), some (.int (0 : Int32)), some (.int (7 : Int32)), none]) rfl ?_
    refine X_aload_n rfl rfl rfl rfl ?_
    refine S_getI rfl rfl rfl ((congrFun V.1 338).trans s_338) rfl (fun vz6 evz6 => ?_)
    refine X_iconst (v := (2 : Int32)) rfl rfl rfl ?_
    refine S_icmp_eq (tgt := 14) rfl rfl rfl rfl (show (2 : Int32).toInt = 2 from rfl) (fun vh7 => ?_) (fun vh7 => ?_)
    · refine X_aload_n rfl rfl rfl rfl ?_
      refine S_getI rfl rfl rfl ((congrFun V.1 338).trans s_338) rfl (fun vz8 evz8 => ?_)
      refine X_istore_n (i := 3) (ls' := [some (.ref 338), some (.int (0 : Int32)), some (.int (7 : Int32)), some (.int vz8)]) rfl rfl rfl (Nat.le_of_ble_eq_true rfl) rfl ?_
      refine X_iload_n rfl rfl rfl rfl ?_
      refine X_iload_n rfl rfl rfl rfl ?_
      refine S_icmp_lt (tgt := 29) rfl rfl rfl rfl (show (0 : Int32).toInt = 0 from rfl) (fun vh9 => ?_) (fun vh9 => ?_)
      · refine X_aload_n rfl rfl rfl rfl ?_
        refine X_iconst (v := (2 : Int32)) rfl rfl rfl ?_
        refine Y_callV (as := [.int (2 : Int32)]) (st := []) rfl rfl rfl (by decide) rfl (Nat.le_of_ble_eq_true rfl) (by decide) (Nat.le_of_ble_eq_true rfl) rfl ((congrFun V.1 338).trans s_338) (by decide) (C_X8_fail V hu ((congrFun (congrFun hG 338) 1).trans hTt) (2 : Int32) 2 (show (2 : Int32).toInt = 2 from rfl) (by omega) ) ?_
        rintro _ g ⟨vr10, rfl, hrvr100, hrvr101, V, hq, hk⟩
        have hG := hq.trans hG
        have hK := hk.trans hK
        refine LW_ireturn (st := []) rfl rfl rfl ?_
        refine S_iast (I := Inv _) rfl rfl ((congrFun V.1 _).trans (tx_s4 u hu)) rfl (by omega) (Inv_putI V (by omega) (Or.inl (by omega)) (Q_0 (tx_k4 u hu))) (fun g V ve11 vn12 hq => ?_)
        have hG := hq.trans hG
        have hK := (vn12 1 5 (Or.inl (by omega))).trans hK
        refine LW_goto (tgt := 118) rfl rfl ?_
        exact LW_return (st := []) rfl rfl ⟨rfl, V, hG, hK⟩
      · refine X_iload_n rfl rfl rfl rfl ?_
        refine X_iload_n rfl rfl rfl rfl ?_
        refine S_icmp_le (tgt := 35) rfl rfl rfl rfl (show (7 : Int32).toInt = 7 from rfl) (fun vh13 => ?_) (fun vh13 => ?_)
        · refine X_aload_n rfl rfl rfl rfl ?_
          refine Y_callV (as := []) (st := []) rfl rfl rfl (by decide) rfl (Nat.le_of_ble_eq_true rfl) (by decide) (Nat.le_of_ble_eq_true rfl) rfl ((congrFun V.1 338).trans s_338) (by decide) (C_X8_next V hu ((congrFun (congrFun hG 338) 1).trans hTt)  ) ?_
          rintro _ g ⟨rfl, V, hq, hk⟩
          have hG := hq.trans hG
          have hK := hk.trans hK
          refine X_iload_n rfl rfl rfl rfl ?_
          refine LW_ireturn (st := []) rfl rfl rfl ?_
          refine S_iast (I := Inv _) rfl rfl ((congrFun V.1 _).trans (tx_s4 u hu)) rfl (by omega) (Inv_putI V (by omega) (Or.inl (by omega)) (Q_0 (tx_k4 u hu))) (fun g V ve15 vn16 hq => ?_)
          have hG := hq.trans hG
          have hK := (vn16 1 5 (Or.inl (by omega))).trans hK
          refine LW_goto (tgt := 118) rfl rfl ?_
          exact LW_return (st := []) rfl rfl ⟨rfl, V, hG, hK⟩
        · refine X_aload_n rfl rfl rfl rfl ?_
          refine X_iconst (v := (2 : Int32)) rfl rfl rfl ?_
          refine Y_callV (as := [.int (2 : Int32)]) (st := []) rfl rfl rfl (by decide) rfl (Nat.le_of_ble_eq_true rfl) (by decide) (Nat.le_of_ble_eq_true rfl) rfl ((congrFun V.1 338).trans s_338) (by decide) (C_X8_fail V hu ((congrFun (congrFun hG 338) 1).trans hTt) (2 : Int32) 2 (show (2 : Int32).toInt = 2 from rfl) (by omega) ) ?_
          rintro _ g ⟨vr17, rfl, hrvr170, hrvr171, V, hq, hk⟩
          have hG := hq.trans hG
          have hK := hk.trans hK
          refine LW_ireturn (st := []) rfl rfl rfl ?_
          refine S_iast (I := Inv _) rfl rfl ((congrFun V.1 _).trans (tx_s4 u hu)) rfl (by omega) (Inv_putI V (by omega) (Or.inl (by omega)) (Q_0 (tx_k4 u hu))) (fun g V ve18 vn19 hq => ?_)
          have hG := hq.trans hG
          have hK := (vn19 1 5 (Or.inl (by omega))).trans hK
          refine LW_goto (tgt := 118) rfl rfl ?_
          exact LW_return (st := []) rfl rfl ⟨rfl, V, hG, hK⟩
    · refine X_aload_n rfl rfl rfl rfl ?_
      refine X_iconst (v := (1 : Int32)) rfl rfl rfl ?_
      refine Y_callV (as := [.int (1 : Int32)]) (st := []) rfl rfl rfl (by decide) rfl (Nat.le_of_ble_eq_true rfl) (by decide) (Nat.le_of_ble_eq_true rfl) rfl ((congrFun V.1 338).trans s_338) (by decide) (C_X8_fail V hu ((congrFun (congrFun hG 338) 1).trans hTt) (1 : Int32) 1 (show (1 : Int32).toInt = 1 from rfl) (by omega) ) ?_
      rintro _ g ⟨vr20, rfl, hrvr200, hrvr201, V, hq, hk⟩
      have hG := hq.trans hG
      have hK := hk.trans hK
      refine LW_ireturn (st := []) rfl rfl rfl ?_
      refine S_iast (I := Inv _) rfl rfl ((congrFun V.1 _).trans (tx_s4 u hu)) rfl (by omega) (Inv_putI V (by omega) (Or.inl (by omega)) (Q_0 (tx_k4 u hu))) (fun g V ve21 vn22 hq => ?_)
      have hG := hq.trans hG
      have hK := (vn22 1 5 (Or.inl (by omega))).trans hK
      refine LW_goto (tgt := 118) rfl rfl ?_
      exact LW_return (st := []) rfl rfl ⟨rfl, V, hG, hK⟩
  by_cases vh23 : y1 = 12
  · refine S_lookIn (tgt := 65) (a := 12) rfl hx1 vh23 rfl rfl rfl ?_
    refine X_aload_n rfl rfl rfl rfl ?_
    refine X_getR (a := 292 + 10 * u) rfl rfl rfl ((congrFun V.1 338).trans s_338) rfl ((congrFun (congrFun hG 338) 1).trans hTt) ?_
    refine X_getR (a := 296 + 10 * u) rfl rfl rfl ((congrFun V.1 _).trans (tx_s u hu)) rfl ((congrFun (V.2.1 (292 + 10 * u) (by omega)) 4).trans (tx_r4 u hu)) ?_
    refine X_aload_n rfl rfl rfl rfl ?_
    refine S_getI rfl rfl rfl ((congrFun V.1 338).trans s_338) rfl (fun vz24 evz24 => ?_)
    have vf25 := K_17_6 (V.2.2.2.2.1 (338) (6) (Nat.le_of_ble_eq_true rfl)) rk_338
    rw [evz24] at vf25
    refine X_aload_n rfl rfl rfl rfl ?_
    refine X_iconst (v := (1 : Int32)) rfl rfl rfl ?_
    refine X_bipush (v := (99 : Int32)) rfl rfl rfl ?_
    refine X_callV (as := [.int (1 : Int32), .int (99 : Int32)]) (st := [.int vz24, .ref (296 + 10 * u)]) rfl rfl rfl (by decide) rfl (Nat.le_of_ble_eq_true rfl) (by decide) (Nat.le_of_ble_eq_true rfl) rfl ((congrFun V.1 338).trans s_338) (by decide) ?_
    refine LW_ls (ls' := [some (.ref 338), some (.int (1 : Int32)), some (.int (99 : Int32)), none]) rfl ?_
    refine X_aload_n rfl rfl rfl rfl ?_
    refine S_getI rfl rfl rfl ((congrFun V.1 338).trans s_338) rfl (fun vz26 evz26 => ?_)
    refine X_iconst (v := (2 : Int32)) rfl rfl rfl ?_
    refine S_icmp_eq (tgt := 14) rfl rfl rfl rfl (show (2 : Int32).toInt = 2 from rfl) (fun vh27 => ?_) (fun vh27 => ?_)
    · refine X_aload_n rfl rfl rfl rfl ?_
      refine S_getI rfl rfl rfl ((congrFun V.1 338).trans s_338) rfl (fun vz28 evz28 => ?_)
      refine X_istore_n (i := 3) (ls' := [some (.ref 338), some (.int (1 : Int32)), some (.int (99 : Int32)), some (.int vz28)]) rfl rfl rfl (Nat.le_of_ble_eq_true rfl) rfl ?_
      refine X_iload_n rfl rfl rfl rfl ?_
      refine X_iload_n rfl rfl rfl rfl ?_
      refine S_icmp_lt (tgt := 29) rfl rfl rfl rfl (show (1 : Int32).toInt = 1 from rfl) (fun vh29 => ?_) (fun vh29 => ?_)
      · refine X_aload_n rfl rfl rfl rfl ?_
        refine X_iconst (v := (2 : Int32)) rfl rfl rfl ?_
        refine Y_callV (as := [.int (2 : Int32)]) (st := []) rfl rfl rfl (by decide) rfl (Nat.le_of_ble_eq_true rfl) (by decide) (Nat.le_of_ble_eq_true rfl) rfl ((congrFun V.1 338).trans s_338) (by decide) (C_X8_fail V hu ((congrFun (congrFun hG 338) 1).trans hTt) (2 : Int32) 2 (show (2 : Int32).toInt = 2 from rfl) (by omega) ) ?_
        rintro _ g ⟨vr30, rfl, hrvr300, hrvr301, V, hq, hk⟩
        have hG := hq.trans hG
        have hK := hk.trans hK
        refine LW_ireturn (st := []) rfl rfl rfl ?_
        refine S_iast (I := Inv _) rfl rfl ((congrFun V.1 _).trans (tx_s4 u hu)) rfl (by omega) (Inv_putI V (by omega) (Or.inl (by omega)) (Q_0 (tx_k4 u hu))) (fun g V ve31 vn32 hq => ?_)
        have hG := hq.trans hG
        have hK := (vn32 1 5 (Or.inl (by omega))).trans hK
        refine LW_goto (tgt := 118) rfl rfl ?_
        exact LW_return (st := []) rfl rfl ⟨rfl, V, hG, hK⟩
      · refine X_iload_n rfl rfl rfl rfl ?_
        refine X_iload_n rfl rfl rfl rfl ?_
        refine S_icmp_le (tgt := 35) rfl rfl rfl rfl (show (99 : Int32).toInt = 99 from rfl) (fun vh33 => ?_) (fun vh33 => ?_)
        · refine X_aload_n rfl rfl rfl rfl ?_
          refine Y_callV (as := []) (st := []) rfl rfl rfl (by decide) rfl (Nat.le_of_ble_eq_true rfl) (by decide) (Nat.le_of_ble_eq_true rfl) rfl ((congrFun V.1 338).trans s_338) (by decide) (C_X8_next V hu ((congrFun (congrFun hG 338) 1).trans hTt)  ) ?_
          rintro _ g ⟨rfl, V, hq, hk⟩
          have hG := hq.trans hG
          have hK := hk.trans hK
          refine X_iload_n rfl rfl rfl rfl ?_
          refine LW_ireturn (st := []) rfl rfl rfl ?_
          refine S_iast (I := Inv _) rfl rfl ((congrFun V.1 _).trans (tx_s4 u hu)) rfl (by omega) (Inv_putI V (by omega) (Or.inl (by omega)) (Q_0 (tx_k4 u hu))) (fun g V ve35 vn36 hq => ?_)
          have hG := hq.trans hG
          have hK := (vn36 1 5 (Or.inl (by omega))).trans hK
          refine LW_goto (tgt := 118) rfl rfl ?_
          exact LW_return (st := []) rfl rfl ⟨rfl, V, hG, hK⟩
        · refine X_aload_n rfl rfl rfl rfl ?_
          refine X_iconst (v := (2 : Int32)) rfl rfl rfl ?_
          refine Y_callV (as := [.int (2 : Int32)]) (st := []) rfl rfl rfl (by decide) rfl (Nat.le_of_ble_eq_true rfl) (by decide) (Nat.le_of_ble_eq_true rfl) rfl ((congrFun V.1 338).trans s_338) (by decide) (C_X8_fail V hu ((congrFun (congrFun hG 338) 1).trans hTt) (2 : Int32) 2 (show (2 : Int32).toInt = 2 from rfl) (by omega) ) ?_
          rintro _ g ⟨vr37, rfl, hrvr370, hrvr371, V, hq, hk⟩
          have hG := hq.trans hG
          have hK := hk.trans hK
          refine LW_ireturn (st := []) rfl rfl rfl ?_
          refine S_iast (I := Inv _) rfl rfl ((congrFun V.1 _).trans (tx_s4 u hu)) rfl (by omega) (Inv_putI V (by omega) (Or.inl (by omega)) (Q_0 (tx_k4 u hu))) (fun g V ve38 vn39 hq => ?_)
          have hG := hq.trans hG
          have hK := (vn39 1 5 (Or.inl (by omega))).trans hK
          refine LW_goto (tgt := 118) rfl rfl ?_
          exact LW_return (st := []) rfl rfl ⟨rfl, V, hG, hK⟩
    · refine X_aload_n rfl rfl rfl rfl ?_
      refine X_iconst (v := (1 : Int32)) rfl rfl rfl ?_
      refine Y_callV (as := [.int (1 : Int32)]) (st := []) rfl rfl rfl (by decide) rfl (Nat.le_of_ble_eq_true rfl) (by decide) (Nat.le_of_ble_eq_true rfl) rfl ((congrFun V.1 338).trans s_338) (by decide) (C_X8_fail V hu ((congrFun (congrFun hG 338) 1).trans hTt) (1 : Int32) 1 (show (1 : Int32).toInt = 1 from rfl) (by omega) ) ?_
      rintro _ g ⟨vr40, rfl, hrvr400, hrvr401, V, hq, hk⟩
      have hG := hq.trans hG
      have hK := hk.trans hK
      refine LW_ireturn (st := []) rfl rfl rfl ?_
      refine S_iast (I := Inv _) rfl rfl ((congrFun V.1 _).trans (tx_s4 u hu)) rfl (by omega) (Inv_putI V (by omega) (Or.inl (by omega)) (Q_0 (tx_k4 u hu))) (fun g V ve41 vn42 hq => ?_)
      have hG := hq.trans hG
      have hK := (vn42 1 5 (Or.inl (by omega))).trans hK
      refine LW_goto (tgt := 118) rfl rfl ?_
      exact LW_return (st := []) rfl rfl ⟨rfl, V, hG, hK⟩
  refine S_lookOut (tgt := 87) rfl hx1 rfl (List.forall_mem_cons.mpr ⟨(show ¬ _ = (5 : Int) by omega), (List.forall_mem_cons.mpr ⟨(show ¬ _ = (11 : Int) by omega), (List.forall_mem_cons.mpr ⟨(show ¬ _ = (12 : Int) by omega), (fun _ h => absurd h List.not_mem_nil)⟩)⟩)⟩) rfl ?_
  refine X_aload_n rfl rfl rfl rfl ?_
  refine X_getR (a := 292 + 10 * u) rfl rfl rfl ((congrFun V.1 338).trans s_338) rfl ((congrFun (congrFun hG 338) 1).trans hTt) ?_
  refine X_getR (a := 294 + 10 * u) rfl rfl rfl ((congrFun V.1 _).trans (tx_s u hu)) rfl ((congrFun (V.2.1 (292 + 10 * u) (by omega)) 2).trans (tx_r2 u hu)) ?_
  refine X_aload_n rfl rfl rfl rfl ?_
  refine S_getI rfl rfl rfl ((congrFun V.1 338).trans s_338) rfl (fun vz43 evz43 => ?_)
  have vf44 := K_17_6 (V.2.2.2.2.1 (338) (6) (Nat.le_of_ble_eq_true rfl)) rk_338
  rw [evz43] at vf44
  refine X_aload_n rfl rfl rfl rfl ?_
  refine X_iload_n rfl rfl rfl rfl ?_
  refine X_iconst (v := (4 : Int32)) rfl rfl rfl ?_
  refine S_icmp_ne (tgt := 108) rfl rfl rfl hx1 (show (4 : Int32).toInt = 4 from rfl) (fun vh45 => ?_) (fun vh45 => ?_)
  · refine X_iconst (v := (0 : Int32)) rfl rfl rfl ?_
    refine Y_callV (as := [.int (0 : Int32)]) (st := [.int vz43, .ref (294 + 10 * u)]) rfl rfl rfl (by decide) rfl (Nat.le_of_ble_eq_true rfl) (by decide) (Nat.le_of_ble_eq_true rfl) rfl ((congrFun V.1 338).trans s_338) (by decide) (C_X8_takeLetters V hu ((congrFun (congrFun hG 338) 1).trans hTt) (0 : Int32) 0 (show (0 : Int32).toInt = 0 from rfl) (by omega) ) ?_
    rintro _ g ⟨vr46, rfl, V, hq, hk⟩
    have hG := hq.trans hG
    have hK := hk.trans hK
    refine S_iast (I := Inv _) rfl rfl ((congrFun V.1 _).trans (tx_s2 u hu)) rfl (by omega) (Inv_putI V (by omega) (Or.inl (by omega)) (Q_0 (tx_k2 u hu))) (fun g V ve47 vn48 hq => ?_)
    have hG := hq.trans hG
    have hK := (vn48 1 5 (Or.inl (by omega))).trans hK
    refine X_aload_n rfl rfl rfl rfl ?_
    refine X_iload_n rfl rfl rfl rfl ?_
    refine Y_callV (as := [.int x1]) (st := []) rfl rfl rfl (by decide) rfl (Nat.le_of_ble_eq_true rfl) (by decide) (Nat.le_of_ble_eq_true rfl) rfl ((congrFun V.1 338).trans s_338) (by decide) (C_X8_readBehindLetters V hu ((congrFun (congrFun hG 338) 1).trans hTt) x1 y1 hx1 (by omega) ) ?_
    rintro _ g ⟨rfl, V, hq, hk⟩
    have hG := hq.trans hG
    have hK := hk.trans hK
    exact LW_return (st := []) rfl rfl ⟨rfl, V, hG, hK⟩
  · refine X_iconst (v := (1 : Int32)) rfl rfl rfl ?_
    refine LW_goto (tgt := 109) rfl rfl ?_
    refine Y_callV (as := [.int (1 : Int32)]) (st := [.int vz43, .ref (294 + 10 * u)]) rfl rfl rfl (by decide) rfl (Nat.le_of_ble_eq_true rfl) (by decide) (Nat.le_of_ble_eq_true rfl) rfl ((congrFun V.1 338).trans s_338) (by decide) (C_X8_takeLetters V hu ((congrFun (congrFun hG 338) 1).trans hTt) (1 : Int32) 1 (show (1 : Int32).toInt = 1 from rfl) (by omega) ) ?_
    rintro _ g ⟨vr50, rfl, V, hq, hk⟩
    have hG := hq.trans hG
    have hK := hk.trans hK
    refine S_iast (I := Inv _) rfl rfl ((congrFun V.1 _).trans (tx_s2 u hu)) rfl (by omega) (Inv_putI V (by omega) (Or.inl (by omega)) (Q_0 (tx_k2 u hu))) (fun g V ve51 vn52 hq => ?_)
    have hG := hq.trans hG
    have hK := (vn52 1 5 (Or.inl (by omega))).trans hK
    refine X_aload_n rfl rfl rfl rfl ?_
    refine X_iload_n rfl rfl rfl rfl ?_
    refine Y_callV (as := [.int x1]) (st := []) rfl rfl rfl (by decide) rfl (Nat.le_of_ble_eq_true rfl) (by decide) (Nat.le_of_ble_eq_true rfl) rfl ((congrFun V.1 338).trans s_338) (by decide) (C_X8_readBehindLetters V hu ((congrFun (congrFun hG 338) 1).trans hTt) x1 y1 hx1 (by omega) ) ?_
    rintro _ g ⟨rfl, V, hq, hk⟩
    have hG := hq.trans hG
    have hK := hk.trans hK
    exact LW_return (st := []) rfl rfl ⟨rfl, V, hG, hK⟩
set_option maxRecDepth 10000 in
set_option maxHeartbeats 40000000 in
theorem C_X8_readAsk_s {P : Par} {g : LH} {d m : Nat} (ihr98 : ∀ (g : LH) (V : Inv P g) {u : Nat} (hu : u < 4) (hTt : Gr g 338 1 = some (292 + 10 * u)) (x1 : Int32) (y1 : Int) (hx1 : x1.toInt = y1) (hf1 : 0 ≤ y1 ∧ y1 ≤ 3) (x2 : Int32) (y2 : Int) (hx2 : x2.toInt = y2) (hf2 : 0 ≤ y2 ∧ y2 ≤ 8) , 9 - y2 < ((m : Nat) : Int) → LW 98 (d + 1 * m + 49) 0 0 0 (lEnt (mL 98) [.ref 338, .int x1, .int x2]) [] g (fun v g' => v = none ∧ Inv P g' ∧ Gr g' = Gr g ∧ Gi g' 1 5 = Gi g 1 5)) (V : Inv P g) {u : Nat} (hu : u < 4) (hTt : Gr g 338 1 = some (292 + 10 * u)) (x1 : Int32) (y1 : Int) (hx1 : x1.toInt = y1) (hf1 : 0 ≤ y1 ∧ y1 ≤ 3) (x2 : Int32) (y2 : Int) (hx2 : x2.toInt = y2) (hf2 : 0 ≤ y2 ∧ y2 ≤ 8)  (hlev : 9 - y2 < (((m + 1) : Nat) : Int)) : LW 98 (d + 1 * (m + 1) + 49) 0 0 0 (lEnt (mL 98) [.ref 338, .int x1, .int x2]) [] g (fun v g' => v = none ∧ Inv P g' ∧ Gr g' = Gr g ∧ Gi g' 1 5 = Gi g 1 5) := by
  refine LW_ls (ls' := [some (.ref 338), some (.int x1), some (.int x2), none]) rfl ?_
  have hG : Gr g = Gr g := rfl
  have hK : Gi g 1 5 = Gi g 1 5 := rfl
  refine X_aload_n rfl rfl rfl rfl ?_
  refine X_bipush (v := (20 : Int32)) rfl rfl rfl ?_
  refine X_callV (as := [.int (20 : Int32)]) (st := []) rfl rfl rfl (by decide) rfl (Nat.le_of_ble_eq_true rfl) (by decide) (Nat.le_of_ble_eq_true rfl) rfl ((congrFun V.1 338).trans s_338) (by decide) ?_
  refine LW_ls (ls' := [some (.ref 338), some (.int (20 : Int32))]) rfl ?_
  refine X_aload_n rfl rfl rfl rfl ?_
  refine S_getI rfl rfl rfl ((congrFun V.1 338).trans s_338) rfl (fun vz1 evz1 => ?_)
  refine X_iconst (v := (1 : Int32)) rfl rfl rfl ?_
  refine S_icmp_ne (tgt := 20) rfl rfl rfl rfl (show (1 : Int32).toInt = 1 from rfl) (fun vh2 => ?_) (fun vh2 => ?_)
  · refine X_iconst (v := (0 : Int32)) rfl rfl rfl ?_
    refine LW_ireturn (st := []) rfl rfl rfl ?_
    refine S_if_eq (tgt := 45) rfl rfl rfl (show (0 : Int32).toInt = 0 from rfl) (fun vh3 => ?_) (fun q => absurd q (by omega))
    refine X_aload_n rfl rfl rfl rfl ?_
    refine X_iload_n rfl rfl rfl rfl ?_
    refine X_iload_n rfl rfl rfl rfl ?_
    refine Y_callV (as := [.int x1, .int x2]) (st := []) rfl rfl rfl (by decide) rfl (Nat.le_of_ble_eq_true rfl) (by decide) (Nat.le_of_ble_eq_true rfl) rfl ((congrFun V.1 338).trans s_338) (by decide) (C_X8_readSum V hu ((congrFun (congrFun hG 338) 1).trans hTt) x1 y1 hx1 (by omega) x2 y2 hx2 (by omega) ) ?_
    rintro _ g ⟨rfl, V, hq, hk⟩
    have hG := hq.trans hG
    have hK := hk.trans hK
    refine X_aload_n rfl rfl rfl rfl ?_
    refine X_callV (as := []) (st := []) rfl rfl rfl (by decide) rfl (Nat.le_of_ble_eq_true rfl) (by decide) (Nat.le_of_ble_eq_true rfl) rfl ((congrFun V.1 338).trans s_338) (by decide) ?_
    refine LW_ls (ls' := [some (.ref 338)]) rfl ?_
    refine X_aload_n rfl rfl rfl rfl ?_
    refine S_getI rfl rfl rfl ((congrFun V.1 338).trans s_338) rfl (fun vz5 evz5 => ?_)
    refine X_iconst (v := (3 : Int32)) rfl rfl rfl ?_
    refine S_icmp_eq (tgt := 10) rfl rfl rfl rfl (show (3 : Int32).toInt = 3 from rfl) (fun vh6 => ?_) (fun vh6 => ?_)
    · refine X_aload_n rfl rfl rfl rfl ?_
      refine S_getI rfl rfl rfl ((congrFun V.1 338).trans s_338) rfl (fun vz7 evz7 => ?_)
      by_cases vh8 : vz7.toInt = 35
      · refine S_lookIn (tgt := 92) (a := 35) rfl rfl vh8 rfl rfl rfl ?_
        refine X_sipush (v := (20009 : Int32)) rfl rfl rfl ?_
        refine LW_ireturn (st := []) rfl rfl rfl ?_
        refine X_istore_n (i := 3) (ls' := [some (.ref 338), some (.int x1), some (.int x2), some (.int (20009 : Int32))]) rfl rfl rfl (Nat.le_of_ble_eq_true rfl) rfl ?_
        refine X_iload_n rfl rfl rfl rfl ?_
        refine X_iconst (v := (-1 : Int32)) rfl rfl rfl ?_
        refine S_icmp_ne (tgt := 68) rfl rfl rfl (show (20009 : Int32).toInt = 20009 from rfl) (show (-1 : Int32).toInt = -1 from rfl) (fun vh9 => ?_) (fun q => absurd q (by omega))
        refine X_aload_n rfl rfl rfl rfl ?_
        refine Y_callV (as := []) (st := []) rfl rfl rfl (by decide) rfl (Nat.le_of_ble_eq_true rfl) (by decide) (Nat.le_of_ble_eq_true rfl) rfl ((congrFun V.1 338).trans s_338) (by decide) (C_X8_next V hu ((congrFun (congrFun hG 338) 1).trans hTt)  ) ?_
        rintro _ g ⟨rfl, V, hq, hk⟩
        have hG := hq.trans hG
        have hK := hk.trans hK
        refine X_aload_n rfl rfl rfl rfl ?_
        refine X_iload_n rfl rfl rfl rfl ?_
        refine X_iload_n rfl rfl rfl rfl ?_
        refine Y_callV (as := [.int x1, .int x2]) (st := []) rfl rfl rfl (by decide) rfl (Nat.le_of_ble_eq_true rfl) (by decide) (Nat.le_of_ble_eq_true rfl) rfl ((congrFun V.1 338).trans s_338) (by decide) (C_X8_readSum V hu ((congrFun (congrFun hG 338) 1).trans hTt) x1 y1 hx1 (by omega) x2 y2 hx2 (by omega) ) ?_
        rintro _ g ⟨rfl, V, hq, hk⟩
        have hG := hq.trans hG
        have hK := hk.trans hK
        refine X_aload_n rfl rfl rfl rfl ?_
        refine X_getR (a := 292 + 10 * u) rfl rfl rfl ((congrFun V.1 338).trans s_338) rfl ((congrFun (congrFun hG 338) 1).trans hTt) ?_
        refine X_iload_n rfl rfl rfl rfl ?_
        refine Y_callV (as := [.int (20009 : Int32)]) (st := []) rfl rfl rfl (by decide) rfl (Nat.le_of_ble_eq_true rfl) (by decide) (Nat.le_of_ble_eq_true rfl) rfl ((congrFun V.1 _).trans (tx_s u hu)) (by decide) (C_X11_emit_T hu V (20009 : Int32) 20009 (show (20009 : Int32).toInt = 20009 from rfl) (by omega) (by omega)) ?_
        rintro _ g ⟨rfl, V, hq, hk⟩
        have hG := hq.trans hG
        have hK := hk.trans hK
        exact LW_return (st := []) rfl rfl ⟨rfl, V, hG, hK⟩
      by_cases vh13 : vz7.toInt = 60
      · refine S_lookIn (tgt := 72) (a := 60) rfl rfl vh13 rfl rfl rfl ?_
        refine X_sipush (v := (20004 : Int32)) rfl rfl rfl ?_
        refine LW_ireturn (st := []) rfl rfl rfl ?_
        refine X_istore_n (i := 3) (ls' := [some (.ref 338), some (.int x1), some (.int x2), some (.int (20004 : Int32))]) rfl rfl rfl (Nat.le_of_ble_eq_true rfl) rfl ?_
        refine X_iload_n rfl rfl rfl rfl ?_
        refine X_iconst (v := (-1 : Int32)) rfl rfl rfl ?_
        refine S_icmp_ne (tgt := 68) rfl rfl rfl (show (20004 : Int32).toInt = 20004 from rfl) (show (-1 : Int32).toInt = -1 from rfl) (fun vh14 => ?_) (fun q => absurd q (by omega))
        refine X_aload_n rfl rfl rfl rfl ?_
        refine Y_callV (as := []) (st := []) rfl rfl rfl (by decide) rfl (Nat.le_of_ble_eq_true rfl) (by decide) (Nat.le_of_ble_eq_true rfl) rfl ((congrFun V.1 338).trans s_338) (by decide) (C_X8_next V hu ((congrFun (congrFun hG 338) 1).trans hTt)  ) ?_
        rintro _ g ⟨rfl, V, hq, hk⟩
        have hG := hq.trans hG
        have hK := hk.trans hK
        refine X_aload_n rfl rfl rfl rfl ?_
        refine X_iload_n rfl rfl rfl rfl ?_
        refine X_iload_n rfl rfl rfl rfl ?_
        refine Y_callV (as := [.int x1, .int x2]) (st := []) rfl rfl rfl (by decide) rfl (Nat.le_of_ble_eq_true rfl) (by decide) (Nat.le_of_ble_eq_true rfl) rfl ((congrFun V.1 338).trans s_338) (by decide) (C_X8_readSum V hu ((congrFun (congrFun hG 338) 1).trans hTt) x1 y1 hx1 (by omega) x2 y2 hx2 (by omega) ) ?_
        rintro _ g ⟨rfl, V, hq, hk⟩
        have hG := hq.trans hG
        have hK := hk.trans hK
        refine X_aload_n rfl rfl rfl rfl ?_
        refine X_getR (a := 292 + 10 * u) rfl rfl rfl ((congrFun V.1 338).trans s_338) rfl ((congrFun (congrFun hG 338) 1).trans hTt) ?_
        refine X_iload_n rfl rfl rfl rfl ?_
        refine Y_callV (as := [.int (20004 : Int32)]) (st := []) rfl rfl rfl (by decide) rfl (Nat.le_of_ble_eq_true rfl) (by decide) (Nat.le_of_ble_eq_true rfl) rfl ((congrFun V.1 _).trans (tx_s u hu)) (by decide) (C_X11_emit_T hu V (20004 : Int32) 20004 (show (20004 : Int32).toInt = 20004 from rfl) (by omega) (by omega)) ?_
        rintro _ g ⟨rfl, V, hq, hk⟩
        have hG := hq.trans hG
        have hK := hk.trans hK
        exact LW_return (st := []) rfl rfl ⟨rfl, V, hG, hK⟩
      by_cases vh18 : vz7.toInt = 61
      · refine S_lookIn (tgt := 88) (a := 61) rfl rfl vh18 rfl rfl rfl ?_
        refine X_sipush (v := (20008 : Int32)) rfl rfl rfl ?_
        refine LW_ireturn (st := []) rfl rfl rfl ?_
        refine X_istore_n (i := 3) (ls' := [some (.ref 338), some (.int x1), some (.int x2), some (.int (20008 : Int32))]) rfl rfl rfl (Nat.le_of_ble_eq_true rfl) rfl ?_
        refine X_iload_n rfl rfl rfl rfl ?_
        refine X_iconst (v := (-1 : Int32)) rfl rfl rfl ?_
        refine S_icmp_ne (tgt := 68) rfl rfl rfl (show (20008 : Int32).toInt = 20008 from rfl) (show (-1 : Int32).toInt = -1 from rfl) (fun vh19 => ?_) (fun q => absurd q (by omega))
        refine X_aload_n rfl rfl rfl rfl ?_
        refine Y_callV (as := []) (st := []) rfl rfl rfl (by decide) rfl (Nat.le_of_ble_eq_true rfl) (by decide) (Nat.le_of_ble_eq_true rfl) rfl ((congrFun V.1 338).trans s_338) (by decide) (C_X8_next V hu ((congrFun (congrFun hG 338) 1).trans hTt)  ) ?_
        rintro _ g ⟨rfl, V, hq, hk⟩
        have hG := hq.trans hG
        have hK := hk.trans hK
        refine X_aload_n rfl rfl rfl rfl ?_
        refine X_iload_n rfl rfl rfl rfl ?_
        refine X_iload_n rfl rfl rfl rfl ?_
        refine Y_callV (as := [.int x1, .int x2]) (st := []) rfl rfl rfl (by decide) rfl (Nat.le_of_ble_eq_true rfl) (by decide) (Nat.le_of_ble_eq_true rfl) rfl ((congrFun V.1 338).trans s_338) (by decide) (C_X8_readSum V hu ((congrFun (congrFun hG 338) 1).trans hTt) x1 y1 hx1 (by omega) x2 y2 hx2 (by omega) ) ?_
        rintro _ g ⟨rfl, V, hq, hk⟩
        have hG := hq.trans hG
        have hK := hk.trans hK
        refine X_aload_n rfl rfl rfl rfl ?_
        refine X_getR (a := 292 + 10 * u) rfl rfl rfl ((congrFun V.1 338).trans s_338) rfl ((congrFun (congrFun hG 338) 1).trans hTt) ?_
        refine X_iload_n rfl rfl rfl rfl ?_
        refine Y_callV (as := [.int (20008 : Int32)]) (st := []) rfl rfl rfl (by decide) rfl (Nat.le_of_ble_eq_true rfl) (by decide) (Nat.le_of_ble_eq_true rfl) rfl ((congrFun V.1 _).trans (tx_s u hu)) (by decide) (C_X11_emit_T hu V (20008 : Int32) 20008 (show (20008 : Int32).toInt = 20008 from rfl) (by omega) (by omega)) ?_
        rintro _ g ⟨rfl, V, hq, hk⟩
        have hG := hq.trans hG
        have hK := hk.trans hK
        exact LW_return (st := []) rfl rfl ⟨rfl, V, hG, hK⟩
      by_cases vh23 : vz7.toInt = 62
      · refine S_lookIn (tgt := 80) (a := 62) rfl rfl vh23 rfl rfl rfl ?_
        refine X_sipush (v := (20006 : Int32)) rfl rfl rfl ?_
        refine LW_ireturn (st := []) rfl rfl rfl ?_
        refine X_istore_n (i := 3) (ls' := [some (.ref 338), some (.int x1), some (.int x2), some (.int (20006 : Int32))]) rfl rfl rfl (Nat.le_of_ble_eq_true rfl) rfl ?_
        refine X_iload_n rfl rfl rfl rfl ?_
        refine X_iconst (v := (-1 : Int32)) rfl rfl rfl ?_
        refine S_icmp_ne (tgt := 68) rfl rfl rfl (show (20006 : Int32).toInt = 20006 from rfl) (show (-1 : Int32).toInt = -1 from rfl) (fun vh24 => ?_) (fun q => absurd q (by omega))
        refine X_aload_n rfl rfl rfl rfl ?_
        refine Y_callV (as := []) (st := []) rfl rfl rfl (by decide) rfl (Nat.le_of_ble_eq_true rfl) (by decide) (Nat.le_of_ble_eq_true rfl) rfl ((congrFun V.1 338).trans s_338) (by decide) (C_X8_next V hu ((congrFun (congrFun hG 338) 1).trans hTt)  ) ?_
        rintro _ g ⟨rfl, V, hq, hk⟩
        have hG := hq.trans hG
        have hK := hk.trans hK
        refine X_aload_n rfl rfl rfl rfl ?_
        refine X_iload_n rfl rfl rfl rfl ?_
        refine X_iload_n rfl rfl rfl rfl ?_
        refine Y_callV (as := [.int x1, .int x2]) (st := []) rfl rfl rfl (by decide) rfl (Nat.le_of_ble_eq_true rfl) (by decide) (Nat.le_of_ble_eq_true rfl) rfl ((congrFun V.1 338).trans s_338) (by decide) (C_X8_readSum V hu ((congrFun (congrFun hG 338) 1).trans hTt) x1 y1 hx1 (by omega) x2 y2 hx2 (by omega) ) ?_
        rintro _ g ⟨rfl, V, hq, hk⟩
        have hG := hq.trans hG
        have hK := hk.trans hK
        refine X_aload_n rfl rfl rfl rfl ?_
        refine X_getR (a := 292 + 10 * u) rfl rfl rfl ((congrFun V.1 338).trans s_338) rfl ((congrFun (congrFun hG 338) 1).trans hTt) ?_
        refine X_iload_n rfl rfl rfl rfl ?_
        refine Y_callV (as := [.int (20006 : Int32)]) (st := []) rfl rfl rfl (by decide) rfl (Nat.le_of_ble_eq_true rfl) (by decide) (Nat.le_of_ble_eq_true rfl) rfl ((congrFun V.1 _).trans (tx_s u hu)) (by decide) (C_X11_emit_T hu V (20006 : Int32) 20006 (show (20006 : Int32).toInt = 20006 from rfl) (by omega) (by omega)) ?_
        rintro _ g ⟨rfl, V, hq, hk⟩
        have hG := hq.trans hG
        have hK := hk.trans hK
        exact LW_return (st := []) rfl rfl ⟨rfl, V, hG, hK⟩
      by_cases vh28 : vz7.toInt = 316
      · refine S_lookIn (tgt := 76) (a := 316) rfl rfl vh28 rfl rfl rfl ?_
        refine X_sipush (v := (20005 : Int32)) rfl rfl rfl ?_
        refine LW_ireturn (st := []) rfl rfl rfl ?_
        refine X_istore_n (i := 3) (ls' := [some (.ref 338), some (.int x1), some (.int x2), some (.int (20005 : Int32))]) rfl rfl rfl (Nat.le_of_ble_eq_true rfl) rfl ?_
        refine X_iload_n rfl rfl rfl rfl ?_
        refine X_iconst (v := (-1 : Int32)) rfl rfl rfl ?_
        refine S_icmp_ne (tgt := 68) rfl rfl rfl (show (20005 : Int32).toInt = 20005 from rfl) (show (-1 : Int32).toInt = -1 from rfl) (fun vh29 => ?_) (fun q => absurd q (by omega))
        refine X_aload_n rfl rfl rfl rfl ?_
        refine Y_callV (as := []) (st := []) rfl rfl rfl (by decide) rfl (Nat.le_of_ble_eq_true rfl) (by decide) (Nat.le_of_ble_eq_true rfl) rfl ((congrFun V.1 338).trans s_338) (by decide) (C_X8_next V hu ((congrFun (congrFun hG 338) 1).trans hTt)  ) ?_
        rintro _ g ⟨rfl, V, hq, hk⟩
        have hG := hq.trans hG
        have hK := hk.trans hK
        refine X_aload_n rfl rfl rfl rfl ?_
        refine X_iload_n rfl rfl rfl rfl ?_
        refine X_iload_n rfl rfl rfl rfl ?_
        refine Y_callV (as := [.int x1, .int x2]) (st := []) rfl rfl rfl (by decide) rfl (Nat.le_of_ble_eq_true rfl) (by decide) (Nat.le_of_ble_eq_true rfl) rfl ((congrFun V.1 338).trans s_338) (by decide) (C_X8_readSum V hu ((congrFun (congrFun hG 338) 1).trans hTt) x1 y1 hx1 (by omega) x2 y2 hx2 (by omega) ) ?_
        rintro _ g ⟨rfl, V, hq, hk⟩
        have hG := hq.trans hG
        have hK := hk.trans hK
        refine X_aload_n rfl rfl rfl rfl ?_
        refine X_getR (a := 292 + 10 * u) rfl rfl rfl ((congrFun V.1 338).trans s_338) rfl ((congrFun (congrFun hG 338) 1).trans hTt) ?_
        refine X_iload_n rfl rfl rfl rfl ?_
        refine Y_callV (as := [.int (20005 : Int32)]) (st := []) rfl rfl rfl (by decide) rfl (Nat.le_of_ble_eq_true rfl) (by decide) (Nat.le_of_ble_eq_true rfl) rfl ((congrFun V.1 _).trans (tx_s u hu)) (by decide) (C_X11_emit_T hu V (20005 : Int32) 20005 (show (20005 : Int32).toInt = 20005 from rfl) (by omega) (by omega)) ?_
        rintro _ g ⟨rfl, V, hq, hk⟩
        have hG := hq.trans hG
        have hK := hk.trans hK
        exact LW_return (st := []) rfl rfl ⟨rfl, V, hG, hK⟩
      by_cases vh33 : vz7.toInt = 318
      · refine S_lookIn (tgt := 84) (a := 318) rfl rfl vh33 rfl rfl rfl ?_
        refine X_sipush (v := (20007 : Int32)) rfl rfl rfl ?_
        refine LW_ireturn (st := []) rfl rfl rfl ?_
        refine X_istore_n (i := 3) (ls' := [some (.ref 338), some (.int x1), some (.int x2), some (.int (20007 : Int32))]) rfl rfl rfl (Nat.le_of_ble_eq_true rfl) rfl ?_
        refine X_iload_n rfl rfl rfl rfl ?_
        refine X_iconst (v := (-1 : Int32)) rfl rfl rfl ?_
        refine S_icmp_ne (tgt := 68) rfl rfl rfl (show (20007 : Int32).toInt = 20007 from rfl) (show (-1 : Int32).toInt = -1 from rfl) (fun vh34 => ?_) (fun q => absurd q (by omega))
        refine X_aload_n rfl rfl rfl rfl ?_
        refine Y_callV (as := []) (st := []) rfl rfl rfl (by decide) rfl (Nat.le_of_ble_eq_true rfl) (by decide) (Nat.le_of_ble_eq_true rfl) rfl ((congrFun V.1 338).trans s_338) (by decide) (C_X8_next V hu ((congrFun (congrFun hG 338) 1).trans hTt)  ) ?_
        rintro _ g ⟨rfl, V, hq, hk⟩
        have hG := hq.trans hG
        have hK := hk.trans hK
        refine X_aload_n rfl rfl rfl rfl ?_
        refine X_iload_n rfl rfl rfl rfl ?_
        refine X_iload_n rfl rfl rfl rfl ?_
        refine Y_callV (as := [.int x1, .int x2]) (st := []) rfl rfl rfl (by decide) rfl (Nat.le_of_ble_eq_true rfl) (by decide) (Nat.le_of_ble_eq_true rfl) rfl ((congrFun V.1 338).trans s_338) (by decide) (C_X8_readSum V hu ((congrFun (congrFun hG 338) 1).trans hTt) x1 y1 hx1 (by omega) x2 y2 hx2 (by omega) ) ?_
        rintro _ g ⟨rfl, V, hq, hk⟩
        have hG := hq.trans hG
        have hK := hk.trans hK
        refine X_aload_n rfl rfl rfl rfl ?_
        refine X_getR (a := 292 + 10 * u) rfl rfl rfl ((congrFun V.1 338).trans s_338) rfl ((congrFun (congrFun hG 338) 1).trans hTt) ?_
        refine X_iload_n rfl rfl rfl rfl ?_
        refine Y_callV (as := [.int (20007 : Int32)]) (st := []) rfl rfl rfl (by decide) rfl (Nat.le_of_ble_eq_true rfl) (by decide) (Nat.le_of_ble_eq_true rfl) rfl ((congrFun V.1 _).trans (tx_s u hu)) (by decide) (C_X11_emit_T hu V (20007 : Int32) 20007 (show (20007 : Int32).toInt = 20007 from rfl) (by omega) (by omega)) ?_
        rintro _ g ⟨rfl, V, hq, hk⟩
        have hG := hq.trans hG
        have hK := hk.trans hK
        exact LW_return (st := []) rfl rfl ⟨rfl, V, hG, hK⟩
      refine S_lookOut (tgt := 96) rfl rfl rfl (List.forall_mem_cons.mpr ⟨(show ¬ _ = (35 : Int) by omega), (List.forall_mem_cons.mpr ⟨(show ¬ _ = (60 : Int) by omega), (List.forall_mem_cons.mpr ⟨(show ¬ _ = (61 : Int) by omega), (List.forall_mem_cons.mpr ⟨(show ¬ _ = (62 : Int) by omega), (List.forall_mem_cons.mpr ⟨(show ¬ _ = (316 : Int) by omega), (List.forall_mem_cons.mpr ⟨(show ¬ _ = (318 : Int) by omega), (fun _ h => absurd h List.not_mem_nil)⟩)⟩)⟩)⟩)⟩)⟩) rfl ?_
      refine X_iconst (v := (-1 : Int32)) rfl rfl rfl ?_
      refine LW_ireturn (st := []) rfl rfl rfl ?_
      refine X_istore_n (i := 3) (ls' := [some (.ref 338), some (.int x1), some (.int x2), some (.int (-1 : Int32))]) rfl rfl rfl (Nat.le_of_ble_eq_true rfl) rfl ?_
      refine X_iload_n rfl rfl rfl rfl ?_
      refine X_iconst (v := (-1 : Int32)) rfl rfl rfl ?_
      refine S_icmp_ne (tgt := 68) rfl rfl rfl (show (-1 : Int32).toInt = -1 from rfl) (show (-1 : Int32).toInt = -1 from rfl) (fun q => absurd q (by omega)) (fun vh38 => ?_)
      refine X_aload_n rfl rfl rfl rfl ?_
      refine X_iconst (v := (1 : Int32)) rfl rfl rfl ?_
      refine Y_callV (as := [.int (1 : Int32)]) (st := []) rfl rfl rfl (by decide) rfl (Nat.le_of_ble_eq_true rfl) (by decide) (Nat.le_of_ble_eq_true rfl) rfl ((congrFun V.1 338).trans s_338) (by decide) (C_X8_fail V hu ((congrFun (congrFun hG 338) 1).trans hTt) (1 : Int32) 1 (show (1 : Int32).toInt = 1 from rfl) (by omega) ) ?_
      rintro _ g ⟨vr39, rfl, hrvr390, hrvr391, V, hq, hk⟩
      have hG := hq.trans hG
      have hK := hk.trans hK
      refine X_pop rfl rfl rfl ?_
      exact LW_return (st := []) rfl rfl ⟨rfl, V, hG, hK⟩
    · refine X_iconst (v := (-1 : Int32)) rfl rfl rfl ?_
      refine LW_ireturn (st := []) rfl rfl rfl ?_
      refine X_istore_n (i := 3) (ls' := [some (.ref 338), some (.int x1), some (.int x2), some (.int (-1 : Int32))]) rfl rfl rfl (Nat.le_of_ble_eq_true rfl) rfl ?_
      refine X_iload_n rfl rfl rfl rfl ?_
      refine X_iconst (v := (-1 : Int32)) rfl rfl rfl ?_
      refine S_icmp_ne (tgt := 68) rfl rfl rfl (show (-1 : Int32).toInt = -1 from rfl) (show (-1 : Int32).toInt = -1 from rfl) (fun q => absurd q (by omega)) (fun vh40 => ?_)
      refine X_aload_n rfl rfl rfl rfl ?_
      refine X_iconst (v := (1 : Int32)) rfl rfl rfl ?_
      refine Y_callV (as := [.int (1 : Int32)]) (st := []) rfl rfl rfl (by decide) rfl (Nat.le_of_ble_eq_true rfl) (by decide) (Nat.le_of_ble_eq_true rfl) rfl ((congrFun V.1 338).trans s_338) (by decide) (C_X8_fail V hu ((congrFun (congrFun hG 338) 1).trans hTt) (1 : Int32) 1 (show (1 : Int32).toInt = 1 from rfl) (by omega) ) ?_
      rintro _ g ⟨vr41, rfl, hrvr410, hrvr411, V, hq, hk⟩
      have hG := hq.trans hG
      have hK := hk.trans hK
      refine X_pop rfl rfl rfl ?_
      exact LW_return (st := []) rfl rfl ⟨rfl, V, hG, hK⟩
  · refine X_aload_n rfl rfl rfl rfl ?_
    refine S_getI rfl rfl rfl ((congrFun V.1 338).trans s_338) rfl (fun vz42 evz42 => ?_)
    refine X_iload_n rfl rfl rfl rfl ?_
    refine S_icmp_ne (tgt := 20) rfl rfl rfl rfl (show (20 : Int32).toInt = 20 from rfl) (fun vh43 => ?_) (fun vh43 => ?_)
    · refine X_iconst (v := (0 : Int32)) rfl rfl rfl ?_
      refine LW_ireturn (st := []) rfl rfl rfl ?_
      refine S_if_eq (tgt := 45) rfl rfl rfl (show (0 : Int32).toInt = 0 from rfl) (fun vh44 => ?_) (fun q => absurd q (by omega))
      refine X_aload_n rfl rfl rfl rfl ?_
      refine X_iload_n rfl rfl rfl rfl ?_
      refine X_iload_n rfl rfl rfl rfl ?_
      refine Y_callV (as := [.int x1, .int x2]) (st := []) rfl rfl rfl (by decide) rfl (Nat.le_of_ble_eq_true rfl) (by decide) (Nat.le_of_ble_eq_true rfl) rfl ((congrFun V.1 338).trans s_338) (by decide) (C_X8_readSum V hu ((congrFun (congrFun hG 338) 1).trans hTt) x1 y1 hx1 (by omega) x2 y2 hx2 (by omega) ) ?_
      rintro _ g ⟨rfl, V, hq, hk⟩
      have hG := hq.trans hG
      have hK := hk.trans hK
      refine X_aload_n rfl rfl rfl rfl ?_
      refine X_callV (as := []) (st := []) rfl rfl rfl (by decide) rfl (Nat.le_of_ble_eq_true rfl) (by decide) (Nat.le_of_ble_eq_true rfl) rfl ((congrFun V.1 338).trans s_338) (by decide) ?_
      refine LW_ls (ls' := [some (.ref 338)]) rfl ?_
      refine X_aload_n rfl rfl rfl rfl ?_
      refine S_getI rfl rfl rfl ((congrFun V.1 338).trans s_338) rfl (fun vz46 evz46 => ?_)
      refine X_iconst (v := (3 : Int32)) rfl rfl rfl ?_
      refine S_icmp_eq (tgt := 10) rfl rfl rfl rfl (show (3 : Int32).toInt = 3 from rfl) (fun vh47 => ?_) (fun vh47 => ?_)
      · refine X_aload_n rfl rfl rfl rfl ?_
        refine S_getI rfl rfl rfl ((congrFun V.1 338).trans s_338) rfl (fun vz48 evz48 => ?_)
        by_cases vh49 : vz48.toInt = 35
        · refine S_lookIn (tgt := 92) (a := 35) rfl rfl vh49 rfl rfl rfl ?_
          refine X_sipush (v := (20009 : Int32)) rfl rfl rfl ?_
          refine LW_ireturn (st := []) rfl rfl rfl ?_
          refine X_istore_n (i := 3) (ls' := [some (.ref 338), some (.int x1), some (.int x2), some (.int (20009 : Int32))]) rfl rfl rfl (Nat.le_of_ble_eq_true rfl) rfl ?_
          refine X_iload_n rfl rfl rfl rfl ?_
          refine X_iconst (v := (-1 : Int32)) rfl rfl rfl ?_
          refine S_icmp_ne (tgt := 68) rfl rfl rfl (show (20009 : Int32).toInt = 20009 from rfl) (show (-1 : Int32).toInt = -1 from rfl) (fun vh50 => ?_) (fun q => absurd q (by omega))
          refine X_aload_n rfl rfl rfl rfl ?_
          refine Y_callV (as := []) (st := []) rfl rfl rfl (by decide) rfl (Nat.le_of_ble_eq_true rfl) (by decide) (Nat.le_of_ble_eq_true rfl) rfl ((congrFun V.1 338).trans s_338) (by decide) (C_X8_next V hu ((congrFun (congrFun hG 338) 1).trans hTt)  ) ?_
          rintro _ g ⟨rfl, V, hq, hk⟩
          have hG := hq.trans hG
          have hK := hk.trans hK
          refine X_aload_n rfl rfl rfl rfl ?_
          refine X_iload_n rfl rfl rfl rfl ?_
          refine X_iload_n rfl rfl rfl rfl ?_
          refine Y_callV (as := [.int x1, .int x2]) (st := []) rfl rfl rfl (by decide) rfl (Nat.le_of_ble_eq_true rfl) (by decide) (Nat.le_of_ble_eq_true rfl) rfl ((congrFun V.1 338).trans s_338) (by decide) (C_X8_readSum V hu ((congrFun (congrFun hG 338) 1).trans hTt) x1 y1 hx1 (by omega) x2 y2 hx2 (by omega) ) ?_
          rintro _ g ⟨rfl, V, hq, hk⟩
          have hG := hq.trans hG
          have hK := hk.trans hK
          refine X_aload_n rfl rfl rfl rfl ?_
          refine X_getR (a := 292 + 10 * u) rfl rfl rfl ((congrFun V.1 338).trans s_338) rfl ((congrFun (congrFun hG 338) 1).trans hTt) ?_
          refine X_iload_n rfl rfl rfl rfl ?_
          refine Y_callV (as := [.int (20009 : Int32)]) (st := []) rfl rfl rfl (by decide) rfl (Nat.le_of_ble_eq_true rfl) (by decide) (Nat.le_of_ble_eq_true rfl) rfl ((congrFun V.1 _).trans (tx_s u hu)) (by decide) (C_X11_emit_T hu V (20009 : Int32) 20009 (show (20009 : Int32).toInt = 20009 from rfl) (by omega) (by omega)) ?_
          rintro _ g ⟨rfl, V, hq, hk⟩
          have hG := hq.trans hG
          have hK := hk.trans hK
          exact LW_return (st := []) rfl rfl ⟨rfl, V, hG, hK⟩
        by_cases vh54 : vz48.toInt = 60
        · refine S_lookIn (tgt := 72) (a := 60) rfl rfl vh54 rfl rfl rfl ?_
          refine X_sipush (v := (20004 : Int32)) rfl rfl rfl ?_
          refine LW_ireturn (st := []) rfl rfl rfl ?_
          refine X_istore_n (i := 3) (ls' := [some (.ref 338), some (.int x1), some (.int x2), some (.int (20004 : Int32))]) rfl rfl rfl (Nat.le_of_ble_eq_true rfl) rfl ?_
          refine X_iload_n rfl rfl rfl rfl ?_
          refine X_iconst (v := (-1 : Int32)) rfl rfl rfl ?_
          refine S_icmp_ne (tgt := 68) rfl rfl rfl (show (20004 : Int32).toInt = 20004 from rfl) (show (-1 : Int32).toInt = -1 from rfl) (fun vh55 => ?_) (fun q => absurd q (by omega))
          refine X_aload_n rfl rfl rfl rfl ?_
          refine Y_callV (as := []) (st := []) rfl rfl rfl (by decide) rfl (Nat.le_of_ble_eq_true rfl) (by decide) (Nat.le_of_ble_eq_true rfl) rfl ((congrFun V.1 338).trans s_338) (by decide) (C_X8_next V hu ((congrFun (congrFun hG 338) 1).trans hTt)  ) ?_
          rintro _ g ⟨rfl, V, hq, hk⟩
          have hG := hq.trans hG
          have hK := hk.trans hK
          refine X_aload_n rfl rfl rfl rfl ?_
          refine X_iload_n rfl rfl rfl rfl ?_
          refine X_iload_n rfl rfl rfl rfl ?_
          refine Y_callV (as := [.int x1, .int x2]) (st := []) rfl rfl rfl (by decide) rfl (Nat.le_of_ble_eq_true rfl) (by decide) (Nat.le_of_ble_eq_true rfl) rfl ((congrFun V.1 338).trans s_338) (by decide) (C_X8_readSum V hu ((congrFun (congrFun hG 338) 1).trans hTt) x1 y1 hx1 (by omega) x2 y2 hx2 (by omega) ) ?_
          rintro _ g ⟨rfl, V, hq, hk⟩
          have hG := hq.trans hG
          have hK := hk.trans hK
          refine X_aload_n rfl rfl rfl rfl ?_
          refine X_getR (a := 292 + 10 * u) rfl rfl rfl ((congrFun V.1 338).trans s_338) rfl ((congrFun (congrFun hG 338) 1).trans hTt) ?_
          refine X_iload_n rfl rfl rfl rfl ?_
          refine Y_callV (as := [.int (20004 : Int32)]) (st := []) rfl rfl rfl (by decide) rfl (Nat.le_of_ble_eq_true rfl) (by decide) (Nat.le_of_ble_eq_true rfl) rfl ((congrFun V.1 _).trans (tx_s u hu)) (by decide) (C_X11_emit_T hu V (20004 : Int32) 20004 (show (20004 : Int32).toInt = 20004 from rfl) (by omega) (by omega)) ?_
          rintro _ g ⟨rfl, V, hq, hk⟩
          have hG := hq.trans hG
          have hK := hk.trans hK
          exact LW_return (st := []) rfl rfl ⟨rfl, V, hG, hK⟩
        by_cases vh59 : vz48.toInt = 61
        · refine S_lookIn (tgt := 88) (a := 61) rfl rfl vh59 rfl rfl rfl ?_
          refine X_sipush (v := (20008 : Int32)) rfl rfl rfl ?_
          refine LW_ireturn (st := []) rfl rfl rfl ?_
          refine X_istore_n (i := 3) (ls' := [some (.ref 338), some (.int x1), some (.int x2), some (.int (20008 : Int32))]) rfl rfl rfl (Nat.le_of_ble_eq_true rfl) rfl ?_
          refine X_iload_n rfl rfl rfl rfl ?_
          refine X_iconst (v := (-1 : Int32)) rfl rfl rfl ?_
          refine S_icmp_ne (tgt := 68) rfl rfl rfl (show (20008 : Int32).toInt = 20008 from rfl) (show (-1 : Int32).toInt = -1 from rfl) (fun vh60 => ?_) (fun q => absurd q (by omega))
          refine X_aload_n rfl rfl rfl rfl ?_
          refine Y_callV (as := []) (st := []) rfl rfl rfl (by decide) rfl (Nat.le_of_ble_eq_true rfl) (by decide) (Nat.le_of_ble_eq_true rfl) rfl ((congrFun V.1 338).trans s_338) (by decide) (C_X8_next V hu ((congrFun (congrFun hG 338) 1).trans hTt)  ) ?_
          rintro _ g ⟨rfl, V, hq, hk⟩
          have hG := hq.trans hG
          have hK := hk.trans hK
          refine X_aload_n rfl rfl rfl rfl ?_
          refine X_iload_n rfl rfl rfl rfl ?_
          refine X_iload_n rfl rfl rfl rfl ?_
          refine Y_callV (as := [.int x1, .int x2]) (st := []) rfl rfl rfl (by decide) rfl (Nat.le_of_ble_eq_true rfl) (by decide) (Nat.le_of_ble_eq_true rfl) rfl ((congrFun V.1 338).trans s_338) (by decide) (C_X8_readSum V hu ((congrFun (congrFun hG 338) 1).trans hTt) x1 y1 hx1 (by omega) x2 y2 hx2 (by omega) ) ?_
          rintro _ g ⟨rfl, V, hq, hk⟩
          have hG := hq.trans hG
          have hK := hk.trans hK
          refine X_aload_n rfl rfl rfl rfl ?_
          refine X_getR (a := 292 + 10 * u) rfl rfl rfl ((congrFun V.1 338).trans s_338) rfl ((congrFun (congrFun hG 338) 1).trans hTt) ?_
          refine X_iload_n rfl rfl rfl rfl ?_
          refine Y_callV (as := [.int (20008 : Int32)]) (st := []) rfl rfl rfl (by decide) rfl (Nat.le_of_ble_eq_true rfl) (by decide) (Nat.le_of_ble_eq_true rfl) rfl ((congrFun V.1 _).trans (tx_s u hu)) (by decide) (C_X11_emit_T hu V (20008 : Int32) 20008 (show (20008 : Int32).toInt = 20008 from rfl) (by omega) (by omega)) ?_
          rintro _ g ⟨rfl, V, hq, hk⟩
          have hG := hq.trans hG
          have hK := hk.trans hK
          exact LW_return (st := []) rfl rfl ⟨rfl, V, hG, hK⟩
        by_cases vh64 : vz48.toInt = 62
        · refine S_lookIn (tgt := 80) (a := 62) rfl rfl vh64 rfl rfl rfl ?_
          refine X_sipush (v := (20006 : Int32)) rfl rfl rfl ?_
          refine LW_ireturn (st := []) rfl rfl rfl ?_
          refine X_istore_n (i := 3) (ls' := [some (.ref 338), some (.int x1), some (.int x2), some (.int (20006 : Int32))]) rfl rfl rfl (Nat.le_of_ble_eq_true rfl) rfl ?_
          refine X_iload_n rfl rfl rfl rfl ?_
          refine X_iconst (v := (-1 : Int32)) rfl rfl rfl ?_
          refine S_icmp_ne (tgt := 68) rfl rfl rfl (show (20006 : Int32).toInt = 20006 from rfl) (show (-1 : Int32).toInt = -1 from rfl) (fun vh65 => ?_) (fun q => absurd q (by omega))
          refine X_aload_n rfl rfl rfl rfl ?_
          refine Y_callV (as := []) (st := []) rfl rfl rfl (by decide) rfl (Nat.le_of_ble_eq_true rfl) (by decide) (Nat.le_of_ble_eq_true rfl) rfl ((congrFun V.1 338).trans s_338) (by decide) (C_X8_next V hu ((congrFun (congrFun hG 338) 1).trans hTt)  ) ?_
          rintro _ g ⟨rfl, V, hq, hk⟩
          have hG := hq.trans hG
          have hK := hk.trans hK
          refine X_aload_n rfl rfl rfl rfl ?_
          refine X_iload_n rfl rfl rfl rfl ?_
          refine X_iload_n rfl rfl rfl rfl ?_
          refine Y_callV (as := [.int x1, .int x2]) (st := []) rfl rfl rfl (by decide) rfl (Nat.le_of_ble_eq_true rfl) (by decide) (Nat.le_of_ble_eq_true rfl) rfl ((congrFun V.1 338).trans s_338) (by decide) (C_X8_readSum V hu ((congrFun (congrFun hG 338) 1).trans hTt) x1 y1 hx1 (by omega) x2 y2 hx2 (by omega) ) ?_
          rintro _ g ⟨rfl, V, hq, hk⟩
          have hG := hq.trans hG
          have hK := hk.trans hK
          refine X_aload_n rfl rfl rfl rfl ?_
          refine X_getR (a := 292 + 10 * u) rfl rfl rfl ((congrFun V.1 338).trans s_338) rfl ((congrFun (congrFun hG 338) 1).trans hTt) ?_
          refine X_iload_n rfl rfl rfl rfl ?_
          refine Y_callV (as := [.int (20006 : Int32)]) (st := []) rfl rfl rfl (by decide) rfl (Nat.le_of_ble_eq_true rfl) (by decide) (Nat.le_of_ble_eq_true rfl) rfl ((congrFun V.1 _).trans (tx_s u hu)) (by decide) (C_X11_emit_T hu V (20006 : Int32) 20006 (show (20006 : Int32).toInt = 20006 from rfl) (by omega) (by omega)) ?_
          rintro _ g ⟨rfl, V, hq, hk⟩
          have hG := hq.trans hG
          have hK := hk.trans hK
          exact LW_return (st := []) rfl rfl ⟨rfl, V, hG, hK⟩
        by_cases vh69 : vz48.toInt = 316
        · refine S_lookIn (tgt := 76) (a := 316) rfl rfl vh69 rfl rfl rfl ?_
          refine X_sipush (v := (20005 : Int32)) rfl rfl rfl ?_
          refine LW_ireturn (st := []) rfl rfl rfl ?_
          refine X_istore_n (i := 3) (ls' := [some (.ref 338), some (.int x1), some (.int x2), some (.int (20005 : Int32))]) rfl rfl rfl (Nat.le_of_ble_eq_true rfl) rfl ?_
          refine X_iload_n rfl rfl rfl rfl ?_
          refine X_iconst (v := (-1 : Int32)) rfl rfl rfl ?_
          refine S_icmp_ne (tgt := 68) rfl rfl rfl (show (20005 : Int32).toInt = 20005 from rfl) (show (-1 : Int32).toInt = -1 from rfl) (fun vh70 => ?_) (fun q => absurd q (by omega))
          refine X_aload_n rfl rfl rfl rfl ?_
          refine Y_callV (as := []) (st := []) rfl rfl rfl (by decide) rfl (Nat.le_of_ble_eq_true rfl) (by decide) (Nat.le_of_ble_eq_true rfl) rfl ((congrFun V.1 338).trans s_338) (by decide) (C_X8_next V hu ((congrFun (congrFun hG 338) 1).trans hTt)  ) ?_
          rintro _ g ⟨rfl, V, hq, hk⟩
          have hG := hq.trans hG
          have hK := hk.trans hK
          refine X_aload_n rfl rfl rfl rfl ?_
          refine X_iload_n rfl rfl rfl rfl ?_
          refine X_iload_n rfl rfl rfl rfl ?_
          refine Y_callV (as := [.int x1, .int x2]) (st := []) rfl rfl rfl (by decide) rfl (Nat.le_of_ble_eq_true rfl) (by decide) (Nat.le_of_ble_eq_true rfl) rfl ((congrFun V.1 338).trans s_338) (by decide) (C_X8_readSum V hu ((congrFun (congrFun hG 338) 1).trans hTt) x1 y1 hx1 (by omega) x2 y2 hx2 (by omega) ) ?_
          rintro _ g ⟨rfl, V, hq, hk⟩
          have hG := hq.trans hG
          have hK := hk.trans hK
          refine X_aload_n rfl rfl rfl rfl ?_
          refine X_getR (a := 292 + 10 * u) rfl rfl rfl ((congrFun V.1 338).trans s_338) rfl ((congrFun (congrFun hG 338) 1).trans hTt) ?_
          refine X_iload_n rfl rfl rfl rfl ?_
          refine Y_callV (as := [.int (20005 : Int32)]) (st := []) rfl rfl rfl (by decide) rfl (Nat.le_of_ble_eq_true rfl) (by decide) (Nat.le_of_ble_eq_true rfl) rfl ((congrFun V.1 _).trans (tx_s u hu)) (by decide) (C_X11_emit_T hu V (20005 : Int32) 20005 (show (20005 : Int32).toInt = 20005 from rfl) (by omega) (by omega)) ?_
          rintro _ g ⟨rfl, V, hq, hk⟩
          have hG := hq.trans hG
          have hK := hk.trans hK
          exact LW_return (st := []) rfl rfl ⟨rfl, V, hG, hK⟩
        by_cases vh74 : vz48.toInt = 318
        · refine S_lookIn (tgt := 84) (a := 318) rfl rfl vh74 rfl rfl rfl ?_
          refine X_sipush (v := (20007 : Int32)) rfl rfl rfl ?_
          refine LW_ireturn (st := []) rfl rfl rfl ?_
          refine X_istore_n (i := 3) (ls' := [some (.ref 338), some (.int x1), some (.int x2), some (.int (20007 : Int32))]) rfl rfl rfl (Nat.le_of_ble_eq_true rfl) rfl ?_
          refine X_iload_n rfl rfl rfl rfl ?_
          refine X_iconst (v := (-1 : Int32)) rfl rfl rfl ?_
          refine S_icmp_ne (tgt := 68) rfl rfl rfl (show (20007 : Int32).toInt = 20007 from rfl) (show (-1 : Int32).toInt = -1 from rfl) (fun vh75 => ?_) (fun q => absurd q (by omega))
          refine X_aload_n rfl rfl rfl rfl ?_
          refine Y_callV (as := []) (st := []) rfl rfl rfl (by decide) rfl (Nat.le_of_ble_eq_true rfl) (by decide) (Nat.le_of_ble_eq_true rfl) rfl ((congrFun V.1 338).trans s_338) (by decide) (C_X8_next V hu ((congrFun (congrFun hG 338) 1).trans hTt)  ) ?_
          rintro _ g ⟨rfl, V, hq, hk⟩
          have hG := hq.trans hG
          have hK := hk.trans hK
          refine X_aload_n rfl rfl rfl rfl ?_
          refine X_iload_n rfl rfl rfl rfl ?_
          refine X_iload_n rfl rfl rfl rfl ?_
          refine Y_callV (as := [.int x1, .int x2]) (st := []) rfl rfl rfl (by decide) rfl (Nat.le_of_ble_eq_true rfl) (by decide) (Nat.le_of_ble_eq_true rfl) rfl ((congrFun V.1 338).trans s_338) (by decide) (C_X8_readSum V hu ((congrFun (congrFun hG 338) 1).trans hTt) x1 y1 hx1 (by omega) x2 y2 hx2 (by omega) ) ?_
          rintro _ g ⟨rfl, V, hq, hk⟩
          have hG := hq.trans hG
          have hK := hk.trans hK
          refine X_aload_n rfl rfl rfl rfl ?_
          refine X_getR (a := 292 + 10 * u) rfl rfl rfl ((congrFun V.1 338).trans s_338) rfl ((congrFun (congrFun hG 338) 1).trans hTt) ?_
          refine X_iload_n rfl rfl rfl rfl ?_
          refine Y_callV (as := [.int (20007 : Int32)]) (st := []) rfl rfl rfl (by decide) rfl (Nat.le_of_ble_eq_true rfl) (by decide) (Nat.le_of_ble_eq_true rfl) rfl ((congrFun V.1 _).trans (tx_s u hu)) (by decide) (C_X11_emit_T hu V (20007 : Int32) 20007 (show (20007 : Int32).toInt = 20007 from rfl) (by omega) (by omega)) ?_
          rintro _ g ⟨rfl, V, hq, hk⟩
          have hG := hq.trans hG
          have hK := hk.trans hK
          exact LW_return (st := []) rfl rfl ⟨rfl, V, hG, hK⟩
        refine S_lookOut (tgt := 96) rfl rfl rfl (List.forall_mem_cons.mpr ⟨(show ¬ _ = (35 : Int) by omega), (List.forall_mem_cons.mpr ⟨(show ¬ _ = (60 : Int) by omega), (List.forall_mem_cons.mpr ⟨(show ¬ _ = (61 : Int) by omega), (List.forall_mem_cons.mpr ⟨(show ¬ _ = (62 : Int) by omega), (List.forall_mem_cons.mpr ⟨(show ¬ _ = (316 : Int) by omega), (List.forall_mem_cons.mpr ⟨(show ¬ _ = (318 : Int) by omega), (fun _ h => absurd h List.not_mem_nil)⟩)⟩)⟩)⟩)⟩)⟩) rfl ?_
        refine X_iconst (v := (-1 : Int32)) rfl rfl rfl ?_
        refine LW_ireturn (st := []) rfl rfl rfl ?_
        refine X_istore_n (i := 3) (ls' := [some (.ref 338), some (.int x1), some (.int x2), some (.int (-1 : Int32))]) rfl rfl rfl (Nat.le_of_ble_eq_true rfl) rfl ?_
        refine X_iload_n rfl rfl rfl rfl ?_
        refine X_iconst (v := (-1 : Int32)) rfl rfl rfl ?_
        refine S_icmp_ne (tgt := 68) rfl rfl rfl (show (-1 : Int32).toInt = -1 from rfl) (show (-1 : Int32).toInt = -1 from rfl) (fun q => absurd q (by omega)) (fun vh79 => ?_)
        refine X_aload_n rfl rfl rfl rfl ?_
        refine X_iconst (v := (1 : Int32)) rfl rfl rfl ?_
        refine Y_callV (as := [.int (1 : Int32)]) (st := []) rfl rfl rfl (by decide) rfl (Nat.le_of_ble_eq_true rfl) (by decide) (Nat.le_of_ble_eq_true rfl) rfl ((congrFun V.1 338).trans s_338) (by decide) (C_X8_fail V hu ((congrFun (congrFun hG 338) 1).trans hTt) (1 : Int32) 1 (show (1 : Int32).toInt = 1 from rfl) (by omega) ) ?_
        rintro _ g ⟨vr80, rfl, hrvr800, hrvr801, V, hq, hk⟩
        have hG := hq.trans hG
        have hK := hk.trans hK
        refine X_pop rfl rfl rfl ?_
        exact LW_return (st := []) rfl rfl ⟨rfl, V, hG, hK⟩
      · refine X_iconst (v := (-1 : Int32)) rfl rfl rfl ?_
        refine LW_ireturn (st := []) rfl rfl rfl ?_
        refine X_istore_n (i := 3) (ls' := [some (.ref 338), some (.int x1), some (.int x2), some (.int (-1 : Int32))]) rfl rfl rfl (Nat.le_of_ble_eq_true rfl) rfl ?_
        refine X_iload_n rfl rfl rfl rfl ?_
        refine X_iconst (v := (-1 : Int32)) rfl rfl rfl ?_
        refine S_icmp_ne (tgt := 68) rfl rfl rfl (show (-1 : Int32).toInt = -1 from rfl) (show (-1 : Int32).toInt = -1 from rfl) (fun q => absurd q (by omega)) (fun vh81 => ?_)
        refine X_aload_n rfl rfl rfl rfl ?_
        refine X_iconst (v := (1 : Int32)) rfl rfl rfl ?_
        refine Y_callV (as := [.int (1 : Int32)]) (st := []) rfl rfl rfl (by decide) rfl (Nat.le_of_ble_eq_true rfl) (by decide) (Nat.le_of_ble_eq_true rfl) rfl ((congrFun V.1 338).trans s_338) (by decide) (C_X8_fail V hu ((congrFun (congrFun hG 338) 1).trans hTt) (1 : Int32) 1 (show (1 : Int32).toInt = 1 from rfl) (by omega) ) ?_
        rintro _ g ⟨vr82, rfl, hrvr820, hrvr821, V, hq, hk⟩
        have hG := hq.trans hG
        have hK := hk.trans hK
        refine X_pop rfl rfl rfl ?_
        exact LW_return (st := []) rfl rfl ⟨rfl, V, hG, hK⟩
    · refine X_iconst (v := (1 : Int32)) rfl rfl rfl ?_
      refine LW_goto (tgt := 21) rfl rfl ?_
      refine LW_ireturn (st := []) rfl rfl rfl ?_
      refine S_if_eq (tgt := 45) rfl rfl rfl (show (1 : Int32).toInt = 1 from rfl) (fun q => absurd q (by omega)) (fun vh83 => ?_)
      refine X_iload_n rfl rfl rfl rfl ?_
      refine X_bipush (v := (8 : Int32)) rfl rfl rfl ?_
      refine S_icmp_lt (tgt := 22) rfl rfl rfl hx2 (show (8 : Int32).toInt = 8 from rfl) (fun vh84 => ?_) (fun vh84 => ?_)
      · refine X_aload_n rfl rfl rfl rfl ?_
        refine Y_callV (as := []) (st := []) rfl rfl rfl (by decide) rfl (Nat.le_of_ble_eq_true rfl) (by decide) (Nat.le_of_ble_eq_true rfl) rfl ((congrFun V.1 338).trans s_338) (by decide) (C_X8_next V hu ((congrFun (congrFun hG 338) 1).trans hTt)  ) ?_
        rintro _ g ⟨rfl, V, hq, hk⟩
        have hG := hq.trans hG
        have hK := hk.trans hK
        refine X_aload_n rfl rfl rfl rfl ?_
        refine X_iload_n rfl rfl rfl rfl ?_
        refine X_iload_n rfl rfl rfl rfl ?_
        refine X_iconst (v := (1 : Int32)) rfl rfl rfl ?_
        refine S_iadd rfl rfl hx2 (show (1 : Int32).toInt = 1 from rfl) (by omega) (fun vz86 hvz86 => ?_)
        refine Y_callV (as := [.int x1, .int vz86]) (st := []) rfl rfl rfl (by decide) rfl (Nat.le_of_ble_eq_true rfl) (by decide) (Nat.le_of_ble_eq_true rfl) rfl ((congrFun V.1 338).trans s_338) (by decide) (LW_room (Nat.le_refl _) (Nat.le_refl _) (by omega) (ihr98 _ V hu ((congrFun (congrFun hG 338) 1).trans hTt) x1 y1 hx1 (by omega) vz86 vz86.toInt rfl (by omega)  (by omega))) ?_
        rintro _ g ⟨rfl, V, hq, hk⟩
        have hG := hq.trans hG
        have hK := hk.trans hK
        refine X_aload_n rfl rfl rfl rfl ?_
        refine X_getR (a := 292 + 10 * u) rfl rfl rfl ((congrFun V.1 338).trans s_338) rfl ((congrFun (congrFun hG 338) 1).trans hTt) ?_
        refine X_sipush (v := (20012 : Int32)) rfl rfl rfl ?_
        refine Y_callV (as := [.int (20012 : Int32)]) (st := []) rfl rfl rfl (by decide) rfl (Nat.le_of_ble_eq_true rfl) (by decide) (Nat.le_of_ble_eq_true rfl) rfl ((congrFun V.1 _).trans (tx_s u hu)) (by decide) (C_X11_emit_T hu V (20012 : Int32) 20012 (show (20012 : Int32).toInt = 20012 from rfl) (by omega) (by omega)) ?_
        rintro _ g ⟨rfl, V, hq, hk⟩
        have hG := hq.trans hG
        have hK := hk.trans hK
        exact LW_return (st := []) rfl rfl ⟨rfl, V, hG, hK⟩
      · refine X_aload_n rfl rfl rfl rfl ?_
        refine X_iconst (v := (3 : Int32)) rfl rfl rfl ?_
        refine Y_callV (as := [.int (3 : Int32)]) (st := []) rfl rfl rfl (by decide) rfl (Nat.le_of_ble_eq_true rfl) (by decide) (Nat.le_of_ble_eq_true rfl) rfl ((congrFun V.1 338).trans s_338) (by decide) (C_X8_fail V hu ((congrFun (congrFun hG 338) 1).trans hTt) (3 : Int32) 3 (show (3 : Int32).toInt = 3 from rfl) (by omega) ) ?_
        rintro _ g ⟨vr89, rfl, hrvr890, hrvr891, V, hq, hk⟩
        have hG := hq.trans hG
        have hK := hk.trans hK
        refine X_pop rfl rfl rfl ?_
        exact LW_return (st := []) rfl rfl ⟨rfl, V, hG, hK⟩
theorem C_X8_readAsk_r {P : Par} {d : Nat} : ∀ (m : Nat) (g : LH) (V : Inv P g) {u : Nat} (hu : u < 4) (hTt : Gr g 338 1 = some (292 + 10 * u)) (x1 : Int32) (y1 : Int) (hx1 : x1.toInt = y1) (hf1 : 0 ≤ y1 ∧ y1 ≤ 3) (x2 : Int32) (y2 : Int) (hx2 : x2.toInt = y2) (hf2 : 0 ≤ y2 ∧ y2 ≤ 8) , 9 - y2 < ((m : Nat) : Int) → LW 98 (d + 1 * m + 49) 0 0 0 (lEnt (mL 98) [.ref 338, .int x1, .int x2]) [] g (fun v g' => v = none ∧ Inv P g' ∧ Gr g' = Gr g ∧ Gi g' 1 5 = Gi g 1 5) := by
  intro m
  induction m with
  | zero => intro g V u hu hTt x1 y1 hx1 hf1 x2 y2 hx2 hf2 hlev; exact absurd hlev (by omega)
  | succ m ih => intro g V u hu hTt x1 y1 hx1 hf1 x2 y2 hx2 hf2 hlev; exact C_X8_readAsk_s ih V hu hTt x1 y1 hx1 hf1 x2 y2 hx2 hf2 (by omega)
theorem C_X8_readAsk {P : Par} {g : LH} {d : Nat} (V : Inv P g) {u : Nat} (hu : u < 4) (hTt : Gr g 338 1 = some (292 + 10 * u)) (x1 : Int32) (y1 : Int) (hx1 : x1.toInt = y1) (hf1 : 0 ≤ y1 ∧ y1 ≤ 3) (x2 : Int32) (y2 : Int) (hx2 : x2.toInt = y2) (hf2 : 0 ≤ y2 ∧ y2 ≤ 8)  : LW 98 (d + 59) 0 0 0 (lEnt (mL 98) [.ref 338, .int x1, .int x2]) [] g (fun v g' => v = none ∧ Inv P g' ∧ Gr g' = Gr g ∧ Gi g' 1 5 = Gi g 1 5) :=
  LW_room (Nat.le_refl _) (Nat.le_refl _) (by omega) (C_X8_readAsk_r (d := d) 10 _ V hu hTt x1 y1 hx1 hf1 x2 y2 hx2 hf2 (by omega))
set_option maxRecDepth 10000 in
set_option maxHeartbeats 40000000 in
theorem C_X8_readEither_10 {P : Par} {g g0 : LH} {d n : Nat}  (V : Inv P g) (hG : Gr g = Gr g0) (hK : Gi g 1 5 = Gi g0 1 5) {u : Nat} (hu : u < 4) (hTt : Gr g0 338 1 = some (292 + 10 * u)) (x1 : Int32) (y1 : Int) (hx1 : x1.toInt = y1) (hf1 : 0 ≤ y1 ∧ y1 ≤ 3) (x2 : Int32) (y2 : Int) (hx2 : x2.toInt = y2) (hf2 : 0 ≤ y2 ∧ y2 ≤ 1) (x3 : Int32) (y3 : Int) (hx3 : x3.toInt = y3) (hf3 : 0 ≤ y3 ∧ y3 ≤ 301) (o4 : Option Value)  (hmu : (301 - y3) * 1 + 0 < (n : Int) + 1) (ih10 : ∀ (g : LH) (V : Inv P g) (hG : Gr g = Gr g0) (hK : Gi g 1 5 = Gi g0 1 5) {u : Nat} (hu : u < 4) (hTt : Gr g0 338 1 = some (292 + 10 * u)) (x1 : Int32) (y1 : Int) (hx1 : x1.toInt = y1) (hf1 : 0 ≤ y1 ∧ y1 ≤ 3) (x2 : Int32) (y2 : Int) (hx2 : x2.toInt = y2) (hf2 : 0 ≤ y2 ∧ y2 ≤ 1) (x3 : Int32) (y3 : Int) (hx3 : x3.toInt = y3) (hf3 : 0 ≤ y3 ∧ y3 ≤ 301) (o4 : Option Value) , (301 - y3) * 1 + 0 < (n : Int) → LW 97 (d + 64) 0 0 10 [some (.ref 338), some (.int x1), some (.int x2), some (.int x3), o4] [] g (fun v g' => v = none ∧ Inv P g' ∧ Gr g' = Gr g0 ∧ Gi g' 1 5 = Gi g0 1 5)) : LW 97 (d + 64) 0 0 10 [some (.ref 338), some (.int x1), some (.int x2), some (.int x3), o4] [] g (fun v g' => v = none ∧ Inv P g' ∧ Gr g' = Gr g0 ∧ Gi g' 1 5 = Gi g0 1 5) := by
  refine X_iload_n rfl rfl rfl rfl ?_
  refine X_sipush (v := (300 : Int32)) rfl rfl rfl ?_
  refine S_icmp_gt (tgt := 113) rfl rfl rfl hx3 (show (300 : Int32).toInt = 300 from rfl) (fun vh1 => ?_) (fun vh1 => ?_)
  · refine X_iload_n rfl rfl rfl rfl ?_
    refine S_if_eq (tgt := 127) rfl rfl rfl hx2 (fun vh2 => ?_) (fun vh2 => ?_)
    · exact LW_return (st := []) rfl rfl ⟨rfl, V, hG, hK⟩
    · refine X_aload_n rfl rfl rfl rfl ?_
      refine X_getR (a := 292 + 10 * u) rfl rfl rfl ((congrFun V.1 338).trans s_338) rfl ((congrFun (congrFun hG 338) 1).trans hTt) ?_
      refine X_sipush (v := (20011 : Int32)) rfl rfl rfl ?_
      refine Y_callV (as := [.int (20011 : Int32)]) (st := []) rfl rfl rfl (by decide) rfl (Nat.le_of_ble_eq_true rfl) (by decide) (Nat.le_of_ble_eq_true rfl) rfl ((congrFun V.1 _).trans (tx_s u hu)) (by decide) (C_X11_emit_T hu V (20011 : Int32) 20011 (show (20011 : Int32).toInt = 20011 from rfl) (by omega) (by omega)) ?_
      rintro _ g ⟨rfl, V, hq, hk⟩
      have hG := hq.trans hG
      have hK := hk.trans hK
      exact LW_return (st := []) rfl rfl ⟨rfl, V, hG, hK⟩
  · refine X_aload_n rfl rfl rfl rfl ?_
    refine S_getI rfl rfl rfl ((congrFun V.1 338).trans s_338) rfl (fun vz4 evz4 => ?_)
    refine S_if_ne (tgt := 113) rfl rfl rfl rfl (fun vh5 => ?_) (fun vh5 => ?_)
    · refine X_iload_n rfl rfl rfl rfl ?_
      refine S_if_eq (tgt := 127) rfl rfl rfl hx2 (fun vh6 => ?_) (fun vh6 => ?_)
      · exact LW_return (st := []) rfl rfl ⟨rfl, V, hG, hK⟩
      · refine X_aload_n rfl rfl rfl rfl ?_
        refine X_getR (a := 292 + 10 * u) rfl rfl rfl ((congrFun V.1 338).trans s_338) rfl ((congrFun (congrFun hG 338) 1).trans hTt) ?_
        refine X_sipush (v := (20011 : Int32)) rfl rfl rfl ?_
        refine Y_callV (as := [.int (20011 : Int32)]) (st := []) rfl rfl rfl (by decide) rfl (Nat.le_of_ble_eq_true rfl) (by decide) (Nat.le_of_ble_eq_true rfl) rfl ((congrFun V.1 _).trans (tx_s u hu)) (by decide) (C_X11_emit_T hu V (20011 : Int32) 20011 (show (20011 : Int32).toInt = 20011 from rfl) (by omega) (by omega)) ?_
        rintro _ g ⟨rfl, V, hq, hk⟩
        have hG := hq.trans hG
        have hK := hk.trans hK
        exact LW_return (st := []) rfl rfl ⟨rfl, V, hG, hK⟩
    · refine X_aload_n rfl rfl rfl rfl ?_
      refine X_bipush (v := (18 : Int32)) rfl rfl rfl ?_
      refine X_callV (as := [.int (18 : Int32)]) (st := []) rfl rfl rfl (by decide) rfl (Nat.le_of_ble_eq_true rfl) (by decide) (Nat.le_of_ble_eq_true rfl) rfl ((congrFun V.1 338).trans s_338) (by decide) ?_
      refine LW_ls (ls' := [some (.ref 338), some (.int (18 : Int32))]) rfl ?_
      refine X_aload_n rfl rfl rfl rfl ?_
      refine S_getI rfl rfl rfl ((congrFun V.1 338).trans s_338) rfl (fun vz8 evz8 => ?_)
      refine X_iconst (v := (1 : Int32)) rfl rfl rfl ?_
      refine S_icmp_ne (tgt := 20) rfl rfl rfl rfl (show (1 : Int32).toInt = 1 from rfl) (fun vh9 => ?_) (fun vh9 => ?_)
      · refine X_iconst (v := (0 : Int32)) rfl rfl rfl ?_
        refine LW_ireturn (st := []) rfl rfl rfl ?_
        refine S_if_ne (tgt := 42) rfl rfl rfl (show (0 : Int32).toInt = 0 from rfl) (fun q => absurd q (by omega)) (fun vh10 => ?_)
        refine X_aload_n rfl rfl rfl rfl ?_
        refine X_bipush (v := (19 : Int32)) rfl rfl rfl ?_
        refine X_callV (as := [.int (19 : Int32)]) (st := []) rfl rfl rfl (by decide) rfl (Nat.le_of_ble_eq_true rfl) (by decide) (Nat.le_of_ble_eq_true rfl) rfl ((congrFun V.1 338).trans s_338) (by decide) ?_
        refine LW_ls (ls' := [some (.ref 338), some (.int (19 : Int32))]) rfl ?_
        refine X_aload_n rfl rfl rfl rfl ?_
        refine X_getI (v := vz8) rfl rfl rfl ((congrFun V.1 338).trans s_338) rfl evz8 ?_
        refine X_iconst (v := (1 : Int32)) rfl rfl rfl ?_
        refine S_icmp_ne (tgt := 20) rfl rfl rfl rfl (show (1 : Int32).toInt = 1 from rfl) (fun vh11 => ?_) (fun vh11 => ?_)
        · refine X_iconst (v := (0 : Int32)) rfl rfl rfl ?_
          refine LW_ireturn (st := []) rfl rfl rfl ?_
          refine S_if_eq (tgt := 113) rfl rfl rfl (show (0 : Int32).toInt = 0 from rfl) (fun vh12 => ?_) (fun q => absurd q (by omega))
          refine X_iload_n rfl rfl rfl rfl ?_
          refine S_if_eq (tgt := 127) rfl rfl rfl hx2 (fun vh13 => ?_) (fun vh13 => ?_)
          · exact LW_return (st := []) rfl rfl ⟨rfl, V, hG, hK⟩
          · refine X_aload_n rfl rfl rfl rfl ?_
            refine X_getR (a := 292 + 10 * u) rfl rfl rfl ((congrFun V.1 338).trans s_338) rfl ((congrFun (congrFun hG 338) 1).trans hTt) ?_
            refine X_sipush (v := (20011 : Int32)) rfl rfl rfl ?_
            refine Y_callV (as := [.int (20011 : Int32)]) (st := []) rfl rfl rfl (by decide) rfl (Nat.le_of_ble_eq_true rfl) (by decide) (Nat.le_of_ble_eq_true rfl) rfl ((congrFun V.1 _).trans (tx_s u hu)) (by decide) (C_X11_emit_T hu V (20011 : Int32) 20011 (show (20011 : Int32).toInt = 20011 from rfl) (by omega) (by omega)) ?_
            rintro _ g ⟨rfl, V, hq, hk⟩
            have hG := hq.trans hG
            have hK := hk.trans hK
            exact LW_return (st := []) rfl rfl ⟨rfl, V, hG, hK⟩
        · refine X_aload_n rfl rfl rfl rfl ?_
          refine S_getI rfl rfl rfl ((congrFun V.1 338).trans s_338) rfl (fun vz15 evz15 => ?_)
          refine X_iload_n rfl rfl rfl rfl ?_
          refine S_icmp_ne (tgt := 20) rfl rfl rfl rfl (show (19 : Int32).toInt = 19 from rfl) (fun vh16 => ?_) (fun vh16 => ?_)
          · refine X_iconst (v := (0 : Int32)) rfl rfl rfl ?_
            refine LW_ireturn (st := []) rfl rfl rfl ?_
            refine S_if_eq (tgt := 113) rfl rfl rfl (show (0 : Int32).toInt = 0 from rfl) (fun vh17 => ?_) (fun q => absurd q (by omega))
            refine X_iload_n rfl rfl rfl rfl ?_
            refine S_if_eq (tgt := 127) rfl rfl rfl hx2 (fun vh18 => ?_) (fun vh18 => ?_)
            · exact LW_return (st := []) rfl rfl ⟨rfl, V, hG, hK⟩
            · refine X_aload_n rfl rfl rfl rfl ?_
              refine X_getR (a := 292 + 10 * u) rfl rfl rfl ((congrFun V.1 338).trans s_338) rfl ((congrFun (congrFun hG 338) 1).trans hTt) ?_
              refine X_sipush (v := (20011 : Int32)) rfl rfl rfl ?_
              refine Y_callV (as := [.int (20011 : Int32)]) (st := []) rfl rfl rfl (by decide) rfl (Nat.le_of_ble_eq_true rfl) (by decide) (Nat.le_of_ble_eq_true rfl) rfl ((congrFun V.1 _).trans (tx_s u hu)) (by decide) (C_X11_emit_T hu V (20011 : Int32) 20011 (show (20011 : Int32).toInt = 20011 from rfl) (by omega) (by omega)) ?_
              rintro _ g ⟨rfl, V, hq, hk⟩
              have hG := hq.trans hG
              have hK := hk.trans hK
              exact LW_return (st := []) rfl rfl ⟨rfl, V, hG, hK⟩
          · refine X_iconst (v := (1 : Int32)) rfl rfl rfl ?_
            refine LW_goto (tgt := 21) rfl rfl ?_
            refine LW_ireturn (st := []) rfl rfl rfl ?_
            refine S_if_eq (tgt := 113) rfl rfl rfl (show (1 : Int32).toInt = 1 from rfl) (fun q => absurd q (by omega)) (fun vh20 => ?_)
            refine X_aload_n rfl rfl rfl rfl ?_
            refine X_bipush (v := (19 : Int32)) rfl rfl rfl ?_
            refine X_callV (as := [.int (19 : Int32)]) (st := []) rfl rfl rfl (by decide) rfl (Nat.le_of_ble_eq_true rfl) (by decide) (Nat.le_of_ble_eq_true rfl) rfl ((congrFun V.1 338).trans s_338) (by decide) ?_
            refine LW_ls (ls' := [some (.ref 338), some (.int (19 : Int32))]) rfl ?_
            refine X_aload_n rfl rfl rfl rfl ?_
            refine X_getI (v := vz8) rfl rfl rfl ((congrFun V.1 338).trans s_338) rfl evz8 ?_
            refine X_iconst (v := (1 : Int32)) rfl rfl rfl ?_
            refine S_icmp_ne (tgt := 20) rfl rfl rfl rfl (show (1 : Int32).toInt = 1 from rfl) (fun q => absurd q (by omega)) (fun vh21 => ?_)
            refine X_aload_n rfl rfl rfl rfl ?_
            refine X_getI (v := vz15) rfl rfl rfl ((congrFun V.1 338).trans s_338) rfl evz15 ?_
            refine X_iload_n rfl rfl rfl rfl ?_
            refine S_icmp_ne (tgt := 20) rfl rfl rfl rfl (show (19 : Int32).toInt = 19 from rfl) (fun q => absurd q (by omega)) (fun vh22 => ?_)
            refine X_iconst (v := (1 : Int32)) rfl rfl rfl ?_
            refine LW_goto (tgt := 21) rfl rfl ?_
            refine LW_ireturn (st := []) rfl rfl rfl ?_
            refine X_istore (i := 4) (ls' := [some (.ref 338), some (.int x1), some (.int x2), some (.int x3), some (.int (1 : Int32))]) rfl rfl (Nat.le_of_ble_eq_true rfl) rfl ?_
            refine X_iload rfl rfl rfl ?_
            refine S_if_ne (tgt := 69) rfl rfl rfl (show (1 : Int32).toInt = 1 from rfl) (fun vh23 => ?_) (fun q => absurd q (by omega))
            refine X_iload_n rfl rfl rfl rfl ?_
            refine X_iload rfl rfl rfl ?_
            refine S_if_ne (tgt := 79) rfl rfl rfl (show (1 : Int32).toInt = 1 from rfl) (fun vh24 => ?_) (fun q => absurd q (by omega))
            refine X_iconst (v := (0 : Int32)) rfl rfl rfl ?_
            refine S_ior (n := 1) rfl rfl hx2 (show (0 : Int32).toInt = 0 from rfl) (by omega) (by omega) (fun vz25 hvz25 => ?_)
            refine X_istore_n (i := 2) (ls' := [some (.ref 338), some (.int x1), some (.int vz25), some (.int x3), some (.int (1 : Int32))]) rfl rfl rfl (Nat.le_of_ble_eq_true rfl) rfl ?_
            refine X_aload_n rfl rfl rfl rfl ?_
            refine Y_callV (as := []) (st := []) rfl rfl rfl (by decide) rfl (Nat.le_of_ble_eq_true rfl) (by decide) (Nat.le_of_ble_eq_true rfl) rfl ((congrFun V.1 338).trans s_338) (by decide) (C_X8_next V hu ((congrFun (congrFun hG 338) 1).trans hTt)  ) ?_
            rintro _ g ⟨rfl, V, hq, hk⟩
            have hG := hq.trans hG
            have hK := hk.trans hK
            refine X_aload_n rfl rfl rfl rfl ?_
            refine X_iload_n rfl rfl rfl rfl ?_
            refine X_iconst (v := (0 : Int32)) rfl rfl rfl ?_
            refine Y_callV (as := [.int x1, .int (0 : Int32)]) (st := []) rfl rfl rfl (by decide) rfl (Nat.le_of_ble_eq_true rfl) (by decide) (Nat.le_of_ble_eq_true rfl) rfl ((congrFun V.1 338).trans s_338) (by decide) (C_X8_readAsk V hu ((congrFun (congrFun hG 338) 1).trans hTt) x1 y1 hx1 (by omega) (0 : Int32) 0 (show (0 : Int32).toInt = 0 from rfl) (by omega) ) ?_
            rintro _ g ⟨rfl, V, hq, hk⟩
            have hG := hq.trans hG
            have hK := hk.trans hK
            refine X_iload rfl rfl rfl ?_
            refine S_if_eq (tgt := 107) rfl rfl rfl (show (1 : Int32).toInt = 1 from rfl) (fun q => absurd q (by omega)) (fun vh28 => ?_)
            refine X_aload_n rfl rfl rfl rfl ?_
            refine X_getR (a := 292 + 10 * u) rfl rfl rfl ((congrFun V.1 338).trans s_338) rfl ((congrFun (congrFun hG 338) 1).trans hTt) ?_
            refine X_sipush (v := (20010 : Int32)) rfl rfl rfl ?_
            refine Y_callV (as := [.int (20010 : Int32)]) (st := []) rfl rfl rfl (by decide) rfl (Nat.le_of_ble_eq_true rfl) (by decide) (Nat.le_of_ble_eq_true rfl) rfl ((congrFun V.1 _).trans (tx_s u hu)) (by decide) (C_X11_emit_T hu V (20010 : Int32) 20010 (show (20010 : Int32).toInt = 20010 from rfl) (by omega) (by omega)) ?_
            rintro _ g ⟨rfl, V, hq, hk⟩
            have hG := hq.trans hG
            have hK := hk.trans hK
            refine S_iinc (c := 1) rfl rfl rfl hx3 rfl (by omega) (fun vz30 hvz30 => ?_)
            refine LW_ls (ls' := [some (.ref 338), some (.int x1), some (.int vz25), some (.int vz30), some (.int (1 : Int32))]) rfl ?_
            refine LW_goto (tgt := 10) rfl rfl ?_
            exact ih10 _ V hG hK hu hTt x1 y1 hx1 (by omega) vz25 vz25.toInt rfl (by omega) vz30 vz30.toInt rfl (by omega) (some (.int (1 : Int32)))    (by omega)
      · refine X_aload_n rfl rfl rfl rfl ?_
        refine S_getI rfl rfl rfl ((congrFun V.1 338).trans s_338) rfl (fun vz31 evz31 => ?_)
        refine X_iload_n rfl rfl rfl rfl ?_
        refine S_icmp_ne (tgt := 20) rfl rfl rfl rfl (show (18 : Int32).toInt = 18 from rfl) (fun vh32 => ?_) (fun vh32 => ?_)
        · refine X_iconst (v := (0 : Int32)) rfl rfl rfl ?_
          refine LW_ireturn (st := []) rfl rfl rfl ?_
          refine S_if_ne (tgt := 42) rfl rfl rfl (show (0 : Int32).toInt = 0 from rfl) (fun q => absurd q (by omega)) (fun vh33 => ?_)
          refine X_aload_n rfl rfl rfl rfl ?_
          refine X_bipush (v := (19 : Int32)) rfl rfl rfl ?_
          refine X_callV (as := [.int (19 : Int32)]) (st := []) rfl rfl rfl (by decide) rfl (Nat.le_of_ble_eq_true rfl) (by decide) (Nat.le_of_ble_eq_true rfl) rfl ((congrFun V.1 338).trans s_338) (by decide) ?_
          refine LW_ls (ls' := [some (.ref 338), some (.int (19 : Int32))]) rfl ?_
          refine X_aload_n rfl rfl rfl rfl ?_
          refine X_getI (v := vz8) rfl rfl rfl ((congrFun V.1 338).trans s_338) rfl evz8 ?_
          refine X_iconst (v := (1 : Int32)) rfl rfl rfl ?_
          refine S_icmp_ne (tgt := 20) rfl rfl rfl rfl (show (1 : Int32).toInt = 1 from rfl) (fun q => absurd q (by omega)) (fun vh34 => ?_)
          refine X_aload_n rfl rfl rfl rfl ?_
          refine X_getI (v := vz31) rfl rfl rfl ((congrFun V.1 338).trans s_338) rfl evz31 ?_
          refine X_iload_n rfl rfl rfl rfl ?_
          refine S_icmp_ne (tgt := 20) rfl rfl rfl rfl (show (19 : Int32).toInt = 19 from rfl) (fun vh35 => ?_) (fun vh35 => ?_)
          · refine X_iconst (v := (0 : Int32)) rfl rfl rfl ?_
            refine LW_ireturn (st := []) rfl rfl rfl ?_
            refine S_if_eq (tgt := 113) rfl rfl rfl (show (0 : Int32).toInt = 0 from rfl) (fun vh36 => ?_) (fun q => absurd q (by omega))
            refine X_iload_n rfl rfl rfl rfl ?_
            refine S_if_eq (tgt := 127) rfl rfl rfl hx2 (fun vh37 => ?_) (fun vh37 => ?_)
            · exact LW_return (st := []) rfl rfl ⟨rfl, V, hG, hK⟩
            · refine X_aload_n rfl rfl rfl rfl ?_
              refine X_getR (a := 292 + 10 * u) rfl rfl rfl ((congrFun V.1 338).trans s_338) rfl ((congrFun (congrFun hG 338) 1).trans hTt) ?_
              refine X_sipush (v := (20011 : Int32)) rfl rfl rfl ?_
              refine Y_callV (as := [.int (20011 : Int32)]) (st := []) rfl rfl rfl (by decide) rfl (Nat.le_of_ble_eq_true rfl) (by decide) (Nat.le_of_ble_eq_true rfl) rfl ((congrFun V.1 _).trans (tx_s u hu)) (by decide) (C_X11_emit_T hu V (20011 : Int32) 20011 (show (20011 : Int32).toInt = 20011 from rfl) (by omega) (by omega)) ?_
              rintro _ g ⟨rfl, V, hq, hk⟩
              have hG := hq.trans hG
              have hK := hk.trans hK
              exact LW_return (st := []) rfl rfl ⟨rfl, V, hG, hK⟩
          · refine X_iconst (v := (1 : Int32)) rfl rfl rfl ?_
            refine LW_goto (tgt := 21) rfl rfl ?_
            refine LW_ireturn (st := []) rfl rfl rfl ?_
            refine S_if_eq (tgt := 113) rfl rfl rfl (show (1 : Int32).toInt = 1 from rfl) (fun q => absurd q (by omega)) (fun vh39 => ?_)
            refine X_aload_n rfl rfl rfl rfl ?_
            refine X_bipush (v := (19 : Int32)) rfl rfl rfl ?_
            refine X_callV (as := [.int (19 : Int32)]) (st := []) rfl rfl rfl (by decide) rfl (Nat.le_of_ble_eq_true rfl) (by decide) (Nat.le_of_ble_eq_true rfl) rfl ((congrFun V.1 338).trans s_338) (by decide) ?_
            refine LW_ls (ls' := [some (.ref 338), some (.int (19 : Int32))]) rfl ?_
            refine X_aload_n rfl rfl rfl rfl ?_
            refine X_getI (v := vz8) rfl rfl rfl ((congrFun V.1 338).trans s_338) rfl evz8 ?_
            refine X_iconst (v := (1 : Int32)) rfl rfl rfl ?_
            refine S_icmp_ne (tgt := 20) rfl rfl rfl rfl (show (1 : Int32).toInt = 1 from rfl) (fun q => absurd q (by omega)) (fun vh40 => ?_)
            refine X_aload_n rfl rfl rfl rfl ?_
            refine X_getI (v := vz31) rfl rfl rfl ((congrFun V.1 338).trans s_338) rfl evz31 ?_
            refine X_iload_n rfl rfl rfl rfl ?_
            refine S_icmp_ne (tgt := 20) rfl rfl rfl rfl (show (19 : Int32).toInt = 19 from rfl) (fun q => absurd q (by omega)) (fun vh41 => ?_)
            refine X_iconst (v := (1 : Int32)) rfl rfl rfl ?_
            refine LW_goto (tgt := 21) rfl rfl ?_
            refine LW_ireturn (st := []) rfl rfl rfl ?_
            refine X_istore (i := 4) (ls' := [some (.ref 338), some (.int x1), some (.int x2), some (.int x3), some (.int (1 : Int32))]) rfl rfl (Nat.le_of_ble_eq_true rfl) rfl ?_
            refine X_iload rfl rfl rfl ?_
            refine S_if_ne (tgt := 69) rfl rfl rfl (show (1 : Int32).toInt = 1 from rfl) (fun vh42 => ?_) (fun q => absurd q (by omega))
            refine X_iload_n rfl rfl rfl rfl ?_
            refine X_iload rfl rfl rfl ?_
            refine S_if_ne (tgt := 79) rfl rfl rfl (show (1 : Int32).toInt = 1 from rfl) (fun vh43 => ?_) (fun q => absurd q (by omega))
            refine X_iconst (v := (0 : Int32)) rfl rfl rfl ?_
            refine S_ior (n := 1) rfl rfl hx2 (show (0 : Int32).toInt = 0 from rfl) (by omega) (by omega) (fun vz44 hvz44 => ?_)
            refine X_istore_n (i := 2) (ls' := [some (.ref 338), some (.int x1), some (.int vz44), some (.int x3), some (.int (1 : Int32))]) rfl rfl rfl (Nat.le_of_ble_eq_true rfl) rfl ?_
            refine X_aload_n rfl rfl rfl rfl ?_
            refine Y_callV (as := []) (st := []) rfl rfl rfl (by decide) rfl (Nat.le_of_ble_eq_true rfl) (by decide) (Nat.le_of_ble_eq_true rfl) rfl ((congrFun V.1 338).trans s_338) (by decide) (C_X8_next V hu ((congrFun (congrFun hG 338) 1).trans hTt)  ) ?_
            rintro _ g ⟨rfl, V, hq, hk⟩
            have hG := hq.trans hG
            have hK := hk.trans hK
            refine X_aload_n rfl rfl rfl rfl ?_
            refine X_iload_n rfl rfl rfl rfl ?_
            refine X_iconst (v := (0 : Int32)) rfl rfl rfl ?_
            refine Y_callV (as := [.int x1, .int (0 : Int32)]) (st := []) rfl rfl rfl (by decide) rfl (Nat.le_of_ble_eq_true rfl) (by decide) (Nat.le_of_ble_eq_true rfl) rfl ((congrFun V.1 338).trans s_338) (by decide) (C_X8_readAsk V hu ((congrFun (congrFun hG 338) 1).trans hTt) x1 y1 hx1 (by omega) (0 : Int32) 0 (show (0 : Int32).toInt = 0 from rfl) (by omega) ) ?_
            rintro _ g ⟨rfl, V, hq, hk⟩
            have hG := hq.trans hG
            have hK := hk.trans hK
            refine X_iload rfl rfl rfl ?_
            refine S_if_eq (tgt := 107) rfl rfl rfl (show (1 : Int32).toInt = 1 from rfl) (fun q => absurd q (by omega)) (fun vh47 => ?_)
            refine X_aload_n rfl rfl rfl rfl ?_
            refine X_getR (a := 292 + 10 * u) rfl rfl rfl ((congrFun V.1 338).trans s_338) rfl ((congrFun (congrFun hG 338) 1).trans hTt) ?_
            refine X_sipush (v := (20010 : Int32)) rfl rfl rfl ?_
            refine Y_callV (as := [.int (20010 : Int32)]) (st := []) rfl rfl rfl (by decide) rfl (Nat.le_of_ble_eq_true rfl) (by decide) (Nat.le_of_ble_eq_true rfl) rfl ((congrFun V.1 _).trans (tx_s u hu)) (by decide) (C_X11_emit_T hu V (20010 : Int32) 20010 (show (20010 : Int32).toInt = 20010 from rfl) (by omega) (by omega)) ?_
            rintro _ g ⟨rfl, V, hq, hk⟩
            have hG := hq.trans hG
            have hK := hk.trans hK
            refine S_iinc (c := 1) rfl rfl rfl hx3 rfl (by omega) (fun vz49 hvz49 => ?_)
            refine LW_ls (ls' := [some (.ref 338), some (.int x1), some (.int vz44), some (.int vz49), some (.int (1 : Int32))]) rfl ?_
            refine LW_goto (tgt := 10) rfl rfl ?_
            exact ih10 _ V hG hK hu hTt x1 y1 hx1 (by omega) vz44 vz44.toInt rfl (by omega) vz49 vz49.toInt rfl (by omega) (some (.int (1 : Int32)))    (by omega)
        · refine X_iconst (v := (1 : Int32)) rfl rfl rfl ?_
          refine LW_goto (tgt := 21) rfl rfl ?_
          refine LW_ireturn (st := []) rfl rfl rfl ?_
          refine S_if_ne (tgt := 42) rfl rfl rfl (show (1 : Int32).toInt = 1 from rfl) (fun vh50 => ?_) (fun q => absurd q (by omega))
          refine X_aload_n rfl rfl rfl rfl ?_
          refine X_bipush (v := (19 : Int32)) rfl rfl rfl ?_
          refine X_callV (as := [.int (19 : Int32)]) (st := []) rfl rfl rfl (by decide) rfl (Nat.le_of_ble_eq_true rfl) (by decide) (Nat.le_of_ble_eq_true rfl) rfl ((congrFun V.1 338).trans s_338) (by decide) ?_
          refine LW_ls (ls' := [some (.ref 338), some (.int (19 : Int32))]) rfl ?_
          refine X_aload_n rfl rfl rfl rfl ?_
          refine X_getI (v := vz8) rfl rfl rfl ((congrFun V.1 338).trans s_338) rfl evz8 ?_
          refine X_iconst (v := (1 : Int32)) rfl rfl rfl ?_
          refine S_icmp_ne (tgt := 20) rfl rfl rfl rfl (show (1 : Int32).toInt = 1 from rfl) (fun q => absurd q (by omega)) (fun vh51 => ?_)
          refine X_aload_n rfl rfl rfl rfl ?_
          refine X_getI (v := vz31) rfl rfl rfl ((congrFun V.1 338).trans s_338) rfl evz31 ?_
          refine X_iload_n rfl rfl rfl rfl ?_
          refine S_icmp_ne (tgt := 20) rfl rfl rfl rfl (show (19 : Int32).toInt = 19 from rfl) (fun vh52 => ?_) (fun q => absurd q (by omega))
          refine X_iconst (v := (0 : Int32)) rfl rfl rfl ?_
          refine LW_ireturn (st := []) rfl rfl rfl ?_
          refine X_istore (i := 4) (ls' := [some (.ref 338), some (.int x1), some (.int x2), some (.int x3), some (.int (0 : Int32))]) rfl rfl (Nat.le_of_ble_eq_true rfl) rfl ?_
          refine X_iload rfl rfl rfl ?_
          refine S_if_ne (tgt := 69) rfl rfl rfl (show (0 : Int32).toInt = 0 from rfl) (fun q => absurd q (by omega)) (fun vh53 => ?_)
          refine X_iload_n rfl rfl rfl rfl ?_
          refine S_if_eq (tgt := 69) rfl rfl rfl hx2 (fun vh54 => ?_) (fun vh54 => ?_)
          · refine X_iload_n rfl rfl rfl rfl ?_
            refine X_iload rfl rfl rfl ?_
            refine S_if_ne (tgt := 79) rfl rfl rfl (show (0 : Int32).toInt = 0 from rfl) (fun q => absurd q (by omega)) (fun vh55 => ?_)
            refine X_iconst (v := (1 : Int32)) rfl rfl rfl ?_
            refine LW_goto (tgt := 80) rfl rfl ?_
            refine S_ior (n := 1) rfl rfl hx2 (show (1 : Int32).toInt = 1 from rfl) (by omega) (by omega) (fun vz56 hvz56 => ?_)
            refine X_istore_n (i := 2) (ls' := [some (.ref 338), some (.int x1), some (.int vz56), some (.int x3), some (.int (0 : Int32))]) rfl rfl rfl (Nat.le_of_ble_eq_true rfl) rfl ?_
            refine X_aload_n rfl rfl rfl rfl ?_
            refine Y_callV (as := []) (st := []) rfl rfl rfl (by decide) rfl (Nat.le_of_ble_eq_true rfl) (by decide) (Nat.le_of_ble_eq_true rfl) rfl ((congrFun V.1 338).trans s_338) (by decide) (C_X8_next V hu ((congrFun (congrFun hG 338) 1).trans hTt)  ) ?_
            rintro _ g ⟨rfl, V, hq, hk⟩
            have hG := hq.trans hG
            have hK := hk.trans hK
            refine X_aload_n rfl rfl rfl rfl ?_
            refine X_iload_n rfl rfl rfl rfl ?_
            refine X_iconst (v := (0 : Int32)) rfl rfl rfl ?_
            refine Y_callV (as := [.int x1, .int (0 : Int32)]) (st := []) rfl rfl rfl (by decide) rfl (Nat.le_of_ble_eq_true rfl) (by decide) (Nat.le_of_ble_eq_true rfl) rfl ((congrFun V.1 338).trans s_338) (by decide) (C_X8_readAsk V hu ((congrFun (congrFun hG 338) 1).trans hTt) x1 y1 hx1 (by omega) (0 : Int32) 0 (show (0 : Int32).toInt = 0 from rfl) (by omega) ) ?_
            rintro _ g ⟨rfl, V, hq, hk⟩
            have hG := hq.trans hG
            have hK := hk.trans hK
            refine X_iload rfl rfl rfl ?_
            refine S_if_eq (tgt := 107) rfl rfl rfl (show (0 : Int32).toInt = 0 from rfl) (fun vh59 => ?_) (fun q => absurd q (by omega))
            refine S_iinc (c := 1) rfl rfl rfl hx3 rfl (by omega) (fun vz60 hvz60 => ?_)
            refine LW_ls (ls' := [some (.ref 338), some (.int x1), some (.int vz56), some (.int vz60), some (.int (0 : Int32))]) rfl ?_
            refine LW_goto (tgt := 10) rfl rfl ?_
            exact ih10 _ V hG hK hu hTt x1 y1 hx1 (by omega) vz56 vz56.toInt rfl (by omega) vz60 vz60.toInt rfl (by omega) (some (.int (0 : Int32)))    (by omega)
          · refine X_aload_n rfl rfl rfl rfl ?_
            refine X_getR (a := 292 + 10 * u) rfl rfl rfl ((congrFun V.1 338).trans s_338) rfl ((congrFun (congrFun hG 338) 1).trans hTt) ?_
            refine X_sipush (v := (20011 : Int32)) rfl rfl rfl ?_
            refine Y_callV (as := [.int (20011 : Int32)]) (st := []) rfl rfl rfl (by decide) rfl (Nat.le_of_ble_eq_true rfl) (by decide) (Nat.le_of_ble_eq_true rfl) rfl ((congrFun V.1 _).trans (tx_s u hu)) (by decide) (C_X11_emit_T hu V (20011 : Int32) 20011 (show (20011 : Int32).toInt = 20011 from rfl) (by omega) (by omega)) ?_
            rintro _ g ⟨rfl, V, hq, hk⟩
            have hG := hq.trans hG
            have hK := hk.trans hK
            refine X_iload_n rfl rfl rfl rfl ?_
            refine X_iload rfl rfl rfl ?_
            refine S_if_ne (tgt := 79) rfl rfl rfl (show (0 : Int32).toInt = 0 from rfl) (fun q => absurd q (by omega)) (fun vh62 => ?_)
            refine X_iconst (v := (1 : Int32)) rfl rfl rfl ?_
            refine LW_goto (tgt := 80) rfl rfl ?_
            refine S_ior (n := 1) rfl rfl hx2 (show (1 : Int32).toInt = 1 from rfl) (by omega) (by omega) (fun vz63 hvz63 => ?_)
            refine X_istore_n (i := 2) (ls' := [some (.ref 338), some (.int x1), some (.int vz63), some (.int x3), some (.int (0 : Int32))]) rfl rfl rfl (Nat.le_of_ble_eq_true rfl) rfl ?_
            refine X_aload_n rfl rfl rfl rfl ?_
            refine Y_callV (as := []) (st := []) rfl rfl rfl (by decide) rfl (Nat.le_of_ble_eq_true rfl) (by decide) (Nat.le_of_ble_eq_true rfl) rfl ((congrFun V.1 338).trans s_338) (by decide) (C_X8_next V hu ((congrFun (congrFun hG 338) 1).trans hTt)  ) ?_
            rintro _ g ⟨rfl, V, hq, hk⟩
            have hG := hq.trans hG
            have hK := hk.trans hK
            refine X_aload_n rfl rfl rfl rfl ?_
            refine X_iload_n rfl rfl rfl rfl ?_
            refine X_iconst (v := (0 : Int32)) rfl rfl rfl ?_
            refine Y_callV (as := [.int x1, .int (0 : Int32)]) (st := []) rfl rfl rfl (by decide) rfl (Nat.le_of_ble_eq_true rfl) (by decide) (Nat.le_of_ble_eq_true rfl) rfl ((congrFun V.1 338).trans s_338) (by decide) (C_X8_readAsk V hu ((congrFun (congrFun hG 338) 1).trans hTt) x1 y1 hx1 (by omega) (0 : Int32) 0 (show (0 : Int32).toInt = 0 from rfl) (by omega) ) ?_
            rintro _ g ⟨rfl, V, hq, hk⟩
            have hG := hq.trans hG
            have hK := hk.trans hK
            refine X_iload rfl rfl rfl ?_
            refine S_if_eq (tgt := 107) rfl rfl rfl (show (0 : Int32).toInt = 0 from rfl) (fun vh66 => ?_) (fun q => absurd q (by omega))
            refine S_iinc (c := 1) rfl rfl rfl hx3 rfl (by omega) (fun vz67 hvz67 => ?_)
            refine LW_ls (ls' := [some (.ref 338), some (.int x1), some (.int vz63), some (.int vz67), some (.int (0 : Int32))]) rfl ?_
            refine LW_goto (tgt := 10) rfl rfl ?_
            exact ih10 _ V hG hK hu hTt x1 y1 hx1 (by omega) vz63 vz63.toInt rfl (by omega) vz67 vz67.toInt rfl (by omega) (some (.int (0 : Int32)))    (by omega)
theorem C_X8_readEither_all {P : Par} {g0 : LH} {d : Nat}  : ∀ n : Nat, (∀ (g : LH) (V : Inv P g) (hG : Gr g = Gr g0) (hK : Gi g 1 5 = Gi g0 1 5) {u : Nat} (hu : u < 4) (hTt : Gr g0 338 1 = some (292 + 10 * u)) (x1 : Int32) (y1 : Int) (hx1 : x1.toInt = y1) (hf1 : 0 ≤ y1 ∧ y1 ≤ 3) (x2 : Int32) (y2 : Int) (hx2 : x2.toInt = y2) (hf2 : 0 ≤ y2 ∧ y2 ≤ 1) (x3 : Int32) (y3 : Int) (hx3 : x3.toInt = y3) (hf3 : 0 ≤ y3 ∧ y3 ≤ 301) (o4 : Option Value) , (301 - y3) * 1 + 0 < (n : Int) → LW 97 (d + 64) 0 0 10 [some (.ref 338), some (.int x1), some (.int x2), some (.int x3), o4] [] g (fun v g' => v = none ∧ Inv P g' ∧ Gr g' = Gr g0 ∧ Gi g' 1 5 = Gi g0 1 5)) := by
  intro n
  induction n with
  | zero => exact fun g V hG hK u hu hTt x1 y1 hx1 hf1 x2 y2 hx2 hf2 x3 y3 hx3 hf3 o4 hmu => absurd hmu (by omega)
  | succ n ih => exact fun g V hG hK u hu hTt x1 y1 hx1 hf1 x2 y2 hx2 hf2 x3 y3 hx3 hf3 o4 hmu => C_X8_readEither_10  V hG hK hu hTt x1 y1 hx1 hf1 x2 y2 hx2 hf2 x3 y3 hx3 hf3 o4 (by omega) ih
set_option maxRecDepth 10000 in
set_option maxHeartbeats 40000000 in
theorem C_X8_readEither {P : Par} {g : LH} {d : Nat}  (V : Inv P g) {u : Nat} (hu : u < 4) (hTt : Gr g 338 1 = some (292 + 10 * u)) (x1 : Int32) (y1 : Int) (hx1 : x1.toInt = y1) (hf1 : 0 ≤ y1 ∧ y1 ≤ 3)   : LW 97 (d + 64) 0 0 0 (lEnt (mL 97) [.ref 338, .int x1]) [] g (fun v g' => v = none ∧ Inv P g' ∧ Gr g' = Gr g ∧ Gi g' 1 5 = Gi g 1 5) := by
  refine LW_ls (ls' := [some (.ref 338), some (.int x1), none, none, none]) rfl ?_
  have hG : Gr g = Gr g := rfl
  have hK : Gi g 1 5 = Gi g 1 5 := rfl
  refine X_iconst (v := (0 : Int32)) rfl rfl rfl ?_
  refine X_istore_n (i := 2) (ls' := [some (.ref 338), some (.int x1), some (.int (0 : Int32)), none, none]) rfl rfl rfl (Nat.le_of_ble_eq_true rfl) rfl ?_
  refine X_aload_n rfl rfl rfl rfl ?_
  refine X_iload_n rfl rfl rfl rfl ?_
  refine X_iconst (v := (0 : Int32)) rfl rfl rfl ?_
  refine Y_callV (as := [.int x1, .int (0 : Int32)]) (st := []) rfl rfl rfl (by decide) rfl (Nat.le_of_ble_eq_true rfl) (by decide) (Nat.le_of_ble_eq_true rfl) rfl ((congrFun V.1 338).trans s_338) (by decide) (C_X8_readAsk V hu ((congrFun (congrFun hG 338) 1).trans hTt) x1 y1 hx1 (by omega) (0 : Int32) 0 (show (0 : Int32).toInt = 0 from rfl) (by omega) ) ?_
  rintro _ g ⟨rfl, V, hq, hk⟩
  have hG := hq.trans hG
  have hK := hk.trans hK
  refine X_iconst (v := (0 : Int32)) rfl rfl rfl ?_
  refine X_istore_n (i := 3) (ls' := [some (.ref 338), some (.int x1), some (.int (0 : Int32)), some (.int (0 : Int32)), none]) rfl rfl rfl (Nat.le_of_ble_eq_true rfl) rfl ?_
  exact (C_X8_readEither_all (((301 - 0) * 1 + 0) + 1 : Int).toNat) _ V hG hK hu hTt x1 y1 hx1 (by omega) (0 : Int32) 0 (show (0 : Int32).toInt = 0 from rfl) (by omega) (0 : Int32) 0 (show (0 : Int32).toInt = 0 from rfl) (by omega) none    (by omega)
