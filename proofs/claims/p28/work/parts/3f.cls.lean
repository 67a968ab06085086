/-! the class's methods: each returns and keeps what every state keeps -/
set_option maxRecDepth 10000 in
set_option maxHeartbeats 40000000 in
theorem C_X8_readClause {P : Par} {g : LH} {d : Nat}  (V : Inv P g) {u : Nat} (hu : u < 4) (hTt : Gr g 338 1 = some (292 + 10 * u))    : LW 90 (d + 69) 0 0 0 (lEnt (mL 90) [.ref 338]) [] g (fun v g' => v = none ∧ Inv P g' ∧ Gr g' = Gr g ∧ Gi g' 1 5 = Gi g 1 5) := by
  refine LW_ls (ls' := [some (.ref 338), none]) rfl ?_
  have hG : Gr g = Gr g := rfl
  have hK : Gi g 1 5 = Gi g 1 5 := rfl
  refine X_aload_n rfl rfl rfl rfl ?_
  refine S_getI rfl rfl rfl ((congrFun V.1 338).trans s_338) rfl (fun vz1 evz1 => ?_)
  refine X_iconst (v := (1 : Int32)) rfl rfl rfl ?_
  refine S_icmp_ne (tgt := 15) rfl rfl rfl rfl (show (1 : Int32).toInt = 1 from rfl) (fun vh2 => ?_) (fun vh2 => ?_)
  · refine X_iconst (v := (-1 : Int32)) rfl rfl rfl ?_
    refine X_istore_n (i := 1) (ls' := [some (.ref 338), some (.int (-1 : Int32))]) rfl rfl rfl (Nat.le_of_ble_eq_true rfl) rfl ?_
    refine X_iload_n rfl rfl rfl rfl ?_
    refine S_if_lt (tgt := 27) rfl rfl rfl (show (-1 : Int32).toInt = -1 from rfl) (fun vh3 => ?_) (fun q => absurd q (by omega))
    refine X_aload_n rfl rfl rfl rfl ?_
    refine X_iconst (v := (1 : Int32)) rfl rfl rfl ?_
    refine Y_callV (as := [.int (1 : Int32)]) (st := []) rfl rfl rfl (by decide) rfl (Nat.le_of_ble_eq_true rfl) (by decide) (Nat.le_of_ble_eq_true rfl) rfl ((congrFun V.1 338).trans s_338) (by decide) (C_X8_fail V hu ((congrFun (congrFun hG 338) 1).trans hTt) (1 : Int32) 1 (show (1 : Int32).toInt = 1 from rfl) (by omega) ) ?_
    rintro _ g ⟨vr4, rfl, hrvr40, hrvr41, V, hq, hk⟩
    have hG := hq.trans hG
    have hK := hk.trans hK
    refine X_pop rfl rfl rfl ?_
    exact LW_return (st := []) rfl rfl ⟨rfl, V, hG, hK⟩
  · refine X_aload_n rfl rfl rfl rfl ?_
    refine S_getI rfl rfl rfl ((congrFun V.1 338).trans s_338) rfl (fun vz5 evz5 => ?_)
    refine LW_goto (tgt := 16) rfl rfl ?_
    refine X_istore_n (i := 1) (ls' := [some (.ref 338), some (.int vz5)]) rfl rfl rfl (Nat.le_of_ble_eq_true rfl) rfl ?_
    refine X_iload_n rfl rfl rfl rfl ?_
    refine S_if_lt (tgt := 27) rfl rfl rfl rfl (fun vh6 => ?_) (fun vh6 => ?_)
    · refine X_aload_n rfl rfl rfl rfl ?_
      refine X_iconst (v := (1 : Int32)) rfl rfl rfl ?_
      refine Y_callV (as := [.int (1 : Int32)]) (st := []) rfl rfl rfl (by decide) rfl (Nat.le_of_ble_eq_true rfl) (by decide) (Nat.le_of_ble_eq_true rfl) rfl ((congrFun V.1 338).trans s_338) (by decide) (C_X8_fail V hu ((congrFun (congrFun hG 338) 1).trans hTt) (1 : Int32) 1 (show (1 : Int32).toInt = 1 from rfl) (by omega) ) ?_
      rintro _ g ⟨vr7, rfl, hrvr70, hrvr71, V, hq, hk⟩
      have hG := hq.trans hG
      have hK := hk.trans hK
      refine X_pop rfl rfl rfl ?_
      exact LW_return (st := []) rfl rfl ⟨rfl, V, hG, hK⟩
    · refine X_iload_n rfl rfl rfl rfl ?_
      refine X_bipush (v := (12 : Int32)) rfl rfl rfl ?_
      refine S_icmp_le (tgt := 34) rfl rfl rfl rfl (show (12 : Int32).toInt = 12 from rfl) (fun vh8 => ?_) (fun vh8 => ?_)
      · refine X_aload_n rfl rfl rfl rfl ?_
        refine X_getR (a := 292 + 10 * u) rfl rfl rfl ((congrFun V.1 338).trans s_338) rfl ((congrFun (congrFun hG 338) 1).trans hTt) ?_
        refine X_iload_n rfl rfl rfl rfl ?_
        refine X_callV (as := [.int vz5]) (st := []) rfl rfl rfl (by decide) rfl (Nat.le_of_ble_eq_true rfl) (by decide) (Nat.le_of_ble_eq_true rfl) rfl ((congrFun V.1 _).trans (tx_s u hu)) (by decide) ?_
        refine LW_ls (ls' := [some (.ref (292 + 10 * u)), some (.int vz5)]) rfl ?_
        refine X_iload_n rfl rfl rfl rfl ?_
        refine S_if_lt (tgt := 23) rfl rfl rfl rfl (fun q => absurd q (by omega)) (fun vh9 => ?_)
        refine X_iload_n rfl rfl rfl rfl ?_
        refine X_iconst (v := (4 : Int32)) rfl rfl rfl ?_
        refine S_icmp_ge (tgt := 23) rfl rfl rfl rfl (show (4 : Int32).toInt = 4 from rfl) (fun vh10 => ?_) (fun vh10 => ?_)
        · refine X_iconst (v := (0 : Int32)) rfl rfl rfl ?_
          refine LW_ireturn (st := []) rfl rfl rfl ?_
          refine S_if_eq (tgt := 52) rfl rfl rfl (show (0 : Int32).toInt = 0 from rfl) (fun vh11 => ?_) (fun q => absurd q (by omega))
          refine X_aload_n rfl rfl rfl rfl ?_
          refine X_getR (a := 292 + 10 * u) rfl rfl rfl ((congrFun V.1 338).trans s_338) rfl ((congrFun (congrFun hG 338) 1).trans hTt) ?_
          refine S_getI rfl rfl rfl ((congrFun V.1 _).trans (tx_s u hu)) rfl (fun vz12 evz12 => ?_)
          have vf13 := K_15_0 (V.2.2.2.2.1 (292 + 10 * u) (0) (by omega)) (tx_k u hu)
          rw [evz12] at vf13
          refine X_bipush (v := (24 : Int32)) rfl rfl rfl ?_
          refine S_icmp_lt (tgt := 72) rfl rfl rfl rfl (show (24 : Int32).toInt = 24 from rfl) (fun vh14 => ?_) (fun vh14 => ?_)
          · refine X_aload_n rfl rfl rfl rfl ?_
            refine X_aload_n rfl rfl rfl rfl ?_
            refine X_getR (a := 292 + 10 * u) rfl rfl rfl ((congrFun V.1 338).trans s_338) rfl ((congrFun (congrFun hG 338) 1).trans hTt) ?_
            refine X_getI (v := vz12) rfl rfl rfl ((congrFun V.1 _).trans (tx_s u hu)) rfl evz12 ?_
            refine S_putI (I := Inv _) rfl rfl rfl ((congrFun V.1 338).trans s_338) rfl rfl rfl rfl (Inv_putI V (Nat.le_of_ble_eq_true rfl) (Or.inl (by decide)) (Q_17_6 rk_338 (by omega))) (fun g V ve15 vn16 hq => ?_)
            have hG := hq.trans hG
            have hK := (vn16 1 5 (Or.inl (by decide))).trans hK
            have evz1 := (vn16 (338) 3 (Or.inr (by decide))).trans evz1
            have evz5 := (vn16 (338) 4 (Or.inr (by decide))).trans evz5
            have evz12 := (vn16 (292 + 10 * u) 0 (Or.inl (by omega))).trans evz12
            refine X_aload_n rfl rfl rfl rfl ?_
            refine X_getR (a := 292 + 10 * u) rfl rfl rfl ((congrFun V.1 338).trans s_338) rfl ((congrFun (congrFun hG 338) 1).trans hTt) ?_
            refine X_iload_n rfl rfl rfl rfl ?_
            refine Y_callV (as := [.int vz5]) (st := []) rfl rfl rfl (by decide) rfl (Nat.le_of_ble_eq_true rfl) (by decide) (Nat.le_of_ble_eq_true rfl) rfl ((congrFun V.1 _).trans (tx_s u hu)) (by decide) (C_X11_begin_T hu V vz5 vz5.toInt rfl (by omega) ) ?_
            rintro _ g ⟨rfl, V, hq, hk⟩
            have hG := hq.trans hG
            have hK := hk.trans hK
            refine X_aload_n rfl rfl rfl rfl ?_
            refine Y_callV (as := []) (st := []) rfl rfl rfl (by decide) rfl (Nat.le_of_ble_eq_true rfl) (by decide) (Nat.le_of_ble_eq_true rfl) rfl ((congrFun V.1 338).trans s_338) (by decide) (C_X8_next V hu ((congrFun (congrFun hG 338) 1).trans hTt)  ) ?_
            rintro _ g ⟨rfl, V, hq, hk⟩
            have hG := hq.trans hG
            have hK := hk.trans hK
            refine X_iload_n rfl rfl rfl rfl ?_
            refine X_iconst (v := (4 : Int32)) rfl rfl rfl ?_
            refine S_icmp_lt (tgt := 108) rfl rfl rfl rfl (show (4 : Int32).toInt = 4 from rfl) (fun q => absurd q (by omega)) (fun vh19 => ?_)
            refine X_aload_n rfl rfl rfl rfl ?_
            refine X_iload_n rfl rfl rfl rfl ?_
            refine Y_callV (as := [.int vz5]) (st := []) rfl rfl rfl (by decide) rfl (Nat.le_of_ble_eq_true rfl) (by decide) (Nat.le_of_ble_eq_true rfl) rfl ((congrFun V.1 338).trans s_338) (by decide) (C_X8_readDeed V hu ((congrFun (congrFun hG 338) 1).trans hTt) vz5 vz5.toInt rfl (by omega) ) ?_
            rintro _ g ⟨rfl, V, hq, hk⟩
            have hG := hq.trans hG
            have hK := hk.trans hK
            refine LW_goto (tgt := 159) rfl rfl ?_
            refine X_aload_n rfl rfl rfl rfl ?_
            refine X_bipush (v := (59 : Int32)) rfl rfl rfl ?_
            refine Y_callV (as := [.int (59 : Int32)]) (st := []) rfl rfl rfl (by decide) rfl (Nat.le_of_ble_eq_true rfl) (by decide) (Nat.le_of_ble_eq_true rfl) rfl ((congrFun V.1 338).trans s_338) (by decide) (C_X8_takeSymbol V hu ((congrFun (congrFun hG 338) 1).trans hTt) (59 : Int32) 59 (show (59 : Int32).toInt = 59 from rfl) (by omega) ) ?_
            rintro _ g ⟨rfl, V, hq, hk⟩
            have hG := hq.trans hG
            have hK := hk.trans hK
            exact LW_return (st := []) rfl rfl ⟨rfl, V, hG, hK⟩
          · refine X_aload_n rfl rfl rfl rfl ?_
            refine X_bipush (v := (6 : Int32)) rfl rfl rfl ?_
            refine Y_callV (as := [.int (6 : Int32)]) (st := []) rfl rfl rfl (by decide) rfl (Nat.le_of_ble_eq_true rfl) (by decide) (Nat.le_of_ble_eq_true rfl) rfl ((congrFun V.1 338).trans s_338) (by decide) (C_X8_fail V hu ((congrFun (congrFun hG 338) 1).trans hTt) (6 : Int32) 6 (show (6 : Int32).toInt = 6 from rfl) (by omega) ) ?_
            rintro _ g ⟨vr22, rfl, hrvr220, hrvr221, V, hq, hk⟩
            have hG := hq.trans hG
            have hK := hk.trans hK
            refine X_pop rfl rfl rfl ?_
            exact LW_return (st := []) rfl rfl ⟨rfl, V, hG, hK⟩
        · refine X_aload_n rfl rfl rfl rfl ?_
          refine X_getR (a := 299 + 10 * u) rfl rfl rfl ((congrFun V.1 _).trans (tx_s u hu)) rfl ((congrFun (V.2.1 (292 + 10 * u) (by omega)) 7).trans (tx_r7 u hu)) ?_
          refine X_iload_n rfl rfl rfl rfl ?_
          refine S_iald rfl rfl ((congrFun V.1 _).trans (tx_s7 u hu)) rfl (by omega) (fun vz23 evz23 => ?_)
          have vf24 := K_6 (V.2.2.2.2.1 (299 + 10 * u) ((vz5.toInt : Int).toNat) (by omega)) (tx_k7 u hu)
          rw [evz23] at vf24
          refine X_iconst (v := (-1 : Int32)) rfl rfl rfl ?_
          refine S_icmp_eq (tgt := 23) rfl rfl rfl rfl (show (-1 : Int32).toInt = -1 from rfl) (fun vh25 => ?_) (fun vh25 => ?_)
          · refine X_iconst (v := (0 : Int32)) rfl rfl rfl ?_
            refine LW_ireturn (st := []) rfl rfl rfl ?_
            refine S_if_eq (tgt := 52) rfl rfl rfl (show (0 : Int32).toInt = 0 from rfl) (fun vh26 => ?_) (fun q => absurd q (by omega))
            refine X_aload_n rfl rfl rfl rfl ?_
            refine X_getR (a := 292 + 10 * u) rfl rfl rfl ((congrFun V.1 338).trans s_338) rfl ((congrFun (congrFun hG 338) 1).trans hTt) ?_
            refine S_getI rfl rfl rfl ((congrFun V.1 _).trans (tx_s u hu)) rfl (fun vz27 evz27 => ?_)
            have vf28 := K_15_0 (V.2.2.2.2.1 (292 + 10 * u) (0) (by omega)) (tx_k u hu)
            rw [evz27] at vf28
            refine X_bipush (v := (24 : Int32)) rfl rfl rfl ?_
            refine S_icmp_lt (tgt := 72) rfl rfl rfl rfl (show (24 : Int32).toInt = 24 from rfl) (fun vh29 => ?_) (fun vh29 => ?_)
            · refine X_aload_n rfl rfl rfl rfl ?_
              refine X_aload_n rfl rfl rfl rfl ?_
              refine X_getR (a := 292 + 10 * u) rfl rfl rfl ((congrFun V.1 338).trans s_338) rfl ((congrFun (congrFun hG 338) 1).trans hTt) ?_
              refine X_getI (v := vz27) rfl rfl rfl ((congrFun V.1 _).trans (tx_s u hu)) rfl evz27 ?_
              refine S_putI (I := Inv _) rfl rfl rfl ((congrFun V.1 338).trans s_338) rfl rfl rfl rfl (Inv_putI V (Nat.le_of_ble_eq_true rfl) (Or.inl (by decide)) (Q_17_6 rk_338 (by omega))) (fun g V ve30 vn31 hq => ?_)
              have hG := hq.trans hG
              have hK := (vn31 1 5 (Or.inl (by decide))).trans hK
              have evz1 := (vn31 (338) 3 (Or.inr (by decide))).trans evz1
              have evz5 := (vn31 (338) 4 (Or.inr (by decide))).trans evz5
              have evz23 := (vn31 (299 + 10 * u) ((vz5.toInt : Int).toNat) (Or.inl (by omega))).trans evz23
              have evz27 := (vn31 (292 + 10 * u) 0 (Or.inl (by omega))).trans evz27
              refine X_aload_n rfl rfl rfl rfl ?_
              refine X_getR (a := 292 + 10 * u) rfl rfl rfl ((congrFun V.1 338).trans s_338) rfl ((congrFun (congrFun hG 338) 1).trans hTt) ?_
              refine X_iload_n rfl rfl rfl rfl ?_
              refine Y_callV (as := [.int vz5]) (st := []) rfl rfl rfl (by decide) rfl (Nat.le_of_ble_eq_true rfl) (by decide) (Nat.le_of_ble_eq_true rfl) rfl ((congrFun V.1 _).trans (tx_s u hu)) (by decide) (C_X11_begin_T hu V vz5 vz5.toInt rfl (by omega) ) ?_
              rintro _ g ⟨rfl, V, hq, hk⟩
              have hG := hq.trans hG
              have hK := hk.trans hK
              refine X_aload_n rfl rfl rfl rfl ?_
              refine Y_callV (as := []) (st := []) rfl rfl rfl (by decide) rfl (Nat.le_of_ble_eq_true rfl) (by decide) (Nat.le_of_ble_eq_true rfl) rfl ((congrFun V.1 338).trans s_338) (by decide) (C_X8_next V hu ((congrFun (congrFun hG 338) 1).trans hTt)  ) ?_
              rintro _ g ⟨rfl, V, hq, hk⟩
              have hG := hq.trans hG
              have hK := hk.trans hK
              refine X_iload_n rfl rfl rfl rfl ?_
              refine X_iconst (v := (4 : Int32)) rfl rfl rfl ?_
              refine S_icmp_lt (tgt := 108) rfl rfl rfl rfl (show (4 : Int32).toInt = 4 from rfl) (fun vh34 => ?_) (fun q => absurd q (by omega))
              refine X_aload_n rfl rfl rfl rfl ?_
              refine X_getR (a := 292 + 10 * u) rfl rfl rfl ((congrFun V.1 338).trans s_338) rfl ((congrFun (congrFun hG 338) 1).trans hTt) ?_
              refine X_getR (a := 299 + 10 * u) rfl rfl rfl ((congrFun V.1 _).trans (tx_s u hu)) rfl ((congrFun (V.2.1 (292 + 10 * u) (by omega)) 7).trans (tx_r7 u hu)) ?_
              refine X_iload_n rfl rfl rfl rfl ?_
              refine X_aload_n rfl rfl rfl rfl ?_
              refine X_getR (a := 292 + 10 * u) rfl rfl rfl ((congrFun V.1 338).trans s_338) rfl ((congrFun (congrFun hG 338) 1).trans hTt) ?_
              refine S_getI rfl rfl rfl ((congrFun V.1 _).trans (tx_s u hu)) rfl (fun vz35 evz35 => ?_)
              have vf36 := K_15_9 (V.2.2.2.2.1 (292 + 10 * u) (9) (by omega)) (tx_k u hu)
              rw [evz35] at vf36
              refine S_iast (I := Inv _) rfl rfl ((congrFun V.1 _).trans (tx_s7 u hu)) rfl (by omega) (Inv_putI V (by omega) (Or.inl (by omega)) (Q_6 (tx_k7 u hu) (by omega))) (fun g V ve37 vn38 hq => ?_)
              have hG := hq.trans hG
              have hK := (vn38 1 5 (Or.inl (by omega))).trans hK
              have evz35 := (vn38 (292 + 10 * u) 9 (Or.inl (by omega))).trans evz35
              refine X_iload_n rfl rfl rfl rfl ?_
              refine X_iconst (v := (2 : Int32)) rfl rfl rfl ?_
              refine S_icmp_ne (tgt := 138) rfl rfl rfl rfl (show (2 : Int32).toInt = 2 from rfl) (fun vh39 => ?_) (fun vh39 => ?_)
              · refine X_aload_n rfl rfl rfl rfl ?_
                refine X_iload_n rfl rfl rfl rfl ?_
                refine Y_callV (as := [.int vz5]) (st := []) rfl rfl rfl (by decide) rfl (Nat.le_of_ble_eq_true rfl) (by decide) (Nat.le_of_ble_eq_true rfl) rfl ((congrFun V.1 338).trans s_338) (by decide) (C_X8_readEither V hu ((congrFun (congrFun hG 338) 1).trans hTt) vz5 vz5.toInt rfl (by omega) ) ?_
                rintro _ g ⟨rfl, V, hq, hk⟩
                have hG := hq.trans hG
                have hK := hk.trans hK
                refine X_aload_n rfl rfl rfl rfl ?_
                refine X_getR (a := 292 + 10 * u) rfl rfl rfl ((congrFun V.1 338).trans s_338) rfl ((congrFun (congrFun hG 338) 1).trans hTt) ?_
                refine X_getR (a := 300 + 10 * u) rfl rfl rfl ((congrFun V.1 _).trans (tx_s u hu)) rfl ((congrFun (V.2.1 (292 + 10 * u) (by omega)) 8).trans (tx_r8 u hu)) ?_
                refine X_iload_n rfl rfl rfl rfl ?_
                refine X_aload_n rfl rfl rfl rfl ?_
                refine X_getR (a := 292 + 10 * u) rfl rfl rfl ((congrFun V.1 338).trans s_338) rfl ((congrFun (congrFun hG 338) 1).trans hTt) ?_
                refine S_getI rfl rfl rfl ((congrFun V.1 _).trans (tx_s u hu)) rfl (fun vz41 evz41 => ?_)
                have vf42 := K_15_9 (V.2.2.2.2.1 (292 + 10 * u) (9) (by omega)) (tx_k u hu)
                rw [evz41] at vf42
                refine S_iast (I := Inv _) rfl rfl ((congrFun V.1 _).trans (tx_s8 u hu)) rfl (by omega) (Inv_putI V (by omega) (Or.inl (by omega)) (Q_6 (tx_k8 u hu) (by omega))) (fun g V ve43 vn44 hq => ?_)
                have hG := hq.trans hG
                have hK := (vn44 1 5 (Or.inl (by omega))).trans hK
                have evz41 := (vn44 (292 + 10 * u) 9 (Or.inl (by omega))).trans evz41
                refine X_aload_n rfl rfl rfl rfl ?_
                refine X_bipush (v := (59 : Int32)) rfl rfl rfl ?_
                refine Y_callV (as := [.int (59 : Int32)]) (st := []) rfl rfl rfl (by decide) rfl (Nat.le_of_ble_eq_true rfl) (by decide) (Nat.le_of_ble_eq_true rfl) rfl ((congrFun V.1 338).trans s_338) (by decide) (C_X8_takeSymbol V hu ((congrFun (congrFun hG 338) 1).trans hTt) (59 : Int32) 59 (show (59 : Int32).toInt = 59 from rfl) (by omega) ) ?_
                rintro _ g ⟨rfl, V, hq, hk⟩
                have hG := hq.trans hG
                have hK := hk.trans hK
                exact LW_return (st := []) rfl rfl ⟨rfl, V, hG, hK⟩
              · refine X_aload_n rfl rfl rfl rfl ?_
                refine X_iload_n rfl rfl rfl rfl ?_
                refine X_iconst (v := (0 : Int32)) rfl rfl rfl ?_
                refine Y_callV (as := [.int vz5, .int (0 : Int32)]) (st := []) rfl rfl rfl (by decide) rfl (Nat.le_of_ble_eq_true rfl) (by decide) (Nat.le_of_ble_eq_true rfl) rfl ((congrFun V.1 338).trans s_338) (by decide) (C_X8_readSum V hu ((congrFun (congrFun hG 338) 1).trans hTt) vz5 vz5.toInt rfl (by omega) (0 : Int32) 0 (show (0 : Int32).toInt = 0 from rfl) (by omega) ) ?_
                rintro _ g ⟨rfl, V, hq, hk⟩
                have hG := hq.trans hG
                have hK := hk.trans hK
                refine LW_goto (tgt := 143) rfl rfl ?_
                refine X_aload_n rfl rfl rfl rfl ?_
                refine X_getR (a := 292 + 10 * u) rfl rfl rfl ((congrFun V.1 338).trans s_338) rfl ((congrFun (congrFun hG 338) 1).trans hTt) ?_
                refine X_getR (a := 300 + 10 * u) rfl rfl rfl ((congrFun V.1 _).trans (tx_s u hu)) rfl ((congrFun (V.2.1 (292 + 10 * u) (by omega)) 8).trans (tx_r8 u hu)) ?_
                refine X_iload_n rfl rfl rfl rfl ?_
                refine X_aload_n rfl rfl rfl rfl ?_
                refine X_getR (a := 292 + 10 * u) rfl rfl rfl ((congrFun V.1 338).trans s_338) rfl ((congrFun (congrFun hG 338) 1).trans hTt) ?_
                refine S_getI rfl rfl rfl ((congrFun V.1 _).trans (tx_s u hu)) rfl (fun vz47 evz47 => ?_)
                have vf48 := K_15_9 (V.2.2.2.2.1 (292 + 10 * u) (9) (by omega)) (tx_k u hu)
                rw [evz47] at vf48
                refine S_iast (I := Inv _) rfl rfl ((congrFun V.1 _).trans (tx_s8 u hu)) rfl (by omega) (Inv_putI V (by omega) (Or.inl (by omega)) (Q_6 (tx_k8 u hu) (by omega))) (fun g V ve49 vn50 hq => ?_)
                have hG := hq.trans hG
                have hK := (vn50 1 5 (Or.inl (by omega))).trans hK
                have evz47 := (vn50 (292 + 10 * u) 9 (Or.inl (by omega))).trans evz47
                refine X_aload_n rfl rfl rfl rfl ?_
                refine X_bipush (v := (59 : Int32)) rfl rfl rfl ?_
                refine Y_callV (as := [.int (59 : Int32)]) (st := []) rfl rfl rfl (by decide) rfl (Nat.le_of_ble_eq_true rfl) (by decide) (Nat.le_of_ble_eq_true rfl) rfl ((congrFun V.1 338).trans s_338) (by decide) (C_X8_takeSymbol V hu ((congrFun (congrFun hG 338) 1).trans hTt) (59 : Int32) 59 (show (59 : Int32).toInt = 59 from rfl) (by omega) ) ?_
                rintro _ g ⟨rfl, V, hq, hk⟩
                have hG := hq.trans hG
                have hK := hk.trans hK
                exact LW_return (st := []) rfl rfl ⟨rfl, V, hG, hK⟩
            · refine X_aload_n rfl rfl rfl rfl ?_
              refine X_bipush (v := (6 : Int32)) rfl rfl rfl ?_
              refine Y_callV (as := [.int (6 : Int32)]) (st := []) rfl rfl rfl (by decide) rfl (Nat.le_of_ble_eq_true rfl) (by decide) (Nat.le_of_ble_eq_true rfl) rfl ((congrFun V.1 338).trans s_338) (by decide) (C_X8_fail V hu ((congrFun (congrFun hG 338) 1).trans hTt) (6 : Int32) 6 (show (6 : Int32).toInt = 6 from rfl) (by omega) ) ?_
              rintro _ g ⟨vr52, rfl, hrvr520, hrvr521, V, hq, hk⟩
              have hG := hq.trans hG
              have hK := hk.trans hK
              refine X_pop rfl rfl rfl ?_
              exact LW_return (st := []) rfl rfl ⟨rfl, V, hG, hK⟩
          · refine X_iconst (v := (1 : Int32)) rfl rfl rfl ?_
            refine LW_goto (tgt := 24) rfl rfl ?_
            refine LW_ireturn (st := []) rfl rfl rfl ?_
            refine S_if_eq (tgt := 52) rfl rfl rfl (show (1 : Int32).toInt = 1 from rfl) (fun q => absurd q (by omega)) (fun vh53 => ?_)
            refine X_aload_n rfl rfl rfl rfl ?_
            refine X_iconst (v := (4 : Int32)) rfl rfl rfl ?_
            refine Y_callV (as := [.int (4 : Int32)]) (st := []) rfl rfl rfl (by decide) rfl (Nat.le_of_ble_eq_true rfl) (by decide) (Nat.le_of_ble_eq_true rfl) rfl ((congrFun V.1 338).trans s_338) (by decide) (C_X8_fail V hu ((congrFun (congrFun hG 338) 1).trans hTt) (4 : Int32) 4 (show (4 : Int32).toInt = 4 from rfl) (by omega) ) ?_
            rintro _ g ⟨vr54, rfl, hrvr540, hrvr541, V, hq, hk⟩
            have hG := hq.trans hG
            have hK := hk.trans hK
            refine X_pop rfl rfl rfl ?_
            exact LW_return (st := []) rfl rfl ⟨rfl, V, hG, hK⟩
      · refine X_aload_n rfl rfl rfl rfl ?_
        refine X_iconst (v := (1 : Int32)) rfl rfl rfl ?_
        refine Y_callV (as := [.int (1 : Int32)]) (st := []) rfl rfl rfl (by decide) rfl (Nat.le_of_ble_eq_true rfl) (by decide) (Nat.le_of_ble_eq_true rfl) rfl ((congrFun V.1 338).trans s_338) (by decide) (C_X8_fail V hu ((congrFun (congrFun hG 338) 1).trans hTt) (1 : Int32) 1 (show (1 : Int32).toInt = 1 from rfl) (by omega) ) ?_
        rintro _ g ⟨vr55, rfl, hrvr550, hrvr551, V, hq, hk⟩
        have hG := hq.trans hG
        have hK := hk.trans hK
        refine X_pop rfl rfl rfl ?_
        exact LW_return (st := []) rfl rfl ⟨rfl, V, hG, hK⟩
set_option maxRecDepth 10000 in
set_option maxHeartbeats 40000000 in
theorem C_X8_read_338_T_51 {P : Par} {g g0 g1 : LH} {d n : Nat}  {u : Nat} (hu : u < 4) (V : Inv P g) (hG : Gr g = Gr g0) (hK : Gi g 1 5 = Gi g1 1 5) (hTt : Gr g0 338 1 = some (292 + 10 * u)) (x2 : Int32) (y2 : Int) (hx2 : x2.toInt = y2) (hf2 : 0 ≤ y2 ∧ y2 ≤ 301)  (hmu : (301 - y2) * 1 + 0 < (n : Int) + 1) (ih51 : ∀ (g : LH) {u : Nat} (hu : u < 4) (V : Inv P g) (hG : Gr g = Gr g0) (hK : Gi g 1 5 = Gi g1 1 5) (hTt : Gr g0 338 1 = some (292 + 10 * u)) (x2 : Int32) (y2 : Int) (hx2 : x2.toInt = y2) (hf2 : 0 ≤ y2 ∧ y2 ≤ 301) , (301 - y2) * 1 + 0 < (n : Int) → LW 83 (d + 73) 0 0 51 [some (.ref 338), some (.ref (292 + 10 * u)), some (.int x2)] [] g (fun v g' => ∃ r : Int32, v = some (.int r) ∧ 0 ≤ r.toInt ∧ r.toInt ≤ 1 ∧ Inv P g' ∧ Gi g' 1 5 = Gi g1 1 5)) : LW 83 (d + 73) 0 0 51 [some (.ref 338), some (.ref (292 + 10 * u)), some (.int x2)] [] g (fun v g' => ∃ r : Int32, v = some (.int r) ∧ 0 ≤ r.toInt ∧ r.toInt ≤ 1 ∧ Inv P g' ∧ Gi g' 1 5 = Gi g1 1 5) := by
  refine X_iload_n rfl rfl rfl rfl ?_
  refine X_sipush (v := (300 : Int32)) rfl rfl rfl ?_
  refine S_icmp_gt (tgt := 82) rfl rfl rfl hx2 (show (300 : Int32).toInt = 300 from rfl) (fun vh1 => ?_) (fun vh1 => ?_)
  · refine X_aload_n rfl rfl rfl rfl ?_
    refine S_getI rfl rfl rfl ((congrFun V.1 338).trans s_338) rfl (fun vz2 evz2 => ?_)
    refine S_if_ne (tgt := 93) rfl rfl rfl rfl (fun vh3 => ?_) (fun vh3 => ?_)
    · refine X_iconst (v := (0 : Int32)) rfl rfl rfl ?_
      exact LW_ireturn (st := []) rfl rfl rfl ⟨_, rfl, by decide, by decide, V, hK⟩
    · refine X_iconst (v := (1 : Int32)) rfl rfl rfl ?_
      refine LW_goto (tgt := 94) rfl rfl ?_
      exact LW_ireturn (st := []) rfl rfl rfl ⟨_, rfl, by decide, by decide, V, hK⟩
  · refine X_aload_n rfl rfl rfl rfl ?_
    refine S_getI rfl rfl rfl ((congrFun V.1 338).trans s_338) rfl (fun vz4 evz4 => ?_)
    refine S_if_ne (tgt := 82) rfl rfl rfl rfl (fun vh5 => ?_) (fun vh5 => ?_)
    · refine X_aload_n rfl rfl rfl rfl ?_
      refine X_getI (v := vz4) rfl rfl rfl ((congrFun V.1 338).trans s_338) rfl evz4 ?_
      refine S_if_ne (tgt := 93) rfl rfl rfl rfl (fun vh6 => ?_) (fun vh6 => ?_)
      · refine X_iconst (v := (0 : Int32)) rfl rfl rfl ?_
        exact LW_ireturn (st := []) rfl rfl rfl ⟨_, rfl, by decide, by decide, V, hK⟩
      · refine X_iconst (v := (1 : Int32)) rfl rfl rfl ?_
        refine LW_goto (tgt := 94) rfl rfl ?_
        exact LW_ireturn (st := []) rfl rfl rfl ⟨_, rfl, by decide, by decide, V, hK⟩
    · refine X_aload_n rfl rfl rfl rfl ?_
      refine S_getI rfl rfl rfl ((congrFun V.1 338).trans s_338) rfl (fun vz7 evz7 => ?_)
      refine S_if_eq (tgt := 82) rfl rfl rfl rfl (fun vh8 => ?_) (fun vh8 => ?_)
      · refine X_aload_n rfl rfl rfl rfl ?_
        refine X_getI (v := vz4) rfl rfl rfl ((congrFun V.1 338).trans s_338) rfl evz4 ?_
        refine S_if_ne (tgt := 93) rfl rfl rfl rfl (fun q => absurd q (by omega)) (fun vh9 => ?_)
        refine X_iconst (v := (1 : Int32)) rfl rfl rfl ?_
        refine LW_goto (tgt := 94) rfl rfl ?_
        exact LW_ireturn (st := []) rfl rfl rfl ⟨_, rfl, by decide, by decide, V, hK⟩
      · refine X_aload_n rfl rfl rfl rfl ?_
        refine Y_callV (as := []) (st := []) rfl rfl rfl (by decide) rfl (Nat.le_of_ble_eq_true rfl) (by decide) (Nat.le_of_ble_eq_true rfl) rfl ((congrFun V.1 338).trans s_338) (by decide) (C_X8_readClause V hu ((congrFun (congrFun hG 338) 1).trans hTt)  ) ?_
        rintro _ g ⟨rfl, V, hq, hk⟩
        have hG := hq.trans hG
        have hK := hk.trans hK
        refine S_iinc (c := 1) rfl rfl rfl hx2 rfl (by omega) (fun vz11 hvz11 => ?_)
        refine LW_ls (ls' := [some (.ref 338), some (.ref (292 + 10 * u)), some (.int vz11)]) rfl ?_
        refine LW_goto (tgt := 51) rfl rfl ?_
        exact ih51 _ hu V hG hK hTt vz11 vz11.toInt rfl (by omega)    (by omega)
theorem C_X8_read_338_T_all {P : Par} {g0 g1 : LH} {d : Nat}  : ∀ n : Nat, (∀ (g : LH) {u : Nat} (hu : u < 4) (V : Inv P g) (hG : Gr g = Gr g0) (hK : Gi g 1 5 = Gi g1 1 5) (hTt : Gr g0 338 1 = some (292 + 10 * u)) (x2 : Int32) (y2 : Int) (hx2 : x2.toInt = y2) (hf2 : 0 ≤ y2 ∧ y2 ≤ 301) , (301 - y2) * 1 + 0 < (n : Int) → LW 83 (d + 73) 0 0 51 [some (.ref 338), some (.ref (292 + 10 * u)), some (.int x2)] [] g (fun v g' => ∃ r : Int32, v = some (.int r) ∧ 0 ≤ r.toInt ∧ r.toInt ≤ 1 ∧ Inv P g' ∧ Gi g' 1 5 = Gi g1 1 5)) := by
  intro n
  induction n with
  | zero => exact fun g u hu V hG hK hTt x2 y2 hx2 hf2 hmu => absurd hmu (by omega)
  | succ n ih => exact fun g u hu V hG hK hTt x2 y2 hx2 hf2 hmu => C_X8_read_338_T_51  hu V hG hK hTt x2 y2 hx2 hf2 (by omega) ih
set_option maxRecDepth 10000 in
set_option maxHeartbeats 40000000 in
theorem C_X8_read_338_T {P : Par} {g : LH} {d : Nat}  {u : Nat} (hu : u < 4) (V : Inv P g)    : LW 83 (d + 73) 0 0 0 (lEnt (mL 83) [.ref 338, .ref (292 + 10 * u)]) [] g (fun v g' => ∃ r : Int32, v = some (.int r) ∧ 0 ≤ r.toInt ∧ r.toInt ≤ 1 ∧ Inv P g' ∧ Gi g' 1 5 = Gi g 1 5) := by
  refine LW_ls (ls' := [some (.ref 338), some (.ref (292 + 10 * u)), none]) rfl ?_
  have hG : Gr g = Gr g := rfl
  have hK : Gi g 1 5 = Gi g 1 5 := rfl
  refine X_aload_n rfl rfl rfl rfl ?_
  refine LW_ifnonnull (tgt := 6) rfl rfl ?_
  refine X_aload_n rfl rfl rfl rfl ?_
  refine X_aload_n rfl rfl rfl rfl ?_
  refine S_putText V hu rfl rfl rfl rfl (fun g V hTt vn1 => ?_)
  have hG : Gr g = Gr g := rfl
  have hK := (vn1 1 5).trans hK
  refine X_aload_n rfl rfl rfl rfl ?_
  refine X_getR (a := 292 + 10 * u) rfl rfl rfl ((congrFun V.1 338).trans s_338) rfl ((congrFun (congrFun hG 338) 1).trans hTt) ?_
  refine Y_callV (as := []) (st := []) rfl rfl rfl (by decide) rfl (Nat.le_of_ble_eq_true rfl) (by decide) (Nat.le_of_ble_eq_true rfl) rfl ((congrFun V.1 _).trans (tx_s u hu)) (by decide) (C_X11_clear_T hu V  ) ?_
  rintro _ g ⟨rfl, V, hq, hk⟩
  have hG := hq.trans hG
  have hK := hk.trans hK
  refine X_aload_n rfl rfl rfl rfl ?_
  refine X_iconst (v := (1 : Int32)) rfl rfl rfl ?_
  refine S_putI (I := Inv _) rfl rfl rfl ((congrFun V.1 338).trans s_338) rfl rfl rfl rfl (Inv_putI V (Nat.le_of_ble_eq_true rfl) (Or.inl (by decide)) (Q_17_7 rk_338)) (fun g V ve3 vn4 hq => ?_)
  have hG := hq.trans hG
  have hK := (vn4 1 5 (Or.inl (by decide))).trans hK
  refine X_aload_n rfl rfl rfl rfl ?_
  refine X_iconst (v := (0 : Int32)) rfl rfl rfl ?_
  refine S_putI (I := Inv _) rfl rfl rfl ((congrFun V.1 338).trans s_338) rfl rfl rfl rfl (Inv_putI V (Nat.le_of_ble_eq_true rfl) (Or.inl (by decide)) (Q_17_8 rk_338)) (fun g V ve5 vn6 hq => ?_)
  have hG := hq.trans hG
  have hK := (vn6 1 5 (Or.inl (by decide))).trans hK
  have ve3 := (vn6 (338) 7 (Or.inr (by decide))).trans ve3
  refine X_aload_n rfl rfl rfl rfl ?_
  refine X_iconst (v := (-1 : Int32)) rfl rfl rfl ?_
  refine S_putI (I := Inv _) rfl rfl rfl ((congrFun V.1 338).trans s_338) rfl rfl rfl rfl (Inv_putI V (Nat.le_of_ble_eq_true rfl) (Or.inl (by decide)) (Q_17_9 rk_338)) (fun g V ve7 vn8 hq => ?_)
  have hG := hq.trans hG
  have hK := (vn8 1 5 (Or.inl (by decide))).trans hK
  have ve3 := (vn8 (338) 7 (Or.inr (by decide))).trans ve3
  have ve5 := (vn8 (338) 8 (Or.inr (by decide))).trans ve5
  refine X_aload_n rfl rfl rfl rfl ?_
  refine X_getR (a := 332) rfl rfl rfl ((congrFun V.1 338).trans s_338) rfl ((V.2.2.1 0 (by decide)).trans r_338_0) ?_
  refine Y_callV (as := []) (st := []) rfl rfl rfl (by decide) rfl (Nat.le_of_ble_eq_true rfl) (by decide) (Nat.le_of_ble_eq_true rfl) rfl ((congrFun V.1 332).trans s_332) (by decide) (C_X10_cut V  ) ?_
  rintro _ g ⟨rfl, V, hq, hk⟩
  have hG := hq.trans hG
  have hK := hk.trans hK
  refine X_aload_n rfl rfl rfl rfl ?_
  refine X_iconst (v := (-1 : Int32)) rfl rfl rfl ?_
  refine S_putI (I := Inv _) rfl rfl rfl ((congrFun V.1 338).trans s_338) rfl rfl rfl rfl (Inv_putI V (Nat.le_of_ble_eq_true rfl) (Or.inl (by decide)) (Q_17_2 rk_338 (by decide))) (fun g V ve10 vn11 hq => ?_)
  have hG := hq.trans hG
  have hK := (vn11 1 5 (Or.inl (by decide))).trans hK
  refine X_aload_n rfl rfl rfl rfl ?_
  refine Y_callV (as := []) (st := []) rfl rfl rfl (by decide) rfl (Nat.le_of_ble_eq_true rfl) (by decide) (Nat.le_of_ble_eq_true rfl) rfl ((congrFun V.1 338).trans s_338) (by decide) (C_X8_next V hu ((congrFun (congrFun hG 338) 1).trans hTt)  ) ?_
  rintro _ g ⟨rfl, V, hq, hk⟩
  have hG := hq.trans hG
  have hK := hk.trans hK
  refine X_iconst (v := (0 : Int32)) rfl rfl rfl ?_
  refine X_istore_n (i := 2) (ls' := [some (.ref 338), some (.ref (292 + 10 * u)), some (.int (0 : Int32))]) rfl rfl rfl (Nat.le_of_ble_eq_true rfl) rfl ?_
  exact (C_X8_read_338_T_all (((301 - 0) * 1 + 0) + 1 : Int).toNat) _ hu V hG hK hTt (0 : Int32) 0 (show (0 : Int32).toInt = 0 from rfl) (by omega)    (by omega)
set_option maxRecDepth 10000 in
set_option maxHeartbeats 40000000 in
theorem C_X12_text {P : Par} {g : LH} {d : Nat}  (V : Inv P g)    : LW 131 (d + 77) 0 0 0 (lEnt (mL 131) [.ref 0]) [] g (fun v g' => ∃ r : Int32, v = some (.int r) ∧ (-1) ≤ r.toInt ∧ r.toInt ≤ 4 ∧ Inv P g') := by
  refine LW_ls (ls' := [some (.ref 0), none]) rfl ?_
  have hG : Gr g = Gr g := rfl
  refine X_aload_n rfl rfl rfl rfl ?_
  refine X_getR (a := 1) rfl rfl rfl ((congrFun V.1 0).trans s_0) rfl ((congrFun (V.2.1 0 (by decide)) 0).trans r_0_0) ?_
  refine S_getI rfl rfl rfl ((congrFun V.1 1).trans s_1) rfl (fun vz1 evz1 => ?_)
  have vf2 := K_13_5 (V.2.2.2.2.1 (1) (5) (Nat.le_of_ble_eq_true rfl)) rk_1
  rw [evz1] at vf2
  refine S_if_lt (tgt := 25) rfl rfl rfl rfl (fun q => absurd q (by omega)) (fun vh3 => ?_)
  refine X_aload_n rfl rfl rfl rfl ?_
  refine X_getR (a := 1) rfl rfl rfl ((congrFun V.1 0).trans s_0) rfl ((congrFun (V.2.1 0 (by decide)) 0).trans r_0_0) ?_
  refine X_getI (v := vz1) rfl rfl rfl ((congrFun V.1 1).trans s_1) rfl evz1 ?_
  refine X_aload_n rfl rfl rfl rfl ?_
  refine X_getR (a := 291) rfl rfl rfl ((congrFun V.1 0).trans s_0) rfl ((congrFun (V.2.1 0 (by decide)) 2).trans r_0_2) ?_
  refine X_alen (t0 := 4) (v := (4 : Int32)) rfl rfl ((congrFun V.1 291).trans s_291) rfl rfl ?_
  refine S_icmp_lt (tgt := 27) rfl rfl rfl rfl (show (4 : Int32).toInt = 4 from rfl) (fun vh4 => ?_) (fun vh4 => ?_)
  · refine X_aload_n rfl rfl rfl rfl ?_
    refine X_getR (a := 338) rfl rfl rfl ((congrFun V.1 0).trans s_0) rfl ((congrFun (V.2.1 0 (by decide)) 4).trans r_0_4) ?_
    refine X_aload_n rfl rfl rfl rfl ?_
    refine X_getR (a := 291) rfl rfl rfl ((congrFun V.1 0).trans s_0) rfl ((congrFun (V.2.1 0 (by decide)) 2).trans r_0_2) ?_
    refine X_aload_n rfl rfl rfl rfl ?_
    refine X_getR (a := 1) rfl rfl rfl ((congrFun V.1 0).trans s_0) rfl ((congrFun (V.2.1 0 (by decide)) 0).trans r_0_0) ?_
    refine X_getI (v := vz1) rfl rfl rfl ((congrFun V.1 1).trans s_1) rfl evz1 ?_
    obtain ⟨u, hu, eu⟩ : ∃ t : Nat, t < 4 ∧ (t : Int) = vz1.toInt := ⟨(vz1.toInt : Int).toNat, by omega, by omega⟩
    refine X_aald (a := 292 + 10 * u) (t0 := 4) rfl rfl ((congrFun V.1 291).trans s_291) rfl (ti_idx (n := 4) rfl (by omega)).1 (by rw [(ti_idx (n := 4) rfl (by omega)).2, show (vz1.toInt : Int).toNat = u by omega]; exact (congrFun (V.2.1 291 (by decide)) u).trans (tx_a u hu)) ?_
    refine Y_callV (as := [.ref (292 + 10 * u)]) (st := []) rfl rfl rfl (by decide) rfl (Nat.le_of_ble_eq_true rfl) (by decide) (Nat.le_of_ble_eq_true rfl) rfl ((congrFun V.1 338).trans s_338) (by decide) (C_X8_read_338_T hu V  ) ?_
    rintro _ g ⟨vr5, rfl, hrvr50, hrvr51, V, hk⟩
    have hG : Gr g = Gr g := rfl
    have evz1 := hk.trans evz1
    refine X_istore_n (i := 1) (ls' := [some (.ref 0), some (.int vr5)]) rfl rfl rfl (Nat.le_of_ble_eq_true rfl) rfl ?_
    refine X_aload_n rfl rfl rfl rfl ?_
    refine X_getR (a := 332) rfl rfl rfl ((congrFun V.1 0).trans s_0) rfl ((congrFun (V.2.1 0 (by decide)) 3).trans r_0_3) ?_
    refine X_iconst (v := (0 : Int32)) rfl rfl rfl ?_
    refine S_putI (I := Inv _) rfl rfl rfl ((congrFun V.1 332).trans s_332) rfl rfl rfl rfl (Inv_putI V (Nat.le_of_ble_eq_true rfl) (Or.inl (by decide)) (Q_16_0 rk_332 (by decide))) (fun g V ve6 vn7 hq => ?_)
    have hG := hq.trans hG
    have evz1 := (vn7 (1) 5 (Or.inl (by decide))).trans evz1
    refine X_iload_n rfl rfl rfl rfl ?_
    refine S_if_ne (tgt := 61) rfl rfl rfl rfl (fun vh8 => ?_) (fun vh8 => ?_)
    · refine X_aload_n rfl rfl rfl rfl ?_
      refine X_getR (a := 1) rfl rfl rfl ((congrFun V.1 0).trans s_0) rfl ((congrFun (V.2.1 0 (by decide)) 0).trans r_0_0) ?_
      refine X_dup rfl rfl rfl ?_
      refine X_getI (v := vz1) rfl rfl rfl ((congrFun V.1 1).trans s_1) rfl evz1 ?_
      refine X_iconst (v := (1 : Int32)) rfl rfl rfl ?_
      refine S_iadd rfl rfl rfl (show (1 : Int32).toInt = 1 from rfl) (by omega) (fun vz9 hvz9 => ?_)
      refine S_putI (I := Inv _) rfl rfl rfl ((congrFun V.1 1).trans s_1) rfl rfl rfl rfl (Inv_putI V (Nat.le_of_ble_eq_true rfl) (Or.inr (by decide)) (Q_13_5 rk_1 (by omega))) (fun g V ve10 vn11 hq => ?_)
      have hG := hq.trans hG
      have ve6 := (vn11 (332) 0 (Or.inl (by decide))).trans ve6
      refine X_aload_n rfl rfl rfl rfl ?_
      refine X_getR (a := 1) rfl rfl rfl ((congrFun V.1 0).trans s_0) rfl ((congrFun (V.2.1 0 (by decide)) 0).trans r_0_0) ?_
      refine X_getI (v := vz9) rfl rfl rfl ((congrFun V.1 1).trans s_1) rfl ve10 ?_
      refine X_iconst (v := (1 : Int32)) rfl rfl rfl ?_
      refine S_isub rfl rfl rfl (show (1 : Int32).toInt = 1 from rfl) (by omega) (fun vz12 hvz12 => ?_)
      have hr := (rfl : vz12.toInt = vz12.toInt)
      exact LW_ireturn (st := []) rfl rfl rfl ⟨_, rfl, by omega, by omega, V⟩
    · refine X_iconst (v := (-1 : Int32)) rfl rfl rfl ?_
      exact LW_ireturn (st := []) rfl rfl rfl ⟨_, rfl, by decide, by decide, V⟩
  · refine X_iconst (v := (-1 : Int32)) rfl rfl rfl ?_
    exact LW_ireturn (st := []) rfl rfl rfl ⟨_, rfl, by decide, by decide, V⟩
set_option maxRecDepth 10000 in
set_option maxHeartbeats 40000000 in
theorem C_X12_fault {P : Par} {g : LH} {d : Nat}  (V : Inv P g) (x1 : Int32) (y1 : Int) (hx1 : x1.toInt = y1)   : LW 132 (d + 3) 0 0 0 (lEnt (mL 132) [.ref 0, .int x1]) [] g (fun v g' => ∃ r : Int32, v = some (.int r) ∧ g = g') := by
  refine LW_ls (ls' := [some (.ref 0), some (.int x1)]) rfl ?_
  refine X_aload_n rfl rfl rfl rfl ?_
  refine X_getR (a := 338) rfl rfl rfl ((congrFun V.1 0).trans s_0) rfl ((congrFun (V.2.1 0 (by decide)) 4).trans r_0_4) ?_
  refine S_getI rfl rfl rfl ((congrFun V.1 338).trans s_338) rfl (fun vz1 evz1 => ?_)
  refine S_if_ne (tgt := 12) rfl rfl rfl rfl (fun vh2 => ?_) (fun vh2 => ?_)
  · refine X_iload_n rfl rfl rfl rfl ?_
    refine S_if_ne (tgt := 26) rfl rfl rfl hx1 (fun vh3 => ?_) (fun vh3 => ?_)
    · refine X_iload_n rfl rfl rfl rfl ?_
      refine X_iconst (v := (1 : Int32)) rfl rfl rfl ?_
      refine S_icmp_ne (tgt := 41) rfl rfl rfl hx1 (show (1 : Int32).toInt = 1 from rfl) (fun vh4 => ?_) (fun vh4 => ?_)
      · refine X_iconst (v := (-1 : Int32)) rfl rfl rfl ?_
        exact LW_ireturn (st := []) rfl rfl rfl ⟨_, rfl, rfl⟩
      · refine X_aload_n rfl rfl rfl rfl ?_
        refine X_getR (a := 338) rfl rfl rfl ((congrFun V.1 0).trans s_0) rfl ((congrFun (V.2.1 0 (by decide)) 4).trans r_0_4) ?_
        refine S_getI rfl rfl rfl ((congrFun V.1 338).trans s_338) rfl (fun vz5 evz5 => ?_)
        refine LW_goto (tgt := 42) rfl rfl ?_
        exact LW_ireturn (st := []) rfl rfl rfl ⟨_, rfl, rfl⟩
    · refine X_aload_n rfl rfl rfl rfl ?_
      refine X_getR (a := 338) rfl rfl rfl ((congrFun V.1 0).trans s_0) rfl ((congrFun (V.2.1 0 (by decide)) 4).trans r_0_4) ?_
      refine S_getI rfl rfl rfl ((congrFun V.1 338).trans s_338) rfl (fun vz6 evz6 => ?_)
      refine LW_goto (tgt := 42) rfl rfl ?_
      exact LW_ireturn (st := []) rfl rfl rfl ⟨_, rfl, rfl⟩
  · refine X_iconst (v := (-1 : Int32)) rfl rfl rfl ?_
    exact LW_ireturn (st := []) rfl rfl rfl ⟨_, rfl, rfl⟩
set_option maxRecDepth 10000 in
set_option maxHeartbeats 40000000 in
theorem C_X12_by {P : Par} {g : LH} {d : Nat}  (V : Inv P g) (x1 : Int32) (y1 : Int) (hx1 : x1.toInt = y1)   : LW 133 (d + 4) 0 0 0 (lEnt (mL 133) [.ref 0, .int x1]) [] g (fun v g' => ∃ r : Int32, v = some (.int r) ∧ 0 ≤ r.toInt ∧ r.toInt ≤ 1 ∧ Inv P g' ∧ Gr g' = Gr g) := by
  refine LW_ls (ls' := [some (.ref 0), some (.int x1)]) rfl ?_
  have hG : Gr g = Gr g := rfl
  refine X_iload_n rfl rfl rfl rfl ?_
  refine X_iconst (v := (-1 : Int32)) rfl rfl rfl ?_
  refine S_icmp_eq (tgt := 15) rfl rfl rfl hx1 (show (-1 : Int32).toInt = -1 from rfl) (fun vh1 => ?_) (fun vh1 => ?_)
  · refine X_aload_n rfl rfl rfl rfl ?_
    refine X_getR (a := 1) rfl rfl rfl ((congrFun V.1 0).trans s_0) rfl ((congrFun (V.2.1 0 (by decide)) 0).trans r_0_0) ?_
    refine X_iload_n rfl rfl rfl rfl ?_
    refine S_putI (I := Inv _) rfl rfl rfl ((congrFun V.1 1).trans s_1) rfl rfl rfl rfl (Inv_putI V (Nat.le_of_ble_eq_true rfl) (Or.inr (by decide)) (Q_13_6 rk_1 (by omega))) (fun g V ve2 vn3 hq => ?_)
    have hG := hq.trans hG
    refine X_iconst (v := (1 : Int32)) rfl rfl rfl ?_
    exact LW_ireturn (st := []) rfl rfl rfl ⟨_, rfl, by decide, by decide, V, hG⟩
  · refine X_aload_n rfl rfl rfl rfl ?_
    refine X_iload_n rfl rfl rfl rfl ?_
    refine X_callV (as := [.int x1]) (st := []) rfl rfl rfl (by decide) rfl (Nat.le_of_ble_eq_true rfl) (by decide) (Nat.le_of_ble_eq_true rfl) rfl ((congrFun V.1 0).trans s_0) (by decide) ?_
    refine LW_ls (ls' := [some (.ref 0), some (.int x1)]) rfl ?_
    refine X_iload_n rfl rfl rfl rfl ?_
    refine S_if_lt (tgt := 28) rfl rfl rfl hx1 (fun vh4 => ?_) (fun vh4 => ?_)
    · refine X_iconst (v := (0 : Int32)) rfl rfl rfl ?_
      refine LW_ireturn (st := []) rfl rfl rfl ?_
      refine S_if_ne (tgt := 15) rfl rfl rfl (show (0 : Int32).toInt = 0 from rfl) (fun q => absurd q (by omega)) (fun vh5 => ?_)
      refine X_iconst (v := (0 : Int32)) rfl rfl rfl ?_
      exact LW_ireturn (st := []) rfl rfl rfl ⟨_, rfl, by decide, by decide, V, hG⟩
    · refine X_iload_n rfl rfl rfl rfl ?_
      refine X_aload_n rfl rfl rfl rfl ?_
      refine X_getR (a := 1) rfl rfl rfl ((congrFun V.1 0).trans s_0) rfl ((congrFun (V.2.1 0 (by decide)) 0).trans r_0_0) ?_
      refine S_getI rfl rfl rfl ((congrFun V.1 1).trans s_1) rfl (fun vz6 evz6 => ?_)
      have vf7 := K_13_5 (V.2.2.2.2.1 (1) (5) (Nat.le_of_ble_eq_true rfl)) rk_1
      rw [evz6] at vf7
      refine S_icmp_ge (tgt := 28) rfl rfl rfl hx1 rfl (fun vh8 => ?_) (fun vh8 => ?_)
      · refine X_iconst (v := (0 : Int32)) rfl rfl rfl ?_
        refine LW_ireturn (st := []) rfl rfl rfl ?_
        refine S_if_ne (tgt := 15) rfl rfl rfl (show (0 : Int32).toInt = 0 from rfl) (fun q => absurd q (by omega)) (fun vh9 => ?_)
        refine X_iconst (v := (0 : Int32)) rfl rfl rfl ?_
        exact LW_ireturn (st := []) rfl rfl rfl ⟨_, rfl, by decide, by decide, V, hG⟩
      · refine X_iload_n rfl rfl rfl rfl ?_
        refine X_aload_n rfl rfl rfl rfl ?_
        refine X_getR (a := 291) rfl rfl rfl ((congrFun V.1 0).trans s_0) rfl ((congrFun (V.2.1 0 (by decide)) 2).trans r_0_2) ?_
        refine X_alen (t0 := 4) (v := (4 : Int32)) rfl rfl ((congrFun V.1 291).trans s_291) rfl rfl ?_
        refine S_icmp_ge (tgt := 28) rfl rfl rfl hx1 (show (4 : Int32).toInt = 4 from rfl) (fun q => absurd q (by omega)) (fun vh10 => ?_)
        refine X_iconst (v := (1 : Int32)) rfl rfl rfl ?_
        refine LW_goto (tgt := 29) rfl rfl ?_
        refine LW_ireturn (st := []) rfl rfl rfl ?_
        refine S_if_ne (tgt := 15) rfl rfl rfl (show (1 : Int32).toInt = 1 from rfl) (fun vh11 => ?_) (fun q => absurd q (by omega))
        refine X_aload_n rfl rfl rfl rfl ?_
        refine X_getR (a := 1) rfl rfl rfl ((congrFun V.1 0).trans s_0) rfl ((congrFun (V.2.1 0 (by decide)) 0).trans r_0_0) ?_
        refine X_iload_n rfl rfl rfl rfl ?_
        refine S_putI (I := Inv _) rfl rfl rfl ((congrFun V.1 1).trans s_1) rfl rfl rfl rfl (Inv_putI V (Nat.le_of_ble_eq_true rfl) (Or.inr (by decide)) (Q_13_6 rk_1 (by omega))) (fun g V ve12 vn13 hq => ?_)
        have hG := hq.trans hG
        have evz6 := (vn13 (1) 5 (Or.inr (by decide))).trans evz6
        refine X_iconst (v := (1 : Int32)) rfl rfl rfl ?_
        exact LW_ireturn (st := []) rfl rfl rfl ⟨_, rfl, by decide, by decide, V, hG⟩
set_option maxRecDepth 10000 in
set_option maxHeartbeats 40000000 in
theorem C_X9_outs {P : Par} {g : LH} {d : Nat}  (V : Inv P g)    : LW 107 (d + 7) 0 0 0 (lEnt (mL 107) [.ref 10]) [] g (fun v g' => ∃ r : Int32, v = some (.int r) ∧ 0 ≤ r.toInt ∧ r.toInt ≤ 63 ∧ g = g') := by
  refine LW_ls (ls' := [some (.ref 10)]) rfl ?_
  refine X_aload_n rfl rfl rfl rfl ?_
  refine S_getI rfl rfl rfl ((congrFun V.1 10).trans s_10) rfl (fun vz1 evz1 => ?_)
  refine Y_callS (as := [.int vz1]) (st := []) rfl rfl rfl (by decide) rfl (Nat.le_of_ble_eq_true rfl) (by decide) (Nat.le_of_ble_eq_true rfl) rfl (C_J6_bitCount_0f7a4 V vz1 vz1.toInt rfl ) ?_
  rintro _ g' ⟨vr2, rfl, hrvr20, hrvr21, hgg⟩
  subst hgg
  have hr := (rfl : vr2.toInt = vr2.toInt)
  exact LW_ireturn (st := []) rfl rfl rfl ⟨_, rfl, by omega, by omega, rfl⟩
set_option maxRecDepth 10000 in
set_option maxHeartbeats 40000000 in
theorem C_X9_move_12 {P : Par} {g g0 : LH} {d n : Nat}  (V : Inv P g) (hG : Gr g = Gr g0) (x1 : Int32) (y1 : Int) (hx1 : x1.toInt = y1) (x2 : Int32) (y2 : Int) (hx2 : x2.toInt = y2) (hf2 : 0 ≤ y2 ∧ y2 ≤ 26)  (hmu : (26 - y2) * 1 + 0 < (n : Int) + 1) (ih12 : ∀ (g : LH) (V : Inv P g) (hG : Gr g = Gr g0) (x1 : Int32) (y1 : Int) (hx1 : x1.toInt = y1) (x2 : Int32) (y2 : Int) (hx2 : x2.toInt = y2) (hf2 : 0 ≤ y2 ∧ y2 ≤ 26) , (26 - y2) * 1 + 0 < (n : Int) → LW 109 (d + 3) 0 0 12 [some (.ref 10), some (.int x1), some (.int x2)] [] g (fun v g' => v = none ∧ Inv P g' ∧ Gr g' = Gr g0)) : LW 109 (d + 3) 0 0 12 [some (.ref 10), some (.int x1), some (.int x2)] [] g (fun v g' => v = none ∧ Inv P g' ∧ Gr g' = Gr g0) := by
  refine X_iload_n rfl rfl rfl rfl ?_
  refine X_bipush (v := (26 : Int32)) rfl rfl rfl ?_
  refine S_icmp_ge (tgt := 39) rfl rfl rfl hx2 (show (26 : Int32).toInt = 26 from rfl) (fun vh1 => ?_) (fun vh1 => ?_)
  · exact LW_return (st := []) rfl rfl ⟨rfl, V, hG⟩
  · refine X_iload_n rfl rfl rfl rfl ?_
    refine X_iload_n rfl rfl rfl rfl ?_
    refine S_ishrT rfl rfl (fun vz2 => ?_)
    refine X_iconst (v := (1 : Int32)) rfl rfl rfl ?_
    refine S_iandR (k := 1) rfl rfl rfl (fun vz3 hvz3 => ?_)
    refine S_if_eq (tgt := 33) rfl rfl rfl rfl (fun vh4 => ?_) (fun vh4 => ?_)
    · refine S_iinc (c := 1) rfl rfl rfl hx2 rfl (by omega) (fun vz5 hvz5 => ?_)
      refine LW_ls (ls' := [some (.ref 10), some (.int x1), some (.int vz5)]) rfl ?_
      refine LW_goto (tgt := 12) rfl rfl ?_
      exact ih12 _ V hG x1 y1 hx1 vz5 vz5.toInt rfl (by omega)    (by omega)
    · refine X_aload_n rfl rfl rfl rfl ?_
      refine X_getR (a := 12) rfl rfl rfl ((congrFun V.1 10).trans s_10) rfl ((congrFun (V.2.1 10 (by decide)) 5).trans r_10_5) ?_
      refine X_iload_n rfl rfl rfl rfl ?_
      refine X_iconst (v := (0 : Int32)) rfl rfl rfl ?_
      refine S_iast (I := Inv _) rfl rfl ((congrFun V.1 12).trans s_12) hx2 (by omega) (Inv_putI V (Nat.le_of_ble_eq_true rfl) (Or.inl (by decide)) (Q_0 rk_12)) (fun g V ve6 vn7 hq => ?_)
      have hG := hq.trans hG
      refine S_iinc (c := 1) rfl rfl rfl hx2 rfl (by omega) (fun vz8 hvz8 => ?_)
      refine LW_ls (ls' := [some (.ref 10), some (.int x1), some (.int vz8)]) rfl ?_
      refine LW_goto (tgt := 12) rfl rfl ?_
      exact ih12 _ V hG x1 y1 hx1 vz8 vz8.toInt rfl (by omega)    (by omega)
theorem C_X9_move_all {P : Par} {g0 : LH} {d : Nat}  : ∀ n : Nat, (∀ (g : LH) (V : Inv P g) (hG : Gr g = Gr g0) (x1 : Int32) (y1 : Int) (hx1 : x1.toInt = y1) (x2 : Int32) (y2 : Int) (hx2 : x2.toInt = y2) (hf2 : 0 ≤ y2 ∧ y2 ≤ 26) , (26 - y2) * 1 + 0 < (n : Int) → LW 109 (d + 3) 0 0 12 [some (.ref 10), some (.int x1), some (.int x2)] [] g (fun v g' => v = none ∧ Inv P g' ∧ Gr g' = Gr g0)) := by
  intro n
  induction n with
  | zero => exact fun g V hG x1 y1 hx1 x2 y2 hx2 hf2 hmu => absurd hmu (by omega)
  | succ n ih => exact fun g V hG x1 y1 hx1 x2 y2 hx2 hf2 hmu => C_X9_move_12  V hG x1 y1 hx1 x2 y2 hx2 hf2 (by omega) ih
set_option maxRecDepth 10000 in
set_option maxHeartbeats 40000000 in
theorem C_X9_move {P : Par} {g : LH} {d : Nat}  (V : Inv P g) (x1 : Int32) (y1 : Int) (hx1 : x1.toInt = y1)   : LW 109 (d + 3) 0 0 0 (lEnt (mL 109) [.ref 10, .int x1]) [] g (fun v g' => v = none ∧ Inv P g' ∧ Gr g' = Gr g) := by
  refine LW_ls (ls' := [some (.ref 10), some (.int x1), none]) rfl ?_
  have hG : Gr g = Gr g := rfl
  refine X_aload_n rfl rfl rfl rfl ?_
  refine X_dup rfl rfl rfl ?_
  refine S_getI rfl rfl rfl ((congrFun V.1 10).trans s_10) rfl (fun vz1 evz1 => ?_)
  refine X_iload_n rfl rfl rfl rfl ?_
  refine S_ixorT rfl rfl (fun vz2 => ?_)
  refine S_putI (I := Inv _) rfl rfl rfl ((congrFun V.1 10).trans s_10) rfl rfl rfl rfl (Inv_putI V (Nat.le_of_ble_eq_true rfl) (Or.inl (by decide)) (Q_11_0 rk_10)) (fun g V ve3 vn4 hq => ?_)
  have hG := hq.trans hG
  refine X_iconst (v := (0 : Int32)) rfl rfl rfl ?_
  refine X_istore_n (i := 2) (ls' := [some (.ref 10), some (.int x1), some (.int (0 : Int32))]) rfl rfl rfl (Nat.le_of_ble_eq_true rfl) rfl ?_
  exact (C_X9_move_all (((26 - 0) * 1 + 0) + 1 : Int).toNat) _ V hG x1 y1 hx1 (0 : Int32) 0 (show (0 : Int32).toInt = 0 from rfl) (by omega)    (by omega)
set_option maxRecDepth 10000 in
set_option maxHeartbeats 40000000 in
theorem C_X4_ruling {P : Par} {g : LH} {d : Nat}  (V : Inv P g) (x1 : Int32) (y1 : Int) (hx1 : x1.toInt = y1) (hf1 : 0 ≤ y1 ∧ y1 ≤ 3)   : LW 33 (d + 4) 0 0 0 (lEnt (mL 33) [.ref 339, .int x1]) [] g (fun v g' => (v = some .null ∨ ∃ u, u < 4 ∧ v = some (.ref (292 + 10 * u)) ∧ ¬ (Gi g (299 + 10 * u) (y1).toNat).toInt = -1) ∧ g = g') := by
  refine LW_ls (ls' := [some (.ref 339), some (.int x1), none, none]) rfl ?_
  refine X_aload_n rfl rfl rfl rfl ?_
  refine X_getR (a := 1) rfl rfl rfl ((congrFun V.1 339).trans s_339) rfl ((congrFun (V.2.1 339 (by decide)) 0).trans r_339_0) ?_
  refine S_getI rfl rfl rfl ((congrFun V.1 1).trans s_1) rfl (fun vz1 evz1 => ?_)
  have vf2 := K_13_6 (V.2.2.2.2.1 (1) (6) (Nat.le_of_ble_eq_true rfl)) rk_1
  rw [evz1] at vf2
  refine X_istore_n (i := 2) (ls' := [some (.ref 339), some (.int x1), some (.int vz1), none]) rfl rfl rfl (Nat.le_of_ble_eq_true rfl) rfl ?_
  refine X_iload_n rfl rfl rfl rfl ?_
  refine S_if_lt (tgt := 38) rfl rfl rfl rfl (fun vh3 => ?_) (fun vh3 => ?_)
  · refine X_iconst (v := (0 : Int32)) rfl rfl rfl ?_
    refine X_istore_n (i := 3) (ls' := [some (.ref 339), some (.int x1), some (.int vz1), some (.int (0 : Int32))]) rfl rfl rfl (Nat.le_of_ble_eq_true rfl) rfl ?_
    refine X_iload_n rfl rfl rfl rfl ?_
    refine S_if_eq (tgt := 53) rfl rfl rfl (show (0 : Int32).toInt = 0 from rfl) (fun vh4 => ?_) (fun q => absurd q (by omega))
    refine X_null rfl rfl ?_
    exact LW_areturnN (st := []) rfl rfl (Or.inl ⟨_, rfl⟩) ⟨Or.inl rfl, rfl⟩
  · refine X_iload_n rfl rfl rfl rfl ?_
    refine X_aload_n rfl rfl rfl rfl ?_
    refine X_getR (a := 291) rfl rfl rfl ((congrFun V.1 339).trans s_339) rfl ((congrFun (V.2.1 339 (by decide)) 1).trans r_339_1) ?_
    refine X_alen (t0 := 4) (v := (4 : Int32)) rfl rfl ((congrFun V.1 291).trans s_291) rfl rfl ?_
    refine S_icmp_ge (tgt := 38) rfl rfl rfl rfl (show (4 : Int32).toInt = 4 from rfl) (fun q => absurd q (by omega)) (fun vh5 => ?_)
    refine X_aload_n rfl rfl rfl rfl ?_
    refine X_getR (a := 291) rfl rfl rfl ((congrFun V.1 339).trans s_339) rfl ((congrFun (V.2.1 339 (by decide)) 1).trans r_339_1) ?_
    refine X_iload_n rfl rfl rfl rfl ?_
    obtain ⟨u, hu, eu⟩ : ∃ t : Nat, t < 4 ∧ (t : Int) = vz1.toInt := ⟨(vz1.toInt : Int).toNat, by omega, by omega⟩
    refine X_aald (a := 292 + 10 * u) (t0 := 4) rfl rfl ((congrFun V.1 291).trans s_291) rfl (ti_idx (n := 4) rfl (by omega)).1 (by rw [(ti_idx (n := 4) rfl (by omega)).2, show (vz1.toInt : Int).toNat = u by omega]; exact (congrFun (V.2.1 291 (by decide)) u).trans (tx_a u hu)) ?_
    refine X_iload_n rfl rfl rfl rfl ?_
    refine X_callV (as := [.int x1]) (st := []) rfl rfl rfl (by decide) rfl (Nat.le_of_ble_eq_true rfl) (by decide) (Nat.le_of_ble_eq_true rfl) rfl ((congrFun V.1 _).trans (tx_s u hu)) (by decide) ?_
    refine LW_ls (ls' := [some (.ref (292 + 10 * u)), some (.int x1)]) rfl ?_
    refine X_iload_n rfl rfl rfl rfl ?_
    refine S_if_lt (tgt := 23) rfl rfl rfl hx1 (fun q => absurd q (by omega)) (fun vh6 => ?_)
    refine X_iload_n rfl rfl rfl rfl ?_
    refine X_iconst (v := (4 : Int32)) rfl rfl rfl ?_
    refine S_icmp_ge (tgt := 23) rfl rfl rfl hx1 (show (4 : Int32).toInt = 4 from rfl) (fun q => absurd q (by omega)) (fun vh7 => ?_)
    refine X_aload_n rfl rfl rfl rfl ?_
    refine X_getR (a := 299 + 10 * u) rfl rfl rfl ((congrFun V.1 _).trans (tx_s u hu)) rfl ((congrFun (V.2.1 (292 + 10 * u) (by omega)) 7).trans (tx_r7 u hu)) ?_
    refine X_iload_n rfl rfl rfl rfl ?_
    refine S_iald rfl rfl ((congrFun V.1 _).trans (tx_s7 u hu)) hx1 (by omega) (fun vz8 evz8 => ?_)
    have vf9 := K_6 (V.2.2.2.2.1 (299 + 10 * u) ((y1 : Int).toNat) (by omega)) (tx_k7 u hu)
    rw [evz8] at vf9
    refine X_iconst (v := (-1 : Int32)) rfl rfl rfl ?_
    refine S_icmp_eq (tgt := 23) rfl rfl rfl rfl (show (-1 : Int32).toInt = -1 from rfl) (fun vh10 => ?_) (fun vh10 => ?_)
    · refine X_iconst (v := (0 : Int32)) rfl rfl rfl ?_
      refine LW_ireturn (st := []) rfl rfl rfl ?_
      refine S_if_eq (tgt := 38) rfl rfl rfl (show (0 : Int32).toInt = 0 from rfl) (fun vh11 => ?_) (fun q => absurd q (by omega))
      refine X_iconst (v := (0 : Int32)) rfl rfl rfl ?_
      refine X_istore_n (i := 3) (ls' := [some (.ref 339), some (.int x1), some (.int vz1), some (.int (0 : Int32))]) rfl rfl rfl (Nat.le_of_ble_eq_true rfl) rfl ?_
      refine X_iload_n rfl rfl rfl rfl ?_
      refine S_if_eq (tgt := 53) rfl rfl rfl (show (0 : Int32).toInt = 0 from rfl) (fun vh12 => ?_) (fun q => absurd q (by omega))
      refine X_null rfl rfl ?_
      exact LW_areturnN (st := []) rfl rfl (Or.inl ⟨_, rfl⟩) ⟨Or.inl rfl, rfl⟩
    · refine X_iconst (v := (1 : Int32)) rfl rfl rfl ?_
      refine LW_goto (tgt := 24) rfl rfl ?_
      refine LW_ireturn (st := []) rfl rfl rfl ?_
      refine S_if_eq (tgt := 38) rfl rfl rfl (show (1 : Int32).toInt = 1 from rfl) (fun q => absurd q (by omega)) (fun vh13 => ?_)
      refine X_iconst (v := (1 : Int32)) rfl rfl rfl ?_
      refine LW_goto (tgt := 39) rfl rfl ?_
      refine X_istore_n (i := 3) (ls' := [some (.ref 339), some (.int x1), some (.int vz1), some (.int (1 : Int32))]) rfl rfl rfl (Nat.le_of_ble_eq_true rfl) rfl ?_
      refine X_iload_n rfl rfl rfl rfl ?_
      refine S_if_eq (tgt := 53) rfl rfl rfl (show (1 : Int32).toInt = 1 from rfl) (fun q => absurd q (by omega)) (fun vh14 => ?_)
      refine X_aload_n rfl rfl rfl rfl ?_
      refine X_getR (a := 291) rfl rfl rfl ((congrFun V.1 339).trans s_339) rfl ((congrFun (V.2.1 339 (by decide)) 1).trans r_339_1) ?_
      refine X_iload_n rfl rfl rfl rfl ?_
      refine X_aald (a := 292 + 10 * u) (t0 := 4) rfl rfl ((congrFun V.1 291).trans s_291) rfl (ti_idx (n := 4) rfl (by omega)).1 (by rw [(ti_idx (n := 4) rfl (by omega)).2, show (vz1.toInt : Int).toNat = u by omega]; exact (congrFun (V.2.1 291 (by decide)) u).trans (tx_a u hu)) ?_
      refine LW_goto (tgt := 54) rfl rfl ?_
      exact LW_areturn (st := []) rfl rfl (Or.inl ⟨_, rfl⟩) ⟨Or.inr ⟨u, hu, rfl, (by rw [evz8]; omega)⟩, rfl⟩
set_option maxRecDepth 10000 in
set_option maxHeartbeats 40000000 in
theorem C_X4_outcome {P : Par} {g : LH} {d : Nat}  (V : Inv P g) (x0 : Int32) (y0 : Int) (hx0 : x0.toInt = y0) (hf0 : 20000 ≤ y0 ∧ y0 ≤ 20012) (x1 : Int64) (x3 : Int64)   : LW 36 (d + 3) 0 0 0 (lEnt (mL 36) [.int x0, .long x1, .long x3]) [] g (fun v g' => ∃ r : Int64, v = some (.long r) ∧ g = g') := by
  refine LW_ls (ls' := [some (.int x0), some (.long x1), none, some (.long x3), none]) rfl ?_
  refine X_iload_n rfl rfl rfl rfl ?_
  by_cases vh1 : y0 = 20000
  · refine S_tableIn (tgt := 60) (c := 20000) rfl (hx0.trans vh1) (by decide) (by decide) rfl rfl ?_
    refine X_lload_n rfl rfl rfl rfl ?_
    refine X_lload_n rfl rfl rfl rfl ?_
    refine S_laddT rfl rfl (fun vz2 => ?_)
    exact LW_lreturn (st := []) rfl rfl ⟨_, rfl, rfl⟩
  by_cases vh3 : y0 = 20001
  · refine S_tableIn (tgt := 64) (c := 20001) rfl (hx0.trans vh3) (by decide) (by decide) rfl rfl ?_
    refine X_lload_n rfl rfl rfl rfl ?_
    refine X_lload_n rfl rfl rfl rfl ?_
    refine S_lsubT rfl rfl (fun vz4 => ?_)
    exact LW_lreturn (st := []) rfl rfl ⟨_, rfl, rfl⟩
  by_cases vh5 : y0 = 20002
  · refine S_tableIn (tgt := 68) (c := 20002) rfl (hx0.trans vh5) (by decide) (by decide) rfl rfl ?_
    refine X_lload_n rfl rfl rfl rfl ?_
    refine X_lload_n rfl rfl rfl rfl ?_
    refine S_lmulT rfl rfl (fun vz6 => ?_)
    exact LW_lreturn (st := []) rfl rfl ⟨_, rfl, rfl⟩
  by_cases vh7 : y0 = 20003
  · refine S_tableIn (tgt := 72) (c := 20003) rfl (hx0.trans vh7) (by decide) (by decide) rfl rfl ?_
    refine X_lload_n rfl rfl rfl rfl ?_
    refine X_lconst (v := (0 : Int64)) rfl rfl rfl ?_
    refine S_lcmp rfl rfl (fun vz8 hvz8 => ?_)
    refine S_if_ne (tgt := 82) rfl rfl rfl rfl (fun vh9 => ?_) (fun vh9 => ?_)
    · refine X_lload_n rfl rfl rfl rfl ?_
      refine X_lload_n rfl rfl rfl rfl ?_
      refine S_ldivT rfl rfl (fun q => absurd (hvz8.1.mpr q) (by omega)) (fun vz10 => ?_)
      exact LW_lreturn (st := []) rfl rfl ⟨_, rfl, rfl⟩
    · refine X_lconst (v := (0 : Int64)) rfl rfl rfl ?_
      refine LW_goto (tgt := 85) rfl rfl ?_
      exact LW_lreturn (st := []) rfl rfl ⟨_, rfl, rfl⟩
  by_cases vh11 : y0 = 20004
  · refine S_tableIn (tgt := 86) (c := 20004) rfl (hx0.trans vh11) (by decide) (by decide) rfl rfl ?_
    refine X_lload_n rfl rfl rfl rfl ?_
    refine X_lload_n rfl rfl rfl rfl ?_
    refine S_lcmp rfl rfl (fun vz12 hvz12 => ?_)
    refine S_if_ge (tgt := 96) rfl rfl rfl rfl (fun vh13 => ?_) (fun vh13 => ?_)
    · refine X_lconst (v := (0 : Int64)) rfl rfl rfl ?_
      exact LW_lreturn (st := []) rfl rfl ⟨_, rfl, rfl⟩
    · refine X_lconst (v := (1 : Int64)) rfl rfl rfl ?_
      refine LW_goto (tgt := 97) rfl rfl ?_
      exact LW_lreturn (st := []) rfl rfl ⟨_, rfl, rfl⟩
  by_cases vh14 : y0 = 20005
  · refine S_tableIn (tgt := 98) (c := 20005) rfl (hx0.trans vh14) (by decide) (by decide) rfl rfl ?_
    refine X_lload_n rfl rfl rfl rfl ?_
    refine X_lload_n rfl rfl rfl rfl ?_
    refine S_lcmp rfl rfl (fun vz15 hvz15 => ?_)
    refine S_if_gt (tgt := 108) rfl rfl rfl rfl (fun vh16 => ?_) (fun vh16 => ?_)
    · refine X_lconst (v := (0 : Int64)) rfl rfl rfl ?_
      exact LW_lreturn (st := []) rfl rfl ⟨_, rfl, rfl⟩
    · refine X_lconst (v := (1 : Int64)) rfl rfl rfl ?_
      refine LW_goto (tgt := 109) rfl rfl ?_
      exact LW_lreturn (st := []) rfl rfl ⟨_, rfl, rfl⟩
  by_cases vh17 : y0 = 20006
  · refine S_tableIn (tgt := 110) (c := 20006) rfl (hx0.trans vh17) (by decide) (by decide) rfl rfl ?_
    refine X_lload_n rfl rfl rfl rfl ?_
    refine X_lload_n rfl rfl rfl rfl ?_
    refine S_lcmp rfl rfl (fun vz18 hvz18 => ?_)
    refine S_if_le (tgt := 120) rfl rfl rfl rfl (fun vh19 => ?_) (fun vh19 => ?_)
    · refine X_lconst (v := (0 : Int64)) rfl rfl rfl ?_
      exact LW_lreturn (st := []) rfl rfl ⟨_, rfl, rfl⟩
    · refine X_lconst (v := (1 : Int64)) rfl rfl rfl ?_
      refine LW_goto (tgt := 121) rfl rfl ?_
      exact LW_lreturn (st := []) rfl rfl ⟨_, rfl, rfl⟩
  by_cases vh20 : y0 = 20007
  · refine S_tableIn (tgt := 122) (c := 20007) rfl (hx0.trans vh20) (by decide) (by decide) rfl rfl ?_
    refine X_lload_n rfl rfl rfl rfl ?_
    refine X_lload_n rfl rfl rfl rfl ?_
    refine S_lcmp rfl rfl (fun vz21 hvz21 => ?_)
    refine S_if_lt (tgt := 132) rfl rfl rfl rfl (fun vh22 => ?_) (fun vh22 => ?_)
    · refine X_lconst (v := (0 : Int64)) rfl rfl rfl ?_
      exact LW_lreturn (st := []) rfl rfl ⟨_, rfl, rfl⟩
    · refine X_lconst (v := (1 : Int64)) rfl rfl rfl ?_
      refine LW_goto (tgt := 133) rfl rfl ?_
      exact LW_lreturn (st := []) rfl rfl ⟨_, rfl, rfl⟩
  by_cases vh23 : y0 = 20008
  · refine S_tableIn (tgt := 134) (c := 20008) rfl (hx0.trans vh23) (by decide) (by decide) rfl rfl ?_
    refine X_lload_n rfl rfl rfl rfl ?_
    refine X_lload_n rfl rfl rfl rfl ?_
    refine S_lcmp rfl rfl (fun vz24 hvz24 => ?_)
    refine S_if_ne (tgt := 144) rfl rfl rfl rfl (fun vh25 => ?_) (fun vh25 => ?_)
    · refine X_lconst (v := (0 : Int64)) rfl rfl rfl ?_
      exact LW_lreturn (st := []) rfl rfl ⟨_, rfl, rfl⟩
    · refine X_lconst (v := (1 : Int64)) rfl rfl rfl ?_
      refine LW_goto (tgt := 145) rfl rfl ?_
      exact LW_lreturn (st := []) rfl rfl ⟨_, rfl, rfl⟩
  by_cases vh26 : y0 = 20009
  · refine S_tableIn (tgt := 146) (c := 20009) rfl (hx0.trans vh26) (by decide) (by decide) rfl rfl ?_
    refine X_lload_n rfl rfl rfl rfl ?_
    refine X_lload_n rfl rfl rfl rfl ?_
    refine S_lcmp rfl rfl (fun vz27 hvz27 => ?_)
    refine S_if_eq (tgt := 156) rfl rfl rfl rfl (fun vh28 => ?_) (fun vh28 => ?_)
    · refine X_lconst (v := (0 : Int64)) rfl rfl rfl ?_
      exact LW_lreturn (st := []) rfl rfl ⟨_, rfl, rfl⟩
    · refine X_lconst (v := (1 : Int64)) rfl rfl rfl ?_
      refine LW_goto (tgt := 157) rfl rfl ?_
      exact LW_lreturn (st := []) rfl rfl ⟨_, rfl, rfl⟩
  by_cases vh29 : y0 = 20010
  · refine S_tableIn (tgt := 158) (c := 20010) rfl (hx0.trans vh29) (by decide) (by decide) rfl rfl ?_
    refine X_lload_n rfl rfl rfl rfl ?_
    refine X_lload_n rfl rfl rfl rfl ?_
    refine S_landT rfl rfl (fun vz30 => ?_)
    exact LW_lreturn (st := []) rfl rfl ⟨_, rfl, rfl⟩
  refine S_tableOut (tgt := 162) rfl hx0 (by omega) rfl ?_
  refine X_lload_n rfl rfl rfl rfl ?_
  refine X_lload_n rfl rfl rfl rfl ?_
  refine S_lorT rfl rfl (fun vz31 => ?_)
  exact LW_lreturn (st := []) rfl rfl ⟨_, rfl, rfl⟩
set_option maxRecDepth 10000 in
set_option maxHeartbeats 40000000 in
theorem C_X4_limited {P : Par} {g : LH} {d : Nat}  (V : Inv P g) (x0 : Int64)   : LW 37 (d + 3) 0 0 0 (lEnt (mL 37) [.long x0]) [] g (fun v g' => ∃ r : Int32, v = some (.int r) ∧ g = g') := by
  refine LW_ls (ls' := [some (.long x0), none]) rfl ?_
  refine X_lload_n rfl rfl rfl rfl ?_
  refine X_ldc2 (v := (1000000 : Int64)) rfl rfl rfl ?_
  refine S_lcmp rfl rfl (fun vz1 hvz1 => ?_)
  refine S_if_le (tgt := 13) rfl rfl rfl rfl (fun vh2 => ?_) (fun vh2 => ?_)
  · refine X_lload_n rfl rfl rfl rfl ?_
    refine X_ldc2 (v := (-1000000 : Int64)) rfl rfl rfl ?_
    refine S_lcmp rfl rfl (fun vz3 hvz3 => ?_)
    refine S_if_ge (tgt := 26) rfl rfl rfl rfl (fun vh4 => ?_) (fun vh4 => ?_)
    · refine X_lload_n rfl rfl rfl rfl ?_
      refine S_l2iT rfl rfl (fun vz5 => ?_)
      exact LW_ireturn (st := []) rfl rfl rfl ⟨_, rfl, rfl⟩
    · refine X_ldc (v := (-1000000 : Int32)) rfl rfl rfl ?_
      refine LW_goto (tgt := 28) rfl rfl ?_
      exact LW_ireturn (st := []) rfl rfl rfl ⟨_, rfl, rfl⟩
  · refine X_ldc (v := (1000000 : Int32)) rfl rfl rfl ?_
    refine LW_goto (tgt := 28) rfl rfl ?_
    exact LW_ireturn (st := []) rfl rfl rfl ⟨_, rfl, rfl⟩
set_option maxRecDepth 10000 in
set_option maxHeartbeats 40000000 in
theorem C_X4_run_339_T_10 {P : Par} {g g0 : LH} {d n : Nat}  {u : Nat} (hu : u < 4) (V : Inv P g) (hG : Gr g = Gr g0) (x2 : Int32) (y2 : Int) (hx2 : x2.toInt = y2) (hf2 : 0 ≤ y2 ∧ y2 ≤ 3) (x3 : Int32) (y3 : Int) (hx3 : x3.toInt = y3) (hf3 : 0 ≤ y3 ∧ y3 ≤ 64) (x4 : Int32) (y4 : Int) (hx4 : x4.toInt = y4) (hf4 : 0 ≤ y4 ∧ y4 ≤ 300) (o5 : Option Value)  (hmu : (300 - y4) * 1 + 0 < (n : Int) + 1) (ih10 : ∀ (g : LH) {u : Nat} (hu : u < 4) (V : Inv P g) (hG : Gr g = Gr g0) (x2 : Int32) (y2 : Int) (hx2 : x2.toInt = y2) (hf2 : 0 ≤ y2 ∧ y2 ≤ 3) (x3 : Int32) (y3 : Int) (hx3 : x3.toInt = y3) (hf3 : 0 ≤ y3 ∧ y3 ≤ 64) (x4 : Int32) (y4 : Int) (hx4 : x4.toInt = y4) (hf4 : 0 ≤ y4 ∧ y4 ≤ 300) (o5 : Option Value) , (300 - y4) * 1 + 0 < (n : Int) → LW 35 (d + 7) 0 0 10 [some (.ref 339), some (.ref (292 + 10 * u)), some (.int x2), some (.int x3), some (.int x4), o5] [] g (fun v g' => ∃ r : Int32, v = some (.int r) ∧ Inv P g' ∧ Gr g' = Gr g0)) : LW 35 (d + 7) 0 0 10 [some (.ref 339), some (.ref (292 + 10 * u)), some (.int x2), some (.int x3), some (.int x4), o5] [] g (fun v g' => ∃ r : Int32, v = some (.int r) ∧ Inv P g' ∧ Gr g' = Gr g0) := by
  refine X_iload rfl rfl rfl ?_
  refine X_aload_n rfl rfl rfl rfl ?_
  refine X_getR (a := 300 + 10 * u) rfl rfl rfl ((congrFun V.1 _).trans (tx_s u hu)) rfl ((congrFun (V.2.1 (292 + 10 * u) (by omega)) 8).trans (tx_r8 u hu)) ?_
  refine X_iload_n rfl rfl rfl rfl ?_
  refine S_iald rfl rfl ((congrFun V.1 _).trans (tx_s8 u hu)) hx2 (by omega) (fun vz1 evz1 => ?_)
  have vf2 := K_6 (V.2.2.2.2.1 (300 + 10 * u) ((y2 : Int).toNat) (by omega)) (tx_k8 u hu)
  rw [evz1] at vf2
  refine S_icmp_ge (tgt := 192) rfl rfl rfl hx4 rfl (fun vh3 => ?_) (fun vh3 => ?_)
  · refine X_iload_n rfl rfl rfl rfl ?_
    refine S_if_le (tgt := 207) rfl rfl rfl hx3 (fun vh4 => ?_) (fun vh4 => ?_)
    · refine X_iconst (v := (0 : Int32)) rfl rfl rfl ?_
      exact LW_ireturn (st := []) rfl rfl rfl ⟨_, rfl, V, hG⟩
    · refine X_aload_n rfl rfl rfl rfl ?_
      refine X_getR (a := 341) rfl rfl rfl ((congrFun V.1 339).trans s_339) rfl ((congrFun (V.2.1 339 (by decide)) 3).trans r_339_3) ?_
      refine X_iload_n rfl rfl rfl rfl ?_
      refine X_iconst (v := (1 : Int32)) rfl rfl rfl ?_
      refine S_isub rfl rfl hx3 (show (1 : Int32).toInt = 1 from rfl) (by omega) (fun vz5 hvz5 => ?_)
      refine S_iald rfl rfl ((congrFun V.1 341).trans s_341) rfl (by omega) (fun vz6 evz6 => ?_)
      refine LW_goto (tgt := 208) rfl rfl ?_
      exact LW_ireturn (st := []) rfl rfl rfl ⟨_, rfl, V, hG⟩
  · refine X_aload_n rfl rfl rfl rfl ?_
    refine X_getR (a := 301 + 10 * u) rfl rfl rfl ((congrFun V.1 _).trans (tx_s u hu)) rfl ((congrFun (V.2.1 (292 + 10 * u) (by omega)) 10).trans (tx_r10 u hu)) ?_
    refine X_iload rfl rfl rfl ?_
    refine S_iald rfl rfl ((congrFun V.1 _).trans (tx_s10 u hu)) hx4 (by omega) (fun vz7 evz7 => ?_)
    have vf8 := K_9 (V.2.2.2.2.1 (301 + 10 * u) ((y4 : Int).toNat) (by omega)) (tx_k10 u hu)
    rw [evz7] at vf8
    refine X_istore (i := 5) (ls' := [some (.ref 339), some (.ref (292 + 10 * u)), some (.int x2), some (.int x3), some (.int x4), some (.int vz7)]) rfl rfl (Nat.le_of_ble_eq_true rfl) rfl ?_
    refine X_iload rfl rfl rfl ?_
    refine X_sipush (v := (20000 : Int32)) rfl rfl rfl ?_
    refine S_icmp_ge (tgt := 83) rfl rfl rfl rfl (show (20000 : Int32).toInt = 20000 from rfl) (fun vh9 => ?_) (fun vh9 => ?_)
    · refine X_iload rfl rfl rfl ?_
      refine X_sipush (v := (20012 : Int32)) rfl rfl rfl ?_
      refine S_icmp_eq (tgt := 99) rfl rfl rfl rfl (show (20012 : Int32).toInt = 20012 from rfl) (fun vh10 => ?_) (fun vh10 => ?_)
      · refine X_iload_n rfl rfl rfl rfl ?_
        refine S_if_le (tgt := 186) rfl rfl rfl hx3 (fun vh11 => ?_) (fun vh11 => ?_)
        · refine S_iinc (c := 1) rfl rfl rfl hx4 rfl (by omega) (fun vz12 hvz12 => ?_)
          refine LW_ls (ls' := [some (.ref 339), some (.ref (292 + 10 * u)), some (.int x2), some (.int x3), some (.int vz12), some (.int vz7)]) rfl ?_
          refine LW_goto (tgt := 10) rfl rfl ?_
          exact ih10 _ hu V hG x2 y2 hx2 (by omega) x3 y3 hx3 (by omega) vz12 vz12.toInt rfl (by omega) (some (.int vz7))    (by omega)
        · refine X_aload_n rfl rfl rfl rfl ?_
          refine X_getR (a := 341) rfl rfl rfl ((congrFun V.1 339).trans s_339) rfl ((congrFun (V.2.1 339 (by decide)) 3).trans r_339_3) ?_
          refine X_iload_n rfl rfl rfl rfl ?_
          refine X_iconst (v := (1 : Int32)) rfl rfl rfl ?_
          refine S_isub rfl rfl hx3 (show (1 : Int32).toInt = 1 from rfl) (by omega) (fun vz13 hvz13 => ?_)
          refine X_iload rfl rfl rfl ?_
          refine X_sipush (v := (20012 : Int32)) rfl rfl rfl ?_
          refine S_icmp_ne (tgt := 131) rfl rfl rfl rfl (show (20012 : Int32).toInt = 20012 from rfl) (fun q => absurd q (by omega)) (fun vh14 => ?_)
          refine X_iconst (v := (1 : Int32)) rfl rfl rfl ?_
          refine X_aload_n rfl rfl rfl rfl ?_
          refine X_getR (a := 341) rfl rfl rfl ((congrFun V.1 339).trans s_339) rfl ((congrFun (V.2.1 339 (by decide)) 3).trans r_339_3) ?_
          refine X_iload_n rfl rfl rfl rfl ?_
          refine X_iconst (v := (1 : Int32)) rfl rfl rfl ?_
          refine S_isub rfl rfl hx3 (show (1 : Int32).toInt = 1 from rfl) (by omega) (fun vz15 hvz15 => ?_)
          refine S_iald rfl rfl ((congrFun V.1 341).trans s_341) rfl (by omega) (fun vz16 evz16 => ?_)
          refine S_isubT rfl rfl (fun vz17 => ?_)
          refine LW_goto (tgt := 140) rfl rfl ?_
          refine S_iast (I := Inv _) rfl rfl ((congrFun V.1 341).trans s_341) rfl (by omega) (Inv_putI V (Nat.le_of_ble_eq_true rfl) (Or.inl (by decide)) (Q_0 rk_341)) (fun g V ve18 vn19 hq => ?_)
          have hG := hq.trans hG
          have evz1 := (vn19 (300 + 10 * u) ((y2 : Int).toNat) (Or.inl (by omega))).trans evz1
          have evz7 := (vn19 (301 + 10 * u) ((y4 : Int).toNat) (Or.inl (by omega))).trans evz7
          refine LW_goto (tgt := 186) rfl rfl ?_
          refine S_iinc (c := 1) rfl rfl rfl hx4 rfl (by omega) (fun vz20 hvz20 => ?_)
          refine LW_ls (ls' := [some (.ref 339), some (.ref (292 + 10 * u)), some (.int x2), some (.int x3), some (.int vz20), some (.int vz7)]) rfl ?_
          refine LW_goto (tgt := 10) rfl rfl ?_
          exact ih10 _ hu V hG x2 y2 hx2 (by omega) x3 y3 hx3 (by omega) vz20 vz20.toInt rfl (by omega) (some (.int vz7))    (by omega)
      · refine X_iload rfl rfl rfl ?_
        refine X_sipush (v := (20013 : Int32)) rfl rfl rfl ?_
        refine S_icmp_ne (tgt := 144) rfl rfl rfl rfl (show (20013 : Int32).toInt = 20013 from rfl) (fun vh21 => ?_) (fun vh21 => ?_)
        · refine X_iload_n rfl rfl rfl rfl ?_
          refine X_iconst (v := (1 : Int32)) rfl rfl rfl ?_
          refine S_icmp_le (tgt := 186) rfl rfl rfl hx3 (show (1 : Int32).toInt = 1 from rfl) (fun vh22 => ?_) (fun vh22 => ?_)
          · refine S_iinc (c := 1) rfl rfl rfl hx4 rfl (by omega) (fun vz23 hvz23 => ?_)
            refine LW_ls (ls' := [some (.ref 339), some (.ref (292 + 10 * u)), some (.int x2), some (.int x3), some (.int vz23), some (.int vz7)]) rfl ?_
            refine LW_goto (tgt := 10) rfl rfl ?_
            exact ih10 _ hu V hG x2 y2 hx2 (by omega) x3 y3 hx3 (by omega) vz23 vz23.toInt rfl (by omega) (some (.int vz7))    (by omega)
          · refine X_aload_n rfl rfl rfl rfl ?_
            refine X_getR (a := 341) rfl rfl rfl ((congrFun V.1 339).trans s_339) rfl ((congrFun (V.2.1 339 (by decide)) 3).trans r_339_3) ?_
            refine X_iload_n rfl rfl rfl rfl ?_
            refine X_iconst (v := (2 : Int32)) rfl rfl rfl ?_
            refine S_isub rfl rfl hx3 (show (2 : Int32).toInt = 2 from rfl) (by omega) (fun vz24 hvz24 => ?_)
            refine X_iload rfl rfl rfl ?_
            refine X_aload_n rfl rfl rfl rfl ?_
            refine X_getR (a := 341) rfl rfl rfl ((congrFun V.1 339).trans s_339) rfl ((congrFun (V.2.1 339 (by decide)) 3).trans r_339_3) ?_
            refine X_iload_n rfl rfl rfl rfl ?_
            refine X_iconst (v := (2 : Int32)) rfl rfl rfl ?_
            refine S_isub rfl rfl hx3 (show (2 : Int32).toInt = 2 from rfl) (by omega) (fun vz25 hvz25 => ?_)
            refine S_iald rfl rfl ((congrFun V.1 341).trans s_341) rfl (by omega) (fun vz26 evz26 => ?_)
            refine S_i2lT rfl rfl (fun vz27 => ?_)
            refine X_aload_n rfl rfl rfl rfl ?_
            refine X_getR (a := 341) rfl rfl rfl ((congrFun V.1 339).trans s_339) rfl ((congrFun (V.2.1 339 (by decide)) 3).trans r_339_3) ?_
            refine X_iload_n rfl rfl rfl rfl ?_
            refine X_iconst (v := (1 : Int32)) rfl rfl rfl ?_
            refine S_isub rfl rfl hx3 (show (1 : Int32).toInt = 1 from rfl) (by omega) (fun vz28 hvz28 => ?_)
            refine S_iald rfl rfl ((congrFun V.1 341).trans s_341) rfl (by omega) (fun vz29 evz29 => ?_)
            refine S_i2lT rfl rfl (fun vz30 => ?_)
            refine Y_callS (as := [.int vz7, .long vz27, .long vz30]) (st := [.int vz24, .ref 341]) rfl rfl rfl (by decide) rfl (Nat.le_of_ble_eq_true rfl) (by decide) (Nat.le_of_ble_eq_true rfl) rfl (C_X4_outcome V vz7 vz7.toInt rfl (by omega) vz27 vz30 ) ?_
            rintro _ g' ⟨vr31, rfl, hgg⟩
            subst hgg
            refine Y_callS (as := [.long vr31]) (st := [.int vz24, .ref 341]) rfl rfl rfl (by decide) rfl (Nat.le_of_ble_eq_true rfl) (by decide) (Nat.le_of_ble_eq_true rfl) rfl (C_X4_limited V vr31 ) ?_
            rintro _ g' ⟨vr32, rfl, hgg⟩
            subst hgg
            refine S_iast (I := Inv _) rfl rfl ((congrFun V.1 341).trans s_341) rfl (by omega) (Inv_putI V (Nat.le_of_ble_eq_true rfl) (Or.inl (by decide)) (Q_0 rk_341)) (fun g V ve33 vn34 hq => ?_)
            have hG := hq.trans hG
            have evz1 := (vn34 (300 + 10 * u) ((y2 : Int).toNat) (Or.inl (by omega))).trans evz1
            have evz7 := (vn34 (301 + 10 * u) ((y4 : Int).toNat) (Or.inl (by omega))).trans evz7
            refine S_iinc (c := (-1)) rfl rfl rfl hx3 rfl (by omega) (fun vz35 hvz35 => ?_)
            refine LW_ls (ls' := [some (.ref 339), some (.ref (292 + 10 * u)), some (.int x2), some (.int vz35), some (.int x4), some (.int vz7)]) rfl ?_
            refine S_iinc (c := 1) rfl rfl rfl hx4 rfl (by omega) (fun vz36 hvz36 => ?_)
            refine LW_ls (ls' := [some (.ref 339), some (.ref (292 + 10 * u)), some (.int x2), some (.int vz35), some (.int vz36), some (.int vz7)]) rfl ?_
            refine LW_goto (tgt := 10) rfl rfl ?_
            exact ih10 _ hu V hG x2 y2 hx2 (by omega) vz35 vz35.toInt rfl (by omega) vz36 vz36.toInt rfl (by omega) (some (.int vz7))    (by omega)
        · refine X_iload_n rfl rfl rfl rfl ?_
          refine S_if_le (tgt := 186) rfl rfl rfl hx3 (fun vh37 => ?_) (fun vh37 => ?_)
          · refine S_iinc (c := 1) rfl rfl rfl hx4 rfl (by omega) (fun vz38 hvz38 => ?_)
            refine LW_ls (ls' := [some (.ref 339), some (.ref (292 + 10 * u)), some (.int x2), some (.int x3), some (.int vz38), some (.int vz7)]) rfl ?_
            refine LW_goto (tgt := 10) rfl rfl ?_
            exact ih10 _ hu V hG x2 y2 hx2 (by omega) x3 y3 hx3 (by omega) vz38 vz38.toInt rfl (by omega) (some (.int vz7))    (by omega)
          · refine X_aload_n rfl rfl rfl rfl ?_
            refine X_getR (a := 341) rfl rfl rfl ((congrFun V.1 339).trans s_339) rfl ((congrFun (V.2.1 339 (by decide)) 3).trans r_339_3) ?_
            refine X_iload_n rfl rfl rfl rfl ?_
            refine X_iconst (v := (1 : Int32)) rfl rfl rfl ?_
            refine S_isub rfl rfl hx3 (show (1 : Int32).toInt = 1 from rfl) (by omega) (fun vz39 hvz39 => ?_)
            refine X_iload rfl rfl rfl ?_
            refine X_sipush (v := (20012 : Int32)) rfl rfl rfl ?_
            refine S_icmp_ne (tgt := 131) rfl rfl rfl rfl (show (20012 : Int32).toInt = 20012 from rfl) (fun vh40 => ?_) (fun q => absurd q (by omega))
            refine X_aload_n rfl rfl rfl rfl ?_
            refine X_getR (a := 341) rfl rfl rfl ((congrFun V.1 339).trans s_339) rfl ((congrFun (V.2.1 339 (by decide)) 3).trans r_339_3) ?_
            refine X_iload_n rfl rfl rfl rfl ?_
            refine X_iconst (v := (1 : Int32)) rfl rfl rfl ?_
            refine S_isub rfl rfl hx3 (show (1 : Int32).toInt = 1 from rfl) (by omega) (fun vz41 hvz41 => ?_)
            refine S_iald rfl rfl ((congrFun V.1 341).trans s_341) rfl (by omega) (fun vz42 evz42 => ?_)
            refine S_inegT rfl rfl (fun vz43 => ?_)
            refine S_iast (I := Inv _) rfl rfl ((congrFun V.1 341).trans s_341) rfl (by omega) (Inv_putI V (Nat.le_of_ble_eq_true rfl) (Or.inl (by decide)) (Q_0 rk_341)) (fun g V ve44 vn45 hq => ?_)
            have hG := hq.trans hG
            have evz1 := (vn45 (300 + 10 * u) ((y2 : Int).toNat) (Or.inl (by omega))).trans evz1
            have evz7 := (vn45 (301 + 10 * u) ((y4 : Int).toNat) (Or.inl (by omega))).trans evz7
            refine LW_goto (tgt := 186) rfl rfl ?_
            refine S_iinc (c := 1) rfl rfl rfl hx4 rfl (by omega) (fun vz46 hvz46 => ?_)
            refine LW_ls (ls' := [some (.ref 339), some (.ref (292 + 10 * u)), some (.int x2), some (.int x3), some (.int vz46), some (.int vz7)]) rfl ?_
            refine LW_goto (tgt := 10) rfl rfl ?_
            exact ih10 _ hu V hG x2 y2 hx2 (by omega) x3 y3 hx3 (by omega) vz46 vz46.toInt rfl (by omega) (some (.int vz7))    (by omega)
    · refine X_iload_n rfl rfl rfl rfl ?_
      refine X_aload_n rfl rfl rfl rfl ?_
      refine X_getR (a := 341) rfl rfl rfl ((congrFun V.1 339).trans s_339) rfl ((congrFun (V.2.1 339 (by decide)) 3).trans r_339_3) ?_
      refine X_alen (t0 := 0) (v := (64 : Int32)) rfl rfl ((congrFun V.1 341).trans s_341) rfl rfl ?_
      refine S_icmp_ge (tgt := 186) rfl rfl rfl hx3 (show (64 : Int32).toInt = 64 from rfl) (fun vh47 => ?_) (fun vh47 => ?_)
      · refine S_iinc (c := 1) rfl rfl rfl hx4 rfl (by omega) (fun vz48 hvz48 => ?_)
        refine LW_ls (ls' := [some (.ref 339), some (.ref (292 + 10 * u)), some (.int x2), some (.int x3), some (.int vz48), some (.int vz7)]) rfl ?_
        refine LW_goto (tgt := 10) rfl rfl ?_
        exact ih10 _ hu V hG x2 y2 hx2 (by omega) x3 y3 hx3 (by omega) vz48 vz48.toInt rfl (by omega) (some (.int vz7))    (by omega)
      · refine X_aload_n rfl rfl rfl rfl ?_
        refine X_getR (a := 341) rfl rfl rfl ((congrFun V.1 339).trans s_339) rfl ((congrFun (V.2.1 339 (by decide)) 3).trans r_339_3) ?_
        refine X_iload_n rfl rfl rfl rfl ?_
        refine X_iload rfl rfl rfl ?_
        refine X_sipush (v := (10000 : Int32)) rfl rfl rfl ?_
        refine S_icmp_lt (tgt := 74) rfl rfl rfl rfl (show (10000 : Int32).toInt = 10000 from rfl) (fun vh49 => ?_) (fun vh49 => ?_)
        · refine X_iload rfl rfl rfl ?_
          refine S_iast (I := Inv _) rfl rfl ((congrFun V.1 341).trans s_341) hx3 (by omega) (Inv_putI V (Nat.le_of_ble_eq_true rfl) (Or.inl (by decide)) (Q_0 rk_341)) (fun g V ve50 vn51 hq => ?_)
          have hG := hq.trans hG
          have evz1 := (vn51 (300 + 10 * u) ((y2 : Int).toNat) (Or.inl (by omega))).trans evz1
          have evz7 := (vn51 (301 + 10 * u) ((y4 : Int).toNat) (Or.inl (by omega))).trans evz7
          refine S_iinc (c := 1) rfl rfl rfl hx3 rfl (by omega) (fun vz52 hvz52 => ?_)
          refine LW_ls (ls' := [some (.ref 339), some (.ref (292 + 10 * u)), some (.int x2), some (.int vz52), some (.int x4), some (.int vz7)]) rfl ?_
          refine LW_goto (tgt := 186) rfl rfl ?_
          refine S_iinc (c := 1) rfl rfl rfl hx4 rfl (by omega) (fun vz53 hvz53 => ?_)
          refine LW_ls (ls' := [some (.ref 339), some (.ref (292 + 10 * u)), some (.int x2), some (.int vz52), some (.int vz53), some (.int vz7)]) rfl ?_
          refine LW_goto (tgt := 10) rfl rfl ?_
          exact ih10 _ hu V hG x2 y2 hx2 (by omega) vz52 vz52.toInt rfl (by omega) vz53 vz53.toInt rfl (by omega) (some (.int vz7))    (by omega)
        · refine X_aload_n rfl rfl rfl rfl ?_
          refine X_getR (a := 340) rfl rfl rfl ((congrFun V.1 339).trans s_339) rfl ((congrFun (V.2.1 339 (by decide)) 2).trans r_339_2) ?_
          refine X_iload rfl rfl rfl ?_
          refine X_sipush (v := (10000 : Int32)) rfl rfl rfl ?_
          refine S_isub rfl rfl rfl (show (10000 : Int32).toInt = 10000 from rfl) (by omega) (fun vz54 hvz54 => ?_)
          refine S_iald rfl rfl ((congrFun V.1 340).trans s_340) rfl (by omega) (fun vz55 evz55 => ?_)
          refine LW_goto (tgt := 76) rfl rfl ?_
          refine S_iast (I := Inv _) rfl rfl ((congrFun V.1 341).trans s_341) hx3 (by omega) (Inv_putI V (Nat.le_of_ble_eq_true rfl) (Or.inl (by decide)) (Q_0 rk_341)) (fun g V ve56 vn57 hq => ?_)
          have hG := hq.trans hG
          have evz1 := (vn57 (300 + 10 * u) ((y2 : Int).toNat) (Or.inl (by omega))).trans evz1
          have evz7 := (vn57 (301 + 10 * u) ((y4 : Int).toNat) (Or.inl (by omega))).trans evz7
          have evz55 := (vn57 (340) ((vz54.toInt : Int).toNat) (Or.inl (by decide))).trans evz55
          refine S_iinc (c := 1) rfl rfl rfl hx3 rfl (by omega) (fun vz58 hvz58 => ?_)
          refine LW_ls (ls' := [some (.ref 339), some (.ref (292 + 10 * u)), some (.int x2), some (.int vz58), some (.int x4), some (.int vz7)]) rfl ?_
          refine LW_goto (tgt := 186) rfl rfl ?_
          refine S_iinc (c := 1) rfl rfl rfl hx4 rfl (by omega) (fun vz59 hvz59 => ?_)
          refine LW_ls (ls' := [some (.ref 339), some (.ref (292 + 10 * u)), some (.int x2), some (.int vz58), some (.int vz59), some (.int vz7)]) rfl ?_
          refine LW_goto (tgt := 10) rfl rfl ?_
          exact ih10 _ hu V hG x2 y2 hx2 (by omega) vz58 vz58.toInt rfl (by omega) vz59 vz59.toInt rfl (by omega) (some (.int vz7))    (by omega)
theorem C_X4_run_339_T_all {P : Par} {g0 : LH} {d : Nat}  : ∀ n : Nat, (∀ (g : LH) {u : Nat} (hu : u < 4) (V : Inv P g) (hG : Gr g = Gr g0) (x2 : Int32) (y2 : Int) (hx2 : x2.toInt = y2) (hf2 : 0 ≤ y2 ∧ y2 ≤ 3) (x3 : Int32) (y3 : Int) (hx3 : x3.toInt = y3) (hf3 : 0 ≤ y3 ∧ y3 ≤ 64) (x4 : Int32) (y4 : Int) (hx4 : x4.toInt = y4) (hf4 : 0 ≤ y4 ∧ y4 ≤ 300) (o5 : Option Value) , (300 - y4) * 1 + 0 < (n : Int) → LW 35 (d + 7) 0 0 10 [some (.ref 339), some (.ref (292 + 10 * u)), some (.int x2), some (.int x3), some (.int x4), o5] [] g (fun v g' => ∃ r : Int32, v = some (.int r) ∧ Inv P g' ∧ Gr g' = Gr g0)) := by
  intro n
  induction n with
  | zero => exact fun g u hu V hG x2 y2 hx2 hf2 x3 y3 hx3 hf3 x4 y4 hx4 hf4 o5 hmu => absurd hmu (by omega)
  | succ n ih => exact fun g u hu V hG x2 y2 hx2 hf2 x3 y3 hx3 hf3 x4 y4 hx4 hf4 o5 hmu => C_X4_run_339_T_10  hu V hG x2 y2 hx2 hf2 x3 y3 hx3 hf3 x4 y4 hx4 hf4 o5 (by omega) ih
set_option maxRecDepth 10000 in
set_option maxHeartbeats 40000000 in
theorem C_X4_run_339_T {P : Par} {g : LH} {d : Nat}  {u : Nat} (hu : u < 4) (V : Inv P g) (x2 : Int32) (y2 : Int) (hx2 : x2.toInt = y2) (hf2 : 0 ≤ y2 ∧ y2 ≤ 3) (hq0 : ¬ (Gi g (299 + 10 * u) (y2).toNat).toInt = -1)  : LW 35 (d + 7) 0 0 0 (lEnt (mL 35) [.ref 339, .ref (292 + 10 * u), .int x2]) [] g (fun v g' => ∃ r : Int32, v = some (.int r) ∧ Inv P g' ∧ Gr g' = Gr g) := by
  refine LW_ls (ls' := [some (.ref 339), some (.ref (292 + 10 * u)), some (.int x2), none, none, none]) rfl ?_
  have hG : Gr g = Gr g := rfl
  refine X_iconst (v := (0 : Int32)) rfl rfl rfl ?_
  refine X_istore_n (i := 3) (ls' := [some (.ref 339), some (.ref (292 + 10 * u)), some (.int x2), some (.int (0 : Int32)), none, none]) rfl rfl rfl (Nat.le_of_ble_eq_true rfl) rfl ?_
  refine X_aload_n rfl rfl rfl rfl ?_
  refine X_getR (a := 299 + 10 * u) rfl rfl rfl ((congrFun V.1 _).trans (tx_s u hu)) rfl ((congrFun (V.2.1 (292 + 10 * u) (by omega)) 7).trans (tx_r7 u hu)) ?_
  refine X_iload_n rfl rfl rfl rfl ?_
  refine S_iald rfl rfl ((congrFun V.1 _).trans (tx_s7 u hu)) hx2 (by omega) (fun vz1 evz1 => ?_)
  have vf2 := K_6 (V.2.2.2.2.1 (299 + 10 * u) ((y2 : Int).toNat) (by omega)) (tx_k7 u hu)
  rw [evz1] at vf2
  rw [evz1] at hq0
  refine X_istore (i := 4) (ls' := [some (.ref 339), some (.ref (292 + 10 * u)), some (.int x2), some (.int (0 : Int32)), some (.int vz1), none]) rfl rfl (Nat.le_of_ble_eq_true rfl) rfl ?_
  exact (C_X4_run_339_T_all (((300 - vz1.toInt) * 1 + 0) + 1 : Int).toNat) _ hu V hG x2 y2 hx2 (by omega) (0 : Int32) 0 (show (0 : Int32).toInt = 0 from rfl) (by omega) vz1 vz1.toInt rfl (by omega) none    (by omega)
set_option maxRecDepth 10000 in
set_option maxHeartbeats 40000000 in
theorem C_X5_uses_4 {P : Par} {g : LH} {d n : Nat}  (V : Inv P g) (x1 : Int32) (y1 : Int) (hx1 : x1.toInt = y1) (hf1 : 0 ≤ y1 ∧ y1 ≤ 25) (x2 : Int32) (y2 : Int) (hx2 : x2.toInt = y2) (x3 : Int32) (y3 : Int) (hx3 : x3.toInt = y3) (hf3 : 0 ≤ y3 ∧ y3 ≤ 24)  (hmu : (24 - y3) * 1 + 0 < (n : Int) + 1) (ih4 : ∀ (V : Inv P g) (x1 : Int32) (y1 : Int) (hx1 : x1.toInt = y1) (hf1 : 0 ≤ y1 ∧ y1 ≤ 25) (x2 : Int32) (y2 : Int) (hx2 : x2.toInt = y2) (x3 : Int32) (y3 : Int) (hx3 : x3.toInt = y3) (hf3 : 0 ≤ y3 ∧ y3 ≤ 24) , (24 - y3) * 1 + 0 < (n : Int) → LW 47 (d + 3) 0 0 4 [some (.ref 2), some (.int x1), some (.int x2), some (.int x3)] [] g (fun v g' => ∃ r : Int32, v = some (.int r) ∧ g = g')) : LW 47 (d + 3) 0 0 4 [some (.ref 2), some (.int x1), some (.int x2), some (.int x3)] [] g (fun v g' => ∃ r : Int32, v = some (.int r) ∧ g = g') := by
  refine X_iload_n rfl rfl rfl rfl ?_
  refine X_aload_n rfl rfl rfl rfl ?_
  refine S_getI rfl rfl rfl ((congrFun V.1 2).trans s_2) rfl (fun vz1 evz1 => ?_)
  have vf2 := K_10_0 (V.2.2.2.2.1 (2) (0) (Nat.le_of_ble_eq_true rfl)) rk_2
  rw [evz1] at vf2
  refine S_icmp_ge (tgt := 31) rfl rfl rfl hx3 rfl (fun vh3 => ?_) (fun vh3 => ?_)
  · refine X_iload_n rfl rfl rfl rfl ?_
    exact LW_ireturn (st := []) rfl rfl rfl ⟨_, rfl, rfl⟩
  · refine X_iload_n rfl rfl rfl rfl ?_
    refine X_aload_n rfl rfl rfl rfl ?_
    refine X_getR (a := 5) rfl rfl rfl ((congrFun V.1 2).trans s_2) rfl ((congrFun (V.2.1 2 (by decide)) 4).trans r_2_4) ?_
    refine X_iload_n rfl rfl rfl rfl ?_
    refine S_iald rfl rfl ((congrFun V.1 5).trans s_5) hx3 (by omega) (fun vz4 evz4 => ?_)
    refine X_iload_n rfl rfl rfl rfl ?_
    refine S_ishrT rfl rfl (fun vz5 => ?_)
    refine X_iconst (v := (1 : Int32)) rfl rfl rfl ?_
    refine S_iandR (k := 1) rfl rfl rfl (fun vz6 hvz6 => ?_)
    refine S_iaddT rfl rfl (fun vz7 => ?_)
    refine X_istore_n (i := 2) (ls' := [some (.ref 2), some (.int x1), some (.int vz7), some (.int x3)]) rfl rfl rfl (Nat.le_of_ble_eq_true rfl) rfl ?_
    refine S_iinc (c := 1) rfl rfl rfl hx3 rfl (by omega) (fun vz8 hvz8 => ?_)
    refine LW_ls (ls' := [some (.ref 2), some (.int x1), some (.int vz7), some (.int vz8)]) rfl ?_
    refine LW_goto (tgt := 4) rfl rfl ?_
    exact ih4 V x1 y1 hx1 (by omega) vz7 vz7.toInt rfl vz8 vz8.toInt rfl (by omega)    (by omega)
theorem C_X5_uses_all {P : Par} {g : LH} {d : Nat}  : ∀ n : Nat, (∀ (V : Inv P g) (x1 : Int32) (y1 : Int) (hx1 : x1.toInt = y1) (hf1 : 0 ≤ y1 ∧ y1 ≤ 25) (x2 : Int32) (y2 : Int) (hx2 : x2.toInt = y2) (x3 : Int32) (y3 : Int) (hx3 : x3.toInt = y3) (hf3 : 0 ≤ y3 ∧ y3 ≤ 24) , (24 - y3) * 1 + 0 < (n : Int) → LW 47 (d + 3) 0 0 4 [some (.ref 2), some (.int x1), some (.int x2), some (.int x3)] [] g (fun v g' => ∃ r : Int32, v = some (.int r) ∧ g = g')) := by
  intro n
  induction n with
  | zero => exact fun V x1 y1 hx1 hf1 x2 y2 hx2 x3 y3 hx3 hf3 hmu => absurd hmu (by omega)
  | succ n ih => exact fun V x1 y1 hx1 hf1 x2 y2 hx2 x3 y3 hx3 hf3 hmu => C_X5_uses_4  V x1 y1 hx1 hf1 x2 y2 hx2 x3 y3 hx3 hf3 (by omega) ih
set_option maxRecDepth 10000 in
set_option maxHeartbeats 40000000 in
theorem C_X5_uses {P : Par} {g : LH} {d : Nat}  (V : Inv P g) (x1 : Int32) (y1 : Int) (hx1 : x1.toInt = y1) (hf1 : 0 ≤ y1 ∧ y1 ≤ 25)   : LW 47 (d + 3) 0 0 0 (lEnt (mL 47) [.ref 2, .int x1]) [] g (fun v g' => ∃ r : Int32, v = some (.int r) ∧ g = g') := by
  refine LW_ls (ls' := [some (.ref 2), some (.int x1), none, none]) rfl ?_
  refine X_iconst (v := (0 : Int32)) rfl rfl rfl ?_
  refine X_istore_n (i := 2) (ls' := [some (.ref 2), some (.int x1), some (.int (0 : Int32)), none]) rfl rfl rfl (Nat.le_of_ble_eq_true rfl) rfl ?_
  refine X_iconst (v := (0 : Int32)) rfl rfl rfl ?_
  refine X_istore_n (i := 3) (ls' := [some (.ref 2), some (.int x1), some (.int (0 : Int32)), some (.int (0 : Int32))]) rfl rfl rfl (Nat.le_of_ble_eq_true rfl) rfl ?_
  exact (C_X5_uses_all (((24 - 0) * 1 + 0) + 1 : Int).toNat) V x1 y1 hx1 (by omega) (0 : Int32) 0 (show (0 : Int32).toInt = 0 from rfl) (0 : Int32) 0 (show (0 : Int32).toInt = 0 from rfl) (by omega)    (by omega)
set_option maxRecDepth 10000 in
set_option maxHeartbeats 40000000 in
theorem C_X4_moves {P : Par} {g : LH} {d : Nat}  (V : Inv P g) (x1 : Int32) (y1 : Int) (hx1 : x1.toInt = y1) (hf1 : 0 ≤ y1 ∧ y1 ≤ 25)   : LW 28 (d + 12) 0 0 0 (lEnt (mL 28) [.ref 339, .int x1]) [] g (fun v g' => ∃ r : Int32, v = some (.int r) ∧ 0 ≤ r.toInt ∧ r.toInt ≤ 1 ∧ Inv P g' ∧ Gr g' = Gr g) := by
  refine LW_ls (ls' := [some (.ref 339), some (.int x1), none, none, none, none]) rfl ?_
  have hG : Gr g = Gr g := rfl
  refine X_aload_n rfl rfl rfl rfl ?_
  refine X_getR (a := 1) rfl rfl rfl ((congrFun V.1 339).trans s_339) rfl ((congrFun (V.2.1 339 (by decide)) 0).trans r_339_0) ?_
  refine X_getR (a := 10) rfl rfl rfl ((congrFun V.1 1).trans s_1) rfl ((congrFun (V.2.1 1 (by decide)) 1).trans r_1_1) ?_
  refine X_astore_n (i := 2) (ls' := [some (.ref 339), some (.int x1), some (.ref 10), none, none, none]) rfl rfl rfl (Nat.le_of_ble_eq_true rfl) rfl ?_
  refine X_aload_n rfl rfl rfl rfl ?_
  refine X_getR (a := 1) rfl rfl rfl ((congrFun V.1 339).trans s_339) rfl ((congrFun (V.2.1 339 (by decide)) 0).trans r_339_0) ?_
  refine X_getR (a := 141) rfl rfl rfl ((congrFun V.1 1).trans s_1) rfl ((congrFun (V.2.1 1 (by decide)) 4).trans r_1_4) ?_
  refine X_iload_n rfl rfl rfl rfl ?_
  refine S_iald rfl rfl ((congrFun V.1 141).trans s_141) hx1 (by omega) (fun vz1 evz1 => ?_)
  refine X_aload_n rfl rfl rfl rfl ?_
  refine S_getI rfl rfl rfl ((congrFun V.1 10).trans s_10) rfl (fun vz2 evz2 => ?_)
  refine S_iandT rfl rfl (fun vz3 => ?_)
  refine Y_callS (as := [.int vz3]) (st := []) rfl rfl rfl (by decide) rfl (Nat.le_of_ble_eq_true rfl) (by decide) (Nat.le_of_ble_eq_true rfl) rfl (C_J6_bitCount_0f7a4 V vz3 vz3.toInt rfl ) ?_
  rintro _ g' ⟨vr4, rfl, hrvr40, hrvr41, hgg⟩
  subst hgg
  refine X_istore_n (i := 3) (ls' := [some (.ref 339), some (.int x1), some (.ref 10), some (.int vr4), none, none]) rfl rfl rfl (Nat.le_of_ble_eq_true rfl) rfl ?_
  refine X_aload_n rfl rfl rfl rfl ?_
  refine X_iload_n rfl rfl rfl rfl ?_
  refine X_callV (as := [.int x1]) (st := []) rfl rfl rfl (by decide) rfl (Nat.le_of_ble_eq_true rfl) (by decide) (Nat.le_of_ble_eq_true rfl) rfl ((congrFun V.1 10).trans s_10) (by decide) ?_
  refine LW_ls (ls' := [some (.ref 10), some (.int x1)]) rfl ?_
  refine X_aload_n rfl rfl rfl rfl ?_
  refine X_getI (v := vz2) rfl rfl rfl ((congrFun V.1 10).trans s_10) rfl evz2 ?_
  refine X_iload_n rfl rfl rfl rfl ?_
  refine S_ishrT rfl rfl (fun vz5 => ?_)
  refine X_iconst (v := (1 : Int32)) rfl rfl rfl ?_
  refine S_iandR (k := 1) rfl rfl rfl (fun vz6 hvz6 => ?_)
  refine S_if_eq (tgt := 15) rfl rfl rfl rfl (fun vh7 => ?_) (fun vh7 => ?_)
  · refine X_iconst (v := (0 : Int32)) rfl rfl rfl ?_
    refine LW_ireturn (st := []) rfl rfl rfl ?_
    refine S_if_eq (tgt := 38) rfl rfl rfl (show (0 : Int32).toInt = 0 from rfl) (fun vh8 => ?_) (fun q => absurd q (by omega))
    refine X_iconst (v := (0 : Int32)) rfl rfl rfl ?_
    refine X_istore (i := 4) (ls' := [some (.ref 339), some (.int x1), some (.ref 10), some (.int vr4), some (.int (0 : Int32)), none]) rfl rfl (Nat.le_of_ble_eq_true rfl) rfl ?_
    refine X_aload_n rfl rfl rfl rfl ?_
    refine X_iload rfl rfl rfl ?_
    refine Y_callV (as := [.int (0 : Int32)]) (st := []) rfl rfl rfl (by decide) rfl (Nat.le_of_ble_eq_true rfl) (by decide) (Nat.le_of_ble_eq_true rfl) rfl ((congrFun V.1 339).trans s_339) (by decide) (C_X4_ruling V (0 : Int32) 0 (show (0 : Int32).toInt = 0 from rfl) (by omega) ) ?_
    rintro _ g' ⟨rfl | ⟨u, hu, rfl, hl⟩, hgg⟩
    · subst hgg
      refine X_astoreN (i := 5) (ls' := [some (.ref 339), some (.int x1), some (.ref 10), some (.int vr4), some (.int (0 : Int32)), some (.null)]) rfl rfl (Nat.le_of_ble_eq_true rfl) rfl ?_
      refine X_aloadN rfl rfl rfl ?_
      refine X_ifnonnullN (tgt := 98) rfl rfl rfl ?_
      refine X_iload rfl rfl rfl ?_
      refine X_iconst (v := (1 : Int32)) rfl rfl rfl ?_
      refine S_icmp_ne (tgt := 79) rfl rfl rfl (show (0 : Int32).toInt = 0 from rfl) (show (1 : Int32).toInt = 1 from rfl) (fun vh9 => ?_) (fun q => absurd q (by omega))
      refine X_iload_n rfl rfl rfl rfl ?_
      refine S_if_le (tgt := 96) rfl rfl rfl rfl (fun vh10 => ?_) (fun vh10 => ?_)
      · refine X_iconst (v := (0 : Int32)) rfl rfl rfl ?_
        exact LW_ireturn (st := []) rfl rfl rfl ⟨_, rfl, by decide, by decide, V, hG⟩
      · refine X_aload_n rfl rfl rfl rfl ?_
        refine X_getR (a := 12) rfl rfl rfl ((congrFun V.1 10).trans s_10) rfl ((congrFun (V.2.1 10 (by decide)) 5).trans r_10_5) ?_
        refine X_iload_n rfl rfl rfl rfl ?_
        refine S_iald rfl rfl ((congrFun V.1 12).trans s_12) hx1 (by omega) (fun vz11 evz11 => ?_)
        refine S_if_le (tgt := 96) rfl rfl rfl rfl (fun vh12 => ?_) (fun vh12 => ?_)
        · refine X_iconst (v := (0 : Int32)) rfl rfl rfl ?_
          exact LW_ireturn (st := []) rfl rfl rfl ⟨_, rfl, by decide, by decide, V, hG⟩
        · refine X_iconst (v := (1 : Int32)) rfl rfl rfl ?_
          refine LW_goto (tgt := 97) rfl rfl ?_
          exact LW_ireturn (st := []) rfl rfl rfl ⟨_, rfl, by decide, by decide, V, hG⟩
    · subst hgg
      refine X_astore (i := 5) (ls' := [some (.ref 339), some (.int x1), some (.ref 10), some (.int vr4), some (.int (0 : Int32)), some (.ref (292 + 10 * u))]) rfl rfl (Nat.le_of_ble_eq_true rfl) rfl ?_
      refine X_aload rfl rfl rfl ?_
      refine LW_ifnonnull (tgt := 98) rfl rfl ?_
      refine X_aload_n rfl rfl rfl rfl ?_
      refine X_aload_n rfl rfl rfl rfl ?_
      refine Y_callV (as := []) (st := [.ref 339]) rfl rfl rfl (by decide) rfl (Nat.le_of_ble_eq_true rfl) (by decide) (Nat.le_of_ble_eq_true rfl) rfl ((congrFun V.1 10).trans s_10) (by decide) (C_X9_outs V  ) ?_
      rintro _ g' ⟨vr13, rfl, hrvr130, hrvr131, hgg⟩
      subst hgg
      refine X_callV (as := [.int vr13]) (st := []) rfl rfl rfl (by decide) rfl (Nat.le_of_ble_eq_true rfl) (by decide) (Nat.le_of_ble_eq_true rfl) rfl ((congrFun V.1 339).trans s_339) (by decide) ?_
      refine LW_ls (ls' := [some (.ref 339), some (.int vr13)]) rfl ?_
      refine X_aload_n rfl rfl rfl rfl ?_
      refine X_getR (a := 340) rfl rfl rfl ((congrFun V.1 339).trans s_339) rfl ((congrFun (V.2.1 339 (by decide)) 2).trans r_339_2) ?_
      refine X_iconst (v := (0 : Int32)) rfl rfl rfl ?_
      refine X_aload_n rfl rfl rfl rfl ?_
      refine X_getR (a := 1) rfl rfl rfl ((congrFun V.1 339).trans s_339) rfl ((congrFun (V.2.1 339 (by decide)) 0).trans r_339_0) ?_
      refine X_getR (a := 10) rfl rfl rfl ((congrFun V.1 1).trans s_1) rfl ((congrFun (V.2.1 1 (by decide)) 1).trans r_1_1) ?_
      refine S_getI rfl rfl rfl ((congrFun V.1 10).trans s_10) rfl (fun vz14 evz14 => ?_)
      refine S_iast (I := Inv _) rfl rfl ((congrFun V.1 340).trans s_340) (show (0 : Int32).toInt = 0 from rfl) (by omega) (Inv_putI V (Nat.le_of_ble_eq_true rfl) (Or.inl (by decide)) (Q_0 rk_340)) (fun g V ve15 vn16 hq => ?_)
      have hG := hq.trans hG
      have evz1 := (vn16 (141) ((y1 : Int).toNat) (Or.inl (by decide))).trans evz1
      have evz2 := (vn16 (10) 0 (Or.inl (by decide))).trans evz2
      have evz14 := (vn16 (10) 1 (Or.inl (by decide))).trans evz14
      rw [← vn16 (299 + 10 * u) (0 : Int).toNat (Or.inl (by omega))] at hl
      refine X_aload_n rfl rfl rfl rfl ?_
      refine X_getR (a := 340) rfl rfl rfl ((congrFun V.1 339).trans s_339) rfl ((congrFun (V.2.1 339 (by decide)) 2).trans r_339_2) ?_
      refine X_iconst (v := (1 : Int32)) rfl rfl rfl ?_
      refine X_iload_n rfl rfl rfl rfl ?_
      refine S_iast (I := Inv _) rfl rfl ((congrFun V.1 340).trans s_340) (show (1 : Int32).toInt = 1 from rfl) (by omega) (Inv_putI V (Nat.le_of_ble_eq_true rfl) (Or.inl (by decide)) (Q_0 rk_340)) (fun g V ve17 vn18 hq => ?_)
      have hG := hq.trans hG
      have evz1 := (vn18 (141) ((y1 : Int).toNat) (Or.inl (by decide))).trans evz1
      have evz2 := (vn18 (10) 0 (Or.inl (by decide))).trans evz2
      have evz14 := (vn18 (10) 1 (Or.inl (by decide))).trans evz14
      rw [← vn18 (299 + 10 * u) (0 : Int).toNat (Or.inl (by omega))] at hl
      refine LW_return (st := []) rfl rfl ?_
      refine X_aload_n rfl rfl rfl rfl ?_
      refine X_getR (a := 340) rfl rfl rfl ((congrFun V.1 339).trans s_339) rfl ((congrFun (V.2.1 339 (by decide)) 2).trans r_339_2) ?_
      refine X_iconst (v := (2 : Int32)) rfl rfl rfl ?_
      refine X_iload_n rfl rfl rfl rfl ?_
      refine S_iast (I := Inv _) rfl rfl ((congrFun V.1 340).trans s_340) (show (2 : Int32).toInt = 2 from rfl) (by omega) (Inv_putI V (Nat.le_of_ble_eq_true rfl) (Or.inl (by decide)) (Q_0 rk_340)) (fun g V ve19 vn20 hq => ?_)
      have hG := hq.trans hG
      have evz1 := (vn20 (141) ((y1 : Int).toNat) (Or.inl (by decide))).trans evz1
      have evz2 := (vn20 (10) 0 (Or.inl (by decide))).trans evz2
      have evz14 := (vn20 (10) 1 (Or.inl (by decide))).trans evz14
      rw [← vn20 (299 + 10 * u) (0 : Int).toNat (Or.inl (by omega))] at hl
      refine X_aload_n rfl rfl rfl rfl ?_
      refine X_getR (a := 340) rfl rfl rfl ((congrFun V.1 339).trans s_339) rfl ((congrFun (V.2.1 339 (by decide)) 2).trans r_339_2) ?_
      refine X_iconst (v := (3 : Int32)) rfl rfl rfl ?_
      refine X_aload_n rfl rfl rfl rfl ?_
      refine X_getR (a := 11) rfl rfl rfl ((congrFun V.1 10).trans s_10) rfl ((congrFun (V.2.1 10 (by decide)) 4).trans r_10_4) ?_
      refine X_iload_n rfl rfl rfl rfl ?_
      refine S_iald rfl rfl ((congrFun V.1 11).trans s_11) hx1 (by omega) (fun vz21 evz21 => ?_)
      refine S_iast (I := Inv _) rfl rfl ((congrFun V.1 340).trans s_340) (show (3 : Int32).toInt = 3 from rfl) (by omega) (Inv_putI V (Nat.le_of_ble_eq_true rfl) (Or.inl (by decide)) (Q_0 rk_340)) (fun g V ve22 vn23 hq => ?_)
      have hG := hq.trans hG
      have evz1 := (vn23 (141) ((y1 : Int).toNat) (Or.inl (by decide))).trans evz1
      have evz2 := (vn23 (10) 0 (Or.inl (by decide))).trans evz2
      have evz14 := (vn23 (10) 1 (Or.inl (by decide))).trans evz14
      have evz21 := (vn23 (11) ((y1 : Int).toNat) (Or.inl (by decide))).trans evz21
      rw [← vn23 (299 + 10 * u) (0 : Int).toNat (Or.inl (by omega))] at hl
      refine X_aload_n rfl rfl rfl rfl ?_
      refine X_getR (a := 340) rfl rfl rfl ((congrFun V.1 339).trans s_339) rfl ((congrFun (V.2.1 339 (by decide)) 2).trans r_339_2) ?_
      refine X_iconst (v := (4 : Int32)) rfl rfl rfl ?_
      refine X_aload_n rfl rfl rfl rfl ?_
      refine X_getR (a := 12) rfl rfl rfl ((congrFun V.1 10).trans s_10) rfl ((congrFun (V.2.1 10 (by decide)) 5).trans r_10_5) ?_
      refine X_iload_n rfl rfl rfl rfl ?_
      refine S_iald rfl rfl ((congrFun V.1 12).trans s_12) hx1 (by omega) (fun vz24 evz24 => ?_)
      refine S_iast (I := Inv _) rfl rfl ((congrFun V.1 340).trans s_340) (show (4 : Int32).toInt = 4 from rfl) (by omega) (Inv_putI V (Nat.le_of_ble_eq_true rfl) (Or.inl (by decide)) (Q_0 rk_340)) (fun g V ve25 vn26 hq => ?_)
      have hG := hq.trans hG
      have evz1 := (vn26 (141) ((y1 : Int).toNat) (Or.inl (by decide))).trans evz1
      have evz2 := (vn26 (10) 0 (Or.inl (by decide))).trans evz2
      have evz14 := (vn26 (10) 1 (Or.inl (by decide))).trans evz14
      have evz21 := (vn26 (11) ((y1 : Int).toNat) (Or.inl (by decide))).trans evz21
      have evz24 := (vn26 (12) ((y1 : Int).toNat) (Or.inl (by decide))).trans evz24
      rw [← vn26 (299 + 10 * u) (0 : Int).toNat (Or.inl (by omega))] at hl
      refine X_aload_n rfl rfl rfl rfl ?_
      refine X_getR (a := 340) rfl rfl rfl ((congrFun V.1 339).trans s_339) rfl ((congrFun (V.2.1 339 (by decide)) 2).trans r_339_2) ?_
      refine X_iconst (v := (5 : Int32)) rfl rfl rfl ?_
      refine X_ldc (v := (1065233 : Int32)) rfl rfl rfl ?_
      refine X_iload_n rfl rfl rfl rfl ?_
      refine S_ishrT rfl rfl (fun vz27 => ?_)
      refine X_iconst (v := (1 : Int32)) rfl rfl rfl ?_
      refine S_iandR (k := 1) rfl rfl rfl (fun vz28 hvz28 => ?_)
      refine S_iast (I := Inv _) rfl rfl ((congrFun V.1 340).trans s_340) (show (5 : Int32).toInt = 5 from rfl) (by omega) (Inv_putI V (Nat.le_of_ble_eq_true rfl) (Or.inl (by decide)) (Q_0 rk_340)) (fun g V ve29 vn30 hq => ?_)
      have hG := hq.trans hG
      have evz1 := (vn30 (141) ((y1 : Int).toNat) (Or.inl (by decide))).trans evz1
      have evz2 := (vn30 (10) 0 (Or.inl (by decide))).trans evz2
      have evz14 := (vn30 (10) 1 (Or.inl (by decide))).trans evz14
      have evz21 := (vn30 (11) ((y1 : Int).toNat) (Or.inl (by decide))).trans evz21
      have evz24 := (vn30 (12) ((y1 : Int).toNat) (Or.inl (by decide))).trans evz24
      rw [← vn30 (299 + 10 * u) (0 : Int).toNat (Or.inl (by omega))] at hl
      refine X_aload_n rfl rfl rfl rfl ?_
      refine X_getR (a := 340) rfl rfl rfl ((congrFun V.1 339).trans s_339) rfl ((congrFun (V.2.1 339 (by decide)) 2).trans r_339_2) ?_
      refine X_bipush (v := (6 : Int32)) rfl rfl rfl ?_
      refine X_iload_n rfl rfl rfl rfl ?_
      refine S_iast (I := Inv _) rfl rfl ((congrFun V.1 340).trans s_340) (show (6 : Int32).toInt = 6 from rfl) (by omega) (Inv_putI V (Nat.le_of_ble_eq_true rfl) (Or.inl (by decide)) (Q_0 rk_340)) (fun g V ve31 vn32 hq => ?_)
      have hG := hq.trans hG
      have evz1 := (vn32 (141) ((y1 : Int).toNat) (Or.inl (by decide))).trans evz1
      have evz2 := (vn32 (10) 0 (Or.inl (by decide))).trans evz2
      have evz14 := (vn32 (10) 1 (Or.inl (by decide))).trans evz14
      have evz21 := (vn32 (11) ((y1 : Int).toNat) (Or.inl (by decide))).trans evz21
      have evz24 := (vn32 (12) ((y1 : Int).toNat) (Or.inl (by decide))).trans evz24
      rw [← vn32 (299 + 10 * u) (0 : Int).toNat (Or.inl (by omega))] at hl
      refine X_aload_n rfl rfl rfl rfl ?_
      refine X_getR (a := 340) rfl rfl rfl ((congrFun V.1 339).trans s_339) rfl ((congrFun (V.2.1 339 (by decide)) 2).trans r_339_2) ?_
      refine X_bipush (v := (7 : Int32)) rfl rfl rfl ?_
      refine X_aload_n rfl rfl rfl rfl ?_
      refine X_getR (a := 1) rfl rfl rfl ((congrFun V.1 339).trans s_339) rfl ((congrFun (V.2.1 339 (by decide)) 0).trans r_339_0) ?_
      refine X_getR (a := 2) rfl rfl rfl ((congrFun V.1 1).trans s_1) rfl ((congrFun (V.2.1 1 (by decide)) 0).trans r_1_0) ?_
      refine X_iload_n rfl rfl rfl rfl ?_
      refine Y_callV (as := [.int x1]) (st := [.int (7 : Int32), .ref 340]) rfl rfl rfl (by decide) rfl (Nat.le_of_ble_eq_true rfl) (by decide) (Nat.le_of_ble_eq_true rfl) rfl ((congrFun V.1 2).trans s_2) (by decide) (C_X5_uses V x1 y1 hx1 (by omega) ) ?_
      rintro _ g' ⟨vr33, rfl, hgg⟩
      subst hgg
      refine S_iast (I := Inv _) rfl rfl ((congrFun V.1 340).trans s_340) (show (7 : Int32).toInt = 7 from rfl) (by omega) (Inv_putI V (Nat.le_of_ble_eq_true rfl) (Or.inl (by decide)) (Q_0 rk_340)) (fun g V ve34 vn35 hq => ?_)
      have hG := hq.trans hG
      have evz1 := (vn35 (141) ((y1 : Int).toNat) (Or.inl (by decide))).trans evz1
      have evz2 := (vn35 (10) 0 (Or.inl (by decide))).trans evz2
      have evz14 := (vn35 (10) 1 (Or.inl (by decide))).trans evz14
      have evz21 := (vn35 (11) ((y1 : Int).toNat) (Or.inl (by decide))).trans evz21
      have evz24 := (vn35 (12) ((y1 : Int).toNat) (Or.inl (by decide))).trans evz24
      rw [← vn35 (299 + 10 * u) (0 : Int).toNat (Or.inl (by omega))] at hl
      refine X_aload_n rfl rfl rfl rfl ?_
      refine X_aload rfl rfl rfl ?_
      refine X_iload rfl rfl rfl ?_
      refine Y_callV (as := [.ref (292 + 10 * u), .int (0 : Int32)]) (st := []) rfl rfl rfl (by decide) rfl (Nat.le_of_ble_eq_true rfl) (by decide) (Nat.le_of_ble_eq_true rfl) rfl ((congrFun V.1 339).trans s_339) (by decide) (C_X4_run_339_T hu V (0 : Int32) 0 (show (0 : Int32).toInt = 0 from rfl) (by omega) hl) ?_
      rintro _ g ⟨vr36, rfl, V, hq⟩
      have hG := hq.trans hG
      refine S_if_eq (tgt := 190) rfl rfl rfl rfl (fun vh37 => ?_) (fun vh37 => ?_)
      · refine X_iconst (v := (0 : Int32)) rfl rfl rfl ?_
        exact LW_ireturn (st := []) rfl rfl rfl ⟨_, rfl, by decide, by decide, V, hG⟩
      · refine X_iconst (v := (1 : Int32)) rfl rfl rfl ?_
        refine LW_goto (tgt := 191) rfl rfl ?_
        exact LW_ireturn (st := []) rfl rfl rfl ⟨_, rfl, by decide, by decide, V, hG⟩
  · refine X_iconst (v := (1 : Int32)) rfl rfl rfl ?_
    refine LW_goto (tgt := 16) rfl rfl ?_
    refine LW_ireturn (st := []) rfl rfl rfl ?_
    refine S_if_eq (tgt := 38) rfl rfl rfl (show (1 : Int32).toInt = 1 from rfl) (fun q => absurd q (by omega)) (fun vh38 => ?_)
    refine X_iconst (v := (1 : Int32)) rfl rfl rfl ?_
    refine LW_goto (tgt := 39) rfl rfl ?_
    refine X_istore (i := 4) (ls' := [some (.ref 339), some (.int x1), some (.ref 10), some (.int vr4), some (.int (1 : Int32)), none]) rfl rfl (Nat.le_of_ble_eq_true rfl) rfl ?_
    refine X_aload_n rfl rfl rfl rfl ?_
    refine X_iload rfl rfl rfl ?_
    refine Y_callV (as := [.int (1 : Int32)]) (st := []) rfl rfl rfl (by decide) rfl (Nat.le_of_ble_eq_true rfl) (by decide) (Nat.le_of_ble_eq_true rfl) rfl ((congrFun V.1 339).trans s_339) (by decide) (C_X4_ruling V (1 : Int32) 1 (show (1 : Int32).toInt = 1 from rfl) (by omega) ) ?_
    rintro _ g' ⟨rfl | ⟨u, hu, rfl, hl⟩, hgg⟩
    · subst hgg
      refine X_astoreN (i := 5) (ls' := [some (.ref 339), some (.int x1), some (.ref 10), some (.int vr4), some (.int (1 : Int32)), some (.null)]) rfl rfl (Nat.le_of_ble_eq_true rfl) rfl ?_
      refine X_aloadN rfl rfl rfl ?_
      refine X_ifnonnullN (tgt := 98) rfl rfl rfl ?_
      refine X_iload rfl rfl rfl ?_
      refine X_iconst (v := (1 : Int32)) rfl rfl rfl ?_
      refine S_icmp_ne (tgt := 79) rfl rfl rfl (show (1 : Int32).toInt = 1 from rfl) (show (1 : Int32).toInt = 1 from rfl) (fun q => absurd q (by omega)) (fun vh39 => ?_)
      refine X_aload_n rfl rfl rfl rfl ?_
      refine X_getR (a := 11) rfl rfl rfl ((congrFun V.1 10).trans s_10) rfl ((congrFun (V.2.1 10 (by decide)) 4).trans r_10_4) ?_
      refine X_iload_n rfl rfl rfl rfl ?_
      refine S_iald rfl rfl ((congrFun V.1 11).trans s_11) hx1 (by omega) (fun vz40 evz40 => ?_)
      refine X_bipush (v := (9 : Int32)) rfl rfl rfl ?_
      refine S_icmp_le (tgt := 75) rfl rfl rfl rfl (show (9 : Int32).toInt = 9 from rfl) (fun vh41 => ?_) (fun vh41 => ?_)
      · refine X_iconst (v := (0 : Int32)) rfl rfl rfl ?_
        refine LW_goto (tgt := 97) rfl rfl ?_
        exact LW_ireturn (st := []) rfl rfl rfl ⟨_, rfl, by decide, by decide, V, hG⟩
      · refine X_iconst (v := (1 : Int32)) rfl rfl rfl ?_
        refine LW_goto (tgt := 97) rfl rfl ?_
        exact LW_ireturn (st := []) rfl rfl rfl ⟨_, rfl, by decide, by decide, V, hG⟩
    · subst hgg
      refine X_astore (i := 5) (ls' := [some (.ref 339), some (.int x1), some (.ref 10), some (.int vr4), some (.int (1 : Int32)), some (.ref (292 + 10 * u))]) rfl rfl (Nat.le_of_ble_eq_true rfl) rfl ?_
      refine X_aload rfl rfl rfl ?_
      refine LW_ifnonnull (tgt := 98) rfl rfl ?_
      refine X_aload_n rfl rfl rfl rfl ?_
      refine X_aload_n rfl rfl rfl rfl ?_
      refine Y_callV (as := []) (st := [.ref 339]) rfl rfl rfl (by decide) rfl (Nat.le_of_ble_eq_true rfl) (by decide) (Nat.le_of_ble_eq_true rfl) rfl ((congrFun V.1 10).trans s_10) (by decide) (C_X9_outs V  ) ?_
      rintro _ g' ⟨vr42, rfl, hrvr420, hrvr421, hgg⟩
      subst hgg
      refine X_callV (as := [.int vr42]) (st := []) rfl rfl rfl (by decide) rfl (Nat.le_of_ble_eq_true rfl) (by decide) (Nat.le_of_ble_eq_true rfl) rfl ((congrFun V.1 339).trans s_339) (by decide) ?_
      refine LW_ls (ls' := [some (.ref 339), some (.int vr42)]) rfl ?_
      refine X_aload_n rfl rfl rfl rfl ?_
      refine X_getR (a := 340) rfl rfl rfl ((congrFun V.1 339).trans s_339) rfl ((congrFun (V.2.1 339 (by decide)) 2).trans r_339_2) ?_
      refine X_iconst (v := (0 : Int32)) rfl rfl rfl ?_
      refine X_aload_n rfl rfl rfl rfl ?_
      refine X_getR (a := 1) rfl rfl rfl ((congrFun V.1 339).trans s_339) rfl ((congrFun (V.2.1 339 (by decide)) 0).trans r_339_0) ?_
      refine X_getR (a := 10) rfl rfl rfl ((congrFun V.1 1).trans s_1) rfl ((congrFun (V.2.1 1 (by decide)) 1).trans r_1_1) ?_
      refine S_getI rfl rfl rfl ((congrFun V.1 10).trans s_10) rfl (fun vz43 evz43 => ?_)
      refine S_iast (I := Inv _) rfl rfl ((congrFun V.1 340).trans s_340) (show (0 : Int32).toInt = 0 from rfl) (by omega) (Inv_putI V (Nat.le_of_ble_eq_true rfl) (Or.inl (by decide)) (Q_0 rk_340)) (fun g V ve44 vn45 hq => ?_)
      have hG := hq.trans hG
      have evz1 := (vn45 (141) ((y1 : Int).toNat) (Or.inl (by decide))).trans evz1
      have evz2 := (vn45 (10) 0 (Or.inl (by decide))).trans evz2
      have evz43 := (vn45 (10) 1 (Or.inl (by decide))).trans evz43
      rw [← vn45 (299 + 10 * u) (1 : Int).toNat (Or.inl (by omega))] at hl
      refine X_aload_n rfl rfl rfl rfl ?_
      refine X_getR (a := 340) rfl rfl rfl ((congrFun V.1 339).trans s_339) rfl ((congrFun (V.2.1 339 (by decide)) 2).trans r_339_2) ?_
      refine X_iconst (v := (1 : Int32)) rfl rfl rfl ?_
      refine X_iload_n rfl rfl rfl rfl ?_
      refine S_iast (I := Inv _) rfl rfl ((congrFun V.1 340).trans s_340) (show (1 : Int32).toInt = 1 from rfl) (by omega) (Inv_putI V (Nat.le_of_ble_eq_true rfl) (Or.inl (by decide)) (Q_0 rk_340)) (fun g V ve46 vn47 hq => ?_)
      have hG := hq.trans hG
      have evz1 := (vn47 (141) ((y1 : Int).toNat) (Or.inl (by decide))).trans evz1
      have evz2 := (vn47 (10) 0 (Or.inl (by decide))).trans evz2
      have evz43 := (vn47 (10) 1 (Or.inl (by decide))).trans evz43
      rw [← vn47 (299 + 10 * u) (1 : Int).toNat (Or.inl (by omega))] at hl
      refine LW_return (st := []) rfl rfl ?_
      refine X_aload_n rfl rfl rfl rfl ?_
      refine X_getR (a := 340) rfl rfl rfl ((congrFun V.1 339).trans s_339) rfl ((congrFun (V.2.1 339 (by decide)) 2).trans r_339_2) ?_
      refine X_iconst (v := (2 : Int32)) rfl rfl rfl ?_
      refine X_iload_n rfl rfl rfl rfl ?_
      refine S_iast (I := Inv _) rfl rfl ((congrFun V.1 340).trans s_340) (show (2 : Int32).toInt = 2 from rfl) (by omega) (Inv_putI V (Nat.le_of_ble_eq_true rfl) (Or.inl (by decide)) (Q_0 rk_340)) (fun g V ve48 vn49 hq => ?_)
      have hG := hq.trans hG
      have evz1 := (vn49 (141) ((y1 : Int).toNat) (Or.inl (by decide))).trans evz1
      have evz2 := (vn49 (10) 0 (Or.inl (by decide))).trans evz2
      have evz43 := (vn49 (10) 1 (Or.inl (by decide))).trans evz43
      rw [← vn49 (299 + 10 * u) (1 : Int).toNat (Or.inl (by omega))] at hl
      refine X_aload_n rfl rfl rfl rfl ?_
      refine X_getR (a := 340) rfl rfl rfl ((congrFun V.1 339).trans s_339) rfl ((congrFun (V.2.1 339 (by decide)) 2).trans r_339_2) ?_
      refine X_iconst (v := (3 : Int32)) rfl rfl rfl ?_
      refine X_aload_n rfl rfl rfl rfl ?_
      refine X_getR (a := 11) rfl rfl rfl ((congrFun V.1 10).trans s_10) rfl ((congrFun (V.2.1 10 (by decide)) 4).trans r_10_4) ?_
      refine X_iload_n rfl rfl rfl rfl ?_
      refine S_iald rfl rfl ((congrFun V.1 11).trans s_11) hx1 (by omega) (fun vz50 evz50 => ?_)
      refine S_iast (I := Inv _) rfl rfl ((congrFun V.1 340).trans s_340) (show (3 : Int32).toInt = 3 from rfl) (by omega) (Inv_putI V (Nat.le_of_ble_eq_true rfl) (Or.inl (by decide)) (Q_0 rk_340)) (fun g V ve51 vn52 hq => ?_)
      have hG := hq.trans hG
      have evz1 := (vn52 (141) ((y1 : Int).toNat) (Or.inl (by decide))).trans evz1
      have evz2 := (vn52 (10) 0 (Or.inl (by decide))).trans evz2
      have evz43 := (vn52 (10) 1 (Or.inl (by decide))).trans evz43
      have evz50 := (vn52 (11) ((y1 : Int).toNat) (Or.inl (by decide))).trans evz50
      rw [← vn52 (299 + 10 * u) (1 : Int).toNat (Or.inl (by omega))] at hl
      refine X_aload_n rfl rfl rfl rfl ?_
      refine X_getR (a := 340) rfl rfl rfl ((congrFun V.1 339).trans s_339) rfl ((congrFun (V.2.1 339 (by decide)) 2).trans r_339_2) ?_
      refine X_iconst (v := (4 : Int32)) rfl rfl rfl ?_
      refine X_aload_n rfl rfl rfl rfl ?_
      refine X_getR (a := 12) rfl rfl rfl ((congrFun V.1 10).trans s_10) rfl ((congrFun (V.2.1 10 (by decide)) 5).trans r_10_5) ?_
      refine X_iload_n rfl rfl rfl rfl ?_
      refine S_iald rfl rfl ((congrFun V.1 12).trans s_12) hx1 (by omega) (fun vz53 evz53 => ?_)
      refine S_iast (I := Inv _) rfl rfl ((congrFun V.1 340).trans s_340) (show (4 : Int32).toInt = 4 from rfl) (by omega) (Inv_putI V (Nat.le_of_ble_eq_true rfl) (Or.inl (by decide)) (Q_0 rk_340)) (fun g V ve54 vn55 hq => ?_)
      have hG := hq.trans hG
      have evz1 := (vn55 (141) ((y1 : Int).toNat) (Or.inl (by decide))).trans evz1
      have evz2 := (vn55 (10) 0 (Or.inl (by decide))).trans evz2
      have evz43 := (vn55 (10) 1 (Or.inl (by decide))).trans evz43
      have evz50 := (vn55 (11) ((y1 : Int).toNat) (Or.inl (by decide))).trans evz50
      have evz53 := (vn55 (12) ((y1 : Int).toNat) (Or.inl (by decide))).trans evz53
      rw [← vn55 (299 + 10 * u) (1 : Int).toNat (Or.inl (by omega))] at hl
      refine X_aload_n rfl rfl rfl rfl ?_
      refine X_getR (a := 340) rfl rfl rfl ((congrFun V.1 339).trans s_339) rfl ((congrFun (V.2.1 339 (by decide)) 2).trans r_339_2) ?_
      refine X_iconst (v := (5 : Int32)) rfl rfl rfl ?_
      refine X_ldc (v := (1065233 : Int32)) rfl rfl rfl ?_
      refine X_iload_n rfl rfl rfl rfl ?_
      refine S_ishrT rfl rfl (fun vz56 => ?_)
      refine X_iconst (v := (1 : Int32)) rfl rfl rfl ?_
      refine S_iandR (k := 1) rfl rfl rfl (fun vz57 hvz57 => ?_)
      refine S_iast (I := Inv _) rfl rfl ((congrFun V.1 340).trans s_340) (show (5 : Int32).toInt = 5 from rfl) (by omega) (Inv_putI V (Nat.le_of_ble_eq_true rfl) (Or.inl (by decide)) (Q_0 rk_340)) (fun g V ve58 vn59 hq => ?_)
      have hG := hq.trans hG
      have evz1 := (vn59 (141) ((y1 : Int).toNat) (Or.inl (by decide))).trans evz1
      have evz2 := (vn59 (10) 0 (Or.inl (by decide))).trans evz2
      have evz43 := (vn59 (10) 1 (Or.inl (by decide))).trans evz43
      have evz50 := (vn59 (11) ((y1 : Int).toNat) (Or.inl (by decide))).trans evz50
      have evz53 := (vn59 (12) ((y1 : Int).toNat) (Or.inl (by decide))).trans evz53
      rw [← vn59 (299 + 10 * u) (1 : Int).toNat (Or.inl (by omega))] at hl
      refine X_aload_n rfl rfl rfl rfl ?_
      refine X_getR (a := 340) rfl rfl rfl ((congrFun V.1 339).trans s_339) rfl ((congrFun (V.2.1 339 (by decide)) 2).trans r_339_2) ?_
      refine X_bipush (v := (6 : Int32)) rfl rfl rfl ?_
      refine X_iload_n rfl rfl rfl rfl ?_
      refine S_iast (I := Inv _) rfl rfl ((congrFun V.1 340).trans s_340) (show (6 : Int32).toInt = 6 from rfl) (by omega) (Inv_putI V (Nat.le_of_ble_eq_true rfl) (Or.inl (by decide)) (Q_0 rk_340)) (fun g V ve60 vn61 hq => ?_)
      have hG := hq.trans hG
      have evz1 := (vn61 (141) ((y1 : Int).toNat) (Or.inl (by decide))).trans evz1
      have evz2 := (vn61 (10) 0 (Or.inl (by decide))).trans evz2
      have evz43 := (vn61 (10) 1 (Or.inl (by decide))).trans evz43
      have evz50 := (vn61 (11) ((y1 : Int).toNat) (Or.inl (by decide))).trans evz50
      have evz53 := (vn61 (12) ((y1 : Int).toNat) (Or.inl (by decide))).trans evz53
      rw [← vn61 (299 + 10 * u) (1 : Int).toNat (Or.inl (by omega))] at hl
      refine X_aload_n rfl rfl rfl rfl ?_
      refine X_getR (a := 340) rfl rfl rfl ((congrFun V.1 339).trans s_339) rfl ((congrFun (V.2.1 339 (by decide)) 2).trans r_339_2) ?_
      refine X_bipush (v := (7 : Int32)) rfl rfl rfl ?_
      refine X_aload_n rfl rfl rfl rfl ?_
      refine X_getR (a := 1) rfl rfl rfl ((congrFun V.1 339).trans s_339) rfl ((congrFun (V.2.1 339 (by decide)) 0).trans r_339_0) ?_
      refine X_getR (a := 2) rfl rfl rfl ((congrFun V.1 1).trans s_1) rfl ((congrFun (V.2.1 1 (by decide)) 0).trans r_1_0) ?_
      refine X_iload_n rfl rfl rfl rfl ?_
      refine Y_callV (as := [.int x1]) (st := [.int (7 : Int32), .ref 340]) rfl rfl rfl (by decide) rfl (Nat.le_of_ble_eq_true rfl) (by decide) (Nat.le_of_ble_eq_true rfl) rfl ((congrFun V.1 2).trans s_2) (by decide) (C_X5_uses V x1 y1 hx1 (by omega) ) ?_
      rintro _ g' ⟨vr62, rfl, hgg⟩
      subst hgg
      refine S_iast (I := Inv _) rfl rfl ((congrFun V.1 340).trans s_340) (show (7 : Int32).toInt = 7 from rfl) (by omega) (Inv_putI V (Nat.le_of_ble_eq_true rfl) (Or.inl (by decide)) (Q_0 rk_340)) (fun g V ve63 vn64 hq => ?_)
      have hG := hq.trans hG
      have evz1 := (vn64 (141) ((y1 : Int).toNat) (Or.inl (by decide))).trans evz1
      have evz2 := (vn64 (10) 0 (Or.inl (by decide))).trans evz2
      have evz43 := (vn64 (10) 1 (Or.inl (by decide))).trans evz43
      have evz50 := (vn64 (11) ((y1 : Int).toNat) (Or.inl (by decide))).trans evz50
      have evz53 := (vn64 (12) ((y1 : Int).toNat) (Or.inl (by decide))).trans evz53
      rw [← vn64 (299 + 10 * u) (1 : Int).toNat (Or.inl (by omega))] at hl
      refine X_aload_n rfl rfl rfl rfl ?_
      refine X_aload rfl rfl rfl ?_
      refine X_iload rfl rfl rfl ?_
      refine Y_callV (as := [.ref (292 + 10 * u), .int (1 : Int32)]) (st := []) rfl rfl rfl (by decide) rfl (Nat.le_of_ble_eq_true rfl) (by decide) (Nat.le_of_ble_eq_true rfl) rfl ((congrFun V.1 339).trans s_339) (by decide) (C_X4_run_339_T hu V (1 : Int32) 1 (show (1 : Int32).toInt = 1 from rfl) (by omega) hl) ?_
      rintro _ g ⟨vr65, rfl, V, hq⟩
      have hG := hq.trans hG
      refine S_if_eq (tgt := 190) rfl rfl rfl rfl (fun vh66 => ?_) (fun vh66 => ?_)
      · refine X_iconst (v := (0 : Int32)) rfl rfl rfl ?_
        exact LW_ireturn (st := []) rfl rfl rfl ⟨_, rfl, by decide, by decide, V, hG⟩
      · refine X_iconst (v := (1 : Int32)) rfl rfl rfl ?_
        refine LW_goto (tgt := 191) rfl rfl ?_
        exact LW_ireturn (st := []) rfl rfl rfl ⟨_, rfl, by decide, by decide, V, hG⟩
