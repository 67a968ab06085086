/-! the class's methods: each returns and keeps what every state keeps -/
set_option maxRecDepth 10000 in
set_option maxHeartbeats 40000000 in
theorem C_X8_readEither_10 {P : Par} {g g0 : LH} {d n : Nat}  (V : Inv P g) (hG : Gr g = Gr g0) {u : Nat} (hu : u < 4) (hTt : Gr g0 338 1 = some (292 + 10 * u)) (x1 : Int32) (y1 : Int) (hx1 : x1.toInt = y1) (hf1 : 0 ≤ y1 ∧ y1 ≤ 3) (x2 : Int32) (y2 : Int) (hx2 : x2.toInt = y2) (hf2 : 0 ≤ y2 ∧ y2 ≤ 1) (x3 : Int32) (y3 : Int) (hx3 : x3.toInt = y3) (hf3 : 0 ≤ y3 ∧ y3 ≤ 301) (o4 : Option Value)  (hmu : (301 - y3) * 1 + 0 < (n : Int) + 1) (ih10 : ∀ (g : LH) (V : Inv P g) (hG : Gr g = Gr g0) {u : Nat} (hu : u < 4) (hTt : Gr g0 338 1 = some (292 + 10 * u)) (x1 : Int32) (y1 : Int) (hx1 : x1.toInt = y1) (hf1 : 0 ≤ y1 ∧ y1 ≤ 3) (x2 : Int32) (y2 : Int) (hx2 : x2.toInt = y2) (hf2 : 0 ≤ y2 ∧ y2 ≤ 1) (x3 : Int32) (y3 : Int) (hx3 : x3.toInt = y3) (hf3 : 0 ≤ y3 ∧ y3 ≤ 301) (o4 : Option Value) , (301 - y3) * 1 + 0 < (n : Int) → LW 97 (d + 64) 0 0 10 [some (.ref 338), some (.int x1), some (.int x2), some (.int x3), o4] [] g (fun v g' => v = none ∧ Inv P g' ∧ Gr g' = Gr g0)) : LW 97 (d + 64) 0 0 10 [some (.ref 338), some (.int x1), some (.int x2), some (.int x3), o4] [] g (fun v g' => v = none ∧ Inv P g' ∧ Gr g' = Gr g0) := by
  refine X_iload_n rfl rfl rfl rfl ?_
  refine X_sipush (v := (300 : Int32)) rfl rfl rfl ?_
  refine S_icmp_gt (tgt := 113) rfl rfl rfl hx3 (rfl : (300 : Int32).toInt = 300) (fun vh1 => ?_) (fun vh1 => ?_)
  · refine X_iload_n rfl rfl rfl rfl ?_
    refine S_if_eq (tgt := 127) rfl rfl rfl hx2 (fun vh2 => ?_) (fun vh2 => ?_)
    · exact LW_return (st := []) rfl rfl ⟨rfl, V, hG⟩
    · refine X_aload_n rfl rfl rfl rfl ?_
      refine X_getR (a := 292 + 10 * u) rfl rfl rfl ((congrFun V.1 338).trans s_338) rfl ((congrFun (congrFun hG 338) 1).trans hTt) ?_
      refine X_sipush (v := (20011 : Int32)) rfl rfl rfl ?_
      refine Y_callV (as := [.int (20011 : Int32)]) (st := []) rfl rfl rfl (by decide) rfl (Nat.le_of_ble_eq_true rfl) (by decide) (Nat.le_of_ble_eq_true rfl) rfl ((congrFun V.1 _).trans (tx_s u hu)) (by decide) (C_X11_emit_T hu V (20011 : Int32) 20011 (rfl : (20011 : Int32).toInt = 20011) (by omega) ) ?_
      rintro _ g ⟨rfl, V, hq⟩
      have hG := hq.trans hG
      exact LW_return (st := []) rfl rfl ⟨rfl, V, hG⟩
  · refine X_aload_n rfl rfl rfl rfl ?_
    refine S_getI rfl rfl rfl ((congrFun V.1 338).trans s_338) rfl (fun vz4 evz4 => ?_)
    refine S_if_ne (tgt := 113) rfl rfl rfl rfl (fun vh5 => ?_) (fun vh5 => ?_)
    · refine X_iload_n rfl rfl rfl rfl ?_
      refine S_if_eq (tgt := 127) rfl rfl rfl hx2 (fun vh6 => ?_) (fun vh6 => ?_)
      · exact LW_return (st := []) rfl rfl ⟨rfl, V, hG⟩
      · refine X_aload_n rfl rfl rfl rfl ?_
        refine X_getR (a := 292 + 10 * u) rfl rfl rfl ((congrFun V.1 338).trans s_338) rfl ((congrFun (congrFun hG 338) 1).trans hTt) ?_
        refine X_sipush (v := (20011 : Int32)) rfl rfl rfl ?_
        refine Y_callV (as := [.int (20011 : Int32)]) (st := []) rfl rfl rfl (by decide) rfl (Nat.le_of_ble_eq_true rfl) (by decide) (Nat.le_of_ble_eq_true rfl) rfl ((congrFun V.1 _).trans (tx_s u hu)) (by decide) (C_X11_emit_T hu V (20011 : Int32) 20011 (rfl : (20011 : Int32).toInt = 20011) (by omega) ) ?_
        rintro _ g ⟨rfl, V, hq⟩
        have hG := hq.trans hG
        exact LW_return (st := []) rfl rfl ⟨rfl, V, hG⟩
    · refine X_aload_n rfl rfl rfl rfl ?_
      refine X_bipush (v := (18 : Int32)) rfl rfl rfl ?_
      refine X_callV (as := [.int (18 : Int32)]) (st := []) rfl rfl rfl (by decide) rfl (Nat.le_of_ble_eq_true rfl) (by decide) (Nat.le_of_ble_eq_true rfl) rfl ((congrFun V.1 338).trans s_338) (by decide) ?_
      refine LW_ls (ls' := [some (.ref 338), some (.int (18 : Int32))]) rfl ?_
      refine X_aload_n rfl rfl rfl rfl ?_
      refine S_getI rfl rfl rfl ((congrFun V.1 338).trans s_338) rfl (fun vz8 evz8 => ?_)
      refine X_iconst (v := (1 : Int32)) rfl rfl rfl ?_
      refine S_icmp_ne (tgt := 20) rfl rfl rfl rfl (rfl : (1 : Int32).toInt = 1) (fun vh9 => ?_) (fun vh9 => ?_)
      · refine X_iconst (v := (0 : Int32)) rfl rfl rfl ?_
        refine LW_ireturn (st := []) rfl rfl rfl ?_
        refine S_if_ne (tgt := 42) rfl rfl rfl (rfl : (0 : Int32).toInt = 0) (fun q => absurd q (by omega)) (fun vh10 => ?_)
        refine X_aload_n rfl rfl rfl rfl ?_
        refine X_bipush (v := (19 : Int32)) rfl rfl rfl ?_
        refine X_callV (as := [.int (19 : Int32)]) (st := []) rfl rfl rfl (by decide) rfl (Nat.le_of_ble_eq_true rfl) (by decide) (Nat.le_of_ble_eq_true rfl) rfl ((congrFun V.1 338).trans s_338) (by decide) ?_
        refine LW_ls (ls' := [some (.ref 338), some (.int (19 : Int32))]) rfl ?_
        refine X_aload_n rfl rfl rfl rfl ?_
        refine X_getI (v := vz8) rfl rfl rfl ((congrFun V.1 338).trans s_338) rfl evz8 ?_
        refine X_iconst (v := (1 : Int32)) rfl rfl rfl ?_
        refine S_icmp_ne (tgt := 20) rfl rfl rfl rfl (rfl : (1 : Int32).toInt = 1) (fun vh11 => ?_) (fun vh11 => ?_)
        · refine X_iconst (v := (0 : Int32)) rfl rfl rfl ?_
          refine LW_ireturn (st := []) rfl rfl rfl ?_
          refine S_if_eq (tgt := 113) rfl rfl rfl (rfl : (0 : Int32).toInt = 0) (fun vh12 => ?_) (fun q => absurd q (by omega))
          refine X_iload_n rfl rfl rfl rfl ?_
          refine S_if_eq (tgt := 127) rfl rfl rfl hx2 (fun vh13 => ?_) (fun vh13 => ?_)
          · exact LW_return (st := []) rfl rfl ⟨rfl, V, hG⟩
          · refine X_aload_n rfl rfl rfl rfl ?_
            refine X_getR (a := 292 + 10 * u) rfl rfl rfl ((congrFun V.1 338).trans s_338) rfl ((congrFun (congrFun hG 338) 1).trans hTt) ?_
            refine X_sipush (v := (20011 : Int32)) rfl rfl rfl ?_
            refine Y_callV (as := [.int (20011 : Int32)]) (st := []) rfl rfl rfl (by decide) rfl (Nat.le_of_ble_eq_true rfl) (by decide) (Nat.le_of_ble_eq_true rfl) rfl ((congrFun V.1 _).trans (tx_s u hu)) (by decide) (C_X11_emit_T hu V (20011 : Int32) 20011 (rfl : (20011 : Int32).toInt = 20011) (by omega) ) ?_
            rintro _ g ⟨rfl, V, hq⟩
            have hG := hq.trans hG
            exact LW_return (st := []) rfl rfl ⟨rfl, V, hG⟩
        · refine X_aload_n rfl rfl rfl rfl ?_
          refine S_getI rfl rfl rfl ((congrFun V.1 338).trans s_338) rfl (fun vz15 evz15 => ?_)
          refine X_iload_n rfl rfl rfl rfl ?_
          refine S_icmp_ne (tgt := 20) rfl rfl rfl rfl (rfl : (19 : Int32).toInt = 19) (fun vh16 => ?_) (fun vh16 => ?_)
          · refine X_iconst (v := (0 : Int32)) rfl rfl rfl ?_
            refine LW_ireturn (st := []) rfl rfl rfl ?_
            refine S_if_eq (tgt := 113) rfl rfl rfl (rfl : (0 : Int32).toInt = 0) (fun vh17 => ?_) (fun q => absurd q (by omega))
            refine X_iload_n rfl rfl rfl rfl ?_
            refine S_if_eq (tgt := 127) rfl rfl rfl hx2 (fun vh18 => ?_) (fun vh18 => ?_)
            · exact LW_return (st := []) rfl rfl ⟨rfl, V, hG⟩
            · refine X_aload_n rfl rfl rfl rfl ?_
              refine X_getR (a := 292 + 10 * u) rfl rfl rfl ((congrFun V.1 338).trans s_338) rfl ((congrFun (congrFun hG 338) 1).trans hTt) ?_
              refine X_sipush (v := (20011 : Int32)) rfl rfl rfl ?_
              refine Y_callV (as := [.int (20011 : Int32)]) (st := []) rfl rfl rfl (by decide) rfl (Nat.le_of_ble_eq_true rfl) (by decide) (Nat.le_of_ble_eq_true rfl) rfl ((congrFun V.1 _).trans (tx_s u hu)) (by decide) (C_X11_emit_T hu V (20011 : Int32) 20011 (rfl : (20011 : Int32).toInt = 20011) (by omega) ) ?_
              rintro _ g ⟨rfl, V, hq⟩
              have hG := hq.trans hG
              exact LW_return (st := []) rfl rfl ⟨rfl, V, hG⟩
          · refine X_iconst (v := (1 : Int32)) rfl rfl rfl ?_
            refine LW_goto (tgt := 21) rfl rfl ?_
            refine LW_ireturn (st := []) rfl rfl rfl ?_
            refine S_if_eq (tgt := 113) rfl rfl rfl (rfl : (1 : Int32).toInt = 1) (fun q => absurd q (by omega)) (fun vh20 => ?_)
            refine X_aload_n rfl rfl rfl rfl ?_
            refine X_bipush (v := (19 : Int32)) rfl rfl rfl ?_
            refine X_callV (as := [.int (19 : Int32)]) (st := []) rfl rfl rfl (by decide) rfl (Nat.le_of_ble_eq_true rfl) (by decide) (Nat.le_of_ble_eq_true rfl) rfl ((congrFun V.1 338).trans s_338) (by decide) ?_
            refine LW_ls (ls' := [some (.ref 338), some (.int (19 : Int32))]) rfl ?_
            refine X_aload_n rfl rfl rfl rfl ?_
            refine X_getI (v := vz8) rfl rfl rfl ((congrFun V.1 338).trans s_338) rfl evz8 ?_
            refine X_iconst (v := (1 : Int32)) rfl rfl rfl ?_
            refine S_icmp_ne (tgt := 20) rfl rfl rfl rfl (rfl : (1 : Int32).toInt = 1) (fun q => absurd q (by omega)) (fun vh21 => ?_)
            refine X_aload_n rfl rfl rfl rfl ?_
            refine X_getI (v := vz15) rfl rfl rfl ((congrFun V.1 338).trans s_338) rfl evz15 ?_
            refine X_iload_n rfl rfl rfl rfl ?_
            refine S_icmp_ne (tgt := 20) rfl rfl rfl rfl (rfl : (19 : Int32).toInt = 19) (fun q => absurd q (by omega)) (fun vh22 => ?_)
            refine X_iconst (v := (1 : Int32)) rfl rfl rfl ?_
            refine LW_goto (tgt := 21) rfl rfl ?_
            refine LW_ireturn (st := []) rfl rfl rfl ?_
            refine X_istore (i := 4) (ls' := [some (.ref 338), some (.int x1), some (.int x2), some (.int x3), some (.int (1 : Int32))]) rfl rfl (Nat.le_of_ble_eq_true rfl) rfl ?_
            refine X_iload rfl rfl rfl ?_
            refine S_if_ne (tgt := 69) rfl rfl rfl (rfl : (1 : Int32).toInt = 1) (fun vh23 => ?_) (fun q => absurd q (by omega))
            refine X_iload_n rfl rfl rfl rfl ?_
            refine X_iload rfl rfl rfl ?_
            refine S_if_ne (tgt := 79) rfl rfl rfl (rfl : (1 : Int32).toInt = 1) (fun vh24 => ?_) (fun q => absurd q (by omega))
            refine X_iconst (v := (0 : Int32)) rfl rfl rfl ?_
            refine S_ior (n := 1) rfl rfl hx2 (rfl : (0 : Int32).toInt = 0) (by omega) (by omega) (fun vz25 hvz25 => ?_)
            refine X_istore_n (i := 2) (ls' := [some (.ref 338), some (.int x1), some (.int vz25), some (.int x3), some (.int (1 : Int32))]) rfl rfl rfl (Nat.le_of_ble_eq_true rfl) rfl ?_
            refine X_aload_n rfl rfl rfl rfl ?_
            refine Y_callV (as := []) (st := []) rfl rfl rfl (by decide) rfl (Nat.le_of_ble_eq_true rfl) (by decide) (Nat.le_of_ble_eq_true rfl) rfl ((congrFun V.1 338).trans s_338) (by decide) (C_X8_next V hu ((congrFun (congrFun hG 338) 1).trans hTt)  ) ?_
            rintro _ g ⟨rfl, V, hq⟩
            have hG := hq.trans hG
            refine X_aload_n rfl rfl rfl rfl ?_
            refine X_iload_n rfl rfl rfl rfl ?_
            refine X_iconst (v := (0 : Int32)) rfl rfl rfl ?_
            refine Y_callV (as := [.int x1, .int (0 : Int32)]) (st := []) rfl rfl rfl (by decide) rfl (Nat.le_of_ble_eq_true rfl) (by decide) (Nat.le_of_ble_eq_true rfl) rfl ((congrFun V.1 338).trans s_338) (by decide) (C_X8_readAsk V hu ((congrFun (congrFun hG 338) 1).trans hTt) x1 y1 hx1 (by omega) (0 : Int32) 0 (rfl : (0 : Int32).toInt = 0) (by omega) ) ?_
            rintro _ g ⟨rfl, V, hq⟩
            have hG := hq.trans hG
            refine X_iload rfl rfl rfl ?_
            refine S_if_eq (tgt := 107) rfl rfl rfl (rfl : (1 : Int32).toInt = 1) (fun q => absurd q (by omega)) (fun vh28 => ?_)
            refine X_aload_n rfl rfl rfl rfl ?_
            refine X_getR (a := 292 + 10 * u) rfl rfl rfl ((congrFun V.1 338).trans s_338) rfl ((congrFun (congrFun hG 338) 1).trans hTt) ?_
            refine X_sipush (v := (20010 : Int32)) rfl rfl rfl ?_
            refine Y_callV (as := [.int (20010 : Int32)]) (st := []) rfl rfl rfl (by decide) rfl (Nat.le_of_ble_eq_true rfl) (by decide) (Nat.le_of_ble_eq_true rfl) rfl ((congrFun V.1 _).trans (tx_s u hu)) (by decide) (C_X11_emit_T hu V (20010 : Int32) 20010 (rfl : (20010 : Int32).toInt = 20010) (by omega) ) ?_
            rintro _ g ⟨rfl, V, hq⟩
            have hG := hq.trans hG
            refine S_iinc (c := 1) rfl rfl rfl hx3 rfl (by omega) (fun vz30 hvz30 => ?_)
            refine LW_ls (ls' := [some (.ref 338), some (.int x1), some (.int vz25), some (.int vz30), some (.int (1 : Int32))]) rfl ?_
            refine LW_goto (tgt := 10) rfl rfl ?_
            exact ih10 _ V hG hu hTt x1 y1 hx1 (by omega) vz25 vz25.toInt rfl (by omega) vz30 vz30.toInt rfl (by omega)    (by omega)
      · refine X_aload_n rfl rfl rfl rfl ?_
        refine S_getI rfl rfl rfl ((congrFun V.1 338).trans s_338) rfl (fun vz31 evz31 => ?_)
        refine X_iload_n rfl rfl rfl rfl ?_
        refine S_icmp_ne (tgt := 20) rfl rfl rfl rfl (rfl : (18 : Int32).toInt = 18) (fun vh32 => ?_) (fun vh32 => ?_)
        · refine X_iconst (v := (0 : Int32)) rfl rfl rfl ?_
          refine LW_ireturn (st := []) rfl rfl rfl ?_
          refine S_if_ne (tgt := 42) rfl rfl rfl (rfl : (0 : Int32).toInt = 0) (fun q => absurd q (by omega)) (fun vh33 => ?_)
          refine X_aload_n rfl rfl rfl rfl ?_
          refine X_bipush (v := (19 : Int32)) rfl rfl rfl ?_
          refine X_callV (as := [.int (19 : Int32)]) (st := []) rfl rfl rfl (by decide) rfl (Nat.le_of_ble_eq_true rfl) (by decide) (Nat.le_of_ble_eq_true rfl) rfl ((congrFun V.1 338).trans s_338) (by decide) ?_
          refine LW_ls (ls' := [some (.ref 338), some (.int (19 : Int32))]) rfl ?_
          refine X_aload_n rfl rfl rfl rfl ?_
          refine X_getI (v := vz8) rfl rfl rfl ((congrFun V.1 338).trans s_338) rfl evz8 ?_
          refine X_iconst (v := (1 : Int32)) rfl rfl rfl ?_
          refine S_icmp_ne (tgt := 20) rfl rfl rfl rfl (rfl : (1 : Int32).toInt = 1) (fun q => absurd q (by omega)) (fun vh34 => ?_)
          refine X_aload_n rfl rfl rfl rfl ?_
          refine X_getI (v := vz31) rfl rfl rfl ((congrFun V.1 338).trans s_338) rfl evz31 ?_
          refine X_iload_n rfl rfl rfl rfl ?_
          refine S_icmp_ne (tgt := 20) rfl rfl rfl rfl (rfl : (19 : Int32).toInt = 19) (fun vh35 => ?_) (fun vh35 => ?_)
          · refine X_iconst (v := (0 : Int32)) rfl rfl rfl ?_
            refine LW_ireturn (st := []) rfl rfl rfl ?_
            refine S_if_eq (tgt := 113) rfl rfl rfl (rfl : (0 : Int32).toInt = 0) (fun vh36 => ?_) (fun q => absurd q (by omega))
            refine X_iload_n rfl rfl rfl rfl ?_
            refine S_if_eq (tgt := 127) rfl rfl rfl hx2 (fun vh37 => ?_) (fun vh37 => ?_)
            · exact LW_return (st := []) rfl rfl ⟨rfl, V, hG⟩
            · refine X_aload_n rfl rfl rfl rfl ?_
              refine X_getR (a := 292 + 10 * u) rfl rfl rfl ((congrFun V.1 338).trans s_338) rfl ((congrFun (congrFun hG 338) 1).trans hTt) ?_
              refine X_sipush (v := (20011 : Int32)) rfl rfl rfl ?_
              refine Y_callV (as := [.int (20011 : Int32)]) (st := []) rfl rfl rfl (by decide) rfl (Nat.le_of_ble_eq_true rfl) (by decide) (Nat.le_of_ble_eq_true rfl) rfl ((congrFun V.1 _).trans (tx_s u hu)) (by decide) (C_X11_emit_T hu V (20011 : Int32) 20011 (rfl : (20011 : Int32).toInt = 20011) (by omega) ) ?_
              rintro _ g ⟨rfl, V, hq⟩
              have hG := hq.trans hG
              exact LW_return (st := []) rfl rfl ⟨rfl, V, hG⟩
          · refine X_iconst (v := (1 : Int32)) rfl rfl rfl ?_
            refine LW_goto (tgt := 21) rfl rfl ?_
            refine LW_ireturn (st := []) rfl rfl rfl ?_
            refine S_if_eq (tgt := 113) rfl rfl rfl (rfl : (1 : Int32).toInt = 1) (fun q => absurd q (by omega)) (fun vh39 => ?_)
            refine X_aload_n rfl rfl rfl rfl ?_
            refine X_bipush (v := (19 : Int32)) rfl rfl rfl ?_
            refine X_callV (as := [.int (19 : Int32)]) (st := []) rfl rfl rfl (by decide) rfl (Nat.le_of_ble_eq_true rfl) (by decide) (Nat.le_of_ble_eq_true rfl) rfl ((congrFun V.1 338).trans s_338) (by decide) ?_
            refine LW_ls (ls' := [some (.ref 338), some (.int (19 : Int32))]) rfl ?_
            refine X_aload_n rfl rfl rfl rfl ?_
            refine X_getI (v := vz8) rfl rfl rfl ((congrFun V.1 338).trans s_338) rfl evz8 ?_
            refine X_iconst (v := (1 : Int32)) rfl rfl rfl ?_
            refine S_icmp_ne (tgt := 20) rfl rfl rfl rfl (rfl : (1 : Int32).toInt = 1) (fun q => absurd q (by omega)) (fun vh40 => ?_)
            refine X_aload_n rfl rfl rfl rfl ?_
            refine X_getI (v := vz31) rfl rfl rfl ((congrFun V.1 338).trans s_338) rfl evz31 ?_
            refine X_iload_n rfl rfl rfl rfl ?_
            refine S_icmp_ne (tgt := 20) rfl rfl rfl rfl (rfl : (19 : Int32).toInt = 19) (fun q => absurd q (by omega)) (fun vh41 => ?_)
            refine X_iconst (v := (1 : Int32)) rfl rfl rfl ?_
            refine LW_goto (tgt := 21) rfl rfl ?_
            refine LW_ireturn (st := []) rfl rfl rfl ?_
            refine X_istore (i := 4) (ls' := [some (.ref 338), some (.int x1), some (.int x2), some (.int x3), some (.int (1 : Int32))]) rfl rfl (Nat.le_of_ble_eq_true rfl) rfl ?_
            refine X_iload rfl rfl rfl ?_
            refine S_if_ne (tgt := 69) rfl rfl rfl (rfl : (1 : Int32).toInt = 1) (fun vh42 => ?_) (fun q => absurd q (by omega))
            refine X_iload_n rfl rfl rfl rfl ?_
            refine X_iload rfl rfl rfl ?_
            refine S_if_ne (tgt := 79) rfl rfl rfl (rfl : (1 : Int32).toInt = 1) (fun vh43 => ?_) (fun q => absurd q (by omega))
            refine X_iconst (v := (0 : Int32)) rfl rfl rfl ?_
            refine S_ior (n := 1) rfl rfl hx2 (rfl : (0 : Int32).toInt = 0) (by omega) (by omega) (fun vz44 hvz44 => ?_)
            refine X_istore_n (i := 2) (ls' := [some (.ref 338), some (.int x1), some (.int vz44), some (.int x3), some (.int (1 : Int32))]) rfl rfl rfl (Nat.le_of_ble_eq_true rfl) rfl ?_
            refine X_aload_n rfl rfl rfl rfl ?_
            refine Y_callV (as := []) (st := []) rfl rfl rfl (by decide) rfl (Nat.le_of_ble_eq_true rfl) (by decide) (Nat.le_of_ble_eq_true rfl) rfl ((congrFun V.1 338).trans s_338) (by decide) (C_X8_next V hu ((congrFun (congrFun hG 338) 1).trans hTt)  ) ?_
            rintro _ g ⟨rfl, V, hq⟩
            have hG := hq.trans hG
            refine X_aload_n rfl rfl rfl rfl ?_
            refine X_iload_n rfl rfl rfl rfl ?_
            refine X_iconst (v := (0 : Int32)) rfl rfl rfl ?_
            refine Y_callV (as := [.int x1, .int (0 : Int32)]) (st := []) rfl rfl rfl (by decide) rfl (Nat.le_of_ble_eq_true rfl) (by decide) (Nat.le_of_ble_eq_true rfl) rfl ((congrFun V.1 338).trans s_338) (by decide) (C_X8_readAsk V hu ((congrFun (congrFun hG 338) 1).trans hTt) x1 y1 hx1 (by omega) (0 : Int32) 0 (rfl : (0 : Int32).toInt = 0) (by omega) ) ?_
            rintro _ g ⟨rfl, V, hq⟩
            have hG := hq.trans hG
            refine X_iload rfl rfl rfl ?_
            refine S_if_eq (tgt := 107) rfl rfl rfl (rfl : (1 : Int32).toInt = 1) (fun q => absurd q (by omega)) (fun vh47 => ?_)
            refine X_aload_n rfl rfl rfl rfl ?_
            refine X_getR (a := 292 + 10 * u) rfl rfl rfl ((congrFun V.1 338).trans s_338) rfl ((congrFun (congrFun hG 338) 1).trans hTt) ?_
            refine X_sipush (v := (20010 : Int32)) rfl rfl rfl ?_
            refine Y_callV (as := [.int (20010 : Int32)]) (st := []) rfl rfl rfl (by decide) rfl (Nat.le_of_ble_eq_true rfl) (by decide) (Nat.le_of_ble_eq_true rfl) rfl ((congrFun V.1 _).trans (tx_s u hu)) (by decide) (C_X11_emit_T hu V (20010 : Int32) 20010 (rfl : (20010 : Int32).toInt = 20010) (by omega) ) ?_
            rintro _ g ⟨rfl, V, hq⟩
            have hG := hq.trans hG
            refine S_iinc (c := 1) rfl rfl rfl hx3 rfl (by omega) (fun vz49 hvz49 => ?_)
            refine LW_ls (ls' := [some (.ref 338), some (.int x1), some (.int vz44), some (.int vz49), some (.int (1 : Int32))]) rfl ?_
            refine LW_goto (tgt := 10) rfl rfl ?_
            exact ih10 _ V hG hu hTt x1 y1 hx1 (by omega) vz44 vz44.toInt rfl (by omega) vz49 vz49.toInt rfl (by omega)    (by omega)
        · refine X_iconst (v := (1 : Int32)) rfl rfl rfl ?_
          refine LW_goto (tgt := 21) rfl rfl ?_
          refine LW_ireturn (st := []) rfl rfl rfl ?_
          refine S_if_ne (tgt := 42) rfl rfl rfl (rfl : (1 : Int32).toInt = 1) (fun vh50 => ?_) (fun q => absurd q (by omega))
          refine X_aload_n rfl rfl rfl rfl ?_
          refine X_bipush (v := (19 : Int32)) rfl rfl rfl ?_
          refine X_callV (as := [.int (19 : Int32)]) (st := []) rfl rfl rfl (by decide) rfl (Nat.le_of_ble_eq_true rfl) (by decide) (Nat.le_of_ble_eq_true rfl) rfl ((congrFun V.1 338).trans s_338) (by decide) ?_
          refine LW_ls (ls' := [some (.ref 338), some (.int (19 : Int32))]) rfl ?_
          refine X_aload_n rfl rfl rfl rfl ?_
          refine X_getI (v := vz8) rfl rfl rfl ((congrFun V.1 338).trans s_338) rfl evz8 ?_
          refine X_iconst (v := (1 : Int32)) rfl rfl rfl ?_
          refine S_icmp_ne (tgt := 20) rfl rfl rfl rfl (rfl : (1 : Int32).toInt = 1) (fun q => absurd q (by omega)) (fun vh51 => ?_)
          refine X_aload_n rfl rfl rfl rfl ?_
          refine X_getI (v := vz31) rfl rfl rfl ((congrFun V.1 338).trans s_338) rfl evz31 ?_
          refine X_iload_n rfl rfl rfl rfl ?_
          refine S_icmp_ne (tgt := 20) rfl rfl rfl rfl (rfl : (19 : Int32).toInt = 19) (fun vh52 => ?_) (fun q => absurd q (by omega))
          refine X_iconst (v := (0 : Int32)) rfl rfl rfl ?_
          refine LW_ireturn (st := []) rfl rfl rfl ?_
          refine X_istore (i := 4) (ls' := [some (.ref 338), some (.int x1), some (.int x2), some (.int x3), some (.int (0 : Int32))]) rfl rfl (Nat.le_of_ble_eq_true rfl) rfl ?_
          refine X_iload rfl rfl rfl ?_
          refine S_if_ne (tgt := 69) rfl rfl rfl (rfl : (0 : Int32).toInt = 0) (fun q => absurd q (by omega)) (fun vh53 => ?_)
          refine X_iload_n rfl rfl rfl rfl ?_
          refine S_if_eq (tgt := 69) rfl rfl rfl hx2 (fun vh54 => ?_) (fun vh54 => ?_)
          · refine X_iload_n rfl rfl rfl rfl ?_
            refine X_iload rfl rfl rfl ?_
            refine S_if_ne (tgt := 79) rfl rfl rfl (rfl : (0 : Int32).toInt = 0) (fun q => absurd q (by omega)) (fun vh55 => ?_)
            refine X_iconst (v := (1 : Int32)) rfl rfl rfl ?_
            refine LW_goto (tgt := 80) rfl rfl ?_
            refine S_ior (n := 1) rfl rfl hx2 (rfl : (1 : Int32).toInt = 1) (by omega) (by omega) (fun vz56 hvz56 => ?_)
            refine X_istore_n (i := 2) (ls' := [some (.ref 338), some (.int x1), some (.int vz56), some (.int x3), some (.int (0 : Int32))]) rfl rfl rfl (Nat.le_of_ble_eq_true rfl) rfl ?_
            refine X_aload_n rfl rfl rfl rfl ?_
            refine Y_callV (as := []) (st := []) rfl rfl rfl (by decide) rfl (Nat.le_of_ble_eq_true rfl) (by decide) (Nat.le_of_ble_eq_true rfl) rfl ((congrFun V.1 338).trans s_338) (by decide) (C_X8_next V hu ((congrFun (congrFun hG 338) 1).trans hTt)  ) ?_
            rintro _ g ⟨rfl, V, hq⟩
            have hG := hq.trans hG
            refine X_aload_n rfl rfl rfl rfl ?_
            refine X_iload_n rfl rfl rfl rfl ?_
            refine X_iconst (v := (0 : Int32)) rfl rfl rfl ?_
            refine Y_callV (as := [.int x1, .int (0 : Int32)]) (st := []) rfl rfl rfl (by decide) rfl (Nat.le_of_ble_eq_true rfl) (by decide) (Nat.le_of_ble_eq_true rfl) rfl ((congrFun V.1 338).trans s_338) (by decide) (C_X8_readAsk V hu ((congrFun (congrFun hG 338) 1).trans hTt) x1 y1 hx1 (by omega) (0 : Int32) 0 (rfl : (0 : Int32).toInt = 0) (by omega) ) ?_
            rintro _ g ⟨rfl, V, hq⟩
            have hG := hq.trans hG
            refine X_iload rfl rfl rfl ?_
            refine S_if_eq (tgt := 107) rfl rfl rfl (rfl : (0 : Int32).toInt = 0) (fun vh59 => ?_) (fun q => absurd q (by omega))
            refine S_iinc (c := 1) rfl rfl rfl hx3 rfl (by omega) (fun vz60 hvz60 => ?_)
            refine LW_ls (ls' := [some (.ref 338), some (.int x1), some (.int vz56), some (.int vz60), some (.int (0 : Int32))]) rfl ?_
            refine LW_goto (tgt := 10) rfl rfl ?_
            exact ih10 _ V hG hu hTt x1 y1 hx1 (by omega) vz56 vz56.toInt rfl (by omega) vz60 vz60.toInt rfl (by omega)    (by omega)
          · refine X_aload_n rfl rfl rfl rfl ?_
            refine X_getR (a := 292 + 10 * u) rfl rfl rfl ((congrFun V.1 338).trans s_338) rfl ((congrFun (congrFun hG 338) 1).trans hTt) ?_
            refine X_sipush (v := (20011 : Int32)) rfl rfl rfl ?_
            refine Y_callV (as := [.int (20011 : Int32)]) (st := []) rfl rfl rfl (by decide) rfl (Nat.le_of_ble_eq_true rfl) (by decide) (Nat.le_of_ble_eq_true rfl) rfl ((congrFun V.1 _).trans (tx_s u hu)) (by decide) (C_X11_emit_T hu V (20011 : Int32) 20011 (rfl : (20011 : Int32).toInt = 20011) (by omega) ) ?_
            rintro _ g ⟨rfl, V, hq⟩
            have hG := hq.trans hG
            refine X_iload_n rfl rfl rfl rfl ?_
            refine X_iload rfl rfl rfl ?_
            refine S_if_ne (tgt := 79) rfl rfl rfl (rfl : (0 : Int32).toInt = 0) (fun q => absurd q (by omega)) (fun vh62 => ?_)
            refine X_iconst (v := (1 : Int32)) rfl rfl rfl ?_
            refine LW_goto (tgt := 80) rfl rfl ?_
            refine S_ior (n := 1) rfl rfl hx2 (rfl : (1 : Int32).toInt = 1) (by omega) (by omega) (fun vz63 hvz63 => ?_)
            refine X_istore_n (i := 2) (ls' := [some (.ref 338), some (.int x1), some (.int vz63), some (.int x3), some (.int (0 : Int32))]) rfl rfl rfl (Nat.le_of_ble_eq_true rfl) rfl ?_
            refine X_aload_n rfl rfl rfl rfl ?_
            refine Y_callV (as := []) (st := []) rfl rfl rfl (by decide) rfl (Nat.le_of_ble_eq_true rfl) (by decide) (Nat.le_of_ble_eq_true rfl) rfl ((congrFun V.1 338).trans s_338) (by decide) (C_X8_next V hu ((congrFun (congrFun hG 338) 1).trans hTt)  ) ?_
            rintro _ g ⟨rfl, V, hq⟩
            have hG := hq.trans hG
            refine X_aload_n rfl rfl rfl rfl ?_
            refine X_iload_n rfl rfl rfl rfl ?_
            refine X_iconst (v := (0 : Int32)) rfl rfl rfl ?_
            refine Y_callV (as := [.int x1, .int (0 : Int32)]) (st := []) rfl rfl rfl (by decide) rfl (Nat.le_of_ble_eq_true rfl) (by decide) (Nat.le_of_ble_eq_true rfl) rfl ((congrFun V.1 338).trans s_338) (by decide) (C_X8_readAsk V hu ((congrFun (congrFun hG 338) 1).trans hTt) x1 y1 hx1 (by omega) (0 : Int32) 0 (rfl : (0 : Int32).toInt = 0) (by omega) ) ?_
            rintro _ g ⟨rfl, V, hq⟩
            have hG := hq.trans hG
            refine X_iload rfl rfl rfl ?_
            refine S_if_eq (tgt := 107) rfl rfl rfl (rfl : (0 : Int32).toInt = 0) (fun vh66 => ?_) (fun q => absurd q (by omega))
            refine S_iinc (c := 1) rfl rfl rfl hx3 rfl (by omega) (fun vz67 hvz67 => ?_)
            refine LW_ls (ls' := [some (.ref 338), some (.int x1), some (.int vz63), some (.int vz67), some (.int (0 : Int32))]) rfl ?_
            refine LW_goto (tgt := 10) rfl rfl ?_
            exact ih10 _ V hG hu hTt x1 y1 hx1 (by omega) vz63 vz63.toInt rfl (by omega) vz67 vz67.toInt rfl (by omega)    (by omega)
theorem C_X8_readEither_all {P : Par} {g0 : LH} {d : Nat}  : ∀ n : Nat, (∀ (g : LH) (V : Inv P g) (hG : Gr g = Gr g0) {u : Nat} (hu : u < 4) (hTt : Gr g0 338 1 = some (292 + 10 * u)) (x1 : Int32) (y1 : Int) (hx1 : x1.toInt = y1) (hf1 : 0 ≤ y1 ∧ y1 ≤ 3) (x2 : Int32) (y2 : Int) (hx2 : x2.toInt = y2) (hf2 : 0 ≤ y2 ∧ y2 ≤ 1) (x3 : Int32) (y3 : Int) (hx3 : x3.toInt = y3) (hf3 : 0 ≤ y3 ∧ y3 ≤ 301) (o4 : Option Value) , (301 - y3) * 1 + 0 < (n : Int) → LW 97 (d + 64) 0 0 10 [some (.ref 338), some (.int x1), some (.int x2), some (.int x3), o4] [] g (fun v g' => v = none ∧ Inv P g' ∧ Gr g' = Gr g0)) := by
  intro n
  induction n with
  | zero => exact fun g V hG u hu hTt x1 y1 hx1 hf1 x2 y2 hx2 hf2 x3 y3 hx3 hf3 o4 hmu => absurd hmu (by omega)
  | succ n ih => exact fun g V hG u hu hTt x1 y1 hx1 hf1 x2 y2 hx2 hf2 x3 y3 hx3 hf3 o4 hmu => C_X8_readEither_10  V hG hu hTt x1 y1 hx1 hf1 x2 y2 hx2 hf2 x3 y3 hx3 hf3 o4 (by omega) ih
set_option maxRecDepth 10000 in
set_option maxHeartbeats 40000000 in
theorem C_X8_readEither {P : Par} {g : LH} {d : Nat}  (V : Inv P g) {u : Nat} (hu : u < 4) (hTt : Gr g 338 1 = some (292 + 10 * u)) (x1 : Int32) (y1 : Int) (hx1 : x1.toInt = y1) (hf1 : 0 ≤ y1 ∧ y1 ≤ 3)   : LW 97 (d + 64) 0 0 0 (lEnt (mL 97) [.ref 338, .int x1]) [] g (fun v g' => v = none ∧ Inv P g' ∧ Gr g' = Gr g) := by
  refine LW_ls (ls' := [some (.ref 338), some (.int x1), none, none, none]) rfl ?_
  have hG : Gr g = Gr g := rfl
  refine X_iconst (v := (0 : Int32)) rfl rfl rfl ?_
  refine X_istore_n (i := 2) (ls' := [some (.ref 338), some (.int x1), some (.int (0 : Int32)), none, none]) rfl rfl rfl (Nat.le_of_ble_eq_true rfl) rfl ?_
  refine X_aload_n rfl rfl rfl rfl ?_
  refine X_iload_n rfl rfl rfl rfl ?_
  refine X_iconst (v := (0 : Int32)) rfl rfl rfl ?_
  refine Y_callV (as := [.int x1, .int (0 : Int32)]) (st := []) rfl rfl rfl (by decide) rfl (Nat.le_of_ble_eq_true rfl) (by decide) (Nat.le_of_ble_eq_true rfl) rfl ((congrFun V.1 338).trans s_338) (by decide) (C_X8_readAsk V hu ((congrFun (congrFun hG 338) 1).trans hTt) x1 y1 hx1 (by omega) (0 : Int32) 0 (rfl : (0 : Int32).toInt = 0) (by omega) ) ?_
  rintro _ g ⟨rfl, V, hq⟩
  have hG := hq.trans hG
  refine X_iconst (v := (0 : Int32)) rfl rfl rfl ?_
  refine X_istore_n (i := 3) (ls' := [some (.ref 338), some (.int x1), some (.int (0 : Int32)), some (.int (0 : Int32)), none]) rfl rfl rfl (Nat.le_of_ble_eq_true rfl) rfl ?_
  exact (C_X8_readEither_all (((301 - 0) * 1 + 0) + 1).toNat) _ V hG hu hTt x1 y1 hx1 (by omega) (0 : Int32) 0 (rfl : (0 : Int32).toInt = 0) (by omega) (0 : Int32) 0 (rfl : (0 : Int32).toInt = 0) (by omega)    (by omega)
set_option maxRecDepth 10000 in
set_option maxHeartbeats 40000000 in
theorem C_X8_readClause {P : Par} {g : LH} {d : Nat}  (V : Inv P g) {u : Nat} (hu : u < 4) (hTt : Gr g 338 1 = some (292 + 10 * u))    : LW 90 (d + 69) 0 0 0 (lEnt (mL 90) [.ref 338]) [] g (fun v g' => v = none ∧ Inv P g' ∧ Gr g' = Gr g) := by
  refine LW_ls (ls' := [some (.ref 338), none]) rfl ?_
  have hG : Gr g = Gr g := rfl
  refine X_aload_n rfl rfl rfl rfl ?_
  refine S_getI rfl rfl rfl ((congrFun V.1 338).trans s_338) rfl (fun vz1 evz1 => ?_)
  refine X_iconst (v := (1 : Int32)) rfl rfl rfl ?_
  refine S_icmp_ne (tgt := 15) rfl rfl rfl rfl (rfl : (1 : Int32).toInt = 1) (fun vh2 => ?_) (fun vh2 => ?_)
  · refine X_iconst (v := (-1 : Int32)) rfl rfl rfl ?_
    refine X_istore_n (i := 1) (ls' := [some (.ref 338), some (.int (-1 : Int32))]) rfl rfl rfl (Nat.le_of_ble_eq_true rfl) rfl ?_
    refine X_iload_n rfl rfl rfl rfl ?_
    refine S_if_lt (tgt := 27) rfl rfl rfl (rfl : (-1 : Int32).toInt = -1) (fun vh3 => ?_) (fun q => absurd q (by omega))
    refine X_aload_n rfl rfl rfl rfl ?_
    refine X_iconst (v := (1 : Int32)) rfl rfl rfl ?_
    refine Y_callV (as := [.int (1 : Int32)]) (st := []) rfl rfl rfl (by decide) rfl (Nat.le_of_ble_eq_true rfl) (by decide) (Nat.le_of_ble_eq_true rfl) rfl ((congrFun V.1 338).trans s_338) (by decide) (C_X8_fail V hu ((congrFun (congrFun hG 338) 1).trans hTt) (1 : Int32) 1 (rfl : (1 : Int32).toInt = 1) (by omega) ) ?_
    rintro _ g ⟨vr4, rfl, hrvr40, hrvr41, V, hq⟩
    have hG := hq.trans hG
    refine X_pop rfl rfl rfl ?_
    exact LW_return (st := []) rfl rfl ⟨rfl, V, hG⟩
  · refine X_aload_n rfl rfl rfl rfl ?_
    refine S_getI rfl rfl rfl ((congrFun V.1 338).trans s_338) rfl (fun vz5 evz5 => ?_)
    refine LW_goto (tgt := 16) rfl rfl ?_
    refine X_istore_n (i := 1) (ls' := [some (.ref 338), some (.int vz5)]) rfl rfl rfl (Nat.le_of_ble_eq_true rfl) rfl ?_
    refine X_iload_n rfl rfl rfl rfl ?_
    refine S_if_lt (tgt := 27) rfl rfl rfl rfl (fun vh6 => ?_) (fun vh6 => ?_)
    · refine X_aload_n rfl rfl rfl rfl ?_
      refine X_iconst (v := (1 : Int32)) rfl rfl rfl ?_
      refine Y_callV (as := [.int (1 : Int32)]) (st := []) rfl rfl rfl (by decide) rfl (Nat.le_of_ble_eq_true rfl) (by decide) (Nat.le_of_ble_eq_true rfl) rfl ((congrFun V.1 338).trans s_338) (by decide) (C_X8_fail V hu ((congrFun (congrFun hG 338) 1).trans hTt) (1 : Int32) 1 (rfl : (1 : Int32).toInt = 1) (by omega) ) ?_
      rintro _ g ⟨vr7, rfl, hrvr70, hrvr71, V, hq⟩
      have hG := hq.trans hG
      refine X_pop rfl rfl rfl ?_
      exact LW_return (st := []) rfl rfl ⟨rfl, V, hG⟩
    · refine X_iload_n rfl rfl rfl rfl ?_
      refine X_bipush (v := (12 : Int32)) rfl rfl rfl ?_
      refine S_icmp_le (tgt := 34) rfl rfl rfl rfl (rfl : (12 : Int32).toInt = 12) (fun vh8 => ?_) (fun vh8 => ?_)
      · refine X_aload_n rfl rfl rfl rfl ?_
        refine X_getR (a := 292 + 10 * u) rfl rfl rfl ((congrFun V.1 338).trans s_338) rfl ((congrFun (congrFun hG 338) 1).trans hTt) ?_
        refine X_iload_n rfl rfl rfl rfl ?_
        refine X_callV (as := [.int vz5]) (st := []) rfl rfl rfl (by decide) rfl (Nat.le_of_ble_eq_true rfl) (by decide) (Nat.le_of_ble_eq_true rfl) rfl ((congrFun V.1 _).trans (tx_s u hu)) (by decide) ?_
        refine LW_ls (ls' := [some (.ref (292 + 10 * u)), some (.int vz5)]) rfl ?_
        refine X_iload_n rfl rfl rfl rfl ?_
        refine S_if_lt (tgt := 23) rfl rfl rfl rfl (fun q => absurd q (by omega)) (fun vh9 => ?_)
        refine X_iload_n rfl rfl rfl rfl ?_
        refine X_iconst (v := (4 : Int32)) rfl rfl rfl ?_
        refine S_icmp_ge (tgt := 23) rfl rfl rfl rfl (rfl : (4 : Int32).toInt = 4) (fun vh10 => ?_) (fun vh10 => ?_)
        · refine X_iconst (v := (0 : Int32)) rfl rfl rfl ?_
          refine LW_ireturn (st := []) rfl rfl rfl ?_
          refine S_if_eq (tgt := 52) rfl rfl rfl (rfl : (0 : Int32).toInt = 0) (fun vh11 => ?_) (fun q => absurd q (by omega))
          refine X_aload_n rfl rfl rfl rfl ?_
          refine X_getR (a := 292 + 10 * u) rfl rfl rfl ((congrFun V.1 338).trans s_338) rfl ((congrFun (congrFun hG 338) 1).trans hTt) ?_
          refine S_getI rfl rfl rfl ((congrFun V.1 _).trans (tx_s u hu)) rfl (fun vz12 evz12 => ?_)
          have vf13 := K_15_0 (V.2.2.2.2.1 (292 + 10 * u) (0) (by omega)) (tx_k u hu)
          rw [evz12] at vf13
          refine X_bipush (v := (24 : Int32)) rfl rfl rfl ?_
          refine S_icmp_lt (tgt := 72) rfl rfl rfl rfl (rfl : (24 : Int32).toInt = 24) (fun vh14 => ?_) (fun vh14 => ?_)
          · refine X_aload_n rfl rfl rfl rfl ?_
            refine X_aload_n rfl rfl rfl rfl ?_
            refine X_getR (a := 292 + 10 * u) rfl rfl rfl ((congrFun V.1 338).trans s_338) rfl ((congrFun (congrFun hG 338) 1).trans hTt) ?_
            refine X_getI (v := vz12) rfl rfl rfl ((congrFun V.1 _).trans (tx_s u hu)) rfl evz12 ?_
            refine S_putI (I := Inv _) rfl rfl rfl ((congrFun V.1 338).trans s_338) rfl rfl rfl rfl (Inv_putI V (Nat.le_of_ble_eq_true rfl) (Or.inl (by decide)) (Q_17_6 rk_338 (by omega))) (fun g V ve15 vn16 hq => ?_)
            have hG := hq.trans hG
            have evz1 := (vn16 338 3 (Or.inr (by decide))).trans evz1
            have evz5 := (vn16 338 4 (Or.inr (by decide))).trans evz5
            have evz12 := (vn16 T 0 (Or.inl (by omega))).trans evz12
            refine X_aload_n rfl rfl rfl rfl ?_
            refine X_getR (a := 292 + 10 * u) rfl rfl rfl ((congrFun V.1 338).trans s_338) rfl ((congrFun (congrFun hG 338) 1).trans hTt) ?_
            refine X_iload_n rfl rfl rfl rfl ?_
            refine Y_callV (as := [.int vz5]) (st := []) rfl rfl rfl (by decide) rfl (Nat.le_of_ble_eq_true rfl) (by decide) (Nat.le_of_ble_eq_true rfl) rfl ((congrFun V.1 _).trans (tx_s u hu)) (by decide) (C_X11_begin_T hu V vz5 vz5.toInt rfl (by omega) ) ?_
            rintro _ g ⟨rfl, V, hq⟩
            have hG := hq.trans hG
            refine X_aload_n rfl rfl rfl rfl ?_
            refine Y_callV (as := []) (st := []) rfl rfl rfl (by decide) rfl (Nat.le_of_ble_eq_true rfl) (by decide) (Nat.le_of_ble_eq_true rfl) rfl ((congrFun V.1 338).trans s_338) (by decide) (C_X8_next V hu ((congrFun (congrFun hG 338) 1).trans hTt)  ) ?_
            rintro _ g ⟨rfl, V, hq⟩
            have hG := hq.trans hG
            refine X_iload_n rfl rfl rfl rfl ?_
            refine X_iconst (v := (4 : Int32)) rfl rfl rfl ?_
            refine S_icmp_lt (tgt := 108) rfl rfl rfl rfl (rfl : (4 : Int32).toInt = 4) (fun q => absurd q (by omega)) (fun vh19 => ?_)
            refine X_aload_n rfl rfl rfl rfl ?_
            refine X_iload_n rfl rfl rfl rfl ?_
            refine Y_callV (as := [.int vz5]) (st := []) rfl rfl rfl (by decide) rfl (Nat.le_of_ble_eq_true rfl) (by decide) (Nat.le_of_ble_eq_true rfl) rfl ((congrFun V.1 338).trans s_338) (by decide) (C_X8_readDeed V hu ((congrFun (congrFun hG 338) 1).trans hTt) vz5 vz5.toInt rfl (by omega) ) ?_
            rintro _ g ⟨rfl, V, hq⟩
            have hG := hq.trans hG
            refine LW_goto (tgt := 159) rfl rfl ?_
            refine X_aload_n rfl rfl rfl rfl ?_
            refine X_bipush (v := (59 : Int32)) rfl rfl rfl ?_
            refine Y_callV (as := [.int (59 : Int32)]) (st := []) rfl rfl rfl (by decide) rfl (Nat.le_of_ble_eq_true rfl) (by decide) (Nat.le_of_ble_eq_true rfl) rfl ((congrFun V.1 338).trans s_338) (by decide) (C_X8_takeSymbol V hu ((congrFun (congrFun hG 338) 1).trans hTt) (59 : Int32) 59 (rfl : (59 : Int32).toInt = 59) (by omega) ) ?_
            rintro _ g ⟨rfl, V, hq⟩
            have hG := hq.trans hG
            exact LW_return (st := []) rfl rfl ⟨rfl, V, hG⟩
          · refine X_aload_n rfl rfl rfl rfl ?_
            refine X_bipush (v := (6 : Int32)) rfl rfl rfl ?_
            refine Y_callV (as := [.int (6 : Int32)]) (st := []) rfl rfl rfl (by decide) rfl (Nat.le_of_ble_eq_true rfl) (by decide) (Nat.le_of_ble_eq_true rfl) rfl ((congrFun V.1 338).trans s_338) (by decide) (C_X8_fail V hu ((congrFun (congrFun hG 338) 1).trans hTt) (6 : Int32) 6 (rfl : (6 : Int32).toInt = 6) (by omega) ) ?_
            rintro _ g ⟨vr22, rfl, hrvr220, hrvr221, V, hq⟩
            have hG := hq.trans hG
            refine X_pop rfl rfl rfl ?_
            exact LW_return (st := []) rfl rfl ⟨rfl, V, hG⟩
        · refine X_aload_n rfl rfl rfl rfl ?_
          refine X_getR (a := 299 + 10 * u) rfl rfl rfl ((congrFun V.1 _).trans (tx_s u hu)) rfl ((congrFun (V.2.1 (292 + 10 * u) (by omega)) 7).trans (tx_r7 u hu)) ?_
          refine X_iload_n rfl rfl rfl rfl ?_
          refine S_iald rfl rfl ((congrFun V.1 _).trans (tx_s7 u hu)) rfl (by omega) (fun vz23 evz23 => ?_)
          have vf24 := K_6 (V.2.2.2.2.1 (299 + 10 * u) ((vz5.toInt).toNat) (by omega)) (tx_k7 u hu)
          rw [evz23] at vf24
          refine X_iconst (v := (-1 : Int32)) rfl rfl rfl ?_
          refine S_icmp_eq (tgt := 23) rfl rfl rfl rfl (rfl : (-1 : Int32).toInt = -1) (fun vh25 => ?_) (fun vh25 => ?_)
          · refine X_iconst (v := (0 : Int32)) rfl rfl rfl ?_
            refine LW_ireturn (st := []) rfl rfl rfl ?_
            refine S_if_eq (tgt := 52) rfl rfl rfl (rfl : (0 : Int32).toInt = 0) (fun vh26 => ?_) (fun q => absurd q (by omega))
            refine X_aload_n rfl rfl rfl rfl ?_
            refine X_getR (a := 292 + 10 * u) rfl rfl rfl ((congrFun V.1 338).trans s_338) rfl ((congrFun (congrFun hG 338) 1).trans hTt) ?_
            refine S_getI rfl rfl rfl ((congrFun V.1 _).trans (tx_s u hu)) rfl (fun vz27 evz27 => ?_)
            have vf28 := K_15_0 (V.2.2.2.2.1 (292 + 10 * u) (0) (by omega)) (tx_k u hu)
            rw [evz27] at vf28
            refine X_bipush (v := (24 : Int32)) rfl rfl rfl ?_
            refine S_icmp_lt (tgt := 72) rfl rfl rfl rfl (rfl : (24 : Int32).toInt = 24) (fun vh29 => ?_) (fun vh29 => ?_)
            · refine X_aload_n rfl rfl rfl rfl ?_
              refine X_aload_n rfl rfl rfl rfl ?_
              refine X_getR (a := 292 + 10 * u) rfl rfl rfl ((congrFun V.1 338).trans s_338) rfl ((congrFun (congrFun hG 338) 1).trans hTt) ?_
              refine X_getI (v := vz27) rfl rfl rfl ((congrFun V.1 _).trans (tx_s u hu)) rfl evz27 ?_
              refine S_putI (I := Inv _) rfl rfl rfl ((congrFun V.1 338).trans s_338) rfl rfl rfl rfl (Inv_putI V (Nat.le_of_ble_eq_true rfl) (Or.inl (by decide)) (Q_17_6 rk_338 (by omega))) (fun g V ve30 vn31 hq => ?_)
              have hG := hq.trans hG
              have evz1 := (vn31 338 3 (Or.inr (by decide))).trans evz1
              have evz5 := (vn31 338 4 (Or.inr (by decide))).trans evz5
              have evz27 := (vn31 T 0 (Or.inl (by omega))).trans evz27
              refine X_aload_n rfl rfl rfl rfl ?_
              refine X_getR (a := 292 + 10 * u) rfl rfl rfl ((congrFun V.1 338).trans s_338) rfl ((congrFun (congrFun hG 338) 1).trans hTt) ?_
              refine X_iload_n rfl rfl rfl rfl ?_
              refine Y_callV (as := [.int vz5]) (st := []) rfl rfl rfl (by decide) rfl (Nat.le_of_ble_eq_true rfl) (by decide) (Nat.le_of_ble_eq_true rfl) rfl ((congrFun V.1 _).trans (tx_s u hu)) (by decide) (C_X11_begin_T hu V vz5 vz5.toInt rfl (by omega) ) ?_
              rintro _ g ⟨rfl, V, hq⟩
              have hG := hq.trans hG
              refine X_aload_n rfl rfl rfl rfl ?_
              refine Y_callV (as := []) (st := []) rfl rfl rfl (by decide) rfl (Nat.le_of_ble_eq_true rfl) (by decide) (Nat.le_of_ble_eq_true rfl) rfl ((congrFun V.1 338).trans s_338) (by decide) (C_X8_next V hu ((congrFun (congrFun hG 338) 1).trans hTt)  ) ?_
              rintro _ g ⟨rfl, V, hq⟩
              have hG := hq.trans hG
              refine X_iload_n rfl rfl rfl rfl ?_
              refine X_iconst (v := (4 : Int32)) rfl rfl rfl ?_
              refine S_icmp_lt (tgt := 108) rfl rfl rfl rfl (rfl : (4 : Int32).toInt = 4) (fun vh34 => ?_) (fun q => absurd q (by omega))
              refine X_aload_n rfl rfl rfl rfl ?_
              refine X_getR (a := 292 + 10 * u) rfl rfl rfl ((congrFun V.1 338).trans s_338) rfl ((congrFun (congrFun hG 338) 1).trans hTt) ?_
              refine X_getR (a := 299 + 10 * u) rfl rfl rfl ((congrFun V.1 _).trans (tx_s u hu)) rfl ((congrFun (V.2.1 (292 + 10 * u) (by omega)) 7).trans (tx_r7 u hu)) ?_
              refine X_iload_n rfl rfl rfl rfl ?_
              refine X_aload_n rfl rfl rfl rfl ?_
              refine X_getR (a := 292 + 10 * u) rfl rfl rfl ((congrFun V.1 338).trans s_338) rfl ((congrFun (congrFun hG 338) 1).trans hTt) ?_
              refine S_getI rfl rfl rfl ((congrFun V.1 _).trans (tx_s u hu)) rfl (fun vz35 evz35 => ?_)
              have vf36 := K_15_9 (V.2.2.2.2.1 (292 + 10 * u) (9) (by omega)) (tx_k u hu)
              rw [evz35] at vf36
              refine S_iast (I := Inv _) rfl rfl ((congrFun V.1 _).trans (tx_s7 u hu)) rfl (by omega) (Inv_putI V (by omega) (Or.inl (by omega)) (Q_6 (tx_k7 u hu) (by omega))) (fun g V ve37 vn38 hq => ?_)
              have hG := hq.trans hG
              have evz35 := (vn38 T 9 (Or.inl (by omega))).trans evz35
              refine X_iload_n rfl rfl rfl rfl ?_
              refine X_iconst (v := (2 : Int32)) rfl rfl rfl ?_
              refine S_icmp_ne (tgt := 138) rfl rfl rfl rfl (rfl : (2 : Int32).toInt = 2) (fun vh39 => ?_) (fun vh39 => ?_)
              · refine X_aload_n rfl rfl rfl rfl ?_
                refine X_iload_n rfl rfl rfl rfl ?_
                refine Y_callV (as := [.int vz5]) (st := []) rfl rfl rfl (by decide) rfl (Nat.le_of_ble_eq_true rfl) (by decide) (Nat.le_of_ble_eq_true rfl) rfl ((congrFun V.1 338).trans s_338) (by decide) (C_X8_readEither V hu ((congrFun (congrFun hG 338) 1).trans hTt) vz5 vz5.toInt rfl (by omega) ) ?_
                rintro _ g ⟨rfl, V, hq⟩
                have hG := hq.trans hG
                refine X_aload_n rfl rfl rfl rfl ?_
                refine X_getR (a := 292 + 10 * u) rfl rfl rfl ((congrFun V.1 338).trans s_338) rfl ((congrFun (congrFun hG 338) 1).trans hTt) ?_
                refine X_getR (a := 300 + 10 * u) rfl rfl rfl ((congrFun V.1 _).trans (tx_s u hu)) rfl ((congrFun (V.2.1 (292 + 10 * u) (by omega)) 8).trans (tx_r8 u hu)) ?_
                refine X_iload_n rfl rfl rfl rfl ?_
                refine X_aload_n rfl rfl rfl rfl ?_
                refine X_getR (a := 292 + 10 * u) rfl rfl rfl ((congrFun V.1 338).trans s_338) rfl ((congrFun (congrFun hG 338) 1).trans hTt) ?_
                refine S_getI rfl rfl rfl ((congrFun V.1 _).trans (tx_s u hu)) rfl (fun vz41 evz41 => ?_)
                have vf42 := K_15_9 (V.2.2.2.2.1 (292 + 10 * u) (9) (by omega)) (tx_k u hu)
                rw [evz41] at vf42
                refine S_iast (I := Inv _) rfl rfl ((congrFun V.1 _).trans (tx_s8 u hu)) rfl (by omega) (Inv_putI V (by omega) (Or.inl (by omega)) (Q_6 (tx_k8 u hu) (by omega))) (fun g V ve43 vn44 hq => ?_)
                have hG := hq.trans hG
                have evz41 := (vn44 T 9 (Or.inl (by omega))).trans evz41
                refine X_aload_n rfl rfl rfl rfl ?_
                refine X_bipush (v := (59 : Int32)) rfl rfl rfl ?_
                refine Y_callV (as := [.int (59 : Int32)]) (st := []) rfl rfl rfl (by decide) rfl (Nat.le_of_ble_eq_true rfl) (by decide) (Nat.le_of_ble_eq_true rfl) rfl ((congrFun V.1 338).trans s_338) (by decide) (C_X8_takeSymbol V hu ((congrFun (congrFun hG 338) 1).trans hTt) (59 : Int32) 59 (rfl : (59 : Int32).toInt = 59) (by omega) ) ?_
                rintro _ g ⟨rfl, V, hq⟩
                have hG := hq.trans hG
                exact LW_return (st := []) rfl rfl ⟨rfl, V, hG⟩
              · refine X_aload_n rfl rfl rfl rfl ?_
                refine X_iload_n rfl rfl rfl rfl ?_
                refine X_iconst (v := (0 : Int32)) rfl rfl rfl ?_
                refine Y_callV (as := [.int vz5, .int (0 : Int32)]) (st := []) rfl rfl rfl (by decide) rfl (Nat.le_of_ble_eq_true rfl) (by decide) (Nat.le_of_ble_eq_true rfl) rfl ((congrFun V.1 338).trans s_338) (by decide) (C_X8_readSum V hu ((congrFun (congrFun hG 338) 1).trans hTt) vz5 vz5.toInt rfl (by omega) (0 : Int32) 0 (rfl : (0 : Int32).toInt = 0) (by omega) ) ?_
                rintro _ g ⟨rfl, V, hq⟩
                have hG := hq.trans hG
                refine LW_goto (tgt := 143) rfl rfl ?_
                refine X_aload_n rfl rfl rfl rfl ?_
                refine X_getR (a := 292 + 10 * u) rfl rfl rfl ((congrFun V.1 338).trans s_338) rfl ((congrFun (congrFun hG 338) 1).trans hTt) ?_
                refine X_getR (a := 300 + 10 * u) rfl rfl rfl ((congrFun V.1 _).trans (tx_s u hu)) rfl ((congrFun (V.2.1 (292 + 10 * u) (by omega)) 8).trans (tx_r8 u hu)) ?_
                refine X_iload_n rfl rfl rfl rfl ?_
                refine X_aload_n rfl rfl rfl rfl ?_
                refine X_getR (a := 292 + 10 * u) rfl rfl rfl ((congrFun V.1 338).trans s_338) rfl ((congrFun (congrFun hG 338) 1).trans hTt) ?_
                refine S_getI rfl rfl rfl ((congrFun V.1 _).trans (tx_s u hu)) rfl (fun vz47 evz47 => ?_)
                have vf48 := K_15_9 (V.2.2.2.2.1 (292 + 10 * u) (9) (by omega)) (tx_k u hu)
                rw [evz47] at vf48
                refine S_iast (I := Inv _) rfl rfl ((congrFun V.1 _).trans (tx_s8 u hu)) rfl (by omega) (Inv_putI V (by omega) (Or.inl (by omega)) (Q_6 (tx_k8 u hu) (by omega))) (fun g V ve49 vn50 hq => ?_)
                have hG := hq.trans hG
                have evz47 := (vn50 T 9 (Or.inl (by omega))).trans evz47
                refine X_aload_n rfl rfl rfl rfl ?_
                refine X_bipush (v := (59 : Int32)) rfl rfl rfl ?_
                refine Y_callV (as := [.int (59 : Int32)]) (st := []) rfl rfl rfl (by decide) rfl (Nat.le_of_ble_eq_true rfl) (by decide) (Nat.le_of_ble_eq_true rfl) rfl ((congrFun V.1 338).trans s_338) (by decide) (C_X8_takeSymbol V hu ((congrFun (congrFun hG 338) 1).trans hTt) (59 : Int32) 59 (rfl : (59 : Int32).toInt = 59) (by omega) ) ?_
                rintro _ g ⟨rfl, V, hq⟩
                have hG := hq.trans hG
                exact LW_return (st := []) rfl rfl ⟨rfl, V, hG⟩
            · refine X_aload_n rfl rfl rfl rfl ?_
              refine X_bipush (v := (6 : Int32)) rfl rfl rfl ?_
              refine Y_callV (as := [.int (6 : Int32)]) (st := []) rfl rfl rfl (by decide) rfl (Nat.le_of_ble_eq_true rfl) (by decide) (Nat.le_of_ble_eq_true rfl) rfl ((congrFun V.1 338).trans s_338) (by decide) (C_X8_fail V hu ((congrFun (congrFun hG 338) 1).trans hTt) (6 : Int32) 6 (rfl : (6 : Int32).toInt = 6) (by omega) ) ?_
              rintro _ g ⟨vr52, rfl, hrvr520, hrvr521, V, hq⟩
              have hG := hq.trans hG
              refine X_pop rfl rfl rfl ?_
              exact LW_return (st := []) rfl rfl ⟨rfl, V, hG⟩
          · refine X_iconst (v := (1 : Int32)) rfl rfl rfl ?_
            refine LW_goto (tgt := 24) rfl rfl ?_
            refine LW_ireturn (st := []) rfl rfl rfl ?_
            refine S_if_eq (tgt := 52) rfl rfl rfl (rfl : (1 : Int32).toInt = 1) (fun q => absurd q (by omega)) (fun vh53 => ?_)
            refine X_aload_n rfl rfl rfl rfl ?_
            refine X_iconst (v := (4 : Int32)) rfl rfl rfl ?_
            refine Y_callV (as := [.int (4 : Int32)]) (st := []) rfl rfl rfl (by decide) rfl (Nat.le_of_ble_eq_true rfl) (by decide) (Nat.le_of_ble_eq_true rfl) rfl ((congrFun V.1 338).trans s_338) (by decide) (C_X8_fail V hu ((congrFun (congrFun hG 338) 1).trans hTt) (4 : Int32) 4 (rfl : (4 : Int32).toInt = 4) (by omega) ) ?_
            rintro _ g ⟨vr54, rfl, hrvr540, hrvr541, V, hq⟩
            have hG := hq.trans hG
            refine X_pop rfl rfl rfl ?_
            exact LW_return (st := []) rfl rfl ⟨rfl, V, hG⟩
      · refine X_aload_n rfl rfl rfl rfl ?_
        refine X_iconst (v := (1 : Int32)) rfl rfl rfl ?_
        refine Y_callV (as := [.int (1 : Int32)]) (st := []) rfl rfl rfl (by decide) rfl (Nat.le_of_ble_eq_true rfl) (by decide) (Nat.le_of_ble_eq_true rfl) rfl ((congrFun V.1 338).trans s_338) (by decide) (C_X8_fail V hu ((congrFun (congrFun hG 338) 1).trans hTt) (1 : Int32) 1 (rfl : (1 : Int32).toInt = 1) (by omega) ) ?_
        rintro _ g ⟨vr55, rfl, hrvr550, hrvr551, V, hq⟩
        have hG := hq.trans hG
        refine X_pop rfl rfl rfl ?_
        exact LW_return (st := []) rfl rfl ⟨rfl, V, hG⟩
set_option maxRecDepth 10000 in
set_option maxHeartbeats 40000000 in
theorem C_X8_read_338_T_51 {P : Par} {g g0 : LH} {d n : Nat}  {u : Nat} (hu : u < 4) (V : Inv P g) (hG : Gr g = Gr g0) (x2 : Int32) (y2 : Int) (hx2 : x2.toInt = y2) (hf2 : 0 ≤ y2 ∧ y2 ≤ 301)  (hmu : (301 - y2) * 1 + 0 < (n : Int) + 1) (ih51 : ∀ (g : LH) {u : Nat} (hu : u < 4) (V : Inv P g) (hG : Gr g = Gr g0) (x2 : Int32) (y2 : Int) (hx2 : x2.toInt = y2) (hf2 : 0 ≤ y2 ∧ y2 ≤ 301) , (301 - y2) * 1 + 0 < (n : Int) → LW 83 (d + 73) 0 0 51 [some (.ref 338), some (.ref (292 + 10 * u)), some (.int x2)] [] g (fun v g' => ∃ r : Int32, v = some (.int r) ∧ 0 ≤ r.toInt ∧ r.toInt ≤ 1 ∧ Inv P g')) : LW 83 (d + 73) 0 0 51 [some (.ref 338), some (.ref (292 + 10 * u)), some (.int x2)] [] g (fun v g' => ∃ r : Int32, v = some (.int r) ∧ 0 ≤ r.toInt ∧ r.toInt ≤ 1 ∧ Inv P g') := by
  refine X_iload_n rfl rfl rfl rfl ?_
  refine X_sipush (v := (300 : Int32)) rfl rfl rfl ?_
  refine S_icmp_gt (tgt := 82) rfl rfl rfl hx2 (rfl : (300 : Int32).toInt = 300) (fun vh1 => ?_) (fun vh1 => ?_)
  · refine X_aload_n rfl rfl rfl rfl ?_
    refine S_getI rfl rfl rfl ((congrFun V.1 338).trans s_338) rfl (fun vz2 evz2 => ?_)
    refine S_if_ne (tgt := 93) rfl rfl rfl rfl (fun vh3 => ?_) (fun vh3 => ?_)
    · refine X_iconst (v := (0 : Int32)) rfl rfl rfl ?_
      exact LW_ireturn (st := []) rfl rfl rfl ⟨_, rfl, by decide, by decide, V⟩
    · refine X_iconst (v := (1 : Int32)) rfl rfl rfl ?_
      refine LW_goto (tgt := 94) rfl rfl ?_
      exact LW_ireturn (st := []) rfl rfl rfl ⟨_, rfl, by decide, by decide, V⟩
  · refine X_aload_n rfl rfl rfl rfl ?_
    refine S_getI rfl rfl rfl ((congrFun V.1 338).trans s_338) rfl (fun vz4 evz4 => ?_)
    refine S_if_ne (tgt := 82) rfl rfl rfl rfl (fun vh5 => ?_) (fun vh5 => ?_)
    · refine X_aload_n rfl rfl rfl rfl ?_
      refine X_getI (v := vz4) rfl rfl rfl ((congrFun V.1 338).trans s_338) rfl evz4 ?_
      refine S_if_ne (tgt := 93) rfl rfl rfl rfl (fun vh6 => ?_) (fun vh6 => ?_)
      · refine X_iconst (v := (0 : Int32)) rfl rfl rfl ?_
        exact LW_ireturn (st := []) rfl rfl rfl ⟨_, rfl, by decide, by decide, V⟩
      · refine X_iconst (v := (1 : Int32)) rfl rfl rfl ?_
        refine LW_goto (tgt := 94) rfl rfl ?_
        exact LW_ireturn (st := []) rfl rfl rfl ⟨_, rfl, by decide, by decide, V⟩
    · refine X_aload_n rfl rfl rfl rfl ?_
      refine S_getI rfl rfl rfl ((congrFun V.1 338).trans s_338) rfl (fun vz7 evz7 => ?_)
      refine S_if_eq (tgt := 82) rfl rfl rfl rfl (fun vh8 => ?_) (fun vh8 => ?_)
      · refine X_aload_n rfl rfl rfl rfl ?_
        refine X_getI (v := vz4) rfl rfl rfl ((congrFun V.1 338).trans s_338) rfl evz4 ?_
        refine S_if_ne (tgt := 93) rfl rfl rfl rfl (fun q => absurd q (by omega)) (fun vh9 => ?_)
        refine X_iconst (v := (1 : Int32)) rfl rfl rfl ?_
        refine LW_goto (tgt := 94) rfl rfl ?_
        exact LW_ireturn (st := []) rfl rfl rfl ⟨_, rfl, by decide, by decide, V⟩
      · refine X_aload_n rfl rfl rfl rfl ?_
        refine Y_callV (as := []) (st := []) rfl rfl rfl (by decide) rfl (Nat.le_of_ble_eq_true rfl) (by decide) (Nat.le_of_ble_eq_true rfl) rfl ((congrFun V.1 338).trans s_338) (by decide) (C_X8_readClause V hu ((congrFun (congrFun hG 338) 1).trans hTt)  ) ?_
        rintro _ g ⟨rfl, V, hq⟩
        have hG := hq.trans hG
        refine S_iinc (c := 1) rfl rfl rfl hx2 rfl (by omega) (fun vz11 hvz11 => ?_)
        refine LW_ls (ls' := [some (.ref 338), some (.ref (292 + 10 * u)), some (.int vz11)]) rfl ?_
        refine LW_goto (tgt := 51) rfl rfl ?_
        exact ih51 _ hu V hG vz11 vz11.toInt rfl (by omega)    (by omega)
theorem C_X8_read_338_T_all {P : Par} {g0 : LH} {d : Nat}  : ∀ n : Nat, (∀ (g : LH) {u : Nat} (hu : u < 4) (V : Inv P g) (hG : Gr g = Gr g0) (x2 : Int32) (y2 : Int) (hx2 : x2.toInt = y2) (hf2 : 0 ≤ y2 ∧ y2 ≤ 301) , (301 - y2) * 1 + 0 < (n : Int) → LW 83 (d + 73) 0 0 51 [some (.ref 338), some (.ref (292 + 10 * u)), some (.int x2)] [] g (fun v g' => ∃ r : Int32, v = some (.int r) ∧ 0 ≤ r.toInt ∧ r.toInt ≤ 1 ∧ Inv P g')) := by
  intro n
  induction n with
  | zero => exact fun g u hu V hG x2 y2 hx2 hf2 hmu => absurd hmu (by omega)
  | succ n ih => exact fun g u hu V hG x2 y2 hx2 hf2 hmu => C_X8_read_338_T_51  hu V hG x2 y2 hx2 hf2 (by omega) ih
set_option maxRecDepth 10000 in
set_option maxHeartbeats 40000000 in
theorem C_X8_read_338_T {P : Par} {g : LH} {d : Nat}  {u : Nat} (hu : u < 4) (V : Inv P g)    : LW 83 (d + 73) 0 0 0 (lEnt (mL 83) [.ref 338, .ref (292 + 10 * u)]) [] g (fun v g' => ∃ r : Int32, v = some (.int r) ∧ 0 ≤ r.toInt ∧ r.toInt ≤ 1 ∧ Inv P g') := by
  refine LW_ls (ls' := [some (.ref 338), some (.ref (292 + 10 * u)), none]) rfl ?_
  have hG : Gr g = Gr g := rfl
  refine X_aload_n rfl rfl rfl rfl ?_
  refine LW_ifnonnull (tgt := 6) rfl rfl ?_
  refine X_aload_n rfl rfl rfl rfl ?_
  refine X_aload_n rfl rfl rfl rfl ?_
  refine S_putText V hu rfl rfl rfl rfl (fun g V hTt vn1 => ?_)
  have hG : Gr g = Gr g := rfl
  refine X_aload_n rfl rfl rfl rfl ?_
  refine X_getR (a := 292 + 10 * u) rfl rfl rfl ((congrFun V.1 338).trans s_338) rfl ((congrFun (congrFun hG 338) 1).trans hTt) ?_
  refine Y_callV (as := []) (st := []) rfl rfl rfl (by decide) rfl (Nat.le_of_ble_eq_true rfl) (by decide) (Nat.le_of_ble_eq_true rfl) rfl ((congrFun V.1 _).trans (tx_s u hu)) (by decide) (C_X11_clear_T hu V  ) ?_
  rintro _ g ⟨rfl, V, hq⟩
  have hG := hq.trans hG
  refine X_aload_n rfl rfl rfl rfl ?_
  refine X_iconst (v := (1 : Int32)) rfl rfl rfl ?_
  refine S_putI (I := Inv _) rfl rfl rfl ((congrFun V.1 338).trans s_338) rfl rfl rfl rfl (Inv_putI V (Nat.le_of_ble_eq_true rfl) (Or.inl (by decide)) (Q_17_7 rk_338)) (fun g V ve3 vn4 hq => ?_)
  have hG := hq.trans hG
  refine X_aload_n rfl rfl rfl rfl ?_
  refine X_iconst (v := (0 : Int32)) rfl rfl rfl ?_
  refine S_putI (I := Inv _) rfl rfl rfl ((congrFun V.1 338).trans s_338) rfl rfl rfl rfl (Inv_putI V (Nat.le_of_ble_eq_true rfl) (Or.inl (by decide)) (Q_17_8 rk_338)) (fun g V ve5 vn6 hq => ?_)
  have hG := hq.trans hG
  have ve3 := (vn6 338 7 (Or.inr (by decide))).trans ve3
  refine X_aload_n rfl rfl rfl rfl ?_
  refine X_iconst (v := (-1 : Int32)) rfl rfl rfl ?_
  refine S_putI (I := Inv _) rfl rfl rfl ((congrFun V.1 338).trans s_338) rfl rfl rfl rfl (Inv_putI V (Nat.le_of_ble_eq_true rfl) (Or.inl (by decide)) (Q_17_9 rk_338)) (fun g V ve7 vn8 hq => ?_)
  have hG := hq.trans hG
  have ve3 := (vn8 338 7 (Or.inr (by decide))).trans ve3
  have ve5 := (vn8 338 8 (Or.inr (by decide))).trans ve5
  refine X_aload_n rfl rfl rfl rfl ?_
  refine X_getR (a := 332) rfl rfl rfl ((congrFun V.1 338).trans s_338) rfl ((V.2.2.1 0 (by decide)).trans r_338_0) ?_
  refine Y_callV (as := []) (st := []) rfl rfl rfl (by decide) rfl (Nat.le_of_ble_eq_true rfl) (by decide) (Nat.le_of_ble_eq_true rfl) rfl ((congrFun V.1 332).trans s_332) (by decide) (C_X10_cut V  ) ?_
  rintro _ g ⟨rfl, V, hq⟩
  have hG := hq.trans hG
  refine X_aload_n rfl rfl rfl rfl ?_
  refine X_iconst (v := (-1 : Int32)) rfl rfl rfl ?_
  refine S_putI (I := Inv _) rfl rfl rfl ((congrFun V.1 338).trans s_338) rfl rfl rfl rfl (Inv_putI V (Nat.le_of_ble_eq_true rfl) (Or.inl (by decide)) (Q_17_2 rk_338 (by omega))) (fun g V ve10 vn11 hq => ?_)
  have hG := hq.trans hG
  refine X_aload_n rfl rfl rfl rfl ?_
  refine Y_callV (as := []) (st := []) rfl rfl rfl (by decide) rfl (Nat.le_of_ble_eq_true rfl) (by decide) (Nat.le_of_ble_eq_true rfl) rfl ((congrFun V.1 338).trans s_338) (by decide) (C_X8_next V hu ((congrFun (congrFun hG 338) 1).trans hTt)  ) ?_
  rintro _ g ⟨rfl, V, hq⟩
  have hG := hq.trans hG
  refine X_iconst (v := (0 : Int32)) rfl rfl rfl ?_
  refine X_istore_n (i := 2) (ls' := [some (.ref 338), some (.ref (292 + 10 * u)), some (.int (0 : Int32))]) rfl rfl rfl (Nat.le_of_ble_eq_true rfl) rfl ?_
  exact (C_X8_read_338_T_all (((301 - 0) * 1 + 0) + 1).toNat) _ hu V hG (0 : Int32) 0 (rfl : (0 : Int32).toInt = 0) (by omega)    (by omega)
set_option maxRecDepth 10000 in
set_option maxHeartbeats 40000000 in
theorem C_X12_text {P : Par} {g : LH} {d : Nat}  (V : Inv P g)    : LW 131 (d + 77) 0 0 0 (lEnt (mL 131) [.ref 0]) [] g (fun v g' => ∃ r : Int32, v = some (.int r) ∧ (-1) ≤ r.toInt ∧ r.toInt ≤ 4 ∧ Inv P g') := by
  refine LW_ls (ls' := [some (.ref 0), none]) rfl ?_
  have hG : Gr g = Gr g := rfl
  refine X_aload_n rfl rfl rfl rfl ?_
  refine X_getR (a := 1) rfl rfl rfl ((congrFun V.1 0).trans s_0) rfl ((congrFun (V.2.1 0 (by decide)) 0).trans r_0_0) ?_
  refine S_getI rfl rfl rfl ((congrFun V.1 1).trans s_1) rfl (fun vz1 evz1 => ?_)
  have vf2 := K_13_5 (V.2.2.2.2.1 (1) (5) (Nat.le_of_ble_eq_true rfl)) rk_1
  rw [evz1] at vf2
  refine S_if_lt (tgt := 25) rfl rfl rfl rfl (fun q => absurd q (by omega)) (fun vh3 => ?_)
  refine X_aload_n rfl rfl rfl rfl ?_
  refine X_getR (a := 1) rfl rfl rfl ((congrFun V.1 0).trans s_0) rfl ((congrFun (V.2.1 0 (by decide)) 0).trans r_0_0) ?_
  refine X_getI (v := vz1) rfl rfl rfl ((congrFun V.1 1).trans s_1) rfl evz1 ?_
  refine X_aload_n rfl rfl rfl rfl ?_
  refine X_getR (a := 291) rfl rfl rfl ((congrFun V.1 0).trans s_0) rfl ((congrFun (V.2.1 0 (by decide)) 2).trans r_0_2) ?_
  refine X_alen (t0 := 4) (v := (4 : Int32)) rfl rfl ((congrFun V.1 291).trans s_291) rfl rfl ?_
  refine S_icmp_lt (tgt := 27) rfl rfl rfl rfl (rfl : (4 : Int32).toInt = 4) (fun vh4 => ?_) (fun vh4 => ?_)
  · refine X_aload_n rfl rfl rfl rfl ?_
    refine X_getR (a := 338) rfl rfl rfl ((congrFun V.1 0).trans s_0) rfl ((congrFun (V.2.1 0 (by decide)) 4).trans r_0_4) ?_
    refine X_aload_n rfl rfl rfl rfl ?_
    refine X_getR (a := 291) rfl rfl rfl ((congrFun V.1 0).trans s_0) rfl ((congrFun (V.2.1 0 (by decide)) 2).trans r_0_2) ?_
    refine X_aload_n rfl rfl rfl rfl ?_
    refine X_getR (a := 1) rfl rfl rfl ((congrFun V.1 0).trans s_0) rfl ((congrFun (V.2.1 0 (by decide)) 0).trans r_0_0) ?_
    refine X_getI (v := vz1) rfl rfl rfl ((congrFun V.1 1).trans s_1) rfl evz1 ?_
    obtain ⟨u, hu, eu⟩ : ∃ t : Nat, t < 4 ∧ (t : Int) = vz1.toInt := ⟨(vz1.toInt).toNat, by omega, by omega⟩
    refine X_aald (a := 292 + 10 * u) (t0 := 4) rfl rfl ((congrFun V.1 291).trans s_291) rfl (ti_idx (n := 4) rfl (by omega)).1 (by rw [(ti_idx (n := 4) rfl (by omega)).2, show (vz1.toInt).toNat = u by omega]; exact (congrFun (V.2.1 291 (by decide)) u).trans (tx_a u hu)) ?_
    refine Y_callV (as := [.ref (292 + 10 * u)]) (st := []) rfl rfl rfl (by decide) rfl (Nat.le_of_ble_eq_true rfl) (by decide) (Nat.le_of_ble_eq_true rfl) rfl ((congrFun V.1 338).trans s_338) (by decide) (C_X8_read_338_T hu V  ) ?_
    rintro _ g ⟨vr5, rfl, hrvr50, hrvr51, V⟩
    have hG : Gr g = Gr g := rfl
    refine X_istore_n (i := 1) (ls' := [some (.ref 0), some (.int vr5)]) rfl rfl rfl (Nat.le_of_ble_eq_true rfl) rfl ?_
    refine X_aload_n rfl rfl rfl rfl ?_
    refine X_getR (a := 332) rfl rfl rfl ((congrFun V.1 0).trans s_0) rfl ((congrFun (V.2.1 0 (by decide)) 3).trans r_0_3) ?_
    refine X_iconst (v := (0 : Int32)) rfl rfl rfl ?_
    refine S_putI (I := Inv _) rfl rfl rfl ((congrFun V.1 332).trans s_332) rfl rfl rfl rfl (Inv_putI V (Nat.le_of_ble_eq_true rfl) (Or.inl (by decide)) (Q_16_0 rk_332 (by omega))) (fun g V ve6 vn7 hq => ?_)
    have hG := hq.trans hG
    refine X_iload_n rfl rfl rfl rfl ?_
    refine S_if_ne (tgt := 61) rfl rfl rfl rfl (fun vh8 => ?_) (fun vh8 => ?_)
    · refine X_aload_n rfl rfl rfl rfl ?_
      refine X_getR (a := 1) rfl rfl rfl ((congrFun V.1 0).trans s_0) rfl ((congrFun (V.2.1 0 (by decide)) 0).trans r_0_0) ?_
      refine X_dup rfl rfl rfl ?_
      refine S_getI rfl rfl rfl ((congrFun V.1 1).trans s_1) rfl (fun vz9 evz9 => ?_)
      have vf10 := K_13_5 (V.2.2.2.2.1 (1) (5) (Nat.le_of_ble_eq_true rfl)) rk_1
      rw [evz9] at vf10
      refine X_iconst (v := (1 : Int32)) rfl rfl rfl ?_
      refine S_iadd rfl rfl rfl (rfl : (1 : Int32).toInt = 1) (by omega) (fun vz11 hvz11 => ?_)
      refine S_putI (I := Inv _) rfl rfl rfl ((congrFun V.1 1).trans s_1) rfl rfl rfl rfl (Inv_putI V (Nat.le_of_ble_eq_true rfl) (Or.inr (by decide)) (Q_13_5 rk_1 (by omega))) (fun g V ve12 vn13 hq => ?_)
      have hG := hq.trans hG
      have ve6 := (vn13 332 0 (Or.inl (by decide))).trans ve6
      refine X_aload_n rfl rfl rfl rfl ?_
      refine X_getR (a := 1) rfl rfl rfl ((congrFun V.1 0).trans s_0) rfl ((congrFun (V.2.1 0 (by decide)) 0).trans r_0_0) ?_
      refine X_getI (v := vz11) rfl rfl rfl ((congrFun V.1 1).trans s_1) rfl ve12 ?_
      refine X_iconst (v := (1 : Int32)) rfl rfl rfl ?_
      refine S_isub rfl rfl rfl (rfl : (1 : Int32).toInt = 1) (by omega) (fun vz14 hvz14 => ?_)
      have hr := (rfl : vz14.toInt = vz14.toInt)
      exact LW_ireturn (st := []) rfl rfl rfl ⟨_, rfl, by omega, by omega, V⟩
    · refine X_iconst (v := (-1 : Int32)) rfl rfl rfl ?_
      exact LW_ireturn (st := []) rfl rfl rfl ⟨_, rfl, by decide, by decide, V⟩
  · refine X_iconst (v := (-1 : Int32)) rfl rfl rfl ?_
    exact LW_ireturn (st := []) rfl rfl rfl ⟨_, rfl, by decide, by decide, V⟩
set_option maxRecDepth 10000 in
set_option maxHeartbeats 40000000 in
theorem C_X12_fault {P : Par} {g : LH} {d : Nat}  (V : Inv P g) (x1 : Int32) (y1 : Int) (hx1 : x1.toInt = y1)   : LW 132 (d + 3) 0 0 0 (lEnt (mL 132) [.ref 0, .int x1]) [] g (fun v g' => ∃ r : Int32, v = some (.int r) ∧ g = g') := by
  refine LW_ls (ls' := [some (.ref 0), some (.int x1)]) rfl ?_
  refine X_aload_n rfl rfl rfl rfl ?_
  refine X_getR (a := 338) rfl rfl rfl ((congrFun V.1 0).trans s_0) rfl ((congrFun (V.2.1 0 (by decide)) 4).trans r_0_4) ?_
  refine S_getI rfl rfl rfl ((congrFun V.1 338).trans s_338) rfl (fun vz1 evz1 => ?_)
  refine S_if_ne (tgt := 12) rfl rfl rfl rfl (fun vh2 => ?_) (fun vh2 => ?_)
  · refine X_iload_n rfl rfl rfl rfl ?_
    refine S_if_ne (tgt := 26) rfl rfl rfl hx1 (fun vh3 => ?_) (fun vh3 => ?_)
    · refine X_iload_n rfl rfl rfl rfl ?_
      refine X_iconst (v := (1 : Int32)) rfl rfl rfl ?_
      refine S_icmp_ne (tgt := 41) rfl rfl rfl hx1 (rfl : (1 : Int32).toInt = 1) (fun vh4 => ?_) (fun vh4 => ?_)
      · refine X_iconst (v := (-1 : Int32)) rfl rfl rfl ?_
        exact LW_ireturn (st := []) rfl rfl rfl ⟨_, rfl, rfl⟩
      · refine X_aload_n rfl rfl rfl rfl ?_
        refine X_getR (a := 338) rfl rfl rfl ((congrFun V.1 0).trans s_0) rfl ((congrFun (V.2.1 0 (by decide)) 4).trans r_0_4) ?_
        refine S_getI rfl rfl rfl ((congrFun V.1 338).trans s_338) rfl (fun vz5 evz5 => ?_)
        refine LW_goto (tgt := 42) rfl rfl ?_
        exact LW_ireturn (st := []) rfl rfl rfl ⟨_, rfl, rfl⟩
    · refine X_aload_n rfl rfl rfl rfl ?_
      refine X_getR (a := 338) rfl rfl rfl ((congrFun V.1 0).trans s_0) rfl ((congrFun (V.2.1 0 (by decide)) 4).trans r_0_4) ?_
      refine S_getI rfl rfl rfl ((congrFun V.1 338).trans s_338) rfl (fun vz6 evz6 => ?_)
      refine LW_goto (tgt := 42) rfl rfl ?_
      exact LW_ireturn (st := []) rfl rfl rfl ⟨_, rfl, rfl⟩
  · refine X_iconst (v := (-1 : Int32)) rfl rfl rfl ?_
    exact LW_ireturn (st := []) rfl rfl rfl ⟨_, rfl, rfl⟩
set_option maxRecDepth 10000 in
set_option maxHeartbeats 40000000 in
theorem C_X12_by {P : Par} {g : LH} {d : Nat}  (V : Inv P g) (x1 : Int32) (y1 : Int) (hx1 : x1.toInt = y1)   : LW 133 (d + 4) 0 0 0 (lEnt (mL 133) [.ref 0, .int x1]) [] g (fun v g' => ∃ r : Int32, v = some (.int r) ∧ 0 ≤ r.toInt ∧ r.toInt ≤ 1 ∧ Inv P g' ∧ Gr g' = Gr g) := by
  refine LW_ls (ls' := [some (.ref 0), some (.int x1)]) rfl ?_
  have hG : Gr g = Gr g := rfl
  refine X_iload_n rfl rfl rfl rfl ?_
  refine X_iconst (v := (-1 : Int32)) rfl rfl rfl ?_
  refine S_icmp_eq (tgt := 15) rfl rfl rfl hx1 (rfl : (-1 : Int32).toInt = -1) (fun vh1 => ?_) (fun vh1 => ?_)
  · refine X_aload_n rfl rfl rfl rfl ?_
    refine X_getR (a := 1) rfl rfl rfl ((congrFun V.1 0).trans s_0) rfl ((congrFun (V.2.1 0 (by decide)) 0).trans r_0_0) ?_
    refine X_iload_n rfl rfl rfl rfl ?_
    refine S_putI (I := Inv _) rfl rfl rfl ((congrFun V.1 1).trans s_1) rfl rfl rfl rfl (Inv_putI V (Nat.le_of_ble_eq_true rfl) (Or.inr (by decide)) (Q_13_6 rk_1 (by omega))) (fun g V ve2 vn3 hq => ?_)
    have hG := hq.trans hG
    refine X_iconst (v := (1 : Int32)) rfl rfl rfl ?_
    exact LW_ireturn (st := []) rfl rfl rfl ⟨_, rfl, by decide, by decide, V, hG⟩
  · refine X_aload_n rfl rfl rfl rfl ?_
    refine X_iload_n rfl rfl rfl rfl ?_
    refine X_callV (as := [.int x1]) (st := []) rfl rfl rfl (by decide) rfl (Nat.le_of_ble_eq_true rfl) (by decide) (Nat.le_of_ble_eq_true rfl) rfl ((congrFun V.1 0).trans s_0) (by decide) ?_
    refine LW_ls (ls' := [some (.ref 0), some (.int x1)]) rfl ?_
    refine X_iload_n rfl rfl rfl rfl ?_
    refine S_if_lt (tgt := 28) rfl rfl rfl hx1 (fun vh4 => ?_) (fun vh4 => ?_)
    · refine X_iconst (v := (0 : Int32)) rfl rfl rfl ?_
      refine LW_ireturn (st := []) rfl rfl rfl ?_
      refine S_if_ne (tgt := 15) rfl rfl rfl (rfl : (0 : Int32).toInt = 0) (fun q => absurd q (by omega)) (fun vh5 => ?_)
      refine X_iconst (v := (0 : Int32)) rfl rfl rfl ?_
      exact LW_ireturn (st := []) rfl rfl rfl ⟨_, rfl, by decide, by decide, V, hG⟩
    · refine X_iload_n rfl rfl rfl rfl ?_
      refine X_aload_n rfl rfl rfl rfl ?_
      refine X_getR (a := 1) rfl rfl rfl ((congrFun V.1 0).trans s_0) rfl ((congrFun (V.2.1 0 (by decide)) 0).trans r_0_0) ?_
      refine S_getI rfl rfl rfl ((congrFun V.1 1).trans s_1) rfl (fun vz6 evz6 => ?_)
      have vf7 := K_13_5 (V.2.2.2.2.1 (1) (5) (Nat.le_of_ble_eq_true rfl)) rk_1
      rw [evz6] at vf7
      refine S_icmp_ge (tgt := 28) rfl rfl rfl hx1 rfl (fun vh8 => ?_) (fun vh8 => ?_)
      · refine X_iconst (v := (0 : Int32)) rfl rfl rfl ?_
        refine LW_ireturn (st := []) rfl rfl rfl ?_
        refine S_if_ne (tgt := 15) rfl rfl rfl (rfl : (0 : Int32).toInt = 0) (fun q => absurd q (by omega)) (fun vh9 => ?_)
        refine X_iconst (v := (0 : Int32)) rfl rfl rfl ?_
        exact LW_ireturn (st := []) rfl rfl rfl ⟨_, rfl, by decide, by decide, V, hG⟩
      · refine X_iload_n rfl rfl rfl rfl ?_
        refine X_aload_n rfl rfl rfl rfl ?_
        refine X_getR (a := 291) rfl rfl rfl ((congrFun V.1 0).trans s_0) rfl ((congrFun (V.2.1 0 (by decide)) 2).trans r_0_2) ?_
        refine X_alen (t0 := 4) (v := (4 : Int32)) rfl rfl ((congrFun V.1 291).trans s_291) rfl rfl ?_
        refine S_icmp_ge (tgt := 28) rfl rfl rfl hx1 (rfl : (4 : Int32).toInt = 4) (fun q => absurd q (by omega)) (fun vh10 => ?_)
        refine X_iconst (v := (1 : Int32)) rfl rfl rfl ?_
        refine LW_goto (tgt := 29) rfl rfl ?_
        refine LW_ireturn (st := []) rfl rfl rfl ?_
        refine S_if_ne (tgt := 15) rfl rfl rfl (rfl : (1 : Int32).toInt = 1) (fun vh11 => ?_) (fun q => absurd q (by omega))
        refine X_aload_n rfl rfl rfl rfl ?_
        refine X_getR (a := 1) rfl rfl rfl ((congrFun V.1 0).trans s_0) rfl ((congrFun (V.2.1 0 (by decide)) 0).trans r_0_0) ?_
        refine X_iload_n rfl rfl rfl rfl ?_
        refine S_putI (I := Inv _) rfl rfl rfl ((congrFun V.1 1).trans s_1) rfl rfl rfl rfl (Inv_putI V (Nat.le_of_ble_eq_true rfl) (Or.inr (by decide)) (Q_13_6 rk_1 (by omega))) (fun g V ve12 vn13 hq => ?_)
        have hG := hq.trans hG
        have evz6 := (vn13 1 5 (Or.inr (by decide))).trans evz6
        refine X_iconst (v := (1 : Int32)) rfl rfl rfl ?_
        exact LW_ireturn (st := []) rfl rfl rfl ⟨_, rfl, by decide, by decide, V, hG⟩
set_option maxRecDepth 10000 in
set_option maxHeartbeats 40000000 in
theorem C_X9_outs {P : Par} {g : LH} {d : Nat}  (V : Inv P g)    : LW 107 (d + 5) 0 0 0 (lEnt (mL 107) [.ref 10]) [] g (fun v g' => ∃ r : Int32, v = some (.int r) ∧ 0 ≤ r.toInt ∧ r.toInt ≤ 63 ∧ g = g') := by
  refine LW_ls (ls' := [some (.ref 10)]) rfl ?_
  refine X_aload_n rfl rfl rfl rfl ?_
  refine S_getI rfl rfl rfl ((congrFun V.1 10).trans s_10) rfl (fun vz1 evz1 => ?_)
  refine Y_callS (as := [.int vz1]) (st := []) rfl rfl rfl (by decide) rfl (Nat.le_of_ble_eq_true rfl) (by decide) (Nat.le_of_ble_eq_true rfl) rfl (C_J6_bitCount_0f7a4 V vz1 vz1.toInt rfl ) ?_
  rintro _ g' ⟨vr2, rfl, hrvr20, hrvr21, hgg⟩
  subst hgg
  have hr := (rfl : vr2.toInt = vr2.toInt)
  exact LW_ireturn (st := []) rfl rfl rfl ⟨_, rfl, by omega, by omega, rfl⟩
set_option maxRecDepth 10000 in
set_option maxHeartbeats 40000000 in
theorem C_X9_move_12 {P : Par} {g g0 : LH} {d n : Nat}  (V : Inv P g) (hG : Gr g = Gr g0) (x1 : Int32) (y1 : Int) (hx1 : x1.toInt = y1) (x2 : Int32) (y2 : Int) (hx2 : x2.toInt = y2) (hf2 : 0 ≤ y2 ∧ y2 ≤ 26) (hc10_0 : ) (hmu : (26 - y2) * 1 + 0 < (n : Int) + 1) (ih12 : ∀ (g : LH) (V : Inv P g) (hG : Gr g = Gr g0) (x1 : Int32) (y1 : Int) (hx1 : x1.toInt = y1) (x2 : Int32) (y2 : Int) (hx2 : x2.toInt = y2) (hf2 : 0 ≤ y2 ∧ y2 ≤ 26) (hc10_0 : ), (26 - y2) * 1 + 0 < (n : Int) → LW 109 (d + 3) 0 0 12 [some (.ref 10), some (.int x1), some (.int x2)] [] g (fun v g' => v = none ∧ Inv P g' ∧ Gr g' = Gr g0)) : LW 109 (d + 3) 0 0 12 [some (.ref 10), some (.int x1), some (.int x2)] [] g (fun v g' => v = none ∧ Inv P g' ∧ Gr g' = Gr g0) := by
  obtain ⟨vz1, evz1⟩ : ∃ z, Gi g 10 0 = z := ⟨_, rfl⟩
  rw [evz1] at hc10_0
  refine X_iload_n rfl rfl rfl rfl ?_
  refine X_bipush (v := (26 : Int32)) rfl rfl rfl ?_
  refine S_icmp_ge (tgt := 39) rfl rfl rfl hx2 (rfl : (26 : Int32).toInt = 26) (fun vh2 => ?_) (fun vh2 => ?_)
  · exact LW_return (st := []) rfl rfl ⟨rfl, V, hG⟩
  · refine X_iload_n rfl rfl rfl rfl ?_
    refine X_iload_n rfl rfl rfl rfl ?_
    refine S_ishrT rfl rfl (fun vz3 => ?_)
    refine X_iconst (v := (1 : Int32)) rfl rfl rfl ?_
    refine S_iandR (k := 1) rfl rfl rfl (fun vz4 hvz4 => ?_)
    refine S_if_eq (tgt := 33) rfl rfl rfl rfl (fun vh5 => ?_) (fun vh5 => ?_)
    · refine S_iinc (c := 1) rfl rfl rfl hx2 rfl (by omega) (fun vz6 hvz6 => ?_)
      refine LW_ls (ls' := [some (.ref 10), some (.int x1), some (.int vz6)]) rfl ?_
      refine LW_goto (tgt := 12) rfl rfl ?_
      exact ih12 _ V hG x1 y1 hx1 vz6 vz6.toInt rfl (by omega) (by rw [evz1]; omega)   (by omega)
    · refine X_aload_n rfl rfl rfl rfl ?_
      refine X_getR (a := 12) rfl rfl rfl ((congrFun V.1 10).trans s_10) rfl ((congrFun (V.2.1 10 (by decide)) 5).trans r_10_5) ?_
      refine X_iload_n rfl rfl rfl rfl ?_
      refine X_iconst (v := (0 : Int32)) rfl rfl rfl ?_
      refine S_iast (I := Inv _) rfl rfl ((congrFun V.1 12).trans s_12) hx2 (by omega) (Inv_putI V (Nat.le_of_ble_eq_true rfl) (Or.inl (by decide)) (Q_0 rk_12)) (fun g V ve7 vn8 hq => ?_)
      have hG := hq.trans hG
      have evz1 := (vn8 10 0 (Or.inl (by decide))).trans evz1
      refine S_iinc (c := 1) rfl rfl rfl hx2 rfl (by omega) (fun vz9 hvz9 => ?_)
      refine LW_ls (ls' := [some (.ref 10), some (.int x1), some (.int vz9)]) rfl ?_
      refine LW_goto (tgt := 12) rfl rfl ?_
      exact ih12 _ V hG x1 y1 hx1 vz9 vz9.toInt rfl (by omega) (by rw [evz1]; omega)   (by omega)
theorem C_X9_move_all {P : Par} {g0 : LH} {d : Nat}  : ∀ n : Nat, (∀ (g : LH) (V : Inv P g) (hG : Gr g = Gr g0) (x1 : Int32) (y1 : Int) (hx1 : x1.toInt = y1) (x2 : Int32) (y2 : Int) (hx2 : x2.toInt = y2) (hf2 : 0 ≤ y2 ∧ y2 ≤ 26) (hc10_0 : ), (26 - y2) * 1 + 0 < (n : Int) → LW 109 (d + 3) 0 0 12 [some (.ref 10), some (.int x1), some (.int x2)] [] g (fun v g' => v = none ∧ Inv P g' ∧ Gr g' = Gr g0)) := by
  intro n
  induction n with
  | zero => exact fun g V hG x1 y1 hx1 x2 y2 hx2 hf2 hc10_0 hmu => absurd hmu (by omega)
  | succ n ih => exact fun g V hG x1 y1 hx1 x2 y2 hx2 hf2 hc10_0 hmu => C_X9_move_12  V hG x1 y1 hx1 x2 y2 hx2 hf2 hc10_0 (by omega) ih
set_option maxRecDepth 10000 in
set_option maxHeartbeats 40000000 in
theorem C_X9_move {P : Par} {g : LH} {d : Nat}  (V : Inv P g) (x1 : Int32) (y1 : Int) (hx1 : x1.toInt = y1)   : LW 109 (d + 3) 0 0 0 (lEnt (mL 109) [.ref 10, .int x1]) [] g (fun v g' => v = none ∧ Inv P g' ∧ Gr g' = Gr g) := by
  refine LW_ls (ls' := [some (.ref 10), some (.int x1), none]) rfl ?_
  have hG : Gr g = Gr g := rfl
  refine X_aload_n rfl rfl rfl rfl ?_
  refine X_dup rfl rfl rfl ?_
  refine S_getI rfl rfl rfl ((congrFun V.1 10).trans s_10) rfl (fun vz1 evz1 => ?_)
  refine X_iload_n rfl rfl rfl rfl ?_
  refine S_ixorT rfl rfl (fun vz2 => ?_)
  refine S_putI (I := Inv _) rfl rfl rfl ((congrFun V.1 10).trans s_10) rfl rfl rfl rfl (Inv_putI V (Nat.le_of_ble_eq_true rfl) (Or.inl (by decide)) (Q_11_0 rk_10)) (fun g V ve3 vn4 hq => ?_)
  have hG := hq.trans hG
  refine X_iconst (v := (0 : Int32)) rfl rfl rfl ?_
  refine X_istore_n (i := 2) (ls' := [some (.ref 10), some (.int x1), some (.int (0 : Int32))]) rfl rfl rfl (Nat.le_of_ble_eq_true rfl) rfl ?_
  exact (C_X9_move_all (((26 - 0) * 1 + 0) + 1).toNat) _ V hG x1 y1 hx1 (0 : Int32) 0 (rfl : (0 : Int32).toInt = 0) (by omega) (by rw [ve3]; omega)   (by omega)
set_option maxRecDepth 10000 in
set_option maxHeartbeats 40000000 in
theorem C_X9_copyFrom_S_10 {P : Par} {g : LH} {d : Nat}  {t : Nat} (ht : t < 30) (V : Inv P g)    : LW 105 (d + 4) 0 0 0 (lEnt (mL 105) [.ref (16 + 4 * t), .ref 10]) [] g (fun v g' => v = none ∧ Inv P g' ∧ Gr g' = Gr g) := by
  refine LW_ls (ls' := [some (.ref (16 + 4 * t)), some (.ref 10)]) rfl ?_
  have hG : Gr g = Gr g := rfl
  refine X_aload_n rfl rfl rfl rfl ?_
  refine X_aload_n rfl rfl rfl rfl ?_
  refine S_getI rfl rfl rfl ((congrFun V.1 10).trans s_10) rfl (fun vz1 evz1 => ?_)
  refine S_putI (I := Inv _) rfl rfl rfl ((congrFun V.1 _).trans (sp_s t ht)) rfl rfl rfl rfl (Inv_putI V (by omega) (Or.inl (by omega)) (Q_11_0 (sp_k t ht))) (fun g V ve2 vn3 hq => ?_)
  have hG := hq.trans hG
  have evz1 := (vn3 10 0 (Or.inl (by omega))).trans evz1
  refine X_aload_n rfl rfl rfl rfl ?_
  refine X_aload_n rfl rfl rfl rfl ?_
  refine S_getI rfl rfl rfl ((congrFun V.1 10).trans s_10) rfl (fun vz4 evz4 => ?_)
  have vf5 := K_11_1 (V.2.2.2.2.1 (10) (1) (Nat.le_of_ble_eq_true rfl)) rk_10
  rw [evz4] at vf5
  refine S_putI (I := Inv _) rfl rfl rfl ((congrFun V.1 _).trans (sp_s t ht)) rfl rfl rfl rfl (Inv_putI V (by omega) (Or.inl (by omega)) (Q_11_1 (sp_k t ht) (by omega))) (fun g V ve6 vn7 hq => ?_)
  have hG := hq.trans hG
  have evz1 := (vn7 10 0 (Or.inl (by omega))).trans evz1
  have ve2 := (vn7 S 0 (Or.inl (by omega))).trans ve2
  have evz4 := (vn7 10 1 (Or.inl (by omega))).trans evz4
  refine X_aload_n rfl rfl rfl rfl ?_
  refine X_aload_n rfl rfl rfl rfl ?_
  refine S_getI rfl rfl rfl ((congrFun V.1 10).trans s_10) rfl (fun vz8 evz8 => ?_)
  refine S_putI (I := Inv _) rfl rfl rfl ((congrFun V.1 _).trans (sp_s t ht)) rfl rfl rfl rfl (Inv_putI V (by omega) (Or.inl (by omega)) (Q_11_2 (sp_k t ht))) (fun g V ve9 vn10 hq => ?_)
  have hG := hq.trans hG
  have evz1 := (vn10 10 0 (Or.inl (by omega))).trans evz1
  have ve2 := (vn10 S 0 (Or.inl (by omega))).trans ve2
  have evz4 := (vn10 10 1 (Or.inl (by omega))).trans evz4
  have ve6 := (vn10 S 1 (Or.inl (by omega))).trans ve6
  have evz8 := (vn10 10 2 (Or.inl (by omega))).trans evz8
  refine X_aload_n rfl rfl rfl rfl ?_
  refine X_aload_n rfl rfl rfl rfl ?_
  refine S_getI rfl rfl rfl ((congrFun V.1 10).trans s_10) rfl (fun vz11 evz11 => ?_)
  have vf12 := K_11_3 (V.2.2.2.2.1 (10) (3) (Nat.le_of_ble_eq_true rfl)) rk_10
  rw [evz11] at vf12
  refine S_putI (I := Inv _) rfl rfl rfl ((congrFun V.1 _).trans (sp_s t ht)) rfl rfl rfl rfl (Inv_putI V (by omega) (Or.inl (by omega)) (Q_11_3 (sp_k t ht) (by omega))) (fun g V ve13 vn14 hq => ?_)
  have hG := hq.trans hG
  have evz1 := (vn14 10 0 (Or.inl (by omega))).trans evz1
  have ve2 := (vn14 S 0 (Or.inl (by omega))).trans ve2
  have evz4 := (vn14 10 1 (Or.inl (by omega))).trans evz4
  have ve6 := (vn14 S 1 (Or.inl (by omega))).trans ve6
  have evz8 := (vn14 10 2 (Or.inl (by omega))).trans evz8
  have ve9 := (vn14 S 2 (Or.inl (by omega))).trans ve9
  have evz11 := (vn14 10 3 (Or.inl (by omega))).trans evz11
  refine X_aload_n rfl rfl rfl rfl ?_
  refine X_getR (a := 11) rfl rfl rfl ((congrFun V.1 10).trans s_10) rfl ((congrFun (V.2.1 10 (by decide)) 4).trans r_10_4) ?_
  refine X_iconst (v := (0 : Int32)) rfl rfl rfl ?_
  refine X_aload_n rfl rfl rfl rfl ?_
  refine X_getR (a := 17 + 4 * t) rfl rfl rfl ((congrFun V.1 _).trans (sp_s t ht)) rfl ((congrFun (V.2.1 (16 + 4 * t) (by omega)) 4).trans (sp_r4 t ht)) ?_
  refine X_iconst (v := (0 : Int32)) rfl rfl rfl ?_
  refine X_bipush (v := (26 : Int32)) rfl rfl rfl ?_
  refine S_copy (I := Inv _) (sp' := 0) (dp' := 0) (n' := 26) rfl rfl rfl ((congrFun V.1 11).trans s_11) ((congrFun V.1 _).trans (sp_s4 t ht)) (by decide) (by decide) (by decide) rfl rfl rfl (by decide) (by decide) (Nat.le_of_ble_eq_true rfl) (Inv_cpy V (Nat.le_of_ble_eq_true rfl) (by omega) (by omega) (U_0 rk_11 (sp_k4 t ht))) (fun g V vn15 hq => ?_)
  have hG := hq.trans hG
  refine X_aload_n rfl rfl rfl rfl ?_
  refine X_getR (a := 12) rfl rfl rfl ((congrFun V.1 10).trans s_10) rfl ((congrFun (V.2.1 10 (by decide)) 5).trans r_10_5) ?_
  refine X_iconst (v := (0 : Int32)) rfl rfl rfl ?_
  refine X_aload_n rfl rfl rfl rfl ?_
  refine X_getR (a := 18 + 4 * t) rfl rfl rfl ((congrFun V.1 _).trans (sp_s t ht)) rfl ((congrFun (V.2.1 (16 + 4 * t) (by omega)) 5).trans (sp_r5 t ht)) ?_
  refine X_iconst (v := (0 : Int32)) rfl rfl rfl ?_
  refine X_bipush (v := (26 : Int32)) rfl rfl rfl ?_
  refine S_copy (I := Inv _) (sp' := 0) (dp' := 0) (n' := 26) rfl rfl rfl ((congrFun V.1 12).trans s_12) ((congrFun V.1 _).trans (sp_s5 t ht)) (by decide) (by decide) (by decide) rfl rfl rfl (by decide) (by decide) (Nat.le_of_ble_eq_true rfl) (Inv_cpy V (Nat.le_of_ble_eq_true rfl) (by omega) (by omega) (U_0 rk_12 (sp_k5 t ht))) (fun g V vn16 hq => ?_)
  have hG := hq.trans hG
  refine X_aload_n rfl rfl rfl rfl ?_
  refine X_getR (a := 13) rfl rfl rfl ((congrFun V.1 10).trans s_10) rfl ((congrFun (V.2.1 10 (by decide)) 6).trans r_10_6) ?_
  refine X_iconst (v := (0 : Int32)) rfl rfl rfl ?_
  refine X_aload_n rfl rfl rfl rfl ?_
  refine X_getR (a := 19 + 4 * t) rfl rfl rfl ((congrFun V.1 _).trans (sp_s t ht)) rfl ((congrFun (V.2.1 (16 + 4 * t) (by omega)) 6).trans (sp_r6 t ht)) ?_
  refine X_iconst (v := (0 : Int32)) rfl rfl rfl ?_
  refine X_bipush (v := (26 : Int32)) rfl rfl rfl ?_
  refine S_copy (I := Inv _) (sp' := 0) (dp' := 0) (n' := 26) rfl rfl rfl ((congrFun V.1 13).trans s_13) ((congrFun V.1 _).trans (sp_s6 t ht)) (by decide) (by decide) (by decide) rfl rfl rfl (by decide) (by decide) (Nat.le_of_ble_eq_true rfl) (Inv_cpy V (Nat.le_of_ble_eq_true rfl) (by omega) (by omega) (U_0 rk_13 (sp_k6 t ht))) (fun g V vn17 hq => ?_)
  have hG := hq.trans hG
  exact LW_return (st := []) rfl rfl ⟨rfl, V, hG⟩
set_option maxRecDepth 10000 in
set_option maxHeartbeats 40000000 in
theorem C_X3_keep_14_10 {P : Par} {g : LH} {d : Nat}  (V : Inv P g)    : LW 24 (d + 8) 0 0 0 (lEnt (mL 24) [.ref 14, .ref 10]) [] g (fun v g' => v = none ∧ Inv P g' ∧ Gr g' = Gr g) := by
  refine LW_ls (ls' := [some (.ref 14), some (.ref 10)]) rfl ?_
  have hG : Gr g = Gr g := rfl
  refine X_aload_n rfl rfl rfl rfl ?_
  refine S_getI rfl rfl rfl ((congrFun V.1 14).trans s_14) rfl (fun vz1 evz1 => ?_)
  have vf2 := K_12_0 (V.2.2.2.2.1 (14) (0) (Nat.le_of_ble_eq_true rfl)) rk_14
  rw [evz1] at vf2
  refine X_bipush (v := (30 : Int32)) rfl rfl rfl ?_
  refine S_icmp_ne (tgt := 32) rfl rfl rfl rfl (rfl : (30 : Int32).toInt = 30) (fun vh3 => ?_) (fun vh3 => ?_)
  · refine X_aload_n rfl rfl rfl rfl ?_
    refine X_getR (a := 15) rfl rfl rfl ((congrFun V.1 14).trans s_14) rfl ((congrFun (V.2.1 14 (by decide)) 2).trans r_14_2) ?_
    refine X_aload_n rfl rfl rfl rfl ?_
    refine S_getI rfl rfl rfl ((congrFun V.1 14).trans s_14) rfl (fun vz4 evz4 => ?_)
    have vf5 := K_12_1 (V.2.2.2.2.1 (14) (1) (Nat.le_of_ble_eq_true rfl)) rk_14
    rw [evz4] at vf5
    refine X_aload_n rfl rfl rfl rfl ?_
    refine X_getI (v := vz1) rfl rfl rfl ((congrFun V.1 14).trans s_14) rfl evz1 ?_
    refine S_iadd rfl rfl rfl rfl (by omega) (fun vz6 hvz6 => ?_)
    refine X_bipush (v := (30 : Int32)) rfl rfl rfl ?_
    refine S_irem rfl rfl rfl (rfl : (30 : Int32).toInt = 30) (by omega) (by omega) (fun vz7 hvz7 => ?_)
    obtain ⟨t, ht, et⟩ : ∃ t : Nat, t < 30 ∧ (t : Int) = vz7.toInt := ⟨(vz7.toInt).toNat, by omega, by omega⟩
    refine X_aald (a := 16 + 4 * t) (t0 := 3) rfl rfl ((congrFun V.1 15).trans s_15) rfl (ti_idx (n := 30) rfl (by omega)).1 (by rw [(ti_idx (n := 30) rfl (by omega)).2, show (vz7.toInt).toNat = t by omega]; exact (congrFun (V.2.1 15 (by decide)) t).trans (sp_a t ht)) ?_
    refine X_aload_n rfl rfl rfl rfl ?_
    refine Y_callV (as := [.ref 10]) (st := []) rfl rfl rfl (by decide) rfl (Nat.le_of_ble_eq_true rfl) (by decide) (Nat.le_of_ble_eq_true rfl) rfl ((congrFun V.1 _).trans (sp_s t ht)) (by decide) (C_X9_copyFrom_S_10 ht V  ) ?_
    rintro _ g ⟨rfl, V, hq⟩
    have hG := hq.trans hG
    refine X_aload_n rfl rfl rfl rfl ?_
    refine X_dup rfl rfl rfl ?_
    refine S_getI rfl rfl rfl ((congrFun V.1 14).trans s_14) rfl (fun vz9 evz9 => ?_)
    have vf10 := K_12_0 (V.2.2.2.2.1 (14) (0) (Nat.le_of_ble_eq_true rfl)) rk_14
    rw [evz9] at vf10
    refine X_iconst (v := (1 : Int32)) rfl rfl rfl ?_
    refine S_iadd rfl rfl rfl (rfl : (1 : Int32).toInt = 1) (by omega) (fun vz11 hvz11 => ?_)
    refine S_putI (I := Inv _) rfl rfl rfl ((congrFun V.1 14).trans s_14) rfl rfl rfl rfl (Inv_putI V (Nat.le_of_ble_eq_true rfl) (Or.inl (by decide)) (Q_12_0 rk_14 (by omega))) (fun g V ve12 vn13 hq => ?_)
    have hG := hq.trans hG
    exact LW_return (st := []) rfl rfl ⟨rfl, V, hG⟩
  · refine X_aload_n rfl rfl rfl rfl ?_
    refine X_aload_n rfl rfl rfl rfl ?_
    refine S_getI rfl rfl rfl ((congrFun V.1 14).trans s_14) rfl (fun vz14 evz14 => ?_)
    have vf15 := K_12_1 (V.2.2.2.2.1 (14) (1) (Nat.le_of_ble_eq_true rfl)) rk_14
    rw [evz14] at vf15
    refine X_iconst (v := (1 : Int32)) rfl rfl rfl ?_
    refine S_iadd rfl rfl rfl (rfl : (1 : Int32).toInt = 1) (by omega) (fun vz16 hvz16 => ?_)
    refine X_bipush (v := (30 : Int32)) rfl rfl rfl ?_
    refine S_irem rfl rfl rfl (rfl : (30 : Int32).toInt = 30) (by omega) (by omega) (fun vz17 hvz17 => ?_)
    refine S_putI (I := Inv _) rfl rfl rfl ((congrFun V.1 14).trans s_14) rfl rfl rfl rfl (Inv_putI V (Nat.le_of_ble_eq_true rfl) (Or.inl (by decide)) (Q_12_1 rk_14 (by omega))) (fun g V ve18 vn19 hq => ?_)
    have hG := hq.trans hG
    have evz1 := (vn19 14 0 (Or.inr (by decide))).trans evz1
    refine X_aload_n rfl rfl rfl rfl ?_
    refine X_dup rfl rfl rfl ?_
    refine X_getI (v := vz1) rfl rfl rfl ((congrFun V.1 14).trans s_14) rfl evz1 ?_
    refine X_iconst (v := (1 : Int32)) rfl rfl rfl ?_
    refine S_isub rfl rfl rfl (rfl : (1 : Int32).toInt = 1) (by omega) (fun vz20 hvz20 => ?_)
    refine S_putI (I := Inv _) rfl rfl rfl ((congrFun V.1 14).trans s_14) rfl rfl rfl rfl (Inv_putI V (Nat.le_of_ble_eq_true rfl) (Or.inl (by decide)) (Q_12_0 rk_14 (by omega))) (fun g V ve21 vn22 hq => ?_)
    have hG := hq.trans hG
    have ve18 := (vn22 14 1 (Or.inr (by decide))).trans ve18
    refine X_aload_n rfl rfl rfl rfl ?_
    refine X_getR (a := 15) rfl rfl rfl ((congrFun V.1 14).trans s_14) rfl ((congrFun (V.2.1 14 (by decide)) 2).trans r_14_2) ?_
    refine X_aload_n rfl rfl rfl rfl ?_
    refine X_getI (v := vz17) rfl rfl rfl ((congrFun V.1 14).trans s_14) rfl ve18 ?_
    refine X_aload_n rfl rfl rfl rfl ?_
    refine X_getI (v := vz20) rfl rfl rfl ((congrFun V.1 14).trans s_14) rfl ve21 ?_
    refine S_iadd rfl rfl rfl rfl (by omega) (fun vz23 hvz23 => ?_)
    refine X_bipush (v := (30 : Int32)) rfl rfl rfl ?_
    refine S_irem rfl rfl rfl (rfl : (30 : Int32).toInt = 30) (by omega) (by omega) (fun vz24 hvz24 => ?_)
    obtain ⟨t, ht, et⟩ : ∃ t : Nat, t < 30 ∧ (t : Int) = vz24.toInt := ⟨(vz24.toInt).toNat, by omega, by omega⟩
    refine X_aald (a := 16 + 4 * t) (t0 := 3) rfl rfl ((congrFun V.1 15).trans s_15) rfl (ti_idx (n := 30) rfl (by omega)).1 (by rw [(ti_idx (n := 30) rfl (by omega)).2, show (vz24.toInt).toNat = t by omega]; exact (congrFun (V.2.1 15 (by decide)) t).trans (sp_a t ht)) ?_
    refine X_aload_n rfl rfl rfl rfl ?_
    refine Y_callV (as := [.ref 10]) (st := []) rfl rfl rfl (by decide) rfl (Nat.le_of_ble_eq_true rfl) (by decide) (Nat.le_of_ble_eq_true rfl) rfl ((congrFun V.1 _).trans (sp_s t ht)) (by decide) (C_X9_copyFrom_S_10 ht V  ) ?_
    rintro _ g ⟨rfl, V, hq⟩
    have hG := hq.trans hG
    refine X_aload_n rfl rfl rfl rfl ?_
    refine X_dup rfl rfl rfl ?_
    refine S_getI rfl rfl rfl ((congrFun V.1 14).trans s_14) rfl (fun vz26 evz26 => ?_)
    have vf27 := K_12_0 (V.2.2.2.2.1 (14) (0) (Nat.le_of_ble_eq_true rfl)) rk_14
    rw [evz26] at vf27
    refine X_iconst (v := (1 : Int32)) rfl rfl rfl ?_
    refine S_iadd rfl rfl rfl (rfl : (1 : Int32).toInt = 1) (by omega) (fun vz28 hvz28 => ?_)
    refine S_putI (I := Inv _) rfl rfl rfl ((congrFun V.1 14).trans s_14) rfl rfl rfl rfl (Inv_putI V (Nat.le_of_ble_eq_true rfl) (Or.inl (by decide)) (Q_12_0 rk_14 (by omega))) (fun g V ve29 vn30 hq => ?_)
    have hG := hq.trans hG
    exact LW_return (st := []) rfl rfl ⟨rfl, V, hG⟩
set_option maxRecDepth 10000 in
set_option maxHeartbeats 40000000 in
theorem C_X4_ruling {P : Par} {g : LH} {d : Nat}  (V : Inv P g) (x1 : Int32) (y1 : Int) (hx1 : x1.toInt = y1) (hf1 : 0 ≤ y1 ∧ y1 ≤ 3)   : LW 33 (d + 4) 0 0 0 (lEnt (mL 33) [.ref 339, .int x1]) [] g (fun v g' => (v = some .null ∨ ∃ u, u < 4 ∧ v = some (.ref (292 + 10 * u)) ∧ ¬ (Gi g (299 + 10 * u) (y1).toNat).toInt = -1) ∧ g = g') := by
  refine LW_ls (ls' := [some (.ref 339), some (.int x1), none, none]) rfl ?_
  refine X_aload_n rfl rfl rfl rfl ?_
  refine X_getR (a := 1) rfl rfl rfl ((congrFun V.1 339).trans s_339) rfl ((congrFun (V.2.1 339 (by decide)) 0).trans r_339_0) ?_
  refine S_getI rfl rfl rfl ((congrFun V.1 1).trans s_1) rfl (fun vz1 evz1 => ?_)
  have vf2 := K_13_6 (V.2.2.2.2.1 (1) (6) (Nat.le_of_ble_eq_true rfl)) rk_1
  rw [evz1] at vf2
  refine X_istore_n (i := 2) (ls' := [some (.ref 339), some (.int x1), some (.int vz1), none]) rfl rfl rfl (Nat.le_of_ble_eq_true rfl) rfl ?_
  refine X_iload_n rfl rfl rfl rfl ?_
  refine S_if_lt (tgt := 38) rfl rfl rfl rfl (fun vh3 => ?_) (fun vh3 => ?_)
  · refine X_iconst (v := (0 : Int32)) rfl rfl rfl ?_
    refine X_istore_n (i := 3) (ls' := [some (.ref 339), some (.int x1), some (.int vz1), some (.int (0 : Int32))]) rfl rfl rfl (Nat.le_of_ble_eq_true rfl) rfl ?_
    refine X_iload_n rfl rfl rfl rfl ?_
    refine S_if_eq (tgt := 53) rfl rfl rfl (rfl : (0 : Int32).toInt = 0) (fun vh4 => ?_) (fun q => absurd q (by omega))
    refine X_null rfl rfl ?_
    exact LW_areturnN (st := []) rfl rfl (Or.inl ⟨_, rfl⟩) ⟨Or.inl rfl, rfl⟩
  · refine X_iload_n rfl rfl rfl rfl ?_
    refine X_aload_n rfl rfl rfl rfl ?_
    refine X_getR (a := 291) rfl rfl rfl ((congrFun V.1 339).trans s_339) rfl ((congrFun (V.2.1 339 (by decide)) 1).trans r_339_1) ?_
    refine X_alen (t0 := 4) (v := (4 : Int32)) rfl rfl ((congrFun V.1 291).trans s_291) rfl rfl ?_
    refine S_icmp_ge (tgt := 38) rfl rfl rfl rfl (rfl : (4 : Int32).toInt = 4) (fun q => absurd q (by omega)) (fun vh5 => ?_)
    refine X_aload_n rfl rfl rfl rfl ?_
    refine X_getR (a := 291) rfl rfl rfl ((congrFun V.1 339).trans s_339) rfl ((congrFun (V.2.1 339 (by decide)) 1).trans r_339_1) ?_
    refine X_iload_n rfl rfl rfl rfl ?_
    obtain ⟨u, hu, eu⟩ : ∃ t : Nat, t < 4 ∧ (t : Int) = vz1.toInt := ⟨(vz1.toInt).toNat, by omega, by omega⟩
    refine X_aald (a := 292 + 10 * u) (t0 := 4) rfl rfl ((congrFun V.1 291).trans s_291) rfl (ti_idx (n := 4) rfl (by omega)).1 (by rw [(ti_idx (n := 4) rfl (by omega)).2, show (vz1.toInt).toNat = u by omega]; exact (congrFun (V.2.1 291 (by decide)) u).trans (tx_a u hu)) ?_
    refine X_iload_n rfl rfl rfl rfl ?_
    refine X_callV (as := [.int x1]) (st := []) rfl rfl rfl (by decide) rfl (Nat.le_of_ble_eq_true rfl) (by decide) (Nat.le_of_ble_eq_true rfl) rfl ((congrFun V.1 _).trans (tx_s u hu)) (by decide) ?_
    refine LW_ls (ls' := [some (.ref (292 + 10 * u)), some (.int x1)]) rfl ?_
    refine X_iload_n rfl rfl rfl rfl ?_
    refine S_if_lt (tgt := 23) rfl rfl rfl hx1 (fun q => absurd q (by omega)) (fun vh6 => ?_)
    refine X_iload_n rfl rfl rfl rfl ?_
    refine X_iconst (v := (4 : Int32)) rfl rfl rfl ?_
    refine S_icmp_ge (tgt := 23) rfl rfl rfl hx1 (rfl : (4 : Int32).toInt = 4) (fun q => absurd q (by omega)) (fun vh7 => ?_)
    refine X_aload_n rfl rfl rfl rfl ?_
    refine X_getR (a := 299 + 10 * u) rfl rfl rfl ((congrFun V.1 _).trans (tx_s u hu)) rfl ((congrFun (V.2.1 (292 + 10 * u) (by omega)) 7).trans (tx_r7 u hu)) ?_
    refine X_iload_n rfl rfl rfl rfl ?_
    refine S_iald rfl rfl ((congrFun V.1 _).trans (tx_s7 u hu)) hx1 (by omega) (fun vz8 evz8 => ?_)
    have vf9 := K_6 (V.2.2.2.2.1 (299 + 10 * u) ((y1).toNat) (by omega)) (tx_k7 u hu)
    rw [evz8] at vf9
    refine X_iconst (v := (-1 : Int32)) rfl rfl rfl ?_
    refine S_icmp_eq (tgt := 23) rfl rfl rfl rfl (rfl : (-1 : Int32).toInt = -1) (fun vh10 => ?_) (fun vh10 => ?_)
    · refine X_iconst (v := (0 : Int32)) rfl rfl rfl ?_
      refine LW_ireturn (st := []) rfl rfl rfl ?_
      refine S_if_eq (tgt := 38) rfl rfl rfl (rfl : (0 : Int32).toInt = 0) (fun vh11 => ?_) (fun q => absurd q (by omega))
      refine X_iconst (v := (0 : Int32)) rfl rfl rfl ?_
      refine X_istore_n (i := 3) (ls' := [some (.ref 339), some (.int x1), some (.int vz1), some (.int (0 : Int32))]) rfl rfl rfl (Nat.le_of_ble_eq_true rfl) rfl ?_
      refine X_iload_n rfl rfl rfl rfl ?_
      refine S_if_eq (tgt := 53) rfl rfl rfl (rfl : (0 : Int32).toInt = 0) (fun vh12 => ?_) (fun q => absurd q (by omega))
      refine X_null rfl rfl ?_
      exact LW_areturnN (st := []) rfl rfl (Or.inl ⟨_, rfl⟩) ⟨Or.inl rfl, rfl⟩
    · refine X_iconst (v := (1 : Int32)) rfl rfl rfl ?_
      refine LW_goto (tgt := 24) rfl rfl ?_
      refine LW_ireturn (st := []) rfl rfl rfl ?_
      refine S_if_eq (tgt := 38) rfl rfl rfl (rfl : (1 : Int32).toInt = 1) (fun q => absurd q (by omega)) (fun vh13 => ?_)
      refine X_iconst (v := (1 : Int32)) rfl rfl rfl ?_
      refine LW_goto (tgt := 39) rfl rfl ?_
      refine X_istore_n (i := 3) (ls' := [some (.ref 339), some (.int x1), some (.int vz1), some (.int (1 : Int32))]) rfl rfl rfl (Nat.le_of_ble_eq_true rfl) rfl ?_
      refine X_iload_n rfl rfl rfl rfl ?_
      refine S_if_eq (tgt := 53) rfl rfl rfl (rfl : (1 : Int32).toInt = 1) (fun q => absurd q (by omega)) (fun vh14 => ?_)
      refine X_aload_n rfl rfl rfl rfl ?_
      refine X_getR (a := 291) rfl rfl rfl ((congrFun V.1 339).trans s_339) rfl ((congrFun (V.2.1 339 (by decide)) 1).trans r_339_1) ?_
      refine X_iload_n rfl rfl rfl rfl ?_
      refine X_aald (a := 292 + 10 * u) (t0 := 4) rfl rfl ((congrFun V.1 291).trans s_291) rfl (ti_idx (n := 4) rfl (by omega)).1 (by rw [(ti_idx (n := 4) rfl (by omega)).2, show (vz1.toInt).toNat = u by omega]; exact (congrFun (V.2.1 291 (by decide)) u).trans (tx_a u hu)) ?_
      refine LW_goto (tgt := 54) rfl rfl ?_
      exact LW_areturn (st := []) rfl rfl (Or.inl ⟨_, rfl⟩) ⟨Or.inr ⟨u, hu, rfl, (by omega)⟩, rfl⟩
