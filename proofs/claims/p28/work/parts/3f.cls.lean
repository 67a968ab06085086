/-! the class's methods: each returns and keeps what every state keeps -/
set_option maxRecDepth 10000 in
set_option maxHeartbeats 40000000 in
theorem C_X4_outcome {P : Par} {g : LH} {d : Nat}  (V : Inv P g) (x0 : Int32) (y0 : Int) (hx0 : x0.toInt = y0) (hf0 : 20000 ≤ y0) (x1 : Int64) (x3 : Int64)   : LW 36 (d + 3) 0 0 0 (lEnt (mL 36) [.int x0, .long x1, .long x3]) [] g (fun v g' => ∃ r : Int64, v = some (.long r) ∧ g = g') := by
  refine LW_ls (ls' := [some (.int x0), some (.long x1), none, some (.long x3), none]) rfl ?_
  refine X_iload_n rfl rfl rfl rfl ?_
  by_cases vh1 : y0 = 20000
  · refine S_tableIn (tgt := 60) (c := 20000) rfl (hx0.trans vh1) (by decide) (by decide) rfl rfl ?_
    refine X_lload_n rfl rfl rfl rfl ?_
    refine X_lload_n rfl rfl rfl rfl ?_
    refine S_laddT rfl rfl (fun vz2 => ?_)
    exact LW_lreturn (st := []) rfl rfl ⟨_, rfl, rfl⟩
  by_cases vh3 : y0 = 20001
  · refine S_tableIn (tgt := 64) (c := 20001) rfl (hx0.trans vh3) (by decide) (by decide) rfl rfl ?_
    refine X_lload_n rfl rfl rfl rfl ?_
    refine X_lload_n rfl rfl rfl rfl ?_
    refine S_lsubT rfl rfl (fun vz4 => ?_)
    exact LW_lreturn (st := []) rfl rfl ⟨_, rfl, rfl⟩
  by_cases vh5 : y0 = 20002
  · refine S_tableIn (tgt := 68) (c := 20002) rfl (hx0.trans vh5) (by decide) (by decide) rfl rfl ?_
    refine X_lload_n rfl rfl rfl rfl ?_
    refine X_lload_n rfl rfl rfl rfl ?_
    refine S_lmulT rfl rfl (fun vz6 => ?_)
    exact LW_lreturn (st := []) rfl rfl ⟨_, rfl, rfl⟩
  by_cases vh7 : y0 = 20003
  · refine S_tableIn (tgt := 72) (c := 20003) rfl (hx0.trans vh7) (by decide) (by decide) rfl rfl ?_
    refine X_lload_n rfl rfl rfl rfl ?_
    refine X_lconst (v := (0 : Int64)) rfl rfl rfl ?_
    refine S_lcmp rfl rfl (fun vz8 hvz8 => ?_)
    refine S_if_ne (tgt := 82) rfl rfl rfl rfl (fun vh9 => ?_) (fun vh9 => ?_)
    · refine X_lload_n rfl rfl rfl rfl ?_
      refine X_lload_n rfl rfl rfl rfl ?_
      refine S_ldivT rfl rfl (LNONZERO) (fun vz10 => ?_)
      exact LW_lreturn (st := []) rfl rfl ⟨_, rfl, rfl⟩
    · refine X_lconst (v := (0 : Int64)) rfl rfl rfl ?_
      refine LW_goto (tgt := 85) rfl rfl ?_
      exact LW_lreturn (st := []) rfl rfl ⟨_, rfl, rfl⟩
  by_cases vh11 : y0 = 20004
  · refine S_tableIn (tgt := 86) (c := 20004) rfl (hx0.trans vh11) (by decide) (by decide) rfl rfl ?_
    refine X_lload_n rfl rfl rfl rfl ?_
    refine X_lload_n rfl rfl rfl rfl ?_
    refine S_lcmp rfl rfl (fun vz12 hvz12 => ?_)
    refine S_if_ge (tgt := 96) rfl rfl rfl rfl (fun vh13 => ?_) (fun vh13 => ?_)
    · refine X_lconst (v := (0 : Int64)) rfl rfl rfl ?_
      exact LW_lreturn (st := []) rfl rfl ⟨_, rfl, rfl⟩
    · refine X_lconst (v := (1 : Int64)) rfl rfl rfl ?_
      refine LW_goto (tgt := 97) rfl rfl ?_
      exact LW_lreturn (st := []) rfl rfl ⟨_, rfl, rfl⟩
  by_cases vh14 : y0 = 20005
  · refine S_tableIn (tgt := 98) (c := 20005) rfl (hx0.trans vh14) (by decide) (by decide) rfl rfl ?_
    refine X_lload_n rfl rfl rfl rfl ?_
    refine X_lload_n rfl rfl rfl rfl ?_
    refine S_lcmp rfl rfl (fun vz15 hvz15 => ?_)
    refine S_if_gt (tgt := 108) rfl rfl rfl rfl (fun vh16 => ?_) (fun vh16 => ?_)
    · refine X_lconst (v := (0 : Int64)) rfl rfl rfl ?_
      exact LW_lreturn (st := []) rfl rfl ⟨_, rfl, rfl⟩
    · refine X_lconst (v := (1 : Int64)) rfl rfl rfl ?_
      refine LW_goto (tgt := 109) rfl rfl ?_
      exact LW_lreturn (st := []) rfl rfl ⟨_, rfl, rfl⟩
  by_cases vh17 : y0 = 20006
  · refine S_tableIn (tgt := 110) (c := 20006) rfl (hx0.trans vh17) (by decide) (by decide) rfl rfl ?_
    refine X_lload_n rfl rfl rfl rfl ?_
    refine X_lload_n rfl rfl rfl rfl ?_
    refine S_lcmp rfl rfl (fun vz18 hvz18 => ?_)
    refine S_if_le (tgt := 120) rfl rfl rfl rfl (fun vh19 => ?_) (fun vh19 => ?_)
    · refine X_lconst (v := (0 : Int64)) rfl rfl rfl ?_
      exact LW_lreturn (st := []) rfl rfl ⟨_, rfl, rfl⟩
    · refine X_lconst (v := (1 : Int64)) rfl rfl rfl ?_
      refine LW_goto (tgt := 121) rfl rfl ?_
      exact LW_lreturn (st := []) rfl rfl ⟨_, rfl, rfl⟩
  by_cases vh20 : y0 = 20007
  · refine S_tableIn (tgt := 122) (c := 20007) rfl (hx0.trans vh20) (by decide) (by decide) rfl rfl ?_
    refine X_lload_n rfl rfl rfl rfl ?_
    refine X_lload_n rfl rfl rfl rfl ?_
    refine S_lcmp rfl rfl (fun vz21 hvz21 => ?_)
    refine S_if_lt (tgt := 132) rfl rfl rfl rfl (fun vh22 => ?_) (fun vh22 => ?_)
    · refine X_lconst (v := (0 : Int64)) rfl rfl rfl ?_
      exact LW_lreturn (st := []) rfl rfl ⟨_, rfl, rfl⟩
    · refine X_lconst (v := (1 : Int64)) rfl rfl rfl ?_
      refine LW_goto (tgt := 133) rfl rfl ?_
      exact LW_lreturn (st := []) rfl rfl ⟨_, rfl, rfl⟩
  by_cases vh23 : y0 = 20008
  · refine S_tableIn (tgt := 134) (c := 20008) rfl (hx0.trans vh23) (by decide) (by decide) rfl rfl ?_
    refine X_lload_n rfl rfl rfl rfl ?_
    refine X_lload_n rfl rfl rfl rfl ?_
    refine S_lcmp rfl rfl (fun vz24 hvz24 => ?_)
    refine S_if_ne (tgt := 144) rfl rfl rfl rfl (fun vh25 => ?_) (fun vh25 => ?_)
    · refine X_lconst (v := (0 : Int64)) rfl rfl rfl ?_
      exact LW_lreturn (st := []) rfl rfl ⟨_, rfl, rfl⟩
    · refine X_lconst (v := (1 : Int64)) rfl rfl rfl ?_
      refine LW_goto (tgt := 145) rfl rfl ?_
      exact LW_lreturn (st := []) rfl rfl ⟨_, rfl, rfl⟩
  by_cases vh26 : y0 = 20009
  · refine S_tableIn (tgt := 146) (c := 20009) rfl (hx0.trans vh26) (by decide) (by decide) rfl rfl ?_
    refine X_lload_n rfl rfl rfl rfl ?_
    refine X_lload_n rfl rfl rfl rfl ?_
    refine S_lcmp rfl rfl (fun vz27 hvz27 => ?_)
    refine S_if_eq (tgt := 156) rfl rfl rfl rfl (fun vh28 => ?_) (fun vh28 => ?_)
    · refine X_lconst (v := (0 : Int64)) rfl rfl rfl ?_
      exact LW_lreturn (st := []) rfl rfl ⟨_, rfl, rfl⟩
    · refine X_lconst (v := (1 : Int64)) rfl rfl rfl ?_
      refine LW_goto (tgt := 157) rfl rfl ?_
      exact LW_lreturn (st := []) rfl rfl ⟨_, rfl, rfl⟩
  by_cases vh29 : y0 = 20010
  · refine S_tableIn (tgt := 158) (c := 20010) rfl (hx0.trans vh29) (by decide) (by decide) rfl rfl ?_
    refine X_lload_n rfl rfl rfl rfl ?_
    refine X_lload_n rfl rfl rfl rfl ?_
    refine S_landT rfl rfl (fun vz30 => ?_)
    exact LW_lreturn (st := []) rfl rfl ⟨_, rfl, rfl⟩
  refine S_tableOut (tgt := 162) rfl hx0 (by omega) rfl ?_
  refine X_lload_n rfl rfl rfl rfl ?_
  refine X_lload_n rfl rfl rfl rfl ?_
  refine S_lorT rfl rfl (fun vz31 => ?_)
  exact LW_lreturn (st := []) rfl rfl ⟨_, rfl, rfl⟩
set_option maxRecDepth 10000 in
set_option maxHeartbeats 40000000 in
theorem C_X4_limited {P : Par} {g : LH} {d : Nat}  (V : Inv P g) (x0 : Int64)   : LW 37 (d + 3) 0 0 0 (lEnt (mL 37) [.long x0]) [] g (fun v g' => ∃ r : Int32, v = some (.int r) ∧ g = g') := by
  refine LW_ls (ls' := [some (.long x0), none]) rfl ?_
  refine X_lload_n rfl rfl rfl rfl ?_
  refine X_ldc2 (v := (1000000 : Int64)) rfl rfl rfl ?_
  refine S_lcmp rfl rfl (fun vz1 hvz1 => ?_)
  refine S_if_le (tgt := 13) rfl rfl rfl rfl (fun vh2 => ?_) (fun vh2 => ?_)
  · refine X_lload_n rfl rfl rfl rfl ?_
    refine X_ldc2 (v := (-1000000 : Int64)) rfl rfl rfl ?_
    refine S_lcmp rfl rfl (fun vz3 hvz3 => ?_)
    refine S_if_ge (tgt := 26) rfl rfl rfl rfl (fun vh4 => ?_) (fun vh4 => ?_)
    · refine X_lload_n rfl rfl rfl rfl ?_
      refine S_l2iT rfl rfl (fun vz5 => ?_)
      exact LW_ireturn (st := []) rfl rfl rfl ⟨_, rfl, rfl⟩
    · refine X_ldc (v := (-1000000 : Int32)) rfl rfl rfl ?_
      refine LW_goto (tgt := 28) rfl rfl ?_
      exact LW_ireturn (st := []) rfl rfl rfl ⟨_, rfl, rfl⟩
  · refine X_ldc (v := (1000000 : Int32)) rfl rfl rfl ?_
    refine LW_goto (tgt := 28) rfl rfl ?_
    exact LW_ireturn (st := []) rfl rfl rfl ⟨_, rfl, rfl⟩
set_option maxRecDepth 10000 in
set_option maxHeartbeats 40000000 in
theorem C_X4_run_339_T_10 {P : Par} {g g0 : LH} {d n : Nat}  {u : Nat} (hu : u < 4) (V : Inv P g) (hG : Gr g = Gr g0) (x2 : Int32) (y2 : Int) (hx2 : x2.toInt = y2) (hf2 : 0 ≤ y2 ∧ y2 ≤ 3) (x3 : Int32) (y3 : Int) (hx3 : x3.toInt = y3) (hf3 : 0 ≤ y3 ∧ y3 ≤ 64) (x4 : Int32) (y4 : Int) (hx4 : x4.toInt = y4) (hf4 : (-1) ≤ y4 ∧ y4 ≤ 300) (o5 : Option Value)  (hmu : (300 - y4) * 1 + 0 < (n : Int) + 1) (ih10 : ∀ (g : LH) {u : Nat} (hu : u < 4) (V : Inv P g) (hG : Gr g = Gr g0) (x2 : Int32) (y2 : Int) (hx2 : x2.toInt = y2) (hf2 : 0 ≤ y2 ∧ y2 ≤ 3) (x3 : Int32) (y3 : Int) (hx3 : x3.toInt = y3) (hf3 : 0 ≤ y3 ∧ y3 ≤ 64) (x4 : Int32) (y4 : Int) (hx4 : x4.toInt = y4) (hf4 : (-1) ≤ y4 ∧ y4 ≤ 300) (o5 : Option Value) , (300 - y4) * 1 + 0 < (n : Int) → LW 35 (d + 7) 0 0 10 [some (.ref 339), some (.ref (292 + 10 * u)), some (.int x2), some (.int x3), some (.int x4), o5] [] g (fun v g' => ∃ r : Int32, v = some (.int r) ∧ Inv P g' ∧ Gr g' = Gr g0)) : LW 35 (d + 7) 0 0 10 [some (.ref 339), some (.ref (292 + 10 * u)), some (.int x2), some (.int x3), some (.int x4), o5] [] g (fun v g' => ∃ r : Int32, v = some (.int r) ∧ Inv P g' ∧ Gr g' = Gr g0) := by
  refine X_iload rfl rfl rfl ?_
  refine X_aload_n rfl rfl rfl rfl ?_
  refine X_getR (a := 300 + 10 * u) rfl rfl rfl ((congrFun V.1 _).trans (tx_s u hu)) rfl ((congrFun (V.2.1 (292 + 10 * u) (by omega)) 8).trans (tx_r8 u hu)) ?_
  refine X_iload_n rfl rfl rfl rfl ?_
  refine S_iald rfl rfl ((congrFun V.1 _).trans (tx_s8 u hu)) hx2 (by omega) (fun vz1 evz1 => ?_)
  have vf2 := K_6 (V.2.2.2.2.1 (300 + 10 * u) ((y2).toNat) (by omega)) (tx_k8 u hu)
  rw [evz1] at vf2
  refine S_icmp_ge (tgt := 192) rfl rfl rfl hx4 rfl (fun vh3 => ?_) (fun vh3 => ?_)
  · refine X_iload_n rfl rfl rfl rfl ?_
    refine S_if_le (tgt := 207) rfl rfl rfl hx3 (fun vh4 => ?_) (fun vh4 => ?_)
    · refine X_iconst (v := (0 : Int32)) rfl rfl rfl ?_
      exact LW_ireturn (st := []) rfl rfl rfl ⟨_, rfl, V, hG⟩
    · refine X_aload_n rfl rfl rfl rfl ?_
      refine X_getR (a := 341) rfl rfl rfl ((congrFun V.1 339).trans s_339) rfl ((congrFun (V.2.1 339 (by decide)) 3).trans r_339_3) ?_
      refine X_iload_n rfl rfl rfl rfl ?_
      refine X_iconst (v := (1 : Int32)) rfl rfl rfl ?_
      refine S_isub rfl rfl hx3 (rfl : (1 : Int32).toInt = 1) (by omega) (fun vz5 hvz5 => ?_)
      refine S_iald rfl rfl ((congrFun V.1 341).trans s_341) rfl (by omega) (fun vz6 evz6 => ?_)
      refine LW_goto (tgt := 208) rfl rfl ?_
      exact LW_ireturn (st := []) rfl rfl rfl ⟨_, rfl, V, hG⟩
  · refine X_aload_n rfl rfl rfl rfl ?_
    refine X_getR (a := 301 + 10 * u) rfl rfl rfl ((congrFun V.1 _).trans (tx_s u hu)) rfl ((congrFun (V.2.1 (292 + 10 * u) (by omega)) 10).trans (tx_r10 u hu)) ?_
    refine X_iload rfl rfl rfl ?_
    refine S_iald rfl rfl ((congrFun V.1 _).trans (tx_s10 u hu)) hx4 (by omega) (fun vz7 evz7 => ?_)
    refine X_istore (i := 5) (ls' := [some (.ref 339), some (.ref (292 + 10 * u)), some (.int x2), some (.int x3), some (.int x4), some (.int vz7)]) rfl rfl (Nat.le_of_ble_eq_true rfl) rfl ?_
    refine X_iload rfl rfl rfl ?_
    refine X_sipush (v := (20000 : Int32)) rfl rfl rfl ?_
    refine S_icmp_ge (tgt := 83) rfl rfl rfl rfl (rfl : (20000 : Int32).toInt = 20000) (fun vh8 => ?_) (fun vh8 => ?_)
    · refine X_iload rfl rfl rfl ?_
      refine X_sipush (v := (20012 : Int32)) rfl rfl rfl ?_
      refine S_icmp_eq (tgt := 99) rfl rfl rfl rfl (rfl : (20012 : Int32).toInt = 20012) (fun vh9 => ?_) (fun vh9 => ?_)
      · refine X_iload_n rfl rfl rfl rfl ?_
        refine S_if_le (tgt := 186) rfl rfl rfl hx3 (fun vh10 => ?_) (fun vh10 => ?_)
        · refine S_iinc (c := 1) rfl rfl rfl hx4 rfl (by omega) (fun vz11 hvz11 => ?_)
          refine LW_ls (ls' := [some (.ref 339), some (.ref (292 + 10 * u)), some (.int x2), some (.int x3), some (.int vz11), some (.int vz7)]) rfl ?_
          refine LW_goto (tgt := 10) rfl rfl ?_
          exact ih10 _ hu V hG x2 y2 hx2 (by omega) x3 y3 hx3 (by omega) vz11 vz11.toInt rfl (by omega)    (by omega)
        · refine X_aload_n rfl rfl rfl rfl ?_
          refine X_getR (a := 341) rfl rfl rfl ((congrFun V.1 339).trans s_339) rfl ((congrFun (V.2.1 339 (by decide)) 3).trans r_339_3) ?_
          refine X_iload_n rfl rfl rfl rfl ?_
          refine X_iconst (v := (1 : Int32)) rfl rfl rfl ?_
          refine S_isub rfl rfl hx3 (rfl : (1 : Int32).toInt = 1) (by omega) (fun vz12 hvz12 => ?_)
          refine X_iload rfl rfl rfl ?_
          refine X_sipush (v := (20012 : Int32)) rfl rfl rfl ?_
          refine S_icmp_ne (tgt := 131) rfl rfl rfl rfl (rfl : (20012 : Int32).toInt = 20012) (fun q => absurd q (by omega)) (fun vh13 => ?_)
          refine X_iconst (v := (1 : Int32)) rfl rfl rfl ?_
          refine X_aload_n rfl rfl rfl rfl ?_
          refine X_getR (a := 341) rfl rfl rfl ((congrFun V.1 339).trans s_339) rfl ((congrFun (V.2.1 339 (by decide)) 3).trans r_339_3) ?_
          refine X_iload_n rfl rfl rfl rfl ?_
          refine X_iconst (v := (1 : Int32)) rfl rfl rfl ?_
          refine S_isub rfl rfl hx3 (rfl : (1 : Int32).toInt = 1) (by omega) (fun vz14 hvz14 => ?_)
          refine S_iald rfl rfl ((congrFun V.1 341).trans s_341) rfl (by omega) (fun vz15 evz15 => ?_)
          refine S_isubT rfl rfl (fun vz16 => ?_)
          refine LW_goto (tgt := 140) rfl rfl ?_
          refine S_iast (I := Inv _) rfl rfl ((congrFun V.1 341).trans s_341) rfl (by omega) (Inv_putI V (Nat.le_of_ble_eq_true rfl) (Or.inl (by decide)) (Q_0 rk_341)) (fun g V ve17 vn18 hq => ?_)
          have hG := hq.trans hG
          refine LW_goto (tgt := 186) rfl rfl ?_
          refine S_iinc (c := 1) rfl rfl rfl hx4 rfl (by omega) (fun vz19 hvz19 => ?_)
          refine LW_ls (ls' := [some (.ref 339), some (.ref (292 + 10 * u)), some (.int x2), some (.int x3), some (.int vz19), some (.int vz7)]) rfl ?_
          refine LW_goto (tgt := 10) rfl rfl ?_
          exact ih10 _ hu V hG x2 y2 hx2 (by omega) x3 y3 hx3 (by omega) vz19 vz19.toInt rfl (by omega)    (by omega)
      · refine X_iload rfl rfl rfl ?_
        refine X_sipush (v := (20013 : Int32)) rfl rfl rfl ?_
        refine S_icmp_ne (tgt := 144) rfl rfl rfl rfl (rfl : (20013 : Int32).toInt = 20013) (fun vh20 => ?_) (fun vh20 => ?_)
        · refine X_iload_n rfl rfl rfl rfl ?_
          refine X_iconst (v := (1 : Int32)) rfl rfl rfl ?_
          refine S_icmp_le (tgt := 186) rfl rfl rfl hx3 (rfl : (1 : Int32).toInt = 1) (fun vh21 => ?_) (fun vh21 => ?_)
          · refine S_iinc (c := 1) rfl rfl rfl hx4 rfl (by omega) (fun vz22 hvz22 => ?_)
            refine LW_ls (ls' := [some (.ref 339), some (.ref (292 + 10 * u)), some (.int x2), some (.int x3), some (.int vz22), some (.int vz7)]) rfl ?_
            refine LW_goto (tgt := 10) rfl rfl ?_
            exact ih10 _ hu V hG x2 y2 hx2 (by omega) x3 y3 hx3 (by omega) vz22 vz22.toInt rfl (by omega)    (by omega)
          · refine X_aload_n rfl rfl rfl rfl ?_
            refine X_getR (a := 341) rfl rfl rfl ((congrFun V.1 339).trans s_339) rfl ((congrFun (V.2.1 339 (by decide)) 3).trans r_339_3) ?_
            refine X_iload_n rfl rfl rfl rfl ?_
            refine X_iconst (v := (2 : Int32)) rfl rfl rfl ?_
            refine S_isub rfl rfl hx3 (rfl : (2 : Int32).toInt = 2) (by omega) (fun vz23 hvz23 => ?_)
            refine X_iload rfl rfl rfl ?_
            refine X_aload_n rfl rfl rfl rfl ?_
            refine X_getR (a := 341) rfl rfl rfl ((congrFun V.1 339).trans s_339) rfl ((congrFun (V.2.1 339 (by decide)) 3).trans r_339_3) ?_
            refine X_iload_n rfl rfl rfl rfl ?_
            refine X_iconst (v := (2 : Int32)) rfl rfl rfl ?_
            refine S_isub rfl rfl hx3 (rfl : (2 : Int32).toInt = 2) (by omega) (fun vz24 hvz24 => ?_)
            refine S_iald rfl rfl ((congrFun V.1 341).trans s_341) rfl (by omega) (fun vz25 evz25 => ?_)
            refine S_i2lT rfl rfl (fun vz26 => ?_)
            refine X_aload_n rfl rfl rfl rfl ?_
            refine X_getR (a := 341) rfl rfl rfl ((congrFun V.1 339).trans s_339) rfl ((congrFun (V.2.1 339 (by decide)) 3).trans r_339_3) ?_
            refine X_iload_n rfl rfl rfl rfl ?_
            refine X_iconst (v := (1 : Int32)) rfl rfl rfl ?_
            refine S_isub rfl rfl hx3 (rfl : (1 : Int32).toInt = 1) (by omega) (fun vz27 hvz27 => ?_)
            refine S_iald rfl rfl ((congrFun V.1 341).trans s_341) rfl (by omega) (fun vz28 evz28 => ?_)
            refine S_i2lT rfl rfl (fun vz29 => ?_)
            refine Y_callS (as := [.int vz7, .long vz26, .long vz29]) (st := [.int vz23, .ref 341]) rfl rfl rfl (by decide) rfl (Nat.le_of_ble_eq_true rfl) (by decide) (Nat.le_of_ble_eq_true rfl) rfl (C_X4_outcome V vz7 vz7.toInt rfl (by omega) vz26 vz29 ) ?_
            rintro _ g' ⟨vr30, rfl, hgg⟩
            subst hgg
            refine Y_callS (as := [.long vr30]) (st := [.int vz23, .ref 341]) rfl rfl rfl (by decide) rfl (Nat.le_of_ble_eq_true rfl) (by decide) (Nat.le_of_ble_eq_true rfl) rfl (C_X4_limited V vr30 ) ?_
            rintro _ g' ⟨vr31, rfl, hgg⟩
            subst hgg
            refine S_iast (I := Inv _) rfl rfl ((congrFun V.1 341).trans s_341) rfl (by omega) (Inv_putI V (Nat.le_of_ble_eq_true rfl) (Or.inl (by decide)) (Q_0 rk_341)) (fun g V ve32 vn33 hq => ?_)
            have hG := hq.trans hG
            refine S_iinc (c := (-1)) rfl rfl rfl hx3 rfl (by omega) (fun vz34 hvz34 => ?_)
            refine LW_ls (ls' := [some (.ref 339), some (.ref (292 + 10 * u)), some (.int x2), some (.int vz34), some (.int x4), some (.int vz7)]) rfl ?_
            refine S_iinc (c := 1) rfl rfl rfl hx4 rfl (by omega) (fun vz35 hvz35 => ?_)
            refine LW_ls (ls' := [some (.ref 339), some (.ref (292 + 10 * u)), some (.int x2), some (.int vz34), some (.int vz35), some (.int vz7)]) rfl ?_
            refine LW_goto (tgt := 10) rfl rfl ?_
            exact ih10 _ hu V hG x2 y2 hx2 (by omega) vz34 vz34.toInt rfl (by omega) vz35 vz35.toInt rfl (by omega)    (by omega)
        · refine X_iload_n rfl rfl rfl rfl ?_
          refine S_if_le (tgt := 186) rfl rfl rfl hx3 (fun vh36 => ?_) (fun vh36 => ?_)
          · refine S_iinc (c := 1) rfl rfl rfl hx4 rfl (by omega) (fun vz37 hvz37 => ?_)
            refine LW_ls (ls' := [some (.ref 339), some (.ref (292 + 10 * u)), some (.int x2), some (.int x3), some (.int vz37), some (.int vz7)]) rfl ?_
            refine LW_goto (tgt := 10) rfl rfl ?_
            exact ih10 _ hu V hG x2 y2 hx2 (by omega) x3 y3 hx3 (by omega) vz37 vz37.toInt rfl (by omega)    (by omega)
          · refine X_aload_n rfl rfl rfl rfl ?_
            refine X_getR (a := 341) rfl rfl rfl ((congrFun V.1 339).trans s_339) rfl ((congrFun (V.2.1 339 (by decide)) 3).trans r_339_3) ?_
            refine X_iload_n rfl rfl rfl rfl ?_
            refine X_iconst (v := (1 : Int32)) rfl rfl rfl ?_
            refine S_isub rfl rfl hx3 (rfl : (1 : Int32).toInt = 1) (by omega) (fun vz38 hvz38 => ?_)
            refine X_iload rfl rfl rfl ?_
            refine X_sipush (v := (20012 : Int32)) rfl rfl rfl ?_
            refine S_icmp_ne (tgt := 131) rfl rfl rfl rfl (rfl : (20012 : Int32).toInt = 20012) (fun vh39 => ?_) (fun q => absurd q (by omega))
            refine X_aload_n rfl rfl rfl rfl ?_
            refine X_getR (a := 341) rfl rfl rfl ((congrFun V.1 339).trans s_339) rfl ((congrFun (V.2.1 339 (by decide)) 3).trans r_339_3) ?_
            refine X_iload_n rfl rfl rfl rfl ?_
            refine X_iconst (v := (1 : Int32)) rfl rfl rfl ?_
            refine S_isub rfl rfl hx3 (rfl : (1 : Int32).toInt = 1) (by omega) (fun vz40 hvz40 => ?_)
            refine S_iald rfl rfl ((congrFun V.1 341).trans s_341) rfl (by omega) (fun vz41 evz41 => ?_)
            refine S_inegT rfl rfl (fun vz42 => ?_)
            refine S_iast (I := Inv _) rfl rfl ((congrFun V.1 341).trans s_341) rfl (by omega) (Inv_putI V (Nat.le_of_ble_eq_true rfl) (Or.inl (by decide)) (Q_0 rk_341)) (fun g V ve43 vn44 hq => ?_)
            have hG := hq.trans hG
            refine LW_goto (tgt := 186) rfl rfl ?_
            refine S_iinc (c := 1) rfl rfl rfl hx4 rfl (by omega) (fun vz45 hvz45 => ?_)
            refine LW_ls (ls' := [some (.ref 339), some (.ref (292 + 10 * u)), some (.int x2), some (.int x3), some (.int vz45), some (.int vz7)]) rfl ?_
            refine LW_goto (tgt := 10) rfl rfl ?_
            exact ih10 _ hu V hG x2 y2 hx2 (by omega) x3 y3 hx3 (by omega) vz45 vz45.toInt rfl (by omega)    (by omega)
    · refine X_iload_n rfl rfl rfl rfl ?_
      refine X_aload_n rfl rfl rfl rfl ?_
      refine X_getR (a := 341) rfl rfl rfl ((congrFun V.1 339).trans s_339) rfl ((congrFun (V.2.1 339 (by decide)) 3).trans r_339_3) ?_
      refine X_alen (t0 := 0) (v := (64 : Int32)) rfl rfl ((congrFun V.1 341).trans s_341) rfl rfl ?_
      refine S_icmp_ge (tgt := 186) rfl rfl rfl hx3 (rfl : (64 : Int32).toInt = 64) (fun vh46 => ?_) (fun vh46 => ?_)
      · refine S_iinc (c := 1) rfl rfl rfl hx4 rfl (by omega) (fun vz47 hvz47 => ?_)
        refine LW_ls (ls' := [some (.ref 339), some (.ref (292 + 10 * u)), some (.int x2), some (.int x3), some (.int vz47), some (.int vz7)]) rfl ?_
        refine LW_goto (tgt := 10) rfl rfl ?_
        exact ih10 _ hu V hG x2 y2 hx2 (by omega) x3 y3 hx3 (by omega) vz47 vz47.toInt rfl (by omega)    (by omega)
      · refine X_aload_n rfl rfl rfl rfl ?_
        refine X_getR (a := 341) rfl rfl rfl ((congrFun V.1 339).trans s_339) rfl ((congrFun (V.2.1 339 (by decide)) 3).trans r_339_3) ?_
        refine X_iload_n rfl rfl rfl rfl ?_
        refine X_iload rfl rfl rfl ?_
        refine X_sipush (v := (10000 : Int32)) rfl rfl rfl ?_
        refine S_icmp_lt (tgt := 74) rfl rfl rfl rfl (rfl : (10000 : Int32).toInt = 10000) (fun vh48 => ?_) (fun vh48 => ?_)
        · refine X_iload rfl rfl rfl ?_
          refine S_iast (I := Inv _) rfl rfl ((congrFun V.1 341).trans s_341) hx3 (by omega) (Inv_putI V (Nat.le_of_ble_eq_true rfl) (Or.inl (by decide)) (Q_0 rk_341)) (fun g V ve49 vn50 hq => ?_)
          have hG := hq.trans hG
          refine S_iinc (c := 1) rfl rfl rfl hx3 rfl (by omega) (fun vz51 hvz51 => ?_)
          refine LW_ls (ls' := [some (.ref 339), some (.ref (292 + 10 * u)), some (.int x2), some (.int vz51), some (.int x4), some (.int vz7)]) rfl ?_
          refine LW_goto (tgt := 186) rfl rfl ?_
          refine S_iinc (c := 1) rfl rfl rfl hx4 rfl (by omega) (fun vz52 hvz52 => ?_)
          refine LW_ls (ls' := [some (.ref 339), some (.ref (292 + 10 * u)), some (.int x2), some (.int vz51), some (.int vz52), some (.int vz7)]) rfl ?_
          refine LW_goto (tgt := 10) rfl rfl ?_
          exact ih10 _ hu V hG x2 y2 hx2 (by omega) vz51 vz51.toInt rfl (by omega) vz52 vz52.toInt rfl (by omega)    (by omega)
        · refine X_aload_n rfl rfl rfl rfl ?_
          refine X_getR (a := 340) rfl rfl rfl ((congrFun V.1 339).trans s_339) rfl ((congrFun (V.2.1 339 (by decide)) 2).trans r_339_2) ?_
          refine X_iload rfl rfl rfl ?_
          refine X_sipush (v := (10000 : Int32)) rfl rfl rfl ?_
          refine S_isub rfl rfl rfl (rfl : (10000 : Int32).toInt = 10000) (by omega) (fun vz53 hvz53 => ?_)
          refine S_iald rfl rfl ((congrFun V.1 340).trans s_340) rfl (by omega) (fun vz54 evz54 => ?_)
          refine LW_goto (tgt := 76) rfl rfl ?_
          refine S_iast (I := Inv _) rfl rfl ((congrFun V.1 341).trans s_341) hx3 (by omega) (Inv_putI V (Nat.le_of_ble_eq_true rfl) (Or.inl (by decide)) (Q_0 rk_341)) (fun g V ve55 vn56 hq => ?_)
          have hG := hq.trans hG
          refine S_iinc (c := 1) rfl rfl rfl hx3 rfl (by omega) (fun vz57 hvz57 => ?_)
          refine LW_ls (ls' := [some (.ref 339), some (.ref (292 + 10 * u)), some (.int x2), some (.int vz57), some (.int x4), some (.int vz7)]) rfl ?_
          refine LW_goto (tgt := 186) rfl rfl ?_
          refine S_iinc (c := 1) rfl rfl rfl hx4 rfl (by omega) (fun vz58 hvz58 => ?_)
          refine LW_ls (ls' := [some (.ref 339), some (.ref (292 + 10 * u)), some (.int x2), some (.int vz57), some (.int vz58), some (.int vz7)]) rfl ?_
          refine LW_goto (tgt := 10) rfl rfl ?_
          exact ih10 _ hu V hG x2 y2 hx2 (by omega) vz57 vz57.toInt rfl (by omega) vz58 vz58.toInt rfl (by omega)    (by omega)
theorem C_X4_run_339_T_all {P : Par} {g0 : LH} {d : Nat}  : ∀ n : Nat, (∀ (g : LH) {u : Nat} (hu : u < 4) (V : Inv P g) (hG : Gr g = Gr g0) (x2 : Int32) (y2 : Int) (hx2 : x2.toInt = y2) (hf2 : 0 ≤ y2 ∧ y2 ≤ 3) (x3 : Int32) (y3 : Int) (hx3 : x3.toInt = y3) (hf3 : 0 ≤ y3 ∧ y3 ≤ 64) (x4 : Int32) (y4 : Int) (hx4 : x4.toInt = y4) (hf4 : (-1) ≤ y4 ∧ y4 ≤ 300) (o5 : Option Value) , (300 - y4) * 1 + 0 < (n : Int) → LW 35 (d + 7) 0 0 10 [some (.ref 339), some (.ref (292 + 10 * u)), some (.int x2), some (.int x3), some (.int x4), o5] [] g (fun v g' => ∃ r : Int32, v = some (.int r) ∧ Inv P g' ∧ Gr g' = Gr g0)) := by
  intro n
  induction n with
  | zero => exact fun g u hu V hG x2 y2 hx2 hf2 x3 y3 hx3 hf3 x4 y4 hx4 hf4 o5 hmu => absurd hmu (by omega)
  | succ n ih => exact fun g u hu V hG x2 y2 hx2 hf2 x3 y3 hx3 hf3 x4 y4 hx4 hf4 o5 hmu => C_X4_run_339_T_10  hu V hG x2 y2 hx2 hf2 x3 y3 hx3 hf3 x4 y4 hx4 hf4 o5 (by omega) ih
set_option maxRecDepth 10000 in
set_option maxHeartbeats 40000000 in
theorem C_X4_run_339_T {P : Par} {g : LH} {d : Nat}  {u : Nat} (hu : u < 4) (V : Inv P g) (x2 : Int32) (y2 : Int) (hx2 : x2.toInt = y2) (hf2 : 0 ≤ y2 ∧ y2 ≤ 3) (hq0 : ¬ (Gi g (299 + 10 * u) (y2).toNat).toInt = -1)  : LW 35 (d + 7) 0 0 0 (lEnt (mL 35) [.ref 339, .ref (292 + 10 * u), .int x2]) [] g (fun v g' => ∃ r : Int32, v = some (.int r) ∧ Inv P g' ∧ Gr g' = Gr g) := by
  refine LW_ls (ls' := [some (.ref 339), some (.ref (292 + 10 * u)), some (.int x2), none, none, none]) rfl ?_
  have hG : Gr g = Gr g := rfl
  refine X_iconst (v := (0 : Int32)) rfl rfl rfl ?_
  refine X_istore_n (i := 3) (ls' := [some (.ref 339), some (.ref (292 + 10 * u)), some (.int x2), some (.int (0 : Int32)), none, none]) rfl rfl rfl (Nat.le_of_ble_eq_true rfl) rfl ?_
  refine X_aload_n rfl rfl rfl rfl ?_
  refine X_getR (a := 299 + 10 * u) rfl rfl rfl ((congrFun V.1 _).trans (tx_s u hu)) rfl ((congrFun (V.2.1 (292 + 10 * u) (by omega)) 7).trans (tx_r7 u hu)) ?_
  refine X_iload_n rfl rfl rfl rfl ?_
  refine S_iald rfl rfl ((congrFun V.1 _).trans (tx_s7 u hu)) hx2 (by omega) (fun vz1 evz1 => ?_)
  have vf2 := K_6 (V.2.2.2.2.1 (299 + 10 * u) ((y2).toNat) (by omega)) (tx_k7 u hu)
  rw [evz1] at vf2
  refine X_istore (i := 4) (ls' := [some (.ref 339), some (.ref (292 + 10 * u)), some (.int x2), some (.int (0 : Int32)), some (.int vz1), none]) rfl rfl (Nat.le_of_ble_eq_true rfl) rfl ?_
  exact (C_X4_run_339_T_all (((300 - vz1.toInt) * 1 + 0) + 1).toNat) _ hu V hG x2 y2 hx2 (by omega) (0 : Int32) 0 (rfl : (0 : Int32).toInt = 0) (by omega) vz1 vz1.toInt rfl (by omega)    (by omega)
set_option maxRecDepth 10000 in
set_option maxHeartbeats 40000000 in
theorem C_X5_uses_4 {P : Par} {g : LH} {d n : Nat}  (V : Inv P g) (x1 : Int32) (y1 : Int) (hx1 : x1.toInt = y1) (hf1 : 0 ≤ y1 ∧ y1 ≤ 25) (x2 : Int32) (y2 : Int) (hx2 : x2.toInt = y2) (x3 : Int32) (y3 : Int) (hx3 : x3.toInt = y3) (hf3 : 0 ≤ y3 ∧ y3 ≤ 24)  (hmu : (24 - y3) * 1 + 0 < (n : Int) + 1) (ih4 : ∀ (V : Inv P g) (x1 : Int32) (y1 : Int) (hx1 : x1.toInt = y1) (hf1 : 0 ≤ y1 ∧ y1 ≤ 25) (x2 : Int32) (y2 : Int) (hx2 : x2.toInt = y2) (x3 : Int32) (y3 : Int) (hx3 : x3.toInt = y3) (hf3 : 0 ≤ y3 ∧ y3 ≤ 24) , (24 - y3) * 1 + 0 < (n : Int) → LW 47 (d + 3) 0 0 4 [some (.ref 2), some (.int x1), some (.int x2), some (.int x3)] [] g (fun v g' => ∃ r : Int32, v = some (.int r) ∧ g = g')) : LW 47 (d + 3) 0 0 4 [some (.ref 2), some (.int x1), some (.int x2), some (.int x3)] [] g (fun v g' => ∃ r : Int32, v = some (.int r) ∧ g = g') := by
  refine X_iload_n rfl rfl rfl rfl ?_
  refine X_aload_n rfl rfl rfl rfl ?_
  refine S_getI rfl rfl rfl ((congrFun V.1 2).trans s_2) rfl (fun vz1 evz1 => ?_)
  have vf2 := K_10_0 (V.2.2.2.2.1 (2) (0) (Nat.le_of_ble_eq_true rfl)) rk_2
  rw [evz1] at vf2
  refine S_icmp_ge (tgt := 31) rfl rfl rfl hx3 rfl (fun vh3 => ?_) (fun vh3 => ?_)
  · refine X_iload_n rfl rfl rfl rfl ?_
    exact LW_ireturn (st := []) rfl rfl rfl ⟨_, rfl, rfl⟩
  · refine X_iload_n rfl rfl rfl rfl ?_
    refine X_aload_n rfl rfl rfl rfl ?_
    refine X_getR (a := 5) rfl rfl rfl ((congrFun V.1 2).trans s_2) rfl ((congrFun (V.2.1 2 (by decide)) 4).trans r_2_4) ?_
    refine X_iload_n rfl rfl rfl rfl ?_
    refine S_iald rfl rfl ((congrFun V.1 5).trans s_5) hx3 (by omega) (fun vz4 evz4 => ?_)
    refine X_iload_n rfl rfl rfl rfl ?_
    refine S_ishrT rfl rfl (fun vz5 => ?_)
    refine X_iconst (v := (1 : Int32)) rfl rfl rfl ?_
    refine S_iandR (k := 1) rfl rfl rfl (fun vz6 hvz6 => ?_)
    refine S_iaddT rfl rfl (fun vz7 => ?_)
    refine X_istore_n (i := 2) (ls' := [some (.ref 2), some (.int x1), some (.int vz7), some (.int x3)]) rfl rfl rfl (Nat.le_of_ble_eq_true rfl) rfl ?_
    refine S_iinc (c := 1) rfl rfl rfl hx3 rfl (by omega) (fun vz8 hvz8 => ?_)
    refine LW_ls (ls' := [some (.ref 2), some (.int x1), some (.int vz7), some (.int vz8)]) rfl ?_
    refine LW_goto (tgt := 4) rfl rfl ?_
    exact ih4 V x1 y1 hx1 (by omega) vz7 vz7.toInt rfl vz8 vz8.toInt rfl (by omega)    (by omega)
theorem C_X5_uses_all {P : Par} {g : LH} {d : Nat}  : ∀ n : Nat, (∀ (V : Inv P g) (x1 : Int32) (y1 : Int) (hx1 : x1.toInt = y1) (hf1 : 0 ≤ y1 ∧ y1 ≤ 25) (x2 : Int32) (y2 : Int) (hx2 : x2.toInt = y2) (x3 : Int32) (y3 : Int) (hx3 : x3.toInt = y3) (hf3 : 0 ≤ y3 ∧ y3 ≤ 24) , (24 - y3) * 1 + 0 < (n : Int) → LW 47 (d + 3) 0 0 4 [some (.ref 2), some (.int x1), some (.int x2), some (.int x3)] [] g (fun v g' => ∃ r : Int32, v = some (.int r) ∧ g = g')) := by
  intro n
  induction n with
  | zero => exact fun V x1 y1 hx1 hf1 x2 y2 hx2 x3 y3 hx3 hf3 hmu => absurd hmu (by omega)
  | succ n ih => exact fun V x1 y1 hx1 hf1 x2 y2 hx2 x3 y3 hx3 hf3 hmu => C_X5_uses_4  V x1 y1 hx1 hf1 x2 y2 hx2 x3 y3 hx3 hf3 (by omega) ih
set_option maxRecDepth 10000 in
set_option maxHeartbeats 40000000 in
theorem C_X5_uses {P : Par} {g : LH} {d : Nat}  (V : Inv P g) (x1 : Int32) (y1 : Int) (hx1 : x1.toInt = y1) (hf1 : 0 ≤ y1 ∧ y1 ≤ 25)   : LW 47 (d + 3) 0 0 0 (lEnt (mL 47) [.ref 2, .int x1]) [] g (fun v g' => ∃ r : Int32, v = some (.int r) ∧ g = g') := by
  refine LW_ls (ls' := [some (.ref 2), some (.int x1), none, none]) rfl ?_
  refine X_iconst (v := (0 : Int32)) rfl rfl rfl ?_
  refine X_istore_n (i := 2) (ls' := [some (.ref 2), some (.int x1), some (.int (0 : Int32)), none]) rfl rfl rfl (Nat.le_of_ble_eq_true rfl) rfl ?_
  refine X_iconst (v := (0 : Int32)) rfl rfl rfl ?_
  refine X_istore_n (i := 3) (ls' := [some (.ref 2), some (.int x1), some (.int (0 : Int32)), some (.int (0 : Int32))]) rfl rfl rfl (Nat.le_of_ble_eq_true rfl) rfl ?_
  exact (C_X5_uses_all (((24 - 0) * 1 + 0) + 1).toNat) V x1 y1 hx1 (by omega) (0 : Int32) 0 (rfl : (0 : Int32).toInt = 0) (0 : Int32) 0 (rfl : (0 : Int32).toInt = 0) (by omega)    (by omega)
set_option maxRecDepth 10000 in
set_option maxHeartbeats 40000000 in
theorem C_X4_moves {P : Par} {g : LH} {d : Nat}  (V : Inv P g) (x1 : Int32) (y1 : Int) (hx1 : x1.toInt = y1) (hf1 : 0 ≤ y1 ∧ y1 ≤ 25)   : LW 28 (d + 12) 0 0 0 (lEnt (mL 28) [.ref 339, .int x1]) [] g (fun v g' => ∃ r : Int32, v = some (.int r) ∧ 0 ≤ r.toInt ∧ r.toInt ≤ 1 ∧ Inv P g' ∧ Gr g' = Gr g) := by
  refine LW_ls (ls' := [some (.ref 339), some (.int x1), none, none, none, none]) rfl ?_
  have hG : Gr g = Gr g := rfl
  refine X_aload_n rfl rfl rfl rfl ?_
  refine X_getR (a := 1) rfl rfl rfl ((congrFun V.1 339).trans s_339) rfl ((congrFun (V.2.1 339 (by decide)) 0).trans r_339_0) ?_
  refine X_getR (a := 10) rfl rfl rfl ((congrFun V.1 1).trans s_1) rfl ((congrFun (V.2.1 1 (by decide)) 1).trans r_1_1) ?_
  refine X_astore_n (i := 2) (ls' := [some (.ref 339), some (.int x1), some (.ref 10), none, none, none]) rfl rfl rfl (Nat.le_of_ble_eq_true rfl) rfl ?_
  refine X_aload_n rfl rfl rfl rfl ?_
  refine X_getR (a := 1) rfl rfl rfl ((congrFun V.1 339).trans s_339) rfl ((congrFun (V.2.1 339 (by decide)) 0).trans r_339_0) ?_
  refine X_getR (a := 141) rfl rfl rfl ((congrFun V.1 1).trans s_1) rfl ((congrFun (V.2.1 1 (by decide)) 4).trans r_1_4) ?_
  refine X_iload_n rfl rfl rfl rfl ?_
  refine S_iald rfl rfl ((congrFun V.1 141).trans s_141) hx1 (by omega) (fun vz1 evz1 => ?_)
  refine X_aload_n rfl rfl rfl rfl ?_
  refine S_getI rfl rfl rfl ((congrFun V.1 10).trans s_10) rfl (fun vz2 evz2 => ?_)
  refine S_iandT rfl rfl (fun vz3 => ?_)
  refine Y_callS (as := [.int vz3]) (st := []) rfl rfl rfl (by decide) rfl (Nat.le_of_ble_eq_true rfl) (by decide) (Nat.le_of_ble_eq_true rfl) rfl (C_J6_bitCount_0f7a4 V vz3 vz3.toInt rfl ) ?_
  rintro _ g' ⟨vr4, rfl, hrvr40, hrvr41, hgg⟩
  subst hgg
  refine X_istore_n (i := 3) (ls' := [some (.ref 339), some (.int x1), some (.ref 10), some (.int vr4), none, none]) rfl rfl rfl (Nat.le_of_ble_eq_true rfl) rfl ?_
  refine X_aload_n rfl rfl rfl rfl ?_
  refine X_iload_n rfl rfl rfl rfl ?_
  refine X_callV (as := [.int x1]) (st := []) rfl rfl rfl (by decide) rfl (Nat.le_of_ble_eq_true rfl) (by decide) (Nat.le_of_ble_eq_true rfl) rfl ((congrFun V.1 10).trans s_10) (by decide) ?_
  refine LW_ls (ls' := [some (.ref 10), some (.int x1)]) rfl ?_
  refine X_aload_n rfl rfl rfl rfl ?_
  refine X_getI (v := vz2) rfl rfl rfl ((congrFun V.1 10).trans s_10) rfl evz2 ?_
  refine X_iload_n rfl rfl rfl rfl ?_
  refine S_ishrT rfl rfl (fun vz5 => ?_)
  refine X_iconst (v := (1 : Int32)) rfl rfl rfl ?_
  refine S_iandR (k := 1) rfl rfl rfl (fun vz6 hvz6 => ?_)
  refine S_if_eq (tgt := 15) rfl rfl rfl rfl (fun vh7 => ?_) (fun vh7 => ?_)
  · refine X_iconst (v := (0 : Int32)) rfl rfl rfl ?_
    refine LW_ireturn (st := []) rfl rfl rfl ?_
    refine S_if_eq (tgt := 38) rfl rfl rfl (rfl : (0 : Int32).toInt = 0) (fun vh8 => ?_) (fun q => absurd q (by omega))
    refine X_iconst (v := (0 : Int32)) rfl rfl rfl ?_
    refine X_istore (i := 4) (ls' := [some (.ref 339), some (.int x1), some (.ref 10), some (.int vr4), some (.int (0 : Int32)), none]) rfl rfl (Nat.le_of_ble_eq_true rfl) rfl ?_
    refine X_aload_n rfl rfl rfl rfl ?_
    refine X_iload rfl rfl rfl ?_
    refine Y_callV (as := [.int (0 : Int32)]) (st := []) rfl rfl rfl (by decide) rfl (Nat.le_of_ble_eq_true rfl) (by decide) (Nat.le_of_ble_eq_true rfl) rfl ((congrFun V.1 339).trans s_339) (by decide) (C_X4_ruling V (0 : Int32) 0 (rfl : (0 : Int32).toInt = 0) (by omega) ) ?_
    rintro _ g' ⟨rfl | ⟨u, hu, rfl, hl⟩, hgg⟩
    · subst hgg
      refine X_astoreN (i := 5) (ls' := [some (.ref 339), some (.int x1), some (.ref 10), some (.int vr4), some (.int (0 : Int32)), some (.null)]) rfl rfl (Nat.le_of_ble_eq_true rfl) rfl ?_
      refine X_aloadN rfl rfl rfl ?_
      refine X_ifnonnullN (tgt := 98) rfl rfl rfl ?_
      refine X_iload rfl rfl rfl ?_
      refine X_iconst (v := (1 : Int32)) rfl rfl rfl ?_
      refine S_icmp_ne (tgt := 79) rfl rfl rfl (rfl : (0 : Int32).toInt = 0) (rfl : (1 : Int32).toInt = 1) (fun vh9 => ?_) (fun q => absurd q (by omega))
      refine X_iload_n rfl rfl rfl rfl ?_
      refine S_if_le (tgt := 96) rfl rfl rfl rfl (fun vh10 => ?_) (fun vh10 => ?_)
      · refine X_iconst (v := (0 : Int32)) rfl rfl rfl ?_
        exact LW_ireturn (st := []) rfl rfl rfl ⟨_, rfl, by decide, by decide, V, hG⟩
      · refine X_aload_n rfl rfl rfl rfl ?_
        refine X_getR (a := 12) rfl rfl rfl ((congrFun V.1 10).trans s_10) rfl ((congrFun (V.2.1 10 (by decide)) 5).trans r_10_5) ?_
        refine X_iload_n rfl rfl rfl rfl ?_
        refine S_iald rfl rfl ((congrFun V.1 12).trans s_12) hx1 (by omega) (fun vz11 evz11 => ?_)
        refine S_if_le (tgt := 96) rfl rfl rfl rfl (fun vh12 => ?_) (fun vh12 => ?_)
        · refine X_iconst (v := (0 : Int32)) rfl rfl rfl ?_
          exact LW_ireturn (st := []) rfl rfl rfl ⟨_, rfl, by decide, by decide, V, hG⟩
        · refine X_iconst (v := (1 : Int32)) rfl rfl rfl ?_
          refine LW_goto (tgt := 97) rfl rfl ?_
          exact LW_ireturn (st := []) rfl rfl rfl ⟨_, rfl, by decide, by decide, V, hG⟩
    · subst hgg
      refine X_astore (i := 5) (ls' := [some (.ref 339), some (.int x1), some (.ref 10), some (.int vr4), some (.int (0 : Int32)), some (.ref (292 + 10 * u))]) rfl rfl (Nat.le_of_ble_eq_true rfl) rfl ?_
      refine X_aload rfl rfl rfl ?_
      refine LW_ifnonnull (tgt := 98) rfl rfl ?_
      refine X_aload_n rfl rfl rfl rfl ?_
      refine X_aload_n rfl rfl rfl rfl ?_
      refine Y_callV (as := []) (st := [.ref 339]) rfl rfl rfl (by decide) rfl (Nat.le_of_ble_eq_true rfl) (by decide) (Nat.le_of_ble_eq_true rfl) rfl ((congrFun V.1 10).trans s_10) (by decide) (C_X9_outs V  ) ?_
      rintro _ g' ⟨vr13, rfl, hrvr130, hrvr131, hgg⟩
      subst hgg
      refine X_callV (as := [.int vr13]) (st := []) rfl rfl rfl (by decide) rfl (Nat.le_of_ble_eq_true rfl) (by decide) (Nat.le_of_ble_eq_true rfl) rfl ((congrFun V.1 339).trans s_339) (by decide) ?_
      refine LW_ls (ls' := [some (.ref 339), some (.int vr13)]) rfl ?_
      refine X_aload_n rfl rfl rfl rfl ?_
      refine X_getR (a := 340) rfl rfl rfl ((congrFun V.1 339).trans s_339) rfl ((congrFun (V.2.1 339 (by decide)) 2).trans r_339_2) ?_
      refine X_iconst (v := (0 : Int32)) rfl rfl rfl ?_
      refine X_aload_n rfl rfl rfl rfl ?_
      refine X_getR (a := 1) rfl rfl rfl ((congrFun V.1 339).trans s_339) rfl ((congrFun (V.2.1 339 (by decide)) 0).trans r_339_0) ?_
      refine X_getR (a := 10) rfl rfl rfl ((congrFun V.1 1).trans s_1) rfl ((congrFun (V.2.1 1 (by decide)) 1).trans r_1_1) ?_
      refine S_getI rfl rfl rfl ((congrFun V.1 10).trans s_10) rfl (fun vz14 evz14 => ?_)
      have vf15 := K_11_1 (V.2.2.2.2.1 (10) (1) (Nat.le_of_ble_eq_true rfl)) rk_10
      rw [evz14] at vf15
      refine S_iast (I := Inv _) rfl rfl ((congrFun V.1 340).trans s_340) (rfl : (0 : Int32).toInt = 0) (by omega) (Inv_putI V (Nat.le_of_ble_eq_true rfl) (Or.inl (by decide)) (Q_0 rk_340)) (fun g V ve16 vn17 hq => ?_)
      have hG := hq.trans hG
      have evz2 := (vn17 10 0 (Or.inl (by decide))).trans evz2
      have evz14 := (vn17 10 1 (Or.inl (by decide))).trans evz14
      rw [← vn17 (299 + 10 * u) (0).toNat (Or.inl (by omega))] at hl
      refine X_aload_n rfl rfl rfl rfl ?_
      refine X_getR (a := 340) rfl rfl rfl ((congrFun V.1 339).trans s_339) rfl ((congrFun (V.2.1 339 (by decide)) 2).trans r_339_2) ?_
      refine X_iconst (v := (1 : Int32)) rfl rfl rfl ?_
      refine X_iload_n rfl rfl rfl rfl ?_
      refine S_iast (I := Inv _) rfl rfl ((congrFun V.1 340).trans s_340) (rfl : (1 : Int32).toInt = 1) (by omega) (Inv_putI V (Nat.le_of_ble_eq_true rfl) (Or.inl (by decide)) (Q_0 rk_340)) (fun g V ve18 vn19 hq => ?_)
      have hG := hq.trans hG
      have evz2 := (vn19 10 0 (Or.inl (by decide))).trans evz2
      have evz14 := (vn19 10 1 (Or.inl (by decide))).trans evz14
      rw [← vn19 (299 + 10 * u) (0).toNat (Or.inl (by omega))] at hl
      refine LW_return (st := []) rfl rfl ?_
      refine X_aload_n rfl rfl rfl rfl ?_
      refine X_getR (a := 340) rfl rfl rfl ((congrFun V.1 339).trans s_339) rfl ((congrFun (V.2.1 339 (by decide)) 2).trans r_339_2) ?_
      refine X_iconst (v := (2 : Int32)) rfl rfl rfl ?_
      refine X_iload_n rfl rfl rfl rfl ?_
      refine S_iast (I := Inv _) rfl rfl ((congrFun V.1 340).trans s_340) (rfl : (2 : Int32).toInt = 2) (by omega) (Inv_putI V (Nat.le_of_ble_eq_true rfl) (Or.inl (by decide)) (Q_0 rk_340)) (fun g V ve20 vn21 hq => ?_)
      have hG := hq.trans hG
      have evz2 := (vn21 10 0 (Or.inl (by decide))).trans evz2
      have evz14 := (vn21 10 1 (Or.inl (by decide))).trans evz14
      rw [← vn21 (299 + 10 * u) (0).toNat (Or.inl (by omega))] at hl
      refine X_aload_n rfl rfl rfl rfl ?_
      refine X_getR (a := 340) rfl rfl rfl ((congrFun V.1 339).trans s_339) rfl ((congrFun (V.2.1 339 (by decide)) 2).trans r_339_2) ?_
      refine X_iconst (v := (3 : Int32)) rfl rfl rfl ?_
      refine X_aload_n rfl rfl rfl rfl ?_
      refine X_getR (a := 11) rfl rfl rfl ((congrFun V.1 10).trans s_10) rfl ((congrFun (V.2.1 10 (by decide)) 4).trans r_10_4) ?_
      refine X_iload_n rfl rfl rfl rfl ?_
      refine S_iald rfl rfl ((congrFun V.1 11).trans s_11) hx1 (by omega) (fun vz22 evz22 => ?_)
      refine S_iast (I := Inv _) rfl rfl ((congrFun V.1 340).trans s_340) (rfl : (3 : Int32).toInt = 3) (by omega) (Inv_putI V (Nat.le_of_ble_eq_true rfl) (Or.inl (by decide)) (Q_0 rk_340)) (fun g V ve23 vn24 hq => ?_)
      have hG := hq.trans hG
      have evz2 := (vn24 10 0 (Or.inl (by decide))).trans evz2
      have evz14 := (vn24 10 1 (Or.inl (by decide))).trans evz14
      rw [← vn24 (299 + 10 * u) (0).toNat (Or.inl (by omega))] at hl
      refine X_aload_n rfl rfl rfl rfl ?_
      refine X_getR (a := 340) rfl rfl rfl ((congrFun V.1 339).trans s_339) rfl ((congrFun (V.2.1 339 (by decide)) 2).trans r_339_2) ?_
      refine X_iconst (v := (4 : Int32)) rfl rfl rfl ?_
      refine X_aload_n rfl rfl rfl rfl ?_
      refine X_getR (a := 12) rfl rfl rfl ((congrFun V.1 10).trans s_10) rfl ((congrFun (V.2.1 10 (by decide)) 5).trans r_10_5) ?_
      refine X_iload_n rfl rfl rfl rfl ?_
      refine S_iald rfl rfl ((congrFun V.1 12).trans s_12) hx1 (by omega) (fun vz25 evz25 => ?_)
      refine S_iast (I := Inv _) rfl rfl ((congrFun V.1 340).trans s_340) (rfl : (4 : Int32).toInt = 4) (by omega) (Inv_putI V (Nat.le_of_ble_eq_true rfl) (Or.inl (by decide)) (Q_0 rk_340)) (fun g V ve26 vn27 hq => ?_)
      have hG := hq.trans hG
      have evz2 := (vn27 10 0 (Or.inl (by decide))).trans evz2
      have evz14 := (vn27 10 1 (Or.inl (by decide))).trans evz14
      rw [← vn27 (299 + 10 * u) (0).toNat (Or.inl (by omega))] at hl
      refine X_aload_n rfl rfl rfl rfl ?_
      refine X_getR (a := 340) rfl rfl rfl ((congrFun V.1 339).trans s_339) rfl ((congrFun (V.2.1 339 (by decide)) 2).trans r_339_2) ?_
      refine X_iconst (v := (5 : Int32)) rfl rfl rfl ?_
      refine X_ldc (v := (1065233 : Int32)) rfl rfl rfl ?_
      refine X_iload_n rfl rfl rfl rfl ?_
      refine S_ishrT rfl rfl (fun vz28 => ?_)
      refine X_iconst (v := (1 : Int32)) rfl rfl rfl ?_
      refine S_iandR (k := 1) rfl rfl rfl (fun vz29 hvz29 => ?_)
      refine S_iast (I := Inv _) rfl rfl ((congrFun V.1 340).trans s_340) (rfl : (5 : Int32).toInt = 5) (by omega) (Inv_putI V (Nat.le_of_ble_eq_true rfl) (Or.inl (by decide)) (Q_0 rk_340)) (fun g V ve30 vn31 hq => ?_)
      have hG := hq.trans hG
      have evz2 := (vn31 10 0 (Or.inl (by decide))).trans evz2
      have evz14 := (vn31 10 1 (Or.inl (by decide))).trans evz14
      rw [← vn31 (299 + 10 * u) (0).toNat (Or.inl (by omega))] at hl
      refine X_aload_n rfl rfl rfl rfl ?_
      refine X_getR (a := 340) rfl rfl rfl ((congrFun V.1 339).trans s_339) rfl ((congrFun (V.2.1 339 (by decide)) 2).trans r_339_2) ?_
      refine X_bipush (v := (6 : Int32)) rfl rfl rfl ?_
      refine X_iload_n rfl rfl rfl rfl ?_
      refine S_iast (I := Inv _) rfl rfl ((congrFun V.1 340).trans s_340) (rfl : (6 : Int32).toInt = 6) (by omega) (Inv_putI V (Nat.le_of_ble_eq_true rfl) (Or.inl (by decide)) (Q_0 rk_340)) (fun g V ve32 vn33 hq => ?_)
      have hG := hq.trans hG
      have evz2 := (vn33 10 0 (Or.inl (by decide))).trans evz2
      have evz14 := (vn33 10 1 (Or.inl (by decide))).trans evz14
      rw [← vn33 (299 + 10 * u) (0).toNat (Or.inl (by omega))] at hl
      refine X_aload_n rfl rfl rfl rfl ?_
      refine X_getR (a := 340) rfl rfl rfl ((congrFun V.1 339).trans s_339) rfl ((congrFun (V.2.1 339 (by decide)) 2).trans r_339_2) ?_
      refine X_bipush (v := (7 : Int32)) rfl rfl rfl ?_
      refine X_aload_n rfl rfl rfl rfl ?_
      refine X_getR (a := 1) rfl rfl rfl ((congrFun V.1 339).trans s_339) rfl ((congrFun (V.2.1 339 (by decide)) 0).trans r_339_0) ?_
      refine X_getR (a := 2) rfl rfl rfl ((congrFun V.1 1).trans s_1) rfl ((congrFun (V.2.1 1 (by decide)) 0).trans r_1_0) ?_
      refine X_iload_n rfl rfl rfl rfl ?_
      refine Y_callV (as := [.int x1]) (st := [.int (7 : Int32), .ref 340]) rfl rfl rfl (by decide) rfl (Nat.le_of_ble_eq_true rfl) (by decide) (Nat.le_of_ble_eq_true rfl) rfl ((congrFun V.1 2).trans s_2) (by decide) (C_X5_uses V x1 y1 hx1 (by omega) ) ?_
      rintro _ g' ⟨vr34, rfl, hgg⟩
      subst hgg
      refine S_iast (I := Inv _) rfl rfl ((congrFun V.1 340).trans s_340) (rfl : (7 : Int32).toInt = 7) (by omega) (Inv_putI V (Nat.le_of_ble_eq_true rfl) (Or.inl (by decide)) (Q_0 rk_340)) (fun g V ve35 vn36 hq => ?_)
      have hG := hq.trans hG
      have evz2 := (vn36 10 0 (Or.inl (by decide))).trans evz2
      have evz14 := (vn36 10 1 (Or.inl (by decide))).trans evz14
      rw [← vn36 (299 + 10 * u) (0).toNat (Or.inl (by omega))] at hl
      refine X_aload_n rfl rfl rfl rfl ?_
      refine X_aload rfl rfl rfl ?_
      refine X_iload rfl rfl rfl ?_
      refine Y_callV (as := [.ref (292 + 10 * u), .int (0 : Int32)]) (st := []) rfl rfl rfl (by decide) rfl (Nat.le_of_ble_eq_true rfl) (by decide) (Nat.le_of_ble_eq_true rfl) rfl ((congrFun V.1 339).trans s_339) (by decide) (C_X4_run_339_T hu V (0 : Int32) 0 (rfl : (0 : Int32).toInt = 0) (by omega) hl) ?_
      rintro _ g ⟨vr37, rfl, V, hq⟩
      have hG := hq.trans hG
      refine S_if_eq (tgt := 190) rfl rfl rfl rfl (fun vh38 => ?_) (fun vh38 => ?_)
      · refine X_iconst (v := (0 : Int32)) rfl rfl rfl ?_
        exact LW_ireturn (st := []) rfl rfl rfl ⟨_, rfl, by decide, by decide, V, hG⟩
      · refine X_iconst (v := (1 : Int32)) rfl rfl rfl ?_
        refine LW_goto (tgt := 191) rfl rfl ?_
        exact LW_ireturn (st := []) rfl rfl rfl ⟨_, rfl, by decide, by decide, V, hG⟩
  · refine X_iconst (v := (1 : Int32)) rfl rfl rfl ?_
    refine LW_goto (tgt := 16) rfl rfl ?_
    refine LW_ireturn (st := []) rfl rfl rfl ?_
    refine S_if_eq (tgt := 38) rfl rfl rfl (rfl : (1 : Int32).toInt = 1) (fun q => absurd q (by omega)) (fun vh39 => ?_)
    refine X_iconst (v := (1 : Int32)) rfl rfl rfl ?_
    refine LW_goto (tgt := 39) rfl rfl ?_
    refine X_istore (i := 4) (ls' := [some (.ref 339), some (.int x1), some (.ref 10), some (.int vr4), some (.int (1 : Int32)), none]) rfl rfl (Nat.le_of_ble_eq_true rfl) rfl ?_
    refine X_aload_n rfl rfl rfl rfl ?_
    refine X_iload rfl rfl rfl ?_
    refine Y_callV (as := [.int (1 : Int32)]) (st := []) rfl rfl rfl (by decide) rfl (Nat.le_of_ble_eq_true rfl) (by decide) (Nat.le_of_ble_eq_true rfl) rfl ((congrFun V.1 339).trans s_339) (by decide) (C_X4_ruling V (1 : Int32) 1 (rfl : (1 : Int32).toInt = 1) (by omega) ) ?_
    rintro _ g' ⟨rfl | ⟨u, hu, rfl, hl⟩, hgg⟩
    · subst hgg
      refine X_astoreN (i := 5) (ls' := [some (.ref 339), some (.int x1), some (.ref 10), some (.int vr4), some (.int (1 : Int32)), some (.null)]) rfl rfl (Nat.le_of_ble_eq_true rfl) rfl ?_
      refine X_aloadN rfl rfl rfl ?_
      refine X_ifnonnullN (tgt := 98) rfl rfl rfl ?_
      refine X_iload rfl rfl rfl ?_
      refine X_iconst (v := (1 : Int32)) rfl rfl rfl ?_
      refine S_icmp_ne (tgt := 79) rfl rfl rfl (rfl : (1 : Int32).toInt = 1) (rfl : (1 : Int32).toInt = 1) (fun q => absurd q (by omega)) (fun vh40 => ?_)
      refine X_aload_n rfl rfl rfl rfl ?_
      refine X_getR (a := 11) rfl rfl rfl ((congrFun V.1 10).trans s_10) rfl ((congrFun (V.2.1 10 (by decide)) 4).trans r_10_4) ?_
      refine X_iload_n rfl rfl rfl rfl ?_
      refine S_iald rfl rfl ((congrFun V.1 11).trans s_11) hx1 (by omega) (fun vz41 evz41 => ?_)
      refine X_bipush (v := (9 : Int32)) rfl rfl rfl ?_
      refine S_icmp_le (tgt := 75) rfl rfl rfl rfl (rfl : (9 : Int32).toInt = 9) (fun vh42 => ?_) (fun vh42 => ?_)
      · refine X_iconst (v := (0 : Int32)) rfl rfl rfl ?_
        refine LW_goto (tgt := 97) rfl rfl ?_
        exact LW_ireturn (st := []) rfl rfl rfl ⟨_, rfl, by decide, by decide, V, hG⟩
      · refine X_iconst (v := (1 : Int32)) rfl rfl rfl ?_
        refine LW_goto (tgt := 97) rfl rfl ?_
        exact LW_ireturn (st := []) rfl rfl rfl ⟨_, rfl, by decide, by decide, V, hG⟩
    · subst hgg
      refine X_astore (i := 5) (ls' := [some (.ref 339), some (.int x1), some (.ref 10), some (.int vr4), some (.int (1 : Int32)), some (.ref (292 + 10 * u))]) rfl rfl (Nat.le_of_ble_eq_true rfl) rfl ?_
      refine X_aload rfl rfl rfl ?_
      refine LW_ifnonnull (tgt := 98) rfl rfl ?_
      refine X_aload_n rfl rfl rfl rfl ?_
      refine X_aload_n rfl rfl rfl rfl ?_
      refine Y_callV (as := []) (st := [.ref 339]) rfl rfl rfl (by decide) rfl (Nat.le_of_ble_eq_true rfl) (by decide) (Nat.le_of_ble_eq_true rfl) rfl ((congrFun V.1 10).trans s_10) (by decide) (C_X9_outs V  ) ?_
      rintro _ g' ⟨vr43, rfl, hrvr430, hrvr431, hgg⟩
      subst hgg
      refine X_callV (as := [.int vr43]) (st := []) rfl rfl rfl (by decide) rfl (Nat.le_of_ble_eq_true rfl) (by decide) (Nat.le_of_ble_eq_true rfl) rfl ((congrFun V.1 339).trans s_339) (by decide) ?_
      refine LW_ls (ls' := [some (.ref 339), some (.int vr43)]) rfl ?_
      refine X_aload_n rfl rfl rfl rfl ?_
      refine X_getR (a := 340) rfl rfl rfl ((congrFun V.1 339).trans s_339) rfl ((congrFun (V.2.1 339 (by decide)) 2).trans r_339_2) ?_
      refine X_iconst (v := (0 : Int32)) rfl rfl rfl ?_
      refine X_aload_n rfl rfl rfl rfl ?_
      refine X_getR (a := 1) rfl rfl rfl ((congrFun V.1 339).trans s_339) rfl ((congrFun (V.2.1 339 (by decide)) 0).trans r_339_0) ?_
      refine X_getR (a := 10) rfl rfl rfl ((congrFun V.1 1).trans s_1) rfl ((congrFun (V.2.1 1 (by decide)) 1).trans r_1_1) ?_
      refine S_getI rfl rfl rfl ((congrFun V.1 10).trans s_10) rfl (fun vz44 evz44 => ?_)
      have vf45 := K_11_1 (V.2.2.2.2.1 (10) (1) (Nat.le_of_ble_eq_true rfl)) rk_10
      rw [evz44] at vf45
      refine S_iast (I := Inv _) rfl rfl ((congrFun V.1 340).trans s_340) (rfl : (0 : Int32).toInt = 0) (by omega) (Inv_putI V (Nat.le_of_ble_eq_true rfl) (Or.inl (by decide)) (Q_0 rk_340)) (fun g V ve46 vn47 hq => ?_)
      have hG := hq.trans hG
      have evz2 := (vn47 10 0 (Or.inl (by decide))).trans evz2
      have evz44 := (vn47 10 1 (Or.inl (by decide))).trans evz44
      rw [← vn47 (299 + 10 * u) (1).toNat (Or.inl (by omega))] at hl
      refine X_aload_n rfl rfl rfl rfl ?_
      refine X_getR (a := 340) rfl rfl rfl ((congrFun V.1 339).trans s_339) rfl ((congrFun (V.2.1 339 (by decide)) 2).trans r_339_2) ?_
      refine X_iconst (v := (1 : Int32)) rfl rfl rfl ?_
      refine X_iload_n rfl rfl rfl rfl ?_
      refine S_iast (I := Inv _) rfl rfl ((congrFun V.1 340).trans s_340) (rfl : (1 : Int32).toInt = 1) (by omega) (Inv_putI V (Nat.le_of_ble_eq_true rfl) (Or.inl (by decide)) (Q_0 rk_340)) (fun g V ve48 vn49 hq => ?_)
      have hG := hq.trans hG
      have evz2 := (vn49 10 0 (Or.inl (by decide))).trans evz2
      have evz44 := (vn49 10 1 (Or.inl (by decide))).trans evz44
      rw [← vn49 (299 + 10 * u) (1).toNat (Or.inl (by omega))] at hl
      refine LW_return (st := []) rfl rfl ?_
      refine X_aload_n rfl rfl rfl rfl ?_
      refine X_getR (a := 340) rfl rfl rfl ((congrFun V.1 339).trans s_339) rfl ((congrFun (V.2.1 339 (by decide)) 2).trans r_339_2) ?_
      refine X_iconst (v := (2 : Int32)) rfl rfl rfl ?_
      refine X_iload_n rfl rfl rfl rfl ?_
      refine S_iast (I := Inv _) rfl rfl ((congrFun V.1 340).trans s_340) (rfl : (2 : Int32).toInt = 2) (by omega) (Inv_putI V (Nat.le_of_ble_eq_true rfl) (Or.inl (by decide)) (Q_0 rk_340)) (fun g V ve50 vn51 hq => ?_)
      have hG := hq.trans hG
      have evz2 := (vn51 10 0 (Or.inl (by decide))).trans evz2
      have evz44 := (vn51 10 1 (Or.inl (by decide))).trans evz44
      rw [← vn51 (299 + 10 * u) (1).toNat (Or.inl (by omega))] at hl
      refine X_aload_n rfl rfl rfl rfl ?_
      refine X_getR (a := 340) rfl rfl rfl ((congrFun V.1 339).trans s_339) rfl ((congrFun (V.2.1 339 (by decide)) 2).trans r_339_2) ?_
      refine X_iconst (v := (3 : Int32)) rfl rfl rfl ?_
      refine X_aload_n rfl rfl rfl rfl ?_
      refine X_getR (a := 11) rfl rfl rfl ((congrFun V.1 10).trans s_10) rfl ((congrFun (V.2.1 10 (by decide)) 4).trans r_10_4) ?_
      refine X_iload_n rfl rfl rfl rfl ?_
      refine S_iald rfl rfl ((congrFun V.1 11).trans s_11) hx1 (by omega) (fun vz52 evz52 => ?_)
      refine S_iast (I := Inv _) rfl rfl ((congrFun V.1 340).trans s_340) (rfl : (3 : Int32).toInt = 3) (by omega) (Inv_putI V (Nat.le_of_ble_eq_true rfl) (Or.inl (by decide)) (Q_0 rk_340)) (fun g V ve53 vn54 hq => ?_)
      have hG := hq.trans hG
      have evz2 := (vn54 10 0 (Or.inl (by decide))).trans evz2
      have evz44 := (vn54 10 1 (Or.inl (by decide))).trans evz44
      rw [← vn54 (299 + 10 * u) (1).toNat (Or.inl (by omega))] at hl
      refine X_aload_n rfl rfl rfl rfl ?_
      refine X_getR (a := 340) rfl rfl rfl ((congrFun V.1 339).trans s_339) rfl ((congrFun (V.2.1 339 (by decide)) 2).trans r_339_2) ?_
      refine X_iconst (v := (4 : Int32)) rfl rfl rfl ?_
      refine X_aload_n rfl rfl rfl rfl ?_
      refine X_getR (a := 12) rfl rfl rfl ((congrFun V.1 10).trans s_10) rfl ((congrFun (V.2.1 10 (by decide)) 5).trans r_10_5) ?_
      refine X_iload_n rfl rfl rfl rfl ?_
      refine S_iald rfl rfl ((congrFun V.1 12).trans s_12) hx1 (by omega) (fun vz55 evz55 => ?_)
      refine S_iast (I := Inv _) rfl rfl ((congrFun V.1 340).trans s_340) (rfl : (4 : Int32).toInt = 4) (by omega) (Inv_putI V (Nat.le_of_ble_eq_true rfl) (Or.inl (by decide)) (Q_0 rk_340)) (fun g V ve56 vn57 hq => ?_)
      have hG := hq.trans hG
      have evz2 := (vn57 10 0 (Or.inl (by decide))).trans evz2
      have evz44 := (vn57 10 1 (Or.inl (by decide))).trans evz44
      rw [← vn57 (299 + 10 * u) (1).toNat (Or.inl (by omega))] at hl
      refine X_aload_n rfl rfl rfl rfl ?_
      refine X_getR (a := 340) rfl rfl rfl ((congrFun V.1 339).trans s_339) rfl ((congrFun (V.2.1 339 (by decide)) 2).trans r_339_2) ?_
      refine X_iconst (v := (5 : Int32)) rfl rfl rfl ?_
      refine X_ldc (v := (1065233 : Int32)) rfl rfl rfl ?_
      refine X_iload_n rfl rfl rfl rfl ?_
      refine S_ishrT rfl rfl (fun vz58 => ?_)
      refine X_iconst (v := (1 : Int32)) rfl rfl rfl ?_
      refine S_iandR (k := 1) rfl rfl rfl (fun vz59 hvz59 => ?_)
      refine S_iast (I := Inv _) rfl rfl ((congrFun V.1 340).trans s_340) (rfl : (5 : Int32).toInt = 5) (by omega) (Inv_putI V (Nat.le_of_ble_eq_true rfl) (Or.inl (by decide)) (Q_0 rk_340)) (fun g V ve60 vn61 hq => ?_)
      have hG := hq.trans hG
      have evz2 := (vn61 10 0 (Or.inl (by decide))).trans evz2
      have evz44 := (vn61 10 1 (Or.inl (by decide))).trans evz44
      rw [← vn61 (299 + 10 * u) (1).toNat (Or.inl (by omega))] at hl
      refine X_aload_n rfl rfl rfl rfl ?_
      refine X_getR (a := 340) rfl rfl rfl ((congrFun V.1 339).trans s_339) rfl ((congrFun (V.2.1 339 (by decide)) 2).trans r_339_2) ?_
      refine X_bipush (v := (6 : Int32)) rfl rfl rfl ?_
      refine X_iload_n rfl rfl rfl rfl ?_
      refine S_iast (I := Inv _) rfl rfl ((congrFun V.1 340).trans s_340) (rfl : (6 : Int32).toInt = 6) (by omega) (Inv_putI V (Nat.le_of_ble_eq_true rfl) (Or.inl (by decide)) (Q_0 rk_340)) (fun g V ve62 vn63 hq => ?_)
      have hG := hq.trans hG
      have evz2 := (vn63 10 0 (Or.inl (by decide))).trans evz2
      have evz44 := (vn63 10 1 (Or.inl (by decide))).trans evz44
      rw [← vn63 (299 + 10 * u) (1).toNat (Or.inl (by omega))] at hl
      refine X_aload_n rfl rfl rfl rfl ?_
      refine X_getR (a := 340) rfl rfl rfl ((congrFun V.1 339).trans s_339) rfl ((congrFun (V.2.1 339 (by decide)) 2).trans r_339_2) ?_
      refine X_bipush (v := (7 : Int32)) rfl rfl rfl ?_
      refine X_aload_n rfl rfl rfl rfl ?_
      refine X_getR (a := 1) rfl rfl rfl ((congrFun V.1 339).trans s_339) rfl ((congrFun (V.2.1 339 (by decide)) 0).trans r_339_0) ?_
      refine X_getR (a := 2) rfl rfl rfl ((congrFun V.1 1).trans s_1) rfl ((congrFun (V.2.1 1 (by decide)) 0).trans r_1_0) ?_
      refine X_iload_n rfl rfl rfl rfl ?_
      refine Y_callV (as := [.int x1]) (st := [.int (7 : Int32), .ref 340]) rfl rfl rfl (by decide) rfl (Nat.le_of_ble_eq_true rfl) (by decide) (Nat.le_of_ble_eq_true rfl) rfl ((congrFun V.1 2).trans s_2) (by decide) (C_X5_uses V x1 y1 hx1 (by omega) ) ?_
      rintro _ g' ⟨vr64, rfl, hgg⟩
      subst hgg
      refine S_iast (I := Inv _) rfl rfl ((congrFun V.1 340).trans s_340) (rfl : (7 : Int32).toInt = 7) (by omega) (Inv_putI V (Nat.le_of_ble_eq_true rfl) (Or.inl (by decide)) (Q_0 rk_340)) (fun g V ve65 vn66 hq => ?_)
      have hG := hq.trans hG
      have evz2 := (vn66 10 0 (Or.inl (by decide))).trans evz2
      have evz44 := (vn66 10 1 (Or.inl (by decide))).trans evz44
      rw [← vn66 (299 + 10 * u) (1).toNat (Or.inl (by omega))] at hl
      refine X_aload_n rfl rfl rfl rfl ?_
      refine X_aload rfl rfl rfl ?_
      refine X_iload rfl rfl rfl ?_
      refine Y_callV (as := [.ref (292 + 10 * u), .int (1 : Int32)]) (st := []) rfl rfl rfl (by decide) rfl (Nat.le_of_ble_eq_true rfl) (by decide) (Nat.le_of_ble_eq_true rfl) rfl ((congrFun V.1 339).trans s_339) (by decide) (C_X4_run_339_T hu V (1 : Int32) 1 (rfl : (1 : Int32).toInt = 1) (by omega) hl) ?_
      rintro _ g ⟨vr67, rfl, V, hq⟩
      have hG := hq.trans hG
      refine S_if_eq (tgt := 190) rfl rfl rfl rfl (fun vh68 => ?_) (fun vh68 => ?_)
      · refine X_iconst (v := (0 : Int32)) rfl rfl rfl ?_
        exact LW_ireturn (st := []) rfl rfl rfl ⟨_, rfl, by decide, by decide, V, hG⟩
      · refine X_iconst (v := (1 : Int32)) rfl rfl rfl ?_
        refine LW_goto (tgt := 191) rfl rfl ?_
        exact LW_ireturn (st := []) rfl rfl rfl ⟨_, rfl, by decide, by decide, V, hG⟩
set_option maxRecDepth 10000 in
set_option maxHeartbeats 40000000 in
theorem C_X1_dawn_22 {P : Par} {g g0 : LH} {d n : Nat}  (V : Inv P g) (hG : Gr g = Gr g0) (x1 : Int32) (y1 : Int) (hx1 : x1.toInt = y1) (hf1 : 0 ≤ y1 ∧ y1 ≤ 1) (x2 : Int32) (y2 : Int) (hx2 : x2.toInt = y2) (x3 : Int32) (y3 : Int) (hx3 : x3.toInt = y3) (hf3 : 0 ≤ y3 ∧ y3 ≤ 26)  (hmu : (26 - y3) * 1 + 28 < (n : Int) + 1) (ih22 : ∀ (g : LH) (V : Inv P g) (hG : Gr g = Gr g0) (x1 : Int32) (y1 : Int) (hx1 : x1.toInt = y1) (hf1 : 0 ≤ y1 ∧ y1 ≤ 1) (x2 : Int32) (y2 : Int) (hx2 : x2.toInt = y2) (x3 : Int32) (y3 : Int) (hx3 : x3.toInt = y3) (hf3 : 0 ≤ y3 ∧ y3 ≤ 26) , (26 - y3) * 1 + 28 < (n : Int) → LW 5 (d + 16) 0 0 22 [some (.ref 342), some (.int x1), some (.int x2), some (.int x3)] [] g (fun v g' => v = none ∧ Inv P g' ∧ Gr g' = Gr g0)) (ih57 : ∀ (g : LH) (V : Inv P g) (hG : Gr g = Gr g0) (x1 : Int32) (y1 : Int) (hx1 : x1.toInt = y1) (hf1 : 0 ≤ y1 ∧ y1 ≤ 1) (x2 : Int32) (y2 : Int) (hx2 : x2.toInt = y2) (x3 : Int32) (y3 : Int) (hx3 : x3.toInt = y3) (hf3 : 0 ≤ y3 ∧ y3 ≤ 26) , (26 - y3) * 1 + 0 < (n : Int) → LW 5 (d + 16) 0 0 57 [some (.ref 342), some (.int x1), some (.int x2), some (.int x3)] [] g (fun v g' => v = none ∧ Inv P g' ∧ Gr g' = Gr g0)) : LW 5 (d + 16) 0 0 22 [some (.ref 342), some (.int x1), some (.int x2), some (.int x3)] [] g (fun v g' => v = none ∧ Inv P g' ∧ Gr g' = Gr g0) := by
  refine X_iload_n rfl rfl rfl rfl ?_
  refine X_bipush (v := (26 : Int32)) rfl rfl rfl ?_
  refine S_icmp_ge (tgt := 55) rfl rfl rfl hx3 (rfl : (26 : Int32).toInt = 26) (fun vh1 => ?_) (fun vh1 => ?_)
  · refine X_iconst (v := (0 : Int32)) rfl rfl rfl ?_
    refine X_istore_n (i := 3) (ls' := [some (.ref 342), some (.int x1), some (.int x2), some (.int (0 : Int32))]) rfl rfl rfl (Nat.le_of_ble_eq_true rfl) rfl ?_
    exact ih57 _ V hG x1 y1 hx1 (by omega) x2 y2 hx2 (0 : Int32) 0 (rfl : (0 : Int32).toInt = 0) (by omega)    (by omega)
  · refine X_iload_n rfl rfl rfl rfl ?_
    refine X_aload_n rfl rfl rfl rfl ?_
    refine X_getR (a := 339) rfl rfl rfl ((congrFun V.1 342).trans s_342) rfl ((congrFun (V.2.1 342 (by decide)) 2).trans r_342_2) ?_
    refine X_iload_n rfl rfl rfl rfl ?_
    refine Y_callV (as := [.int x3]) (st := [.int x2]) rfl rfl rfl (by decide) rfl (Nat.le_of_ble_eq_true rfl) (by decide) (Nat.le_of_ble_eq_true rfl) rfl ((congrFun V.1 339).trans s_339) (by decide) (C_X4_moves V x3 y3 hx3 (by omega) ) ?_
    rintro _ g ⟨vr2, rfl, hrvr20, hrvr21, V, hq⟩
    have hG := hq.trans hG
    refine S_if_eq (tgt := 46) rfl rfl rfl rfl (fun vh3 => ?_) (fun vh3 => ?_)
    · refine X_iconst (v := (0 : Int32)) rfl rfl rfl ?_
      refine S_iorT rfl rfl (fun vz4 => ?_)
      refine X_istore_n (i := 2) (ls' := [some (.ref 342), some (.int x1), some (.int vz4), some (.int x3)]) rfl rfl rfl (Nat.le_of_ble_eq_true rfl) rfl ?_
      refine S_iinc (c := 1) rfl rfl rfl hx3 rfl (by omega) (fun vz5 hvz5 => ?_)
      refine LW_ls (ls' := [some (.ref 342), some (.int x1), some (.int vz4), some (.int vz5)]) rfl ?_
      refine LW_goto (tgt := 22) rfl rfl ?_
      exact ih22 _ V hG x1 y1 hx1 (by omega) vz4 vz4.toInt rfl vz5 vz5.toInt rfl (by omega)    (by omega)
    · refine X_iconst (v := (1 : Int32)) rfl rfl rfl ?_
      refine X_iload_n rfl rfl rfl rfl ?_
      refine S_ishlT rfl rfl (fun vz6 => ?_)
      refine LW_goto (tgt := 47) rfl rfl ?_
      refine S_iorT rfl rfl (fun vz7 => ?_)
      refine X_istore_n (i := 2) (ls' := [some (.ref 342), some (.int x1), some (.int vz7), some (.int x3)]) rfl rfl rfl (Nat.le_of_ble_eq_true rfl) rfl ?_
      refine S_iinc (c := 1) rfl rfl rfl hx3 rfl (by omega) (fun vz8 hvz8 => ?_)
      refine LW_ls (ls' := [some (.ref 342), some (.int x1), some (.int vz7), some (.int vz8)]) rfl ?_
      refine LW_goto (tgt := 22) rfl rfl ?_
      exact ih22 _ V hG x1 y1 hx1 (by omega) vz7 vz7.toInt rfl vz8 vz8.toInt rfl (by omega)    (by omega)
set_option maxRecDepth 10000 in
set_option maxHeartbeats 40000000 in
theorem C_X1_dawn_57 {P : Par} {g g0 : LH} {d n : Nat}  (V : Inv P g) (hG : Gr g = Gr g0) (x1 : Int32) (y1 : Int) (hx1 : x1.toInt = y1) (hf1 : 0 ≤ y1 ∧ y1 ≤ 1) (x2 : Int32) (y2 : Int) (hx2 : x2.toInt = y2) (x3 : Int32) (y3 : Int) (hx3 : x3.toInt = y3) (hf3 : 0 ≤ y3 ∧ y3 ≤ 26)  (hmu : (26 - y3) * 1 + 0 < (n : Int) + 1) (ih22 : ∀ (g : LH) (V : Inv P g) (hG : Gr g = Gr g0) (x1 : Int32) (y1 : Int) (hx1 : x1.toInt = y1) (hf1 : 0 ≤ y1 ∧ y1 ≤ 1) (x2 : Int32) (y2 : Int) (hx2 : x2.toInt = y2) (x3 : Int32) (y3 : Int) (hx3 : x3.toInt = y3) (hf3 : 0 ≤ y3 ∧ y3 ≤ 26) , (26 - y3) * 1 + 28 < (n : Int) → LW 5 (d + 16) 0 0 22 [some (.ref 342), some (.int x1), some (.int x2), some (.int x3)] [] g (fun v g' => v = none ∧ Inv P g' ∧ Gr g' = Gr g0)) (ih57 : ∀ (g : LH) (V : Inv P g) (hG : Gr g = Gr g0) (x1 : Int32) (y1 : Int) (hx1 : x1.toInt = y1) (hf1 : 0 ≤ y1 ∧ y1 ≤ 1) (x2 : Int32) (y2 : Int) (hx2 : x2.toInt = y2) (x3 : Int32) (y3 : Int) (hx3 : x3.toInt = y3) (hf3 : 0 ≤ y3 ∧ y3 ≤ 26) , (26 - y3) * 1 + 0 < (n : Int) → LW 5 (d + 16) 0 0 57 [some (.ref 342), some (.int x1), some (.int x2), some (.int x3)] [] g (fun v g' => v = none ∧ Inv P g' ∧ Gr g' = Gr g0)) : LW 5 (d + 16) 0 0 57 [some (.ref 342), some (.int x1), some (.int x2), some (.int x3)] [] g (fun v g' => v = none ∧ Inv P g' ∧ Gr g' = Gr g0) := by
  refine X_iload_n rfl rfl rfl rfl ?_
  refine X_bipush (v := (26 : Int32)) rfl rfl rfl ?_
  refine S_icmp_ge (tgt := 95) rfl rfl rfl hx3 (rfl : (26 : Int32).toInt = 26) (fun vh1 => ?_) (fun vh1 => ?_)
  · refine X_aload_n rfl rfl rfl rfl ?_
    refine X_getR (a := 10) rfl rfl rfl ((congrFun V.1 342).trans s_342) rfl ((congrFun (V.2.1 342 (by decide)) 1).trans r_342_1) ?_
    refine X_iload_n rfl rfl rfl rfl ?_
    refine Y_callV (as := [.int x2]) (st := []) rfl rfl rfl (by decide) rfl (Nat.le_of_ble_eq_true rfl) (by decide) (Nat.le_of_ble_eq_true rfl) rfl ((congrFun V.1 10).trans s_10) (by decide) (C_X9_move V x2 y2 hx2 ) ?_
    rintro _ g ⟨rfl, V, hq⟩
    have hG := hq.trans hG
    refine X_aload_n rfl rfl rfl rfl ?_
    refine X_getR (a := 10) rfl rfl rfl ((congrFun V.1 342).trans s_342) rfl ((congrFun (V.2.1 342 (by decide)) 1).trans r_342_1) ?_
    refine X_dup rfl rfl rfl ?_
    refine S_getI rfl rfl rfl ((congrFun V.1 10).trans s_10) rfl (fun vz3 evz3 => ?_)
    have vf4 := K_11_1 (V.2.2.2.2.1 (10) (1) (Nat.le_of_ble_eq_true rfl)) rk_10
    rw [evz3] at vf4
    refine X_iconst (v := (1 : Int32)) rfl rfl rfl ?_
    refine S_iadd rfl rfl rfl (rfl : (1 : Int32).toInt = 1) (by omega) (fun vz5 hvz5 => ?_)
    refine S_putI (I := Inv _) rfl rfl rfl ((congrFun V.1 10).trans s_10) rfl rfl rfl rfl (Inv_putI V (Nat.le_of_ble_eq_true rfl) (Or.inl (by decide)) (Q_11_1 rk_10 (by omega))) (fun g V ve6 vn7 hq => ?_)
    have hG := hq.trans hG
    exact LW_return (st := []) rfl rfl ⟨rfl, V, hG⟩
  · refine X_aload_n rfl rfl rfl rfl ?_
    refine X_getR (a := 10) rfl rfl rfl ((congrFun V.1 342).trans s_342) rfl ((congrFun (V.2.1 342 (by decide)) 1).trans r_342_1) ?_
    refine X_getR (a := 12) rfl rfl rfl ((congrFun V.1 10).trans s_10) rfl ((congrFun (V.2.1 10 (by decide)) 5).trans r_10_5) ?_
    refine X_iload_n rfl rfl rfl rfl ?_
    refine X_sipush (v := (999 : Int32)) rfl rfl rfl ?_
    refine X_aload_n rfl rfl rfl rfl ?_
    refine X_getR (a := 10) rfl rfl rfl ((congrFun V.1 342).trans s_342) rfl ((congrFun (V.2.1 342 (by decide)) 1).trans r_342_1) ?_
    refine X_getR (a := 12) rfl rfl rfl ((congrFun V.1 10).trans s_10) rfl ((congrFun (V.2.1 10 (by decide)) 5).trans r_10_5) ?_
    refine X_iload_n rfl rfl rfl rfl ?_
    refine S_iald rfl rfl ((congrFun V.1 12).trans s_12) hx3 (by omega) (fun vz8 evz8 => ?_)
    refine X_iconst (v := (1 : Int32)) rfl rfl rfl ?_
    refine S_iaddT rfl rfl (fun vz9 => ?_)
    refine S_min rfl rfl rfl (Nat.le_of_ble_eq_true rfl) (rfl : (999 : Int32).toInt = 999) rfl (fun vz10 hvz10 => ?_)
    refine S_iast (I := Inv _) rfl rfl ((congrFun V.1 12).trans s_12) hx3 (by omega) (Inv_putI V (Nat.le_of_ble_eq_true rfl) (Or.inl (by decide)) (Q_0 rk_12)) (fun g V ve11 vn12 hq => ?_)
    have hG := hq.trans hG
    refine S_iinc (c := 1) rfl rfl rfl hx3 rfl (by omega) (fun vz13 hvz13 => ?_)
    refine LW_ls (ls' := [some (.ref 342), some (.int x1), some (.int x2), some (.int vz13)]) rfl ?_
    refine LW_goto (tgt := 57) rfl rfl ?_
    exact ih57 _ V hG x1 y1 hx1 (by omega) x2 y2 hx2 vz13 vz13.toInt rfl (by omega)    (by omega)
theorem C_X1_dawn_all {P : Par} {g0 : LH} {d : Nat}  : ∀ n : Nat, (∀ (g : LH) (V : Inv P g) (hG : Gr g = Gr g0) (x1 : Int32) (y1 : Int) (hx1 : x1.toInt = y1) (hf1 : 0 ≤ y1 ∧ y1 ≤ 1) (x2 : Int32) (y2 : Int) (hx2 : x2.toInt = y2) (x3 : Int32) (y3 : Int) (hx3 : x3.toInt = y3) (hf3 : 0 ≤ y3 ∧ y3 ≤ 26) , (26 - y3) * 1 + 28 < (n : Int) → LW 5 (d + 16) 0 0 22 [some (.ref 342), some (.int x1), some (.int x2), some (.int x3)] [] g (fun v g' => v = none ∧ Inv P g' ∧ Gr g' = Gr g0)) ∧ (∀ (g : LH) (V : Inv P g) (hG : Gr g = Gr g0) (x1 : Int32) (y1 : Int) (hx1 : x1.toInt = y1) (hf1 : 0 ≤ y1 ∧ y1 ≤ 1) (x2 : Int32) (y2 : Int) (hx2 : x2.toInt = y2) (x3 : Int32) (y3 : Int) (hx3 : x3.toInt = y3) (hf3 : 0 ≤ y3 ∧ y3 ≤ 26) , (26 - y3) * 1 + 0 < (n : Int) → LW 5 (d + 16) 0 0 57 [some (.ref 342), some (.int x1), some (.int x2), some (.int x3)] [] g (fun v g' => v = none ∧ Inv P g' ∧ Gr g' = Gr g0)) := by
  intro n
  induction n with
  | zero => exact ⟨fun g V hG x1 y1 hx1 hf1 x2 y2 hx2 x3 y3 hx3 hf3 hmu => absurd hmu (by omega), fun g V hG x1 y1 hx1 hf1 x2 y2 hx2 x3 y3 hx3 hf3 hmu => absurd hmu (by omega)⟩
  | succ n ih => exact ⟨fun g V hG x1 y1 hx1 hf1 x2 y2 hx2 x3 y3 hx3 hf3 hmu => C_X1_dawn_22  V hG x1 y1 hx1 hf1 x2 y2 hx2 x3 y3 hx3 hf3 (by omega) ih.1 ih.2, fun g V hG x1 y1 hx1 hf1 x2 y2 hx2 x3 y3 hx3 hf3 hmu => C_X1_dawn_57  V hG x1 y1 hx1 hf1 x2 y2 hx2 x3 y3 hx3 hf3 (by omega) ih.1 ih.2⟩
set_option maxRecDepth 10000 in
set_option maxHeartbeats 40000000 in
theorem C_X1_dawn {P : Par} {g : LH} {d : Nat}  (V : Inv P g) (x1 : Int32) (y1 : Int) (hx1 : x1.toInt = y1) (hf1 : 0 ≤ y1 ∧ y1 ≤ 1)   : LW 5 (d + 16) 0 0 0 (lEnt (mL 5) [.ref 342, .int x1]) [] g (fun v g' => v = none ∧ Inv P g' ∧ Gr g' = Gr g) := by
  refine LW_ls (ls' := [some (.ref 342), some (.int x1), none, none]) rfl ?_
  have hG : Gr g = Gr g := rfl
  refine X_iload_n rfl rfl rfl rfl ?_
  refine S_if_eq (tgt := 18) rfl rfl rfl hx1 (fun vh1 => ?_) (fun vh1 => ?_)
  · refine X_iconst (v := (0 : Int32)) rfl rfl rfl ?_
    refine X_istore_n (i := 2) (ls' := [some (.ref 342), some (.int x1), some (.int (0 : Int32)), none]) rfl rfl rfl (Nat.le_of_ble_eq_true rfl) rfl ?_
    refine X_iconst (v := (0 : Int32)) rfl rfl rfl ?_
    refine X_istore_n (i := 3) (ls' := [some (.ref 342), some (.int x1), some (.int (0 : Int32)), some (.int (0 : Int32))]) rfl rfl rfl (Nat.le_of_ble_eq_true rfl) rfl ?_
    exact (C_X1_dawn_all (((26 - 0) * 1 + 28) + 1).toNat).1 _ V hG x1 y1 hx1 (by omega) (0 : Int32) 0 (rfl : (0 : Int32).toInt = 0) (0 : Int32) 0 (rfl : (0 : Int32).toInt = 0) (by omega)    (by omega)
  · refine X_aload_n rfl rfl rfl rfl ?_
    refine X_getR (a := 1) rfl rfl rfl ((congrFun V.1 342).trans s_342) rfl ((congrFun (V.2.1 342 (by decide)) 0).trans r_342_0) ?_
    refine X_getR (a := 14) rfl rfl rfl ((congrFun V.1 1).trans s_1) rfl ((congrFun (V.2.1 1 (by decide)) 2).trans r_1_2) ?_
    refine X_aload_n rfl rfl rfl rfl ?_
    refine X_getR (a := 10) rfl rfl rfl ((congrFun V.1 342).trans s_342) rfl ((congrFun (V.2.1 342 (by decide)) 1).trans r_342_1) ?_
    refine Y_callV (as := [.ref 10]) (st := []) rfl rfl rfl (by decide) rfl (Nat.le_of_ble_eq_true rfl) (by decide) (Nat.le_of_ble_eq_true rfl) rfl ((congrFun V.1 14).trans s_14) (by decide) (C_X3_keep_14_10 V  ) ?_
    rintro _ g ⟨rfl, V, hq⟩
    have hG := hq.trans hG
    refine X_iconst (v := (0 : Int32)) rfl rfl rfl ?_
    refine X_istore_n (i := 2) (ls' := [some (.ref 342), some (.int x1), some (.int (0 : Int32)), none]) rfl rfl rfl (Nat.le_of_ble_eq_true rfl) rfl ?_
    refine X_iconst (v := (0 : Int32)) rfl rfl rfl ?_
    refine X_istore_n (i := 3) (ls' := [some (.ref 342), some (.int x1), some (.int (0 : Int32)), some (.int (0 : Int32))]) rfl rfl rfl (Nat.le_of_ble_eq_true rfl) rfl ?_
    exact (C_X1_dawn_all (((26 - 0) * 1 + 28) + 1).toNat).1 _ V hG x1 y1 hx1 (by omega) (0 : Int32) 0 (rfl : (0 : Int32).toInt = 0) (0 : Int32) 0 (rfl : (0 : Int32).toInt = 0) (by omega)    (by omega)
set_option maxRecDepth 10000 in
set_option maxHeartbeats 40000000 in
theorem C_X1_passMornings_18 {P : Par} {g g0 : LH} {d n : Nat}  (V : Inv P g) (hG : Gr g = Gr g0) (x1 : Int32) (y1 : Int) (hx1 : x1.toInt = y1) (x2 : Int32) (y2 : Int) (hx2 : x2.toInt = y2) (hf2 : y2 ≤ 999) (x3 : Int32) (y3 : Int) (hx3 : x3.toInt = y3) (hf3 : 0 ≤ y3 ∧ y3 ≤ 999)  (hmu : (999 - y3) * 1 + 0 < (n : Int) + 1) (ih18 : ∀ (g : LH) (V : Inv P g) (hG : Gr g = Gr g0) (x1 : Int32) (y1 : Int) (hx1 : x1.toInt = y1) (x2 : Int32) (y2 : Int) (hx2 : x2.toInt = y2) (hf2 : y2 ≤ 999) (x3 : Int32) (y3 : Int) (hx3 : x3.toInt = y3) (hf3 : 0 ≤ y3 ∧ y3 ≤ 999) , (999 - y3) * 1 + 0 < (n : Int) → LW 4 (d + 20) 0 0 18 [some (.ref 342), some (.int x1), some (.int x2), some (.int x3)] [] g (fun v g' => ∃ r : Int32, v = some (.int r) ∧ r.toInt ≤ 999 ∧ Inv P g' ∧ Gr g' = Gr g0)) : LW 4 (d + 20) 0 0 18 [some (.ref 342), some (.int x1), some (.int x2), some (.int x3)] [] g (fun v g' => ∃ r : Int32, v = some (.int r) ∧ r.toInt ≤ 999 ∧ Inv P g' ∧ Gr g' = Gr g0) := by
  refine X_iload_n rfl rfl rfl rfl ?_
  refine X_iload_n rfl rfl rfl rfl ?_
  refine S_icmp_ge (tgt := 34) rfl rfl rfl hx3 hx2 (fun vh1 => ?_) (fun vh1 => ?_)
  · refine X_iload_n rfl rfl rfl rfl ?_
    have hr := hx2
    exact LW_ireturn (st := []) rfl rfl rfl ⟨_, rfl, by omega, V, hG⟩
  · refine X_aload_n rfl rfl rfl rfl ?_
    refine X_iconst (v := (1 : Int32)) rfl rfl rfl ?_
    refine Y_callV (as := [.int (1 : Int32)]) (st := []) rfl rfl rfl (by decide) rfl (Nat.le_of_ble_eq_true rfl) (by decide) (Nat.le_of_ble_eq_true rfl) rfl ((congrFun V.1 342).trans s_342) (by decide) (C_X1_dawn V (1 : Int32) 1 (rfl : (1 : Int32).toInt = 1) (by omega) ) ?_
    rintro _ g ⟨rfl, V, hq⟩
    have hG := hq.trans hG
    refine S_iinc (c := 1) rfl rfl rfl hx3 rfl (by omega) (fun vz3 hvz3 => ?_)
    refine LW_ls (ls' := [some (.ref 342), some (.int x1), some (.int x2), some (.int vz3)]) rfl ?_
    refine LW_goto (tgt := 18) rfl rfl ?_
    exact ih18 _ V hG x1 y1 hx1 x2 y2 hx2 (by omega) vz3 vz3.toInt rfl (by omega)    (by omega)
theorem C_X1_passMornings_all {P : Par} {g0 : LH} {d : Nat}  : ∀ n : Nat, (∀ (g : LH) (V : Inv P g) (hG : Gr g = Gr g0) (x1 : Int32) (y1 : Int) (hx1 : x1.toInt = y1) (x2 : Int32) (y2 : Int) (hx2 : x2.toInt = y2) (hf2 : y2 ≤ 999) (x3 : Int32) (y3 : Int) (hx3 : x3.toInt = y3) (hf3 : 0 ≤ y3 ∧ y3 ≤ 999) , (999 - y3) * 1 + 0 < (n : Int) → LW 4 (d + 20) 0 0 18 [some (.ref 342), some (.int x1), some (.int x2), some (.int x3)] [] g (fun v g' => ∃ r : Int32, v = some (.int r) ∧ r.toInt ≤ 999 ∧ Inv P g' ∧ Gr g' = Gr g0)) := by
  intro n
  induction n with
  | zero => exact fun g V hG x1 y1 hx1 x2 y2 hx2 hf2 x3 y3 hx3 hf3 hmu => absurd hmu (by omega)
  | succ n ih => exact fun g V hG x1 y1 hx1 x2 y2 hx2 hf2 x3 y3 hx3 hf3 hmu => C_X1_passMornings_18  V hG x1 y1 hx1 x2 y2 hx2 hf2 x3 y3 hx3 hf3 (by omega) ih
set_option maxRecDepth 10000 in
set_option maxHeartbeats 40000000 in
theorem C_X1_passMornings {P : Par} {g : LH} {d : Nat}  (V : Inv P g) (x1 : Int32) (y1 : Int) (hx1 : x1.toInt = y1)   : LW 4 (d + 20) 0 0 0 (lEnt (mL 4) [.ref 342, .int x1]) [] g (fun v g' => ∃ r : Int32, v = some (.int r) ∧ r.toInt ≤ 999 ∧ Inv P g' ∧ Gr g' = Gr g) := by
  refine LW_ls (ls' := [some (.ref 342), some (.int x1), none, none]) rfl ?_
  have hG : Gr g = Gr g := rfl
  refine X_iload_n rfl rfl rfl rfl ?_
  refine X_sipush (v := (999 : Int32)) rfl rfl rfl ?_
  refine X_aload_n rfl rfl rfl rfl ?_
  refine X_getR (a := 10) rfl rfl rfl ((congrFun V.1 342).trans s_342) rfl ((congrFun (V.2.1 342 (by decide)) 1).trans r_342_1) ?_
  refine S_getI rfl rfl rfl ((congrFun V.1 10).trans s_10) rfl (fun vz1 evz1 => ?_)
  have vf2 := K_11_1 (V.2.2.2.2.1 (10) (1) (Nat.le_of_ble_eq_true rfl)) rk_10
  rw [evz1] at vf2
  refine S_isub rfl rfl (rfl : (999 : Int32).toInt = 999) rfl (by omega) (fun vz3 hvz3 => ?_)
  refine S_min rfl rfl rfl (Nat.le_of_ble_eq_true rfl) hx1 rfl (fun vz4 hvz4 => ?_)
  refine X_istore_n (i := 2) (ls' := [some (.ref 342), some (.int x1), some (.int vz4), none]) rfl rfl rfl (Nat.le_of_ble_eq_true rfl) rfl ?_
  refine X_iconst (v := (0 : Int32)) rfl rfl rfl ?_
  refine X_istore_n (i := 3) (ls' := [some (.ref 342), some (.int x1), some (.int vz4), some (.int (0 : Int32))]) rfl rfl rfl (Nat.le_of_ble_eq_true rfl) rfl ?_
  exact (C_X1_passMornings_all (((999 - 0) * 1 + 0) + 1).toNat) _ V hG x1 y1 hx1 vz4 vz4.toInt rfl (by omega) (0 : Int32) 0 (rfl : (0 : Int32).toInt = 0) (by omega)    (by omega)
set_option maxRecDepth 10000 in
set_option maxHeartbeats 40000000 in
theorem C_X12_morning {P : Par} {g : LH} {d : Nat}  (V : Inv P g) (x1 : Int32) (y1 : Int) (hx1 : x1.toInt = y1)   : LW 134 (d + 24) 0 0 0 (lEnt (mL 134) [.ref 0, .int x1]) [] g (fun v g' => ∃ r : Int32, v = some (.int r) ∧ (-1) ≤ r.toInt ∧ r.toInt ≤ 63 ∧ Inv P g' ∧ Gr g' = Gr g) := by
  refine LW_ls (ls' := [some (.ref 0), some (.int x1)]) rfl ?_
  have hG : Gr g = Gr g := rfl
  refine X_iload_n rfl rfl rfl rfl ?_
  refine X_iconst (v := (1 : Int32)) rfl rfl rfl ?_
  refine S_icmp_lt (tgt := 29) rfl rfl rfl hx1 (rfl : (1 : Int32).toInt = 1) (fun vh1 => ?_) (fun vh1 => ?_)
  · refine X_iconst (v := (-1 : Int32)) rfl rfl rfl ?_
    exact LW_ireturn (st := []) rfl rfl rfl ⟨_, rfl, by decide, by decide, V, hG⟩
  · refine X_iload_n rfl rfl rfl rfl ?_
    refine X_bipush (v := (99 : Int32)) rfl rfl rfl ?_
    refine S_icmp_gt (tgt := 29) rfl rfl rfl hx1 (rfl : (99 : Int32).toInt = 99) (fun vh2 => ?_) (fun vh2 => ?_)
    · refine X_iconst (v := (-1 : Int32)) rfl rfl rfl ?_
      exact LW_ireturn (st := []) rfl rfl rfl ⟨_, rfl, by decide, by decide, V, hG⟩
    · refine X_aload_n rfl rfl rfl rfl ?_
      refine X_getR (a := 1) rfl rfl rfl ((congrFun V.1 0).trans s_0) rfl ((congrFun (V.2.1 0 (by decide)) 0).trans r_0_0) ?_
      refine X_getR (a := 10) rfl rfl rfl ((congrFun V.1 1).trans s_1) rfl ((congrFun (V.2.1 1 (by decide)) 1).trans r_1_1) ?_
      refine S_getI rfl rfl rfl ((congrFun V.1 10).trans s_10) rfl (fun vz3 evz3 => ?_)
      have vf4 := K_11_1 (V.2.2.2.2.1 (10) (1) (Nat.le_of_ble_eq_true rfl)) rk_10
      rw [evz3] at vf4
      refine X_iload_n rfl rfl rfl rfl ?_
      refine S_iadd rfl rfl rfl hx1 (by omega) (fun vz5 hvz5 => ?_)
      refine X_sipush (v := (999 : Int32)) rfl rfl rfl ?_
      refine S_icmp_le (tgt := 31) rfl rfl rfl rfl (rfl : (999 : Int32).toInt = 999) (fun vh6 => ?_) (fun vh6 => ?_)
      · refine X_aload_n rfl rfl rfl rfl ?_
        refine X_getR (a := 342) rfl rfl rfl ((congrFun V.1 0).trans s_0) rfl ((congrFun (V.2.1 0 (by decide)) 6).trans r_0_6) ?_
        refine X_iload_n rfl rfl rfl rfl ?_
        refine Y_callV (as := [.int x1]) (st := []) rfl rfl rfl (by decide) rfl (Nat.le_of_ble_eq_true rfl) (by decide) (Nat.le_of_ble_eq_true rfl) rfl ((congrFun V.1 342).trans s_342) (by decide) (C_X1_passMornings V x1 y1 hx1 ) ?_
        rintro _ g ⟨vr7, rfl, hrvr70, V, hq⟩
        have hG := hq.trans hG
        refine X_pop rfl rfl rfl ?_
        refine X_aload_n rfl rfl rfl rfl ?_
        refine X_getR (a := 1) rfl rfl rfl ((congrFun V.1 0).trans s_0) rfl ((congrFun (V.2.1 0 (by decide)) 0).trans r_0_0) ?_
        refine X_getR (a := 10) rfl rfl rfl ((congrFun V.1 1).trans s_1) rfl ((congrFun (V.2.1 1 (by decide)) 1).trans r_1_1) ?_
        refine Y_callV (as := []) (st := []) rfl rfl rfl (by decide) rfl (Nat.le_of_ble_eq_true rfl) (by decide) (Nat.le_of_ble_eq_true rfl) rfl ((congrFun V.1 10).trans s_10) (by decide) (C_X9_outs V  ) ?_
        rintro _ g' ⟨vr8, rfl, hrvr80, hrvr81, hgg⟩
        subst hgg
        have hr := (rfl : vr8.toInt = vr8.toInt)
        exact LW_ireturn (st := []) rfl rfl rfl ⟨_, rfl, by omega, by omega, V, hG⟩
      · refine X_iconst (v := (-1 : Int32)) rfl rfl rfl ?_
        exact LW_ireturn (st := []) rfl rfl rfl ⟨_, rfl, by decide, by decide, V, hG⟩
set_option maxRecDepth 10000 in
set_option maxHeartbeats 40000000 in
theorem C_X1_call {P : Par} {g : LH} {d : Nat}  (V : Inv P g) (x1 : Int32) (y1 : Int) (hx1 : x1.toInt = y1)   : LW 8 (d + 12) 0 0 0 (lEnt (mL 8) [.ref 342, .int x1]) [] g (fun v g' => ∃ r : Int32, v = some (.int r) ∧ 0 ≤ r.toInt ∧ r.toInt ≤ 63 ∧ Inv P g' ∧ Gr g' = Gr g) := by
  refine LW_ls (ls' := [some (.ref 342), some (.int x1)]) rfl ?_
  have hG : Gr g = Gr g := rfl
  refine X_iload_n rfl rfl rfl rfl ?_
  refine S_if_eq (tgt := 26) rfl rfl rfl hx1 (fun vh1 => ?_) (fun vh1 => ?_)
  · refine X_iload_n rfl rfl rfl rfl ?_
    refine Y_callS (as := [.int x1]) (st := []) rfl rfl rfl (by decide) rfl (Nat.le_of_ble_eq_true rfl) (by decide) (Nat.le_of_ble_eq_true rfl) rfl (c_bc hx1 0 (by omega) (by decide)) ?_
    rintro _ g' ⟨vr2, rfl, hrvr20, hrvr21, hgg⟩
    subst hgg
    have hr := (rfl : vr2.toInt = vr2.toInt)
    exact LW_ireturn (st := []) rfl rfl rfl ⟨_, rfl, by omega, by omega, V, hG⟩
  · refine X_aload_n rfl rfl rfl rfl ?_
    refine X_getR (a := 1) rfl rfl rfl ((congrFun V.1 342).trans s_342) rfl ((congrFun (V.2.1 342 (by decide)) 0).trans r_342_0) ?_
    refine X_getR (a := 14) rfl rfl rfl ((congrFun V.1 1).trans s_1) rfl ((congrFun (V.2.1 1 (by decide)) 2).trans r_1_2) ?_
    refine X_aload_n rfl rfl rfl rfl ?_
    refine X_getR (a := 10) rfl rfl rfl ((congrFun V.1 342).trans s_342) rfl ((congrFun (V.2.1 342 (by decide)) 1).trans r_342_1) ?_
    refine Y_callV (as := [.ref 10]) (st := []) rfl rfl rfl (by decide) rfl (Nat.le_of_ble_eq_true rfl) (by decide) (Nat.le_of_ble_eq_true rfl) rfl ((congrFun V.1 14).trans s_14) (by decide) (C_X3_keep_14_10 V  ) ?_
    rintro _ g ⟨rfl, V, hq⟩
    have hG := hq.trans hG
    refine X_aload_n rfl rfl rfl rfl ?_
    refine X_getR (a := 10) rfl rfl rfl ((congrFun V.1 342).trans s_342) rfl ((congrFun (V.2.1 342 (by decide)) 1).trans r_342_1) ?_
    refine X_iload_n rfl rfl rfl rfl ?_
    refine Y_callV (as := [.int x1]) (st := []) rfl rfl rfl (by decide) rfl (Nat.le_of_ble_eq_true rfl) (by decide) (Nat.le_of_ble_eq_true rfl) rfl ((congrFun V.1 10).trans s_10) (by decide) (C_X9_move V x1 y1 hx1 ) ?_
    rintro _ g ⟨rfl, V, hq⟩
    have hG := hq.trans hG
    refine X_iload_n rfl rfl rfl rfl ?_
    refine Y_callS (as := [.int x1]) (st := []) rfl rfl rfl (by decide) rfl (Nat.le_of_ble_eq_true rfl) (by decide) (Nat.le_of_ble_eq_true rfl) rfl (C_J6_bitCount_0f7a4 V x1 y1 hx1 ) ?_
    rintro _ g' ⟨vr5, rfl, hrvr50, hrvr51, hgg⟩
    subst hgg
    have hr := (rfl : vr5.toInt = vr5.toInt)
    exact LW_ireturn (st := []) rfl rfl rfl ⟨_, rfl, by omega, by omega, V, hG⟩
set_option maxRecDepth 10000 in
set_option maxHeartbeats 40000000 in
theorem C_X1_callOut {P : Par} {g : LH} {d : Nat}  (V : Inv P g) (x1 : Int32) (y1 : Int) (hx1 : x1.toInt = y1)   : LW 6 (d + 16) 0 0 0 (lEnt (mL 6) [.ref 342, .int x1]) [] g (fun v g' => ∃ r : Int32, v = some (.int r) ∧ 0 ≤ r.toInt ∧ r.toInt ≤ 63 ∧ Inv P g' ∧ Gr g' = Gr g) := by
  refine LW_ls (ls' := [some (.ref 342), some (.int x1)]) rfl ?_
  have hG : Gr g = Gr g := rfl
  refine X_aload_n rfl rfl rfl rfl ?_
  refine X_iload_n rfl rfl rfl rfl ?_
  refine X_aload_n rfl rfl rfl rfl ?_
  refine X_getR (a := 10) rfl rfl rfl ((congrFun V.1 342).trans s_342) rfl ((congrFun (V.2.1 342 (by decide)) 1).trans r_342_1) ?_
  refine S_getI rfl rfl rfl ((congrFun V.1 10).trans s_10) rfl (fun vz1 evz1 => ?_)
  refine X_iconst (v := (-1 : Int32)) rfl rfl rfl ?_
  refine S_ixorT rfl rfl (fun vz2 => ?_)
  refine S_iandT rfl rfl (fun vz3 => ?_)
  refine Y_callV (as := [.int vz3]) (st := []) rfl rfl rfl (by decide) rfl (Nat.le_of_ble_eq_true rfl) (by decide) (Nat.le_of_ble_eq_true rfl) rfl ((congrFun V.1 342).trans s_342) (by decide) (C_X1_call V vz3 vz3.toInt rfl ) ?_
  rintro _ g ⟨vr4, rfl, hrvr40, hrvr41, V, hq⟩
  have hG := hq.trans hG
  have hr := (rfl : vr4.toInt = vr4.toInt)
  exact LW_ireturn (st := []) rfl rfl rfl ⟨_, rfl, by omega, by omega, V, hG⟩
set_option maxRecDepth 10000 in
set_option maxHeartbeats 40000000 in
theorem C_X12_strike {P : Par} {g : LH} {d : Nat}  (V : Inv P g) (x1 : Int32) (y1 : Int) (hx1 : x1.toInt = y1)   : LW 135 (d + 21) 0 0 0 (lEnt (mL 135) [.ref 0, .int x1]) [] g (fun v g' => ∃ r : Int32, v = some (.int r) ∧ (-1) ≤ r.toInt ∧ r.toInt ≤ 63 ∧ Inv P g' ∧ Gr g' = Gr g) := by
  refine LW_ls (ls' := [some (.ref 0), some (.int x1), none]) rfl ?_
  have hG : Gr g = Gr g := rfl
  refine X_iload_n rfl rfl rfl rfl ?_
  refine X_callS (as := [.int x1]) (st := []) rfl rfl rfl (by decide) rfl (Nat.le_of_ble_eq_true rfl) (by decide) (Nat.le_of_ble_eq_true rfl) rfl ?_
  refine LW_ls (ls' := [some (.int x1)]) rfl ?_
  refine X_iload_n rfl rfl rfl rfl ?_
  refine S_if_le (tgt := 15) rfl rfl rfl hx1 (fun vh1 => ?_) (fun vh1 => ?_)
  · refine X_iconst (v := (0 : Int32)) rfl rfl rfl ?_
    refine LW_ireturn (st := []) rfl rfl rfl ?_
    refine S_if_eq (tgt := 18) rfl rfl rfl (rfl : (0 : Int32).toInt = 0) (fun vh2 => ?_) (fun q => absurd q (by omega))
    refine X_iconst (v := (0 : Int32)) rfl rfl rfl ?_
    refine X_istore_n (i := 2) (ls' := [some (.ref 0), some (.int x1), some (.int (0 : Int32))]) rfl rfl rfl (Nat.le_of_ble_eq_true rfl) rfl ?_
    refine X_iload_n rfl rfl rfl rfl ?_
    refine S_if_le (tgt := 28) rfl rfl rfl (rfl : (0 : Int32).toInt = 0) (fun vh3 => ?_) (fun q => absurd q (by omega))
    refine X_iconst (v := (-1 : Int32)) rfl rfl rfl ?_
    exact LW_ireturn (st := []) rfl rfl rfl ⟨_, rfl, by decide, by decide, V, hG⟩
  · refine X_iload_n rfl rfl rfl rfl ?_
    refine X_ldcw (v := (67108864 : Int32)) rfl rfl rfl ?_
    refine S_icmp_ge (tgt := 15) rfl rfl rfl hx1 (rfl : (67108864 : Int32).toInt = 67108864) (fun vh4 => ?_) (fun vh4 => ?_)
    · refine X_iconst (v := (0 : Int32)) rfl rfl rfl ?_
      refine LW_ireturn (st := []) rfl rfl rfl ?_
      refine S_if_eq (tgt := 18) rfl rfl rfl (rfl : (0 : Int32).toInt = 0) (fun vh5 => ?_) (fun q => absurd q (by omega))
      refine X_iconst (v := (0 : Int32)) rfl rfl rfl ?_
      refine X_istore_n (i := 2) (ls' := [some (.ref 0), some (.int x1), some (.int (0 : Int32))]) rfl rfl rfl (Nat.le_of_ble_eq_true rfl) rfl ?_
      refine X_iload_n rfl rfl rfl rfl ?_
      refine S_if_le (tgt := 28) rfl rfl rfl (rfl : (0 : Int32).toInt = 0) (fun vh6 => ?_) (fun q => absurd q (by omega))
      refine X_iconst (v := (-1 : Int32)) rfl rfl rfl ?_
      exact LW_ireturn (st := []) rfl rfl rfl ⟨_, rfl, by decide, by decide, V, hG⟩
    · refine X_iconst (v := (1 : Int32)) rfl rfl rfl ?_
      refine LW_goto (tgt := 16) rfl rfl ?_
      refine LW_ireturn (st := []) rfl rfl rfl ?_
      refine S_if_eq (tgt := 18) rfl rfl rfl (rfl : (1 : Int32).toInt = 1) (fun q => absurd q (by omega)) (fun vh7 => ?_)
      refine X_aload_n rfl rfl rfl rfl ?_
      refine X_getR (a := 342) rfl rfl rfl ((congrFun V.1 0).trans s_0) rfl ((congrFun (V.2.1 0 (by decide)) 6).trans r_0_6) ?_
      refine X_iload_n rfl rfl rfl rfl ?_
      refine Y_callV (as := [.int x1]) (st := []) rfl rfl rfl (by decide) rfl (Nat.le_of_ble_eq_true rfl) (by decide) (Nat.le_of_ble_eq_true rfl) rfl ((congrFun V.1 342).trans s_342) (by decide) (C_X1_callOut V x1 y1 hx1 ) ?_
      rintro _ g ⟨vr8, rfl, hrvr80, hrvr81, V, hq⟩
      have hG := hq.trans hG
      refine LW_goto (tgt := 19) rfl rfl ?_
      refine X_istore_n (i := 2) (ls' := [some (.ref 0), some (.int x1), some (.int vr8)]) rfl rfl rfl (Nat.le_of_ble_eq_true rfl) rfl ?_
      refine X_iload_n rfl rfl rfl rfl ?_
      refine S_if_le (tgt := 28) rfl rfl rfl rfl (fun vh9 => ?_) (fun vh9 => ?_)
      · refine X_iconst (v := (-1 : Int32)) rfl rfl rfl ?_
        exact LW_ireturn (st := []) rfl rfl rfl ⟨_, rfl, by decide, by decide, V, hG⟩
      · refine X_iload_n rfl rfl rfl rfl ?_
        refine LW_goto (tgt := 29) rfl rfl ?_
        have hr := (rfl : vr8.toInt = vr8.toInt)
        exact LW_ireturn (st := []) rfl rfl rfl ⟨_, rfl, by omega, by omega, V, hG⟩
set_option maxRecDepth 10000 in
set_option maxHeartbeats 40000000 in
theorem C_X1_callBack {P : Par} {g : LH} {d : Nat}  (V : Inv P g) (x1 : Int32) (y1 : Int) (hx1 : x1.toInt = y1)   : LW 7 (d + 16) 0 0 0 (lEnt (mL 7) [.ref 342, .int x1]) [] g (fun v g' => ∃ r : Int32, v = some (.int r) ∧ 0 ≤ r.toInt ∧ r.toInt ≤ 63 ∧ Inv P g' ∧ Gr g' = Gr g) := by
  refine LW_ls (ls' := [some (.ref 342), some (.int x1)]) rfl ?_
  have hG : Gr g = Gr g := rfl
  refine X_aload_n rfl rfl rfl rfl ?_
  refine X_iload_n rfl rfl rfl rfl ?_
  refine X_aload_n rfl rfl rfl rfl ?_
  refine X_getR (a := 10) rfl rfl rfl ((congrFun V.1 342).trans s_342) rfl ((congrFun (V.2.1 342 (by decide)) 1).trans r_342_1) ?_
  refine S_getI rfl rfl rfl ((congrFun V.1 10).trans s_10) rfl (fun vz1 evz1 => ?_)
  refine S_iandT rfl rfl (fun vz2 => ?_)
  refine Y_callV (as := [.int vz2]) (st := []) rfl rfl rfl (by decide) rfl (Nat.le_of_ble_eq_true rfl) (by decide) (Nat.le_of_ble_eq_true rfl) rfl ((congrFun V.1 342).trans s_342) (by decide) (C_X1_call V vz2 vz2.toInt rfl ) ?_
  rintro _ g ⟨vr3, rfl, hrvr30, hrvr31, V, hq⟩
  have hG := hq.trans hG
  have hr := (rfl : vr3.toInt = vr3.toInt)
  exact LW_ireturn (st := []) rfl rfl rfl ⟨_, rfl, by omega, by omega, V, hG⟩
set_option maxRecDepth 10000 in
set_option maxHeartbeats 40000000 in
theorem C_X12_comeBack {P : Par} {g : LH} {d : Nat}  (V : Inv P g) (x1 : Int32) (y1 : Int) (hx1 : x1.toInt = y1)   : LW 136 (d + 21) 0 0 0 (lEnt (mL 136) [.ref 0, .int x1]) [] g (fun v g' => ∃ r : Int32, v = some (.int r) ∧ (-1) ≤ r.toInt ∧ r.toInt ≤ 63 ∧ Inv P g' ∧ Gr g' = Gr g) := by
  refine LW_ls (ls' := [some (.ref 0), some (.int x1), none]) rfl ?_
  have hG : Gr g = Gr g := rfl
  refine X_iload_n rfl rfl rfl rfl ?_
  refine X_callS (as := [.int x1]) (st := []) rfl rfl rfl (by decide) rfl (Nat.le_of_ble_eq_true rfl) (by decide) (Nat.le_of_ble_eq_true rfl) rfl ?_
  refine LW_ls (ls' := [some (.int x1)]) rfl ?_
  refine X_iload_n rfl rfl rfl rfl ?_
  refine S_if_le (tgt := 15) rfl rfl rfl hx1 (fun vh1 => ?_) (fun vh1 => ?_)
  · refine X_iconst (v := (0 : Int32)) rfl rfl rfl ?_
    refine LW_ireturn (st := []) rfl rfl rfl ?_
    refine S_if_eq (tgt := 18) rfl rfl rfl (rfl : (0 : Int32).toInt = 0) (fun vh2 => ?_) (fun q => absurd q (by omega))
    refine X_iconst (v := (0 : Int32)) rfl rfl rfl ?_
    refine X_istore_n (i := 2) (ls' := [some (.ref 0), some (.int x1), some (.int (0 : Int32))]) rfl rfl rfl (Nat.le_of_ble_eq_true rfl) rfl ?_
    refine X_iload_n rfl rfl rfl rfl ?_
    refine S_if_le (tgt := 28) rfl rfl rfl (rfl : (0 : Int32).toInt = 0) (fun vh3 => ?_) (fun q => absurd q (by omega))
    refine X_iconst (v := (-1 : Int32)) rfl rfl rfl ?_
    exact LW_ireturn (st := []) rfl rfl rfl ⟨_, rfl, by decide, by decide, V, hG⟩
  · refine X_iload_n rfl rfl rfl rfl ?_
    refine X_ldcw (v := (67108864 : Int32)) rfl rfl rfl ?_
    refine S_icmp_ge (tgt := 15) rfl rfl rfl hx1 (rfl : (67108864 : Int32).toInt = 67108864) (fun vh4 => ?_) (fun vh4 => ?_)
    · refine X_iconst (v := (0 : Int32)) rfl rfl rfl ?_
      refine LW_ireturn (st := []) rfl rfl rfl ?_
      refine S_if_eq (tgt := 18) rfl rfl rfl (rfl : (0 : Int32).toInt = 0) (fun vh5 => ?_) (fun q => absurd q (by omega))
      refine X_iconst (v := (0 : Int32)) rfl rfl rfl ?_
      refine X_istore_n (i := 2) (ls' := [some (.ref 0), some (.int x1), some (.int (0 : Int32))]) rfl rfl rfl (Nat.le_of_ble_eq_true rfl) rfl ?_
      refine X_iload_n rfl rfl rfl rfl ?_
      refine S_if_le (tgt := 28) rfl rfl rfl (rfl : (0 : Int32).toInt = 0) (fun vh6 => ?_) (fun q => absurd q (by omega))
      refine X_iconst (v := (-1 : Int32)) rfl rfl rfl ?_
      exact LW_ireturn (st := []) rfl rfl rfl ⟨_, rfl, by decide, by decide, V, hG⟩
    · refine X_iconst (v := (1 : Int32)) rfl rfl rfl ?_
      refine LW_goto (tgt := 16) rfl rfl ?_
      refine LW_ireturn (st := []) rfl rfl rfl ?_
      refine S_if_eq (tgt := 18) rfl rfl rfl (rfl : (1 : Int32).toInt = 1) (fun q => absurd q (by omega)) (fun vh7 => ?_)
      refine X_aload_n rfl rfl rfl rfl ?_
      refine X_getR (a := 342) rfl rfl rfl ((congrFun V.1 0).trans s_0) rfl ((congrFun (V.2.1 0 (by decide)) 6).trans r_0_6) ?_
      refine X_iload_n rfl rfl rfl rfl ?_
      refine Y_callV (as := [.int x1]) (st := []) rfl rfl rfl (by decide) rfl (Nat.le_of_ble_eq_true rfl) (by decide) (Nat.le_of_ble_eq_true rfl) rfl ((congrFun V.1 342).trans s_342) (by decide) (C_X1_callBack V x1 y1 hx1 ) ?_
      rintro _ g ⟨vr8, rfl, hrvr80, hrvr81, V, hq⟩
      have hG := hq.trans hG
      refine LW_goto (tgt := 19) rfl rfl ?_
      refine X_istore_n (i := 2) (ls' := [some (.ref 0), some (.int x1), some (.int vr8)]) rfl rfl rfl (Nat.le_of_ble_eq_true rfl) rfl ?_
      refine X_iload_n rfl rfl rfl rfl ?_
      refine S_if_le (tgt := 28) rfl rfl rfl rfl (fun vh9 => ?_) (fun vh9 => ?_)
      · refine X_iconst (v := (-1 : Int32)) rfl rfl rfl ?_
        exact LW_ireturn (st := []) rfl rfl rfl ⟨_, rfl, by decide, by decide, V, hG⟩
      · refine X_iload_n rfl rfl rfl rfl ?_
        refine LW_goto (tgt := 29) rfl rfl ?_
        have hr := (rfl : vr8.toInt = vr8.toInt)
        exact LW_ireturn (st := []) rfl rfl rfl ⟨_, rfl, by omega, by omega, V, hG⟩
set_option maxRecDepth 10000 in
set_option maxHeartbeats 40000000 in
theorem C_X1_setWage {P : Par} {g : LH} {d : Nat}  (V : Inv P g) (x1 : Int32) (y1 : Int) (hx1 : x1.toInt = y1) (hf1 : 0 ≤ y1 ∧ y1 ≤ 25) (x2 : Int32) (y2 : Int) (hx2 : x2.toInt = y2) (hf2 : y2 ≤ 99)   : LW 9 (d + 12) 0 0 0 (lEnt (mL 9) [.ref 342, .int x1, .int x2]) [] g (fun v g' => ∃ r : Int32, v = some (.int r) ∧ 0 ≤ r.toInt ∧ r.toInt ≤ 1 ∧ Inv P g' ∧ Gr g' = Gr g) := by
  refine LW_ls (ls' := [some (.ref 342), some (.int x1), some (.int x2)]) rfl ?_
  have hG : Gr g = Gr g := rfl
  refine X_aload_n rfl rfl rfl rfl ?_
  refine X_getR (a := 10) rfl rfl rfl ((congrFun V.1 342).trans s_342) rfl ((congrFun (V.2.1 342 (by decide)) 1).trans r_342_1) ?_
  refine X_getR (a := 11) rfl rfl rfl ((congrFun V.1 10).trans s_10) rfl ((congrFun (V.2.1 10 (by decide)) 4).trans r_10_4) ?_
  refine X_iload_n rfl rfl rfl rfl ?_
  refine S_iald rfl rfl ((congrFun V.1 11).trans s_11) hx1 (by omega) (fun vz1 evz1 => ?_)
  refine X_iload_n rfl rfl rfl rfl ?_
  refine S_icmp_ne (tgt := 15) rfl rfl rfl rfl hx2 (fun vh2 => ?_) (fun vh2 => ?_)
  · refine X_aload_n rfl rfl rfl rfl ?_
    refine X_getR (a := 1) rfl rfl rfl ((congrFun V.1 342).trans s_342) rfl ((congrFun (V.2.1 342 (by decide)) 0).trans r_342_0) ?_
    refine X_getR (a := 14) rfl rfl rfl ((congrFun V.1 1).trans s_1) rfl ((congrFun (V.2.1 1 (by decide)) 2).trans r_1_2) ?_
    refine X_aload_n rfl rfl rfl rfl ?_
    refine X_getR (a := 10) rfl rfl rfl ((congrFun V.1 342).trans s_342) rfl ((congrFun (V.2.1 342 (by decide)) 1).trans r_342_1) ?_
    refine Y_callV (as := [.ref 10]) (st := []) rfl rfl rfl (by decide) rfl (Nat.le_of_ble_eq_true rfl) (by decide) (Nat.le_of_ble_eq_true rfl) rfl ((congrFun V.1 14).trans s_14) (by decide) (C_X3_keep_14_10 V  ) ?_
    rintro _ g ⟨rfl, V, hq⟩
    have hG := hq.trans hG
    refine X_aload_n rfl rfl rfl rfl ?_
    refine X_getR (a := 10) rfl rfl rfl ((congrFun V.1 342).trans s_342) rfl ((congrFun (V.2.1 342 (by decide)) 1).trans r_342_1) ?_
    refine X_getR (a := 11) rfl rfl rfl ((congrFun V.1 10).trans s_10) rfl ((congrFun (V.2.1 10 (by decide)) 4).trans r_10_4) ?_
    refine X_iload_n rfl rfl rfl rfl ?_
    refine X_iload_n rfl rfl rfl rfl ?_
    refine S_iast (I := Inv _) rfl rfl ((congrFun V.1 11).trans s_11) hx1 (by omega) (Inv_putI V (Nat.le_of_ble_eq_true rfl) (Or.inl (by decide)) (Q_0 rk_11)) (fun g V ve4 vn5 hq => ?_)
    have hG := hq.trans hG
    refine X_iconst (v := (1 : Int32)) rfl rfl rfl ?_
    exact LW_ireturn (st := []) rfl rfl rfl ⟨_, rfl, by decide, by decide, V, hG⟩
  · refine X_iconst (v := (0 : Int32)) rfl rfl rfl ?_
    exact LW_ireturn (st := []) rfl rfl rfl ⟨_, rfl, by decide, by decide, V, hG⟩
