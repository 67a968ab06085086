/-! the reference's methods: each returns and keeps what every state keeps -/
set_option maxRecDepth 10000 in
set_option maxHeartbeats 40000000 in
theorem C_X13_tie {P : Par} {g : LH} {d : Nat}  (V : InvR P g) (x1 : Int32) (y1 : Int) (hx1 : x1.toInt = y1) (x2 : Int32) (y2 : Int) (hx2 : x2.toInt = y2)   : LW 185 (d + 5) 0 0 0 (lEnt (mL 185) [.ref 355, .int x1, .int x2]) [] g (fun v g' => ∃ r : Int32, v = some (.int r) ∧ 0 ≤ r.toInt ∧ r.toInt ≤ 1 ∧ InvR P g' ∧ Gr g' = Gr g) := by
  refine LW_ls (ls' := [some (.ref 355), some (.int x1), some (.int x2)]) rfl ?_
  have hG : Gr g = Gr g := rfl
  refine X_iload_n rfl rfl rfl rfl ?_
  refine X_callS (as := [.int x1]) (st := []) rfl rfl rfl (by decide) rfl (Nat.le_of_ble_eq_true rfl) (by decide) (Nat.le_of_ble_eq_true rfl) rfl ?_
  refine LW_ls (ls' := [some (.int x1)]) rfl ?_
  refine X_iload_n rfl rfl rfl rfl ?_
  refine X_iconst (v := (0 : Int32)) rfl rfl rfl ?_
  refine X_bipush (v := (25 : Int32)) rfl rfl rfl ?_
  refine X_callS (as := [.int x1, .int (0 : Int32), .int (25 : Int32)]) (st := []) rfl rfl rfl (by decide) rfl (Nat.le_of_ble_eq_true rfl) (by decide) (Nat.le_of_ble_eq_true rfl) rfl ?_
  refine LW_ls (ls' := [some (.int x1), some (.int (0 : Int32)), some (.int (25 : Int32))]) rfl ?_
  refine X_iload_n rfl rfl rfl rfl ?_
  refine X_iload_n rfl rfl rfl rfl ?_
  refine S_icmp_lt (tgt := 14) rfl rfl rfl hx1 (show (0 : Int32).toInt = 0 from rfl) (fun vh1 => ?_) (fun vh1 => ?_)
  · refine X_iconst (v := (0 : Int32)) rfl rfl rfl ?_
    refine LW_ireturn (st := []) rfl rfl rfl ?_
    refine LW_ireturn (st := []) rfl rfl rfl ?_
    refine S_if_eq (tgt := 35) rfl rfl rfl (show (0 : Int32).toInt = 0 from rfl) (fun vh2 => ?_) (fun q => absurd q (by omega))
    refine X_iconst (v := (0 : Int32)) rfl rfl rfl ?_
    exact LW_ireturn (st := []) rfl rfl rfl ⟨_, rfl, by decide, by decide, V, hG⟩
  · refine X_iload_n rfl rfl rfl rfl ?_
    refine X_iload_n rfl rfl rfl rfl ?_
    refine S_icmp_gt (tgt := 14) rfl rfl rfl hx1 (show (25 : Int32).toInt = 25 from rfl) (fun vh3 => ?_) (fun vh3 => ?_)
    · refine X_iconst (v := (0 : Int32)) rfl rfl rfl ?_
      refine LW_ireturn (st := []) rfl rfl rfl ?_
      refine LW_ireturn (st := []) rfl rfl rfl ?_
      refine S_if_eq (tgt := 35) rfl rfl rfl (show (0 : Int32).toInt = 0 from rfl) (fun vh4 => ?_) (fun q => absurd q (by omega))
      refine X_iconst (v := (0 : Int32)) rfl rfl rfl ?_
      exact LW_ireturn (st := []) rfl rfl rfl ⟨_, rfl, by decide, by decide, V, hG⟩
    · refine X_iconst (v := (1 : Int32)) rfl rfl rfl ?_
      refine LW_goto (tgt := 15) rfl rfl ?_
      refine LW_ireturn (st := []) rfl rfl rfl ?_
      refine LW_ireturn (st := []) rfl rfl rfl ?_
      refine S_if_eq (tgt := 35) rfl rfl rfl (show (1 : Int32).toInt = 1 from rfl) (fun q => absurd q (by omega)) (fun vh5 => ?_)
      refine X_iload_n rfl rfl rfl rfl ?_
      refine X_callS (as := [.int x2]) (st := []) rfl rfl rfl (by decide) rfl (Nat.le_of_ble_eq_true rfl) (by decide) (Nat.le_of_ble_eq_true rfl) rfl ?_
      refine LW_ls (ls' := [some (.int x2)]) rfl ?_
      refine X_iload_n rfl rfl rfl rfl ?_
      refine X_iconst (v := (0 : Int32)) rfl rfl rfl ?_
      refine X_bipush (v := (25 : Int32)) rfl rfl rfl ?_
      refine X_callS (as := [.int x2, .int (0 : Int32), .int (25 : Int32)]) (st := []) rfl rfl rfl (by decide) rfl (Nat.le_of_ble_eq_true rfl) (by decide) (Nat.le_of_ble_eq_true rfl) rfl ?_
      refine LW_ls (ls' := [some (.int x2), some (.int (0 : Int32)), some (.int (25 : Int32))]) rfl ?_
      refine X_iload_n rfl rfl rfl rfl ?_
      refine X_iload_n rfl rfl rfl rfl ?_
      refine S_icmp_lt (tgt := 14) rfl rfl rfl hx2 (show (0 : Int32).toInt = 0 from rfl) (fun vh6 => ?_) (fun vh6 => ?_)
      · refine X_iconst (v := (0 : Int32)) rfl rfl rfl ?_
        refine LW_ireturn (st := []) rfl rfl rfl ?_
        refine LW_ireturn (st := []) rfl rfl rfl ?_
        refine S_if_eq (tgt := 35) rfl rfl rfl (show (0 : Int32).toInt = 0 from rfl) (fun vh7 => ?_) (fun q => absurd q (by omega))
        refine X_iconst (v := (0 : Int32)) rfl rfl rfl ?_
        exact LW_ireturn (st := []) rfl rfl rfl ⟨_, rfl, by decide, by decide, V, hG⟩
      · refine X_iload_n rfl rfl rfl rfl ?_
        refine X_iload_n rfl rfl rfl rfl ?_
        refine S_icmp_gt (tgt := 14) rfl rfl rfl hx2 (show (25 : Int32).toInt = 25 from rfl) (fun vh8 => ?_) (fun vh8 => ?_)
        · refine X_iconst (v := (0 : Int32)) rfl rfl rfl ?_
          refine LW_ireturn (st := []) rfl rfl rfl ?_
          refine LW_ireturn (st := []) rfl rfl rfl ?_
          refine S_if_eq (tgt := 35) rfl rfl rfl (show (0 : Int32).toInt = 0 from rfl) (fun vh9 => ?_) (fun q => absurd q (by omega))
          refine X_iconst (v := (0 : Int32)) rfl rfl rfl ?_
          exact LW_ireturn (st := []) rfl rfl rfl ⟨_, rfl, by decide, by decide, V, hG⟩
        · refine X_iconst (v := (1 : Int32)) rfl rfl rfl ?_
          refine LW_goto (tgt := 15) rfl rfl ?_
          refine LW_ireturn (st := []) rfl rfl rfl ?_
          refine LW_ireturn (st := []) rfl rfl rfl ?_
          refine S_if_eq (tgt := 35) rfl rfl rfl (show (1 : Int32).toInt = 1 from rfl) (fun q => absurd q (by omega)) (fun vh10 => ?_)
          refine X_iload_n rfl rfl rfl rfl ?_
          refine X_iload_n rfl rfl rfl rfl ?_
          refine S_icmp_eq (tgt := 35) rfl rfl rfl hx1 hx2 (fun vh11 => ?_) (fun vh11 => ?_)
          · refine X_iconst (v := (0 : Int32)) rfl rfl rfl ?_
            exact LW_ireturn (st := []) rfl rfl rfl ⟨_, rfl, by decide, by decide, V, hG⟩
          · refine X_aload_n rfl rfl rfl rfl ?_
            refine X_getR (a := 356) rfl rfl rfl ((congrFun V.1 355).trans s_355) rfl ((congrFun (V.2.1 355 (by decide)) 0).trans r_355_0) ?_
            refine X_bipush (v := (90 : Int32)) rfl rfl rfl ?_
            refine X_iload_n rfl rfl rfl rfl ?_
            refine S_iadd rfl rfl (show (90 : Int32).toInt = 90 from rfl) hx1 (by omega) (fun vz12 hvz12 => ?_)
            refine S_iald rfl rfl ((congrFun V.1 356).trans s_356) rfl (by omega) (fun vz13 evz13 => ?_)
            refine X_iload_n rfl rfl rfl rfl ?_
            refine X_callS (as := [.int vz13, .int x2]) (st := []) rfl rfl rfl (by decide) rfl (Nat.le_of_ble_eq_true rfl) (by decide) (Nat.le_of_ble_eq_true rfl) rfl ?_
            refine LW_ls (ls' := [some (.int vz13), some (.int x2)]) rfl ?_
            refine X_iload_n rfl rfl rfl rfl ?_
            refine X_iload_n rfl rfl rfl rfl ?_
            refine S_ishrT rfl rfl (fun vz14 => ?_)
            refine X_iconst (v := (1 : Int32)) rfl rfl rfl ?_
            refine S_iandR (k := 1) rfl rfl rfl (fun vz15 hvz15 => ?_)
            refine X_iconst (v := (1 : Int32)) rfl rfl rfl ?_
            refine S_icmp_ne (tgt := 13) rfl rfl rfl rfl (show (1 : Int32).toInt = 1 from rfl) (fun vh16 => ?_) (fun vh16 => ?_)
            · refine X_iconst (v := (0 : Int32)) rfl rfl rfl ?_
              refine LW_ireturn (st := []) rfl rfl rfl ?_
              refine S_if_eq (tgt := 37) rfl rfl rfl (show (0 : Int32).toInt = 0 from rfl) (fun vh17 => ?_) (fun q => absurd q (by omega))
              refine X_aload_n rfl rfl rfl rfl ?_
              refine X_getR (a := 356) rfl rfl rfl ((congrFun V.1 355).trans s_355) rfl ((congrFun (V.2.1 355 (by decide)) 0).trans r_355_0) ?_
              refine X_bipush (v := (90 : Int32)) rfl rfl rfl ?_
              refine X_iload_n rfl rfl rfl rfl ?_
              refine S_iadd rfl rfl (show (90 : Int32).toInt = 90 from rfl) hx1 (by omega) (fun vz18 hvz18 => ?_)
              refine X_dup2 rfl rfl rfl rfl ?_
              refine S_iald rfl rfl ((congrFun V.1 356).trans s_356) rfl (by omega) (fun vz19 evz19 => ?_)
              refine X_iconst (v := (1 : Int32)) rfl rfl rfl ?_
              refine X_iload_n rfl rfl rfl rfl ?_
              refine S_ishlT rfl rfl (fun vz20 => ?_)
              refine S_iorT rfl rfl (fun vz21 => ?_)
              refine S_iast (I := InvR _) rfl rfl ((congrFun V.1 356).trans s_356) rfl (by omega) (InvR_putA V (by omega) (B_FREE (by omega))) (fun g V ve22 vn23 hq => ?_)
              have hG := hq.trans hG
              refine X_iconst (v := (1 : Int32)) rfl rfl rfl ?_
              exact LW_ireturn (st := []) rfl rfl rfl ⟨_, rfl, by decide, by decide, V, hG⟩
            · refine X_iconst (v := (1 : Int32)) rfl rfl rfl ?_
              refine LW_goto (tgt := 14) rfl rfl ?_
              refine LW_ireturn (st := []) rfl rfl rfl ?_
              refine S_if_eq (tgt := 37) rfl rfl rfl (show (1 : Int32).toInt = 1 from rfl) (fun q => absurd q (by omega)) (fun vh24 => ?_)
              refine X_iconst (v := (0 : Int32)) rfl rfl rfl ?_
              exact LW_ireturn (st := []) rfl rfl rfl ⟨_, rfl, by decide, by decide, V, hG⟩
set_option maxRecDepth 10000 in
set_option maxHeartbeats 40000000 in
theorem C_X13_isTold_2 {P : Par} {g : LH} {d n : Nat}  (V : InvR P g) (x1 : Int32) (y1 : Int) (hx1 : x1.toInt = y1) (hf1 : 0 ≤ y1 ∧ y1 ≤ 24) (o2 : Option Value) (o3 : Option Value)  (hmu : (24 - y1) * 12 + 11 < (n : Int) + 1) (ih2 : ∀ (V : InvR P g) (x1 : Int32) (y1 : Int) (hx1 : x1.toInt = y1) (hf1 : 0 ≤ y1 ∧ y1 ≤ 24) (o2 : Option Value) (o3 : Option Value) , (24 - y1) * 12 + 11 < (n : Int) → LW 186 (d + 4) 0 0 2 [some (.ref 355), some (.int x1), o2, o3] [] g (fun v g' => ∃ r : Int32, v = some (.int r) ∧ 0 ≤ r.toInt ∧ r.toInt ≤ 1 ∧ g = g')) (ih32 : ∀ (V : InvR P g) (x1 : Int32) (y1 : Int) (hx1 : x1.toInt = y1) (hf1 : 0 ≤ y1 ∧ y1 ≤ 23) (x2 : Int32) (y2 : Int) (hx2 : x2.toInt = y2) (hf2 : 0 ≤ y2 ∧ y2 ≤ 1) (x3 : Int32) (y3 : Int) (hx3 : x3.toInt = y3) (hf3 : 0 ≤ y3 ∧ y3 ≤ 8) (hc355_4 : 0 ≤ (Gi g 355 4).toInt ∧ (Gi g 355 4).toInt ≤ 8) (hc356_0 : 1 ≤ (Gi g 356 0).toInt ∧ (Gi g 356 0).toInt ≤ 24), (24 - y1) * 12 + 0 + (8 - y3) * 1 + 0 < (n : Int) → LW 186 (d + 4) 0 0 32 [some (.ref 355), some (.int x1), some (.int x2), some (.int x3)] [] g (fun v g' => ∃ r : Int32, v = some (.int r) ∧ 0 ≤ r.toInt ∧ r.toInt ≤ 1 ∧ g = g')) : LW 186 (d + 4) 0 0 2 [some (.ref 355), some (.int x1), o2, o3] [] g (fun v g' => ∃ r : Int32, v = some (.int r) ∧ 0 ≤ r.toInt ∧ r.toInt ≤ 1 ∧ g = g') := by
  refine X_iload_n rfl rfl rfl rfl ?_
  refine X_aload_n rfl rfl rfl rfl ?_
  refine X_getR (a := 356) rfl rfl rfl ((congrFun V.1 355).trans s_355) rfl ((congrFun (V.2.1 355 (by decide)) 0).trans r_355_0) ?_
  refine X_iconst (v := (0 : Int32)) rfl rfl rfl ?_
  refine S_iald rfl rfl ((congrFun V.1 356).trans s_356) (show (0 : Int32).toInt = 0 from rfl) (by omega) (fun vz1 evz1 => ?_)
  have evz1 : Gi g 356 0 = vz1 := evz1
  have vf2 := A_WORDS (V.2.2.2.1 (0)) (by omega)
  rw [evz1] at vf2
  refine S_icmp_ge (tgt := 83) rfl rfl rfl hx1 rfl (fun vh3 => ?_) (fun vh3 => ?_)
  · refine X_iconst (v := (0 : Int32)) rfl rfl rfl ?_
    exact LW_ireturn (st := []) rfl rfl rfl ⟨_, rfl, by decide, by decide, rfl⟩
  · refine X_aload_n rfl rfl rfl rfl ?_
    refine X_iload_n rfl rfl rfl rfl ?_
    refine X_callV (as := [.int x1]) (st := []) rfl rfl rfl (by decide) rfl (Nat.le_of_ble_eq_true rfl) (by decide) (Nat.le_of_ble_eq_true rfl) rfl ((congrFun V.1 355).trans s_355) (by decide) ?_
    refine LW_ls (ls' := [some (.ref 355), some (.int x1)]) rfl ?_
    refine X_aload_n rfl rfl rfl rfl ?_
    refine X_getR (a := 356) rfl rfl rfl ((congrFun V.1 355).trans s_355) rfl ((congrFun (V.2.1 355 (by decide)) 0).trans r_355_0) ?_
    refine X_bipush (v := (116 : Int32)) rfl rfl rfl ?_
    refine X_bipush (v := (10 : Int32)) rfl rfl rfl ?_
    refine X_iload_n rfl rfl rfl rfl ?_
    refine S_imul rfl rfl (show (10 : Int32).toInt = 10 from rfl) hx1 (by omega) (fun vz4 hvz4 => ?_)
    refine S_iadd rfl rfl (show (116 : Int32).toInt = 116 from rfl) rfl (by omega) (fun vz5 hvz5 => ?_)
    refine X_bipush (v := (8 : Int32)) rfl rfl rfl ?_
    refine S_iadd rfl rfl rfl (show (8 : Int32).toInt = 8 from rfl) (by omega) (fun vz6 hvz6 => ?_)
    refine S_iald rfl rfl ((congrFun V.1 356).trans s_356) rfl (by omega) (fun vz7 evz7 => ?_)
    have vf8 := A_LENGTH (V.2.2.2.1 ((vz6.toInt : Int).toNat)) (by omega)
    rw [evz7] at vf8
    refine LW_ireturn (st := []) rfl rfl rfl ?_
    refine X_aload_n rfl rfl rfl rfl ?_
    refine S_getI rfl rfl rfl ((congrFun V.1 355).trans s_355) rfl (fun vz9 evz9 => ?_)
    have vf10 := O_355_4 (V.2.2.2.2.2.2.1 355 (4) (Nat.le_of_ble_eq_true rfl))
    rw [evz9] at vf10
    refine S_icmp_ne (tgt := 28) rfl rfl rfl rfl rfl (fun vh11 => ?_) (fun vh11 => ?_)
    · refine X_iconst (v := (0 : Int32)) rfl rfl rfl ?_
      refine X_istore_n (i := 2) (ls' := [some (.ref 355), some (.int x1), some (.int (0 : Int32)), o3]) rfl rfl rfl (Nat.le_of_ble_eq_true rfl) rfl ?_
      refine X_iconst (v := (0 : Int32)) rfl rfl rfl ?_
      refine X_istore_n (i := 3) (ls' := [some (.ref 355), some (.int x1), some (.int (0 : Int32)), some (.int (0 : Int32))]) rfl rfl rfl (Nat.le_of_ble_eq_true rfl) rfl ?_
      exact ih32 V x1 y1 hx1 (by omega) (0 : Int32) 0 (show (0 : Int32).toInt = 0 from rfl) (by omega) (0 : Int32) 0 (show (0 : Int32).toInt = 0 from rfl) (by omega) (by rw [evz9]; omega) (by rw [evz1]; omega)   (by omega)
    · refine X_iconst (v := (1 : Int32)) rfl rfl rfl ?_
      refine LW_goto (tgt := 29) rfl rfl ?_
      refine X_istore_n (i := 2) (ls' := [some (.ref 355), some (.int x1), some (.int (1 : Int32)), o3]) rfl rfl rfl (Nat.le_of_ble_eq_true rfl) rfl ?_
      refine X_iconst (v := (0 : Int32)) rfl rfl rfl ?_
      refine X_istore_n (i := 3) (ls' := [some (.ref 355), some (.int x1), some (.int (1 : Int32)), some (.int (0 : Int32))]) rfl rfl rfl (Nat.le_of_ble_eq_true rfl) rfl ?_
      exact ih32 V x1 y1 hx1 (by omega) (1 : Int32) 1 (show (1 : Int32).toInt = 1 from rfl) (by omega) (0 : Int32) 0 (show (0 : Int32).toInt = 0 from rfl) (by omega) (by rw [evz9]; omega) (by rw [evz1]; omega)   (by omega)
set_option maxRecDepth 10000 in
set_option maxHeartbeats 40000000 in
theorem C_X13_isTold_32 {P : Par} {g : LH} {d n : Nat}  (V : InvR P g) (x1 : Int32) (y1 : Int) (hx1 : x1.toInt = y1) (hf1 : 0 ≤ y1 ∧ y1 ≤ 23) (x2 : Int32) (y2 : Int) (hx2 : x2.toInt = y2) (hf2 : 0 ≤ y2 ∧ y2 ≤ 1) (x3 : Int32) (y3 : Int) (hx3 : x3.toInt = y3) (hf3 : 0 ≤ y3 ∧ y3 ≤ 8) (hc355_4 : 0 ≤ (Gi g 355 4).toInt ∧ (Gi g 355 4).toInt ≤ 8) (hc356_0 : 1 ≤ (Gi g 356 0).toInt ∧ (Gi g 356 0).toInt ≤ 24) (hmu : (24 - y1) * 12 + 0 + (8 - y3) * 1 + 0 < (n : Int) + 1) (ih2 : ∀ (V : InvR P g) (x1 : Int32) (y1 : Int) (hx1 : x1.toInt = y1) (hf1 : 0 ≤ y1 ∧ y1 ≤ 24) (o2 : Option Value) (o3 : Option Value) , (24 - y1) * 12 + 11 < (n : Int) → LW 186 (d + 4) 0 0 2 [some (.ref 355), some (.int x1), o2, o3] [] g (fun v g' => ∃ r : Int32, v = some (.int r) ∧ 0 ≤ r.toInt ∧ r.toInt ≤ 1 ∧ g = g')) (ih32 : ∀ (V : InvR P g) (x1 : Int32) (y1 : Int) (hx1 : x1.toInt = y1) (hf1 : 0 ≤ y1 ∧ y1 ≤ 23) (x2 : Int32) (y2 : Int) (hx2 : x2.toInt = y2) (hf2 : 0 ≤ y2 ∧ y2 ≤ 1) (x3 : Int32) (y3 : Int) (hx3 : x3.toInt = y3) (hf3 : 0 ≤ y3 ∧ y3 ≤ 8) (hc355_4 : 0 ≤ (Gi g 355 4).toInt ∧ (Gi g 355 4).toInt ≤ 8) (hc356_0 : 1 ≤ (Gi g 356 0).toInt ∧ (Gi g 356 0).toInt ≤ 24), (24 - y1) * 12 + 0 + (8 - y3) * 1 + 0 < (n : Int) → LW 186 (d + 4) 0 0 32 [some (.ref 355), some (.int x1), some (.int x2), some (.int x3)] [] g (fun v g' => ∃ r : Int32, v = some (.int r) ∧ 0 ≤ r.toInt ∧ r.toInt ≤ 1 ∧ g = g')) : LW 186 (d + 4) 0 0 32 [some (.ref 355), some (.int x1), some (.int x2), some (.int x3)] [] g (fun v g' => ∃ r : Int32, v = some (.int r) ∧ 0 ≤ r.toInt ∧ r.toInt ≤ 1 ∧ g = g') := by
  obtain ⟨vz1, evz1⟩ : ∃ z, Gi g 355 4 = z := ⟨_, rfl⟩
  rw [evz1] at hc355_4
  obtain ⟨vz2, evz2⟩ : ∃ z, Gi g 356 0 = z := ⟨_, rfl⟩
  rw [evz2] at hc356_0
  refine X_iload_n rfl rfl rfl rfl ?_
  refine X_aload_n rfl rfl rfl rfl ?_
  refine X_getI (v := vz1) rfl rfl rfl ((congrFun V.1 355).trans s_355) rfl evz1 ?_
  refine S_icmp_ge (tgt := 71) rfl rfl rfl hx3 rfl (fun vh3 => ?_) (fun vh3 => ?_)
  · refine X_iload_n rfl rfl rfl rfl ?_
    refine S_if_eq (tgt := 77) rfl rfl rfl hx2 (fun vh4 => ?_) (fun vh4 => ?_)
    · refine S_iinc (c := 1) rfl rfl rfl hx1 rfl (by omega) (fun vz5 hvz5 => ?_)
      refine LW_ls (ls' := [some (.ref 355), some (.int vz5), some (.int x2), some (.int x3)]) rfl ?_
      refine LW_goto (tgt := 2) rfl rfl ?_
      exact ih2 V vz5 vz5.toInt rfl (by omega) (some (.int x2)) (some (.int x3))    (by omega)
    · refine X_iconst (v := (1 : Int32)) rfl rfl rfl ?_
      exact LW_ireturn (st := []) rfl rfl rfl ⟨_, rfl, by decide, by decide, rfl⟩
  · refine X_iload_n rfl rfl rfl rfl ?_
    refine S_if_eq (tgt := 63) rfl rfl rfl hx2 (fun vh6 => ?_) (fun vh6 => ?_)
    · refine X_iconst (v := (0 : Int32)) rfl rfl rfl ?_
      refine X_istore_n (i := 2) (ls' := [some (.ref 355), some (.int x1), some (.int (0 : Int32)), some (.int x3)]) rfl rfl rfl (Nat.le_of_ble_eq_true rfl) rfl ?_
      refine S_iinc (c := 1) rfl rfl rfl hx3 rfl (by omega) (fun vz7 hvz7 => ?_)
      refine LW_ls (ls' := [some (.ref 355), some (.int x1), some (.int (0 : Int32)), some (.int vz7)]) rfl ?_
      refine LW_goto (tgt := 32) rfl rfl ?_
      exact ih32 V x1 y1 hx1 (by omega) (0 : Int32) 0 (show (0 : Int32).toInt = 0 from rfl) (by omega) vz7 vz7.toInt rfl (by omega) (by rw [evz1]; omega) (by rw [evz2]; omega)   (by omega)
    · refine X_aload_n rfl rfl rfl rfl ?_
      refine X_iload_n rfl rfl rfl rfl ?_
      refine X_iload_n rfl rfl rfl rfl ?_
      refine X_callV (as := [.int x1, .int x3]) (st := []) rfl rfl rfl (by decide) rfl (Nat.le_of_ble_eq_true rfl) (by decide) (Nat.le_of_ble_eq_true rfl) rfl ((congrFun V.1 355).trans s_355) (by decide) ?_
      refine LW_ls (ls' := [some (.ref 355), some (.int x1), some (.int x3)]) rfl ?_
      refine X_aload_n rfl rfl rfl rfl ?_
      refine X_getR (a := 356) rfl rfl rfl ((congrFun V.1 355).trans s_355) rfl ((congrFun (V.2.1 355 (by decide)) 0).trans r_355_0) ?_
      refine X_bipush (v := (116 : Int32)) rfl rfl rfl ?_
      refine X_bipush (v := (10 : Int32)) rfl rfl rfl ?_
      refine X_iload_n rfl rfl rfl rfl ?_
      refine S_imul rfl rfl (show (10 : Int32).toInt = 10 from rfl) hx1 (by omega) (fun vz8 hvz8 => ?_)
      refine S_iadd rfl rfl (show (116 : Int32).toInt = 116 from rfl) rfl (by omega) (fun vz9 hvz9 => ?_)
      refine X_iload_n rfl rfl rfl rfl ?_
      refine S_iadd rfl rfl rfl hx3 (by omega) (fun vz10 hvz10 => ?_)
      refine S_iald rfl rfl ((congrFun V.1 356).trans s_356) rfl (by omega) (fun vz11 evz11 => ?_)
      have vf12 := A_LETTER (V.2.2.2.1 ((vz10.toInt : Int).toNat)) (by omega)
      rw [evz11] at vf12
      refine LW_ireturn (st := []) rfl rfl rfl ?_
      refine X_aload_n rfl rfl rfl rfl ?_
      refine X_getR (a := 359) rfl rfl rfl ((congrFun V.1 355).trans s_355) rfl ((congrFun (V.2.1 355 (by decide)) 3).trans r_355_3) ?_
      refine X_iload_n rfl rfl rfl rfl ?_
      refine S_iald rfl rfl ((congrFun V.1 359).trans s_359) hx3 (by omega) (fun vz13 evz13 => ?_)
      have vf14 := O_359 (V.2.2.2.2.2.2.1 359 ((y3 : Int).toNat) (Nat.le_of_ble_eq_true rfl))
      rw [evz13] at vf14
      refine S_icmp_ne (tgt := 63) rfl rfl rfl rfl rfl (fun vh15 => ?_) (fun vh15 => ?_)
      · refine X_iconst (v := (0 : Int32)) rfl rfl rfl ?_
        refine X_istore_n (i := 2) (ls' := [some (.ref 355), some (.int x1), some (.int (0 : Int32)), some (.int x3)]) rfl rfl rfl (Nat.le_of_ble_eq_true rfl) rfl ?_
        refine S_iinc (c := 1) rfl rfl rfl hx3 rfl (by omega) (fun vz16 hvz16 => ?_)
        refine LW_ls (ls' := [some (.ref 355), some (.int x1), some (.int (0 : Int32)), some (.int vz16)]) rfl ?_
        refine LW_goto (tgt := 32) rfl rfl ?_
        exact ih32 V x1 y1 hx1 (by omega) (0 : Int32) 0 (show (0 : Int32).toInt = 0 from rfl) (by omega) vz16 vz16.toInt rfl (by omega) (by rw [evz1]; omega) (by rw [evz2]; omega)   (by omega)
      · refine X_iconst (v := (1 : Int32)) rfl rfl rfl ?_
        refine LW_goto (tgt := 64) rfl rfl ?_
        refine X_istore_n (i := 2) (ls' := [some (.ref 355), some (.int x1), some (.int (1 : Int32)), some (.int x3)]) rfl rfl rfl (Nat.le_of_ble_eq_true rfl) rfl ?_
        refine S_iinc (c := 1) rfl rfl rfl hx3 rfl (by omega) (fun vz17 hvz17 => ?_)
        refine LW_ls (ls' := [some (.ref 355), some (.int x1), some (.int (1 : Int32)), some (.int vz17)]) rfl ?_
        refine LW_goto (tgt := 32) rfl rfl ?_
        exact ih32 V x1 y1 hx1 (by omega) (1 : Int32) 1 (show (1 : Int32).toInt = 1 from rfl) (by omega) vz17 vz17.toInt rfl (by omega) (by rw [evz1]; omega) (by rw [evz2]; omega)   (by omega)
theorem C_X13_isTold_all {P : Par} {g : LH} {d : Nat}  : ∀ n : Nat, (∀ (V : InvR P g) (x1 : Int32) (y1 : Int) (hx1 : x1.toInt = y1) (hf1 : 0 ≤ y1 ∧ y1 ≤ 24) (o2 : Option Value) (o3 : Option Value) , (24 - y1) * 12 + 11 < (n : Int) → LW 186 (d + 4) 0 0 2 [some (.ref 355), some (.int x1), o2, o3] [] g (fun v g' => ∃ r : Int32, v = some (.int r) ∧ 0 ≤ r.toInt ∧ r.toInt ≤ 1 ∧ g = g')) ∧ (∀ (V : InvR P g) (x1 : Int32) (y1 : Int) (hx1 : x1.toInt = y1) (hf1 : 0 ≤ y1 ∧ y1 ≤ 23) (x2 : Int32) (y2 : Int) (hx2 : x2.toInt = y2) (hf2 : 0 ≤ y2 ∧ y2 ≤ 1) (x3 : Int32) (y3 : Int) (hx3 : x3.toInt = y3) (hf3 : 0 ≤ y3 ∧ y3 ≤ 8) (hc355_4 : 0 ≤ (Gi g 355 4).toInt ∧ (Gi g 355 4).toInt ≤ 8) (hc356_0 : 1 ≤ (Gi g 356 0).toInt ∧ (Gi g 356 0).toInt ≤ 24), (24 - y1) * 12 + 0 + (8 - y3) * 1 + 0 < (n : Int) → LW 186 (d + 4) 0 0 32 [some (.ref 355), some (.int x1), some (.int x2), some (.int x3)] [] g (fun v g' => ∃ r : Int32, v = some (.int r) ∧ 0 ≤ r.toInt ∧ r.toInt ≤ 1 ∧ g = g')) := by
  intro n
  induction n with
  | zero => exact ⟨fun V x1 y1 hx1 hf1 o2 o3 hmu => absurd hmu (by omega), fun V x1 y1 hx1 hf1 x2 y2 hx2 hf2 x3 y3 hx3 hf3 hc355_4 hc356_0 hmu => absurd hmu (by omega)⟩
  | succ n ih => exact ⟨fun V x1 y1 hx1 hf1 o2 o3 hmu => C_X13_isTold_2  V x1 y1 hx1 hf1 o2 o3 (by omega) ih.1 ih.2, fun V x1 y1 hx1 hf1 x2 y2 hx2 hf2 x3 y3 hx3 hf3 hc355_4 hc356_0 hmu => C_X13_isTold_32  V x1 y1 hx1 hf1 x2 y2 hx2 hf2 x3 y3 hx3 hf3 hc355_4 hc356_0 (by omega) ih.1 ih.2⟩
set_option maxRecDepth 10000 in
set_option maxHeartbeats 40000000 in
theorem C_X13_isTold {P : Par} {g : LH} {d : Nat}  (V : InvR P g)    : LW 186 (d + 4) 0 0 0 (lEnt (mL 186) [.ref 355]) [] g (fun v g' => ∃ r : Int32, v = some (.int r) ∧ 0 ≤ r.toInt ∧ r.toInt ≤ 1 ∧ g = g') := by
  refine LW_ls (ls' := [some (.ref 355), none, none, none]) rfl ?_
  refine X_iconst (v := (0 : Int32)) rfl rfl rfl ?_
  refine X_istore_n (i := 1) (ls' := [some (.ref 355), some (.int (0 : Int32)), none, none]) rfl rfl rfl (Nat.le_of_ble_eq_true rfl) rfl ?_
  exact (C_X13_isTold_all (((24 - 0) * 12 + 11) + 1 : Int).toNat).1 V (0 : Int32) 0 (show (0 : Int32).toInt = 0 from rfl) (by omega) none none    (by omega)
set_option maxRecDepth 10000 in
set_option maxHeartbeats 40000000 in
theorem C_X13_wordNow_42 {P : Par} {g g0 : LH} {d n : Nat}  (V : InvR P g) (hG : Gr g = Gr g0) (x1 : Int32) (y1 : Int) (hx1 : x1.toInt = y1) (hf1 : 0 ≤ y1 ∧ y1 ≤ 9) (x2 : Int32) (y2 : Int) (hx2 : x2.toInt = y2) (hf2 : 116 ≤ y2 ∧ y2 ≤ 346) (x3 : Int32) (y3 : Int) (hx3 : x3.toInt = y3) (hf3 : 0 ≤ y3 ∧ y3 ≤ 8) (hc355_4 : 1 ≤ (Gi g 355 4).toInt ∧ (Gi g 355 4).toInt ≤ 8) (hc356_0 : 0 ≤ (Gi g 356 0).toInt ∧ (Gi g 356 0).toInt ≤ 23) (hq0 : y2 = 116 + 10 * (Gi g 356 0).toInt) (hmu : (8 - y3) * 1 + 0 < (n : Int) + 1) (ih42 : ∀ (g : LH) (V : InvR P g) (hG : Gr g = Gr g0) (x1 : Int32) (y1 : Int) (hx1 : x1.toInt = y1) (hf1 : 0 ≤ y1 ∧ y1 ≤ 9) (x2 : Int32) (y2 : Int) (hx2 : x2.toInt = y2) (hf2 : 116 ≤ y2 ∧ y2 ≤ 346) (x3 : Int32) (y3 : Int) (hx3 : x3.toInt = y3) (hf3 : 0 ≤ y3 ∧ y3 ≤ 8) (hc355_4 : 1 ≤ (Gi g 355 4).toInt ∧ (Gi g 355 4).toInt ≤ 8) (hc356_0 : 0 ≤ (Gi g 356 0).toInt ∧ (Gi g 356 0).toInt ≤ 23) (hq0 : y2 = 116 + 10 * (Gi g 356 0).toInt), (8 - y3) * 1 + 0 < (n : Int) → LW 187 (d + 8) 0 0 42 [some (.ref 355), some (.int x1), some (.int x2), some (.int x3)] [] g (fun v g' => ∃ r : Int32, v = some (.int r) ∧ (-1) ≤ r.toInt ∧ r.toInt ≤ 23 ∧ InvR P g' ∧ Gr g' = Gr g0)) : LW 187 (d + 8) 0 0 42 [some (.ref 355), some (.int x1), some (.int x2), some (.int x3)] [] g (fun v g' => ∃ r : Int32, v = some (.int r) ∧ (-1) ≤ r.toInt ∧ r.toInt ≤ 23 ∧ InvR P g' ∧ Gr g' = Gr g0) := by
  obtain ⟨vz1, evz1⟩ : ∃ z, Gi g 355 4 = z := ⟨_, rfl⟩
  rw [evz1] at hc355_4
  obtain ⟨vz2, evz2⟩ : ∃ z, Gi g 356 0 = z := ⟨_, rfl⟩
  rw [evz2] at hc356_0
  rw [evz2] at hq0
  refine X_iload_n rfl rfl rfl rfl ?_
  refine X_bipush (v := (8 : Int32)) rfl rfl rfl ?_
  refine S_icmp_ge (tgt := 80) rfl rfl rfl hx3 (show (8 : Int32).toInt = 8 from rfl) (fun vh3 => ?_) (fun vh3 => ?_)
  · refine X_aload_n rfl rfl rfl rfl ?_
    refine X_getR (a := 356) rfl rfl rfl ((congrFun V.1 355).trans s_355) rfl ((congrFun (V.2.1 355 (by decide)) 0).trans r_355_0) ?_
    refine X_iload_n rfl rfl rfl rfl ?_
    refine X_bipush (v := (8 : Int32)) rfl rfl rfl ?_
    refine S_iadd rfl rfl hx2 (show (8 : Int32).toInt = 8 from rfl) (by omega) (fun vz4 hvz4 => ?_)
    refine X_aload_n rfl rfl rfl rfl ?_
    refine X_getI (v := vz1) rfl rfl rfl ((congrFun V.1 355).trans s_355) rfl evz1 ?_
    refine S_iast (I := InvR _) rfl rfl ((congrFun V.1 356).trans s_356) rfl (by omega) (InvR_putA V (by omega) (B_LENGTH (by omega) (by omega))) (fun g V ve5 vn6 hq => ?_)
    have hG := hq.trans hG
    have evz1 := (vn6 (355) 4 (Or.inl (by decide))).trans evz1
    have evz2 := (vn6 (356) 0 (Or.inr (by omega))).trans evz2
    refine X_aload_n rfl rfl rfl rfl ?_
    refine X_getR (a := 356) rfl rfl rfl ((congrFun V.1 355).trans s_355) rfl ((congrFun (V.2.1 355 (by decide)) 0).trans r_355_0) ?_
    refine X_iload_n rfl rfl rfl rfl ?_
    refine X_bipush (v := (9 : Int32)) rfl rfl rfl ?_
    refine S_iadd rfl rfl hx2 (show (9 : Int32).toInt = 9 from rfl) (by omega) (fun vz7 hvz7 => ?_)
    refine X_iload_n rfl rfl rfl rfl ?_
    refine S_iast (I := InvR _) rfl rfl ((congrFun V.1 356).trans s_356) rfl (by omega) (InvR_putA V (by omega) (B_FREE (by omega))) (fun g V ve8 vn9 hq => ?_)
    have hG := hq.trans hG
    have evz1 := (vn9 (355) 4 (Or.inl (by decide))).trans evz1
    have evz2 := (vn9 (356) 0 (Or.inr (by omega))).trans evz2
    refine X_aload_n rfl rfl rfl rfl ?_
    refine X_getR (a := 356) rfl rfl rfl ((congrFun V.1 355).trans s_355) rfl ((congrFun (V.2.1 355 (by decide)) 0).trans r_355_0) ?_
    refine X_iconst (v := (0 : Int32)) rfl rfl rfl ?_
    refine X_dup2 rfl rfl rfl rfl ?_
    refine S_iald_v rfl rfl ((congrFun V.1 356).trans s_356) (show (0 : Int32).toInt = 0 from rfl) (by omega) evz2 ?_
    refine X_iconst (v := (1 : Int32)) rfl rfl rfl ?_
    refine S_iadd rfl rfl rfl (show (1 : Int32).toInt = 1 from rfl) (by omega) (fun vz11 hvz11 => ?_)
    refine S_iast (I := InvR _) rfl rfl ((congrFun V.1 356).trans s_356) (show (0 : Int32).toInt = 0 from rfl) (by omega) (InvR_putA V (by omega) (B_WORDS (by omega) (by omega))) (fun g V ve12 vn13 hq => ?_)
    have hG := hq.trans hG
    have evz1 := (vn13 (355) 4 (Or.inl (by decide))).trans evz1
    have ve12 : Gi g 356 0 = vz11 := ve12
    refine X_aload_n rfl rfl rfl rfl ?_
    refine X_getR (a := 356) rfl rfl rfl ((congrFun V.1 355).trans s_355) rfl ((congrFun (V.2.1 355 (by decide)) 0).trans r_355_0) ?_
    refine X_iconst (v := (0 : Int32)) rfl rfl rfl ?_
    refine S_iald_v rfl rfl ((congrFun V.1 356).trans s_356) (show (0 : Int32).toInt = 0 from rfl) (by omega) ve12 ?_
    refine X_iconst (v := (1 : Int32)) rfl rfl rfl ?_
    refine S_isub rfl rfl rfl (show (1 : Int32).toInt = 1 from rfl) (by omega) (fun vz15 hvz15 => ?_)
    have hr := (rfl : vz15.toInt = vz15.toInt)
    exact LW_ireturn (st := []) rfl rfl rfl ⟨_, rfl, by omega, by omega, V, hG⟩
  · refine X_aload_n rfl rfl rfl rfl ?_
    refine X_getR (a := 356) rfl rfl rfl ((congrFun V.1 355).trans s_355) rfl ((congrFun (V.2.1 355 (by decide)) 0).trans r_355_0) ?_
    refine X_iload_n rfl rfl rfl rfl ?_
    refine X_iload_n rfl rfl rfl rfl ?_
    refine S_iadd rfl rfl hx2 hx3 (by omega) (fun vz16 hvz16 => ?_)
    refine X_iload_n rfl rfl rfl rfl ?_
    refine X_aload_n rfl rfl rfl rfl ?_
    refine X_getI (v := vz1) rfl rfl rfl ((congrFun V.1 355).trans s_355) rfl evz1 ?_
    refine S_icmp_ge (tgt := 72) rfl rfl rfl hx3 rfl (fun vh17 => ?_) (fun vh17 => ?_)
    · refine X_iconst (v := (0 : Int32)) rfl rfl rfl ?_
      refine S_iast (I := InvR _) rfl rfl ((congrFun V.1 356).trans s_356) rfl (by omega) (InvR_putA V (by omega) (B_LETTER (by omega) (by decide))) (fun g V ve18 vn19 hq => ?_)
      have hG := hq.trans hG
      have evz1 := (vn19 (355) 4 (Or.inl (by decide))).trans evz1
      have evz2 := (vn19 (356) 0 (Or.inr (by omega))).trans evz2
      refine S_iinc (c := 1) rfl rfl rfl hx3 rfl (by omega) (fun vz20 hvz20 => ?_)
      refine LW_ls (ls' := [some (.ref 355), some (.int x1), some (.int x2), some (.int vz20)]) rfl ?_
      refine LW_goto (tgt := 42) rfl rfl ?_
      exact ih42 _ V hG x1 y1 hx1 (by omega) x2 y2 hx2 (by omega) vz20 vz20.toInt rfl (by omega) (by rw [evz1]; omega) (by rw [evz2]; omega) (by rw [evz2]; omega)  (by omega)
    · refine X_aload_n rfl rfl rfl rfl ?_
      refine X_getR (a := 359) rfl rfl rfl ((congrFun V.1 355).trans s_355) rfl ((congrFun (V.2.1 355 (by decide)) 3).trans r_355_3) ?_
      refine X_iload_n rfl rfl rfl rfl ?_
      refine S_iald rfl rfl ((congrFun V.1 359).trans s_359) hx3 (by omega) (fun vz21 evz21 => ?_)
      have vf22 := O_359 (V.2.2.2.2.2.2.1 359 ((y3 : Int).toNat) (Nat.le_of_ble_eq_true rfl))
      rw [evz21] at vf22
      refine LW_goto (tgt := 73) rfl rfl ?_
      refine S_iast (I := InvR _) rfl rfl ((congrFun V.1 356).trans s_356) rfl (by omega) (InvR_putA V (by omega) (B_LETTER (by omega) (by omega))) (fun g V ve23 vn24 hq => ?_)
      have hG := hq.trans hG
      have evz1 := (vn24 (355) 4 (Or.inl (by decide))).trans evz1
      have evz2 := (vn24 (356) 0 (Or.inr (by omega))).trans evz2
      have evz21 := (vn24 (359) ((y3 : Int).toNat) (Or.inl (by decide))).trans evz21
      refine S_iinc (c := 1) rfl rfl rfl hx3 rfl (by omega) (fun vz25 hvz25 => ?_)
      refine LW_ls (ls' := [some (.ref 355), some (.int x1), some (.int x2), some (.int vz25)]) rfl ?_
      refine LW_goto (tgt := 42) rfl rfl ?_
      exact ih42 _ V hG x1 y1 hx1 (by omega) x2 y2 hx2 (by omega) vz25 vz25.toInt rfl (by omega) (by rw [evz1]; omega) (by rw [evz2]; omega) (by rw [evz2]; omega)  (by omega)
theorem C_X13_wordNow_all {P : Par} {g0 : LH} {d : Nat}  : ∀ n : Nat, (∀ (g : LH) (V : InvR P g) (hG : Gr g = Gr g0) (x1 : Int32) (y1 : Int) (hx1 : x1.toInt = y1) (hf1 : 0 ≤ y1 ∧ y1 ≤ 9) (x2 : Int32) (y2 : Int) (hx2 : x2.toInt = y2) (hf2 : 116 ≤ y2 ∧ y2 ≤ 346) (x3 : Int32) (y3 : Int) (hx3 : x3.toInt = y3) (hf3 : 0 ≤ y3 ∧ y3 ≤ 8) (hc355_4 : 1 ≤ (Gi g 355 4).toInt ∧ (Gi g 355 4).toInt ≤ 8) (hc356_0 : 0 ≤ (Gi g 356 0).toInt ∧ (Gi g 356 0).toInt ≤ 23) (hq0 : y2 = 116 + 10 * (Gi g 356 0).toInt), (8 - y3) * 1 + 0 < (n : Int) → LW 187 (d + 8) 0 0 42 [some (.ref 355), some (.int x1), some (.int x2), some (.int x3)] [] g (fun v g' => ∃ r : Int32, v = some (.int r) ∧ (-1) ≤ r.toInt ∧ r.toInt ≤ 23 ∧ InvR P g' ∧ Gr g' = Gr g0)) := by
  intro n
  induction n with
  | zero => exact fun g V hG x1 y1 hx1 hf1 x2 y2 hx2 hf2 x3 y3 hx3 hf3 hc355_4 hc356_0 hq0 hmu => absurd hmu (by omega)
  | succ n ih => exact fun g V hG x1 y1 hx1 hf1 x2 y2 hx2 hf2 x3 y3 hx3 hf3 hc355_4 hc356_0 hq0 hmu => C_X13_wordNow_42  V hG x1 y1 hx1 hf1 x2 y2 hx2 hf2 x3 y3 hx3 hf3 hc355_4 hc356_0 hq0 (by omega) ih
set_option maxRecDepth 10000 in
set_option maxHeartbeats 40000000 in
theorem C_X13_wordNow {P : Par} {g : LH} {d : Nat}  (V : InvR P g) (x1 : Int32) (y1 : Int) (hx1 : x1.toInt = y1) (hf1 : 0 ≤ y1 ∧ y1 ≤ 9)   : LW 187 (d + 8) 0 0 0 (lEnt (mL 187) [.ref 355, .int x1]) [] g (fun v g' => ∃ r : Int32, v = some (.int r) ∧ (-1) ≤ r.toInt ∧ r.toInt ≤ 23 ∧ InvR P g' ∧ Gr g' = Gr g) := by
  refine LW_ls (ls' := [some (.ref 355), some (.int x1), none, none]) rfl ?_
  have hG : Gr g = Gr g := rfl
  refine X_aload_n rfl rfl rfl rfl ?_
  refine S_getI rfl rfl rfl ((congrFun V.1 355).trans s_355) rfl (fun vz1 evz1 => ?_)
  have vf2 := O_355_4 (V.2.2.2.2.2.2.1 355 (4) (Nat.le_of_ble_eq_true rfl))
  rw [evz1] at vf2
  refine S_if_eq (tgt := 25) rfl rfl rfl rfl (fun vh3 => ?_) (fun vh3 => ?_)
  · refine X_iconst (v := (-1 : Int32)) rfl rfl rfl ?_
    exact LW_ireturn (st := []) rfl rfl rfl ⟨_, rfl, by decide, by decide, V, hG⟩
  · refine X_aload_n rfl rfl rfl rfl ?_
    refine Y_callV (as := []) (st := []) rfl rfl rfl (by decide) rfl (Nat.le_of_ble_eq_true rfl) (by decide) (Nat.le_of_ble_eq_true rfl) rfl ((congrFun V.1 355).trans s_355) (by decide) (C_X13_isTold V  ) ?_
    rintro _ g' ⟨vr4, rfl, hrvr40, hrvr41, hgg⟩
    subst hgg
    refine S_if_ne (tgt := 25) rfl rfl rfl rfl (fun vh5 => ?_) (fun vh5 => ?_)
    · refine X_iconst (v := (-1 : Int32)) rfl rfl rfl ?_
      exact LW_ireturn (st := []) rfl rfl rfl ⟨_, rfl, by decide, by decide, V, hG⟩
    · refine X_aload_n rfl rfl rfl rfl ?_
      refine X_getR (a := 356) rfl rfl rfl ((congrFun V.1 355).trans s_355) rfl ((congrFun (V.2.1 355 (by decide)) 0).trans r_355_0) ?_
      refine X_iconst (v := (0 : Int32)) rfl rfl rfl ?_
      refine S_iald rfl rfl ((congrFun V.1 356).trans s_356) (show (0 : Int32).toInt = 0 from rfl) (by omega) (fun vz6 evz6 => ?_)
      have evz6 : Gi g 356 0 = vz6 := evz6
      have vf7 := A_WORDS (V.2.2.2.1 (0)) (by omega)
      rw [evz6] at vf7
      refine X_bipush (v := (24 : Int32)) rfl rfl rfl ?_
      refine S_icmp_ne (tgt := 27) rfl rfl rfl rfl (show (24 : Int32).toInt = 24 from rfl) (fun vh8 => ?_) (fun vh8 => ?_)
      · refine X_bipush (v := (116 : Int32)) rfl rfl rfl ?_
        refine X_bipush (v := (10 : Int32)) rfl rfl rfl ?_
        refine X_aload_n rfl rfl rfl rfl ?_
        refine X_getR (a := 356) rfl rfl rfl ((congrFun V.1 355).trans s_355) rfl ((congrFun (V.2.1 355 (by decide)) 0).trans r_355_0) ?_
        refine X_iconst (v := (0 : Int32)) rfl rfl rfl ?_
        refine S_iald_v rfl rfl ((congrFun V.1 356).trans s_356) (show (0 : Int32).toInt = 0 from rfl) (by omega) evz6 ?_
        refine S_imul rfl rfl (show (10 : Int32).toInt = 10 from rfl) rfl (by omega) (fun vz10 hvz10 => ?_)
        refine S_iadd rfl rfl (show (116 : Int32).toInt = 116 from rfl) rfl (by omega) (fun vz11 hvz11 => ?_)
        refine X_istore_n (i := 2) (ls' := [some (.ref 355), some (.int x1), some (.int vz11), none]) rfl rfl rfl (Nat.le_of_ble_eq_true rfl) rfl ?_
        refine X_iconst (v := (0 : Int32)) rfl rfl rfl ?_
        refine X_istore_n (i := 3) (ls' := [some (.ref 355), some (.int x1), some (.int vz11), some (.int (0 : Int32))]) rfl rfl rfl (Nat.le_of_ble_eq_true rfl) rfl ?_
        exact (C_X13_wordNow_all (((8 - 0) * 1 + 0) + 1 : Int).toNat) _ V hG x1 y1 hx1 (by omega) vz11 vz11.toInt rfl (by omega) (0 : Int32) 0 (show (0 : Int32).toInt = 0 from rfl) (by omega) (by rw [evz1]; omega) (by rw [evz6]; omega) (by rw [evz6]; omega)  (by omega)
      · refine X_iconst (v := (-1 : Int32)) rfl rfl rfl ?_
        exact LW_ireturn (st := []) rfl rfl rfl ⟨_, rfl, by decide, by decide, V, hG⟩
set_option maxRecDepth 10000 in
set_option maxHeartbeats 40000000 in
theorem C_X13_take_2 {P : Par} {g g0 : LH} {d n : Nat}  (V : InvR P g) (hG : Gr g = Gr g0) (x1 : Int32) (y1 : Int) (hx1 : x1.toInt = y1) (x2 : Int32) (y2 : Int) (hx2 : x2.toInt = y2) (hf2 : 0 ≤ y2 ∧ y2 ≤ 4) (x3 : Int32) (y3 : Int) (hx3 : x3.toInt = y3) (hf3 : 0 ≤ y3 ∧ y3 ≤ 4) (o4 : Option Value) (hq0 : (Gi g 355 4).toInt ≤ y2 + y3) (hmu : (4 - y3) * 1 + 0 < (n : Int) + 1) (ih2 : ∀ (g : LH) (V : InvR P g) (hG : Gr g = Gr g0) (x1 : Int32) (y1 : Int) (hx1 : x1.toInt = y1) (x2 : Int32) (y2 : Int) (hx2 : x2.toInt = y2) (hf2 : 0 ≤ y2 ∧ y2 ≤ 4) (x3 : Int32) (y3 : Int) (hx3 : x3.toInt = y3) (hf3 : 0 ≤ y3 ∧ y3 ≤ 4) (o4 : Option Value) (hq0 : (Gi g 355 4).toInt ≤ y2 + y3), (4 - y3) * 1 + 0 < (n : Int) → LW 188 (d + 4) 0 0 2 [some (.ref 355), some (.int x1), some (.int x2), some (.int x3), o4] [] g (fun v g' => ∃ r : Int32, v = some (.int r) ∧ 0 ≤ r.toInt ∧ r.toInt ≤ 1 ∧ InvR P g' ∧ Gr g' = Gr g0 ∧ ((Gi g' 355 4).toInt ≤ y2 + 4))) : LW 188 (d + 4) 0 0 2 [some (.ref 355), some (.int x1), some (.int x2), some (.int x3), o4] [] g (fun v g' => ∃ r : Int32, v = some (.int r) ∧ 0 ≤ r.toInt ∧ r.toInt ≤ 1 ∧ InvR P g' ∧ Gr g' = Gr g0 ∧ ((Gi g' 355 4).toInt ≤ y2 + 4)) := by
  obtain ⟨vz1, evz1⟩ : ∃ z, Gi g 355 4 = z := ⟨_, rfl⟩
  have vf2 := O_355_4 (V.2.2.2.2.2.2.1 355 (4) (Nat.le_of_ble_eq_true rfl))
  rw [evz1] at vf2
  rw [evz1] at hq0
  refine X_iload_n rfl rfl rfl rfl ?_
  refine X_iconst (v := (4 : Int32)) rfl rfl rfl ?_
  refine S_icmp_ge (tgt := 91) rfl rfl rfl hx3 (show (4 : Int32).toInt = 4 from rfl) (fun vh3 => ?_) (fun vh3 => ?_)
  · refine X_iconst (v := (1 : Int32)) rfl rfl rfl ?_
    exact LW_ireturn (st := []) rfl rfl rfl ⟨_, rfl, by decide, by decide, V, hG, (by rw [evz1]; omega)⟩
  · refine X_iload_n rfl rfl rfl rfl ?_
    refine X_bipush (v := (8 : Int32)) rfl rfl rfl ?_
    refine X_iload_n rfl rfl rfl rfl ?_
    refine S_imul rfl rfl (show (8 : Int32).toInt = 8 from rfl) hx3 (by omega) (fun vz4 hvz4 => ?_)
    refine S_ishrT rfl rfl (fun vz5 => ?_)
    refine X_sipush (v := (255 : Int32)) rfl rfl rfl ?_
    refine S_iandR (k := 8) rfl rfl rfl (fun vz6 hvz6 => ?_)
    refine X_istore (i := 4) (ls' := [some (.ref 355), some (.int x1), some (.int x2), some (.int x3), some (.int vz6)]) rfl rfl (Nat.le_of_ble_eq_true rfl) rfl ?_
    refine X_iload rfl rfl rfl ?_
    refine S_if_ne (tgt := 37) rfl rfl rfl rfl (fun vh7 => ?_) (fun vh7 => ?_)
    · refine X_iload rfl rfl rfl ?_
      refine X_bipush (v := (97 : Int32)) rfl rfl rfl ?_
      refine X_bipush (v := (122 : Int32)) rfl rfl rfl ?_
      refine X_callS (as := [.int vz6, .int (97 : Int32), .int (122 : Int32)]) (st := []) rfl rfl rfl (by decide) rfl (Nat.le_of_ble_eq_true rfl) (by decide) (Nat.le_of_ble_eq_true rfl) rfl ?_
      refine LW_ls (ls' := [some (.int vz6), some (.int (97 : Int32)), some (.int (122 : Int32))]) rfl ?_
      refine X_iload_n rfl rfl rfl rfl ?_
      refine X_iload_n rfl rfl rfl rfl ?_
      refine S_icmp_lt (tgt := 14) rfl rfl rfl rfl (show (97 : Int32).toInt = 97 from rfl) (fun vh8 => ?_) (fun vh8 => ?_)
      · refine X_iconst (v := (0 : Int32)) rfl rfl rfl ?_
        refine LW_ireturn (st := []) rfl rfl rfl ?_
        refine S_if_eq (tgt := 59) rfl rfl rfl (show (0 : Int32).toInt = 0 from rfl) (fun vh9 => ?_) (fun q => absurd q (by omega))
        refine X_iconst (v := (0 : Int32)) rfl rfl rfl ?_
        exact LW_ireturn (st := []) rfl rfl rfl ⟨_, rfl, by decide, by decide, V, hG, (by rw [evz1]; omega)⟩
      · refine X_iload_n rfl rfl rfl rfl ?_
        refine X_iload_n rfl rfl rfl rfl ?_
        refine S_icmp_gt (tgt := 14) rfl rfl rfl rfl (show (122 : Int32).toInt = 122 from rfl) (fun vh10 => ?_) (fun vh10 => ?_)
        · refine X_iconst (v := (0 : Int32)) rfl rfl rfl ?_
          refine LW_ireturn (st := []) rfl rfl rfl ?_
          refine S_if_eq (tgt := 59) rfl rfl rfl (show (0 : Int32).toInt = 0 from rfl) (fun vh11 => ?_) (fun q => absurd q (by omega))
          refine X_iconst (v := (0 : Int32)) rfl rfl rfl ?_
          exact LW_ireturn (st := []) rfl rfl rfl ⟨_, rfl, by decide, by decide, V, hG, (by rw [evz1]; omega)⟩
        · refine X_iconst (v := (1 : Int32)) rfl rfl rfl ?_
          refine LW_goto (tgt := 15) rfl rfl ?_
          refine LW_ireturn (st := []) rfl rfl rfl ?_
          refine S_if_eq (tgt := 59) rfl rfl rfl (show (1 : Int32).toInt = 1 from rfl) (fun q => absurd q (by omega)) (fun vh12 => ?_)
          refine X_aload_n rfl rfl rfl rfl ?_
          refine X_getI (v := vz1) rfl rfl rfl ((congrFun V.1 355).trans s_355) rfl evz1 ?_
          refine X_iload_n rfl rfl rfl rfl ?_
          refine X_iload_n rfl rfl rfl rfl ?_
          refine S_iadd rfl rfl hx2 hx3 (by omega) (fun vz13 hvz13 => ?_)
          refine S_icmp_ge (tgt := 61) rfl rfl rfl rfl rfl (fun vh14 => ?_) (fun vh14 => ?_)
          · refine X_aload_n rfl rfl rfl rfl ?_
            refine X_getR (a := 359) rfl rfl rfl ((congrFun V.1 355).trans s_355) rfl ((congrFun (V.2.1 355 (by decide)) 3).trans r_355_3) ?_
            refine X_aload_n rfl rfl rfl rfl ?_
            refine X_getI (v := vz1) rfl rfl rfl ((congrFun V.1 355).trans s_355) rfl evz1 ?_
            refine X_iload rfl rfl rfl ?_
            refine X_bipush (v := (97 : Int32)) rfl rfl rfl ?_
            refine S_isub rfl rfl rfl (show (97 : Int32).toInt = 97 from rfl) (by omega) (fun vz15 hvz15 => ?_)
            refine S_iast (I := InvR _) rfl rfl ((congrFun V.1 359).trans s_359) rfl (by omega) (InvR_putO V (by decide) (show okO 359 _ _ from (show 0 ≤ vz15.toInt ∧ vz15.toInt ≤ 25 by omega))) (fun g V ve16 vn17 hq => ?_)
            have hG := hq.trans hG
            have evz1 := (vn17 (355) 4 (Or.inl (by decide))).trans evz1
            refine X_aload_n rfl rfl rfl rfl ?_
            refine X_dup rfl rfl rfl ?_
            refine X_getI (v := vz1) rfl rfl rfl ((congrFun V.1 355).trans s_355) rfl evz1 ?_
            refine X_iconst (v := (1 : Int32)) rfl rfl rfl ?_
            refine S_iadd rfl rfl rfl (show (1 : Int32).toInt = 1 from rfl) (by omega) (fun vz18 hvz18 => ?_)
            refine S_putI (I := InvR _) rfl rfl rfl ((congrFun V.1 355).trans s_355) rfl rfl rfl rfl (InvR_putO V (by decide) (show okO 355 _ _ from (show 0 ≤ vz18.toInt ∧ vz18.toInt ≤ 8 by omega))) (fun g V ve19 vn20 hq => ?_)
            have hG := hq.trans hG
            refine S_iinc (c := 1) rfl rfl rfl hx3 rfl (by omega) (fun vz21 hvz21 => ?_)
            refine LW_ls (ls' := [some (.ref 355), some (.int x1), some (.int x2), some (.int vz21), some (.int vz6)]) rfl ?_
            refine LW_goto (tgt := 2) rfl rfl ?_
            exact ih2 _ V hG x1 y1 hx1 x2 y2 hx2 (by omega) vz21 vz21.toInt rfl (by omega) (some (.int vz6))  (by rw [ve19]; omega)  (by omega)
          · refine X_iconst (v := (0 : Int32)) rfl rfl rfl ?_
            exact LW_ireturn (st := []) rfl rfl rfl ⟨_, rfl, by decide, by decide, V, hG, (by rw [evz1]; omega)⟩
    · refine X_aload_n rfl rfl rfl rfl ?_
      refine X_getI (v := vz1) rfl rfl rfl ((congrFun V.1 355).trans s_355) rfl evz1 ?_
      refine X_iload_n rfl rfl rfl rfl ?_
      refine X_iload_n rfl rfl rfl rfl ?_
      refine S_iadd rfl rfl hx2 hx3 (by omega) (fun vz22 hvz22 => ?_)
      refine S_icmp_gt (tgt := 37) rfl rfl rfl rfl rfl (fun vh23 => ?_) (fun vh23 => ?_)
      · refine X_iload rfl rfl rfl ?_
        refine X_bipush (v := (97 : Int32)) rfl rfl rfl ?_
        refine X_bipush (v := (122 : Int32)) rfl rfl rfl ?_
        refine X_callS (as := [.int vz6, .int (97 : Int32), .int (122 : Int32)]) (st := []) rfl rfl rfl (by decide) rfl (Nat.le_of_ble_eq_true rfl) (by decide) (Nat.le_of_ble_eq_true rfl) rfl ?_
        refine LW_ls (ls' := [some (.int vz6), some (.int (97 : Int32)), some (.int (122 : Int32))]) rfl ?_
        refine X_iload_n rfl rfl rfl rfl ?_
        refine X_iload_n rfl rfl rfl rfl ?_
        refine S_icmp_lt (tgt := 14) rfl rfl rfl rfl (show (97 : Int32).toInt = 97 from rfl) (fun vh24 => ?_) (fun q => absurd q (by omega))
        refine X_iconst (v := (0 : Int32)) rfl rfl rfl ?_
        refine LW_ireturn (st := []) rfl rfl rfl ?_
        refine S_if_eq (tgt := 59) rfl rfl rfl (show (0 : Int32).toInt = 0 from rfl) (fun vh25 => ?_) (fun q => absurd q (by omega))
        refine X_iconst (v := (0 : Int32)) rfl rfl rfl ?_
        exact LW_ireturn (st := []) rfl rfl rfl ⟨_, rfl, by decide, by decide, V, hG, (by rw [evz1]; omega)⟩
      · refine LW_goto (tgt := 85) rfl rfl ?_
        refine S_iinc (c := 1) rfl rfl rfl hx3 rfl (by omega) (fun vz26 hvz26 => ?_)
        refine LW_ls (ls' := [some (.ref 355), some (.int x1), some (.int x2), some (.int vz26), some (.int vz6)]) rfl ?_
        refine LW_goto (tgt := 2) rfl rfl ?_
        exact ih2 _ V hG x1 y1 hx1 x2 y2 hx2 (by omega) vz26 vz26.toInt rfl (by omega) (some (.int vz6))  (by rw [evz1]; omega)  (by omega)
theorem C_X13_take_all {P : Par} {g0 : LH} {d : Nat}  : ∀ n : Nat, (∀ (g : LH) (V : InvR P g) (hG : Gr g = Gr g0) (x1 : Int32) (y1 : Int) (hx1 : x1.toInt = y1) (x2 : Int32) (y2 : Int) (hx2 : x2.toInt = y2) (hf2 : 0 ≤ y2 ∧ y2 ≤ 4) (x3 : Int32) (y3 : Int) (hx3 : x3.toInt = y3) (hf3 : 0 ≤ y3 ∧ y3 ≤ 4) (o4 : Option Value) (hq0 : (Gi g 355 4).toInt ≤ y2 + y3), (4 - y3) * 1 + 0 < (n : Int) → LW 188 (d + 4) 0 0 2 [some (.ref 355), some (.int x1), some (.int x2), some (.int x3), o4] [] g (fun v g' => ∃ r : Int32, v = some (.int r) ∧ 0 ≤ r.toInt ∧ r.toInt ≤ 1 ∧ InvR P g' ∧ Gr g' = Gr g0 ∧ ((Gi g' 355 4).toInt ≤ y2 + 4))) := by
  intro n
  induction n with
  | zero => exact fun g V hG x1 y1 hx1 x2 y2 hx2 hf2 x3 y3 hx3 hf3 o4 hq0 hmu => absurd hmu (by omega)
  | succ n ih => exact fun g V hG x1 y1 hx1 x2 y2 hx2 hf2 x3 y3 hx3 hf3 o4 hq0 hmu => C_X13_take_2  V hG x1 y1 hx1 x2 y2 hx2 hf2 x3 y3 hx3 hf3 o4 hq0 (by omega) ih
set_option maxRecDepth 10000 in
set_option maxHeartbeats 40000000 in
theorem C_X13_take {P : Par} {g : LH} {d : Nat}  (V : InvR P g) (x1 : Int32) (y1 : Int) (hx1 : x1.toInt = y1) (x2 : Int32) (y2 : Int) (hx2 : x2.toInt = y2) (hf2 : 0 ≤ y2 ∧ y2 ≤ 4) (hq0 : (Gi g 355 4).toInt ≤ y2)  : LW 188 (d + 4) 0 0 0 (lEnt (mL 188) [.ref 355, .int x1, .int x2]) [] g (fun v g' => ∃ r : Int32, v = some (.int r) ∧ 0 ≤ r.toInt ∧ r.toInt ≤ 1 ∧ InvR P g' ∧ Gr g' = Gr g ∧ ((Gi g' 355 4).toInt ≤ y2 + 4)) := by
  refine LW_ls (ls' := [some (.ref 355), some (.int x1), some (.int x2), none, none]) rfl ?_
  have hG : Gr g = Gr g := rfl
  obtain ⟨vz1, evz1⟩ : ∃ z, Gi g 355 4 = z := ⟨_, rfl⟩
  have vf2 := O_355_4 (V.2.2.2.2.2.2.1 355 (4) (Nat.le_of_ble_eq_true rfl))
  rw [evz1] at vf2
  rw [evz1] at hq0
  refine X_iconst (v := (0 : Int32)) rfl rfl rfl ?_
  refine X_istore_n (i := 3) (ls' := [some (.ref 355), some (.int x1), some (.int x2), some (.int (0 : Int32)), none]) rfl rfl rfl (Nat.le_of_ble_eq_true rfl) rfl ?_
  exact (C_X13_take_all (((4 - 0) * 1 + 0) + 1 : Int).toNat) _ V hG x1 y1 hx1 x2 y2 hx2 (by omega) (0 : Int32) 0 (show (0 : Int32).toInt = 0 from rfl) (by omega) none  (by rw [evz1]; omega)  (by omega)
set_option maxRecDepth 10000 in
set_option maxHeartbeats 40000000 in
theorem C_X13_word {P : Par} {g : LH} {d : Nat}  (V : InvR P g) (x1 : Int32) (y1 : Int) (hx1 : x1.toInt = y1) (x2 : Int32) (y2 : Int) (hx2 : x2.toInt = y2) (x3 : Int32) (y3 : Int) (hx3 : x3.toInt = y3)   : LW 189 (d + 13) 0 0 0 (lEnt (mL 189) [.ref 355, .int x1, .int x2, .int x3]) [] g (fun v g' => ∃ r : Int32, v = some (.int r) ∧ (-1) ≤ r.toInt ∧ r.toInt ≤ 23 ∧ InvR P g' ∧ Gr g' = Gr g) := by
  refine LW_ls (ls' := [some (.ref 355), some (.int x1), some (.int x2), some (.int x3)]) rfl ?_
  have hG : Gr g = Gr g := rfl
  refine X_aload_n rfl rfl rfl rfl ?_
  refine X_iconst (v := (0 : Int32)) rfl rfl rfl ?_
  refine S_putI (I := InvR _) rfl rfl rfl ((congrFun V.1 355).trans s_355) rfl rfl rfl rfl (InvR_putO V (by decide) (show okO 355 _ _ from (show 0 ≤ (0 : Int32).toInt ∧ (0 : Int32).toInt ≤ 8 by decide))) (fun g V ve1 vn2 hq => ?_)
  have hG := hq.trans hG
  refine X_iload_n rfl rfl rfl rfl ?_
  refine X_iconst (v := (0 : Int32)) rfl rfl rfl ?_
  refine X_bipush (v := (9 : Int32)) rfl rfl rfl ?_
  refine X_callS (as := [.int x3, .int (0 : Int32), .int (9 : Int32)]) (st := []) rfl rfl rfl (by decide) rfl (Nat.le_of_ble_eq_true rfl) (by decide) (Nat.le_of_ble_eq_true rfl) rfl ?_
  refine LW_ls (ls' := [some (.int x3), some (.int (0 : Int32)), some (.int (9 : Int32))]) rfl ?_
  refine X_iload_n rfl rfl rfl rfl ?_
  refine X_iload_n rfl rfl rfl rfl ?_
  refine S_icmp_lt (tgt := 14) rfl rfl rfl hx3 (show (0 : Int32).toInt = 0 from rfl) (fun vh3 => ?_) (fun vh3 => ?_)
  · refine X_iconst (v := (0 : Int32)) rfl rfl rfl ?_
    refine LW_ireturn (st := []) rfl rfl rfl ?_
    refine S_if_eq (tgt := 33) rfl rfl rfl (show (0 : Int32).toInt = 0 from rfl) (fun vh4 => ?_) (fun q => absurd q (by omega))
    refine X_iconst (v := (-1 : Int32)) rfl rfl rfl ?_
    exact LW_ireturn (st := []) rfl rfl rfl ⟨_, rfl, by decide, by decide, V, hG⟩
  · refine X_iload_n rfl rfl rfl rfl ?_
    refine X_iload_n rfl rfl rfl rfl ?_
    refine S_icmp_gt (tgt := 14) rfl rfl rfl hx3 (show (9 : Int32).toInt = 9 from rfl) (fun vh5 => ?_) (fun vh5 => ?_)
    · refine X_iconst (v := (0 : Int32)) rfl rfl rfl ?_
      refine LW_ireturn (st := []) rfl rfl rfl ?_
      refine S_if_eq (tgt := 33) rfl rfl rfl (show (0 : Int32).toInt = 0 from rfl) (fun vh6 => ?_) (fun q => absurd q (by omega))
      refine X_iconst (v := (-1 : Int32)) rfl rfl rfl ?_
      exact LW_ireturn (st := []) rfl rfl rfl ⟨_, rfl, by decide, by decide, V, hG⟩
    · refine X_iconst (v := (1 : Int32)) rfl rfl rfl ?_
      refine LW_goto (tgt := 15) rfl rfl ?_
      refine LW_ireturn (st := []) rfl rfl rfl ?_
      refine S_if_eq (tgt := 33) rfl rfl rfl (show (1 : Int32).toInt = 1 from rfl) (fun q => absurd q (by omega)) (fun vh7 => ?_)
      refine X_aload_n rfl rfl rfl rfl ?_
      refine X_iload_n rfl rfl rfl rfl ?_
      refine X_iconst (v := (0 : Int32)) rfl rfl rfl ?_
      refine Y_callV (as := [.int x1, .int (0 : Int32)]) (st := []) rfl rfl rfl (by decide) rfl (Nat.le_of_ble_eq_true rfl) (by decide) (Nat.le_of_ble_eq_true rfl) rfl ((congrFun V.1 355).trans s_355) (by decide) (C_X13_take V x1 y1 hx1 (0 : Int32) 0 (show (0 : Int32).toInt = 0 from rfl) (by omega) (by have vk0 := (show (0 : Int32).toInt = 0 from rfl); rw [ve1]; omega)) ?_
      rintro _ g ⟨vr8, rfl, hrvr80, hrvr81, V, hq, vq9⟩
      have hG := hq.trans hG
      obtain ⟨vz10, evz10⟩ : ∃ z, Gi g 355 4 = z := ⟨_, rfl⟩
      have vf11 := O_355_4 (V.2.2.2.2.2.2.1 355 (4) (Nat.le_of_ble_eq_true rfl))
      rw [evz10] at vf11
      rw [evz10] at vq9
      refine S_if_eq (tgt := 33) rfl rfl rfl rfl (fun vh12 => ?_) (fun vh12 => ?_)
      · refine X_iconst (v := (-1 : Int32)) rfl rfl rfl ?_
        exact LW_ireturn (st := []) rfl rfl rfl ⟨_, rfl, by decide, by decide, V, hG⟩
      · refine X_aload_n rfl rfl rfl rfl ?_
        refine X_iload_n rfl rfl rfl rfl ?_
        refine X_iconst (v := (4 : Int32)) rfl rfl rfl ?_
        refine Y_callV (as := [.int x2, .int (4 : Int32)]) (st := []) rfl rfl rfl (by decide) rfl (Nat.le_of_ble_eq_true rfl) (by decide) (Nat.le_of_ble_eq_true rfl) rfl ((congrFun V.1 355).trans s_355) (by decide) (C_X13_take V x2 y2 hx2 (4 : Int32) 4 (show (4 : Int32).toInt = 4 from rfl) (by omega) (by rw [evz10]; omega)) ?_
        rintro _ g ⟨vr13, rfl, hrvr130, hrvr131, V, hq, vq14⟩
        have hG := hq.trans hG
        obtain ⟨vz15, evz15⟩ : ∃ z, Gi g 355 4 = z := ⟨_, rfl⟩
        have vf16 := O_355_4 (V.2.2.2.2.2.2.1 355 (4) (Nat.le_of_ble_eq_true rfl))
        rw [evz15] at vf16
        rw [evz15] at vq14
        refine S_if_ne (tgt := 35) rfl rfl rfl rfl (fun vh17 => ?_) (fun vh17 => ?_)
        · refine X_aload_n rfl rfl rfl rfl ?_
          refine X_iload_n rfl rfl rfl rfl ?_
          refine Y_callV (as := [.int x3]) (st := []) rfl rfl rfl (by decide) rfl (Nat.le_of_ble_eq_true rfl) (by decide) (Nat.le_of_ble_eq_true rfl) rfl ((congrFun V.1 355).trans s_355) (by decide) (C_X13_wordNow V x3 y3 hx3 (by omega) ) ?_
          rintro _ g ⟨vr18, rfl, hrvr180, hrvr181, V, hq⟩
          have hG := hq.trans hG
          have hr := (rfl : vr18.toInt = vr18.toInt)
          exact LW_ireturn (st := []) rfl rfl rfl ⟨_, rfl, by omega, by omega, V, hG⟩
        · refine X_iconst (v := (-1 : Int32)) rfl rfl rfl ?_
          exact LW_ireturn (st := []) rfl rfl rfl ⟨_, rfl, by decide, by decide, V, hG⟩
set_option maxRecDepth 10000 in
set_option maxHeartbeats 40000000 in
theorem C_X13_sayNow_39 {P : Par} {g g0 : LH} {d n : Nat}  (V : InvR P g) (hG : Gr g = Gr g0) (x1 : Int32) (y1 : Int) (hx1 : x1.toInt = y1) (hf1 : 356 ≤ y1 ∧ y1 ≤ 419) (x2 : Int32) (y2 : Int) (hx2 : x2.toInt = y2) (hf2 : 0 ≤ y2 ∧ y2 ≤ 8) (hc355_6 : 0 ≤ (Gi g 355 6).toInt ∧ (Gi g 355 6).toInt ≤ 8) (hc356_1 : 0 ≤ (Gi g 356 1).toInt ∧ (Gi g 356 1).toInt ≤ 7) (hq0 : y1 = 356 + 9 * (Gi g 356 1).toInt) (hmu : (8 - y2) * 1 + 0 < (n : Int) + 1) (ih39 : ∀ (g : LH) (V : InvR P g) (hG : Gr g = Gr g0) (x1 : Int32) (y1 : Int) (hx1 : x1.toInt = y1) (hf1 : 356 ≤ y1 ∧ y1 ≤ 419) (x2 : Int32) (y2 : Int) (hx2 : x2.toInt = y2) (hf2 : 0 ≤ y2 ∧ y2 ≤ 8) (hc355_6 : 0 ≤ (Gi g 355 6).toInt ∧ (Gi g 355 6).toInt ≤ 8) (hc356_1 : 0 ≤ (Gi g 356 1).toInt ∧ (Gi g 356 1).toInt ≤ 7) (hq0 : y1 = 356 + 9 * (Gi g 356 1).toInt), (8 - y2) * 1 + 0 < (n : Int) → LW 190 (d + 3) 0 0 39 [some (.ref 355), some (.int x1), some (.int x2)] [] g (fun v g' => ∃ r : Int32, v = some (.int r) ∧ (-1) ≤ r.toInt ∧ r.toInt ≤ 7 ∧ InvR P g' ∧ Gr g' = Gr g0)) : LW 190 (d + 3) 0 0 39 [some (.ref 355), some (.int x1), some (.int x2)] [] g (fun v g' => ∃ r : Int32, v = some (.int r) ∧ (-1) ≤ r.toInt ∧ r.toInt ≤ 7 ∧ InvR P g' ∧ Gr g' = Gr g0) := by
  obtain ⟨vz1, evz1⟩ : ∃ z, Gi g 355 6 = z := ⟨_, rfl⟩
  rw [evz1] at hc355_6
  obtain ⟨vz2, evz2⟩ : ∃ z, Gi g 356 1 = z := ⟨_, rfl⟩
  rw [evz2] at hc356_1
  rw [evz2] at hq0
  refine X_iload_n rfl rfl rfl rfl ?_
  refine X_aload_n rfl rfl rfl rfl ?_
  refine X_getI (v := vz1) rfl rfl rfl ((congrFun V.1 355).trans s_355) rfl evz1 ?_
  refine S_icmp_ge (tgt := 69) rfl rfl rfl hx2 rfl (fun vh3 => ?_) (fun vh3 => ?_)
  · refine X_aload_n rfl rfl rfl rfl ?_
    refine X_getR (a := 356) rfl rfl rfl ((congrFun V.1 355).trans s_355) rfl ((congrFun (V.2.1 355 (by decide)) 0).trans r_355_0) ?_
    refine X_iconst (v := (1 : Int32)) rfl rfl rfl ?_
    refine X_dup2 rfl rfl rfl rfl ?_
    refine S_iald_v rfl rfl ((congrFun V.1 356).trans s_356) (show (1 : Int32).toInt = 1 from rfl) (by omega) evz2 ?_
    refine X_iconst (v := (1 : Int32)) rfl rfl rfl ?_
    refine S_iadd rfl rfl rfl (show (1 : Int32).toInt = 1 from rfl) (by omega) (fun vz5 hvz5 => ?_)
    refine S_iast (I := InvR _) rfl rfl ((congrFun V.1 356).trans s_356) (show (1 : Int32).toInt = 1 from rfl) (by omega) (InvR_putA V (by omega) (B_SAYS (by omega) (by omega))) (fun g V ve6 vn7 hq => ?_)
    have hG := hq.trans hG
    have evz1 := (vn7 (355) 6 (Or.inl (by decide))).trans evz1
    have ve6 : Gi g 356 1 = vz5 := ve6
    refine X_aload_n rfl rfl rfl rfl ?_
    refine X_getR (a := 356) rfl rfl rfl ((congrFun V.1 355).trans s_355) rfl ((congrFun (V.2.1 355 (by decide)) 0).trans r_355_0) ?_
    refine X_iconst (v := (1 : Int32)) rfl rfl rfl ?_
    refine S_iald_v rfl rfl ((congrFun V.1 356).trans s_356) (show (1 : Int32).toInt = 1 from rfl) (by omega) ve6 ?_
    refine X_iconst (v := (1 : Int32)) rfl rfl rfl ?_
    refine S_isub rfl rfl rfl (show (1 : Int32).toInt = 1 from rfl) (by omega) (fun vz9 hvz9 => ?_)
    have hr := (rfl : vz9.toInt = vz9.toInt)
    exact LW_ireturn (st := []) rfl rfl rfl ⟨_, rfl, by omega, by omega, V, hG⟩
  · refine X_aload_n rfl rfl rfl rfl ?_
    refine X_getR (a := 356) rfl rfl rfl ((congrFun V.1 355).trans s_355) rfl ((congrFun (V.2.1 355 (by decide)) 0).trans r_355_0) ?_
    refine X_iload_n rfl rfl rfl rfl ?_
    refine X_iconst (v := (1 : Int32)) rfl rfl rfl ?_
    refine S_iadd rfl rfl hx1 (show (1 : Int32).toInt = 1 from rfl) (by omega) (fun vz10 hvz10 => ?_)
    refine X_iload_n rfl rfl rfl rfl ?_
    refine S_iadd rfl rfl rfl hx2 (by omega) (fun vz11 hvz11 => ?_)
    refine X_aload_n rfl rfl rfl rfl ?_
    refine X_getR (a := 360) rfl rfl rfl ((congrFun V.1 355).trans s_355) rfl ((congrFun (V.2.1 355 (by decide)) 5).trans r_355_5) ?_
    refine X_iload_n rfl rfl rfl rfl ?_
    refine S_iald rfl rfl ((congrFun V.1 360).trans s_360) hx2 (by omega) (fun vz12 evz12 => ?_)
    refine S_iast (I := InvR _) rfl rfl ((congrFun V.1 356).trans s_356) rfl (by omega) (InvR_putA V (by omega) (B_FREE (by omega))) (fun g V ve13 vn14 hq => ?_)
    have hG := hq.trans hG
    have evz1 := (vn14 (355) 6 (Or.inl (by decide))).trans evz1
    have evz2 := (vn14 (356) 1 (Or.inr (by omega))).trans evz2
    have evz12 := (vn14 (360) ((y2 : Int).toNat) (Or.inl (by decide))).trans evz12
    refine S_iinc (c := 1) rfl rfl rfl hx2 rfl (by omega) (fun vz15 hvz15 => ?_)
    refine LW_ls (ls' := [some (.ref 355), some (.int x1), some (.int vz15)]) rfl ?_
    refine LW_goto (tgt := 39) rfl rfl ?_
    exact ih39 _ V hG x1 y1 hx1 (by omega) vz15 vz15.toInt rfl (by omega) (by rw [evz1]; omega) (by rw [evz2]; omega) (by rw [evz2]; omega)  (by omega)
theorem C_X13_sayNow_all {P : Par} {g0 : LH} {d : Nat}  : ∀ n : Nat, (∀ (g : LH) (V : InvR P g) (hG : Gr g = Gr g0) (x1 : Int32) (y1 : Int) (hx1 : x1.toInt = y1) (hf1 : 356 ≤ y1 ∧ y1 ≤ 419) (x2 : Int32) (y2 : Int) (hx2 : x2.toInt = y2) (hf2 : 0 ≤ y2 ∧ y2 ≤ 8) (hc355_6 : 0 ≤ (Gi g 355 6).toInt ∧ (Gi g 355 6).toInt ≤ 8) (hc356_1 : 0 ≤ (Gi g 356 1).toInt ∧ (Gi g 356 1).toInt ≤ 7) (hq0 : y1 = 356 + 9 * (Gi g 356 1).toInt), (8 - y2) * 1 + 0 < (n : Int) → LW 190 (d + 3) 0 0 39 [some (.ref 355), some (.int x1), some (.int x2)] [] g (fun v g' => ∃ r : Int32, v = some (.int r) ∧ (-1) ≤ r.toInt ∧ r.toInt ≤ 7 ∧ InvR P g' ∧ Gr g' = Gr g0)) := by
  intro n
  induction n with
  | zero => exact fun g V hG x1 y1 hx1 hf1 x2 y2 hx2 hf2 hc355_6 hc356_1 hq0 hmu => absurd hmu (by omega)
  | succ n ih => exact fun g V hG x1 y1 hx1 hf1 x2 y2 hx2 hf2 hc355_6 hc356_1 hq0 hmu => C_X13_sayNow_39  V hG x1 y1 hx1 hf1 x2 y2 hx2 hf2 hc355_6 hc356_1 hq0 (by omega) ih
set_option maxRecDepth 10000 in
set_option maxHeartbeats 40000000 in
theorem C_X13_sayNow {P : Par} {g : LH} {d : Nat}  (V : InvR P g)    : LW 190 (d + 3) 0 0 0 (lEnt (mL 190) [.ref 355]) [] g (fun v g' => ∃ r : Int32, v = some (.int r) ∧ (-1) ≤ r.toInt ∧ r.toInt ≤ 7 ∧ InvR P g' ∧ Gr g' = Gr g) := by
  refine LW_ls (ls' := [some (.ref 355), none, none]) rfl ?_
  have hG : Gr g = Gr g := rfl
  refine X_aload_n rfl rfl rfl rfl ?_
  refine X_getR (a := 356) rfl rfl rfl ((congrFun V.1 355).trans s_355) rfl ((congrFun (V.2.1 355 (by decide)) 0).trans r_355_0) ?_
  refine X_iconst (v := (1 : Int32)) rfl rfl rfl ?_
  refine S_iald rfl rfl ((congrFun V.1 356).trans s_356) (show (1 : Int32).toInt = 1 from rfl) (by omega) (fun vz1 evz1 => ?_)
  have evz1 : Gi g 356 1 = vz1 := evz1
  have vf2 := A_SAYS (V.2.2.2.1 (1)) (by omega)
  rw [evz1] at vf2
  refine X_bipush (v := (8 : Int32)) rfl rfl rfl ?_
  refine S_icmp_ne (tgt := 13) rfl rfl rfl rfl (show (8 : Int32).toInt = 8 from rfl) (fun vh3 => ?_) (fun vh3 => ?_)
  · refine X_sipush (v := (356 : Int32)) rfl rfl rfl ?_
    refine X_bipush (v := (9 : Int32)) rfl rfl rfl ?_
    refine X_aload_n rfl rfl rfl rfl ?_
    refine X_getR (a := 356) rfl rfl rfl ((congrFun V.1 355).trans s_355) rfl ((congrFun (V.2.1 355 (by decide)) 0).trans r_355_0) ?_
    refine X_iconst (v := (1 : Int32)) rfl rfl rfl ?_
    refine S_iald_v rfl rfl ((congrFun V.1 356).trans s_356) (show (1 : Int32).toInt = 1 from rfl) (by omega) evz1 ?_
    refine S_imul rfl rfl (show (9 : Int32).toInt = 9 from rfl) rfl (by omega) (fun vz5 hvz5 => ?_)
    refine S_iadd rfl rfl (show (356 : Int32).toInt = 356 from rfl) rfl (by omega) (fun vz6 hvz6 => ?_)
    refine X_istore_n (i := 1) (ls' := [some (.ref 355), some (.int vz6), none]) rfl rfl rfl (Nat.le_of_ble_eq_true rfl) rfl ?_
    refine X_aload_n rfl rfl rfl rfl ?_
    refine X_getR (a := 356) rfl rfl rfl ((congrFun V.1 355).trans s_355) rfl ((congrFun (V.2.1 355 (by decide)) 0).trans r_355_0) ?_
    refine X_iload_n rfl rfl rfl rfl ?_
    refine X_aload_n rfl rfl rfl rfl ?_
    refine S_getI rfl rfl rfl ((congrFun V.1 355).trans s_355) rfl (fun vz7 evz7 => ?_)
    have vf8 := O_355_6 (V.2.2.2.2.2.2.1 355 (6) (Nat.le_of_ble_eq_true rfl))
    rw [evz7] at vf8
    refine S_iast (I := InvR _) rfl rfl ((congrFun V.1 356).trans s_356) rfl (by omega) (InvR_putA V (by omega) (B_SCOUNT (by omega) (by omega))) (fun g V ve9 vn10 hq => ?_)
    have hG := hq.trans hG
    have evz1 := (vn10 (356) 1 (Or.inr (by omega))).trans evz1
    have evz7 := (vn10 (355) 6 (Or.inl (by decide))).trans evz7
    refine X_iconst (v := (0 : Int32)) rfl rfl rfl ?_
    refine X_istore_n (i := 2) (ls' := [some (.ref 355), some (.int vz6), some (.int (0 : Int32))]) rfl rfl rfl (Nat.le_of_ble_eq_true rfl) rfl ?_
    exact (C_X13_sayNow_all (((8 - 0) * 1 + 0) + 1 : Int).toNat) _ V hG vz6 vz6.toInt rfl (by omega) (0 : Int32) 0 (show (0 : Int32).toInt = 0 from rfl) (by omega) (by rw [evz7]; omega) (by rw [evz1]; omega) (by rw [evz1]; omega)  (by omega)
  · refine X_iconst (v := (-1 : Int32)) rfl rfl rfl ?_
    exact LW_ireturn (st := []) rfl rfl rfl ⟨_, rfl, by decide, by decide, V, hG⟩
set_option maxRecDepth 10000 in
set_option maxHeartbeats 40000000 in
theorem C_X13_saying_66 {P : Par} {g g0 : LH} {d n : Nat}  (V : InvR P g) (hG : Gr g = Gr g0) (x1 : Int32) (y1 : Int) (hx1 : x1.toInt = y1) (hf1 : 10 ≤ y1 ∧ y1 ≤ 199999999) (x2 : Int32) (y2 : Int) (hx2 : x2.toInt = y2) (hf2 : 10 ≤ y2) (x3 : Int32) (y3 : Int) (hx3 : x3.toInt = y3) (hf3 : 0 ≤ y3 ∧ y3 ≤ 199999999) (x4 : Int32) (y4 : Int) (hx4 : x4.toInt = y4) (hf4 : (-1) ≤ y4 ∧ y4 ≤ 7) (hc355_6 : 1 ≤ (Gi g 355 6).toInt ∧ (Gi g 355 6).toInt ≤ 8) (hmu : (y4 - (-1)) * 1 + 0 < (n : Int) + 1) (ih66 : ∀ (g : LH) (V : InvR P g) (hG : Gr g = Gr g0) (x1 : Int32) (y1 : Int) (hx1 : x1.toInt = y1) (hf1 : 10 ≤ y1 ∧ y1 ≤ 199999999) (x2 : Int32) (y2 : Int) (hx2 : x2.toInt = y2) (hf2 : 10 ≤ y2) (x3 : Int32) (y3 : Int) (hx3 : x3.toInt = y3) (hf3 : 0 ≤ y3 ∧ y3 ≤ 199999999) (x4 : Int32) (y4 : Int) (hx4 : x4.toInt = y4) (hf4 : (-1) ≤ y4 ∧ y4 ≤ 7) (hc355_6 : 1 ≤ (Gi g 355 6).toInt ∧ (Gi g 355 6).toInt ≤ 8), (y4 - (-1)) * 1 + 0 < (n : Int) → LW 191 (d + 8) 0 0 66 [some (.ref 355), some (.int x1), some (.int x2), some (.int x3), some (.int x4)] [] g (fun v g' => ∃ r : Int32, v = some (.int r) ∧ (-1) ≤ r.toInt ∧ r.toInt ≤ 7 ∧ InvR P g' ∧ Gr g' = Gr g0)) : LW 191 (d + 8) 0 0 66 [some (.ref 355), some (.int x1), some (.int x2), some (.int x3), some (.int x4)] [] g (fun v g' => ∃ r : Int32, v = some (.int r) ∧ (-1) ≤ r.toInt ∧ r.toInt ≤ 7 ∧ InvR P g' ∧ Gr g' = Gr g0) := by
  obtain ⟨vz1, evz1⟩ : ∃ z, Gi g 355 6 = z := ⟨_, rfl⟩
  rw [evz1] at hc355_6
  refine X_iload rfl rfl rfl ?_
  refine S_if_lt (tgt := 93) rfl rfl rfl hx4 (fun vh2 => ?_) (fun vh2 => ?_)
  · refine X_aload_n rfl rfl rfl rfl ?_
    refine Y_callV (as := []) (st := []) rfl rfl rfl (by decide) rfl (Nat.le_of_ble_eq_true rfl) (by decide) (Nat.le_of_ble_eq_true rfl) rfl ((congrFun V.1 355).trans s_355) (by decide) (C_X13_sayNow V  ) ?_
    rintro _ g ⟨vr3, rfl, hrvr30, hrvr31, V, hq⟩
    have hG := hq.trans hG
    have hr := (rfl : vr3.toInt = vr3.toInt)
    exact LW_ireturn (st := []) rfl rfl rfl ⟨_, rfl, by omega, by omega, V, hG⟩
  · refine X_aload_n rfl rfl rfl rfl ?_
    refine X_getR (a := 360) rfl rfl rfl ((congrFun V.1 355).trans s_355) rfl ((congrFun (V.2.1 355 (by decide)) 5).trans r_355_5) ?_
    refine X_iload rfl rfl rfl ?_
    refine X_iload_n rfl rfl rfl rfl ?_
    refine X_bipush (v := (10 : Int32)) rfl rfl rfl ?_
    refine S_irem rfl rfl hx3 (show (10 : Int32).toInt = 10 from rfl) (by omega) (by omega) (fun vz4 hvz4 => ?_)
    refine S_iast (I := InvR _) rfl rfl ((congrFun V.1 360).trans s_360) hx4 (by omega) (InvR_putO V (by decide) trivial) (fun g V ve5 vn6 hq => ?_)
    have hG := hq.trans hG
    have evz1 := (vn6 (355) 6 (Or.inl (by decide))).trans evz1
    refine X_iload_n rfl rfl rfl rfl ?_
    refine X_bipush (v := (10 : Int32)) rfl rfl rfl ?_
    refine S_idiv rfl rfl hx3 (show (10 : Int32).toInt = 10 from rfl) (by omega) (by omega) (fun vz7 hvz7 => ?_)
    refine X_istore_n (i := 3) (ls' := [some (.ref 355), some (.int x1), some (.int x2), some (.int vz7), some (.int x4)]) rfl rfl rfl (Nat.le_of_ble_eq_true rfl) rfl ?_
    refine S_iinc (c := (-1)) rfl rfl rfl hx4 rfl (by omega) (fun vz8 hvz8 => ?_)
    refine LW_ls (ls' := [some (.ref 355), some (.int x1), some (.int x2), some (.int vz7), some (.int vz8)]) rfl ?_
    refine LW_goto (tgt := 66) rfl rfl ?_
    exact ih66 _ V hG x1 y1 hx1 (by omega) x2 y2 hx2 (by omega) vz7 vz7.toInt rfl (by omega) vz8 vz8.toInt rfl (by omega) (by rw [evz1]; omega)   (by omega)
theorem C_X13_saying_all {P : Par} {g0 : LH} {d : Nat}  : ∀ n : Nat, (∀ (g : LH) (V : InvR P g) (hG : Gr g = Gr g0) (x1 : Int32) (y1 : Int) (hx1 : x1.toInt = y1) (hf1 : 10 ≤ y1 ∧ y1 ≤ 199999999) (x2 : Int32) (y2 : Int) (hx2 : x2.toInt = y2) (hf2 : 10 ≤ y2) (x3 : Int32) (y3 : Int) (hx3 : x3.toInt = y3) (hf3 : 0 ≤ y3 ∧ y3 ≤ 199999999) (x4 : Int32) (y4 : Int) (hx4 : x4.toInt = y4) (hf4 : (-1) ≤ y4 ∧ y4 ≤ 7) (hc355_6 : 1 ≤ (Gi g 355 6).toInt ∧ (Gi g 355 6).toInt ≤ 8), (y4 - (-1)) * 1 + 0 < (n : Int) → LW 191 (d + 8) 0 0 66 [some (.ref 355), some (.int x1), some (.int x2), some (.int x3), some (.int x4)] [] g (fun v g' => ∃ r : Int32, v = some (.int r) ∧ (-1) ≤ r.toInt ∧ r.toInt ≤ 7 ∧ InvR P g' ∧ Gr g' = Gr g0)) := by
  intro n
  induction n with
  | zero => exact fun g V hG x1 y1 hx1 hf1 x2 y2 hx2 hf2 x3 y3 hx3 hf3 x4 y4 hx4 hf4 hc355_6 hmu => absurd hmu (by have hb2 := ti_hi x2; omega)
  | succ n ih => exact fun g V hG x1 y1 hx1 hf1 x2 y2 hx2 hf2 x3 y3 hx3 hf3 x4 y4 hx4 hf4 hc355_6 hmu => C_X13_saying_66  V hG x1 y1 hx1 hf1 x2 y2 hx2 hf2 x3 y3 hx3 hf3 x4 y4 hx4 hf4 hc355_6 (by omega) ih
set_option maxRecDepth 10000 in
set_option maxHeartbeats 40000000 in
theorem C_X13_saying {P : Par} {g : LH} {d : Nat}  (V : InvR P g) (x1 : Int32) (y1 : Int) (hx1 : x1.toInt = y1)   : LW 191 (d + 8) 0 0 0 (lEnt (mL 191) [.ref 355, .int x1]) [] g (fun v g' => ∃ r : Int32, v = some (.int r) ∧ (-1) ≤ r.toInt ∧ r.toInt ≤ 7 ∧ InvR P g' ∧ Gr g' = Gr g) := by
  refine LW_ls (ls' := [some (.ref 355), some (.int x1), none, none, none]) rfl ?_
  have hG : Gr g = Gr g := rfl
  refine X_iload_n rfl rfl rfl rfl ?_
  refine X_bipush (v := (10 : Int32)) rfl rfl rfl ?_
  refine X_ldc (v := (199999999 : Int32)) rfl rfl rfl ?_
  refine X_callS (as := [.int x1, .int (10 : Int32), .int (199999999 : Int32)]) (st := []) rfl rfl rfl (by decide) rfl (Nat.le_of_ble_eq_true rfl) (by decide) (Nat.le_of_ble_eq_true rfl) rfl ?_
  refine LW_ls (ls' := [some (.int x1), some (.int (10 : Int32)), some (.int (199999999 : Int32))]) rfl ?_
  refine X_iload_n rfl rfl rfl rfl ?_
  refine X_iload_n rfl rfl rfl rfl ?_
  refine S_icmp_lt (tgt := 14) rfl rfl rfl hx1 (show (10 : Int32).toInt = 10 from rfl) (fun vh1 => ?_) (fun vh1 => ?_)
  · refine X_iconst (v := (0 : Int32)) rfl rfl rfl ?_
    refine LW_ireturn (st := []) rfl rfl rfl ?_
    refine S_if_ne (tgt := 13) rfl rfl rfl (show (0 : Int32).toInt = 0 from rfl) (fun q => absurd q (by omega)) (fun vh2 => ?_)
    refine X_iconst (v := (-1 : Int32)) rfl rfl rfl ?_
    exact LW_ireturn (st := []) rfl rfl rfl ⟨_, rfl, by decide, by decide, V, hG⟩
  · refine X_iload_n rfl rfl rfl rfl ?_
    refine X_iload_n rfl rfl rfl rfl ?_
    refine S_icmp_gt (tgt := 14) rfl rfl rfl hx1 (show (199999999 : Int32).toInt = 199999999 from rfl) (fun vh3 => ?_) (fun vh3 => ?_)
    · refine X_iconst (v := (0 : Int32)) rfl rfl rfl ?_
      refine LW_ireturn (st := []) rfl rfl rfl ?_
      refine S_if_ne (tgt := 13) rfl rfl rfl (show (0 : Int32).toInt = 0 from rfl) (fun q => absurd q (by omega)) (fun vh4 => ?_)
      refine X_iconst (v := (-1 : Int32)) rfl rfl rfl ?_
      exact LW_ireturn (st := []) rfl rfl rfl ⟨_, rfl, by decide, by decide, V, hG⟩
    · refine X_iconst (v := (1 : Int32)) rfl rfl rfl ?_
      refine LW_goto (tgt := 15) rfl rfl ?_
      refine LW_ireturn (st := []) rfl rfl rfl ?_
      refine S_if_ne (tgt := 13) rfl rfl rfl (show (1 : Int32).toInt = 1 from rfl) (fun vh5 => ?_) (fun q => absurd q (by omega))
      refine X_bipush (v := (10 : Int32)) rfl rfl rfl ?_
      refine X_istore_n (i := 2) (ls' := [some (.ref 355), some (.int x1), some (.int (10 : Int32)), none, none]) rfl rfl rfl (Nat.le_of_ble_eq_true rfl) rfl ?_
      refine X_aload_n rfl rfl rfl rfl ?_
      refine X_iconst (v := (1 : Int32)) rfl rfl rfl ?_
      refine S_putI (I := InvR _) rfl rfl rfl ((congrFun V.1 355).trans s_355) rfl rfl rfl rfl (InvR_putO V (by decide) (show okO 355 _ _ from (show 0 ≤ (1 : Int32).toInt ∧ (1 : Int32).toInt ≤ 8 by decide))) (fun g V ve6 vn7 hq => ?_)
      have hG := hq.trans hG
      refine X_iload_n rfl rfl rfl rfl ?_
      refine X_iload_n rfl rfl rfl rfl ?_
      refine S_idiv rfl rfl hx1 (show (10 : Int32).toInt = 10 from rfl) (by omega) (by omega) (fun vz8 hvz8 => ?_)
      refine X_bipush (v := (9 : Int32)) rfl rfl rfl ?_
      refine S_icmp_le (tgt := 47) rfl rfl rfl rfl (show (9 : Int32).toInt = 9 from rfl) (fun vh9 => ?_) (fun vh9 => ?_)
      · refine X_iload_n rfl rfl rfl rfl ?_
        refine X_iload_n rfl rfl rfl rfl ?_
        refine S_idiv rfl rfl hx1 (show (10 : Int32).toInt = 10 from rfl) (by omega) (by omega) (fun vz10 hvz10 => ?_)
        refine X_iconst (v := (1 : Int32)) rfl rfl rfl ?_
        refine S_icmp_eq (tgt := 56) rfl rfl rfl rfl (show (1 : Int32).toInt = 1 from rfl) (fun vh11 => ?_) (fun vh11 => ?_)
        · refine X_iload_n rfl rfl rfl rfl ?_
          refine X_istore_n (i := 3) (ls' := [some (.ref 355), some (.int x1), some (.int (10 : Int32)), some (.int x1), none]) rfl rfl rfl (Nat.le_of_ble_eq_true rfl) rfl ?_
          refine X_aload_n rfl rfl rfl rfl ?_
          refine X_getI (v := (1 : Int32)) rfl rfl rfl ((congrFun V.1 355).trans s_355) rfl ve6 ?_
          refine X_iconst (v := (1 : Int32)) rfl rfl rfl ?_
          refine X_isub (v := (0 : Int32)) rfl rfl rfl ?_
          refine X_istore (i := 4) (ls' := [some (.ref 355), some (.int x1), some (.int (10 : Int32)), some (.int x1), some (.int (0 : Int32))]) rfl rfl (Nat.le_of_ble_eq_true rfl) rfl ?_
          exact (C_X13_saying_all (((0 - (-1)) * 1 + 0) + 1 : Int).toNat) _ V hG x1 y1 hx1 (by omega) (10 : Int32) 10 (show (10 : Int32).toInt = 10 from rfl) (by omega) x1 y1 hx1 (by omega) (0 : Int32) 0 (show (0 : Int32).toInt = 0 from rfl) (by omega) (by rw [ve6]; decide)   (by omega)
        · refine X_iconst (v := (-1 : Int32)) rfl rfl rfl ?_
          exact LW_ireturn (st := []) rfl rfl rfl ⟨_, rfl, by decide, by decide, V, hG⟩
      · refine X_iload_n rfl rfl rfl rfl ?_
        refine X_bipush (v := (10 : Int32)) rfl rfl rfl ?_
        refine X_imul (v := (100 : Int32)) rfl rfl rfl ?_
        refine X_istore_n (i := 2) (ls' := [some (.ref 355), some (.int x1), some (.int (100 : Int32)), none, none]) rfl rfl rfl (Nat.le_of_ble_eq_true rfl) rfl ?_
        refine X_aload_n rfl rfl rfl rfl ?_
        refine X_dup rfl rfl rfl ?_
        refine X_getI (v := (1 : Int32)) rfl rfl rfl ((congrFun V.1 355).trans s_355) rfl ve6 ?_
        refine X_iconst (v := (1 : Int32)) rfl rfl rfl ?_
        refine X_iadd (v := (2 : Int32)) rfl rfl rfl ?_
        refine S_putI (I := InvR _) rfl rfl rfl ((congrFun V.1 355).trans s_355) rfl rfl rfl rfl (InvR_putO V (by decide) (show okO 355 _ _ from (show 0 ≤ (2 : Int32).toInt ∧ (2 : Int32).toInt ≤ 8 by decide))) (fun g V ve12 vn13 hq => ?_)
        have hG := hq.trans hG
        refine LW_goto (tgt := 21) rfl rfl ?_
        refine X_iload_n rfl rfl rfl rfl ?_
        refine X_iload_n rfl rfl rfl rfl ?_
        refine S_idiv rfl rfl hx1 (show (100 : Int32).toInt = 100 from rfl) (by omega) (by omega) (fun vz14 hvz14 => ?_)
        refine X_bipush (v := (9 : Int32)) rfl rfl rfl ?_
        refine S_icmp_le (tgt := 47) rfl rfl rfl rfl (show (9 : Int32).toInt = 9 from rfl) (fun vh15 => ?_) (fun vh15 => ?_)
        · refine X_iload_n rfl rfl rfl rfl ?_
          refine X_iload_n rfl rfl rfl rfl ?_
          refine S_idiv rfl rfl hx1 (show (100 : Int32).toInt = 100 from rfl) (by omega) (by omega) (fun vz16 hvz16 => ?_)
          refine X_iconst (v := (1 : Int32)) rfl rfl rfl ?_
          refine S_icmp_eq (tgt := 56) rfl rfl rfl rfl (show (1 : Int32).toInt = 1 from rfl) (fun vh17 => ?_) (fun vh17 => ?_)
          · refine X_iload_n rfl rfl rfl rfl ?_
            refine X_istore_n (i := 3) (ls' := [some (.ref 355), some (.int x1), some (.int (100 : Int32)), some (.int x1), none]) rfl rfl rfl (Nat.le_of_ble_eq_true rfl) rfl ?_
            refine X_aload_n rfl rfl rfl rfl ?_
            refine X_getI (v := (2 : Int32)) rfl rfl rfl ((congrFun V.1 355).trans s_355) rfl ve12 ?_
            refine X_iconst (v := (1 : Int32)) rfl rfl rfl ?_
            refine X_isub (v := (1 : Int32)) rfl rfl rfl ?_
            refine X_istore (i := 4) (ls' := [some (.ref 355), some (.int x1), some (.int (100 : Int32)), some (.int x1), some (.int (1 : Int32))]) rfl rfl (Nat.le_of_ble_eq_true rfl) rfl ?_
            exact (C_X13_saying_all (((1 - (-1)) * 1 + 0) + 1 : Int).toNat) _ V hG x1 y1 hx1 (by omega) (100 : Int32) 100 (show (100 : Int32).toInt = 100 from rfl) (by omega) x1 y1 hx1 (by omega) (1 : Int32) 1 (show (1 : Int32).toInt = 1 from rfl) (by omega) (by rw [ve12]; decide)   (by omega)
          · refine X_iconst (v := (-1 : Int32)) rfl rfl rfl ?_
            exact LW_ireturn (st := []) rfl rfl rfl ⟨_, rfl, by decide, by decide, V, hG⟩
        · refine X_iload_n rfl rfl rfl rfl ?_
          refine X_bipush (v := (10 : Int32)) rfl rfl rfl ?_
          refine X_imul (v := (1000 : Int32)) rfl rfl rfl ?_
          refine X_istore_n (i := 2) (ls' := [some (.ref 355), some (.int x1), some (.int (1000 : Int32)), none, none]) rfl rfl rfl (Nat.le_of_ble_eq_true rfl) rfl ?_
          refine X_aload_n rfl rfl rfl rfl ?_
          refine X_dup rfl rfl rfl ?_
          refine X_getI (v := (2 : Int32)) rfl rfl rfl ((congrFun V.1 355).trans s_355) rfl ve12 ?_
          refine X_iconst (v := (1 : Int32)) rfl rfl rfl ?_
          refine X_iadd (v := (3 : Int32)) rfl rfl rfl ?_
          refine S_putI (I := InvR _) rfl rfl rfl ((congrFun V.1 355).trans s_355) rfl rfl rfl rfl (InvR_putO V (by decide) (show okO 355 _ _ from (show 0 ≤ (3 : Int32).toInt ∧ (3 : Int32).toInt ≤ 8 by decide))) (fun g V ve18 vn19 hq => ?_)
          have hG := hq.trans hG
          refine LW_goto (tgt := 21) rfl rfl ?_
          refine X_iload_n rfl rfl rfl rfl ?_
          refine X_iload_n rfl rfl rfl rfl ?_
          refine S_idiv rfl rfl hx1 (show (1000 : Int32).toInt = 1000 from rfl) (by omega) (by omega) (fun vz20 hvz20 => ?_)
          refine X_bipush (v := (9 : Int32)) rfl rfl rfl ?_
          refine S_icmp_le (tgt := 47) rfl rfl rfl rfl (show (9 : Int32).toInt = 9 from rfl) (fun vh21 => ?_) (fun vh21 => ?_)
          · refine X_iload_n rfl rfl rfl rfl ?_
            refine X_iload_n rfl rfl rfl rfl ?_
            refine S_idiv rfl rfl hx1 (show (1000 : Int32).toInt = 1000 from rfl) (by omega) (by omega) (fun vz22 hvz22 => ?_)
            refine X_iconst (v := (1 : Int32)) rfl rfl rfl ?_
            refine S_icmp_eq (tgt := 56) rfl rfl rfl rfl (show (1 : Int32).toInt = 1 from rfl) (fun vh23 => ?_) (fun vh23 => ?_)
            · refine X_iload_n rfl rfl rfl rfl ?_
              refine X_istore_n (i := 3) (ls' := [some (.ref 355), some (.int x1), some (.int (1000 : Int32)), some (.int x1), none]) rfl rfl rfl (Nat.le_of_ble_eq_true rfl) rfl ?_
              refine X_aload_n rfl rfl rfl rfl ?_
              refine X_getI (v := (3 : Int32)) rfl rfl rfl ((congrFun V.1 355).trans s_355) rfl ve18 ?_
              refine X_iconst (v := (1 : Int32)) rfl rfl rfl ?_
              refine X_isub (v := (2 : Int32)) rfl rfl rfl ?_
              refine X_istore (i := 4) (ls' := [some (.ref 355), some (.int x1), some (.int (1000 : Int32)), some (.int x1), some (.int (2 : Int32))]) rfl rfl (Nat.le_of_ble_eq_true rfl) rfl ?_
              exact (C_X13_saying_all (((2 - (-1)) * 1 + 0) + 1 : Int).toNat) _ V hG x1 y1 hx1 (by omega) (1000 : Int32) 1000 (show (1000 : Int32).toInt = 1000 from rfl) (by omega) x1 y1 hx1 (by omega) (2 : Int32) 2 (show (2 : Int32).toInt = 2 from rfl) (by omega) (by rw [ve18]; decide)   (by omega)
            · refine X_iconst (v := (-1 : Int32)) rfl rfl rfl ?_
              exact LW_ireturn (st := []) rfl rfl rfl ⟨_, rfl, by decide, by decide, V, hG⟩
          · refine X_iload_n rfl rfl rfl rfl ?_
            refine X_bipush (v := (10 : Int32)) rfl rfl rfl ?_
            refine X_imul (v := (10000 : Int32)) rfl rfl rfl ?_
            refine X_istore_n (i := 2) (ls' := [some (.ref 355), some (.int x1), some (.int (10000 : Int32)), none, none]) rfl rfl rfl (Nat.le_of_ble_eq_true rfl) rfl ?_
            refine X_aload_n rfl rfl rfl rfl ?_
            refine X_dup rfl rfl rfl ?_
            refine X_getI (v := (3 : Int32)) rfl rfl rfl ((congrFun V.1 355).trans s_355) rfl ve18 ?_
            refine X_iconst (v := (1 : Int32)) rfl rfl rfl ?_
            refine X_iadd (v := (4 : Int32)) rfl rfl rfl ?_
            refine S_putI (I := InvR _) rfl rfl rfl ((congrFun V.1 355).trans s_355) rfl rfl rfl rfl (InvR_putO V (by decide) (show okO 355 _ _ from (show 0 ≤ (4 : Int32).toInt ∧ (4 : Int32).toInt ≤ 8 by decide))) (fun g V ve24 vn25 hq => ?_)
            have hG := hq.trans hG
            refine LW_goto (tgt := 21) rfl rfl ?_
            refine X_iload_n rfl rfl rfl rfl ?_
            refine X_iload_n rfl rfl rfl rfl ?_
            refine S_idiv rfl rfl hx1 (show (10000 : Int32).toInt = 10000 from rfl) (by omega) (by omega) (fun vz26 hvz26 => ?_)
            refine X_bipush (v := (9 : Int32)) rfl rfl rfl ?_
            refine S_icmp_le (tgt := 47) rfl rfl rfl rfl (show (9 : Int32).toInt = 9 from rfl) (fun vh27 => ?_) (fun vh27 => ?_)
            · refine X_iload_n rfl rfl rfl rfl ?_
              refine X_iload_n rfl rfl rfl rfl ?_
              refine S_idiv rfl rfl hx1 (show (10000 : Int32).toInt = 10000 from rfl) (by omega) (by omega) (fun vz28 hvz28 => ?_)
              refine X_iconst (v := (1 : Int32)) rfl rfl rfl ?_
              refine S_icmp_eq (tgt := 56) rfl rfl rfl rfl (show (1 : Int32).toInt = 1 from rfl) (fun vh29 => ?_) (fun vh29 => ?_)
              · refine X_iload_n rfl rfl rfl rfl ?_
                refine X_istore_n (i := 3) (ls' := [some (.ref 355), some (.int x1), some (.int (10000 : Int32)), some (.int x1), none]) rfl rfl rfl (Nat.le_of_ble_eq_true rfl) rfl ?_
                refine X_aload_n rfl rfl rfl rfl ?_
                refine X_getI (v := (4 : Int32)) rfl rfl rfl ((congrFun V.1 355).trans s_355) rfl ve24 ?_
                refine X_iconst (v := (1 : Int32)) rfl rfl rfl ?_
                refine X_isub (v := (3 : Int32)) rfl rfl rfl ?_
                refine X_istore (i := 4) (ls' := [some (.ref 355), some (.int x1), some (.int (10000 : Int32)), some (.int x1), some (.int (3 : Int32))]) rfl rfl (Nat.le_of_ble_eq_true rfl) rfl ?_
                exact (C_X13_saying_all (((3 - (-1)) * 1 + 0) + 1 : Int).toNat) _ V hG x1 y1 hx1 (by omega) (10000 : Int32) 10000 (show (10000 : Int32).toInt = 10000 from rfl) (by omega) x1 y1 hx1 (by omega) (3 : Int32) 3 (show (3 : Int32).toInt = 3 from rfl) (by omega) (by rw [ve24]; decide)   (by omega)
              · refine X_iconst (v := (-1 : Int32)) rfl rfl rfl ?_
                exact LW_ireturn (st := []) rfl rfl rfl ⟨_, rfl, by decide, by decide, V, hG⟩
            · refine X_iload_n rfl rfl rfl rfl ?_
              refine X_bipush (v := (10 : Int32)) rfl rfl rfl ?_
              refine X_imul (v := (100000 : Int32)) rfl rfl rfl ?_
              refine X_istore_n (i := 2) (ls' := [some (.ref 355), some (.int x1), some (.int (100000 : Int32)), none, none]) rfl rfl rfl (Nat.le_of_ble_eq_true rfl) rfl ?_
              refine X_aload_n rfl rfl rfl rfl ?_
              refine X_dup rfl rfl rfl ?_
              refine X_getI (v := (4 : Int32)) rfl rfl rfl ((congrFun V.1 355).trans s_355) rfl ve24 ?_
              refine X_iconst (v := (1 : Int32)) rfl rfl rfl ?_
              refine X_iadd (v := (5 : Int32)) rfl rfl rfl ?_
              refine S_putI (I := InvR _) rfl rfl rfl ((congrFun V.1 355).trans s_355) rfl rfl rfl rfl (InvR_putO V (by decide) (show okO 355 _ _ from (show 0 ≤ (5 : Int32).toInt ∧ (5 : Int32).toInt ≤ 8 by decide))) (fun g V ve30 vn31 hq => ?_)
              have hG := hq.trans hG
              refine LW_goto (tgt := 21) rfl rfl ?_
              refine X_iload_n rfl rfl rfl rfl ?_
              refine X_iload_n rfl rfl rfl rfl ?_
              refine S_idiv rfl rfl hx1 (show (100000 : Int32).toInt = 100000 from rfl) (by omega) (by omega) (fun vz32 hvz32 => ?_)
              refine X_bipush (v := (9 : Int32)) rfl rfl rfl ?_
              refine S_icmp_le (tgt := 47) rfl rfl rfl rfl (show (9 : Int32).toInt = 9 from rfl) (fun vh33 => ?_) (fun vh33 => ?_)
              · refine X_iload_n rfl rfl rfl rfl ?_
                refine X_iload_n rfl rfl rfl rfl ?_
                refine S_idiv rfl rfl hx1 (show (100000 : Int32).toInt = 100000 from rfl) (by omega) (by omega) (fun vz34 hvz34 => ?_)
                refine X_iconst (v := (1 : Int32)) rfl rfl rfl ?_
                refine S_icmp_eq (tgt := 56) rfl rfl rfl rfl (show (1 : Int32).toInt = 1 from rfl) (fun vh35 => ?_) (fun vh35 => ?_)
                · refine X_iload_n rfl rfl rfl rfl ?_
                  refine X_istore_n (i := 3) (ls' := [some (.ref 355), some (.int x1), some (.int (100000 : Int32)), some (.int x1), none]) rfl rfl rfl (Nat.le_of_ble_eq_true rfl) rfl ?_
                  refine X_aload_n rfl rfl rfl rfl ?_
                  refine X_getI (v := (5 : Int32)) rfl rfl rfl ((congrFun V.1 355).trans s_355) rfl ve30 ?_
                  refine X_iconst (v := (1 : Int32)) rfl rfl rfl ?_
                  refine X_isub (v := (4 : Int32)) rfl rfl rfl ?_
                  refine X_istore (i := 4) (ls' := [some (.ref 355), some (.int x1), some (.int (100000 : Int32)), some (.int x1), some (.int (4 : Int32))]) rfl rfl (Nat.le_of_ble_eq_true rfl) rfl ?_
                  exact (C_X13_saying_all (((4 - (-1)) * 1 + 0) + 1 : Int).toNat) _ V hG x1 y1 hx1 (by omega) (100000 : Int32) 100000 (show (100000 : Int32).toInt = 100000 from rfl) (by omega) x1 y1 hx1 (by omega) (4 : Int32) 4 (show (4 : Int32).toInt = 4 from rfl) (by omega) (by rw [ve30]; decide)   (by omega)
                · refine X_iconst (v := (-1 : Int32)) rfl rfl rfl ?_
                  exact LW_ireturn (st := []) rfl rfl rfl ⟨_, rfl, by decide, by decide, V, hG⟩
              · refine X_iload_n rfl rfl rfl rfl ?_
                refine X_bipush (v := (10 : Int32)) rfl rfl rfl ?_
                refine X_imul (v := (1000000 : Int32)) rfl rfl rfl ?_
                refine X_istore_n (i := 2) (ls' := [some (.ref 355), some (.int x1), some (.int (1000000 : Int32)), none, none]) rfl rfl rfl (Nat.le_of_ble_eq_true rfl) rfl ?_
                refine X_aload_n rfl rfl rfl rfl ?_
                refine X_dup rfl rfl rfl ?_
                refine X_getI (v := (5 : Int32)) rfl rfl rfl ((congrFun V.1 355).trans s_355) rfl ve30 ?_
                refine X_iconst (v := (1 : Int32)) rfl rfl rfl ?_
                refine X_iadd (v := (6 : Int32)) rfl rfl rfl ?_
                refine S_putI (I := InvR _) rfl rfl rfl ((congrFun V.1 355).trans s_355) rfl rfl rfl rfl (InvR_putO V (by decide) (show okO 355 _ _ from (show 0 ≤ (6 : Int32).toInt ∧ (6 : Int32).toInt ≤ 8 by decide))) (fun g V ve36 vn37 hq => ?_)
                have hG := hq.trans hG
                refine LW_goto (tgt := 21) rfl rfl ?_
                refine X_iload_n rfl rfl rfl rfl ?_
                refine X_iload_n rfl rfl rfl rfl ?_
                refine S_idiv rfl rfl hx1 (show (1000000 : Int32).toInt = 1000000 from rfl) (by omega) (by omega) (fun vz38 hvz38 => ?_)
                refine X_bipush (v := (9 : Int32)) rfl rfl rfl ?_
                refine S_icmp_le (tgt := 47) rfl rfl rfl rfl (show (9 : Int32).toInt = 9 from rfl) (fun vh39 => ?_) (fun vh39 => ?_)
                · refine X_iload_n rfl rfl rfl rfl ?_
                  refine X_iload_n rfl rfl rfl rfl ?_
                  refine S_idiv rfl rfl hx1 (show (1000000 : Int32).toInt = 1000000 from rfl) (by omega) (by omega) (fun vz40 hvz40 => ?_)
                  refine X_iconst (v := (1 : Int32)) rfl rfl rfl ?_
                  refine S_icmp_eq (tgt := 56) rfl rfl rfl rfl (show (1 : Int32).toInt = 1 from rfl) (fun vh41 => ?_) (fun vh41 => ?_)
                  · refine X_iload_n rfl rfl rfl rfl ?_
                    refine X_istore_n (i := 3) (ls' := [some (.ref 355), some (.int x1), some (.int (1000000 : Int32)), some (.int x1), none]) rfl rfl rfl (Nat.le_of_ble_eq_true rfl) rfl ?_
                    refine X_aload_n rfl rfl rfl rfl ?_
                    refine X_getI (v := (6 : Int32)) rfl rfl rfl ((congrFun V.1 355).trans s_355) rfl ve36 ?_
                    refine X_iconst (v := (1 : Int32)) rfl rfl rfl ?_
                    refine X_isub (v := (5 : Int32)) rfl rfl rfl ?_
                    refine X_istore (i := 4) (ls' := [some (.ref 355), some (.int x1), some (.int (1000000 : Int32)), some (.int x1), some (.int (5 : Int32))]) rfl rfl (Nat.le_of_ble_eq_true rfl) rfl ?_
                    exact (C_X13_saying_all (((5 - (-1)) * 1 + 0) + 1 : Int).toNat) _ V hG x1 y1 hx1 (by omega) (1000000 : Int32) 1000000 (show (1000000 : Int32).toInt = 1000000 from rfl) (by omega) x1 y1 hx1 (by omega) (5 : Int32) 5 (show (5 : Int32).toInt = 5 from rfl) (by omega) (by rw [ve36]; decide)   (by omega)
                  · refine X_iconst (v := (-1 : Int32)) rfl rfl rfl ?_
                    exact LW_ireturn (st := []) rfl rfl rfl ⟨_, rfl, by decide, by decide, V, hG⟩
                · refine X_iload_n rfl rfl rfl rfl ?_
                  refine X_bipush (v := (10 : Int32)) rfl rfl rfl ?_
                  refine X_imul (v := (10000000 : Int32)) rfl rfl rfl ?_
                  refine X_istore_n (i := 2) (ls' := [some (.ref 355), some (.int x1), some (.int (10000000 : Int32)), none, none]) rfl rfl rfl (Nat.le_of_ble_eq_true rfl) rfl ?_
                  refine X_aload_n rfl rfl rfl rfl ?_
                  refine X_dup rfl rfl rfl ?_
                  refine X_getI (v := (6 : Int32)) rfl rfl rfl ((congrFun V.1 355).trans s_355) rfl ve36 ?_
                  refine X_iconst (v := (1 : Int32)) rfl rfl rfl ?_
                  refine X_iadd (v := (7 : Int32)) rfl rfl rfl ?_
                  refine S_putI (I := InvR _) rfl rfl rfl ((congrFun V.1 355).trans s_355) rfl rfl rfl rfl (InvR_putO V (by decide) (show okO 355 _ _ from (show 0 ≤ (7 : Int32).toInt ∧ (7 : Int32).toInt ≤ 8 by decide))) (fun g V ve42 vn43 hq => ?_)
                  have hG := hq.trans hG
                  refine LW_goto (tgt := 21) rfl rfl ?_
                  refine X_iload_n rfl rfl rfl rfl ?_
                  refine X_iload_n rfl rfl rfl rfl ?_
                  refine S_idiv rfl rfl hx1 (show (10000000 : Int32).toInt = 10000000 from rfl) (by omega) (by omega) (fun vz44 hvz44 => ?_)
                  refine X_bipush (v := (9 : Int32)) rfl rfl rfl ?_
                  refine S_icmp_le (tgt := 47) rfl rfl rfl rfl (show (9 : Int32).toInt = 9 from rfl) (fun vh45 => ?_) (fun vh45 => ?_)
                  · refine X_iload_n rfl rfl rfl rfl ?_
                    refine X_iload_n rfl rfl rfl rfl ?_
                    refine S_idiv rfl rfl hx1 (show (10000000 : Int32).toInt = 10000000 from rfl) (by omega) (by omega) (fun vz46 hvz46 => ?_)
                    refine X_iconst (v := (1 : Int32)) rfl rfl rfl ?_
                    refine S_icmp_eq (tgt := 56) rfl rfl rfl rfl (show (1 : Int32).toInt = 1 from rfl) (fun vh47 => ?_) (fun vh47 => ?_)
                    · refine X_iload_n rfl rfl rfl rfl ?_
                      refine X_istore_n (i := 3) (ls' := [some (.ref 355), some (.int x1), some (.int (10000000 : Int32)), some (.int x1), none]) rfl rfl rfl (Nat.le_of_ble_eq_true rfl) rfl ?_
                      refine X_aload_n rfl rfl rfl rfl ?_
                      refine X_getI (v := (7 : Int32)) rfl rfl rfl ((congrFun V.1 355).trans s_355) rfl ve42 ?_
                      refine X_iconst (v := (1 : Int32)) rfl rfl rfl ?_
                      refine X_isub (v := (6 : Int32)) rfl rfl rfl ?_
                      refine X_istore (i := 4) (ls' := [some (.ref 355), some (.int x1), some (.int (10000000 : Int32)), some (.int x1), some (.int (6 : Int32))]) rfl rfl (Nat.le_of_ble_eq_true rfl) rfl ?_
                      exact (C_X13_saying_all (((6 - (-1)) * 1 + 0) + 1 : Int).toNat) _ V hG x1 y1 hx1 (by omega) (10000000 : Int32) 10000000 (show (10000000 : Int32).toInt = 10000000 from rfl) (by omega) x1 y1 hx1 (by omega) (6 : Int32) 6 (show (6 : Int32).toInt = 6 from rfl) (by omega) (by rw [ve42]; decide)   (by omega)
                    · refine X_iconst (v := (-1 : Int32)) rfl rfl rfl ?_
                      exact LW_ireturn (st := []) rfl rfl rfl ⟨_, rfl, by decide, by decide, V, hG⟩
                  · refine X_iload_n rfl rfl rfl rfl ?_
                    refine X_bipush (v := (10 : Int32)) rfl rfl rfl ?_
                    refine X_imul (v := (100000000 : Int32)) rfl rfl rfl ?_
                    refine X_istore_n (i := 2) (ls' := [some (.ref 355), some (.int x1), some (.int (100000000 : Int32)), none, none]) rfl rfl rfl (Nat.le_of_ble_eq_true rfl) rfl ?_
                    refine X_aload_n rfl rfl rfl rfl ?_
                    refine X_dup rfl rfl rfl ?_
                    refine X_getI (v := (7 : Int32)) rfl rfl rfl ((congrFun V.1 355).trans s_355) rfl ve42 ?_
                    refine X_iconst (v := (1 : Int32)) rfl rfl rfl ?_
                    refine X_iadd (v := (8 : Int32)) rfl rfl rfl ?_
                    refine S_putI (I := InvR _) rfl rfl rfl ((congrFun V.1 355).trans s_355) rfl rfl rfl rfl (InvR_putO V (by decide) (show okO 355 _ _ from (show 0 ≤ (8 : Int32).toInt ∧ (8 : Int32).toInt ≤ 8 by decide))) (fun g V ve48 vn49 hq => ?_)
                    have hG := hq.trans hG
                    refine LW_goto (tgt := 21) rfl rfl ?_
                    refine X_iload_n rfl rfl rfl rfl ?_
                    refine X_iload_n rfl rfl rfl rfl ?_
                    refine S_idiv rfl rfl hx1 (show (100000000 : Int32).toInt = 100000000 from rfl) (by omega) (by omega) (fun vz50 hvz50 => ?_)
                    refine X_bipush (v := (9 : Int32)) rfl rfl rfl ?_
                    refine S_icmp_le (tgt := 47) rfl rfl rfl rfl (show (9 : Int32).toInt = 9 from rfl) (fun vh51 => ?_) (fun q => absurd q (by omega))
                    refine X_iload_n rfl rfl rfl rfl ?_
                    refine X_iload_n rfl rfl rfl rfl ?_
                    refine S_idiv rfl rfl hx1 (show (100000000 : Int32).toInt = 100000000 from rfl) (by omega) (by omega) (fun vz52 hvz52 => ?_)
                    refine X_iconst (v := (1 : Int32)) rfl rfl rfl ?_
                    refine S_icmp_eq (tgt := 56) rfl rfl rfl rfl (show (1 : Int32).toInt = 1 from rfl) (fun vh53 => ?_) (fun vh53 => ?_)
                    · refine X_iload_n rfl rfl rfl rfl ?_
                      refine X_istore_n (i := 3) (ls' := [some (.ref 355), some (.int x1), some (.int (100000000 : Int32)), some (.int x1), none]) rfl rfl rfl (Nat.le_of_ble_eq_true rfl) rfl ?_
                      refine X_aload_n rfl rfl rfl rfl ?_
                      refine X_getI (v := (8 : Int32)) rfl rfl rfl ((congrFun V.1 355).trans s_355) rfl ve48 ?_
                      refine X_iconst (v := (1 : Int32)) rfl rfl rfl ?_
                      refine X_isub (v := (7 : Int32)) rfl rfl rfl ?_
                      refine X_istore (i := 4) (ls' := [some (.ref 355), some (.int x1), some (.int (100000000 : Int32)), some (.int x1), some (.int (7 : Int32))]) rfl rfl (Nat.le_of_ble_eq_true rfl) rfl ?_
                      exact (C_X13_saying_all (((7 - (-1)) * 1 + 0) + 1 : Int).toNat) _ V hG x1 y1 hx1 (by omega) (100000000 : Int32) 100000000 (show (100000000 : Int32).toInt = 100000000 from rfl) (by omega) x1 y1 hx1 (by omega) (7 : Int32) 7 (show (7 : Int32).toInt = 7 from rfl) (by omega) (by rw [ve48]; decide)   (by omega)
                    · refine X_iconst (v := (-1 : Int32)) rfl rfl rfl ?_
                      exact LW_ireturn (st := []) rfl rfl rfl ⟨_, rfl, by decide, by decide, V, hG⟩
