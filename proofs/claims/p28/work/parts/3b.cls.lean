/-! the class's methods: each returns and keeps what every state keeps -/
set_option maxRecDepth 10000 in
set_option maxHeartbeats 40000000 in
theorem C_X2_tieAll_5 {P : Par} {g g0 : LH} {d n : Nat}  (V : Inv P g) (hG : Gr g = Gr g0) (x1 : Int32) (y1 : Int) (hx1 : x1.toInt = y1) (x2 : Int32) (y2 : Int) (hx2 : x2.toInt = y2) (x3 : Int32) (y3 : Int) (hx3 : x3.toInt = y3) (hf3 : 0 ≤ y3 ∧ y3 ≤ 1) (x4 : Int32) (y4 : Int) (hx4 : x4.toInt = y4) (hf4 : 0 ≤ y4 ∧ y4 ≤ 26) (o5 : Option Value)  (hmu : (26 - y4) * 1 + 0 < (n : Int) + 1) (ih5 : ∀ (g : LH) (V : Inv P g) (hG : Gr g = Gr g0) (x1 : Int32) (y1 : Int) (hx1 : x1.toInt = y1) (x2 : Int32) (y2 : Int) (hx2 : x2.toInt = y2) (x3 : Int32) (y3 : Int) (hx3 : x3.toInt = y3) (hf3 : 0 ≤ y3 ∧ y3 ≤ 1) (x4 : Int32) (y4 : Int) (hx4 : x4.toInt = y4) (hf4 : 0 ≤ y4 ∧ y4 ≤ 26) (o5 : Option Value) , (26 - y4) * 1 + 0 < (n : Int) → LW 21 (d + 3) 0 0 5 [some (.ref 1), some (.int x1), some (.int x2), some (.int x3), some (.int x4), o5] [] g (fun v g' => ∃ r : Int32, v = some (.int r) ∧ 0 ≤ r.toInt ∧ r.toInt ≤ 1 ∧ Inv P g' ∧ Gr g' = Gr g0)) : LW 21 (d + 3) 0 0 5 [some (.ref 1), some (.int x1), some (.int x2), some (.int x3), some (.int x4), o5] [] g (fun v g' => ∃ r : Int32, v = some (.int r) ∧ 0 ≤ r.toInt ∧ r.toInt ≤ 1 ∧ Inv P g' ∧ Gr g' = Gr g0) := by
  refine X_iload rfl rfl rfl ?_
  refine X_bipush (v := (26 : Int32)) rfl rfl rfl ?_
  refine S_icmp_ge (tgt := 74) rfl rfl rfl hx4 (show (26 : Int32).toInt = 26 from rfl) (fun vh1 => ?_) (fun vh1 => ?_)
  · refine X_iload_n rfl rfl rfl rfl ?_
    have hr := hx3
    exact LW_ireturn (st := []) rfl rfl (nbool hx3 (by omega)) ⟨_, rfl, by omega, by omega, V, hG⟩
  · refine X_iload_n rfl rfl rfl rfl ?_
    refine X_iload rfl rfl rfl ?_
    refine S_ishrT rfl rfl (fun vz2 => ?_)
    refine X_iconst (v := (1 : Int32)) rfl rfl rfl ?_
    refine S_iandR (k := 1) rfl rfl rfl (fun vz3 hvz3 => ?_)
    refine S_if_eq (tgt := 68) rfl rfl rfl rfl (fun vh4 => ?_) (fun vh4 => ?_)
    · refine S_iinc (c := 1) rfl rfl rfl hx4 rfl (by omega) (fun vz5 hvz5 => ?_)
      refine LW_ls (ls' := [some (.ref 1), some (.int x1), some (.int x2), some (.int x3), some (.int vz5), o5]) rfl ?_
      refine LW_goto (tgt := 5) rfl rfl ?_
      exact ih5 _ V hG x1 y1 hx1 x2 y2 hx2 x3 y3 hx3 (by omega) vz5 vz5.toInt rfl (by omega) o5    (by omega)
    · refine X_aload_n rfl rfl rfl rfl ?_
      refine X_getR (a := 141) rfl rfl rfl ((congrFun V.1 1).trans s_1) rfl ((congrFun (V.2.1 1 (by decide)) 4).trans r_1_4) ?_
      refine X_iload rfl rfl rfl ?_
      refine S_iald rfl rfl ((congrFun V.1 141).trans s_141) hx4 (by omega) (fun vz6 evz6 => ?_)
      refine X_iload_n rfl rfl rfl rfl ?_
      refine X_iconst (v := (1 : Int32)) rfl rfl rfl ?_
      refine X_iload rfl rfl rfl ?_
      refine S_ishlT rfl rfl (fun vz7 => ?_)
      refine X_iconst (v := (-1 : Int32)) rfl rfl rfl ?_
      refine S_ixorT rfl rfl (fun vz8 => ?_)
      refine S_iandT rfl rfl (fun vz9 => ?_)
      refine S_iorT rfl rfl (fun vz10 => ?_)
      refine X_istore (i := 5) (ls' := [some (.ref 1), some (.int x1), some (.int x2), some (.int x3), some (.int x4), some (.int vz10)]) rfl rfl (Nat.le_of_ble_eq_true rfl) rfl ?_
      refine X_iload_n rfl rfl rfl rfl ?_
      refine X_iload rfl rfl rfl ?_
      refine X_aload_n rfl rfl rfl rfl ?_
      refine X_getR (a := 141) rfl rfl rfl ((congrFun V.1 1).trans s_1) rfl ((congrFun (V.2.1 1 (by decide)) 4).trans r_1_4) ?_
      refine X_iload rfl rfl rfl ?_
      refine S_iald_v rfl rfl ((congrFun V.1 141).trans s_141) hx4 (by omega) evz6 ?_
      refine S_icmp_eq (tgt := 56) rfl rfl rfl rfl rfl (fun vh12 => ?_) (fun vh12 => ?_)
      · refine X_iconst (v := (0 : Int32)) rfl rfl rfl ?_
        refine S_ior (n := 1) rfl rfl hx3 (show (0 : Int32).toInt = 0 from rfl) (by omega) (by omega) (fun vz13 hvz13 => ?_)
        refine X_istore_n (i := 3) (ls' := [some (.ref 1), some (.int x1), some (.int x2), some (.int vz13), some (.int x4), some (.int vz10)]) rfl rfl rfl (Nat.le_of_ble_eq_true rfl) rfl ?_
        refine X_aload_n rfl rfl rfl rfl ?_
        refine X_getR (a := 141) rfl rfl rfl ((congrFun V.1 1).trans s_1) rfl ((congrFun (V.2.1 1 (by decide)) 4).trans r_1_4) ?_
        refine X_iload rfl rfl rfl ?_
        refine X_iload rfl rfl rfl ?_
        refine S_iast (I := Inv _) rfl rfl ((congrFun V.1 141).trans s_141) hx4 (by omega) (Inv_putI V (Nat.le_of_ble_eq_true rfl) (Or.inl (by decide)) (Q_0 rk_141)) (fun g V ve14 vn15 hq => ?_)
        have hG := hq.trans hG
        refine S_iinc (c := 1) rfl rfl rfl hx4 rfl (by omega) (fun vz16 hvz16 => ?_)
        refine LW_ls (ls' := [some (.ref 1), some (.int x1), some (.int x2), some (.int vz13), some (.int vz16), some (.int vz10)]) rfl ?_
        refine LW_goto (tgt := 5) rfl rfl ?_
        exact ih5 _ V hG x1 y1 hx1 x2 y2 hx2 vz13 vz13.toInt rfl (by omega) vz16 vz16.toInt rfl (by omega) (some (.int vz10))    (by omega)
      · refine X_iconst (v := (1 : Int32)) rfl rfl rfl ?_
        refine LW_goto (tgt := 57) rfl rfl ?_
        refine S_ior (n := 1) rfl rfl hx3 (show (1 : Int32).toInt = 1 from rfl) (by omega) (by omega) (fun vz17 hvz17 => ?_)
        refine X_istore_n (i := 3) (ls' := [some (.ref 1), some (.int x1), some (.int x2), some (.int vz17), some (.int x4), some (.int vz10)]) rfl rfl rfl (Nat.le_of_ble_eq_true rfl) rfl ?_
        refine X_aload_n rfl rfl rfl rfl ?_
        refine X_getR (a := 141) rfl rfl rfl ((congrFun V.1 1).trans s_1) rfl ((congrFun (V.2.1 1 (by decide)) 4).trans r_1_4) ?_
        refine X_iload rfl rfl rfl ?_
        refine X_iload rfl rfl rfl ?_
        refine S_iast (I := Inv _) rfl rfl ((congrFun V.1 141).trans s_141) hx4 (by omega) (Inv_putI V (Nat.le_of_ble_eq_true rfl) (Or.inl (by decide)) (Q_0 rk_141)) (fun g V ve18 vn19 hq => ?_)
        have hG := hq.trans hG
        refine S_iinc (c := 1) rfl rfl rfl hx4 rfl (by omega) (fun vz20 hvz20 => ?_)
        refine LW_ls (ls' := [some (.ref 1), some (.int x1), some (.int x2), some (.int vz17), some (.int vz20), some (.int vz10)]) rfl ?_
        refine LW_goto (tgt := 5) rfl rfl ?_
        exact ih5 _ V hG x1 y1 hx1 x2 y2 hx2 vz17 vz17.toInt rfl (by omega) vz20 vz20.toInt rfl (by omega) (some (.int vz10))    (by omega)
theorem C_X2_tieAll_all {P : Par} {g0 : LH} {d : Nat}  : ∀ n : Nat, (∀ (g : LH) (V : Inv P g) (hG : Gr g = Gr g0) (x1 : Int32) (y1 : Int) (hx1 : x1.toInt = y1) (x2 : Int32) (y2 : Int) (hx2 : x2.toInt = y2) (x3 : Int32) (y3 : Int) (hx3 : x3.toInt = y3) (hf3 : 0 ≤ y3 ∧ y3 ≤ 1) (x4 : Int32) (y4 : Int) (hx4 : x4.toInt = y4) (hf4 : 0 ≤ y4 ∧ y4 ≤ 26) (o5 : Option Value) , (26 - y4) * 1 + 0 < (n : Int) → LW 21 (d + 3) 0 0 5 [some (.ref 1), some (.int x1), some (.int x2), some (.int x3), some (.int x4), o5] [] g (fun v g' => ∃ r : Int32, v = some (.int r) ∧ 0 ≤ r.toInt ∧ r.toInt ≤ 1 ∧ Inv P g' ∧ Gr g' = Gr g0)) := by
  intro n
  induction n with
  | zero => exact fun g V hG x1 y1 hx1 x2 y2 hx2 x3 y3 hx3 hf3 x4 y4 hx4 hf4 o5 hmu => absurd hmu (by omega)
  | succ n ih => exact fun g V hG x1 y1 hx1 x2 y2 hx2 x3 y3 hx3 hf3 x4 y4 hx4 hf4 o5 hmu => C_X2_tieAll_5  V hG x1 y1 hx1 x2 y2 hx2 x3 y3 hx3 hf3 x4 y4 hx4 hf4 o5 (by omega) ih
set_option maxRecDepth 10000 in
set_option maxHeartbeats 40000000 in
theorem C_X2_tieAll {P : Par} {g : LH} {d : Nat}  (V : Inv P g) (x1 : Int32) (y1 : Int) (hx1 : x1.toInt = y1) (x2 : Int32) (y2 : Int) (hx2 : x2.toInt = y2)   : LW 21 (d + 3) 0 0 0 (lEnt (mL 21) [.ref 1, .int x1, .int x2]) [] g (fun v g' => ∃ r : Int32, v = some (.int r) ∧ 0 ≤ r.toInt ∧ r.toInt ≤ 1 ∧ Inv P g' ∧ Gr g' = Gr g) := by
  refine LW_ls (ls' := [some (.ref 1), some (.int x1), some (.int x2), none, none, none]) rfl ?_
  have hG : Gr g = Gr g := rfl
  refine X_iconst (v := (0 : Int32)) rfl rfl rfl ?_
  refine X_istore_n (i := 3) (ls' := [some (.ref 1), some (.int x1), some (.int x2), some (.int (0 : Int32)), none, none]) rfl rfl rfl (Nat.le_of_ble_eq_true rfl) rfl ?_
  refine X_iconst (v := (0 : Int32)) rfl rfl rfl ?_
  refine X_istore (i := 4) (ls' := [some (.ref 1), some (.int x1), some (.int x2), some (.int (0 : Int32)), some (.int (0 : Int32)), none]) rfl rfl (Nat.le_of_ble_eq_true rfl) rfl ?_
  exact (C_X2_tieAll_all (((26 - 0) * 1 + 0) + 1 : Int).toNat) _ V hG x1 y1 hx1 x2 y2 hx2 (0 : Int32) 0 (show (0 : Int32).toInt = 0 from rfl) (by omega) (0 : Int32) 0 (show (0 : Int32).toInt = 0 from rfl) (by omega) none    (by omega)
set_option maxRecDepth 10000 in
set_option maxHeartbeats 40000000 in
theorem C_X12_tie {P : Par} {g : LH} {d : Nat}  (V : Inv P g) (x1 : Int32) (y1 : Int) (hx1 : x1.toInt = y1) (x2 : Int32) (y2 : Int) (hx2 : x2.toInt = y2)   : LW 126 (d + 8) 0 0 0 (lEnt (mL 126) [.ref 0, .int x1, .int x2]) [] g (fun v g' => ∃ r : Int32, v = some (.int r) ∧ 0 ≤ r.toInt ∧ r.toInt ≤ 1 ∧ Inv P g' ∧ Gr g' = Gr g) := by
  refine LW_ls (ls' := [some (.ref 0), some (.int x1), some (.int x2)]) rfl ?_
  have hG : Gr g = Gr g := rfl
  refine X_iload_n rfl rfl rfl rfl ?_
  refine X_callS (as := [.int x1]) (st := []) rfl rfl rfl (by decide) rfl (Nat.le_of_ble_eq_true rfl) (by decide) (Nat.le_of_ble_eq_true rfl) rfl ?_
  refine LW_ls (ls' := [some (.int x1)]) rfl ?_
  refine X_iload_n rfl rfl rfl rfl ?_
  refine S_if_lt (tgt := 14) rfl rfl rfl hx1 (fun vh1 => ?_) (fun vh1 => ?_)
  · refine X_iconst (v := (0 : Int32)) rfl rfl rfl ?_
    refine LW_ireturn (st := []) rfl rfl rfl ?_
    refine S_if_eq (tgt := 19) rfl rfl rfl (show (0 : Int32).toInt = 0 from rfl) (fun vh2 => ?_) (fun q => absurd q (by omega))
    refine X_iconst (v := (0 : Int32)) rfl rfl rfl ?_
    exact LW_ireturn (st := []) rfl rfl rfl ⟨_, rfl, by decide, by decide, V, hG⟩
  · refine X_iload_n rfl rfl rfl rfl ?_
    refine X_bipush (v := (26 : Int32)) rfl rfl rfl ?_
    refine S_icmp_ge (tgt := 14) rfl rfl rfl hx1 (show (26 : Int32).toInt = 26 from rfl) (fun vh3 => ?_) (fun vh3 => ?_)
    · refine X_iconst (v := (0 : Int32)) rfl rfl rfl ?_
      refine LW_ireturn (st := []) rfl rfl rfl ?_
      refine S_if_eq (tgt := 19) rfl rfl rfl (show (0 : Int32).toInt = 0 from rfl) (fun vh4 => ?_) (fun q => absurd q (by omega))
      refine X_iconst (v := (0 : Int32)) rfl rfl rfl ?_
      exact LW_ireturn (st := []) rfl rfl rfl ⟨_, rfl, by decide, by decide, V, hG⟩
    · refine X_iconst (v := (1 : Int32)) rfl rfl rfl ?_
      refine LW_goto (tgt := 15) rfl rfl ?_
      refine LW_ireturn (st := []) rfl rfl rfl ?_
      refine S_if_eq (tgt := 19) rfl rfl rfl (show (1 : Int32).toInt = 1 from rfl) (fun q => absurd q (by omega)) (fun vh5 => ?_)
      refine X_iload_n rfl rfl rfl rfl ?_
      refine X_callS (as := [.int x2]) (st := []) rfl rfl rfl (by decide) rfl (Nat.le_of_ble_eq_true rfl) (by decide) (Nat.le_of_ble_eq_true rfl) rfl ?_
      refine LW_ls (ls' := [some (.int x2)]) rfl ?_
      refine X_iload_n rfl rfl rfl rfl ?_
      refine S_if_lt (tgt := 14) rfl rfl rfl hx2 (fun vh6 => ?_) (fun vh6 => ?_)
      · refine X_iconst (v := (0 : Int32)) rfl rfl rfl ?_
        refine LW_ireturn (st := []) rfl rfl rfl ?_
        refine S_if_eq (tgt := 19) rfl rfl rfl (show (0 : Int32).toInt = 0 from rfl) (fun vh7 => ?_) (fun q => absurd q (by omega))
        refine X_iconst (v := (0 : Int32)) rfl rfl rfl ?_
        exact LW_ireturn (st := []) rfl rfl rfl ⟨_, rfl, by decide, by decide, V, hG⟩
      · refine X_iload_n rfl rfl rfl rfl ?_
        refine X_bipush (v := (26 : Int32)) rfl rfl rfl ?_
        refine S_icmp_ge (tgt := 14) rfl rfl rfl hx2 (show (26 : Int32).toInt = 26 from rfl) (fun vh8 => ?_) (fun vh8 => ?_)
        · refine X_iconst (v := (0 : Int32)) rfl rfl rfl ?_
          refine LW_ireturn (st := []) rfl rfl rfl ?_
          refine S_if_eq (tgt := 19) rfl rfl rfl (show (0 : Int32).toInt = 0 from rfl) (fun vh9 => ?_) (fun q => absurd q (by omega))
          refine X_iconst (v := (0 : Int32)) rfl rfl rfl ?_
          exact LW_ireturn (st := []) rfl rfl rfl ⟨_, rfl, by decide, by decide, V, hG⟩
        · refine X_iconst (v := (1 : Int32)) rfl rfl rfl ?_
          refine LW_goto (tgt := 15) rfl rfl ?_
          refine LW_ireturn (st := []) rfl rfl rfl ?_
          refine S_if_eq (tgt := 19) rfl rfl rfl (show (1 : Int32).toInt = 1 from rfl) (fun q => absurd q (by omega)) (fun vh10 => ?_)
          refine X_iload_n rfl rfl rfl rfl ?_
          refine X_iload_n rfl rfl rfl rfl ?_
          refine S_icmp_ne (tgt := 21) rfl rfl rfl hx1 hx2 (fun vh11 => ?_) (fun vh11 => ?_)
          · refine X_aload_n rfl rfl rfl rfl ?_
            refine X_getR (a := 1) rfl rfl rfl ((congrFun V.1 0).trans s_0) rfl ((congrFun (V.2.1 0 (by decide)) 0).trans r_0_0) ?_
            refine X_iconst (v := (1 : Int32)) rfl rfl rfl ?_
            refine X_iload_n rfl rfl rfl rfl ?_
            refine S_ishlT rfl rfl (fun vz12 => ?_)
            refine X_iconst (v := (1 : Int32)) rfl rfl rfl ?_
            refine X_iload_n rfl rfl rfl rfl ?_
            refine S_ishlT rfl rfl (fun vz13 => ?_)
            refine Y_callV (as := [.int vz12, .int vz13]) (st := []) rfl rfl rfl (by decide) rfl (Nat.le_of_ble_eq_true rfl) (by decide) (Nat.le_of_ble_eq_true rfl) rfl ((congrFun V.1 1).trans s_1) (by decide) (C_X2_tieAll V vz12 vz12.toInt rfl vz13 vz13.toInt rfl ) ?_
            rintro _ g ⟨vr14, rfl, hrvr140, hrvr141, V, hq⟩
            have hG := hq.trans hG
            have hr := (rfl : vr14.toInt = vr14.toInt)
            exact LW_ireturn (st := []) rfl rfl (nbool rfl (by omega)) ⟨_, rfl, by omega, by omega, V, hG⟩
          · refine X_iconst (v := (0 : Int32)) rfl rfl rfl ?_
            exact LW_ireturn (st := []) rfl rfl rfl ⟨_, rfl, by decide, by decide, V, hG⟩
set_option maxRecDepth 10000 in
set_option maxHeartbeats 40000000 in
theorem C_X5_isTold_2_354_3 {P : Par} {g : LH} {d n : Nat}  (V : Inv P g) (x2 : Int32) (y2 : Int) (hx2 : x2.toInt = y2) (hf2 : 0 ≤ y2 ∧ y2 ≤ 0) (x3 : Int32) (y3 : Int) (hx3 : x3.toInt = y3) (hf3 : 1 ≤ y3 ∧ y3 ≤ 8) (x4 : Int32) (y4 : Int) (hx4 : x4.toInt = y4) (hf4 : 0 ≤ y4 ∧ y4 ≤ 24) (o5 : Option Value) (o6 : Option Value)  (hmu : (24 - y4) * 12 + 11 < (n : Int) + 1) (ih3 : ∀ (V : Inv P g) (x2 : Int32) (y2 : Int) (hx2 : x2.toInt = y2) (hf2 : 0 ≤ y2 ∧ y2 ≤ 0) (x3 : Int32) (y3 : Int) (hx3 : x3.toInt = y3) (hf3 : 1 ≤ y3 ∧ y3 ≤ 8) (x4 : Int32) (y4 : Int) (hx4 : x4.toInt = y4) (hf4 : 0 ≤ y4 ∧ y4 ≤ 24) (o5 : Option Value) (o6 : Option Value) , (24 - y4) * 12 + 11 < (n : Int) → LW 45 (d + 5) 0 0 3 [some (.ref 2), some (.ref 354), some (.int x2), some (.int x3), some (.int x4), o5, o6] [] g (fun v g' => ∃ r : Int32, v = some (.int r) ∧ 0 ≤ r.toInt ∧ r.toInt ≤ 1 ∧ g = g')) (ih18 : ∀ (V : Inv P g) (x2 : Int32) (y2 : Int) (hx2 : x2.toInt = y2) (hf2 : 0 ≤ y2 ∧ y2 ≤ 0) (x3 : Int32) (y3 : Int) (hx3 : x3.toInt = y3) (hf3 : 1 ≤ y3 ∧ y3 ≤ 8) (x4 : Int32) (y4 : Int) (hx4 : x4.toInt = y4) (hf4 : 0 ≤ y4 ∧ y4 ≤ 23) (x5 : Int32) (y5 : Int) (hx5 : x5.toInt = y5) (x6 : Int32) (y6 : Int) (hx6 : x6.toInt = y6) (hf6 : 0 ≤ y6 ∧ y6 ≤ 8) (hc2_0 : 1 ≤ (Gi g 2 0).toInt ∧ (Gi g 2 0).toInt ≤ 24), (24 - y4) * 12 + 0 + (8 - y6) * 1 + 0 < (n : Int) → LW 45 (d + 5) 0 0 18 [some (.ref 2), some (.ref 354), some (.int x2), some (.int x3), some (.int x4), some (.int x5), some (.int x6)] [] g (fun v g' => ∃ r : Int32, v = some (.int r) ∧ 0 ≤ r.toInt ∧ r.toInt ≤ 1 ∧ g = g')) : LW 45 (d + 5) 0 0 3 [some (.ref 2), some (.ref 354), some (.int x2), some (.int x3), some (.int x4), o5, o6] [] g (fun v g' => ∃ r : Int32, v = some (.int r) ∧ 0 ≤ r.toInt ∧ r.toInt ≤ 1 ∧ g = g') := by
  refine X_iload rfl rfl rfl ?_
  refine X_aload_n rfl rfl rfl rfl ?_
  refine S_getI rfl rfl rfl ((congrFun V.1 2).trans s_2) rfl (fun vz1 evz1 => ?_)
  have vf2 := K_10_0 (V.2.2.2.2.1 (2) (0) (Nat.le_of_ble_eq_true rfl)) rk_2
  rw [evz1] at vf2
  refine S_icmp_ge (tgt := 91) rfl rfl rfl hx4 rfl (fun vh3 => ?_) (fun vh3 => ?_)
  · refine X_iconst (v := (0 : Int32)) rfl rfl rfl ?_
    exact LW_ireturn (st := []) rfl rfl rfl ⟨_, rfl, by decide, by decide, rfl⟩
  · refine X_iconst (v := (0 : Int32)) rfl rfl rfl ?_
    refine X_istore (i := 5) (ls' := [some (.ref 2), some (.ref 354), some (.int x2), some (.int x3), some (.int x4), some (.int (0 : Int32)), o6]) rfl rfl (Nat.le_of_ble_eq_true rfl) rfl ?_
    refine X_iconst (v := (0 : Int32)) rfl rfl rfl ?_
    refine X_istore (i := 6) (ls' := [some (.ref 2), some (.ref 354), some (.int x2), some (.int x3), some (.int x4), some (.int (0 : Int32)), some (.int (0 : Int32))]) rfl rfl (Nat.le_of_ble_eq_true rfl) rfl ?_
    exact ih18 V x2 y2 hx2 (by omega) x3 y3 hx3 (by omega) x4 y4 hx4 (by omega) (0 : Int32) 0 (show (0 : Int32).toInt = 0 from rfl) (0 : Int32) 0 (show (0 : Int32).toInt = 0 from rfl) (by omega) (by rw [evz1]; omega)   (by omega)
set_option maxRecDepth 10000 in
set_option maxHeartbeats 40000000 in
theorem C_X5_isTold_2_354_18 {P : Par} {g : LH} {d n : Nat}  (V : Inv P g) (x2 : Int32) (y2 : Int) (hx2 : x2.toInt = y2) (hf2 : 0 ≤ y2 ∧ y2 ≤ 0) (x3 : Int32) (y3 : Int) (hx3 : x3.toInt = y3) (hf3 : 1 ≤ y3 ∧ y3 ≤ 8) (x4 : Int32) (y4 : Int) (hx4 : x4.toInt = y4) (hf4 : 0 ≤ y4 ∧ y4 ≤ 23) (x5 : Int32) (y5 : Int) (hx5 : x5.toInt = y5) (x6 : Int32) (y6 : Int) (hx6 : x6.toInt = y6) (hf6 : 0 ≤ y6 ∧ y6 ≤ 8) (hc2_0 : 1 ≤ (Gi g 2 0).toInt ∧ (Gi g 2 0).toInt ≤ 24) (hmu : (24 - y4) * 12 + 0 + (8 - y6) * 1 + 0 < (n : Int) + 1) (ih3 : ∀ (V : Inv P g) (x2 : Int32) (y2 : Int) (hx2 : x2.toInt = y2) (hf2 : 0 ≤ y2 ∧ y2 ≤ 0) (x3 : Int32) (y3 : Int) (hx3 : x3.toInt = y3) (hf3 : 1 ≤ y3 ∧ y3 ≤ 8) (x4 : Int32) (y4 : Int) (hx4 : x4.toInt = y4) (hf4 : 0 ≤ y4 ∧ y4 ≤ 24) (o5 : Option Value) (o6 : Option Value) , (24 - y4) * 12 + 11 < (n : Int) → LW 45 (d + 5) 0 0 3 [some (.ref 2), some (.ref 354), some (.int x2), some (.int x3), some (.int x4), o5, o6] [] g (fun v g' => ∃ r : Int32, v = some (.int r) ∧ 0 ≤ r.toInt ∧ r.toInt ≤ 1 ∧ g = g')) (ih18 : ∀ (V : Inv P g) (x2 : Int32) (y2 : Int) (hx2 : x2.toInt = y2) (hf2 : 0 ≤ y2 ∧ y2 ≤ 0) (x3 : Int32) (y3 : Int) (hx3 : x3.toInt = y3) (hf3 : 1 ≤ y3 ∧ y3 ≤ 8) (x4 : Int32) (y4 : Int) (hx4 : x4.toInt = y4) (hf4 : 0 ≤ y4 ∧ y4 ≤ 23) (x5 : Int32) (y5 : Int) (hx5 : x5.toInt = y5) (x6 : Int32) (y6 : Int) (hx6 : x6.toInt = y6) (hf6 : 0 ≤ y6 ∧ y6 ≤ 8) (hc2_0 : 1 ≤ (Gi g 2 0).toInt ∧ (Gi g 2 0).toInt ≤ 24), (24 - y4) * 12 + 0 + (8 - y6) * 1 + 0 < (n : Int) → LW 45 (d + 5) 0 0 18 [some (.ref 2), some (.ref 354), some (.int x2), some (.int x3), some (.int x4), some (.int x5), some (.int x6)] [] g (fun v g' => ∃ r : Int32, v = some (.int r) ∧ 0 ≤ r.toInt ∧ r.toInt ≤ 1 ∧ g = g')) : LW 45 (d + 5) 0 0 18 [some (.ref 2), some (.ref 354), some (.int x2), some (.int x3), some (.int x4), some (.int x5), some (.int x6)] [] g (fun v g' => ∃ r : Int32, v = some (.int r) ∧ 0 ≤ r.toInt ∧ r.toInt ≤ 1 ∧ g = g') := by
  obtain ⟨vz1, evz1⟩ : ∃ z, Gi g 2 0 = z := ⟨_, rfl⟩
  rw [evz1] at hc2_0
  refine X_iload rfl rfl rfl ?_
  refine X_iload_n rfl rfl rfl rfl ?_
  refine S_icmp_ge (tgt := 66) rfl rfl rfl hx6 hx3 (fun vh2 => ?_) (fun vh2 => ?_)
  · refine X_iload rfl rfl rfl ?_
    refine X_iload_n rfl rfl rfl rfl ?_
    refine S_icmp_ne (tgt := 85) rfl rfl rfl hx5 hx3 (fun vh3 => ?_) (fun vh3 => ?_)
    · refine S_iinc (c := 1) rfl rfl rfl hx4 rfl (by omega) (fun vz4 hvz4 => ?_)
      refine LW_ls (ls' := [some (.ref 2), some (.ref 354), some (.int x2), some (.int x3), some (.int vz4), some (.int x5), some (.int x6)]) rfl ?_
      refine LW_goto (tgt := 3) rfl rfl ?_
      exact ih3 V x2 y2 hx2 (by omega) x3 y3 hx3 (by omega) vz4 vz4.toInt rfl (by omega) (some (.int x5)) (some (.int x6))    (by omega)
    · refine X_aload_n rfl rfl rfl rfl ?_
      refine X_getR (a := 3) rfl rfl rfl ((congrFun V.1 2).trans s_2) rfl ((congrFun (V.2.1 2 (by decide)) 2).trans r_2_2) ?_
      refine X_iload rfl rfl rfl ?_
      refine S_iald rfl rfl ((congrFun V.1 3).trans s_3) hx4 (by omega) (fun vz5 evz5 => ?_)
      have vf6 := K_1 (V.2.2.2.2.1 (3) ((y4 : Int).toNat) (Nat.le_of_ble_eq_true rfl)) rk_3
      rw [evz5] at vf6
      refine X_iload_n rfl rfl rfl rfl ?_
      refine S_icmp_ne (tgt := 85) rfl rfl rfl rfl hx3 (fun vh7 => ?_) (fun vh7 => ?_)
      · refine S_iinc (c := 1) rfl rfl rfl hx4 rfl (by omega) (fun vz8 hvz8 => ?_)
        refine LW_ls (ls' := [some (.ref 2), some (.ref 354), some (.int x2), some (.int x3), some (.int vz8), some (.int x5), some (.int x6)]) rfl ?_
        refine LW_goto (tgt := 3) rfl rfl ?_
        exact ih3 V x2 y2 hx2 (by omega) x3 y3 hx3 (by omega) vz8 vz8.toInt rfl (by omega) (some (.int x5)) (some (.int x6))    (by omega)
      · refine X_iconst (v := (1 : Int32)) rfl rfl rfl ?_
        exact LW_ireturn (st := []) rfl rfl rfl ⟨_, rfl, by decide, by decide, rfl⟩
  · refine X_iload_n rfl rfl rfl rfl ?_
    refine X_iload rfl rfl rfl ?_
    refine S_iadd rfl rfl hx2 hx6 (by omega) (fun vz9 hvz9 => ?_)
    refine X_aload_n rfl rfl rfl rfl ?_
    refine X_alen (t0 := 0) (v := (8 : Int32)) rfl rfl ((congrFun V.1 354).trans s_354) rfl rfl ?_
    refine S_icmp_ge (tgt := 66) rfl rfl rfl rfl (show (8 : Int32).toInt = 8 from rfl) (fun q => absurd q (by omega)) (fun vh10 => ?_)
    refine X_iload rfl rfl rfl ?_
    refine X_aload_n rfl rfl rfl rfl ?_
    refine X_iload rfl rfl rfl ?_
    refine X_iload rfl rfl rfl ?_
    refine X_callV (as := [.int x4, .int x6]) (st := [.int x5]) rfl rfl rfl (by decide) rfl (Nat.le_of_ble_eq_true rfl) (by decide) (Nat.le_of_ble_eq_true rfl) rfl ((congrFun V.1 2).trans s_2) (by decide) ?_
    refine LW_ls (ls' := [some (.ref 2), some (.int x4), some (.int x6)]) rfl ?_
    refine X_aload_n rfl rfl rfl rfl ?_
    refine X_iload_n rfl rfl rfl rfl ?_
    refine X_callV (as := [.int x4]) (st := []) rfl rfl rfl (by decide) rfl (Nat.le_of_ble_eq_true rfl) (by decide) (Nat.le_of_ble_eq_true rfl) rfl ((congrFun V.1 2).trans s_2) (by decide) ?_
    refine LW_ls (ls' := [some (.ref 2), some (.int x4)]) rfl ?_
    refine X_iload_n rfl rfl rfl rfl ?_
    refine S_if_lt (tgt := 22) rfl rfl rfl hx4 (fun q => absurd q (by omega)) (fun vh11 => ?_)
    refine X_iload_n rfl rfl rfl rfl ?_
    refine X_aload_n rfl rfl rfl rfl ?_
    refine X_getI (v := vz1) rfl rfl rfl ((congrFun V.1 2).trans s_2) rfl evz1 ?_
    refine S_icmp_ge (tgt := 22) rfl rfl rfl hx4 rfl (fun vh12 => ?_) (fun vh12 => ?_)
    · refine X_iconst (v := (0 : Int32)) rfl rfl rfl ?_
      refine LW_ireturn (st := []) rfl rfl rfl ?_
      refine S_if_eq (tgt := 36) rfl rfl rfl (show (0 : Int32).toInt = 0 from rfl) (fun vh13 => ?_) (fun q => absurd q (by omega))
      refine X_iconst (v := (-1 : Int32)) rfl rfl rfl ?_
      refine LW_ireturn (st := []) rfl rfl rfl ?_
      refine X_aload_n rfl rfl rfl rfl ?_
      refine X_iload_n rfl rfl rfl rfl ?_
      refine X_iload rfl rfl rfl ?_
      refine S_iadd rfl rfl hx2 hx6 (by omega) (fun vz14 hvz14 => ?_)
      refine S_iald rfl rfl ((congrFun V.1 354).trans s_354) rfl (by omega) (fun vz15 evz15 => ?_)
      have vf16 := K_3 (V.2.2.2.2.1 (354) ((vz14.toInt : Int).toNat) (Nat.le_of_ble_eq_true rfl)) rk_354
      rw [evz15] at vf16
      refine S_icmp_ne (tgt := 56) rfl rfl rfl (show (-1 : Int32).toInt = -1 from rfl) rfl (fun vh17 => ?_) (fun q => absurd q (by omega))
      refine X_iconst (v := (0 : Int32)) rfl rfl rfl ?_
      refine S_iaddT rfl rfl (fun vz18 => ?_)
      refine X_istore (i := 5) (ls' := [some (.ref 2), some (.ref 354), some (.int x2), some (.int x3), some (.int x4), some (.int vz18), some (.int x6)]) rfl rfl (Nat.le_of_ble_eq_true rfl) rfl ?_
      refine S_iinc (c := 1) rfl rfl rfl hx6 rfl (by omega) (fun vz19 hvz19 => ?_)
      refine LW_ls (ls' := [some (.ref 2), some (.ref 354), some (.int x2), some (.int x3), some (.int x4), some (.int vz18), some (.int vz19)]) rfl ?_
      refine LW_goto (tgt := 18) rfl rfl ?_
      exact ih18 V x2 y2 hx2 (by omega) x3 y3 hx3 (by omega) x4 y4 hx4 (by omega) vz18 vz18.toInt rfl vz19 vz19.toInt rfl (by omega) (by rw [evz1]; omega)   (by omega)
    · refine X_iload_n rfl rfl rfl rfl ?_
      refine X_bipush (v := (24 : Int32)) rfl rfl rfl ?_
      refine S_icmp_ge (tgt := 22) rfl rfl rfl hx4 (show (24 : Int32).toInt = 24 from rfl) (fun q => absurd q (by omega)) (fun vh20 => ?_)
      refine X_iconst (v := (1 : Int32)) rfl rfl rfl ?_
      refine LW_goto (tgt := 23) rfl rfl ?_
      refine LW_ireturn (st := []) rfl rfl rfl ?_
      refine S_if_eq (tgt := 36) rfl rfl rfl (show (1 : Int32).toInt = 1 from rfl) (fun q => absurd q (by omega)) (fun vh21 => ?_)
      refine X_iload_n rfl rfl rfl rfl ?_
      refine S_if_lt (tgt := 36) rfl rfl rfl hx6 (fun q => absurd q (by omega)) (fun vh22 => ?_)
      refine X_iload_n rfl rfl rfl rfl ?_
      refine X_aload_n rfl rfl rfl rfl ?_
      refine X_getR (a := 3) rfl rfl rfl ((congrFun V.1 2).trans s_2) rfl ((congrFun (V.2.1 2 (by decide)) 2).trans r_2_2) ?_
      refine X_iload_n rfl rfl rfl rfl ?_
      refine S_iald rfl rfl ((congrFun V.1 3).trans s_3) hx4 (by omega) (fun vz23 evz23 => ?_)
      have vf24 := K_1 (V.2.2.2.2.1 (3) ((y4 : Int).toNat) (Nat.le_of_ble_eq_true rfl)) rk_3
      rw [evz23] at vf24
      refine S_icmp_ge (tgt := 36) rfl rfl rfl hx6 rfl (fun vh25 => ?_) (fun vh25 => ?_)
      · refine X_iconst (v := (-1 : Int32)) rfl rfl rfl ?_
        refine LW_ireturn (st := []) rfl rfl rfl ?_
        refine X_aload_n rfl rfl rfl rfl ?_
        refine X_iload_n rfl rfl rfl rfl ?_
        refine X_iload rfl rfl rfl ?_
        refine S_iadd rfl rfl hx2 hx6 (by omega) (fun vz26 hvz26 => ?_)
        refine S_iald rfl rfl ((congrFun V.1 354).trans s_354) rfl (by omega) (fun vz27 evz27 => ?_)
        have vf28 := K_3 (V.2.2.2.2.1 (354) ((vz26.toInt : Int).toNat) (Nat.le_of_ble_eq_true rfl)) rk_354
        rw [evz27] at vf28
        refine S_icmp_ne (tgt := 56) rfl rfl rfl (show (-1 : Int32).toInt = -1 from rfl) rfl (fun vh29 => ?_) (fun q => absurd q (by omega))
        refine X_iconst (v := (0 : Int32)) rfl rfl rfl ?_
        refine S_iaddT rfl rfl (fun vz30 => ?_)
        refine X_istore (i := 5) (ls' := [some (.ref 2), some (.ref 354), some (.int x2), some (.int x3), some (.int x4), some (.int vz30), some (.int x6)]) rfl rfl (Nat.le_of_ble_eq_true rfl) rfl ?_
        refine S_iinc (c := 1) rfl rfl rfl hx6 rfl (by omega) (fun vz31 hvz31 => ?_)
        refine LW_ls (ls' := [some (.ref 2), some (.ref 354), some (.int x2), some (.int x3), some (.int x4), some (.int vz30), some (.int vz31)]) rfl ?_
        refine LW_goto (tgt := 18) rfl rfl ?_
        exact ih18 V x2 y2 hx2 (by omega) x3 y3 hx3 (by omega) x4 y4 hx4 (by omega) vz30 vz30.toInt rfl vz31 vz31.toInt rfl (by omega) (by rw [evz1]; omega)   (by omega)
      · refine X_aload_n rfl rfl rfl rfl ?_
        refine X_getR (a := 6) rfl rfl rfl ((congrFun V.1 2).trans s_2) rfl ((congrFun (V.2.1 2 (by decide)) 5).trans r_2_5) ?_
        refine X_iload_n rfl rfl rfl rfl ?_
        refine X_bipush (v := (8 : Int32)) rfl rfl rfl ?_
        refine S_imul rfl rfl hx4 (show (8 : Int32).toInt = 8 from rfl) (by omega) (fun vz32 hvz32 => ?_)
        refine X_iload_n rfl rfl rfl rfl ?_
        refine S_iadd rfl rfl rfl hx6 (by omega) (fun vz33 hvz33 => ?_)
        refine S_iald rfl rfl ((congrFun V.1 6).trans s_6) rfl (by omega) (fun vz34 evz34 => ?_)
        have vf35 := K_3 (V.2.2.2.2.1 (6) ((vz33.toInt : Int).toNat) (Nat.le_of_ble_eq_true rfl)) rk_6
        rw [evz34] at vf35
        refine LW_goto (tgt := 37) rfl rfl ?_
        refine LW_ireturn (st := []) rfl rfl rfl ?_
        refine X_aload_n rfl rfl rfl rfl ?_
        refine X_iload_n rfl rfl rfl rfl ?_
        refine X_iload rfl rfl rfl ?_
        refine S_iadd rfl rfl hx2 hx6 (by omega) (fun vz36 hvz36 => ?_)
        refine S_iald rfl rfl ((congrFun V.1 354).trans s_354) rfl (by omega) (fun vz37 evz37 => ?_)
        have vf38 := K_3 (V.2.2.2.2.1 (354) ((vz36.toInt : Int).toNat) (Nat.le_of_ble_eq_true rfl)) rk_354
        rw [evz37] at vf38
        refine S_icmp_ne (tgt := 56) rfl rfl rfl rfl rfl (fun vh39 => ?_) (fun vh39 => ?_)
        · refine X_iconst (v := (0 : Int32)) rfl rfl rfl ?_
          refine S_iaddT rfl rfl (fun vz40 => ?_)
          refine X_istore (i := 5) (ls' := [some (.ref 2), some (.ref 354), some (.int x2), some (.int x3), some (.int x4), some (.int vz40), some (.int x6)]) rfl rfl (Nat.le_of_ble_eq_true rfl) rfl ?_
          refine S_iinc (c := 1) rfl rfl rfl hx6 rfl (by omega) (fun vz41 hvz41 => ?_)
          refine LW_ls (ls' := [some (.ref 2), some (.ref 354), some (.int x2), some (.int x3), some (.int x4), some (.int vz40), some (.int vz41)]) rfl ?_
          refine LW_goto (tgt := 18) rfl rfl ?_
          exact ih18 V x2 y2 hx2 (by omega) x3 y3 hx3 (by omega) x4 y4 hx4 (by omega) vz40 vz40.toInt rfl vz41 vz41.toInt rfl (by omega) (by rw [evz1]; omega)   (by omega)
        · refine X_iconst (v := (1 : Int32)) rfl rfl rfl ?_
          refine LW_goto (tgt := 57) rfl rfl ?_
          refine S_iaddT rfl rfl (fun vz42 => ?_)
          refine X_istore (i := 5) (ls' := [some (.ref 2), some (.ref 354), some (.int x2), some (.int x3), some (.int x4), some (.int vz42), some (.int x6)]) rfl rfl (Nat.le_of_ble_eq_true rfl) rfl ?_
          refine S_iinc (c := 1) rfl rfl rfl hx6 rfl (by omega) (fun vz43 hvz43 => ?_)
          refine LW_ls (ls' := [some (.ref 2), some (.ref 354), some (.int x2), some (.int x3), some (.int x4), some (.int vz42), some (.int vz43)]) rfl ?_
          refine LW_goto (tgt := 18) rfl rfl ?_
          exact ih18 V x2 y2 hx2 (by omega) x3 y3 hx3 (by omega) x4 y4 hx4 (by omega) vz42 vz42.toInt rfl vz43 vz43.toInt rfl (by omega) (by rw [evz1]; omega)   (by omega)
theorem C_X5_isTold_2_354_all {P : Par} {g : LH} {d : Nat}  : ∀ n : Nat, (∀ (V : Inv P g) (x2 : Int32) (y2 : Int) (hx2 : x2.toInt = y2) (hf2 : 0 ≤ y2 ∧ y2 ≤ 0) (x3 : Int32) (y3 : Int) (hx3 : x3.toInt = y3) (hf3 : 1 ≤ y3 ∧ y3 ≤ 8) (x4 : Int32) (y4 : Int) (hx4 : x4.toInt = y4) (hf4 : 0 ≤ y4 ∧ y4 ≤ 24) (o5 : Option Value) (o6 : Option Value) , (24 - y4) * 12 + 11 < (n : Int) → LW 45 (d + 5) 0 0 3 [some (.ref 2), some (.ref 354), some (.int x2), some (.int x3), some (.int x4), o5, o6] [] g (fun v g' => ∃ r : Int32, v = some (.int r) ∧ 0 ≤ r.toInt ∧ r.toInt ≤ 1 ∧ g = g')) ∧ (∀ (V : Inv P g) (x2 : Int32) (y2 : Int) (hx2 : x2.toInt = y2) (hf2 : 0 ≤ y2 ∧ y2 ≤ 0) (x3 : Int32) (y3 : Int) (hx3 : x3.toInt = y3) (hf3 : 1 ≤ y3 ∧ y3 ≤ 8) (x4 : Int32) (y4 : Int) (hx4 : x4.toInt = y4) (hf4 : 0 ≤ y4 ∧ y4 ≤ 23) (x5 : Int32) (y5 : Int) (hx5 : x5.toInt = y5) (x6 : Int32) (y6 : Int) (hx6 : x6.toInt = y6) (hf6 : 0 ≤ y6 ∧ y6 ≤ 8) (hc2_0 : 1 ≤ (Gi g 2 0).toInt ∧ (Gi g 2 0).toInt ≤ 24), (24 - y4) * 12 + 0 + (8 - y6) * 1 + 0 < (n : Int) → LW 45 (d + 5) 0 0 18 [some (.ref 2), some (.ref 354), some (.int x2), some (.int x3), some (.int x4), some (.int x5), some (.int x6)] [] g (fun v g' => ∃ r : Int32, v = some (.int r) ∧ 0 ≤ r.toInt ∧ r.toInt ≤ 1 ∧ g = g')) := by
  intro n
  induction n with
  | zero => exact ⟨fun V x2 y2 hx2 hf2 x3 y3 hx3 hf3 x4 y4 hx4 hf4 o5 o6 hmu => absurd hmu (by omega), fun V x2 y2 hx2 hf2 x3 y3 hx3 hf3 x4 y4 hx4 hf4 x5 y5 hx5 x6 y6 hx6 hf6 hc2_0 hmu => absurd hmu (by omega)⟩
  | succ n ih => exact ⟨fun V x2 y2 hx2 hf2 x3 y3 hx3 hf3 x4 y4 hx4 hf4 o5 o6 hmu => C_X5_isTold_2_354_3  V x2 y2 hx2 hf2 x3 y3 hx3 hf3 x4 y4 hx4 hf4 o5 o6 (by omega) ih.1 ih.2, fun V x2 y2 hx2 hf2 x3 y3 hx3 hf3 x4 y4 hx4 hf4 x5 y5 hx5 x6 y6 hx6 hf6 hc2_0 hmu => C_X5_isTold_2_354_18  V x2 y2 hx2 hf2 x3 y3 hx3 hf3 x4 y4 hx4 hf4 x5 y5 hx5 x6 y6 hx6 hf6 hc2_0 (by omega) ih.1 ih.2⟩
set_option maxRecDepth 10000 in
set_option maxHeartbeats 40000000 in
theorem C_X5_isTold_2_354 {P : Par} {g : LH} {d : Nat}  (V : Inv P g) (x2 : Int32) (y2 : Int) (hx2 : x2.toInt = y2) (hf2 : 0 ≤ y2 ∧ y2 ≤ 0) (x3 : Int32) (y3 : Int) (hx3 : x3.toInt = y3) (hf3 : 1 ≤ y3 ∧ y3 ≤ 8)   : LW 45 (d + 5) 0 0 0 (lEnt (mL 45) [.ref 2, .ref 354, .int x2, .int x3]) [] g (fun v g' => ∃ r : Int32, v = some (.int r) ∧ 0 ≤ r.toInt ∧ r.toInt ≤ 1 ∧ g = g') := by
  refine LW_ls (ls' := [some (.ref 2), some (.ref 354), some (.int x2), some (.int x3), none, none, none]) rfl ?_
  refine X_iconst (v := (0 : Int32)) rfl rfl rfl ?_
  refine X_istore (i := 4) (ls' := [some (.ref 2), some (.ref 354), some (.int x2), some (.int x3), some (.int (0 : Int32)), none, none]) rfl rfl (Nat.le_of_ble_eq_true rfl) rfl ?_
  exact (C_X5_isTold_2_354_all (((24 - 0) * 12 + 11) + 1 : Int).toNat).1 V x2 y2 hx2 (by omega) x3 y3 hx3 (by omega) (0 : Int32) 0 (show (0 : Int32).toInt = 0 from rfl) (by omega) none none    (by omega)
set_option maxRecDepth 10000 in
set_option maxHeartbeats 40000000 in
theorem C_X5_tellWord_2_354_66 {P : Par} {g g0 : LH} {d n : Nat}  (V : Inv P g) (hG : Gr g = Gr g0) (x2 : Int32) (y2 : Int) (hx2 : x2.toInt = y2) (hf2 : 0 ≤ y2 ∧ y2 ≤ 0) (x3 : Int32) (y3 : Int) (hx3 : x3.toInt = y3) (hf3 : 1 ≤ y3 ∧ y3 ≤ 8) (x4 : Int32) (y4 : Int) (hx4 : x4.toInt = y4) (hf4 : 0 ≤ y4 ∧ y4 ≤ 9) (x5 : Int32) (y5 : Int) (hx5 : x5.toInt = y5) (x6 : Int32) (y6 : Int) (hx6 : x6.toInt = y6) (hf6 : 0 ≤ y6 ∧ y6 ≤ 8) (hc2_0 : 0 ≤ (Gi g 2 0).toInt ∧ (Gi g 2 0).toInt ≤ 23) (hmu : (8 - y6) * 1 + 0 < (n : Int) + 1) (ih66 : ∀ (g : LH) (V : Inv P g) (hG : Gr g = Gr g0) (x2 : Int32) (y2 : Int) (hx2 : x2.toInt = y2) (hf2 : 0 ≤ y2 ∧ y2 ≤ 0) (x3 : Int32) (y3 : Int) (hx3 : x3.toInt = y3) (hf3 : 1 ≤ y3 ∧ y3 ≤ 8) (x4 : Int32) (y4 : Int) (hx4 : x4.toInt = y4) (hf4 : 0 ≤ y4 ∧ y4 ≤ 9) (x5 : Int32) (y5 : Int) (hx5 : x5.toInt = y5) (x6 : Int32) (y6 : Int) (hx6 : x6.toInt = y6) (hf6 : 0 ≤ y6 ∧ y6 ≤ 8) (hc2_0 : 0 ≤ (Gi g 2 0).toInt ∧ (Gi g 2 0).toInt ≤ 23), (8 - y6) * 1 + 0 < (n : Int) → LW 44 (d + 9) 0 0 66 [some (.ref 2), some (.ref 354), some (.int x2), some (.int x3), some (.int x4), some (.int x5), some (.int x6)] [] g (fun v g' => ∃ r : Int32, v = some (.int r) ∧ (-1) ≤ r.toInt ∧ r.toInt ≤ 23 ∧ Inv P g' ∧ Gr g' = Gr g0)) : LW 44 (d + 9) 0 0 66 [some (.ref 2), some (.ref 354), some (.int x2), some (.int x3), some (.int x4), some (.int x5), some (.int x6)] [] g (fun v g' => ∃ r : Int32, v = some (.int r) ∧ (-1) ≤ r.toInt ∧ r.toInt ≤ 23 ∧ Inv P g' ∧ Gr g' = Gr g0) := by
  obtain ⟨vz1, evz1⟩ : ∃ z, Gi g 2 0 = z := ⟨_, rfl⟩
  rw [evz1] at hc2_0
  refine X_iload rfl rfl rfl ?_
  refine X_iload_n rfl rfl rfl rfl ?_
  refine S_icmp_ge (tgt := 112) rfl rfl rfl hx6 hx3 (fun vh2 => ?_) (fun vh2 => ?_)
  · refine X_aload_n rfl rfl rfl rfl ?_
    refine X_getR (a := 3) rfl rfl rfl ((congrFun V.1 2).trans s_2) rfl ((congrFun (V.2.1 2 (by decide)) 2).trans r_2_2) ?_
    refine X_aload_n rfl rfl rfl rfl ?_
    refine X_getI (v := vz1) rfl rfl rfl ((congrFun V.1 2).trans s_2) rfl evz1 ?_
    refine X_iload_n rfl rfl rfl rfl ?_
    refine S_iast (I := Inv _) rfl rfl ((congrFun V.1 3).trans s_3) rfl (by omega) (Inv_putI V (Nat.le_of_ble_eq_true rfl) (Or.inl (by decide)) (Q_1 rk_3 (by omega))) (fun g V ve3 vn4 hq => ?_)
    have hG := hq.trans hG
    have evz1 := (vn4 (2) 0 (Or.inl (by decide))).trans evz1
    refine X_aload_n rfl rfl rfl rfl ?_
    refine X_getR (a := 4) rfl rfl rfl ((congrFun V.1 2).trans s_2) rfl ((congrFun (V.2.1 2 (by decide)) 3).trans r_2_3) ?_
    refine X_aload_n rfl rfl rfl rfl ?_
    refine X_getI (v := vz1) rfl rfl rfl ((congrFun V.1 2).trans s_2) rfl evz1 ?_
    refine X_iload rfl rfl rfl ?_
    refine S_iast (I := Inv _) rfl rfl ((congrFun V.1 4).trans s_4) rfl (by omega) (Inv_putI V (Nat.le_of_ble_eq_true rfl) (Or.inl (by decide)) (Q_2 rk_4 (by omega))) (fun g V ve5 vn6 hq => ?_)
    have hG := hq.trans hG
    have evz1 := (vn6 (2) 0 (Or.inl (by decide))).trans evz1
    refine X_aload_n rfl rfl rfl rfl ?_
    refine X_getR (a := 5) rfl rfl rfl ((congrFun V.1 2).trans s_2) rfl ((congrFun (V.2.1 2 (by decide)) 4).trans r_2_4) ?_
    refine X_aload_n rfl rfl rfl rfl ?_
    refine X_getI (v := vz1) rfl rfl rfl ((congrFun V.1 2).trans s_2) rfl evz1 ?_
    refine X_iload rfl rfl rfl ?_
    refine S_iast (I := Inv _) rfl rfl ((congrFun V.1 5).trans s_5) rfl (by omega) (Inv_putI V (Nat.le_of_ble_eq_true rfl) (Or.inl (by decide)) (Q_0 rk_5)) (fun g V ve7 vn8 hq => ?_)
    have hG := hq.trans hG
    have evz1 := (vn8 (2) 0 (Or.inl (by decide))).trans evz1
    refine X_aload_n rfl rfl rfl rfl ?_
    refine X_dup rfl rfl rfl ?_
    refine X_getI (v := vz1) rfl rfl rfl ((congrFun V.1 2).trans s_2) rfl evz1 ?_
    refine X_iconst (v := (1 : Int32)) rfl rfl rfl ?_
    refine S_iadd rfl rfl rfl (show (1 : Int32).toInt = 1 from rfl) (by omega) (fun vz9 hvz9 => ?_)
    refine S_putI (I := Inv _) rfl rfl rfl ((congrFun V.1 2).trans s_2) rfl rfl rfl rfl (Inv_putI V (Nat.le_of_ble_eq_true rfl) (Or.inl (by decide)) (Q_10_0 rk_2 (by omega))) (fun g V ve10 vn11 hq => ?_)
    have hG := hq.trans hG
    refine X_aload_n rfl rfl rfl rfl ?_
    refine X_getI (v := vz9) rfl rfl rfl ((congrFun V.1 2).trans s_2) rfl ve10 ?_
    refine X_iconst (v := (1 : Int32)) rfl rfl rfl ?_
    refine S_isub rfl rfl rfl (show (1 : Int32).toInt = 1 from rfl) (by omega) (fun vz12 hvz12 => ?_)
    have hr := (rfl : vz12.toInt = vz12.toInt)
    exact LW_ireturn (st := []) rfl rfl rfl ⟨_, rfl, by omega, by omega, V, hG⟩
  · refine X_aload_n rfl rfl rfl rfl ?_
    refine X_getR (a := 6) rfl rfl rfl ((congrFun V.1 2).trans s_2) rfl ((congrFun (V.2.1 2 (by decide)) 5).trans r_2_5) ?_
    refine X_aload_n rfl rfl rfl rfl ?_
    refine X_getI (v := vz1) rfl rfl rfl ((congrFun V.1 2).trans s_2) rfl evz1 ?_
    refine X_bipush (v := (8 : Int32)) rfl rfl rfl ?_
    refine S_imul rfl rfl rfl (show (8 : Int32).toInt = 8 from rfl) (by omega) (fun vz13 hvz13 => ?_)
    refine X_iload rfl rfl rfl ?_
    refine S_iadd rfl rfl rfl hx6 (by omega) (fun vz14 hvz14 => ?_)
    refine X_aload_n rfl rfl rfl rfl ?_
    refine X_iload_n rfl rfl rfl rfl ?_
    refine X_iload rfl rfl rfl ?_
    refine S_iadd rfl rfl hx2 hx6 (by omega) (fun vz15 hvz15 => ?_)
    refine S_iald rfl rfl ((congrFun V.1 354).trans s_354) rfl (by omega) (fun vz16 evz16 => ?_)
    have vf17 := K_3 (V.2.2.2.2.1 (354) ((vz15.toInt : Int).toNat) (Nat.le_of_ble_eq_true rfl)) rk_354
    rw [evz16] at vf17
    refine S_iast (I := Inv _) rfl rfl ((congrFun V.1 6).trans s_6) rfl (by omega) (Inv_putI V (Nat.le_of_ble_eq_true rfl) (Or.inl (by decide)) (Q_3 rk_6 (by omega))) (fun g V ve18 vn19 hq => ?_)
    have hG := hq.trans hG
    have evz1 := (vn19 (2) 0 (Or.inl (by decide))).trans evz1
    have evz16 := (vn19 (354) ((vz15.toInt : Int).toNat) (Or.inl (by decide))).trans evz16
    refine X_iload rfl rfl rfl ?_
    refine X_iconst (v := (1 : Int32)) rfl rfl rfl ?_
    refine X_aload_n rfl rfl rfl rfl ?_
    refine X_iload_n rfl rfl rfl rfl ?_
    refine X_iload rfl rfl rfl ?_
    refine S_iadd rfl rfl hx2 hx6 (by omega) (fun vz20 hvz20 => ?_)
    refine S_iald rfl rfl ((congrFun V.1 354).trans s_354) rfl (by omega) (fun vz21 evz21 => ?_)
    have vf22 := K_3 (V.2.2.2.2.1 (354) ((vz20.toInt : Int).toNat) (Nat.le_of_ble_eq_true rfl)) rk_354
    rw [evz21] at vf22
    refine S_ishlT rfl rfl (fun vz23 => ?_)
    refine S_iorT rfl rfl (fun vz24 => ?_)
    refine X_istore (i := 5) (ls' := [some (.ref 2), some (.ref 354), some (.int x2), some (.int x3), some (.int x4), some (.int vz24), some (.int x6)]) rfl rfl (Nat.le_of_ble_eq_true rfl) rfl ?_
    refine S_iinc (c := 1) rfl rfl rfl hx6 rfl (by omega) (fun vz25 hvz25 => ?_)
    refine LW_ls (ls' := [some (.ref 2), some (.ref 354), some (.int x2), some (.int x3), some (.int x4), some (.int vz24), some (.int vz25)]) rfl ?_
    refine LW_goto (tgt := 66) rfl rfl ?_
    exact ih66 _ V hG x2 y2 hx2 (by omega) x3 y3 hx3 (by omega) x4 y4 hx4 (by omega) vz24 vz24.toInt rfl vz25 vz25.toInt rfl (by omega) (by rw [evz1]; omega)   (by omega)
theorem C_X5_tellWord_2_354_all {P : Par} {g0 : LH} {d : Nat}  : ∀ n : Nat, (∀ (g : LH) (V : Inv P g) (hG : Gr g = Gr g0) (x2 : Int32) (y2 : Int) (hx2 : x2.toInt = y2) (hf2 : 0 ≤ y2 ∧ y2 ≤ 0) (x3 : Int32) (y3 : Int) (hx3 : x3.toInt = y3) (hf3 : 1 ≤ y3 ∧ y3 ≤ 8) (x4 : Int32) (y4 : Int) (hx4 : x4.toInt = y4) (hf4 : 0 ≤ y4 ∧ y4 ≤ 9) (x5 : Int32) (y5 : Int) (hx5 : x5.toInt = y5) (x6 : Int32) (y6 : Int) (hx6 : x6.toInt = y6) (hf6 : 0 ≤ y6 ∧ y6 ≤ 8) (hc2_0 : 0 ≤ (Gi g 2 0).toInt ∧ (Gi g 2 0).toInt ≤ 23), (8 - y6) * 1 + 0 < (n : Int) → LW 44 (d + 9) 0 0 66 [some (.ref 2), some (.ref 354), some (.int x2), some (.int x3), some (.int x4), some (.int x5), some (.int x6)] [] g (fun v g' => ∃ r : Int32, v = some (.int r) ∧ (-1) ≤ r.toInt ∧ r.toInt ≤ 23 ∧ Inv P g' ∧ Gr g' = Gr g0)) := by
  intro n
  induction n with
  | zero => exact fun g V hG x2 y2 hx2 hf2 x3 y3 hx3 hf3 x4 y4 hx4 hf4 x5 y5 hx5 x6 y6 hx6 hf6 hc2_0 hmu => absurd hmu (by omega)
  | succ n ih => exact fun g V hG x2 y2 hx2 hf2 x3 y3 hx3 hf3 x4 y4 hx4 hf4 x5 y5 hx5 x6 y6 hx6 hf6 hc2_0 hmu => C_X5_tellWord_2_354_66  V hG x2 y2 hx2 hf2 x3 y3 hx3 hf3 x4 y4 hx4 hf4 x5 y5 hx5 x6 y6 hx6 hf6 hc2_0 (by omega) ih
set_option maxRecDepth 10000 in
set_option maxHeartbeats 40000000 in
theorem C_X5_tellWord_2_354 {P : Par} {g : LH} {d : Nat}  (V : Inv P g) (x2 : Int32) (y2 : Int) (hx2 : x2.toInt = y2) (hf2 : 0 ≤ y2 ∧ y2 ≤ 0) (x3 : Int32) (y3 : Int) (hx3 : x3.toInt = y3) (hf3 : 0 ≤ y3 ∧ y3 ≤ 8) (x4 : Int32) (y4 : Int) (hx4 : x4.toInt = y4)   : LW 44 (d + 9) 0 0 0 (lEnt (mL 44) [.ref 2, .ref 354, .int x2, .int x3, .int x4]) [] g (fun v g' => ∃ r : Int32, v = some (.int r) ∧ (-1) ≤ r.toInt ∧ r.toInt ≤ 23 ∧ Inv P g' ∧ Gr g' = Gr g) := by
  refine LW_ls (ls' := [some (.ref 2), some (.ref 354), some (.int x2), some (.int x3), some (.int x4), none, none]) rfl ?_
  have hG : Gr g = Gr g := rfl
  refine X_iload_n rfl rfl rfl rfl ?_
  refine X_iconst (v := (1 : Int32)) rfl rfl rfl ?_
  refine S_icmp_lt (tgt := 23) rfl rfl rfl hx3 (show (1 : Int32).toInt = 1 from rfl) (fun vh1 => ?_) (fun vh1 => ?_)
  · refine X_iconst (v := (-1 : Int32)) rfl rfl rfl ?_
    exact LW_ireturn (st := []) rfl rfl rfl ⟨_, rfl, by decide, by decide, V, hG⟩
  · refine X_iload_n rfl rfl rfl rfl ?_
    refine X_bipush (v := (8 : Int32)) rfl rfl rfl ?_
    refine S_icmp_gt (tgt := 23) rfl rfl rfl hx3 (show (8 : Int32).toInt = 8 from rfl) (fun q => absurd q (by omega)) (fun vh2 => ?_)
    refine X_iload_n rfl rfl rfl rfl ?_
    refine S_if_lt (tgt := 23) rfl rfl rfl hx2 (fun q => absurd q (by omega)) (fun vh3 => ?_)
    refine X_iload_n rfl rfl rfl rfl ?_
    refine X_iload_n rfl rfl rfl rfl ?_
    refine S_iadd rfl rfl hx2 hx3 (by omega) (fun vz4 hvz4 => ?_)
    refine X_aload_n rfl rfl rfl rfl ?_
    refine X_alen (t0 := 0) (v := (8 : Int32)) rfl rfl ((congrFun V.1 354).trans s_354) rfl rfl ?_
    refine S_icmp_le (tgt := 25) rfl rfl rfl rfl (show (8 : Int32).toInt = 8 from rfl) (fun vh5 => ?_) (fun q => absurd q (by omega))
    refine X_iload rfl rfl rfl ?_
    refine S_if_lt (tgt := 46) rfl rfl rfl hx4 (fun vh6 => ?_) (fun vh6 => ?_)
    · refine X_iconst (v := (-1 : Int32)) rfl rfl rfl ?_
      exact LW_ireturn (st := []) rfl rfl rfl ⟨_, rfl, by decide, by decide, V, hG⟩
    · refine X_iload rfl rfl rfl ?_
      refine X_bipush (v := (9 : Int32)) rfl rfl rfl ?_
      refine S_icmp_gt (tgt := 46) rfl rfl rfl hx4 (show (9 : Int32).toInt = 9 from rfl) (fun vh7 => ?_) (fun vh7 => ?_)
      · refine X_iconst (v := (-1 : Int32)) rfl rfl rfl ?_
        exact LW_ireturn (st := []) rfl rfl rfl ⟨_, rfl, by decide, by decide, V, hG⟩
      · refine X_aload_n rfl rfl rfl rfl ?_
        refine S_getI rfl rfl rfl ((congrFun V.1 2).trans s_2) rfl (fun vz8 evz8 => ?_)
        have vf9 := K_10_0 (V.2.2.2.2.1 (2) (0) (Nat.le_of_ble_eq_true rfl)) rk_2
        rw [evz8] at vf9
        refine X_bipush (v := (24 : Int32)) rfl rfl rfl ?_
        refine S_icmp_lt (tgt := 48) rfl rfl rfl rfl (show (24 : Int32).toInt = 24 from rfl) (fun vh10 => ?_) (fun vh10 => ?_)
        · refine X_aload_n rfl rfl rfl rfl ?_
          refine X_aload_n rfl rfl rfl rfl ?_
          refine X_iload_n rfl rfl rfl rfl ?_
          refine X_iload_n rfl rfl rfl rfl ?_
          refine Y_callV (as := [.ref 354, .int x2, .int x3]) (st := []) rfl rfl rfl (by decide) rfl (Nat.le_of_ble_eq_true rfl) (by decide) (Nat.le_of_ble_eq_true rfl) rfl ((congrFun V.1 2).trans s_2) (by decide) (C_X5_isTold_2_354 V x2 y2 hx2 (by omega) x3 y3 hx3 (by omega) ) ?_
          rintro _ g' ⟨vr11, rfl, hrvr110, hrvr111, hgg⟩
          subst hgg
          refine S_if_eq (tgt := 60) rfl rfl rfl rfl (fun vh12 => ?_) (fun vh12 => ?_)
          · refine X_iconst (v := (0 : Int32)) rfl rfl rfl ?_
            refine X_istore (i := 5) (ls' := [some (.ref 2), some (.ref 354), some (.int x2), some (.int x3), some (.int x4), some (.int (0 : Int32)), none]) rfl rfl (Nat.le_of_ble_eq_true rfl) rfl ?_
            refine X_iconst (v := (0 : Int32)) rfl rfl rfl ?_
            refine X_istore (i := 6) (ls' := [some (.ref 2), some (.ref 354), some (.int x2), some (.int x3), some (.int x4), some (.int (0 : Int32)), some (.int (0 : Int32))]) rfl rfl (Nat.le_of_ble_eq_true rfl) rfl ?_
            exact (C_X5_tellWord_2_354_all (((8 - 0) * 1 + 0) + 1 : Int).toNat) _ V hG x2 y2 hx2 (by omega) x3 y3 hx3 (by omega) x4 y4 hx4 (by omega) (0 : Int32) 0 (show (0 : Int32).toInt = 0 from rfl) (0 : Int32) 0 (show (0 : Int32).toInt = 0 from rfl) (by omega) (by rw [evz8]; omega)   (by omega)
          · refine X_iconst (v := (-1 : Int32)) rfl rfl rfl ?_
            exact LW_ireturn (st := []) rfl rfl rfl ⟨_, rfl, by decide, by decide, V, hG⟩
        · refine X_iconst (v := (-1 : Int32)) rfl rfl rfl ?_
          exact LW_ireturn (st := []) rfl rfl rfl ⟨_, rfl, by decide, by decide, V, hG⟩
set_option maxRecDepth 10000 in
set_option maxHeartbeats 40000000 in
theorem C_X12_word_9 {P : Par} {g g0 : LH} {d n : Nat}  (V : Inv P g) (hG : Gr g = Gr g0) (x1 : Int32) (y1 : Int) (hx1 : x1.toInt = y1) (x2 : Int32) (y2 : Int) (hx2 : x2.toInt = y2) (x3 : Int32) (y3 : Int) (hx3 : x3.toInt = y3) (x4 : Int32) (y4 : Int) (hx4 : x4.toInt = y4) (hf4 : 0 ≤ y4 ∧ y4 ≤ 8) (x5 : Int32) (y5 : Int) (hx5 : x5.toInt = y5) (hf5 : 0 ≤ y5 ∧ y5 ≤ 1) (x6 : Int32) (y6 : Int) (hx6 : x6.toInt = y6) (hf6 : 0 ≤ y6 ∧ y6 ≤ 8) (o7 : Option Value) (hq0 : y4 ≤ y6) (hmu : (8 - y6) * 1 + 0 < (n : Int) + 1) (ih9 : ∀ (g : LH) (V : Inv P g) (hG : Gr g = Gr g0) (x1 : Int32) (y1 : Int) (hx1 : x1.toInt = y1) (x2 : Int32) (y2 : Int) (hx2 : x2.toInt = y2) (x3 : Int32) (y3 : Int) (hx3 : x3.toInt = y3) (x4 : Int32) (y4 : Int) (hx4 : x4.toInt = y4) (hf4 : 0 ≤ y4 ∧ y4 ≤ 8) (x5 : Int32) (y5 : Int) (hx5 : x5.toInt = y5) (hf5 : 0 ≤ y5 ∧ y5 ≤ 1) (x6 : Int32) (y6 : Int) (hx6 : x6.toInt = y6) (hf6 : 0 ≤ y6 ∧ y6 ≤ 8) (o7 : Option Value) (hq0 : y4 ≤ y6), (8 - y6) * 1 + 0 < (n : Int) → LW 127 (d + 13) 0 0 9 [some (.ref 0), some (.int x1), some (.int x2), some (.int x3), some (.int x4), some (.int x5), some (.int x6), o7] [] g (fun v g' => ∃ r : Int32, v = some (.int r) ∧ (-1) ≤ r.toInt ∧ r.toInt ≤ 23 ∧ Inv P g' ∧ Gr g' = Gr g0)) : LW 127 (d + 13) 0 0 9 [some (.ref 0), some (.int x1), some (.int x2), some (.int x3), some (.int x4), some (.int x5), some (.int x6), o7] [] g (fun v g' => ∃ r : Int32, v = some (.int r) ∧ (-1) ≤ r.toInt ∧ r.toInt ≤ 23 ∧ Inv P g' ∧ Gr g' = Gr g0) := by
  refine X_iload rfl rfl rfl ?_
  refine X_bipush (v := (8 : Int32)) rfl rfl rfl ?_
  refine S_icmp_ge (tgt := 94) rfl rfl rfl hx6 (show (8 : Int32).toInt = 8 from rfl) (fun vh1 => ?_) (fun vh1 => ?_)
  · refine X_aload_n rfl rfl rfl rfl ?_
    refine X_getR (a := 1) rfl rfl rfl ((congrFun V.1 0).trans s_0) rfl ((congrFun (V.2.1 0 (by decide)) 0).trans r_0_0) ?_
    refine X_getR (a := 2) rfl rfl rfl ((congrFun V.1 1).trans s_1) rfl ((congrFun (V.2.1 1 (by decide)) 0).trans r_1_0) ?_
    refine X_aload_n rfl rfl rfl rfl ?_
    refine X_getR (a := 354) rfl rfl rfl ((congrFun V.1 0).trans s_0) rfl ((congrFun (V.2.1 0 (by decide)) 9).trans r_0_9) ?_
    refine X_iconst (v := (0 : Int32)) rfl rfl rfl ?_
    refine X_iload rfl rfl rfl ?_
    refine X_iload_n rfl rfl rfl rfl ?_
    refine Y_callV (as := [.ref 354, .int (0 : Int32), .int x4, .int x3]) (st := []) rfl rfl rfl (by decide) rfl (Nat.le_of_ble_eq_true rfl) (by decide) (Nat.le_of_ble_eq_true rfl) rfl ((congrFun V.1 2).trans s_2) (by decide) (C_X5_tellWord_2_354 V (0 : Int32) 0 (show (0 : Int32).toInt = 0 from rfl) (by omega) x4 y4 hx4 (by omega) x3 y3 hx3 ) ?_
    rintro _ g ⟨vr2, rfl, hrvr20, hrvr21, V, hq⟩
    have hG := hq.trans hG
    have hr := (rfl : vr2.toInt = vr2.toInt)
    exact LW_ireturn (st := []) rfl rfl rfl ⟨_, rfl, by omega, by omega, V, hG⟩
  · refine X_iload rfl rfl rfl ?_
    refine X_iconst (v := (4 : Int32)) rfl rfl rfl ?_
    refine S_icmp_ge (tgt := 26) rfl rfl rfl hx6 (show (4 : Int32).toInt = 4 from rfl) (fun vh3 => ?_) (fun vh3 => ?_)
    · refine X_iload_n rfl rfl rfl rfl ?_
      refine X_bipush (v := (8 : Int32)) rfl rfl rfl ?_
      refine X_iload rfl rfl rfl ?_
      refine X_iconst (v := (4 : Int32)) rfl rfl rfl ?_
      refine S_irem rfl rfl hx6 (show (4 : Int32).toInt = 4 from rfl) (by omega) (by omega) (fun vz4 hvz4 => ?_)
      refine S_imul rfl rfl (show (8 : Int32).toInt = 8 from rfl) rfl (by omega) (fun vz5 hvz5 => ?_)
      refine S_iushrT rfl rfl (fun vz6 => ?_)
      refine X_sipush (v := (255 : Int32)) rfl rfl rfl ?_
      refine S_iandR (k := 8) rfl rfl rfl (fun vz7 hvz7 => ?_)
      refine X_istore (i := 7) (ls' := [some (.ref 0), some (.int x1), some (.int x2), some (.int x3), some (.int x4), some (.int x5), some (.int x6), some (.int vz7)]) rfl rfl (Nat.le_of_ble_eq_true rfl) rfl ?_
      refine X_iload rfl rfl rfl ?_
      refine S_if_ne (tgt := 52) rfl rfl rfl rfl (fun vh8 => ?_) (fun vh8 => ?_)
      · refine X_iload rfl rfl rfl ?_
        refine S_if_ne (tgt := 71) rfl rfl rfl hx5 (fun vh9 => ?_) (fun vh9 => ?_)
        · refine X_iconst (v := (-1 : Int32)) rfl rfl rfl ?_
          exact LW_ireturn (st := []) rfl rfl rfl ⟨_, rfl, by decide, by decide, V, hG⟩
        · refine X_iload rfl rfl rfl ?_
          refine X_bipush (v := (97 : Int32)) rfl rfl rfl ?_
          refine S_icmp_lt (tgt := 71) rfl rfl rfl rfl (show (97 : Int32).toInt = 97 from rfl) (fun vh10 => ?_) (fun vh10 => ?_)
          · refine X_iconst (v := (-1 : Int32)) rfl rfl rfl ?_
            exact LW_ireturn (st := []) rfl rfl rfl ⟨_, rfl, by decide, by decide, V, hG⟩
          · refine X_iload rfl rfl rfl ?_
            refine X_bipush (v := (122 : Int32)) rfl rfl rfl ?_
            refine S_icmp_le (tgt := 73) rfl rfl rfl rfl (show (122 : Int32).toInt = 122 from rfl) (fun vh11 => ?_) (fun vh11 => ?_)
            · refine X_aload_n rfl rfl rfl rfl ?_
              refine X_getR (a := 354) rfl rfl rfl ((congrFun V.1 0).trans s_0) rfl ((congrFun (V.2.1 0 (by decide)) 9).trans r_0_9) ?_
              refine X_iload rfl rfl rfl ?_
              refine X_iload rfl rfl rfl ?_
              refine X_bipush (v := (97 : Int32)) rfl rfl rfl ?_
              refine S_isub rfl rfl rfl (show (97 : Int32).toInt = 97 from rfl) (by omega) (fun vz12 hvz12 => ?_)
              refine S_iast (I := Inv _) rfl rfl ((congrFun V.1 354).trans s_354) hx4 (by omega) (Inv_putI V (Nat.le_of_ble_eq_true rfl) (Or.inl (by decide)) (Q_3 rk_354 (by omega))) (fun g V ve13 vn14 hq => ?_)
              have hG := hq.trans hG
              refine S_iinc (c := 1) rfl rfl rfl hx4 rfl (by omega) (fun vz15 hvz15 => ?_)
              refine LW_ls (ls' := [some (.ref 0), some (.int x1), some (.int x2), some (.int x3), some (.int vz15), some (.int x5), some (.int x6), some (.int vz7)]) rfl ?_
              refine S_iinc (c := 1) rfl rfl rfl hx6 rfl (by omega) (fun vz16 hvz16 => ?_)
              refine LW_ls (ls' := [some (.ref 0), some (.int x1), some (.int x2), some (.int x3), some (.int vz15), some (.int x5), some (.int vz16), some (.int vz7)]) rfl ?_
              refine LW_goto (tgt := 9) rfl rfl ?_
              exact ih9 _ V hG x1 y1 hx1 x2 y2 hx2 x3 y3 hx3 vz15 vz15.toInt rfl (by omega) x5 y5 hx5 (by omega) vz16 vz16.toInt rfl (by omega) (some (.int vz7))  (by omega)  (by omega)
            · refine X_iconst (v := (-1 : Int32)) rfl rfl rfl ?_
              exact LW_ireturn (st := []) rfl rfl rfl ⟨_, rfl, by decide, by decide, V, hG⟩
      · refine X_iconst (v := (1 : Int32)) rfl rfl rfl ?_
        refine X_istore (i := 5) (ls' := [some (.ref 0), some (.int x1), some (.int x2), some (.int x3), some (.int x4), some (.int (1 : Int32)), some (.int x6), some (.int vz7)]) rfl rfl (Nat.le_of_ble_eq_true rfl) rfl ?_
        refine LW_goto (tgt := 88) rfl rfl ?_
        refine S_iinc (c := 1) rfl rfl rfl hx6 rfl (by omega) (fun vz17 hvz17 => ?_)
        refine LW_ls (ls' := [some (.ref 0), some (.int x1), some (.int x2), some (.int x3), some (.int x4), some (.int (1 : Int32)), some (.int vz17), some (.int vz7)]) rfl ?_
        refine LW_goto (tgt := 9) rfl rfl ?_
        exact ih9 _ V hG x1 y1 hx1 x2 y2 hx2 x3 y3 hx3 x4 y4 hx4 (by omega) (1 : Int32) 1 (show (1 : Int32).toInt = 1 from rfl) (by omega) vz17 vz17.toInt rfl (by omega) (some (.int vz7))  (by omega)  (by omega)
    · refine X_iload_n rfl rfl rfl rfl ?_
      refine LW_goto (tgt := 27) rfl rfl ?_
      refine X_bipush (v := (8 : Int32)) rfl rfl rfl ?_
      refine X_iload rfl rfl rfl ?_
      refine X_iconst (v := (4 : Int32)) rfl rfl rfl ?_
      refine S_irem rfl rfl hx6 (show (4 : Int32).toInt = 4 from rfl) (by omega) (by omega) (fun vz18 hvz18 => ?_)
      refine S_imul rfl rfl (show (8 : Int32).toInt = 8 from rfl) rfl (by omega) (fun vz19 hvz19 => ?_)
      refine S_iushrT rfl rfl (fun vz20 => ?_)
      refine X_sipush (v := (255 : Int32)) rfl rfl rfl ?_
      refine S_iandR (k := 8) rfl rfl rfl (fun vz21 hvz21 => ?_)
      refine X_istore (i := 7) (ls' := [some (.ref 0), some (.int x1), some (.int x2), some (.int x3), some (.int x4), some (.int x5), some (.int x6), some (.int vz21)]) rfl rfl (Nat.le_of_ble_eq_true rfl) rfl ?_
      refine X_iload rfl rfl rfl ?_
      refine S_if_ne (tgt := 52) rfl rfl rfl rfl (fun vh22 => ?_) (fun vh22 => ?_)
      · refine X_iload rfl rfl rfl ?_
        refine S_if_ne (tgt := 71) rfl rfl rfl hx5 (fun vh23 => ?_) (fun vh23 => ?_)
        · refine X_iconst (v := (-1 : Int32)) rfl rfl rfl ?_
          exact LW_ireturn (st := []) rfl rfl rfl ⟨_, rfl, by decide, by decide, V, hG⟩
        · refine X_iload rfl rfl rfl ?_
          refine X_bipush (v := (97 : Int32)) rfl rfl rfl ?_
          refine S_icmp_lt (tgt := 71) rfl rfl rfl rfl (show (97 : Int32).toInt = 97 from rfl) (fun vh24 => ?_) (fun vh24 => ?_)
          · refine X_iconst (v := (-1 : Int32)) rfl rfl rfl ?_
            exact LW_ireturn (st := []) rfl rfl rfl ⟨_, rfl, by decide, by decide, V, hG⟩
          · refine X_iload rfl rfl rfl ?_
            refine X_bipush (v := (122 : Int32)) rfl rfl rfl ?_
            refine S_icmp_le (tgt := 73) rfl rfl rfl rfl (show (122 : Int32).toInt = 122 from rfl) (fun vh25 => ?_) (fun vh25 => ?_)
            · refine X_aload_n rfl rfl rfl rfl ?_
              refine X_getR (a := 354) rfl rfl rfl ((congrFun V.1 0).trans s_0) rfl ((congrFun (V.2.1 0 (by decide)) 9).trans r_0_9) ?_
              refine X_iload rfl rfl rfl ?_
              refine X_iload rfl rfl rfl ?_
              refine X_bipush (v := (97 : Int32)) rfl rfl rfl ?_
              refine S_isub rfl rfl rfl (show (97 : Int32).toInt = 97 from rfl) (by omega) (fun vz26 hvz26 => ?_)
              refine S_iast (I := Inv _) rfl rfl ((congrFun V.1 354).trans s_354) hx4 (by omega) (Inv_putI V (Nat.le_of_ble_eq_true rfl) (Or.inl (by decide)) (Q_3 rk_354 (by omega))) (fun g V ve27 vn28 hq => ?_)
              have hG := hq.trans hG
              refine S_iinc (c := 1) rfl rfl rfl hx4 rfl (by omega) (fun vz29 hvz29 => ?_)
              refine LW_ls (ls' := [some (.ref 0), some (.int x1), some (.int x2), some (.int x3), some (.int vz29), some (.int x5), some (.int x6), some (.int vz21)]) rfl ?_
              refine S_iinc (c := 1) rfl rfl rfl hx6 rfl (by omega) (fun vz30 hvz30 => ?_)
              refine LW_ls (ls' := [some (.ref 0), some (.int x1), some (.int x2), some (.int x3), some (.int vz29), some (.int x5), some (.int vz30), some (.int vz21)]) rfl ?_
              refine LW_goto (tgt := 9) rfl rfl ?_
              exact ih9 _ V hG x1 y1 hx1 x2 y2 hx2 x3 y3 hx3 vz29 vz29.toInt rfl (by omega) x5 y5 hx5 (by omega) vz30 vz30.toInt rfl (by omega) (some (.int vz21))  (by omega)  (by omega)
            · refine X_iconst (v := (-1 : Int32)) rfl rfl rfl ?_
              exact LW_ireturn (st := []) rfl rfl rfl ⟨_, rfl, by decide, by decide, V, hG⟩
      · refine X_iconst (v := (1 : Int32)) rfl rfl rfl ?_
        refine X_istore (i := 5) (ls' := [some (.ref 0), some (.int x1), some (.int x2), some (.int x3), some (.int x4), some (.int (1 : Int32)), some (.int x6), some (.int vz21)]) rfl rfl (Nat.le_of_ble_eq_true rfl) rfl ?_
        refine LW_goto (tgt := 88) rfl rfl ?_
        refine S_iinc (c := 1) rfl rfl rfl hx6 rfl (by omega) (fun vz31 hvz31 => ?_)
        refine LW_ls (ls' := [some (.ref 0), some (.int x1), some (.int x2), some (.int x3), some (.int x4), some (.int (1 : Int32)), some (.int vz31), some (.int vz21)]) rfl ?_
        refine LW_goto (tgt := 9) rfl rfl ?_
        exact ih9 _ V hG x1 y1 hx1 x2 y2 hx2 x3 y3 hx3 x4 y4 hx4 (by omega) (1 : Int32) 1 (show (1 : Int32).toInt = 1 from rfl) (by omega) vz31 vz31.toInt rfl (by omega) (some (.int vz21))  (by omega)  (by omega)
theorem C_X12_word_all {P : Par} {g0 : LH} {d : Nat}  : ∀ n : Nat, (∀ (g : LH) (V : Inv P g) (hG : Gr g = Gr g0) (x1 : Int32) (y1 : Int) (hx1 : x1.toInt = y1) (x2 : Int32) (y2 : Int) (hx2 : x2.toInt = y2) (x3 : Int32) (y3 : Int) (hx3 : x3.toInt = y3) (x4 : Int32) (y4 : Int) (hx4 : x4.toInt = y4) (hf4 : 0 ≤ y4 ∧ y4 ≤ 8) (x5 : Int32) (y5 : Int) (hx5 : x5.toInt = y5) (hf5 : 0 ≤ y5 ∧ y5 ≤ 1) (x6 : Int32) (y6 : Int) (hx6 : x6.toInt = y6) (hf6 : 0 ≤ y6 ∧ y6 ≤ 8) (o7 : Option Value) (hq0 : y4 ≤ y6), (8 - y6) * 1 + 0 < (n : Int) → LW 127 (d + 13) 0 0 9 [some (.ref 0), some (.int x1), some (.int x2), some (.int x3), some (.int x4), some (.int x5), some (.int x6), o7] [] g (fun v g' => ∃ r : Int32, v = some (.int r) ∧ (-1) ≤ r.toInt ∧ r.toInt ≤ 23 ∧ Inv P g' ∧ Gr g' = Gr g0)) := by
  intro n
  induction n with
  | zero => exact fun g V hG x1 y1 hx1 x2 y2 hx2 x3 y3 hx3 x4 y4 hx4 hf4 x5 y5 hx5 hf5 x6 y6 hx6 hf6 o7 hq0 hmu => absurd hmu (by omega)
  | succ n ih => exact fun g V hG x1 y1 hx1 x2 y2 hx2 x3 y3 hx3 x4 y4 hx4 hf4 x5 y5 hx5 hf5 x6 y6 hx6 hf6 o7 hq0 hmu => C_X12_word_9  V hG x1 y1 hx1 x2 y2 hx2 x3 y3 hx3 x4 y4 hx4 hf4 x5 y5 hx5 hf5 x6 y6 hx6 hf6 o7 hq0 (by omega) ih
set_option maxRecDepth 10000 in
set_option maxHeartbeats 40000000 in
theorem C_X12_word {P : Par} {g : LH} {d : Nat}  (V : Inv P g) (x1 : Int32) (y1 : Int) (hx1 : x1.toInt = y1) (x2 : Int32) (y2 : Int) (hx2 : x2.toInt = y2) (x3 : Int32) (y3 : Int) (hx3 : x3.toInt = y3)   : LW 127 (d + 13) 0 0 0 (lEnt (mL 127) [.ref 0, .int x1, .int x2, .int x3]) [] g (fun v g' => ∃ r : Int32, v = some (.int r) ∧ (-1) ≤ r.toInt ∧ r.toInt ≤ 23 ∧ Inv P g' ∧ Gr g' = Gr g) := by
  refine LW_ls (ls' := [some (.ref 0), some (.int x1), some (.int x2), some (.int x3), none, none, none, none]) rfl ?_
  have hG : Gr g = Gr g := rfl
  refine X_iconst (v := (0 : Int32)) rfl rfl rfl ?_
  refine X_istore (i := 4) (ls' := [some (.ref 0), some (.int x1), some (.int x2), some (.int x3), some (.int (0 : Int32)), none, none, none]) rfl rfl (Nat.le_of_ble_eq_true rfl) rfl ?_
  refine X_iconst (v := (0 : Int32)) rfl rfl rfl ?_
  refine X_istore (i := 5) (ls' := [some (.ref 0), some (.int x1), some (.int x2), some (.int x3), some (.int (0 : Int32)), some (.int (0 : Int32)), none, none]) rfl rfl (Nat.le_of_ble_eq_true rfl) rfl ?_
  refine X_iconst (v := (0 : Int32)) rfl rfl rfl ?_
  refine X_istore (i := 6) (ls' := [some (.ref 0), some (.int x1), some (.int x2), some (.int x3), some (.int (0 : Int32)), some (.int (0 : Int32)), some (.int (0 : Int32)), none]) rfl rfl (Nat.le_of_ble_eq_true rfl) rfl ?_
  exact (C_X12_word_all (((8 - 0) * 1 + 0) + 1 : Int).toNat) _ V hG x1 y1 hx1 x2 y2 hx2 x3 y3 hx3 (0 : Int32) 0 (show (0 : Int32).toInt = 0 from rfl) (by omega) (0 : Int32) 0 (show (0 : Int32).toInt = 0 from rfl) (by omega) (0 : Int32) 0 (show (0 : Int32).toInt = 0 from rfl) (by omega) none  (by omega)  (by omega)
set_option maxRecDepth 10000 in
set_option maxHeartbeats 40000000 in
theorem C_X5_tellSaying_2_354_42 {P : Par} {g g0 : LH} {d n : Nat}  (V : Inv P g) (hG : Gr g = Gr g0) (x2 : Int32) (y2 : Int) (hx2 : x2.toInt = y2) (hf2 : 0 ≤ y2 ∧ y2 ≤ 0) (x3 : Int32) (y3 : Int) (hx3 : x3.toInt = y3) (hf3 : 1 ≤ y3 ∧ y3 ≤ 8) (x4 : Int32) (y4 : Int) (hx4 : x4.toInt = y4) (x5 : Int32) (y5 : Int) (hx5 : x5.toInt = y5) (hf5 : 0 ≤ y5 ∧ y5 ≤ 8) (hc2_1 : 0 ≤ (Gi g 2 1).toInt ∧ (Gi g 2 1).toInt ≤ 7) (hmu : (8 - y5) * 1 + 0 < (n : Int) + 1) (ih42 : ∀ (g : LH) (V : Inv P g) (hG : Gr g = Gr g0) (x2 : Int32) (y2 : Int) (hx2 : x2.toInt = y2) (hf2 : 0 ≤ y2 ∧ y2 ≤ 0) (x3 : Int32) (y3 : Int) (hx3 : x3.toInt = y3) (hf3 : 1 ≤ y3 ∧ y3 ≤ 8) (x4 : Int32) (y4 : Int) (hx4 : x4.toInt = y4) (x5 : Int32) (y5 : Int) (hx5 : x5.toInt = y5) (hf5 : 0 ≤ y5 ∧ y5 ≤ 8) (hc2_1 : 0 ≤ (Gi g 2 1).toInt ∧ (Gi g 2 1).toInt ≤ 7), (8 - y5) * 1 + 0 < (n : Int) → LW 46 (d + 3) 0 0 42 [some (.ref 2), some (.ref 354), some (.int x2), some (.int x3), some (.int x4), some (.int x5)] [] g (fun v g' => ∃ r : Int32, v = some (.int r) ∧ (-1) ≤ r.toInt ∧ r.toInt ≤ 7 ∧ Inv P g' ∧ Gr g' = Gr g0)) : LW 46 (d + 3) 0 0 42 [some (.ref 2), some (.ref 354), some (.int x2), some (.int x3), some (.int x4), some (.int x5)] [] g (fun v g' => ∃ r : Int32, v = some (.int r) ∧ (-1) ≤ r.toInt ∧ r.toInt ≤ 7 ∧ Inv P g' ∧ Gr g' = Gr g0) := by
  obtain ⟨vz1, evz1⟩ : ∃ z, Gi g 2 1 = z := ⟨_, rfl⟩
  rw [evz1] at hc2_1
  refine X_iload rfl rfl rfl ?_
  refine X_iload_n rfl rfl rfl rfl ?_
  refine S_icmp_ge (tgt := 88) rfl rfl rfl hx5 hx3 (fun vh2 => ?_) (fun vh2 => ?_)
  · refine X_aload_n rfl rfl rfl rfl ?_
    refine X_getR (a := 7) rfl rfl rfl ((congrFun V.1 2).trans s_2) rfl ((congrFun (V.2.1 2 (by decide)) 6).trans r_2_6) ?_
    refine X_aload_n rfl rfl rfl rfl ?_
    refine X_getI (v := vz1) rfl rfl rfl ((congrFun V.1 2).trans s_2) rfl evz1 ?_
    refine X_iload_n rfl rfl rfl rfl ?_
    refine S_iast (I := Inv _) rfl rfl ((congrFun V.1 7).trans s_7) rfl (by omega) (Inv_putI V (Nat.le_of_ble_eq_true rfl) (Or.inl (by decide)) (Q_1 rk_7 (by omega))) (fun g V ve3 vn4 hq => ?_)
    have hG := hq.trans hG
    have evz1 := (vn4 (2) 1 (Or.inl (by decide))).trans evz1
    refine X_aload_n rfl rfl rfl rfl ?_
    refine X_getR (a := 8) rfl rfl rfl ((congrFun V.1 2).trans s_2) rfl ((congrFun (V.2.1 2 (by decide)) 7).trans r_2_7) ?_
    refine X_aload_n rfl rfl rfl rfl ?_
    refine X_getI (v := vz1) rfl rfl rfl ((congrFun V.1 2).trans s_2) rfl evz1 ?_
    refine X_iload rfl rfl rfl ?_
    refine S_iast (I := Inv _) rfl rfl ((congrFun V.1 8).trans s_8) rfl (by omega) (Inv_putI V (Nat.le_of_ble_eq_true rfl) (Or.inl (by decide)) (Q_0 rk_8)) (fun g V ve5 vn6 hq => ?_)
    have hG := hq.trans hG
    have evz1 := (vn6 (2) 1 (Or.inl (by decide))).trans evz1
    refine X_aload_n rfl rfl rfl rfl ?_
    refine X_dup rfl rfl rfl ?_
    refine X_getI (v := vz1) rfl rfl rfl ((congrFun V.1 2).trans s_2) rfl evz1 ?_
    refine X_iconst (v := (1 : Int32)) rfl rfl rfl ?_
    refine S_iadd rfl rfl rfl (show (1 : Int32).toInt = 1 from rfl) (by omega) (fun vz7 hvz7 => ?_)
    refine S_putI (I := Inv _) rfl rfl rfl ((congrFun V.1 2).trans s_2) rfl rfl rfl rfl (Inv_putI V (Nat.le_of_ble_eq_true rfl) (Or.inl (by decide)) (Q_10_1 rk_2 (by omega))) (fun g V ve8 vn9 hq => ?_)
    have hG := hq.trans hG
    refine X_aload_n rfl rfl rfl rfl ?_
    refine X_getI (v := vz7) rfl rfl rfl ((congrFun V.1 2).trans s_2) rfl ve8 ?_
    refine X_iconst (v := (1 : Int32)) rfl rfl rfl ?_
    refine S_isub rfl rfl rfl (show (1 : Int32).toInt = 1 from rfl) (by omega) (fun vz10 hvz10 => ?_)
    have hr := (rfl : vz10.toInt = vz10.toInt)
    exact LW_ireturn (st := []) rfl rfl rfl ⟨_, rfl, by omega, by omega, V, hG⟩
  · refine X_aload_n rfl rfl rfl rfl ?_
    refine X_getR (a := 9) rfl rfl rfl ((congrFun V.1 2).trans s_2) rfl ((congrFun (V.2.1 2 (by decide)) 8).trans r_2_8) ?_
    refine X_aload_n rfl rfl rfl rfl ?_
    refine X_getI (v := vz1) rfl rfl rfl ((congrFun V.1 2).trans s_2) rfl evz1 ?_
    refine X_bipush (v := (8 : Int32)) rfl rfl rfl ?_
    refine S_imul rfl rfl rfl (show (8 : Int32).toInt = 8 from rfl) (by omega) (fun vz11 hvz11 => ?_)
    refine X_iload rfl rfl rfl ?_
    refine S_iadd rfl rfl rfl hx5 (by omega) (fun vz12 hvz12 => ?_)
    refine X_aload_n rfl rfl rfl rfl ?_
    refine X_iload_n rfl rfl rfl rfl ?_
    refine X_iload rfl rfl rfl ?_
    refine S_iadd rfl rfl hx2 hx5 (by omega) (fun vz13 hvz13 => ?_)
    refine S_iald rfl rfl ((congrFun V.1 354).trans s_354) rfl (by omega) (fun vz14 evz14 => ?_)
    have vf15 := K_3 (V.2.2.2.2.1 (354) ((vz13.toInt : Int).toNat) (Nat.le_of_ble_eq_true rfl)) rk_354
    rw [evz14] at vf15
    refine S_iast (I := Inv _) rfl rfl ((congrFun V.1 9).trans s_9) rfl (by omega) (Inv_putI V (Nat.le_of_ble_eq_true rfl) (Or.inl (by decide)) (Q_3 rk_9 (by omega))) (fun g V ve16 vn17 hq => ?_)
    have hG := hq.trans hG
    have evz1 := (vn17 (2) 1 (Or.inl (by decide))).trans evz1
    have evz14 := (vn17 (354) ((vz13.toInt : Int).toNat) (Or.inl (by decide))).trans evz14
    refine X_iload rfl rfl rfl ?_
    refine X_iconst (v := (1 : Int32)) rfl rfl rfl ?_
    refine X_aload_n rfl rfl rfl rfl ?_
    refine X_iload_n rfl rfl rfl rfl ?_
    refine X_iload rfl rfl rfl ?_
    refine S_iadd rfl rfl hx2 hx5 (by omega) (fun vz18 hvz18 => ?_)
    refine S_iald rfl rfl ((congrFun V.1 354).trans s_354) rfl (by omega) (fun vz19 evz19 => ?_)
    have vf20 := K_3 (V.2.2.2.2.1 (354) ((vz18.toInt : Int).toNat) (Nat.le_of_ble_eq_true rfl)) rk_354
    rw [evz19] at vf20
    refine S_ishlT rfl rfl (fun vz21 => ?_)
    refine S_iorT rfl rfl (fun vz22 => ?_)
    refine X_istore (i := 4) (ls' := [some (.ref 2), some (.ref 354), some (.int x2), some (.int x3), some (.int vz22), some (.int x5)]) rfl rfl (Nat.le_of_ble_eq_true rfl) rfl ?_
    refine S_iinc (c := 1) rfl rfl rfl hx5 rfl (by omega) (fun vz23 hvz23 => ?_)
    refine LW_ls (ls' := [some (.ref 2), some (.ref 354), some (.int x2), some (.int x3), some (.int vz22), some (.int vz23)]) rfl ?_
    refine LW_goto (tgt := 42) rfl rfl ?_
    exact ih42 _ V hG x2 y2 hx2 (by omega) x3 y3 hx3 (by omega) vz22 vz22.toInt rfl vz23 vz23.toInt rfl (by omega) (by rw [evz1]; omega)   (by omega)
theorem C_X5_tellSaying_2_354_all {P : Par} {g0 : LH} {d : Nat}  : ∀ n : Nat, (∀ (g : LH) (V : Inv P g) (hG : Gr g = Gr g0) (x2 : Int32) (y2 : Int) (hx2 : x2.toInt = y2) (hf2 : 0 ≤ y2 ∧ y2 ≤ 0) (x3 : Int32) (y3 : Int) (hx3 : x3.toInt = y3) (hf3 : 1 ≤ y3 ∧ y3 ≤ 8) (x4 : Int32) (y4 : Int) (hx4 : x4.toInt = y4) (x5 : Int32) (y5 : Int) (hx5 : x5.toInt = y5) (hf5 : 0 ≤ y5 ∧ y5 ≤ 8) (hc2_1 : 0 ≤ (Gi g 2 1).toInt ∧ (Gi g 2 1).toInt ≤ 7), (8 - y5) * 1 + 0 < (n : Int) → LW 46 (d + 3) 0 0 42 [some (.ref 2), some (.ref 354), some (.int x2), some (.int x3), some (.int x4), some (.int x5)] [] g (fun v g' => ∃ r : Int32, v = some (.int r) ∧ (-1) ≤ r.toInt ∧ r.toInt ≤ 7 ∧ Inv P g' ∧ Gr g' = Gr g0)) := by
  intro n
  induction n with
  | zero => exact fun g V hG x2 y2 hx2 hf2 x3 y3 hx3 hf3 x4 y4 hx4 x5 y5 hx5 hf5 hc2_1 hmu => absurd hmu (by omega)
  | succ n ih => exact fun g V hG x2 y2 hx2 hf2 x3 y3 hx3 hf3 x4 y4 hx4 x5 y5 hx5 hf5 hc2_1 hmu => C_X5_tellSaying_2_354_42  V hG x2 y2 hx2 hf2 x3 y3 hx3 hf3 x4 y4 hx4 x5 y5 hx5 hf5 hc2_1 (by omega) ih
set_option maxRecDepth 10000 in
set_option maxHeartbeats 40000000 in
theorem C_X5_tellSaying_2_354 {P : Par} {g : LH} {d : Nat}  (V : Inv P g) (x2 : Int32) (y2 : Int) (hx2 : x2.toInt = y2) (hf2 : 0 ≤ y2 ∧ y2 ≤ 0) (x3 : Int32) (y3 : Int) (hx3 : x3.toInt = y3) (hf3 : 0 ≤ y3 ∧ y3 ≤ 8)   : LW 46 (d + 3) 0 0 0 (lEnt (mL 46) [.ref 2, .ref 354, .int x2, .int x3]) [] g (fun v g' => ∃ r : Int32, v = some (.int r) ∧ (-1) ≤ r.toInt ∧ r.toInt ≤ 7 ∧ Inv P g' ∧ Gr g' = Gr g) := by
  refine LW_ls (ls' := [some (.ref 2), some (.ref 354), some (.int x2), some (.int x3), none, none]) rfl ?_
  have hG : Gr g = Gr g := rfl
  refine X_iload_n rfl rfl rfl rfl ?_
  refine X_iconst (v := (1 : Int32)) rfl rfl rfl ?_
  refine S_icmp_lt (tgt := 23) rfl rfl rfl hx3 (show (1 : Int32).toInt = 1 from rfl) (fun vh1 => ?_) (fun vh1 => ?_)
  · refine X_iconst (v := (-1 : Int32)) rfl rfl rfl ?_
    exact LW_ireturn (st := []) rfl rfl rfl ⟨_, rfl, by decide, by decide, V, hG⟩
  · refine X_iload_n rfl rfl rfl rfl ?_
    refine X_bipush (v := (8 : Int32)) rfl rfl rfl ?_
    refine S_icmp_gt (tgt := 23) rfl rfl rfl hx3 (show (8 : Int32).toInt = 8 from rfl) (fun q => absurd q (by omega)) (fun vh2 => ?_)
    refine X_iload_n rfl rfl rfl rfl ?_
    refine S_if_lt (tgt := 23) rfl rfl rfl hx2 (fun q => absurd q (by omega)) (fun vh3 => ?_)
    refine X_iload_n rfl rfl rfl rfl ?_
    refine X_iload_n rfl rfl rfl rfl ?_
    refine S_iadd rfl rfl hx2 hx3 (by omega) (fun vz4 hvz4 => ?_)
    refine X_aload_n rfl rfl rfl rfl ?_
    refine X_alen (t0 := 0) (v := (8 : Int32)) rfl rfl ((congrFun V.1 354).trans s_354) rfl rfl ?_
    refine S_icmp_le (tgt := 25) rfl rfl rfl rfl (show (8 : Int32).toInt = 8 from rfl) (fun vh5 => ?_) (fun q => absurd q (by omega))
    refine X_aload_n rfl rfl rfl rfl ?_
    refine S_getI rfl rfl rfl ((congrFun V.1 2).trans s_2) rfl (fun vz6 evz6 => ?_)
    have vf7 := K_10_1 (V.2.2.2.2.1 (2) (1) (Nat.le_of_ble_eq_true rfl)) rk_2
    rw [evz6] at vf7
    refine X_bipush (v := (8 : Int32)) rfl rfl rfl ?_
    refine S_icmp_lt (tgt := 36) rfl rfl rfl rfl (show (8 : Int32).toInt = 8 from rfl) (fun vh8 => ?_) (fun vh8 => ?_)
    · refine X_iconst (v := (0 : Int32)) rfl rfl rfl ?_
      refine X_istore (i := 4) (ls' := [some (.ref 2), some (.ref 354), some (.int x2), some (.int x3), some (.int (0 : Int32)), none]) rfl rfl (Nat.le_of_ble_eq_true rfl) rfl ?_
      refine X_iconst (v := (0 : Int32)) rfl rfl rfl ?_
      refine X_istore (i := 5) (ls' := [some (.ref 2), some (.ref 354), some (.int x2), some (.int x3), some (.int (0 : Int32)), some (.int (0 : Int32))]) rfl rfl (Nat.le_of_ble_eq_true rfl) rfl ?_
      exact (C_X5_tellSaying_2_354_all (((8 - 0) * 1 + 0) + 1 : Int).toNat) _ V hG x2 y2 hx2 (by omega) x3 y3 hx3 (by omega) (0 : Int32) 0 (show (0 : Int32).toInt = 0 from rfl) (0 : Int32) 0 (show (0 : Int32).toInt = 0 from rfl) (by omega) (by rw [evz6]; omega)   (by omega)
    · refine X_iconst (v := (-1 : Int32)) rfl rfl rfl ?_
      exact LW_ireturn (st := []) rfl rfl rfl ⟨_, rfl, by decide, by decide, V, hG⟩
set_option maxRecDepth 10000 in
set_option maxHeartbeats 40000000 in
theorem C_X12_saying_21 {P : Par} {g g0 : LH} {d n : Nat}  (V : Inv P g) (hG : Gr g = Gr g0) (x1 : Int32) (y1 : Int) (hx1 : x1.toInt = y1) (hf1 : 10 ≤ y1 ∧ y1 ≤ 199999999) (x2 : Int32) (y2 : Int) (hx2 : x2.toInt = y2) (hf2 : 0 ≤ y2 ∧ y2 ≤ 8) (x3 : Int32) (y3 : Int) (hx3 : x3.toInt = y3) (hf3 : 1 ≤ y3 ∧ y3 ≤ 199999999) (x4 : Int32) (y4 : Int) (hx4 : x4.toInt = y4) (hf4 : 0 ≤ y4 ∧ y4 ≤ 8) (o5 : Option Value) (hq0 : y2 = y4) (hmu : (8 - y4) * 1 + 10 < (n : Int) + 1) (ih21 : ∀ (g : LH) (V : Inv P g) (hG : Gr g = Gr g0) (x1 : Int32) (y1 : Int) (hx1 : x1.toInt = y1) (hf1 : 10 ≤ y1 ∧ y1 ≤ 199999999) (x2 : Int32) (y2 : Int) (hx2 : x2.toInt = y2) (hf2 : 0 ≤ y2 ∧ y2 ≤ 8) (x3 : Int32) (y3 : Int) (hx3 : x3.toInt = y3) (hf3 : 1 ≤ y3 ∧ y3 ≤ 199999999) (x4 : Int32) (y4 : Int) (hx4 : x4.toInt = y4) (hf4 : 0 ≤ y4 ∧ y4 ≤ 8) (o5 : Option Value) (hq0 : y2 = y4), (8 - y4) * 1 + 10 < (n : Int) → LW 128 (d + 7) 0 0 21 [some (.ref 0), some (.int x1), some (.int x2), some (.int x3), some (.int x4), o5] [] g (fun v g' => ∃ r : Int32, v = some (.int r) ∧ (-1) ≤ r.toInt ∧ r.toInt ≤ 7 ∧ Inv P g' ∧ Gr g' = Gr g0)) (ih63 : ∀ (g : LH) (V : Inv P g) (hG : Gr g = Gr g0) (x1 : Int32) (y1 : Int) (hx1 : x1.toInt = y1) (hf1 : 10 ≤ y1 ∧ y1 ≤ 199999999) (x2 : Int32) (y2 : Int) (hx2 : x2.toInt = y2) (hf2 : 0 ≤ y2 ∧ y2 ≤ 8) (x3 : Int32) (y3 : Int) (hx3 : x3.toInt = y3) (hf3 : 1 ≤ y3 ∧ y3 ≤ 1) (x4 : Int32) (y4 : Int) (hx4 : x4.toInt = y4) (hf4 : 0 ≤ y4 ∧ y4 ≤ 199999999) (x5 : Int32) (y5 : Int) (hx5 : x5.toInt = y5) (hf5 : (-1) ≤ y5 ∧ y5 ≤ 7) , (y5 - (-1)) * 1 + 0 < (n : Int) → LW 128 (d + 7) 0 0 63 [some (.ref 0), some (.int x1), some (.int x2), some (.int x3), some (.int x4), some (.int x5)] [] g (fun v g' => ∃ r : Int32, v = some (.int r) ∧ (-1) ≤ r.toInt ∧ r.toInt ≤ 7 ∧ Inv P g' ∧ Gr g' = Gr g0)) : LW 128 (d + 7) 0 0 21 [some (.ref 0), some (.int x1), some (.int x2), some (.int x3), some (.int x4), o5] [] g (fun v g' => ∃ r : Int32, v = some (.int r) ∧ (-1) ≤ r.toInt ∧ r.toInt ≤ 7 ∧ Inv P g' ∧ Gr g' = Gr g0) := by
  refine X_iload rfl rfl rfl ?_
  refine X_bipush (v := (8 : Int32)) rfl rfl rfl ?_
  refine S_icmp_ge (tgt := 48) rfl rfl rfl hx4 (show (8 : Int32).toInt = 8 from rfl) (fun vh1 => ?_) (fun vh1 => ?_)
  · refine X_iload_n rfl rfl rfl rfl ?_
    refine X_iconst (v := (1 : Int32)) rfl rfl rfl ?_
    refine S_icmp_eq (tgt := 55) rfl rfl rfl hx3 (show (1 : Int32).toInt = 1 from rfl) (fun vh2 => ?_) (fun vh2 => ?_)
    · refine X_iload_n rfl rfl rfl rfl ?_
      refine X_istore (i := 4) (ls' := [some (.ref 0), some (.int x1), some (.int x2), some (.int x3), some (.int x1), o5]) rfl rfl (Nat.le_of_ble_eq_true rfl) rfl ?_
      refine X_iload_n rfl rfl rfl rfl ?_
      refine X_iconst (v := (1 : Int32)) rfl rfl rfl ?_
      refine S_isub rfl rfl hx2 (show (1 : Int32).toInt = 1 from rfl) (by omega) (fun vz3 hvz3 => ?_)
      refine X_istore (i := 5) (ls' := [some (.ref 0), some (.int x1), some (.int x2), some (.int x3), some (.int x1), some (.int vz3)]) rfl rfl (Nat.le_of_ble_eq_true rfl) rfl ?_
      exact ih63 _ V hG x1 y1 hx1 (by omega) x2 y2 hx2 (by omega) x3 y3 hx3 (by omega) x1 y1 hx1 (by omega) vz3 vz3.toInt rfl (by omega)    (by omega)
    · refine X_iconst (v := (-1 : Int32)) rfl rfl rfl ?_
      exact LW_ireturn (st := []) rfl rfl rfl ⟨_, rfl, by decide, by decide, V, hG⟩
  · refine X_iload_n rfl rfl rfl rfl ?_
    refine X_bipush (v := (10 : Int32)) rfl rfl rfl ?_
    refine S_icmp_lt (tgt := 48) rfl rfl rfl hx3 (show (10 : Int32).toInt = 10 from rfl) (fun vh4 => ?_) (fun vh4 => ?_)
    · refine X_iload_n rfl rfl rfl rfl ?_
      refine X_iconst (v := (1 : Int32)) rfl rfl rfl ?_
      refine S_icmp_eq (tgt := 55) rfl rfl rfl hx3 (show (1 : Int32).toInt = 1 from rfl) (fun vh5 => ?_) (fun vh5 => ?_)
      · refine X_iload_n rfl rfl rfl rfl ?_
        refine X_istore (i := 4) (ls' := [some (.ref 0), some (.int x1), some (.int x2), some (.int x3), some (.int x1), o5]) rfl rfl (Nat.le_of_ble_eq_true rfl) rfl ?_
        refine X_iload_n rfl rfl rfl rfl ?_
        refine X_iconst (v := (1 : Int32)) rfl rfl rfl ?_
        refine S_isub rfl rfl hx2 (show (1 : Int32).toInt = 1 from rfl) (by omega) (fun vz6 hvz6 => ?_)
        refine X_istore (i := 5) (ls' := [some (.ref 0), some (.int x1), some (.int x2), some (.int x3), some (.int x1), some (.int vz6)]) rfl rfl (Nat.le_of_ble_eq_true rfl) rfl ?_
        exact ih63 _ V hG x1 y1 hx1 (by omega) x2 y2 hx2 (by omega) x3 y3 hx3 (by omega) x1 y1 hx1 (by omega) vz6 vz6.toInt rfl (by omega)    (by omega)
      · refine X_iconst (v := (-1 : Int32)) rfl rfl rfl ?_
        exact LW_ireturn (st := []) rfl rfl rfl ⟨_, rfl, by decide, by decide, V, hG⟩
    · refine X_iload_n rfl rfl rfl rfl ?_
      refine X_bipush (v := (10 : Int32)) rfl rfl rfl ?_
      refine S_idiv rfl rfl hx3 (show (10 : Int32).toInt = 10 from rfl) (by omega) (by omega) (fun vz7 hvz7 => ?_)
      refine X_istore_n (i := 3) (ls' := [some (.ref 0), some (.int x1), some (.int x2), some (.int vz7), some (.int x4), o5]) rfl rfl rfl (Nat.le_of_ble_eq_true rfl) rfl ?_
      refine S_iinc (c := 1) rfl rfl rfl hx2 rfl (by omega) (fun vz8 hvz8 => ?_)
      refine LW_ls (ls' := [some (.ref 0), some (.int x1), some (.int vz8), some (.int vz7), some (.int x4), o5]) rfl ?_
      refine S_iinc (c := 1) rfl rfl rfl hx4 rfl (by omega) (fun vz9 hvz9 => ?_)
      refine LW_ls (ls' := [some (.ref 0), some (.int x1), some (.int vz8), some (.int vz7), some (.int vz9), o5]) rfl ?_
      refine LW_goto (tgt := 21) rfl rfl ?_
      exact ih21 _ V hG x1 y1 hx1 (by omega) vz8 vz8.toInt rfl (by omega) vz7 vz7.toInt rfl (by omega) vz9 vz9.toInt rfl (by omega) o5  (by omega)  (by omega)
set_option maxRecDepth 10000 in
set_option maxHeartbeats 40000000 in
theorem C_X12_saying_63 {P : Par} {g g0 : LH} {d n : Nat}  (V : Inv P g) (hG : Gr g = Gr g0) (x1 : Int32) (y1 : Int) (hx1 : x1.toInt = y1) (hf1 : 10 ≤ y1 ∧ y1 ≤ 199999999) (x2 : Int32) (y2 : Int) (hx2 : x2.toInt = y2) (hf2 : 0 ≤ y2 ∧ y2 ≤ 8) (x3 : Int32) (y3 : Int) (hx3 : x3.toInt = y3) (hf3 : 1 ≤ y3 ∧ y3 ≤ 1) (x4 : Int32) (y4 : Int) (hx4 : x4.toInt = y4) (hf4 : 0 ≤ y4 ∧ y4 ≤ 199999999) (x5 : Int32) (y5 : Int) (hx5 : x5.toInt = y5) (hf5 : (-1) ≤ y5 ∧ y5 ≤ 7)  (hmu : (y5 - (-1)) * 1 + 0 < (n : Int) + 1) (ih21 : ∀ (g : LH) (V : Inv P g) (hG : Gr g = Gr g0) (x1 : Int32) (y1 : Int) (hx1 : x1.toInt = y1) (hf1 : 10 ≤ y1 ∧ y1 ≤ 199999999) (x2 : Int32) (y2 : Int) (hx2 : x2.toInt = y2) (hf2 : 0 ≤ y2 ∧ y2 ≤ 8) (x3 : Int32) (y3 : Int) (hx3 : x3.toInt = y3) (hf3 : 1 ≤ y3 ∧ y3 ≤ 199999999) (x4 : Int32) (y4 : Int) (hx4 : x4.toInt = y4) (hf4 : 0 ≤ y4 ∧ y4 ≤ 8) (o5 : Option Value) (hq0 : y2 = y4), (8 - y4) * 1 + 10 < (n : Int) → LW 128 (d + 7) 0 0 21 [some (.ref 0), some (.int x1), some (.int x2), some (.int x3), some (.int x4), o5] [] g (fun v g' => ∃ r : Int32, v = some (.int r) ∧ (-1) ≤ r.toInt ∧ r.toInt ≤ 7 ∧ Inv P g' ∧ Gr g' = Gr g0)) (ih63 : ∀ (g : LH) (V : Inv P g) (hG : Gr g = Gr g0) (x1 : Int32) (y1 : Int) (hx1 : x1.toInt = y1) (hf1 : 10 ≤ y1 ∧ y1 ≤ 199999999) (x2 : Int32) (y2 : Int) (hx2 : x2.toInt = y2) (hf2 : 0 ≤ y2 ∧ y2 ≤ 8) (x3 : Int32) (y3 : Int) (hx3 : x3.toInt = y3) (hf3 : 1 ≤ y3 ∧ y3 ≤ 1) (x4 : Int32) (y4 : Int) (hx4 : x4.toInt = y4) (hf4 : 0 ≤ y4 ∧ y4 ≤ 199999999) (x5 : Int32) (y5 : Int) (hx5 : x5.toInt = y5) (hf5 : (-1) ≤ y5 ∧ y5 ≤ 7) , (y5 - (-1)) * 1 + 0 < (n : Int) → LW 128 (d + 7) 0 0 63 [some (.ref 0), some (.int x1), some (.int x2), some (.int x3), some (.int x4), some (.int x5)] [] g (fun v g' => ∃ r : Int32, v = some (.int r) ∧ (-1) ≤ r.toInt ∧ r.toInt ≤ 7 ∧ Inv P g' ∧ Gr g' = Gr g0)) : LW 128 (d + 7) 0 0 63 [some (.ref 0), some (.int x1), some (.int x2), some (.int x3), some (.int x4), some (.int x5)] [] g (fun v g' => ∃ r : Int32, v = some (.int r) ∧ (-1) ≤ r.toInt ∧ r.toInt ≤ 7 ∧ Inv P g' ∧ Gr g' = Gr g0) := by
  refine X_iload rfl rfl rfl ?_
  refine S_if_lt (tgt := 93) rfl rfl rfl hx5 (fun vh1 => ?_) (fun vh1 => ?_)
  · refine X_aload_n rfl rfl rfl rfl ?_
    refine X_getR (a := 1) rfl rfl rfl ((congrFun V.1 0).trans s_0) rfl ((congrFun (V.2.1 0 (by decide)) 0).trans r_0_0) ?_
    refine X_getR (a := 2) rfl rfl rfl ((congrFun V.1 1).trans s_1) rfl ((congrFun (V.2.1 1 (by decide)) 0).trans r_1_0) ?_
    refine X_aload_n rfl rfl rfl rfl ?_
    refine X_getR (a := 354) rfl rfl rfl ((congrFun V.1 0).trans s_0) rfl ((congrFun (V.2.1 0 (by decide)) 9).trans r_0_9) ?_
    refine X_iconst (v := (0 : Int32)) rfl rfl rfl ?_
    refine X_iload_n rfl rfl rfl rfl ?_
    refine Y_callV (as := [.ref 354, .int (0 : Int32), .int x2]) (st := []) rfl rfl rfl (by decide) rfl (Nat.le_of_ble_eq_true rfl) (by decide) (Nat.le_of_ble_eq_true rfl) rfl ((congrFun V.1 2).trans s_2) (by decide) (C_X5_tellSaying_2_354 V (0 : Int32) 0 (show (0 : Int32).toInt = 0 from rfl) (by omega) x2 y2 hx2 (by omega) ) ?_
    rintro _ g ⟨vr2, rfl, hrvr20, hrvr21, V, hq⟩
    have hG := hq.trans hG
    have hr := (rfl : vr2.toInt = vr2.toInt)
    exact LW_ireturn (st := []) rfl rfl rfl ⟨_, rfl, by omega, by omega, V, hG⟩
  · refine X_aload_n rfl rfl rfl rfl ?_
    refine X_getR (a := 354) rfl rfl rfl ((congrFun V.1 0).trans s_0) rfl ((congrFun (V.2.1 0 (by decide)) 9).trans r_0_9) ?_
    refine X_iload rfl rfl rfl ?_
    refine X_iload rfl rfl rfl ?_
    refine X_bipush (v := (10 : Int32)) rfl rfl rfl ?_
    refine S_irem rfl rfl hx4 (show (10 : Int32).toInt = 10 from rfl) (by omega) (by omega) (fun vz3 hvz3 => ?_)
    refine S_iast (I := Inv _) rfl rfl ((congrFun V.1 354).trans s_354) hx5 (by omega) (Inv_putI V (Nat.le_of_ble_eq_true rfl) (Or.inl (by decide)) (Q_3 rk_354 (by omega))) (fun g V ve4 vn5 hq => ?_)
    have hG := hq.trans hG
    refine X_iload rfl rfl rfl ?_
    refine X_bipush (v := (10 : Int32)) rfl rfl rfl ?_
    refine S_idiv rfl rfl hx4 (show (10 : Int32).toInt = 10 from rfl) (by omega) (by omega) (fun vz6 hvz6 => ?_)
    refine X_istore (i := 4) (ls' := [some (.ref 0), some (.int x1), some (.int x2), some (.int x3), some (.int vz6), some (.int x5)]) rfl rfl (Nat.le_of_ble_eq_true rfl) rfl ?_
    refine S_iinc (c := (-1)) rfl rfl rfl hx5 rfl (by omega) (fun vz7 hvz7 => ?_)
    refine LW_ls (ls' := [some (.ref 0), some (.int x1), some (.int x2), some (.int x3), some (.int vz6), some (.int vz7)]) rfl ?_
    refine LW_goto (tgt := 63) rfl rfl ?_
    exact ih63 _ V hG x1 y1 hx1 (by omega) x2 y2 hx2 (by omega) x3 y3 hx3 (by omega) vz6 vz6.toInt rfl (by omega) vz7 vz7.toInt rfl (by omega)    (by omega)
theorem C_X12_saying_all {P : Par} {g0 : LH} {d : Nat}  : ∀ n : Nat, (∀ (g : LH) (V : Inv P g) (hG : Gr g = Gr g0) (x1 : Int32) (y1 : Int) (hx1 : x1.toInt = y1) (hf1 : 10 ≤ y1 ∧ y1 ≤ 199999999) (x2 : Int32) (y2 : Int) (hx2 : x2.toInt = y2) (hf2 : 0 ≤ y2 ∧ y2 ≤ 8) (x3 : Int32) (y3 : Int) (hx3 : x3.toInt = y3) (hf3 : 1 ≤ y3 ∧ y3 ≤ 199999999) (x4 : Int32) (y4 : Int) (hx4 : x4.toInt = y4) (hf4 : 0 ≤ y4 ∧ y4 ≤ 8) (o5 : Option Value) (hq0 : y2 = y4), (8 - y4) * 1 + 10 < (n : Int) → LW 128 (d + 7) 0 0 21 [some (.ref 0), some (.int x1), some (.int x2), some (.int x3), some (.int x4), o5] [] g (fun v g' => ∃ r : Int32, v = some (.int r) ∧ (-1) ≤ r.toInt ∧ r.toInt ≤ 7 ∧ Inv P g' ∧ Gr g' = Gr g0)) ∧ (∀ (g : LH) (V : Inv P g) (hG : Gr g = Gr g0) (x1 : Int32) (y1 : Int) (hx1 : x1.toInt = y1) (hf1 : 10 ≤ y1 ∧ y1 ≤ 199999999) (x2 : Int32) (y2 : Int) (hx2 : x2.toInt = y2) (hf2 : 0 ≤ y2 ∧ y2 ≤ 8) (x3 : Int32) (y3 : Int) (hx3 : x3.toInt = y3) (hf3 : 1 ≤ y3 ∧ y3 ≤ 1) (x4 : Int32) (y4 : Int) (hx4 : x4.toInt = y4) (hf4 : 0 ≤ y4 ∧ y4 ≤ 199999999) (x5 : Int32) (y5 : Int) (hx5 : x5.toInt = y5) (hf5 : (-1) ≤ y5 ∧ y5 ≤ 7) , (y5 - (-1)) * 1 + 0 < (n : Int) → LW 128 (d + 7) 0 0 63 [some (.ref 0), some (.int x1), some (.int x2), some (.int x3), some (.int x4), some (.int x5)] [] g (fun v g' => ∃ r : Int32, v = some (.int r) ∧ (-1) ≤ r.toInt ∧ r.toInt ≤ 7 ∧ Inv P g' ∧ Gr g' = Gr g0)) := by
  intro n
  induction n with
  | zero => exact ⟨fun g V hG x1 y1 hx1 hf1 x2 y2 hx2 hf2 x3 y3 hx3 hf3 x4 y4 hx4 hf4 o5 hq0 hmu => absurd hmu (by omega), fun g V hG x1 y1 hx1 hf1 x2 y2 hx2 hf2 x3 y3 hx3 hf3 x4 y4 hx4 hf4 x5 y5 hx5 hf5 hmu => absurd hmu (by omega)⟩
  | succ n ih => exact ⟨fun g V hG x1 y1 hx1 hf1 x2 y2 hx2 hf2 x3 y3 hx3 hf3 x4 y4 hx4 hf4 o5 hq0 hmu => C_X12_saying_21  V hG x1 y1 hx1 hf1 x2 y2 hx2 hf2 x3 y3 hx3 hf3 x4 y4 hx4 hf4 o5 hq0 (by omega) ih.1 ih.2, fun g V hG x1 y1 hx1 hf1 x2 y2 hx2 hf2 x3 y3 hx3 hf3 x4 y4 hx4 hf4 x5 y5 hx5 hf5 hmu => C_X12_saying_63  V hG x1 y1 hx1 hf1 x2 y2 hx2 hf2 x3 y3 hx3 hf3 x4 y4 hx4 hf4 x5 y5 hx5 hf5 (by omega) ih.1 ih.2⟩
set_option maxRecDepth 10000 in
set_option maxHeartbeats 40000000 in
theorem C_X12_saying {P : Par} {g : LH} {d : Nat}  (V : Inv P g) (x1 : Int32) (y1 : Int) (hx1 : x1.toInt = y1)   : LW 128 (d + 7) 0 0 0 (lEnt (mL 128) [.ref 0, .int x1]) [] g (fun v g' => ∃ r : Int32, v = some (.int r) ∧ (-1) ≤ r.toInt ∧ r.toInt ≤ 7 ∧ Inv P g' ∧ Gr g' = Gr g) := by
  refine LW_ls (ls' := [some (.ref 0), some (.int x1), none, none, none, none]) rfl ?_
  have hG : Gr g = Gr g := rfl
  refine X_iload_n rfl rfl rfl rfl ?_
  refine X_bipush (v := (10 : Int32)) rfl rfl rfl ?_
  refine S_icmp_lt (tgt := 12) rfl rfl rfl hx1 (show (10 : Int32).toInt = 10 from rfl) (fun vh1 => ?_) (fun vh1 => ?_)
  · refine X_iconst (v := (-1 : Int32)) rfl rfl rfl ?_
    exact LW_ireturn (st := []) rfl rfl rfl ⟨_, rfl, by decide, by decide, V, hG⟩
  · refine X_iload_n rfl rfl rfl rfl ?_
    refine X_ldc (v := (199999999 : Int32)) rfl rfl rfl ?_
    refine S_icmp_le (tgt := 14) rfl rfl rfl hx1 (show (199999999 : Int32).toInt = 199999999 from rfl) (fun vh2 => ?_) (fun vh2 => ?_)
    · refine X_iconst (v := (0 : Int32)) rfl rfl rfl ?_
      refine X_istore_n (i := 2) (ls' := [some (.ref 0), some (.int x1), some (.int (0 : Int32)), none, none, none]) rfl rfl rfl (Nat.le_of_ble_eq_true rfl) rfl ?_
      refine X_iload_n rfl rfl rfl rfl ?_
      refine X_istore_n (i := 3) (ls' := [some (.ref 0), some (.int x1), some (.int (0 : Int32)), some (.int x1), none, none]) rfl rfl rfl (Nat.le_of_ble_eq_true rfl) rfl ?_
      refine X_iconst (v := (0 : Int32)) rfl rfl rfl ?_
      refine X_istore (i := 4) (ls' := [some (.ref 0), some (.int x1), some (.int (0 : Int32)), some (.int x1), some (.int (0 : Int32)), none]) rfl rfl (Nat.le_of_ble_eq_true rfl) rfl ?_
      exact (C_X12_saying_all (((8 - 0) * 1 + 10) + 1 : Int).toNat).1 _ V hG x1 y1 hx1 (by omega) (0 : Int32) 0 (show (0 : Int32).toInt = 0 from rfl) (by omega) x1 y1 hx1 (by omega) (0 : Int32) 0 (show (0 : Int32).toInt = 0 from rfl) (by omega) none  (by omega)  (by omega)
    · refine X_iconst (v := (-1 : Int32)) rfl rfl rfl ?_
      exact LW_ireturn (st := []) rfl rfl rfl ⟨_, rfl, by decide, by decide, V, hG⟩
set_option maxRecDepth 10000 in
set_option maxHeartbeats 40000000 in
theorem C_X10_hasRoom {P : Par} {g : LH} {d : Nat}  (V : Inv P g) (x1 : Int32) (y1 : Int) (hx1 : x1.toInt = y1) (hf1 : 20 ≤ y1 ∧ y1 ≤ 20)   : LW 111 (d + 3) 0 0 0 (lEnt (mL 111) [.ref 332, .int x1]) [] g (fun v g' => ∃ r : Int32, v = some (.int r) ∧ 0 ≤ r.toInt ∧ r.toInt ≤ 1 ∧ g = g') := by
  refine LW_ls (ls' := [some (.ref 332), some (.int x1)]) rfl ?_
  refine X_aload_n rfl rfl rfl rfl ?_
  refine S_getI rfl rfl rfl ((congrFun V.1 332).trans s_332) rfl (fun vz1 evz1 => ?_)
  have vf2 := K_16_0 (V.2.2.2.2.1 (332) (0) (Nat.le_of_ble_eq_true rfl)) rk_332
  rw [evz1] at vf2
  refine X_iload_n rfl rfl rfl rfl ?_
  refine S_iadd rfl rfl rfl hx1 (by omega) (fun vz3 hvz3 => ?_)
  refine X_sipush (v := (300 : Int32)) rfl rfl rfl ?_
  refine S_icmp_gt (tgt := 16) rfl rfl rfl rfl (show (300 : Int32).toInt = 300 from rfl) (fun vh4 => ?_) (fun vh4 => ?_)
  · refine X_iconst (v := (0 : Int32)) rfl rfl rfl ?_
    exact LW_ireturn (st := []) rfl rfl rfl ⟨_, rfl, by decide, by decide, rfl⟩
  · refine X_iconst (v := (1 : Int32)) rfl rfl rfl ?_
    refine LW_goto (tgt := 17) rfl rfl ?_
    exact LW_ireturn (st := []) rfl rfl rfl ⟨_, rfl, by decide, by decide, rfl⟩
set_option maxRecDepth 10000 in
set_option maxHeartbeats 40000000 in
theorem C_X10_put_3 {P : Par} {g g0 : LH} {d n : Nat}  (V : Inv P g) (hG : Gr g = Gr g0) (hK : Gi g 1 5 = Gi g0 1 5) (x1 : Int32) (y1 : Int) (hx1 : x1.toInt = y1) (x2 : Int32) (y2 : Int) (hx2 : x2.toInt = y2) (hf2 : (-10001) ≤ y2 ∧ y2 ≤ 24)  (hmu : (y2 - (-10001)) * 1 + 0 < (n : Int) + 1) (ih3 : ∀ (g : LH) (V : Inv P g) (hG : Gr g = Gr g0) (hK : Gi g 1 5 = Gi g0 1 5) (x1 : Int32) (y1 : Int) (hx1 : x1.toInt = y1) (x2 : Int32) (y2 : Int) (hx2 : x2.toInt = y2) (hf2 : (-10001) ≤ y2 ∧ y2 ≤ 24) , (y2 - (-10001)) * 1 + 0 < (n : Int) → LW 112 (d + 3) 0 0 3 [some (.ref 332), some (.int x1), some (.int x2)] [] g (fun v g' => v = none ∧ Inv P g' ∧ Gr g' = Gr g0 ∧ Gi g' 1 5 = Gi g0 1 5)) : LW 112 (d + 3) 0 0 3 [some (.ref 332), some (.int x1), some (.int x2)] [] g (fun v g' => v = none ∧ Inv P g' ∧ Gr g' = Gr g0 ∧ Gi g' 1 5 = Gi g0 1 5) := by
  refine X_iload_n rfl rfl rfl rfl ?_
  refine S_if_lt (tgt := 49) rfl rfl rfl hx2 (fun vh1 => ?_) (fun vh1 => ?_)
  · exact LW_return (st := []) rfl rfl ⟨rfl, V, hG, hK⟩
  · refine X_aload_n rfl rfl rfl rfl ?_
    refine S_getI rfl rfl rfl ((congrFun V.1 332).trans s_332) rfl (fun vz2 evz2 => ?_)
    have vf3 := K_16_0 (V.2.2.2.2.1 (332) (0) (Nat.le_of_ble_eq_true rfl)) rk_332
    rw [evz2] at vf3
    refine X_sipush (v := (300 : Int32)) rfl rfl rfl ?_
    refine S_icmp_ge (tgt := 43) rfl rfl rfl rfl (show (300 : Int32).toInt = 300 from rfl) (fun vh4 => ?_) (fun vh4 => ?_)
    · refine S_iinc (c := (-8)) rfl rfl rfl hx2 rfl (by omega) (fun vz5 hvz5 => ?_)
      refine LW_ls (ls' := [some (.ref 332), some (.int x1), some (.int vz5)]) rfl ?_
      refine LW_goto (tgt := 3) rfl rfl ?_
      exact ih3 _ V hG hK x1 y1 hx1 vz5 vz5.toInt rfl (by omega)    (by omega)
    · refine X_aload_n rfl rfl rfl rfl ?_
      refine X_getR (a := 333) rfl rfl rfl ((congrFun V.1 332).trans s_332) rfl ((congrFun (V.2.1 332 (by decide)) 1).trans r_332_1) ?_
      refine X_aload_n rfl rfl rfl rfl ?_
      refine X_getI (v := vz2) rfl rfl rfl ((congrFun V.1 332).trans s_332) rfl evz2 ?_
      refine X_iload_n rfl rfl rfl rfl ?_
      refine X_iload_n rfl rfl rfl rfl ?_
      refine S_iushrT rfl rfl (fun vz6 => ?_)
      refine X_sipush (v := (255 : Int32)) rfl rfl rfl ?_
      refine S_iandR (k := 8) rfl rfl rfl (fun vz7 hvz7 => ?_)
      refine S_iast (I := Inv _) rfl rfl ((congrFun V.1 333).trans s_333) rfl (by omega) (Inv_putI V (Nat.le_of_ble_eq_true rfl) (Or.inl (by decide)) (Q_7 rk_333 (by omega))) (fun g V ve8 vn9 hq => ?_)
      have hG := hq.trans hG
      have hK := (vn9 1 5 (Or.inl (by decide))).trans hK
      have evz2 := (vn9 (332) 0 (Or.inl (by decide))).trans evz2
      refine X_aload_n rfl rfl rfl rfl ?_
      refine X_dup rfl rfl rfl ?_
      refine X_getI (v := vz2) rfl rfl rfl ((congrFun V.1 332).trans s_332) rfl evz2 ?_
      refine X_iconst (v := (1 : Int32)) rfl rfl rfl ?_
      refine S_iadd rfl rfl rfl (show (1 : Int32).toInt = 1 from rfl) (by omega) (fun vz10 hvz10 => ?_)
      refine S_putI (I := Inv _) rfl rfl rfl ((congrFun V.1 332).trans s_332) rfl rfl rfl rfl (Inv_putI V (Nat.le_of_ble_eq_true rfl) (Or.inl (by decide)) (Q_16_0 rk_332 (by omega))) (fun g V ve11 vn12 hq => ?_)
      have hG := hq.trans hG
      have hK := (vn12 1 5 (Or.inl (by decide))).trans hK
      refine S_iinc (c := (-8)) rfl rfl rfl hx2 rfl (by omega) (fun vz13 hvz13 => ?_)
      refine LW_ls (ls' := [some (.ref 332), some (.int x1), some (.int vz13)]) rfl ?_
      refine LW_goto (tgt := 3) rfl rfl ?_
      exact ih3 _ V hG hK x1 y1 hx1 vz13 vz13.toInt rfl (by omega)    (by omega)
theorem C_X10_put_all {P : Par} {g0 : LH} {d : Nat}  : ∀ n : Nat, (∀ (g : LH) (V : Inv P g) (hG : Gr g = Gr g0) (hK : Gi g 1 5 = Gi g0 1 5) (x1 : Int32) (y1 : Int) (hx1 : x1.toInt = y1) (x2 : Int32) (y2 : Int) (hx2 : x2.toInt = y2) (hf2 : (-10001) ≤ y2 ∧ y2 ≤ 24) , (y2 - (-10001)) * 1 + 0 < (n : Int) → LW 112 (d + 3) 0 0 3 [some (.ref 332), some (.int x1), some (.int x2)] [] g (fun v g' => v = none ∧ Inv P g' ∧ Gr g' = Gr g0 ∧ Gi g' 1 5 = Gi g0 1 5)) := by
  intro n
  induction n with
  | zero => exact fun g V hG hK x1 y1 hx1 x2 y2 hx2 hf2 hmu => absurd hmu (by omega)
  | succ n ih => exact fun g V hG hK x1 y1 hx1 x2 y2 hx2 hf2 hmu => C_X10_put_3  V hG hK x1 y1 hx1 x2 y2 hx2 hf2 (by omega) ih
set_option maxRecDepth 10000 in
set_option maxHeartbeats 40000000 in
theorem C_X10_put {P : Par} {g : LH} {d : Nat}  (V : Inv P g) (x1 : Int32) (y1 : Int) (hx1 : x1.toInt = y1)   : LW 112 (d + 3) 0 0 0 (lEnt (mL 112) [.ref 332, .int x1]) [] g (fun v g' => v = none ∧ Inv P g' ∧ Gr g' = Gr g ∧ Gi g' 1 5 = Gi g 1 5) := by
  refine LW_ls (ls' := [some (.ref 332), some (.int x1), none]) rfl ?_
  have hG : Gr g = Gr g := rfl
  have hK : Gi g 1 5 = Gi g 1 5 := rfl
  refine X_bipush (v := (24 : Int32)) rfl rfl rfl ?_
  refine X_istore_n (i := 2) (ls' := [some (.ref 332), some (.int x1), some (.int (24 : Int32))]) rfl rfl rfl (Nat.le_of_ble_eq_true rfl) rfl ?_
  exact (C_X10_put_all (((24 - (-10001)) * 1 + 0) + 1 : Int).toNat) _ V hG hK x1 y1 hx1 (24 : Int32) 24 (show (24 : Int32).toInt = 24 from rfl) (by omega)    (by omega)
