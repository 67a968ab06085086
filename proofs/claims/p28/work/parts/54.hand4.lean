/-! the reference: dear -/
set_option maxRecDepth 10000 in
set_option maxHeartbeats 40000000 in
theorem C_X13_dear_24 {P : Par} {g g0 : LH} {d n : Nat}  (V : InvR P g) (hG : Gr g = Gr g0) (x1 : Int32) (y1 : Int) (hx1 : x1.toInt = y1) (hf1 : 0 ≤ y1 ∧ y1 ≤ 7) (x2 : Int32) (y2 : Int) (hx2 : x2.toInt = y2) (x3 : Int32) (y3 : Int) (hx3 : x3.toInt = y3) (hf3 : 0 ≤ y3 ∧ y3 ≤ 8) (hc356_1 : 1 ≤ (Gi g 356 1).toInt ∧ (Gi g 356 1).toInt ≤ 8) (hq0 : SS (Gi g 356) (Int.toNat (y1))) (hmu : (8 - y3) * 1 + 0 < (n : Int) + 1) (ih24 : ∀ (g : LH) (V : InvR P g) (hG : Gr g = Gr g0) (x1 : Int32) (y1 : Int) (hx1 : x1.toInt = y1) (hf1 : 0 ≤ y1 ∧ y1 ≤ 7) (x2 : Int32) (y2 : Int) (hx2 : x2.toInt = y2) (x3 : Int32) (y3 : Int) (hx3 : x3.toInt = y3) (hf3 : 0 ≤ y3 ∧ y3 ≤ 8) (hc356_1 : 1 ≤ (Gi g 356 1).toInt ∧ (Gi g 356 1).toInt ≤ 8) (hq0 : SS (Gi g 356) (Int.toNat (y1))), (8 - y3) * 1 + 0 < (n : Int) → LW 277 (d + 60) 0 0 24 [some (.ref 355), some (.int x1), some (.int x2), some (.int x3)] [] g (fun v g' => ∃ r : Int32, v = some (.int r) ∧ InvR P g' ∧ Gr g' = Gr g0)) : LW 277 (d + 60) 0 0 24 [some (.ref 355), some (.int x1), some (.int x2), some (.int x3)] [] g (fun v g' => ∃ r : Int32, v = some (.int r) ∧ InvR P g' ∧ Gr g' = Gr g0) := by
  obtain ⟨vz1, evz1⟩ : ∃ z, Gi g 356 1 = z := ⟨_, rfl⟩
  rw [evz1] at hc356_1
  refine X_iload_n rfl rfl rfl rfl ?_
  refine X_aload_n rfl rfl rfl rfl ?_
  refine X_iload_n rfl rfl rfl rfl ?_
  refine X_callV (as := [.int x1]) (st := [.int x3]) rfl rfl rfl (by decide) rfl (Nat.le_of_ble_eq_true rfl) (by decide) (Nat.le_of_ble_eq_true rfl) rfl ((congrFun V.1 355).trans s_355) (by decide) ?_
  refine LW_ls (ls' := [some (.ref 355), some (.int x1)]) rfl ?_
  refine X_aload_n rfl rfl rfl rfl ?_
  refine X_getR (a := 356) rfl rfl rfl ((congrFun V.1 355).trans s_355) rfl ((congrFun (V.2.1 355 (by decide)) 0).trans r_355_0) ?_
  refine X_sipush (v := (356 : Int32)) rfl rfl rfl ?_
  refine X_bipush (v := (9 : Int32)) rfl rfl rfl ?_
  refine X_iload_n rfl rfl rfl rfl ?_
  refine S_imul rfl rfl (show (9 : Int32).toInt = 9 from rfl) hx1 (by omega) (fun vz2 hvz2 => ?_)
  refine S_iadd rfl rfl (show (356 : Int32).toInt = 356 from rfl) rfl (by omega) (fun vz3 hvz3 => ?_)
  refine S_iald rfl rfl ((congrFun V.1 356).trans s_356) rfl (by omega) (fun vz4 evz4 => ?_)
  have vf5 := A_SCOUNT (V.2.2.2.1 ((vz3.toInt : Int).toNat)) (by omega)
  rw [evz4] at vf5
  refine LW_ireturn (st := []) rfl rfl rfl ?_
  refine S_icmp_ge (tgt := 58) rfl rfl rfl hx3 rfl (fun vh6 => ?_) (fun vh6 => ?_)
  · refine X_iload_n rfl rfl rfl rfl ?_
    exact LW_ireturn (st := []) rfl rfl rfl ⟨_, rfl, V, hG⟩
  · refine X_iload_n rfl rfl rfl rfl ?_
    refine X_aload_n rfl rfl rfl rfl ?_
    refine X_aload_n rfl rfl rfl rfl ?_
    refine X_aload_n rfl rfl rfl rfl ?_
    refine X_iload_n rfl rfl rfl rfl ?_
    refine X_iload_n rfl rfl rfl rfl ?_
    refine X_callV (as := [.int x1, .int x3]) (st := [.ref 355, .ref 355, .int x2]) rfl rfl rfl (by decide) rfl (Nat.le_of_ble_eq_true rfl) (by decide) (Nat.le_of_ble_eq_true rfl) rfl ((congrFun V.1 355).trans s_355) (by decide) ?_
    refine LW_ls (ls' := [some (.ref 355), some (.int x1), some (.int x3)]) rfl ?_
    refine X_aload_n rfl rfl rfl rfl ?_
    refine X_getR (a := 356) rfl rfl rfl ((congrFun V.1 355).trans s_355) rfl ((congrFun (V.2.1 355 (by decide)) 0).trans r_355_0) ?_
    refine X_sipush (v := (356 : Int32)) rfl rfl rfl ?_
    refine X_bipush (v := (9 : Int32)) rfl rfl rfl ?_
    refine X_iload_n rfl rfl rfl rfl ?_
    refine S_imul rfl rfl (show (9 : Int32).toInt = 9 from rfl) hx1 (by omega) (fun vz7 hvz7 => ?_)
    refine S_iadd rfl rfl (show (356 : Int32).toInt = 356 from rfl) rfl (by omega) (fun vz8 hvz8 => ?_)
    refine X_iconst (v := (1 : Int32)) rfl rfl rfl ?_
    refine S_iadd rfl rfl rfl (show (1 : Int32).toInt = 1 from rfl) (by omega) (fun vz9 hvz9 => ?_)
    refine X_iload_n rfl rfl rfl rfl ?_
    refine S_iadd rfl rfl rfl hx3 (by omega) (fun vz10 hvz10 => ?_)
    refine S_iald rfl rfl ((congrFun V.1 356).trans s_356) rfl (by omega) (fun vz11 evz11 => ?_)
    refine LW_ireturn (st := []) rfl rfl rfl ?_
    refine X_iconst (v := (0 : Int32)) rfl rfl rfl ?_
    refine X_iconst (v := (1 : Int32)) rfl rfl rfl ?_
    refine Y_callV (as := [.int vz11, .int (0 : Int32), .int (1 : Int32)]) (st := [.ref 355, .int x2]) rfl rfl rfl (by decide) rfl (Nat.le_of_ble_eq_true rfl) (by decide) (Nat.le_of_ble_eq_true rfl) rfl ((congrFun V.1 355).trans s_355) (by decide) (C_X13_wordFor V vz11 vz11.toInt rfl (0 : Int32) 0 (show (0 : Int32).toInt = 0 from rfl) (1 : Int32) 1 (show (1 : Int32).toInt = 1 from rfl) (by omega) ) ?_
    rintro _ g' ⟨vr12, rfl, hrvr120, hrvr121, hgg, vq13⟩
    subst hgg
    have h0vr12 : 0 ≤ vr12.toInt := (by
        refine (vq13 rfl).2 ?_
        have vhb := hq0 (Int.toNat y3) (by
          rw [show 356 + 9 * Int.toNat y1 = Int.toNat vz3.toInt by omega, evz4]
          omega)
        rw [show 357 + 9 * Int.toNat y1 + Int.toNat y3 = Int.toNat vz10.toInt by omega, evz11] at vhb
        exact vhb)
    refine Y_callV (as := [.int vr12]) (st := [.int x2]) rfl rfl rfl (by decide) rfl (Nat.le_of_ble_eq_true rfl) (by decide) (Nat.le_of_ble_eq_true rfl) rfl ((congrFun V.1 355).trans s_355) (by decide) (C_X13_priceOf V vr12 vr12.toInt rfl (by omega) ) ?_
    rintro _ g ⟨vr14, rfl, V, hq, chA⟩
    have hG := hq.trans hG
    have evz1 := (congrFun chA 1).trans evz1
    refine S_iaddT rfl rfl (fun vz15 => ?_)
    refine X_istore_n (i := 2) (ls' := [some (.ref 355), some (.int x1), some (.int vz15), some (.int x3)]) rfl rfl rfl (Nat.le_of_ble_eq_true rfl) rfl ?_
    refine S_iinc (c := 1) rfl rfl rfl hx3 rfl (by omega) (fun vz16 hvz16 => ?_)
    refine LW_ls (ls' := [some (.ref 355), some (.int x1), some (.int vz15), some (.int vz16)]) rfl ?_
    refine LW_goto (tgt := 24) rfl rfl ?_
    exact ih24 _ V hG x1 y1 hx1 (by omega) vz15 vz15.toInt rfl vz16 vz16.toInt rfl (by omega) (by rw [evz1]; omega) (by
        rw [chA]
        exact hq0)  (by omega)
theorem C_X13_dear_all {P : Par} {g0 : LH} {d : Nat}  : ∀ n : Nat, (∀ (g : LH) (V : InvR P g) (hG : Gr g = Gr g0) (x1 : Int32) (y1 : Int) (hx1 : x1.toInt = y1) (hf1 : 0 ≤ y1 ∧ y1 ≤ 7) (x2 : Int32) (y2 : Int) (hx2 : x2.toInt = y2) (x3 : Int32) (y3 : Int) (hx3 : x3.toInt = y3) (hf3 : 0 ≤ y3 ∧ y3 ≤ 8) (hc356_1 : 1 ≤ (Gi g 356 1).toInt ∧ (Gi g 356 1).toInt ≤ 8) (hq0 : SS (Gi g 356) (Int.toNat (y1))), (8 - y3) * 1 + 0 < (n : Int) → LW 277 (d + 60) 0 0 24 [some (.ref 355), some (.int x1), some (.int x2), some (.int x3)] [] g (fun v g' => ∃ r : Int32, v = some (.int r) ∧ InvR P g' ∧ Gr g' = Gr g0)) := by
  intro n
  induction n with
  | zero => exact fun g V hG x1 y1 hx1 hf1 x2 y2 hx2 x3 y3 hx3 hf3 hc356_1 hq0 hmu => absurd hmu (by omega)
  | succ n ih => exact fun g V hG x1 y1 hx1 hf1 x2 y2 hx2 x3 y3 hx3 hf3 hc356_1 hq0 hmu => C_X13_dear_24  V hG x1 y1 hx1 hf1 x2 y2 hx2 x3 y3 hx3 hf3 hc356_1 hq0 (by omega) ih
set_option maxRecDepth 10000 in
set_option maxHeartbeats 40000000 in
theorem C_X13_dear {P : Par} {g : LH} {d : Nat}  (V : InvR P g) (x1 : Int32) (y1 : Int) (hx1 : x1.toInt = y1)   : LW 277 (d + 60) 0 0 0 (lEnt (mL 277) [.ref 355, .int x1]) [] g (fun v g' => ∃ r : Int32, v = some (.int r) ∧ InvR P g' ∧ Gr g' = Gr g) := by
  refine LW_ls (ls' := [some (.ref 355), some (.int x1), none, none]) rfl ?_
  have hG : Gr g = Gr g := rfl
  refine X_aload_n rfl rfl rfl rfl ?_
  refine X_iload_n rfl rfl rfl rfl ?_
  refine X_callV (as := [.int x1]) (st := []) rfl rfl rfl (by decide) rfl (Nat.le_of_ble_eq_true rfl) (by decide) (Nat.le_of_ble_eq_true rfl) rfl ((congrFun V.1 355).trans s_355) (by decide) ?_
  refine LW_ls (ls' := [some (.ref 355), some (.int x1)]) rfl ?_
  refine X_iload_n rfl rfl rfl rfl ?_
  refine X_iconst (v := (0 : Int32)) rfl rfl rfl ?_
  refine X_aload_n rfl rfl rfl rfl ?_
  refine X_getR (a := 356) rfl rfl rfl ((congrFun V.1 355).trans s_355) rfl ((congrFun (V.2.1 355 (by decide)) 0).trans r_355_0) ?_
  refine X_iconst (v := (1 : Int32)) rfl rfl rfl ?_
  refine S_iald rfl rfl ((congrFun V.1 356).trans s_356) (show (1 : Int32).toInt = 1 from rfl) (by omega) (fun vz1 evz1 => ?_)
  have evz1 : Gi g 356 1 = vz1 := evz1
  have vf2 := A_SAYS (V.2.2.2.1 (1)) (by omega)
  rw [evz1] at vf2
  refine X_iconst (v := (1 : Int32)) rfl rfl rfl ?_
  refine S_isub rfl rfl rfl (show (1 : Int32).toInt = 1 from rfl) (by omega) (fun vz3 hvz3 => ?_)
  refine X_callS (as := [.int x1, .int (0 : Int32), .int vz3]) (st := []) rfl rfl rfl (by decide) rfl (Nat.le_of_ble_eq_true rfl) (by decide) (Nat.le_of_ble_eq_true rfl) rfl ?_
  refine LW_ls (ls' := [some (.int x1), some (.int (0 : Int32)), some (.int vz3)]) rfl ?_
  refine X_iload_n rfl rfl rfl rfl ?_
  refine X_iload_n rfl rfl rfl rfl ?_
  refine S_icmp_lt (tgt := 14) rfl rfl rfl hx1 (show (0 : Int32).toInt = 0 from rfl) (fun vh4 => ?_) (fun vh4 => ?_)
  · refine X_iconst (v := (0 : Int32)) rfl rfl rfl ?_
    refine LW_ireturn (st := []) rfl rfl rfl ?_
    refine LW_ireturn (st := []) rfl rfl rfl ?_
    refine S_if_eq (tgt := 18) rfl rfl rfl (show (0 : Int32).toInt = 0 from rfl) (fun vh5 => ?_) (fun q => absurd q (by omega))
    refine X_iconst (v := (-1 : Int32)) rfl rfl rfl ?_
    exact LW_ireturn (st := []) rfl rfl rfl ⟨_, rfl, V, hG⟩
  · refine X_iload_n rfl rfl rfl rfl ?_
    refine X_iload_n rfl rfl rfl rfl ?_
    refine S_icmp_gt (tgt := 14) rfl rfl rfl hx1 rfl (fun vh6 => ?_) (fun vh6 => ?_)
    · refine X_iconst (v := (0 : Int32)) rfl rfl rfl ?_
      refine LW_ireturn (st := []) rfl rfl rfl ?_
      refine LW_ireturn (st := []) rfl rfl rfl ?_
      refine S_if_eq (tgt := 18) rfl rfl rfl (show (0 : Int32).toInt = 0 from rfl) (fun vh7 => ?_) (fun q => absurd q (by omega))
      refine X_iconst (v := (-1 : Int32)) rfl rfl rfl ?_
      exact LW_ireturn (st := []) rfl rfl rfl ⟨_, rfl, V, hG⟩
    · refine X_iconst (v := (1 : Int32)) rfl rfl rfl ?_
      refine LW_goto (tgt := 15) rfl rfl ?_
      refine LW_ireturn (st := []) rfl rfl rfl ?_
      refine LW_ireturn (st := []) rfl rfl rfl ?_
      refine S_if_eq (tgt := 18) rfl rfl rfl (show (1 : Int32).toInt = 1 from rfl) (fun q => absurd q (by omega)) (fun vh8 => ?_)
      refine X_aload_n rfl rfl rfl rfl ?_
      refine X_iload_n rfl rfl rfl rfl ?_
      refine X_iconst (v := (0 : Int32)) rfl rfl rfl ?_
      refine X_iconst (v := (1 : Int32)) rfl rfl rfl ?_
      refine Y_callV (as := [.int x1, .int (0 : Int32), .int (1 : Int32)]) (st := []) rfl rfl rfl (by decide) rfl (Nat.le_of_ble_eq_true rfl) (by decide) (Nat.le_of_ble_eq_true rfl) rfl ((congrFun V.1 355).trans s_355) (by decide) (C_X13_canSay V x1 y1 hx1 (by omega) (0 : Int32) 0 (show (0 : Int32).toInt = 0 from rfl) (1 : Int32) 1 (show (1 : Int32).toInt = 1 from rfl) (by omega) ) ?_
      rintro _ g' ⟨vr9, rfl, hrvr90, hrvr91, hgg, vq10⟩
      subst hgg
      refine S_if_ne (tgt := 20) rfl rfl rfl rfl (fun vh11 => ?_) (fun vh11 => ?_)
      · refine X_iconst (v := (0 : Int32)) rfl rfl rfl ?_
        refine X_istore_n (i := 2) (ls' := [some (.ref 355), some (.int x1), some (.int (0 : Int32)), none]) rfl rfl rfl (Nat.le_of_ble_eq_true rfl) rfl ?_
        refine X_iconst (v := (0 : Int32)) rfl rfl rfl ?_
        refine X_istore_n (i := 3) (ls' := [some (.ref 355), some (.int x1), some (.int (0 : Int32)), some (.int (0 : Int32))]) rfl rfl rfl (Nat.le_of_ble_eq_true rfl) rfl ?_
        exact (C_X13_dear_all (((8 - 0) * 1 + 0) + 1 : Int).toNat) _ V hG x1 y1 hx1 (by omega) (0 : Int32) 0 (show (0 : Int32).toInt = 0 from rfl) (0 : Int32) 0 (show (0 : Int32).toInt = 0 from rfl) (by omega) (by rw [evz1]; omega) (by
        exact vq10 rfl (by omega))  (by omega)
      · refine X_iconst (v := (-1 : Int32)) rfl rfl rfl ?_
        exact LW_ireturn (st := []) rfl rfl rfl ⟨_, rfl, V, hG⟩
