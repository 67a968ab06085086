/-! the reference: parts of what is yet to come -/
set_option maxRecDepth 10000 in
set_option maxHeartbeats 40000000 in
theorem C_X13_areContent_2 {P : Par} {g : LH} {d n : Nat}  (V : InvR P g) (x1 : Int32) (y1 : Int) (hx1 : x1.toInt = y1) (hf1 : 1 ≤ y1 ∧ y1 ≤ 16) (o2 : Option Value) (o3 : Option Value)  (hmu : (16 - y1) * 8 + 7 < (n : Int) + 1) (ih2 : ∀ (V : InvR P g) (x1 : Int32) (y1 : Int) (hx1 : x1.toInt = y1) (hf1 : 1 ≤ y1 ∧ y1 ≤ 16) (o2 : Option Value) (o3 : Option Value) , (16 - y1) * 8 + 7 < (n : Int) → LW 291 (d + 6) 0 0 2 [some (.ref 355), some (.int x1), o2, o3] [] g (fun v g' => ∃ r : Int32, v = some (.int r) ∧ 0 ≤ r.toInt ∧ r.toInt ≤ 1 ∧ g = g')) (ih19 : ∀ (V : InvR P g) (x1 : Int32) (y1 : Int) (hx1 : x1.toInt = y1) (hf1 : 1 ≤ y1 ∧ y1 ≤ 15) (x2 : Int32) (y2 : Int) (hx2 : x2.toInt = y2) (x3 : Int32) (y3 : Int) (hx3 : x3.toInt = y3) (hf3 : 0 ≤ y3 ∧ y3 ≤ 4) (hc356_8 : 0 ≤ (Gi g 356 8).toInt ∧ (Gi g 356 8).toInt ≤ 4), (16 - y1) * 8 + 0 + (4 - y3) * 1 + 0 < (n : Int) → LW 291 (d + 6) 0 0 19 [some (.ref 355), some (.int x1), some (.int x2), some (.int x3)] [] g (fun v g' => ∃ r : Int32, v = some (.int r) ∧ 0 ≤ r.toInt ∧ r.toInt ≤ 1 ∧ g = g')) : LW 291 (d + 6) 0 0 2 [some (.ref 355), some (.int x1), o2, o3] [] g (fun v g' => ∃ r : Int32, v = some (.int r) ∧ 0 ≤ r.toInt ∧ r.toInt ≤ 1 ∧ g = g') := by
  refine X_iload_n rfl rfl rfl rfl ?_
  refine X_iconst (v := (1 : Int32)) rfl rfl rfl ?_
  refine X_aload_n rfl rfl rfl rfl ?_
  refine X_getR (a := 356) rfl rfl rfl ((congrFun V.1 355).trans s_355) rfl ((congrFun (V.2.1 355 (by decide)) 0).trans r_355_0) ?_
  refine X_bipush (v := (8 : Int32)) rfl rfl rfl ?_
  refine S_iald rfl rfl ((congrFun V.1 356).trans s_356) (show (8 : Int32).toInt = 8 from rfl) (by omega) (fun vz1 evz1 => ?_)
  have evz1 : Gi g 356 8 = vz1 := evz1
  have vf2 := A_PARTS (V.2.2.2.1 (8)) (by omega)
  rw [evz1] at vf2
  have pvz1 := V.2.2.2.2.2.2.2.2.1
  rw [evz1] at pvz1
  refine S_shl1 (n := 4) rfl rfl rfl (by omega) (fun vz3 hvz3 => ?_)
  refine S_icmp_ge (tgt := 75) rfl rfl rfl hx1 rfl (fun vh4 => ?_) (fun vh4 => ?_)
  · refine X_iconst (v := (1 : Int32)) rfl rfl rfl ?_
    exact LW_ireturn (st := []) rfl rfl rfl ⟨_, rfl, by decide, by decide, rfl⟩
  · refine X_iconst (v := (0 : Int32)) rfl rfl rfl ?_
    refine X_istore_n (i := 2) (ls' := [some (.ref 355), some (.int x1), some (.int (0 : Int32)), o3]) rfl rfl rfl (Nat.le_of_ble_eq_true rfl) rfl ?_
    refine X_iconst (v := (0 : Int32)) rfl rfl rfl ?_
    refine X_istore_n (i := 3) (ls' := [some (.ref 355), some (.int x1), some (.int (0 : Int32)), some (.int (0 : Int32))]) rfl rfl rfl (Nat.le_of_ble_eq_true rfl) rfl ?_
    exact ih19 V x1 y1 hx1 (by omega) (0 : Int32) 0 (show (0 : Int32).toInt = 0 from rfl) (0 : Int32) 0 (show (0 : Int32).toInt = 0 from rfl) (by omega) (by rw [evz1]; omega)   (by omega)
set_option maxRecDepth 10000 in
set_option maxHeartbeats 40000000 in
theorem C_X13_areContent_19 {P : Par} {g : LH} {d n : Nat}  (V : InvR P g) (x1 : Int32) (y1 : Int) (hx1 : x1.toInt = y1) (hf1 : 1 ≤ y1 ∧ y1 ≤ 15) (x2 : Int32) (y2 : Int) (hx2 : x2.toInt = y2) (x3 : Int32) (y3 : Int) (hx3 : x3.toInt = y3) (hf3 : 0 ≤ y3 ∧ y3 ≤ 4) (hc356_8 : 0 ≤ (Gi g 356 8).toInt ∧ (Gi g 356 8).toInt ≤ 4) (hmu : (16 - y1) * 8 + 0 + (4 - y3) * 1 + 0 < (n : Int) + 1) (ih2 : ∀ (V : InvR P g) (x1 : Int32) (y1 : Int) (hx1 : x1.toInt = y1) (hf1 : 1 ≤ y1 ∧ y1 ≤ 16) (o2 : Option Value) (o3 : Option Value) , (16 - y1) * 8 + 7 < (n : Int) → LW 291 (d + 6) 0 0 2 [some (.ref 355), some (.int x1), o2, o3] [] g (fun v g' => ∃ r : Int32, v = some (.int r) ∧ 0 ≤ r.toInt ∧ r.toInt ≤ 1 ∧ g = g')) (ih19 : ∀ (V : InvR P g) (x1 : Int32) (y1 : Int) (hx1 : x1.toInt = y1) (hf1 : 1 ≤ y1 ∧ y1 ≤ 15) (x2 : Int32) (y2 : Int) (hx2 : x2.toInt = y2) (x3 : Int32) (y3 : Int) (hx3 : x3.toInt = y3) (hf3 : 0 ≤ y3 ∧ y3 ≤ 4) (hc356_8 : 0 ≤ (Gi g 356 8).toInt ∧ (Gi g 356 8).toInt ≤ 4), (16 - y1) * 8 + 0 + (4 - y3) * 1 + 0 < (n : Int) → LW 291 (d + 6) 0 0 19 [some (.ref 355), some (.int x1), some (.int x2), some (.int x3)] [] g (fun v g' => ∃ r : Int32, v = some (.int r) ∧ 0 ≤ r.toInt ∧ r.toInt ≤ 1 ∧ g = g')) : LW 291 (d + 6) 0 0 19 [some (.ref 355), some (.int x1), some (.int x2), some (.int x3)] [] g (fun v g' => ∃ r : Int32, v = some (.int r) ∧ 0 ≤ r.toInt ∧ r.toInt ≤ 1 ∧ g = g') := by
  obtain ⟨vz1, evz1⟩ : ∃ z, Gi g 356 8 = z := ⟨_, rfl⟩
  rw [evz1] at hc356_8
  refine X_iload_n rfl rfl rfl rfl ?_
  refine X_aload_n rfl rfl rfl rfl ?_
  refine X_getR (a := 356) rfl rfl rfl ((congrFun V.1 355).trans s_355) rfl ((congrFun (V.2.1 355 (by decide)) 0).trans r_355_0) ?_
  refine X_bipush (v := (8 : Int32)) rfl rfl rfl ?_
  refine S_iald_v rfl rfl ((congrFun V.1 356).trans s_356) (show (8 : Int32).toInt = 8 from rfl) (by omega) evz1 ?_
  refine S_icmp_ge (tgt := 57) rfl rfl rfl hx3 rfl (fun vh3 => ?_) (fun vh3 => ?_)
  · refine X_iload_n rfl rfl rfl rfl ?_
    refine X_aload_n rfl rfl rfl rfl ?_
    refine X_getR (a := 371) rfl rfl rfl ((congrFun V.1 355).trans s_355) rfl ((congrFun (V.2.1 355 (by decide)) 35).trans r_355_35) ?_
    refine X_iload_n rfl rfl rfl rfl ?_
    refine S_iald rfl rfl ((congrFun V.1 371).trans s_371) hx1 (by omega) (fun vz4 evz4 => ?_)
    refine S_icmp_ge (tgt := 69) rfl rfl rfl hx2 rfl (fun vh5 => ?_) (fun vh5 => ?_)
    · refine S_iinc (c := 1) rfl rfl rfl hx1 rfl (by omega) (fun vz6 hvz6 => ?_)
      refine LW_ls (ls' := [some (.ref 355), some (.int vz6), some (.int x2), some (.int x3)]) rfl ?_
      refine LW_goto (tgt := 2) rfl rfl ?_
      exact ih2 V vz6 vz6.toInt rfl (by omega) (some (.int x2)) (some (.int x3))    (by omega)
    · refine X_iconst (v := (0 : Int32)) rfl rfl rfl ?_
      exact LW_ireturn (st := []) rfl rfl rfl ⟨_, rfl, by decide, by decide, rfl⟩
  · refine X_iload_n rfl rfl rfl rfl ?_
    refine X_iload_n rfl rfl rfl rfl ?_
    refine X_iload_n rfl rfl rfl rfl ?_
    refine X_callS (as := [.int x1, .int x3]) (st := [.int x2]) rfl rfl rfl (by decide) rfl (Nat.le_of_ble_eq_true rfl) (by decide) (Nat.le_of_ble_eq_true rfl) rfl ?_
    refine LW_ls (ls' := [some (.int x1), some (.int x3)]) rfl ?_
    refine X_iload_n rfl rfl rfl rfl ?_
    refine X_iload_n rfl rfl rfl rfl ?_
    refine S_ishrT rfl rfl (fun vz7 => ?_)
    refine X_iconst (v := (1 : Int32)) rfl rfl rfl ?_
    refine S_iandR (k := 1) rfl rfl rfl (fun vz8 hvz8 => ?_)
    refine X_iconst (v := (1 : Int32)) rfl rfl rfl ?_
    refine S_icmp_ne (tgt := 13) rfl rfl rfl rfl (show (1 : Int32).toInt = 1 from rfl) (fun vh9 => ?_) (fun vh9 => ?_)
    · refine X_iconst (v := (0 : Int32)) rfl rfl rfl ?_
      refine LW_ireturn (st := []) rfl rfl rfl ?_
      refine S_if_eq (tgt := 48) rfl rfl rfl (show (0 : Int32).toInt = 0 from rfl) (fun vh10 => ?_) (fun q => absurd q (by omega))
      refine X_iconst (v := (0 : Int32)) rfl rfl rfl ?_
      refine S_iaddT rfl rfl (fun vz11 => ?_)
      refine X_istore_n (i := 2) (ls' := [some (.ref 355), some (.int x1), some (.int vz11), some (.int x3)]) rfl rfl rfl (Nat.le_of_ble_eq_true rfl) rfl ?_
      refine S_iinc (c := 1) rfl rfl rfl hx3 rfl (by omega) (fun vz12 hvz12 => ?_)
      refine LW_ls (ls' := [some (.ref 355), some (.int x1), some (.int vz11), some (.int vz12)]) rfl ?_
      refine LW_goto (tgt := 19) rfl rfl ?_
      exact ih19 V x1 y1 hx1 (by omega) vz11 vz11.toInt rfl vz12 vz12.toInt rfl (by omega) (by rw [evz1]; omega)   (by omega)
    · refine X_iconst (v := (1 : Int32)) rfl rfl rfl ?_
      refine LW_goto (tgt := 14) rfl rfl ?_
      refine LW_ireturn (st := []) rfl rfl rfl ?_
      refine S_if_eq (tgt := 48) rfl rfl rfl (show (1 : Int32).toInt = 1 from rfl) (fun q => absurd q (by omega)) (fun vh13 => ?_)
      refine X_aload_n rfl rfl rfl rfl ?_
      refine X_getR (a := 370) rfl rfl rfl ((congrFun V.1 355).trans s_355) rfl ((congrFun (V.2.1 355 (by decide)) 34).trans r_355_34) ?_
      refine X_iload_n rfl rfl rfl rfl ?_
      refine S_iald rfl rfl ((congrFun V.1 370).trans s_370) hx3 (by omega) (fun vz14 evz14 => ?_)
      refine LW_goto (tgt := 49) rfl rfl ?_
      refine S_iaddT rfl rfl (fun vz15 => ?_)
      refine X_istore_n (i := 2) (ls' := [some (.ref 355), some (.int x1), some (.int vz15), some (.int x3)]) rfl rfl rfl (Nat.le_of_ble_eq_true rfl) rfl ?_
      refine S_iinc (c := 1) rfl rfl rfl hx3 rfl (by omega) (fun vz16 hvz16 => ?_)
      refine LW_ls (ls' := [some (.ref 355), some (.int x1), some (.int vz15), some (.int vz16)]) rfl ?_
      refine LW_goto (tgt := 19) rfl rfl ?_
      exact ih19 V x1 y1 hx1 (by omega) vz15 vz15.toInt rfl vz16 vz16.toInt rfl (by omega) (by rw [evz1]; omega)   (by omega)
theorem C_X13_areContent_all {P : Par} {g : LH} {d : Nat}  : ∀ n : Nat, (∀ (V : InvR P g) (x1 : Int32) (y1 : Int) (hx1 : x1.toInt = y1) (hf1 : 1 ≤ y1 ∧ y1 ≤ 16) (o2 : Option Value) (o3 : Option Value) , (16 - y1) * 8 + 7 < (n : Int) → LW 291 (d + 6) 0 0 2 [some (.ref 355), some (.int x1), o2, o3] [] g (fun v g' => ∃ r : Int32, v = some (.int r) ∧ 0 ≤ r.toInt ∧ r.toInt ≤ 1 ∧ g = g')) ∧ (∀ (V : InvR P g) (x1 : Int32) (y1 : Int) (hx1 : x1.toInt = y1) (hf1 : 1 ≤ y1 ∧ y1 ≤ 15) (x2 : Int32) (y2 : Int) (hx2 : x2.toInt = y2) (x3 : Int32) (y3 : Int) (hx3 : x3.toInt = y3) (hf3 : 0 ≤ y3 ∧ y3 ≤ 4) (hc356_8 : 0 ≤ (Gi g 356 8).toInt ∧ (Gi g 356 8).toInt ≤ 4), (16 - y1) * 8 + 0 + (4 - y3) * 1 + 0 < (n : Int) → LW 291 (d + 6) 0 0 19 [some (.ref 355), some (.int x1), some (.int x2), some (.int x3)] [] g (fun v g' => ∃ r : Int32, v = some (.int r) ∧ 0 ≤ r.toInt ∧ r.toInt ≤ 1 ∧ g = g')) := by
  intro n
  induction n with
  | zero => exact ⟨fun V x1 y1 hx1 hf1 o2 o3 hmu => absurd hmu (by omega), fun V x1 y1 hx1 hf1 x2 y2 hx2 x3 y3 hx3 hf3 hc356_8 hmu => absurd hmu (by omega)⟩
  | succ n ih => exact ⟨fun V x1 y1 hx1 hf1 o2 o3 hmu => C_X13_areContent_2  V x1 y1 hx1 hf1 o2 o3 (by omega) ih.1 ih.2, fun V x1 y1 hx1 hf1 x2 y2 hx2 x3 y3 hx3 hf3 hc356_8 hmu => C_X13_areContent_19  V x1 y1 hx1 hf1 x2 y2 hx2 x3 y3 hx3 hf3 hc356_8 (by omega) ih.1 ih.2⟩
set_option maxRecDepth 10000 in
set_option maxHeartbeats 40000000 in
theorem C_X13_areContent {P : Par} {g : LH} {d : Nat}  (V : InvR P g)    : LW 291 (d + 6) 0 0 0 (lEnt (mL 291) [.ref 355]) [] g (fun v g' => ∃ r : Int32, v = some (.int r) ∧ 0 ≤ r.toInt ∧ r.toInt ≤ 1 ∧ g = g') := by
  refine LW_ls (ls' := [some (.ref 355), none, none, none]) rfl ?_
  refine X_iconst (v := (1 : Int32)) rfl rfl rfl ?_
  refine X_istore_n (i := 1) (ls' := [some (.ref 355), some (.int (1 : Int32)), none, none]) rfl rfl rfl (Nat.le_of_ble_eq_true rfl) rfl ?_
  exact (C_X13_areContent_all (((16 - 1) * 8 + 7) + 1 : Int).toNat).1 V (1 : Int32) 1 (show (1 : Int32).toInt = 1 from rfl) (by omega) none none    (by omega)
set_option maxRecDepth 10000 in
set_option maxHeartbeats 40000000 in
theorem C_X13_areAlike_17 {P : Par} {g : LH} {d n : Nat}  (V : InvR P g) (x1 : Int32) (y1 : Int) (hx1 : x1.toInt = y1) (hf1 : 1 ≤ y1 ∧ y1 ≤ 23) (x2 : Int32) (y2 : Int) (hx2 : x2.toInt = y2) (hf2 : 0 ≤ y2 ∧ y2 ≤ 23) (x3 : Int32) (y3 : Int) (hx3 : x3.toInt = y3) (hf3 : 0 ≤ y3 ∧ y3 ≤ 8) (o4 : Option Value) (o5 : Option Value)  (hmu : (8 - y3) * 1 + 0 < (n : Int) + 1) (ih17 : ∀ (V : InvR P g) (x1 : Int32) (y1 : Int) (hx1 : x1.toInt = y1) (hf1 : 1 ≤ y1 ∧ y1 ≤ 23) (x2 : Int32) (y2 : Int) (hx2 : x2.toInt = y2) (hf2 : 0 ≤ y2 ∧ y2 ≤ 23) (x3 : Int32) (y3 : Int) (hx3 : x3.toInt = y3) (hf3 : 0 ≤ y3 ∧ y3 ≤ 8) (o4 : Option Value) (o5 : Option Value) , (8 - y3) * 1 + 0 < (n : Int) → LW 296 (d + 4) 0 0 17 [some (.ref 355), some (.int x1), some (.int x2), some (.int x3), o4, o5] [] g (fun v g' => ∃ r : Int32, v = some (.int r) ∧ 0 ≤ r.toInt ∧ r.toInt ≤ 1 ∧ g = g')) : LW 296 (d + 4) 0 0 17 [some (.ref 355), some (.int x1), some (.int x2), some (.int x3), o4, o5] [] g (fun v g' => ∃ r : Int32, v = some (.int r) ∧ 0 ≤ r.toInt ∧ r.toInt ≤ 1 ∧ g = g') := by
  refine X_iload_n rfl rfl rfl rfl ?_
  refine X_aload_n rfl rfl rfl rfl ?_
  refine X_iload_n rfl rfl rfl rfl ?_
  refine X_callV (as := [.int x1]) (st := [.int x3]) rfl rfl rfl (by decide) rfl (Nat.le_of_ble_eq_true rfl) (by decide) (Nat.le_of_ble_eq_true rfl) rfl ((congrFun V.1 355).trans s_355) (by decide) ?_
  refine LW_ls (ls' := [some (.ref 355), some (.int x1)]) rfl ?_
  refine X_aload_n rfl rfl rfl rfl ?_
  refine X_getR (a := 356) rfl rfl rfl ((congrFun V.1 355).trans s_355) rfl ((congrFun (V.2.1 355 (by decide)) 0).trans r_355_0) ?_
  refine X_bipush (v := (116 : Int32)) rfl rfl rfl ?_
  refine X_bipush (v := (10 : Int32)) rfl rfl rfl ?_
  refine X_iload_n rfl rfl rfl rfl ?_
  refine S_imul rfl rfl (show (10 : Int32).toInt = 10 from rfl) hx1 (by omega) (fun vz1 hvz1 => ?_)
  refine S_iadd rfl rfl (show (116 : Int32).toInt = 116 from rfl) rfl (by omega) (fun vz2 hvz2 => ?_)
  refine X_bipush (v := (8 : Int32)) rfl rfl rfl ?_
  refine S_iadd rfl rfl rfl (show (8 : Int32).toInt = 8 from rfl) (by omega) (fun vz3 hvz3 => ?_)
  refine S_iald rfl rfl ((congrFun V.1 356).trans s_356) rfl (by omega) (fun vz4 evz4 => ?_)
  have vf5 := A_LENGTH (V.2.2.2.1 ((vz3.toInt : Int).toNat)) (by omega)
  rw [evz4] at vf5
  refine LW_ireturn (st := []) rfl rfl rfl ?_
  refine S_icmp_ge (tgt := 84) rfl rfl rfl hx3 rfl (fun vh6 => ?_) (fun vh6 => ?_)
  · refine X_iconst (v := (1 : Int32)) rfl rfl rfl ?_
    exact LW_ireturn (st := []) rfl rfl rfl ⟨_, rfl, by decide, by decide, rfl⟩
  · refine X_aload_n rfl rfl rfl rfl ?_
    refine X_iload_n rfl rfl rfl rfl ?_
    refine X_iload_n rfl rfl rfl rfl ?_
    refine X_callV (as := [.int x1, .int x3]) (st := []) rfl rfl rfl (by decide) rfl (Nat.le_of_ble_eq_true rfl) (by decide) (Nat.le_of_ble_eq_true rfl) rfl ((congrFun V.1 355).trans s_355) (by decide) ?_
    refine LW_ls (ls' := [some (.ref 355), some (.int x1), some (.int x3)]) rfl ?_
    refine X_aload_n rfl rfl rfl rfl ?_
    refine X_getR (a := 356) rfl rfl rfl ((congrFun V.1 355).trans s_355) rfl ((congrFun (V.2.1 355 (by decide)) 0).trans r_355_0) ?_
    refine X_bipush (v := (116 : Int32)) rfl rfl rfl ?_
    refine X_bipush (v := (10 : Int32)) rfl rfl rfl ?_
    refine X_iload_n rfl rfl rfl rfl ?_
    refine S_imul rfl rfl (show (10 : Int32).toInt = 10 from rfl) hx1 (by omega) (fun vz7 hvz7 => ?_)
    refine S_iadd rfl rfl (show (116 : Int32).toInt = 116 from rfl) rfl (by omega) (fun vz8 hvz8 => ?_)
    refine X_iload_n rfl rfl rfl rfl ?_
    refine S_iadd rfl rfl rfl hx3 (by omega) (fun vz9 hvz9 => ?_)
    refine S_iald rfl rfl ((congrFun V.1 356).trans s_356) rfl (by omega) (fun vz10 evz10 => ?_)
    have vf11 := A_LETTER (V.2.2.2.1 ((vz9.toInt : Int).toNat)) (by omega)
    rw [evz10] at vf11
    refine LW_ireturn (st := []) rfl rfl rfl ?_
    refine X_istore (i := 4) (ls' := [some (.ref 355), some (.int x1), some (.int x2), some (.int x3), some (.int vz10), o5]) rfl rfl (Nat.le_of_ble_eq_true rfl) rfl ?_
    refine X_aload_n rfl rfl rfl rfl ?_
    refine X_iload_n rfl rfl rfl rfl ?_
    refine X_iload_n rfl rfl rfl rfl ?_
    refine X_callV (as := [.int x2, .int x3]) (st := []) rfl rfl rfl (by decide) rfl (Nat.le_of_ble_eq_true rfl) (by decide) (Nat.le_of_ble_eq_true rfl) rfl ((congrFun V.1 355).trans s_355) (by decide) ?_
    refine LW_ls (ls' := [some (.ref 355), some (.int x2), some (.int x3)]) rfl ?_
    refine X_aload_n rfl rfl rfl rfl ?_
    refine X_getR (a := 356) rfl rfl rfl ((congrFun V.1 355).trans s_355) rfl ((congrFun (V.2.1 355 (by decide)) 0).trans r_355_0) ?_
    refine X_bipush (v := (116 : Int32)) rfl rfl rfl ?_
    refine X_bipush (v := (10 : Int32)) rfl rfl rfl ?_
    refine X_iload_n rfl rfl rfl rfl ?_
    refine S_imul rfl rfl (show (10 : Int32).toInt = 10 from rfl) hx2 (by omega) (fun vz12 hvz12 => ?_)
    refine S_iadd rfl rfl (show (116 : Int32).toInt = 116 from rfl) rfl (by omega) (fun vz13 hvz13 => ?_)
    refine X_iload_n rfl rfl rfl rfl ?_
    refine S_iadd rfl rfl rfl hx3 (by omega) (fun vz14 hvz14 => ?_)
    refine S_iald rfl rfl ((congrFun V.1 356).trans s_356) rfl (by omega) (fun vz15 evz15 => ?_)
    have vf16 := A_LETTER (V.2.2.2.1 ((vz14.toInt : Int).toNat)) (by omega)
    rw [evz15] at vf16
    refine LW_ireturn (st := []) rfl rfl rfl ?_
    refine X_istore (i := 5) (ls' := [some (.ref 355), some (.int x1), some (.int x2), some (.int x3), some (.int vz10), some (.int vz15)]) rfl rfl (Nat.le_of_ble_eq_true rfl) rfl ?_
    refine X_iload rfl rfl rfl ?_
    refine X_iload rfl rfl rfl ?_
    refine S_icmp_eq (tgt := 78) rfl rfl rfl rfl rfl (fun vh17 => ?_) (fun vh17 => ?_)
    · refine S_iinc (c := 1) rfl rfl rfl hx3 rfl (by omega) (fun vz18 hvz18 => ?_)
      refine LW_ls (ls' := [some (.ref 355), some (.int x1), some (.int x2), some (.int vz18), some (.int vz10), some (.int vz15)]) rfl ?_
      refine LW_goto (tgt := 17) rfl rfl ?_
      exact ih17 V x1 y1 hx1 (by omega) x2 y2 hx2 (by omega) vz18 vz18.toInt rfl (by omega) (some (.int vz10)) (some (.int vz15))    (by omega)
    · refine X_aload_n rfl rfl rfl rfl ?_
      refine X_getR (a := 372) rfl rfl rfl ((congrFun V.1 355).trans s_355) rfl ((congrFun (V.2.1 355 (by decide)) 36).trans r_355_36) ?_
      refine X_iload rfl rfl rfl ?_
      refine S_iald rfl rfl ((congrFun V.1 372).trans s_372) rfl (by omega) (fun vz19 evz19 => ?_)
      refine S_if_lt (tgt := 76) rfl rfl rfl rfl (fun vh20 => ?_) (fun vh20 => ?_)
      · refine X_iconst (v := (0 : Int32)) rfl rfl rfl ?_
        exact LW_ireturn (st := []) rfl rfl rfl ⟨_, rfl, by decide, by decide, rfl⟩
      · refine X_aload_n rfl rfl rfl rfl ?_
        refine X_getR (a := 372) rfl rfl rfl ((congrFun V.1 355).trans s_355) rfl ((congrFun (V.2.1 355 (by decide)) 36).trans r_355_36) ?_
        refine X_iload rfl rfl rfl ?_
        refine S_iald_v rfl rfl ((congrFun V.1 372).trans s_372) rfl (by omega) evz19 ?_
        refine X_aload_n rfl rfl rfl rfl ?_
        refine X_getR (a := 372) rfl rfl rfl ((congrFun V.1 355).trans s_355) rfl ((congrFun (V.2.1 355 (by decide)) 36).trans r_355_36) ?_
        refine X_iload rfl rfl rfl ?_
        refine S_iald rfl rfl ((congrFun V.1 372).trans s_372) rfl (by omega) (fun vz22 evz22 => ?_)
        refine S_icmp_eq (tgt := 78) rfl rfl rfl rfl rfl (fun vh23 => ?_) (fun vh23 => ?_)
        · refine S_iinc (c := 1) rfl rfl rfl hx3 rfl (by omega) (fun vz24 hvz24 => ?_)
          refine LW_ls (ls' := [some (.ref 355), some (.int x1), some (.int x2), some (.int vz24), some (.int vz10), some (.int vz15)]) rfl ?_
          refine LW_goto (tgt := 17) rfl rfl ?_
          exact ih17 V x1 y1 hx1 (by omega) x2 y2 hx2 (by omega) vz24 vz24.toInt rfl (by omega) (some (.int vz10)) (some (.int vz15))    (by omega)
        · refine X_iconst (v := (0 : Int32)) rfl rfl rfl ?_
          exact LW_ireturn (st := []) rfl rfl rfl ⟨_, rfl, by decide, by decide, rfl⟩
theorem C_X13_areAlike_all {P : Par} {g : LH} {d : Nat}  : ∀ n : Nat, (∀ (V : InvR P g) (x1 : Int32) (y1 : Int) (hx1 : x1.toInt = y1) (hf1 : 1 ≤ y1 ∧ y1 ≤ 23) (x2 : Int32) (y2 : Int) (hx2 : x2.toInt = y2) (hf2 : 0 ≤ y2 ∧ y2 ≤ 23) (x3 : Int32) (y3 : Int) (hx3 : x3.toInt = y3) (hf3 : 0 ≤ y3 ∧ y3 ≤ 8) (o4 : Option Value) (o5 : Option Value) , (8 - y3) * 1 + 0 < (n : Int) → LW 296 (d + 4) 0 0 17 [some (.ref 355), some (.int x1), some (.int x2), some (.int x3), o4, o5] [] g (fun v g' => ∃ r : Int32, v = some (.int r) ∧ 0 ≤ r.toInt ∧ r.toInt ≤ 1 ∧ g = g')) := by
  intro n
  induction n with
  | zero => exact fun V x1 y1 hx1 hf1 x2 y2 hx2 hf2 x3 y3 hx3 hf3 o4 o5 hmu => absurd hmu (by omega)
  | succ n ih => exact fun V x1 y1 hx1 hf1 x2 y2 hx2 hf2 x3 y3 hx3 hf3 o4 o5 hmu => C_X13_areAlike_17  V x1 y1 hx1 hf1 x2 y2 hx2 hf2 x3 y3 hx3 hf3 o4 o5 (by omega) ih
set_option maxRecDepth 10000 in
set_option maxHeartbeats 40000000 in
theorem C_X13_areAlike {P : Par} {g : LH} {d : Nat}  (V : InvR P g) (x1 : Int32) (y1 : Int) (hx1 : x1.toInt = y1) (hf1 : 1 ≤ y1 ∧ y1 ≤ 23) (x2 : Int32) (y2 : Int) (hx2 : x2.toInt = y2) (hf2 : 0 ≤ y2 ∧ y2 ≤ 23)   : LW 296 (d + 4) 0 0 0 (lEnt (mL 296) [.ref 355, .int x1, .int x2]) [] g (fun v g' => ∃ r : Int32, v = some (.int r) ∧ 0 ≤ r.toInt ∧ r.toInt ≤ 1 ∧ g = g') := by
  refine LW_ls (ls' := [some (.ref 355), some (.int x1), some (.int x2), none, none, none]) rfl ?_
  refine X_aload_n rfl rfl rfl rfl ?_
  refine X_iload_n rfl rfl rfl rfl ?_
  refine X_callV (as := [.int x1]) (st := []) rfl rfl rfl (by decide) rfl (Nat.le_of_ble_eq_true rfl) (by decide) (Nat.le_of_ble_eq_true rfl) rfl ((congrFun V.1 355).trans s_355) (by decide) ?_
  refine LW_ls (ls' := [some (.ref 355), some (.int x1)]) rfl ?_
  refine X_aload_n rfl rfl rfl rfl ?_
  refine X_getR (a := 356) rfl rfl rfl ((congrFun V.1 355).trans s_355) rfl ((congrFun (V.2.1 355 (by decide)) 0).trans r_355_0) ?_
  refine X_bipush (v := (116 : Int32)) rfl rfl rfl ?_
  refine X_bipush (v := (10 : Int32)) rfl rfl rfl ?_
  refine X_iload_n rfl rfl rfl rfl ?_
  refine S_imul rfl rfl (show (10 : Int32).toInt = 10 from rfl) hx1 (by omega) (fun vz1 hvz1 => ?_)
  refine S_iadd rfl rfl (show (116 : Int32).toInt = 116 from rfl) rfl (by omega) (fun vz2 hvz2 => ?_)
  refine X_bipush (v := (8 : Int32)) rfl rfl rfl ?_
  refine S_iadd rfl rfl rfl (show (8 : Int32).toInt = 8 from rfl) (by omega) (fun vz3 hvz3 => ?_)
  refine S_iald rfl rfl ((congrFun V.1 356).trans s_356) rfl (by omega) (fun vz4 evz4 => ?_)
  have vf5 := A_LENGTH (V.2.2.2.1 ((vz3.toInt : Int).toNat)) (by omega)
  rw [evz4] at vf5
  refine LW_ireturn (st := []) rfl rfl rfl ?_
  refine X_aload_n rfl rfl rfl rfl ?_
  refine X_iload_n rfl rfl rfl rfl ?_
  refine X_callV (as := [.int x2]) (st := [.int vz4]) rfl rfl rfl (by decide) rfl (Nat.le_of_ble_eq_true rfl) (by decide) (Nat.le_of_ble_eq_true rfl) rfl ((congrFun V.1 355).trans s_355) (by decide) ?_
  refine LW_ls (ls' := [some (.ref 355), some (.int x2)]) rfl ?_
  refine X_aload_n rfl rfl rfl rfl ?_
  refine X_getR (a := 356) rfl rfl rfl ((congrFun V.1 355).trans s_355) rfl ((congrFun (V.2.1 355 (by decide)) 0).trans r_355_0) ?_
  refine X_bipush (v := (116 : Int32)) rfl rfl rfl ?_
  refine X_bipush (v := (10 : Int32)) rfl rfl rfl ?_
  refine X_iload_n rfl rfl rfl rfl ?_
  refine S_imul rfl rfl (show (10 : Int32).toInt = 10 from rfl) hx2 (by omega) (fun vz6 hvz6 => ?_)
  refine S_iadd rfl rfl (show (116 : Int32).toInt = 116 from rfl) rfl (by omega) (fun vz7 hvz7 => ?_)
  refine X_bipush (v := (8 : Int32)) rfl rfl rfl ?_
  refine S_iadd rfl rfl rfl (show (8 : Int32).toInt = 8 from rfl) (by omega) (fun vz8 hvz8 => ?_)
  refine S_iald rfl rfl ((congrFun V.1 356).trans s_356) rfl (by omega) (fun vz9 evz9 => ?_)
  have vf10 := A_LENGTH (V.2.2.2.1 ((vz8.toInt : Int).toNat)) (by omega)
  rw [evz9] at vf10
  refine LW_ireturn (st := []) rfl rfl rfl ?_
  refine S_icmp_eq (tgt := 15) rfl rfl rfl rfl rfl (fun vh11 => ?_) (fun vh11 => ?_)
  · refine X_iconst (v := (0 : Int32)) rfl rfl rfl ?_
    refine X_istore_n (i := 3) (ls' := [some (.ref 355), some (.int x1), some (.int x2), some (.int (0 : Int32)), none, none]) rfl rfl rfl (Nat.le_of_ble_eq_true rfl) rfl ?_
    exact (C_X13_areAlike_all (((8 - 0) * 1 + 0) + 1 : Int).toNat) V x1 y1 hx1 (by omega) x2 y2 hx2 (by omega) (0 : Int32) 0 (show (0 : Int32).toInt = 0 from rfl) (by omega) none none    (by omega)
  · refine X_iconst (v := (0 : Int32)) rfl rfl rfl ?_
    exact LW_ireturn (st := []) rfl rfl rfl ⟨_, rfl, by decide, by decide, rfl⟩
set_option maxRecDepth 10000 in
set_option maxHeartbeats 40000000 in
theorem C_X13_isClear_2 {P : Par} {g : LH} {d n : Nat}  (V : InvR P g) (x1 : Int32) (y1 : Int) (hx1 : x1.toInt = y1) (hf1 : 0 ≤ y1 ∧ y1 ≤ 24) (o2 : Option Value)  (hmu : (24 - y1) * 27 + 26 < (n : Int) + 1) (ih2 : ∀ (V : InvR P g) (x1 : Int32) (y1 : Int) (hx1 : x1.toInt = y1) (hf1 : 0 ≤ y1 ∧ y1 ≤ 24) (o2 : Option Value) , (24 - y1) * 27 + 26 < (n : Int) → LW 297 (d + 14) 0 0 2 [some (.ref 355), some (.int x1), o2] [] g (fun v g' => ∃ r : Int32, v = some (.int r) ∧ 0 ≤ r.toInt ∧ r.toInt ≤ 1 ∧ g = g')) (ih14 : ∀ (V : InvR P g) (x1 : Int32) (y1 : Int) (hx1 : x1.toInt = y1) (hf1 : 0 ≤ y1 ∧ y1 ≤ 23) (x2 : Int32) (y2 : Int) (hx2 : x2.toInt = y2) (hf2 : 0 ≤ y2 ∧ y2 ≤ 23) (hc356_0 : 1 ≤ (Gi g 356 0).toInt ∧ (Gi g 356 0).toInt ≤ 24), (24 - y1) * 27 + 0 + (23 - y2) * 1 + 0 < (n : Int) → LW 297 (d + 14) 0 0 14 [some (.ref 355), some (.int x1), some (.int x2)] [] g (fun v g' => ∃ r : Int32, v = some (.int r) ∧ 0 ≤ r.toInt ∧ r.toInt ≤ 1 ∧ g = g')) : LW 297 (d + 14) 0 0 2 [some (.ref 355), some (.int x1), o2] [] g (fun v g' => ∃ r : Int32, v = some (.int r) ∧ 0 ≤ r.toInt ∧ r.toInt ≤ 1 ∧ g = g') := by
  refine X_iload_n rfl rfl rfl rfl ?_
  refine X_aload_n rfl rfl rfl rfl ?_
  refine X_getR (a := 356) rfl rfl rfl ((congrFun V.1 355).trans s_355) rfl ((congrFun (V.2.1 355 (by decide)) 0).trans r_355_0) ?_
  refine X_iconst (v := (0 : Int32)) rfl rfl rfl ?_
  refine S_iald rfl rfl ((congrFun V.1 356).trans s_356) (show (0 : Int32).toInt = 0 from rfl) (by omega) (fun vz1 evz1 => ?_)
  have evz1 : Gi g 356 0 = vz1 := evz1
  have vf2 := A_WORDS (V.2.2.2.1 (0)) (by omega)
  rw [evz1] at vf2
  refine S_icmp_ge (tgt := 42) rfl rfl rfl hx1 rfl (fun vh3 => ?_) (fun vh3 => ?_)
  · refine X_iconst (v := (1 : Int32)) rfl rfl rfl ?_
    exact LW_ireturn (st := []) rfl rfl rfl ⟨_, rfl, by decide, by decide, rfl⟩
  · refine X_iconst (v := (0 : Int32)) rfl rfl rfl ?_
    refine X_istore_n (i := 2) (ls' := [some (.ref 355), some (.int x1), some (.int (0 : Int32))]) rfl rfl rfl (Nat.le_of_ble_eq_true rfl) rfl ?_
    exact ih14 V x1 y1 hx1 (by omega) (0 : Int32) 0 (show (0 : Int32).toInt = 0 from rfl) (by omega) (by rw [evz1]; omega)   (by omega)
set_option maxRecDepth 10000 in
set_option maxHeartbeats 40000000 in
theorem C_X13_isClear_14 {P : Par} {g : LH} {d n : Nat}  (V : InvR P g) (x1 : Int32) (y1 : Int) (hx1 : x1.toInt = y1) (hf1 : 0 ≤ y1 ∧ y1 ≤ 23) (x2 : Int32) (y2 : Int) (hx2 : x2.toInt = y2) (hf2 : 0 ≤ y2 ∧ y2 ≤ 23) (hc356_0 : 1 ≤ (Gi g 356 0).toInt ∧ (Gi g 356 0).toInt ≤ 24) (hmu : (24 - y1) * 27 + 0 + (23 - y2) * 1 + 0 < (n : Int) + 1) (ih2 : ∀ (V : InvR P g) (x1 : Int32) (y1 : Int) (hx1 : x1.toInt = y1) (hf1 : 0 ≤ y1 ∧ y1 ≤ 24) (o2 : Option Value) , (24 - y1) * 27 + 26 < (n : Int) → LW 297 (d + 14) 0 0 2 [some (.ref 355), some (.int x1), o2] [] g (fun v g' => ∃ r : Int32, v = some (.int r) ∧ 0 ≤ r.toInt ∧ r.toInt ≤ 1 ∧ g = g')) (ih14 : ∀ (V : InvR P g) (x1 : Int32) (y1 : Int) (hx1 : x1.toInt = y1) (hf1 : 0 ≤ y1 ∧ y1 ≤ 23) (x2 : Int32) (y2 : Int) (hx2 : x2.toInt = y2) (hf2 : 0 ≤ y2 ∧ y2 ≤ 23) (hc356_0 : 1 ≤ (Gi g 356 0).toInt ∧ (Gi g 356 0).toInt ≤ 24), (24 - y1) * 27 + 0 + (23 - y2) * 1 + 0 < (n : Int) → LW 297 (d + 14) 0 0 14 [some (.ref 355), some (.int x1), some (.int x2)] [] g (fun v g' => ∃ r : Int32, v = some (.int r) ∧ 0 ≤ r.toInt ∧ r.toInt ≤ 1 ∧ g = g')) : LW 297 (d + 14) 0 0 14 [some (.ref 355), some (.int x1), some (.int x2)] [] g (fun v g' => ∃ r : Int32, v = some (.int r) ∧ 0 ≤ r.toInt ∧ r.toInt ≤ 1 ∧ g = g') := by
  obtain ⟨vz1, evz1⟩ : ∃ z, Gi g 356 0 = z := ⟨_, rfl⟩
  rw [evz1] at hc356_0
  refine X_iload_n rfl rfl rfl rfl ?_
  refine X_iload_n rfl rfl rfl rfl ?_
  refine S_icmp_ge (tgt := 36) rfl rfl rfl hx2 hx1 (fun vh2 => ?_) (fun vh2 => ?_)
  · refine S_iinc (c := 1) rfl rfl rfl hx1 rfl (by omega) (fun vz3 hvz3 => ?_)
    refine LW_ls (ls' := [some (.ref 355), some (.int vz3), some (.int x2)]) rfl ?_
    refine LW_goto (tgt := 2) rfl rfl ?_
    exact ih2 V vz3 vz3.toInt rfl (by omega) (some (.int x2))    (by omega)
  · refine X_aload_n rfl rfl rfl rfl ?_
    refine X_iload_n rfl rfl rfl rfl ?_
    refine X_iload_n rfl rfl rfl rfl ?_
    refine Y_callV (as := [.int x1, .int x2]) (st := []) rfl rfl rfl (by decide) rfl (Nat.le_of_ble_eq_true rfl) (by decide) (Nat.le_of_ble_eq_true rfl) rfl ((congrFun V.1 355).trans s_355) (by decide) (C_X13_areAlike V x1 y1 hx1 (by omega) x2 y2 hx2 (by omega) ) ?_
    rintro _ g' ⟨vr4, rfl, hrvr40, hrvr41, hgg⟩
    subst hgg
    refine S_if_eq (tgt := 30) rfl rfl rfl rfl (fun vh5 => ?_) (fun vh5 => ?_)
    · refine S_iinc (c := 1) rfl rfl rfl hx2 rfl (by omega) (fun vz6 hvz6 => ?_)
      refine LW_ls (ls' := [some (.ref 355), some (.int x1), some (.int vz6)]) rfl ?_
      refine LW_goto (tgt := 14) rfl rfl ?_
      exact ih14 V x1 y1 hx1 (by omega) vz6 vz6.toInt rfl (by omega) (by rw [evz1]; omega)   (by omega)
    · refine X_iconst (v := (0 : Int32)) rfl rfl rfl ?_
      exact LW_ireturn (st := []) rfl rfl rfl ⟨_, rfl, by decide, by decide, rfl⟩
theorem C_X13_isClear_all {P : Par} {g : LH} {d : Nat}  : ∀ n : Nat, (∀ (V : InvR P g) (x1 : Int32) (y1 : Int) (hx1 : x1.toInt = y1) (hf1 : 0 ≤ y1 ∧ y1 ≤ 24) (o2 : Option Value) , (24 - y1) * 27 + 26 < (n : Int) → LW 297 (d + 14) 0 0 2 [some (.ref 355), some (.int x1), o2] [] g (fun v g' => ∃ r : Int32, v = some (.int r) ∧ 0 ≤ r.toInt ∧ r.toInt ≤ 1 ∧ g = g')) ∧ (∀ (V : InvR P g) (x1 : Int32) (y1 : Int) (hx1 : x1.toInt = y1) (hf1 : 0 ≤ y1 ∧ y1 ≤ 23) (x2 : Int32) (y2 : Int) (hx2 : x2.toInt = y2) (hf2 : 0 ≤ y2 ∧ y2 ≤ 23) (hc356_0 : 1 ≤ (Gi g 356 0).toInt ∧ (Gi g 356 0).toInt ≤ 24), (24 - y1) * 27 + 0 + (23 - y2) * 1 + 0 < (n : Int) → LW 297 (d + 14) 0 0 14 [some (.ref 355), some (.int x1), some (.int x2)] [] g (fun v g' => ∃ r : Int32, v = some (.int r) ∧ 0 ≤ r.toInt ∧ r.toInt ≤ 1 ∧ g = g')) := by
  intro n
  induction n with
  | zero => exact ⟨fun V x1 y1 hx1 hf1 o2 hmu => absurd hmu (by omega), fun V x1 y1 hx1 hf1 x2 y2 hx2 hf2 hc356_0 hmu => absurd hmu (by omega)⟩
  | succ n ih => exact ⟨fun V x1 y1 hx1 hf1 o2 hmu => C_X13_isClear_2  V x1 y1 hx1 hf1 o2 (by omega) ih.1 ih.2, fun V x1 y1 hx1 hf1 x2 y2 hx2 hf2 hc356_0 hmu => C_X13_isClear_14  V x1 y1 hx1 hf1 x2 y2 hx2 hf2 hc356_0 (by omega) ih.1 ih.2⟩
set_option maxRecDepth 10000 in
set_option maxHeartbeats 40000000 in
theorem C_X13_isClear {P : Par} {g : LH} {d : Nat}  (V : InvR P g)    : LW 297 (d + 14) 0 0 0 (lEnt (mL 297) [.ref 355]) [] g (fun v g' => ∃ r : Int32, v = some (.int r) ∧ 0 ≤ r.toInt ∧ r.toInt ≤ 1 ∧ g = g') := by
  refine LW_ls (ls' := [some (.ref 355), none, none]) rfl ?_
  refine X_iconst (v := (0 : Int32)) rfl rfl rfl ?_
  refine X_istore_n (i := 1) (ls' := [some (.ref 355), some (.int (0 : Int32)), none]) rfl rfl rfl (Nat.le_of_ble_eq_true rfl) rfl ?_
  exact (C_X13_isClear_all (((24 - 0) * 27 + 26) + 1 : Int).toNat).1 V (0 : Int32) 0 (show (0 : Int32).toInt = 0 from rfl) (by omega) none    (by omega)
set_option maxRecDepth 10000 in
set_option maxHeartbeats 40000000 in
theorem C_X13_unlike_4 {P : Par} {g : LH} {d n : Nat}  (V : InvR P g) (x1 : Int32) (y1 : Int) (hx1 : x1.toInt = y1) (hf1 : 0 ≤ y1 ∧ y1 ≤ 6) (x2 : Int32) (y2 : Int) (hx2 : x2.toInt = y2) (hf2 : (-1) ≤ y2) (x3 : Int32) (y3 : Int) (hx3 : x3.toInt = y3) (hf3 : 0 ≤ y3 ∧ y3 ≤ 6)  (hmu : (6 - y3) * 1 + 0 < (n : Int) + 1) (ih4 : ∀ (V : InvR P g) (x1 : Int32) (y1 : Int) (hx1 : x1.toInt = y1) (hf1 : 0 ≤ y1 ∧ y1 ≤ 6) (x2 : Int32) (y2 : Int) (hx2 : x2.toInt = y2) (hf2 : (-1) ≤ y2) (x3 : Int32) (y3 : Int) (hx3 : x3.toInt = y3) (hf3 : 0 ≤ y3 ∧ y3 ≤ 6) , (6 - y3) * 1 + 0 < (n : Int) → LW 298 (d + 4) 0 0 4 [some (.ref 355), some (.int x1), some (.int x2), some (.int x3)] [] g (fun v g' => ∃ r : Int32, v = some (.int r) ∧ g = g')) : LW 298 (d + 4) 0 0 4 [some (.ref 355), some (.int x1), some (.int x2), some (.int x3)] [] g (fun v g' => ∃ r : Int32, v = some (.int r) ∧ g = g') := by
  refine X_iload_n rfl rfl rfl rfl ?_
  refine X_iload_n rfl rfl rfl rfl ?_
  refine S_icmp_ge (tgt := 36) rfl rfl rfl hx3 hx1 (fun vh1 => ?_) (fun vh1 => ?_)
  · refine X_iload_n rfl rfl rfl rfl ?_
    refine X_iconst (v := (1 : Int32)) rfl rfl rfl ?_
    refine S_iaddT rfl rfl (fun vz2 => ?_)
    exact LW_ireturn (st := []) rfl rfl rfl ⟨_, rfl, rfl⟩
  · refine X_aload_n rfl rfl rfl rfl ?_
    refine X_getR (a := 366) rfl rfl rfl ((congrFun V.1 355).trans s_355) rfl ((congrFun (V.2.1 355 (by decide)) 29).trans r_355_29) ?_
    refine X_iload_n rfl rfl rfl rfl ?_
    refine S_iald rfl rfl ((congrFun V.1 366).trans s_366) hx3 (by omega) (fun vz3 evz3 => ?_)
    refine X_iload_n rfl rfl rfl rfl ?_
    refine S_icmp_le (tgt := 28) rfl rfl rfl rfl hx2 (fun vh4 => ?_) (fun vh4 => ?_)
    · refine X_iload_n rfl rfl rfl rfl ?_
      refine X_istore_n (i := 2) (ls' := [some (.ref 355), some (.int x1), some (.int x2), some (.int x3)]) rfl rfl rfl (Nat.le_of_ble_eq_true rfl) rfl ?_
      refine S_iinc (c := 1) rfl rfl rfl hx3 rfl (by omega) (fun vz5 hvz5 => ?_)
      refine LW_ls (ls' := [some (.ref 355), some (.int x1), some (.int x2), some (.int vz5)]) rfl ?_
      refine LW_goto (tgt := 4) rfl rfl ?_
      exact ih4 V x1 y1 hx1 (by omega) x2 y2 hx2 (by omega) vz5 vz5.toInt rfl (by omega)    (by omega)
    · refine X_aload_n rfl rfl rfl rfl ?_
      refine X_getR (a := 366) rfl rfl rfl ((congrFun V.1 355).trans s_355) rfl ((congrFun (V.2.1 355 (by decide)) 29).trans r_355_29) ?_
      refine X_iload_n rfl rfl rfl rfl ?_
      refine S_iald_v rfl rfl ((congrFun V.1 366).trans s_366) hx3 (by omega) evz3 ?_
      refine LW_goto (tgt := 29) rfl rfl ?_
      refine X_istore_n (i := 2) (ls' := [some (.ref 355), some (.int x1), some (.int vz3), some (.int x3)]) rfl rfl rfl (Nat.le_of_ble_eq_true rfl) rfl ?_
      refine S_iinc (c := 1) rfl rfl rfl hx3 rfl (by omega) (fun vz7 hvz7 => ?_)
      refine LW_ls (ls' := [some (.ref 355), some (.int x1), some (.int vz3), some (.int vz7)]) rfl ?_
      refine LW_goto (tgt := 4) rfl rfl ?_
      exact ih4 V x1 y1 hx1 (by omega) vz3 vz3.toInt rfl (by omega) vz7 vz7.toInt rfl (by omega)    (by omega)
theorem C_X13_unlike_all {P : Par} {g : LH} {d : Nat}  : ∀ n : Nat, (∀ (V : InvR P g) (x1 : Int32) (y1 : Int) (hx1 : x1.toInt = y1) (hf1 : 0 ≤ y1 ∧ y1 ≤ 6) (x2 : Int32) (y2 : Int) (hx2 : x2.toInt = y2) (hf2 : (-1) ≤ y2) (x3 : Int32) (y3 : Int) (hx3 : x3.toInt = y3) (hf3 : 0 ≤ y3 ∧ y3 ≤ 6) , (6 - y3) * 1 + 0 < (n : Int) → LW 298 (d + 4) 0 0 4 [some (.ref 355), some (.int x1), some (.int x2), some (.int x3)] [] g (fun v g' => ∃ r : Int32, v = some (.int r) ∧ g = g')) := by
  intro n
  induction n with
  | zero => exact fun V x1 y1 hx1 hf1 x2 y2 hx2 hf2 x3 y3 hx3 hf3 hmu => absurd hmu (by have hb2 := ti_hi x2; omega)
  | succ n ih => exact fun V x1 y1 hx1 hf1 x2 y2 hx2 hf2 x3 y3 hx3 hf3 hmu => C_X13_unlike_4  V x1 y1 hx1 hf1 x2 y2 hx2 hf2 x3 y3 hx3 hf3 (by omega) ih
set_option maxRecDepth 10000 in
set_option maxHeartbeats 40000000 in
theorem C_X13_unlike {P : Par} {g : LH} {d : Nat}  (V : InvR P g) (x1 : Int32) (y1 : Int) (hx1 : x1.toInt = y1) (hf1 : 0 ≤ y1 ∧ y1 ≤ 6)   : LW 298 (d + 4) 0 0 0 (lEnt (mL 298) [.ref 355, .int x1]) [] g (fun v g' => ∃ r : Int32, v = some (.int r) ∧ g = g') := by
  refine LW_ls (ls' := [some (.ref 355), some (.int x1), none, none]) rfl ?_
  refine X_iconst (v := (-1 : Int32)) rfl rfl rfl ?_
  refine X_istore_n (i := 2) (ls' := [some (.ref 355), some (.int x1), some (.int (-1 : Int32)), none]) rfl rfl rfl (Nat.le_of_ble_eq_true rfl) rfl ?_
  refine X_iconst (v := (0 : Int32)) rfl rfl rfl ?_
  refine X_istore_n (i := 3) (ls' := [some (.ref 355), some (.int x1), some (.int (-1 : Int32)), some (.int (0 : Int32))]) rfl rfl rfl (Nat.le_of_ble_eq_true rfl) rfl ?_
  exact (C_X13_unlike_all (((6 - 0) * 1 + 0) + 1 : Int).toNat) V x1 y1 hx1 (by omega) (-1 : Int32) (-1) (show (-1 : Int32).toInt = -1 from rfl) (by omega) (0 : Int32) 0 (show (0 : Int32).toInt = 0 from rfl) (by omega)    (by omega)
set_option maxRecDepth 10000 in
set_option maxHeartbeats 40000000 in
theorem C_X13_writtenWith_4 {P : Par} {g : LH} {d n : Nat}  (V : InvR P g) (x1 : Int32) (y1 : Int) (hx1 : x1.toInt = y1) (x2 : Int32) (y2 : Int) (hx2 : x2.toInt = y2) (x3 : Int32) (y3 : Int) (hx3 : x3.toInt = y3) (hf3 : 0 ≤ y3 ∧ y3 ≤ 24)  (hmu : (24 - y3) * 1 + 0 < (n : Int) + 1) (ih4 : ∀ (V : InvR P g) (x1 : Int32) (y1 : Int) (hx1 : x1.toInt = y1) (x2 : Int32) (y2 : Int) (hx2 : x2.toInt = y2) (x3 : Int32) (y3 : Int) (hx3 : x3.toInt = y3) (hf3 : 0 ≤ y3 ∧ y3 ≤ 24) , (24 - y3) * 1 + 0 < (n : Int) → LW 304 (d + 14) 0 0 4 [some (.ref 355), some (.int x1), some (.int x2), some (.int x3)] [] g (fun v g' => ∃ r : Int32, v = some (.int r) ∧ g = g')) : LW 304 (d + 14) 0 0 4 [some (.ref 355), some (.int x1), some (.int x2), some (.int x3)] [] g (fun v g' => ∃ r : Int32, v = some (.int r) ∧ g = g') := by
  refine X_iload_n rfl rfl rfl rfl ?_
  refine X_aload_n rfl rfl rfl rfl ?_
  refine X_getR (a := 356) rfl rfl rfl ((congrFun V.1 355).trans s_355) rfl ((congrFun (V.2.1 355 (by decide)) 0).trans r_355_0) ?_
  refine X_iconst (v := (0 : Int32)) rfl rfl rfl ?_
  refine S_iald rfl rfl ((congrFun V.1 356).trans s_356) (show (0 : Int32).toInt = 0 from rfl) (by omega) (fun vz1 evz1 => ?_)
  have evz1 : Gi g 356 0 = vz1 := evz1
  have vf2 := A_WORDS (V.2.2.2.1 (0)) (by omega)
  rw [evz1] at vf2
  refine S_icmp_ge (tgt := 40) rfl rfl rfl hx3 rfl (fun vh3 => ?_) (fun vh3 => ?_)
  · refine X_iload_n rfl rfl rfl rfl ?_
    exact LW_ireturn (st := []) rfl rfl rfl ⟨_, rfl, rfl⟩
  · refine X_iload_n rfl rfl rfl rfl ?_
    refine X_aload_n rfl rfl rfl rfl ?_
    refine X_iload_n rfl rfl rfl rfl ?_
    refine Y_callV (as := [.int x3]) (st := [.int x2]) rfl rfl rfl (by decide) rfl (Nat.le_of_ble_eq_true rfl) (by decide) (Nat.le_of_ble_eq_true rfl) rfl ((congrFun V.1 355).trans s_355) (by decide) (C_X13_setOf V x3 y3 hx3 (by omega) ) ?_
    rintro _ g' ⟨vr4, rfl, hgg⟩
    subst hgg
    refine X_iload_n rfl rfl rfl rfl ?_
    refine X_iconst (v := (-1 : Int32)) rfl rfl rfl ?_
    refine S_ixorT rfl rfl (fun vz5 => ?_)
    refine S_iandT rfl rfl (fun vz6 => ?_)
    refine S_if_ne (tgt := 31) rfl rfl rfl rfl (fun vh7 => ?_) (fun vh7 => ?_)
    · refine X_iconst (v := (0 : Int32)) rfl rfl rfl ?_
      refine S_iaddT rfl rfl (fun vz8 => ?_)
      refine X_istore_n (i := 2) (ls' := [some (.ref 355), some (.int x1), some (.int vz8), some (.int x3)]) rfl rfl rfl (Nat.le_of_ble_eq_true rfl) rfl ?_
      refine S_iinc (c := 1) rfl rfl rfl hx3 rfl (by omega) (fun vz9 hvz9 => ?_)
      refine LW_ls (ls' := [some (.ref 355), some (.int x1), some (.int vz8), some (.int vz9)]) rfl ?_
      refine LW_goto (tgt := 4) rfl rfl ?_
      exact ih4 V x1 y1 hx1 vz8 vz8.toInt rfl vz9 vz9.toInt rfl (by omega)    (by omega)
    · refine X_iconst (v := (1 : Int32)) rfl rfl rfl ?_
      refine LW_goto (tgt := 32) rfl rfl ?_
      refine S_iaddT rfl rfl (fun vz10 => ?_)
      refine X_istore_n (i := 2) (ls' := [some (.ref 355), some (.int x1), some (.int vz10), some (.int x3)]) rfl rfl rfl (Nat.le_of_ble_eq_true rfl) rfl ?_
      refine S_iinc (c := 1) rfl rfl rfl hx3 rfl (by omega) (fun vz11 hvz11 => ?_)
      refine LW_ls (ls' := [some (.ref 355), some (.int x1), some (.int vz10), some (.int vz11)]) rfl ?_
      refine LW_goto (tgt := 4) rfl rfl ?_
      exact ih4 V x1 y1 hx1 vz10 vz10.toInt rfl vz11 vz11.toInt rfl (by omega)    (by omega)
theorem C_X13_writtenWith_all {P : Par} {g : LH} {d : Nat}  : ∀ n : Nat, (∀ (V : InvR P g) (x1 : Int32) (y1 : Int) (hx1 : x1.toInt = y1) (x2 : Int32) (y2 : Int) (hx2 : x2.toInt = y2) (x3 : Int32) (y3 : Int) (hx3 : x3.toInt = y3) (hf3 : 0 ≤ y3 ∧ y3 ≤ 24) , (24 - y3) * 1 + 0 < (n : Int) → LW 304 (d + 14) 0 0 4 [some (.ref 355), some (.int x1), some (.int x2), some (.int x3)] [] g (fun v g' => ∃ r : Int32, v = some (.int r) ∧ g = g')) := by
  intro n
  induction n with
  | zero => exact fun V x1 y1 hx1 x2 y2 hx2 x3 y3 hx3 hf3 hmu => absurd hmu (by omega)
  | succ n ih => exact fun V x1 y1 hx1 x2 y2 hx2 x3 y3 hx3 hf3 hmu => C_X13_writtenWith_4  V x1 y1 hx1 x2 y2 hx2 x3 y3 hx3 hf3 (by omega) ih
set_option maxRecDepth 10000 in
set_option maxHeartbeats 40000000 in
theorem C_X13_writtenWith {P : Par} {g : LH} {d : Nat}  (V : InvR P g) (x1 : Int32) (y1 : Int) (hx1 : x1.toInt = y1)   : LW 304 (d + 14) 0 0 0 (lEnt (mL 304) [.ref 355, .int x1]) [] g (fun v g' => ∃ r : Int32, v = some (.int r) ∧ g = g') := by
  refine LW_ls (ls' := [some (.ref 355), some (.int x1), none, none]) rfl ?_
  refine X_iconst (v := (0 : Int32)) rfl rfl rfl ?_
  refine X_istore_n (i := 2) (ls' := [some (.ref 355), some (.int x1), some (.int (0 : Int32)), none]) rfl rfl rfl (Nat.le_of_ble_eq_true rfl) rfl ?_
  refine X_iconst (v := (0 : Int32)) rfl rfl rfl ?_
  refine X_istore_n (i := 3) (ls' := [some (.ref 355), some (.int x1), some (.int (0 : Int32)), some (.int (0 : Int32))]) rfl rfl rfl (Nat.le_of_ble_eq_true rfl) rfl ?_
  exact (C_X13_writtenWith_all (((24 - 0) * 1 + 0) + 1 : Int).toNat) V x1 y1 hx1 (0 : Int32) 0 (show (0 : Int32).toInt = 0 from rfl) (0 : Int32) 0 (show (0 : Int32).toInt = 0 from rfl) (by omega)    (by omega)
set_option maxRecDepth 10000 in
set_option maxHeartbeats 40000000 in
theorem C_X13_areTied_5 {P : Par} {g g0 : LH} {d n : Nat}  (V : InvR P g) (hG : Gr g = Gr g0) (x1 : Int32) (y1 : Int) (hx1 : x1.toInt = y1) (x2 : Int32) (y2 : Int) (hx2 : x2.toInt = y2) (x3 : Int32) (y3 : Int) (hx3 : x3.toInt = y3) (hf3 : 0 ≤ y3 ∧ y3 ≤ 1) (x4 : Int32) (y4 : Int) (hx4 : x4.toInt = y4) (hf4 : 0 ≤ y4 ∧ y4 ≤ 26) (o5 : Option Value)  (hmu : (26 - y4) * 30 + 29 < (n : Int) + 1) (ih5 : ∀ (g : LH) (V : InvR P g) (hG : Gr g = Gr g0) (x1 : Int32) (y1 : Int) (hx1 : x1.toInt = y1) (x2 : Int32) (y2 : Int) (hx2 : x2.toInt = y2) (x3 : Int32) (y3 : Int) (hx3 : x3.toInt = y3) (hf3 : 0 ≤ y3 ∧ y3 ≤ 1) (x4 : Int32) (y4 : Int) (hx4 : x4.toInt = y4) (hf4 : 0 ≤ y4 ∧ y4 ≤ 26) (o5 : Option Value) , (26 - y4) * 30 + 29 < (n : Int) → LW 259 (d + 12) 0 0 5 [some (.ref 355), some (.int x1), some (.int x2), some (.int x3), some (.int x4), o5] [] g (fun v g' => ∃ r : Int32, v = some (.int r) ∧ 0 ≤ r.toInt ∧ r.toInt ≤ 1 ∧ InvR P g' ∧ Gr g' = Gr g0)) (ih15 : ∀ (g : LH) (V : InvR P g) (hG : Gr g = Gr g0) (x1 : Int32) (y1 : Int) (hx1 : x1.toInt = y1) (x2 : Int32) (y2 : Int) (hx2 : x2.toInt = y2) (x3 : Int32) (y3 : Int) (hx3 : x3.toInt = y3) (hf3 : 0 ≤ y3 ∧ y3 ≤ 1) (x4 : Int32) (y4 : Int) (hx4 : x4.toInt = y4) (hf4 : 0 ≤ y4 ∧ y4 ≤ 25) (x5 : Int32) (y5 : Int) (hx5 : x5.toInt = y5) (hf5 : 0 ≤ y5 ∧ y5 ≤ 26) , (26 - y4) * 30 + 0 + (26 - y5) * 1 + 0 < (n : Int) → LW 259 (d + 12) 0 0 15 [some (.ref 355), some (.int x1), some (.int x2), some (.int x3), some (.int x4), some (.int x5)] [] g (fun v g' => ∃ r : Int32, v = some (.int r) ∧ 0 ≤ r.toInt ∧ r.toInt ≤ 1 ∧ InvR P g' ∧ Gr g' = Gr g0)) : LW 259 (d + 12) 0 0 5 [some (.ref 355), some (.int x1), some (.int x2), some (.int x3), some (.int x4), o5] [] g (fun v g' => ∃ r : Int32, v = some (.int r) ∧ 0 ≤ r.toInt ∧ r.toInt ≤ 1 ∧ InvR P g' ∧ Gr g' = Gr g0) := by
  refine X_iload rfl rfl rfl ?_
  refine X_bipush (v := (26 : Int32)) rfl rfl rfl ?_
  refine S_icmp_ge (tgt := 65) rfl rfl rfl hx4 (show (26 : Int32).toInt = 26 from rfl) (fun vh1 => ?_) (fun vh1 => ?_)
  · refine X_iload_n rfl rfl rfl rfl ?_
    have hr := hx3
    exact LW_ireturn (st := []) rfl rfl (nbool hx3 (by omega)) ⟨_, rfl, by omega, by omega, V, hG⟩
  · refine X_iconst (v := (0 : Int32)) rfl rfl rfl ?_
    refine X_istore (i := 5) (ls' := [some (.ref 355), some (.int x1), some (.int x2), some (.int x3), some (.int x4), some (.int (0 : Int32))]) rfl rfl (Nat.le_of_ble_eq_true rfl) rfl ?_
    exact ih15 _ V hG x1 y1 hx1 x2 y2 hx2 x3 y3 hx3 (by omega) x4 y4 hx4 (by omega) (0 : Int32) 0 (show (0 : Int32).toInt = 0 from rfl) (by omega)    (by omega)
set_option maxRecDepth 10000 in
set_option maxHeartbeats 40000000 in
theorem C_X13_areTied_15 {P : Par} {g g0 : LH} {d n : Nat}  (V : InvR P g) (hG : Gr g = Gr g0) (x1 : Int32) (y1 : Int) (hx1 : x1.toInt = y1) (x2 : Int32) (y2 : Int) (hx2 : x2.toInt = y2) (x3 : Int32) (y3 : Int) (hx3 : x3.toInt = y3) (hf3 : 0 ≤ y3 ∧ y3 ≤ 1) (x4 : Int32) (y4 : Int) (hx4 : x4.toInt = y4) (hf4 : 0 ≤ y4 ∧ y4 ≤ 25) (x5 : Int32) (y5 : Int) (hx5 : x5.toInt = y5) (hf5 : 0 ≤ y5 ∧ y5 ≤ 26)  (hmu : (26 - y4) * 30 + 0 + (26 - y5) * 1 + 0 < (n : Int) + 1) (ih5 : ∀ (g : LH) (V : InvR P g) (hG : Gr g = Gr g0) (x1 : Int32) (y1 : Int) (hx1 : x1.toInt = y1) (x2 : Int32) (y2 : Int) (hx2 : x2.toInt = y2) (x3 : Int32) (y3 : Int) (hx3 : x3.toInt = y3) (hf3 : 0 ≤ y3 ∧ y3 ≤ 1) (x4 : Int32) (y4 : Int) (hx4 : x4.toInt = y4) (hf4 : 0 ≤ y4 ∧ y4 ≤ 26) (o5 : Option Value) , (26 - y4) * 30 + 29 < (n : Int) → LW 259 (d + 12) 0 0 5 [some (.ref 355), some (.int x1), some (.int x2), some (.int x3), some (.int x4), o5] [] g (fun v g' => ∃ r : Int32, v = some (.int r) ∧ 0 ≤ r.toInt ∧ r.toInt ≤ 1 ∧ InvR P g' ∧ Gr g' = Gr g0)) (ih15 : ∀ (g : LH) (V : InvR P g) (hG : Gr g = Gr g0) (x1 : Int32) (y1 : Int) (hx1 : x1.toInt = y1) (x2 : Int32) (y2 : Int) (hx2 : x2.toInt = y2) (x3 : Int32) (y3 : Int) (hx3 : x3.toInt = y3) (hf3 : 0 ≤ y3 ∧ y3 ≤ 1) (x4 : Int32) (y4 : Int) (hx4 : x4.toInt = y4) (hf4 : 0 ≤ y4 ∧ y4 ≤ 25) (x5 : Int32) (y5 : Int) (hx5 : x5.toInt = y5) (hf5 : 0 ≤ y5 ∧ y5 ≤ 26) , (26 - y4) * 30 + 0 + (26 - y5) * 1 + 0 < (n : Int) → LW 259 (d + 12) 0 0 15 [some (.ref 355), some (.int x1), some (.int x2), some (.int x3), some (.int x4), some (.int x5)] [] g (fun v g' => ∃ r : Int32, v = some (.int r) ∧ 0 ≤ r.toInt ∧ r.toInt ≤ 1 ∧ InvR P g' ∧ Gr g' = Gr g0)) : LW 259 (d + 12) 0 0 15 [some (.ref 355), some (.int x1), some (.int x2), some (.int x3), some (.int x4), some (.int x5)] [] g (fun v g' => ∃ r : Int32, v = some (.int r) ∧ 0 ≤ r.toInt ∧ r.toInt ≤ 1 ∧ InvR P g' ∧ Gr g' = Gr g0) := by
  refine X_iload rfl rfl rfl ?_
  refine X_bipush (v := (26 : Int32)) rfl rfl rfl ?_
  refine S_icmp_ge (tgt := 59) rfl rfl rfl hx5 (show (26 : Int32).toInt = 26 from rfl) (fun vh1 => ?_) (fun vh1 => ?_)
  · refine S_iinc (c := 1) rfl rfl rfl hx4 rfl (by omega) (fun vz2 hvz2 => ?_)
    refine LW_ls (ls' := [some (.ref 355), some (.int x1), some (.int x2), some (.int x3), some (.int vz2), some (.int x5)]) rfl ?_
    refine LW_goto (tgt := 5) rfl rfl ?_
    exact ih5 _ V hG x1 y1 hx1 x2 y2 hx2 x3 y3 hx3 (by omega) vz2 vz2.toInt rfl (by omega) (some (.int x5))    (by omega)
  · refine X_iload_n rfl rfl rfl rfl ?_
    refine X_iload rfl rfl rfl ?_
    refine X_callS (as := [.int x1, .int x4]) (st := []) rfl rfl rfl (by decide) rfl (Nat.le_of_ble_eq_true rfl) (by decide) (Nat.le_of_ble_eq_true rfl) rfl ?_
    refine LW_ls (ls' := [some (.int x1), some (.int x4)]) rfl ?_
    refine X_iload_n rfl rfl rfl rfl ?_
    refine X_iload_n rfl rfl rfl rfl ?_
    refine S_ishrT rfl rfl (fun vz3 => ?_)
    refine X_iconst (v := (1 : Int32)) rfl rfl rfl ?_
    refine S_iandR (k := 1) rfl rfl rfl (fun vz4 hvz4 => ?_)
    refine X_iconst (v := (1 : Int32)) rfl rfl rfl ?_
    refine S_icmp_ne (tgt := 13) rfl rfl rfl rfl (show (1 : Int32).toInt = 1 from rfl) (fun vh5 => ?_) (fun vh5 => ?_)
    · refine X_iconst (v := (0 : Int32)) rfl rfl rfl ?_
      refine LW_ireturn (st := []) rfl rfl rfl ?_
      refine S_if_eq (tgt := 53) rfl rfl rfl (show (0 : Int32).toInt = 0 from rfl) (fun vh6 => ?_) (fun q => absurd q (by omega))
      refine S_iinc (c := 1) rfl rfl rfl hx5 rfl (by omega) (fun vz7 hvz7 => ?_)
      refine LW_ls (ls' := [some (.ref 355), some (.int x1), some (.int x2), some (.int x3), some (.int x4), some (.int vz7)]) rfl ?_
      refine LW_goto (tgt := 15) rfl rfl ?_
      exact ih15 _ V hG x1 y1 hx1 x2 y2 hx2 x3 y3 hx3 (by omega) x4 y4 hx4 (by omega) vz7 vz7.toInt rfl (by omega)    (by omega)
    · refine X_iconst (v := (1 : Int32)) rfl rfl rfl ?_
      refine LW_goto (tgt := 14) rfl rfl ?_
      refine LW_ireturn (st := []) rfl rfl rfl ?_
      refine S_if_eq (tgt := 53) rfl rfl rfl (show (1 : Int32).toInt = 1 from rfl) (fun q => absurd q (by omega)) (fun vh8 => ?_)
      refine X_iload_n rfl rfl rfl rfl ?_
      refine X_iload rfl rfl rfl ?_
      refine X_callS (as := [.int x2, .int x5]) (st := []) rfl rfl rfl (by decide) rfl (Nat.le_of_ble_eq_true rfl) (by decide) (Nat.le_of_ble_eq_true rfl) rfl ?_
      refine LW_ls (ls' := [some (.int x2), some (.int x5)]) rfl ?_
      refine X_iload_n rfl rfl rfl rfl ?_
      refine X_iload_n rfl rfl rfl rfl ?_
      refine S_ishrT rfl rfl (fun vz9 => ?_)
      refine X_iconst (v := (1 : Int32)) rfl rfl rfl ?_
      refine S_iandR (k := 1) rfl rfl rfl (fun vz10 hvz10 => ?_)
      refine X_iconst (v := (1 : Int32)) rfl rfl rfl ?_
      refine S_icmp_ne (tgt := 13) rfl rfl rfl rfl (show (1 : Int32).toInt = 1 from rfl) (fun vh11 => ?_) (fun vh11 => ?_)
      · refine X_iconst (v := (0 : Int32)) rfl rfl rfl ?_
        refine LW_ireturn (st := []) rfl rfl rfl ?_
        refine S_if_eq (tgt := 53) rfl rfl rfl (show (0 : Int32).toInt = 0 from rfl) (fun vh12 => ?_) (fun q => absurd q (by omega))
        refine S_iinc (c := 1) rfl rfl rfl hx5 rfl (by omega) (fun vz13 hvz13 => ?_)
        refine LW_ls (ls' := [some (.ref 355), some (.int x1), some (.int x2), some (.int x3), some (.int x4), some (.int vz13)]) rfl ?_
        refine LW_goto (tgt := 15) rfl rfl ?_
        exact ih15 _ V hG x1 y1 hx1 x2 y2 hx2 x3 y3 hx3 (by omega) x4 y4 hx4 (by omega) vz13 vz13.toInt rfl (by omega)    (by omega)
      · refine X_iconst (v := (1 : Int32)) rfl rfl rfl ?_
        refine LW_goto (tgt := 14) rfl rfl ?_
        refine LW_ireturn (st := []) rfl rfl rfl ?_
        refine S_if_eq (tgt := 53) rfl rfl rfl (show (1 : Int32).toInt = 1 from rfl) (fun q => absurd q (by omega)) (fun vh14 => ?_)
        refine X_aload_n rfl rfl rfl rfl ?_
        refine X_iload rfl rfl rfl ?_
        refine X_iload rfl rfl rfl ?_
        refine Y_callV (as := [.int x4, .int x5]) (st := []) rfl rfl rfl (by decide) rfl (Nat.le_of_ble_eq_true rfl) (by decide) (Nat.le_of_ble_eq_true rfl) rfl ((congrFun V.1 355).trans s_355) (by decide) (C_X13_tie V x4 y4 hx4 x5 y5 hx5 ) ?_
        rintro _ g ⟨vr15, rfl, hrvr150, hrvr151, V, hq⟩
        have hG := hq.trans hG
        refine S_if_eq (tgt := 53) rfl rfl rfl rfl (fun vh16 => ?_) (fun vh16 => ?_)
        · refine S_iinc (c := 1) rfl rfl rfl hx5 rfl (by omega) (fun vz17 hvz17 => ?_)
          refine LW_ls (ls' := [some (.ref 355), some (.int x1), some (.int x2), some (.int x3), some (.int x4), some (.int vz17)]) rfl ?_
          refine LW_goto (tgt := 15) rfl rfl ?_
          exact ih15 _ V hG x1 y1 hx1 x2 y2 hx2 x3 y3 hx3 (by omega) x4 y4 hx4 (by omega) vz17 vz17.toInt rfl (by omega)    (by omega)
        · refine X_iconst (v := (1 : Int32)) rfl rfl rfl ?_
          refine X_istore_n (i := 3) (ls' := [some (.ref 355), some (.int x1), some (.int x2), some (.int (1 : Int32)), some (.int x4), some (.int x5)]) rfl rfl rfl (Nat.le_of_ble_eq_true rfl) rfl ?_
          refine S_iinc (c := 1) rfl rfl rfl hx5 rfl (by omega) (fun vz18 hvz18 => ?_)
          refine LW_ls (ls' := [some (.ref 355), some (.int x1), some (.int x2), some (.int (1 : Int32)), some (.int x4), some (.int vz18)]) rfl ?_
          refine LW_goto (tgt := 15) rfl rfl ?_
          exact ih15 _ V hG x1 y1 hx1 x2 y2 hx2 (1 : Int32) 1 (show (1 : Int32).toInt = 1 from rfl) (by omega) x4 y4 hx4 (by omega) vz18 vz18.toInt rfl (by omega)    (by omega)
theorem C_X13_areTied_all {P : Par} {g0 : LH} {d : Nat}  : ∀ n : Nat, (∀ (g : LH) (V : InvR P g) (hG : Gr g = Gr g0) (x1 : Int32) (y1 : Int) (hx1 : x1.toInt = y1) (x2 : Int32) (y2 : Int) (hx2 : x2.toInt = y2) (x3 : Int32) (y3 : Int) (hx3 : x3.toInt = y3) (hf3 : 0 ≤ y3 ∧ y3 ≤ 1) (x4 : Int32) (y4 : Int) (hx4 : x4.toInt = y4) (hf4 : 0 ≤ y4 ∧ y4 ≤ 26) (o5 : Option Value) , (26 - y4) * 30 + 29 < (n : Int) → LW 259 (d + 12) 0 0 5 [some (.ref 355), some (.int x1), some (.int x2), some (.int x3), some (.int x4), o5] [] g (fun v g' => ∃ r : Int32, v = some (.int r) ∧ 0 ≤ r.toInt ∧ r.toInt ≤ 1 ∧ InvR P g' ∧ Gr g' = Gr g0)) ∧ (∀ (g : LH) (V : InvR P g) (hG : Gr g = Gr g0) (x1 : Int32) (y1 : Int) (hx1 : x1.toInt = y1) (x2 : Int32) (y2 : Int) (hx2 : x2.toInt = y2) (x3 : Int32) (y3 : Int) (hx3 : x3.toInt = y3) (hf3 : 0 ≤ y3 ∧ y3 ≤ 1) (x4 : Int32) (y4 : Int) (hx4 : x4.toInt = y4) (hf4 : 0 ≤ y4 ∧ y4 ≤ 25) (x5 : Int32) (y5 : Int) (hx5 : x5.toInt = y5) (hf5 : 0 ≤ y5 ∧ y5 ≤ 26) , (26 - y4) * 30 + 0 + (26 - y5) * 1 + 0 < (n : Int) → LW 259 (d + 12) 0 0 15 [some (.ref 355), some (.int x1), some (.int x2), some (.int x3), some (.int x4), some (.int x5)] [] g (fun v g' => ∃ r : Int32, v = some (.int r) ∧ 0 ≤ r.toInt ∧ r.toInt ≤ 1 ∧ InvR P g' ∧ Gr g' = Gr g0)) := by
  intro n
  induction n with
  | zero => exact ⟨fun g V hG x1 y1 hx1 x2 y2 hx2 x3 y3 hx3 hf3 x4 y4 hx4 hf4 o5 hmu => absurd hmu (by omega), fun g V hG x1 y1 hx1 x2 y2 hx2 x3 y3 hx3 hf3 x4 y4 hx4 hf4 x5 y5 hx5 hf5 hmu => absurd hmu (by omega)⟩
  | succ n ih => exact ⟨fun g V hG x1 y1 hx1 x2 y2 hx2 x3 y3 hx3 hf3 x4 y4 hx4 hf4 o5 hmu => C_X13_areTied_5  V hG x1 y1 hx1 x2 y2 hx2 x3 y3 hx3 hf3 x4 y4 hx4 hf4 o5 (by omega) ih.1 ih.2, fun g V hG x1 y1 hx1 x2 y2 hx2 x3 y3 hx3 hf3 x4 y4 hx4 hf4 x5 y5 hx5 hf5 hmu => C_X13_areTied_15  V hG x1 y1 hx1 x2 y2 hx2 x3 y3 hx3 hf3 x4 y4 hx4 hf4 x5 y5 hx5 hf5 (by omega) ih.1 ih.2⟩
set_option maxRecDepth 10000 in
set_option maxHeartbeats 40000000 in
theorem C_X13_areTied {P : Par} {g : LH} {d : Nat}  (V : InvR P g) (x1 : Int32) (y1 : Int) (hx1 : x1.toInt = y1) (x2 : Int32) (y2 : Int) (hx2 : x2.toInt = y2)   : LW 259 (d + 12) 0 0 0 (lEnt (mL 259) [.ref 355, .int x1, .int x2]) [] g (fun v g' => ∃ r : Int32, v = some (.int r) ∧ 0 ≤ r.toInt ∧ r.toInt ≤ 1 ∧ InvR P g' ∧ Gr g' = Gr g) := by
  refine LW_ls (ls' := [some (.ref 355), some (.int x1), some (.int x2), none, none, none]) rfl ?_
  have hG : Gr g = Gr g := rfl
  refine X_iconst (v := (0 : Int32)) rfl rfl rfl ?_
  refine X_istore_n (i := 3) (ls' := [some (.ref 355), some (.int x1), some (.int x2), some (.int (0 : Int32)), none, none]) rfl rfl rfl (Nat.le_of_ble_eq_true rfl) rfl ?_
  refine X_iconst (v := (0 : Int32)) rfl rfl rfl ?_
  refine X_istore (i := 4) (ls' := [some (.ref 355), some (.int x1), some (.int x2), some (.int (0 : Int32)), some (.int (0 : Int32)), none]) rfl rfl (Nat.le_of_ble_eq_true rfl) rfl ?_
  exact (C_X13_areTied_all (((26 - 0) * 30 + 29) + 1 : Int).toNat).1 _ V hG x1 y1 hx1 x2 y2 hx2 (0 : Int32) 0 (show (0 : Int32).toInt = 0 from rfl) (by omega) (0 : Int32) 0 (show (0 : Int32).toInt = 0 from rfl) (by omega) none    (by omega)
set_option maxRecDepth 10000 in
set_option maxHeartbeats 40000000 in
theorem C_X13_areRaised_5 {P : Par} {g g0 : LH} {d n : Nat}  (V : InvR P g) (hG : Gr g = Gr g0) (x1 : Int32) (y1 : Int) (hx1 : x1.toInt = y1) (x2 : Int32) (y2 : Int) (hx2 : x2.toInt = y2) (x3 : Int32) (y3 : Int) (hx3 : x3.toInt = y3) (hf3 : 0 ≤ y3 ∧ y3 ≤ 1) (x4 : Int32) (y4 : Int) (hx4 : x4.toInt = y4) (hf4 : 0 ≤ y4 ∧ y4 ≤ 26)  (hmu : (26 - y4) * 1 + 0 < (n : Int) + 1) (ih5 : ∀ (g : LH) (V : InvR P g) (hG : Gr g = Gr g0) (x1 : Int32) (y1 : Int) (hx1 : x1.toInt = y1) (x2 : Int32) (y2 : Int) (hx2 : x2.toInt = y2) (x3 : Int32) (y3 : Int) (hx3 : x3.toInt = y3) (hf3 : 0 ≤ y3 ∧ y3 ≤ 1) (x4 : Int32) (y4 : Int) (hx4 : x4.toInt = y4) (hf4 : 0 ≤ y4 ∧ y4 ≤ 26) , (26 - y4) * 1 + 0 < (n : Int) → LW 260 (d + 12) 0 0 5 [some (.ref 355), some (.int x1), some (.int x2), some (.int x3), some (.int x4)] [] g (fun v g' => ∃ r : Int32, v = some (.int r) ∧ 0 ≤ r.toInt ∧ r.toInt ≤ 1 ∧ InvR P g' ∧ Gr g' = Gr g0)) : LW 260 (d + 12) 0 0 5 [some (.ref 355), some (.int x1), some (.int x2), some (.int x3), some (.int x4)] [] g (fun v g' => ∃ r : Int32, v = some (.int r) ∧ 0 ≤ r.toInt ∧ r.toInt ≤ 1 ∧ InvR P g' ∧ Gr g' = Gr g0) := by
  refine X_iload rfl rfl rfl ?_
  refine X_bipush (v := (26 : Int32)) rfl rfl rfl ?_
  refine S_icmp_ge (tgt := 72) rfl rfl rfl hx4 (show (26 : Int32).toInt = 26 from rfl) (fun vh1 => ?_) (fun vh1 => ?_)
  · refine X_iload_n rfl rfl rfl rfl ?_
    have hr := hx3
    exact LW_ireturn (st := []) rfl rfl (nbool hx3 (by omega)) ⟨_, rfl, by omega, by omega, V, hG⟩
  · refine X_iload_n rfl rfl rfl rfl ?_
    refine X_iload rfl rfl rfl ?_
    refine X_callS (as := [.int x1, .int x4]) (st := []) rfl rfl rfl (by decide) rfl (Nat.le_of_ble_eq_true rfl) (by decide) (Nat.le_of_ble_eq_true rfl) rfl ?_
    refine LW_ls (ls' := [some (.int x1), some (.int x4)]) rfl ?_
    refine X_iload_n rfl rfl rfl rfl ?_
    refine X_iload_n rfl rfl rfl rfl ?_
    refine S_ishrT rfl rfl (fun vz2 => ?_)
    refine X_iconst (v := (1 : Int32)) rfl rfl rfl ?_
    refine S_iandR (k := 1) rfl rfl rfl (fun vz3 hvz3 => ?_)
    refine X_iconst (v := (1 : Int32)) rfl rfl rfl ?_
    refine S_icmp_ne (tgt := 13) rfl rfl rfl rfl (show (1 : Int32).toInt = 1 from rfl) (fun vh4 => ?_) (fun vh4 => ?_)
    · refine X_iconst (v := (0 : Int32)) rfl rfl rfl ?_
      refine LW_ireturn (st := []) rfl rfl rfl ?_
      refine S_if_eq (tgt := 66) rfl rfl rfl (show (0 : Int32).toInt = 0 from rfl) (fun vh5 => ?_) (fun q => absurd q (by omega))
      refine S_iinc (c := 1) rfl rfl rfl hx4 rfl (by omega) (fun vz6 hvz6 => ?_)
      refine LW_ls (ls' := [some (.ref 355), some (.int x1), some (.int x2), some (.int x3), some (.int vz6)]) rfl ?_
      refine LW_goto (tgt := 5) rfl rfl ?_
      exact ih5 _ V hG x1 y1 hx1 x2 y2 hx2 x3 y3 hx3 (by omega) vz6 vz6.toInt rfl (by omega)    (by omega)
    · refine X_iconst (v := (1 : Int32)) rfl rfl rfl ?_
      refine LW_goto (tgt := 14) rfl rfl ?_
      refine LW_ireturn (st := []) rfl rfl rfl ?_
      refine S_if_eq (tgt := 66) rfl rfl rfl (show (1 : Int32).toInt = 1 from rfl) (fun q => absurd q (by omega)) (fun vh7 => ?_)
      refine X_aload_n rfl rfl rfl rfl ?_
      refine X_iload rfl rfl rfl ?_
      refine X_aload_n rfl rfl rfl rfl ?_
      refine X_getR (a := 356) rfl rfl rfl ((congrFun V.1 355).trans s_355) rfl ((congrFun (V.2.1 355 (by decide)) 0).trans r_355_0) ?_
      refine X_bipush (v := (12 : Int32)) rfl rfl rfl ?_
      refine X_iload rfl rfl rfl ?_
      refine S_iadd rfl rfl (show (12 : Int32).toInt = 12 from rfl) hx4 (by omega) (fun vz8 hvz8 => ?_)
      refine S_iald rfl rfl ((congrFun V.1 356).trans s_356) rfl (by omega) (fun vz9 evz9 => ?_)
      refine X_iload_n rfl rfl rfl rfl ?_
      refine S_iaddT rfl rfl (fun vz10 => ?_)
      refine X_bipush (v := (99 : Int32)) rfl rfl rfl ?_
      refine S_icmp_le (tgt := 46) rfl rfl rfl rfl (show (99 : Int32).toInt = 99 from rfl) (fun vh11 => ?_) (fun vh11 => ?_)
      · refine X_aload_n rfl rfl rfl rfl ?_
        refine X_getR (a := 356) rfl rfl rfl ((congrFun V.1 355).trans s_355) rfl ((congrFun (V.2.1 355 (by decide)) 0).trans r_355_0) ?_
        refine X_bipush (v := (12 : Int32)) rfl rfl rfl ?_
        refine X_iload rfl rfl rfl ?_
        refine S_iadd rfl rfl (show (12 : Int32).toInt = 12 from rfl) hx4 (by omega) (fun vz12 hvz12 => ?_)
        refine S_iald rfl rfl ((congrFun V.1 356).trans s_356) rfl (by omega) (fun vz13 evz13 => ?_)
        refine X_iload_n rfl rfl rfl rfl ?_
        refine S_iaddT rfl rfl (fun vz14 => ?_)
        refine Y_callV (as := [.int x4, .int vz14]) (st := []) rfl rfl rfl (by decide) rfl (Nat.le_of_ble_eq_true rfl) (by decide) (Nat.le_of_ble_eq_true rfl) rfl ((congrFun V.1 355).trans s_355) (by decide) (C_X13_raise V x4 y4 hx4 vz14 vz14.toInt rfl ) ?_
        rintro _ g ⟨vr15, rfl, hrvr150, hrvr151, V, hq⟩
        have hG := hq.trans hG
        refine S_if_eq (tgt := 66) rfl rfl rfl rfl (fun vh16 => ?_) (fun vh16 => ?_)
        · refine S_iinc (c := 1) rfl rfl rfl hx4 rfl (by omega) (fun vz17 hvz17 => ?_)
          refine LW_ls (ls' := [some (.ref 355), some (.int x1), some (.int x2), some (.int x3), some (.int vz17)]) rfl ?_
          refine LW_goto (tgt := 5) rfl rfl ?_
          exact ih5 _ V hG x1 y1 hx1 x2 y2 hx2 x3 y3 hx3 (by omega) vz17 vz17.toInt rfl (by omega)    (by omega)
        · refine X_iconst (v := (1 : Int32)) rfl rfl rfl ?_
          refine X_istore_n (i := 3) (ls' := [some (.ref 355), some (.int x1), some (.int x2), some (.int (1 : Int32)), some (.int x4)]) rfl rfl rfl (Nat.le_of_ble_eq_true rfl) rfl ?_
          refine S_iinc (c := 1) rfl rfl rfl hx4 rfl (by omega) (fun vz18 hvz18 => ?_)
          refine LW_ls (ls' := [some (.ref 355), some (.int x1), some (.int x2), some (.int (1 : Int32)), some (.int vz18)]) rfl ?_
          refine LW_goto (tgt := 5) rfl rfl ?_
          exact ih5 _ V hG x1 y1 hx1 x2 y2 hx2 (1 : Int32) 1 (show (1 : Int32).toInt = 1 from rfl) (by omega) vz18 vz18.toInt rfl (by omega)    (by omega)
      · refine X_bipush (v := (99 : Int32)) rfl rfl rfl ?_
        refine LW_goto (tgt := 58) rfl rfl ?_
        refine Y_callV (as := [.int x4, .int (99 : Int32)]) (st := []) rfl rfl rfl (by decide) rfl (Nat.le_of_ble_eq_true rfl) (by decide) (Nat.le_of_ble_eq_true rfl) rfl ((congrFun V.1 355).trans s_355) (by decide) (C_X13_raise V x4 y4 hx4 (99 : Int32) 99 (show (99 : Int32).toInt = 99 from rfl) ) ?_
        rintro _ g ⟨vr19, rfl, hrvr190, hrvr191, V, hq⟩
        have hG := hq.trans hG
        refine S_if_eq (tgt := 66) rfl rfl rfl rfl (fun vh20 => ?_) (fun vh20 => ?_)
        · refine S_iinc (c := 1) rfl rfl rfl hx4 rfl (by omega) (fun vz21 hvz21 => ?_)
          refine LW_ls (ls' := [some (.ref 355), some (.int x1), some (.int x2), some (.int x3), some (.int vz21)]) rfl ?_
          refine LW_goto (tgt := 5) rfl rfl ?_
          exact ih5 _ V hG x1 y1 hx1 x2 y2 hx2 x3 y3 hx3 (by omega) vz21 vz21.toInt rfl (by omega)    (by omega)
        · refine X_iconst (v := (1 : Int32)) rfl rfl rfl ?_
          refine X_istore_n (i := 3) (ls' := [some (.ref 355), some (.int x1), some (.int x2), some (.int (1 : Int32)), some (.int x4)]) rfl rfl rfl (Nat.le_of_ble_eq_true rfl) rfl ?_
          refine S_iinc (c := 1) rfl rfl rfl hx4 rfl (by omega) (fun vz22 hvz22 => ?_)
          refine LW_ls (ls' := [some (.ref 355), some (.int x1), some (.int x2), some (.int (1 : Int32)), some (.int vz22)]) rfl ?_
          refine LW_goto (tgt := 5) rfl rfl ?_
          exact ih5 _ V hG x1 y1 hx1 x2 y2 hx2 (1 : Int32) 1 (show (1 : Int32).toInt = 1 from rfl) (by omega) vz22 vz22.toInt rfl (by omega)    (by omega)
theorem C_X13_areRaised_all {P : Par} {g0 : LH} {d : Nat}  : ∀ n : Nat, (∀ (g : LH) (V : InvR P g) (hG : Gr g = Gr g0) (x1 : Int32) (y1 : Int) (hx1 : x1.toInt = y1) (x2 : Int32) (y2 : Int) (hx2 : x2.toInt = y2) (x3 : Int32) (y3 : Int) (hx3 : x3.toInt = y3) (hf3 : 0 ≤ y3 ∧ y3 ≤ 1) (x4 : Int32) (y4 : Int) (hx4 : x4.toInt = y4) (hf4 : 0 ≤ y4 ∧ y4 ≤ 26) , (26 - y4) * 1 + 0 < (n : Int) → LW 260 (d + 12) 0 0 5 [some (.ref 355), some (.int x1), some (.int x2), some (.int x3), some (.int x4)] [] g (fun v g' => ∃ r : Int32, v = some (.int r) ∧ 0 ≤ r.toInt ∧ r.toInt ≤ 1 ∧ InvR P g' ∧ Gr g' = Gr g0)) := by
  intro n
  induction n with
  | zero => exact fun g V hG x1 y1 hx1 x2 y2 hx2 x3 y3 hx3 hf3 x4 y4 hx4 hf4 hmu => absurd hmu (by omega)
  | succ n ih => exact fun g V hG x1 y1 hx1 x2 y2 hx2 x3 y3 hx3 hf3 x4 y4 hx4 hf4 hmu => C_X13_areRaised_5  V hG x1 y1 hx1 x2 y2 hx2 x3 y3 hx3 hf3 x4 y4 hx4 hf4 (by omega) ih
set_option maxRecDepth 10000 in
set_option maxHeartbeats 40000000 in
theorem C_X13_areRaised {P : Par} {g : LH} {d : Nat}  (V : InvR P g) (x1 : Int32) (y1 : Int) (hx1 : x1.toInt = y1) (x2 : Int32) (y2 : Int) (hx2 : x2.toInt = y2)   : LW 260 (d + 12) 0 0 0 (lEnt (mL 260) [.ref 355, .int x1, .int x2]) [] g (fun v g' => ∃ r : Int32, v = some (.int r) ∧ 0 ≤ r.toInt ∧ r.toInt ≤ 1 ∧ InvR P g' ∧ Gr g' = Gr g) := by
  refine LW_ls (ls' := [some (.ref 355), some (.int x1), some (.int x2), none, none]) rfl ?_
  have hG : Gr g = Gr g := rfl
  refine X_iconst (v := (0 : Int32)) rfl rfl rfl ?_
  refine X_istore_n (i := 3) (ls' := [some (.ref 355), some (.int x1), some (.int x2), some (.int (0 : Int32)), none]) rfl rfl rfl (Nat.le_of_ble_eq_true rfl) rfl ?_
  refine X_iconst (v := (0 : Int32)) rfl rfl rfl ?_
  refine X_istore (i := 4) (ls' := [some (.ref 355), some (.int x1), some (.int x2), some (.int (0 : Int32)), some (.int (0 : Int32))]) rfl rfl (Nat.le_of_ble_eq_true rfl) rfl ?_
  exact (C_X13_areRaised_all (((26 - 0) * 1 + 0) + 1 : Int).toNat) _ V hG x1 y1 hx1 x2 y2 hx2 (0 : Int32) 0 (show (0 : Int32).toInt = 0 from rfl) (by omega) (0 : Int32) 0 (show (0 : Int32).toInt = 0 from rfl) (by omega)    (by omega)
set_option maxRecDepth 10000 in
set_option maxHeartbeats 40000000 in
theorem C_X13_areSigned_5 {P : Par} {g g0 : LH} {d n : Nat}  (V : InvR P g) (hG : Gr g = Gr g0) (x1 : Int32) (y1 : Int) (hx1 : x1.toInt = y1) (x2 : Int32) (y2 : Int) (hx2 : x2.toInt = y2) (x3 : Int32) (y3 : Int) (hx3 : x3.toInt = y3) (hf3 : 0 ≤ y3 ∧ y3 ≤ 1) (x4 : Int32) (y4 : Int) (hx4 : x4.toInt = y4) (hf4 : 0 ≤ y4 ∧ y4 ≤ 26)  (hmu : (26 - y4) * 1 + 0 < (n : Int) + 1) (ih5 : ∀ (g : LH) (V : InvR P g) (hG : Gr g = Gr g0) (x1 : Int32) (y1 : Int) (hx1 : x1.toInt = y1) (x2 : Int32) (y2 : Int) (hx2 : x2.toInt = y2) (x3 : Int32) (y3 : Int) (hx3 : x3.toInt = y3) (hf3 : 0 ≤ y3 ∧ y3 ≤ 1) (x4 : Int32) (y4 : Int) (hx4 : x4.toInt = y4) (hf4 : 0 ≤ y4 ∧ y4 ≤ 26) , (26 - y4) * 1 + 0 < (n : Int) → LW 261 (d + 12) 0 0 5 [some (.ref 355), some (.int x1), some (.int x2), some (.int x3), some (.int x4)] [] g (fun v g' => ∃ r : Int32, v = some (.int r) ∧ 0 ≤ r.toInt ∧ r.toInt ≤ 1 ∧ InvR P g' ∧ Gr g' = Gr g0)) : LW 261 (d + 12) 0 0 5 [some (.ref 355), some (.int x1), some (.int x2), some (.int x3), some (.int x4)] [] g (fun v g' => ∃ r : Int32, v = some (.int r) ∧ 0 ≤ r.toInt ∧ r.toInt ≤ 1 ∧ InvR P g' ∧ Gr g' = Gr g0) := by
  refine X_iload rfl rfl rfl ?_
  refine X_bipush (v := (26 : Int32)) rfl rfl rfl ?_
  refine S_icmp_ge (tgt := 39) rfl rfl rfl hx4 (show (26 : Int32).toInt = 26 from rfl) (fun vh1 => ?_) (fun vh1 => ?_)
  · refine X_iload_n rfl rfl rfl rfl ?_
    have hr := hx3
    exact LW_ireturn (st := []) rfl rfl (nbool hx3 (by omega)) ⟨_, rfl, by omega, by omega, V, hG⟩
  · refine X_iload_n rfl rfl rfl rfl ?_
    refine X_iload rfl rfl rfl ?_
    refine X_callS (as := [.int x1, .int x4]) (st := []) rfl rfl rfl (by decide) rfl (Nat.le_of_ble_eq_true rfl) (by decide) (Nat.le_of_ble_eq_true rfl) rfl ?_
    refine LW_ls (ls' := [some (.int x1), some (.int x4)]) rfl ?_
    refine X_iload_n rfl rfl rfl rfl ?_
    refine X_iload_n rfl rfl rfl rfl ?_
    refine S_ishrT rfl rfl (fun vz2 => ?_)
    refine X_iconst (v := (1 : Int32)) rfl rfl rfl ?_
    refine S_iandR (k := 1) rfl rfl rfl (fun vz3 hvz3 => ?_)
    refine X_iconst (v := (1 : Int32)) rfl rfl rfl ?_
    refine S_icmp_ne (tgt := 13) rfl rfl rfl rfl (show (1 : Int32).toInt = 1 from rfl) (fun vh4 => ?_) (fun vh4 => ?_)
    · refine X_iconst (v := (0 : Int32)) rfl rfl rfl ?_
      refine LW_ireturn (st := []) rfl rfl rfl ?_
      refine S_if_eq (tgt := 33) rfl rfl rfl (show (0 : Int32).toInt = 0 from rfl) (fun vh5 => ?_) (fun q => absurd q (by omega))
      refine S_iinc (c := 1) rfl rfl rfl hx4 rfl (by omega) (fun vz6 hvz6 => ?_)
      refine LW_ls (ls' := [some (.ref 355), some (.int x1), some (.int x2), some (.int x3), some (.int vz6)]) rfl ?_
      refine LW_goto (tgt := 5) rfl rfl ?_
      exact ih5 _ V hG x1 y1 hx1 x2 y2 hx2 x3 y3 hx3 (by omega) vz6 vz6.toInt rfl (by omega)    (by omega)
    · refine X_iconst (v := (1 : Int32)) rfl rfl rfl ?_
      refine LW_goto (tgt := 14) rfl rfl ?_
      refine LW_ireturn (st := []) rfl rfl rfl ?_
      refine S_if_eq (tgt := 33) rfl rfl rfl (show (1 : Int32).toInt = 1 from rfl) (fun q => absurd q (by omega)) (fun vh7 => ?_)
      refine X_aload_n rfl rfl rfl rfl ?_
      refine X_iload rfl rfl rfl ?_
      refine X_iload_n rfl rfl rfl rfl ?_
      refine Y_callV (as := [.int x4, .int x2]) (st := []) rfl rfl rfl (by decide) rfl (Nat.le_of_ble_eq_true rfl) (by decide) (Nat.le_of_ble_eq_true rfl) rfl ((congrFun V.1 355).trans s_355) (by decide) (C_X13_sign V x4 y4 hx4 x2 y2 hx2 ) ?_
      rintro _ g ⟨vr8, rfl, hrvr80, hrvr81, V, hq⟩
      have hG := hq.trans hG
      refine S_if_eq (tgt := 33) rfl rfl rfl rfl (fun vh9 => ?_) (fun vh9 => ?_)
      · refine S_iinc (c := 1) rfl rfl rfl hx4 rfl (by omega) (fun vz10 hvz10 => ?_)
        refine LW_ls (ls' := [some (.ref 355), some (.int x1), some (.int x2), some (.int x3), some (.int vz10)]) rfl ?_
        refine LW_goto (tgt := 5) rfl rfl ?_
        exact ih5 _ V hG x1 y1 hx1 x2 y2 hx2 x3 y3 hx3 (by omega) vz10 vz10.toInt rfl (by omega)    (by omega)
      · refine X_iconst (v := (1 : Int32)) rfl rfl rfl ?_
        refine X_istore_n (i := 3) (ls' := [some (.ref 355), some (.int x1), some (.int x2), some (.int (1 : Int32)), some (.int x4)]) rfl rfl rfl (Nat.le_of_ble_eq_true rfl) rfl ?_
        refine S_iinc (c := 1) rfl rfl rfl hx4 rfl (by omega) (fun vz11 hvz11 => ?_)
        refine LW_ls (ls' := [some (.ref 355), some (.int x1), some (.int x2), some (.int (1 : Int32)), some (.int vz11)]) rfl ?_
        refine LW_goto (tgt := 5) rfl rfl ?_
        exact ih5 _ V hG x1 y1 hx1 x2 y2 hx2 (1 : Int32) 1 (show (1 : Int32).toInt = 1 from rfl) (by omega) vz11 vz11.toInt rfl (by omega)    (by omega)
theorem C_X13_areSigned_all {P : Par} {g0 : LH} {d : Nat}  : ∀ n : Nat, (∀ (g : LH) (V : InvR P g) (hG : Gr g = Gr g0) (x1 : Int32) (y1 : Int) (hx1 : x1.toInt = y1) (x2 : Int32) (y2 : Int) (hx2 : x2.toInt = y2) (x3 : Int32) (y3 : Int) (hx3 : x3.toInt = y3) (hf3 : 0 ≤ y3 ∧ y3 ≤ 1) (x4 : Int32) (y4 : Int) (hx4 : x4.toInt = y4) (hf4 : 0 ≤ y4 ∧ y4 ≤ 26) , (26 - y4) * 1 + 0 < (n : Int) → LW 261 (d + 12) 0 0 5 [some (.ref 355), some (.int x1), some (.int x2), some (.int x3), some (.int x4)] [] g (fun v g' => ∃ r : Int32, v = some (.int r) ∧ 0 ≤ r.toInt ∧ r.toInt ≤ 1 ∧ InvR P g' ∧ Gr g' = Gr g0)) := by
  intro n
  induction n with
  | zero => exact fun g V hG x1 y1 hx1 x2 y2 hx2 x3 y3 hx3 hf3 x4 y4 hx4 hf4 hmu => absurd hmu (by omega)
  | succ n ih => exact fun g V hG x1 y1 hx1 x2 y2 hx2 x3 y3 hx3 hf3 x4 y4 hx4 hf4 hmu => C_X13_areSigned_5  V hG x1 y1 hx1 x2 y2 hx2 x3 y3 hx3 hf3 x4 y4 hx4 hf4 (by omega) ih
set_option maxRecDepth 10000 in
set_option maxHeartbeats 40000000 in
theorem C_X13_areSigned {P : Par} {g : LH} {d : Nat}  (V : InvR P g) (x1 : Int32) (y1 : Int) (hx1 : x1.toInt = y1) (x2 : Int32) (y2 : Int) (hx2 : x2.toInt = y2)   : LW 261 (d + 12) 0 0 0 (lEnt (mL 261) [.ref 355, .int x1, .int x2]) [] g (fun v g' => ∃ r : Int32, v = some (.int r) ∧ 0 ≤ r.toInt ∧ r.toInt ≤ 1 ∧ InvR P g' ∧ Gr g' = Gr g) := by
  refine LW_ls (ls' := [some (.ref 355), some (.int x1), some (.int x2), none, none]) rfl ?_
  have hG : Gr g = Gr g := rfl
  refine X_iconst (v := (0 : Int32)) rfl rfl rfl ?_
  refine X_istore_n (i := 3) (ls' := [some (.ref 355), some (.int x1), some (.int x2), some (.int (0 : Int32)), none]) rfl rfl rfl (Nat.le_of_ble_eq_true rfl) rfl ?_
  refine X_iconst (v := (0 : Int32)) rfl rfl rfl ?_
  refine X_istore (i := 4) (ls' := [some (.ref 355), some (.int x1), some (.int x2), some (.int (0 : Int32)), some (.int (0 : Int32))]) rfl rfl (Nat.le_of_ble_eq_true rfl) rfl ?_
  exact (C_X13_areSigned_all (((26 - 0) * 1 + 0) + 1 : Int).toNat) _ V hG x1 y1 hx1 x2 y2 hx2 (0 : Int32) 0 (show (0 : Int32).toInt = 0 from rfl) (by omega) (0 : Int32) 0 (show (0 : Int32).toInt = 0 from rfl) (by omega)    (by omega)
set_option maxRecDepth 10000 in
set_option maxHeartbeats 40000000 in
theorem C_X13_areMornings_2 {P : Par} {g g0 : LH} {d n : Nat}  (V : InvR P g) (hG : Gr g = Gr g0) (x1 : Int32) (y1 : Int) (hx1 : x1.toInt = y1) (x2 : Int32) (y2 : Int) (hx2 : x2.toInt = y2) (hf2 : 0 ≤ y2)  (hmu : (2147483647 - y2) * 1 + 0 < (n : Int) + 1) (ih2 : ∀ (g : LH) (V : InvR P g) (hG : Gr g = Gr g0) (x1 : Int32) (y1 : Int) (hx1 : x1.toInt = y1) (x2 : Int32) (y2 : Int) (hx2 : x2.toInt = y2) (hf2 : 0 ≤ y2) , (2147483647 - y2) * 1 + 0 < (n : Int) → LW 262 (d + 60) 0 0 2 [some (.ref 355), some (.int x1), some (.int x2)] [] g (fun v g' => ∃ r : Int32, v = some (.int r) ∧ 0 ≤ r.toInt ∧ r.toInt ≤ 1 ∧ InvR P g' ∧ Gr g' = Gr g0)) : LW 262 (d + 60) 0 0 2 [some (.ref 355), some (.int x1), some (.int x2)] [] g (fun v g' => ∃ r : Int32, v = some (.int r) ∧ 0 ≤ r.toInt ∧ r.toInt ≤ 1 ∧ InvR P g' ∧ Gr g' = Gr g0) := by
  refine X_iload_n rfl rfl rfl rfl ?_
  refine X_iload_n rfl rfl rfl rfl ?_
  refine S_icmp_ge (tgt := 22) rfl rfl rfl hx2 hx1 (fun vh1 => ?_) (fun vh1 => ?_)
  · refine X_iconst (v := (1 : Int32)) rfl rfl rfl ?_
    exact LW_ireturn (st := []) rfl rfl rfl ⟨_, rfl, by decide, by decide, V, hG⟩
  · refine X_aload_n rfl rfl rfl rfl ?_
    refine Y_callV (as := []) (st := []) rfl rfl rfl (by decide) rfl (Nat.le_of_ble_eq_true rfl) (by decide) (Nat.le_of_ble_eq_true rfl) rfl ((congrFun V.1 355).trans s_355) (by decide) (C_X13_isMorning V  ) ?_
    rintro _ g ⟨vr2, rfl, hrvr20, hrvr21, V, hq⟩
    have hG := hq.trans hG
    refine S_if_ne (tgt := 16) rfl rfl rfl rfl (fun vh3 => ?_) (fun vh3 => ?_)
    · have hbvz4 := ti_hi x1
      refine S_iinc (c := 1) rfl rfl rfl hx2 rfl (by omega) (fun vz4 hvz4 => ?_)
      refine LW_ls (ls' := [some (.ref 355), some (.int x1), some (.int vz4)]) rfl ?_
      refine LW_goto (tgt := 2) rfl rfl ?_
      exact ih2 _ V hG x1 y1 hx1 vz4 vz4.toInt rfl (by omega)    (by omega)
    · refine X_iconst (v := (0 : Int32)) rfl rfl rfl ?_
      exact LW_ireturn (st := []) rfl rfl rfl ⟨_, rfl, by decide, by decide, V, hG⟩
theorem C_X13_areMornings_all {P : Par} {g0 : LH} {d : Nat}  : ∀ n : Nat, (∀ (g : LH) (V : InvR P g) (hG : Gr g = Gr g0) (x1 : Int32) (y1 : Int) (hx1 : x1.toInt = y1) (x2 : Int32) (y2 : Int) (hx2 : x2.toInt = y2) (hf2 : 0 ≤ y2) , (2147483647 - y2) * 1 + 0 < (n : Int) → LW 262 (d + 60) 0 0 2 [some (.ref 355), some (.int x1), some (.int x2)] [] g (fun v g' => ∃ r : Int32, v = some (.int r) ∧ 0 ≤ r.toInt ∧ r.toInt ≤ 1 ∧ InvR P g' ∧ Gr g' = Gr g0)) := by
  intro n
  induction n with
  | zero => exact fun g V hG x1 y1 hx1 x2 y2 hx2 hf2 hmu => absurd hmu (by have hb2 := ti_hi x2; omega)
  | succ n ih => exact fun g V hG x1 y1 hx1 x2 y2 hx2 hf2 hmu => C_X13_areMornings_2  V hG x1 y1 hx1 x2 y2 hx2 hf2 (by omega) ih
set_option maxRecDepth 10000 in
set_option maxHeartbeats 40000000 in
theorem C_X13_areMornings {P : Par} {g : LH} {d : Nat}  (V : InvR P g) (x1 : Int32) (y1 : Int) (hx1 : x1.toInt = y1)   : LW 262 (d + 60) 0 0 0 (lEnt (mL 262) [.ref 355, .int x1]) [] g (fun v g' => ∃ r : Int32, v = some (.int r) ∧ 0 ≤ r.toInt ∧ r.toInt ≤ 1 ∧ InvR P g' ∧ Gr g' = Gr g) := by
  refine LW_ls (ls' := [some (.ref 355), some (.int x1), none]) rfl ?_
  have hG : Gr g = Gr g := rfl
  refine X_iconst (v := (0 : Int32)) rfl rfl rfl ?_
  refine X_istore_n (i := 2) (ls' := [some (.ref 355), some (.int x1), some (.int (0 : Int32))]) rfl rfl rfl (Nat.le_of_ble_eq_true rfl) rfl ?_
  exact (C_X13_areMornings_all (((2147483647 - 0) * 1 + 0) + 1 : Int).toNat) _ V hG x1 y1 hx1 (0 : Int32) 0 (show (0 : Int32).toInt = 0 from rfl) (by omega)    (by omega)
