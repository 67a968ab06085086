/-! the reference: played -/
set_option maxRecDepth 10000 in
set_option maxHeartbeats 40000000 in
theorem C_X13_dawnT_4 {P : Par} {g g0 : LH} {d n : Nat}  (V : InvR P g) (hG : Gr g = Gr g0) (hT : Gi g 356 4 = Gi g0 356 4) (x1 : Int32) (y1 : Int) (hx1 : x1.toInt = y1) (x2 : Int32) (y2 : Int) (hx2 : x2.toInt = y2) (hf2 : 0 ≤ y2 ∧ y2 ≤ 26)  (hmu : (26 - y2) * 1 + 28 < (n : Int) + 1) (ih4 : ∀ (g : LH) (V : InvR P g) (hG : Gr g = Gr g0) (hT : Gi g 356 4 = Gi g0 356 4) (x1 : Int32) (y1 : Int) (hx1 : x1.toInt = y1) (x2 : Int32) (y2 : Int) (hx2 : x2.toInt = y2) (hf2 : 0 ≤ y2 ∧ y2 ≤ 26) , (26 - y2) * 1 + 28 < (n : Int) → LW 247 (d + 25) 0 0 4 [some (.ref 355), some (.int x1), some (.int x2)] [] g (fun v g' => v = none ∧ InvR P g' ∧ Gr g' = Gr g0 ∧ Gi g' 356 4 = Gi g0 356 4)) (ih36 : ∀ (g : LH) (V : InvR P g) (hG : Gr g = Gr g0) (hT : Gi g 356 4 = Gi g0 356 4) (x1 : Int32) (y1 : Int) (hx1 : x1.toInt = y1) (x2 : Int32) (y2 : Int) (hx2 : x2.toInt = y2) (hf2 : 0 ≤ y2 ∧ y2 ≤ 26) , (26 - y2) * 1 + 0 < (n : Int) → LW 247 (d + 25) 0 0 36 [some (.ref 355), some (.int x1), some (.int x2)] [] g (fun v g' => v = none ∧ InvR P g' ∧ Gr g' = Gr g0 ∧ Gi g' 356 4 = Gi g0 356 4)) : LW 247 (d + 25) 0 0 4 [some (.ref 355), some (.int x1), some (.int x2)] [] g (fun v g' => v = none ∧ InvR P g' ∧ Gr g' = Gr g0 ∧ Gi g' 356 4 = Gi g0 356 4) := by
  refine X_iload_n rfl rfl rfl rfl ?_
  refine X_bipush (v := (26 : Int32)) rfl rfl rfl ?_
  refine S_icmp_ge (tgt := 34) rfl rfl rfl hx2 (show (26 : Int32).toInt = 26 from rfl) (fun vh1 => ?_) (fun vh1 => ?_)
  · refine X_iconst (v := (0 : Int32)) rfl rfl rfl ?_
    refine X_istore_n (i := 2) (ls' := [some (.ref 355), some (.int x1), some (.int (0 : Int32))]) rfl rfl rfl (Nat.le_of_ble_eq_true rfl) rfl ?_
    exact ih36 _ V hG hT x1 y1 hx1 (0 : Int32) 0 (show (0 : Int32).toInt = 0 from rfl) (by omega)    (by omega)
  · refine X_iload_n rfl rfl rfl rfl ?_
    refine X_aload_n rfl rfl rfl rfl ?_
    refine X_iload_n rfl rfl rfl rfl ?_
    refine Y_callV (as := [.int x2]) (st := [.int x1]) rfl rfl rfl (by decide) rfl (Nat.le_of_ble_eq_true rfl) (by decide) (Nat.le_of_ble_eq_true rfl) rfl ((congrFun V.1 355).trans s_355) (by decide) (C_X13_wouldChangeT V x2 y2 hx2 (by omega) ) ?_
    rintro _ g ⟨vr2, rfl, hrvr20, hrvr21, V, hq, chT⟩
    have hG := hq.trans hG
    have hT := chT.trans hT
    refine S_if_eq (tgt := 25) rfl rfl rfl rfl (fun vh3 => ?_) (fun vh3 => ?_)
    · refine X_iconst (v := (0 : Int32)) rfl rfl rfl ?_
      refine S_iorT rfl rfl (fun vz4 => ?_)
      refine X_istore_n (i := 1) (ls' := [some (.ref 355), some (.int vz4), some (.int x2)]) rfl rfl rfl (Nat.le_of_ble_eq_true rfl) rfl ?_
      refine S_iinc (c := 1) rfl rfl rfl hx2 rfl (by omega) (fun vz5 hvz5 => ?_)
      refine LW_ls (ls' := [some (.ref 355), some (.int vz4), some (.int vz5)]) rfl ?_
      refine LW_goto (tgt := 4) rfl rfl ?_
      exact ih4 _ V hG hT vz4 vz4.toInt rfl vz5 vz5.toInt rfl (by omega)    (by omega)
    · refine X_iconst (v := (1 : Int32)) rfl rfl rfl ?_
      refine X_iload_n rfl rfl rfl rfl ?_
      refine S_ishlT rfl rfl (fun vz6 => ?_)
      refine LW_goto (tgt := 26) rfl rfl ?_
      refine S_iorT rfl rfl (fun vz7 => ?_)
      refine X_istore_n (i := 1) (ls' := [some (.ref 355), some (.int vz7), some (.int x2)]) rfl rfl rfl (Nat.le_of_ble_eq_true rfl) rfl ?_
      refine S_iinc (c := 1) rfl rfl rfl hx2 rfl (by omega) (fun vz8 hvz8 => ?_)
      refine LW_ls (ls' := [some (.ref 355), some (.int vz7), some (.int vz8)]) rfl ?_
      refine LW_goto (tgt := 4) rfl rfl ?_
      exact ih4 _ V hG hT vz7 vz7.toInt rfl vz8 vz8.toInt rfl (by omega)    (by omega)
set_option maxRecDepth 10000 in
set_option maxHeartbeats 40000000 in
theorem C_X13_dawnT_36 {P : Par} {g g0 : LH} {d n : Nat}  (V : InvR P g) (hG : Gr g = Gr g0) (hT : Gi g 356 4 = Gi g0 356 4) (x1 : Int32) (y1 : Int) (hx1 : x1.toInt = y1) (x2 : Int32) (y2 : Int) (hx2 : x2.toInt = y2) (hf2 : 0 ≤ y2 ∧ y2 ≤ 26)  (hmu : (26 - y2) * 1 + 0 < (n : Int) + 1) (ih4 : ∀ (g : LH) (V : InvR P g) (hG : Gr g = Gr g0) (hT : Gi g 356 4 = Gi g0 356 4) (x1 : Int32) (y1 : Int) (hx1 : x1.toInt = y1) (x2 : Int32) (y2 : Int) (hx2 : x2.toInt = y2) (hf2 : 0 ≤ y2 ∧ y2 ≤ 26) , (26 - y2) * 1 + 28 < (n : Int) → LW 247 (d + 25) 0 0 4 [some (.ref 355), some (.int x1), some (.int x2)] [] g (fun v g' => v = none ∧ InvR P g' ∧ Gr g' = Gr g0 ∧ Gi g' 356 4 = Gi g0 356 4)) (ih36 : ∀ (g : LH) (V : InvR P g) (hG : Gr g = Gr g0) (hT : Gi g 356 4 = Gi g0 356 4) (x1 : Int32) (y1 : Int) (hx1 : x1.toInt = y1) (x2 : Int32) (y2 : Int) (hx2 : x2.toInt = y2) (hf2 : 0 ≤ y2 ∧ y2 ≤ 26) , (26 - y2) * 1 + 0 < (n : Int) → LW 247 (d + 25) 0 0 36 [some (.ref 355), some (.int x1), some (.int x2)] [] g (fun v g' => v = none ∧ InvR P g' ∧ Gr g' = Gr g0 ∧ Gi g' 356 4 = Gi g0 356 4)) : LW 247 (d + 25) 0 0 36 [some (.ref 355), some (.int x1), some (.int x2)] [] g (fun v g' => v = none ∧ InvR P g' ∧ Gr g' = Gr g0 ∧ Gi g' 356 4 = Gi g0 356 4) := by
  refine X_iload_n rfl rfl rfl rfl ?_
  refine X_bipush (v := (26 : Int32)) rfl rfl rfl ?_
  refine S_icmp_ge (tgt := 101) rfl rfl rfl hx2 (show (26 : Int32).toInt = 26 from rfl) (fun vh1 => ?_) (fun vh1 => ?_)
  · refine X_aload_n rfl rfl rfl rfl ?_
    refine X_getR (a := 356) rfl rfl rfl ((congrFun V.1 355).trans s_355) rfl ((congrFun (V.2.1 355 (by decide)) 0).trans r_355_0) ?_
    refine X_bipush (v := (7 : Int32)) rfl rfl rfl ?_
    refine X_dup2 rfl rfl rfl rfl ?_
    refine S_iald rfl rfl ((congrFun V.1 356).trans s_356) (show (7 : Int32).toInt = 7 from rfl) (by omega) (fun vz2 evz2 => ?_)
    have evz2 : Gi g 356 7 = vz2 := evz2
    refine X_iload_n rfl rfl rfl rfl ?_
    refine S_ixorT rfl rfl (fun vz3 => ?_)
    refine S_iast (I := InvR _) rfl rfl ((congrFun V.1 356).trans s_356) (show (7 : Int32).toInt = 7 from rfl) (by omega) (InvR_putA V (by omega) (B_FREE (by omega))) (fun g V ve4 vn5 hq => ?_)
    have hG := hq.trans hG
    have hT := (vn5 356 4 (Or.inr (by decide))).trans hT
    have ve4 : Gi g 356 7 = vz3 := ve4
    refine X_aload_n rfl rfl rfl rfl ?_
    refine X_getR (a := 356) rfl rfl rfl ((congrFun V.1 355).trans s_355) rfl ((congrFun (V.2.1 355 (by decide)) 0).trans r_355_0) ?_
    refine X_iconst (v := (2 : Int32)) rfl rfl rfl ?_
    refine X_dup2 rfl rfl rfl rfl ?_
    refine S_iald rfl rfl ((congrFun V.1 356).trans s_356) (show (2 : Int32).toInt = 2 from rfl) (by omega) (fun vz6 evz6 => ?_)
    have evz6 : Gi g 356 2 = vz6 := evz6
    refine X_iconst (v := (1 : Int32)) rfl rfl rfl ?_
    refine S_iaddT rfl rfl (fun vz7 => ?_)
    refine S_iast (I := InvR _) rfl rfl ((congrFun V.1 356).trans s_356) (show (2 : Int32).toInt = 2 from rfl) (by omega) (InvR_putA V (by omega) (B_FREE (by omega))) (fun g V ve8 vn9 hq => ?_)
    have hG := hq.trans hG
    have hT := (vn9 356 4 (Or.inr (by decide))).trans hT
    have ve4 := (vn9 (356) 7 (Or.inr (by omega))).trans ve4
    have ve8 : Gi g 356 2 = vz7 := ve8
    exact LW_return (st := []) rfl rfl ⟨rfl, V, hG, hT⟩
  · refine X_aload_n rfl rfl rfl rfl ?_
    refine X_getR (a := 356) rfl rfl rfl ((congrFun V.1 355).trans s_355) rfl ((congrFun (V.2.1 355 (by decide)) 0).trans r_355_0) ?_
    refine X_bipush (v := (38 : Int32)) rfl rfl rfl ?_
    refine X_iload_n rfl rfl rfl rfl ?_
    refine S_iadd rfl rfl (show (38 : Int32).toInt = 38 from rfl) hx2 (by omega) (fun vz10 hvz10 => ?_)
    refine X_iload_n rfl rfl rfl rfl ?_
    refine X_iload_n rfl rfl rfl rfl ?_
    refine X_callS (as := [.int x1, .int x2]) (st := [.int vz10, .ref 356]) rfl rfl rfl (by decide) rfl (Nat.le_of_ble_eq_true rfl) (by decide) (Nat.le_of_ble_eq_true rfl) rfl ?_
    refine LW_ls (ls' := [some (.int x1), some (.int x2)]) rfl ?_
    refine X_iload_n rfl rfl rfl rfl ?_
    refine X_iload_n rfl rfl rfl rfl ?_
    refine S_ishrT rfl rfl (fun vz11 => ?_)
    refine X_iconst (v := (1 : Int32)) rfl rfl rfl ?_
    refine S_iandR (k := 1) rfl rfl rfl (fun vz12 hvz12 => ?_)
    refine X_iconst (v := (1 : Int32)) rfl rfl rfl ?_
    refine S_icmp_ne (tgt := 13) rfl rfl rfl rfl (show (1 : Int32).toInt = 1 from rfl) (fun vh13 => ?_) (fun vh13 => ?_)
    · refine X_iconst (v := (0 : Int32)) rfl rfl rfl ?_
      refine LW_ireturn (st := []) rfl rfl rfl ?_
      refine S_if_eq (tgt := 62) rfl rfl rfl (show (0 : Int32).toInt = 0 from rfl) (fun vh14 => ?_) (fun q => absurd q (by omega))
      refine X_aload_n rfl rfl rfl rfl ?_
      refine X_getR (a := 356) rfl rfl rfl ((congrFun V.1 355).trans s_355) rfl ((congrFun (V.2.1 355 (by decide)) 0).trans r_355_0) ?_
      refine X_bipush (v := (38 : Int32)) rfl rfl rfl ?_
      refine X_iload_n rfl rfl rfl rfl ?_
      refine S_iadd rfl rfl (show (38 : Int32).toInt = 38 from rfl) hx2 (by omega) (fun vz15 hvz15 => ?_)
      refine S_iald rfl rfl ((congrFun V.1 356).trans s_356) rfl (by omega) (fun vz16 evz16 => ?_)
      refine X_sipush (v := (999 : Int32)) rfl rfl rfl ?_
      refine S_icmp_ge (tgt := 91) rfl rfl rfl rfl (show (999 : Int32).toInt = 999 from rfl) (fun vh17 => ?_) (fun vh17 => ?_)
      · refine X_sipush (v := (999 : Int32)) rfl rfl rfl ?_
        refine S_iast (I := InvR _) rfl rfl ((congrFun V.1 356).trans s_356) rfl (by omega) (InvR_putA V (by omega) (B_FREE (by omega))) (fun g V ve18 vn19 hq => ?_)
        have hG := hq.trans hG
        have hT := (vn19 356 4 (Or.inr (by omega))).trans hT
        refine S_iinc (c := 1) rfl rfl rfl hx2 rfl (by omega) (fun vz20 hvz20 => ?_)
        refine LW_ls (ls' := [some (.ref 355), some (.int x1), some (.int vz20)]) rfl ?_
        refine LW_goto (tgt := 36) rfl rfl ?_
        exact ih36 _ V hG hT x1 y1 hx1 vz20 vz20.toInt rfl (by omega)    (by omega)
      · refine X_aload_n rfl rfl rfl rfl ?_
        refine X_getR (a := 356) rfl rfl rfl ((congrFun V.1 355).trans s_355) rfl ((congrFun (V.2.1 355 (by decide)) 0).trans r_355_0) ?_
        refine X_bipush (v := (38 : Int32)) rfl rfl rfl ?_
        refine X_iload_n rfl rfl rfl rfl ?_
        refine S_iadd rfl rfl (show (38 : Int32).toInt = 38 from rfl) hx2 (by omega) (fun vz21 hvz21 => ?_)
        refine S_iald rfl rfl ((congrFun V.1 356).trans s_356) rfl (by omega) (fun vz22 evz22 => ?_)
        refine X_iconst (v := (1 : Int32)) rfl rfl rfl ?_
        refine S_iaddT rfl rfl (fun vz23 => ?_)
        refine LW_goto (tgt := 94) rfl rfl ?_
        refine S_iast (I := InvR _) rfl rfl ((congrFun V.1 356).trans s_356) rfl (by omega) (InvR_putA V (by omega) (B_FREE (by omega))) (fun g V ve24 vn25 hq => ?_)
        have hG := hq.trans hG
        have hT := (vn25 356 4 (Or.inr (by omega))).trans hT
        refine S_iinc (c := 1) rfl rfl rfl hx2 rfl (by omega) (fun vz26 hvz26 => ?_)
        refine LW_ls (ls' := [some (.ref 355), some (.int x1), some (.int vz26)]) rfl ?_
        refine LW_goto (tgt := 36) rfl rfl ?_
        exact ih36 _ V hG hT x1 y1 hx1 vz26 vz26.toInt rfl (by omega)    (by omega)
    · refine X_iconst (v := (1 : Int32)) rfl rfl rfl ?_
      refine LW_goto (tgt := 14) rfl rfl ?_
      refine LW_ireturn (st := []) rfl rfl rfl ?_
      refine S_if_eq (tgt := 62) rfl rfl rfl (show (1 : Int32).toInt = 1 from rfl) (fun q => absurd q (by omega)) (fun vh27 => ?_)
      refine X_iconst (v := (0 : Int32)) rfl rfl rfl ?_
      refine LW_goto (tgt := 94) rfl rfl ?_
      refine S_iast (I := InvR _) rfl rfl ((congrFun V.1 356).trans s_356) rfl (by omega) (InvR_putA V (by omega) (B_FREE (by omega))) (fun g V ve28 vn29 hq => ?_)
      have hG := hq.trans hG
      have hT := (vn29 356 4 (Or.inr (by omega))).trans hT
      refine S_iinc (c := 1) rfl rfl rfl hx2 rfl (by omega) (fun vz30 hvz30 => ?_)
      refine LW_ls (ls' := [some (.ref 355), some (.int x1), some (.int vz30)]) rfl ?_
      refine LW_goto (tgt := 36) rfl rfl ?_
      exact ih36 _ V hG hT x1 y1 hx1 vz30 vz30.toInt rfl (by omega)    (by omega)
theorem C_X13_dawnT_all {P : Par} {g0 : LH} {d : Nat}  : ∀ n : Nat, (∀ (g : LH) (V : InvR P g) (hG : Gr g = Gr g0) (hT : Gi g 356 4 = Gi g0 356 4) (x1 : Int32) (y1 : Int) (hx1 : x1.toInt = y1) (x2 : Int32) (y2 : Int) (hx2 : x2.toInt = y2) (hf2 : 0 ≤ y2 ∧ y2 ≤ 26) , (26 - y2) * 1 + 28 < (n : Int) → LW 247 (d + 25) 0 0 4 [some (.ref 355), some (.int x1), some (.int x2)] [] g (fun v g' => v = none ∧ InvR P g' ∧ Gr g' = Gr g0 ∧ Gi g' 356 4 = Gi g0 356 4)) ∧ (∀ (g : LH) (V : InvR P g) (hG : Gr g = Gr g0) (hT : Gi g 356 4 = Gi g0 356 4) (x1 : Int32) (y1 : Int) (hx1 : x1.toInt = y1) (x2 : Int32) (y2 : Int) (hx2 : x2.toInt = y2) (hf2 : 0 ≤ y2 ∧ y2 ≤ 26) , (26 - y2) * 1 + 0 < (n : Int) → LW 247 (d + 25) 0 0 36 [some (.ref 355), some (.int x1), some (.int x2)] [] g (fun v g' => v = none ∧ InvR P g' ∧ Gr g' = Gr g0 ∧ Gi g' 356 4 = Gi g0 356 4)) := by
  intro n
  induction n with
  | zero => exact ⟨fun g V hG hT x1 y1 hx1 x2 y2 hx2 hf2 hmu => absurd hmu (by omega), fun g V hG hT x1 y1 hx1 x2 y2 hx2 hf2 hmu => absurd hmu (by omega)⟩
  | succ n ih => exact ⟨fun g V hG hT x1 y1 hx1 x2 y2 hx2 hf2 hmu => C_X13_dawnT_4  V hG hT x1 y1 hx1 x2 y2 hx2 hf2 (by omega) ih.1 ih.2, fun g V hG hT x1 y1 hx1 x2 y2 hx2 hf2 hmu => C_X13_dawnT_36  V hG hT x1 y1 hx1 x2 y2 hx2 hf2 (by omega) ih.1 ih.2⟩
set_option maxRecDepth 10000 in
set_option maxHeartbeats 40000000 in
theorem C_X13_dawnT {P : Par} {g : LH} {d : Nat}  (V : InvR P g)    : LW 247 (d + 25) 0 0 0 (lEnt (mL 247) [.ref 355]) [] g (fun v g' => v = none ∧ InvR P g' ∧ Gr g' = Gr g ∧ Gi g' 356 4 = Gi g 356 4) := by
  refine LW_ls (ls' := [some (.ref 355), none, none]) rfl ?_
  have hG : Gr g = Gr g := rfl
  have hT : Gi g 356 4 = Gi g 356 4 := rfl
  refine X_iconst (v := (0 : Int32)) rfl rfl rfl ?_
  refine X_istore_n (i := 1) (ls' := [some (.ref 355), some (.int (0 : Int32)), none]) rfl rfl rfl (Nat.le_of_ble_eq_true rfl) rfl ?_
  refine X_iconst (v := (0 : Int32)) rfl rfl rfl ?_
  refine X_istore_n (i := 2) (ls' := [some (.ref 355), some (.int (0 : Int32)), some (.int (0 : Int32))]) rfl rfl rfl (Nat.le_of_ble_eq_true rfl) rfl ?_
  exact (C_X13_dawnT_all (((26 - 0) * 1 + 28) + 1 : Int).toNat).1 _ V hG hT (0 : Int32) 0 (show (0 : Int32).toInt = 0 from rfl) (0 : Int32) 0 (show (0 : Int32).toInt = 0 from rfl) (by omega)    (by omega)
set_option maxRecDepth 10000 in
set_option maxHeartbeats 40000000 in
theorem C_X13_isMorningT {P : Par} {g : LH} {d : Nat}  (V : InvR P g)    : LW 248 (d + 29) 0 0 0 (lEnt (mL 248) [.ref 355]) [] g (fun v g' => ∃ r : Int32, v = some (.int r) ∧ 0 ≤ r.toInt ∧ r.toInt ≤ 1 ∧ InvR P g' ∧ Gr g' = Gr g ∧ Gi g' 356 4 = Gi g 356 4) := by
  refine LW_ls (ls' := [some (.ref 355)]) rfl ?_
  have hG : Gr g = Gr g := rfl
  have hT : Gi g 356 4 = Gi g 356 4 := rfl
  refine X_aload_n rfl rfl rfl rfl ?_
  refine X_getR (a := 356) rfl rfl rfl ((congrFun V.1 355).trans s_355) rfl ((congrFun (V.2.1 355 (by decide)) 0).trans r_355_0) ?_
  refine X_iconst (v := (2 : Int32)) rfl rfl rfl ?_
  refine S_iald rfl rfl ((congrFun V.1 356).trans s_356) (show (2 : Int32).toInt = 2 from rfl) (by omega) (fun vz1 evz1 => ?_)
  have evz1 : Gi g 356 2 = vz1 := evz1
  refine X_sipush (v := (999 : Int32)) rfl rfl rfl ?_
  refine S_icmp_ne (tgt := 14) rfl rfl rfl rfl (show (999 : Int32).toInt = 999 from rfl) (fun vh2 => ?_) (fun vh2 => ?_)
  · refine X_aload_n rfl rfl rfl rfl ?_
    refine Y_callV (as := []) (st := []) rfl rfl rfl (by decide) rfl (Nat.le_of_ble_eq_true rfl) (by decide) (Nat.le_of_ble_eq_true rfl) rfl ((congrFun V.1 355).trans s_355) (by decide) (C_X13_keep V  ) ?_
    rintro _ g ⟨rfl, V, hq, chF⟩
    have hG := hq.trans hG
    have evz1 := (chF 2 (by omega) (by omega)).trans evz1
    have hT := (chF 4 (by omega) (by omega)).trans hT
    refine X_aload_n rfl rfl rfl rfl ?_
    refine Y_callV (as := []) (st := []) rfl rfl rfl (by decide) rfl (Nat.le_of_ble_eq_true rfl) (by decide) (Nat.le_of_ble_eq_true rfl) rfl ((congrFun V.1 355).trans s_355) (by decide) (C_X13_dawnT V  ) ?_
    rintro _ g ⟨rfl, V, hq, chT⟩
    have hG := hq.trans hG
    have hT := chT.trans hT
    refine X_iconst (v := (1 : Int32)) rfl rfl rfl ?_
    exact LW_ireturn (st := []) rfl rfl rfl ⟨_, rfl, by decide, by decide, V, hG, hT⟩
  · refine X_iconst (v := (0 : Int32)) rfl rfl rfl ?_
    exact LW_ireturn (st := []) rfl rfl rfl ⟨_, rfl, by decide, by decide, V, hG, hT⟩
set_option maxRecDepth 10000 in
set_option maxHeartbeats 40000000 in
theorem C_X13_areMorningsT_2 {P : Par} {g g0 : LH} {d n : Nat}  (V : InvR P g) (hG : Gr g = Gr g0) (hT : Gi g 356 4 = Gi g0 356 4) (x1 : Int32) (y1 : Int) (hx1 : x1.toInt = y1) (x2 : Int32) (y2 : Int) (hx2 : x2.toInt = y2) (hf2 : 0 ≤ y2)  (hmu : (2147483647 - y2) * 1 + 0 < (n : Int) + 1) (ih2 : ∀ (g : LH) (V : InvR P g) (hG : Gr g = Gr g0) (hT : Gi g 356 4 = Gi g0 356 4) (x1 : Int32) (y1 : Int) (hx1 : x1.toInt = y1) (x2 : Int32) (y2 : Int) (hx2 : x2.toInt = y2) (hf2 : 0 ≤ y2) , (2147483647 - y2) * 1 + 0 < (n : Int) → LW 262 (d + 60) 0 0 2 [some (.ref 355), some (.int x1), some (.int x2)] [] g (fun v g' => ∃ r : Int32, v = some (.int r) ∧ 0 ≤ r.toInt ∧ r.toInt ≤ 1 ∧ InvR P g' ∧ Gr g' = Gr g0 ∧ Gi g' 356 4 = Gi g0 356 4)) : LW 262 (d + 60) 0 0 2 [some (.ref 355), some (.int x1), some (.int x2)] [] g (fun v g' => ∃ r : Int32, v = some (.int r) ∧ 0 ≤ r.toInt ∧ r.toInt ≤ 1 ∧ InvR P g' ∧ Gr g' = Gr g0 ∧ Gi g' 356 4 = Gi g0 356 4) := by
  refine X_iload_n rfl rfl rfl rfl ?_
  refine X_iload_n rfl rfl rfl rfl ?_
  refine S_icmp_ge (tgt := 22) rfl rfl rfl hx2 hx1 (fun vh1 => ?_) (fun vh1 => ?_)
  · refine X_iconst (v := (1 : Int32)) rfl rfl rfl ?_
    exact LW_ireturn (st := []) rfl rfl rfl ⟨_, rfl, by decide, by decide, V, hG, hT⟩
  · refine X_aload_n rfl rfl rfl rfl ?_
    refine Y_callV (as := []) (st := []) rfl rfl rfl (by decide) rfl (Nat.le_of_ble_eq_true rfl) (by decide) (Nat.le_of_ble_eq_true rfl) rfl ((congrFun V.1 355).trans s_355) (by decide) (C_X13_isMorningT V  ) ?_
    rintro _ g ⟨vr2, rfl, hrvr20, hrvr21, V, hq, chT⟩
    have hG := hq.trans hG
    have hT := chT.trans hT
    refine S_if_ne (tgt := 16) rfl rfl rfl rfl (fun vh3 => ?_) (fun vh3 => ?_)
    · have hbvz4 := ti_hi x1
      refine S_iinc (c := 1) rfl rfl rfl hx2 rfl (by omega) (fun vz4 hvz4 => ?_)
      refine LW_ls (ls' := [some (.ref 355), some (.int x1), some (.int vz4)]) rfl ?_
      refine LW_goto (tgt := 2) rfl rfl ?_
      exact ih2 _ V hG hT x1 y1 hx1 vz4 vz4.toInt rfl (by omega)    (by omega)
    · refine X_iconst (v := (0 : Int32)) rfl rfl rfl ?_
      exact LW_ireturn (st := []) rfl rfl rfl ⟨_, rfl, by decide, by decide, V, hG, hT⟩
theorem C_X13_areMorningsT_all {P : Par} {g0 : LH} {d : Nat}  : ∀ n : Nat, (∀ (g : LH) (V : InvR P g) (hG : Gr g = Gr g0) (hT : Gi g 356 4 = Gi g0 356 4) (x1 : Int32) (y1 : Int) (hx1 : x1.toInt = y1) (x2 : Int32) (y2 : Int) (hx2 : x2.toInt = y2) (hf2 : 0 ≤ y2) , (2147483647 - y2) * 1 + 0 < (n : Int) → LW 262 (d + 60) 0 0 2 [some (.ref 355), some (.int x1), some (.int x2)] [] g (fun v g' => ∃ r : Int32, v = some (.int r) ∧ 0 ≤ r.toInt ∧ r.toInt ≤ 1 ∧ InvR P g' ∧ Gr g' = Gr g0 ∧ Gi g' 356 4 = Gi g0 356 4)) := by
  intro n
  induction n with
  | zero => exact fun g V hG hT x1 y1 hx1 x2 y2 hx2 hf2 hmu => absurd hmu (by have hb2 := ti_hi x2; omega)
  | succ n ih => exact fun g V hG hT x1 y1 hx1 x2 y2 hx2 hf2 hmu => C_X13_areMorningsT_2  V hG hT x1 y1 hx1 x2 y2 hx2 hf2 (by omega) ih
set_option maxRecDepth 10000 in
set_option maxHeartbeats 40000000 in
theorem C_X13_areMorningsT {P : Par} {g : LH} {d : Nat}  (V : InvR P g) (x1 : Int32) (y1 : Int) (hx1 : x1.toInt = y1)   : LW 262 (d + 60) 0 0 0 (lEnt (mL 262) [.ref 355, .int x1]) [] g (fun v g' => ∃ r : Int32, v = some (.int r) ∧ 0 ≤ r.toInt ∧ r.toInt ≤ 1 ∧ InvR P g' ∧ Gr g' = Gr g ∧ Gi g' 356 4 = Gi g 356 4) := by
  refine LW_ls (ls' := [some (.ref 355), some (.int x1), none]) rfl ?_
  have hG : Gr g = Gr g := rfl
  have hT : Gi g 356 4 = Gi g 356 4 := rfl
  refine X_iconst (v := (0 : Int32)) rfl rfl rfl ?_
  refine X_istore_n (i := 2) (ls' := [some (.ref 355), some (.int x1), some (.int (0 : Int32))]) rfl rfl rfl (Nat.le_of_ble_eq_true rfl) rfl ?_
  exact (C_X13_areMorningsT_all (((2147483647 - 0) * 1 + 0) + 1 : Int).toNat) _ V hG hT x1 y1 hx1 (0 : Int32) 0 (show (0 : Int32).toInt = 0 from rfl) (by omega)    (by omega)
set_option maxRecDepth 10000 in
set_option maxHeartbeats 40000000 in
theorem C_X13_areTiedT_5 {P : Par} {g g0 : LH} {d n : Nat}  (V : InvR P g) (hG : Gr g = Gr g0) (hT : Gi g 356 4 = Gi g0 356 4) (x1 : Int32) (y1 : Int) (hx1 : x1.toInt = y1) (x2 : Int32) (y2 : Int) (hx2 : x2.toInt = y2) (x3 : Int32) (y3 : Int) (hx3 : x3.toInt = y3) (hf3 : 0 ≤ y3 ∧ y3 ≤ 1) (x4 : Int32) (y4 : Int) (hx4 : x4.toInt = y4) (hf4 : 0 ≤ y4 ∧ y4 ≤ 26) (o5 : Option Value)  (hmu : (26 - y4) * 30 + 29 < (n : Int) + 1) (ih5 : ∀ (g : LH) (V : InvR P g) (hG : Gr g = Gr g0) (hT : Gi g 356 4 = Gi g0 356 4) (x1 : Int32) (y1 : Int) (hx1 : x1.toInt = y1) (x2 : Int32) (y2 : Int) (hx2 : x2.toInt = y2) (x3 : Int32) (y3 : Int) (hx3 : x3.toInt = y3) (hf3 : 0 ≤ y3 ∧ y3 ≤ 1) (x4 : Int32) (y4 : Int) (hx4 : x4.toInt = y4) (hf4 : 0 ≤ y4 ∧ y4 ≤ 26) (o5 : Option Value) , (26 - y4) * 30 + 29 < (n : Int) → LW 259 (d + 12) 0 0 5 [some (.ref 355), some (.int x1), some (.int x2), some (.int x3), some (.int x4), o5] [] g (fun v g' => ∃ r : Int32, v = some (.int r) ∧ 0 ≤ r.toInt ∧ r.toInt ≤ 1 ∧ InvR P g' ∧ Gr g' = Gr g0 ∧ Gi g' 356 4 = Gi g0 356 4)) (ih15 : ∀ (g : LH) (V : InvR P g) (hG : Gr g = Gr g0) (hT : Gi g 356 4 = Gi g0 356 4) (x1 : Int32) (y1 : Int) (hx1 : x1.toInt = y1) (x2 : Int32) (y2 : Int) (hx2 : x2.toInt = y2) (x3 : Int32) (y3 : Int) (hx3 : x3.toInt = y3) (hf3 : 0 ≤ y3 ∧ y3 ≤ 1) (x4 : Int32) (y4 : Int) (hx4 : x4.toInt = y4) (hf4 : 0 ≤ y4 ∧ y4 ≤ 25) (x5 : Int32) (y5 : Int) (hx5 : x5.toInt = y5) (hf5 : 0 ≤ y5 ∧ y5 ≤ 26) , (26 - y4) * 30 + 0 + (26 - y5) * 1 + 0 < (n : Int) → LW 259 (d + 12) 0 0 15 [some (.ref 355), some (.int x1), some (.int x2), some (.int x3), some (.int x4), some (.int x5)] [] g (fun v g' => ∃ r : Int32, v = some (.int r) ∧ 0 ≤ r.toInt ∧ r.toInt ≤ 1 ∧ InvR P g' ∧ Gr g' = Gr g0 ∧ Gi g' 356 4 = Gi g0 356 4)) : LW 259 (d + 12) 0 0 5 [some (.ref 355), some (.int x1), some (.int x2), some (.int x3), some (.int x4), o5] [] g (fun v g' => ∃ r : Int32, v = some (.int r) ∧ 0 ≤ r.toInt ∧ r.toInt ≤ 1 ∧ InvR P g' ∧ Gr g' = Gr g0 ∧ Gi g' 356 4 = Gi g0 356 4) := by
  refine X_iload rfl rfl rfl ?_
  refine X_bipush (v := (26 : Int32)) rfl rfl rfl ?_
  refine S_icmp_ge (tgt := 65) rfl rfl rfl hx4 (show (26 : Int32).toInt = 26 from rfl) (fun vh1 => ?_) (fun vh1 => ?_)
  · refine X_iload_n rfl rfl rfl rfl ?_
    have hr := hx3
    exact LW_ireturn (st := []) rfl rfl (nbool hx3 (by omega)) ⟨_, rfl, by omega, by omega, V, hG, hT⟩
  · refine X_iconst (v := (0 : Int32)) rfl rfl rfl ?_
    refine X_istore (i := 5) (ls' := [some (.ref 355), some (.int x1), some (.int x2), some (.int x3), some (.int x4), some (.int (0 : Int32))]) rfl rfl (Nat.le_of_ble_eq_true rfl) rfl ?_
    exact ih15 _ V hG hT x1 y1 hx1 x2 y2 hx2 x3 y3 hx3 (by omega) x4 y4 hx4 (by omega) (0 : Int32) 0 (show (0 : Int32).toInt = 0 from rfl) (by omega)    (by omega)
set_option maxRecDepth 10000 in
set_option maxHeartbeats 40000000 in
theorem C_X13_areTiedT_15 {P : Par} {g g0 : LH} {d n : Nat}  (V : InvR P g) (hG : Gr g = Gr g0) (hT : Gi g 356 4 = Gi g0 356 4) (x1 : Int32) (y1 : Int) (hx1 : x1.toInt = y1) (x2 : Int32) (y2 : Int) (hx2 : x2.toInt = y2) (x3 : Int32) (y3 : Int) (hx3 : x3.toInt = y3) (hf3 : 0 ≤ y3 ∧ y3 ≤ 1) (x4 : Int32) (y4 : Int) (hx4 : x4.toInt = y4) (hf4 : 0 ≤ y4 ∧ y4 ≤ 25) (x5 : Int32) (y5 : Int) (hx5 : x5.toInt = y5) (hf5 : 0 ≤ y5 ∧ y5 ≤ 26)  (hmu : (26 - y4) * 30 + 0 + (26 - y5) * 1 + 0 < (n : Int) + 1) (ih5 : ∀ (g : LH) (V : InvR P g) (hG : Gr g = Gr g0) (hT : Gi g 356 4 = Gi g0 356 4) (x1 : Int32) (y1 : Int) (hx1 : x1.toInt = y1) (x2 : Int32) (y2 : Int) (hx2 : x2.toInt = y2) (x3 : Int32) (y3 : Int) (hx3 : x3.toInt = y3) (hf3 : 0 ≤ y3 ∧ y3 ≤ 1) (x4 : Int32) (y4 : Int) (hx4 : x4.toInt = y4) (hf4 : 0 ≤ y4 ∧ y4 ≤ 26) (o5 : Option Value) , (26 - y4) * 30 + 29 < (n : Int) → LW 259 (d + 12) 0 0 5 [some (.ref 355), some (.int x1), some (.int x2), some (.int x3), some (.int x4), o5] [] g (fun v g' => ∃ r : Int32, v = some (.int r) ∧ 0 ≤ r.toInt ∧ r.toInt ≤ 1 ∧ InvR P g' ∧ Gr g' = Gr g0 ∧ Gi g' 356 4 = Gi g0 356 4)) (ih15 : ∀ (g : LH) (V : InvR P g) (hG : Gr g = Gr g0) (hT : Gi g 356 4 = Gi g0 356 4) (x1 : Int32) (y1 : Int) (hx1 : x1.toInt = y1) (x2 : Int32) (y2 : Int) (hx2 : x2.toInt = y2) (x3 : Int32) (y3 : Int) (hx3 : x3.toInt = y3) (hf3 : 0 ≤ y3 ∧ y3 ≤ 1) (x4 : Int32) (y4 : Int) (hx4 : x4.toInt = y4) (hf4 : 0 ≤ y4 ∧ y4 ≤ 25) (x5 : Int32) (y5 : Int) (hx5 : x5.toInt = y5) (hf5 : 0 ≤ y5 ∧ y5 ≤ 26) , (26 - y4) * 30 + 0 + (26 - y5) * 1 + 0 < (n : Int) → LW 259 (d + 12) 0 0 15 [some (.ref 355), some (.int x1), some (.int x2), some (.int x3), some (.int x4), some (.int x5)] [] g (fun v g' => ∃ r : Int32, v = some (.int r) ∧ 0 ≤ r.toInt ∧ r.toInt ≤ 1 ∧ InvR P g' ∧ Gr g' = Gr g0 ∧ Gi g' 356 4 = Gi g0 356 4)) : LW 259 (d + 12) 0 0 15 [some (.ref 355), some (.int x1), some (.int x2), some (.int x3), some (.int x4), some (.int x5)] [] g (fun v g' => ∃ r : Int32, v = some (.int r) ∧ 0 ≤ r.toInt ∧ r.toInt ≤ 1 ∧ InvR P g' ∧ Gr g' = Gr g0 ∧ Gi g' 356 4 = Gi g0 356 4) := by
  refine X_iload rfl rfl rfl ?_
  refine X_bipush (v := (26 : Int32)) rfl rfl rfl ?_
  refine S_icmp_ge (tgt := 59) rfl rfl rfl hx5 (show (26 : Int32).toInt = 26 from rfl) (fun vh1 => ?_) (fun vh1 => ?_)
  · refine S_iinc (c := 1) rfl rfl rfl hx4 rfl (by omega) (fun vz2 hvz2 => ?_)
    refine LW_ls (ls' := [some (.ref 355), some (.int x1), some (.int x2), some (.int x3), some (.int vz2), some (.int x5)]) rfl ?_
    refine LW_goto (tgt := 5) rfl rfl ?_
    exact ih5 _ V hG hT x1 y1 hx1 x2 y2 hx2 x3 y3 hx3 (by omega) vz2 vz2.toInt rfl (by omega) (some (.int x5))    (by omega)
  · refine X_iload_n rfl rfl rfl rfl ?_
    refine X_iload rfl rfl rfl ?_
    refine X_callS (as := [.int x1, .int x4]) (st := []) rfl rfl rfl (by decide) rfl (Nat.le_of_ble_eq_true rfl) (by decide) (Nat.le_of_ble_eq_true rfl) rfl ?_
    refine LW_ls (ls' := [some (.int x1), some (.int x4)]) rfl ?_
    refine X_iload_n rfl rfl rfl rfl ?_
    refine X_iload_n rfl rfl rfl rfl ?_
    refine S_ishrT rfl rfl (fun vz3 => ?_)
    refine X_iconst (v := (1 : Int32)) rfl rfl rfl ?_
    refine S_iandR (k := 1) rfl rfl rfl (fun vz4 hvz4 => ?_)
    refine X_iconst (v := (1 : Int32)) rfl rfl rfl ?_
    refine S_icmp_ne (tgt := 13) rfl rfl rfl rfl (show (1 : Int32).toInt = 1 from rfl) (fun vh5 => ?_) (fun vh5 => ?_)
    · refine X_iconst (v := (0 : Int32)) rfl rfl rfl ?_
      refine LW_ireturn (st := []) rfl rfl rfl ?_
      refine S_if_eq (tgt := 53) rfl rfl rfl (show (0 : Int32).toInt = 0 from rfl) (fun vh6 => ?_) (fun q => absurd q (by omega))
      refine S_iinc (c := 1) rfl rfl rfl hx5 rfl (by omega) (fun vz7 hvz7 => ?_)
      refine LW_ls (ls' := [some (.ref 355), some (.int x1), some (.int x2), some (.int x3), some (.int x4), some (.int vz7)]) rfl ?_
      refine LW_goto (tgt := 15) rfl rfl ?_
      exact ih15 _ V hG hT x1 y1 hx1 x2 y2 hx2 x3 y3 hx3 (by omega) x4 y4 hx4 (by omega) vz7 vz7.toInt rfl (by omega)    (by omega)
    · refine X_iconst (v := (1 : Int32)) rfl rfl rfl ?_
      refine LW_goto (tgt := 14) rfl rfl ?_
      refine LW_ireturn (st := []) rfl rfl rfl ?_
      refine S_if_eq (tgt := 53) rfl rfl rfl (show (1 : Int32).toInt = 1 from rfl) (fun q => absurd q (by omega)) (fun vh8 => ?_)
      refine X_iload_n rfl rfl rfl rfl ?_
      refine X_iload rfl rfl rfl ?_
      refine X_callS (as := [.int x2, .int x5]) (st := []) rfl rfl rfl (by decide) rfl (Nat.le_of_ble_eq_true rfl) (by decide) (Nat.le_of_ble_eq_true rfl) rfl ?_
      refine LW_ls (ls' := [some (.int x2), some (.int x5)]) rfl ?_
      refine X_iload_n rfl rfl rfl rfl ?_
      refine X_iload_n rfl rfl rfl rfl ?_
      refine S_ishrT rfl rfl (fun vz9 => ?_)
      refine X_iconst (v := (1 : Int32)) rfl rfl rfl ?_
      refine S_iandR (k := 1) rfl rfl rfl (fun vz10 hvz10 => ?_)
      refine X_iconst (v := (1 : Int32)) rfl rfl rfl ?_
      refine S_icmp_ne (tgt := 13) rfl rfl rfl rfl (show (1 : Int32).toInt = 1 from rfl) (fun vh11 => ?_) (fun vh11 => ?_)
      · refine X_iconst (v := (0 : Int32)) rfl rfl rfl ?_
        refine LW_ireturn (st := []) rfl rfl rfl ?_
        refine S_if_eq (tgt := 53) rfl rfl rfl (show (0 : Int32).toInt = 0 from rfl) (fun vh12 => ?_) (fun q => absurd q (by omega))
        refine S_iinc (c := 1) rfl rfl rfl hx5 rfl (by omega) (fun vz13 hvz13 => ?_)
        refine LW_ls (ls' := [some (.ref 355), some (.int x1), some (.int x2), some (.int x3), some (.int x4), some (.int vz13)]) rfl ?_
        refine LW_goto (tgt := 15) rfl rfl ?_
        exact ih15 _ V hG hT x1 y1 hx1 x2 y2 hx2 x3 y3 hx3 (by omega) x4 y4 hx4 (by omega) vz13 vz13.toInt rfl (by omega)    (by omega)
      · refine X_iconst (v := (1 : Int32)) rfl rfl rfl ?_
        refine LW_goto (tgt := 14) rfl rfl ?_
        refine LW_ireturn (st := []) rfl rfl rfl ?_
        refine S_if_eq (tgt := 53) rfl rfl rfl (show (1 : Int32).toInt = 1 from rfl) (fun q => absurd q (by omega)) (fun vh14 => ?_)
        refine X_aload_n rfl rfl rfl rfl ?_
        refine X_iload rfl rfl rfl ?_
        refine X_iload rfl rfl rfl ?_
        refine Y_callV (as := [.int x4, .int x5]) (st := []) rfl rfl rfl (by decide) rfl (Nat.le_of_ble_eq_true rfl) (by decide) (Nat.le_of_ble_eq_true rfl) rfl ((congrFun V.1 355).trans s_355) (by decide) (C_X13_tieT V x4 y4 hx4 x5 y5 hx5 ) ?_
        rintro _ g ⟨vr15, rfl, hrvr150, hrvr151, V, hq, chT⟩
        have hG := hq.trans hG
        have hT := chT.trans hT
        refine S_if_eq (tgt := 53) rfl rfl rfl rfl (fun vh16 => ?_) (fun vh16 => ?_)
        · refine S_iinc (c := 1) rfl rfl rfl hx5 rfl (by omega) (fun vz17 hvz17 => ?_)
          refine LW_ls (ls' := [some (.ref 355), some (.int x1), some (.int x2), some (.int x3), some (.int x4), some (.int vz17)]) rfl ?_
          refine LW_goto (tgt := 15) rfl rfl ?_
          exact ih15 _ V hG hT x1 y1 hx1 x2 y2 hx2 x3 y3 hx3 (by omega) x4 y4 hx4 (by omega) vz17 vz17.toInt rfl (by omega)    (by omega)
        · refine X_iconst (v := (1 : Int32)) rfl rfl rfl ?_
          refine X_istore_n (i := 3) (ls' := [some (.ref 355), some (.int x1), some (.int x2), some (.int (1 : Int32)), some (.int x4), some (.int x5)]) rfl rfl rfl (Nat.le_of_ble_eq_true rfl) rfl ?_
          refine S_iinc (c := 1) rfl rfl rfl hx5 rfl (by omega) (fun vz18 hvz18 => ?_)
          refine LW_ls (ls' := [some (.ref 355), some (.int x1), some (.int x2), some (.int (1 : Int32)), some (.int x4), some (.int vz18)]) rfl ?_
          refine LW_goto (tgt := 15) rfl rfl ?_
          exact ih15 _ V hG hT x1 y1 hx1 x2 y2 hx2 (1 : Int32) 1 (show (1 : Int32).toInt = 1 from rfl) (by omega) x4 y4 hx4 (by omega) vz18 vz18.toInt rfl (by omega)    (by omega)
theorem C_X13_areTiedT_all {P : Par} {g0 : LH} {d : Nat}  : ∀ n : Nat, (∀ (g : LH) (V : InvR P g) (hG : Gr g = Gr g0) (hT : Gi g 356 4 = Gi g0 356 4) (x1 : Int32) (y1 : Int) (hx1 : x1.toInt = y1) (x2 : Int32) (y2 : Int) (hx2 : x2.toInt = y2) (x3 : Int32) (y3 : Int) (hx3 : x3.toInt = y3) (hf3 : 0 ≤ y3 ∧ y3 ≤ 1) (x4 : Int32) (y4 : Int) (hx4 : x4.toInt = y4) (hf4 : 0 ≤ y4 ∧ y4 ≤ 26) (o5 : Option Value) , (26 - y4) * 30 + 29 < (n : Int) → LW 259 (d + 12) 0 0 5 [some (.ref 355), some (.int x1), some (.int x2), some (.int x3), some (.int x4), o5] [] g (fun v g' => ∃ r : Int32, v = some (.int r) ∧ 0 ≤ r.toInt ∧ r.toInt ≤ 1 ∧ InvR P g' ∧ Gr g' = Gr g0 ∧ Gi g' 356 4 = Gi g0 356 4)) ∧ (∀ (g : LH) (V : InvR P g) (hG : Gr g = Gr g0) (hT : Gi g 356 4 = Gi g0 356 4) (x1 : Int32) (y1 : Int) (hx1 : x1.toInt = y1) (x2 : Int32) (y2 : Int) (hx2 : x2.toInt = y2) (x3 : Int32) (y3 : Int) (hx3 : x3.toInt = y3) (hf3 : 0 ≤ y3 ∧ y3 ≤ 1) (x4 : Int32) (y4 : Int) (hx4 : x4.toInt = y4) (hf4 : 0 ≤ y4 ∧ y4 ≤ 25) (x5 : Int32) (y5 : Int) (hx5 : x5.toInt = y5) (hf5 : 0 ≤ y5 ∧ y5 ≤ 26) , (26 - y4) * 30 + 0 + (26 - y5) * 1 + 0 < (n : Int) → LW 259 (d + 12) 0 0 15 [some (.ref 355), some (.int x1), some (.int x2), some (.int x3), some (.int x4), some (.int x5)] [] g (fun v g' => ∃ r : Int32, v = some (.int r) ∧ 0 ≤ r.toInt ∧ r.toInt ≤ 1 ∧ InvR P g' ∧ Gr g' = Gr g0 ∧ Gi g' 356 4 = Gi g0 356 4)) := by
  intro n
  induction n with
  | zero => exact ⟨fun g V hG hT x1 y1 hx1 x2 y2 hx2 x3 y3 hx3 hf3 x4 y4 hx4 hf4 o5 hmu => absurd hmu (by omega), fun g V hG hT x1 y1 hx1 x2 y2 hx2 x3 y3 hx3 hf3 x4 y4 hx4 hf4 x5 y5 hx5 hf5 hmu => absurd hmu (by omega)⟩
  | succ n ih => exact ⟨fun g V hG hT x1 y1 hx1 x2 y2 hx2 x3 y3 hx3 hf3 x4 y4 hx4 hf4 o5 hmu => C_X13_areTiedT_5  V hG hT x1 y1 hx1 x2 y2 hx2 x3 y3 hx3 hf3 x4 y4 hx4 hf4 o5 (by omega) ih.1 ih.2, fun g V hG hT x1 y1 hx1 x2 y2 hx2 x3 y3 hx3 hf3 x4 y4 hx4 hf4 x5 y5 hx5 hf5 hmu => C_X13_areTiedT_15  V hG hT x1 y1 hx1 x2 y2 hx2 x3 y3 hx3 hf3 x4 y4 hx4 hf4 x5 y5 hx5 hf5 (by omega) ih.1 ih.2⟩
set_option maxRecDepth 10000 in
set_option maxHeartbeats 40000000 in
theorem C_X13_areTiedT {P : Par} {g : LH} {d : Nat}  (V : InvR P g) (x1 : Int32) (y1 : Int) (hx1 : x1.toInt = y1) (x2 : Int32) (y2 : Int) (hx2 : x2.toInt = y2)   : LW 259 (d + 12) 0 0 0 (lEnt (mL 259) [.ref 355, .int x1, .int x2]) [] g (fun v g' => ∃ r : Int32, v = some (.int r) ∧ 0 ≤ r.toInt ∧ r.toInt ≤ 1 ∧ InvR P g' ∧ Gr g' = Gr g ∧ Gi g' 356 4 = Gi g 356 4) := by
  refine LW_ls (ls' := [some (.ref 355), some (.int x1), some (.int x2), none, none, none]) rfl ?_
  have hG : Gr g = Gr g := rfl
  have hT : Gi g 356 4 = Gi g 356 4 := rfl
  refine X_iconst (v := (0 : Int32)) rfl rfl rfl ?_
  refine X_istore_n (i := 3) (ls' := [some (.ref 355), some (.int x1), some (.int x2), some (.int (0 : Int32)), none, none]) rfl rfl rfl (Nat.le_of_ble_eq_true rfl) rfl ?_
  refine X_iconst (v := (0 : Int32)) rfl rfl rfl ?_
  refine X_istore (i := 4) (ls' := [some (.ref 355), some (.int x1), some (.int x2), some (.int (0 : Int32)), some (.int (0 : Int32)), none]) rfl rfl (Nat.le_of_ble_eq_true rfl) rfl ?_
  exact (C_X13_areTiedT_all (((26 - 0) * 30 + 29) + 1 : Int).toNat).1 _ V hG hT x1 y1 hx1 x2 y2 hx2 (0 : Int32) 0 (show (0 : Int32).toInt = 0 from rfl) (by omega) (0 : Int32) 0 (show (0 : Int32).toInt = 0 from rfl) (by omega) none    (by omega)
set_option maxRecDepth 10000 in
set_option maxHeartbeats 40000000 in
theorem C_X13_areRaisedT_5 {P : Par} {g g0 : LH} {d n : Nat}  (V : InvR P g) (hG : Gr g = Gr g0) (hT : Gi g 356 4 = Gi g0 356 4) (x1 : Int32) (y1 : Int) (hx1 : x1.toInt = y1) (x2 : Int32) (y2 : Int) (hx2 : x2.toInt = y2) (x3 : Int32) (y3 : Int) (hx3 : x3.toInt = y3) (hf3 : 0 ≤ y3 ∧ y3 ≤ 1) (x4 : Int32) (y4 : Int) (hx4 : x4.toInt = y4) (hf4 : 0 ≤ y4 ∧ y4 ≤ 26)  (hmu : (26 - y4) * 1 + 0 < (n : Int) + 1) (ih5 : ∀ (g : LH) (V : InvR P g) (hG : Gr g = Gr g0) (hT : Gi g 356 4 = Gi g0 356 4) (x1 : Int32) (y1 : Int) (hx1 : x1.toInt = y1) (x2 : Int32) (y2 : Int) (hx2 : x2.toInt = y2) (x3 : Int32) (y3 : Int) (hx3 : x3.toInt = y3) (hf3 : 0 ≤ y3 ∧ y3 ≤ 1) (x4 : Int32) (y4 : Int) (hx4 : x4.toInt = y4) (hf4 : 0 ≤ y4 ∧ y4 ≤ 26) , (26 - y4) * 1 + 0 < (n : Int) → LW 260 (d + 12) 0 0 5 [some (.ref 355), some (.int x1), some (.int x2), some (.int x3), some (.int x4)] [] g (fun v g' => ∃ r : Int32, v = some (.int r) ∧ 0 ≤ r.toInt ∧ r.toInt ≤ 1 ∧ InvR P g' ∧ Gr g' = Gr g0 ∧ Gi g' 356 4 = Gi g0 356 4)) : LW 260 (d + 12) 0 0 5 [some (.ref 355), some (.int x1), some (.int x2), some (.int x3), some (.int x4)] [] g (fun v g' => ∃ r : Int32, v = some (.int r) ∧ 0 ≤ r.toInt ∧ r.toInt ≤ 1 ∧ InvR P g' ∧ Gr g' = Gr g0 ∧ Gi g' 356 4 = Gi g0 356 4) := by
  refine X_iload rfl rfl rfl ?_
  refine X_bipush (v := (26 : Int32)) rfl rfl rfl ?_
  refine S_icmp_ge (tgt := 72) rfl rfl rfl hx4 (show (26 : Int32).toInt = 26 from rfl) (fun vh1 => ?_) (fun vh1 => ?_)
  · refine X_iload_n rfl rfl rfl rfl ?_
    have hr := hx3
    exact LW_ireturn (st := []) rfl rfl (nbool hx3 (by omega)) ⟨_, rfl, by omega, by omega, V, hG, hT⟩
  · refine X_iload_n rfl rfl rfl rfl ?_
    refine X_iload rfl rfl rfl ?_
    refine X_callS (as := [.int x1, .int x4]) (st := []) rfl rfl rfl (by decide) rfl (Nat.le_of_ble_eq_true rfl) (by decide) (Nat.le_of_ble_eq_true rfl) rfl ?_
    refine LW_ls (ls' := [some (.int x1), some (.int x4)]) rfl ?_
    refine X_iload_n rfl rfl rfl rfl ?_
    refine X_iload_n rfl rfl rfl rfl ?_
    refine S_ishrT rfl rfl (fun vz2 => ?_)
    refine X_iconst (v := (1 : Int32)) rfl rfl rfl ?_
    refine S_iandR (k := 1) rfl rfl rfl (fun vz3 hvz3 => ?_)
    refine X_iconst (v := (1 : Int32)) rfl rfl rfl ?_
    refine S_icmp_ne (tgt := 13) rfl rfl rfl rfl (show (1 : Int32).toInt = 1 from rfl) (fun vh4 => ?_) (fun vh4 => ?_)
    · refine X_iconst (v := (0 : Int32)) rfl rfl rfl ?_
      refine LW_ireturn (st := []) rfl rfl rfl ?_
      refine S_if_eq (tgt := 66) rfl rfl rfl (show (0 : Int32).toInt = 0 from rfl) (fun vh5 => ?_) (fun q => absurd q (by omega))
      refine S_iinc (c := 1) rfl rfl rfl hx4 rfl (by omega) (fun vz6 hvz6 => ?_)
      refine LW_ls (ls' := [some (.ref 355), some (.int x1), some (.int x2), some (.int x3), some (.int vz6)]) rfl ?_
      refine LW_goto (tgt := 5) rfl rfl ?_
      exact ih5 _ V hG hT x1 y1 hx1 x2 y2 hx2 x3 y3 hx3 (by omega) vz6 vz6.toInt rfl (by omega)    (by omega)
    · refine X_iconst (v := (1 : Int32)) rfl rfl rfl ?_
      refine LW_goto (tgt := 14) rfl rfl ?_
      refine LW_ireturn (st := []) rfl rfl rfl ?_
      refine S_if_eq (tgt := 66) rfl rfl rfl (show (1 : Int32).toInt = 1 from rfl) (fun q => absurd q (by omega)) (fun vh7 => ?_)
      refine X_aload_n rfl rfl rfl rfl ?_
      refine X_iload rfl rfl rfl ?_
      refine X_aload_n rfl rfl rfl rfl ?_
      refine X_getR (a := 356) rfl rfl rfl ((congrFun V.1 355).trans s_355) rfl ((congrFun (V.2.1 355 (by decide)) 0).trans r_355_0) ?_
      refine X_bipush (v := (12 : Int32)) rfl rfl rfl ?_
      refine X_iload rfl rfl rfl ?_
      refine S_iadd rfl rfl (show (12 : Int32).toInt = 12 from rfl) hx4 (by omega) (fun vz8 hvz8 => ?_)
      refine S_iald rfl rfl ((congrFun V.1 356).trans s_356) rfl (by omega) (fun vz9 evz9 => ?_)
      refine X_iload_n rfl rfl rfl rfl ?_
      refine S_iaddT rfl rfl (fun vz10 => ?_)
      refine X_bipush (v := (99 : Int32)) rfl rfl rfl ?_
      refine S_icmp_le (tgt := 46) rfl rfl rfl rfl (show (99 : Int32).toInt = 99 from rfl) (fun vh11 => ?_) (fun vh11 => ?_)
      · refine X_aload_n rfl rfl rfl rfl ?_
        refine X_getR (a := 356) rfl rfl rfl ((congrFun V.1 355).trans s_355) rfl ((congrFun (V.2.1 355 (by decide)) 0).trans r_355_0) ?_
        refine X_bipush (v := (12 : Int32)) rfl rfl rfl ?_
        refine X_iload rfl rfl rfl ?_
        refine S_iadd rfl rfl (show (12 : Int32).toInt = 12 from rfl) hx4 (by omega) (fun vz12 hvz12 => ?_)
        refine S_iald rfl rfl ((congrFun V.1 356).trans s_356) rfl (by omega) (fun vz13 evz13 => ?_)
        refine X_iload_n rfl rfl rfl rfl ?_
        refine S_iaddT rfl rfl (fun vz14 => ?_)
        refine Y_callV (as := [.int x4, .int vz14]) (st := []) rfl rfl rfl (by decide) rfl (Nat.le_of_ble_eq_true rfl) (by decide) (Nat.le_of_ble_eq_true rfl) rfl ((congrFun V.1 355).trans s_355) (by decide) (C_X13_raiseT V x4 y4 hx4 vz14 vz14.toInt rfl ) ?_
        rintro _ g ⟨vr15, rfl, hrvr150, hrvr151, V, hq, chT⟩
        have hG := hq.trans hG
        have hT := chT.trans hT
        refine S_if_eq (tgt := 66) rfl rfl rfl rfl (fun vh16 => ?_) (fun vh16 => ?_)
        · refine S_iinc (c := 1) rfl rfl rfl hx4 rfl (by omega) (fun vz17 hvz17 => ?_)
          refine LW_ls (ls' := [some (.ref 355), some (.int x1), some (.int x2), some (.int x3), some (.int vz17)]) rfl ?_
          refine LW_goto (tgt := 5) rfl rfl ?_
          exact ih5 _ V hG hT x1 y1 hx1 x2 y2 hx2 x3 y3 hx3 (by omega) vz17 vz17.toInt rfl (by omega)    (by omega)
        · refine X_iconst (v := (1 : Int32)) rfl rfl rfl ?_
          refine X_istore_n (i := 3) (ls' := [some (.ref 355), some (.int x1), some (.int x2), some (.int (1 : Int32)), some (.int x4)]) rfl rfl rfl (Nat.le_of_ble_eq_true rfl) rfl ?_
          refine S_iinc (c := 1) rfl rfl rfl hx4 rfl (by omega) (fun vz18 hvz18 => ?_)
          refine LW_ls (ls' := [some (.ref 355), some (.int x1), some (.int x2), some (.int (1 : Int32)), some (.int vz18)]) rfl ?_
          refine LW_goto (tgt := 5) rfl rfl ?_
          exact ih5 _ V hG hT x1 y1 hx1 x2 y2 hx2 (1 : Int32) 1 (show (1 : Int32).toInt = 1 from rfl) (by omega) vz18 vz18.toInt rfl (by omega)    (by omega)
      · refine X_bipush (v := (99 : Int32)) rfl rfl rfl ?_
        refine LW_goto (tgt := 58) rfl rfl ?_
        refine Y_callV (as := [.int x4, .int (99 : Int32)]) (st := []) rfl rfl rfl (by decide) rfl (Nat.le_of_ble_eq_true rfl) (by decide) (Nat.le_of_ble_eq_true rfl) rfl ((congrFun V.1 355).trans s_355) (by decide) (C_X13_raiseT V x4 y4 hx4 (99 : Int32) 99 (show (99 : Int32).toInt = 99 from rfl) ) ?_
        rintro _ g ⟨vr19, rfl, hrvr190, hrvr191, V, hq, chT⟩
        have hG := hq.trans hG
        have hT := chT.trans hT
        refine S_if_eq (tgt := 66) rfl rfl rfl rfl (fun vh20 => ?_) (fun vh20 => ?_)
        · refine S_iinc (c := 1) rfl rfl rfl hx4 rfl (by omega) (fun vz21 hvz21 => ?_)
          refine LW_ls (ls' := [some (.ref 355), some (.int x1), some (.int x2), some (.int x3), some (.int vz21)]) rfl ?_
          refine LW_goto (tgt := 5) rfl rfl ?_
          exact ih5 _ V hG hT x1 y1 hx1 x2 y2 hx2 x3 y3 hx3 (by omega) vz21 vz21.toInt rfl (by omega)    (by omega)
        · refine X_iconst (v := (1 : Int32)) rfl rfl rfl ?_
          refine X_istore_n (i := 3) (ls' := [some (.ref 355), some (.int x1), some (.int x2), some (.int (1 : Int32)), some (.int x4)]) rfl rfl rfl (Nat.le_of_ble_eq_true rfl) rfl ?_
          refine S_iinc (c := 1) rfl rfl rfl hx4 rfl (by omega) (fun vz22 hvz22 => ?_)
          refine LW_ls (ls' := [some (.ref 355), some (.int x1), some (.int x2), some (.int (1 : Int32)), some (.int vz22)]) rfl ?_
          refine LW_goto (tgt := 5) rfl rfl ?_
          exact ih5 _ V hG hT x1 y1 hx1 x2 y2 hx2 (1 : Int32) 1 (show (1 : Int32).toInt = 1 from rfl) (by omega) vz22 vz22.toInt rfl (by omega)    (by omega)
theorem C_X13_areRaisedT_all {P : Par} {g0 : LH} {d : Nat}  : ∀ n : Nat, (∀ (g : LH) (V : InvR P g) (hG : Gr g = Gr g0) (hT : Gi g 356 4 = Gi g0 356 4) (x1 : Int32) (y1 : Int) (hx1 : x1.toInt = y1) (x2 : Int32) (y2 : Int) (hx2 : x2.toInt = y2) (x3 : Int32) (y3 : Int) (hx3 : x3.toInt = y3) (hf3 : 0 ≤ y3 ∧ y3 ≤ 1) (x4 : Int32) (y4 : Int) (hx4 : x4.toInt = y4) (hf4 : 0 ≤ y4 ∧ y4 ≤ 26) , (26 - y4) * 1 + 0 < (n : Int) → LW 260 (d + 12) 0 0 5 [some (.ref 355), some (.int x1), some (.int x2), some (.int x3), some (.int x4)] [] g (fun v g' => ∃ r : Int32, v = some (.int r) ∧ 0 ≤ r.toInt ∧ r.toInt ≤ 1 ∧ InvR P g' ∧ Gr g' = Gr g0 ∧ Gi g' 356 4 = Gi g0 356 4)) := by
  intro n
  induction n with
  | zero => exact fun g V hG hT x1 y1 hx1 x2 y2 hx2 x3 y3 hx3 hf3 x4 y4 hx4 hf4 hmu => absurd hmu (by omega)
  | succ n ih => exact fun g V hG hT x1 y1 hx1 x2 y2 hx2 x3 y3 hx3 hf3 x4 y4 hx4 hf4 hmu => C_X13_areRaisedT_5  V hG hT x1 y1 hx1 x2 y2 hx2 x3 y3 hx3 hf3 x4 y4 hx4 hf4 (by omega) ih
set_option maxRecDepth 10000 in
set_option maxHeartbeats 40000000 in
theorem C_X13_areRaisedT {P : Par} {g : LH} {d : Nat}  (V : InvR P g) (x1 : Int32) (y1 : Int) (hx1 : x1.toInt = y1) (x2 : Int32) (y2 : Int) (hx2 : x2.toInt = y2)   : LW 260 (d + 12) 0 0 0 (lEnt (mL 260) [.ref 355, .int x1, .int x2]) [] g (fun v g' => ∃ r : Int32, v = some (.int r) ∧ 0 ≤ r.toInt ∧ r.toInt ≤ 1 ∧ InvR P g' ∧ Gr g' = Gr g ∧ Gi g' 356 4 = Gi g 356 4) := by
  refine LW_ls (ls' := [some (.ref 355), some (.int x1), some (.int x2), none, none]) rfl ?_
  have hG : Gr g = Gr g := rfl
  have hT : Gi g 356 4 = Gi g 356 4 := rfl
  refine X_iconst (v := (0 : Int32)) rfl rfl rfl ?_
  refine X_istore_n (i := 3) (ls' := [some (.ref 355), some (.int x1), some (.int x2), some (.int (0 : Int32)), none]) rfl rfl rfl (Nat.le_of_ble_eq_true rfl) rfl ?_
  refine X_iconst (v := (0 : Int32)) rfl rfl rfl ?_
  refine X_istore (i := 4) (ls' := [some (.ref 355), some (.int x1), some (.int x2), some (.int (0 : Int32)), some (.int (0 : Int32))]) rfl rfl (Nat.le_of_ble_eq_true rfl) rfl ?_
  exact (C_X13_areRaisedT_all (((26 - 0) * 1 + 0) + 1 : Int).toNat) _ V hG hT x1 y1 hx1 x2 y2 hx2 (0 : Int32) 0 (show (0 : Int32).toInt = 0 from rfl) (by omega) (0 : Int32) 0 (show (0 : Int32).toInt = 0 from rfl) (by omega)    (by omega)
set_option maxRecDepth 10000 in
set_option maxHeartbeats 40000000 in
theorem C_X13_areSignedT_5 {P : Par} {g g0 : LH} {d n : Nat}  (V : InvR P g) (hG : Gr g = Gr g0) (hT : Gi g 356 4 = Gi g0 356 4) (x1 : Int32) (y1 : Int) (hx1 : x1.toInt = y1) (x2 : Int32) (y2 : Int) (hx2 : x2.toInt = y2) (x3 : Int32) (y3 : Int) (hx3 : x3.toInt = y3) (hf3 : 0 ≤ y3 ∧ y3 ≤ 1) (x4 : Int32) (y4 : Int) (hx4 : x4.toInt = y4) (hf4 : 0 ≤ y4 ∧ y4 ≤ 26)  (hmu : (26 - y4) * 1 + 0 < (n : Int) + 1) (ih5 : ∀ (g : LH) (V : InvR P g) (hG : Gr g = Gr g0) (hT : Gi g 356 4 = Gi g0 356 4) (x1 : Int32) (y1 : Int) (hx1 : x1.toInt = y1) (x2 : Int32) (y2 : Int) (hx2 : x2.toInt = y2) (x3 : Int32) (y3 : Int) (hx3 : x3.toInt = y3) (hf3 : 0 ≤ y3 ∧ y3 ≤ 1) (x4 : Int32) (y4 : Int) (hx4 : x4.toInt = y4) (hf4 : 0 ≤ y4 ∧ y4 ≤ 26) , (26 - y4) * 1 + 0 < (n : Int) → LW 261 (d + 12) 0 0 5 [some (.ref 355), some (.int x1), some (.int x2), some (.int x3), some (.int x4)] [] g (fun v g' => ∃ r : Int32, v = some (.int r) ∧ 0 ≤ r.toInt ∧ r.toInt ≤ 1 ∧ InvR P g' ∧ Gr g' = Gr g0 ∧ Gi g' 356 4 = Gi g0 356 4)) : LW 261 (d + 12) 0 0 5 [some (.ref 355), some (.int x1), some (.int x2), some (.int x3), some (.int x4)] [] g (fun v g' => ∃ r : Int32, v = some (.int r) ∧ 0 ≤ r.toInt ∧ r.toInt ≤ 1 ∧ InvR P g' ∧ Gr g' = Gr g0 ∧ Gi g' 356 4 = Gi g0 356 4) := by
  refine X_iload rfl rfl rfl ?_
  refine X_bipush (v := (26 : Int32)) rfl rfl rfl ?_
  refine S_icmp_ge (tgt := 39) rfl rfl rfl hx4 (show (26 : Int32).toInt = 26 from rfl) (fun vh1 => ?_) (fun vh1 => ?_)
  · refine X_iload_n rfl rfl rfl rfl ?_
    have hr := hx3
    exact LW_ireturn (st := []) rfl rfl (nbool hx3 (by omega)) ⟨_, rfl, by omega, by omega, V, hG, hT⟩
  · refine X_iload_n rfl rfl rfl rfl ?_
    refine X_iload rfl rfl rfl ?_
    refine X_callS (as := [.int x1, .int x4]) (st := []) rfl rfl rfl (by decide) rfl (Nat.le_of_ble_eq_true rfl) (by decide) (Nat.le_of_ble_eq_true rfl) rfl ?_
    refine LW_ls (ls' := [some (.int x1), some (.int x4)]) rfl ?_
    refine X_iload_n rfl rfl rfl rfl ?_
    refine X_iload_n rfl rfl rfl rfl ?_
    refine S_ishrT rfl rfl (fun vz2 => ?_)
    refine X_iconst (v := (1 : Int32)) rfl rfl rfl ?_
    refine S_iandR (k := 1) rfl rfl rfl (fun vz3 hvz3 => ?_)
    refine X_iconst (v := (1 : Int32)) rfl rfl rfl ?_
    refine S_icmp_ne (tgt := 13) rfl rfl rfl rfl (show (1 : Int32).toInt = 1 from rfl) (fun vh4 => ?_) (fun vh4 => ?_)
    · refine X_iconst (v := (0 : Int32)) rfl rfl rfl ?_
      refine LW_ireturn (st := []) rfl rfl rfl ?_
      refine S_if_eq (tgt := 33) rfl rfl rfl (show (0 : Int32).toInt = 0 from rfl) (fun vh5 => ?_) (fun q => absurd q (by omega))
      refine S_iinc (c := 1) rfl rfl rfl hx4 rfl (by omega) (fun vz6 hvz6 => ?_)
      refine LW_ls (ls' := [some (.ref 355), some (.int x1), some (.int x2), some (.int x3), some (.int vz6)]) rfl ?_
      refine LW_goto (tgt := 5) rfl rfl ?_
      exact ih5 _ V hG hT x1 y1 hx1 x2 y2 hx2 x3 y3 hx3 (by omega) vz6 vz6.toInt rfl (by omega)    (by omega)
    · refine X_iconst (v := (1 : Int32)) rfl rfl rfl ?_
      refine LW_goto (tgt := 14) rfl rfl ?_
      refine LW_ireturn (st := []) rfl rfl rfl ?_
      refine S_if_eq (tgt := 33) rfl rfl rfl (show (1 : Int32).toInt = 1 from rfl) (fun q => absurd q (by omega)) (fun vh7 => ?_)
      refine X_aload_n rfl rfl rfl rfl ?_
      refine X_iload rfl rfl rfl ?_
      refine X_iload_n rfl rfl rfl rfl ?_
      refine Y_callV (as := [.int x4, .int x2]) (st := []) rfl rfl rfl (by decide) rfl (Nat.le_of_ble_eq_true rfl) (by decide) (Nat.le_of_ble_eq_true rfl) rfl ((congrFun V.1 355).trans s_355) (by decide) (C_X13_signT V x4 y4 hx4 x2 y2 hx2 ) ?_
      rintro _ g ⟨vr8, rfl, hrvr80, hrvr81, V, hq, chT⟩
      have hG := hq.trans hG
      have hT := chT.trans hT
      refine S_if_eq (tgt := 33) rfl rfl rfl rfl (fun vh9 => ?_) (fun vh9 => ?_)
      · refine S_iinc (c := 1) rfl rfl rfl hx4 rfl (by omega) (fun vz10 hvz10 => ?_)
        refine LW_ls (ls' := [some (.ref 355), some (.int x1), some (.int x2), some (.int x3), some (.int vz10)]) rfl ?_
        refine LW_goto (tgt := 5) rfl rfl ?_
        exact ih5 _ V hG hT x1 y1 hx1 x2 y2 hx2 x3 y3 hx3 (by omega) vz10 vz10.toInt rfl (by omega)    (by omega)
      · refine X_iconst (v := (1 : Int32)) rfl rfl rfl ?_
        refine X_istore_n (i := 3) (ls' := [some (.ref 355), some (.int x1), some (.int x2), some (.int (1 : Int32)), some (.int x4)]) rfl rfl rfl (Nat.le_of_ble_eq_true rfl) rfl ?_
        refine S_iinc (c := 1) rfl rfl rfl hx4 rfl (by omega) (fun vz11 hvz11 => ?_)
        refine LW_ls (ls' := [some (.ref 355), some (.int x1), some (.int x2), some (.int (1 : Int32)), some (.int vz11)]) rfl ?_
        refine LW_goto (tgt := 5) rfl rfl ?_
        exact ih5 _ V hG hT x1 y1 hx1 x2 y2 hx2 (1 : Int32) 1 (show (1 : Int32).toInt = 1 from rfl) (by omega) vz11 vz11.toInt rfl (by omega)    (by omega)
theorem C_X13_areSignedT_all {P : Par} {g0 : LH} {d : Nat}  : ∀ n : Nat, (∀ (g : LH) (V : InvR P g) (hG : Gr g = Gr g0) (hT : Gi g 356 4 = Gi g0 356 4) (x1 : Int32) (y1 : Int) (hx1 : x1.toInt = y1) (x2 : Int32) (y2 : Int) (hx2 : x2.toInt = y2) (x3 : Int32) (y3 : Int) (hx3 : x3.toInt = y3) (hf3 : 0 ≤ y3 ∧ y3 ≤ 1) (x4 : Int32) (y4 : Int) (hx4 : x4.toInt = y4) (hf4 : 0 ≤ y4 ∧ y4 ≤ 26) , (26 - y4) * 1 + 0 < (n : Int) → LW 261 (d + 12) 0 0 5 [some (.ref 355), some (.int x1), some (.int x2), some (.int x3), some (.int x4)] [] g (fun v g' => ∃ r : Int32, v = some (.int r) ∧ 0 ≤ r.toInt ∧ r.toInt ≤ 1 ∧ InvR P g' ∧ Gr g' = Gr g0 ∧ Gi g' 356 4 = Gi g0 356 4)) := by
  intro n
  induction n with
  | zero => exact fun g V hG hT x1 y1 hx1 x2 y2 hx2 x3 y3 hx3 hf3 x4 y4 hx4 hf4 hmu => absurd hmu (by omega)
  | succ n ih => exact fun g V hG hT x1 y1 hx1 x2 y2 hx2 x3 y3 hx3 hf3 x4 y4 hx4 hf4 hmu => C_X13_areSignedT_5  V hG hT x1 y1 hx1 x2 y2 hx2 x3 y3 hx3 hf3 x4 y4 hx4 hf4 (by omega) ih
set_option maxRecDepth 10000 in
set_option maxHeartbeats 40000000 in
theorem C_X13_areSignedT {P : Par} {g : LH} {d : Nat}  (V : InvR P g) (x1 : Int32) (y1 : Int) (hx1 : x1.toInt = y1) (x2 : Int32) (y2 : Int) (hx2 : x2.toInt = y2)   : LW 261 (d + 12) 0 0 0 (lEnt (mL 261) [.ref 355, .int x1, .int x2]) [] g (fun v g' => ∃ r : Int32, v = some (.int r) ∧ 0 ≤ r.toInt ∧ r.toInt ≤ 1 ∧ InvR P g' ∧ Gr g' = Gr g ∧ Gi g' 356 4 = Gi g 356 4) := by
  refine LW_ls (ls' := [some (.ref 355), some (.int x1), some (.int x2), none, none]) rfl ?_
  have hG : Gr g = Gr g := rfl
  have hT : Gi g 356 4 = Gi g 356 4 := rfl
  refine X_iconst (v := (0 : Int32)) rfl rfl rfl ?_
  refine X_istore_n (i := 3) (ls' := [some (.ref 355), some (.int x1), some (.int x2), some (.int (0 : Int32)), none]) rfl rfl rfl (Nat.le_of_ble_eq_true rfl) rfl ?_
  refine X_iconst (v := (0 : Int32)) rfl rfl rfl ?_
  refine X_istore (i := 4) (ls' := [some (.ref 355), some (.int x1), some (.int x2), some (.int (0 : Int32)), some (.int (0 : Int32))]) rfl rfl (Nat.le_of_ble_eq_true rfl) rfl ?_
  exact (C_X13_areSignedT_all (((26 - 0) * 1 + 0) + 1 : Int).toNat) _ V hG hT x1 y1 hx1 x2 y2 hx2 (0 : Int32) 0 (show (0 : Int32).toInt = 0 from rfl) (by omega) (0 : Int32) 0 (show (0 : Int32).toInt = 0 from rfl) (by omega)    (by omega)
set_option maxRecDepth 10000 in
set_option maxHeartbeats 40000000 in
theorem C_X13_contractT_87 {P : Par} {g g0 : LH} {d n : Nat}  (V : InvR P g) (hG : Gr g = Gr g0) (hT : Gi g 356 4 = Gi g0 356 4) (x1 : Int32) (y1 : Int) (hx1 : x1.toInt = y1) (hf1 : 0 ≤ y1 ∧ y1 ≤ 7) (x2 : Int32) (y2 : Int) (hx2 : x2.toInt = y2) (hf2 : 428 ≤ y2 ∧ y2 ≤ 527) (x3 : Int32) (y3 : Int) (hx3 : x3.toInt = y3) (hf3 : 0 ≤ y3 ∧ y3 ≤ 8) (hc356_1 : 1 ≤ (Gi g 356 1).toInt ∧ (Gi g 356 1).toInt ≤ 8) (hc356_10 : 0 ≤ (Gi g 356 10).toInt ∧ (Gi g 356 10).toInt ≤ 9) (hq0 : y2 = 428 + 11 * (Gi g 356 10).toInt) (hq1 : SS (Gi g 356) (Int.toNat (y1))) (hmu : (8 - y3) * 1 + 0 < (n : Int) + 1) (ih87 : ∀ (g : LH) (V : InvR P g) (hG : Gr g = Gr g0) (hT : Gi g 356 4 = Gi g0 356 4) (x1 : Int32) (y1 : Int) (hx1 : x1.toInt = y1) (hf1 : 0 ≤ y1 ∧ y1 ≤ 7) (x2 : Int32) (y2 : Int) (hx2 : x2.toInt = y2) (hf2 : 428 ≤ y2 ∧ y2 ≤ 527) (x3 : Int32) (y3 : Int) (hx3 : x3.toInt = y3) (hf3 : 0 ≤ y3 ∧ y3 ≤ 8) (hc356_1 : 1 ≤ (Gi g 356 1).toInt ∧ (Gi g 356 1).toInt ≤ 8) (hc356_10 : 0 ≤ (Gi g 356 10).toInt ∧ (Gi g 356 10).toInt ≤ 9) (hq0 : y2 = 428 + 11 * (Gi g 356 10).toInt) (hq1 : SS (Gi g 356) (Int.toNat (y1))), (8 - y3) * 1 + 0 < (n : Int) → LW 258 (d + 33) 0 0 87 [some (.ref 355), some (.int x1), some (.int x2), some (.int x3)] [] g (fun v g' => ∃ r : Int32, v = some (.int r) ∧ (-1) ≤ r.toInt ∧ r.toInt ≤ 9 ∧ InvR P g' ∧ Gr g' = Gr g0 ∧ Gi g' 356 4 = Gi g0 356 4)) : LW 258 (d + 33) 0 0 87 [some (.ref 355), some (.int x1), some (.int x2), some (.int x3)] [] g (fun v g' => ∃ r : Int32, v = some (.int r) ∧ (-1) ≤ r.toInt ∧ r.toInt ≤ 9 ∧ InvR P g' ∧ Gr g' = Gr g0 ∧ Gi g' 356 4 = Gi g0 356 4) := by
  obtain ⟨vz1, evz1⟩ : ∃ z, Gi g 356 1 = z := ⟨_, rfl⟩
  rw [evz1] at hc356_1
  obtain ⟨vz2, evz2⟩ : ∃ z, Gi g 356 10 = z := ⟨_, rfl⟩
  rw [evz2] at hc356_10
  rw [evz2] at hq0
  refine X_iload_n rfl rfl rfl rfl ?_
  refine X_aload_n rfl rfl rfl rfl ?_
  refine X_iload_n rfl rfl rfl rfl ?_
  refine X_callV (as := [.int x1]) (st := [.int x3]) rfl rfl rfl (by decide) rfl (Nat.le_of_ble_eq_true rfl) (by decide) (Nat.le_of_ble_eq_true rfl) rfl ((congrFun V.1 355).trans s_355) (by decide) ?_
  refine LW_ls (ls' := [some (.ref 355), some (.int x1)]) rfl ?_
  refine X_aload_n rfl rfl rfl rfl ?_
  refine X_getR (a := 356) rfl rfl rfl ((congrFun V.1 355).trans s_355) rfl ((congrFun (V.2.1 355 (by decide)) 0).trans r_355_0) ?_
  refine X_sipush (v := (356 : Int32)) rfl rfl rfl ?_
  refine X_bipush (v := (9 : Int32)) rfl rfl rfl ?_
  refine X_iload_n rfl rfl rfl rfl ?_
  refine S_imul rfl rfl (show (9 : Int32).toInt = 9 from rfl) hx1 (by omega) (fun vz3 hvz3 => ?_)
  refine S_iadd rfl rfl (show (356 : Int32).toInt = 356 from rfl) rfl (by omega) (fun vz4 hvz4 => ?_)
  refine S_iald rfl rfl ((congrFun V.1 356).trans s_356) rfl (by omega) (fun vz5 evz5 => ?_)
  have vf6 := A_SCOUNT (V.2.2.2.1 ((vz4.toInt : Int).toNat)) (by omega)
  rw [evz5] at vf6
  refine LW_ireturn (st := []) rfl rfl rfl ?_
  refine S_icmp_ge (tgt := 124) rfl rfl rfl hx3 rfl (fun vh7 => ?_) (fun vh7 => ?_)
  · refine X_aload_n rfl rfl rfl rfl ?_
    refine X_getR (a := 356) rfl rfl rfl ((congrFun V.1 355).trans s_355) rfl ((congrFun (V.2.1 355 (by decide)) 0).trans r_355_0) ?_
    refine X_bipush (v := (10 : Int32)) rfl rfl rfl ?_
    refine X_dup2 rfl rfl rfl rfl ?_
    refine S_iald_v rfl rfl ((congrFun V.1 356).trans s_356) (show (10 : Int32).toInt = 10 from rfl) (by omega) evz2 ?_
    refine X_iconst (v := (1 : Int32)) rfl rfl rfl ?_
    refine S_iadd rfl rfl rfl (show (1 : Int32).toInt = 1 from rfl) (by omega) (fun vz9 hvz9 => ?_)
    refine S_iast (I := InvR _) rfl rfl ((congrFun V.1 356).trans s_356) (show (10 : Int32).toInt = 10 from rfl) (by omega) (InvR_putA V (by omega) (B_CONS (by omega) (by omega))) (fun g V ve10 vn11 hq => ?_)
    have hG := hq.trans hG
    have hT := (vn11 356 4 (Or.inr (by decide))).trans hT
    have evz1 := (vn11 (356) 1 (Or.inr (by omega))).trans evz1
    have ve10 : Gi g 356 10 = vz9 := ve10
    refine X_aload_n rfl rfl rfl rfl ?_
    refine X_getR (a := 356) rfl rfl rfl ((congrFun V.1 355).trans s_355) rfl ((congrFun (V.2.1 355 (by decide)) 0).trans r_355_0) ?_
    refine X_bipush (v := (10 : Int32)) rfl rfl rfl ?_
    refine S_iald_v rfl rfl ((congrFun V.1 356).trans s_356) (show (10 : Int32).toInt = 10 from rfl) (by omega) ve10 ?_
    refine X_iconst (v := (1 : Int32)) rfl rfl rfl ?_
    refine S_isub rfl rfl rfl (show (1 : Int32).toInt = 1 from rfl) (by omega) (fun vz13 hvz13 => ?_)
    have hr := (rfl : vz13.toInt = vz13.toInt)
    exact LW_ireturn (st := []) rfl rfl rfl ⟨_, rfl, by omega, by omega, V, hG, hT⟩
  · refine X_aload_n rfl rfl rfl rfl ?_
    refine X_getR (a := 356) rfl rfl rfl ((congrFun V.1 355).trans s_355) rfl ((congrFun (V.2.1 355 (by decide)) 0).trans r_355_0) ?_
    refine X_iload_n rfl rfl rfl rfl ?_
    refine X_iconst (v := (3 : Int32)) rfl rfl rfl ?_
    refine S_iadd rfl rfl hx2 (show (3 : Int32).toInt = 3 from rfl) (by omega) (fun vz14 hvz14 => ?_)
    refine X_iload_n rfl rfl rfl rfl ?_
    refine S_iadd rfl rfl rfl hx3 (by omega) (fun vz15 hvz15 => ?_)
    refine X_aload_n rfl rfl rfl rfl ?_
    refine X_aload_n rfl rfl rfl rfl ?_
    refine X_iload_n rfl rfl rfl rfl ?_
    refine X_iload_n rfl rfl rfl rfl ?_
    refine X_callV (as := [.int x1, .int x3]) (st := [.ref 355, .int vz15, .ref 356]) rfl rfl rfl (by decide) rfl (Nat.le_of_ble_eq_true rfl) (by decide) (Nat.le_of_ble_eq_true rfl) rfl ((congrFun V.1 355).trans s_355) (by decide) ?_
    refine LW_ls (ls' := [some (.ref 355), some (.int x1), some (.int x3)]) rfl ?_
    refine X_aload_n rfl rfl rfl rfl ?_
    refine X_getR (a := 356) rfl rfl rfl ((congrFun V.1 355).trans s_355) rfl ((congrFun (V.2.1 355 (by decide)) 0).trans r_355_0) ?_
    refine X_sipush (v := (356 : Int32)) rfl rfl rfl ?_
    refine X_bipush (v := (9 : Int32)) rfl rfl rfl ?_
    refine X_iload_n rfl rfl rfl rfl ?_
    refine S_imul rfl rfl (show (9 : Int32).toInt = 9 from rfl) hx1 (by omega) (fun vz16 hvz16 => ?_)
    refine S_iadd rfl rfl (show (356 : Int32).toInt = 356 from rfl) rfl (by omega) (fun vz17 hvz17 => ?_)
    refine X_iconst (v := (1 : Int32)) rfl rfl rfl ?_
    refine S_iadd rfl rfl rfl (show (1 : Int32).toInt = 1 from rfl) (by omega) (fun vz18 hvz18 => ?_)
    refine X_iload_n rfl rfl rfl rfl ?_
    refine S_iadd rfl rfl rfl hx3 (by omega) (fun vz19 hvz19 => ?_)
    refine S_iald rfl rfl ((congrFun V.1 356).trans s_356) rfl (by omega) (fun vz20 evz20 => ?_)
    refine LW_ireturn (st := []) rfl rfl rfl ?_
    refine X_iconst (v := (0 : Int32)) rfl rfl rfl ?_
    refine X_iconst (v := (1 : Int32)) rfl rfl rfl ?_
    refine Y_callV (as := [.int vz20, .int (0 : Int32), .int (1 : Int32)]) (st := [.int vz15, .ref 356]) rfl rfl rfl (by decide) rfl (Nat.le_of_ble_eq_true rfl) (by decide) (Nat.le_of_ble_eq_true rfl) rfl ((congrFun V.1 355).trans s_355) (by decide) (C_X13_wordFor V vz20 vz20.toInt rfl (0 : Int32) 0 (show (0 : Int32).toInt = 0 from rfl) (1 : Int32) 1 (show (1 : Int32).toInt = 1 from rfl) (by omega) ) ?_
    rintro _ g' ⟨vr21, rfl, hrvr210, hrvr211, hgg, vq22⟩
    subst hgg
    have h0vr21 : 0 ≤ vr21.toInt := (by
        refine (vq22 rfl).2 ?_
        have vhb := hq1 (Int.toNat y3) (by
          rw [show 356 + 9 * Int.toNat y1 = Int.toNat vz4.toInt by omega, evz5]
          omega)
        rw [show 357 + 9 * Int.toNat y1 + Int.toNat y3 = Int.toNat vz19.toInt by omega, evz20] at vhb
        exact vhb)
    refine S_iast (I := InvR _) rfl rfl ((congrFun V.1 356).trans s_356) rfl (by omega) (InvR_putA V (by omega) (B_CWORD (by omega) (by omega))) (fun g V ve23 vn24 hq => ?_)
    have hG := hq.trans hG
    have hT := (vn24 356 4 (Or.inr (by omega))).trans hT
    have evz1 := (vn24 (356) 1 (Or.inr (by omega))).trans evz1
    have evz2 := (vn24 (356) 10 (Or.inr (by omega))).trans evz2
    refine S_iinc (c := 1) rfl rfl rfl hx3 rfl (by omega) (fun vz25 hvz25 => ?_)
    refine LW_ls (ls' := [some (.ref 355), some (.int x1), some (.int x2), some (.int vz25)]) rfl ?_
    refine LW_goto (tgt := 87) rfl rfl ?_
    exact ih87 _ V hG hT x1 y1 hx1 (by omega) x2 y2 hx2 (by omega) vz25 vz25.toInt rfl (by omega) (by rw [evz1]; omega) (by rw [evz2]; omega) (by rw [evz2] <;> omega) (by
        exact SS_congr V (fun k h1 h2 => vn24 356 k (Or.inr (by omega))) (by omega) hq1)  (by omega)
theorem C_X13_contractT_all {P : Par} {g0 : LH} {d : Nat}  : ∀ n : Nat, (∀ (g : LH) (V : InvR P g) (hG : Gr g = Gr g0) (hT : Gi g 356 4 = Gi g0 356 4) (x1 : Int32) (y1 : Int) (hx1 : x1.toInt = y1) (hf1 : 0 ≤ y1 ∧ y1 ≤ 7) (x2 : Int32) (y2 : Int) (hx2 : x2.toInt = y2) (hf2 : 428 ≤ y2 ∧ y2 ≤ 527) (x3 : Int32) (y3 : Int) (hx3 : x3.toInt = y3) (hf3 : 0 ≤ y3 ∧ y3 ≤ 8) (hc356_1 : 1 ≤ (Gi g 356 1).toInt ∧ (Gi g 356 1).toInt ≤ 8) (hc356_10 : 0 ≤ (Gi g 356 10).toInt ∧ (Gi g 356 10).toInt ≤ 9) (hq0 : y2 = 428 + 11 * (Gi g 356 10).toInt) (hq1 : SS (Gi g 356) (Int.toNat (y1))), (8 - y3) * 1 + 0 < (n : Int) → LW 258 (d + 33) 0 0 87 [some (.ref 355), some (.int x1), some (.int x2), some (.int x3)] [] g (fun v g' => ∃ r : Int32, v = some (.int r) ∧ (-1) ≤ r.toInt ∧ r.toInt ≤ 9 ∧ InvR P g' ∧ Gr g' = Gr g0 ∧ Gi g' 356 4 = Gi g0 356 4)) := by
  intro n
  induction n with
  | zero => exact fun g V hG hT x1 y1 hx1 hf1 x2 y2 hx2 hf2 x3 y3 hx3 hf3 hc356_1 hc356_10 hq0 hq1 hmu => absurd hmu (by omega)
  | succ n ih => exact fun g V hG hT x1 y1 hx1 hf1 x2 y2 hx2 hf2 x3 y3 hx3 hf3 hc356_1 hc356_10 hq0 hq1 hmu => C_X13_contractT_87  V hG hT x1 y1 hx1 hf1 x2 y2 hx2 hf2 x3 y3 hx3 hf3 hc356_1 hc356_10 hq0 hq1 (by omega) ih
set_option maxRecDepth 10000 in
set_option maxHeartbeats 40000000 in
theorem C_X13_contractT {P : Par} {g : LH} {d : Nat}  (V : InvR P g) (x1 : Int32) (y1 : Int) (hx1 : x1.toInt = y1)   : LW 258 (d + 33) 0 0 0 (lEnt (mL 258) [.ref 355, .int x1]) [] g (fun v g' => ∃ r : Int32, v = some (.int r) ∧ (-1) ≤ r.toInt ∧ r.toInt ≤ 9 ∧ InvR P g' ∧ Gr g' = Gr g ∧ Gi g' 356 4 = Gi g 356 4) := by
  refine LW_ls (ls' := [some (.ref 355), some (.int x1), none, none]) rfl ?_
  have hG : Gr g = Gr g := rfl
  have hT : Gi g 356 4 = Gi g 356 4 := rfl
  refine X_aload_n rfl rfl rfl rfl ?_
  refine X_iload_n rfl rfl rfl rfl ?_
  refine X_callV (as := [.int x1]) (st := []) rfl rfl rfl (by decide) rfl (Nat.le_of_ble_eq_true rfl) (by decide) (Nat.le_of_ble_eq_true rfl) rfl ((congrFun V.1 355).trans s_355) (by decide) ?_
  refine LW_ls (ls' := [some (.ref 355), some (.int x1)]) rfl ?_
  refine X_iload_n rfl rfl rfl rfl ?_
  refine X_iconst (v := (0 : Int32)) rfl rfl rfl ?_
  refine X_aload_n rfl rfl rfl rfl ?_
  refine X_getR (a := 356) rfl rfl rfl ((congrFun V.1 355).trans s_355) rfl ((congrFun (V.2.1 355 (by decide)) 0).trans r_355_0) ?_
  refine X_iconst (v := (1 : Int32)) rfl rfl rfl ?_
  refine S_iald rfl rfl ((congrFun V.1 356).trans s_356) (show (1 : Int32).toInt = 1 from rfl) (by omega) (fun vz1 evz1 => ?_)
  have evz1 : Gi g 356 1 = vz1 := evz1
  have vf2 := A_SAYS (V.2.2.2.1 (1)) (by omega)
  rw [evz1] at vf2
  refine X_iconst (v := (1 : Int32)) rfl rfl rfl ?_
  refine S_isub rfl rfl rfl (show (1 : Int32).toInt = 1 from rfl) (by omega) (fun vz3 hvz3 => ?_)
  refine X_callS (as := [.int x1, .int (0 : Int32), .int vz3]) (st := []) rfl rfl rfl (by decide) rfl (Nat.le_of_ble_eq_true rfl) (by decide) (Nat.le_of_ble_eq_true rfl) rfl ?_
  refine LW_ls (ls' := [some (.int x1), some (.int (0 : Int32)), some (.int vz3)]) rfl ?_
  refine X_iload_n rfl rfl rfl rfl ?_
  refine X_iload_n rfl rfl rfl rfl ?_
  refine S_icmp_lt (tgt := 14) rfl rfl rfl hx1 (show (0 : Int32).toInt = 0 from rfl) (fun vh4 => ?_) (fun vh4 => ?_)
  · refine X_iconst (v := (0 : Int32)) rfl rfl rfl ?_
    refine LW_ireturn (st := []) rfl rfl rfl ?_
    refine LW_ireturn (st := []) rfl rfl rfl ?_
    refine S_if_eq (tgt := 30) rfl rfl rfl (show (0 : Int32).toInt = 0 from rfl) (fun vh5 => ?_) (fun q => absurd q (by omega))
    refine X_iconst (v := (-1 : Int32)) rfl rfl rfl ?_
    exact LW_ireturn (st := []) rfl rfl rfl ⟨_, rfl, by decide, by decide, V, hG, hT⟩
  · refine X_iload_n rfl rfl rfl rfl ?_
    refine X_iload_n rfl rfl rfl rfl ?_
    refine S_icmp_gt (tgt := 14) rfl rfl rfl hx1 rfl (fun vh6 => ?_) (fun vh6 => ?_)
    · refine X_iconst (v := (0 : Int32)) rfl rfl rfl ?_
      refine LW_ireturn (st := []) rfl rfl rfl ?_
      refine LW_ireturn (st := []) rfl rfl rfl ?_
      refine S_if_eq (tgt := 30) rfl rfl rfl (show (0 : Int32).toInt = 0 from rfl) (fun vh7 => ?_) (fun q => absurd q (by omega))
      refine X_iconst (v := (-1 : Int32)) rfl rfl rfl ?_
      exact LW_ireturn (st := []) rfl rfl rfl ⟨_, rfl, by decide, by decide, V, hG, hT⟩
    · refine X_iconst (v := (1 : Int32)) rfl rfl rfl ?_
      refine LW_goto (tgt := 15) rfl rfl ?_
      refine LW_ireturn (st := []) rfl rfl rfl ?_
      refine LW_ireturn (st := []) rfl rfl rfl ?_
      refine S_if_eq (tgt := 30) rfl rfl rfl (show (1 : Int32).toInt = 1 from rfl) (fun q => absurd q (by omega)) (fun vh8 => ?_)
      refine X_aload_n rfl rfl rfl rfl ?_
      refine X_getR (a := 356) rfl rfl rfl ((congrFun V.1 355).trans s_355) rfl ((congrFun (V.2.1 355 (by decide)) 0).trans r_355_0) ?_
      refine X_bipush (v := (10 : Int32)) rfl rfl rfl ?_
      refine S_iald rfl rfl ((congrFun V.1 356).trans s_356) (show (10 : Int32).toInt = 10 from rfl) (by omega) (fun vz9 evz9 => ?_)
      have evz9 : Gi g 356 10 = vz9 := evz9
      have vf10 := A_CONS (V.2.2.2.1 (10)) (by omega)
      rw [evz9] at vf10
      refine X_bipush (v := (10 : Int32)) rfl rfl rfl ?_
      refine S_icmp_eq (tgt := 30) rfl rfl rfl rfl (show (10 : Int32).toInt = 10 from rfl) (fun vh11 => ?_) (fun vh11 => ?_)
      · refine X_iconst (v := (-1 : Int32)) rfl rfl rfl ?_
        exact LW_ireturn (st := []) rfl rfl rfl ⟨_, rfl, by decide, by decide, V, hG, hT⟩
      · refine X_aload_n rfl rfl rfl rfl ?_
        refine X_iload_n rfl rfl rfl rfl ?_
        refine X_iconst (v := (0 : Int32)) rfl rfl rfl ?_
        refine X_iconst (v := (1 : Int32)) rfl rfl rfl ?_
        refine Y_callV (as := [.int x1, .int (0 : Int32), .int (1 : Int32)]) (st := []) rfl rfl rfl (by decide) rfl (Nat.le_of_ble_eq_true rfl) (by decide) (Nat.le_of_ble_eq_true rfl) rfl ((congrFun V.1 355).trans s_355) (by decide) (C_X13_canSay V x1 y1 hx1 (by omega) (0 : Int32) 0 (show (0 : Int32).toInt = 0 from rfl) (1 : Int32) 1 (show (1 : Int32).toInt = 1 from rfl) (by omega) ) ?_
        rintro _ g' ⟨vr12, rfl, hrvr120, hrvr121, hgg, vq13⟩
        subst hgg
        refine S_if_ne (tgt := 32) rfl rfl rfl rfl (fun vh14 => ?_) (fun vh14 => ?_)
        · refine X_aload_n rfl rfl rfl rfl ?_
          refine Y_callV (as := []) (st := []) rfl rfl rfl (by decide) rfl (Nat.le_of_ble_eq_true rfl) (by decide) (Nat.le_of_ble_eq_true rfl) rfl ((congrFun V.1 355).trans s_355) (by decide) (C_X13_keep V  ) ?_
          rintro _ g ⟨rfl, V, hq, chF⟩
          have hG := hq.trans hG
          have evz1 := (chF 1 (by omega) (by omega)).trans evz1
          have evz9 := (chF 10 (by omega) (by omega)).trans evz9
          have hT := (chF 4 (by omega) (by omega)).trans hT
          refine X_sipush (v := (428 : Int32)) rfl rfl rfl ?_
          refine X_bipush (v := (11 : Int32)) rfl rfl rfl ?_
          refine X_aload_n rfl rfl rfl rfl ?_
          refine X_getR (a := 356) rfl rfl rfl ((congrFun V.1 355).trans s_355) rfl ((congrFun (V.2.1 355 (by decide)) 0).trans r_355_0) ?_
          refine X_bipush (v := (10 : Int32)) rfl rfl rfl ?_
          refine S_iald_v rfl rfl ((congrFun V.1 356).trans s_356) (show (10 : Int32).toInt = 10 from rfl) (by omega) evz9 ?_
          refine S_imul rfl rfl (show (11 : Int32).toInt = 11 from rfl) rfl (by omega) (fun vz17 hvz17 => ?_)
          refine S_iadd rfl rfl (show (428 : Int32).toInt = 428 from rfl) rfl (by omega) (fun vz18 hvz18 => ?_)
          refine X_istore_n (i := 2) (ls' := [some (.ref 355), some (.int x1), some (.int vz18), none]) rfl rfl rfl (Nat.le_of_ble_eq_true rfl) rfl ?_
          refine X_aload_n rfl rfl rfl rfl ?_
          refine X_getR (a := 356) rfl rfl rfl ((congrFun V.1 355).trans s_355) rfl ((congrFun (V.2.1 355 (by decide)) 0).trans r_355_0) ?_
          refine X_iload_n rfl rfl rfl rfl ?_
          refine X_iload_n rfl rfl rfl rfl ?_
          refine S_iast (I := InvR _) rfl rfl ((congrFun V.1 356).trans s_356) rfl (by omega) (InvR_putA V (by omega) (B_FREE (by omega))) (fun g V ve19 vn20 hq => ?_)
          have hG := hq.trans hG
          have hT := (vn20 356 4 (Or.inr (by omega))).trans hT
          have evz1 := (vn20 (356) 1 (Or.inr (by omega))).trans evz1
          have evz9 := (vn20 (356) 10 (Or.inr (by omega))).trans evz9
          refine X_aload_n rfl rfl rfl rfl ?_
          refine X_getR (a := 356) rfl rfl rfl ((congrFun V.1 355).trans s_355) rfl ((congrFun (V.2.1 355 (by decide)) 0).trans r_355_0) ?_
          refine X_iload_n rfl rfl rfl rfl ?_
          refine X_iconst (v := (1 : Int32)) rfl rfl rfl ?_
          refine S_iadd rfl rfl rfl (show (1 : Int32).toInt = 1 from rfl) (by omega) (fun vz21 hvz21 => ?_)
          refine X_aload_n rfl rfl rfl rfl ?_
          refine X_getR (a := 356) rfl rfl rfl ((congrFun V.1 355).trans s_355) rfl ((congrFun (V.2.1 355 (by decide)) 0).trans r_355_0) ?_
          refine X_iconst (v := (2 : Int32)) rfl rfl rfl ?_
          refine S_iald rfl rfl ((congrFun V.1 356).trans s_356) (show (2 : Int32).toInt = 2 from rfl) (by omega) (fun vz22 evz22 => ?_)
          have evz22 : Gi g 356 2 = vz22 := evz22
          refine S_iast (I := InvR _) rfl rfl ((congrFun V.1 356).trans s_356) rfl (by omega) (InvR_putA V (by omega) (B_FREE (by omega))) (fun g V ve23 vn24 hq => ?_)
          have hG := hq.trans hG
          have hT := (vn24 356 4 (Or.inr (by omega))).trans hT
          have evz1 := (vn24 (356) 1 (Or.inr (by omega))).trans evz1
          have evz9 := (vn24 (356) 10 (Or.inr (by omega))).trans evz9
          have evz22 := (vn24 (356) 2 (Or.inr (by omega))).trans evz22
          refine X_aload_n rfl rfl rfl rfl ?_
          refine X_getR (a := 356) rfl rfl rfl ((congrFun V.1 355).trans s_355) rfl ((congrFun (V.2.1 355 (by decide)) 0).trans r_355_0) ?_
          refine X_iload_n rfl rfl rfl rfl ?_
          refine X_iconst (v := (2 : Int32)) rfl rfl rfl ?_
          refine S_iadd rfl rfl rfl (show (2 : Int32).toInt = 2 from rfl) (by omega) (fun vz25 hvz25 => ?_)
          refine X_aload_n rfl rfl rfl rfl ?_
          refine X_iload_n rfl rfl rfl rfl ?_
          refine X_callV (as := [.int x1]) (st := [.int vz25, .ref 356]) rfl rfl rfl (by decide) rfl (Nat.le_of_ble_eq_true rfl) (by decide) (Nat.le_of_ble_eq_true rfl) rfl ((congrFun V.1 355).trans s_355) (by decide) ?_
          refine LW_ls (ls' := [some (.ref 355), some (.int x1)]) rfl ?_
          refine X_aload_n rfl rfl rfl rfl ?_
          refine X_getR (a := 356) rfl rfl rfl ((congrFun V.1 355).trans s_355) rfl ((congrFun (V.2.1 355 (by decide)) 0).trans r_355_0) ?_
          refine X_sipush (v := (356 : Int32)) rfl rfl rfl ?_
          refine X_bipush (v := (9 : Int32)) rfl rfl rfl ?_
          refine X_iload_n rfl rfl rfl rfl ?_
          refine S_imul rfl rfl (show (9 : Int32).toInt = 9 from rfl) hx1 (by omega) (fun vz26 hvz26 => ?_)
          refine S_iadd rfl rfl (show (356 : Int32).toInt = 356 from rfl) rfl (by omega) (fun vz27 hvz27 => ?_)
          refine S_iald rfl rfl ((congrFun V.1 356).trans s_356) rfl (by omega) (fun vz28 evz28 => ?_)
          have vf29 := A_SCOUNT (V.2.2.2.1 ((vz27.toInt : Int).toNat)) (by omega)
          rw [evz28] at vf29
          refine LW_ireturn (st := []) rfl rfl rfl ?_
          refine S_iast (I := InvR _) rfl rfl ((congrFun V.1 356).trans s_356) rfl (by omega) (InvR_putA V (by omega) (B_CMANY (by omega) (by omega))) (fun g V ve30 vn31 hq => ?_)
          have hG := hq.trans hG
          have hT := (vn31 356 4 (Or.inr (by omega))).trans hT
          have evz1 := (vn31 (356) 1 (Or.inr (by omega))).trans evz1
          have evz9 := (vn31 (356) 10 (Or.inr (by omega))).trans evz9
          have evz22 := (vn31 (356) 2 (Or.inr (by omega))).trans evz22
          refine X_iconst (v := (0 : Int32)) rfl rfl rfl ?_
          refine X_istore_n (i := 3) (ls' := [some (.ref 355), some (.int x1), some (.int vz18), some (.int (0 : Int32))]) rfl rfl rfl (Nat.le_of_ble_eq_true rfl) rfl ?_
          exact (C_X13_contractT_all (((8 - 0) * 1 + 0) + 1 : Int).toNat) _ V hG hT x1 y1 hx1 (by omega) vz18 vz18.toInt rfl (by omega) (0 : Int32) 0 (show (0 : Int32).toInt = 0 from rfl) (by omega) (by rw [evz1]; omega) (by rw [evz9]; omega) (by rw [evz9] <;> omega) (by
        exact SS_congr V (fun k h1 h2 => (vn31 356 k (Or.inr (by omega))).trans ((vn24 356 k (Or.inr (by omega))).trans ((vn20 356 k (Or.inr (by omega))).trans (chF k (by omega) h2)))) (by omega) (vq13 rfl (by omega)))  (by omega)
        · refine X_iconst (v := (-1 : Int32)) rfl rfl rfl ?_
          exact LW_ireturn (st := []) rfl rfl rfl ⟨_, rfl, by decide, by decide, V, hG, hT⟩
set_option maxRecDepth 10000 in
set_option maxHeartbeats 40000000 in
theorem C_X13_isTaughtT_5 {P : Par} {g g0 : LH} {d n : Nat}  (V : InvR P g) (hG : Gr g = Gr g0) (hT : Gi g 356 4 = Gi g0 356 4) (x1 : Int32) (y1 : Int) (hx1 : x1.toInt = y1) (hf1 : 1 ≤ y1 ∧ y1 ≤ 2873) (hc355_4 : 0 ≤ (Gi g 355 4).toInt ∧ (Gi g 355 4).toInt ≤ 8) (hq0 : vIX (y1)) (hmu : (8 - (Gi g 355 4).toInt) * 1 + 0 < (n : Int) + 1) (ih5 : ∀ (g : LH) (V : InvR P g) (hG : Gr g = Gr g0) (hT : Gi g 356 4 = Gi g0 356 4) (x1 : Int32) (y1 : Int) (hx1 : x1.toInt = y1) (hf1 : 1 ≤ y1 ∧ y1 ≤ 2873) (hc355_4 : 0 ≤ (Gi g 355 4).toInt ∧ (Gi g 355 4).toInt ≤ 8) (hq0 : vIX (y1)), (8 - (Gi g 355 4).toInt) * 1 + 0 < (n : Int) → LW 263 (d + 20) 0 0 5 [some (.ref 355), some (.int x1)] [] g (fun v g' => ∃ r : Int32, v = some (.int r) ∧ 0 ≤ r.toInt ∧ r.toInt ≤ 1 ∧ InvR P g' ∧ Gr g' = Gr g0 ∧ Gi g' 356 4 = Gi g0 356 4)) : LW 263 (d + 20) 0 0 5 [some (.ref 355), some (.int x1)] [] g (fun v g' => ∃ r : Int32, v = some (.int r) ∧ 0 ≤ r.toInt ∧ r.toInt ≤ 1 ∧ InvR P g' ∧ Gr g' = Gr g0 ∧ Gi g' 356 4 = Gi g0 356 4) := by
  obtain ⟨vz1, evz1⟩ : ∃ z, Gi g 355 4 = z := ⟨_, rfl⟩
  rw [evz1] at hc355_4 hmu
  have vix := hq0
  obtain ⟨vt, vc, vi1, vi2, vi3⟩ := vix
  refine X_aload_n rfl rfl rfl rfl ?_
  refine X_getI (v := vz1) rfl rfl rfl ((congrFun V.1 355).trans s_355) rfl evz1 ?_
  refine X_bipush (v := (8 : Int32)) rfl rfl rfl ?_
  refine S_icmp_ge (tgt := 65) rfl rfl rfl rfl (show (8 : Int32).toInt = 8 from rfl) (fun vh2 => ?_) (fun vh2 => ?_)
  · refine X_aload_n rfl rfl rfl rfl ?_
    refine X_aload_n rfl rfl rfl rfl ?_
    refine X_getR (a := 358) rfl rfl rfl ((congrFun V.1 355).trans s_355) rfl ((congrFun (V.2.1 355 (by decide)) 2).trans r_355_2) ?_
    refine X_iload_n rfl rfl rfl rfl ?_
    refine X_iconst (v := (2 : Int32)) rfl rfl rfl ?_
    refine S_iadd rfl rfl hx1 (show (2 : Int32).toInt = 2 from rfl) (by omega) (fun vz3 hvz3 => ?_)
    refine S_iald rfl rfl ((congrFun V.1 358).trans s_358) rfl (by omega) (fun vz4 evz4 => ?_)
    refine Y_callV (as := [.int vz4]) (st := []) rfl rfl rfl (by decide) rfl (Nat.le_of_ble_eq_true rfl) (by decide) (Nat.le_of_ble_eq_true rfl) rfl ((congrFun V.1 355).trans s_355) (by decide) (C_X13_wordNowT V vz4 vz4.toInt rfl ) ?_
    rintro _ g ⟨vr5, rfl, hrvr50, hrvr51, V, hq, chT⟩
    have hG := hq.trans hG
    have hT := chT.trans hT
    refine S_if_lt (tgt := 84) rfl rfl rfl rfl (fun vh6 => ?_) (fun vh6 => ?_)
    · refine X_iconst (v := (0 : Int32)) rfl rfl rfl ?_
      exact LW_ireturn (st := []) rfl rfl rfl ⟨_, rfl, by decide, by decide, V, hG, hT⟩
    · refine X_iconst (v := (1 : Int32)) rfl rfl rfl ?_
      refine LW_goto (tgt := 85) rfl rfl ?_
      exact LW_ireturn (st := []) rfl rfl rfl ⟨_, rfl, by decide, by decide, V, hG, hT⟩
  · refine X_aload_n rfl rfl rfl rfl ?_
    refine X_getR (a := 358) rfl rfl rfl ((congrFun V.1 355).trans s_355) rfl ((congrFun (V.2.1 355 (by decide)) 2).trans r_355_2) ?_
    refine X_iload_n rfl rfl rfl rfl ?_
    refine X_iconst (v := (3 : Int32)) rfl rfl rfl ?_
    refine S_iadd rfl rfl hx1 (show (3 : Int32).toInt = 3 from rfl) (by omega) (fun vz7 hvz7 => ?_)
    refine X_aload_n rfl rfl rfl rfl ?_
    refine X_getI (v := vz1) rfl rfl rfl ((congrFun V.1 355).trans s_355) rfl evz1 ?_
    refine S_iadd rfl rfl rfl rfl (by omega) (fun vz8 hvz8 => ?_)
    refine S_iald rfl rfl ((congrFun V.1 358).trans s_358) rfl (by omega) (fun vz9 evz9 => ?_)
    have vf10 := vTrow (t := vt) (c := vc) (m := Int.toNat vz1.toInt) (V.2.2.2.2.2.1 ((vz8.toInt : Int).toNat)) (by omega) (by omega) (by omega)
    rw [evz9] at vf10
    refine S_if_lt (tgt := 65) rfl rfl rfl rfl (fun vh11 => ?_) (fun vh11 => ?_)
    · refine X_aload_n rfl rfl rfl rfl ?_
      refine X_aload_n rfl rfl rfl rfl ?_
      refine X_getR (a := 358) rfl rfl rfl ((congrFun V.1 355).trans s_355) rfl ((congrFun (V.2.1 355 (by decide)) 2).trans r_355_2) ?_
      refine X_iload_n rfl rfl rfl rfl ?_
      refine X_iconst (v := (2 : Int32)) rfl rfl rfl ?_
      refine S_iadd rfl rfl hx1 (show (2 : Int32).toInt = 2 from rfl) (by omega) (fun vz12 hvz12 => ?_)
      refine S_iald rfl rfl ((congrFun V.1 358).trans s_358) rfl (by omega) (fun vz13 evz13 => ?_)
      refine Y_callV (as := [.int vz13]) (st := []) rfl rfl rfl (by decide) rfl (Nat.le_of_ble_eq_true rfl) (by decide) (Nat.le_of_ble_eq_true rfl) rfl ((congrFun V.1 355).trans s_355) (by decide) (C_X13_wordNowT V vz13 vz13.toInt rfl ) ?_
      rintro _ g ⟨vr14, rfl, hrvr140, hrvr141, V, hq, chT⟩
      have hG := hq.trans hG
      have hT := chT.trans hT
      refine S_if_lt (tgt := 84) rfl rfl rfl rfl (fun vh15 => ?_) (fun vh15 => ?_)
      · refine X_iconst (v := (0 : Int32)) rfl rfl rfl ?_
        exact LW_ireturn (st := []) rfl rfl rfl ⟨_, rfl, by decide, by decide, V, hG, hT⟩
      · refine X_iconst (v := (1 : Int32)) rfl rfl rfl ?_
        refine LW_goto (tgt := 85) rfl rfl ?_
        exact LW_ireturn (st := []) rfl rfl rfl ⟨_, rfl, by decide, by decide, V, hG, hT⟩
    · refine X_aload_n rfl rfl rfl rfl ?_
      refine X_getR (a := 359) rfl rfl rfl ((congrFun V.1 355).trans s_355) rfl ((congrFun (V.2.1 355 (by decide)) 3).trans r_355_3) ?_
      refine X_aload_n rfl rfl rfl rfl ?_
      refine X_getI (v := vz1) rfl rfl rfl ((congrFun V.1 355).trans s_355) rfl evz1 ?_
      refine X_aload_n rfl rfl rfl rfl ?_
      refine X_getR (a := 358) rfl rfl rfl ((congrFun V.1 355).trans s_355) rfl ((congrFun (V.2.1 355 (by decide)) 2).trans r_355_2) ?_
      refine X_iload_n rfl rfl rfl rfl ?_
      refine X_iconst (v := (3 : Int32)) rfl rfl rfl ?_
      refine S_iadd rfl rfl hx1 (show (3 : Int32).toInt = 3 from rfl) (by omega) (fun vz16 hvz16 => ?_)
      refine X_aload_n rfl rfl rfl rfl ?_
      refine X_getI (v := vz1) rfl rfl rfl ((congrFun V.1 355).trans s_355) rfl evz1 ?_
      refine S_iadd rfl rfl rfl rfl (by omega) (fun vz17 hvz17 => ?_)
      refine S_iald rfl rfl ((congrFun V.1 358).trans s_358) rfl (by omega) (fun vz18 evz18 => ?_)
      have vf19 : 0 ≤ (Gi g 358 ((vz17.toInt : Int).toNat)).toInt ∧ (Gi g 358 ((vz17.toInt : Int).toNat)).toInt ≤ 25 := (by
            rw [show Int.toNat vz17.toInt = Int.toNat vz8.toInt by omega, evz9]
            omega)
      rw [evz18] at vf19
      refine S_iast (I := InvR _) rfl rfl ((congrFun V.1 359).trans s_359) rfl (by omega) (InvR_putO V (by decide) (show okO 359 _ _ from (show 0 ≤ vz18.toInt ∧ vz18.toInt ≤ 25 by omega))) (fun g V ve20 vn21 hq => ?_)
      have hG := hq.trans hG
      have hT := (vn21 356 4 (Or.inl (by decide))).trans hT
      have evz1 := (vn21 (355) 4 (Or.inl (by decide))).trans evz1
      have evz9 := (vn21 (358) ((vz8.toInt : Int).toNat) (Or.inl (by decide))).trans evz9
      have evz18 := (vn21 (358) ((vz17.toInt : Int).toNat) (Or.inl (by decide))).trans evz18
      refine X_aload_n rfl rfl rfl rfl ?_
      refine X_dup rfl rfl rfl ?_
      refine X_getI (v := vz1) rfl rfl rfl ((congrFun V.1 355).trans s_355) rfl evz1 ?_
      refine X_iconst (v := (1 : Int32)) rfl rfl rfl ?_
      refine S_iadd rfl rfl rfl (show (1 : Int32).toInt = 1 from rfl) (by omega) (fun vz22 hvz22 => ?_)
      refine S_putI (I := InvR _) rfl rfl rfl ((congrFun V.1 355).trans s_355) rfl rfl rfl rfl (InvR_putO V (by decide) (show okO 355 _ _ from (show 0 ≤ vz22.toInt ∧ vz22.toInt ≤ 8 by omega))) (fun g V ve23 vn24 hq => ?_)
      have hG := hq.trans hG
      have hT := (vn24 356 4 (Or.inl (by decide))).trans hT
      have evz9 := (vn24 (358) ((vz8.toInt : Int).toNat) (Or.inl (by decide))).trans evz9
      have evz18 := (vn24 (358) ((vz17.toInt : Int).toNat) (Or.inl (by decide))).trans evz18
      refine LW_goto (tgt := 5) rfl rfl ?_
      exact ih5 _ V hG hT x1 y1 hx1 (by omega) (by rw [ve23]; omega) (hq0)  (by rw [ve23]; omega)
theorem C_X13_isTaughtT_all {P : Par} {g0 : LH} {d : Nat}  : ∀ n : Nat, (∀ (g : LH) (V : InvR P g) (hG : Gr g = Gr g0) (hT : Gi g 356 4 = Gi g0 356 4) (x1 : Int32) (y1 : Int) (hx1 : x1.toInt = y1) (hf1 : 1 ≤ y1 ∧ y1 ≤ 2873) (hc355_4 : 0 ≤ (Gi g 355 4).toInt ∧ (Gi g 355 4).toInt ≤ 8) (hq0 : vIX (y1)), (8 - (Gi g 355 4).toInt) * 1 + 0 < (n : Int) → LW 263 (d + 20) 0 0 5 [some (.ref 355), some (.int x1)] [] g (fun v g' => ∃ r : Int32, v = some (.int r) ∧ 0 ≤ r.toInt ∧ r.toInt ≤ 1 ∧ InvR P g' ∧ Gr g' = Gr g0 ∧ Gi g' 356 4 = Gi g0 356 4)) := by
  intro n
  induction n with
  | zero => exact fun g V hG hT x1 y1 hx1 hf1 hc355_4 hq0 hmu => absurd hmu (by omega)
  | succ n ih => exact fun g V hG hT x1 y1 hx1 hf1 hc355_4 hq0 hmu => C_X13_isTaughtT_5  V hG hT x1 y1 hx1 hf1 hc355_4 hq0 (by omega) ih
set_option maxRecDepth 10000 in
set_option maxHeartbeats 40000000 in
theorem C_X13_isTaughtT {P : Par} {g : LH} {d : Nat}  (V : InvR P g) (x1 : Int32) (y1 : Int) (hx1 : x1.toInt = y1) (hf1 : 1 ≤ y1 ∧ y1 ≤ 2873) (hq0 : vIX (y1))  : LW 263 (d + 20) 0 0 0 (lEnt (mL 263) [.ref 355, .int x1]) [] g (fun v g' => ∃ r : Int32, v = some (.int r) ∧ 0 ≤ r.toInt ∧ r.toInt ≤ 1 ∧ InvR P g' ∧ Gr g' = Gr g ∧ Gi g' 356 4 = Gi g 356 4) := by
  refine LW_ls (ls' := [some (.ref 355), some (.int x1)]) rfl ?_
  have hG : Gr g = Gr g := rfl
  have hT : Gi g 356 4 = Gi g 356 4 := rfl
  refine X_aload_n rfl rfl rfl rfl ?_
  refine X_iconst (v := (0 : Int32)) rfl rfl rfl ?_
  refine S_putI (I := InvR _) rfl rfl rfl ((congrFun V.1 355).trans s_355) rfl rfl rfl rfl (InvR_putO V (by decide) (show okO 355 _ _ from (show 0 ≤ (0 : Int32).toInt ∧ (0 : Int32).toInt ≤ 8 by decide))) (fun g V ve1 vn2 hq => ?_)
  have hG := hq.trans hG
  have hT := (vn2 356 4 (Or.inl (by decide))).trans hT
  exact (C_X13_isTaughtT_all (((8 - (Gi g 355 4).toInt) * 1 + 0) + 1 : Int).toNat) _ V hG hT x1 y1 hx1 (by omega) (by rw [ve1]; decide) (hq0)  (by omega)
set_option maxRecDepth 10000 in
set_option maxHeartbeats 40000000 in
theorem C_X13_isSpokenT_14 {P : Par} {g g0 : LH} {d n : Nat}  (V : InvR P g) (hG : Gr g = Gr g0) (hT : Gi g 356 4 = Gi g0 356 4) (x1 : Int32) (y1 : Int) (hx1 : x1.toInt = y1) (hf1 : 1 ≤ y1 ∧ y1 ≤ 2873) (x2 : Int32) (y2 : Int) (hx2 : x2.toInt = y2) (hf2 : 0 ≤ y2 ∧ y2 ≤ 8) (hc355_6 : 0 ≤ (Gi g 355 6).toInt ∧ (Gi g 355 6).toInt ≤ 8) (hmu : (8 - y2) * 1 + 0 < (n : Int) + 1) (ih14 : ∀ (g : LH) (V : InvR P g) (hG : Gr g = Gr g0) (hT : Gi g 356 4 = Gi g0 356 4) (x1 : Int32) (y1 : Int) (hx1 : x1.toInt = y1) (hf1 : 1 ≤ y1 ∧ y1 ≤ 2873) (x2 : Int32) (y2 : Int) (hx2 : x2.toInt = y2) (hf2 : 0 ≤ y2 ∧ y2 ≤ 8) (hc355_6 : 0 ≤ (Gi g 355 6).toInt ∧ (Gi g 355 6).toInt ≤ 8), (8 - y2) * 1 + 0 < (n : Int) → LW 264 (d + 12) 0 0 14 [some (.ref 355), some (.int x1), some (.int x2)] [] g (fun v g' => ∃ r : Int32, v = some (.int r) ∧ 0 ≤ r.toInt ∧ r.toInt ≤ 1 ∧ InvR P g' ∧ Gr g' = Gr g0 ∧ Gi g' 356 4 = Gi g0 356 4)) : LW 264 (d + 12) 0 0 14 [some (.ref 355), some (.int x1), some (.int x2)] [] g (fun v g' => ∃ r : Int32, v = some (.int r) ∧ 0 ≤ r.toInt ∧ r.toInt ≤ 1 ∧ InvR P g' ∧ Gr g' = Gr g0 ∧ Gi g' 356 4 = Gi g0 356 4) := by
  obtain ⟨vz1, evz1⟩ : ∃ z, Gi g 355 6 = z := ⟨_, rfl⟩
  rw [evz1] at hc355_6
  refine X_iload_n rfl rfl rfl rfl ?_
  refine X_aload_n rfl rfl rfl rfl ?_
  refine X_getI (v := vz1) rfl rfl rfl ((congrFun V.1 355).trans s_355) rfl evz1 ?_
  refine S_icmp_ge (tgt := 44) rfl rfl rfl hx2 rfl (fun vh2 => ?_) (fun vh2 => ?_)
  · refine X_aload_n rfl rfl rfl rfl ?_
    refine Y_callV (as := []) (st := []) rfl rfl rfl (by decide) rfl (Nat.le_of_ble_eq_true rfl) (by decide) (Nat.le_of_ble_eq_true rfl) rfl ((congrFun V.1 355).trans s_355) (by decide) (C_X13_sayNowT V  ) ?_
    rintro _ g ⟨vr3, rfl, hrvr30, hrvr31, V, hq, chT⟩
    have hG := hq.trans hG
    have hT := chT.trans hT
    refine S_if_lt (tgt := 55) rfl rfl rfl rfl (fun vh4 => ?_) (fun vh4 => ?_)
    · refine X_iconst (v := (0 : Int32)) rfl rfl rfl ?_
      exact LW_ireturn (st := []) rfl rfl rfl ⟨_, rfl, by decide, by decide, V, hG, hT⟩
    · refine X_iconst (v := (1 : Int32)) rfl rfl rfl ?_
      refine LW_goto (tgt := 56) rfl rfl ?_
      exact LW_ireturn (st := []) rfl rfl rfl ⟨_, rfl, by decide, by decide, V, hG, hT⟩
  · refine X_aload_n rfl rfl rfl rfl ?_
    refine X_getR (a := 360) rfl rfl rfl ((congrFun V.1 355).trans s_355) rfl ((congrFun (V.2.1 355 (by decide)) 5).trans r_355_5) ?_
    refine X_iload_n rfl rfl rfl rfl ?_
    refine X_aload_n rfl rfl rfl rfl ?_
    refine X_getR (a := 358) rfl rfl rfl ((congrFun V.1 355).trans s_355) rfl ((congrFun (V.2.1 355 (by decide)) 2).trans r_355_2) ?_
    refine X_iload_n rfl rfl rfl rfl ?_
    refine X_iconst (v := (2 : Int32)) rfl rfl rfl ?_
    refine S_iadd rfl rfl hx1 (show (2 : Int32).toInt = 2 from rfl) (by omega) (fun vz5 hvz5 => ?_)
    refine X_iload_n rfl rfl rfl rfl ?_
    refine S_iadd rfl rfl rfl hx2 (by omega) (fun vz6 hvz6 => ?_)
    refine S_iald rfl rfl ((congrFun V.1 358).trans s_358) rfl (by omega) (fun vz7 evz7 => ?_)
    refine S_iast (I := InvR _) rfl rfl ((congrFun V.1 360).trans s_360) hx2 (by omega) (InvR_putO V (by decide) trivial) (fun g V ve8 vn9 hq => ?_)
    have hG := hq.trans hG
    have hT := (vn9 356 4 (Or.inl (by decide))).trans hT
    have evz1 := (vn9 (355) 6 (Or.inl (by decide))).trans evz1
    have evz7 := (vn9 (358) ((vz6.toInt : Int).toNat) (Or.inl (by decide))).trans evz7
    refine S_iinc (c := 1) rfl rfl rfl hx2 rfl (by omega) (fun vz10 hvz10 => ?_)
    refine LW_ls (ls' := [some (.ref 355), some (.int x1), some (.int vz10)]) rfl ?_
    refine LW_goto (tgt := 14) rfl rfl ?_
    exact ih14 _ V hG hT x1 y1 hx1 (by omega) vz10 vz10.toInt rfl (by omega) (by rw [evz1]; omega)   (by omega)
theorem C_X13_isSpokenT_all {P : Par} {g0 : LH} {d : Nat}  : ∀ n : Nat, (∀ (g : LH) (V : InvR P g) (hG : Gr g = Gr g0) (hT : Gi g 356 4 = Gi g0 356 4) (x1 : Int32) (y1 : Int) (hx1 : x1.toInt = y1) (hf1 : 1 ≤ y1 ∧ y1 ≤ 2873) (x2 : Int32) (y2 : Int) (hx2 : x2.toInt = y2) (hf2 : 0 ≤ y2 ∧ y2 ≤ 8) (hc355_6 : 0 ≤ (Gi g 355 6).toInt ∧ (Gi g 355 6).toInt ≤ 8), (8 - y2) * 1 + 0 < (n : Int) → LW 264 (d + 12) 0 0 14 [some (.ref 355), some (.int x1), some (.int x2)] [] g (fun v g' => ∃ r : Int32, v = some (.int r) ∧ 0 ≤ r.toInt ∧ r.toInt ≤ 1 ∧ InvR P g' ∧ Gr g' = Gr g0 ∧ Gi g' 356 4 = Gi g0 356 4)) := by
  intro n
  induction n with
  | zero => exact fun g V hG hT x1 y1 hx1 hf1 x2 y2 hx2 hf2 hc355_6 hmu => absurd hmu (by omega)
  | succ n ih => exact fun g V hG hT x1 y1 hx1 hf1 x2 y2 hx2 hf2 hc355_6 hmu => C_X13_isSpokenT_14  V hG hT x1 y1 hx1 hf1 x2 y2 hx2 hf2 hc355_6 (by omega) ih
set_option maxRecDepth 10000 in
set_option maxHeartbeats 40000000 in
theorem C_X13_isSpokenT {P : Par} {g : LH} {d : Nat}  (V : InvR P g) (x1 : Int32) (y1 : Int) (hx1 : x1.toInt = y1) (hf1 : 1 ≤ y1 ∧ y1 ≤ 2873) (hq0 : 0 ≤ (Gi g 358 (Int.toNat (y1 + 1))).toInt ∧ (Gi g 358 (Int.toNat (y1 + 1))).toInt ≤ 8)  : LW 264 (d + 12) 0 0 0 (lEnt (mL 264) [.ref 355, .int x1]) [] g (fun v g' => ∃ r : Int32, v = some (.int r) ∧ 0 ≤ r.toInt ∧ r.toInt ≤ 1 ∧ InvR P g' ∧ Gr g' = Gr g ∧ Gi g' 356 4 = Gi g 356 4) := by
  refine LW_ls (ls' := [some (.ref 355), some (.int x1), none]) rfl ?_
  have hG : Gr g = Gr g := rfl
  have hT : Gi g 356 4 = Gi g 356 4 := rfl
  refine X_aload_n rfl rfl rfl rfl ?_
  refine X_aload_n rfl rfl rfl rfl ?_
  refine X_getR (a := 358) rfl rfl rfl ((congrFun V.1 355).trans s_355) rfl ((congrFun (V.2.1 355 (by decide)) 2).trans r_355_2) ?_
  refine X_iload_n rfl rfl rfl rfl ?_
  refine X_iconst (v := (1 : Int32)) rfl rfl rfl ?_
  refine S_iadd rfl rfl hx1 (show (1 : Int32).toInt = 1 from rfl) (by omega) (fun vz1 hvz1 => ?_)
  refine S_iald rfl rfl ((congrFun V.1 358).trans s_358) rfl (by omega) (fun vz2 evz2 => ?_)
  have vf3 : 0 ≤ (Gi g 358 ((vz1.toInt : Int).toNat)).toInt ∧ (Gi g 358 ((vz1.toInt : Int).toNat)).toInt ≤ 8 := (by
        rw [show Int.toNat vz1.toInt = Int.toNat (y1 + 1) by omega]
        exact hq0)
  rw [evz2] at vf3
  refine S_putI (I := InvR _) rfl rfl rfl ((congrFun V.1 355).trans s_355) rfl rfl rfl rfl (InvR_putO V (by decide) (show okO 355 _ _ from (show 0 ≤ vz2.toInt ∧ vz2.toInt ≤ 8 by omega))) (fun g V ve4 vn5 hq => ?_)
  have hG := hq.trans hG
  have hT := (vn5 356 4 (Or.inl (by decide))).trans hT
  have evz2 := (vn5 (358) ((vz1.toInt : Int).toNat) (Or.inl (by decide))).trans evz2
  refine X_iconst (v := (0 : Int32)) rfl rfl rfl ?_
  refine X_istore_n (i := 2) (ls' := [some (.ref 355), some (.int x1), some (.int (0 : Int32))]) rfl rfl rfl (Nat.le_of_ble_eq_true rfl) rfl ?_
  exact (C_X13_isSpokenT_all (((8 - 0) * 1 + 0) + 1 : Int).toNat) _ V hG hT x1 y1 hx1 (by omega) (0 : Int32) 0 (show (0 : Int32).toInt = 0 from rfl) (by omega) (by rw [ve4]; omega)   (by omega)
set_option maxRecDepth 10000 in
set_option maxHeartbeats 40000000 in
theorem C_X13_isPlayedT {P : Par} {g : LH} {d : Nat}  (V : InvR P g) (x1 : Int32) (y1 : Int) (hx1 : x1.toInt = y1) (hf1 : 1 ≤ y1 ∧ y1 ≤ 2873) (hq0 : vIX (y1)) (hq1 : (Gi g 358 (Int.toNat (y1))).toInt = 5 → 0 ≤ (Gi g 358 (Int.toNat (y1 + 1))).toInt ∧ (Gi g 358 (Int.toNat (y1 + 1))).toInt ≤ 8)  : LW 265 (d + 80) 0 0 0 (lEnt (mL 265) [.ref 355, .int x1]) [] g (fun v g' => ∃ r : Int32, v = some (.int r) ∧ 0 ≤ r.toInt ∧ r.toInt ≤ 1 ∧ InvR P g' ∧ Gr g' = Gr g ∧ Gi g' 356 4 = Gi g 356 4) := by
  refine LW_ls (ls' := [some (.ref 355), some (.int x1), none, none]) rfl ?_
  have hG : Gr g = Gr g := rfl
  have hT : Gi g 356 4 = Gi g 356 4 := rfl
  refine X_aload_n rfl rfl rfl rfl ?_
  refine X_getR (a := 358) rfl rfl rfl ((congrFun V.1 355).trans s_355) rfl ((congrFun (V.2.1 355 (by decide)) 2).trans r_355_2) ?_
  refine X_iload_n rfl rfl rfl rfl ?_
  refine X_iconst (v := (1 : Int32)) rfl rfl rfl ?_
  refine S_iadd rfl rfl hx1 (show (1 : Int32).toInt = 1 from rfl) (by omega) (fun vz1 hvz1 => ?_)
  refine S_iald rfl rfl ((congrFun V.1 358).trans s_358) rfl (by omega) (fun vz2 evz2 => ?_)
  refine X_istore_n (i := 2) (ls' := [some (.ref 355), some (.int x1), some (.int vz2), none]) rfl rfl rfl (Nat.le_of_ble_eq_true rfl) rfl ?_
  refine X_aload_n rfl rfl rfl rfl ?_
  refine X_getR (a := 358) rfl rfl rfl ((congrFun V.1 355).trans s_355) rfl ((congrFun (V.2.1 355 (by decide)) 2).trans r_355_2) ?_
  refine X_iload_n rfl rfl rfl rfl ?_
  refine X_iconst (v := (2 : Int32)) rfl rfl rfl ?_
  refine S_iadd rfl rfl hx1 (show (2 : Int32).toInt = 2 from rfl) (by omega) (fun vz3 hvz3 => ?_)
  refine S_iald rfl rfl ((congrFun V.1 358).trans s_358) rfl (by omega) (fun vz4 evz4 => ?_)
  refine X_istore_n (i := 3) (ls' := [some (.ref 355), some (.int x1), some (.int vz2), some (.int vz4)]) rfl rfl rfl (Nat.le_of_ble_eq_true rfl) rfl ?_
  refine X_aload_n rfl rfl rfl rfl ?_
  refine X_getR (a := 358) rfl rfl rfl ((congrFun V.1 355).trans s_355) rfl ((congrFun (V.2.1 355 (by decide)) 2).trans r_355_2) ?_
  refine X_iload_n rfl rfl rfl rfl ?_
  refine S_iald rfl rfl ((congrFun V.1 358).trans s_358) hx1 (by omega) (fun vz5 evz5 => ?_)
  by_cases vh6 : vz5.toInt = 4
  · refine S_tableIn (tgt := 76) (c := 4) rfl ((rfl : _ = vz5.toInt).trans vh6) (by decide) (by decide) rfl rfl ?_
    refine X_aload_n rfl rfl rfl rfl ?_
    refine X_iload_n rfl rfl rfl rfl ?_
    refine Y_callV (as := [.int x1]) (st := []) rfl rfl rfl (by decide) rfl (Nat.le_of_ble_eq_true rfl) (by decide) (Nat.le_of_ble_eq_true rfl) rfl ((congrFun V.1 355).trans s_355) (by decide) (C_X13_isTaughtT V x1 y1 hx1 (by omega) (hq0)) ?_
    rintro _ g ⟨vr7, rfl, hrvr70, hrvr71, V, hq, chT⟩
    have hG := hq.trans hG
    have hT := chT.trans hT
    have hr := (rfl : vr7.toInt = vr7.toInt)
    exact LW_ireturn (st := []) rfl rfl (nbool rfl (by omega)) ⟨_, rfl, by omega, by omega, V, hG, hT⟩
  by_cases vh8 : vz5.toInt = 5
  · refine S_tableIn (tgt := 82) (c := 5) rfl ((rfl : _ = vz5.toInt).trans vh8) (by decide) (by decide) rfl rfl ?_
    refine X_aload_n rfl rfl rfl rfl ?_
    refine X_iload_n rfl rfl rfl rfl ?_
    refine Y_callV (as := [.int x1]) (st := []) rfl rfl rfl (by decide) rfl (Nat.le_of_ble_eq_true rfl) (by decide) (Nat.le_of_ble_eq_true rfl) rfl ((congrFun V.1 355).trans s_355) (by decide) (C_X13_isSpokenT V x1 y1 hx1 (by omega) (by
          exact hq1 (by rw [evz5]; omega))) ?_
    rintro _ g ⟨vr9, rfl, hrvr90, hrvr91, V, hq, chT⟩
    have hG := hq.trans hG
    have hT := chT.trans hT
    have hr := (rfl : vr9.toInt = vr9.toInt)
    exact LW_ireturn (st := []) rfl rfl (nbool rfl (by omega)) ⟨_, rfl, by omega, by omega, V, hG, hT⟩
  by_cases vh10 : vz5.toInt = 6
  · refine S_tableIn (tgt := 88) (c := 6) rfl ((rfl : _ = vz5.toInt).trans vh10) (by decide) (by decide) rfl rfl ?_
    refine X_aload_n rfl rfl rfl rfl ?_
    refine X_iload_n rfl rfl rfl rfl ?_
    refine X_iload_n rfl rfl rfl rfl ?_
    refine Y_callV (as := [.int vz2, .int vz4]) (st := []) rfl rfl rfl (by decide) rfl (Nat.le_of_ble_eq_true rfl) (by decide) (Nat.le_of_ble_eq_true rfl) rfl ((congrFun V.1 355).trans s_355) (by decide) (C_X13_areTiedT V vz2 vz2.toInt rfl vz4 vz4.toInt rfl ) ?_
    rintro _ g ⟨vr11, rfl, hrvr110, hrvr111, V, hq, chT⟩
    have hG := hq.trans hG
    have hT := chT.trans hT
    have hr := (rfl : vr11.toInt = vr11.toInt)
    exact LW_ireturn (st := []) rfl rfl (nbool rfl (by omega)) ⟨_, rfl, by omega, by omega, V, hG, hT⟩
  by_cases vh12 : vz5.toInt = 7
  · refine S_tableIn (tgt := 95) (c := 7) rfl ((rfl : _ = vz5.toInt).trans vh12) (by decide) (by decide) rfl rfl ?_
    refine X_aload_n rfl rfl rfl rfl ?_
    refine X_iload_n rfl rfl rfl rfl ?_
    refine Y_callV (as := [.int vz2]) (st := []) rfl rfl rfl (by decide) rfl (Nat.le_of_ble_eq_true rfl) (by decide) (Nat.le_of_ble_eq_true rfl) rfl ((congrFun V.1 355).trans s_355) (by decide) (C_X13_strikeT V vz2 vz2.toInt rfl ) ?_
    rintro _ g ⟨vr13, rfl, hrvr130, hrvr131, V, hq, chT⟩
    have hG := hq.trans hG
    have hT := chT.trans hT
    refine S_if_lt (tgt := 107) rfl rfl rfl rfl (fun vh14 => ?_) (fun vh14 => ?_)
    · refine X_iconst (v := (0 : Int32)) rfl rfl rfl ?_
      exact LW_ireturn (st := []) rfl rfl rfl ⟨_, rfl, by decide, by decide, V, hG, hT⟩
    · refine X_iconst (v := (1 : Int32)) rfl rfl rfl ?_
      refine LW_goto (tgt := 108) rfl rfl ?_
      exact LW_ireturn (st := []) rfl rfl rfl ⟨_, rfl, by decide, by decide, V, hG, hT⟩
  by_cases vh15 : vz5.toInt = 8
  · refine S_tableIn (tgt := 109) (c := 8) rfl ((rfl : _ = vz5.toInt).trans vh15) (by decide) (by decide) rfl rfl ?_
    refine X_aload_n rfl rfl rfl rfl ?_
    refine X_iload_n rfl rfl rfl rfl ?_
    refine Y_callV (as := [.int vz2]) (st := []) rfl rfl rfl (by decide) rfl (Nat.le_of_ble_eq_true rfl) (by decide) (Nat.le_of_ble_eq_true rfl) rfl ((congrFun V.1 355).trans s_355) (by decide) (C_X13_comeBackT V vz2 vz2.toInt rfl ) ?_
    rintro _ g ⟨vr16, rfl, hrvr160, hrvr161, V, hq, chT⟩
    have hG := hq.trans hG
    have hT := chT.trans hT
    refine S_if_lt (tgt := 121) rfl rfl rfl rfl (fun vh17 => ?_) (fun vh17 => ?_)
    · refine X_iconst (v := (0 : Int32)) rfl rfl rfl ?_
      exact LW_ireturn (st := []) rfl rfl rfl ⟨_, rfl, by decide, by decide, V, hG, hT⟩
    · refine X_iconst (v := (1 : Int32)) rfl rfl rfl ?_
      refine LW_goto (tgt := 122) rfl rfl ?_
      exact LW_ireturn (st := []) rfl rfl rfl ⟨_, rfl, by decide, by decide, V, hG, hT⟩
  by_cases vh18 : vz5.toInt = 9
  · refine S_tableIn (tgt := 123) (c := 9) rfl ((rfl : _ = vz5.toInt).trans vh18) (by decide) (by decide) rfl rfl ?_
    refine X_aload_n rfl rfl rfl rfl ?_
    refine X_iload_n rfl rfl rfl rfl ?_
    refine X_iload_n rfl rfl rfl rfl ?_
    refine Y_callV (as := [.int vz2, .int vz4]) (st := []) rfl rfl rfl (by decide) rfl (Nat.le_of_ble_eq_true rfl) (by decide) (Nat.le_of_ble_eq_true rfl) rfl ((congrFun V.1 355).trans s_355) (by decide) (C_X13_areRaisedT V vz2 vz2.toInt rfl vz4 vz4.toInt rfl ) ?_
    rintro _ g ⟨vr19, rfl, hrvr190, hrvr191, V, hq, chT⟩
    have hG := hq.trans hG
    have hT := chT.trans hT
    have hr := (rfl : vr19.toInt = vr19.toInt)
    exact LW_ireturn (st := []) rfl rfl (nbool rfl (by omega)) ⟨_, rfl, by omega, by omega, V, hG, hT⟩
  by_cases vh20 : vz5.toInt = 10
  · refine S_tableIn (tgt := 130) (c := 10) rfl ((rfl : _ = vz5.toInt).trans vh20) (by decide) (by decide) rfl rfl ?_
    refine X_aload_n rfl rfl rfl rfl ?_
    refine X_iload_n rfl rfl rfl rfl ?_
    refine X_iload_n rfl rfl rfl rfl ?_
    refine Y_callV (as := [.int vz2, .int vz4]) (st := []) rfl rfl rfl (by decide) rfl (Nat.le_of_ble_eq_true rfl) (by decide) (Nat.le_of_ble_eq_true rfl) rfl ((congrFun V.1 355).trans s_355) (by decide) (C_X13_areSignedT V vz2 vz2.toInt rfl vz4 vz4.toInt rfl ) ?_
    rintro _ g ⟨vr21, rfl, hrvr210, hrvr211, V, hq, chT⟩
    have hG := hq.trans hG
    have hT := chT.trans hT
    have hr := (rfl : vr21.toInt = vr21.toInt)
    exact LW_ireturn (st := []) rfl rfl (nbool rfl (by omega)) ⟨_, rfl, by omega, by omega, V, hG, hT⟩
  by_cases vh22 : vz5.toInt = 11
  · refine S_tableIn (tgt := 137) (c := 11) rfl ((rfl : _ = vz5.toInt).trans vh22) (by decide) (by decide) rfl rfl ?_
    refine X_aload_n rfl rfl rfl rfl ?_
    refine X_iload_n rfl rfl rfl rfl ?_
    refine Y_callV (as := [.int vz2]) (st := []) rfl rfl rfl (by decide) rfl (Nat.le_of_ble_eq_true rfl) (by decide) (Nat.le_of_ble_eq_true rfl) rfl ((congrFun V.1 355).trans s_355) (by decide) (C_X13_contractT V vz2 vz2.toInt rfl ) ?_
    rintro _ g ⟨vr23, rfl, hrvr230, hrvr231, V, hq, chT⟩
    have hG := hq.trans hG
    have hT := chT.trans hT
    refine S_if_lt (tgt := 149) rfl rfl rfl rfl (fun vh24 => ?_) (fun vh24 => ?_)
    · refine X_iconst (v := (0 : Int32)) rfl rfl rfl ?_
      exact LW_ireturn (st := []) rfl rfl rfl ⟨_, rfl, by decide, by decide, V, hG, hT⟩
    · refine X_iconst (v := (1 : Int32)) rfl rfl rfl ?_
      refine LW_goto (tgt := 150) rfl rfl ?_
      exact LW_ireturn (st := []) rfl rfl rfl ⟨_, rfl, by decide, by decide, V, hG, hT⟩
  by_cases vh25 : vz5.toInt = 12
  · refine S_tableIn (tgt := 151) (c := 12) rfl ((rfl : _ = vz5.toInt).trans vh25) (by decide) (by decide) rfl rfl ?_
    refine X_aload_n rfl rfl rfl rfl ?_
    refine X_iload_n rfl rfl rfl rfl ?_
    refine Y_callV (as := [.int vz2]) (st := []) rfl rfl rfl (by decide) rfl (Nat.le_of_ble_eq_true rfl) (by decide) (Nat.le_of_ble_eq_true rfl) rfl ((congrFun V.1 355).trans s_355) (by decide) (C_X13_areMorningsT V vz2 vz2.toInt rfl ) ?_
    rintro _ g ⟨vr26, rfl, hrvr260, hrvr261, V, hq, chT⟩
    have hG := hq.trans hG
    have hT := chT.trans hT
    have hr := (rfl : vr26.toInt = vr26.toInt)
    exact LW_ireturn (st := []) rfl rfl (nbool rfl (by omega)) ⟨_, rfl, by omega, by omega, V, hG, hT⟩
  refine S_tableOut (tgt := 157) rfl rfl (by omega) rfl ?_
  refine X_iconst (v := (1 : Int32)) rfl rfl rfl ?_
  exact LW_ireturn (st := []) rfl rfl rfl ⟨_, rfl, by decide, by decide, V, hG, hT⟩
set_option maxRecDepth 10000 in
set_option maxHeartbeats 40000000 in
theorem C_X13_played_21 {P : Par} {g g0 : LH} {d n : Nat}  (V : InvR P g) (hG : Gr g = Gr g0) (x1 : Int32) (y1 : Int) (hx1 : x1.toInt = y1) (hf1 : 0 ≤ y1 ∧ y1 ≤ 3) (x2 : Int32) (y2 : Int) (hx2 : x2.toInt = y2) (hf2 : 0 ≤ y2 ∧ y2 ≤ 24) (hc356_4 : 1 ≤ (Gi g 356 4).toInt ∧ (Gi g 356 4).toInt ≤ 4) (hq0 : y1 < (Gi g 356 4).toInt) (hq1 : 0 ≤ y1) (hmu : (24 - y2) * 1 + 0 < (n : Int) + 1) (ih21 : ∀ (g : LH) (V : InvR P g) (hG : Gr g = Gr g0) (x1 : Int32) (y1 : Int) (hx1 : x1.toInt = y1) (hf1 : 0 ≤ y1 ∧ y1 ≤ 3) (x2 : Int32) (y2 : Int) (hx2 : x2.toInt = y2) (hf2 : 0 ≤ y2 ∧ y2 ≤ 24) (hc356_4 : 1 ≤ (Gi g 356 4).toInt ∧ (Gi g 356 4).toInt ≤ 4) (hq0 : y1 < (Gi g 356 4).toInt) (hq1 : 0 ≤ y1), (24 - y2) * 1 + 0 < (n : Int) → LW 266 (d + 90) 0 0 21 [some (.ref 355), some (.int x1), some (.int x2)] [] g (fun v g' => ∃ r : Int32, v = some (.int r) ∧ (-2) ≤ r.toInt ∧ r.toInt ≤ 23 ∧ InvR P g' ∧ Gr g' = Gr g0)) : LW 266 (d + 90) 0 0 21 [some (.ref 355), some (.int x1), some (.int x2)] [] g (fun v g' => ∃ r : Int32, v = some (.int r) ∧ (-2) ≤ r.toInt ∧ r.toInt ≤ 23 ∧ InvR P g' ∧ Gr g' = Gr g0) := by
  obtain ⟨vz1, evz1⟩ : ∃ z, Gi g 356 4 = z := ⟨_, rfl⟩
  rw [evz1] at hc356_4
  rw [evz1] at hq0
  refine X_iload_n rfl rfl rfl rfl ?_
  refine X_aload_n rfl rfl rfl rfl ?_
  refine X_getR (a := 358) rfl rfl rfl ((congrFun V.1 355).trans s_355) rfl ((congrFun (V.2.1 355 (by decide)) 2).trans r_355_2) ?_
  refine X_sipush (v := (873 : Int32)) rfl rfl rfl ?_
  refine X_iload_n rfl rfl rfl rfl ?_
  refine S_imul rfl rfl (show (873 : Int32).toInt = 873 from rfl) hx1 (by omega) (fun vz2 hvz2 => ?_)
  refine S_iald rfl rfl ((congrFun V.1 358).trans s_358) rfl (by omega) (fun vz3 evz3 => ?_)
  have vf4 := (V.2.2.2.2.2.1 ((vz2.toInt : Int).toNat)).1 (by omega)
  rw [evz3] at vf4
  refine S_icmp_ge (tgt := 62) rfl rfl rfl hx2 rfl (fun vh5 => ?_) (fun vh5 => ?_)
  · refine X_iconst (v := (-1 : Int32)) rfl rfl rfl ?_
    exact LW_ireturn (st := []) rfl rfl rfl ⟨_, rfl, by decide, by decide, V, hG⟩
  · refine X_aload_n rfl rfl rfl rfl ?_
    refine X_sipush (v := (873 : Int32)) rfl rfl rfl ?_
    refine X_iload_n rfl rfl rfl rfl ?_
    refine S_imul rfl rfl (show (873 : Int32).toInt = 873 from rfl) hx1 (by omega) (fun vz6 hvz6 => ?_)
    refine X_iconst (v := (1 : Int32)) rfl rfl rfl ?_
    refine S_iadd rfl rfl rfl (show (1 : Int32).toInt = 1 from rfl) (by omega) (fun vz7 hvz7 => ?_)
    refine X_bipush (v := (11 : Int32)) rfl rfl rfl ?_
    refine X_iload_n rfl rfl rfl rfl ?_
    refine S_imul rfl rfl (show (11 : Int32).toInt = 11 from rfl) hx2 (by omega) (fun vz8 hvz8 => ?_)
    refine S_iadd rfl rfl rfl rfl (by omega) (fun vz9 hvz9 => ?_)
    refine Y_callV (as := [.int vz9]) (st := []) rfl rfl rfl (by decide) rfl (Nat.le_of_ble_eq_true rfl) (by decide) (Nat.le_of_ble_eq_true rfl) rfl ((congrFun V.1 355).trans s_355) (by decide) (C_X13_isPlayedT V vz9 vz9.toInt rfl (by omega) (by
          exact ⟨Int.toNat y1, Int.toNat y2, by omega, by omega, by omega⟩) (by
                have vw := (V.2.2.2.2.2.2.2.1.2.2.2 (Int.toNat y1) (by rw [evz1]; omega) (Int.toNat y2) (by rw [show 873 * Int.toNat y1 = Int.toNat vz2.toInt by omega, evz3]; omega)).1
                rw [show 873 * Int.toNat y1 + 1 + 11 * Int.toNat y2 = Int.toNat vz9.toInt by omega, show Int.toNat vz9.toInt + 1 = Int.toNat (vz9.toInt + 1) by omega] at vw
                exact vw)) ?_
    rintro _ g ⟨vr10, rfl, hrvr100, hrvr101, V, hq, chT⟩
    have hG := hq.trans hG
    have evz1 := (chT).trans evz1
    refine S_if_ne (tgt := 56) rfl rfl rfl rfl (fun vh11 => ?_) (fun vh11 => ?_)
    · refine S_iinc (c := 1) rfl rfl rfl hx2 rfl (by omega) (fun vz12 hvz12 => ?_)
      refine LW_ls (ls' := [some (.ref 355), some (.int x1), some (.int vz12)]) rfl ?_
      refine LW_goto (tgt := 21) rfl rfl ?_
      exact ih21 _ V hG x1 y1 hx1 (by omega) vz12 vz12.toInt rfl (by omega) (by rw [evz1]; omega) (by rw [evz1] <;> omega) (by omega)  (by omega)
    · refine X_iload_n rfl rfl rfl rfl ?_
      have hr := hx2
      exact LW_ireturn (st := []) rfl rfl rfl ⟨_, rfl, by omega, by omega, V, hG⟩
theorem C_X13_played_all {P : Par} {g0 : LH} {d : Nat}  : ∀ n : Nat, (∀ (g : LH) (V : InvR P g) (hG : Gr g = Gr g0) (x1 : Int32) (y1 : Int) (hx1 : x1.toInt = y1) (hf1 : 0 ≤ y1 ∧ y1 ≤ 3) (x2 : Int32) (y2 : Int) (hx2 : x2.toInt = y2) (hf2 : 0 ≤ y2 ∧ y2 ≤ 24) (hc356_4 : 1 ≤ (Gi g 356 4).toInt ∧ (Gi g 356 4).toInt ≤ 4) (hq0 : y1 < (Gi g 356 4).toInt) (hq1 : 0 ≤ y1), (24 - y2) * 1 + 0 < (n : Int) → LW 266 (d + 90) 0 0 21 [some (.ref 355), some (.int x1), some (.int x2)] [] g (fun v g' => ∃ r : Int32, v = some (.int r) ∧ (-2) ≤ r.toInt ∧ r.toInt ≤ 23 ∧ InvR P g' ∧ Gr g' = Gr g0)) := by
  intro n
  induction n with
  | zero => exact fun g V hG x1 y1 hx1 hf1 x2 y2 hx2 hf2 hc356_4 hq0 hq1 hmu => absurd hmu (by omega)
  | succ n ih => exact fun g V hG x1 y1 hx1 hf1 x2 y2 hx2 hf2 hc356_4 hq0 hq1 hmu => C_X13_played_21  V hG x1 y1 hx1 hf1 x2 y2 hx2 hf2 hc356_4 hq0 hq1 (by omega) ih
set_option maxRecDepth 10000 in
set_option maxHeartbeats 40000000 in
theorem C_X13_played {P : Par} {g : LH} {d : Nat}  (V : InvR P g) (x1 : Int32) (y1 : Int) (hx1 : x1.toInt = y1)   : LW 266 (d + 90) 0 0 0 (lEnt (mL 266) [.ref 355, .int x1]) [] g (fun v g' => ∃ r : Int32, v = some (.int r) ∧ (-2) ≤ r.toInt ∧ r.toInt ≤ 23 ∧ InvR P g' ∧ Gr g' = Gr g) := by
  refine LW_ls (ls' := [some (.ref 355), some (.int x1), none]) rfl ?_
  have hG : Gr g = Gr g := rfl
  refine X_iload_n rfl rfl rfl rfl ?_
  refine X_iconst (v := (0 : Int32)) rfl rfl rfl ?_
  refine X_aload_n rfl rfl rfl rfl ?_
  refine X_getR (a := 356) rfl rfl rfl ((congrFun V.1 355).trans s_355) rfl ((congrFun (V.2.1 355 (by decide)) 0).trans r_355_0) ?_
  refine X_iconst (v := (4 : Int32)) rfl rfl rfl ?_
  refine S_iald rfl rfl ((congrFun V.1 356).trans s_356) (show (4 : Int32).toInt = 4 from rfl) (by omega) (fun vz1 evz1 => ?_)
  have evz1 : Gi g 356 4 = vz1 := evz1
  have vf2 := A_TEXTS (V.2.2.2.1 (4)) (by omega)
  rw [evz1] at vf2
  refine X_iconst (v := (1 : Int32)) rfl rfl rfl ?_
  refine S_isub rfl rfl rfl (show (1 : Int32).toInt = 1 from rfl) (by omega) (fun vz3 hvz3 => ?_)
  refine X_callS (as := [.int x1, .int (0 : Int32), .int vz3]) (st := []) rfl rfl rfl (by decide) rfl (Nat.le_of_ble_eq_true rfl) (by decide) (Nat.le_of_ble_eq_true rfl) rfl ?_
  refine LW_ls (ls' := [some (.int x1), some (.int (0 : Int32)), some (.int vz3)]) rfl ?_
  refine X_iload_n rfl rfl rfl rfl ?_
  refine X_iload_n rfl rfl rfl rfl ?_
  refine S_icmp_lt (tgt := 14) rfl rfl rfl hx1 (show (0 : Int32).toInt = 0 from rfl) (fun vh4 => ?_) (fun vh4 => ?_)
  · refine X_iconst (v := (0 : Int32)) rfl rfl rfl ?_
    refine LW_ireturn (st := []) rfl rfl rfl ?_
    refine S_if_ne (tgt := 19) rfl rfl rfl (show (0 : Int32).toInt = 0 from rfl) (fun q => absurd q (by omega)) (fun vh5 => ?_)
    refine X_bipush (v := (-2 : Int32)) rfl rfl rfl ?_
    exact LW_ireturn (st := []) rfl rfl rfl ⟨_, rfl, by decide, by decide, V, hG⟩
  · refine X_iload_n rfl rfl rfl rfl ?_
    refine X_iload_n rfl rfl rfl rfl ?_
    refine S_icmp_gt (tgt := 14) rfl rfl rfl hx1 rfl (fun vh6 => ?_) (fun vh6 => ?_)
    · refine X_iconst (v := (0 : Int32)) rfl rfl rfl ?_
      refine LW_ireturn (st := []) rfl rfl rfl ?_
      refine S_if_ne (tgt := 19) rfl rfl rfl (show (0 : Int32).toInt = 0 from rfl) (fun q => absurd q (by omega)) (fun vh7 => ?_)
      refine X_bipush (v := (-2 : Int32)) rfl rfl rfl ?_
      exact LW_ireturn (st := []) rfl rfl rfl ⟨_, rfl, by decide, by decide, V, hG⟩
    · refine X_iconst (v := (1 : Int32)) rfl rfl rfl ?_
      refine LW_goto (tgt := 15) rfl rfl ?_
      refine LW_ireturn (st := []) rfl rfl rfl ?_
      refine S_if_ne (tgt := 19) rfl rfl rfl (show (1 : Int32).toInt = 1 from rfl) (fun vh8 => ?_) (fun q => absurd q (by omega))
      refine X_iconst (v := (0 : Int32)) rfl rfl rfl ?_
      refine X_istore_n (i := 2) (ls' := [some (.ref 355), some (.int x1), some (.int (0 : Int32))]) rfl rfl rfl (Nat.le_of_ble_eq_true rfl) rfl ?_
      exact (C_X13_played_all (((24 - 0) * 1 + 0) + 1 : Int).toNat) _ V hG x1 y1 hx1 (by omega) (0 : Int32) 0 (show (0 : Int32).toInt = 0 from rfl) (by omega) (by rw [evz1]; omega) (by rw [evz1] <;> omega) (by omega)  (by omega)
