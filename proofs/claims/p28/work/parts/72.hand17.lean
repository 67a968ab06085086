/-! the reference: what a text does leaves the number of texts as it is; played -/
theorem vTrow {k t c m : Nat} {x : Int} (vh : okT k x) (hk : k = 873 * t + 1 + 11 * c + (3 + m)) (vhc : c < 24) (vhm : m < 8) : (-1) ≤ x ∧ x ≤ 25 := by
  have vh1 : k % 873 = 1 + 11 * c + (3 + m) := by
    rw [hk, show 873 * t + 1 + 11 * c + (3 + m) = (1 + 11 * c + (3 + m)) + 873 * t by omega, Nat.add_mul_mod_self_left]
    exact Nat.mod_eq_of_lt (by omega)
  exact vh.2 (by rw [vh1]; omega)
/-- where a clause begins -/
def vIX (x : Int) : Prop := ∃ t c : Nat, t < 4 ∧ c < 24 ∧ x = ((873 * t + 1 + 11 * c : Nat) : Int)
set_option maxRecDepth 10000 in
set_option maxHeartbeats 40000000 in
theorem C_X13_tieT {P : Par} {g : LH} {d : Nat}  (V : InvR P g) (x1 : Int32) (y1 : Int) (hx1 : x1.toInt = y1) (x2 : Int32) (y2 : Int) (hx2 : x2.toInt = y2)   : LW 185 (d + 5) 0 0 0 (lEnt (mL 185) [.ref 355, .int x1, .int x2]) [] g (fun v g' => ∃ r : Int32, v = some (.int r) ∧ 0 ≤ r.toInt ∧ r.toInt ≤ 1 ∧ InvR P g' ∧ Gr g' = Gr g ∧ Gi g' 356 4 = Gi g 356 4) := by
  refine LW_ls (ls' := [some (.ref 355), some (.int x1), some (.int x2)]) rfl ?_
  have hG : Gr g = Gr g := rfl
  have hT : Gi g 356 4 = Gi g 356 4 := rfl
  refine X_iload_n rfl rfl rfl rfl ?_
  refine X_callS (as := [.int x1]) (st := []) rfl rfl rfl (by decide) rfl (Nat.le_of_ble_eq_true rfl) (by decide) (Nat.le_of_ble_eq_true rfl) rfl ?_
  refine LW_ls (ls' := [some (.int x1)]) rfl ?_
  refine X_iload_n rfl rfl rfl rfl ?_
  refine X_iconst (v := (0 : Int32)) rfl rfl rfl ?_
  refine X_bipush (v := (25 : Int32)) rfl rfl rfl ?_
  refine X_callS (as := [.int x1, .int (0 : Int32), .int (25 : Int32)]) (st := []) rfl rfl rfl (by decide) rfl (Nat.le_of_ble_eq_true rfl) (by decide) (Nat.le_of_ble_eq_true rfl) rfl ?_
  refine LW_ls (ls' := [some (.int x1), some (.int (0 : Int32)), some (.int (25 : Int32))]) rfl ?_
  refine X_iload_n rfl rfl rfl rfl ?_
  refine X_iload_n rfl rfl rfl rfl ?_
  refine S_icmp_lt (tgt := 14) rfl rfl rfl hx1 (show (0 : Int32).toInt = 0 from rfl) (fun vh1 => ?_) (fun vh1 => ?_)
  · refine X_iconst (v := (0 : Int32)) rfl rfl rfl ?_
    refine LW_ireturn (st := []) rfl rfl rfl ?_
    refine LW_ireturn (st := []) rfl rfl rfl ?_
    refine S_if_eq (tgt := 35) rfl rfl rfl (show (0 : Int32).toInt = 0 from rfl) (fun vh2 => ?_) (fun q => absurd q (by omega))
    refine X_iconst (v := (0 : Int32)) rfl rfl rfl ?_
    exact LW_ireturn (st := []) rfl rfl rfl ⟨_, rfl, by decide, by decide, V, hG, hT⟩
  · refine X_iload_n rfl rfl rfl rfl ?_
    refine X_iload_n rfl rfl rfl rfl ?_
    refine S_icmp_gt (tgt := 14) rfl rfl rfl hx1 (show (25 : Int32).toInt = 25 from rfl) (fun vh3 => ?_) (fun vh3 => ?_)
    · refine X_iconst (v := (0 : Int32)) rfl rfl rfl ?_
      refine LW_ireturn (st := []) rfl rfl rfl ?_
      refine LW_ireturn (st := []) rfl rfl rfl ?_
      refine S_if_eq (tgt := 35) rfl rfl rfl (show (0 : Int32).toInt = 0 from rfl) (fun vh4 => ?_) (fun q => absurd q (by omega))
      refine X_iconst (v := (0 : Int32)) rfl rfl rfl ?_
      exact LW_ireturn (st := []) rfl rfl rfl ⟨_, rfl, by decide, by decide, V, hG, hT⟩
    · refine X_iconst (v := (1 : Int32)) rfl rfl rfl ?_
      refine LW_goto (tgt := 15) rfl rfl ?_
      refine LW_ireturn (st := []) rfl rfl rfl ?_
      refine LW_ireturn (st := []) rfl rfl rfl ?_
      refine S_if_eq (tgt := 35) rfl rfl rfl (show (1 : Int32).toInt = 1 from rfl) (fun q => absurd q (by omega)) (fun vh5 => ?_)
      refine X_iload_n rfl rfl rfl rfl ?_
      refine X_callS (as := [.int x2]) (st := []) rfl rfl rfl (by decide) rfl (Nat.le_of_ble_eq_true rfl) (by decide) (Nat.le_of_ble_eq_true rfl) rfl ?_
      refine LW_ls (ls' := [some (.int x2)]) rfl ?_
      refine X_iload_n rfl rfl rfl rfl ?_
      refine X_iconst (v := (0 : Int32)) rfl rfl rfl ?_
      refine X_bipush (v := (25 : Int32)) rfl rfl rfl ?_
      refine X_callS (as := [.int x2, .int (0 : Int32), .int (25 : Int32)]) (st := []) rfl rfl rfl (by decide) rfl (Nat.le_of_ble_eq_true rfl) (by decide) (Nat.le_of_ble_eq_true rfl) rfl ?_
      refine LW_ls (ls' := [some (.int x2), some (.int (0 : Int32)), some (.int (25 : Int32))]) rfl ?_
      refine X_iload_n rfl rfl rfl rfl ?_
      refine X_iload_n rfl rfl rfl rfl ?_
      refine S_icmp_lt (tgt := 14) rfl rfl rfl hx2 (show (0 : Int32).toInt = 0 from rfl) (fun vh6 => ?_) (fun vh6 => ?_)
      · refine X_iconst (v := (0 : Int32)) rfl rfl rfl ?_
        refine LW_ireturn (st := []) rfl rfl rfl ?_
        refine LW_ireturn (st := []) rfl rfl rfl ?_
        refine S_if_eq (tgt := 35) rfl rfl rfl (show (0 : Int32).toInt = 0 from rfl) (fun vh7 => ?_) (fun q => absurd q (by omega))
        refine X_iconst (v := (0 : Int32)) rfl rfl rfl ?_
        exact LW_ireturn (st := []) rfl rfl rfl ⟨_, rfl, by decide, by decide, V, hG, hT⟩
      · refine X_iload_n rfl rfl rfl rfl ?_
        refine X_iload_n rfl rfl rfl rfl ?_
        refine S_icmp_gt (tgt := 14) rfl rfl rfl hx2 (show (25 : Int32).toInt = 25 from rfl) (fun vh8 => ?_) (fun vh8 => ?_)
        · refine X_iconst (v := (0 : Int32)) rfl rfl rfl ?_
          refine LW_ireturn (st := []) rfl rfl rfl ?_
          refine LW_ireturn (st := []) rfl rfl rfl ?_
          refine S_if_eq (tgt := 35) rfl rfl rfl (show (0 : Int32).toInt = 0 from rfl) (fun vh9 => ?_) (fun q => absurd q (by omega))
          refine X_iconst (v := (0 : Int32)) rfl rfl rfl ?_
          exact LW_ireturn (st := []) rfl rfl rfl ⟨_, rfl, by decide, by decide, V, hG, hT⟩
        · refine X_iconst (v := (1 : Int32)) rfl rfl rfl ?_
          refine LW_goto (tgt := 15) rfl rfl ?_
          refine LW_ireturn (st := []) rfl rfl rfl ?_
          refine LW_ireturn (st := []) rfl rfl rfl ?_
          refine S_if_eq (tgt := 35) rfl rfl rfl (show (1 : Int32).toInt = 1 from rfl) (fun q => absurd q (by omega)) (fun vh10 => ?_)
          refine X_iload_n rfl rfl rfl rfl ?_
          refine X_iload_n rfl rfl rfl rfl ?_
          refine S_icmp_eq (tgt := 35) rfl rfl rfl hx1 hx2 (fun vh11 => ?_) (fun vh11 => ?_)
          · refine X_iconst (v := (0 : Int32)) rfl rfl rfl ?_
            exact LW_ireturn (st := []) rfl rfl rfl ⟨_, rfl, by decide, by decide, V, hG, hT⟩
          · refine X_aload_n rfl rfl rfl rfl ?_
            refine X_getR (a := 356) rfl rfl rfl ((congrFun V.1 355).trans s_355) rfl ((congrFun (V.2.1 355 (by decide)) 0).trans r_355_0) ?_
            refine X_bipush (v := (90 : Int32)) rfl rfl rfl ?_
            refine X_iload_n rfl rfl rfl rfl ?_
            refine S_iadd rfl rfl (show (90 : Int32).toInt = 90 from rfl) hx1 (by omega) (fun vz12 hvz12 => ?_)
            refine S_iald rfl rfl ((congrFun V.1 356).trans s_356) rfl (by omega) (fun vz13 evz13 => ?_)
            refine X_iload_n rfl rfl rfl rfl ?_
            refine X_callS (as := [.int vz13, .int x2]) (st := []) rfl rfl rfl (by decide) rfl (Nat.le_of_ble_eq_true rfl) (by decide) (Nat.le_of_ble_eq_true rfl) rfl ?_
            refine LW_ls (ls' := [some (.int vz13), some (.int x2)]) rfl ?_
            refine X_iload_n rfl rfl rfl rfl ?_
            refine X_iload_n rfl rfl rfl rfl ?_
            refine S_ishrT rfl rfl (fun vz14 => ?_)
            refine X_iconst (v := (1 : Int32)) rfl rfl rfl ?_
            refine S_iandR (k := 1) rfl rfl rfl (fun vz15 hvz15 => ?_)
            refine X_iconst (v := (1 : Int32)) rfl rfl rfl ?_
            refine S_icmp_ne (tgt := 13) rfl rfl rfl rfl (show (1 : Int32).toInt = 1 from rfl) (fun vh16 => ?_) (fun vh16 => ?_)
            · refine X_iconst (v := (0 : Int32)) rfl rfl rfl ?_
              refine LW_ireturn (st := []) rfl rfl rfl ?_
              refine S_if_eq (tgt := 37) rfl rfl rfl (show (0 : Int32).toInt = 0 from rfl) (fun vh17 => ?_) (fun q => absurd q (by omega))
              refine X_aload_n rfl rfl rfl rfl ?_
              refine X_getR (a := 356) rfl rfl rfl ((congrFun V.1 355).trans s_355) rfl ((congrFun (V.2.1 355 (by decide)) 0).trans r_355_0) ?_
              refine X_bipush (v := (90 : Int32)) rfl rfl rfl ?_
              refine X_iload_n rfl rfl rfl rfl ?_
              refine S_iadd rfl rfl (show (90 : Int32).toInt = 90 from rfl) hx1 (by omega) (fun vz18 hvz18 => ?_)
              refine X_dup2 rfl rfl rfl rfl ?_
              refine S_iald rfl rfl ((congrFun V.1 356).trans s_356) rfl (by omega) (fun vz19 evz19 => ?_)
              refine X_iconst (v := (1 : Int32)) rfl rfl rfl ?_
              refine X_iload_n rfl rfl rfl rfl ?_
              refine S_ishlT rfl rfl (fun vz20 => ?_)
              refine S_iorT rfl rfl (fun vz21 => ?_)
              refine S_iast (I := InvR _) rfl rfl ((congrFun V.1 356).trans s_356) rfl (by omega) (InvR_putA V (by omega) (B_FREE (by omega))) (fun g V ve22 vn23 hq => ?_)
              have hG := hq.trans hG
              have hT := (vn23 356 4 (Or.inr (by omega))).trans hT
              refine X_iconst (v := (1 : Int32)) rfl rfl rfl ?_
              exact LW_ireturn (st := []) rfl rfl rfl ⟨_, rfl, by decide, by decide, V, hG, hT⟩
            · refine X_iconst (v := (1 : Int32)) rfl rfl rfl ?_
              refine LW_goto (tgt := 14) rfl rfl ?_
              refine LW_ireturn (st := []) rfl rfl rfl ?_
              refine S_if_eq (tgt := 37) rfl rfl rfl (show (1 : Int32).toInt = 1 from rfl) (fun q => absurd q (by omega)) (fun vh24 => ?_)
              refine X_iconst (v := (0 : Int32)) rfl rfl rfl ?_
              exact LW_ireturn (st := []) rfl rfl rfl ⟨_, rfl, by decide, by decide, V, hG, hT⟩
set_option maxRecDepth 10000 in
set_option maxHeartbeats 40000000 in
theorem C_X13_wordNowT_42 {P : Par} {g g0 : LH} {d n : Nat}  (V : InvR P g) (hG : Gr g = Gr g0) (hT : Gi g 356 4 = Gi g0 356 4) (x1 : Int32) (y1 : Int) (hx1 : x1.toInt = y1) (x2 : Int32) (y2 : Int) (hx2 : x2.toInt = y2) (hf2 : 116 ≤ y2 ∧ y2 ≤ 346) (x3 : Int32) (y3 : Int) (hx3 : x3.toInt = y3) (hf3 : 0 ≤ y3 ∧ y3 ≤ 8) (hc355_4 : 1 ≤ (Gi g 355 4).toInt ∧ (Gi g 355 4).toInt ≤ 8) (hc356_0 : 0 ≤ (Gi g 356 0).toInt ∧ (Gi g 356 0).toInt ≤ 23) (hq0 : y2 = 116 + 10 * (Gi g 356 0).toInt) (hmu : (8 - y3) * 1 + 0 < (n : Int) + 1) (ih42 : ∀ (g : LH) (V : InvR P g) (hG : Gr g = Gr g0) (hT : Gi g 356 4 = Gi g0 356 4) (x1 : Int32) (y1 : Int) (hx1 : x1.toInt = y1) (x2 : Int32) (y2 : Int) (hx2 : x2.toInt = y2) (hf2 : 116 ≤ y2 ∧ y2 ≤ 346) (x3 : Int32) (y3 : Int) (hx3 : x3.toInt = y3) (hf3 : 0 ≤ y3 ∧ y3 ≤ 8) (hc355_4 : 1 ≤ (Gi g 355 4).toInt ∧ (Gi g 355 4).toInt ≤ 8) (hc356_0 : 0 ≤ (Gi g 356 0).toInt ∧ (Gi g 356 0).toInt ≤ 23) (hq0 : y2 = 116 + 10 * (Gi g 356 0).toInt), (8 - y3) * 1 + 0 < (n : Int) → LW 187 (d + 8) 0 0 42 [some (.ref 355), some (.int x1), some (.int x2), some (.int x3)] [] g (fun v g' => ∃ r : Int32, v = some (.int r) ∧ (-1) ≤ r.toInt ∧ r.toInt ≤ 23 ∧ InvR P g' ∧ Gr g' = Gr g0 ∧ Gi g' 356 4 = Gi g0 356 4)) : LW 187 (d + 8) 0 0 42 [some (.ref 355), some (.int x1), some (.int x2), some (.int x3)] [] g (fun v g' => ∃ r : Int32, v = some (.int r) ∧ (-1) ≤ r.toInt ∧ r.toInt ≤ 23 ∧ InvR P g' ∧ Gr g' = Gr g0 ∧ Gi g' 356 4 = Gi g0 356 4) := by
  obtain ⟨vz1, evz1⟩ : ∃ z, Gi g 355 4 = z := ⟨_, rfl⟩
  rw [evz1] at hc355_4
  obtain ⟨vz2, evz2⟩ : ∃ z, Gi g 356 0 = z := ⟨_, rfl⟩
  rw [evz2] at hc356_0
  rw [evz2] at hq0
  refine X_iload_n rfl rfl rfl rfl ?_
  refine X_bipush (v := (8 : Int32)) rfl rfl rfl ?_
  refine S_icmp_ge (tgt := 80) rfl rfl rfl hx3 (show (8 : Int32).toInt = 8 from rfl) (fun vh3 => ?_) (fun vh3 => ?_)
  · refine X_aload_n rfl rfl rfl rfl ?_
    refine X_getR (a := 356) rfl rfl rfl ((congrFun V.1 355).trans s_355) rfl ((congrFun (V.2.1 355 (by decide)) 0).trans r_355_0) ?_
    refine X_iload_n rfl rfl rfl rfl ?_
    refine X_bipush (v := (8 : Int32)) rfl rfl rfl ?_
    refine S_iadd rfl rfl hx2 (show (8 : Int32).toInt = 8 from rfl) (by omega) (fun vz4 hvz4 => ?_)
    refine X_aload_n rfl rfl rfl rfl ?_
    refine X_getI (v := vz1) rfl rfl rfl ((congrFun V.1 355).trans s_355) rfl evz1 ?_
    refine S_iast (I := InvR _) rfl rfl ((congrFun V.1 356).trans s_356) rfl (by omega) (InvR_putA V (by omega) (B_LENGTH (by omega) (by omega))) (fun g V ve5 vn6 hq => ?_)
    have hG := hq.trans hG
    have hT := (vn6 356 4 (Or.inr (by omega))).trans hT
    have evz1 := (vn6 (355) 4 (Or.inl (by decide))).trans evz1
    have evz2 := (vn6 (356) 0 (Or.inr (by omega))).trans evz2
    refine X_aload_n rfl rfl rfl rfl ?_
    refine X_getR (a := 356) rfl rfl rfl ((congrFun V.1 355).trans s_355) rfl ((congrFun (V.2.1 355 (by decide)) 0).trans r_355_0) ?_
    refine X_iload_n rfl rfl rfl rfl ?_
    refine X_bipush (v := (9 : Int32)) rfl rfl rfl ?_
    refine S_iadd rfl rfl hx2 (show (9 : Int32).toInt = 9 from rfl) (by omega) (fun vz7 hvz7 => ?_)
    refine X_iload_n rfl rfl rfl rfl ?_
    refine S_iast (I := InvR _) rfl rfl ((congrFun V.1 356).trans s_356) rfl (by omega) (InvR_putA V (by omega) (B_FREE (by omega))) (fun g V ve8 vn9 hq => ?_)
    have hG := hq.trans hG
    have hT := (vn9 356 4 (Or.inr (by omega))).trans hT
    have evz1 := (vn9 (355) 4 (Or.inl (by decide))).trans evz1
    have evz2 := (vn9 (356) 0 (Or.inr (by omega))).trans evz2
    refine X_aload_n rfl rfl rfl rfl ?_
    refine X_getR (a := 356) rfl rfl rfl ((congrFun V.1 355).trans s_355) rfl ((congrFun (V.2.1 355 (by decide)) 0).trans r_355_0) ?_
    refine X_iconst (v := (0 : Int32)) rfl rfl rfl ?_
    refine X_dup2 rfl rfl rfl rfl ?_
    refine S_iald_v rfl rfl ((congrFun V.1 356).trans s_356) (show (0 : Int32).toInt = 0 from rfl) (by omega) evz2 ?_
    refine X_iconst (v := (1 : Int32)) rfl rfl rfl ?_
    refine S_iadd rfl rfl rfl (show (1 : Int32).toInt = 1 from rfl) (by omega) (fun vz11 hvz11 => ?_)
    refine S_iast (I := InvR _) rfl rfl ((congrFun V.1 356).trans s_356) (show (0 : Int32).toInt = 0 from rfl) (by omega) (InvR_putA V (by omega) (B_WORDS (by omega) (by omega))) (fun g V ve12 vn13 hq => ?_)
    have hG := hq.trans hG
    have hT := (vn13 356 4 (Or.inr (by decide))).trans hT
    have evz1 := (vn13 (355) 4 (Or.inl (by decide))).trans evz1
    have ve12 : Gi g 356 0 = vz11 := ve12
    refine X_aload_n rfl rfl rfl rfl ?_
    refine X_getR (a := 356) rfl rfl rfl ((congrFun V.1 355).trans s_355) rfl ((congrFun (V.2.1 355 (by decide)) 0).trans r_355_0) ?_
    refine X_iconst (v := (0 : Int32)) rfl rfl rfl ?_
    refine S_iald_v rfl rfl ((congrFun V.1 356).trans s_356) (show (0 : Int32).toInt = 0 from rfl) (by omega) ve12 ?_
    refine X_iconst (v := (1 : Int32)) rfl rfl rfl ?_
    refine S_isub rfl rfl rfl (show (1 : Int32).toInt = 1 from rfl) (by omega) (fun vz15 hvz15 => ?_)
    have hr := (rfl : vz15.toInt = vz15.toInt)
    exact LW_ireturn (st := []) rfl rfl rfl ⟨_, rfl, by omega, by omega, V, hG, hT⟩
  · refine X_aload_n rfl rfl rfl rfl ?_
    refine X_getR (a := 356) rfl rfl rfl ((congrFun V.1 355).trans s_355) rfl ((congrFun (V.2.1 355 (by decide)) 0).trans r_355_0) ?_
    refine X_iload_n rfl rfl rfl rfl ?_
    refine X_iload_n rfl rfl rfl rfl ?_
    refine S_iadd rfl rfl hx2 hx3 (by omega) (fun vz16 hvz16 => ?_)
    refine X_iload_n rfl rfl rfl rfl ?_
    refine X_aload_n rfl rfl rfl rfl ?_
    refine X_getI (v := vz1) rfl rfl rfl ((congrFun V.1 355).trans s_355) rfl evz1 ?_
    refine S_icmp_ge (tgt := 72) rfl rfl rfl hx3 rfl (fun vh17 => ?_) (fun vh17 => ?_)
    · refine X_iconst (v := (0 : Int32)) rfl rfl rfl ?_
      refine S_iast (I := InvR _) rfl rfl ((congrFun V.1 356).trans s_356) rfl (by omega) (InvR_putA V (by omega) (B_LETTER (by omega) (by decide))) (fun g V ve18 vn19 hq => ?_)
      have hG := hq.trans hG
      have hT := (vn19 356 4 (Or.inr (by omega))).trans hT
      have evz1 := (vn19 (355) 4 (Or.inl (by decide))).trans evz1
      have evz2 := (vn19 (356) 0 (Or.inr (by omega))).trans evz2
      refine S_iinc (c := 1) rfl rfl rfl hx3 rfl (by omega) (fun vz20 hvz20 => ?_)
      refine LW_ls (ls' := [some (.ref 355), some (.int x1), some (.int x2), some (.int vz20)]) rfl ?_
      refine LW_goto (tgt := 42) rfl rfl ?_
      exact ih42 _ V hG hT x1 y1 hx1 x2 y2 hx2 (by omega) vz20 vz20.toInt rfl (by omega) (by rw [evz1]; omega) (by rw [evz2]; omega) (by rw [evz2] <;> omega)  (by omega)
    · refine X_aload_n rfl rfl rfl rfl ?_
      refine X_getR (a := 359) rfl rfl rfl ((congrFun V.1 355).trans s_355) rfl ((congrFun (V.2.1 355 (by decide)) 3).trans r_355_3) ?_
      refine X_iload_n rfl rfl rfl rfl ?_
      refine S_iald rfl rfl ((congrFun V.1 359).trans s_359) hx3 (by omega) (fun vz21 evz21 => ?_)
      have vf22 := O_359 (V.2.2.2.2.2.2.1 359 ((y3 : Int).toNat) (Nat.le_of_ble_eq_true rfl))
      rw [evz21] at vf22
      refine LW_goto (tgt := 73) rfl rfl ?_
      refine S_iast (I := InvR _) rfl rfl ((congrFun V.1 356).trans s_356) rfl (by omega) (InvR_putA V (by omega) (B_LETTER (by omega) (by omega))) (fun g V ve23 vn24 hq => ?_)
      have hG := hq.trans hG
      have hT := (vn24 356 4 (Or.inr (by omega))).trans hT
      have evz1 := (vn24 (355) 4 (Or.inl (by decide))).trans evz1
      have evz2 := (vn24 (356) 0 (Or.inr (by omega))).trans evz2
      have evz21 := (vn24 (359) ((y3 : Int).toNat) (Or.inl (by decide))).trans evz21
      refine S_iinc (c := 1) rfl rfl rfl hx3 rfl (by omega) (fun vz25 hvz25 => ?_)
      refine LW_ls (ls' := [some (.ref 355), some (.int x1), some (.int x2), some (.int vz25)]) rfl ?_
      refine LW_goto (tgt := 42) rfl rfl ?_
      exact ih42 _ V hG hT x1 y1 hx1 x2 y2 hx2 (by omega) vz25 vz25.toInt rfl (by omega) (by rw [evz1]; omega) (by rw [evz2]; omega) (by rw [evz2] <;> omega)  (by omega)
theorem C_X13_wordNowT_all {P : Par} {g0 : LH} {d : Nat}  : ∀ n : Nat, (∀ (g : LH) (V : InvR P g) (hG : Gr g = Gr g0) (hT : Gi g 356 4 = Gi g0 356 4) (x1 : Int32) (y1 : Int) (hx1 : x1.toInt = y1) (x2 : Int32) (y2 : Int) (hx2 : x2.toInt = y2) (hf2 : 116 ≤ y2 ∧ y2 ≤ 346) (x3 : Int32) (y3 : Int) (hx3 : x3.toInt = y3) (hf3 : 0 ≤ y3 ∧ y3 ≤ 8) (hc355_4 : 1 ≤ (Gi g 355 4).toInt ∧ (Gi g 355 4).toInt ≤ 8) (hc356_0 : 0 ≤ (Gi g 356 0).toInt ∧ (Gi g 356 0).toInt ≤ 23) (hq0 : y2 = 116 + 10 * (Gi g 356 0).toInt), (8 - y3) * 1 + 0 < (n : Int) → LW 187 (d + 8) 0 0 42 [some (.ref 355), some (.int x1), some (.int x2), some (.int x3)] [] g (fun v g' => ∃ r : Int32, v = some (.int r) ∧ (-1) ≤ r.toInt ∧ r.toInt ≤ 23 ∧ InvR P g' ∧ Gr g' = Gr g0 ∧ Gi g' 356 4 = Gi g0 356 4)) := by
  intro n
  induction n with
  | zero => exact fun g V hG hT x1 y1 hx1 x2 y2 hx2 hf2 x3 y3 hx3 hf3 hc355_4 hc356_0 hq0 hmu => absurd hmu (by omega)
  | succ n ih => exact fun g V hG hT x1 y1 hx1 x2 y2 hx2 hf2 x3 y3 hx3 hf3 hc355_4 hc356_0 hq0 hmu => C_X13_wordNowT_42  V hG hT x1 y1 hx1 x2 y2 hx2 hf2 x3 y3 hx3 hf3 hc355_4 hc356_0 hq0 (by omega) ih
set_option maxRecDepth 10000 in
set_option maxHeartbeats 40000000 in
theorem C_X13_wordNowT {P : Par} {g : LH} {d : Nat}  (V : InvR P g) (x1 : Int32) (y1 : Int) (hx1 : x1.toInt = y1)   : LW 187 (d + 8) 0 0 0 (lEnt (mL 187) [.ref 355, .int x1]) [] g (fun v g' => ∃ r : Int32, v = some (.int r) ∧ (-1) ≤ r.toInt ∧ r.toInt ≤ 23 ∧ InvR P g' ∧ Gr g' = Gr g ∧ Gi g' 356 4 = Gi g 356 4) := by
  refine LW_ls (ls' := [some (.ref 355), some (.int x1), none, none]) rfl ?_
  have hG : Gr g = Gr g := rfl
  have hT : Gi g 356 4 = Gi g 356 4 := rfl
  refine X_aload_n rfl rfl rfl rfl ?_
  refine S_getI rfl rfl rfl ((congrFun V.1 355).trans s_355) rfl (fun vz1 evz1 => ?_)
  have vf2 := O_355_4 (V.2.2.2.2.2.2.1 355 (4) (Nat.le_of_ble_eq_true rfl))
  rw [evz1] at vf2
  refine S_if_eq (tgt := 25) rfl rfl rfl rfl (fun vh3 => ?_) (fun vh3 => ?_)
  · refine X_iconst (v := (-1 : Int32)) rfl rfl rfl ?_
    exact LW_ireturn (st := []) rfl rfl rfl ⟨_, rfl, by decide, by decide, V, hG, hT⟩
  · refine X_aload_n rfl rfl rfl rfl ?_
    refine Y_callV (as := []) (st := []) rfl rfl rfl (by decide) rfl (Nat.le_of_ble_eq_true rfl) (by decide) (Nat.le_of_ble_eq_true rfl) rfl ((congrFun V.1 355).trans s_355) (by decide) (C_X13_isTold V  ) ?_
    rintro _ g' ⟨vr4, rfl, hrvr40, hrvr41, hgg⟩
    subst hgg
    refine S_if_ne (tgt := 25) rfl rfl rfl rfl (fun vh5 => ?_) (fun vh5 => ?_)
    · refine X_iconst (v := (-1 : Int32)) rfl rfl rfl ?_
      exact LW_ireturn (st := []) rfl rfl rfl ⟨_, rfl, by decide, by decide, V, hG, hT⟩
    · refine X_aload_n rfl rfl rfl rfl ?_
      refine X_getR (a := 356) rfl rfl rfl ((congrFun V.1 355).trans s_355) rfl ((congrFun (V.2.1 355 (by decide)) 0).trans r_355_0) ?_
      refine X_iconst (v := (0 : Int32)) rfl rfl rfl ?_
      refine S_iald rfl rfl ((congrFun V.1 356).trans s_356) (show (0 : Int32).toInt = 0 from rfl) (by omega) (fun vz6 evz6 => ?_)
      have evz6 : Gi g 356 0 = vz6 := evz6
      have vf7 := A_WORDS (V.2.2.2.1 (0)) (by omega)
      rw [evz6] at vf7
      refine X_bipush (v := (24 : Int32)) rfl rfl rfl ?_
      refine S_icmp_ne (tgt := 27) rfl rfl rfl rfl (show (24 : Int32).toInt = 24 from rfl) (fun vh8 => ?_) (fun vh8 => ?_)
      · refine X_bipush (v := (116 : Int32)) rfl rfl rfl ?_
        refine X_bipush (v := (10 : Int32)) rfl rfl rfl ?_
        refine X_aload_n rfl rfl rfl rfl ?_
        refine X_getR (a := 356) rfl rfl rfl ((congrFun V.1 355).trans s_355) rfl ((congrFun (V.2.1 355 (by decide)) 0).trans r_355_0) ?_
        refine X_iconst (v := (0 : Int32)) rfl rfl rfl ?_
        refine S_iald_v rfl rfl ((congrFun V.1 356).trans s_356) (show (0 : Int32).toInt = 0 from rfl) (by omega) evz6 ?_
        refine S_imul rfl rfl (show (10 : Int32).toInt = 10 from rfl) rfl (by omega) (fun vz10 hvz10 => ?_)
        refine S_iadd rfl rfl (show (116 : Int32).toInt = 116 from rfl) rfl (by omega) (fun vz11 hvz11 => ?_)
        refine X_istore_n (i := 2) (ls' := [some (.ref 355), some (.int x1), some (.int vz11), none]) rfl rfl rfl (Nat.le_of_ble_eq_true rfl) rfl ?_
        refine X_iconst (v := (0 : Int32)) rfl rfl rfl ?_
        refine X_istore_n (i := 3) (ls' := [some (.ref 355), some (.int x1), some (.int vz11), some (.int (0 : Int32))]) rfl rfl rfl (Nat.le_of_ble_eq_true rfl) rfl ?_
        exact (C_X13_wordNowT_all (((8 - 0) * 1 + 0) + 1 : Int).toNat) _ V hG hT x1 y1 hx1 vz11 vz11.toInt rfl (by omega) (0 : Int32) 0 (show (0 : Int32).toInt = 0 from rfl) (by omega) (by rw [evz1]; omega) (by rw [evz6]; omega) (by rw [evz6] <;> omega)  (by omega)
      · refine X_iconst (v := (-1 : Int32)) rfl rfl rfl ?_
        exact LW_ireturn (st := []) rfl rfl rfl ⟨_, rfl, by decide, by decide, V, hG, hT⟩
set_option maxRecDepth 10000 in
set_option maxHeartbeats 40000000 in
theorem C_X13_sayNowT_39 {P : Par} {g g0 : LH} {d n : Nat}  (V : InvR P g) (hG : Gr g = Gr g0) (hT : Gi g 356 4 = Gi g0 356 4) (x1 : Int32) (y1 : Int) (hx1 : x1.toInt = y1) (hf1 : 356 ≤ y1 ∧ y1 ≤ 419) (x2 : Int32) (y2 : Int) (hx2 : x2.toInt = y2) (hf2 : 0 ≤ y2 ∧ y2 ≤ 8) (hc355_6 : 0 ≤ (Gi g 355 6).toInt ∧ (Gi g 355 6).toInt ≤ 8) (hc356_1 : 0 ≤ (Gi g 356 1).toInt ∧ (Gi g 356 1).toInt ≤ 7) (hq0 : y1 = 356 + 9 * (Gi g 356 1).toInt) (hmu : (8 - y2) * 1 + 0 < (n : Int) + 1) (ih39 : ∀ (g : LH) (V : InvR P g) (hG : Gr g = Gr g0) (hT : Gi g 356 4 = Gi g0 356 4) (x1 : Int32) (y1 : Int) (hx1 : x1.toInt = y1) (hf1 : 356 ≤ y1 ∧ y1 ≤ 419) (x2 : Int32) (y2 : Int) (hx2 : x2.toInt = y2) (hf2 : 0 ≤ y2 ∧ y2 ≤ 8) (hc355_6 : 0 ≤ (Gi g 355 6).toInt ∧ (Gi g 355 6).toInt ≤ 8) (hc356_1 : 0 ≤ (Gi g 356 1).toInt ∧ (Gi g 356 1).toInt ≤ 7) (hq0 : y1 = 356 + 9 * (Gi g 356 1).toInt), (8 - y2) * 1 + 0 < (n : Int) → LW 190 (d + 3) 0 0 39 [some (.ref 355), some (.int x1), some (.int x2)] [] g (fun v g' => ∃ r : Int32, v = some (.int r) ∧ (-1) ≤ r.toInt ∧ r.toInt ≤ 7 ∧ InvR P g' ∧ Gr g' = Gr g0 ∧ Gi g' 356 4 = Gi g0 356 4)) : LW 190 (d + 3) 0 0 39 [some (.ref 355), some (.int x1), some (.int x2)] [] g (fun v g' => ∃ r : Int32, v = some (.int r) ∧ (-1) ≤ r.toInt ∧ r.toInt ≤ 7 ∧ InvR P g' ∧ Gr g' = Gr g0 ∧ Gi g' 356 4 = Gi g0 356 4) := by
  obtain ⟨vz1, evz1⟩ : ∃ z, Gi g 355 6 = z := ⟨_, rfl⟩
  rw [evz1] at hc355_6
  obtain ⟨vz2, evz2⟩ : ∃ z, Gi g 356 1 = z := ⟨_, rfl⟩
  rw [evz2] at hc356_1
  rw [evz2] at hq0
  refine X_iload_n rfl rfl rfl rfl ?_
  refine X_aload_n rfl rfl rfl rfl ?_
  refine X_getI (v := vz1) rfl rfl rfl ((congrFun V.1 355).trans s_355) rfl evz1 ?_
  refine S_icmp_ge (tgt := 69) rfl rfl rfl hx2 rfl (fun vh3 => ?_) (fun vh3 => ?_)
  · refine X_aload_n rfl rfl rfl rfl ?_
    refine X_getR (a := 356) rfl rfl rfl ((congrFun V.1 355).trans s_355) rfl ((congrFun (V.2.1 355 (by decide)) 0).trans r_355_0) ?_
    refine X_iconst (v := (1 : Int32)) rfl rfl rfl ?_
    refine X_dup2 rfl rfl rfl rfl ?_
    refine S_iald_v rfl rfl ((congrFun V.1 356).trans s_356) (show (1 : Int32).toInt = 1 from rfl) (by omega) evz2 ?_
    refine X_iconst (v := (1 : Int32)) rfl rfl rfl ?_
    refine S_iadd rfl rfl rfl (show (1 : Int32).toInt = 1 from rfl) (by omega) (fun vz5 hvz5 => ?_)
    refine S_iast (I := InvR _) rfl rfl ((congrFun V.1 356).trans s_356) (show (1 : Int32).toInt = 1 from rfl) (by omega) (InvR_putA V (by omega) (B_SAYS (by omega) (by omega))) (fun g V ve6 vn7 hq => ?_)
    have hG := hq.trans hG
    have hT := (vn7 356 4 (Or.inr (by decide))).trans hT
    have evz1 := (vn7 (355) 6 (Or.inl (by decide))).trans evz1
    have ve6 : Gi g 356 1 = vz5 := ve6
    refine X_aload_n rfl rfl rfl rfl ?_
    refine X_getR (a := 356) rfl rfl rfl ((congrFun V.1 355).trans s_355) rfl ((congrFun (V.2.1 355 (by decide)) 0).trans r_355_0) ?_
    refine X_iconst (v := (1 : Int32)) rfl rfl rfl ?_
    refine S_iald_v rfl rfl ((congrFun V.1 356).trans s_356) (show (1 : Int32).toInt = 1 from rfl) (by omega) ve6 ?_
    refine X_iconst (v := (1 : Int32)) rfl rfl rfl ?_
    refine S_isub rfl rfl rfl (show (1 : Int32).toInt = 1 from rfl) (by omega) (fun vz9 hvz9 => ?_)
    have hr := (rfl : vz9.toInt = vz9.toInt)
    exact LW_ireturn (st := []) rfl rfl rfl ⟨_, rfl, by omega, by omega, V, hG, hT⟩
  · refine X_aload_n rfl rfl rfl rfl ?_
    refine X_getR (a := 356) rfl rfl rfl ((congrFun V.1 355).trans s_355) rfl ((congrFun (V.2.1 355 (by decide)) 0).trans r_355_0) ?_
    refine X_iload_n rfl rfl rfl rfl ?_
    refine X_iconst (v := (1 : Int32)) rfl rfl rfl ?_
    refine S_iadd rfl rfl hx1 (show (1 : Int32).toInt = 1 from rfl) (by omega) (fun vz10 hvz10 => ?_)
    refine X_iload_n rfl rfl rfl rfl ?_
    refine S_iadd rfl rfl rfl hx2 (by omega) (fun vz11 hvz11 => ?_)
    refine X_aload_n rfl rfl rfl rfl ?_
    refine X_getR (a := 360) rfl rfl rfl ((congrFun V.1 355).trans s_355) rfl ((congrFun (V.2.1 355 (by decide)) 5).trans r_355_5) ?_
    refine X_iload_n rfl rfl rfl rfl ?_
    refine S_iald rfl rfl ((congrFun V.1 360).trans s_360) hx2 (by omega) (fun vz12 evz12 => ?_)
    refine S_iast (I := InvR _) rfl rfl ((congrFun V.1 356).trans s_356) rfl (by omega) (InvR_putA V (by omega) (B_FREE (by omega))) (fun g V ve13 vn14 hq => ?_)
    have hG := hq.trans hG
    have hT := (vn14 356 4 (Or.inr (by omega))).trans hT
    have evz1 := (vn14 (355) 6 (Or.inl (by decide))).trans evz1
    have evz2 := (vn14 (356) 1 (Or.inr (by omega))).trans evz2
    have evz12 := (vn14 (360) ((y2 : Int).toNat) (Or.inl (by decide))).trans evz12
    refine S_iinc (c := 1) rfl rfl rfl hx2 rfl (by omega) (fun vz15 hvz15 => ?_)
    refine LW_ls (ls' := [some (.ref 355), some (.int x1), some (.int vz15)]) rfl ?_
    refine LW_goto (tgt := 39) rfl rfl ?_
    exact ih39 _ V hG hT x1 y1 hx1 (by omega) vz15 vz15.toInt rfl (by omega) (by rw [evz1]; omega) (by rw [evz2]; omega) (by rw [evz2] <;> omega)  (by omega)
theorem C_X13_sayNowT_all {P : Par} {g0 : LH} {d : Nat}  : ∀ n : Nat, (∀ (g : LH) (V : InvR P g) (hG : Gr g = Gr g0) (hT : Gi g 356 4 = Gi g0 356 4) (x1 : Int32) (y1 : Int) (hx1 : x1.toInt = y1) (hf1 : 356 ≤ y1 ∧ y1 ≤ 419) (x2 : Int32) (y2 : Int) (hx2 : x2.toInt = y2) (hf2 : 0 ≤ y2 ∧ y2 ≤ 8) (hc355_6 : 0 ≤ (Gi g 355 6).toInt ∧ (Gi g 355 6).toInt ≤ 8) (hc356_1 : 0 ≤ (Gi g 356 1).toInt ∧ (Gi g 356 1).toInt ≤ 7) (hq0 : y1 = 356 + 9 * (Gi g 356 1).toInt), (8 - y2) * 1 + 0 < (n : Int) → LW 190 (d + 3) 0 0 39 [some (.ref 355), some (.int x1), some (.int x2)] [] g (fun v g' => ∃ r : Int32, v = some (.int r) ∧ (-1) ≤ r.toInt ∧ r.toInt ≤ 7 ∧ InvR P g' ∧ Gr g' = Gr g0 ∧ Gi g' 356 4 = Gi g0 356 4)) := by
  intro n
  induction n with
  | zero => exact fun g V hG hT x1 y1 hx1 hf1 x2 y2 hx2 hf2 hc355_6 hc356_1 hq0 hmu => absurd hmu (by omega)
  | succ n ih => exact fun g V hG hT x1 y1 hx1 hf1 x2 y2 hx2 hf2 hc355_6 hc356_1 hq0 hmu => C_X13_sayNowT_39  V hG hT x1 y1 hx1 hf1 x2 y2 hx2 hf2 hc355_6 hc356_1 hq0 (by omega) ih
set_option maxRecDepth 10000 in
set_option maxHeartbeats 40000000 in
theorem C_X13_sayNowT {P : Par} {g : LH} {d : Nat}  (V : InvR P g)    : LW 190 (d + 3) 0 0 0 (lEnt (mL 190) [.ref 355]) [] g (fun v g' => ∃ r : Int32, v = some (.int r) ∧ (-1) ≤ r.toInt ∧ r.toInt ≤ 7 ∧ InvR P g' ∧ Gr g' = Gr g ∧ Gi g' 356 4 = Gi g 356 4) := by
  refine LW_ls (ls' := [some (.ref 355), none, none]) rfl ?_
  have hG : Gr g = Gr g := rfl
  have hT : Gi g 356 4 = Gi g 356 4 := rfl
  refine X_aload_n rfl rfl rfl rfl ?_
  refine X_getR (a := 356) rfl rfl rfl ((congrFun V.1 355).trans s_355) rfl ((congrFun (V.2.1 355 (by decide)) 0).trans r_355_0) ?_
  refine X_iconst (v := (1 : Int32)) rfl rfl rfl ?_
  refine S_iald rfl rfl ((congrFun V.1 356).trans s_356) (show (1 : Int32).toInt = 1 from rfl) (by omega) (fun vz1 evz1 => ?_)
  have evz1 : Gi g 356 1 = vz1 := evz1
  have vf2 := A_SAYS (V.2.2.2.1 (1)) (by omega)
  rw [evz1] at vf2
  refine X_bipush (v := (8 : Int32)) rfl rfl rfl ?_
  refine S_icmp_ne (tgt := 13) rfl rfl rfl rfl (show (8 : Int32).toInt = 8 from rfl) (fun vh3 => ?_) (fun vh3 => ?_)
  · refine X_sipush (v := (356 : Int32)) rfl rfl rfl ?_
    refine X_bipush (v := (9 : Int32)) rfl rfl rfl ?_
    refine X_aload_n rfl rfl rfl rfl ?_
    refine X_getR (a := 356) rfl rfl rfl ((congrFun V.1 355).trans s_355) rfl ((congrFun (V.2.1 355 (by decide)) 0).trans r_355_0) ?_
    refine X_iconst (v := (1 : Int32)) rfl rfl rfl ?_
    refine S_iald_v rfl rfl ((congrFun V.1 356).trans s_356) (show (1 : Int32).toInt = 1 from rfl) (by omega) evz1 ?_
    refine S_imul rfl rfl (show (9 : Int32).toInt = 9 from rfl) rfl (by omega) (fun vz5 hvz5 => ?_)
    refine S_iadd rfl rfl (show (356 : Int32).toInt = 356 from rfl) rfl (by omega) (fun vz6 hvz6 => ?_)
    refine X_istore_n (i := 1) (ls' := [some (.ref 355), some (.int vz6), none]) rfl rfl rfl (Nat.le_of_ble_eq_true rfl) rfl ?_
    refine X_aload_n rfl rfl rfl rfl ?_
    refine X_getR (a := 356) rfl rfl rfl ((congrFun V.1 355).trans s_355) rfl ((congrFun (V.2.1 355 (by decide)) 0).trans r_355_0) ?_
    refine X_iload_n rfl rfl rfl rfl ?_
    refine X_aload_n rfl rfl rfl rfl ?_
    refine S_getI rfl rfl rfl ((congrFun V.1 355).trans s_355) rfl (fun vz7 evz7 => ?_)
    have vf8 := O_355_6 (V.2.2.2.2.2.2.1 355 (6) (Nat.le_of_ble_eq_true rfl))
    rw [evz7] at vf8
    refine S_iast (I := InvR _) rfl rfl ((congrFun V.1 356).trans s_356) rfl (by omega) (InvR_putA V (by omega) (B_SCOUNT (by omega) (by omega))) (fun g V ve9 vn10 hq => ?_)
    have hG := hq.trans hG
    have hT := (vn10 356 4 (Or.inr (by omega))).trans hT
    have evz1 := (vn10 (356) 1 (Or.inr (by omega))).trans evz1
    have evz7 := (vn10 (355) 6 (Or.inl (by decide))).trans evz7
    refine X_iconst (v := (0 : Int32)) rfl rfl rfl ?_
    refine X_istore_n (i := 2) (ls' := [some (.ref 355), some (.int vz6), some (.int (0 : Int32))]) rfl rfl rfl (Nat.le_of_ble_eq_true rfl) rfl ?_
    exact (C_X13_sayNowT_all (((8 - 0) * 1 + 0) + 1 : Int).toNat) _ V hG hT vz6 vz6.toInt rfl (by omega) (0 : Int32) 0 (show (0 : Int32).toInt = 0 from rfl) (by omega) (by rw [evz7]; omega) (by rw [evz1]; omega) (by rw [evz1] <;> omega)  (by omega)
  · refine X_iconst (v := (-1 : Int32)) rfl rfl rfl ?_
    exact LW_ireturn (st := []) rfl rfl rfl ⟨_, rfl, by decide, by decide, V, hG, hT⟩
set_option maxRecDepth 10000 in
set_option maxHeartbeats 40000000 in
theorem C_X13_raiseT {P : Par} {g : LH} {d : Nat}  (V : InvR P g) (x1 : Int32) (y1 : Int) (hx1 : x1.toInt = y1) (x2 : Int32) (y2 : Int) (hx2 : x2.toInt = y2)   : LW 253 (d + 9) 0 0 0 (lEnt (mL 253) [.ref 355, .int x1, .int x2]) [] g (fun v g' => ∃ r : Int32, v = some (.int r) ∧ 0 ≤ r.toInt ∧ r.toInt ≤ 1 ∧ InvR P g' ∧ Gr g' = Gr g ∧ Gi g' 356 4 = Gi g 356 4) := by
  refine LW_ls (ls' := [some (.ref 355), some (.int x1), some (.int x2)]) rfl ?_
  have hG : Gr g = Gr g := rfl
  have hT : Gi g 356 4 = Gi g 356 4 := rfl
  refine X_iload_n rfl rfl rfl rfl ?_
  refine X_callS (as := [.int x1]) (st := []) rfl rfl rfl (by decide) rfl (Nat.le_of_ble_eq_true rfl) (by decide) (Nat.le_of_ble_eq_true rfl) rfl ?_
  refine LW_ls (ls' := [some (.int x1)]) rfl ?_
  refine X_iload_n rfl rfl rfl rfl ?_
  refine X_iconst (v := (0 : Int32)) rfl rfl rfl ?_
  refine X_bipush (v := (25 : Int32)) rfl rfl rfl ?_
  refine X_callS (as := [.int x1, .int (0 : Int32), .int (25 : Int32)]) (st := []) rfl rfl rfl (by decide) rfl (Nat.le_of_ble_eq_true rfl) (by decide) (Nat.le_of_ble_eq_true rfl) rfl ?_
  refine LW_ls (ls' := [some (.int x1), some (.int (0 : Int32)), some (.int (25 : Int32))]) rfl ?_
  refine X_iload_n rfl rfl rfl rfl ?_
  refine X_iload_n rfl rfl rfl rfl ?_
  refine S_icmp_lt (tgt := 14) rfl rfl rfl hx1 (show (0 : Int32).toInt = 0 from rfl) (fun vh1 => ?_) (fun vh1 => ?_)
  · refine X_iconst (v := (0 : Int32)) rfl rfl rfl ?_
    refine LW_ireturn (st := []) rfl rfl rfl ?_
    refine LW_ireturn (st := []) rfl rfl rfl ?_
    refine S_if_eq (tgt := 30) rfl rfl rfl (show (0 : Int32).toInt = 0 from rfl) (fun vh2 => ?_) (fun q => absurd q (by omega))
    refine X_iconst (v := (0 : Int32)) rfl rfl rfl ?_
    exact LW_ireturn (st := []) rfl rfl rfl ⟨_, rfl, by decide, by decide, V, hG, hT⟩
  · refine X_iload_n rfl rfl rfl rfl ?_
    refine X_iload_n rfl rfl rfl rfl ?_
    refine S_icmp_gt (tgt := 14) rfl rfl rfl hx1 (show (25 : Int32).toInt = 25 from rfl) (fun vh3 => ?_) (fun vh3 => ?_)
    · refine X_iconst (v := (0 : Int32)) rfl rfl rfl ?_
      refine LW_ireturn (st := []) rfl rfl rfl ?_
      refine LW_ireturn (st := []) rfl rfl rfl ?_
      refine S_if_eq (tgt := 30) rfl rfl rfl (show (0 : Int32).toInt = 0 from rfl) (fun vh4 => ?_) (fun q => absurd q (by omega))
      refine X_iconst (v := (0 : Int32)) rfl rfl rfl ?_
      exact LW_ireturn (st := []) rfl rfl rfl ⟨_, rfl, by decide, by decide, V, hG, hT⟩
    · refine X_iconst (v := (1 : Int32)) rfl rfl rfl ?_
      refine LW_goto (tgt := 15) rfl rfl ?_
      refine LW_ireturn (st := []) rfl rfl rfl ?_
      refine LW_ireturn (st := []) rfl rfl rfl ?_
      refine S_if_eq (tgt := 30) rfl rfl rfl (show (1 : Int32).toInt = 1 from rfl) (fun q => absurd q (by omega)) (fun vh5 => ?_)
      refine X_iload_n rfl rfl rfl rfl ?_
      refine X_iconst (v := (0 : Int32)) rfl rfl rfl ?_
      refine X_bipush (v := (99 : Int32)) rfl rfl rfl ?_
      refine X_callS (as := [.int x2, .int (0 : Int32), .int (99 : Int32)]) (st := []) rfl rfl rfl (by decide) rfl (Nat.le_of_ble_eq_true rfl) (by decide) (Nat.le_of_ble_eq_true rfl) rfl ?_
      refine LW_ls (ls' := [some (.int x2), some (.int (0 : Int32)), some (.int (99 : Int32))]) rfl ?_
      refine X_iload_n rfl rfl rfl rfl ?_
      refine X_iload_n rfl rfl rfl rfl ?_
      refine S_icmp_lt (tgt := 14) rfl rfl rfl hx2 (show (0 : Int32).toInt = 0 from rfl) (fun vh6 => ?_) (fun vh6 => ?_)
      · refine X_iconst (v := (0 : Int32)) rfl rfl rfl ?_
        refine LW_ireturn (st := []) rfl rfl rfl ?_
        refine S_if_eq (tgt := 30) rfl rfl rfl (show (0 : Int32).toInt = 0 from rfl) (fun vh7 => ?_) (fun q => absurd q (by omega))
        refine X_iconst (v := (0 : Int32)) rfl rfl rfl ?_
        exact LW_ireturn (st := []) rfl rfl rfl ⟨_, rfl, by decide, by decide, V, hG, hT⟩
      · refine X_iload_n rfl rfl rfl rfl ?_
        refine X_iload_n rfl rfl rfl rfl ?_
        refine S_icmp_gt (tgt := 14) rfl rfl rfl hx2 (show (99 : Int32).toInt = 99 from rfl) (fun vh8 => ?_) (fun vh8 => ?_)
        · refine X_iconst (v := (0 : Int32)) rfl rfl rfl ?_
          refine LW_ireturn (st := []) rfl rfl rfl ?_
          refine S_if_eq (tgt := 30) rfl rfl rfl (show (0 : Int32).toInt = 0 from rfl) (fun vh9 => ?_) (fun q => absurd q (by omega))
          refine X_iconst (v := (0 : Int32)) rfl rfl rfl ?_
          exact LW_ireturn (st := []) rfl rfl rfl ⟨_, rfl, by decide, by decide, V, hG, hT⟩
        · refine X_iconst (v := (1 : Int32)) rfl rfl rfl ?_
          refine LW_goto (tgt := 15) rfl rfl ?_
          refine LW_ireturn (st := []) rfl rfl rfl ?_
          refine S_if_eq (tgt := 30) rfl rfl rfl (show (1 : Int32).toInt = 1 from rfl) (fun q => absurd q (by omega)) (fun vh10 => ?_)
          refine X_aload_n rfl rfl rfl rfl ?_
          refine X_getR (a := 356) rfl rfl rfl ((congrFun V.1 355).trans s_355) rfl ((congrFun (V.2.1 355 (by decide)) 0).trans r_355_0) ?_
          refine X_bipush (v := (12 : Int32)) rfl rfl rfl ?_
          refine X_iload_n rfl rfl rfl rfl ?_
          refine S_iadd rfl rfl (show (12 : Int32).toInt = 12 from rfl) hx1 (by omega) (fun vz11 hvz11 => ?_)
          refine S_iald rfl rfl ((congrFun V.1 356).trans s_356) rfl (by omega) (fun vz12 evz12 => ?_)
          refine X_iload_n rfl rfl rfl rfl ?_
          refine S_icmp_ne (tgt := 32) rfl rfl rfl rfl hx2 (fun vh13 => ?_) (fun vh13 => ?_)
          · refine X_aload_n rfl rfl rfl rfl ?_
            refine Y_callV (as := []) (st := []) rfl rfl rfl (by decide) rfl (Nat.le_of_ble_eq_true rfl) (by decide) (Nat.le_of_ble_eq_true rfl) rfl ((congrFun V.1 355).trans s_355) (by decide) (C_X13_keep V  ) ?_
            rintro _ g ⟨rfl, V, hq, chF⟩
            have hG := hq.trans hG
            have hT := (chF 4 (by omega) (by omega)).trans hT
            refine X_aload_n rfl rfl rfl rfl ?_
            refine X_getR (a := 356) rfl rfl rfl ((congrFun V.1 355).trans s_355) rfl ((congrFun (V.2.1 355 (by decide)) 0).trans r_355_0) ?_
            refine X_bipush (v := (12 : Int32)) rfl rfl rfl ?_
            refine X_iload_n rfl rfl rfl rfl ?_
            refine S_iadd rfl rfl (show (12 : Int32).toInt = 12 from rfl) hx1 (by omega) (fun vz15 hvz15 => ?_)
            refine X_iload_n rfl rfl rfl rfl ?_
            refine S_iast (I := InvR _) rfl rfl ((congrFun V.1 356).trans s_356) rfl (by omega) (InvR_putA V (by omega) (B_FREE (by omega))) (fun g V ve16 vn17 hq => ?_)
            have hG := hq.trans hG
            have hT := (vn17 356 4 (Or.inr (by omega))).trans hT
            refine X_iconst (v := (1 : Int32)) rfl rfl rfl ?_
            exact LW_ireturn (st := []) rfl rfl rfl ⟨_, rfl, by decide, by decide, V, hG, hT⟩
          · refine X_iconst (v := (0 : Int32)) rfl rfl rfl ?_
            exact LW_ireturn (st := []) rfl rfl rfl ⟨_, rfl, by decide, by decide, V, hG, hT⟩
set_option maxRecDepth 10000 in
set_option maxHeartbeats 40000000 in
theorem C_X13_signT {P : Par} {g : LH} {d : Nat}  (V : InvR P g) (x1 : Int32) (y1 : Int) (hx1 : x1.toInt = y1) (x2 : Int32) (y2 : Int) (hx2 : x2.toInt = y2)   : LW 254 (d + 9) 0 0 0 (lEnt (mL 254) [.ref 355, .int x1, .int x2]) [] g (fun v g' => ∃ r : Int32, v = some (.int r) ∧ 0 ≤ r.toInt ∧ r.toInt ≤ 1 ∧ InvR P g' ∧ Gr g' = Gr g ∧ Gi g' 356 4 = Gi g 356 4) := by
  refine LW_ls (ls' := [some (.ref 355), some (.int x1), some (.int x2)]) rfl ?_
  have hG : Gr g = Gr g := rfl
  have hT : Gi g 356 4 = Gi g 356 4 := rfl
  refine X_iload_n rfl rfl rfl rfl ?_
  refine X_callS (as := [.int x1]) (st := []) rfl rfl rfl (by decide) rfl (Nat.le_of_ble_eq_true rfl) (by decide) (Nat.le_of_ble_eq_true rfl) rfl ?_
  refine LW_ls (ls' := [some (.int x1)]) rfl ?_
  refine X_iload_n rfl rfl rfl rfl ?_
  refine X_iconst (v := (0 : Int32)) rfl rfl rfl ?_
  refine X_bipush (v := (25 : Int32)) rfl rfl rfl ?_
  refine X_callS (as := [.int x1, .int (0 : Int32), .int (25 : Int32)]) (st := []) rfl rfl rfl (by decide) rfl (Nat.le_of_ble_eq_true rfl) (by decide) (Nat.le_of_ble_eq_true rfl) rfl ?_
  refine LW_ls (ls' := [some (.int x1), some (.int (0 : Int32)), some (.int (25 : Int32))]) rfl ?_
  refine X_iload_n rfl rfl rfl rfl ?_
  refine X_iload_n rfl rfl rfl rfl ?_
  refine S_icmp_lt (tgt := 14) rfl rfl rfl hx1 (show (0 : Int32).toInt = 0 from rfl) (fun vh1 => ?_) (fun vh1 => ?_)
  · refine X_iconst (v := (0 : Int32)) rfl rfl rfl ?_
    refine LW_ireturn (st := []) rfl rfl rfl ?_
    refine LW_ireturn (st := []) rfl rfl rfl ?_
    refine S_if_eq (tgt := 30) rfl rfl rfl (show (0 : Int32).toInt = 0 from rfl) (fun vh2 => ?_) (fun q => absurd q (by omega))
    refine X_iconst (v := (0 : Int32)) rfl rfl rfl ?_
    exact LW_ireturn (st := []) rfl rfl rfl ⟨_, rfl, by decide, by decide, V, hG, hT⟩
  · refine X_iload_n rfl rfl rfl rfl ?_
    refine X_iload_n rfl rfl rfl rfl ?_
    refine S_icmp_gt (tgt := 14) rfl rfl rfl hx1 (show (25 : Int32).toInt = 25 from rfl) (fun vh3 => ?_) (fun vh3 => ?_)
    · refine X_iconst (v := (0 : Int32)) rfl rfl rfl ?_
      refine LW_ireturn (st := []) rfl rfl rfl ?_
      refine LW_ireturn (st := []) rfl rfl rfl ?_
      refine S_if_eq (tgt := 30) rfl rfl rfl (show (0 : Int32).toInt = 0 from rfl) (fun vh4 => ?_) (fun q => absurd q (by omega))
      refine X_iconst (v := (0 : Int32)) rfl rfl rfl ?_
      exact LW_ireturn (st := []) rfl rfl rfl ⟨_, rfl, by decide, by decide, V, hG, hT⟩
    · refine X_iconst (v := (1 : Int32)) rfl rfl rfl ?_
      refine LW_goto (tgt := 15) rfl rfl ?_
      refine LW_ireturn (st := []) rfl rfl rfl ?_
      refine LW_ireturn (st := []) rfl rfl rfl ?_
      refine S_if_eq (tgt := 30) rfl rfl rfl (show (1 : Int32).toInt = 1 from rfl) (fun q => absurd q (by omega)) (fun vh5 => ?_)
      refine X_iload_n rfl rfl rfl rfl ?_
      refine X_iconst (v := (-1 : Int32)) rfl rfl rfl ?_
      refine X_bipush (v := (9 : Int32)) rfl rfl rfl ?_
      refine X_callS (as := [.int x2, .int (-1 : Int32), .int (9 : Int32)]) (st := []) rfl rfl rfl (by decide) rfl (Nat.le_of_ble_eq_true rfl) (by decide) (Nat.le_of_ble_eq_true rfl) rfl ?_
      refine LW_ls (ls' := [some (.int x2), some (.int (-1 : Int32)), some (.int (9 : Int32))]) rfl ?_
      refine X_iload_n rfl rfl rfl rfl ?_
      refine X_iload_n rfl rfl rfl rfl ?_
      refine S_icmp_lt (tgt := 14) rfl rfl rfl hx2 (show (-1 : Int32).toInt = -1 from rfl) (fun vh6 => ?_) (fun vh6 => ?_)
      · refine X_iconst (v := (0 : Int32)) rfl rfl rfl ?_
        refine LW_ireturn (st := []) rfl rfl rfl ?_
        refine S_if_eq (tgt := 30) rfl rfl rfl (show (0 : Int32).toInt = 0 from rfl) (fun vh7 => ?_) (fun q => absurd q (by omega))
        refine X_iconst (v := (0 : Int32)) rfl rfl rfl ?_
        exact LW_ireturn (st := []) rfl rfl rfl ⟨_, rfl, by decide, by decide, V, hG, hT⟩
      · refine X_iload_n rfl rfl rfl rfl ?_
        refine X_iload_n rfl rfl rfl rfl ?_
        refine S_icmp_gt (tgt := 14) rfl rfl rfl hx2 (show (9 : Int32).toInt = 9 from rfl) (fun vh8 => ?_) (fun vh8 => ?_)
        · refine X_iconst (v := (0 : Int32)) rfl rfl rfl ?_
          refine LW_ireturn (st := []) rfl rfl rfl ?_
          refine S_if_eq (tgt := 30) rfl rfl rfl (show (0 : Int32).toInt = 0 from rfl) (fun vh9 => ?_) (fun q => absurd q (by omega))
          refine X_iconst (v := (0 : Int32)) rfl rfl rfl ?_
          exact LW_ireturn (st := []) rfl rfl rfl ⟨_, rfl, by decide, by decide, V, hG, hT⟩
        · refine X_iconst (v := (1 : Int32)) rfl rfl rfl ?_
          refine LW_goto (tgt := 15) rfl rfl ?_
          refine LW_ireturn (st := []) rfl rfl rfl ?_
          refine S_if_eq (tgt := 30) rfl rfl rfl (show (1 : Int32).toInt = 1 from rfl) (fun q => absurd q (by omega)) (fun vh10 => ?_)
          refine X_aload_n rfl rfl rfl rfl ?_
          refine X_getR (a := 356) rfl rfl rfl ((congrFun V.1 355).trans s_355) rfl ((congrFun (V.2.1 355 (by decide)) 0).trans r_355_0) ?_
          refine X_bipush (v := (64 : Int32)) rfl rfl rfl ?_
          refine X_iload_n rfl rfl rfl rfl ?_
          refine S_iadd rfl rfl (show (64 : Int32).toInt = 64 from rfl) hx1 (by omega) (fun vz11 hvz11 => ?_)
          refine S_iald rfl rfl ((congrFun V.1 356).trans s_356) rfl (by omega) (fun vz12 evz12 => ?_)
          refine X_iload_n rfl rfl rfl rfl ?_
          refine S_icmp_ne (tgt := 32) rfl rfl rfl rfl hx2 (fun vh13 => ?_) (fun vh13 => ?_)
          · refine X_aload_n rfl rfl rfl rfl ?_
            refine Y_callV (as := []) (st := []) rfl rfl rfl (by decide) rfl (Nat.le_of_ble_eq_true rfl) (by decide) (Nat.le_of_ble_eq_true rfl) rfl ((congrFun V.1 355).trans s_355) (by decide) (C_X13_keep V  ) ?_
            rintro _ g ⟨rfl, V, hq, chF⟩
            have hG := hq.trans hG
            have hT := (chF 4 (by omega) (by omega)).trans hT
            refine X_aload_n rfl rfl rfl rfl ?_
            refine X_getR (a := 356) rfl rfl rfl ((congrFun V.1 355).trans s_355) rfl ((congrFun (V.2.1 355 (by decide)) 0).trans r_355_0) ?_
            refine X_bipush (v := (64 : Int32)) rfl rfl rfl ?_
            refine X_iload_n rfl rfl rfl rfl ?_
            refine S_iadd rfl rfl (show (64 : Int32).toInt = 64 from rfl) hx1 (by omega) (fun vz15 hvz15 => ?_)
            refine X_iload_n rfl rfl rfl rfl ?_
            refine S_iast (I := InvR _) rfl rfl ((congrFun V.1 356).trans s_356) rfl (by omega) (InvR_putA V (by omega) (B_FREE (by omega))) (fun g V ve16 vn17 hq => ?_)
            have hG := hq.trans hG
            have hT := (vn17 356 4 (Or.inr (by omega))).trans hT
            refine X_iconst (v := (1 : Int32)) rfl rfl rfl ?_
            exact LW_ireturn (st := []) rfl rfl rfl ⟨_, rfl, by decide, by decide, V, hG, hT⟩
          · refine X_iconst (v := (0 : Int32)) rfl rfl rfl ?_
            exact LW_ireturn (st := []) rfl rfl rfl ⟨_, rfl, by decide, by decide, V, hG, hT⟩
set_option maxRecDepth 10000 in
set_option maxHeartbeats 40000000 in
theorem C_X13_callT_12 {P : Par} {g g0 : LH} {d n : Nat}  (V : InvR P g) (hG : Gr g = Gr g0) (hT : Gi g 356 4 = Gi g0 356 4) (x1 : Int32) (y1 : Int) (hx1 : x1.toInt = y1) (x2 : Int32) (y2 : Int) (hx2 : x2.toInt = y2) (hf2 : 0 ≤ y2 ∧ y2 ≤ 26)  (hmu : (26 - y2) * 1 + 0 < (n : Int) + 1) (ih12 : ∀ (g : LH) (V : InvR P g) (hG : Gr g = Gr g0) (hT : Gi g 356 4 = Gi g0 356 4) (x1 : Int32) (y1 : Int) (hx1 : x1.toInt = y1) (x2 : Int32) (y2 : Int) (hx2 : x2.toInt = y2) (hf2 : 0 ≤ y2 ∧ y2 ≤ 26) , (26 - y2) * 1 + 0 < (n : Int) → LW 250 (d + 8) 0 0 12 [some (.ref 355), some (.int x1), some (.int x2)] [] g (fun v g' => ∃ r : Int32, v = some (.int r) ∧ (-1) ≤ r.toInt ∧ r.toInt ≤ 26 ∧ InvR P g' ∧ Gr g' = Gr g0 ∧ Gi g' 356 4 = Gi g0 356 4)) : LW 250 (d + 8) 0 0 12 [some (.ref 355), some (.int x1), some (.int x2)] [] g (fun v g' => ∃ r : Int32, v = some (.int r) ∧ (-1) ≤ r.toInt ∧ r.toInt ≤ 26 ∧ InvR P g' ∧ Gr g' = Gr g0 ∧ Gi g' 356 4 = Gi g0 356 4) := by
  refine X_iload_n rfl rfl rfl rfl ?_
  refine X_bipush (v := (26 : Int32)) rfl rfl rfl ?_
  refine S_icmp_ge (tgt := 42) rfl rfl rfl hx2 (show (26 : Int32).toInt = 26 from rfl) (fun vh1 => ?_) (fun vh1 => ?_)
  · refine X_aload_n rfl rfl rfl rfl ?_
    refine X_getR (a := 356) rfl rfl rfl ((congrFun V.1 355).trans s_355) rfl ((congrFun (V.2.1 355 (by decide)) 0).trans r_355_0) ?_
    refine X_bipush (v := (7 : Int32)) rfl rfl rfl ?_
    refine X_dup2 rfl rfl rfl rfl ?_
    refine S_iald rfl rfl ((congrFun V.1 356).trans s_356) (show (7 : Int32).toInt = 7 from rfl) (by omega) (fun vz2 evz2 => ?_)
    have evz2 : Gi g 356 7 = vz2 := evz2
    refine X_iload_n rfl rfl rfl rfl ?_
    refine S_ixorT rfl rfl (fun vz3 => ?_)
    refine S_iast (I := InvR _) rfl rfl ((congrFun V.1 356).trans s_356) (show (7 : Int32).toInt = 7 from rfl) (by omega) (InvR_putA V (by omega) (B_FREE (by omega))) (fun g V ve4 vn5 hq => ?_)
    have hG := hq.trans hG
    have hT := (vn5 356 4 (Or.inr (by decide))).trans hT
    have ve4 : Gi g 356 7 = vz3 := ve4
    refine X_iload_n rfl rfl rfl rfl ?_
    refine Y_callS (as := [.int x1]) (st := []) rfl rfl rfl (by decide) rfl (Nat.le_of_ble_eq_true rfl) (by decide) (Nat.le_of_ble_eq_true rfl) rfl (C_X13_bitsB V x1 y1 hx1 ) ?_
    rintro _ g' ⟨vr6, rfl, hrvr60, hrvr61, hgg, vq7⟩
    subst hgg
    have hr := (rfl : vr6.toInt = vr6.toInt)
    exact LW_ireturn (st := []) rfl rfl rfl ⟨_, rfl, by omega, by omega, V, hG, hT⟩
  · refine X_iload_n rfl rfl rfl rfl ?_
    refine X_iload_n rfl rfl rfl rfl ?_
    refine X_callS (as := [.int x1, .int x2]) (st := []) rfl rfl rfl (by decide) rfl (Nat.le_of_ble_eq_true rfl) (by decide) (Nat.le_of_ble_eq_true rfl) rfl ?_
    refine LW_ls (ls' := [some (.int x1), some (.int x2)]) rfl ?_
    refine X_iload_n rfl rfl rfl rfl ?_
    refine X_iload_n rfl rfl rfl rfl ?_
    refine S_ishrT rfl rfl (fun vz8 => ?_)
    refine X_iconst (v := (1 : Int32)) rfl rfl rfl ?_
    refine S_iandR (k := 1) rfl rfl rfl (fun vz9 hvz9 => ?_)
    refine X_iconst (v := (1 : Int32)) rfl rfl rfl ?_
    refine S_icmp_ne (tgt := 13) rfl rfl rfl rfl (show (1 : Int32).toInt = 1 from rfl) (fun vh10 => ?_) (fun vh10 => ?_)
    · refine X_iconst (v := (0 : Int32)) rfl rfl rfl ?_
      refine LW_ireturn (st := []) rfl rfl rfl ?_
      refine S_if_eq (tgt := 36) rfl rfl rfl (show (0 : Int32).toInt = 0 from rfl) (fun vh11 => ?_) (fun q => absurd q (by omega))
      refine S_iinc (c := 1) rfl rfl rfl hx2 rfl (by omega) (fun vz12 hvz12 => ?_)
      refine LW_ls (ls' := [some (.ref 355), some (.int x1), some (.int vz12)]) rfl ?_
      refine LW_goto (tgt := 12) rfl rfl ?_
      exact ih12 _ V hG hT x1 y1 hx1 vz12 vz12.toInt rfl (by omega)    (by omega)
    · refine X_iconst (v := (1 : Int32)) rfl rfl rfl ?_
      refine LW_goto (tgt := 14) rfl rfl ?_
      refine LW_ireturn (st := []) rfl rfl rfl ?_
      refine S_if_eq (tgt := 36) rfl rfl rfl (show (1 : Int32).toInt = 1 from rfl) (fun q => absurd q (by omega)) (fun vh13 => ?_)
      refine X_aload_n rfl rfl rfl rfl ?_
      refine X_getR (a := 356) rfl rfl rfl ((congrFun V.1 355).trans s_355) rfl ((congrFun (V.2.1 355 (by decide)) 0).trans r_355_0) ?_
      refine X_bipush (v := (38 : Int32)) rfl rfl rfl ?_
      refine X_iload_n rfl rfl rfl rfl ?_
      refine S_iadd rfl rfl (show (38 : Int32).toInt = 38 from rfl) hx2 (by omega) (fun vz14 hvz14 => ?_)
      refine X_iconst (v := (0 : Int32)) rfl rfl rfl ?_
      refine S_iast (I := InvR _) rfl rfl ((congrFun V.1 356).trans s_356) rfl (by omega) (InvR_putA V (by omega) (B_FREE (by omega))) (fun g V ve15 vn16 hq => ?_)
      have hG := hq.trans hG
      have hT := (vn16 356 4 (Or.inr (by omega))).trans hT
      refine S_iinc (c := 1) rfl rfl rfl hx2 rfl (by omega) (fun vz17 hvz17 => ?_)
      refine LW_ls (ls' := [some (.ref 355), some (.int x1), some (.int vz17)]) rfl ?_
      refine LW_goto (tgt := 12) rfl rfl ?_
      exact ih12 _ V hG hT x1 y1 hx1 vz17 vz17.toInt rfl (by omega)    (by omega)
theorem C_X13_callT_all {P : Par} {g0 : LH} {d : Nat}  : ∀ n : Nat, (∀ (g : LH) (V : InvR P g) (hG : Gr g = Gr g0) (hT : Gi g 356 4 = Gi g0 356 4) (x1 : Int32) (y1 : Int) (hx1 : x1.toInt = y1) (x2 : Int32) (y2 : Int) (hx2 : x2.toInt = y2) (hf2 : 0 ≤ y2 ∧ y2 ≤ 26) , (26 - y2) * 1 + 0 < (n : Int) → LW 250 (d + 8) 0 0 12 [some (.ref 355), some (.int x1), some (.int x2)] [] g (fun v g' => ∃ r : Int32, v = some (.int r) ∧ (-1) ≤ r.toInt ∧ r.toInt ≤ 26 ∧ InvR P g' ∧ Gr g' = Gr g0 ∧ Gi g' 356 4 = Gi g0 356 4)) := by
  intro n
  induction n with
  | zero => exact fun g V hG hT x1 y1 hx1 x2 y2 hx2 hf2 hmu => absurd hmu (by omega)
  | succ n ih => exact fun g V hG hT x1 y1 hx1 x2 y2 hx2 hf2 hmu => C_X13_callT_12  V hG hT x1 y1 hx1 x2 y2 hx2 hf2 (by omega) ih
set_option maxRecDepth 10000 in
set_option maxHeartbeats 40000000 in
theorem C_X13_callT {P : Par} {g : LH} {d : Nat}  (V : InvR P g) (x1 : Int32) (y1 : Int) (hx1 : x1.toInt = y1)   : LW 250 (d + 8) 0 0 0 (lEnt (mL 250) [.ref 355, .int x1]) [] g (fun v g' => ∃ r : Int32, v = some (.int r) ∧ (-1) ≤ r.toInt ∧ r.toInt ≤ 26 ∧ InvR P g' ∧ Gr g' = Gr g ∧ Gi g' 356 4 = Gi g 356 4) := by
  refine LW_ls (ls' := [some (.ref 355), some (.int x1), none]) rfl ?_
  have hG : Gr g = Gr g := rfl
  have hT : Gi g 356 4 = Gi g 356 4 := rfl
  refine X_iload_n rfl rfl rfl rfl ?_
  refine S_if_ne (tgt := 6) rfl rfl rfl hx1 (fun vh1 => ?_) (fun vh1 => ?_)
  · refine X_aload_n rfl rfl rfl rfl ?_
    refine Y_callV (as := []) (st := []) rfl rfl rfl (by decide) rfl (Nat.le_of_ble_eq_true rfl) (by decide) (Nat.le_of_ble_eq_true rfl) rfl ((congrFun V.1 355).trans s_355) (by decide) (C_X13_keep V  ) ?_
    rintro _ g ⟨rfl, V, hq, chF⟩
    have hG := hq.trans hG
    have hT := (chF 4 (by omega) (by omega)).trans hT
    refine X_iconst (v := (0 : Int32)) rfl rfl rfl ?_
    refine X_istore_n (i := 2) (ls' := [some (.ref 355), some (.int x1), some (.int (0 : Int32))]) rfl rfl rfl (Nat.le_of_ble_eq_true rfl) rfl ?_
    exact (C_X13_callT_all (((26 - 0) * 1 + 0) + 1 : Int).toNat) _ V hG hT x1 y1 hx1 (0 : Int32) 0 (show (0 : Int32).toInt = 0 from rfl) (by omega)    (by omega)
  · refine X_iconst (v := (-1 : Int32)) rfl rfl rfl ?_
    exact LW_ireturn (st := []) rfl rfl rfl ⟨_, rfl, by decide, by decide, V, hG, hT⟩
set_option maxRecDepth 10000 in
set_option maxHeartbeats 40000000 in
theorem C_X13_strikeT {P : Par} {g : LH} {d : Nat}  (V : InvR P g) (x1 : Int32) (y1 : Int) (hx1 : x1.toInt = y1)   : LW 251 (d + 14) 0 0 0 (lEnt (mL 251) [.ref 355, .int x1]) [] g (fun v g' => ∃ r : Int32, v = some (.int r) ∧ (-1) ≤ r.toInt ∧ r.toInt ≤ 26 ∧ InvR P g' ∧ Gr g' = Gr g ∧ Gi g' 356 4 = Gi g 356 4) := by
  refine LW_ls (ls' := [some (.ref 355), some (.int x1)]) rfl ?_
  have hG : Gr g = Gr g := rfl
  have hT : Gi g 356 4 = Gi g 356 4 := rfl
  refine X_iload_n rfl rfl rfl rfl ?_
  refine X_callS (as := [.int x1]) (st := []) rfl rfl rfl (by decide) rfl (Nat.le_of_ble_eq_true rfl) (by decide) (Nat.le_of_ble_eq_true rfl) rfl ?_
  refine LW_ls (ls' := [some (.int x1)]) rfl ?_
  refine X_iload_n rfl rfl rfl rfl ?_
  refine X_iconst (v := (1 : Int32)) rfl rfl rfl ?_
  refine X_ldc (v := (67108863 : Int32)) rfl rfl rfl ?_
  refine X_callS (as := [.int x1, .int (1 : Int32), .int (67108863 : Int32)]) (st := []) rfl rfl rfl (by decide) rfl (Nat.le_of_ble_eq_true rfl) (by decide) (Nat.le_of_ble_eq_true rfl) rfl ?_
  refine LW_ls (ls' := [some (.int x1), some (.int (1 : Int32)), some (.int (67108863 : Int32))]) rfl ?_
  refine X_iload_n rfl rfl rfl rfl ?_
  refine X_iload_n rfl rfl rfl rfl ?_
  refine S_icmp_lt (tgt := 14) rfl rfl rfl hx1 (show (1 : Int32).toInt = 1 from rfl) (fun vh1 => ?_) (fun vh1 => ?_)
  · refine X_iconst (v := (0 : Int32)) rfl rfl rfl ?_
    refine LW_ireturn (st := []) rfl rfl rfl ?_
    refine LW_ireturn (st := []) rfl rfl rfl ?_
    refine S_if_eq (tgt := 25) rfl rfl rfl (show (0 : Int32).toInt = 0 from rfl) (fun vh2 => ?_) (fun q => absurd q (by omega))
    refine X_iconst (v := (-1 : Int32)) rfl rfl rfl ?_
    exact LW_ireturn (st := []) rfl rfl rfl ⟨_, rfl, by decide, by decide, V, hG, hT⟩
  · refine X_iload_n rfl rfl rfl rfl ?_
    refine X_iload_n rfl rfl rfl rfl ?_
    refine S_icmp_gt (tgt := 14) rfl rfl rfl hx1 (show (67108863 : Int32).toInt = 67108863 from rfl) (fun vh3 => ?_) (fun vh3 => ?_)
    · refine X_iconst (v := (0 : Int32)) rfl rfl rfl ?_
      refine LW_ireturn (st := []) rfl rfl rfl ?_
      refine LW_ireturn (st := []) rfl rfl rfl ?_
      refine S_if_eq (tgt := 25) rfl rfl rfl (show (0 : Int32).toInt = 0 from rfl) (fun vh4 => ?_) (fun q => absurd q (by omega))
      refine X_iconst (v := (-1 : Int32)) rfl rfl rfl ?_
      exact LW_ireturn (st := []) rfl rfl rfl ⟨_, rfl, by decide, by decide, V, hG, hT⟩
    · refine X_iconst (v := (1 : Int32)) rfl rfl rfl ?_
      refine LW_goto (tgt := 15) rfl rfl ?_
      refine LW_ireturn (st := []) rfl rfl rfl ?_
      refine LW_ireturn (st := []) rfl rfl rfl ?_
      refine S_if_eq (tgt := 25) rfl rfl rfl (show (1 : Int32).toInt = 1 from rfl) (fun q => absurd q (by omega)) (fun vh5 => ?_)
      refine X_aload_n rfl rfl rfl rfl ?_
      refine X_iload_n rfl rfl rfl rfl ?_
      refine X_aload_n rfl rfl rfl rfl ?_
      refine X_getR (a := 356) rfl rfl rfl ((congrFun V.1 355).trans s_355) rfl ((congrFun (V.2.1 355 (by decide)) 0).trans r_355_0) ?_
      refine X_bipush (v := (7 : Int32)) rfl rfl rfl ?_
      refine S_iald rfl rfl ((congrFun V.1 356).trans s_356) (show (7 : Int32).toInt = 7 from rfl) (by omega) (fun vz6 evz6 => ?_)
      have evz6 : Gi g 356 7 = vz6 := evz6
      refine X_iconst (v := (-1 : Int32)) rfl rfl rfl ?_
      refine S_ixorT rfl rfl (fun vz7 => ?_)
      refine S_iandT rfl rfl (fun vz8 => ?_)
      refine Y_callV (as := [.int vz8]) (st := []) rfl rfl rfl (by decide) rfl (Nat.le_of_ble_eq_true rfl) (by decide) (Nat.le_of_ble_eq_true rfl) rfl ((congrFun V.1 355).trans s_355) (by decide) (C_X13_callT V vz8 vz8.toInt rfl ) ?_
      rintro _ g ⟨vr9, rfl, hrvr90, hrvr91, V, hq, chT⟩
      have hG := hq.trans hG
      have hT := chT.trans hT
      refine LW_goto (tgt := 26) rfl rfl ?_
      have hr := (rfl : vr9.toInt = vr9.toInt)
      exact LW_ireturn (st := []) rfl rfl rfl ⟨_, rfl, by omega, by omega, V, hG, hT⟩
set_option maxRecDepth 10000 in
set_option maxHeartbeats 40000000 in
theorem C_X13_comeBackT {P : Par} {g : LH} {d : Nat}  (V : InvR P g) (x1 : Int32) (y1 : Int) (hx1 : x1.toInt = y1)   : LW 252 (d + 14) 0 0 0 (lEnt (mL 252) [.ref 355, .int x1]) [] g (fun v g' => ∃ r : Int32, v = some (.int r) ∧ (-1) ≤ r.toInt ∧ r.toInt ≤ 26 ∧ InvR P g' ∧ Gr g' = Gr g ∧ Gi g' 356 4 = Gi g 356 4) := by
  refine LW_ls (ls' := [some (.ref 355), some (.int x1)]) rfl ?_
  have hG : Gr g = Gr g := rfl
  have hT : Gi g 356 4 = Gi g 356 4 := rfl
  refine X_iload_n rfl rfl rfl rfl ?_
  refine X_callS (as := [.int x1]) (st := []) rfl rfl rfl (by decide) rfl (Nat.le_of_ble_eq_true rfl) (by decide) (Nat.le_of_ble_eq_true rfl) rfl ?_
  refine LW_ls (ls' := [some (.int x1)]) rfl ?_
  refine X_iload_n rfl rfl rfl rfl ?_
  refine X_iconst (v := (1 : Int32)) rfl rfl rfl ?_
  refine X_ldc (v := (67108863 : Int32)) rfl rfl rfl ?_
  refine X_callS (as := [.int x1, .int (1 : Int32), .int (67108863 : Int32)]) (st := []) rfl rfl rfl (by decide) rfl (Nat.le_of_ble_eq_true rfl) (by decide) (Nat.le_of_ble_eq_true rfl) rfl ?_
  refine LW_ls (ls' := [some (.int x1), some (.int (1 : Int32)), some (.int (67108863 : Int32))]) rfl ?_
  refine X_iload_n rfl rfl rfl rfl ?_
  refine X_iload_n rfl rfl rfl rfl ?_
  refine S_icmp_lt (tgt := 14) rfl rfl rfl hx1 (show (1 : Int32).toInt = 1 from rfl) (fun vh1 => ?_) (fun vh1 => ?_)
  · refine X_iconst (v := (0 : Int32)) rfl rfl rfl ?_
    refine LW_ireturn (st := []) rfl rfl rfl ?_
    refine LW_ireturn (st := []) rfl rfl rfl ?_
    refine S_if_eq (tgt := 23) rfl rfl rfl (show (0 : Int32).toInt = 0 from rfl) (fun vh2 => ?_) (fun q => absurd q (by omega))
    refine X_iconst (v := (-1 : Int32)) rfl rfl rfl ?_
    exact LW_ireturn (st := []) rfl rfl rfl ⟨_, rfl, by decide, by decide, V, hG, hT⟩
  · refine X_iload_n rfl rfl rfl rfl ?_
    refine X_iload_n rfl rfl rfl rfl ?_
    refine S_icmp_gt (tgt := 14) rfl rfl rfl hx1 (show (67108863 : Int32).toInt = 67108863 from rfl) (fun vh3 => ?_) (fun vh3 => ?_)
    · refine X_iconst (v := (0 : Int32)) rfl rfl rfl ?_
      refine LW_ireturn (st := []) rfl rfl rfl ?_
      refine LW_ireturn (st := []) rfl rfl rfl ?_
      refine S_if_eq (tgt := 23) rfl rfl rfl (show (0 : Int32).toInt = 0 from rfl) (fun vh4 => ?_) (fun q => absurd q (by omega))
      refine X_iconst (v := (-1 : Int32)) rfl rfl rfl ?_
      exact LW_ireturn (st := []) rfl rfl rfl ⟨_, rfl, by decide, by decide, V, hG, hT⟩
    · refine X_iconst (v := (1 : Int32)) rfl rfl rfl ?_
      refine LW_goto (tgt := 15) rfl rfl ?_
      refine LW_ireturn (st := []) rfl rfl rfl ?_
      refine LW_ireturn (st := []) rfl rfl rfl ?_
      refine S_if_eq (tgt := 23) rfl rfl rfl (show (1 : Int32).toInt = 1 from rfl) (fun q => absurd q (by omega)) (fun vh5 => ?_)
      refine X_aload_n rfl rfl rfl rfl ?_
      refine X_iload_n rfl rfl rfl rfl ?_
      refine X_aload_n rfl rfl rfl rfl ?_
      refine X_getR (a := 356) rfl rfl rfl ((congrFun V.1 355).trans s_355) rfl ((congrFun (V.2.1 355 (by decide)) 0).trans r_355_0) ?_
      refine X_bipush (v := (7 : Int32)) rfl rfl rfl ?_
      refine S_iald rfl rfl ((congrFun V.1 356).trans s_356) (show (7 : Int32).toInt = 7 from rfl) (by omega) (fun vz6 evz6 => ?_)
      have evz6 : Gi g 356 7 = vz6 := evz6
      refine S_iandT rfl rfl (fun vz7 => ?_)
      refine Y_callV (as := [.int vz7]) (st := []) rfl rfl rfl (by decide) rfl (Nat.le_of_ble_eq_true rfl) (by decide) (Nat.le_of_ble_eq_true rfl) rfl ((congrFun V.1 355).trans s_355) (by decide) (C_X13_callT V vz7 vz7.toInt rfl ) ?_
      rintro _ g ⟨vr8, rfl, hrvr80, hrvr81, V, hq, chT⟩
      have hG := hq.trans hG
      have hT := chT.trans hT
      refine LW_goto (tgt := 24) rfl rfl ?_
      have hr := (rfl : vr8.toInt = vr8.toInt)
      exact LW_ireturn (st := []) rfl rfl rfl ⟨_, rfl, by omega, by omega, V, hG, hT⟩
set_option maxRecDepth 10000 in
set_option maxHeartbeats 40000000 in
theorem C_X13_wouldChangeT {P : Par} {g : LH} {d : Nat}  (V : InvR P g) (x1 : Int32) (y1 : Int) (hx1 : x1.toInt = y1) (hf1 : 0 ≤ y1 ∧ y1 ≤ 25)   : LW 244 (d + 20) 0 0 0 (lEnt (mL 244) [.ref 355, .int x1]) [] g (fun v g' => ∃ r : Int32, v = some (.int r) ∧ 0 ≤ r.toInt ∧ r.toInt ≤ 1 ∧ InvR P g' ∧ Gr g' = Gr g ∧ Gi g' 356 4 = Gi g 356 4) := by
  refine LW_ls (ls' := [some (.ref 355), some (.int x1), none, none, none]) rfl ?_
  have hG : Gr g = Gr g := rfl
  have hT : Gi g 356 4 = Gi g 356 4 := rfl
  refine X_aload_n rfl rfl rfl rfl ?_
  refine X_iload_n rfl rfl rfl rfl ?_
  refine X_callV (as := [.int x1]) (st := []) rfl rfl rfl (by decide) rfl (Nat.le_of_ble_eq_true rfl) (by decide) (Nat.le_of_ble_eq_true rfl) rfl ((congrFun V.1 355).trans s_355) (by decide) ?_
  refine LW_ls (ls' := [some (.ref 355), some (.int x1)]) rfl ?_
  refine X_aload_n rfl rfl rfl rfl ?_
  refine X_getR (a := 356) rfl rfl rfl ((congrFun V.1 355).trans s_355) rfl ((congrFun (V.2.1 355 (by decide)) 0).trans r_355_0) ?_
  refine X_bipush (v := (7 : Int32)) rfl rfl rfl ?_
  refine S_iald rfl rfl ((congrFun V.1 356).trans s_356) (show (7 : Int32).toInt = 7 from rfl) (by omega) (fun vz1 evz1 => ?_)
  have evz1 : Gi g 356 7 = vz1 := evz1
  refine X_iload_n rfl rfl rfl rfl ?_
  refine X_callS (as := [.int vz1, .int x1]) (st := []) rfl rfl rfl (by decide) rfl (Nat.le_of_ble_eq_true rfl) (by decide) (Nat.le_of_ble_eq_true rfl) rfl ?_
  refine LW_ls (ls' := [some (.int vz1), some (.int x1)]) rfl ?_
  refine X_iload_n rfl rfl rfl rfl ?_
  refine X_iload_n rfl rfl rfl rfl ?_
  refine S_ishrT rfl rfl (fun vz2 => ?_)
  refine X_iconst (v := (1 : Int32)) rfl rfl rfl ?_
  refine S_iandR (k := 1) rfl rfl rfl (fun vz3 hvz3 => ?_)
  refine X_iconst (v := (1 : Int32)) rfl rfl rfl ?_
  refine S_icmp_ne (tgt := 13) rfl rfl rfl rfl (show (1 : Int32).toInt = 1 from rfl) (fun vh4 => ?_) (fun vh4 => ?_)
  · refine X_iconst (v := (0 : Int32)) rfl rfl rfl ?_
    refine LW_ireturn (st := []) rfl rfl rfl ?_
    refine LW_ireturn (st := []) rfl rfl rfl ?_
    refine S_if_eq (tgt := 12) rfl rfl rfl (show (0 : Int32).toInt = 0 from rfl) (fun vh5 => ?_) (fun q => absurd q (by omega))
    refine X_iconst (v := (0 : Int32)) rfl rfl rfl ?_
    refine X_istore_n (i := 2) (ls' := [some (.ref 355), some (.int x1), some (.int (0 : Int32)), none, none]) rfl rfl rfl (Nat.le_of_ble_eq_true rfl) rfl ?_
    refine X_aload_n rfl rfl rfl rfl ?_
    refine X_iload_n rfl rfl rfl rfl ?_
    refine Y_callV (as := [.int (0 : Int32)]) (st := []) rfl rfl rfl (by decide) rfl (Nat.le_of_ble_eq_true rfl) (by decide) (Nat.le_of_ble_eq_true rfl) rfl ((congrFun V.1 355).trans s_355) (by decide) (C_X13_clauseOf V (0 : Int32) 0 (show (0 : Int32).toInt = 0 from rfl) ) ?_
    rintro _ g' ⟨vr6, rfl, hrvr60, hrvr61, hgg, vq7⟩
    subst hgg
    have vwk : 0 ≤ vr6.toInt → WK g vr6.toInt := fun vh => ⟨_, by omega, by omega, vq7 vh⟩
    refine X_istore_n (i := 3) (ls' := [some (.ref 355), some (.int x1), some (.int (0 : Int32)), some (.int vr6), none]) rfl rfl rfl (Nat.le_of_ble_eq_true rfl) rfl ?_
    refine X_aload_n rfl rfl rfl rfl ?_
    refine X_getR (a := 356) rfl rfl rfl ((congrFun V.1 355).trans s_355) rfl ((congrFun (V.2.1 355 (by decide)) 0).trans r_355_0) ?_
    refine X_bipush (v := (90 : Int32)) rfl rfl rfl ?_
    refine X_iload_n rfl rfl rfl rfl ?_
    refine S_iadd rfl rfl (show (90 : Int32).toInt = 90 from rfl) hx1 (by omega) (fun vz8 hvz8 => ?_)
    refine S_iald rfl rfl ((congrFun V.1 356).trans s_356) rfl (by omega) (fun vz9 evz9 => ?_)
    refine X_aload_n rfl rfl rfl rfl ?_
    refine X_getR (a := 356) rfl rfl rfl ((congrFun V.1 355).trans s_355) rfl ((congrFun (V.2.1 355 (by decide)) 0).trans r_355_0) ?_
    refine X_bipush (v := (7 : Int32)) rfl rfl rfl ?_
    refine S_iald_v rfl rfl ((congrFun V.1 356).trans s_356) (show (7 : Int32).toInt = 7 from rfl) (by omega) evz1 ?_
    refine S_iandT rfl rfl (fun vz11 => ?_)
    refine Y_callS (as := [.int vz11]) (st := []) rfl rfl rfl (by decide) rfl (Nat.le_of_ble_eq_true rfl) (by decide) (Nat.le_of_ble_eq_true rfl) rfl (C_X13_bitsB V vz11 vz11.toInt rfl ) ?_
    rintro _ g' ⟨vr12, rfl, hrvr120, hrvr121, hgg, vq13⟩
    subst hgg
    refine X_istore (i := 4) (ls' := [some (.ref 355), some (.int x1), some (.int (0 : Int32)), some (.int vr6), some (.int vr12)]) rfl rfl (Nat.le_of_ble_eq_true rfl) rfl ?_
    refine X_iload_n rfl rfl rfl rfl ?_
    refine S_if_ge (tgt := 96) rfl rfl rfl rfl (fun vh14 => ?_) (fun vh14 => ?_)
    · refine X_aload_n rfl rfl rfl rfl ?_
      refine X_getR (a := 363) rfl rfl rfl ((congrFun V.1 355).trans s_355) rfl ((congrFun (V.2.1 355 (by decide)) 26).trans r_355_26) ?_
      refine X_iconst (v := (1 : Int32)) rfl rfl rfl ?_
      refine X_aload_n rfl rfl rfl rfl ?_
      refine X_getR (a := 356) rfl rfl rfl ((congrFun V.1 355).trans s_355) rfl ((congrFun (V.2.1 355 (by decide)) 0).trans r_355_0) ?_
      refine X_bipush (v := (7 : Int32)) rfl rfl rfl ?_
      refine S_iald_v rfl rfl ((congrFun V.1 356).trans s_356) (show (7 : Int32).toInt = 7 from rfl) (by omega) evz1 ?_
      refine Y_callS (as := [.int vz1]) (st := [.int (1 : Int32), .ref 363]) rfl rfl rfl (by decide) rfl (Nat.le_of_ble_eq_true rfl) (by decide) (Nat.le_of_ble_eq_true rfl) rfl (C_X13_bitsB V vz1 vz1.toInt rfl ) ?_
      rintro _ g' ⟨vr16, rfl, hrvr160, hrvr161, hgg, vq17⟩
      subst hgg
      refine S_iast (I := InvR _) rfl rfl ((congrFun V.1 363).trans s_363) (show (1 : Int32).toInt = 1 from rfl) (by omega) (InvR_putO V (by decide) trivial) (fun g V ve18 vn19 hq => ?_)
      have hG := hq.trans hG
      have hT := (vn19 356 4 (Or.inl (by decide))).trans hT
      have evz1 := (vn19 (356) 7 (Or.inl (by decide))).trans evz1
      have evz9 := (vn19 (356) ((vz8.toInt : Int).toNat) (Or.inl (by decide))).trans evz9
      have vwk := fun vh => WK.oth (fun q' k' vh' => vn19 q' k' (Or.inl vh')) (vwk vh)
      have ve18 : Gi g 363 1 = vr16 := ve18
      refine X_aload_n rfl rfl rfl rfl ?_
      refine X_getR (a := 363) rfl rfl rfl ((congrFun V.1 355).trans s_355) rfl ((congrFun (V.2.1 355 (by decide)) 26).trans r_355_26) ?_
      refine X_iconst (v := (2 : Int32)) rfl rfl rfl ?_
      refine X_iload_n rfl rfl rfl rfl ?_
      refine S_iast (I := InvR _) rfl rfl ((congrFun V.1 363).trans s_363) (show (2 : Int32).toInt = 2 from rfl) (by omega) (InvR_putO V (by decide) trivial) (fun g V ve20 vn21 hq => ?_)
      have hG := hq.trans hG
      have hT := (vn21 356 4 (Or.inl (by decide))).trans hT
      have evz1 := (vn21 (356) 7 (Or.inl (by decide))).trans evz1
      have evz9 := (vn21 (356) ((vz8.toInt : Int).toNat) (Or.inl (by decide))).trans evz9
      have ve18 := (vn21 (363) 1 (Or.inr (by omega))).trans ve18
      have vwk := fun vh => WK.oth (fun q' k' vh' => vn21 q' k' (Or.inl vh')) (vwk vh)
      have ve20 : Gi g 363 2 = x1 := ve20
      refine X_aload_n rfl rfl rfl rfl ?_
      refine X_getR (a := 363) rfl rfl rfl ((congrFun V.1 355).trans s_355) rfl ((congrFun (V.2.1 355 (by decide)) 26).trans r_355_26) ?_
      refine X_iconst (v := (3 : Int32)) rfl rfl rfl ?_
      refine X_aload_n rfl rfl rfl rfl ?_
      refine X_getR (a := 356) rfl rfl rfl ((congrFun V.1 355).trans s_355) rfl ((congrFun (V.2.1 355 (by decide)) 0).trans r_355_0) ?_
      refine X_bipush (v := (12 : Int32)) rfl rfl rfl ?_
      refine X_iload_n rfl rfl rfl rfl ?_
      refine S_iadd rfl rfl (show (12 : Int32).toInt = 12 from rfl) hx1 (by omega) (fun vz22 hvz22 => ?_)
      refine S_iald rfl rfl ((congrFun V.1 356).trans s_356) rfl (by omega) (fun vz23 evz23 => ?_)
      refine S_iast (I := InvR _) rfl rfl ((congrFun V.1 363).trans s_363) (show (3 : Int32).toInt = 3 from rfl) (by omega) (InvR_putO V (by decide) trivial) (fun g V ve24 vn25 hq => ?_)
      have hG := hq.trans hG
      have hT := (vn25 356 4 (Or.inl (by decide))).trans hT
      have evz1 := (vn25 (356) 7 (Or.inl (by decide))).trans evz1
      have evz9 := (vn25 (356) ((vz8.toInt : Int).toNat) (Or.inl (by decide))).trans evz9
      have ve18 := (vn25 (363) 1 (Or.inr (by omega))).trans ve18
      have ve20 := (vn25 (363) 2 (Or.inr (by omega))).trans ve20
      have evz23 := (vn25 (356) ((vz22.toInt : Int).toNat) (Or.inl (by decide))).trans evz23
      have vwk := fun vh => WK.oth (fun q' k' vh' => vn25 q' k' (Or.inl vh')) (vwk vh)
      have ve24 : Gi g 363 3 = vz23 := ve24
      refine X_aload_n rfl rfl rfl rfl ?_
      refine X_getR (a := 363) rfl rfl rfl ((congrFun V.1 355).trans s_355) rfl ((congrFun (V.2.1 355 (by decide)) 26).trans r_355_26) ?_
      refine X_iconst (v := (4 : Int32)) rfl rfl rfl ?_
      refine X_aload_n rfl rfl rfl rfl ?_
      refine X_getR (a := 356) rfl rfl rfl ((congrFun V.1 355).trans s_355) rfl ((congrFun (V.2.1 355 (by decide)) 0).trans r_355_0) ?_
      refine X_bipush (v := (38 : Int32)) rfl rfl rfl ?_
      refine X_iload_n rfl rfl rfl rfl ?_
      refine S_iadd rfl rfl (show (38 : Int32).toInt = 38 from rfl) hx1 (by omega) (fun vz26 hvz26 => ?_)
      refine S_iald rfl rfl ((congrFun V.1 356).trans s_356) rfl (by omega) (fun vz27 evz27 => ?_)
      refine S_iast (I := InvR _) rfl rfl ((congrFun V.1 363).trans s_363) (show (4 : Int32).toInt = 4 from rfl) (by omega) (InvR_putO V (by decide) trivial) (fun g V ve28 vn29 hq => ?_)
      have hG := hq.trans hG
      have hT := (vn29 356 4 (Or.inl (by decide))).trans hT
      have evz1 := (vn29 (356) 7 (Or.inl (by decide))).trans evz1
      have evz9 := (vn29 (356) ((vz8.toInt : Int).toNat) (Or.inl (by decide))).trans evz9
      have ve18 := (vn29 (363) 1 (Or.inr (by omega))).trans ve18
      have ve20 := (vn29 (363) 2 (Or.inr (by omega))).trans ve20
      have evz23 := (vn29 (356) ((vz22.toInt : Int).toNat) (Or.inl (by decide))).trans evz23
      have ve24 := (vn29 (363) 3 (Or.inr (by omega))).trans ve24
      have evz27 := (vn29 (356) ((vz26.toInt : Int).toNat) (Or.inl (by decide))).trans evz27
      have vwk := fun vh => WK.oth (fun q' k' vh' => vn29 q' k' (Or.inl vh')) (vwk vh)
      have ve28 : Gi g 363 4 = vz27 := ve28
      refine X_aload_n rfl rfl rfl rfl ?_
      refine X_getR (a := 363) rfl rfl rfl ((congrFun V.1 355).trans s_355) rfl ((congrFun (V.2.1 355 (by decide)) 26).trans r_355_26) ?_
      refine X_iconst (v := (5 : Int32)) rfl rfl rfl ?_
      refine X_iload_n rfl rfl rfl rfl ?_
      refine Y_callS (as := [.int x1]) (st := [.int (5 : Int32), .ref 363]) rfl rfl rfl (by decide) rfl (Nat.le_of_ble_eq_true rfl) (by decide) (Nat.le_of_ble_eq_true rfl) rfl (C_X13_isVowel V x1 y1 hx1 (by omega) ) ?_
      rintro _ g' ⟨vr30, rfl, hrvr300, hrvr301, hgg⟩
      subst hgg
      refine S_if_eq (tgt := 165) rfl rfl rfl rfl (fun vh31 => ?_) (fun vh31 => ?_)
      · refine X_iconst (v := (0 : Int32)) rfl rfl rfl ?_
        refine S_iast (I := InvR _) rfl rfl ((congrFun V.1 363).trans s_363) (show (5 : Int32).toInt = 5 from rfl) (by omega) (InvR_putO V (by decide) trivial) (fun g V ve32 vn33 hq => ?_)
        have hG := hq.trans hG
        have hT := (vn33 356 4 (Or.inl (by decide))).trans hT
        have evz1 := (vn33 (356) 7 (Or.inl (by decide))).trans evz1
        have evz9 := (vn33 (356) ((vz8.toInt : Int).toNat) (Or.inl (by decide))).trans evz9
        have ve18 := (vn33 (363) 1 (Or.inr (by omega))).trans ve18
        have ve20 := (vn33 (363) 2 (Or.inr (by omega))).trans ve20
        have evz23 := (vn33 (356) ((vz22.toInt : Int).toNat) (Or.inl (by decide))).trans evz23
        have ve24 := (vn33 (363) 3 (Or.inr (by omega))).trans ve24
        have evz27 := (vn33 (356) ((vz26.toInt : Int).toNat) (Or.inl (by decide))).trans evz27
        have ve28 := (vn33 (363) 4 (Or.inr (by omega))).trans ve28
        have vwk := fun vh => WK.oth (fun q' k' vh' => vn33 q' k' (Or.inl vh')) (vwk vh)
        have ve32 : Gi g 363 5 = (0 : Int32) := ve32
        refine X_aload_n rfl rfl rfl rfl ?_
        refine X_getR (a := 363) rfl rfl rfl ((congrFun V.1 355).trans s_355) rfl ((congrFun (V.2.1 355 (by decide)) 26).trans r_355_26) ?_
        refine X_bipush (v := (6 : Int32)) rfl rfl rfl ?_
        refine X_iload rfl rfl rfl ?_
        refine S_iast (I := InvR _) rfl rfl ((congrFun V.1 363).trans s_363) (show (6 : Int32).toInt = 6 from rfl) (by omega) (InvR_putO V (by decide) trivial) (fun g V ve34 vn35 hq => ?_)
        have hG := hq.trans hG
        have hT := (vn35 356 4 (Or.inl (by decide))).trans hT
        have evz1 := (vn35 (356) 7 (Or.inl (by decide))).trans evz1
        have evz9 := (vn35 (356) ((vz8.toInt : Int).toNat) (Or.inl (by decide))).trans evz9
        have ve18 := (vn35 (363) 1 (Or.inr (by omega))).trans ve18
        have ve20 := (vn35 (363) 2 (Or.inr (by omega))).trans ve20
        have evz23 := (vn35 (356) ((vz22.toInt : Int).toNat) (Or.inl (by decide))).trans evz23
        have ve24 := (vn35 (363) 3 (Or.inr (by omega))).trans ve24
        have evz27 := (vn35 (356) ((vz26.toInt : Int).toNat) (Or.inl (by decide))).trans evz27
        have ve28 := (vn35 (363) 4 (Or.inr (by omega))).trans ve28
        have ve32 := (vn35 (363) 5 (Or.inr (by omega))).trans ve32
        have vwk := fun vh => WK.oth (fun q' k' vh' => vn35 q' k' (Or.inl vh')) (vwk vh)
        have ve34 : Gi g 363 6 = vr12 := ve34
        refine X_aload_n rfl rfl rfl rfl ?_
        refine X_getR (a := 363) rfl rfl rfl ((congrFun V.1 355).trans s_355) rfl ((congrFun (V.2.1 355 (by decide)) 26).trans r_355_26) ?_
        refine X_bipush (v := (7 : Int32)) rfl rfl rfl ?_
        refine X_aload_n rfl rfl rfl rfl ?_
        refine X_iload_n rfl rfl rfl rfl ?_
        refine Y_callV (as := [.int x1]) (st := [.int (7 : Int32), .ref 363]) rfl rfl rfl (by decide) rfl (Nat.le_of_ble_eq_true rfl) (by decide) (Nat.le_of_ble_eq_true rfl) rfl ((congrFun V.1 355).trans s_355) (by decide) (C_X13_usesOf V x1 y1 hx1 (by omega) ) ?_
        rintro _ g' ⟨vr36, rfl, hgg⟩
        subst hgg
        refine S_iast (I := InvR _) rfl rfl ((congrFun V.1 363).trans s_363) (show (7 : Int32).toInt = 7 from rfl) (by omega) (InvR_putO V (by decide) trivial) (fun g V ve37 vn38 hq => ?_)
        have hG := hq.trans hG
        have hT := (vn38 356 4 (Or.inl (by decide))).trans hT
        have evz1 := (vn38 (356) 7 (Or.inl (by decide))).trans evz1
        have evz9 := (vn38 (356) ((vz8.toInt : Int).toNat) (Or.inl (by decide))).trans evz9
        have ve18 := (vn38 (363) 1 (Or.inr (by omega))).trans ve18
        have ve20 := (vn38 (363) 2 (Or.inr (by omega))).trans ve20
        have evz23 := (vn38 (356) ((vz22.toInt : Int).toNat) (Or.inl (by decide))).trans evz23
        have ve24 := (vn38 (363) 3 (Or.inr (by omega))).trans ve24
        have evz27 := (vn38 (356) ((vz26.toInt : Int).toNat) (Or.inl (by decide))).trans evz27
        have ve28 := (vn38 (363) 4 (Or.inr (by omega))).trans ve28
        have ve32 := (vn38 (363) 5 (Or.inr (by omega))).trans ve32
        have ve34 := (vn38 (363) 6 (Or.inr (by omega))).trans ve34
        have vwk := fun vh => WK.oth (fun q' k' vh' => vn38 q' k' (Or.inl vh')) (vwk vh)
        have ve37 : Gi g 363 7 = vr36 := ve37
        refine X_aload_n rfl rfl rfl rfl ?_
        refine X_iload_n rfl rfl rfl rfl ?_
        refine Y_callV (as := [.int vr6]) (st := []) rfl rfl rfl (by decide) rfl (Nat.le_of_ble_eq_true rfl) (by decide) (Nat.le_of_ble_eq_true rfl) rfl ((congrFun V.1 355).trans s_355) (by decide) (C_X13_work V vr6 vr6.toInt rfl (by omega) (vwk (by omega))) ?_
        rintro _ g ⟨rfl, V, hq, chA⟩
        have hG := hq.trans hG
        have evz1 := (congrFun chA 7).trans evz1
        have hT := (congrFun chA 4).trans hT
        refine X_aload_n rfl rfl rfl rfl ?_
        refine X_getR (a := 365) rfl rfl rfl ((congrFun V.1 355).trans s_355) rfl ((congrFun (V.2.1 355 (by decide)) 28).trans r_355_28) ?_
        refine X_iconst (v := (0 : Int32)) rfl rfl rfl ?_
        refine S_zald rfl rfl ((congrFun V.1 365).trans s_365) (show (0 : Int32).toInt = 0 from rfl) (by omega) (fun vz40 evz40 => ?_)
        have evz40 : Gi g 365 0 = vz40 := evz40
        have vf41 := O_365 (V.2.2.2.2.2.2.1 365 (0) (Nat.le_of_ble_eq_true rfl))
        rw [evz40] at vf41
        have hr := (rfl : vz40.toInt = vz40.toInt)
        exact LW_ireturn (st := []) rfl rfl (nbool rfl (by omega)) ⟨_, rfl, by omega, by omega, V, hG, hT⟩
      · refine X_iconst (v := (1 : Int32)) rfl rfl rfl ?_
        refine LW_goto (tgt := 166) rfl rfl ?_
        refine S_iast (I := InvR _) rfl rfl ((congrFun V.1 363).trans s_363) (show (5 : Int32).toInt = 5 from rfl) (by omega) (InvR_putO V (by decide) trivial) (fun g V ve42 vn43 hq => ?_)
        have hG := hq.trans hG
        have hT := (vn43 356 4 (Or.inl (by decide))).trans hT
        have evz1 := (vn43 (356) 7 (Or.inl (by decide))).trans evz1
        have evz9 := (vn43 (356) ((vz8.toInt : Int).toNat) (Or.inl (by decide))).trans evz9
        have ve18 := (vn43 (363) 1 (Or.inr (by omega))).trans ve18
        have ve20 := (vn43 (363) 2 (Or.inr (by omega))).trans ve20
        have evz23 := (vn43 (356) ((vz22.toInt : Int).toNat) (Or.inl (by decide))).trans evz23
        have ve24 := (vn43 (363) 3 (Or.inr (by omega))).trans ve24
        have evz27 := (vn43 (356) ((vz26.toInt : Int).toNat) (Or.inl (by decide))).trans evz27
        have ve28 := (vn43 (363) 4 (Or.inr (by omega))).trans ve28
        have vwk := fun vh => WK.oth (fun q' k' vh' => vn43 q' k' (Or.inl vh')) (vwk vh)
        have ve42 : Gi g 363 5 = (1 : Int32) := ve42
        refine X_aload_n rfl rfl rfl rfl ?_
        refine X_getR (a := 363) rfl rfl rfl ((congrFun V.1 355).trans s_355) rfl ((congrFun (V.2.1 355 (by decide)) 26).trans r_355_26) ?_
        refine X_bipush (v := (6 : Int32)) rfl rfl rfl ?_
        refine X_iload rfl rfl rfl ?_
        refine S_iast (I := InvR _) rfl rfl ((congrFun V.1 363).trans s_363) (show (6 : Int32).toInt = 6 from rfl) (by omega) (InvR_putO V (by decide) trivial) (fun g V ve44 vn45 hq => ?_)
        have hG := hq.trans hG
        have hT := (vn45 356 4 (Or.inl (by decide))).trans hT
        have evz1 := (vn45 (356) 7 (Or.inl (by decide))).trans evz1
        have evz9 := (vn45 (356) ((vz8.toInt : Int).toNat) (Or.inl (by decide))).trans evz9
        have ve18 := (vn45 (363) 1 (Or.inr (by omega))).trans ve18
        have ve20 := (vn45 (363) 2 (Or.inr (by omega))).trans ve20
        have evz23 := (vn45 (356) ((vz22.toInt : Int).toNat) (Or.inl (by decide))).trans evz23
        have ve24 := (vn45 (363) 3 (Or.inr (by omega))).trans ve24
        have evz27 := (vn45 (356) ((vz26.toInt : Int).toNat) (Or.inl (by decide))).trans evz27
        have ve28 := (vn45 (363) 4 (Or.inr (by omega))).trans ve28
        have ve42 := (vn45 (363) 5 (Or.inr (by omega))).trans ve42
        have vwk := fun vh => WK.oth (fun q' k' vh' => vn45 q' k' (Or.inl vh')) (vwk vh)
        have ve44 : Gi g 363 6 = vr12 := ve44
        refine X_aload_n rfl rfl rfl rfl ?_
        refine X_getR (a := 363) rfl rfl rfl ((congrFun V.1 355).trans s_355) rfl ((congrFun (V.2.1 355 (by decide)) 26).trans r_355_26) ?_
        refine X_bipush (v := (7 : Int32)) rfl rfl rfl ?_
        refine X_aload_n rfl rfl rfl rfl ?_
        refine X_iload_n rfl rfl rfl rfl ?_
        refine Y_callV (as := [.int x1]) (st := [.int (7 : Int32), .ref 363]) rfl rfl rfl (by decide) rfl (Nat.le_of_ble_eq_true rfl) (by decide) (Nat.le_of_ble_eq_true rfl) rfl ((congrFun V.1 355).trans s_355) (by decide) (C_X13_usesOf V x1 y1 hx1 (by omega) ) ?_
        rintro _ g' ⟨vr46, rfl, hgg⟩
        subst hgg
        refine S_iast (I := InvR _) rfl rfl ((congrFun V.1 363).trans s_363) (show (7 : Int32).toInt = 7 from rfl) (by omega) (InvR_putO V (by decide) trivial) (fun g V ve47 vn48 hq => ?_)
        have hG := hq.trans hG
        have hT := (vn48 356 4 (Or.inl (by decide))).trans hT
        have evz1 := (vn48 (356) 7 (Or.inl (by decide))).trans evz1
        have evz9 := (vn48 (356) ((vz8.toInt : Int).toNat) (Or.inl (by decide))).trans evz9
        have ve18 := (vn48 (363) 1 (Or.inr (by omega))).trans ve18
        have ve20 := (vn48 (363) 2 (Or.inr (by omega))).trans ve20
        have evz23 := (vn48 (356) ((vz22.toInt : Int).toNat) (Or.inl (by decide))).trans evz23
        have ve24 := (vn48 (363) 3 (Or.inr (by omega))).trans ve24
        have evz27 := (vn48 (356) ((vz26.toInt : Int).toNat) (Or.inl (by decide))).trans evz27
        have ve28 := (vn48 (363) 4 (Or.inr (by omega))).trans ve28
        have ve42 := (vn48 (363) 5 (Or.inr (by omega))).trans ve42
        have ve44 := (vn48 (363) 6 (Or.inr (by omega))).trans ve44
        have vwk := fun vh => WK.oth (fun q' k' vh' => vn48 q' k' (Or.inl vh')) (vwk vh)
        have ve47 : Gi g 363 7 = vr46 := ve47
        refine X_aload_n rfl rfl rfl rfl ?_
        refine X_iload_n rfl rfl rfl rfl ?_
        refine Y_callV (as := [.int vr6]) (st := []) rfl rfl rfl (by decide) rfl (Nat.le_of_ble_eq_true rfl) (by decide) (Nat.le_of_ble_eq_true rfl) rfl ((congrFun V.1 355).trans s_355) (by decide) (C_X13_work V vr6 vr6.toInt rfl (by omega) (vwk (by omega))) ?_
        rintro _ g ⟨rfl, V, hq, chA⟩
        have hG := hq.trans hG
        have evz1 := (congrFun chA 7).trans evz1
        have hT := (congrFun chA 4).trans hT
        refine X_aload_n rfl rfl rfl rfl ?_
        refine X_getR (a := 365) rfl rfl rfl ((congrFun V.1 355).trans s_355) rfl ((congrFun (V.2.1 355 (by decide)) 28).trans r_355_28) ?_
        refine X_iconst (v := (0 : Int32)) rfl rfl rfl ?_
        refine S_zald rfl rfl ((congrFun V.1 365).trans s_365) (show (0 : Int32).toInt = 0 from rfl) (by omega) (fun vz50 evz50 => ?_)
        have evz50 : Gi g 365 0 = vz50 := evz50
        have vf51 := O_365 (V.2.2.2.2.2.2.1 365 (0) (Nat.le_of_ble_eq_true rfl))
        rw [evz50] at vf51
        have hr := (rfl : vz50.toInt = vz50.toInt)
        exact LW_ireturn (st := []) rfl rfl (nbool rfl (by omega)) ⟨_, rfl, by omega, by omega, V, hG, hT⟩
    · refine X_iload_n rfl rfl rfl rfl ?_
      refine X_iconst (v := (1 : Int32)) rfl rfl rfl ?_
      refine S_icmp_ne (tgt := 73) rfl rfl rfl (show (0 : Int32).toInt = 0 from rfl) (show (1 : Int32).toInt = 1 from rfl) (fun vh52 => ?_) (fun q => absurd q (by omega))
      refine X_iload rfl rfl rfl ?_
      refine S_if_le (tgt := 94) rfl rfl rfl rfl (fun vh53 => ?_) (fun vh53 => ?_)
      · refine X_iconst (v := (0 : Int32)) rfl rfl rfl ?_
        exact LW_ireturn (st := []) rfl rfl rfl ⟨_, rfl, by decide, by decide, V, hG, hT⟩
      · refine X_aload_n rfl rfl rfl rfl ?_
        refine X_getR (a := 356) rfl rfl rfl ((congrFun V.1 355).trans s_355) rfl ((congrFun (V.2.1 355 (by decide)) 0).trans r_355_0) ?_
        refine X_bipush (v := (38 : Int32)) rfl rfl rfl ?_
        refine X_iload_n rfl rfl rfl rfl ?_
        refine S_iadd rfl rfl (show (38 : Int32).toInt = 38 from rfl) hx1 (by omega) (fun vz54 hvz54 => ?_)
        refine S_iald rfl rfl ((congrFun V.1 356).trans s_356) rfl (by omega) (fun vz55 evz55 => ?_)
        refine S_if_le (tgt := 94) rfl rfl rfl rfl (fun vh56 => ?_) (fun vh56 => ?_)
        · refine X_iconst (v := (0 : Int32)) rfl rfl rfl ?_
          exact LW_ireturn (st := []) rfl rfl rfl ⟨_, rfl, by decide, by decide, V, hG, hT⟩
        · refine X_iconst (v := (1 : Int32)) rfl rfl rfl ?_
          refine LW_goto (tgt := 95) rfl rfl ?_
          exact LW_ireturn (st := []) rfl rfl rfl ⟨_, rfl, by decide, by decide, V, hG, hT⟩
  · refine X_iconst (v := (1 : Int32)) rfl rfl rfl ?_
    refine LW_goto (tgt := 14) rfl rfl ?_
    refine LW_ireturn (st := []) rfl rfl rfl ?_
    refine LW_ireturn (st := []) rfl rfl rfl ?_
    refine S_if_eq (tgt := 12) rfl rfl rfl (show (1 : Int32).toInt = 1 from rfl) (fun q => absurd q (by omega)) (fun vh57 => ?_)
    refine X_iconst (v := (1 : Int32)) rfl rfl rfl ?_
    refine LW_goto (tgt := 13) rfl rfl ?_
    refine X_istore_n (i := 2) (ls' := [some (.ref 355), some (.int x1), some (.int (1 : Int32)), none, none]) rfl rfl rfl (Nat.le_of_ble_eq_true rfl) rfl ?_
    refine X_aload_n rfl rfl rfl rfl ?_
    refine X_iload_n rfl rfl rfl rfl ?_
    refine Y_callV (as := [.int (1 : Int32)]) (st := []) rfl rfl rfl (by decide) rfl (Nat.le_of_ble_eq_true rfl) (by decide) (Nat.le_of_ble_eq_true rfl) rfl ((congrFun V.1 355).trans s_355) (by decide) (C_X13_clauseOf V (1 : Int32) 1 (show (1 : Int32).toInt = 1 from rfl) ) ?_
    rintro _ g' ⟨vr58, rfl, hrvr580, hrvr581, hgg, vq59⟩
    subst hgg
    have vwk : 0 ≤ vr58.toInt → WK g vr58.toInt := fun vh => ⟨_, by omega, by omega, vq59 vh⟩
    refine X_istore_n (i := 3) (ls' := [some (.ref 355), some (.int x1), some (.int (1 : Int32)), some (.int vr58), none]) rfl rfl rfl (Nat.le_of_ble_eq_true rfl) rfl ?_
    refine X_aload_n rfl rfl rfl rfl ?_
    refine X_getR (a := 356) rfl rfl rfl ((congrFun V.1 355).trans s_355) rfl ((congrFun (V.2.1 355 (by decide)) 0).trans r_355_0) ?_
    refine X_bipush (v := (90 : Int32)) rfl rfl rfl ?_
    refine X_iload_n rfl rfl rfl rfl ?_
    refine S_iadd rfl rfl (show (90 : Int32).toInt = 90 from rfl) hx1 (by omega) (fun vz60 hvz60 => ?_)
    refine S_iald rfl rfl ((congrFun V.1 356).trans s_356) rfl (by omega) (fun vz61 evz61 => ?_)
    refine X_aload_n rfl rfl rfl rfl ?_
    refine X_getR (a := 356) rfl rfl rfl ((congrFun V.1 355).trans s_355) rfl ((congrFun (V.2.1 355 (by decide)) 0).trans r_355_0) ?_
    refine X_bipush (v := (7 : Int32)) rfl rfl rfl ?_
    refine S_iald_v rfl rfl ((congrFun V.1 356).trans s_356) (show (7 : Int32).toInt = 7 from rfl) (by omega) evz1 ?_
    refine S_iandT rfl rfl (fun vz63 => ?_)
    refine Y_callS (as := [.int vz63]) (st := []) rfl rfl rfl (by decide) rfl (Nat.le_of_ble_eq_true rfl) (by decide) (Nat.le_of_ble_eq_true rfl) rfl (C_X13_bitsB V vz63 vz63.toInt rfl ) ?_
    rintro _ g' ⟨vr64, rfl, hrvr640, hrvr641, hgg, vq65⟩
    subst hgg
    refine X_istore (i := 4) (ls' := [some (.ref 355), some (.int x1), some (.int (1 : Int32)), some (.int vr58), some (.int vr64)]) rfl rfl (Nat.le_of_ble_eq_true rfl) rfl ?_
    refine X_iload_n rfl rfl rfl rfl ?_
    refine S_if_ge (tgt := 96) rfl rfl rfl rfl (fun vh66 => ?_) (fun vh66 => ?_)
    · refine X_aload_n rfl rfl rfl rfl ?_
      refine X_getR (a := 363) rfl rfl rfl ((congrFun V.1 355).trans s_355) rfl ((congrFun (V.2.1 355 (by decide)) 26).trans r_355_26) ?_
      refine X_iconst (v := (1 : Int32)) rfl rfl rfl ?_
      refine X_aload_n rfl rfl rfl rfl ?_
      refine X_getR (a := 356) rfl rfl rfl ((congrFun V.1 355).trans s_355) rfl ((congrFun (V.2.1 355 (by decide)) 0).trans r_355_0) ?_
      refine X_bipush (v := (7 : Int32)) rfl rfl rfl ?_
      refine S_iald_v rfl rfl ((congrFun V.1 356).trans s_356) (show (7 : Int32).toInt = 7 from rfl) (by omega) evz1 ?_
      refine Y_callS (as := [.int vz1]) (st := [.int (1 : Int32), .ref 363]) rfl rfl rfl (by decide) rfl (Nat.le_of_ble_eq_true rfl) (by decide) (Nat.le_of_ble_eq_true rfl) rfl (C_X13_bitsB V vz1 vz1.toInt rfl ) ?_
      rintro _ g' ⟨vr68, rfl, hrvr680, hrvr681, hgg, vq69⟩
      subst hgg
      refine S_iast (I := InvR _) rfl rfl ((congrFun V.1 363).trans s_363) (show (1 : Int32).toInt = 1 from rfl) (by omega) (InvR_putO V (by decide) trivial) (fun g V ve70 vn71 hq => ?_)
      have hG := hq.trans hG
      have hT := (vn71 356 4 (Or.inl (by decide))).trans hT
      have evz1 := (vn71 (356) 7 (Or.inl (by decide))).trans evz1
      have evz61 := (vn71 (356) ((vz60.toInt : Int).toNat) (Or.inl (by decide))).trans evz61
      have vwk := fun vh => WK.oth (fun q' k' vh' => vn71 q' k' (Or.inl vh')) (vwk vh)
      have ve70 : Gi g 363 1 = vr68 := ve70
      refine X_aload_n rfl rfl rfl rfl ?_
      refine X_getR (a := 363) rfl rfl rfl ((congrFun V.1 355).trans s_355) rfl ((congrFun (V.2.1 355 (by decide)) 26).trans r_355_26) ?_
      refine X_iconst (v := (2 : Int32)) rfl rfl rfl ?_
      refine X_iload_n rfl rfl rfl rfl ?_
      refine S_iast (I := InvR _) rfl rfl ((congrFun V.1 363).trans s_363) (show (2 : Int32).toInt = 2 from rfl) (by omega) (InvR_putO V (by decide) trivial) (fun g V ve72 vn73 hq => ?_)
      have hG := hq.trans hG
      have hT := (vn73 356 4 (Or.inl (by decide))).trans hT
      have evz1 := (vn73 (356) 7 (Or.inl (by decide))).trans evz1
      have evz61 := (vn73 (356) ((vz60.toInt : Int).toNat) (Or.inl (by decide))).trans evz61
      have ve70 := (vn73 (363) 1 (Or.inr (by omega))).trans ve70
      have vwk := fun vh => WK.oth (fun q' k' vh' => vn73 q' k' (Or.inl vh')) (vwk vh)
      have ve72 : Gi g 363 2 = x1 := ve72
      refine X_aload_n rfl rfl rfl rfl ?_
      refine X_getR (a := 363) rfl rfl rfl ((congrFun V.1 355).trans s_355) rfl ((congrFun (V.2.1 355 (by decide)) 26).trans r_355_26) ?_
      refine X_iconst (v := (3 : Int32)) rfl rfl rfl ?_
      refine X_aload_n rfl rfl rfl rfl ?_
      refine X_getR (a := 356) rfl rfl rfl ((congrFun V.1 355).trans s_355) rfl ((congrFun (V.2.1 355 (by decide)) 0).trans r_355_0) ?_
      refine X_bipush (v := (12 : Int32)) rfl rfl rfl ?_
      refine X_iload_n rfl rfl rfl rfl ?_
      refine S_iadd rfl rfl (show (12 : Int32).toInt = 12 from rfl) hx1 (by omega) (fun vz74 hvz74 => ?_)
      refine S_iald rfl rfl ((congrFun V.1 356).trans s_356) rfl (by omega) (fun vz75 evz75 => ?_)
      refine S_iast (I := InvR _) rfl rfl ((congrFun V.1 363).trans s_363) (show (3 : Int32).toInt = 3 from rfl) (by omega) (InvR_putO V (by decide) trivial) (fun g V ve76 vn77 hq => ?_)
      have hG := hq.trans hG
      have hT := (vn77 356 4 (Or.inl (by decide))).trans hT
      have evz1 := (vn77 (356) 7 (Or.inl (by decide))).trans evz1
      have evz61 := (vn77 (356) ((vz60.toInt : Int).toNat) (Or.inl (by decide))).trans evz61
      have ve70 := (vn77 (363) 1 (Or.inr (by omega))).trans ve70
      have ve72 := (vn77 (363) 2 (Or.inr (by omega))).trans ve72
      have evz75 := (vn77 (356) ((vz74.toInt : Int).toNat) (Or.inl (by decide))).trans evz75
      have vwk := fun vh => WK.oth (fun q' k' vh' => vn77 q' k' (Or.inl vh')) (vwk vh)
      have ve76 : Gi g 363 3 = vz75 := ve76
      refine X_aload_n rfl rfl rfl rfl ?_
      refine X_getR (a := 363) rfl rfl rfl ((congrFun V.1 355).trans s_355) rfl ((congrFun (V.2.1 355 (by decide)) 26).trans r_355_26) ?_
      refine X_iconst (v := (4 : Int32)) rfl rfl rfl ?_
      refine X_aload_n rfl rfl rfl rfl ?_
      refine X_getR (a := 356) rfl rfl rfl ((congrFun V.1 355).trans s_355) rfl ((congrFun (V.2.1 355 (by decide)) 0).trans r_355_0) ?_
      refine X_bipush (v := (38 : Int32)) rfl rfl rfl ?_
      refine X_iload_n rfl rfl rfl rfl ?_
      refine S_iadd rfl rfl (show (38 : Int32).toInt = 38 from rfl) hx1 (by omega) (fun vz78 hvz78 => ?_)
      refine S_iald rfl rfl ((congrFun V.1 356).trans s_356) rfl (by omega) (fun vz79 evz79 => ?_)
      refine S_iast (I := InvR _) rfl rfl ((congrFun V.1 363).trans s_363) (show (4 : Int32).toInt = 4 from rfl) (by omega) (InvR_putO V (by decide) trivial) (fun g V ve80 vn81 hq => ?_)
      have hG := hq.trans hG
      have hT := (vn81 356 4 (Or.inl (by decide))).trans hT
      have evz1 := (vn81 (356) 7 (Or.inl (by decide))).trans evz1
      have evz61 := (vn81 (356) ((vz60.toInt : Int).toNat) (Or.inl (by decide))).trans evz61
      have ve70 := (vn81 (363) 1 (Or.inr (by omega))).trans ve70
      have ve72 := (vn81 (363) 2 (Or.inr (by omega))).trans ve72
      have evz75 := (vn81 (356) ((vz74.toInt : Int).toNat) (Or.inl (by decide))).trans evz75
      have ve76 := (vn81 (363) 3 (Or.inr (by omega))).trans ve76
      have evz79 := (vn81 (356) ((vz78.toInt : Int).toNat) (Or.inl (by decide))).trans evz79
      have vwk := fun vh => WK.oth (fun q' k' vh' => vn81 q' k' (Or.inl vh')) (vwk vh)
      have ve80 : Gi g 363 4 = vz79 := ve80
      refine X_aload_n rfl rfl rfl rfl ?_
      refine X_getR (a := 363) rfl rfl rfl ((congrFun V.1 355).trans s_355) rfl ((congrFun (V.2.1 355 (by decide)) 26).trans r_355_26) ?_
      refine X_iconst (v := (5 : Int32)) rfl rfl rfl ?_
      refine X_iload_n rfl rfl rfl rfl ?_
      refine Y_callS (as := [.int x1]) (st := [.int (5 : Int32), .ref 363]) rfl rfl rfl (by decide) rfl (Nat.le_of_ble_eq_true rfl) (by decide) (Nat.le_of_ble_eq_true rfl) rfl (C_X13_isVowel V x1 y1 hx1 (by omega) ) ?_
      rintro _ g' ⟨vr82, rfl, hrvr820, hrvr821, hgg⟩
      subst hgg
      refine S_if_eq (tgt := 165) rfl rfl rfl rfl (fun vh83 => ?_) (fun vh83 => ?_)
      · refine X_iconst (v := (0 : Int32)) rfl rfl rfl ?_
        refine S_iast (I := InvR _) rfl rfl ((congrFun V.1 363).trans s_363) (show (5 : Int32).toInt = 5 from rfl) (by omega) (InvR_putO V (by decide) trivial) (fun g V ve84 vn85 hq => ?_)
        have hG := hq.trans hG
        have hT := (vn85 356 4 (Or.inl (by decide))).trans hT
        have evz1 := (vn85 (356) 7 (Or.inl (by decide))).trans evz1
        have evz61 := (vn85 (356) ((vz60.toInt : Int).toNat) (Or.inl (by decide))).trans evz61
        have ve70 := (vn85 (363) 1 (Or.inr (by omega))).trans ve70
        have ve72 := (vn85 (363) 2 (Or.inr (by omega))).trans ve72
        have evz75 := (vn85 (356) ((vz74.toInt : Int).toNat) (Or.inl (by decide))).trans evz75
        have ve76 := (vn85 (363) 3 (Or.inr (by omega))).trans ve76
        have evz79 := (vn85 (356) ((vz78.toInt : Int).toNat) (Or.inl (by decide))).trans evz79
        have ve80 := (vn85 (363) 4 (Or.inr (by omega))).trans ve80
        have vwk := fun vh => WK.oth (fun q' k' vh' => vn85 q' k' (Or.inl vh')) (vwk vh)
        have ve84 : Gi g 363 5 = (0 : Int32) := ve84
        refine X_aload_n rfl rfl rfl rfl ?_
        refine X_getR (a := 363) rfl rfl rfl ((congrFun V.1 355).trans s_355) rfl ((congrFun (V.2.1 355 (by decide)) 26).trans r_355_26) ?_
        refine X_bipush (v := (6 : Int32)) rfl rfl rfl ?_
        refine X_iload rfl rfl rfl ?_
        refine S_iast (I := InvR _) rfl rfl ((congrFun V.1 363).trans s_363) (show (6 : Int32).toInt = 6 from rfl) (by omega) (InvR_putO V (by decide) trivial) (fun g V ve86 vn87 hq => ?_)
        have hG := hq.trans hG
        have hT := (vn87 356 4 (Or.inl (by decide))).trans hT
        have evz1 := (vn87 (356) 7 (Or.inl (by decide))).trans evz1
        have evz61 := (vn87 (356) ((vz60.toInt : Int).toNat) (Or.inl (by decide))).trans evz61
        have ve70 := (vn87 (363) 1 (Or.inr (by omega))).trans ve70
        have ve72 := (vn87 (363) 2 (Or.inr (by omega))).trans ve72
        have evz75 := (vn87 (356) ((vz74.toInt : Int).toNat) (Or.inl (by decide))).trans evz75
        have ve76 := (vn87 (363) 3 (Or.inr (by omega))).trans ve76
        have evz79 := (vn87 (356) ((vz78.toInt : Int).toNat) (Or.inl (by decide))).trans evz79
        have ve80 := (vn87 (363) 4 (Or.inr (by omega))).trans ve80
        have ve84 := (vn87 (363) 5 (Or.inr (by omega))).trans ve84
        have vwk := fun vh => WK.oth (fun q' k' vh' => vn87 q' k' (Or.inl vh')) (vwk vh)
        have ve86 : Gi g 363 6 = vr64 := ve86
        refine X_aload_n rfl rfl rfl rfl ?_
        refine X_getR (a := 363) rfl rfl rfl ((congrFun V.1 355).trans s_355) rfl ((congrFun (V.2.1 355 (by decide)) 26).trans r_355_26) ?_
        refine X_bipush (v := (7 : Int32)) rfl rfl rfl ?_
        refine X_aload_n rfl rfl rfl rfl ?_
        refine X_iload_n rfl rfl rfl rfl ?_
        refine Y_callV (as := [.int x1]) (st := [.int (7 : Int32), .ref 363]) rfl rfl rfl (by decide) rfl (Nat.le_of_ble_eq_true rfl) (by decide) (Nat.le_of_ble_eq_true rfl) rfl ((congrFun V.1 355).trans s_355) (by decide) (C_X13_usesOf V x1 y1 hx1 (by omega) ) ?_
        rintro _ g' ⟨vr88, rfl, hgg⟩
        subst hgg
        refine S_iast (I := InvR _) rfl rfl ((congrFun V.1 363).trans s_363) (show (7 : Int32).toInt = 7 from rfl) (by omega) (InvR_putO V (by decide) trivial) (fun g V ve89 vn90 hq => ?_)
        have hG := hq.trans hG
        have hT := (vn90 356 4 (Or.inl (by decide))).trans hT
        have evz1 := (vn90 (356) 7 (Or.inl (by decide))).trans evz1
        have evz61 := (vn90 (356) ((vz60.toInt : Int).toNat) (Or.inl (by decide))).trans evz61
        have ve70 := (vn90 (363) 1 (Or.inr (by omega))).trans ve70
        have ve72 := (vn90 (363) 2 (Or.inr (by omega))).trans ve72
        have evz75 := (vn90 (356) ((vz74.toInt : Int).toNat) (Or.inl (by decide))).trans evz75
        have ve76 := (vn90 (363) 3 (Or.inr (by omega))).trans ve76
        have evz79 := (vn90 (356) ((vz78.toInt : Int).toNat) (Or.inl (by decide))).trans evz79
        have ve80 := (vn90 (363) 4 (Or.inr (by omega))).trans ve80
        have ve84 := (vn90 (363) 5 (Or.inr (by omega))).trans ve84
        have ve86 := (vn90 (363) 6 (Or.inr (by omega))).trans ve86
        have vwk := fun vh => WK.oth (fun q' k' vh' => vn90 q' k' (Or.inl vh')) (vwk vh)
        have ve89 : Gi g 363 7 = vr88 := ve89
        refine X_aload_n rfl rfl rfl rfl ?_
        refine X_iload_n rfl rfl rfl rfl ?_
        refine Y_callV (as := [.int vr58]) (st := []) rfl rfl rfl (by decide) rfl (Nat.le_of_ble_eq_true rfl) (by decide) (Nat.le_of_ble_eq_true rfl) rfl ((congrFun V.1 355).trans s_355) (by decide) (C_X13_work V vr58 vr58.toInt rfl (by omega) (vwk (by omega))) ?_
        rintro _ g ⟨rfl, V, hq, chA⟩
        have hG := hq.trans hG
        have evz1 := (congrFun chA 7).trans evz1
        have hT := (congrFun chA 4).trans hT
        refine X_aload_n rfl rfl rfl rfl ?_
        refine X_getR (a := 365) rfl rfl rfl ((congrFun V.1 355).trans s_355) rfl ((congrFun (V.2.1 355 (by decide)) 28).trans r_355_28) ?_
        refine X_iconst (v := (0 : Int32)) rfl rfl rfl ?_
        refine S_zald rfl rfl ((congrFun V.1 365).trans s_365) (show (0 : Int32).toInt = 0 from rfl) (by omega) (fun vz92 evz92 => ?_)
        have evz92 : Gi g 365 0 = vz92 := evz92
        have vf93 := O_365 (V.2.2.2.2.2.2.1 365 (0) (Nat.le_of_ble_eq_true rfl))
        rw [evz92] at vf93
        have hr := (rfl : vz92.toInt = vz92.toInt)
        exact LW_ireturn (st := []) rfl rfl (nbool rfl (by omega)) ⟨_, rfl, by omega, by omega, V, hG, hT⟩
      · refine X_iconst (v := (1 : Int32)) rfl rfl rfl ?_
        refine LW_goto (tgt := 166) rfl rfl ?_
        refine S_iast (I := InvR _) rfl rfl ((congrFun V.1 363).trans s_363) (show (5 : Int32).toInt = 5 from rfl) (by omega) (InvR_putO V (by decide) trivial) (fun g V ve94 vn95 hq => ?_)
        have hG := hq.trans hG
        have hT := (vn95 356 4 (Or.inl (by decide))).trans hT
        have evz1 := (vn95 (356) 7 (Or.inl (by decide))).trans evz1
        have evz61 := (vn95 (356) ((vz60.toInt : Int).toNat) (Or.inl (by decide))).trans evz61
        have ve70 := (vn95 (363) 1 (Or.inr (by omega))).trans ve70
        have ve72 := (vn95 (363) 2 (Or.inr (by omega))).trans ve72
        have evz75 := (vn95 (356) ((vz74.toInt : Int).toNat) (Or.inl (by decide))).trans evz75
        have ve76 := (vn95 (363) 3 (Or.inr (by omega))).trans ve76
        have evz79 := (vn95 (356) ((vz78.toInt : Int).toNat) (Or.inl (by decide))).trans evz79
        have ve80 := (vn95 (363) 4 (Or.inr (by omega))).trans ve80
        have vwk := fun vh => WK.oth (fun q' k' vh' => vn95 q' k' (Or.inl vh')) (vwk vh)
        have ve94 : Gi g 363 5 = (1 : Int32) := ve94
        refine X_aload_n rfl rfl rfl rfl ?_
        refine X_getR (a := 363) rfl rfl rfl ((congrFun V.1 355).trans s_355) rfl ((congrFun (V.2.1 355 (by decide)) 26).trans r_355_26) ?_
        refine X_bipush (v := (6 : Int32)) rfl rfl rfl ?_
        refine X_iload rfl rfl rfl ?_
        refine S_iast (I := InvR _) rfl rfl ((congrFun V.1 363).trans s_363) (show (6 : Int32).toInt = 6 from rfl) (by omega) (InvR_putO V (by decide) trivial) (fun g V ve96 vn97 hq => ?_)
        have hG := hq.trans hG
        have hT := (vn97 356 4 (Or.inl (by decide))).trans hT
        have evz1 := (vn97 (356) 7 (Or.inl (by decide))).trans evz1
        have evz61 := (vn97 (356) ((vz60.toInt : Int).toNat) (Or.inl (by decide))).trans evz61
        have ve70 := (vn97 (363) 1 (Or.inr (by omega))).trans ve70
        have ve72 := (vn97 (363) 2 (Or.inr (by omega))).trans ve72
        have evz75 := (vn97 (356) ((vz74.toInt : Int).toNat) (Or.inl (by decide))).trans evz75
        have ve76 := (vn97 (363) 3 (Or.inr (by omega))).trans ve76
        have evz79 := (vn97 (356) ((vz78.toInt : Int).toNat) (Or.inl (by decide))).trans evz79
        have ve80 := (vn97 (363) 4 (Or.inr (by omega))).trans ve80
        have ve94 := (vn97 (363) 5 (Or.inr (by omega))).trans ve94
        have vwk := fun vh => WK.oth (fun q' k' vh' => vn97 q' k' (Or.inl vh')) (vwk vh)
        have ve96 : Gi g 363 6 = vr64 := ve96
        refine X_aload_n rfl rfl rfl rfl ?_
        refine X_getR (a := 363) rfl rfl rfl ((congrFun V.1 355).trans s_355) rfl ((congrFun (V.2.1 355 (by decide)) 26).trans r_355_26) ?_
        refine X_bipush (v := (7 : Int32)) rfl rfl rfl ?_
        refine X_aload_n rfl rfl rfl rfl ?_
        refine X_iload_n rfl rfl rfl rfl ?_
        refine Y_callV (as := [.int x1]) (st := [.int (7 : Int32), .ref 363]) rfl rfl rfl (by decide) rfl (Nat.le_of_ble_eq_true rfl) (by decide) (Nat.le_of_ble_eq_true rfl) rfl ((congrFun V.1 355).trans s_355) (by decide) (C_X13_usesOf V x1 y1 hx1 (by omega) ) ?_
        rintro _ g' ⟨vr98, rfl, hgg⟩
        subst hgg
        refine S_iast (I := InvR _) rfl rfl ((congrFun V.1 363).trans s_363) (show (7 : Int32).toInt = 7 from rfl) (by omega) (InvR_putO V (by decide) trivial) (fun g V ve99 vn100 hq => ?_)
        have hG := hq.trans hG
        have hT := (vn100 356 4 (Or.inl (by decide))).trans hT
        have evz1 := (vn100 (356) 7 (Or.inl (by decide))).trans evz1
        have evz61 := (vn100 (356) ((vz60.toInt : Int).toNat) (Or.inl (by decide))).trans evz61
        have ve70 := (vn100 (363) 1 (Or.inr (by omega))).trans ve70
        have ve72 := (vn100 (363) 2 (Or.inr (by omega))).trans ve72
        have evz75 := (vn100 (356) ((vz74.toInt : Int).toNat) (Or.inl (by decide))).trans evz75
        have ve76 := (vn100 (363) 3 (Or.inr (by omega))).trans ve76
        have evz79 := (vn100 (356) ((vz78.toInt : Int).toNat) (Or.inl (by decide))).trans evz79
        have ve80 := (vn100 (363) 4 (Or.inr (by omega))).trans ve80
        have ve94 := (vn100 (363) 5 (Or.inr (by omega))).trans ve94
        have ve96 := (vn100 (363) 6 (Or.inr (by omega))).trans ve96
        have vwk := fun vh => WK.oth (fun q' k' vh' => vn100 q' k' (Or.inl vh')) (vwk vh)
        have ve99 : Gi g 363 7 = vr98 := ve99
        refine X_aload_n rfl rfl rfl rfl ?_
        refine X_iload_n rfl rfl rfl rfl ?_
        refine Y_callV (as := [.int vr58]) (st := []) rfl rfl rfl (by decide) rfl (Nat.le_of_ble_eq_true rfl) (by decide) (Nat.le_of_ble_eq_true rfl) rfl ((congrFun V.1 355).trans s_355) (by decide) (C_X13_work V vr58 vr58.toInt rfl (by omega) (vwk (by omega))) ?_
        rintro _ g ⟨rfl, V, hq, chA⟩
        have hG := hq.trans hG
        have evz1 := (congrFun chA 7).trans evz1
        have hT := (congrFun chA 4).trans hT
        refine X_aload_n rfl rfl rfl rfl ?_
        refine X_getR (a := 365) rfl rfl rfl ((congrFun V.1 355).trans s_355) rfl ((congrFun (V.2.1 355 (by decide)) 28).trans r_355_28) ?_
        refine X_iconst (v := (0 : Int32)) rfl rfl rfl ?_
        refine S_zald rfl rfl ((congrFun V.1 365).trans s_365) (show (0 : Int32).toInt = 0 from rfl) (by omega) (fun vz102 evz102 => ?_)
        have evz102 : Gi g 365 0 = vz102 := evz102
        have vf103 := O_365 (V.2.2.2.2.2.2.1 365 (0) (Nat.le_of_ble_eq_true rfl))
        rw [evz102] at vf103
        have hr := (rfl : vz102.toInt = vz102.toInt)
        exact LW_ireturn (st := []) rfl rfl (nbool rfl (by omega)) ⟨_, rfl, by omega, by omega, V, hG, hT⟩
    · refine X_iload_n rfl rfl rfl rfl ?_
      refine X_iconst (v := (1 : Int32)) rfl rfl rfl ?_
      refine S_icmp_ne (tgt := 73) rfl rfl rfl (show (1 : Int32).toInt = 1 from rfl) (show (1 : Int32).toInt = 1 from rfl) (fun q => absurd q (by omega)) (fun vh104 => ?_)
      refine X_aload_n rfl rfl rfl rfl ?_
      refine X_getR (a := 356) rfl rfl rfl ((congrFun V.1 355).trans s_355) rfl ((congrFun (V.2.1 355 (by decide)) 0).trans r_355_0) ?_
      refine X_bipush (v := (12 : Int32)) rfl rfl rfl ?_
      refine X_iload_n rfl rfl rfl rfl ?_
      refine S_iadd rfl rfl (show (12 : Int32).toInt = 12 from rfl) hx1 (by omega) (fun vz105 hvz105 => ?_)
      refine S_iald rfl rfl ((congrFun V.1 356).trans s_356) rfl (by omega) (fun vz106 evz106 => ?_)
      refine X_bipush (v := (9 : Int32)) rfl rfl rfl ?_
      refine S_icmp_le (tgt := 69) rfl rfl rfl rfl (show (9 : Int32).toInt = 9 from rfl) (fun vh107 => ?_) (fun vh107 => ?_)
      · refine X_iconst (v := (0 : Int32)) rfl rfl rfl ?_
        refine LW_goto (tgt := 95) rfl rfl ?_
        exact LW_ireturn (st := []) rfl rfl rfl ⟨_, rfl, by decide, by decide, V, hG, hT⟩
      · refine X_iconst (v := (1 : Int32)) rfl rfl rfl ?_
        refine LW_goto (tgt := 95) rfl rfl ?_
        exact LW_ireturn (st := []) rfl rfl rfl ⟨_, rfl, by decide, by decide, V, hG, hT⟩
