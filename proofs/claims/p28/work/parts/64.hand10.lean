/-! the reference: settlement -/
/-- what is left of the rows of n out of w -/
def rwL (f : Nat → Int32) (w n r : Int) : Int := if r = 1 then ((rwM f w n.toNat : Nat) : Int) + 1 else 0
theorem rwL_nn (f : Nat → Int32) (w n r : Int) : 0 ≤ rwL f w n r := by
  unfold rwL
  split <;> omega
theorem rwL_lt {f f0 : Nat → Int32} {w n r : Int} (vh : rwR f f0 n w r) (hr : r = 0 ∨ r = 1) : rwL f w n r < rwL f0 w n 1 := by
  unfold rwL
  rw [if_pos rfl]
  rcases hr with hr | hr
  · rw [if_neg (by omega)]
    omega
  · have vh2 := (vh.1 hr).2
    rw [if_pos hr]
    omega
theorem rwM_le2 {f : Nat → Int32} {w : Int} (hw : w ≤ 63) : ∀ m : Nat, (∀ j : Nat, j < m → 0 ≤ (f j).toInt) → rwM f w m + 1 ≤ 64 ^ m := by
  intro m
  induction m with
  | zero => exact fun _ => Nat.le_refl _
  | succ m ih =>
    intro vh
    have vh1 := ih (fun j hj => vh j (by omega))
    have vh2 := vh m (Nat.lt_succ_self m)
    rw [Nat.pow_succ]
    show 64 * rwM f w m + (w - (f m).toInt).toNat + 1 ≤ 64 ^ m * 64
    omega
theorem rwL_le {f : Nat → Int32} {w n : Int} (hw : w ≤ 63) (hn : 0 ≤ n ∧ n ≤ 4) (vh : ∀ k : Nat, (k : Int) < n → 0 ≤ (f k).toInt) : rwL f w n 1 ≤ 16777217 := by
  have vh1 := rwM_le2 hw n.toNat (fun j hj => vh j (by omega))
  have vh2 : 64 ^ n.toNat ≤ 64 ^ 4 := Nat.pow_le_pow_right (by decide) (by omega)
  unfold rwL
  rw [if_pos rfl]
  rw [show (64 : Nat) ^ 4 = 16777216 from rfl] at vh2
  omega
set_option maxRecDepth 10000 in
set_option maxHeartbeats 40000000 in
theorem C_X13_settlement_28 {P : Par} {g g0 : LH} {d n : Nat}  (V : InvR P g) (hG : Gr g = Gr g0) (x1 : Int32) (y1 : Int) (hx1 : x1.toInt = y1) (hf1 : 1 ≤ y1 ∧ y1 ≤ 67108863) (x2 : Int32) (y2 : Int) (hx2 : x2.toInt = y2) (hf2 : (-1) ≤ y2) (x3 : Int32) (y3 : Int) (hx3 : x3.toInt = y3) (hf3 : 1 ≤ y3 ∧ y3 ≤ 5) (o4 : Option Value) (hq0 : (Gi g 355 39).toInt ≤ 4) (hmu : (5 - y3) * 16777221 + 16777220 < (n : Int) + 1) (ih28 : ∀ (g : LH) (V : InvR P g) (hG : Gr g = Gr g0) (x1 : Int32) (y1 : Int) (hx1 : x1.toInt = y1) (hf1 : 1 ≤ y1 ∧ y1 ≤ 67108863) (x2 : Int32) (y2 : Int) (hx2 : x2.toInt = y2) (hf2 : (-1) ≤ y2) (x3 : Int32) (y3 : Int) (hx3 : x3.toInt = y3) (hf3 : 1 ≤ y3 ∧ y3 ≤ 5) (o4 : Option Value) (hq0 : (Gi g 355 39).toInt ≤ 4), (5 - y3) * 16777221 + 16777220 < (n : Int) → LW 303 (d + 40) 0 0 28 [some (.ref 355), some (.int x1), some (.int x2), some (.int x3), o4] [] g (fun v g' => ∃ r : Int32, v = some (.int r) ∧ InvR P g' ∧ Gr g' = Gr g0)) (ih51 : ∀ (g : LH) (V : InvR P g) (hG : Gr g = Gr g0) (x1 : Int32) (y1 : Int) (hx1 : x1.toInt = y1) (hf1 : 1 ≤ y1 ∧ y1 ≤ 67108863) (x2 : Int32) (y2 : Int) (hx2 : x2.toInt = y2) (hf2 : (-1) ≤ y2) (x3 : Int32) (y3 : Int) (hx3 : x3.toInt = y3) (hf3 : 1 ≤ y3 ∧ y3 ≤ 4) (x4 : Int32) (y4 : Int) (hx4 : x4.toInt = y4) (hf4 : 0 ≤ y4 ∧ y4 ≤ 1) (hc356_0 : 1 ≤ (Gi g 356 0).toInt ∧ (Gi g 356 0).toInt ≤ 24) (hq0 : (Gi g 355 39).toInt ≤ 4) (hq1 : y3 ≤ (Gi g 356 0).toInt) (hq2 : y4 = 1 → rwI (Gi g 366) (y3) (Gi g 356 0).toInt (y3)), (5 - y3) * 16777221 + 0 + rwL (Gi g 366) (Gi g 356 0).toInt (y3) (y4) * 1 + 0 < (n : Int) → LW 303 (d + 40) 0 0 51 [some (.ref 355), some (.int x1), some (.int x2), some (.int x3), some (.int x4)] [] g (fun v g' => ∃ r : Int32, v = some (.int r) ∧ InvR P g' ∧ Gr g' = Gr g0)) : LW 303 (d + 40) 0 0 28 [some (.ref 355), some (.int x1), some (.int x2), some (.int x3), o4] [] g (fun v g' => ∃ r : Int32, v = some (.int r) ∧ InvR P g' ∧ Gr g' = Gr g0) := by
  obtain ⟨vz1, evz1⟩ : ∃ z, Gi g 355 39 = z := ⟨_, rfl⟩
  rw [evz1] at hq0
  refine X_iload_n rfl rfl rfl rfl ?_
  refine X_iconst (v := (4 : Int32)) rfl rfl rfl ?_
  refine S_icmp_gt (tgt := 84) rfl rfl rfl hx3 (show (4 : Int32).toInt = 4 from rfl) (fun vh2 => ?_) (fun vh2 => ?_)
  · refine X_aload_n rfl rfl rfl rfl ?_
    refine S_getI rfl rfl rfl ((congrFun V.1 355).trans s_355) rfl (fun vz3 evz3 => ?_)
    refine X_ldcw (v := (1000000 : Int32)) rfl rfl rfl ?_
    refine S_icmp_ne (tgt := 96) rfl rfl rfl rfl (show (1000000 : Int32).toInt = 1000000 from rfl) (fun vh4 => ?_) (fun vh4 => ?_)
    · refine X_iload_n rfl rfl rfl rfl ?_
      refine X_iconst (v := (-1 : Int32)) rfl rfl rfl ?_
      refine S_icmp_ne (tgt := 108) rfl rfl rfl hx2 (show (-1 : Int32).toInt = -1 from rfl) (fun vh5 => ?_) (fun vh5 => ?_)
      · refine X_iload_n rfl rfl rfl rfl ?_
        refine X_aload_n rfl rfl rfl rfl ?_
        refine X_getI (v := vz1) rfl rfl rfl ((congrFun V.1 355).trans s_355) rfl evz1 ?_
        refine S_icmp_ge (tgt := 125) rfl rfl rfl hx2 rfl (fun vh6 => ?_) (fun vh6 => ?_)
        · refine X_iconst (v := (-1 : Int32)) rfl rfl rfl ?_
          exact LW_ireturn (st := []) rfl rfl rfl ⟨_, rfl, V, hG⟩
        · refine X_aload_n rfl rfl rfl rfl ?_
          refine X_getR (a := 373) rfl rfl rfl ((congrFun V.1 355).trans s_355) rfl ((congrFun (V.2.1 355 (by decide)) 37).trans r_355_37) ?_
          refine X_iload_n rfl rfl rfl rfl ?_
          refine S_iald rfl rfl ((congrFun V.1 373).trans s_373) hx2 (by omega) (fun vz7 evz7 => ?_)
          refine LW_goto (tgt := 126) rfl rfl ?_
          exact LW_ireturn (st := []) rfl rfl rfl ⟨_, rfl, V, hG⟩
      · refine X_aload_n rfl rfl rfl rfl ?_
        refine X_getI (v := vz3) rfl rfl rfl ((congrFun V.1 355).trans s_355) rfl evz3 ?_
        refine LW_goto (tgt := 126) rfl rfl ?_
        exact LW_ireturn (st := []) rfl rfl rfl ⟨_, rfl, V, hG⟩
    · refine X_iconst (v := (-1 : Int32)) rfl rfl rfl ?_
      exact LW_ireturn (st := []) rfl rfl rfl ⟨_, rfl, V, hG⟩
  · refine X_iload_n rfl rfl rfl rfl ?_
    refine X_aload_n rfl rfl rfl rfl ?_
    refine X_getR (a := 356) rfl rfl rfl ((congrFun V.1 355).trans s_355) rfl ((congrFun (V.2.1 355 (by decide)) 0).trans r_355_0) ?_
    refine X_iconst (v := (0 : Int32)) rfl rfl rfl ?_
    refine S_iald rfl rfl ((congrFun V.1 356).trans s_356) (show (0 : Int32).toInt = 0 from rfl) (by omega) (fun vz8 evz8 => ?_)
    have evz8 : Gi g 356 0 = vz8 := evz8
    have vf9 := A_WORDS (V.2.2.2.1 (0)) (by omega)
    rw [evz8] at vf9
    refine S_icmp_gt (tgt := 84) rfl rfl rfl hx3 rfl (fun vh10 => ?_) (fun vh10 => ?_)
    · refine X_aload_n rfl rfl rfl rfl ?_
      refine S_getI rfl rfl rfl ((congrFun V.1 355).trans s_355) rfl (fun vz11 evz11 => ?_)
      refine X_ldcw (v := (1000000 : Int32)) rfl rfl rfl ?_
      refine S_icmp_ne (tgt := 96) rfl rfl rfl rfl (show (1000000 : Int32).toInt = 1000000 from rfl) (fun vh12 => ?_) (fun vh12 => ?_)
      · refine X_iload_n rfl rfl rfl rfl ?_
        refine X_iconst (v := (-1 : Int32)) rfl rfl rfl ?_
        refine S_icmp_ne (tgt := 108) rfl rfl rfl hx2 (show (-1 : Int32).toInt = -1 from rfl) (fun vh13 => ?_) (fun vh13 => ?_)
        · refine X_iload_n rfl rfl rfl rfl ?_
          refine X_aload_n rfl rfl rfl rfl ?_
          refine X_getI (v := vz1) rfl rfl rfl ((congrFun V.1 355).trans s_355) rfl evz1 ?_
          refine S_icmp_ge (tgt := 125) rfl rfl rfl hx2 rfl (fun vh14 => ?_) (fun vh14 => ?_)
          · refine X_iconst (v := (-1 : Int32)) rfl rfl rfl ?_
            exact LW_ireturn (st := []) rfl rfl rfl ⟨_, rfl, V, hG⟩
          · refine X_aload_n rfl rfl rfl rfl ?_
            refine X_getR (a := 373) rfl rfl rfl ((congrFun V.1 355).trans s_355) rfl ((congrFun (V.2.1 355 (by decide)) 37).trans r_355_37) ?_
            refine X_iload_n rfl rfl rfl rfl ?_
            refine S_iald rfl rfl ((congrFun V.1 373).trans s_373) hx2 (by omega) (fun vz15 evz15 => ?_)
            refine LW_goto (tgt := 126) rfl rfl ?_
            exact LW_ireturn (st := []) rfl rfl rfl ⟨_, rfl, V, hG⟩
        · refine X_aload_n rfl rfl rfl rfl ?_
          refine X_getI (v := vz11) rfl rfl rfl ((congrFun V.1 355).trans s_355) rfl evz11 ?_
          refine LW_goto (tgt := 126) rfl rfl ?_
          exact LW_ireturn (st := []) rfl rfl rfl ⟨_, rfl, V, hG⟩
      · refine X_iconst (v := (-1 : Int32)) rfl rfl rfl ?_
        exact LW_ireturn (st := []) rfl rfl rfl ⟨_, rfl, V, hG⟩
    · refine X_aload_n rfl rfl rfl rfl ?_
      refine X_iload_n rfl rfl rfl rfl ?_
      refine Y_callV (as := [.int x3]) (st := []) rfl rfl rfl (by decide) rfl (Nat.le_of_ble_eq_true rfl) (by decide) (Nat.le_of_ble_eq_true rfl) rfl ((congrFun V.1 355).trans s_355) (by decide) (C_X13_firstRowB V x3 y3 hx3 (by omega) ) ?_
      rintro _ g ⟨rfl, V, hq, chA, vq17⟩
      have hG := hq.trans hG
      have evz1 := (chA 355 39 (by decide)).trans evz1
      have evz8 := (chA 356 0 (by decide)).trans evz8
      refine X_iconst (v := (1 : Int32)) rfl rfl rfl ?_
      refine X_istore (i := 4) (ls' := [some (.ref 355), some (.int x1), some (.int x2), some (.int x3), some (.int (1 : Int32))]) rfl rfl (Nat.le_of_ble_eq_true rfl) rfl ?_
      have vwb := rwL_le (f := Gi g 366) (w := vz8.toInt) (n := y3) (by omega) (by omega) (fun k hk => by rw [vq17 k hk]; omega)
      exact ih51 _ V hG x1 y1 hx1 (by omega) x2 y2 hx2 (by omega) x3 y3 hx3 (by omega) (1 : Int32) 1 (show (1 : Int32).toInt = 1 from rfl) (by omega) (by rw [evz8]; omega) (by rw [evz1]; omega) (by rw [evz8]; omega) (by
        intro _ k hk
        rw [evz8, vq17 k hk]
        omega)  (by rw [evz8]; omega)
set_option maxRecDepth 10000 in
set_option maxHeartbeats 40000000 in
theorem C_X13_settlement_51 {P : Par} {g g0 : LH} {d n : Nat}  (V : InvR P g) (hG : Gr g = Gr g0) (x1 : Int32) (y1 : Int) (hx1 : x1.toInt = y1) (hf1 : 1 ≤ y1 ∧ y1 ≤ 67108863) (x2 : Int32) (y2 : Int) (hx2 : x2.toInt = y2) (hf2 : (-1) ≤ y2) (x3 : Int32) (y3 : Int) (hx3 : x3.toInt = y3) (hf3 : 1 ≤ y3 ∧ y3 ≤ 4) (x4 : Int32) (y4 : Int) (hx4 : x4.toInt = y4) (hf4 : 0 ≤ y4 ∧ y4 ≤ 1) (hc356_0 : 1 ≤ (Gi g 356 0).toInt ∧ (Gi g 356 0).toInt ≤ 24) (hq0 : (Gi g 355 39).toInt ≤ 4) (hq1 : y3 ≤ (Gi g 356 0).toInt) (hq2 : y4 = 1 → rwI (Gi g 366) (y3) (Gi g 356 0).toInt (y3)) (hmu : (5 - y3) * 16777221 + 0 + rwL (Gi g 366) (Gi g 356 0).toInt (y3) (y4) * 1 + 0 < (n : Int) + 1) (ih28 : ∀ (g : LH) (V : InvR P g) (hG : Gr g = Gr g0) (x1 : Int32) (y1 : Int) (hx1 : x1.toInt = y1) (hf1 : 1 ≤ y1 ∧ y1 ≤ 67108863) (x2 : Int32) (y2 : Int) (hx2 : x2.toInt = y2) (hf2 : (-1) ≤ y2) (x3 : Int32) (y3 : Int) (hx3 : x3.toInt = y3) (hf3 : 1 ≤ y3 ∧ y3 ≤ 5) (o4 : Option Value) (hq0 : (Gi g 355 39).toInt ≤ 4), (5 - y3) * 16777221 + 16777220 < (n : Int) → LW 303 (d + 40) 0 0 28 [some (.ref 355), some (.int x1), some (.int x2), some (.int x3), o4] [] g (fun v g' => ∃ r : Int32, v = some (.int r) ∧ InvR P g' ∧ Gr g' = Gr g0)) (ih51 : ∀ (g : LH) (V : InvR P g) (hG : Gr g = Gr g0) (x1 : Int32) (y1 : Int) (hx1 : x1.toInt = y1) (hf1 : 1 ≤ y1 ∧ y1 ≤ 67108863) (x2 : Int32) (y2 : Int) (hx2 : x2.toInt = y2) (hf2 : (-1) ≤ y2) (x3 : Int32) (y3 : Int) (hx3 : x3.toInt = y3) (hf3 : 1 ≤ y3 ∧ y3 ≤ 4) (x4 : Int32) (y4 : Int) (hx4 : x4.toInt = y4) (hf4 : 0 ≤ y4 ∧ y4 ≤ 1) (hc356_0 : 1 ≤ (Gi g 356 0).toInt ∧ (Gi g 356 0).toInt ≤ 24) (hq0 : (Gi g 355 39).toInt ≤ 4) (hq1 : y3 ≤ (Gi g 356 0).toInt) (hq2 : y4 = 1 → rwI (Gi g 366) (y3) (Gi g 356 0).toInt (y3)), (5 - y3) * 16777221 + 0 + rwL (Gi g 366) (Gi g 356 0).toInt (y3) (y4) * 1 + 0 < (n : Int) → LW 303 (d + 40) 0 0 51 [some (.ref 355), some (.int x1), some (.int x2), some (.int x3), some (.int x4)] [] g (fun v g' => ∃ r : Int32, v = some (.int r) ∧ InvR P g' ∧ Gr g' = Gr g0)) : LW 303 (d + 40) 0 0 51 [some (.ref 355), some (.int x1), some (.int x2), some (.int x3), some (.int x4)] [] g (fun v g' => ∃ r : Int32, v = some (.int r) ∧ InvR P g' ∧ Gr g' = Gr g0) := by
  obtain ⟨vz1, evz1⟩ : ∃ z, Gi g 356 0 = z := ⟨_, rfl⟩
  rw [evz1] at hc356_0
  obtain ⟨vz2, evz2⟩ : ∃ z, Gi g 355 39 = z := ⟨_, rfl⟩
  rw [evz2] at hq0
  rw [evz1] at hq1
  rw [evz1] at hq2 hmu
  refine X_iload rfl rfl rfl ?_
  refine S_if_eq (tgt := 78) rfl rfl rfl hx4 (fun vh3 => ?_) (fun vh3 => ?_)
  · refine S_iinc (c := 1) rfl rfl rfl hx3 rfl (by omega) (fun vz4 hvz4 => ?_)
    have vwn := rwL_nn (Gi g 366) vz1.toInt y3 y4
    refine LW_ls (ls' := [some (.ref 355), some (.int x1), some (.int x2), some (.int vz4), some (.int x4)]) rfl ?_
    refine LW_goto (tgt := 28) rfl rfl ?_
    exact ih28 _ V hG x1 y1 hx1 (by omega) x2 y2 hx2 (by omega) vz4 vz4.toInt rfl (by omega) (some (.int x4))  (by rw [evz2]; omega)  (by omega)
  · refine X_aload_n rfl rfl rfl rfl ?_
    refine X_iload_n rfl rfl rfl rfl ?_
    refine X_iload_n rfl rfl rfl rfl ?_
    refine Y_callV (as := [.int x3, .int x1]) (st := []) rfl rfl rfl (by decide) rfl (Nat.le_of_ble_eq_true rfl) (by decide) (Nat.le_of_ble_eq_true rfl) rfl ((congrFun V.1 355).trans s_355) (by decide) (C_X13_weigh V x3 y3 hx3 (by omega) x1 y1 hx1 (by rw [evz2]; omega) (by
        intro k hk
        have vh := hq2 (by omega) k hk
        omega)) ?_
    rintro _ g ⟨rfl, V, hq, chA, vq6⟩
    rw [show y4 = 1 by omega, ← chA.1] at hmu
    have hG := hq.trans hG
    have evz1 := (congrFun chA.2 0).trans evz1
    obtain ⟨vz7, evz7⟩ : ∃ z, Gi g 355 39 = z := ⟨_, rfl⟩
    rw [evz7] at vq6
    refine X_aload_n rfl rfl rfl rfl ?_
    refine X_iload_n rfl rfl rfl rfl ?_
    refine X_aload_n rfl rfl rfl rfl ?_
    refine X_getR (a := 356) rfl rfl rfl ((congrFun V.1 355).trans s_355) rfl ((congrFun (V.2.1 355 (by decide)) 0).trans r_355_0) ?_
    refine X_iconst (v := (0 : Int32)) rfl rfl rfl ?_
    refine S_iald_v rfl rfl ((congrFun V.1 356).trans s_356) (show (0 : Int32).toInt = 0 from rfl) (by omega) evz1 ?_
    refine Y_callV (as := [.int x3, .int vz1]) (st := []) rfl rfl rfl (by decide) rfl (Nat.le_of_ble_eq_true rfl) (by decide) (Nat.le_of_ble_eq_true rfl) rfl ((congrFun V.1 355).trans s_355) (by decide) (C_X13_nextRow V x3 y3 hx3 (by omega) vz1 vz1.toInt rfl (by omega) (by omega) (by
        rw [chA.1]
        exact hq2 (by omega))) ?_
    rintro _ g ⟨vr9, rfl, hrvr90, hrvr91, V, hq, chA, vq10⟩
    have hG := hq.trans hG
    have evz1 := (chA 356 0 (by decide)).trans evz1
    have evz7 := (chA 355 39 (by decide)).trans evz7
    have vwk := rwL_lt vq10 (by omega)
    refine X_istore (i := 4) (ls' := [some (.ref 355), some (.int x1), some (.int x2), some (.int x3), some (.int vr9)]) rfl rfl (Nat.le_of_ble_eq_true rfl) rfl ?_
    refine LW_goto (tgt := 51) rfl rfl ?_
    exact ih51 _ V hG x1 y1 hx1 (by omega) x2 y2 hx2 (by omega) x3 y3 hx3 (by omega) vr9 vr9.toInt rfl (by omega) (by rw [evz1]; omega) (by rw [evz7]; omega) (by rw [evz1]; omega) (by
        intro vh
        rw [evz1]
        exact (vq10.1 vh).1)  (by rw [evz1]; omega)
theorem C_X13_settlement_all {P : Par} {g0 : LH} {d : Nat}  : ∀ n : Nat, (∀ (g : LH) (V : InvR P g) (hG : Gr g = Gr g0) (x1 : Int32) (y1 : Int) (hx1 : x1.toInt = y1) (hf1 : 1 ≤ y1 ∧ y1 ≤ 67108863) (x2 : Int32) (y2 : Int) (hx2 : x2.toInt = y2) (hf2 : (-1) ≤ y2) (x3 : Int32) (y3 : Int) (hx3 : x3.toInt = y3) (hf3 : 1 ≤ y3 ∧ y3 ≤ 5) (o4 : Option Value) (hq0 : (Gi g 355 39).toInt ≤ 4), (5 - y3) * 16777221 + 16777220 < (n : Int) → LW 303 (d + 40) 0 0 28 [some (.ref 355), some (.int x1), some (.int x2), some (.int x3), o4] [] g (fun v g' => ∃ r : Int32, v = some (.int r) ∧ InvR P g' ∧ Gr g' = Gr g0)) ∧ (∀ (g : LH) (V : InvR P g) (hG : Gr g = Gr g0) (x1 : Int32) (y1 : Int) (hx1 : x1.toInt = y1) (hf1 : 1 ≤ y1 ∧ y1 ≤ 67108863) (x2 : Int32) (y2 : Int) (hx2 : x2.toInt = y2) (hf2 : (-1) ≤ y2) (x3 : Int32) (y3 : Int) (hx3 : x3.toInt = y3) (hf3 : 1 ≤ y3 ∧ y3 ≤ 4) (x4 : Int32) (y4 : Int) (hx4 : x4.toInt = y4) (hf4 : 0 ≤ y4 ∧ y4 ≤ 1) (hc356_0 : 1 ≤ (Gi g 356 0).toInt ∧ (Gi g 356 0).toInt ≤ 24) (hq0 : (Gi g 355 39).toInt ≤ 4) (hq1 : y3 ≤ (Gi g 356 0).toInt) (hq2 : y4 = 1 → rwI (Gi g 366) (y3) (Gi g 356 0).toInt (y3)), (5 - y3) * 16777221 + 0 + rwL (Gi g 366) (Gi g 356 0).toInt (y3) (y4) * 1 + 0 < (n : Int) → LW 303 (d + 40) 0 0 51 [some (.ref 355), some (.int x1), some (.int x2), some (.int x3), some (.int x4)] [] g (fun v g' => ∃ r : Int32, v = some (.int r) ∧ InvR P g' ∧ Gr g' = Gr g0)) := by
  intro n
  induction n with
  | zero => exact ⟨fun g V hG x1 y1 hx1 hf1 x2 y2 hx2 hf2 x3 y3 hx3 hf3 o4 hq0 hmu => absurd hmu (by have hb2 := ti_hi x2; omega), fun g V hG x1 y1 hx1 hf1 x2 y2 hx2 hf2 x3 y3 hx3 hf3 x4 y4 hx4 hf4 hc356_0 hq0 hq1 hq2 hmu => absurd hmu (by have hb2 := ti_hi x2; have vwn := rwL_nn (Gi g 366) (Gi g 356 0).toInt y3 y4; omega)⟩
  | succ n ih => exact ⟨fun g V hG x1 y1 hx1 hf1 x2 y2 hx2 hf2 x3 y3 hx3 hf3 o4 hq0 hmu => C_X13_settlement_28  V hG x1 y1 hx1 hf1 x2 y2 hx2 hf2 x3 y3 hx3 hf3 o4 hq0 (by omega) ih.1 ih.2, fun g V hG x1 y1 hx1 hf1 x2 y2 hx2 hf2 x3 y3 hx3 hf3 x4 y4 hx4 hf4 hc356_0 hq0 hq1 hq2 hmu => C_X13_settlement_51  V hG x1 y1 hx1 hf1 x2 y2 hx2 hf2 x3 y3 hx3 hf3 x4 y4 hx4 hf4 hc356_0 hq0 hq1 hq2 (by omega) ih.1 ih.2⟩
set_option maxRecDepth 10000 in
set_option maxHeartbeats 40000000 in
theorem C_X13_settlement {P : Par} {g : LH} {d : Nat}  (V : InvR P g) (x1 : Int32) (y1 : Int) (hx1 : x1.toInt = y1) (x2 : Int32) (y2 : Int) (hx2 : x2.toInt = y2)   : LW 303 (d + 40) 0 0 0 (lEnt (mL 303) [.ref 355, .int x1, .int x2]) [] g (fun v g' => ∃ r : Int32, v = some (.int r) ∧ InvR P g' ∧ Gr g' = Gr g) := by
  refine LW_ls (ls' := [some (.ref 355), some (.int x1), some (.int x2), none, none]) rfl ?_
  have hG : Gr g = Gr g := rfl
  refine X_iload_n rfl rfl rfl rfl ?_
  refine X_callS (as := [.int x1]) (st := []) rfl rfl rfl (by decide) rfl (Nat.le_of_ble_eq_true rfl) (by decide) (Nat.le_of_ble_eq_true rfl) rfl ?_
  refine LW_ls (ls' := [some (.int x1)]) rfl ?_
  refine X_iload_n rfl rfl rfl rfl ?_
  refine X_iconst (v := (1 : Int32)) rfl rfl rfl ?_
  refine X_ldc (v := (67108863 : Int32)) rfl rfl rfl ?_
  refine X_callS (as := [.int x1, .int (1 : Int32), .int (67108863 : Int32)]) (st := []) rfl rfl rfl (by decide) rfl (Nat.le_of_ble_eq_true rfl) (by decide) (Nat.le_of_ble_eq_true rfl) rfl ?_
  refine LW_ls (ls' := [some (.int x1), some (.int (1 : Int32)), some (.int (67108863 : Int32))]) rfl ?_
  refine X_iload_n rfl rfl rfl rfl ?_
  refine X_iload_n rfl rfl rfl rfl ?_
  refine S_icmp_lt (tgt := 14) rfl rfl rfl hx1 (show (1 : Int32).toInt = 1 from rfl) (fun vh1 => ?_) (fun vh1 => ?_)
  · refine X_iconst (v := (0 : Int32)) rfl rfl rfl ?_
    refine LW_ireturn (st := []) rfl rfl rfl ?_
    refine LW_ireturn (st := []) rfl rfl rfl ?_
    refine S_if_eq (tgt := 12) rfl rfl rfl (show (0 : Int32).toInt = 0 from rfl) (fun vh2 => ?_) (fun q => absurd q (by omega))
    refine X_iconst (v := (-1 : Int32)) rfl rfl rfl ?_
    exact LW_ireturn (st := []) rfl rfl rfl ⟨_, rfl, V, hG⟩
  · refine X_iload_n rfl rfl rfl rfl ?_
    refine X_iload_n rfl rfl rfl rfl ?_
    refine S_icmp_gt (tgt := 14) rfl rfl rfl hx1 (show (67108863 : Int32).toInt = 67108863 from rfl) (fun vh3 => ?_) (fun vh3 => ?_)
    · refine X_iconst (v := (0 : Int32)) rfl rfl rfl ?_
      refine LW_ireturn (st := []) rfl rfl rfl ?_
      refine LW_ireturn (st := []) rfl rfl rfl ?_
      refine S_if_eq (tgt := 12) rfl rfl rfl (show (0 : Int32).toInt = 0 from rfl) (fun vh4 => ?_) (fun q => absurd q (by omega))
      refine X_iconst (v := (-1 : Int32)) rfl rfl rfl ?_
      exact LW_ireturn (st := []) rfl rfl rfl ⟨_, rfl, V, hG⟩
    · refine X_iconst (v := (1 : Int32)) rfl rfl rfl ?_
      refine LW_goto (tgt := 15) rfl rfl ?_
      refine LW_ireturn (st := []) rfl rfl rfl ?_
      refine LW_ireturn (st := []) rfl rfl rfl ?_
      refine S_if_eq (tgt := 12) rfl rfl rfl (show (1 : Int32).toInt = 1 from rfl) (fun q => absurd q (by omega)) (fun vh5 => ?_)
      refine X_iload_n rfl rfl rfl rfl ?_
      refine X_iconst (v := (-1 : Int32)) rfl rfl rfl ?_
      refine S_icmp_ge (tgt := 14) rfl rfl rfl hx2 (show (-1 : Int32).toInt = -1 from rfl) (fun vh6 => ?_) (fun vh6 => ?_)
      · refine X_aload_n rfl rfl rfl rfl ?_
        refine X_ldcw (v := (1000000 : Int32)) rfl rfl rfl ?_
        refine S_putI (I := InvR _) rfl rfl rfl ((congrFun V.1 355).trans s_355) rfl rfl rfl rfl (InvR_putO V (by decide) trivial) (fun g V ve7 vn8 hq => ?_)
        have hG := hq.trans hG
        refine X_aload_n rfl rfl rfl rfl ?_
        refine X_iconst (v := (0 : Int32)) rfl rfl rfl ?_
        refine S_putI (I := InvR _) rfl rfl rfl ((congrFun V.1 355).trans s_355) rfl rfl rfl rfl (InvR_putO V (by decide) trivial) (fun g V ve9 vn10 hq => ?_)
        have hG := hq.trans hG
        have ve7 := (vn10 (355) 38 (Or.inr (by decide))).trans ve7
        refine X_iconst (v := (1 : Int32)) rfl rfl rfl ?_
        refine X_istore_n (i := 3) (ls' := [some (.ref 355), some (.int x1), some (.int x2), some (.int (1 : Int32)), none]) rfl rfl rfl (Nat.le_of_ble_eq_true rfl) rfl ?_
        exact (C_X13_settlement_all (((5 - 1) * 16777221 + 16777220) + 1 : Int).toNat).1 _ V hG x1 y1 hx1 (by omega) x2 y2 hx2 (by omega) (1 : Int32) 1 (show (1 : Int32).toInt = 1 from rfl) (by omega) none  (by have vk0 := (show (0 : Int32).toInt = 0 from rfl); rw [ve9]; omega)  (by omega)
      · refine X_iconst (v := (-1 : Int32)) rfl rfl rfl ?_
        exact LW_ireturn (st := []) rfl rfl rfl ⟨_, rfl, V, hG⟩
