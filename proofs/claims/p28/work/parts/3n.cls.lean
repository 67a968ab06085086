/-! the class's methods: each returns and keeps what every state keeps -/
set_option maxRecDepth 10000 in
set_option maxHeartbeats 40000000 in
theorem C_X12_signsFor {P : Par} {g : LH} {d : Nat}  (V : Inv P g) (x1 : Int32) (y1 : Int) (hx1 : x1.toInt = y1) (x2 : Int32) (y2 : Int) (hx2 : x2.toInt = y2)   : LW 156 (d + 50) 0 0 0 (lEnt (mL 156) [.ref 0, .int x1, .int x2]) [] g (fun v g' => ∃ r : Int32, v = some (.int r) ∧ Inv P g' ∧ Gr g' = Gr g) := by
  refine LW_ls (ls' := [some (.ref 0), some (.int x1), some (.int x2), none]) rfl ?_
  have hG : Gr g = Gr g := rfl
  refine X_iload_n rfl rfl rfl rfl ?_
  refine X_callS (as := [.int x1]) (st := []) rfl rfl rfl (by decide) rfl (Nat.le_of_ble_eq_true rfl) (by decide) (Nat.le_of_ble_eq_true rfl) rfl ?_
  refine LW_ls (ls' := [some (.int x1)]) rfl ?_
  refine X_iload_n rfl rfl rfl rfl ?_
  refine S_if_le (tgt := 15) rfl rfl rfl hx1 (fun vh1 => ?_) (fun vh1 => ?_)
  · refine X_iconst (v := (0 : Int32)) rfl rfl rfl ?_
    refine LW_ireturn (st := []) rfl rfl rfl ?_
    refine S_if_eq (tgt := 16) rfl rfl rfl (show (0 : Int32).toInt = 0 from rfl) (fun vh2 => ?_) (fun q => absurd q (by omega))
    refine X_iconst (v := (-1 : Int32)) rfl rfl rfl ?_
    exact LW_ireturn (st := []) rfl rfl rfl ⟨_, rfl, V, hG⟩
  · refine X_iload_n rfl rfl rfl rfl ?_
    refine X_ldcw (v := (67108864 : Int32)) rfl rfl rfl ?_
    refine S_icmp_ge (tgt := 15) rfl rfl rfl hx1 (show (67108864 : Int32).toInt = 67108864 from rfl) (fun vh3 => ?_) (fun vh3 => ?_)
    · refine X_iconst (v := (0 : Int32)) rfl rfl rfl ?_
      refine LW_ireturn (st := []) rfl rfl rfl ?_
      refine S_if_eq (tgt := 16) rfl rfl rfl (show (0 : Int32).toInt = 0 from rfl) (fun vh4 => ?_) (fun q => absurd q (by omega))
      refine X_iconst (v := (-1 : Int32)) rfl rfl rfl ?_
      exact LW_ireturn (st := []) rfl rfl rfl ⟨_, rfl, V, hG⟩
    · refine X_iconst (v := (1 : Int32)) rfl rfl rfl ?_
      refine LW_goto (tgt := 16) rfl rfl ?_
      refine LW_ireturn (st := []) rfl rfl rfl ?_
      refine S_if_eq (tgt := 16) rfl rfl rfl (show (1 : Int32).toInt = 1 from rfl) (fun q => absurd q (by omega)) (fun vh5 => ?_)
      refine X_iload_n rfl rfl rfl rfl ?_
      refine Y_callS (as := [.int x1]) (st := []) rfl rfl rfl (by decide) rfl (Nat.le_of_ble_eq_true rfl) (by decide) (Nat.le_of_ble_eq_true rfl) rfl (c_bc hx1 26 (by omega) (by decide)) ?_
      rintro _ g' ⟨vr6, rfl, hrvr60, hrvr61, hgg⟩
      subst hgg
      refine X_bipush (v := (6 : Int32)) rfl rfl rfl ?_
      refine S_icmp_le (tgt := 18) rfl rfl rfl rfl (show (6 : Int32).toInt = 6 from rfl) (fun vh7 => ?_) (fun vh7 => ?_)
      · refine X_iload_n rfl rfl rfl rfl ?_
        refine X_iconst (v := (-1 : Int32)) rfl rfl rfl ?_
        refine S_icmp_eq (tgt := 40) rfl rfl rfl hx2 (show (-1 : Int32).toInt = -1 from rfl) (fun vh8 => ?_) (fun vh8 => ?_)
        · refine X_aload_n rfl rfl rfl rfl ?_
          refine X_getR (a := 349) rfl rfl rfl ((congrFun V.1 0).trans s_0) rfl ((congrFun (V.2.1 0 (by decide)) 8).trans r_0_8) ?_
          refine X_iload_n rfl rfl rfl rfl ?_
          refine Y_callV (as := [.int x1]) (st := []) rfl rfl rfl (by decide) rfl (Nat.le_of_ble_eq_true rfl) (by decide) (Nat.le_of_ble_eq_true rfl) rfl ((congrFun V.1 349).trans s_349) (by decide) (C_X7_fewestSigns V x1 y1 hx1 (by omega) ) ?_
          rintro _ g ⟨vr9, rfl, hrvr90, hrvr91, V, hq⟩
          have hG := hq.trans hG
          refine X_istore_n (i := 3) (ls' := [some (.ref 0), some (.int x1), some (.int x2), some (.int vr9)]) rfl rfl rfl (Nat.le_of_ble_eq_true rfl) rfl ?_
          refine X_iload_n rfl rfl rfl rfl ?_
          refine X_iconst (v := (-1 : Int32)) rfl rfl rfl ?_
          refine S_icmp_eq (tgt := 59) rfl rfl rfl hx2 (show (-1 : Int32).toInt = -1 from rfl) (fun vh10 => ?_) (fun q => absurd q (by omega))
          refine X_iload_n rfl rfl rfl rfl ?_
          refine LW_goto (tgt := 72) rfl rfl ?_
          exact LW_ireturn (st := []) rfl rfl rfl ⟨_, rfl, V, hG⟩
        · refine X_iload_n rfl rfl rfl rfl ?_
          refine X_callS (as := [.int x2]) (st := []) rfl rfl rfl (by decide) rfl (Nat.le_of_ble_eq_true rfl) (by decide) (Nat.le_of_ble_eq_true rfl) rfl ?_
          refine LW_ls (ls' := [some (.int x2)]) rfl ?_
          refine X_iload_n rfl rfl rfl rfl ?_
          refine S_if_lt (tgt := 14) rfl rfl rfl hx2 (fun vh11 => ?_) (fun vh11 => ?_)
          · refine X_iconst (v := (0 : Int32)) rfl rfl rfl ?_
            refine LW_ireturn (st := []) rfl rfl rfl ?_
            refine S_if_eq (tgt := 38) rfl rfl rfl (show (0 : Int32).toInt = 0 from rfl) (fun vh12 => ?_) (fun q => absurd q (by omega))
            refine X_iconst (v := (-1 : Int32)) rfl rfl rfl ?_
            exact LW_ireturn (st := []) rfl rfl rfl ⟨_, rfl, V, hG⟩
          · refine X_iload_n rfl rfl rfl rfl ?_
            refine X_bipush (v := (26 : Int32)) rfl rfl rfl ?_
            refine S_icmp_ge (tgt := 14) rfl rfl rfl hx2 (show (26 : Int32).toInt = 26 from rfl) (fun vh13 => ?_) (fun vh13 => ?_)
            · refine X_iconst (v := (0 : Int32)) rfl rfl rfl ?_
              refine LW_ireturn (st := []) rfl rfl rfl ?_
              refine S_if_eq (tgt := 38) rfl rfl rfl (show (0 : Int32).toInt = 0 from rfl) (fun vh14 => ?_) (fun q => absurd q (by omega))
              refine X_iconst (v := (-1 : Int32)) rfl rfl rfl ?_
              exact LW_ireturn (st := []) rfl rfl rfl ⟨_, rfl, V, hG⟩
            · refine X_iconst (v := (1 : Int32)) rfl rfl rfl ?_
              refine LW_goto (tgt := 15) rfl rfl ?_
              refine LW_ireturn (st := []) rfl rfl rfl ?_
              refine S_if_eq (tgt := 38) rfl rfl rfl (show (1 : Int32).toInt = 1 from rfl) (fun q => absurd q (by omega)) (fun vh15 => ?_)
              refine X_iload_n rfl rfl rfl rfl ?_
              refine X_iload_n rfl rfl rfl rfl ?_
              refine S_ishrT rfl rfl (fun vz16 => ?_)
              refine X_iconst (v := (1 : Int32)) rfl rfl rfl ?_
              refine S_iandR (k := 1) rfl rfl rfl (fun vz17 hvz17 => ?_)
              refine S_if_ne (tgt := 40) rfl rfl rfl rfl (fun vh18 => ?_) (fun vh18 => ?_)
              · refine X_aload_n rfl rfl rfl rfl ?_
                refine X_getR (a := 349) rfl rfl rfl ((congrFun V.1 0).trans s_0) rfl ((congrFun (V.2.1 0 (by decide)) 8).trans r_0_8) ?_
                refine X_iload_n rfl rfl rfl rfl ?_
                refine Y_callV (as := [.int x1]) (st := []) rfl rfl rfl (by decide) rfl (Nat.le_of_ble_eq_true rfl) (by decide) (Nat.le_of_ble_eq_true rfl) rfl ((congrFun V.1 349).trans s_349) (by decide) (C_X7_fewestSigns V x1 y1 hx1 (by omega) ) ?_
                rintro _ g ⟨vr19, rfl, hrvr190, hrvr191, V, hq⟩
                have hG := hq.trans hG
                refine X_istore_n (i := 3) (ls' := [some (.ref 0), some (.int x1), some (.int x2), some (.int vr19)]) rfl rfl rfl (Nat.le_of_ble_eq_true rfl) rfl ?_
                refine X_iload_n rfl rfl rfl rfl ?_
                refine X_iconst (v := (-1 : Int32)) rfl rfl rfl ?_
                refine S_icmp_eq (tgt := 59) rfl rfl rfl hx2 (show (-1 : Int32).toInt = -1 from rfl) (fun q => absurd q (by omega)) (fun vh20 => ?_)
                refine X_iload_n rfl rfl rfl rfl ?_
                refine X_iconst (v := (-1 : Int32)) rfl rfl rfl ?_
                refine S_icmp_ne (tgt := 63) rfl rfl rfl rfl (show (-1 : Int32).toInt = -1 from rfl) (fun vh21 => ?_) (fun vh21 => ?_)
                · refine X_aload_n rfl rfl rfl rfl ?_
                  refine X_getR (a := 349) rfl rfl rfl ((congrFun V.1 0).trans s_0) rfl ((congrFun (V.2.1 0 (by decide)) 8).trans r_0_8) ?_
                  refine X_getR (a := 350) rfl rfl rfl ((congrFun V.1 349).trans s_349) rfl ((congrFun (V.2.1 349 (by decide)) 1).trans r_349_1) ?_
                  refine X_iload_n rfl rfl rfl rfl ?_
                  refine S_iald rfl rfl ((congrFun V.1 350).trans s_350) hx2 (by omega) (fun vz22 evz22 => ?_)
                  exact LW_ireturn (st := []) rfl rfl rfl ⟨_, rfl, V, hG⟩
                · refine X_iload_n rfl rfl rfl rfl ?_
                  refine LW_goto (tgt := 72) rfl rfl ?_
                  exact LW_ireturn (st := []) rfl rfl rfl ⟨_, rfl, V, hG⟩
              · refine X_iconst (v := (-1 : Int32)) rfl rfl rfl ?_
                exact LW_ireturn (st := []) rfl rfl rfl ⟨_, rfl, V, hG⟩
      · refine X_iconst (v := (-1 : Int32)) rfl rfl rfl ?_
        exact LW_ireturn (st := []) rfl rfl rfl ⟨_, rfl, V, hG⟩
set_option maxRecDepth 10000 in
set_option maxHeartbeats 40000000 in
theorem C_X7_settleWith_86 {P : Par} {g g0 : LH} {d n m : Nat} (ihr75 : ∀ (g : LH) (V : Inv P g) (x1 : Int32) (y1 : Int) (hx1 : x1.toInt = y1) (x2 : Int32) (y2 : Int) (hx2 : x2.toInt = y2) (hf2 : 0 ≤ y2 ∧ y2 ≤ 4) (x3 : Int32) (y3 : Int) (hx3 : x3.toInt = y3) (hf3 : 1 ≤ y3 ∧ y3 ≤ 4) (x4 : Int32) (y4 : Int) (hx4 : x4.toInt = y4) , 6 - y2 < ((m : Nat) : Int) → LW 75 (d + 1 * m + 4) 0 0 0 (lEnt (mL 75) [.ref 349, .int x1, .int x2, .int x3, .int x4]) [] g (fun v g' => v = none ∧ Inv P g' ∧ Gr g' = Gr g)) (V : Inv P g) (hG : Gr g = Gr g0) (x1 : Int32) (y1 : Int) (hx1 : x1.toInt = y1) (x2 : Int32) (y2 : Int) (hx2 : x2.toInt = y2) (hf2 : 0 ≤ y2 ∧ y2 ≤ 3) (x3 : Int32) (y3 : Int) (hx3 : x3.toInt = y3) (hf3 : 1 ≤ y3 ∧ y3 ≤ 4) (x4 : Int32) (y4 : Int) (hx4 : x4.toInt = y4) (x6 : Int32) (y6 : Int) (hx6 : x6.toInt = y6) (hf6 : 0 ≤ y6 ∧ y6 ≤ 24) (hlev : 6 - y2 < (((m + 1) : Nat) : Int)) (hmu : (24 - y6) * 1 + 0 < (n : Int) + 1) (ih86 : ∀ (g : LH) (V : Inv P g) (hG : Gr g = Gr g0) (x1 : Int32) (y1 : Int) (hx1 : x1.toInt = y1) (x2 : Int32) (y2 : Int) (hx2 : x2.toInt = y2) (hf2 : 0 ≤ y2 ∧ y2 ≤ 3) (x3 : Int32) (y3 : Int) (hx3 : x3.toInt = y3) (hf3 : 1 ≤ y3 ∧ y3 ≤ 4) (x4 : Int32) (y4 : Int) (hx4 : x4.toInt = y4) (x6 : Int32) (y6 : Int) (hx6 : x6.toInt = y6) (hf6 : 0 ≤ y6 ∧ y6 ≤ 24) (hlev : 6 - y2 < (((m + 1) : Nat) : Int)), (24 - y6) * 1 + 0 < (n : Int) → LW 75 (d + 1 * (m + 1) + 4) 0 0 86 [some (.ref 349), some (.int x1), some (.int x2), some (.int x3), some (.int x4), some (.ref 2), some (.int x6)] [] g (fun v g' => v = none ∧ Inv P g' ∧ Gr g' = Gr g0)) : LW 75 (d + 1 * (m + 1) + 4) 0 0 86 [some (.ref 349), some (.int x1), some (.int x2), some (.int x3), some (.int x4), some (.ref 2), some (.int x6)] [] g (fun v g' => v = none ∧ Inv P g' ∧ Gr g' = Gr g0) := by
  refine X_iload rfl rfl rfl ?_
  refine X_aload rfl rfl rfl ?_
  refine S_getI rfl rfl rfl ((congrFun V.1 2).trans s_2) rfl (fun vz1 evz1 => ?_)
  have vf2 := K_10_0 (V.2.2.2.2.1 (2) (0) (Nat.le_of_ble_eq_true rfl)) rk_2
  rw [evz1] at vf2
  refine S_icmp_ge (tgt := 141) rfl rfl rfl hx6 rfl (fun vh3 => ?_) (fun vh3 => ?_)
  · exact LW_return (st := []) rfl rfl ⟨rfl, V, hG⟩
  · refine X_aload_n rfl rfl rfl rfl ?_
    refine X_getR (a := 352) rfl rfl rfl ((congrFun V.1 349).trans s_349) rfl ((congrFun (V.2.1 349 (by decide)) 3).trans r_349_3) ?_
    refine X_iload_n rfl rfl rfl rfl ?_
    refine X_iload rfl rfl rfl ?_
    refine S_iast (I := Inv _) rfl rfl ((congrFun V.1 352).trans s_352) hx2 (by omega) (Inv_putI V (Nat.le_of_ble_eq_true rfl) (Or.inl (by decide)) (Q_4 rk_352 (by omega))) (fun g V ve4 vn5 hq => ?_)
    have hG := hq.trans hG
    have evz1 := (vn5 (2) 0 (Or.inl (by decide))).trans evz1
    refine X_aload_n rfl rfl rfl rfl ?_
    refine X_iload_n rfl rfl rfl rfl ?_
    refine X_aload rfl rfl rfl ?_
    refine X_getR (a := 5) rfl rfl rfl ((congrFun V.1 2).trans s_2) rfl ((congrFun (V.2.1 2 (by decide)) 4).trans r_2_4) ?_
    refine X_iload rfl rfl rfl ?_
    refine S_iald rfl rfl ((congrFun V.1 5).trans s_5) hx6 (by omega) (fun vz6 evz6 => ?_)
    refine X_iconst (v := (-1 : Int32)) rfl rfl rfl ?_
    refine S_ixorT rfl rfl (fun vz7 => ?_)
    refine S_iandT rfl rfl (fun vz8 => ?_)
    refine X_iload_n rfl rfl rfl rfl ?_
    refine X_iconst (v := (1 : Int32)) rfl rfl rfl ?_
    refine S_iadd rfl rfl hx2 (show (1 : Int32).toInt = 1 from rfl) (by omega) (fun vz9 hvz9 => ?_)
    refine X_iload_n rfl rfl rfl rfl ?_
    refine X_iload rfl rfl rfl ?_
    refine X_aload rfl rfl rfl ?_
    refine X_getR (a := 3) rfl rfl rfl ((congrFun V.1 2).trans s_2) rfl ((congrFun (V.2.1 2 (by decide)) 2).trans r_2_2) ?_
    refine X_iload rfl rfl rfl ?_
    refine S_iald rfl rfl ((congrFun V.1 3).trans s_3) hx6 (by omega) (fun vz10 evz10 => ?_)
    have vf11 := K_1 (V.2.2.2.2.1 (3) ((y6 : Int).toNat) (Nat.le_of_ble_eq_true rfl)) rk_3
    rw [evz10] at vf11
    refine S_iaddT rfl rfl (fun vz12 => ?_)
    refine Y_callV (as := [.int vz8, .int vz9, .int x3, .int vz12]) (st := []) rfl rfl rfl (by decide) rfl (Nat.le_of_ble_eq_true rfl) (by decide) (Nat.le_of_ble_eq_true rfl) rfl ((congrFun V.1 349).trans s_349) (by decide) (LW_room (Nat.le_refl _) (Nat.le_refl _) (by omega) (ihr75 _ V vz8 vz8.toInt rfl vz9 vz9.toInt rfl (by omega) x3 y3 hx3 (by omega) vz12 vz12.toInt rfl  (by omega))) ?_
    rintro _ g ⟨rfl, V, hq⟩
    have hG := hq.trans hG
    refine S_iinc (c := 1) rfl rfl rfl hx6 rfl (by omega) (fun vz14 hvz14 => ?_)
    refine LW_ls (ls' := [some (.ref 349), some (.int x1), some (.int x2), some (.int x3), some (.int x4), some (.ref 2), some (.int vz14)]) rfl ?_
    refine LW_goto (tgt := 86) rfl rfl ?_
    exact ih86 _ V hG x1 y1 hx1 x2 y2 hx2 (by omega) x3 y3 hx3 (by omega) x4 y4 hx4 vz14 vz14.toInt rfl (by omega)   (by omega) (by omega)
theorem C_X7_settleWith_all {P : Par} {g0 : LH} {d m : Nat} (ihr75 : ∀ (g : LH) (V : Inv P g) (x1 : Int32) (y1 : Int) (hx1 : x1.toInt = y1) (x2 : Int32) (y2 : Int) (hx2 : x2.toInt = y2) (hf2 : 0 ≤ y2 ∧ y2 ≤ 4) (x3 : Int32) (y3 : Int) (hx3 : x3.toInt = y3) (hf3 : 1 ≤ y3 ∧ y3 ≤ 4) (x4 : Int32) (y4 : Int) (hx4 : x4.toInt = y4) , 6 - y2 < ((m : Nat) : Int) → LW 75 (d + 1 * m + 4) 0 0 0 (lEnt (mL 75) [.ref 349, .int x1, .int x2, .int x3, .int x4]) [] g (fun v g' => v = none ∧ Inv P g' ∧ Gr g' = Gr g)) : ∀ n : Nat, (∀ (g : LH) (V : Inv P g) (hG : Gr g = Gr g0) (x1 : Int32) (y1 : Int) (hx1 : x1.toInt = y1) (x2 : Int32) (y2 : Int) (hx2 : x2.toInt = y2) (hf2 : 0 ≤ y2 ∧ y2 ≤ 3) (x3 : Int32) (y3 : Int) (hx3 : x3.toInt = y3) (hf3 : 1 ≤ y3 ∧ y3 ≤ 4) (x4 : Int32) (y4 : Int) (hx4 : x4.toInt = y4) (x6 : Int32) (y6 : Int) (hx6 : x6.toInt = y6) (hf6 : 0 ≤ y6 ∧ y6 ≤ 24) (hlev : 6 - y2 < (((m + 1) : Nat) : Int)), (24 - y6) * 1 + 0 < (n : Int) → LW 75 (d + 1 * (m + 1) + 4) 0 0 86 [some (.ref 349), some (.int x1), some (.int x2), some (.int x3), some (.int x4), some (.ref 2), some (.int x6)] [] g (fun v g' => v = none ∧ Inv P g' ∧ Gr g' = Gr g0)) := by
  intro n
  induction n with
  | zero => exact fun g V hG x1 y1 hx1 x2 y2 hx2 hf2 x3 y3 hx3 hf3 x4 y4 hx4 x6 y6 hx6 hf6 hlev hmu => absurd hmu (by omega)
  | succ n ih => exact fun g V hG x1 y1 hx1 x2 y2 hx2 hf2 x3 y3 hx3 hf3 x4 y4 hx4 x6 y6 hx6 hf6 hlev hmu => C_X7_settleWith_86 ihr75 V hG x1 y1 hx1 x2 y2 hx2 hf2 x3 y3 hx3 hf3 x4 y4 hx4 x6 y6 hx6 hf6 hlev (by omega) ih
set_option maxRecDepth 10000 in
set_option maxHeartbeats 40000000 in
theorem C_X7_settleWith_s {P : Par} {g : LH} {d m : Nat} (ihr75 : ∀ (g : LH) (V : Inv P g) (x1 : Int32) (y1 : Int) (hx1 : x1.toInt = y1) (x2 : Int32) (y2 : Int) (hx2 : x2.toInt = y2) (hf2 : 0 ≤ y2 ∧ y2 ≤ 4) (x3 : Int32) (y3 : Int) (hx3 : x3.toInt = y3) (hf3 : 1 ≤ y3 ∧ y3 ≤ 4) (x4 : Int32) (y4 : Int) (hx4 : x4.toInt = y4) , 6 - y2 < ((m : Nat) : Int) → LW 75 (d + 1 * m + 4) 0 0 0 (lEnt (mL 75) [.ref 349, .int x1, .int x2, .int x3, .int x4]) [] g (fun v g' => v = none ∧ Inv P g' ∧ Gr g' = Gr g)) (V : Inv P g) (x1 : Int32) (y1 : Int) (hx1 : x1.toInt = y1) (x2 : Int32) (y2 : Int) (hx2 : x2.toInt = y2) (hf2 : 0 ≤ y2 ∧ y2 ≤ 4) (x3 : Int32) (y3 : Int) (hx3 : x3.toInt = y3) (hf3 : 1 ≤ y3 ∧ y3 ≤ 4) (x4 : Int32) (y4 : Int) (hx4 : x4.toInt = y4)  (hlev : 6 - y2 < (((m + 1) : Nat) : Int)) : LW 75 (d + 1 * (m + 1) + 4) 0 0 0 (lEnt (mL 75) [.ref 349, .int x1, .int x2, .int x3, .int x4]) [] g (fun v g' => v = none ∧ Inv P g' ∧ Gr g' = Gr g) := by
  refine LW_ls (ls' := [some (.ref 349), some (.int x1), some (.int x2), some (.int x3), some (.int x4), none, none]) rfl ?_
  have hG : Gr g = Gr g := rfl
  refine X_aload_n rfl rfl rfl rfl ?_
  refine X_getR (a := 1) rfl rfl rfl ((congrFun V.1 349).trans s_349) rfl ((congrFun (V.2.1 349 (by decide)) 0).trans r_349_0) ?_
  refine X_getR (a := 2) rfl rfl rfl ((congrFun V.1 1).trans s_1) rfl ((congrFun (V.2.1 1 (by decide)) 0).trans r_1_0) ?_
  refine X_astore (i := 5) (ls' := [some (.ref 349), some (.int x1), some (.int x2), some (.int x3), some (.int x4), some (.ref 2), none]) rfl rfl (Nat.le_of_ble_eq_true rfl) rfl ?_
  refine X_aload_n rfl rfl rfl rfl ?_
  refine S_getI rfl rfl rfl ((congrFun V.1 349).trans s_349) rfl (fun vz1 evz1 => ?_)
  refine X_iconst (v := (-1 : Int32)) rfl rfl rfl ?_
  refine S_icmp_eq (tgt := 27) rfl rfl rfl rfl (show (-1 : Int32).toInt = -1 from rfl) (fun vh2 => ?_) (fun vh2 => ?_)
  · refine X_iload_n rfl rfl rfl rfl ?_
    refine X_iload_n rfl rfl rfl rfl ?_
    refine S_icmp_ge (tgt := 37) rfl rfl rfl hx2 hx3 (fun vh3 => ?_) (fun vh3 => ?_)
    · refine X_iload_n rfl rfl rfl rfl ?_
      refine S_if_ne (tgt := 65) rfl rfl rfl hx1 (fun vh4 => ?_) (fun vh4 => ?_)
      · exact LW_return (st := []) rfl rfl ⟨rfl, V, hG⟩
      · refine X_aload_n rfl rfl rfl rfl ?_
        refine X_iload rfl rfl rfl ?_
        refine S_putI (I := Inv _) rfl rfl rfl ((congrFun V.1 349).trans s_349) rfl rfl rfl rfl (Inv_putI V (Nat.le_of_ble_eq_true rfl) (Or.inl (by decide)) (Q_0 rk_349)) (fun g V ve5 vn6 hq => ?_)
        have hG := hq.trans hG
        refine X_aload_n rfl rfl rfl rfl ?_
        refine X_getR (a := 352) rfl rfl rfl ((congrFun V.1 349).trans s_349) rfl ((congrFun (V.2.1 349 (by decide)) 3).trans r_349_3) ?_
        refine X_iconst (v := (0 : Int32)) rfl rfl rfl ?_
        refine X_aload_n rfl rfl rfl rfl ?_
        refine X_getR (a := 351) rfl rfl rfl ((congrFun V.1 349).trans s_349) rfl ((congrFun (V.2.1 349 (by decide)) 2).trans r_349_2) ?_
        refine X_iconst (v := (0 : Int32)) rfl rfl rfl ?_
        refine X_iload_n rfl rfl rfl rfl ?_
        refine X_iconst (v := (4 : Int32)) rfl rfl rfl ?_
        refine S_min rfl rfl rfl (Nat.le_of_ble_eq_true rfl) hx3 (show (4 : Int32).toInt = 4 from rfl) (fun vz7 hvz7 => ?_)
        refine S_copy (I := Inv _) (sp' := 0) (dp' := 0) (n' := (vz7.toInt : Int).toNat) rfl rfl rfl ((congrFun V.1 352).trans s_352) ((congrFun V.1 351).trans s_351) (by decide) (by decide) (nneg rfl (by omega)) rfl rfl rfl (by omega) (by omega) (Nat.le_of_ble_eq_true rfl) (Inv_cpy V (Nat.le_of_ble_eq_true rfl) (Nat.le_of_ble_eq_true rfl) (by omega) (fun _ _ _ _ => Q_0 rk_351)) (fun g V vn8 hq => ?_)
        have hG := hq.trans hG
        have ve5 := (vn8 (349) 4 (by decide)).trans ve5
        exact LW_return (st := []) rfl rfl ⟨rfl, V, hG⟩
    · refine X_iload_n rfl rfl rfl rfl ?_
      refine X_iconst (v := (4 : Int32)) rfl rfl rfl ?_
      refine S_icmp_lt (tgt := 66) rfl rfl rfl hx2 (show (4 : Int32).toInt = 4 from rfl) (fun vh9 => ?_) (fun q => absurd q (by omega))
      refine X_iload_n rfl rfl rfl rfl ?_
      refine S_if_ne (tgt := 74) rfl rfl rfl hx2 (fun vh10 => ?_) (fun vh10 => ?_)
      · refine X_aload_n rfl rfl rfl rfl ?_
        refine X_getR (a := 352) rfl rfl rfl ((congrFun V.1 349).trans s_349) rfl ((congrFun (V.2.1 349 (by decide)) 3).trans r_349_3) ?_
        refine X_iload_n rfl rfl rfl rfl ?_
        refine X_iconst (v := (1 : Int32)) rfl rfl rfl ?_
        refine S_isub rfl rfl hx2 (show (1 : Int32).toInt = 1 from rfl) (by omega) (fun vz11 hvz11 => ?_)
        refine S_iald rfl rfl ((congrFun V.1 352).trans s_352) rfl (by omega) (fun vz12 evz12 => ?_)
        have vf13 := K_4 (V.2.2.2.2.1 (352) ((vz11.toInt : Int).toNat) (Nat.le_of_ble_eq_true rfl)) rk_352
        rw [evz12] at vf13
        refine X_iconst (v := (1 : Int32)) rfl rfl rfl ?_
        refine S_iadd rfl rfl rfl (show (1 : Int32).toInt = 1 from rfl) (by omega) (fun vz14 hvz14 => ?_)
        refine X_istore (i := 6) (ls' := [some (.ref 349), some (.int x1), some (.int x2), some (.int x3), some (.int x4), some (.ref 2), some (.int vz14)]) rfl rfl (Nat.le_of_ble_eq_true rfl) rfl ?_
        exact (C_X7_settleWith_all ihr75 (((24 - vz14.toInt) * 1 + 0) + 1 : Int).toNat) _ V hG x1 y1 hx1 x2 y2 hx2 (by omega) x3 y3 hx3 (by omega) x4 y4 hx4 vz14 vz14.toInt rfl (by omega)   (by omega) (by omega)
      · refine X_iconst (v := (0 : Int32)) rfl rfl rfl ?_
        refine LW_goto (tgt := 84) rfl rfl ?_
        refine X_istore (i := 6) (ls' := [some (.ref 349), some (.int x1), some (.int x2), some (.int x3), some (.int x4), some (.ref 2), some (.int (0 : Int32))]) rfl rfl (Nat.le_of_ble_eq_true rfl) rfl ?_
        exact (C_X7_settleWith_all ihr75 (((24 - 0) * 1 + 0) + 1 : Int).toNat) _ V hG x1 y1 hx1 x2 y2 hx2 (by omega) x3 y3 hx3 (by omega) x4 y4 hx4 (0 : Int32) 0 (show (0 : Int32).toInt = 0 from rfl) (by omega)   (by omega) (by omega)
  · refine X_iload rfl rfl rfl ?_
    refine X_aload_n rfl rfl rfl rfl ?_
    refine X_getI (v := vz1) rfl rfl rfl ((congrFun V.1 349).trans s_349) rfl evz1 ?_
    refine S_icmp_lt (tgt := 27) rfl rfl rfl hx4 rfl (fun vh15 => ?_) (fun vh15 => ?_)
    · refine X_iload_n rfl rfl rfl rfl ?_
      refine X_iload_n rfl rfl rfl rfl ?_
      refine S_icmp_ge (tgt := 37) rfl rfl rfl hx2 hx3 (fun vh16 => ?_) (fun vh16 => ?_)
      · refine X_iload_n rfl rfl rfl rfl ?_
        refine S_if_ne (tgt := 65) rfl rfl rfl hx1 (fun vh17 => ?_) (fun vh17 => ?_)
        · exact LW_return (st := []) rfl rfl ⟨rfl, V, hG⟩
        · refine X_aload_n rfl rfl rfl rfl ?_
          refine X_iload rfl rfl rfl ?_
          refine S_putI (I := Inv _) rfl rfl rfl ((congrFun V.1 349).trans s_349) rfl rfl rfl rfl (Inv_putI V (Nat.le_of_ble_eq_true rfl) (Or.inl (by decide)) (Q_0 rk_349)) (fun g V ve18 vn19 hq => ?_)
          have hG := hq.trans hG
          refine X_aload_n rfl rfl rfl rfl ?_
          refine X_getR (a := 352) rfl rfl rfl ((congrFun V.1 349).trans s_349) rfl ((congrFun (V.2.1 349 (by decide)) 3).trans r_349_3) ?_
          refine X_iconst (v := (0 : Int32)) rfl rfl rfl ?_
          refine X_aload_n rfl rfl rfl rfl ?_
          refine X_getR (a := 351) rfl rfl rfl ((congrFun V.1 349).trans s_349) rfl ((congrFun (V.2.1 349 (by decide)) 2).trans r_349_2) ?_
          refine X_iconst (v := (0 : Int32)) rfl rfl rfl ?_
          refine X_iload_n rfl rfl rfl rfl ?_
          refine X_iconst (v := (4 : Int32)) rfl rfl rfl ?_
          refine S_min rfl rfl rfl (Nat.le_of_ble_eq_true rfl) hx3 (show (4 : Int32).toInt = 4 from rfl) (fun vz20 hvz20 => ?_)
          refine S_copy (I := Inv _) (sp' := 0) (dp' := 0) (n' := (vz20.toInt : Int).toNat) rfl rfl rfl ((congrFun V.1 352).trans s_352) ((congrFun V.1 351).trans s_351) (by decide) (by decide) (nneg rfl (by omega)) rfl rfl rfl (by omega) (by omega) (Nat.le_of_ble_eq_true rfl) (Inv_cpy V (Nat.le_of_ble_eq_true rfl) (Nat.le_of_ble_eq_true rfl) (by omega) (fun _ _ _ _ => Q_0 rk_351)) (fun g V vn21 hq => ?_)
          have hG := hq.trans hG
          have ve18 := (vn21 (349) 4 (by decide)).trans ve18
          exact LW_return (st := []) rfl rfl ⟨rfl, V, hG⟩
      · refine X_iload_n rfl rfl rfl rfl ?_
        refine X_iconst (v := (4 : Int32)) rfl rfl rfl ?_
        refine S_icmp_lt (tgt := 66) rfl rfl rfl hx2 (show (4 : Int32).toInt = 4 from rfl) (fun vh22 => ?_) (fun q => absurd q (by omega))
        refine X_iload_n rfl rfl rfl rfl ?_
        refine S_if_ne (tgt := 74) rfl rfl rfl hx2 (fun vh23 => ?_) (fun vh23 => ?_)
        · refine X_aload_n rfl rfl rfl rfl ?_
          refine X_getR (a := 352) rfl rfl rfl ((congrFun V.1 349).trans s_349) rfl ((congrFun (V.2.1 349 (by decide)) 3).trans r_349_3) ?_
          refine X_iload_n rfl rfl rfl rfl ?_
          refine X_iconst (v := (1 : Int32)) rfl rfl rfl ?_
          refine S_isub rfl rfl hx2 (show (1 : Int32).toInt = 1 from rfl) (by omega) (fun vz24 hvz24 => ?_)
          refine S_iald rfl rfl ((congrFun V.1 352).trans s_352) rfl (by omega) (fun vz25 evz25 => ?_)
          have vf26 := K_4 (V.2.2.2.2.1 (352) ((vz24.toInt : Int).toNat) (Nat.le_of_ble_eq_true rfl)) rk_352
          rw [evz25] at vf26
          refine X_iconst (v := (1 : Int32)) rfl rfl rfl ?_
          refine S_iadd rfl rfl rfl (show (1 : Int32).toInt = 1 from rfl) (by omega) (fun vz27 hvz27 => ?_)
          refine X_istore (i := 6) (ls' := [some (.ref 349), some (.int x1), some (.int x2), some (.int x3), some (.int x4), some (.ref 2), some (.int vz27)]) rfl rfl (Nat.le_of_ble_eq_true rfl) rfl ?_
          exact (C_X7_settleWith_all ihr75 (((24 - vz27.toInt) * 1 + 0) + 1 : Int).toNat) _ V hG x1 y1 hx1 x2 y2 hx2 (by omega) x3 y3 hx3 (by omega) x4 y4 hx4 vz27 vz27.toInt rfl (by omega)   (by omega) (by omega)
        · refine X_iconst (v := (0 : Int32)) rfl rfl rfl ?_
          refine LW_goto (tgt := 84) rfl rfl ?_
          refine X_istore (i := 6) (ls' := [some (.ref 349), some (.int x1), some (.int x2), some (.int x3), some (.int x4), some (.ref 2), some (.int (0 : Int32))]) rfl rfl (Nat.le_of_ble_eq_true rfl) rfl ?_
          exact (C_X7_settleWith_all ihr75 (((24 - 0) * 1 + 0) + 1 : Int).toNat) _ V hG x1 y1 hx1 x2 y2 hx2 (by omega) x3 y3 hx3 (by omega) x4 y4 hx4 (0 : Int32) 0 (show (0 : Int32).toInt = 0 from rfl) (by omega)   (by omega) (by omega)
    · exact LW_return (st := []) rfl rfl ⟨rfl, V, hG⟩
theorem C_X7_settleWith_r {P : Par} {d : Nat} : ∀ (m : Nat) (g : LH) (V : Inv P g) (x1 : Int32) (y1 : Int) (hx1 : x1.toInt = y1) (x2 : Int32) (y2 : Int) (hx2 : x2.toInt = y2) (hf2 : 0 ≤ y2 ∧ y2 ≤ 4) (x3 : Int32) (y3 : Int) (hx3 : x3.toInt = y3) (hf3 : 1 ≤ y3 ∧ y3 ≤ 4) (x4 : Int32) (y4 : Int) (hx4 : x4.toInt = y4) , 6 - y2 < ((m : Nat) : Int) → LW 75 (d + 1 * m + 4) 0 0 0 (lEnt (mL 75) [.ref 349, .int x1, .int x2, .int x3, .int x4]) [] g (fun v g' => v = none ∧ Inv P g' ∧ Gr g' = Gr g) := by
  intro m
  induction m with
  | zero => intro g V x1 y1 hx1 x2 y2 hx2 hf2 x3 y3 hx3 hf3 x4 y4 hx4 hlev; exact absurd hlev (by omega)
  | succ m ih => intro g V x1 y1 hx1 x2 y2 hx2 hf2 x3 y3 hx3 hf3 x4 y4 hx4 hlev; exact C_X7_settleWith_s ih V x1 y1 hx1 x2 y2 hx2 hf2 x3 y3 hx3 hf3 x4 y4 hx4 (by omega)
theorem C_X7_settleWith {P : Par} {g : LH} {d : Nat} (V : Inv P g) (x1 : Int32) (y1 : Int) (hx1 : x1.toInt = y1) (x2 : Int32) (y2 : Int) (hx2 : x2.toInt = y2) (hf2 : 0 ≤ y2 ∧ y2 ≤ 4) (x3 : Int32) (y3 : Int) (hx3 : x3.toInt = y3) (hf3 : 1 ≤ y3 ∧ y3 ≤ 4) (x4 : Int32) (y4 : Int) (hx4 : x4.toInt = y4)  : LW 75 (d + 11) 0 0 0 (lEnt (mL 75) [.ref 349, .int x1, .int x2, .int x3, .int x4]) [] g (fun v g' => v = none ∧ Inv P g' ∧ Gr g' = Gr g) :=
  LW_room (Nat.le_refl _) (Nat.le_refl _) (by omega) (C_X7_settleWith_r (d := d) 7 _ V x1 y1 hx1 x2 y2 hx2 hf2 x3 y3 hx3 hf3 x4 y4 hx4 (by omega))
set_option maxRecDepth 10000 in
set_option maxHeartbeats 40000000 in
theorem C_X7_settle_7 {P : Par} {g g0 : LH} {d n : Nat}  (V : Inv P g) (hG : Gr g = Gr g0) (x1 : Int32) (y1 : Int) (hx1 : x1.toInt = y1) (hf1 : 1 ≤ y1 ∧ y1 ≤ 67108863) (x2 : Int32) (y2 : Int) (hx2 : x2.toInt = y2) (hf2 : 0 ≤ y2 ∧ y2 ≤ 4) (hc349_4 : (-1) ≤ (Gi g 349 4).toInt ∧ (Gi g 349 4).toInt ≤ (-1)) (hmu : (4 - y2) * 1 + 6 < (n : Int) + 1) (ih7 : ∀ (g : LH) (V : Inv P g) (hG : Gr g = Gr g0) (x1 : Int32) (y1 : Int) (hx1 : x1.toInt = y1) (hf1 : 1 ≤ y1 ∧ y1 ≤ 67108863) (x2 : Int32) (y2 : Int) (hx2 : x2.toInt = y2) (hf2 : 0 ≤ y2 ∧ y2 ≤ 4) (hc349_4 : (-1) ≤ (Gi g 349 4).toInt ∧ (Gi g 349 4).toInt ≤ (-1)), (4 - y2) * 1 + 6 < (n : Int) → LW 74 (d + 15) 0 0 7 [some (.ref 349), some (.int x1), some (.int x2)] [] g (fun v g' => ∃ r : Int32, v = some (.int r) ∧ Inv P g' ∧ Gr g' = Gr g0)) (ih27 : ∀ (g : LH) (V : Inv P g) (hG : Gr g = Gr g0) (x1 : Int32) (y1 : Int) (hx1 : x1.toInt = y1) (hf1 : 1 ≤ y1 ∧ y1 ≤ 67108863) (x2 : Int32) (y2 : Int) (hx2 : x2.toInt = y2) (hf2 : 1 ≤ y2 ∧ y2 ≤ 5) , (5 - y2) * 1 + 0 < (n : Int) → LW 74 (d + 15) 0 0 27 [some (.ref 349), some (.int x1), some (.int x2)] [] g (fun v g' => ∃ r : Int32, v = some (.int r) ∧ Inv P g' ∧ Gr g' = Gr g0)) : LW 74 (d + 15) 0 0 7 [some (.ref 349), some (.int x1), some (.int x2)] [] g (fun v g' => ∃ r : Int32, v = some (.int r) ∧ Inv P g' ∧ Gr g' = Gr g0) := by
  obtain ⟨vz1, evz1⟩ : ∃ z, Gi g 349 4 = z := ⟨_, rfl⟩
  rw [evz1] at hc349_4
  refine X_iload_n rfl rfl rfl rfl ?_
  refine X_iconst (v := (4 : Int32)) rfl rfl rfl ?_
  refine S_icmp_ge (tgt := 25) rfl rfl rfl hx2 (show (4 : Int32).toInt = 4 from rfl) (fun vh2 => ?_) (fun vh2 => ?_)
  · refine X_iconst (v := (1 : Int32)) rfl rfl rfl ?_
    refine X_istore_n (i := 2) (ls' := [some (.ref 349), some (.int x1), some (.int (1 : Int32))]) rfl rfl rfl (Nat.le_of_ble_eq_true rfl) rfl ?_
    exact ih27 _ V hG x1 y1 hx1 (by omega) (1 : Int32) 1 (show (1 : Int32).toInt = 1 from rfl) (by omega)    (by omega)
  · refine X_aload_n rfl rfl rfl rfl ?_
    refine X_getR (a := 351) rfl rfl rfl ((congrFun V.1 349).trans s_349) rfl ((congrFun (V.2.1 349 (by decide)) 2).trans r_349_2) ?_
    refine X_iload_n rfl rfl rfl rfl ?_
    refine X_iconst (v := (-1 : Int32)) rfl rfl rfl ?_
    refine S_iast (I := Inv _) rfl rfl ((congrFun V.1 351).trans s_351) hx2 (by omega) (Inv_putI V (Nat.le_of_ble_eq_true rfl) (Or.inl (by decide)) (Q_0 rk_351)) (fun g V ve3 vn4 hq => ?_)
    have hG := hq.trans hG
    have evz1 := (vn4 (349) 4 (Or.inl (by decide))).trans evz1
    refine S_iinc (c := 1) rfl rfl rfl hx2 rfl (by omega) (fun vz5 hvz5 => ?_)
    refine LW_ls (ls' := [some (.ref 349), some (.int x1), some (.int vz5)]) rfl ?_
    refine LW_goto (tgt := 7) rfl rfl ?_
    exact ih7 _ V hG x1 y1 hx1 (by omega) vz5 vz5.toInt rfl (by omega) (by rw [evz1]; omega)   (by omega)
set_option maxRecDepth 10000 in
set_option maxHeartbeats 40000000 in
theorem C_X7_settle_27 {P : Par} {g g0 : LH} {d n : Nat}  (V : Inv P g) (hG : Gr g = Gr g0) (x1 : Int32) (y1 : Int) (hx1 : x1.toInt = y1) (hf1 : 1 ≤ y1 ∧ y1 ≤ 67108863) (x2 : Int32) (y2 : Int) (hx2 : x2.toInt = y2) (hf2 : 1 ≤ y2 ∧ y2 ≤ 5)  (hmu : (5 - y2) * 1 + 0 < (n : Int) + 1) (ih7 : ∀ (g : LH) (V : Inv P g) (hG : Gr g = Gr g0) (x1 : Int32) (y1 : Int) (hx1 : x1.toInt = y1) (hf1 : 1 ≤ y1 ∧ y1 ≤ 67108863) (x2 : Int32) (y2 : Int) (hx2 : x2.toInt = y2) (hf2 : 0 ≤ y2 ∧ y2 ≤ 4) (hc349_4 : (-1) ≤ (Gi g 349 4).toInt ∧ (Gi g 349 4).toInt ≤ (-1)), (4 - y2) * 1 + 6 < (n : Int) → LW 74 (d + 15) 0 0 7 [some (.ref 349), some (.int x1), some (.int x2)] [] g (fun v g' => ∃ r : Int32, v = some (.int r) ∧ Inv P g' ∧ Gr g' = Gr g0)) (ih27 : ∀ (g : LH) (V : Inv P g) (hG : Gr g = Gr g0) (x1 : Int32) (y1 : Int) (hx1 : x1.toInt = y1) (hf1 : 1 ≤ y1 ∧ y1 ≤ 67108863) (x2 : Int32) (y2 : Int) (hx2 : x2.toInt = y2) (hf2 : 1 ≤ y2 ∧ y2 ≤ 5) , (5 - y2) * 1 + 0 < (n : Int) → LW 74 (d + 15) 0 0 27 [some (.ref 349), some (.int x1), some (.int x2)] [] g (fun v g' => ∃ r : Int32, v = some (.int r) ∧ Inv P g' ∧ Gr g' = Gr g0)) : LW 74 (d + 15) 0 0 27 [some (.ref 349), some (.int x1), some (.int x2)] [] g (fun v g' => ∃ r : Int32, v = some (.int r) ∧ Inv P g' ∧ Gr g' = Gr g0) := by
  refine X_iload_n rfl rfl rfl rfl ?_
  refine X_iconst (v := (4 : Int32)) rfl rfl rfl ?_
  refine S_icmp_gt (tgt := 46) rfl rfl rfl hx2 (show (4 : Int32).toInt = 4 from rfl) (fun vh1 => ?_) (fun vh1 => ?_)
  · refine X_aload_n rfl rfl rfl rfl ?_
    refine S_getI rfl rfl rfl ((congrFun V.1 349).trans s_349) rfl (fun vz2 evz2 => ?_)
    exact LW_ireturn (st := []) rfl rfl rfl ⟨_, rfl, V, hG⟩
  · refine X_aload_n rfl rfl rfl rfl ?_
    refine X_iload_n rfl rfl rfl rfl ?_
    refine X_iconst (v := (0 : Int32)) rfl rfl rfl ?_
    refine X_iload_n rfl rfl rfl rfl ?_
    refine X_iconst (v := (0 : Int32)) rfl rfl rfl ?_
    refine Y_callV (as := [.int x1, .int (0 : Int32), .int x2, .int (0 : Int32)]) (st := []) rfl rfl rfl (by decide) rfl (Nat.le_of_ble_eq_true rfl) (by decide) (Nat.le_of_ble_eq_true rfl) rfl ((congrFun V.1 349).trans s_349) (by decide) (C_X7_settleWith V x1 y1 hx1 (0 : Int32) 0 (show (0 : Int32).toInt = 0 from rfl) (by omega) x2 y2 hx2 (by omega) (0 : Int32) 0 (show (0 : Int32).toInt = 0 from rfl) ) ?_
    rintro _ g ⟨rfl, V, hq⟩
    have hG := hq.trans hG
    refine S_iinc (c := 1) rfl rfl rfl hx2 rfl (by omega) (fun vz4 hvz4 => ?_)
    refine LW_ls (ls' := [some (.ref 349), some (.int x1), some (.int vz4)]) rfl ?_
    refine LW_goto (tgt := 27) rfl rfl ?_
    exact ih27 _ V hG x1 y1 hx1 (by omega) vz4 vz4.toInt rfl (by omega)    (by omega)
theorem C_X7_settle_all {P : Par} {g0 : LH} {d : Nat}  : ∀ n : Nat, (∀ (g : LH) (V : Inv P g) (hG : Gr g = Gr g0) (x1 : Int32) (y1 : Int) (hx1 : x1.toInt = y1) (hf1 : 1 ≤ y1 ∧ y1 ≤ 67108863) (x2 : Int32) (y2 : Int) (hx2 : x2.toInt = y2) (hf2 : 0 ≤ y2 ∧ y2 ≤ 4) (hc349_4 : (-1) ≤ (Gi g 349 4).toInt ∧ (Gi g 349 4).toInt ≤ (-1)), (4 - y2) * 1 + 6 < (n : Int) → LW 74 (d + 15) 0 0 7 [some (.ref 349), some (.int x1), some (.int x2)] [] g (fun v g' => ∃ r : Int32, v = some (.int r) ∧ Inv P g' ∧ Gr g' = Gr g0)) ∧ (∀ (g : LH) (V : Inv P g) (hG : Gr g = Gr g0) (x1 : Int32) (y1 : Int) (hx1 : x1.toInt = y1) (hf1 : 1 ≤ y1 ∧ y1 ≤ 67108863) (x2 : Int32) (y2 : Int) (hx2 : x2.toInt = y2) (hf2 : 1 ≤ y2 ∧ y2 ≤ 5) , (5 - y2) * 1 + 0 < (n : Int) → LW 74 (d + 15) 0 0 27 [some (.ref 349), some (.int x1), some (.int x2)] [] g (fun v g' => ∃ r : Int32, v = some (.int r) ∧ Inv P g' ∧ Gr g' = Gr g0)) := by
  intro n
  induction n with
  | zero => exact ⟨fun g V hG x1 y1 hx1 hf1 x2 y2 hx2 hf2 hc349_4 hmu => absurd hmu (by omega), fun g V hG x1 y1 hx1 hf1 x2 y2 hx2 hf2 hmu => absurd hmu (by omega)⟩
  | succ n ih => exact ⟨fun g V hG x1 y1 hx1 hf1 x2 y2 hx2 hf2 hc349_4 hmu => C_X7_settle_7  V hG x1 y1 hx1 hf1 x2 y2 hx2 hf2 hc349_4 (by omega) ih.1 ih.2, fun g V hG x1 y1 hx1 hf1 x2 y2 hx2 hf2 hmu => C_X7_settle_27  V hG x1 y1 hx1 hf1 x2 y2 hx2 hf2 (by omega) ih.1 ih.2⟩
set_option maxRecDepth 10000 in
set_option maxHeartbeats 40000000 in
theorem C_X7_settle {P : Par} {g : LH} {d : Nat}  (V : Inv P g) (x1 : Int32) (y1 : Int) (hx1 : x1.toInt = y1) (hf1 : 1 ≤ y1 ∧ y1 ≤ 67108863)   : LW 74 (d + 15) 0 0 0 (lEnt (mL 74) [.ref 349, .int x1]) [] g (fun v g' => ∃ r : Int32, v = some (.int r) ∧ Inv P g' ∧ Gr g' = Gr g) := by
  refine LW_ls (ls' := [some (.ref 349), some (.int x1), none]) rfl ?_
  have hG : Gr g = Gr g := rfl
  refine X_aload_n rfl rfl rfl rfl ?_
  refine X_iconst (v := (-1 : Int32)) rfl rfl rfl ?_
  refine S_putI (I := Inv _) rfl rfl rfl ((congrFun V.1 349).trans s_349) rfl rfl rfl rfl (Inv_putI V (Nat.le_of_ble_eq_true rfl) (Or.inl (by decide)) (Q_0 rk_349)) (fun g V ve1 vn2 hq => ?_)
  have hG := hq.trans hG
  refine X_iconst (v := (0 : Int32)) rfl rfl rfl ?_
  refine X_istore_n (i := 2) (ls' := [some (.ref 349), some (.int x1), some (.int (0 : Int32))]) rfl rfl rfl (Nat.le_of_ble_eq_true rfl) rfl ?_
  exact (C_X7_settle_all (((4 - 0) * 1 + 6) + 1 : Int).toNat).1 _ V hG x1 y1 hx1 (by omega) (0 : Int32) 0 (show (0 : Int32).toInt = 0 from rfl) (by omega) (by rw [ve1]; decide)   (by omega)
set_option maxRecDepth 10000 in
set_option maxHeartbeats 40000000 in
theorem C_X12_settlement {P : Par} {g : LH} {d : Nat}  (V : Inv P g) (x1 : Int32) (y1 : Int) (hx1 : x1.toInt = y1) (x2 : Int32) (y2 : Int) (hx2 : x2.toInt = y2)   : LW 157 (d + 20) 0 0 0 (lEnt (mL 157) [.ref 0, .int x1, .int x2]) [] g (fun v g' => ∃ r : Int32, v = some (.int r) ∧ Inv P g' ∧ Gr g' = Gr g) := by
  refine LW_ls (ls' := [some (.ref 0), some (.int x1), some (.int x2), none]) rfl ?_
  have hG : Gr g = Gr g := rfl
  refine X_iload_n rfl rfl rfl rfl ?_
  refine X_callS (as := [.int x1]) (st := []) rfl rfl rfl (by decide) rfl (Nat.le_of_ble_eq_true rfl) (by decide) (Nat.le_of_ble_eq_true rfl) rfl ?_
  refine LW_ls (ls' := [some (.int x1)]) rfl ?_
  refine X_iload_n rfl rfl rfl rfl ?_
  refine S_if_le (tgt := 15) rfl rfl rfl hx1 (fun vh1 => ?_) (fun vh1 => ?_)
  · refine X_iconst (v := (0 : Int32)) rfl rfl rfl ?_
    refine LW_ireturn (st := []) rfl rfl rfl ?_
    refine S_if_eq (tgt := 17) rfl rfl rfl (show (0 : Int32).toInt = 0 from rfl) (fun vh2 => ?_) (fun q => absurd q (by omega))
    refine X_iconst (v := (-1 : Int32)) rfl rfl rfl ?_
    exact LW_ireturn (st := []) rfl rfl rfl ⟨_, rfl, V, hG⟩
  · refine X_iload_n rfl rfl rfl rfl ?_
    refine X_ldcw (v := (67108864 : Int32)) rfl rfl rfl ?_
    refine S_icmp_ge (tgt := 15) rfl rfl rfl hx1 (show (67108864 : Int32).toInt = 67108864 from rfl) (fun vh3 => ?_) (fun vh3 => ?_)
    · refine X_iconst (v := (0 : Int32)) rfl rfl rfl ?_
      refine LW_ireturn (st := []) rfl rfl rfl ?_
      refine S_if_eq (tgt := 17) rfl rfl rfl (show (0 : Int32).toInt = 0 from rfl) (fun vh4 => ?_) (fun q => absurd q (by omega))
      refine X_iconst (v := (-1 : Int32)) rfl rfl rfl ?_
      exact LW_ireturn (st := []) rfl rfl rfl ⟨_, rfl, V, hG⟩
    · refine X_iconst (v := (1 : Int32)) rfl rfl rfl ?_
      refine LW_goto (tgt := 16) rfl rfl ?_
      refine LW_ireturn (st := []) rfl rfl rfl ?_
      refine S_if_eq (tgt := 17) rfl rfl rfl (show (1 : Int32).toInt = 1 from rfl) (fun q => absurd q (by omega)) (fun vh5 => ?_)
      refine X_iload_n rfl rfl rfl rfl ?_
      refine X_iconst (v := (-1 : Int32)) rfl rfl rfl ?_
      refine S_icmp_lt (tgt := 17) rfl rfl rfl hx2 (show (-1 : Int32).toInt = -1 from rfl) (fun vh6 => ?_) (fun vh6 => ?_)
      · refine X_iconst (v := (-1 : Int32)) rfl rfl rfl ?_
        exact LW_ireturn (st := []) rfl rfl rfl ⟨_, rfl, V, hG⟩
      · refine X_iload_n rfl rfl rfl rfl ?_
        refine X_iconst (v := (4 : Int32)) rfl rfl rfl ?_
        refine S_icmp_lt (tgt := 19) rfl rfl rfl hx2 (show (4 : Int32).toInt = 4 from rfl) (fun vh7 => ?_) (fun vh7 => ?_)
        · refine X_aload_n rfl rfl rfl rfl ?_
          refine X_getR (a := 349) rfl rfl rfl ((congrFun V.1 0).trans s_0) rfl ((congrFun (V.2.1 0 (by decide)) 8).trans r_0_8) ?_
          refine X_iload_n rfl rfl rfl rfl ?_
          refine Y_callV (as := [.int x1]) (st := []) rfl rfl rfl (by decide) rfl (Nat.le_of_ble_eq_true rfl) (by decide) (Nat.le_of_ble_eq_true rfl) rfl ((congrFun V.1 349).trans s_349) (by decide) (C_X7_settle V x1 y1 hx1 (by omega) ) ?_
          rintro _ g ⟨vr8, rfl, V, hq⟩
          have hG := hq.trans hG
          refine X_istore_n (i := 3) (ls' := [some (.ref 0), some (.int x1), some (.int x2), some (.int vr8)]) rfl rfl rfl (Nat.le_of_ble_eq_true rfl) rfl ?_
          refine X_iload_n rfl rfl rfl rfl ?_
          refine X_iconst (v := (-1 : Int32)) rfl rfl rfl ?_
          refine S_icmp_eq (tgt := 38) rfl rfl rfl hx2 (show (-1 : Int32).toInt = -1 from rfl) (fun vh9 => ?_) (fun vh9 => ?_)
          · refine X_iload_n rfl rfl rfl rfl ?_
            refine LW_goto (tgt := 51) rfl rfl ?_
            exact LW_ireturn (st := []) rfl rfl rfl ⟨_, rfl, V, hG⟩
          · refine X_iload_n rfl rfl rfl rfl ?_
            refine X_iconst (v := (-1 : Int32)) rfl rfl rfl ?_
            refine S_icmp_ne (tgt := 42) rfl rfl rfl rfl (show (-1 : Int32).toInt = -1 from rfl) (fun vh10 => ?_) (fun vh10 => ?_)
            · refine X_aload_n rfl rfl rfl rfl ?_
              refine X_getR (a := 349) rfl rfl rfl ((congrFun V.1 0).trans s_0) rfl ((congrFun (V.2.1 0 (by decide)) 8).trans r_0_8) ?_
              refine X_getR (a := 351) rfl rfl rfl ((congrFun V.1 349).trans s_349) rfl ((congrFun (V.2.1 349 (by decide)) 2).trans r_349_2) ?_
              refine X_iload_n rfl rfl rfl rfl ?_
              refine S_iald rfl rfl ((congrFun V.1 351).trans s_351) hx2 (by omega) (fun vz11 evz11 => ?_)
              exact LW_ireturn (st := []) rfl rfl rfl ⟨_, rfl, V, hG⟩
            · refine X_iload_n rfl rfl rfl rfl ?_
              refine LW_goto (tgt := 51) rfl rfl ?_
              exact LW_ireturn (st := []) rfl rfl rfl ⟨_, rfl, V, hG⟩
        · refine X_iconst (v := (-1 : Int32)) rfl rfl rfl ?_
          exact LW_ireturn (st := []) rfl rfl rfl ⟨_, rfl, V, hG⟩
set_option maxRecDepth 10000 in
set_option maxHeartbeats 40000000 in
theorem C_X7_wordsOf_4 {P : Par} {g : LH} {d n : Nat}  (V : Inv P g) (x1 : Int32) (y1 : Int) (hx1 : x1.toInt = y1) (x2 : Int32) (y2 : Int) (hx2 : x2.toInt = y2) (x3 : Int32) (y3 : Int) (hx3 : x3.toInt = y3) (hf3 : 0 ≤ y3 ∧ y3 ≤ 24)  (hmu : (24 - y3) * 1 + 0 < (n : Int) + 1) (ih4 : ∀ (V : Inv P g) (x1 : Int32) (y1 : Int) (hx1 : x1.toInt = y1) (x2 : Int32) (y2 : Int) (hx2 : x2.toInt = y2) (x3 : Int32) (y3 : Int) (hx3 : x3.toInt = y3) (hf3 : 0 ≤ y3 ∧ y3 ≤ 24) , (24 - y3) * 1 + 0 < (n : Int) → LW 78 (d + 3) 0 0 4 [some (.ref 349), some (.int x1), some (.int x2), some (.int x3)] [] g (fun v g' => ∃ r : Int32, v = some (.int r) ∧ g = g')) : LW 78 (d + 3) 0 0 4 [some (.ref 349), some (.int x1), some (.int x2), some (.int x3)] [] g (fun v g' => ∃ r : Int32, v = some (.int r) ∧ g = g') := by
  refine X_iload_n rfl rfl rfl rfl ?_
  refine X_aload_n rfl rfl rfl rfl ?_
  refine X_getR (a := 1) rfl rfl rfl ((congrFun V.1 349).trans s_349) rfl ((congrFun (V.2.1 349 (by decide)) 0).trans r_349_0) ?_
  refine X_getR (a := 2) rfl rfl rfl ((congrFun V.1 1).trans s_1) rfl ((congrFun (V.2.1 1 (by decide)) 0).trans r_1_0) ?_
  refine S_getI rfl rfl rfl ((congrFun V.1 2).trans s_2) rfl (fun vz1 evz1 => ?_)
  have vf2 := K_10_0 (V.2.2.2.2.1 (2) (0) (Nat.le_of_ble_eq_true rfl)) rk_2
  rw [evz1] at vf2
  refine S_icmp_ge (tgt := 51) rfl rfl rfl hx3 rfl (fun vh3 => ?_) (fun vh3 => ?_)
  · refine X_iload_n rfl rfl rfl rfl ?_
    exact LW_ireturn (st := []) rfl rfl rfl ⟨_, rfl, rfl⟩
  · refine X_iload_n rfl rfl rfl rfl ?_
    refine X_aload_n rfl rfl rfl rfl ?_
    refine X_getR (a := 1) rfl rfl rfl ((congrFun V.1 349).trans s_349) rfl ((congrFun (V.2.1 349 (by decide)) 0).trans r_349_0) ?_
    refine X_getR (a := 2) rfl rfl rfl ((congrFun V.1 1).trans s_1) rfl ((congrFun (V.2.1 1 (by decide)) 0).trans r_1_0) ?_
    refine X_getR (a := 5) rfl rfl rfl ((congrFun V.1 2).trans s_2) rfl ((congrFun (V.2.1 2 (by decide)) 4).trans r_2_4) ?_
    refine X_iload_n rfl rfl rfl rfl ?_
    refine S_iald rfl rfl ((congrFun V.1 5).trans s_5) hx3 (by omega) (fun vz4 evz4 => ?_)
    refine X_iload_n rfl rfl rfl rfl ?_
    refine X_iconst (v := (-1 : Int32)) rfl rfl rfl ?_
    refine S_ixorT rfl rfl (fun vz5 => ?_)
    refine S_iandT rfl rfl (fun vz6 => ?_)
    refine S_if_ne (tgt := 42) rfl rfl rfl rfl (fun vh7 => ?_) (fun vh7 => ?_)
    · refine X_iconst (v := (0 : Int32)) rfl rfl rfl ?_
      refine S_iaddT rfl rfl (fun vz8 => ?_)
      refine X_istore_n (i := 2) (ls' := [some (.ref 349), some (.int x1), some (.int vz8), some (.int x3)]) rfl rfl rfl (Nat.le_of_ble_eq_true rfl) rfl ?_
      refine S_iinc (c := 1) rfl rfl rfl hx3 rfl (by omega) (fun vz9 hvz9 => ?_)
      refine LW_ls (ls' := [some (.ref 349), some (.int x1), some (.int vz8), some (.int vz9)]) rfl ?_
      refine LW_goto (tgt := 4) rfl rfl ?_
      exact ih4 V x1 y1 hx1 vz8 vz8.toInt rfl vz9 vz9.toInt rfl (by omega)    (by omega)
    · refine X_iconst (v := (1 : Int32)) rfl rfl rfl ?_
      refine LW_goto (tgt := 43) rfl rfl ?_
      refine S_iaddT rfl rfl (fun vz10 => ?_)
      refine X_istore_n (i := 2) (ls' := [some (.ref 349), some (.int x1), some (.int vz10), some (.int x3)]) rfl rfl rfl (Nat.le_of_ble_eq_true rfl) rfl ?_
      refine S_iinc (c := 1) rfl rfl rfl hx3 rfl (by omega) (fun vz11 hvz11 => ?_)
      refine LW_ls (ls' := [some (.ref 349), some (.int x1), some (.int vz10), some (.int vz11)]) rfl ?_
      refine LW_goto (tgt := 4) rfl rfl ?_
      exact ih4 V x1 y1 hx1 vz10 vz10.toInt rfl vz11 vz11.toInt rfl (by omega)    (by omega)
theorem C_X7_wordsOf_all {P : Par} {g : LH} {d : Nat}  : ∀ n : Nat, (∀ (V : Inv P g) (x1 : Int32) (y1 : Int) (hx1 : x1.toInt = y1) (x2 : Int32) (y2 : Int) (hx2 : x2.toInt = y2) (x3 : Int32) (y3 : Int) (hx3 : x3.toInt = y3) (hf3 : 0 ≤ y3 ∧ y3 ≤ 24) , (24 - y3) * 1 + 0 < (n : Int) → LW 78 (d + 3) 0 0 4 [some (.ref 349), some (.int x1), some (.int x2), some (.int x3)] [] g (fun v g' => ∃ r : Int32, v = some (.int r) ∧ g = g')) := by
  intro n
  induction n with
  | zero => exact fun V x1 y1 hx1 x2 y2 hx2 x3 y3 hx3 hf3 hmu => absurd hmu (by omega)
  | succ n ih => exact fun V x1 y1 hx1 x2 y2 hx2 x3 y3 hx3 hf3 hmu => C_X7_wordsOf_4  V x1 y1 hx1 x2 y2 hx2 x3 y3 hx3 hf3 (by omega) ih
set_option maxRecDepth 10000 in
set_option maxHeartbeats 40000000 in
theorem C_X7_wordsOf {P : Par} {g : LH} {d : Nat}  (V : Inv P g) (x1 : Int32) (y1 : Int) (hx1 : x1.toInt = y1)   : LW 78 (d + 3) 0 0 0 (lEnt (mL 78) [.ref 349, .int x1]) [] g (fun v g' => ∃ r : Int32, v = some (.int r) ∧ g = g') := by
  refine LW_ls (ls' := [some (.ref 349), some (.int x1), none, none]) rfl ?_
  refine X_iconst (v := (0 : Int32)) rfl rfl rfl ?_
  refine X_istore_n (i := 2) (ls' := [some (.ref 349), some (.int x1), some (.int (0 : Int32)), none]) rfl rfl rfl (Nat.le_of_ble_eq_true rfl) rfl ?_
  refine X_iconst (v := (0 : Int32)) rfl rfl rfl ?_
  refine X_istore_n (i := 3) (ls' := [some (.ref 349), some (.int x1), some (.int (0 : Int32)), some (.int (0 : Int32))]) rfl rfl rfl (Nat.le_of_ble_eq_true rfl) rfl ?_
  exact (C_X7_wordsOf_all (((24 - 0) * 1 + 0) + 1 : Int).toNat) V x1 y1 hx1 (0 : Int32) 0 (show (0 : Int32).toInt = 0 from rfl) (0 : Int32) 0 (show (0 : Int32).toInt = 0 from rfl) (by omega)    (by omega)
set_option maxRecDepth 10000 in
set_option maxHeartbeats 40000000 in
theorem C_X7_learnMore_35 {P : Par} {g g0 : LH} {d n m : Nat} (ihr77 : ∀ (g : LH) (V : Inv P g) (x1 : Int32) (y1 : Int) (hx1 : x1.toInt = y1) (x2 : Int32) (y2 : Int) (hx2 : x2.toInt = y2) (hf2 : 0 ≤ y2 ∧ y2 ≤ 4) (x3 : Int32) (y3 : Int) (hx3 : x3.toInt = y3) , y2 + 1 < ((m : Nat) : Int) → LW 77 (d + 1 * m + 7) 0 0 0 (lEnt (mL 77) [.ref 349, .int x1, .int x2, .int x3]) [] g (fun v g' => v = none ∧ Inv P g' ∧ Gr g' = Gr g)) (V : Inv P g) (hG : Gr g = Gr g0) (x1 : Int32) (y1 : Int) (hx1 : x1.toInt = y1) (x2 : Int32) (y2 : Int) (hx2 : x2.toInt = y2) (hf2 : 1 ≤ y2 ∧ y2 ≤ 4) (x3 : Int32) (y3 : Int) (hx3 : x3.toInt = y3) (x4 : Int32) (y4 : Int) (hx4 : x4.toInt = y4) (hf4 : 0 ≤ y4 ∧ y4 ≤ 26) (o5 : Option Value) (hlev : y2 + 1 < (((m + 1) : Nat) : Int)) (hmu : (26 - y4) * 1 + 0 < (n : Int) + 1) (ih35 : ∀ (g : LH) (V : Inv P g) (hG : Gr g = Gr g0) (x1 : Int32) (y1 : Int) (hx1 : x1.toInt = y1) (x2 : Int32) (y2 : Int) (hx2 : x2.toInt = y2) (hf2 : 1 ≤ y2 ∧ y2 ≤ 4) (x3 : Int32) (y3 : Int) (hx3 : x3.toInt = y3) (x4 : Int32) (y4 : Int) (hx4 : x4.toInt = y4) (hf4 : 0 ≤ y4 ∧ y4 ≤ 26) (o5 : Option Value) (hlev : y2 + 1 < (((m + 1) : Nat) : Int)), (26 - y4) * 1 + 0 < (n : Int) → LW 77 (d + 1 * (m + 1) + 7) 0 0 35 [some (.ref 349), some (.int x1), some (.int x2), some (.int x3), some (.int x4), o5] [] g (fun v g' => v = none ∧ Inv P g' ∧ Gr g' = Gr g0)) : LW 77 (d + 1 * (m + 1) + 7) 0 0 35 [some (.ref 349), some (.int x1), some (.int x2), some (.int x3), some (.int x4), o5] [] g (fun v g' => v = none ∧ Inv P g' ∧ Gr g' = Gr g0) := by
  refine X_iload rfl rfl rfl ?_
  refine X_bipush (v := (26 : Int32)) rfl rfl rfl ?_
  refine S_icmp_ge (tgt := 79) rfl rfl rfl hx4 (show (26 : Int32).toInt = 26 from rfl) (fun vh1 => ?_) (fun vh1 => ?_)
  · exact LW_return (st := []) rfl rfl ⟨rfl, V, hG⟩
  · refine X_iconst (v := (1 : Int32)) rfl rfl rfl ?_
    refine X_iload rfl rfl rfl ?_
    refine S_ishlT rfl rfl (fun vz2 => ?_)
    refine X_istore (i := 5) (ls' := [some (.ref 349), some (.int x1), some (.int x2), some (.int x3), some (.int x4), some (.int vz2)]) rfl rfl (Nat.le_of_ble_eq_true rfl) rfl ?_
    refine X_iload_n rfl rfl rfl rfl ?_
    refine X_iload rfl rfl rfl ?_
    refine S_iandT rfl rfl (fun vz3 => ?_)
    refine S_if_eq (tgt := 73) rfl rfl rfl rfl (fun vh4 => ?_) (fun vh4 => ?_)
    · refine S_iinc (c := 1) rfl rfl rfl hx4 rfl (by omega) (fun vz5 hvz5 => ?_)
      refine LW_ls (ls' := [some (.ref 349), some (.int x1), some (.int x2), some (.int x3), some (.int vz5), some (.int vz2)]) rfl ?_
      refine LW_goto (tgt := 35) rfl rfl ?_
      exact ih35 _ V hG x1 y1 hx1 x2 y2 hx2 (by omega) x3 y3 hx3 vz5 vz5.toInt rfl (by omega) (some (.int vz2))   (by omega) (by omega)
    · refine X_iload rfl rfl rfl ?_
      refine X_iload_n rfl rfl rfl rfl ?_
      refine S_icmp_le (tgt := 73) rfl rfl rfl rfl hx3 (fun vh6 => ?_) (fun vh6 => ?_)
      · refine S_iinc (c := 1) rfl rfl rfl hx4 rfl (by omega) (fun vz7 hvz7 => ?_)
        refine LW_ls (ls' := [some (.ref 349), some (.int x1), some (.int x2), some (.int x3), some (.int vz7), some (.int vz2)]) rfl ?_
        refine LW_goto (tgt := 35) rfl rfl ?_
        exact ih35 _ V hG x1 y1 hx1 x2 y2 hx2 (by omega) x3 y3 hx3 vz7 vz7.toInt rfl (by omega) (some (.int vz2))   (by omega) (by omega)
      · refine X_aload_n rfl rfl rfl rfl ?_
        refine X_iload_n rfl rfl rfl rfl ?_
        refine X_iload_n rfl rfl rfl rfl ?_
        refine X_iconst (v := (1 : Int32)) rfl rfl rfl ?_
        refine S_isub rfl rfl hx2 (show (1 : Int32).toInt = 1 from rfl) (by omega) (fun vz8 hvz8 => ?_)
        refine X_iload_n rfl rfl rfl rfl ?_
        refine X_iload rfl rfl rfl ?_
        refine S_iorT rfl rfl (fun vz9 => ?_)
        refine Y_callV (as := [.int x1, .int vz8, .int vz9]) (st := []) rfl rfl rfl (by decide) rfl (Nat.le_of_ble_eq_true rfl) (by decide) (Nat.le_of_ble_eq_true rfl) rfl ((congrFun V.1 349).trans s_349) (by decide) (LW_room (Nat.le_refl _) (Nat.le_refl _) (by omega) (ihr77 _ V x1 y1 hx1 vz8 vz8.toInt rfl (by omega) vz9 vz9.toInt rfl  (by omega))) ?_
        rintro _ g ⟨rfl, V, hq⟩
        have hG := hq.trans hG
        refine S_iinc (c := 1) rfl rfl rfl hx4 rfl (by omega) (fun vz11 hvz11 => ?_)
        refine LW_ls (ls' := [some (.ref 349), some (.int x1), some (.int x2), some (.int x3), some (.int vz11), some (.int vz2)]) rfl ?_
        refine LW_goto (tgt := 35) rfl rfl ?_
        exact ih35 _ V hG x1 y1 hx1 x2 y2 hx2 (by omega) x3 y3 hx3 vz11 vz11.toInt rfl (by omega) (some (.int vz2))   (by omega) (by omega)
theorem C_X7_learnMore_all {P : Par} {g0 : LH} {d m : Nat} (ihr77 : ∀ (g : LH) (V : Inv P g) (x1 : Int32) (y1 : Int) (hx1 : x1.toInt = y1) (x2 : Int32) (y2 : Int) (hx2 : x2.toInt = y2) (hf2 : 0 ≤ y2 ∧ y2 ≤ 4) (x3 : Int32) (y3 : Int) (hx3 : x3.toInt = y3) , y2 + 1 < ((m : Nat) : Int) → LW 77 (d + 1 * m + 7) 0 0 0 (lEnt (mL 77) [.ref 349, .int x1, .int x2, .int x3]) [] g (fun v g' => v = none ∧ Inv P g' ∧ Gr g' = Gr g)) : ∀ n : Nat, (∀ (g : LH) (V : Inv P g) (hG : Gr g = Gr g0) (x1 : Int32) (y1 : Int) (hx1 : x1.toInt = y1) (x2 : Int32) (y2 : Int) (hx2 : x2.toInt = y2) (hf2 : 1 ≤ y2 ∧ y2 ≤ 4) (x3 : Int32) (y3 : Int) (hx3 : x3.toInt = y3) (x4 : Int32) (y4 : Int) (hx4 : x4.toInt = y4) (hf4 : 0 ≤ y4 ∧ y4 ≤ 26) (o5 : Option Value) (hlev : y2 + 1 < (((m + 1) : Nat) : Int)), (26 - y4) * 1 + 0 < (n : Int) → LW 77 (d + 1 * (m + 1) + 7) 0 0 35 [some (.ref 349), some (.int x1), some (.int x2), some (.int x3), some (.int x4), o5] [] g (fun v g' => v = none ∧ Inv P g' ∧ Gr g' = Gr g0)) := by
  intro n
  induction n with
  | zero => exact fun g V hG x1 y1 hx1 x2 y2 hx2 hf2 x3 y3 hx3 x4 y4 hx4 hf4 o5 hlev hmu => absurd hmu (by omega)
  | succ n ih => exact fun g V hG x1 y1 hx1 x2 y2 hx2 hf2 x3 y3 hx3 x4 y4 hx4 hf4 o5 hlev hmu => C_X7_learnMore_35 ihr77 V hG x1 y1 hx1 x2 y2 hx2 hf2 x3 y3 hx3 x4 y4 hx4 hf4 o5 hlev (by omega) ih
set_option maxRecDepth 10000 in
set_option maxHeartbeats 40000000 in
theorem C_X7_learnMore_s {P : Par} {g : LH} {d m : Nat} (ihr77 : ∀ (g : LH) (V : Inv P g) (x1 : Int32) (y1 : Int) (hx1 : x1.toInt = y1) (x2 : Int32) (y2 : Int) (hx2 : x2.toInt = y2) (hf2 : 0 ≤ y2 ∧ y2 ≤ 4) (x3 : Int32) (y3 : Int) (hx3 : x3.toInt = y3) , y2 + 1 < ((m : Nat) : Int) → LW 77 (d + 1 * m + 7) 0 0 0 (lEnt (mL 77) [.ref 349, .int x1, .int x2, .int x3]) [] g (fun v g' => v = none ∧ Inv P g' ∧ Gr g' = Gr g)) (V : Inv P g) (x1 : Int32) (y1 : Int) (hx1 : x1.toInt = y1) (x2 : Int32) (y2 : Int) (hx2 : x2.toInt = y2) (hf2 : 0 ≤ y2 ∧ y2 ≤ 4) (x3 : Int32) (y3 : Int) (hx3 : x3.toInt = y3)  (hlev : y2 + 1 < (((m + 1) : Nat) : Int)) : LW 77 (d + 1 * (m + 1) + 7) 0 0 0 (lEnt (mL 77) [.ref 349, .int x1, .int x2, .int x3]) [] g (fun v g' => v = none ∧ Inv P g' ∧ Gr g' = Gr g) := by
  refine LW_ls (ls' := [some (.ref 349), some (.int x1), some (.int x2), some (.int x3), none, none]) rfl ?_
  have hG : Gr g = Gr g := rfl
  refine X_iload_n rfl rfl rfl rfl ?_
  refine S_if_gt (tgt := 32) rfl rfl rfl hx2 (fun vh1 => ?_) (fun vh1 => ?_)
  · refine X_iconst (v := (0 : Int32)) rfl rfl rfl ?_
    refine X_istore (i := 4) (ls' := [some (.ref 349), some (.int x1), some (.int x2), some (.int x3), some (.int (0 : Int32)), none]) rfl rfl (Nat.le_of_ble_eq_true rfl) rfl ?_
    exact (C_X7_learnMore_all ihr77 (((26 - 0) * 1 + 0) + 1 : Int).toNat) _ V hG x1 y1 hx1 x2 y2 hx2 (by omega) x3 y3 hx3 (0 : Int32) 0 (show (0 : Int32).toInt = 0 from rfl) (by omega) none   (by omega) (by omega)
  · refine X_aload_n rfl rfl rfl rfl ?_
    refine X_iload_n rfl rfl rfl rfl ?_
    refine Y_callV (as := [.int x3]) (st := []) rfl rfl rfl (by decide) rfl (Nat.le_of_ble_eq_true rfl) (by decide) (Nat.le_of_ble_eq_true rfl) rfl ((congrFun V.1 349).trans s_349) (by decide) (C_X7_wordsOf V x3 y3 hx3 ) ?_
    rintro _ g' ⟨vr2, rfl, hgg⟩
    subst hgg
    refine X_istore (i := 4) (ls' := [some (.ref 349), some (.int x1), some (.int x2), some (.int x3), some (.int vr2), none]) rfl rfl (Nat.le_of_ble_eq_true rfl) rfl ?_
    refine X_iload rfl rfl rfl ?_
    refine X_aload_n rfl rfl rfl rfl ?_
    refine S_getI rfl rfl rfl ((congrFun V.1 349).trans s_349) rfl (fun vz3 evz3 => ?_)
    refine S_icmp_le (tgt := 31) rfl rfl rfl rfl rfl (fun vh4 => ?_) (fun vh4 => ?_)
    · exact LW_return (st := []) rfl rfl ⟨rfl, V, hG⟩
    · refine X_aload_n rfl rfl rfl rfl ?_
      refine X_iload rfl rfl rfl ?_
      refine S_putI (I := Inv _) rfl rfl rfl ((congrFun V.1 349).trans s_349) rfl rfl rfl rfl (Inv_putI V (Nat.le_of_ble_eq_true rfl) (Or.inl (by decide)) (Q_0 rk_349)) (fun g V ve5 vn6 hq => ?_)
      have hG := hq.trans hG
      refine X_aload_n rfl rfl rfl rfl ?_
      refine X_iload_n rfl rfl rfl rfl ?_
      refine S_putI (I := Inv _) rfl rfl rfl ((congrFun V.1 349).trans s_349) rfl rfl rfl rfl (Inv_putI V (Nat.le_of_ble_eq_true rfl) (Or.inl (by decide)) (Q_0 rk_349)) (fun g V ve7 vn8 hq => ?_)
      have hG := hq.trans hG
      have ve5 := (vn8 (349) 5 (Or.inr (by decide))).trans ve5
      exact LW_return (st := []) rfl rfl ⟨rfl, V, hG⟩
theorem C_X7_learnMore_r {P : Par} {d : Nat} : ∀ (m : Nat) (g : LH) (V : Inv P g) (x1 : Int32) (y1 : Int) (hx1 : x1.toInt = y1) (x2 : Int32) (y2 : Int) (hx2 : x2.toInt = y2) (hf2 : 0 ≤ y2 ∧ y2 ≤ 4) (x3 : Int32) (y3 : Int) (hx3 : x3.toInt = y3) , y2 + 1 < ((m : Nat) : Int) → LW 77 (d + 1 * m + 7) 0 0 0 (lEnt (mL 77) [.ref 349, .int x1, .int x2, .int x3]) [] g (fun v g' => v = none ∧ Inv P g' ∧ Gr g' = Gr g) := by
  intro m
  induction m with
  | zero => intro g V x1 y1 hx1 x2 y2 hx2 hf2 x3 y3 hx3 hlev; exact absurd hlev (by omega)
  | succ m ih => intro g V x1 y1 hx1 x2 y2 hx2 hf2 x3 y3 hx3 hlev; exact C_X7_learnMore_s ih V x1 y1 hx1 x2 y2 hx2 hf2 x3 y3 hx3 (by omega)
theorem C_X7_learnMore {P : Par} {g : LH} {d : Nat} (V : Inv P g) (x1 : Int32) (y1 : Int) (hx1 : x1.toInt = y1) (x2 : Int32) (y2 : Int) (hx2 : x2.toInt = y2) (hf2 : 0 ≤ y2 ∧ y2 ≤ 4) (x3 : Int32) (y3 : Int) (hx3 : x3.toInt = y3)  : LW 77 (d + 13) 0 0 0 (lEnt (mL 77) [.ref 349, .int x1, .int x2, .int x3]) [] g (fun v g' => v = none ∧ Inv P g' ∧ Gr g' = Gr g) :=
  LW_room (Nat.le_refl _) (Nat.le_refl _) (by omega) (C_X7_learnMore_r (d := d) 6 _ V x1 y1 hx1 x2 y2 hx2 hf2 x3 y3 hx3 (by omega))
set_option maxRecDepth 10000 in
set_option maxHeartbeats 40000000 in
theorem C_X7_learnFirst_4 {P : Par} {g g0 : LH} {d n : Nat}  (V : Inv P g) (hG : Gr g = Gr g0) (x1 : Int32) (y1 : Int) (hx1 : x1.toInt = y1) (hf1 : 1 ≤ y1 ∧ y1 ≤ 4) (x2 : Int32) (y2 : Int) (hx2 : x2.toInt = y2) (x3 : Int32) (y3 : Int) (hx3 : x3.toInt = y3) (hf3 : 0 ≤ y3 ∧ y3 ≤ 24)  (hmu : (24 - y3) * 1 + 0 < (n : Int) + 1) (ih4 : ∀ (g : LH) (V : Inv P g) (hG : Gr g = Gr g0) (x1 : Int32) (y1 : Int) (hx1 : x1.toInt = y1) (hf1 : 1 ≤ y1 ∧ y1 ≤ 4) (x2 : Int32) (y2 : Int) (hx2 : x2.toInt = y2) (x3 : Int32) (y3 : Int) (hx3 : x3.toInt = y3) (hf3 : 0 ≤ y3 ∧ y3 ≤ 24) , (24 - y3) * 1 + 0 < (n : Int) → LW 76 (d + 17) 0 0 4 [some (.ref 349), some (.int x1), some (.int x2), some (.int x3)] [] g (fun v g' => v = none ∧ Inv P g' ∧ Gr g' = Gr g0)) : LW 76 (d + 17) 0 0 4 [some (.ref 349), some (.int x1), some (.int x2), some (.int x3)] [] g (fun v g' => v = none ∧ Inv P g' ∧ Gr g' = Gr g0) := by
  refine X_iload_n rfl rfl rfl rfl ?_
  refine X_aload_n rfl rfl rfl rfl ?_
  refine X_getR (a := 1) rfl rfl rfl ((congrFun V.1 349).trans s_349) rfl ((congrFun (V.2.1 349 (by decide)) 0).trans r_349_0) ?_
  refine X_getR (a := 2) rfl rfl rfl ((congrFun V.1 1).trans s_1) rfl ((congrFun (V.2.1 1 (by decide)) 0).trans r_1_0) ?_
  refine S_getI rfl rfl rfl ((congrFun V.1 2).trans s_2) rfl (fun vz1 evz1 => ?_)
  have vf2 := K_10_0 (V.2.2.2.2.1 (2) (0) (Nat.le_of_ble_eq_true rfl)) rk_2
  rw [evz1] at vf2
  refine S_icmp_ge (tgt := 39) rfl rfl rfl hx3 rfl (fun vh3 => ?_) (fun vh3 => ?_)
  · refine X_aload_n rfl rfl rfl rfl ?_
    refine X_iconst (v := (-1 : Int32)) rfl rfl rfl ?_
    refine S_putI (I := Inv _) rfl rfl rfl ((congrFun V.1 349).trans s_349) rfl rfl rfl rfl (Inv_putI V (Nat.le_of_ble_eq_true rfl) (Or.inl (by decide)) (Q_0 rk_349)) (fun g V ve4 vn5 hq => ?_)
    have hG := hq.trans hG
    have evz1 := (vn5 (2) 0 (Or.inl (by decide))).trans evz1
    refine X_aload_n rfl rfl rfl rfl ?_
    refine X_iconst (v := (0 : Int32)) rfl rfl rfl ?_
    refine S_putI (I := Inv _) rfl rfl rfl ((congrFun V.1 349).trans s_349) rfl rfl rfl rfl (Inv_putI V (Nat.le_of_ble_eq_true rfl) (Or.inl (by decide)) (Q_0 rk_349)) (fun g V ve6 vn7 hq => ?_)
    have hG := hq.trans hG
    have evz1 := (vn7 (2) 0 (Or.inl (by decide))).trans evz1
    have ve4 := (vn7 (349) 5 (Or.inr (by decide))).trans ve4
    refine X_aload_n rfl rfl rfl rfl ?_
    refine X_iload_n rfl rfl rfl rfl ?_
    refine X_iload_n rfl rfl rfl rfl ?_
    refine X_iload_n rfl rfl rfl rfl ?_
    refine Y_callS (as := [.int x2]) (st := [.int x1, .int x2, .ref 349]) rfl rfl rfl (by decide) rfl (Nat.le_of_ble_eq_true rfl) (by decide) (Nat.le_of_ble_eq_true rfl) rfl (C_J6_bitCount_0f7a4 V x2 y2 hx2 ) ?_
    rintro _ g' ⟨vr8, rfl, hrvr80, hrvr81, hgg⟩
    subst hgg
    refine S_min rfl rfl rfl (Nat.le_of_ble_eq_true rfl) hx1 rfl (fun vz9 hvz9 => ?_)
    refine X_iconst (v := (0 : Int32)) rfl rfl rfl ?_
    refine Y_callV (as := [.int x2, .int vz9, .int (0 : Int32)]) (st := []) rfl rfl rfl (by decide) rfl (Nat.le_of_ble_eq_true rfl) (by decide) (Nat.le_of_ble_eq_true rfl) rfl ((congrFun V.1 349).trans s_349) (by decide) (C_X7_learnMore V x2 y2 hx2 vz9 vz9.toInt rfl (by omega) (0 : Int32) 0 (show (0 : Int32).toInt = 0 from rfl) ) ?_
    rintro _ g ⟨rfl, V, hq⟩
    have hG := hq.trans hG
    exact LW_return (st := []) rfl rfl ⟨rfl, V, hG⟩
  · refine X_iload_n rfl rfl rfl rfl ?_
    refine X_aload_n rfl rfl rfl rfl ?_
    refine X_getR (a := 1) rfl rfl rfl ((congrFun V.1 349).trans s_349) rfl ((congrFun (V.2.1 349 (by decide)) 0).trans r_349_0) ?_
    refine X_getR (a := 2) rfl rfl rfl ((congrFun V.1 1).trans s_1) rfl ((congrFun (V.2.1 1 (by decide)) 0).trans r_1_0) ?_
    refine X_getR (a := 5) rfl rfl rfl ((congrFun V.1 2).trans s_2) rfl ((congrFun (V.2.1 2 (by decide)) 4).trans r_2_4) ?_
    refine X_iload_n rfl rfl rfl rfl ?_
    refine S_iald rfl rfl ((congrFun V.1 5).trans s_5) hx3 (by omega) (fun vz11 evz11 => ?_)
    refine S_iorT rfl rfl (fun vz12 => ?_)
    refine X_istore_n (i := 2) (ls' := [some (.ref 349), some (.int x1), some (.int vz12), some (.int x3)]) rfl rfl rfl (Nat.le_of_ble_eq_true rfl) rfl ?_
    refine S_iinc (c := 1) rfl rfl rfl hx3 rfl (by omega) (fun vz13 hvz13 => ?_)
    refine LW_ls (ls' := [some (.ref 349), some (.int x1), some (.int vz12), some (.int vz13)]) rfl ?_
    refine LW_goto (tgt := 4) rfl rfl ?_
    exact ih4 _ V hG x1 y1 hx1 (by omega) vz12 vz12.toInt rfl vz13 vz13.toInt rfl (by omega)    (by omega)
theorem C_X7_learnFirst_all {P : Par} {g0 : LH} {d : Nat}  : ∀ n : Nat, (∀ (g : LH) (V : Inv P g) (hG : Gr g = Gr g0) (x1 : Int32) (y1 : Int) (hx1 : x1.toInt = y1) (hf1 : 1 ≤ y1 ∧ y1 ≤ 4) (x2 : Int32) (y2 : Int) (hx2 : x2.toInt = y2) (x3 : Int32) (y3 : Int) (hx3 : x3.toInt = y3) (hf3 : 0 ≤ y3 ∧ y3 ≤ 24) , (24 - y3) * 1 + 0 < (n : Int) → LW 76 (d + 17) 0 0 4 [some (.ref 349), some (.int x1), some (.int x2), some (.int x3)] [] g (fun v g' => v = none ∧ Inv P g' ∧ Gr g' = Gr g0)) := by
  intro n
  induction n with
  | zero => exact fun g V hG x1 y1 hx1 hf1 x2 y2 hx2 x3 y3 hx3 hf3 hmu => absurd hmu (by omega)
  | succ n ih => exact fun g V hG x1 y1 hx1 hf1 x2 y2 hx2 x3 y3 hx3 hf3 hmu => C_X7_learnFirst_4  V hG x1 y1 hx1 hf1 x2 y2 hx2 x3 y3 hx3 hf3 (by omega) ih
set_option maxRecDepth 10000 in
set_option maxHeartbeats 40000000 in
theorem C_X7_learnFirst {P : Par} {g : LH} {d : Nat}  (V : Inv P g) (x1 : Int32) (y1 : Int) (hx1 : x1.toInt = y1) (hf1 : 1 ≤ y1 ∧ y1 ≤ 4)   : LW 76 (d + 17) 0 0 0 (lEnt (mL 76) [.ref 349, .int x1]) [] g (fun v g' => v = none ∧ Inv P g' ∧ Gr g' = Gr g) := by
  refine LW_ls (ls' := [some (.ref 349), some (.int x1), none, none]) rfl ?_
  have hG : Gr g = Gr g := rfl
  refine X_iconst (v := (0 : Int32)) rfl rfl rfl ?_
  refine X_istore_n (i := 2) (ls' := [some (.ref 349), some (.int x1), some (.int (0 : Int32)), none]) rfl rfl rfl (Nat.le_of_ble_eq_true rfl) rfl ?_
  refine X_iconst (v := (0 : Int32)) rfl rfl rfl ?_
  refine X_istore_n (i := 3) (ls' := [some (.ref 349), some (.int x1), some (.int (0 : Int32)), some (.int (0 : Int32))]) rfl rfl rfl (Nat.le_of_ble_eq_true rfl) rfl ?_
  exact (C_X7_learnFirst_all (((24 - 0) * 1 + 0) + 1 : Int).toNat) _ V hG x1 y1 hx1 (by omega) (0 : Int32) 0 (show (0 : Int32).toInt = 0 from rfl) (0 : Int32) 0 (show (0 : Int32).toInt = 0 from rfl) (by omega)    (by omega)
set_option maxRecDepth 10000 in
set_option maxHeartbeats 40000000 in
theorem C_X12_learn {P : Par} {g : LH} {d : Nat}  (V : Inv P g) (x1 : Int32) (y1 : Int) (hx1 : x1.toInt = y1) (x2 : Int32) (y2 : Int) (hx2 : x2.toInt = y2) (hf2 : 0 ≤ y2 ∧ y2 ≤ 1)   : LW 158 (d + 21) 0 0 0 (lEnt (mL 158) [.ref 0, .int x1, .int x2]) [] g (fun v g' => ∃ r : Int32, v = some (.int r) ∧ Inv P g' ∧ Gr g' = Gr g) := by
  refine LW_ls (ls' := [some (.ref 0), some (.int x1), some (.int x2)]) rfl ?_
  have hG : Gr g = Gr g := rfl
  refine X_iload_n rfl rfl rfl rfl ?_
  refine X_iconst (v := (1 : Int32)) rfl rfl rfl ?_
  refine S_icmp_lt (tgt := 10) rfl rfl rfl hx1 (show (1 : Int32).toInt = 1 from rfl) (fun vh1 => ?_) (fun vh1 => ?_)
  · refine X_iconst (v := (-1 : Int32)) rfl rfl rfl ?_
    exact LW_ireturn (st := []) rfl rfl rfl ⟨_, rfl, V, hG⟩
  · refine X_iload_n rfl rfl rfl rfl ?_
    refine X_iconst (v := (4 : Int32)) rfl rfl rfl ?_
    refine S_icmp_le (tgt := 12) rfl rfl rfl hx1 (show (4 : Int32).toInt = 4 from rfl) (fun vh2 => ?_) (fun vh2 => ?_)
    · refine X_aload_n rfl rfl rfl rfl ?_
      refine X_getR (a := 349) rfl rfl rfl ((congrFun V.1 0).trans s_0) rfl ((congrFun (V.2.1 0 (by decide)) 8).trans r_0_8) ?_
      refine X_iload_n rfl rfl rfl rfl ?_
      refine Y_callV (as := [.int x1]) (st := []) rfl rfl rfl (by decide) rfl (Nat.le_of_ble_eq_true rfl) (by decide) (Nat.le_of_ble_eq_true rfl) rfl ((congrFun V.1 349).trans s_349) (by decide) (C_X7_learnFirst V x1 y1 hx1 (by omega) ) ?_
      rintro _ g ⟨rfl, V, hq⟩
      have hG := hq.trans hG
      refine X_iload_n rfl rfl rfl rfl ?_
      refine S_if_eq (tgt := 34) rfl rfl rfl hx2 (fun vh4 => ?_) (fun vh4 => ?_)
      · refine X_aload_n rfl rfl rfl rfl ?_
        refine X_getR (a := 349) rfl rfl rfl ((congrFun V.1 0).trans s_0) rfl ((congrFun (V.2.1 0 (by decide)) 8).trans r_0_8) ?_
        refine S_getI rfl rfl rfl ((congrFun V.1 349).trans s_349) rfl (fun vz5 evz5 => ?_)
        exact LW_ireturn (st := []) rfl rfl rfl ⟨_, rfl, V, hG⟩
      · refine X_aload_n rfl rfl rfl rfl ?_
        refine X_getR (a := 349) rfl rfl rfl ((congrFun V.1 0).trans s_0) rfl ((congrFun (V.2.1 0 (by decide)) 8).trans r_0_8) ?_
        refine S_getI rfl rfl rfl ((congrFun V.1 349).trans s_349) rfl (fun vz6 evz6 => ?_)
        refine LW_goto (tgt := 41) rfl rfl ?_
        exact LW_ireturn (st := []) rfl rfl rfl ⟨_, rfl, V, hG⟩
    · refine X_iconst (v := (-1 : Int32)) rfl rfl rfl ?_
      exact LW_ireturn (st := []) rfl rfl rfl ⟨_, rfl, V, hG⟩
set_option maxRecDepth 10000 in
set_option maxHeartbeats 40000000 in
theorem C_X5_placesUnlike_38 {P : Par} {g : LH} {d n : Nat}  (V : Inv P g) (x1 : Int32) (y1 : Int) (hx1 : x1.toInt = y1) (hf1 : 0 ≤ y1 ∧ y1 ≤ 23) (x2 : Int32) (y2 : Int) (hx2 : x2.toInt = y2) (hf2 : 0 ≤ y2 ∧ y2 ≤ 23) (x3 : Int32) (y3 : Int) (hx3 : x3.toInt = y3) (x4 : Int32) (y4 : Int) (hx4 : x4.toInt = y4) (hf4 : 0 ≤ y4 ∧ y4 ≤ 8) (hc2_0 : 1 ≤ (Gi g 2 0).toInt ∧ (Gi g 2 0).toInt ≤ 24) (hmu : (8 - y4) * 1 + 0 < (n : Int) + 1) (ih38 : ∀ (V : Inv P g) (x1 : Int32) (y1 : Int) (hx1 : x1.toInt = y1) (hf1 : 0 ≤ y1 ∧ y1 ≤ 23) (x2 : Int32) (y2 : Int) (hx2 : x2.toInt = y2) (hf2 : 0 ≤ y2 ∧ y2 ≤ 23) (x3 : Int32) (y3 : Int) (hx3 : x3.toInt = y3) (x4 : Int32) (y4 : Int) (hx4 : x4.toInt = y4) (hf4 : 0 ≤ y4 ∧ y4 ≤ 8) (hc2_0 : 1 ≤ (Gi g 2 0).toInt ∧ (Gi g 2 0).toInt ≤ 24), (8 - y4) * 1 + 0 < (n : Int) → LW 55 (d + 5) 0 0 38 [some (.ref 2), some (.int x1), some (.int x2), some (.int x3), some (.int x4)] [] g (fun v g' => ∃ r : Int32, v = some (.int r) ∧ g = g')) : LW 55 (d + 5) 0 0 38 [some (.ref 2), some (.int x1), some (.int x2), some (.int x3), some (.int x4)] [] g (fun v g' => ∃ r : Int32, v = some (.int r) ∧ g = g') := by
  obtain ⟨vz1, evz1⟩ : ∃ z, Gi g 2 0 = z := ⟨_, rfl⟩
  rw [evz1] at hc2_0
  refine X_iload rfl rfl rfl ?_
  refine X_aload_n rfl rfl rfl rfl ?_
  refine X_getR (a := 3) rfl rfl rfl ((congrFun V.1 2).trans s_2) rfl ((congrFun (V.2.1 2 (by decide)) 2).trans r_2_2) ?_
  refine X_iload_n rfl rfl rfl rfl ?_
  refine S_iald rfl rfl ((congrFun V.1 3).trans s_3) hx1 (by omega) (fun vz2 evz2 => ?_)
  have vf3 := K_1 (V.2.2.2.2.1 (3) ((y1 : Int).toNat) (Nat.le_of_ble_eq_true rfl)) rk_3
  rw [evz2] at vf3
  refine S_icmp_ge (tgt := 80) rfl rfl rfl hx4 rfl (fun vh4 => ?_) (fun vh4 => ?_)
  · refine X_iload_n rfl rfl rfl rfl ?_
    exact LW_ireturn (st := []) rfl rfl rfl ⟨_, rfl, rfl⟩
  · refine X_iload_n rfl rfl rfl rfl ?_
    refine X_aload_n rfl rfl rfl rfl ?_
    refine X_iload_n rfl rfl rfl rfl ?_
    refine X_iload rfl rfl rfl ?_
    refine X_callV (as := [.int x1, .int x4]) (st := [.int x3]) rfl rfl rfl (by decide) rfl (Nat.le_of_ble_eq_true rfl) (by decide) (Nat.le_of_ble_eq_true rfl) rfl ((congrFun V.1 2).trans s_2) (by decide) ?_
    refine LW_ls (ls' := [some (.ref 2), some (.int x1), some (.int x4)]) rfl ?_
    refine X_aload_n rfl rfl rfl rfl ?_
    refine X_iload_n rfl rfl rfl rfl ?_
    refine X_callV (as := [.int x1]) (st := []) rfl rfl rfl (by decide) rfl (Nat.le_of_ble_eq_true rfl) (by decide) (Nat.le_of_ble_eq_true rfl) rfl ((congrFun V.1 2).trans s_2) (by decide) ?_
    refine LW_ls (ls' := [some (.ref 2), some (.int x1)]) rfl ?_
    refine X_iload_n rfl rfl rfl rfl ?_
    refine S_if_lt (tgt := 22) rfl rfl rfl hx1 (fun q => absurd q (by omega)) (fun vh5 => ?_)
    refine X_iload_n rfl rfl rfl rfl ?_
    refine X_aload_n rfl rfl rfl rfl ?_
    refine X_getI (v := vz1) rfl rfl rfl ((congrFun V.1 2).trans s_2) rfl evz1 ?_
    refine S_icmp_ge (tgt := 22) rfl rfl rfl hx1 rfl (fun vh6 => ?_) (fun vh6 => ?_)
    · refine X_iconst (v := (0 : Int32)) rfl rfl rfl ?_
      refine LW_ireturn (st := []) rfl rfl rfl ?_
      refine S_if_eq (tgt := 36) rfl rfl rfl (show (0 : Int32).toInt = 0 from rfl) (fun vh7 => ?_) (fun q => absurd q (by omega))
      refine X_iconst (v := (-1 : Int32)) rfl rfl rfl ?_
      refine LW_ireturn (st := []) rfl rfl rfl ?_
      refine X_aload_n rfl rfl rfl rfl ?_
      refine X_iload_n rfl rfl rfl rfl ?_
      refine X_iload rfl rfl rfl ?_
      refine X_callV (as := [.int x2, .int x4]) (st := [.int (-1 : Int32), .int x3]) rfl rfl rfl (by decide) rfl (Nat.le_of_ble_eq_true rfl) (by decide) (Nat.le_of_ble_eq_true rfl) rfl ((congrFun V.1 2).trans s_2) (by decide) ?_
      refine LW_ls (ls' := [some (.ref 2), some (.int x2), some (.int x4)]) rfl ?_
      refine X_aload_n rfl rfl rfl rfl ?_
      refine X_iload_n rfl rfl rfl rfl ?_
      refine X_callV (as := [.int x2]) (st := []) rfl rfl rfl (by decide) rfl (Nat.le_of_ble_eq_true rfl) (by decide) (Nat.le_of_ble_eq_true rfl) rfl ((congrFun V.1 2).trans s_2) (by decide) ?_
      refine LW_ls (ls' := [some (.ref 2), some (.int x2)]) rfl ?_
      refine X_iload_n rfl rfl rfl rfl ?_
      refine S_if_lt (tgt := 22) rfl rfl rfl hx2 (fun q => absurd q (by omega)) (fun vh8 => ?_)
      refine X_iload_n rfl rfl rfl rfl ?_
      refine X_aload_n rfl rfl rfl rfl ?_
      refine X_getI (v := vz1) rfl rfl rfl ((congrFun V.1 2).trans s_2) rfl evz1 ?_
      refine S_icmp_ge (tgt := 22) rfl rfl rfl hx2 rfl (fun vh9 => ?_) (fun vh9 => ?_)
      · refine X_iconst (v := (0 : Int32)) rfl rfl rfl ?_
        refine LW_ireturn (st := []) rfl rfl rfl ?_
        refine S_if_eq (tgt := 36) rfl rfl rfl (show (0 : Int32).toInt = 0 from rfl) (fun vh10 => ?_) (fun q => absurd q (by omega))
        refine X_iconst (v := (-1 : Int32)) rfl rfl rfl ?_
        refine LW_ireturn (st := []) rfl rfl rfl ?_
        refine S_icmp_eq (tgt := 71) rfl rfl rfl (show (-1 : Int32).toInt = -1 from rfl) (show (-1 : Int32).toInt = -1 from rfl) (fun vh11 => ?_) (fun q => absurd q (by omega))
        refine X_iconst (v := (0 : Int32)) rfl rfl rfl ?_
        refine S_iaddT rfl rfl (fun vz12 => ?_)
        refine X_istore_n (i := 3) (ls' := [some (.ref 2), some (.int x1), some (.int x2), some (.int vz12), some (.int x4)]) rfl rfl rfl (Nat.le_of_ble_eq_true rfl) rfl ?_
        refine S_iinc (c := 1) rfl rfl rfl hx4 rfl (by omega) (fun vz13 hvz13 => ?_)
        refine LW_ls (ls' := [some (.ref 2), some (.int x1), some (.int x2), some (.int vz12), some (.int vz13)]) rfl ?_
        refine LW_goto (tgt := 38) rfl rfl ?_
        exact ih38 V x1 y1 hx1 (by omega) x2 y2 hx2 (by omega) vz12 vz12.toInt rfl vz13 vz13.toInt rfl (by omega) (by rw [evz1]; omega)   (by omega)
      · refine X_iload_n rfl rfl rfl rfl ?_
        refine X_bipush (v := (24 : Int32)) rfl rfl rfl ?_
        refine S_icmp_ge (tgt := 22) rfl rfl rfl hx2 (show (24 : Int32).toInt = 24 from rfl) (fun q => absurd q (by omega)) (fun vh14 => ?_)
        refine X_iconst (v := (1 : Int32)) rfl rfl rfl ?_
        refine LW_goto (tgt := 23) rfl rfl ?_
        refine LW_ireturn (st := []) rfl rfl rfl ?_
        refine S_if_eq (tgt := 36) rfl rfl rfl (show (1 : Int32).toInt = 1 from rfl) (fun q => absurd q (by omega)) (fun vh15 => ?_)
        refine X_iload_n rfl rfl rfl rfl ?_
        refine S_if_lt (tgt := 36) rfl rfl rfl hx4 (fun q => absurd q (by omega)) (fun vh16 => ?_)
        refine X_iload_n rfl rfl rfl rfl ?_
        refine X_aload_n rfl rfl rfl rfl ?_
        refine X_getR (a := 3) rfl rfl rfl ((congrFun V.1 2).trans s_2) rfl ((congrFun (V.2.1 2 (by decide)) 2).trans r_2_2) ?_
        refine X_iload_n rfl rfl rfl rfl ?_
        refine S_iald rfl rfl ((congrFun V.1 3).trans s_3) hx2 (by omega) (fun vz17 evz17 => ?_)
        have vf18 := K_1 (V.2.2.2.2.1 (3) ((y2 : Int).toNat) (Nat.le_of_ble_eq_true rfl)) rk_3
        rw [evz17] at vf18
        refine S_icmp_ge (tgt := 36) rfl rfl rfl hx4 rfl (fun vh19 => ?_) (fun vh19 => ?_)
        · refine X_iconst (v := (-1 : Int32)) rfl rfl rfl ?_
          refine LW_ireturn (st := []) rfl rfl rfl ?_
          refine S_icmp_eq (tgt := 71) rfl rfl rfl (show (-1 : Int32).toInt = -1 from rfl) (show (-1 : Int32).toInt = -1 from rfl) (fun vh20 => ?_) (fun q => absurd q (by omega))
          refine X_iconst (v := (0 : Int32)) rfl rfl rfl ?_
          refine S_iaddT rfl rfl (fun vz21 => ?_)
          refine X_istore_n (i := 3) (ls' := [some (.ref 2), some (.int x1), some (.int x2), some (.int vz21), some (.int x4)]) rfl rfl rfl (Nat.le_of_ble_eq_true rfl) rfl ?_
          refine S_iinc (c := 1) rfl rfl rfl hx4 rfl (by omega) (fun vz22 hvz22 => ?_)
          refine LW_ls (ls' := [some (.ref 2), some (.int x1), some (.int x2), some (.int vz21), some (.int vz22)]) rfl ?_
          refine LW_goto (tgt := 38) rfl rfl ?_
          exact ih38 V x1 y1 hx1 (by omega) x2 y2 hx2 (by omega) vz21 vz21.toInt rfl vz22 vz22.toInt rfl (by omega) (by rw [evz1]; omega)   (by omega)
        · refine X_aload_n rfl rfl rfl rfl ?_
          refine X_getR (a := 6) rfl rfl rfl ((congrFun V.1 2).trans s_2) rfl ((congrFun (V.2.1 2 (by decide)) 5).trans r_2_5) ?_
          refine X_iload_n rfl rfl rfl rfl ?_
          refine X_bipush (v := (8 : Int32)) rfl rfl rfl ?_
          refine S_imul rfl rfl hx2 (show (8 : Int32).toInt = 8 from rfl) (by omega) (fun vz23 hvz23 => ?_)
          refine X_iload_n rfl rfl rfl rfl ?_
          refine S_iadd rfl rfl rfl hx4 (by omega) (fun vz24 hvz24 => ?_)
          refine S_iald rfl rfl ((congrFun V.1 6).trans s_6) rfl (by omega) (fun vz25 evz25 => ?_)
          have vf26 := K_3 (V.2.2.2.2.1 (6) ((vz24.toInt : Int).toNat) (Nat.le_of_ble_eq_true rfl)) rk_6
          rw [evz25] at vf26
          refine LW_goto (tgt := 37) rfl rfl ?_
          refine LW_ireturn (st := []) rfl rfl rfl ?_
          refine S_icmp_eq (tgt := 71) rfl rfl rfl (show (-1 : Int32).toInt = -1 from rfl) rfl (fun q => absurd q (by omega)) (fun vh27 => ?_)
          refine X_iconst (v := (1 : Int32)) rfl rfl rfl ?_
          refine LW_goto (tgt := 72) rfl rfl ?_
          refine S_iaddT rfl rfl (fun vz28 => ?_)
          refine X_istore_n (i := 3) (ls' := [some (.ref 2), some (.int x1), some (.int x2), some (.int vz28), some (.int x4)]) rfl rfl rfl (Nat.le_of_ble_eq_true rfl) rfl ?_
          refine S_iinc (c := 1) rfl rfl rfl hx4 rfl (by omega) (fun vz29 hvz29 => ?_)
          refine LW_ls (ls' := [some (.ref 2), some (.int x1), some (.int x2), some (.int vz28), some (.int vz29)]) rfl ?_
          refine LW_goto (tgt := 38) rfl rfl ?_
          exact ih38 V x1 y1 hx1 (by omega) x2 y2 hx2 (by omega) vz28 vz28.toInt rfl vz29 vz29.toInt rfl (by omega) (by rw [evz1]; omega)   (by omega)
    · refine X_iload_n rfl rfl rfl rfl ?_
      refine X_bipush (v := (24 : Int32)) rfl rfl rfl ?_
      refine S_icmp_ge (tgt := 22) rfl rfl rfl hx1 (show (24 : Int32).toInt = 24 from rfl) (fun q => absurd q (by omega)) (fun vh30 => ?_)
      refine X_iconst (v := (1 : Int32)) rfl rfl rfl ?_
      refine LW_goto (tgt := 23) rfl rfl ?_
      refine LW_ireturn (st := []) rfl rfl rfl ?_
      refine S_if_eq (tgt := 36) rfl rfl rfl (show (1 : Int32).toInt = 1 from rfl) (fun q => absurd q (by omega)) (fun vh31 => ?_)
      refine X_iload_n rfl rfl rfl rfl ?_
      refine S_if_lt (tgt := 36) rfl rfl rfl hx4 (fun q => absurd q (by omega)) (fun vh32 => ?_)
      refine X_iload_n rfl rfl rfl rfl ?_
      refine X_aload_n rfl rfl rfl rfl ?_
      refine X_getR (a := 3) rfl rfl rfl ((congrFun V.1 2).trans s_2) rfl ((congrFun (V.2.1 2 (by decide)) 2).trans r_2_2) ?_
      refine X_iload_n rfl rfl rfl rfl ?_
      refine S_iald_v rfl rfl ((congrFun V.1 3).trans s_3) hx1 (by omega) evz2 ?_
      refine S_icmp_ge (tgt := 36) rfl rfl rfl hx4 rfl (fun vh34 => ?_) (fun vh34 => ?_)
      · refine X_iconst (v := (-1 : Int32)) rfl rfl rfl ?_
        refine LW_ireturn (st := []) rfl rfl rfl ?_
        refine X_aload_n rfl rfl rfl rfl ?_
        refine X_iload_n rfl rfl rfl rfl ?_
        refine X_iload rfl rfl rfl ?_
        refine X_callV (as := [.int x2, .int x4]) (st := [.int (-1 : Int32), .int x3]) rfl rfl rfl (by decide) rfl (Nat.le_of_ble_eq_true rfl) (by decide) (Nat.le_of_ble_eq_true rfl) rfl ((congrFun V.1 2).trans s_2) (by decide) ?_
        refine LW_ls (ls' := [some (.ref 2), some (.int x2), some (.int x4)]) rfl ?_
        refine X_aload_n rfl rfl rfl rfl ?_
        refine X_iload_n rfl rfl rfl rfl ?_
        refine X_callV (as := [.int x2]) (st := []) rfl rfl rfl (by decide) rfl (Nat.le_of_ble_eq_true rfl) (by decide) (Nat.le_of_ble_eq_true rfl) rfl ((congrFun V.1 2).trans s_2) (by decide) ?_
        refine LW_ls (ls' := [some (.ref 2), some (.int x2)]) rfl ?_
        refine X_iload_n rfl rfl rfl rfl ?_
        refine S_if_lt (tgt := 22) rfl rfl rfl hx2 (fun q => absurd q (by omega)) (fun vh35 => ?_)
        refine X_iload_n rfl rfl rfl rfl ?_
        refine X_aload_n rfl rfl rfl rfl ?_
        refine X_getI (v := vz1) rfl rfl rfl ((congrFun V.1 2).trans s_2) rfl evz1 ?_
        refine S_icmp_ge (tgt := 22) rfl rfl rfl hx2 rfl (fun vh36 => ?_) (fun vh36 => ?_)
        · refine X_iconst (v := (0 : Int32)) rfl rfl rfl ?_
          refine LW_ireturn (st := []) rfl rfl rfl ?_
          refine S_if_eq (tgt := 36) rfl rfl rfl (show (0 : Int32).toInt = 0 from rfl) (fun vh37 => ?_) (fun q => absurd q (by omega))
          refine X_iconst (v := (-1 : Int32)) rfl rfl rfl ?_
          refine LW_ireturn (st := []) rfl rfl rfl ?_
          refine S_icmp_eq (tgt := 71) rfl rfl rfl (show (-1 : Int32).toInt = -1 from rfl) (show (-1 : Int32).toInt = -1 from rfl) (fun vh38 => ?_) (fun q => absurd q (by omega))
          refine X_iconst (v := (0 : Int32)) rfl rfl rfl ?_
          refine S_iaddT rfl rfl (fun vz39 => ?_)
          refine X_istore_n (i := 3) (ls' := [some (.ref 2), some (.int x1), some (.int x2), some (.int vz39), some (.int x4)]) rfl rfl rfl (Nat.le_of_ble_eq_true rfl) rfl ?_
          refine S_iinc (c := 1) rfl rfl rfl hx4 rfl (by omega) (fun vz40 hvz40 => ?_)
          refine LW_ls (ls' := [some (.ref 2), some (.int x1), some (.int x2), some (.int vz39), some (.int vz40)]) rfl ?_
          refine LW_goto (tgt := 38) rfl rfl ?_
          exact ih38 V x1 y1 hx1 (by omega) x2 y2 hx2 (by omega) vz39 vz39.toInt rfl vz40 vz40.toInt rfl (by omega) (by rw [evz1]; omega)   (by omega)
        · refine X_iload_n rfl rfl rfl rfl ?_
          refine X_bipush (v := (24 : Int32)) rfl rfl rfl ?_
          refine S_icmp_ge (tgt := 22) rfl rfl rfl hx2 (show (24 : Int32).toInt = 24 from rfl) (fun q => absurd q (by omega)) (fun vh41 => ?_)
          refine X_iconst (v := (1 : Int32)) rfl rfl rfl ?_
          refine LW_goto (tgt := 23) rfl rfl ?_
          refine LW_ireturn (st := []) rfl rfl rfl ?_
          refine S_if_eq (tgt := 36) rfl rfl rfl (show (1 : Int32).toInt = 1 from rfl) (fun q => absurd q (by omega)) (fun vh42 => ?_)
          refine X_iload_n rfl rfl rfl rfl ?_
          refine S_if_lt (tgt := 36) rfl rfl rfl hx4 (fun q => absurd q (by omega)) (fun vh43 => ?_)
          refine X_iload_n rfl rfl rfl rfl ?_
          refine X_aload_n rfl rfl rfl rfl ?_
          refine X_getR (a := 3) rfl rfl rfl ((congrFun V.1 2).trans s_2) rfl ((congrFun (V.2.1 2 (by decide)) 2).trans r_2_2) ?_
          refine X_iload_n rfl rfl rfl rfl ?_
          refine S_iald rfl rfl ((congrFun V.1 3).trans s_3) hx2 (by omega) (fun vz44 evz44 => ?_)
          have vf45 := K_1 (V.2.2.2.2.1 (3) ((y2 : Int).toNat) (Nat.le_of_ble_eq_true rfl)) rk_3
          rw [evz44] at vf45
          refine S_icmp_ge (tgt := 36) rfl rfl rfl hx4 rfl (fun vh46 => ?_) (fun vh46 => ?_)
          · refine X_iconst (v := (-1 : Int32)) rfl rfl rfl ?_
            refine LW_ireturn (st := []) rfl rfl rfl ?_
            refine S_icmp_eq (tgt := 71) rfl rfl rfl (show (-1 : Int32).toInt = -1 from rfl) (show (-1 : Int32).toInt = -1 from rfl) (fun vh47 => ?_) (fun q => absurd q (by omega))
            refine X_iconst (v := (0 : Int32)) rfl rfl rfl ?_
            refine S_iaddT rfl rfl (fun vz48 => ?_)
            refine X_istore_n (i := 3) (ls' := [some (.ref 2), some (.int x1), some (.int x2), some (.int vz48), some (.int x4)]) rfl rfl rfl (Nat.le_of_ble_eq_true rfl) rfl ?_
            refine S_iinc (c := 1) rfl rfl rfl hx4 rfl (by omega) (fun vz49 hvz49 => ?_)
            refine LW_ls (ls' := [some (.ref 2), some (.int x1), some (.int x2), some (.int vz48), some (.int vz49)]) rfl ?_
            refine LW_goto (tgt := 38) rfl rfl ?_
            exact ih38 V x1 y1 hx1 (by omega) x2 y2 hx2 (by omega) vz48 vz48.toInt rfl vz49 vz49.toInt rfl (by omega) (by rw [evz1]; omega)   (by omega)
          · refine X_aload_n rfl rfl rfl rfl ?_
            refine X_getR (a := 6) rfl rfl rfl ((congrFun V.1 2).trans s_2) rfl ((congrFun (V.2.1 2 (by decide)) 5).trans r_2_5) ?_
            refine X_iload_n rfl rfl rfl rfl ?_
            refine X_bipush (v := (8 : Int32)) rfl rfl rfl ?_
            refine S_imul rfl rfl hx2 (show (8 : Int32).toInt = 8 from rfl) (by omega) (fun vz50 hvz50 => ?_)
            refine X_iload_n rfl rfl rfl rfl ?_
            refine S_iadd rfl rfl rfl hx4 (by omega) (fun vz51 hvz51 => ?_)
            refine S_iald rfl rfl ((congrFun V.1 6).trans s_6) rfl (by omega) (fun vz52 evz52 => ?_)
            have vf53 := K_3 (V.2.2.2.2.1 (6) ((vz51.toInt : Int).toNat) (Nat.le_of_ble_eq_true rfl)) rk_6
            rw [evz52] at vf53
            refine LW_goto (tgt := 37) rfl rfl ?_
            refine LW_ireturn (st := []) rfl rfl rfl ?_
            refine S_icmp_eq (tgt := 71) rfl rfl rfl (show (-1 : Int32).toInt = -1 from rfl) rfl (fun q => absurd q (by omega)) (fun vh54 => ?_)
            refine X_iconst (v := (1 : Int32)) rfl rfl rfl ?_
            refine LW_goto (tgt := 72) rfl rfl ?_
            refine S_iaddT rfl rfl (fun vz55 => ?_)
            refine X_istore_n (i := 3) (ls' := [some (.ref 2), some (.int x1), some (.int x2), some (.int vz55), some (.int x4)]) rfl rfl rfl (Nat.le_of_ble_eq_true rfl) rfl ?_
            refine S_iinc (c := 1) rfl rfl rfl hx4 rfl (by omega) (fun vz56 hvz56 => ?_)
            refine LW_ls (ls' := [some (.ref 2), some (.int x1), some (.int x2), some (.int vz55), some (.int vz56)]) rfl ?_
            refine LW_goto (tgt := 38) rfl rfl ?_
            exact ih38 V x1 y1 hx1 (by omega) x2 y2 hx2 (by omega) vz55 vz55.toInt rfl vz56 vz56.toInt rfl (by omega) (by rw [evz1]; omega)   (by omega)
      · refine X_aload_n rfl rfl rfl rfl ?_
        refine X_getR (a := 6) rfl rfl rfl ((congrFun V.1 2).trans s_2) rfl ((congrFun (V.2.1 2 (by decide)) 5).trans r_2_5) ?_
        refine X_iload_n rfl rfl rfl rfl ?_
        refine X_bipush (v := (8 : Int32)) rfl rfl rfl ?_
        refine S_imul rfl rfl hx1 (show (8 : Int32).toInt = 8 from rfl) (by omega) (fun vz57 hvz57 => ?_)
        refine X_iload_n rfl rfl rfl rfl ?_
        refine S_iadd rfl rfl rfl hx4 (by omega) (fun vz58 hvz58 => ?_)
        refine S_iald rfl rfl ((congrFun V.1 6).trans s_6) rfl (by omega) (fun vz59 evz59 => ?_)
        have vf60 := K_3 (V.2.2.2.2.1 (6) ((vz58.toInt : Int).toNat) (Nat.le_of_ble_eq_true rfl)) rk_6
        rw [evz59] at vf60
        refine LW_goto (tgt := 37) rfl rfl ?_
        refine LW_ireturn (st := []) rfl rfl rfl ?_
        refine X_aload_n rfl rfl rfl rfl ?_
        refine X_iload_n rfl rfl rfl rfl ?_
        refine X_iload rfl rfl rfl ?_
        refine X_callV (as := [.int x2, .int x4]) (st := [.int vz59, .int x3]) rfl rfl rfl (by decide) rfl (Nat.le_of_ble_eq_true rfl) (by decide) (Nat.le_of_ble_eq_true rfl) rfl ((congrFun V.1 2).trans s_2) (by decide) ?_
        refine LW_ls (ls' := [some (.ref 2), some (.int x2), some (.int x4)]) rfl ?_
        refine X_aload_n rfl rfl rfl rfl ?_
        refine X_iload_n rfl rfl rfl rfl ?_
        refine X_callV (as := [.int x2]) (st := []) rfl rfl rfl (by decide) rfl (Nat.le_of_ble_eq_true rfl) (by decide) (Nat.le_of_ble_eq_true rfl) rfl ((congrFun V.1 2).trans s_2) (by decide) ?_
        refine LW_ls (ls' := [some (.ref 2), some (.int x2)]) rfl ?_
        refine X_iload_n rfl rfl rfl rfl ?_
        refine S_if_lt (tgt := 22) rfl rfl rfl hx2 (fun q => absurd q (by omega)) (fun vh61 => ?_)
        refine X_iload_n rfl rfl rfl rfl ?_
        refine X_aload_n rfl rfl rfl rfl ?_
        refine X_getI (v := vz1) rfl rfl rfl ((congrFun V.1 2).trans s_2) rfl evz1 ?_
        refine S_icmp_ge (tgt := 22) rfl rfl rfl hx2 rfl (fun vh62 => ?_) (fun vh62 => ?_)
        · refine X_iconst (v := (0 : Int32)) rfl rfl rfl ?_
          refine LW_ireturn (st := []) rfl rfl rfl ?_
          refine S_if_eq (tgt := 36) rfl rfl rfl (show (0 : Int32).toInt = 0 from rfl) (fun vh63 => ?_) (fun q => absurd q (by omega))
          refine X_iconst (v := (-1 : Int32)) rfl rfl rfl ?_
          refine LW_ireturn (st := []) rfl rfl rfl ?_
          refine S_icmp_eq (tgt := 71) rfl rfl rfl rfl (show (-1 : Int32).toInt = -1 from rfl) (fun q => absurd q (by omega)) (fun vh64 => ?_)
          refine X_iconst (v := (1 : Int32)) rfl rfl rfl ?_
          refine LW_goto (tgt := 72) rfl rfl ?_
          refine S_iaddT rfl rfl (fun vz65 => ?_)
          refine X_istore_n (i := 3) (ls' := [some (.ref 2), some (.int x1), some (.int x2), some (.int vz65), some (.int x4)]) rfl rfl rfl (Nat.le_of_ble_eq_true rfl) rfl ?_
          refine S_iinc (c := 1) rfl rfl rfl hx4 rfl (by omega) (fun vz66 hvz66 => ?_)
          refine LW_ls (ls' := [some (.ref 2), some (.int x1), some (.int x2), some (.int vz65), some (.int vz66)]) rfl ?_
          refine LW_goto (tgt := 38) rfl rfl ?_
          exact ih38 V x1 y1 hx1 (by omega) x2 y2 hx2 (by omega) vz65 vz65.toInt rfl vz66 vz66.toInt rfl (by omega) (by rw [evz1]; omega)   (by omega)
        · refine X_iload_n rfl rfl rfl rfl ?_
          refine X_bipush (v := (24 : Int32)) rfl rfl rfl ?_
          refine S_icmp_ge (tgt := 22) rfl rfl rfl hx2 (show (24 : Int32).toInt = 24 from rfl) (fun q => absurd q (by omega)) (fun vh67 => ?_)
          refine X_iconst (v := (1 : Int32)) rfl rfl rfl ?_
          refine LW_goto (tgt := 23) rfl rfl ?_
          refine LW_ireturn (st := []) rfl rfl rfl ?_
          refine S_if_eq (tgt := 36) rfl rfl rfl (show (1 : Int32).toInt = 1 from rfl) (fun q => absurd q (by omega)) (fun vh68 => ?_)
          refine X_iload_n rfl rfl rfl rfl ?_
          refine S_if_lt (tgt := 36) rfl rfl rfl hx4 (fun q => absurd q (by omega)) (fun vh69 => ?_)
          refine X_iload_n rfl rfl rfl rfl ?_
          refine X_aload_n rfl rfl rfl rfl ?_
          refine X_getR (a := 3) rfl rfl rfl ((congrFun V.1 2).trans s_2) rfl ((congrFun (V.2.1 2 (by decide)) 2).trans r_2_2) ?_
          refine X_iload_n rfl rfl rfl rfl ?_
          refine S_iald rfl rfl ((congrFun V.1 3).trans s_3) hx2 (by omega) (fun vz70 evz70 => ?_)
          have vf71 := K_1 (V.2.2.2.2.1 (3) ((y2 : Int).toNat) (Nat.le_of_ble_eq_true rfl)) rk_3
          rw [evz70] at vf71
          refine S_icmp_ge (tgt := 36) rfl rfl rfl hx4 rfl (fun vh72 => ?_) (fun vh72 => ?_)
          · refine X_iconst (v := (-1 : Int32)) rfl rfl rfl ?_
            refine LW_ireturn (st := []) rfl rfl rfl ?_
            refine S_icmp_eq (tgt := 71) rfl rfl rfl rfl (show (-1 : Int32).toInt = -1 from rfl) (fun q => absurd q (by omega)) (fun vh73 => ?_)
            refine X_iconst (v := (1 : Int32)) rfl rfl rfl ?_
            refine LW_goto (tgt := 72) rfl rfl ?_
            refine S_iaddT rfl rfl (fun vz74 => ?_)
            refine X_istore_n (i := 3) (ls' := [some (.ref 2), some (.int x1), some (.int x2), some (.int vz74), some (.int x4)]) rfl rfl rfl (Nat.le_of_ble_eq_true rfl) rfl ?_
            refine S_iinc (c := 1) rfl rfl rfl hx4 rfl (by omega) (fun vz75 hvz75 => ?_)
            refine LW_ls (ls' := [some (.ref 2), some (.int x1), some (.int x2), some (.int vz74), some (.int vz75)]) rfl ?_
            refine LW_goto (tgt := 38) rfl rfl ?_
            exact ih38 V x1 y1 hx1 (by omega) x2 y2 hx2 (by omega) vz74 vz74.toInt rfl vz75 vz75.toInt rfl (by omega) (by rw [evz1]; omega)   (by omega)
          · refine X_aload_n rfl rfl rfl rfl ?_
            refine X_getR (a := 6) rfl rfl rfl ((congrFun V.1 2).trans s_2) rfl ((congrFun (V.2.1 2 (by decide)) 5).trans r_2_5) ?_
            refine X_iload_n rfl rfl rfl rfl ?_
            refine X_bipush (v := (8 : Int32)) rfl rfl rfl ?_
            refine S_imul rfl rfl hx2 (show (8 : Int32).toInt = 8 from rfl) (by omega) (fun vz76 hvz76 => ?_)
            refine X_iload_n rfl rfl rfl rfl ?_
            refine S_iadd rfl rfl rfl hx4 (by omega) (fun vz77 hvz77 => ?_)
            refine S_iald rfl rfl ((congrFun V.1 6).trans s_6) rfl (by omega) (fun vz78 evz78 => ?_)
            have vf79 := K_3 (V.2.2.2.2.1 (6) ((vz77.toInt : Int).toNat) (Nat.le_of_ble_eq_true rfl)) rk_6
            rw [evz78] at vf79
            refine LW_goto (tgt := 37) rfl rfl ?_
            refine LW_ireturn (st := []) rfl rfl rfl ?_
            refine S_icmp_eq (tgt := 71) rfl rfl rfl rfl rfl (fun vh80 => ?_) (fun vh80 => ?_)
            · refine X_iconst (v := (0 : Int32)) rfl rfl rfl ?_
              refine S_iaddT rfl rfl (fun vz81 => ?_)
              refine X_istore_n (i := 3) (ls' := [some (.ref 2), some (.int x1), some (.int x2), some (.int vz81), some (.int x4)]) rfl rfl rfl (Nat.le_of_ble_eq_true rfl) rfl ?_
              refine S_iinc (c := 1) rfl rfl rfl hx4 rfl (by omega) (fun vz82 hvz82 => ?_)
              refine LW_ls (ls' := [some (.ref 2), some (.int x1), some (.int x2), some (.int vz81), some (.int vz82)]) rfl ?_
              refine LW_goto (tgt := 38) rfl rfl ?_
              exact ih38 V x1 y1 hx1 (by omega) x2 y2 hx2 (by omega) vz81 vz81.toInt rfl vz82 vz82.toInt rfl (by omega) (by rw [evz1]; omega)   (by omega)
            · refine X_iconst (v := (1 : Int32)) rfl rfl rfl ?_
              refine LW_goto (tgt := 72) rfl rfl ?_
              refine S_iaddT rfl rfl (fun vz83 => ?_)
              refine X_istore_n (i := 3) (ls' := [some (.ref 2), some (.int x1), some (.int x2), some (.int vz83), some (.int x4)]) rfl rfl rfl (Nat.le_of_ble_eq_true rfl) rfl ?_
              refine S_iinc (c := 1) rfl rfl rfl hx4 rfl (by omega) (fun vz84 hvz84 => ?_)
              refine LW_ls (ls' := [some (.ref 2), some (.int x1), some (.int x2), some (.int vz83), some (.int vz84)]) rfl ?_
              refine LW_goto (tgt := 38) rfl rfl ?_
              exact ih38 V x1 y1 hx1 (by omega) x2 y2 hx2 (by omega) vz83 vz83.toInt rfl vz84 vz84.toInt rfl (by omega) (by rw [evz1]; omega)   (by omega)
theorem C_X5_placesUnlike_all {P : Par} {g : LH} {d : Nat}  : ∀ n : Nat, (∀ (V : Inv P g) (x1 : Int32) (y1 : Int) (hx1 : x1.toInt = y1) (hf1 : 0 ≤ y1 ∧ y1 ≤ 23) (x2 : Int32) (y2 : Int) (hx2 : x2.toInt = y2) (hf2 : 0 ≤ y2 ∧ y2 ≤ 23) (x3 : Int32) (y3 : Int) (hx3 : x3.toInt = y3) (x4 : Int32) (y4 : Int) (hx4 : x4.toInt = y4) (hf4 : 0 ≤ y4 ∧ y4 ≤ 8) (hc2_0 : 1 ≤ (Gi g 2 0).toInt ∧ (Gi g 2 0).toInt ≤ 24), (8 - y4) * 1 + 0 < (n : Int) → LW 55 (d + 5) 0 0 38 [some (.ref 2), some (.int x1), some (.int x2), some (.int x3), some (.int x4)] [] g (fun v g' => ∃ r : Int32, v = some (.int r) ∧ g = g')) := by
  intro n
  induction n with
  | zero => exact fun V x1 y1 hx1 hf1 x2 y2 hx2 hf2 x3 y3 hx3 x4 y4 hx4 hf4 hc2_0 hmu => absurd hmu (by omega)
  | succ n ih => exact fun V x1 y1 hx1 hf1 x2 y2 hx2 hf2 x3 y3 hx3 x4 y4 hx4 hf4 hc2_0 hmu => C_X5_placesUnlike_38  V x1 y1 hx1 hf1 x2 y2 hx2 hf2 x3 y3 hx3 x4 y4 hx4 hf4 hc2_0 (by omega) ih
set_option maxRecDepth 10000 in
set_option maxHeartbeats 40000000 in
theorem C_X5_placesUnlike {P : Par} {g : LH} {d : Nat}  (V : Inv P g) (x1 : Int32) (y1 : Int) (hx1 : x1.toInt = y1) (hf1 : 0 ≤ y1 ∧ y1 ≤ 23) (x2 : Int32) (y2 : Int) (hx2 : x2.toInt = y2) (hf2 : 0 ≤ y2 ∧ y2 ≤ 23)   : LW 55 (d + 5) 0 0 0 (lEnt (mL 55) [.ref 2, .int x1, .int x2]) [] g (fun v g' => ∃ r : Int32, v = some (.int r) ∧ g = g') := by
  refine LW_ls (ls' := [some (.ref 2), some (.int x1), some (.int x2), none, none]) rfl ?_
  refine X_aload_n rfl rfl rfl rfl ?_
  refine X_iload_n rfl rfl rfl rfl ?_
  refine X_callV (as := [.int x1]) (st := []) rfl rfl rfl (by decide) rfl (Nat.le_of_ble_eq_true rfl) (by decide) (Nat.le_of_ble_eq_true rfl) rfl ((congrFun V.1 2).trans s_2) (by decide) ?_
  refine LW_ls (ls' := [some (.ref 2), some (.int x1)]) rfl ?_
  refine X_iload_n rfl rfl rfl rfl ?_
  refine S_if_lt (tgt := 22) rfl rfl rfl hx1 (fun q => absurd q (by omega)) (fun vh1 => ?_)
  refine X_iload_n rfl rfl rfl rfl ?_
  refine X_aload_n rfl rfl rfl rfl ?_
  refine S_getI rfl rfl rfl ((congrFun V.1 2).trans s_2) rfl (fun vz2 evz2 => ?_)
  have vf3 := K_10_0 (V.2.2.2.2.1 (2) (0) (Nat.le_of_ble_eq_true rfl)) rk_2
  rw [evz2] at vf3
  refine S_icmp_ge (tgt := 22) rfl rfl rfl hx1 rfl (fun vh4 => ?_) (fun vh4 => ?_)
  · refine X_iconst (v := (0 : Int32)) rfl rfl rfl ?_
    refine LW_ireturn (st := []) rfl rfl rfl ?_
    refine S_if_eq (tgt := 31) rfl rfl rfl (show (0 : Int32).toInt = 0 from rfl) (fun vh5 => ?_) (fun q => absurd q (by omega))
    refine X_iconst (v := (-1 : Int32)) rfl rfl rfl ?_
    exact LW_ireturn (st := []) rfl rfl rfl ⟨_, rfl, rfl⟩
  · refine X_iload_n rfl rfl rfl rfl ?_
    refine X_bipush (v := (24 : Int32)) rfl rfl rfl ?_
    refine S_icmp_ge (tgt := 22) rfl rfl rfl hx1 (show (24 : Int32).toInt = 24 from rfl) (fun q => absurd q (by omega)) (fun vh6 => ?_)
    refine X_iconst (v := (1 : Int32)) rfl rfl rfl ?_
    refine LW_goto (tgt := 23) rfl rfl ?_
    refine LW_ireturn (st := []) rfl rfl rfl ?_
    refine S_if_eq (tgt := 31) rfl rfl rfl (show (1 : Int32).toInt = 1 from rfl) (fun q => absurd q (by omega)) (fun vh7 => ?_)
    refine X_aload_n rfl rfl rfl rfl ?_
    refine X_iload_n rfl rfl rfl rfl ?_
    refine X_callV (as := [.int x2]) (st := []) rfl rfl rfl (by decide) rfl (Nat.le_of_ble_eq_true rfl) (by decide) (Nat.le_of_ble_eq_true rfl) rfl ((congrFun V.1 2).trans s_2) (by decide) ?_
    refine LW_ls (ls' := [some (.ref 2), some (.int x2)]) rfl ?_
    refine X_iload_n rfl rfl rfl rfl ?_
    refine S_if_lt (tgt := 22) rfl rfl rfl hx2 (fun q => absurd q (by omega)) (fun vh8 => ?_)
    refine X_iload_n rfl rfl rfl rfl ?_
    refine X_aload_n rfl rfl rfl rfl ?_
    refine X_getI (v := vz2) rfl rfl rfl ((congrFun V.1 2).trans s_2) rfl evz2 ?_
    refine S_icmp_ge (tgt := 22) rfl rfl rfl hx2 rfl (fun vh9 => ?_) (fun vh9 => ?_)
    · refine X_iconst (v := (0 : Int32)) rfl rfl rfl ?_
      refine LW_ireturn (st := []) rfl rfl rfl ?_
      refine S_if_eq (tgt := 31) rfl rfl rfl (show (0 : Int32).toInt = 0 from rfl) (fun vh10 => ?_) (fun q => absurd q (by omega))
      refine X_iconst (v := (-1 : Int32)) rfl rfl rfl ?_
      exact LW_ireturn (st := []) rfl rfl rfl ⟨_, rfl, rfl⟩
    · refine X_iload_n rfl rfl rfl rfl ?_
      refine X_bipush (v := (24 : Int32)) rfl rfl rfl ?_
      refine S_icmp_ge (tgt := 22) rfl rfl rfl hx2 (show (24 : Int32).toInt = 24 from rfl) (fun q => absurd q (by omega)) (fun vh11 => ?_)
      refine X_iconst (v := (1 : Int32)) rfl rfl rfl ?_
      refine LW_goto (tgt := 23) rfl rfl ?_
      refine LW_ireturn (st := []) rfl rfl rfl ?_
      refine S_if_eq (tgt := 31) rfl rfl rfl (show (1 : Int32).toInt = 1 from rfl) (fun q => absurd q (by omega)) (fun vh12 => ?_)
      refine X_aload_n rfl rfl rfl rfl ?_
      refine X_getR (a := 3) rfl rfl rfl ((congrFun V.1 2).trans s_2) rfl ((congrFun (V.2.1 2 (by decide)) 2).trans r_2_2) ?_
      refine X_iload_n rfl rfl rfl rfl ?_
      refine S_iald rfl rfl ((congrFun V.1 3).trans s_3) hx1 (by omega) (fun vz13 evz13 => ?_)
      have vf14 := K_1 (V.2.2.2.2.1 (3) ((y1 : Int).toNat) (Nat.le_of_ble_eq_true rfl)) rk_3
      rw [evz13] at vf14
      refine X_aload_n rfl rfl rfl rfl ?_
      refine X_getR (a := 3) rfl rfl rfl ((congrFun V.1 2).trans s_2) rfl ((congrFun (V.2.1 2 (by decide)) 2).trans r_2_2) ?_
      refine X_iload_n rfl rfl rfl rfl ?_
      refine S_iald rfl rfl ((congrFun V.1 3).trans s_3) hx2 (by omega) (fun vz15 evz15 => ?_)
      have vf16 := K_1 (V.2.2.2.2.1 (3) ((y2 : Int).toNat) (Nat.le_of_ble_eq_true rfl)) rk_3
      rw [evz15] at vf16
      refine S_icmp_eq (tgt := 33) rfl rfl rfl rfl rfl (fun vh17 => ?_) (fun vh17 => ?_)
      · refine X_iconst (v := (0 : Int32)) rfl rfl rfl ?_
        refine X_istore_n (i := 3) (ls' := [some (.ref 2), some (.int x1), some (.int x2), some (.int (0 : Int32)), none]) rfl rfl rfl (Nat.le_of_ble_eq_true rfl) rfl ?_
        refine X_iconst (v := (0 : Int32)) rfl rfl rfl ?_
        refine X_istore (i := 4) (ls' := [some (.ref 2), some (.int x1), some (.int x2), some (.int (0 : Int32)), some (.int (0 : Int32))]) rfl rfl (Nat.le_of_ble_eq_true rfl) rfl ?_
        exact (C_X5_placesUnlike_all (((8 - 0) * 1 + 0) + 1 : Int).toNat) V x1 y1 hx1 (by omega) x2 y2 hx2 (by omega) (0 : Int32) 0 (show (0 : Int32).toInt = 0 from rfl) (0 : Int32) 0 (show (0 : Int32).toInt = 0 from rfl) (by omega) (by rw [evz2]; omega)   (by omega)
      · refine X_iconst (v := (-1 : Int32)) rfl rfl rfl ?_
        exact LW_ireturn (st := []) rfl rfl rfl ⟨_, rfl, rfl⟩
