/-! the reference: the next row -/
theorem rwN_I {f f0 : Nat → Int32} {n w e : Int} (vh : rwN f f0 n w e) : rwI f n w e := by
  obtain ⟨vk, vw1, vw2, vw3, vw4⟩ := vh
  exact vw3
set_option maxRecDepth 10000 in
set_option maxHeartbeats 40000000 in
theorem C_X13_nextRow_4 {P : Par} {g g0 : LH} {d n : Nat}  (V : InvR P g) (hG : Gr g = Gr g0) (hA : (∀ q k, q ≠ 366 → Gi g q k = Gi g0 q k)) (x1 : Int32) (y1 : Int) (hx1 : x1.toInt = y1) (hf1 : 0 ≤ y1 ∧ y1 ≤ 10) (x2 : Int32) (y2 : Int) (hx2 : x2.toInt = y2) (hf2 : 0 ≤ y2 ∧ y2 ≤ 26) (x3 : Int32) (y3 : Int) (hx3 : x3.toInt = y3) (hf3 : (-1) ≤ y3 ∧ y3 ≤ 9) (o4 : Option Value) (hq0 : y1 ≤ y2) (hq1 : y3 < y1) (hq2 : rwI (Gi g 366) (y1) (y2) (y1)) (hq3 : Gi g 366 = Gi g0 366) (hmu : (y3 - (-1)) * 1 + 11 < (n : Int) + 1) (ih4 : ∀ (g : LH) (V : InvR P g) (hG : Gr g = Gr g0) (hA : (∀ q k, q ≠ 366 → Gi g q k = Gi g0 q k)) (x1 : Int32) (y1 : Int) (hx1 : x1.toInt = y1) (hf1 : 0 ≤ y1 ∧ y1 ≤ 10) (x2 : Int32) (y2 : Int) (hx2 : x2.toInt = y2) (hf2 : 0 ≤ y2 ∧ y2 ≤ 26) (x3 : Int32) (y3 : Int) (hx3 : x3.toInt = y3) (hf3 : (-1) ≤ y3 ∧ y3 ≤ 9) (o4 : Option Value) (hq0 : y1 ≤ y2) (hq1 : y3 < y1) (hq2 : rwI (Gi g 366) (y1) (y2) (y1)) (hq3 : Gi g 366 = Gi g0 366), (y3 - (-1)) * 1 + 11 < (n : Int) → LW 279 (d + 4) 0 0 4 [some (.ref 355), some (.int x1), some (.int x2), some (.int x3), o4] [] g (fun v g' => ∃ r : Int32, v = some (.int r) ∧ 0 ≤ r.toInt ∧ r.toInt ≤ 1 ∧ InvR P g' ∧ Gr g' = Gr g0 ∧ (∀ q k, q ≠ 366 → Gi g' q k = Gi g0 q k) ∧ (rwR (Gi g' 366) (Gi g0 366) (y1) (y2) r.toInt))) (ih49 : ∀ (g : LH) (V : InvR P g) (hG : Gr g = Gr g0) (hA : (∀ q k, q ≠ 366 → Gi g q k = Gi g0 q k)) (x1 : Int32) (y1 : Int) (hx1 : x1.toInt = y1) (hf1 : 0 ≤ y1 ∧ y1 ≤ 10) (x2 : Int32) (y2 : Int) (hx2 : x2.toInt = y2) (hf2 : 0 ≤ y2 ∧ y2 ≤ 26) (x3 : Int32) (y3 : Int) (hx3 : x3.toInt = y3) (hf3 : 0 ≤ y3 ∧ y3 ≤ 9) (x4 : Int32) (y4 : Int) (hx4 : x4.toInt = y4) (hf4 : 1 ≤ y4 ∧ y4 ≤ 10) (hq0 : y1 ≤ y2) (hq1 : rwN (Gi g 366) (Gi g0 366) (y1) (y2) (y4)), (10 - y4) * 1 + 0 < (n : Int) → LW 279 (d + 4) 0 0 49 [some (.ref 355), some (.int x1), some (.int x2), some (.int x3), some (.int x4)] [] g (fun v g' => ∃ r : Int32, v = some (.int r) ∧ 0 ≤ r.toInt ∧ r.toInt ≤ 1 ∧ InvR P g' ∧ Gr g' = Gr g0 ∧ (∀ q k, q ≠ 366 → Gi g' q k = Gi g0 q k) ∧ (rwR (Gi g' 366) (Gi g0 366) (y1) (y2) r.toInt))) : LW 279 (d + 4) 0 0 4 [some (.ref 355), some (.int x1), some (.int x2), some (.int x3), o4] [] g (fun v g' => ∃ r : Int32, v = some (.int r) ∧ 0 ≤ r.toInt ∧ r.toInt ≤ 1 ∧ InvR P g' ∧ Gr g' = Gr g0 ∧ (∀ q k, q ≠ 366 → Gi g' q k = Gi g0 q k) ∧ (rwR (Gi g' 366) (Gi g0 366) (y1) (y2) r.toInt)) := by
  refine X_iload_n rfl rfl rfl rfl ?_
  refine S_if_lt (tgt := 28) rfl rfl rfl hx3 (fun vh1 => ?_) (fun vh1 => ?_)
  · refine X_iload_n rfl rfl rfl rfl ?_
    refine S_if_ge (tgt := 34) rfl rfl rfl hx3 (fun q => absurd q (by omega)) (fun vh2 => ?_)
    refine X_iconst (v := (0 : Int32)) rfl rfl rfl ?_
    exact LW_ireturn (st := []) rfl rfl rfl ⟨_, rfl, by decide, by decide, V, hG, hA, (by
        exact ⟨fun q => absurd q (by decide), fun _ => hq3⟩)⟩
  · refine X_aload_n rfl rfl rfl rfl ?_
    refine X_getR (a := 366) rfl rfl rfl ((congrFun V.1 355).trans s_355) rfl ((congrFun (V.2.1 355 (by decide)) 29).trans r_355_29) ?_
    refine X_iload_n rfl rfl rfl rfl ?_
    refine S_iald rfl rfl ((congrFun V.1 366).trans s_366) hx3 (by omega) (fun vz3 evz3 => ?_)
    have vf4 := hq2 (Int.toNat (y3)) (by omega)
    rw [evz3] at vf4
    refine X_iload_n rfl rfl rfl rfl ?_
    refine X_iload_n rfl rfl rfl rfl ?_
    refine S_isub rfl rfl hx2 hx1 (by omega) (fun vz5 hvz5 => ?_)
    refine X_iload_n rfl rfl rfl rfl ?_
    refine S_iadd rfl rfl rfl hx3 (by omega) (fun vz6 hvz6 => ?_)
    refine S_icmp_ne (tgt := 28) rfl rfl rfl rfl rfl (fun vh7 => ?_) (fun vh7 => ?_)
    · refine X_iload_n rfl rfl rfl rfl ?_
      refine S_if_ge (tgt := 34) rfl rfl rfl hx3 (fun vh8 => ?_) (fun q => absurd q (by omega))
      refine X_aload_n rfl rfl rfl rfl ?_
      refine X_getR (a := 366) rfl rfl rfl ((congrFun V.1 355).trans s_355) rfl ((congrFun (V.2.1 355 (by decide)) 29).trans r_355_29) ?_
      refine X_iload_n rfl rfl rfl rfl ?_
      refine X_dup2 rfl rfl rfl rfl ?_
      refine S_iald_v rfl rfl ((congrFun V.1 366).trans s_366) hx3 (by omega) evz3 ?_
      refine X_iconst (v := (1 : Int32)) rfl rfl rfl ?_
      refine S_iadd rfl rfl rfl (show (1 : Int32).toInt = 1 from rfl) (by omega) (fun vz10 hvz10 => ?_)
      refine S_iast (I := InvR _) rfl rfl ((congrFun V.1 366).trans s_366) hx3 (by omega) (InvR_putO V (by decide) trivial) (fun g V ve11 vn12 hq => ?_)
      have hG := hq.trans hG
      have hA := fun q' k' (vh' : q' ≠ 366) => (vn12 q' k' (Or.inl vh')).trans (hA q' k' vh')
      refine X_iload_n rfl rfl rfl rfl ?_
      refine X_iconst (v := (1 : Int32)) rfl rfl rfl ?_
      refine S_iadd rfl rfl hx3 (show (1 : Int32).toInt = 1 from rfl) (by omega) (fun vz13 hvz13 => ?_)
      refine X_istore (i := 4) (ls' := [some (.ref 355), some (.int x1), some (.int x2), some (.int x3), some (.int vz13)]) rfl rfl (Nat.le_of_ble_eq_true rfl) rfl ?_
      exact ih49 _ V hG hA x1 y1 hx1 (by omega) x2 y2 hx2 (by omega) x3 y3 hx3 (by omega) vz13 vz13.toInt rfl (by omega)  (by omega) (by
        refine ⟨Int.toNat y3, by omega, by omega, fun k hk => ?_, fun j hj => (vn12 366 j (Or.inr (by omega))).trans (congrFun hq3 j), ?_⟩
        · by_cases hk2 : k = Int.toNat y3
          · subst hk2
            rw [ve11]
            omega
          · rw [vn12 366 k (Or.inr hk2)]
            exact hq2 k (by omega)
        · rw [ve11, ← congrFun hq3 (Int.toNat y3), evz3]
          omega)  (by omega)
    · refine S_iinc (c := (-1)) rfl rfl rfl hx3 rfl (by omega) (fun vz14 hvz14 => ?_)
      refine LW_ls (ls' := [some (.ref 355), some (.int x1), some (.int x2), some (.int vz14), o4]) rfl ?_
      refine LW_goto (tgt := 4) rfl rfl ?_
      exact ih4 _ V hG hA x1 y1 hx1 (by omega) x2 y2 hx2 (by omega) vz14 vz14.toInt rfl (by omega) o4  (by omega) (by omega) (hq2) (hq3)  (by omega)
set_option maxRecDepth 10000 in
set_option maxHeartbeats 40000000 in
theorem C_X13_nextRow_49 {P : Par} {g g0 : LH} {d n : Nat}  (V : InvR P g) (hG : Gr g = Gr g0) (hA : (∀ q k, q ≠ 366 → Gi g q k = Gi g0 q k)) (x1 : Int32) (y1 : Int) (hx1 : x1.toInt = y1) (hf1 : 0 ≤ y1 ∧ y1 ≤ 10) (x2 : Int32) (y2 : Int) (hx2 : x2.toInt = y2) (hf2 : 0 ≤ y2 ∧ y2 ≤ 26) (x3 : Int32) (y3 : Int) (hx3 : x3.toInt = y3) (hf3 : 0 ≤ y3 ∧ y3 ≤ 9) (x4 : Int32) (y4 : Int) (hx4 : x4.toInt = y4) (hf4 : 1 ≤ y4 ∧ y4 ≤ 10) (hq0 : y1 ≤ y2) (hq1 : rwN (Gi g 366) (Gi g0 366) (y1) (y2) (y4)) (hmu : (10 - y4) * 1 + 0 < (n : Int) + 1) (ih4 : ∀ (g : LH) (V : InvR P g) (hG : Gr g = Gr g0) (hA : (∀ q k, q ≠ 366 → Gi g q k = Gi g0 q k)) (x1 : Int32) (y1 : Int) (hx1 : x1.toInt = y1) (hf1 : 0 ≤ y1 ∧ y1 ≤ 10) (x2 : Int32) (y2 : Int) (hx2 : x2.toInt = y2) (hf2 : 0 ≤ y2 ∧ y2 ≤ 26) (x3 : Int32) (y3 : Int) (hx3 : x3.toInt = y3) (hf3 : (-1) ≤ y3 ∧ y3 ≤ 9) (o4 : Option Value) (hq0 : y1 ≤ y2) (hq1 : y3 < y1) (hq2 : rwI (Gi g 366) (y1) (y2) (y1)) (hq3 : Gi g 366 = Gi g0 366), (y3 - (-1)) * 1 + 11 < (n : Int) → LW 279 (d + 4) 0 0 4 [some (.ref 355), some (.int x1), some (.int x2), some (.int x3), o4] [] g (fun v g' => ∃ r : Int32, v = some (.int r) ∧ 0 ≤ r.toInt ∧ r.toInt ≤ 1 ∧ InvR P g' ∧ Gr g' = Gr g0 ∧ (∀ q k, q ≠ 366 → Gi g' q k = Gi g0 q k) ∧ (rwR (Gi g' 366) (Gi g0 366) (y1) (y2) r.toInt))) (ih49 : ∀ (g : LH) (V : InvR P g) (hG : Gr g = Gr g0) (hA : (∀ q k, q ≠ 366 → Gi g q k = Gi g0 q k)) (x1 : Int32) (y1 : Int) (hx1 : x1.toInt = y1) (hf1 : 0 ≤ y1 ∧ y1 ≤ 10) (x2 : Int32) (y2 : Int) (hx2 : x2.toInt = y2) (hf2 : 0 ≤ y2 ∧ y2 ≤ 26) (x3 : Int32) (y3 : Int) (hx3 : x3.toInt = y3) (hf3 : 0 ≤ y3 ∧ y3 ≤ 9) (x4 : Int32) (y4 : Int) (hx4 : x4.toInt = y4) (hf4 : 1 ≤ y4 ∧ y4 ≤ 10) (hq0 : y1 ≤ y2) (hq1 : rwN (Gi g 366) (Gi g0 366) (y1) (y2) (y4)), (10 - y4) * 1 + 0 < (n : Int) → LW 279 (d + 4) 0 0 49 [some (.ref 355), some (.int x1), some (.int x2), some (.int x3), some (.int x4)] [] g (fun v g' => ∃ r : Int32, v = some (.int r) ∧ 0 ≤ r.toInt ∧ r.toInt ≤ 1 ∧ InvR P g' ∧ Gr g' = Gr g0 ∧ (∀ q k, q ≠ 366 → Gi g' q k = Gi g0 q k) ∧ (rwR (Gi g' 366) (Gi g0 366) (y1) (y2) r.toInt))) : LW 279 (d + 4) 0 0 49 [some (.ref 355), some (.int x1), some (.int x2), some (.int x3), some (.int x4)] [] g (fun v g' => ∃ r : Int32, v = some (.int r) ∧ 0 ≤ r.toInt ∧ r.toInt ≤ 1 ∧ InvR P g' ∧ Gr g' = Gr g0 ∧ (∀ q k, q ≠ 366 → Gi g' q k = Gi g0 q k) ∧ (rwR (Gi g' 366) (Gi g0 366) (y1) (y2) r.toInt)) := by
  refine X_iload rfl rfl rfl ?_
  refine X_iload_n rfl rfl rfl rfl ?_
  refine S_icmp_ge (tgt := 79) rfl rfl rfl hx4 hx1 (fun vh1 => ?_) (fun vh1 => ?_)
  · refine X_iconst (v := (1 : Int32)) rfl rfl rfl ?_
    exact LW_ireturn (st := []) rfl rfl rfl ⟨_, rfl, by decide, by decide, V, hG, hA, (by
        have vw : y4 = y1 := by
          obtain ⟨vk, vw1, vw2, vw3⟩ := hq1
          omega
        rw [vw] at hq1
        exact ⟨fun _ => rwR_one (by omega) hq1, fun q => absurd q (by decide)⟩)⟩
  · refine X_aload_n rfl rfl rfl rfl ?_
    refine X_getR (a := 366) rfl rfl rfl ((congrFun V.1 355).trans s_355) rfl ((congrFun (V.2.1 355 (by decide)) 29).trans r_355_29) ?_
    refine X_iload rfl rfl rfl ?_
    refine X_aload_n rfl rfl rfl rfl ?_
    refine X_getR (a := 366) rfl rfl rfl ((congrFun V.1 355).trans s_355) rfl ((congrFun (V.2.1 355 (by decide)) 29).trans r_355_29) ?_
    refine X_iload rfl rfl rfl ?_
    refine X_iconst (v := (1 : Int32)) rfl rfl rfl ?_
    refine S_isub rfl rfl hx4 (show (1 : Int32).toInt = 1 from rfl) (by omega) (fun vz2 hvz2 => ?_)
    refine S_iald rfl rfl ((congrFun V.1 366).trans s_366) rfl (by omega) (fun vz3 evz3 => ?_)
    have vf4 := (rwN_I hq1) (Int.toNat (vz2.toInt)) (by omega)
    rw [evz3] at vf4
    refine X_iconst (v := (1 : Int32)) rfl rfl rfl ?_
    refine S_iadd rfl rfl rfl (show (1 : Int32).toInt = 1 from rfl) (by omega) (fun vz5 hvz5 => ?_)
    refine S_iast (I := InvR _) rfl rfl ((congrFun V.1 366).trans s_366) hx4 (by omega) (InvR_putO V (by decide) trivial) (fun g V ve6 vn7 hq => ?_)
    have hG := hq.trans hG
    have hA := fun q' k' (vh' : q' ≠ 366) => (vn7 q' k' (Or.inl vh')).trans (hA q' k' vh')
    refine S_iinc (c := 1) rfl rfl rfl hx4 rfl (by omega) (fun vz8 hvz8 => ?_)
    refine LW_ls (ls' := [some (.ref 355), some (.int x1), some (.int x2), some (.int x3), some (.int vz8)]) rfl ?_
    refine LW_goto (tgt := 49) rfl rfl ?_
    exact ih49 _ V hG hA x1 y1 hx1 (by omega) x2 y2 hx2 (by omega) x3 y3 hx3 (by omega) vz8 vz8.toInt rfl (by omega)  (by omega) (by
        obtain ⟨vk, vw1, vw2, vw3, vw4, vw5⟩ := hq1
        refine ⟨vk, by omega, by omega, fun k hk => ?_, fun j hj => (vn7 366 j (Or.inr (by omega))).trans (vw4 j hj), ?_⟩
        · by_cases hk2 : k = Int.toNat y4
          · subst hk2
            rw [ve6]
            omega
          · rw [vn7 366 k (Or.inr hk2)]
            exact vw3 k (by omega)
        · rw [vn7 366 vk (Or.inr (by omega))]
          exact vw5)  (by omega)
theorem C_X13_nextRow_all {P : Par} {g0 : LH} {d : Nat}  : ∀ n : Nat, (∀ (g : LH) (V : InvR P g) (hG : Gr g = Gr g0) (hA : (∀ q k, q ≠ 366 → Gi g q k = Gi g0 q k)) (x1 : Int32) (y1 : Int) (hx1 : x1.toInt = y1) (hf1 : 0 ≤ y1 ∧ y1 ≤ 10) (x2 : Int32) (y2 : Int) (hx2 : x2.toInt = y2) (hf2 : 0 ≤ y2 ∧ y2 ≤ 26) (x3 : Int32) (y3 : Int) (hx3 : x3.toInt = y3) (hf3 : (-1) ≤ y3 ∧ y3 ≤ 9) (o4 : Option Value) (hq0 : y1 ≤ y2) (hq1 : y3 < y1) (hq2 : rwI (Gi g 366) (y1) (y2) (y1)) (hq3 : Gi g 366 = Gi g0 366), (y3 - (-1)) * 1 + 11 < (n : Int) → LW 279 (d + 4) 0 0 4 [some (.ref 355), some (.int x1), some (.int x2), some (.int x3), o4] [] g (fun v g' => ∃ r : Int32, v = some (.int r) ∧ 0 ≤ r.toInt ∧ r.toInt ≤ 1 ∧ InvR P g' ∧ Gr g' = Gr g0 ∧ (∀ q k, q ≠ 366 → Gi g' q k = Gi g0 q k) ∧ (rwR (Gi g' 366) (Gi g0 366) (y1) (y2) r.toInt))) ∧ (∀ (g : LH) (V : InvR P g) (hG : Gr g = Gr g0) (hA : (∀ q k, q ≠ 366 → Gi g q k = Gi g0 q k)) (x1 : Int32) (y1 : Int) (hx1 : x1.toInt = y1) (hf1 : 0 ≤ y1 ∧ y1 ≤ 10) (x2 : Int32) (y2 : Int) (hx2 : x2.toInt = y2) (hf2 : 0 ≤ y2 ∧ y2 ≤ 26) (x3 : Int32) (y3 : Int) (hx3 : x3.toInt = y3) (hf3 : 0 ≤ y3 ∧ y3 ≤ 9) (x4 : Int32) (y4 : Int) (hx4 : x4.toInt = y4) (hf4 : 1 ≤ y4 ∧ y4 ≤ 10) (hq0 : y1 ≤ y2) (hq1 : rwN (Gi g 366) (Gi g0 366) (y1) (y2) (y4)), (10 - y4) * 1 + 0 < (n : Int) → LW 279 (d + 4) 0 0 49 [some (.ref 355), some (.int x1), some (.int x2), some (.int x3), some (.int x4)] [] g (fun v g' => ∃ r : Int32, v = some (.int r) ∧ 0 ≤ r.toInt ∧ r.toInt ≤ 1 ∧ InvR P g' ∧ Gr g' = Gr g0 ∧ (∀ q k, q ≠ 366 → Gi g' q k = Gi g0 q k) ∧ (rwR (Gi g' 366) (Gi g0 366) (y1) (y2) r.toInt))) := by
  intro n
  induction n with
  | zero => exact ⟨fun g V hG hA x1 y1 hx1 hf1 x2 y2 hx2 hf2 x3 y3 hx3 hf3 o4 hq0 hq1 hq2 hq3 hmu => absurd hmu (by omega), fun g V hG hA x1 y1 hx1 hf1 x2 y2 hx2 hf2 x3 y3 hx3 hf3 x4 y4 hx4 hf4 hq0 hq1 hmu => absurd hmu (by omega)⟩
  | succ n ih => exact ⟨fun g V hG hA x1 y1 hx1 hf1 x2 y2 hx2 hf2 x3 y3 hx3 hf3 o4 hq0 hq1 hq2 hq3 hmu => C_X13_nextRow_4  V hG hA x1 y1 hx1 hf1 x2 y2 hx2 hf2 x3 y3 hx3 hf3 o4 hq0 hq1 hq2 hq3 (by omega) ih.1 ih.2, fun g V hG hA x1 y1 hx1 hf1 x2 y2 hx2 hf2 x3 y3 hx3 hf3 x4 y4 hx4 hf4 hq0 hq1 hmu => C_X13_nextRow_49  V hG hA x1 y1 hx1 hf1 x2 y2 hx2 hf2 x3 y3 hx3 hf3 x4 y4 hx4 hf4 hq0 hq1 (by omega) ih.1 ih.2⟩
set_option maxRecDepth 10000 in
set_option maxHeartbeats 40000000 in
theorem C_X13_nextRow {P : Par} {g : LH} {d : Nat}  (V : InvR P g) (x1 : Int32) (y1 : Int) (hx1 : x1.toInt = y1) (hf1 : 0 ≤ y1 ∧ y1 ≤ 10) (x2 : Int32) (y2 : Int) (hx2 : x2.toInt = y2) (hf2 : 0 ≤ y2 ∧ y2 ≤ 26) (hq0 : y1 ≤ y2) (hq1 : rwI (Gi g 366) (y1) (y2) (y1))  : LW 279 (d + 4) 0 0 0 (lEnt (mL 279) [.ref 355, .int x1, .int x2]) [] g (fun v g' => ∃ r : Int32, v = some (.int r) ∧ 0 ≤ r.toInt ∧ r.toInt ≤ 1 ∧ InvR P g' ∧ Gr g' = Gr g ∧ (∀ q k, q ≠ 366 → Gi g' q k = Gi g q k) ∧ (rwR (Gi g' 366) (Gi g 366) (y1) (y2) r.toInt)) := by
  refine LW_ls (ls' := [some (.ref 355), some (.int x1), some (.int x2), none, none]) rfl ?_
  have hG : Gr g = Gr g := rfl
  have hA : (∀ q k, q ≠ 366 → Gi g q k = Gi g q k) := fun _ _ _ => rfl
  refine X_iload_n rfl rfl rfl rfl ?_
  refine X_iconst (v := (1 : Int32)) rfl rfl rfl ?_
  refine S_isub rfl rfl hx1 (show (1 : Int32).toInt = 1 from rfl) (by omega) (fun vz1 hvz1 => ?_)
  refine X_istore_n (i := 3) (ls' := [some (.ref 355), some (.int x1), some (.int x2), some (.int vz1), none]) rfl rfl rfl (Nat.le_of_ble_eq_true rfl) rfl ?_
  exact (C_X13_nextRow_all (((vz1.toInt - (-1)) * 1 + 11) + 1 : Int).toNat).1 _ V hG hA x1 y1 hx1 (by omega) x2 y2 hx2 (by omega) vz1 vz1.toInt rfl (by omega) none  (by omega) (by omega) (hq1) (rfl)  (by omega)
