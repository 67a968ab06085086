/-! the reference: stop -/
/-- what is left of the rows of n letters -/
def rwK (f : Nat → Int32) (n r : Int) : Int := if r = 1 then ((rwM f 26 n.toNat : Nat) : Int) + 1 else 0
theorem rwK_nn (f : Nat → Int32) (n r : Int) : 0 ≤ rwK f n r := by
  unfold rwK
  split <;> omega
theorem rwK_lt {f f0 : Nat → Int32} {n r : Int} (vh : rwR f f0 n 26 r) (hr : r = 0 ∨ r = 1) : rwK f n r < rwK f0 n 1 := by
  unfold rwK
  rw [if_pos rfl]
  rcases hr with hr | hr
  · rw [if_neg (by omega)]
    omega
  · have vh2 := (vh.1 hr).2
    rw [if_pos hr]
    omega
theorem rwM_le {f : Nat → Int32} : ∀ m : Nat, (∀ j : Nat, j < m → 0 ≤ (f j).toInt) → rwM f 26 m + 1 ≤ 64 ^ m := by
  intro m
  induction m with
  | zero => exact fun _ => Nat.le_refl _
  | succ m ih =>
    intro vh
    have vh1 := ih (fun j hj => vh j (by omega))
    have vh2 := vh m (Nat.lt_succ_self m)
    rw [Nat.pow_succ]
    show 64 * rwM f 26 m + (26 - (f m).toInt).toNat + 1 ≤ 64 ^ m * 64
    omega
theorem rwK_le {f : Nat → Int32} {n : Int} (hn : 0 ≤ n ∧ n ≤ 4) (vh : ∀ k : Nat, (k : Int) < n → 0 ≤ (f k).toInt) : rwK f n 1 ≤ 16777217 := by
  have vh1 := rwM_le n.toNat (fun j hj => vh j (by omega))
  have vh2 : 64 ^ n.toNat ≤ 64 ^ 4 := Nat.pow_le_pow_right (by decide) (by omega)
  unfold rwK
  rw [if_pos rfl]
  rw [show (64 : Nat) ^ 4 = 16777216 from rfl] at vh2
  omega
set_option maxRecDepth 10000 in
set_option maxHeartbeats 40000000 in
theorem C_X13_firstRowB_2 {P : Par} {g g0 : LH} {d n : Nat}  (V : InvR P g) (hG : Gr g = Gr g0) (hA : (∀ q k, q ≠ 366 → Gi g q k = Gi g0 q k)) (x1 : Int32) (y1 : Int) (hx1 : x1.toInt = y1) (hf1 : 0 ≤ y1 ∧ y1 ≤ 10) (x2 : Int32) (y2 : Int) (hx2 : x2.toInt = y2) (hf2 : 0 ≤ y2 ∧ y2 ≤ 10) (hq0 : ∀ k : Nat, ↑k < y2 → (Gi g 366 k).toInt = ↑k) (hmu : (10 - y2) * 1 + 0 < (n : Int) + 1) (ih2 : ∀ (g : LH) (V : InvR P g) (hG : Gr g = Gr g0) (hA : (∀ q k, q ≠ 366 → Gi g q k = Gi g0 q k)) (x1 : Int32) (y1 : Int) (hx1 : x1.toInt = y1) (hf1 : 0 ≤ y1 ∧ y1 ≤ 10) (x2 : Int32) (y2 : Int) (hx2 : x2.toInt = y2) (hf2 : 0 ≤ y2 ∧ y2 ≤ 10) (hq0 : ∀ k : Nat, ↑k < y2 → (Gi g 366 k).toInt = ↑k), (10 - y2) * 1 + 0 < (n : Int) → LW 278 (d + 3) 0 0 2 [some (.ref 355), some (.int x1), some (.int x2)] [] g (fun v g' => v = none ∧ InvR P g' ∧ Gr g' = Gr g0 ∧ (∀ q k, q ≠ 366 → Gi g' q k = Gi g0 q k) ∧ (∀ k : Nat, ↑k < y1 → (Gi g' 366 k).toInt = ↑k))) : LW 278 (d + 3) 0 0 2 [some (.ref 355), some (.int x1), some (.int x2)] [] g (fun v g' => v = none ∧ InvR P g' ∧ Gr g' = Gr g0 ∧ (∀ q k, q ≠ 366 → Gi g' q k = Gi g0 q k) ∧ (∀ k : Nat, ↑k < y1 → (Gi g' 366 k).toInt = ↑k)) := by
  refine X_iload_n rfl rfl rfl rfl ?_
  refine X_iload_n rfl rfl rfl rfl ?_
  refine S_icmp_ge (tgt := 20) rfl rfl rfl hx2 hx1 (fun vh1 => ?_) (fun vh1 => ?_)
  · exact LW_return (st := []) rfl rfl ⟨rfl, V, hG, hA, (by
        exact fun k hk => hq0 k (by omega))⟩
  · refine X_aload_n rfl rfl rfl rfl ?_
    refine X_getR (a := 366) rfl rfl rfl ((congrFun V.1 355).trans s_355) rfl ((congrFun (V.2.1 355 (by decide)) 29).trans r_355_29) ?_
    refine X_iload_n rfl rfl rfl rfl ?_
    refine X_iload_n rfl rfl rfl rfl ?_
    refine S_iast (I := InvR _) rfl rfl ((congrFun V.1 366).trans s_366) hx2 (by omega) (InvR_putO V (by decide) trivial) (fun g V ve2 vn3 hq => ?_)
    have hG := hq.trans hG
    have hA := fun q' k' (vh' : q' ≠ 366) => (vn3 q' k' (Or.inl vh')).trans (hA q' k' vh')
    refine S_iinc (c := 1) rfl rfl rfl hx2 rfl (by omega) (fun vz4 hvz4 => ?_)
    refine LW_ls (ls' := [some (.ref 355), some (.int x1), some (.int vz4)]) rfl ?_
    refine LW_goto (tgt := 2) rfl rfl ?_
    exact ih2 _ V hG hA x1 y1 hx1 (by omega) vz4 vz4.toInt rfl (by omega)  (by
        intro k hk
        by_cases hk2 : k = Int.toNat y2
        · subst hk2
          rw [ve2]
          omega
        · rw [vn3 366 k (Or.inr hk2)]
          exact hq0 k (by omega))  (by omega)
theorem C_X13_firstRowB_all {P : Par} {g0 : LH} {d : Nat}  : ∀ n : Nat, (∀ (g : LH) (V : InvR P g) (hG : Gr g = Gr g0) (hA : (∀ q k, q ≠ 366 → Gi g q k = Gi g0 q k)) (x1 : Int32) (y1 : Int) (hx1 : x1.toInt = y1) (hf1 : 0 ≤ y1 ∧ y1 ≤ 10) (x2 : Int32) (y2 : Int) (hx2 : x2.toInt = y2) (hf2 : 0 ≤ y2 ∧ y2 ≤ 10) (hq0 : ∀ k : Nat, ↑k < y2 → (Gi g 366 k).toInt = ↑k), (10 - y2) * 1 + 0 < (n : Int) → LW 278 (d + 3) 0 0 2 [some (.ref 355), some (.int x1), some (.int x2)] [] g (fun v g' => v = none ∧ InvR P g' ∧ Gr g' = Gr g0 ∧ (∀ q k, q ≠ 366 → Gi g' q k = Gi g0 q k) ∧ (∀ k : Nat, ↑k < y1 → (Gi g' 366 k).toInt = ↑k))) := by
  intro n
  induction n with
  | zero => exact fun g V hG hA x1 y1 hx1 hf1 x2 y2 hx2 hf2 hq0 hmu => absurd hmu (by omega)
  | succ n ih => exact fun g V hG hA x1 y1 hx1 hf1 x2 y2 hx2 hf2 hq0 hmu => C_X13_firstRowB_2  V hG hA x1 y1 hx1 hf1 x2 y2 hx2 hf2 hq0 (by omega) ih
set_option maxRecDepth 10000 in
set_option maxHeartbeats 40000000 in
theorem C_X13_firstRowB {P : Par} {g : LH} {d : Nat}  (V : InvR P g) (x1 : Int32) (y1 : Int) (hx1 : x1.toInt = y1) (hf1 : 0 ≤ y1 ∧ y1 ≤ 10)   : LW 278 (d + 3) 0 0 0 (lEnt (mL 278) [.ref 355, .int x1]) [] g (fun v g' => v = none ∧ InvR P g' ∧ Gr g' = Gr g ∧ (∀ q k, q ≠ 366 → Gi g' q k = Gi g q k) ∧ (∀ k : Nat, ↑k < y1 → (Gi g' 366 k).toInt = ↑k)) := by
  refine LW_ls (ls' := [some (.ref 355), some (.int x1), none]) rfl ?_
  have hG : Gr g = Gr g := rfl
  have hA : (∀ q k, q ≠ 366 → Gi g q k = Gi g q k) := fun _ _ _ => rfl
  refine X_iconst (v := (0 : Int32)) rfl rfl rfl ?_
  refine X_istore_n (i := 2) (ls' := [some (.ref 355), some (.int x1), some (.int (0 : Int32))]) rfl rfl rfl (Nat.le_of_ble_eq_true rfl) rfl ?_
  exact (C_X13_firstRowB_all (((10 - 0) * 1 + 0) + 1 : Int).toNat) _ V hG hA x1 y1 hx1 (by omega) (0 : Int32) 0 (show (0 : Int32).toInt = 0 from rfl) (by omega)  (fun k hk => absurd hk (by omega))  (by omega)
set_option maxRecDepth 10000 in
set_option maxHeartbeats 40000000 in
theorem C_X13_stop_12 {P : Par} {g g0 : LH} {d n : Nat}  (V : InvR P g) (hG : Gr g = Gr g0) (x1 : Int32) (y1 : Int) (hx1 : x1.toInt = y1) (hf1 : 0 ≤ y1 ∧ y1 ≤ 7) (x2 : Int32) (y2 : Int) (hx2 : x2.toInt = y2) (hf2 : 0 ≤ y2 ∧ y2 ≤ 5) (o3 : Option Value) (hc356_1 : 1 ≤ (Gi g 356 1).toInt ∧ (Gi g 356 1).toInt ≤ 8) (hmu : (5 - y2) * 16777221 + 16777220 < (n : Int) + 1) (ih12 : ∀ (g : LH) (V : InvR P g) (hG : Gr g = Gr g0) (x1 : Int32) (y1 : Int) (hx1 : x1.toInt = y1) (hf1 : 0 ≤ y1 ∧ y1 ≤ 7) (x2 : Int32) (y2 : Int) (hx2 : x2.toInt = y2) (hf2 : 0 ≤ y2 ∧ y2 ≤ 5) (o3 : Option Value) (hc356_1 : 1 ≤ (Gi g 356 1).toInt ∧ (Gi g 356 1).toInt ≤ 8), (5 - y2) * 16777221 + 16777220 < (n : Int) → LW 281 (d + 40) 0 0 12 [some (.ref 355), some (.int x1), some (.int x2), o3] [] g (fun v g' => ∃ r : Int32, v = some (.int r) ∧ InvR P g' ∧ Gr g' = Gr g0)) (ih24 : ∀ (g : LH) (V : InvR P g) (hG : Gr g = Gr g0) (x1 : Int32) (y1 : Int) (hx1 : x1.toInt = y1) (hf1 : 0 ≤ y1 ∧ y1 ≤ 7) (x2 : Int32) (y2 : Int) (hx2 : x2.toInt = y2) (hf2 : 0 ≤ y2 ∧ y2 ≤ 4) (x3 : Int32) (y3 : Int) (hx3 : x3.toInt = y3) (hf3 : 0 ≤ y3 ∧ y3 ≤ 1) (hc356_1 : 1 ≤ (Gi g 356 1).toInt ∧ (Gi g 356 1).toInt ≤ 8) (hq0 : y3 = 1 → rwI (Gi g 366) (y2) (26) (y2)), (5 - y2) * 16777221 + 0 + rwK (Gi g 366) (y2) (y3) * 1 + 0 < (n : Int) → LW 281 (d + 40) 0 0 24 [some (.ref 355), some (.int x1), some (.int x2), some (.int x3)] [] g (fun v g' => ∃ r : Int32, v = some (.int r) ∧ InvR P g' ∧ Gr g' = Gr g0)) : LW 281 (d + 40) 0 0 12 [some (.ref 355), some (.int x1), some (.int x2), o3] [] g (fun v g' => ∃ r : Int32, v = some (.int r) ∧ InvR P g' ∧ Gr g' = Gr g0) := by
  obtain ⟨vz1, evz1⟩ : ∃ z, Gi g 356 1 = z := ⟨_, rfl⟩
  rw [evz1] at hc356_1
  refine X_iload_n rfl rfl rfl rfl ?_
  refine X_iconst (v := (4 : Int32)) rfl rfl rfl ?_
  refine S_icmp_gt (tgt := 65) rfl rfl rfl hx2 (show (4 : Int32).toInt = 4 from rfl) (fun vh2 => ?_) (fun vh2 => ?_)
  · refine X_iconst (v := (-1 : Int32)) rfl rfl rfl ?_
    exact LW_ireturn (st := []) rfl rfl rfl ⟨_, rfl, V, hG⟩
  · refine X_aload_n rfl rfl rfl rfl ?_
    refine X_iload_n rfl rfl rfl rfl ?_
    refine Y_callV (as := [.int x2]) (st := []) rfl rfl rfl (by decide) rfl (Nat.le_of_ble_eq_true rfl) (by decide) (Nat.le_of_ble_eq_true rfl) rfl ((congrFun V.1 355).trans s_355) (by decide) (C_X13_firstRowB V x2 y2 hx2 (by omega) ) ?_
    rintro _ g ⟨rfl, V, hq, chA, vq4⟩
    have hG := hq.trans hG
    have evz1 := (chA 356 1 (by decide)).trans evz1
    refine X_iconst (v := (1 : Int32)) rfl rfl rfl ?_
    refine X_istore_n (i := 3) (ls' := [some (.ref 355), some (.int x1), some (.int x2), some (.int (1 : Int32))]) rfl rfl rfl (Nat.le_of_ble_eq_true rfl) rfl ?_
    have vwb := rwK_le (f := Gi g 366) (n := y2) (by omega) (fun k hk => by rw [vq4 k hk]; omega)
    exact ih24 _ V hG x1 y1 hx1 (by omega) x2 y2 hx2 (by omega) (1 : Int32) 1 (show (1 : Int32).toInt = 1 from rfl) (by omega) (by rw [evz1]; omega) (by
        exact fun _ k hk => by rw [vq4 k hk]; omega)  (by omega)
set_option maxRecDepth 10000 in
set_option maxHeartbeats 40000000 in
theorem C_X13_stop_24 {P : Par} {g g0 : LH} {d n : Nat}  (V : InvR P g) (hG : Gr g = Gr g0) (x1 : Int32) (y1 : Int) (hx1 : x1.toInt = y1) (hf1 : 0 ≤ y1 ∧ y1 ≤ 7) (x2 : Int32) (y2 : Int) (hx2 : x2.toInt = y2) (hf2 : 0 ≤ y2 ∧ y2 ≤ 4) (x3 : Int32) (y3 : Int) (hx3 : x3.toInt = y3) (hf3 : 0 ≤ y3 ∧ y3 ≤ 1) (hc356_1 : 1 ≤ (Gi g 356 1).toInt ∧ (Gi g 356 1).toInt ≤ 8) (hq0 : y3 = 1 → rwI (Gi g 366) (y2) (26) (y2)) (hmu : (5 - y2) * 16777221 + 0 + rwK (Gi g 366) (y2) (y3) * 1 + 0 < (n : Int) + 1) (ih12 : ∀ (g : LH) (V : InvR P g) (hG : Gr g = Gr g0) (x1 : Int32) (y1 : Int) (hx1 : x1.toInt = y1) (hf1 : 0 ≤ y1 ∧ y1 ≤ 7) (x2 : Int32) (y2 : Int) (hx2 : x2.toInt = y2) (hf2 : 0 ≤ y2 ∧ y2 ≤ 5) (o3 : Option Value) (hc356_1 : 1 ≤ (Gi g 356 1).toInt ∧ (Gi g 356 1).toInt ≤ 8), (5 - y2) * 16777221 + 16777220 < (n : Int) → LW 281 (d + 40) 0 0 12 [some (.ref 355), some (.int x1), some (.int x2), o3] [] g (fun v g' => ∃ r : Int32, v = some (.int r) ∧ InvR P g' ∧ Gr g' = Gr g0)) (ih24 : ∀ (g : LH) (V : InvR P g) (hG : Gr g = Gr g0) (x1 : Int32) (y1 : Int) (hx1 : x1.toInt = y1) (hf1 : 0 ≤ y1 ∧ y1 ≤ 7) (x2 : Int32) (y2 : Int) (hx2 : x2.toInt = y2) (hf2 : 0 ≤ y2 ∧ y2 ≤ 4) (x3 : Int32) (y3 : Int) (hx3 : x3.toInt = y3) (hf3 : 0 ≤ y3 ∧ y3 ≤ 1) (hc356_1 : 1 ≤ (Gi g 356 1).toInt ∧ (Gi g 356 1).toInt ≤ 8) (hq0 : y3 = 1 → rwI (Gi g 366) (y2) (26) (y2)), (5 - y2) * 16777221 + 0 + rwK (Gi g 366) (y2) (y3) * 1 + 0 < (n : Int) → LW 281 (d + 40) 0 0 24 [some (.ref 355), some (.int x1), some (.int x2), some (.int x3)] [] g (fun v g' => ∃ r : Int32, v = some (.int r) ∧ InvR P g' ∧ Gr g' = Gr g0)) : LW 281 (d + 40) 0 0 24 [some (.ref 355), some (.int x1), some (.int x2), some (.int x3)] [] g (fun v g' => ∃ r : Int32, v = some (.int r) ∧ InvR P g' ∧ Gr g' = Gr g0) := by
  obtain ⟨vz1, evz1⟩ : ∃ z, Gi g 356 1 = z := ⟨_, rfl⟩
  rw [evz1] at hc356_1
  refine X_iload_n rfl rfl rfl rfl ?_
  refine S_if_eq (tgt := 59) rfl rfl rfl hx3 (fun vh2 => ?_) (fun vh2 => ?_)
  · refine S_iinc (c := 1) rfl rfl rfl hx2 rfl (by omega) (fun vz3 hvz3 => ?_)
    have vwn := rwK_nn (Gi g 366) y2 y3
    refine LW_ls (ls' := [some (.ref 355), some (.int x1), some (.int vz3), some (.int x3)]) rfl ?_
    refine LW_goto (tgt := 12) rfl rfl ?_
    exact ih12 _ V hG x1 y1 hx1 (by omega) vz3 vz3.toInt rfl (by omega) (some (.int x3)) (by rw [evz1]; omega)   (by omega)
  · refine X_aload_n rfl rfl rfl rfl ?_
    refine X_iload_n rfl rfl rfl rfl ?_
    refine X_aload_n rfl rfl rfl rfl ?_
    refine X_iload_n rfl rfl rfl rfl ?_
    refine Y_callV (as := [.int x2]) (st := [.int x1, .ref 355]) rfl rfl rfl (by decide) rfl (Nat.le_of_ble_eq_true rfl) (by decide) (Nat.le_of_ble_eq_true rfl) rfl ((congrFun V.1 355).trans s_355) (by decide) (C_X13_setOfRow V x2 y2 hx2 (by omega) ) ?_
    rintro _ g' ⟨vr4, rfl, hgg⟩
    subst hgg
    refine X_iconst (v := (0 : Int32)) rfl rfl rfl ?_
    refine Y_callV (as := [.int x1, .int vr4, .int (0 : Int32)]) (st := []) rfl rfl rfl (by decide) rfl (Nat.le_of_ble_eq_true rfl) (by decide) (Nat.le_of_ble_eq_true rfl) rfl ((congrFun V.1 355).trans s_355) (by decide) (C_X13_canSay V x1 y1 hx1 (by omega) vr4 vr4.toInt rfl (0 : Int32) 0 (show (0 : Int32).toInt = 0 from rfl) (by omega) ) ?_
    rintro _ g' ⟨vr5, rfl, hrvr50, hrvr51, hgg, vq6⟩
    subst hgg
    refine S_if_ne (tgt := 48) rfl rfl rfl rfl (fun vh7 => ?_) (fun vh7 => ?_)
    · refine X_aload_n rfl rfl rfl rfl ?_
      refine X_iload_n rfl rfl rfl rfl ?_
      refine X_bipush (v := (26 : Int32)) rfl rfl rfl ?_
      refine Y_callV (as := [.int x2, .int (26 : Int32)]) (st := []) rfl rfl rfl (by decide) rfl (Nat.le_of_ble_eq_true rfl) (by decide) (Nat.le_of_ble_eq_true rfl) rfl ((congrFun V.1 355).trans s_355) (by decide) (C_X13_nextRow V x2 y2 hx2 (by omega) (26 : Int32) 26 (show (26 : Int32).toInt = 26 from rfl) (by omega) (by omega) (by
        exact hq0 (by omega))) ?_
      rintro _ g ⟨vr8, rfl, hrvr80, hrvr81, V, hq, chA, vq9⟩
      have hG := hq.trans hG
      have evz1 := (chA 356 1 (by decide)).trans evz1
      have vwk := rwK_lt vq9 (by omega)
      rw [show y3 = 1 by omega] at hmu
      refine X_istore_n (i := 3) (ls' := [some (.ref 355), some (.int x1), some (.int x2), some (.int vr8)]) rfl rfl rfl (Nat.le_of_ble_eq_true rfl) rfl ?_
      refine LW_goto (tgt := 24) rfl rfl ?_
      exact ih24 _ V hG x1 y1 hx1 (by omega) x2 y2 hx2 (by omega) vr8 vr8.toInt rfl (by omega) (by rw [evz1]; omega) (by
        exact fun vh => (vq9.1 vh).1)  (by omega)
    · refine X_aload_n rfl rfl rfl rfl ?_
      refine X_iload_n rfl rfl rfl rfl ?_
      refine Y_callV (as := [.int x2]) (st := []) rfl rfl rfl (by decide) rfl (Nat.le_of_ble_eq_true rfl) (by decide) (Nat.le_of_ble_eq_true rfl) rfl ((congrFun V.1 355).trans s_355) (by decide) (C_X13_setOfRow V x2 y2 hx2 (by omega) ) ?_
      rintro _ g' ⟨vr10, rfl, hgg⟩
      subst hgg
      exact LW_ireturn (st := []) rfl rfl rfl ⟨_, rfl, V, hG⟩
theorem C_X13_stop_all {P : Par} {g0 : LH} {d : Nat}  : ∀ n : Nat, (∀ (g : LH) (V : InvR P g) (hG : Gr g = Gr g0) (x1 : Int32) (y1 : Int) (hx1 : x1.toInt = y1) (hf1 : 0 ≤ y1 ∧ y1 ≤ 7) (x2 : Int32) (y2 : Int) (hx2 : x2.toInt = y2) (hf2 : 0 ≤ y2 ∧ y2 ≤ 5) (o3 : Option Value) (hc356_1 : 1 ≤ (Gi g 356 1).toInt ∧ (Gi g 356 1).toInt ≤ 8), (5 - y2) * 16777221 + 16777220 < (n : Int) → LW 281 (d + 40) 0 0 12 [some (.ref 355), some (.int x1), some (.int x2), o3] [] g (fun v g' => ∃ r : Int32, v = some (.int r) ∧ InvR P g' ∧ Gr g' = Gr g0)) ∧ (∀ (g : LH) (V : InvR P g) (hG : Gr g = Gr g0) (x1 : Int32) (y1 : Int) (hx1 : x1.toInt = y1) (hf1 : 0 ≤ y1 ∧ y1 ≤ 7) (x2 : Int32) (y2 : Int) (hx2 : x2.toInt = y2) (hf2 : 0 ≤ y2 ∧ y2 ≤ 4) (x3 : Int32) (y3 : Int) (hx3 : x3.toInt = y3) (hf3 : 0 ≤ y3 ∧ y3 ≤ 1) (hc356_1 : 1 ≤ (Gi g 356 1).toInt ∧ (Gi g 356 1).toInt ≤ 8) (hq0 : y3 = 1 → rwI (Gi g 366) (y2) (26) (y2)), (5 - y2) * 16777221 + 0 + rwK (Gi g 366) (y2) (y3) * 1 + 0 < (n : Int) → LW 281 (d + 40) 0 0 24 [some (.ref 355), some (.int x1), some (.int x2), some (.int x3)] [] g (fun v g' => ∃ r : Int32, v = some (.int r) ∧ InvR P g' ∧ Gr g' = Gr g0)) := by
  intro n
  induction n with
  | zero => exact ⟨fun g V hG x1 y1 hx1 hf1 x2 y2 hx2 hf2 o3 hc356_1 hmu => absurd hmu (by omega), fun g V hG x1 y1 hx1 hf1 x2 y2 hx2 hf2 x3 y3 hx3 hf3 hc356_1 hq0 hmu => absurd hmu (by have vwn := rwK_nn (Gi g 366) y2 y3; omega)⟩
  | succ n ih => exact ⟨fun g V hG x1 y1 hx1 hf1 x2 y2 hx2 hf2 o3 hc356_1 hmu => C_X13_stop_12  V hG x1 y1 hx1 hf1 x2 y2 hx2 hf2 o3 hc356_1 (by omega) ih.1 ih.2, fun g V hG x1 y1 hx1 hf1 x2 y2 hx2 hf2 x3 y3 hx3 hf3 hc356_1 hq0 hmu => C_X13_stop_24  V hG x1 y1 hx1 hf1 x2 y2 hx2 hf2 x3 y3 hx3 hf3 hc356_1 hq0 (by omega) ih.1 ih.2⟩
set_option maxRecDepth 10000 in
set_option maxHeartbeats 40000000 in
theorem C_X13_stop {P : Par} {g : LH} {d : Nat}  (V : InvR P g) (x1 : Int32) (y1 : Int) (hx1 : x1.toInt = y1)   : LW 281 (d + 40) 0 0 0 (lEnt (mL 281) [.ref 355, .int x1]) [] g (fun v g' => ∃ r : Int32, v = some (.int r) ∧ InvR P g' ∧ Gr g' = Gr g) := by
  refine LW_ls (ls' := [some (.ref 355), some (.int x1), none, none]) rfl ?_
  have hG : Gr g = Gr g := rfl
  refine X_aload_n rfl rfl rfl rfl ?_
  refine X_iload_n rfl rfl rfl rfl ?_
  refine X_callV (as := [.int x1]) (st := []) rfl rfl rfl (by decide) rfl (Nat.le_of_ble_eq_true rfl) (by decide) (Nat.le_of_ble_eq_true rfl) rfl ((congrFun V.1 355).trans s_355) (by decide) ?_
  refine LW_ls (ls' := [some (.ref 355), some (.int x1)]) rfl ?_
  refine X_iload_n rfl rfl rfl rfl ?_
  refine X_iconst (v := (0 : Int32)) rfl rfl rfl ?_
  refine X_aload_n rfl rfl rfl rfl ?_
  refine X_getR (a := 356) rfl rfl rfl ((congrFun V.1 355).trans s_355) rfl ((congrFun (V.2.1 355 (by decide)) 0).trans r_355_0) ?_
  refine X_iconst (v := (1 : Int32)) rfl rfl rfl ?_
  refine S_iald rfl rfl ((congrFun V.1 356).trans s_356) (show (1 : Int32).toInt = 1 from rfl) (by omega) (fun vz1 evz1 => ?_)
  have evz1 : Gi g 356 1 = vz1 := evz1
  have vf2 := A_SAYS (V.2.2.2.1 (1)) (by omega)
  rw [evz1] at vf2
  refine X_iconst (v := (1 : Int32)) rfl rfl rfl ?_
  refine S_isub rfl rfl rfl (show (1 : Int32).toInt = 1 from rfl) (by omega) (fun vz3 hvz3 => ?_)
  refine X_callS (as := [.int x1, .int (0 : Int32), .int vz3]) (st := []) rfl rfl rfl (by decide) rfl (Nat.le_of_ble_eq_true rfl) (by decide) (Nat.le_of_ble_eq_true rfl) rfl ?_
  refine LW_ls (ls' := [some (.int x1), some (.int (0 : Int32)), some (.int vz3)]) rfl ?_
  refine X_iload_n rfl rfl rfl rfl ?_
  refine X_iload_n rfl rfl rfl rfl ?_
  refine S_icmp_lt (tgt := 14) rfl rfl rfl hx1 (show (0 : Int32).toInt = 0 from rfl) (fun vh4 => ?_) (fun vh4 => ?_)
  · refine X_iconst (v := (0 : Int32)) rfl rfl rfl ?_
    refine LW_ireturn (st := []) rfl rfl rfl ?_
    refine LW_ireturn (st := []) rfl rfl rfl ?_
    refine S_if_ne (tgt := 10) rfl rfl rfl (show (0 : Int32).toInt = 0 from rfl) (fun q => absurd q (by omega)) (fun vh5 => ?_)
    refine X_iconst (v := (-1 : Int32)) rfl rfl rfl ?_
    exact LW_ireturn (st := []) rfl rfl rfl ⟨_, rfl, V, hG⟩
  · refine X_iload_n rfl rfl rfl rfl ?_
    refine X_iload_n rfl rfl rfl rfl ?_
    refine S_icmp_gt (tgt := 14) rfl rfl rfl hx1 rfl (fun vh6 => ?_) (fun vh6 => ?_)
    · refine X_iconst (v := (0 : Int32)) rfl rfl rfl ?_
      refine LW_ireturn (st := []) rfl rfl rfl ?_
      refine LW_ireturn (st := []) rfl rfl rfl ?_
      refine S_if_ne (tgt := 10) rfl rfl rfl (show (0 : Int32).toInt = 0 from rfl) (fun q => absurd q (by omega)) (fun vh7 => ?_)
      refine X_iconst (v := (-1 : Int32)) rfl rfl rfl ?_
      exact LW_ireturn (st := []) rfl rfl rfl ⟨_, rfl, V, hG⟩
    · refine X_iconst (v := (1 : Int32)) rfl rfl rfl ?_
      refine LW_goto (tgt := 15) rfl rfl ?_
      refine LW_ireturn (st := []) rfl rfl rfl ?_
      refine LW_ireturn (st := []) rfl rfl rfl ?_
      refine S_if_ne (tgt := 10) rfl rfl rfl (show (1 : Int32).toInt = 1 from rfl) (fun vh8 => ?_) (fun q => absurd q (by omega))
      refine X_iconst (v := (0 : Int32)) rfl rfl rfl ?_
      refine X_istore_n (i := 2) (ls' := [some (.ref 355), some (.int x1), some (.int (0 : Int32)), none]) rfl rfl rfl (Nat.le_of_ble_eq_true rfl) rfl ?_
      exact (C_X13_stop_all (((5 - 0) * 16777221 + 16777220) + 1 : Int).toNat).1 _ V hG x1 y1 hx1 (by omega) (0 : Int32) 0 (show (0 : Int32).toInt = 0 from rfl) (by omega) none (by rw [evz1]; omega)   (by omega)
