/-! the reference: nextShares, core -/
/-- on the way to the next numbers: the first e of them are set -/
def vshN (f f0 : Nat → Int32) (p k e : Int) : Prop := (∀ i : Nat, (i : Int) < k → f i = f0 i) ∧ (f (Int.toNat k)).toInt = (f0 (Int.toNat k)).toInt + 1 ∧ ∀ i : Nat, (i : Int) < e → 0 ≤ (f i).toInt ∧ (f i).toInt ≤ p
def vshR (f f0 : Nat → Int32) (p m r : Int) : Prop := r = 1 → (∀ i : Nat, (i : Int) < m → 0 ≤ (f i).toInt ∧ (f i).toInt ≤ p) ∧ rwM f 31 (Int.toNat m) < rwM f0 31 (Int.toNat m)
theorem vshN.res {fa f0 f : Nat → Int32} {p k e m : Int} (vh : vshN fa f0 p k e) (hke : 0 ≤ k ∧ k < e ∧ e = m) (hp : p ≤ 30) (n : ∀ i : Nat, (i : Int) < m → f i = fa i) : (∀ i : Nat, (i : Int) < m → 0 ≤ (f i).toInt ∧ (f i).toInt ≤ p) ∧ rwM f 31 (Int.toNat m) < rwM f0 31 (Int.toNat m) := by
  obtain ⟨vh1, vh2, vh3⟩ := vh
  refine ⟨fun i hi => by rw [n i hi]; exact vh3 i (by omega), ?_⟩
  have vh4 := vh3 (Int.toNat k) (by omega)
  have vh5 := rwM_lt (f := fa) (f0 := f0) (w := 31) (k := Int.toNat k) (by decide) (fun i hi => vh1 i (by omega)) vh2 (by omega) (Int.toNat m - (Int.toNat k + 1)) (fun i hi => (vh3 i (by omega)).1)
  rw [show Int.toNat k + 1 + (Int.toNat m - (Int.toNat k + 1)) = Int.toNat m by omega] at vh5
  rw [rwM_eq (f := f) (f0 := fa) (Int.toNat m) (fun i hi => n i (by omega))]
  omega
/-- what is left of the numbers -/
def vshL (f : Nat → Int32) (n r : Int) : Int := if r = 1 then ((rwM f 31 (Int.toNat (n - 1)) : Nat) : Int) + 1 else 0
theorem vshL_nn (f : Nat → Int32) (n r : Int) : 0 ≤ vshL f n r := by
  unfold vshL
  split <;> omega
theorem vshL_lt {f f0 : Nat → Int32} {p n r : Int} (vh : vshR f f0 p (n - 1) r) (hr : r = 0 ∨ r = 1) : vshL f n r < vshL f0 n 1 := by
  unfold vshL
  rw [if_pos rfl]
  rcases hr with hr | hr
  · rw [if_neg (by omega)]
    omega
  · have vh2 := (vh hr).2
    rw [if_pos hr]
    omega
theorem vshL_le {f : Nat → Int32} {n p : Int} (hn : n ≤ 4) (vh : ∀ k : Nat, (k : Int) < n - 1 → 0 ≤ (f k).toInt ∧ (f k).toInt ≤ p) : vshL f n 1 ≤ 262145 := by
  have vh1 := rwM_le2 (f := f) (w := 31) (by decide) (Int.toNat (n - 1)) (fun i hi => (vh i (by omega)).1)
  have vh2 : 64 ^ Int.toNat (n - 1) ≤ 64 ^ 3 := Nat.pow_le_pow_right (by decide) (by omega)
  unfold vshL
  rw [if_pos rfl]
  rw [show (64 : Nat) ^ 3 = 262144 from rfl] at vh2
  omega
set_option maxRecDepth 10000 in
set_option maxHeartbeats 40000000 in
theorem C_X13_nextShares_12 {P : Par} {g g0 : LH} {d n : Nat}  (V : InvR P g) (hG : Gr g = Gr g0) (hA : (∀ q k, q ≠ 370 → Gi g q k = Gi g0 q k)) (x1 : Int32) (y1 : Int) (hx1 : x1.toInt = y1) (hf1 : 0 ≤ y1 ∧ y1 ≤ 30) (x2 : Int32) (y2 : Int) (hx2 : x2.toInt = y2) (hf2 : 1 ≤ y2 ∧ y2 ≤ 4) (x3 : Int32) (y3 : Int) (hx3 : x3.toInt = y3) (hf3 : (-1) ≤ y3 ∧ y3 ≤ 2) (o4 : Option Value) (o5 : Option Value) (hc356_8 : 0 ≤ (Gi g 356 8).toInt ∧ (Gi g 356 8).toInt ≤ 4) (hq0 : y2 = (Gi g 356 8).toInt) (hq1 : y3 ≤ y2 - 2) (hq2 : ∀ k : Nat, ↑k ≤ y3 → Gi g 370 k = Gi g0 370 k) (hq3 : ∀ k : Nat, ↑k < y2 - 1 → 0 ≤ (Gi g0 370 k).toInt ∧ (Gi g0 370 k).toInt ≤ y1) (hmu : (y3 - (-1)) * 11 + 10 < (n : Int) + 1) (ih12 : ∀ (g : LH) (V : InvR P g) (hG : Gr g = Gr g0) (hA : (∀ q k, q ≠ 370 → Gi g q k = Gi g0 q k)) (x1 : Int32) (y1 : Int) (hx1 : x1.toInt = y1) (hf1 : 0 ≤ y1 ∧ y1 ≤ 30) (x2 : Int32) (y2 : Int) (hx2 : x2.toInt = y2) (hf2 : 1 ≤ y2 ∧ y2 ≤ 4) (x3 : Int32) (y3 : Int) (hx3 : x3.toInt = y3) (hf3 : (-1) ≤ y3 ∧ y3 ≤ 2) (o4 : Option Value) (o5 : Option Value) (hc356_8 : 0 ≤ (Gi g 356 8).toInt ∧ (Gi g 356 8).toInt ≤ 4) (hq0 : y2 = (Gi g 356 8).toInt) (hq1 : y3 ≤ y2 - 2) (hq2 : ∀ k : Nat, ↑k ≤ y3 → Gi g 370 k = Gi g0 370 k) (hq3 : ∀ k : Nat, ↑k < y2 - 1 → 0 ≤ (Gi g0 370 k).toInt ∧ (Gi g0 370 k).toInt ≤ y1), (y3 - (-1)) * 11 + 10 < (n : Int) → LW 292 (d + 4) 0 0 12 [some (.ref 355), some (.int x1), some (.int x2), some (.int x3), o4, o5] [] g (fun v g' => ∃ r : Int32, v = some (.int r) ∧ 0 ≤ r.toInt ∧ r.toInt ≤ 1 ∧ InvR P g' ∧ Gr g' = Gr g0 ∧ (∀ q k, q ≠ 370 → Gi g' q k = Gi g0 q k) ∧ (vshR (Gi g' 370) (Gi g0 370) (y1) ((Gi g0 356 8).toInt - 1) r.toInt))) (ih32 : ∀ (g : LH) (V : InvR P g) (hG : Gr g = Gr g0) (hA : (∀ q k, q ≠ 370 → Gi g q k = Gi g0 q k)) (x1 : Int32) (y1 : Int) (hx1 : x1.toInt = y1) (hf1 : 0 ≤ y1 ∧ y1 ≤ 30) (x2 : Int32) (y2 : Int) (hx2 : x2.toInt = y2) (hf2 : 1 ≤ y2 ∧ y2 ≤ 4) (x3 : Int32) (y3 : Int) (hx3 : x3.toInt = y3) (hf3 : 0 ≤ y3 ∧ y3 ≤ 2) (x4 : Int32) (y4 : Int) (hx4 : x4.toInt = y4) (hf4 : 0 ≤ y4 ∧ y4 ≤ 93) (x5 : Int32) (y5 : Int) (hx5 : x5.toInt = y5) (hf5 : 0 ≤ y5 ∧ y5 ≤ 3) (hc356_8 : 0 ≤ (Gi g 356 8).toInt ∧ (Gi g 356 8).toInt ≤ 4) (hq0 : y2 = (Gi g 356 8).toInt) (hq1 : y3 ≤ y2 - 2) (hq2 : y5 ≤ y3 + 1) (hq3 : y4 ≤ 31 * y5) (hq4 : ∀ k : Nat, ↑k < y3 → Gi g 370 k = Gi g0 370 k) (hq5 : ∀ k : Nat, ↑k < y2 - 1 → 0 ≤ (Gi g0 370 k).toInt ∧ (Gi g0 370 k).toInt ≤ y1) (hq6 : (Gi g 370 (Int.toNat (y3))).toInt = (Gi g0 370 (Int.toNat (y3))).toInt + 1) (hq7 : ∀ k : Nat, ↑k < y5 → (Gi g 370 k).toInt ≤ y4), (y3 - (-1)) * 11 + 0 + (3 - y5) * 1 + 4 < (n : Int) → LW 292 (d + 4) 0 0 32 [some (.ref 355), some (.int x1), some (.int x2), some (.int x3), some (.int x4), some (.int x5)] [] g (fun v g' => ∃ r : Int32, v = some (.int r) ∧ 0 ≤ r.toInt ∧ r.toInt ≤ 1 ∧ InvR P g' ∧ Gr g' = Gr g0 ∧ (∀ q k, q ≠ 370 → Gi g' q k = Gi g0 q k) ∧ (vshR (Gi g' 370) (Gi g0 370) (y1) ((Gi g0 356 8).toInt - 1) r.toInt))) (ih67 : ∀ (g : LH) (V : InvR P g) (hG : Gr g = Gr g0) (hA : (∀ q k, q ≠ 370 → Gi g q k = Gi g0 q k)) (x1 : Int32) (y1 : Int) (hx1 : x1.toInt = y1) (hf1 : 0 ≤ y1 ∧ y1 ≤ 30) (x2 : Int32) (y2 : Int) (hx2 : x2.toInt = y2) (hf2 : 1 ≤ y2 ∧ y2 ≤ 4) (x3 : Int32) (y3 : Int) (hx3 : x3.toInt = y3) (hf3 : 0 ≤ y3 ∧ y3 ≤ 2) (x4 : Int32) (y4 : Int) (hx4 : x4.toInt = y4) (hf4 : 0 ≤ y4 ∧ y4 ≤ 30) (x5 : Int32) (y5 : Int) (hx5 : x5.toInt = y5) (hf5 : 1 ≤ y5 ∧ y5 ≤ 3) (hc356_8 : 0 ≤ (Gi g 356 8).toInt ∧ (Gi g 356 8).toInt ≤ 4) (hq0 : y2 = (Gi g 356 8).toInt) (hq1 : y3 < y5) (hq2 : y5 ≤ y2 - 1) (hq3 : y4 ≤ y1) (hq4 : vshN (Gi g 370) (Gi g0 370) (y1) (y3) (y5)), (y3 - (-1)) * 11 + 0 + (3 - y5) * 1 + 0 < (n : Int) → LW 292 (d + 4) 0 0 67 [some (.ref 355), some (.int x1), some (.int x2), some (.int x3), some (.int x4), some (.int x5)] [] g (fun v g' => ∃ r : Int32, v = some (.int r) ∧ 0 ≤ r.toInt ∧ r.toInt ≤ 1 ∧ InvR P g' ∧ Gr g' = Gr g0 ∧ (∀ q k, q ≠ 370 → Gi g' q k = Gi g0 q k) ∧ (vshR (Gi g' 370) (Gi g0 370) (y1) ((Gi g0 356 8).toInt - 1) r.toInt))) : LW 292 (d + 4) 0 0 12 [some (.ref 355), some (.int x1), some (.int x2), some (.int x3), o4, o5] [] g (fun v g' => ∃ r : Int32, v = some (.int r) ∧ 0 ≤ r.toInt ∧ r.toInt ≤ 1 ∧ InvR P g' ∧ Gr g' = Gr g0 ∧ (∀ q k, q ≠ 370 → Gi g' q k = Gi g0 q k) ∧ (vshR (Gi g' 370) (Gi g0 370) (y1) ((Gi g0 356 8).toInt - 1) r.toInt)) := by
  obtain ⟨vz1, evz1⟩ : ∃ z, Gi g 356 8 = z := ⟨_, rfl⟩
  rw [evz1] at hc356_8
  rw [evz1] at hq0
  refine X_iload_n rfl rfl rfl rfl ?_
  refine S_if_lt (tgt := 109) rfl rfl rfl hx3 (fun vh2 => ?_) (fun vh2 => ?_)
  · refine X_iconst (v := (0 : Int32)) rfl rfl rfl ?_
    exact LW_ireturn (st := []) rfl rfl rfl ⟨_, rfl, by decide, by decide, V, hG, hA, (by
        exact fun q => absurd q (by decide))⟩
  · refine X_aload_n rfl rfl rfl rfl ?_
    refine X_getR (a := 370) rfl rfl rfl ((congrFun V.1 355).trans s_355) rfl ((congrFun (V.2.1 355 (by decide)) 34).trans r_355_34) ?_
    refine X_iload_n rfl rfl rfl rfl ?_
    refine X_dup2 rfl rfl rfl rfl ?_
    refine S_iald rfl rfl ((congrFun V.1 370).trans s_370) hx3 (by omega) (fun vz3 evz3 => ?_)
    have vf4 : 0 ≤ (Gi g 370 ((y3 : Int).toNat)).toInt ∧ (Gi g 370 ((y3 : Int).toNat)).toInt ≤ 30 := (by
        rw [hq2 (Int.toNat y3) (by omega)]
        have vh := hq3 (Int.toNat y3) (by omega)
        omega)
    rw [evz3] at vf4
    refine X_iconst (v := (1 : Int32)) rfl rfl rfl ?_
    refine S_iadd rfl rfl rfl (show (1 : Int32).toInt = 1 from rfl) (by omega) (fun vz5 hvz5 => ?_)
    refine S_iast (I := InvR _) rfl rfl ((congrFun V.1 370).trans s_370) hx3 (by omega) (InvR_putO V (by decide) trivial) (fun g V ve6 vn7 hq => ?_)
    have hG := hq.trans hG
    have hA := fun q' k' (vh' : q' ≠ 370) => (vn7 q' k' (Or.inl vh')).trans (hA q' k' vh')
    have evz1 := (vn7 (356) 8 (Or.inl (by decide))).trans evz1
    refine X_iconst (v := (0 : Int32)) rfl rfl rfl ?_
    refine X_istore (i := 4) (ls' := [some (.ref 355), some (.int x1), some (.int x2), some (.int x3), some (.int (0 : Int32)), o5]) rfl rfl (Nat.le_of_ble_eq_true rfl) rfl ?_
    refine X_iconst (v := (0 : Int32)) rfl rfl rfl ?_
    refine X_istore (i := 5) (ls' := [some (.ref 355), some (.int x1), some (.int x2), some (.int x3), some (.int (0 : Int32)), some (.int (0 : Int32))]) rfl rfl (Nat.le_of_ble_eq_true rfl) rfl ?_
    exact ih32 _ V hG hA x1 y1 hx1 (by omega) x2 y2 hx2 (by omega) x3 y3 hx3 (by omega) (0 : Int32) 0 (show (0 : Int32).toInt = 0 from rfl) (by omega) (0 : Int32) 0 (show (0 : Int32).toInt = 0 from rfl) (by omega) (by rw [evz1]; omega) (by rw [evz1] <;> omega) (by omega) (by omega) (by omega) (by
        exact fun k hk => (vn7 370 k (Or.inr (by omega))).trans (hq2 k (by omega))) (by
        exact hq3) (by
        rw [ve6, ← hq2 (Int.toNat y3) (by omega), evz3]
        omega) (by
        exact fun k hk => absurd hk (by omega))  (by omega)
set_option maxRecDepth 10000 in
set_option maxHeartbeats 40000000 in
theorem C_X13_nextShares_32 {P : Par} {g g0 : LH} {d n : Nat}  (V : InvR P g) (hG : Gr g = Gr g0) (hA : (∀ q k, q ≠ 370 → Gi g q k = Gi g0 q k)) (x1 : Int32) (y1 : Int) (hx1 : x1.toInt = y1) (hf1 : 0 ≤ y1 ∧ y1 ≤ 30) (x2 : Int32) (y2 : Int) (hx2 : x2.toInt = y2) (hf2 : 1 ≤ y2 ∧ y2 ≤ 4) (x3 : Int32) (y3 : Int) (hx3 : x3.toInt = y3) (hf3 : 0 ≤ y3 ∧ y3 ≤ 2) (x4 : Int32) (y4 : Int) (hx4 : x4.toInt = y4) (hf4 : 0 ≤ y4 ∧ y4 ≤ 93) (x5 : Int32) (y5 : Int) (hx5 : x5.toInt = y5) (hf5 : 0 ≤ y5 ∧ y5 ≤ 3) (hc356_8 : 0 ≤ (Gi g 356 8).toInt ∧ (Gi g 356 8).toInt ≤ 4) (hq0 : y2 = (Gi g 356 8).toInt) (hq1 : y3 ≤ y2 - 2) (hq2 : y5 ≤ y3 + 1) (hq3 : y4 ≤ 31 * y5) (hq4 : ∀ k : Nat, ↑k < y3 → Gi g 370 k = Gi g0 370 k) (hq5 : ∀ k : Nat, ↑k < y2 - 1 → 0 ≤ (Gi g0 370 k).toInt ∧ (Gi g0 370 k).toInt ≤ y1) (hq6 : (Gi g 370 (Int.toNat (y3))).toInt = (Gi g0 370 (Int.toNat (y3))).toInt + 1) (hq7 : ∀ k : Nat, ↑k < y5 → (Gi g 370 k).toInt ≤ y4) (hmu : (y3 - (-1)) * 11 + 0 + (3 - y5) * 1 + 4 < (n : Int) + 1) (ih12 : ∀ (g : LH) (V : InvR P g) (hG : Gr g = Gr g0) (hA : (∀ q k, q ≠ 370 → Gi g q k = Gi g0 q k)) (x1 : Int32) (y1 : Int) (hx1 : x1.toInt = y1) (hf1 : 0 ≤ y1 ∧ y1 ≤ 30) (x2 : Int32) (y2 : Int) (hx2 : x2.toInt = y2) (hf2 : 1 ≤ y2 ∧ y2 ≤ 4) (x3 : Int32) (y3 : Int) (hx3 : x3.toInt = y3) (hf3 : (-1) ≤ y3 ∧ y3 ≤ 2) (o4 : Option Value) (o5 : Option Value) (hc356_8 : 0 ≤ (Gi g 356 8).toInt ∧ (Gi g 356 8).toInt ≤ 4) (hq0 : y2 = (Gi g 356 8).toInt) (hq1 : y3 ≤ y2 - 2) (hq2 : ∀ k : Nat, ↑k ≤ y3 → Gi g 370 k = Gi g0 370 k) (hq3 : ∀ k : Nat, ↑k < y2 - 1 → 0 ≤ (Gi g0 370 k).toInt ∧ (Gi g0 370 k).toInt ≤ y1), (y3 - (-1)) * 11 + 10 < (n : Int) → LW 292 (d + 4) 0 0 12 [some (.ref 355), some (.int x1), some (.int x2), some (.int x3), o4, o5] [] g (fun v g' => ∃ r : Int32, v = some (.int r) ∧ 0 ≤ r.toInt ∧ r.toInt ≤ 1 ∧ InvR P g' ∧ Gr g' = Gr g0 ∧ (∀ q k, q ≠ 370 → Gi g' q k = Gi g0 q k) ∧ (vshR (Gi g' 370) (Gi g0 370) (y1) ((Gi g0 356 8).toInt - 1) r.toInt))) (ih32 : ∀ (g : LH) (V : InvR P g) (hG : Gr g = Gr g0) (hA : (∀ q k, q ≠ 370 → Gi g q k = Gi g0 q k)) (x1 : Int32) (y1 : Int) (hx1 : x1.toInt = y1) (hf1 : 0 ≤ y1 ∧ y1 ≤ 30) (x2 : Int32) (y2 : Int) (hx2 : x2.toInt = y2) (hf2 : 1 ≤ y2 ∧ y2 ≤ 4) (x3 : Int32) (y3 : Int) (hx3 : x3.toInt = y3) (hf3 : 0 ≤ y3 ∧ y3 ≤ 2) (x4 : Int32) (y4 : Int) (hx4 : x4.toInt = y4) (hf4 : 0 ≤ y4 ∧ y4 ≤ 93) (x5 : Int32) (y5 : Int) (hx5 : x5.toInt = y5) (hf5 : 0 ≤ y5 ∧ y5 ≤ 3) (hc356_8 : 0 ≤ (Gi g 356 8).toInt ∧ (Gi g 356 8).toInt ≤ 4) (hq0 : y2 = (Gi g 356 8).toInt) (hq1 : y3 ≤ y2 - 2) (hq2 : y5 ≤ y3 + 1) (hq3 : y4 ≤ 31 * y5) (hq4 : ∀ k : Nat, ↑k < y3 → Gi g 370 k = Gi g0 370 k) (hq5 : ∀ k : Nat, ↑k < y2 - 1 → 0 ≤ (Gi g0 370 k).toInt ∧ (Gi g0 370 k).toInt ≤ y1) (hq6 : (Gi g 370 (Int.toNat (y3))).toInt = (Gi g0 370 (Int.toNat (y3))).toInt + 1) (hq7 : ∀ k : Nat, ↑k < y5 → (Gi g 370 k).toInt ≤ y4), (y3 - (-1)) * 11 + 0 + (3 - y5) * 1 + 4 < (n : Int) → LW 292 (d + 4) 0 0 32 [some (.ref 355), some (.int x1), some (.int x2), some (.int x3), some (.int x4), some (.int x5)] [] g (fun v g' => ∃ r : Int32, v = some (.int r) ∧ 0 ≤ r.toInt ∧ r.toInt ≤ 1 ∧ InvR P g' ∧ Gr g' = Gr g0 ∧ (∀ q k, q ≠ 370 → Gi g' q k = Gi g0 q k) ∧ (vshR (Gi g' 370) (Gi g0 370) (y1) ((Gi g0 356 8).toInt - 1) r.toInt))) (ih67 : ∀ (g : LH) (V : InvR P g) (hG : Gr g = Gr g0) (hA : (∀ q k, q ≠ 370 → Gi g q k = Gi g0 q k)) (x1 : Int32) (y1 : Int) (hx1 : x1.toInt = y1) (hf1 : 0 ≤ y1 ∧ y1 ≤ 30) (x2 : Int32) (y2 : Int) (hx2 : x2.toInt = y2) (hf2 : 1 ≤ y2 ∧ y2 ≤ 4) (x3 : Int32) (y3 : Int) (hx3 : x3.toInt = y3) (hf3 : 0 ≤ y3 ∧ y3 ≤ 2) (x4 : Int32) (y4 : Int) (hx4 : x4.toInt = y4) (hf4 : 0 ≤ y4 ∧ y4 ≤ 30) (x5 : Int32) (y5 : Int) (hx5 : x5.toInt = y5) (hf5 : 1 ≤ y5 ∧ y5 ≤ 3) (hc356_8 : 0 ≤ (Gi g 356 8).toInt ∧ (Gi g 356 8).toInt ≤ 4) (hq0 : y2 = (Gi g 356 8).toInt) (hq1 : y3 < y5) (hq2 : y5 ≤ y2 - 1) (hq3 : y4 ≤ y1) (hq4 : vshN (Gi g 370) (Gi g0 370) (y1) (y3) (y5)), (y3 - (-1)) * 11 + 0 + (3 - y5) * 1 + 0 < (n : Int) → LW 292 (d + 4) 0 0 67 [some (.ref 355), some (.int x1), some (.int x2), some (.int x3), some (.int x4), some (.int x5)] [] g (fun v g' => ∃ r : Int32, v = some (.int r) ∧ 0 ≤ r.toInt ∧ r.toInt ≤ 1 ∧ InvR P g' ∧ Gr g' = Gr g0 ∧ (∀ q k, q ≠ 370 → Gi g' q k = Gi g0 q k) ∧ (vshR (Gi g' 370) (Gi g0 370) (y1) ((Gi g0 356 8).toInt - 1) r.toInt))) : LW 292 (d + 4) 0 0 32 [some (.ref 355), some (.int x1), some (.int x2), some (.int x3), some (.int x4), some (.int x5)] [] g (fun v g' => ∃ r : Int32, v = some (.int r) ∧ 0 ≤ r.toInt ∧ r.toInt ≤ 1 ∧ InvR P g' ∧ Gr g' = Gr g0 ∧ (∀ q k, q ≠ 370 → Gi g' q k = Gi g0 q k) ∧ (vshR (Gi g' 370) (Gi g0 370) (y1) ((Gi g0 356 8).toInt - 1) r.toInt)) := by
  obtain ⟨vz1, evz1⟩ : ∃ z, Gi g 356 8 = z := ⟨_, rfl⟩
  rw [evz1] at hc356_8
  rw [evz1] at hq0
  refine X_iload rfl rfl rfl ?_
  refine X_iload_n rfl rfl rfl rfl ?_
  refine S_icmp_gt (tgt := 56) rfl rfl rfl hx5 hx3 (fun vh2 => ?_) (fun vh2 => ?_)
  · refine X_iload rfl rfl rfl ?_
    refine X_iload_n rfl rfl rfl rfl ?_
    refine S_icmp_gt (tgt := 103) rfl rfl rfl hx4 hx1 (fun vh3 => ?_) (fun vh3 => ?_)
    · refine S_iinc (c := (-1)) rfl rfl rfl hx3 rfl (by omega) (fun vz4 hvz4 => ?_)
      refine LW_ls (ls' := [some (.ref 355), some (.int x1), some (.int x2), some (.int vz4), some (.int x4), some (.int x5)]) rfl ?_
      refine LW_goto (tgt := 12) rfl rfl ?_
      exact ih12 _ V hG hA x1 y1 hx1 (by omega) x2 y2 hx2 (by omega) vz4 vz4.toInt rfl (by omega) (some (.int x4)) (some (.int x5)) (by rw [evz1]; omega) (by rw [evz1] <;> omega) (by omega) (by
        exact fun k hk => hq4 k (by omega)) (by
        exact hq5)  (by omega)
    · refine X_iload_n rfl rfl rfl rfl ?_
      refine X_iconst (v := (1 : Int32)) rfl rfl rfl ?_
      refine S_iadd rfl rfl hx3 (show (1 : Int32).toInt = 1 from rfl) (by omega) (fun vz5 hvz5 => ?_)
      refine X_istore (i := 5) (ls' := [some (.ref 355), some (.int x1), some (.int x2), some (.int x3), some (.int x4), some (.int vz5)]) rfl rfl (Nat.le_of_ble_eq_true rfl) rfl ?_
      exact ih67 _ V hG hA x1 y1 hx1 (by omega) x2 y2 hx2 (by omega) x3 y3 hx3 (by omega) x4 y4 hx4 (by omega) vz5 vz5.toInt rfl (by omega) (by rw [evz1]; omega) (by rw [evz1] <;> omega) (by omega) (by omega) (by omega) (by
        refine ⟨hq4, hq6, fun k hk => ?_⟩
        have vh1 := hq7 k (by omega)
        by_cases hk2 : k = Int.toNat y3
        · subst hk2
          have vhc := hq5 (Int.toNat y3) (by omega)
          omega
        · have vhc := hq5 k (by omega)
          rw [← hq4 k (by omega)] at vhc
          omega)  (by omega)
  · refine X_iload rfl rfl rfl ?_
    refine X_aload_n rfl rfl rfl rfl ?_
    refine X_getR (a := 370) rfl rfl rfl ((congrFun V.1 355).trans s_355) rfl ((congrFun (V.2.1 355 (by decide)) 34).trans r_355_34) ?_
    refine X_iload rfl rfl rfl ?_
    refine S_iald rfl rfl ((congrFun V.1 370).trans s_370) hx5 (by omega) (fun vz6 evz6 => ?_)
    have vf7 : 0 ≤ (Gi g 370 ((y5 : Int).toNat)).toInt ∧ (Gi g 370 ((y5 : Int).toNat)).toInt ≤ 31 := (by
        by_cases hk2 : y5 = y3
        · rw [show Int.toNat y5 = Int.toNat y3 by omega]
          have vh := hq5 (Int.toNat y3) (by omega)
          omega
        · have vh := hq5 (Int.toNat y5) (by omega)
          rw [← hq4 (Int.toNat y5) (by omega)] at vh
          omega)
    rw [evz6] at vf7
    refine S_iadd rfl rfl hx4 rfl (by omega) (fun vz8 hvz8 => ?_)
    refine X_istore (i := 4) (ls' := [some (.ref 355), some (.int x1), some (.int x2), some (.int x3), some (.int vz8), some (.int x5)]) rfl rfl (Nat.le_of_ble_eq_true rfl) rfl ?_
    refine S_iinc (c := 1) rfl rfl rfl hx5 rfl (by omega) (fun vz9 hvz9 => ?_)
    refine LW_ls (ls' := [some (.ref 355), some (.int x1), some (.int x2), some (.int x3), some (.int vz8), some (.int vz9)]) rfl ?_
    refine LW_goto (tgt := 32) rfl rfl ?_
    exact ih32 _ V hG hA x1 y1 hx1 (by omega) x2 y2 hx2 (by omega) x3 y3 hx3 (by omega) vz8 vz8.toInt rfl (by omega) vz9 vz9.toInt rfl (by omega) (by rw [evz1]; omega) (by rw [evz1] <;> omega) (by omega) (by omega) (by omega) (by
        exact hq4) (by
        exact hq5) (by
        exact hq6) (by
        intro k hk
        by_cases hk2 : k = Int.toNat y5
        · subst hk2
          rw [evz6]
          omega
        · have vh := hq7 k (by omega)
          omega)  (by omega)
set_option maxRecDepth 10000 in
set_option maxHeartbeats 40000000 in
theorem C_X13_nextShares_67 {P : Par} {g g0 : LH} {d n : Nat}  (V : InvR P g) (hG : Gr g = Gr g0) (hA : (∀ q k, q ≠ 370 → Gi g q k = Gi g0 q k)) (x1 : Int32) (y1 : Int) (hx1 : x1.toInt = y1) (hf1 : 0 ≤ y1 ∧ y1 ≤ 30) (x2 : Int32) (y2 : Int) (hx2 : x2.toInt = y2) (hf2 : 1 ≤ y2 ∧ y2 ≤ 4) (x3 : Int32) (y3 : Int) (hx3 : x3.toInt = y3) (hf3 : 0 ≤ y3 ∧ y3 ≤ 2) (x4 : Int32) (y4 : Int) (hx4 : x4.toInt = y4) (hf4 : 0 ≤ y4 ∧ y4 ≤ 30) (x5 : Int32) (y5 : Int) (hx5 : x5.toInt = y5) (hf5 : 1 ≤ y5 ∧ y5 ≤ 3) (hc356_8 : 0 ≤ (Gi g 356 8).toInt ∧ (Gi g 356 8).toInt ≤ 4) (hq0 : y2 = (Gi g 356 8).toInt) (hq1 : y3 < y5) (hq2 : y5 ≤ y2 - 1) (hq3 : y4 ≤ y1) (hq4 : vshN (Gi g 370) (Gi g0 370) (y1) (y3) (y5)) (hmu : (y3 - (-1)) * 11 + 0 + (3 - y5) * 1 + 0 < (n : Int) + 1) (ih12 : ∀ (g : LH) (V : InvR P g) (hG : Gr g = Gr g0) (hA : (∀ q k, q ≠ 370 → Gi g q k = Gi g0 q k)) (x1 : Int32) (y1 : Int) (hx1 : x1.toInt = y1) (hf1 : 0 ≤ y1 ∧ y1 ≤ 30) (x2 : Int32) (y2 : Int) (hx2 : x2.toInt = y2) (hf2 : 1 ≤ y2 ∧ y2 ≤ 4) (x3 : Int32) (y3 : Int) (hx3 : x3.toInt = y3) (hf3 : (-1) ≤ y3 ∧ y3 ≤ 2) (o4 : Option Value) (o5 : Option Value) (hc356_8 : 0 ≤ (Gi g 356 8).toInt ∧ (Gi g 356 8).toInt ≤ 4) (hq0 : y2 = (Gi g 356 8).toInt) (hq1 : y3 ≤ y2 - 2) (hq2 : ∀ k : Nat, ↑k ≤ y3 → Gi g 370 k = Gi g0 370 k) (hq3 : ∀ k : Nat, ↑k < y2 - 1 → 0 ≤ (Gi g0 370 k).toInt ∧ (Gi g0 370 k).toInt ≤ y1), (y3 - (-1)) * 11 + 10 < (n : Int) → LW 292 (d + 4) 0 0 12 [some (.ref 355), some (.int x1), some (.int x2), some (.int x3), o4, o5] [] g (fun v g' => ∃ r : Int32, v = some (.int r) ∧ 0 ≤ r.toInt ∧ r.toInt ≤ 1 ∧ InvR P g' ∧ Gr g' = Gr g0 ∧ (∀ q k, q ≠ 370 → Gi g' q k = Gi g0 q k) ∧ (vshR (Gi g' 370) (Gi g0 370) (y1) ((Gi g0 356 8).toInt - 1) r.toInt))) (ih32 : ∀ (g : LH) (V : InvR P g) (hG : Gr g = Gr g0) (hA : (∀ q k, q ≠ 370 → Gi g q k = Gi g0 q k)) (x1 : Int32) (y1 : Int) (hx1 : x1.toInt = y1) (hf1 : 0 ≤ y1 ∧ y1 ≤ 30) (x2 : Int32) (y2 : Int) (hx2 : x2.toInt = y2) (hf2 : 1 ≤ y2 ∧ y2 ≤ 4) (x3 : Int32) (y3 : Int) (hx3 : x3.toInt = y3) (hf3 : 0 ≤ y3 ∧ y3 ≤ 2) (x4 : Int32) (y4 : Int) (hx4 : x4.toInt = y4) (hf4 : 0 ≤ y4 ∧ y4 ≤ 93) (x5 : Int32) (y5 : Int) (hx5 : x5.toInt = y5) (hf5 : 0 ≤ y5 ∧ y5 ≤ 3) (hc356_8 : 0 ≤ (Gi g 356 8).toInt ∧ (Gi g 356 8).toInt ≤ 4) (hq0 : y2 = (Gi g 356 8).toInt) (hq1 : y3 ≤ y2 - 2) (hq2 : y5 ≤ y3 + 1) (hq3 : y4 ≤ 31 * y5) (hq4 : ∀ k : Nat, ↑k < y3 → Gi g 370 k = Gi g0 370 k) (hq5 : ∀ k : Nat, ↑k < y2 - 1 → 0 ≤ (Gi g0 370 k).toInt ∧ (Gi g0 370 k).toInt ≤ y1) (hq6 : (Gi g 370 (Int.toNat (y3))).toInt = (Gi g0 370 (Int.toNat (y3))).toInt + 1) (hq7 : ∀ k : Nat, ↑k < y5 → (Gi g 370 k).toInt ≤ y4), (y3 - (-1)) * 11 + 0 + (3 - y5) * 1 + 4 < (n : Int) → LW 292 (d + 4) 0 0 32 [some (.ref 355), some (.int x1), some (.int x2), some (.int x3), some (.int x4), some (.int x5)] [] g (fun v g' => ∃ r : Int32, v = some (.int r) ∧ 0 ≤ r.toInt ∧ r.toInt ≤ 1 ∧ InvR P g' ∧ Gr g' = Gr g0 ∧ (∀ q k, q ≠ 370 → Gi g' q k = Gi g0 q k) ∧ (vshR (Gi g' 370) (Gi g0 370) (y1) ((Gi g0 356 8).toInt - 1) r.toInt))) (ih67 : ∀ (g : LH) (V : InvR P g) (hG : Gr g = Gr g0) (hA : (∀ q k, q ≠ 370 → Gi g q k = Gi g0 q k)) (x1 : Int32) (y1 : Int) (hx1 : x1.toInt = y1) (hf1 : 0 ≤ y1 ∧ y1 ≤ 30) (x2 : Int32) (y2 : Int) (hx2 : x2.toInt = y2) (hf2 : 1 ≤ y2 ∧ y2 ≤ 4) (x3 : Int32) (y3 : Int) (hx3 : x3.toInt = y3) (hf3 : 0 ≤ y3 ∧ y3 ≤ 2) (x4 : Int32) (y4 : Int) (hx4 : x4.toInt = y4) (hf4 : 0 ≤ y4 ∧ y4 ≤ 30) (x5 : Int32) (y5 : Int) (hx5 : x5.toInt = y5) (hf5 : 1 ≤ y5 ∧ y5 ≤ 3) (hc356_8 : 0 ≤ (Gi g 356 8).toInt ∧ (Gi g 356 8).toInt ≤ 4) (hq0 : y2 = (Gi g 356 8).toInt) (hq1 : y3 < y5) (hq2 : y5 ≤ y2 - 1) (hq3 : y4 ≤ y1) (hq4 : vshN (Gi g 370) (Gi g0 370) (y1) (y3) (y5)), (y3 - (-1)) * 11 + 0 + (3 - y5) * 1 + 0 < (n : Int) → LW 292 (d + 4) 0 0 67 [some (.ref 355), some (.int x1), some (.int x2), some (.int x3), some (.int x4), some (.int x5)] [] g (fun v g' => ∃ r : Int32, v = some (.int r) ∧ 0 ≤ r.toInt ∧ r.toInt ≤ 1 ∧ InvR P g' ∧ Gr g' = Gr g0 ∧ (∀ q k, q ≠ 370 → Gi g' q k = Gi g0 q k) ∧ (vshR (Gi g' 370) (Gi g0 370) (y1) ((Gi g0 356 8).toInt - 1) r.toInt))) : LW 292 (d + 4) 0 0 67 [some (.ref 355), some (.int x1), some (.int x2), some (.int x3), some (.int x4), some (.int x5)] [] g (fun v g' => ∃ r : Int32, v = some (.int r) ∧ 0 ≤ r.toInt ∧ r.toInt ≤ 1 ∧ InvR P g' ∧ Gr g' = Gr g0 ∧ (∀ q k, q ≠ 370 → Gi g' q k = Gi g0 q k) ∧ (vshR (Gi g' 370) (Gi g0 370) (y1) ((Gi g0 356 8).toInt - 1) r.toInt)) := by
  obtain ⟨vz1, evz1⟩ : ∃ z, Gi g 356 8 = z := ⟨_, rfl⟩
  rw [evz1] at hc356_8
  rw [evz1] at hq0
  refine X_iload rfl rfl rfl ?_
  refine X_iload_n rfl rfl rfl rfl ?_
  refine X_iconst (v := (1 : Int32)) rfl rfl rfl ?_
  refine S_isub rfl rfl hx2 (show (1 : Int32).toInt = 1 from rfl) (by omega) (fun vz2 hvz2 => ?_)
  refine S_icmp_ge (tgt := 89) rfl rfl rfl hx5 rfl (fun vh3 => ?_) (fun vh3 => ?_)
  · refine X_aload_n rfl rfl rfl rfl ?_
    refine X_getR (a := 370) rfl rfl rfl ((congrFun V.1 355).trans s_355) rfl ((congrFun (V.2.1 355 (by decide)) 34).trans r_355_34) ?_
    refine X_iload_n rfl rfl rfl rfl ?_
    refine X_iconst (v := (1 : Int32)) rfl rfl rfl ?_
    refine S_isub rfl rfl hx2 (show (1 : Int32).toInt = 1 from rfl) (by omega) (fun vz4 hvz4 => ?_)
    refine X_iload_n rfl rfl rfl rfl ?_
    refine X_iload rfl rfl rfl ?_
    refine S_isub rfl rfl hx1 hx4 (by omega) (fun vz5 hvz5 => ?_)
    refine S_iast (I := InvR _) rfl rfl ((congrFun V.1 370).trans s_370) rfl (by omega) (InvR_putO V (by decide) trivial) (fun g V ve6 vn7 hq => ?_)
    have hG := hq.trans hG
    have hA := fun q' k' (vh' : q' ≠ 370) => (vn7 q' k' (Or.inl vh')).trans (hA q' k' vh')
    have evz1 := (vn7 (356) 8 (Or.inl (by decide))).trans evz1
    refine X_iconst (v := (1 : Int32)) rfl rfl rfl ?_
    exact LW_ireturn (st := []) rfl rfl rfl ⟨_, rfl, by decide, by decide, V, hG, hA, (by
        have vn : (Gi g0 356 8).toInt = y2 := by
          rw [← hA 356 8 (by decide), evz1]
          omega
        rw [vn]
        exact fun _ => vshN.res hq4 (by omega) (by omega) (fun k hk => vn7 370 k (Or.inr (by omega))))⟩
  · refine X_aload_n rfl rfl rfl rfl ?_
    refine X_getR (a := 370) rfl rfl rfl ((congrFun V.1 355).trans s_355) rfl ((congrFun (V.2.1 355 (by decide)) 34).trans r_355_34) ?_
    refine X_iload rfl rfl rfl ?_
    refine X_iconst (v := (0 : Int32)) rfl rfl rfl ?_
    refine S_iast (I := InvR _) rfl rfl ((congrFun V.1 370).trans s_370) hx5 (by omega) (InvR_putO V (by decide) trivial) (fun g V ve8 vn9 hq => ?_)
    have hG := hq.trans hG
    have hA := fun q' k' (vh' : q' ≠ 370) => (vn9 q' k' (Or.inl vh')).trans (hA q' k' vh')
    have evz1 := (vn9 (356) 8 (Or.inl (by decide))).trans evz1
    refine S_iinc (c := 1) rfl rfl rfl hx5 rfl (by omega) (fun vz10 hvz10 => ?_)
    refine LW_ls (ls' := [some (.ref 355), some (.int x1), some (.int x2), some (.int x3), some (.int x4), some (.int vz10)]) rfl ?_
    refine LW_goto (tgt := 67) rfl rfl ?_
    exact ih67 _ V hG hA x1 y1 hx1 (by omega) x2 y2 hx2 (by omega) x3 y3 hx3 (by omega) x4 y4 hx4 (by omega) vz10 vz10.toInt rfl (by omega) (by rw [evz1]; omega) (by rw [evz1] <;> omega) (by omega) (by omega) (by omega) (by
        obtain ⟨vw1, vw2, vw3⟩ := hq4
        refine ⟨fun k hk => (vn9 370 k (Or.inr (by omega))).trans (vw1 k hk), ?_, fun k hk => ?_⟩
        · rw [vn9 370 (Int.toNat y3) (Or.inr (by omega))]
          exact vw2
        · by_cases hk2 : k = Int.toNat y5
          · subst hk2
            have vh0 : (0 : Int32).toInt = 0 := rfl
            rw [ve8]
            omega
          · rw [vn9 370 k (Or.inr hk2)]
            exact vw3 k (by omega))  (by omega)
theorem C_X13_nextShares_all {P : Par} {g0 : LH} {d : Nat}  : ∀ n : Nat, (∀ (g : LH) (V : InvR P g) (hG : Gr g = Gr g0) (hA : (∀ q k, q ≠ 370 → Gi g q k = Gi g0 q k)) (x1 : Int32) (y1 : Int) (hx1 : x1.toInt = y1) (hf1 : 0 ≤ y1 ∧ y1 ≤ 30) (x2 : Int32) (y2 : Int) (hx2 : x2.toInt = y2) (hf2 : 1 ≤ y2 ∧ y2 ≤ 4) (x3 : Int32) (y3 : Int) (hx3 : x3.toInt = y3) (hf3 : (-1) ≤ y3 ∧ y3 ≤ 2) (o4 : Option Value) (o5 : Option Value) (hc356_8 : 0 ≤ (Gi g 356 8).toInt ∧ (Gi g 356 8).toInt ≤ 4) (hq0 : y2 = (Gi g 356 8).toInt) (hq1 : y3 ≤ y2 - 2) (hq2 : ∀ k : Nat, ↑k ≤ y3 → Gi g 370 k = Gi g0 370 k) (hq3 : ∀ k : Nat, ↑k < y2 - 1 → 0 ≤ (Gi g0 370 k).toInt ∧ (Gi g0 370 k).toInt ≤ y1), (y3 - (-1)) * 11 + 10 < (n : Int) → LW 292 (d + 4) 0 0 12 [some (.ref 355), some (.int x1), some (.int x2), some (.int x3), o4, o5] [] g (fun v g' => ∃ r : Int32, v = some (.int r) ∧ 0 ≤ r.toInt ∧ r.toInt ≤ 1 ∧ InvR P g' ∧ Gr g' = Gr g0 ∧ (∀ q k, q ≠ 370 → Gi g' q k = Gi g0 q k) ∧ (vshR (Gi g' 370) (Gi g0 370) (y1) ((Gi g0 356 8).toInt - 1) r.toInt))) ∧ (∀ (g : LH) (V : InvR P g) (hG : Gr g = Gr g0) (hA : (∀ q k, q ≠ 370 → Gi g q k = Gi g0 q k)) (x1 : Int32) (y1 : Int) (hx1 : x1.toInt = y1) (hf1 : 0 ≤ y1 ∧ y1 ≤ 30) (x2 : Int32) (y2 : Int) (hx2 : x2.toInt = y2) (hf2 : 1 ≤ y2 ∧ y2 ≤ 4) (x3 : Int32) (y3 : Int) (hx3 : x3.toInt = y3) (hf3 : 0 ≤ y3 ∧ y3 ≤ 2) (x4 : Int32) (y4 : Int) (hx4 : x4.toInt = y4) (hf4 : 0 ≤ y4 ∧ y4 ≤ 93) (x5 : Int32) (y5 : Int) (hx5 : x5.toInt = y5) (hf5 : 0 ≤ y5 ∧ y5 ≤ 3) (hc356_8 : 0 ≤ (Gi g 356 8).toInt ∧ (Gi g 356 8).toInt ≤ 4) (hq0 : y2 = (Gi g 356 8).toInt) (hq1 : y3 ≤ y2 - 2) (hq2 : y5 ≤ y3 + 1) (hq3 : y4 ≤ 31 * y5) (hq4 : ∀ k : Nat, ↑k < y3 → Gi g 370 k = Gi g0 370 k) (hq5 : ∀ k : Nat, ↑k < y2 - 1 → 0 ≤ (Gi g0 370 k).toInt ∧ (Gi g0 370 k).toInt ≤ y1) (hq6 : (Gi g 370 (Int.toNat (y3))).toInt = (Gi g0 370 (Int.toNat (y3))).toInt + 1) (hq7 : ∀ k : Nat, ↑k < y5 → (Gi g 370 k).toInt ≤ y4), (y3 - (-1)) * 11 + 0 + (3 - y5) * 1 + 4 < (n : Int) → LW 292 (d + 4) 0 0 32 [some (.ref 355), some (.int x1), some (.int x2), some (.int x3), some (.int x4), some (.int x5)] [] g (fun v g' => ∃ r : Int32, v = some (.int r) ∧ 0 ≤ r.toInt ∧ r.toInt ≤ 1 ∧ InvR P g' ∧ Gr g' = Gr g0 ∧ (∀ q k, q ≠ 370 → Gi g' q k = Gi g0 q k) ∧ (vshR (Gi g' 370) (Gi g0 370) (y1) ((Gi g0 356 8).toInt - 1) r.toInt))) ∧ (∀ (g : LH) (V : InvR P g) (hG : Gr g = Gr g0) (hA : (∀ q k, q ≠ 370 → Gi g q k = Gi g0 q k)) (x1 : Int32) (y1 : Int) (hx1 : x1.toInt = y1) (hf1 : 0 ≤ y1 ∧ y1 ≤ 30) (x2 : Int32) (y2 : Int) (hx2 : x2.toInt = y2) (hf2 : 1 ≤ y2 ∧ y2 ≤ 4) (x3 : Int32) (y3 : Int) (hx3 : x3.toInt = y3) (hf3 : 0 ≤ y3 ∧ y3 ≤ 2) (x4 : Int32) (y4 : Int) (hx4 : x4.toInt = y4) (hf4 : 0 ≤ y4 ∧ y4 ≤ 30) (x5 : Int32) (y5 : Int) (hx5 : x5.toInt = y5) (hf5 : 1 ≤ y5 ∧ y5 ≤ 3) (hc356_8 : 0 ≤ (Gi g 356 8).toInt ∧ (Gi g 356 8).toInt ≤ 4) (hq0 : y2 = (Gi g 356 8).toInt) (hq1 : y3 < y5) (hq2 : y5 ≤ y2 - 1) (hq3 : y4 ≤ y1) (hq4 : vshN (Gi g 370) (Gi g0 370) (y1) (y3) (y5)), (y3 - (-1)) * 11 + 0 + (3 - y5) * 1 + 0 < (n : Int) → LW 292 (d + 4) 0 0 67 [some (.ref 355), some (.int x1), some (.int x2), some (.int x3), some (.int x4), some (.int x5)] [] g (fun v g' => ∃ r : Int32, v = some (.int r) ∧ 0 ≤ r.toInt ∧ r.toInt ≤ 1 ∧ InvR P g' ∧ Gr g' = Gr g0 ∧ (∀ q k, q ≠ 370 → Gi g' q k = Gi g0 q k) ∧ (vshR (Gi g' 370) (Gi g0 370) (y1) ((Gi g0 356 8).toInt - 1) r.toInt))) := by
  intro n
  induction n with
  | zero => exact ⟨fun g V hG hA x1 y1 hx1 hf1 x2 y2 hx2 hf2 x3 y3 hx3 hf3 o4 o5 hc356_8 hq0 hq1 hq2 hq3 hmu => absurd hmu (by omega), fun g V hG hA x1 y1 hx1 hf1 x2 y2 hx2 hf2 x3 y3 hx3 hf3 x4 y4 hx4 hf4 x5 y5 hx5 hf5 hc356_8 hq0 hq1 hq2 hq3 hq4 hq5 hq6 hq7 hmu => absurd hmu (by omega), fun g V hG hA x1 y1 hx1 hf1 x2 y2 hx2 hf2 x3 y3 hx3 hf3 x4 y4 hx4 hf4 x5 y5 hx5 hf5 hc356_8 hq0 hq1 hq2 hq3 hq4 hmu => absurd hmu (by omega)⟩
  | succ n ih => exact ⟨fun g V hG hA x1 y1 hx1 hf1 x2 y2 hx2 hf2 x3 y3 hx3 hf3 o4 o5 hc356_8 hq0 hq1 hq2 hq3 hmu => C_X13_nextShares_12  V hG hA x1 y1 hx1 hf1 x2 y2 hx2 hf2 x3 y3 hx3 hf3 o4 o5 hc356_8 hq0 hq1 hq2 hq3 (by omega) ih.1 ih.2.1 ih.2.2, fun g V hG hA x1 y1 hx1 hf1 x2 y2 hx2 hf2 x3 y3 hx3 hf3 x4 y4 hx4 hf4 x5 y5 hx5 hf5 hc356_8 hq0 hq1 hq2 hq3 hq4 hq5 hq6 hq7 hmu => C_X13_nextShares_32  V hG hA x1 y1 hx1 hf1 x2 y2 hx2 hf2 x3 y3 hx3 hf3 x4 y4 hx4 hf4 x5 y5 hx5 hf5 hc356_8 hq0 hq1 hq2 hq3 hq4 hq5 hq6 hq7 (by omega) ih.1 ih.2.1 ih.2.2, fun g V hG hA x1 y1 hx1 hf1 x2 y2 hx2 hf2 x3 y3 hx3 hf3 x4 y4 hx4 hf4 x5 y5 hx5 hf5 hc356_8 hq0 hq1 hq2 hq3 hq4 hmu => C_X13_nextShares_67  V hG hA x1 y1 hx1 hf1 x2 y2 hx2 hf2 x3 y3 hx3 hf3 x4 y4 hx4 hf4 x5 y5 hx5 hf5 hc356_8 hq0 hq1 hq2 hq3 hq4 (by omega) ih.1 ih.2.1 ih.2.2⟩
set_option maxRecDepth 10000 in
set_option maxHeartbeats 40000000 in
theorem C_X13_nextShares {P : Par} {g : LH} {d : Nat}  (V : InvR P g) (x1 : Int32) (y1 : Int) (hx1 : x1.toInt = y1) (hf1 : 0 ≤ y1 ∧ y1 ≤ 30) (hq0 : 1 ≤ (Gi g 356 8).toInt) (hq1 : ∀ k : Nat, ↑k < (Gi g 356 8).toInt - 1 → 0 ≤ (Gi g 370 k).toInt ∧ (Gi g 370 k).toInt ≤ y1)  : LW 292 (d + 4) 0 0 0 (lEnt (mL 292) [.ref 355, .int x1]) [] g (fun v g' => ∃ r : Int32, v = some (.int r) ∧ 0 ≤ r.toInt ∧ r.toInt ≤ 1 ∧ InvR P g' ∧ Gr g' = Gr g ∧ (∀ q k, q ≠ 370 → Gi g' q k = Gi g q k) ∧ (vshR (Gi g' 370) (Gi g 370) (y1) ((Gi g 356 8).toInt - 1) r.toInt)) := by
  refine LW_ls (ls' := [some (.ref 355), some (.int x1), none, none, none, none]) rfl ?_
  have hG : Gr g = Gr g := rfl
  have hA : (∀ q k, q ≠ 370 → Gi g q k = Gi g q k) := fun _ _ _ => rfl
  obtain ⟨vz1, evz1⟩ : ∃ z, Gi g 356 8 = z := ⟨_, rfl⟩
  have vf2 := A_PARTS (V.2.2.2.1 (8)) (by omega)
  rw [evz1] at vf2
  have pvz1 := V.2.2.2.2.2.2.2.2.1
  rw [evz1] at pvz1
  rw [evz1] at hq0
  refine X_aload_n rfl rfl rfl rfl ?_
  refine X_getR (a := 356) rfl rfl rfl ((congrFun V.1 355).trans s_355) rfl ((congrFun (V.2.1 355 (by decide)) 0).trans r_355_0) ?_
  refine X_bipush (v := (8 : Int32)) rfl rfl rfl ?_
  refine S_iald_v rfl rfl ((congrFun V.1 356).trans s_356) (show (8 : Int32).toInt = 8 from rfl) (by omega) evz1 ?_
  refine X_istore_n (i := 2) (ls' := [some (.ref 355), some (.int x1), some (.int vz1), none, none, none]) rfl rfl rfl (Nat.le_of_ble_eq_true rfl) rfl ?_
  refine X_iload_n rfl rfl rfl rfl ?_
  refine X_iconst (v := (2 : Int32)) rfl rfl rfl ?_
  refine S_isub rfl rfl rfl (show (2 : Int32).toInt = 2 from rfl) (by omega) (fun vz4 hvz4 => ?_)
  refine X_istore_n (i := 3) (ls' := [some (.ref 355), some (.int x1), some (.int vz1), some (.int vz4), none, none]) rfl rfl rfl (Nat.le_of_ble_eq_true rfl) rfl ?_
  exact (C_X13_nextShares_all (((vz4.toInt - (-1)) * 11 + 10) + 1 : Int).toNat).1 _ V hG hA x1 y1 hx1 (by omega) vz1 vz1.toInt rfl (by omega) vz4 vz4.toInt rfl (by omega) none none (by rw [evz1]; omega) (by rw [evz1] <;> omega) (by omega) (by
        exact fun _ _ => rfl) (by
        rw [evz1] at hq1
        exact hq1)  (by omega)
set_option maxRecDepth 10000 in
set_option maxHeartbeats 40000000 in
theorem C_X13_core_31 {P : Par} {g g0 : LH} {d n : Nat}  (V : InvR P g) (hG : Gr g = Gr g0) (x1 : Int32) (y1 : Int) (hx1 : x1.toInt = y1) (hf1 : 0 ≤ y1 ∧ y1 ≤ 30) (x2 : Int32) (y2 : Int) (hx2 : x2.toInt = y2) (hf2 : 0 ≤ y2 ∧ y2 ≤ 3) (x3 : Int32) (y3 : Int) (hx3 : x3.toInt = y3) (hf3 : 0 ≤ y3 ∧ y3 ≤ 16) (hc356_8 : 1 ≤ (Gi g 356 8).toInt ∧ (Gi g 356 8).toInt ≤ 4) (hq0 : 1 ≤ (Gi g 356 8).toInt) (hmu : (16 - y3) * 1 + 262153 < (n : Int) + 1) (ih31 : ∀ (g : LH) (V : InvR P g) (hG : Gr g = Gr g0) (x1 : Int32) (y1 : Int) (hx1 : x1.toInt = y1) (hf1 : 0 ≤ y1 ∧ y1 ≤ 30) (x2 : Int32) (y2 : Int) (hx2 : x2.toInt = y2) (hf2 : 0 ≤ y2 ∧ y2 ≤ 3) (x3 : Int32) (y3 : Int) (hx3 : x3.toInt = y3) (hf3 : 0 ≤ y3 ∧ y3 ≤ 16) (hc356_8 : 1 ≤ (Gi g 356 8).toInt ∧ (Gi g 356 8).toInt ≤ 4) (hq0 : 1 ≤ (Gi g 356 8).toInt), (16 - y3) * 1 + 262153 < (n : Int) → LW 293 (d + 60) 0 0 31 [some (.ref 355), some (.int x1), some (.int x2), some (.int x3)] [] g (fun v g' => ∃ r : Int32, v = some (.int r) ∧ InvR P g' ∧ Gr g' = Gr g0)) (ih63 : ∀ (g : LH) (V : InvR P g) (hG : Gr g = Gr g0) (x1 : Int32) (y1 : Int) (hx1 : x1.toInt = y1) (hf1 : 0 ≤ y1 ∧ y1 ≤ 30) (x2 : Int32) (y2 : Int) (hx2 : x2.toInt = y2) (hf2 : 0 ≤ y2 ∧ y2 ≤ 3) (x3 : Int32) (y3 : Int) (hx3 : x3.toInt = y3) (hf3 : 0 ≤ y3 ∧ y3 ≤ 4) (hc356_8 : 1 ≤ (Gi g 356 8).toInt ∧ (Gi g 356 8).toInt ≤ 4) (hq0 : 1 ≤ (Gi g 356 8).toInt) (hq1 : ∀ k : Nat, ↑k < y3 → 0 ≤ (Gi g 370 k).toInt ∧ (Gi g 370 k).toInt ≤ y1), (4 - y3) * 1 + 262147 < (n : Int) → LW 293 (d + 60) 0 0 63 [some (.ref 355), some (.int x1), some (.int x2), some (.int x3)] [] g (fun v g' => ∃ r : Int32, v = some (.int r) ∧ InvR P g' ∧ Gr g' = Gr g0)) (ih106 : ∀ (g : LH) (V : InvR P g) (hG : Gr g = Gr g0) (x1 : Int32) (y1 : Int) (hx1 : x1.toInt = y1) (hf1 : 0 ≤ y1 ∧ y1 ≤ 30) (x2 : Int32) (y2 : Int) (hx2 : x2.toInt = y2) (hf2 : 0 ≤ y2 ∧ y2 ≤ 3) (x3 : Int32) (y3 : Int) (hx3 : x3.toInt = y3) (hf3 : 0 ≤ y3 ∧ y3 ≤ 1) (hc356_8 : 1 ≤ (Gi g 356 8).toInt ∧ (Gi g 356 8).toInt ≤ 4) (hq0 : 1 ≤ (Gi g 356 8).toInt) (hq1 : y3 = 1 → ∀ k : Nat, ↑k < (Gi g 356 8).toInt - 1 → 0 ≤ (Gi g 370 k).toInt ∧ (Gi g 370 k).toInt ≤ y1), vshL (Gi g 370) (Gi g 356 8).toInt (y3) * 1 + 0 < (n : Int) → LW 293 (d + 60) 0 0 106 [some (.ref 355), some (.int x1), some (.int x2), some (.int x3)] [] g (fun v g' => ∃ r : Int32, v = some (.int r) ∧ InvR P g' ∧ Gr g' = Gr g0)) : LW 293 (d + 60) 0 0 31 [some (.ref 355), some (.int x1), some (.int x2), some (.int x3)] [] g (fun v g' => ∃ r : Int32, v = some (.int r) ∧ InvR P g' ∧ Gr g' = Gr g0) := by
  obtain ⟨vz1, evz1⟩ : ∃ z, Gi g 356 8 = z := ⟨_, rfl⟩
  rw [evz1] at hc356_8
  rw [evz1] at hq0
  refine X_iload_n rfl rfl rfl rfl ?_
  refine X_iconst (v := (1 : Int32)) rfl rfl rfl ?_
  refine X_aload_n rfl rfl rfl rfl ?_
  refine X_getR (a := 356) rfl rfl rfl ((congrFun V.1 355).trans s_355) rfl ((congrFun (V.2.1 355 (by decide)) 0).trans r_355_0) ?_
  refine X_bipush (v := (8 : Int32)) rfl rfl rfl ?_
  refine S_iald_v rfl rfl ((congrFun V.1 356).trans s_356) (show (8 : Int32).toInt = 8 from rfl) (by omega) evz1 ?_
  refine S_shl1 (n := 4) rfl rfl rfl (by omega) (fun vz3 hvz3 => ?_)
  refine S_icmp_ge (tgt := 61) rfl rfl rfl hx3 rfl (fun vh4 => ?_) (fun vh4 => ?_)
  · refine X_iconst (v := (0 : Int32)) rfl rfl rfl ?_
    refine X_istore_n (i := 3) (ls' := [some (.ref 355), some (.int x1), some (.int x2), some (.int (0 : Int32))]) rfl rfl rfl (Nat.le_of_ble_eq_true rfl) rfl ?_
    exact ih63 _ V hG x1 y1 hx1 (by omega) x2 y2 hx2 (by omega) (0 : Int32) 0 (show (0 : Int32).toInt = 0 from rfl) (by omega) (by rw [evz1]; omega) (by rw [evz1] <;> omega) (by
        exact fun k hk => absurd hk (by omega))  (by omega)
  · refine X_aload_n rfl rfl rfl rfl ?_
    refine X_getR (a := 371) rfl rfl rfl ((congrFun V.1 355).trans s_355) rfl ((congrFun (V.2.1 355 (by decide)) 35).trans r_355_35) ?_
    refine X_iload_n rfl rfl rfl rfl ?_
    refine X_aload_n rfl rfl rfl rfl ?_
    refine X_iload_n rfl rfl rfl rfl ?_
    refine Y_callV (as := [.int x3]) (st := [.int x3, .ref 371]) rfl rfl rfl (by decide) rfl (Nat.le_of_ble_eq_true rfl) (by decide) (Nat.le_of_ble_eq_true rfl) rfl ((congrFun V.1 355).trans s_355) (by decide) (C_X13_worthOf V x3 y3 hx3 (by omega) ) ?_
    rintro _ g' ⟨vr5, rfl, hgg⟩
    subst hgg
    refine S_iast (I := InvR _) rfl rfl ((congrFun V.1 371).trans s_371) hx3 (by omega) (InvR_putO V (by decide) trivial) (fun g V ve6 vn7 hq => ?_)
    have hG := hq.trans hG
    have evz1 := (vn7 (356) 8 (Or.inl (by decide))).trans evz1
    refine S_iinc (c := 1) rfl rfl rfl hx3 rfl (by omega) (fun vz8 hvz8 => ?_)
    refine LW_ls (ls' := [some (.ref 355), some (.int x1), some (.int x2), some (.int vz8)]) rfl ?_
    refine LW_goto (tgt := 31) rfl rfl ?_
    exact ih31 _ V hG x1 y1 hx1 (by omega) x2 y2 hx2 (by omega) vz8 vz8.toInt rfl (by omega) (by rw [evz1]; omega) (by rw [evz1] <;> omega)  (by omega)
set_option maxRecDepth 10000 in
set_option maxHeartbeats 40000000 in
theorem C_X13_core_63 {P : Par} {g g0 : LH} {d n : Nat}  (V : InvR P g) (hG : Gr g = Gr g0) (x1 : Int32) (y1 : Int) (hx1 : x1.toInt = y1) (hf1 : 0 ≤ y1 ∧ y1 ≤ 30) (x2 : Int32) (y2 : Int) (hx2 : x2.toInt = y2) (hf2 : 0 ≤ y2 ∧ y2 ≤ 3) (x3 : Int32) (y3 : Int) (hx3 : x3.toInt = y3) (hf3 : 0 ≤ y3 ∧ y3 ≤ 4) (hc356_8 : 1 ≤ (Gi g 356 8).toInt ∧ (Gi g 356 8).toInt ≤ 4) (hq0 : 1 ≤ (Gi g 356 8).toInt) (hq1 : ∀ k : Nat, ↑k < y3 → 0 ≤ (Gi g 370 k).toInt ∧ (Gi g 370 k).toInt ≤ y1) (hmu : (4 - y3) * 1 + 262147 < (n : Int) + 1) (ih31 : ∀ (g : LH) (V : InvR P g) (hG : Gr g = Gr g0) (x1 : Int32) (y1 : Int) (hx1 : x1.toInt = y1) (hf1 : 0 ≤ y1 ∧ y1 ≤ 30) (x2 : Int32) (y2 : Int) (hx2 : x2.toInt = y2) (hf2 : 0 ≤ y2 ∧ y2 ≤ 3) (x3 : Int32) (y3 : Int) (hx3 : x3.toInt = y3) (hf3 : 0 ≤ y3 ∧ y3 ≤ 16) (hc356_8 : 1 ≤ (Gi g 356 8).toInt ∧ (Gi g 356 8).toInt ≤ 4) (hq0 : 1 ≤ (Gi g 356 8).toInt), (16 - y3) * 1 + 262153 < (n : Int) → LW 293 (d + 60) 0 0 31 [some (.ref 355), some (.int x1), some (.int x2), some (.int x3)] [] g (fun v g' => ∃ r : Int32, v = some (.int r) ∧ InvR P g' ∧ Gr g' = Gr g0)) (ih63 : ∀ (g : LH) (V : InvR P g) (hG : Gr g = Gr g0) (x1 : Int32) (y1 : Int) (hx1 : x1.toInt = y1) (hf1 : 0 ≤ y1 ∧ y1 ≤ 30) (x2 : Int32) (y2 : Int) (hx2 : x2.toInt = y2) (hf2 : 0 ≤ y2 ∧ y2 ≤ 3) (x3 : Int32) (y3 : Int) (hx3 : x3.toInt = y3) (hf3 : 0 ≤ y3 ∧ y3 ≤ 4) (hc356_8 : 1 ≤ (Gi g 356 8).toInt ∧ (Gi g 356 8).toInt ≤ 4) (hq0 : 1 ≤ (Gi g 356 8).toInt) (hq1 : ∀ k : Nat, ↑k < y3 → 0 ≤ (Gi g 370 k).toInt ∧ (Gi g 370 k).toInt ≤ y1), (4 - y3) * 1 + 262147 < (n : Int) → LW 293 (d + 60) 0 0 63 [some (.ref 355), some (.int x1), some (.int x2), some (.int x3)] [] g (fun v g' => ∃ r : Int32, v = some (.int r) ∧ InvR P g' ∧ Gr g' = Gr g0)) (ih106 : ∀ (g : LH) (V : InvR P g) (hG : Gr g = Gr g0) (x1 : Int32) (y1 : Int) (hx1 : x1.toInt = y1) (hf1 : 0 ≤ y1 ∧ y1 ≤ 30) (x2 : Int32) (y2 : Int) (hx2 : x2.toInt = y2) (hf2 : 0 ≤ y2 ∧ y2 ≤ 3) (x3 : Int32) (y3 : Int) (hx3 : x3.toInt = y3) (hf3 : 0 ≤ y3 ∧ y3 ≤ 1) (hc356_8 : 1 ≤ (Gi g 356 8).toInt ∧ (Gi g 356 8).toInt ≤ 4) (hq0 : 1 ≤ (Gi g 356 8).toInt) (hq1 : y3 = 1 → ∀ k : Nat, ↑k < (Gi g 356 8).toInt - 1 → 0 ≤ (Gi g 370 k).toInt ∧ (Gi g 370 k).toInt ≤ y1), vshL (Gi g 370) (Gi g 356 8).toInt (y3) * 1 + 0 < (n : Int) → LW 293 (d + 60) 0 0 106 [some (.ref 355), some (.int x1), some (.int x2), some (.int x3)] [] g (fun v g' => ∃ r : Int32, v = some (.int r) ∧ InvR P g' ∧ Gr g' = Gr g0)) : LW 293 (d + 60) 0 0 63 [some (.ref 355), some (.int x1), some (.int x2), some (.int x3)] [] g (fun v g' => ∃ r : Int32, v = some (.int r) ∧ InvR P g' ∧ Gr g' = Gr g0) := by
  obtain ⟨vz1, evz1⟩ : ∃ z, Gi g 356 8 = z := ⟨_, rfl⟩
  rw [evz1] at hc356_8
  rw [evz1] at hq0
  refine X_iload_n rfl rfl rfl rfl ?_
  refine X_aload_n rfl rfl rfl rfl ?_
  refine X_getR (a := 356) rfl rfl rfl ((congrFun V.1 355).trans s_355) rfl ((congrFun (V.2.1 355 (by decide)) 0).trans r_355_0) ?_
  refine X_bipush (v := (8 : Int32)) rfl rfl rfl ?_
  refine S_iald_v rfl rfl ((congrFun V.1 356).trans s_356) (show (8 : Int32).toInt = 8 from rfl) (by omega) evz1 ?_
  refine S_icmp_ge (tgt := 104) rfl rfl rfl hx3 rfl (fun vh3 => ?_) (fun vh3 => ?_)
  · refine X_iconst (v := (1 : Int32)) rfl rfl rfl ?_
    refine X_istore_n (i := 3) (ls' := [some (.ref 355), some (.int x1), some (.int x2), some (.int (1 : Int32))]) rfl rfl rfl (Nat.le_of_ble_eq_true rfl) rfl ?_
    have vwb := vshL_le (f := Gi g 370) (n := (Gi g 356 8).toInt) (p := y1) (by rw [evz1]; omega) (fun k hk => hq1 k (by rw [evz1] at hk; omega))
    exact ih106 _ V hG x1 y1 hx1 (by omega) x2 y2 hx2 (by omega) (1 : Int32) 1 (show (1 : Int32).toInt = 1 from rfl) (by omega) (by rw [evz1]; omega) (by rw [evz1] <;> omega) (by
        intro _ k hk
        rw [evz1] at hk
        exact hq1 k (by omega))  (by omega)
  · refine X_aload_n rfl rfl rfl rfl ?_
    refine X_getR (a := 370) rfl rfl rfl ((congrFun V.1 355).trans s_355) rfl ((congrFun (V.2.1 355 (by decide)) 34).trans r_355_34) ?_
    refine X_iload_n rfl rfl rfl rfl ?_
    refine X_iload_n rfl rfl rfl rfl ?_
    refine X_aload_n rfl rfl rfl rfl ?_
    refine X_getR (a := 356) rfl rfl rfl ((congrFun V.1 355).trans s_355) rfl ((congrFun (V.2.1 355 (by decide)) 0).trans r_355_0) ?_
    refine X_bipush (v := (8 : Int32)) rfl rfl rfl ?_
    refine S_iald_v rfl rfl ((congrFun V.1 356).trans s_356) (show (8 : Int32).toInt = 8 from rfl) (by omega) evz1 ?_
    refine X_iconst (v := (1 : Int32)) rfl rfl rfl ?_
    refine S_isub rfl rfl rfl (show (1 : Int32).toInt = 1 from rfl) (by omega) (fun vz5 hvz5 => ?_)
    refine S_icmp_ne (tgt := 96) rfl rfl rfl hx3 rfl (fun vh6 => ?_) (fun vh6 => ?_)
    · refine X_iconst (v := (0 : Int32)) rfl rfl rfl ?_
      refine S_iast (I := InvR _) rfl rfl ((congrFun V.1 370).trans s_370) hx3 (by omega) (InvR_putO V (by decide) trivial) (fun g V ve7 vn8 hq => ?_)
      have hG := hq.trans hG
      have evz1 := (vn8 (356) 8 (Or.inl (by decide))).trans evz1
      refine S_iinc (c := 1) rfl rfl rfl hx3 rfl (by omega) (fun vz9 hvz9 => ?_)
      refine LW_ls (ls' := [some (.ref 355), some (.int x1), some (.int x2), some (.int vz9)]) rfl ?_
      refine LW_goto (tgt := 63) rfl rfl ?_
      exact ih63 _ V hG x1 y1 hx1 (by omega) x2 y2 hx2 (by omega) vz9 vz9.toInt rfl (by omega) (by rw [evz1]; omega) (by rw [evz1] <;> omega) (by
        intro k hk
        by_cases hk2 : k = Int.toNat y3
        · subst hk2
          have vh0 : (0 : Int32).toInt = 0 := rfl
          rw [ve7]
          omega
        · rw [vn8 370 k (Or.inr hk2)]
          exact hq1 k (by omega))  (by omega)
    · refine X_iload_n rfl rfl rfl rfl ?_
      refine LW_goto (tgt := 97) rfl rfl ?_
      refine S_iast (I := InvR _) rfl rfl ((congrFun V.1 370).trans s_370) hx3 (by omega) (InvR_putO V (by decide) trivial) (fun g V ve10 vn11 hq => ?_)
      have hG := hq.trans hG
      have evz1 := (vn11 (356) 8 (Or.inl (by decide))).trans evz1
      refine S_iinc (c := 1) rfl rfl rfl hx3 rfl (by omega) (fun vz12 hvz12 => ?_)
      refine LW_ls (ls' := [some (.ref 355), some (.int x1), some (.int x2), some (.int vz12)]) rfl ?_
      refine LW_goto (tgt := 63) rfl rfl ?_
      exact ih63 _ V hG x1 y1 hx1 (by omega) x2 y2 hx2 (by omega) vz12 vz12.toInt rfl (by omega) (by rw [evz1]; omega) (by rw [evz1] <;> omega) (by
        intro k hk
        by_cases hk2 : k = Int.toNat y3
        · subst hk2
          rw [ve10]
          omega
        · rw [vn11 370 k (Or.inr hk2)]
          exact hq1 k (by omega))  (by omega)
set_option maxRecDepth 10000 in
set_option maxHeartbeats 40000000 in
theorem C_X13_core_106 {P : Par} {g g0 : LH} {d n : Nat}  (V : InvR P g) (hG : Gr g = Gr g0) (x1 : Int32) (y1 : Int) (hx1 : x1.toInt = y1) (hf1 : 0 ≤ y1 ∧ y1 ≤ 30) (x2 : Int32) (y2 : Int) (hx2 : x2.toInt = y2) (hf2 : 0 ≤ y2 ∧ y2 ≤ 3) (x3 : Int32) (y3 : Int) (hx3 : x3.toInt = y3) (hf3 : 0 ≤ y3 ∧ y3 ≤ 1) (hc356_8 : 1 ≤ (Gi g 356 8).toInt ∧ (Gi g 356 8).toInt ≤ 4) (hq0 : 1 ≤ (Gi g 356 8).toInt) (hq1 : y3 = 1 → ∀ k : Nat, ↑k < (Gi g 356 8).toInt - 1 → 0 ≤ (Gi g 370 k).toInt ∧ (Gi g 370 k).toInt ≤ y1) (hmu : vshL (Gi g 370) (Gi g 356 8).toInt (y3) * 1 + 0 < (n : Int) + 1) (ih31 : ∀ (g : LH) (V : InvR P g) (hG : Gr g = Gr g0) (x1 : Int32) (y1 : Int) (hx1 : x1.toInt = y1) (hf1 : 0 ≤ y1 ∧ y1 ≤ 30) (x2 : Int32) (y2 : Int) (hx2 : x2.toInt = y2) (hf2 : 0 ≤ y2 ∧ y2 ≤ 3) (x3 : Int32) (y3 : Int) (hx3 : x3.toInt = y3) (hf3 : 0 ≤ y3 ∧ y3 ≤ 16) (hc356_8 : 1 ≤ (Gi g 356 8).toInt ∧ (Gi g 356 8).toInt ≤ 4) (hq0 : 1 ≤ (Gi g 356 8).toInt), (16 - y3) * 1 + 262153 < (n : Int) → LW 293 (d + 60) 0 0 31 [some (.ref 355), some (.int x1), some (.int x2), some (.int x3)] [] g (fun v g' => ∃ r : Int32, v = some (.int r) ∧ InvR P g' ∧ Gr g' = Gr g0)) (ih63 : ∀ (g : LH) (V : InvR P g) (hG : Gr g = Gr g0) (x1 : Int32) (y1 : Int) (hx1 : x1.toInt = y1) (hf1 : 0 ≤ y1 ∧ y1 ≤ 30) (x2 : Int32) (y2 : Int) (hx2 : x2.toInt = y2) (hf2 : 0 ≤ y2 ∧ y2 ≤ 3) (x3 : Int32) (y3 : Int) (hx3 : x3.toInt = y3) (hf3 : 0 ≤ y3 ∧ y3 ≤ 4) (hc356_8 : 1 ≤ (Gi g 356 8).toInt ∧ (Gi g 356 8).toInt ≤ 4) (hq0 : 1 ≤ (Gi g 356 8).toInt) (hq1 : ∀ k : Nat, ↑k < y3 → 0 ≤ (Gi g 370 k).toInt ∧ (Gi g 370 k).toInt ≤ y1), (4 - y3) * 1 + 262147 < (n : Int) → LW 293 (d + 60) 0 0 63 [some (.ref 355), some (.int x1), some (.int x2), some (.int x3)] [] g (fun v g' => ∃ r : Int32, v = some (.int r) ∧ InvR P g' ∧ Gr g' = Gr g0)) (ih106 : ∀ (g : LH) (V : InvR P g) (hG : Gr g = Gr g0) (x1 : Int32) (y1 : Int) (hx1 : x1.toInt = y1) (hf1 : 0 ≤ y1 ∧ y1 ≤ 30) (x2 : Int32) (y2 : Int) (hx2 : x2.toInt = y2) (hf2 : 0 ≤ y2 ∧ y2 ≤ 3) (x3 : Int32) (y3 : Int) (hx3 : x3.toInt = y3) (hf3 : 0 ≤ y3 ∧ y3 ≤ 1) (hc356_8 : 1 ≤ (Gi g 356 8).toInt ∧ (Gi g 356 8).toInt ≤ 4) (hq0 : 1 ≤ (Gi g 356 8).toInt) (hq1 : y3 = 1 → ∀ k : Nat, ↑k < (Gi g 356 8).toInt - 1 → 0 ≤ (Gi g 370 k).toInt ∧ (Gi g 370 k).toInt ≤ y1), vshL (Gi g 370) (Gi g 356 8).toInt (y3) * 1 + 0 < (n : Int) → LW 293 (d + 60) 0 0 106 [some (.ref 355), some (.int x1), some (.int x2), some (.int x3)] [] g (fun v g' => ∃ r : Int32, v = some (.int r) ∧ InvR P g' ∧ Gr g' = Gr g0)) : LW 293 (d + 60) 0 0 106 [some (.ref 355), some (.int x1), some (.int x2), some (.int x3)] [] g (fun v g' => ∃ r : Int32, v = some (.int r) ∧ InvR P g' ∧ Gr g' = Gr g0) := by
  obtain ⟨vz1, evz1⟩ : ∃ z, Gi g 356 8 = z := ⟨_, rfl⟩
  rw [evz1] at hc356_8
  rw [evz1] at hq0
  refine X_iload_n rfl rfl rfl rfl ?_
  refine S_if_eq (tgt := 133) rfl rfl rfl hx3 (fun vh2 => ?_) (fun vh2 => ?_)
  · refine X_iconst (v := (-1 : Int32)) rfl rfl rfl ?_
    exact LW_ireturn (st := []) rfl rfl rfl ⟨_, rfl, V, hG⟩
  · refine X_aload_n rfl rfl rfl rfl ?_
    refine Y_callV (as := []) (st := []) rfl rfl rfl (by decide) rfl (Nat.le_of_ble_eq_true rfl) (by decide) (Nat.le_of_ble_eq_true rfl) rfl ((congrFun V.1 355).trans s_355) (by decide) (C_X13_areContent V  ) ?_
    rintro _ g' ⟨vr3, rfl, hrvr30, hrvr31, hgg⟩
    subst hgg
    refine S_if_eq (tgt := 124) rfl rfl rfl rfl (fun vh4 => ?_) (fun vh4 => ?_)
    · refine X_aload_n rfl rfl rfl rfl ?_
      refine X_iload_n rfl rfl rfl rfl ?_
      refine Y_callV (as := [.int x1]) (st := []) rfl rfl rfl (by decide) rfl (Nat.le_of_ble_eq_true rfl) (by decide) (Nat.le_of_ble_eq_true rfl) rfl ((congrFun V.1 355).trans s_355) (by decide) (C_X13_nextShares V x1 y1 hx1 (by omega) (by rw [evz1] <;> omega) (by
        exact hq1 (by omega))) ?_
      rintro _ g ⟨vr5, rfl, hrvr50, hrvr51, V, hq, chA, vq6⟩
      have hG := hq.trans hG
      have evz1 := (chA 356 8 (by decide)).trans evz1
      have vwk := vshL_lt vq6 (by omega)
      rw [← chA 356 8 (by decide)] at vwk hmu
      rw [show y3 = 1 by omega] at hmu
      refine X_istore_n (i := 3) (ls' := [some (.ref 355), some (.int x1), some (.int x2), some (.int vr5)]) rfl rfl rfl (Nat.le_of_ble_eq_true rfl) rfl ?_
      refine LW_goto (tgt := 106) rfl rfl ?_
      exact ih106 _ V hG x1 y1 hx1 (by omega) x2 y2 hx2 (by omega) vr5 vr5.toInt rfl (by omega) (by rw [evz1]; omega) (by rw [evz1] <;> omega) (by
        intro vh
        rw [chA 356 8 (by decide)]
        exact (vq6 vh).1)  (by omega)
    · refine X_aload_n rfl rfl rfl rfl ?_
      refine X_getR (a := 370) rfl rfl rfl ((congrFun V.1 355).trans s_355) rfl ((congrFun (V.2.1 355 (by decide)) 34).trans r_355_34) ?_
      refine X_iload_n rfl rfl rfl rfl ?_
      refine S_iald rfl rfl ((congrFun V.1 370).trans s_370) hx2 (by omega) (fun vz7 evz7 => ?_)
      exact LW_ireturn (st := []) rfl rfl rfl ⟨_, rfl, V, hG⟩
theorem C_X13_core_all {P : Par} {g0 : LH} {d : Nat}  : ∀ n : Nat, (∀ (g : LH) (V : InvR P g) (hG : Gr g = Gr g0) (x1 : Int32) (y1 : Int) (hx1 : x1.toInt = y1) (hf1 : 0 ≤ y1 ∧ y1 ≤ 30) (x2 : Int32) (y2 : Int) (hx2 : x2.toInt = y2) (hf2 : 0 ≤ y2 ∧ y2 ≤ 3) (x3 : Int32) (y3 : Int) (hx3 : x3.toInt = y3) (hf3 : 0 ≤ y3 ∧ y3 ≤ 16) (hc356_8 : 1 ≤ (Gi g 356 8).toInt ∧ (Gi g 356 8).toInt ≤ 4) (hq0 : 1 ≤ (Gi g 356 8).toInt), (16 - y3) * 1 + 262153 < (n : Int) → LW 293 (d + 60) 0 0 31 [some (.ref 355), some (.int x1), some (.int x2), some (.int x3)] [] g (fun v g' => ∃ r : Int32, v = some (.int r) ∧ InvR P g' ∧ Gr g' = Gr g0)) ∧ (∀ (g : LH) (V : InvR P g) (hG : Gr g = Gr g0) (x1 : Int32) (y1 : Int) (hx1 : x1.toInt = y1) (hf1 : 0 ≤ y1 ∧ y1 ≤ 30) (x2 : Int32) (y2 : Int) (hx2 : x2.toInt = y2) (hf2 : 0 ≤ y2 ∧ y2 ≤ 3) (x3 : Int32) (y3 : Int) (hx3 : x3.toInt = y3) (hf3 : 0 ≤ y3 ∧ y3 ≤ 4) (hc356_8 : 1 ≤ (Gi g 356 8).toInt ∧ (Gi g 356 8).toInt ≤ 4) (hq0 : 1 ≤ (Gi g 356 8).toInt) (hq1 : ∀ k : Nat, ↑k < y3 → 0 ≤ (Gi g 370 k).toInt ∧ (Gi g 370 k).toInt ≤ y1), (4 - y3) * 1 + 262147 < (n : Int) → LW 293 (d + 60) 0 0 63 [some (.ref 355), some (.int x1), some (.int x2), some (.int x3)] [] g (fun v g' => ∃ r : Int32, v = some (.int r) ∧ InvR P g' ∧ Gr g' = Gr g0)) ∧ (∀ (g : LH) (V : InvR P g) (hG : Gr g = Gr g0) (x1 : Int32) (y1 : Int) (hx1 : x1.toInt = y1) (hf1 : 0 ≤ y1 ∧ y1 ≤ 30) (x2 : Int32) (y2 : Int) (hx2 : x2.toInt = y2) (hf2 : 0 ≤ y2 ∧ y2 ≤ 3) (x3 : Int32) (y3 : Int) (hx3 : x3.toInt = y3) (hf3 : 0 ≤ y3 ∧ y3 ≤ 1) (hc356_8 : 1 ≤ (Gi g 356 8).toInt ∧ (Gi g 356 8).toInt ≤ 4) (hq0 : 1 ≤ (Gi g 356 8).toInt) (hq1 : y3 = 1 → ∀ k : Nat, ↑k < (Gi g 356 8).toInt - 1 → 0 ≤ (Gi g 370 k).toInt ∧ (Gi g 370 k).toInt ≤ y1), vshL (Gi g 370) (Gi g 356 8).toInt (y3) * 1 + 0 < (n : Int) → LW 293 (d + 60) 0 0 106 [some (.ref 355), some (.int x1), some (.int x2), some (.int x3)] [] g (fun v g' => ∃ r : Int32, v = some (.int r) ∧ InvR P g' ∧ Gr g' = Gr g0)) := by
  intro n
  induction n with
  | zero => exact ⟨fun g V hG x1 y1 hx1 hf1 x2 y2 hx2 hf2 x3 y3 hx3 hf3 hc356_8 hq0 hmu => absurd hmu (by omega), fun g V hG x1 y1 hx1 hf1 x2 y2 hx2 hf2 x3 y3 hx3 hf3 hc356_8 hq0 hq1 hmu => absurd hmu (by omega), fun g V hG x1 y1 hx1 hf1 x2 y2 hx2 hf2 x3 y3 hx3 hf3 hc356_8 hq0 hq1 hmu => absurd hmu (by have vwn := vshL_nn (Gi g 370) (Gi g 356 8).toInt y3; omega)⟩
  | succ n ih => exact ⟨fun g V hG x1 y1 hx1 hf1 x2 y2 hx2 hf2 x3 y3 hx3 hf3 hc356_8 hq0 hmu => C_X13_core_31  V hG x1 y1 hx1 hf1 x2 y2 hx2 hf2 x3 y3 hx3 hf3 hc356_8 hq0 (by omega) ih.1 ih.2.1 ih.2.2, fun g V hG x1 y1 hx1 hf1 x2 y2 hx2 hf2 x3 y3 hx3 hf3 hc356_8 hq0 hq1 hmu => C_X13_core_63  V hG x1 y1 hx1 hf1 x2 y2 hx2 hf2 x3 y3 hx3 hf3 hc356_8 hq0 hq1 (by omega) ih.1 ih.2.1 ih.2.2, fun g V hG x1 y1 hx1 hf1 x2 y2 hx2 hf2 x3 y3 hx3 hf3 hc356_8 hq0 hq1 hmu => C_X13_core_106  V hG x1 y1 hx1 hf1 x2 y2 hx2 hf2 x3 y3 hx3 hf3 hc356_8 hq0 hq1 (by omega) ih.1 ih.2.1 ih.2.2⟩
set_option maxRecDepth 10000 in
set_option maxHeartbeats 40000000 in
theorem C_X13_core {P : Par} {g : LH} {d : Nat}  (V : InvR P g) (x1 : Int32) (y1 : Int) (hx1 : x1.toInt = y1) (x2 : Int32) (y2 : Int) (hx2 : x2.toInt = y2)   : LW 293 (d + 60) 0 0 0 (lEnt (mL 293) [.ref 355, .int x1, .int x2]) [] g (fun v g' => ∃ r : Int32, v = some (.int r) ∧ InvR P g' ∧ Gr g' = Gr g) := by
  refine LW_ls (ls' := [some (.ref 355), some (.int x1), some (.int x2), none]) rfl ?_
  have hG : Gr g = Gr g := rfl
  refine X_iload_n rfl rfl rfl rfl ?_
  refine X_iconst (v := (0 : Int32)) rfl rfl rfl ?_
  refine X_bipush (v := (30 : Int32)) rfl rfl rfl ?_
  refine X_callS (as := [.int x1, .int (0 : Int32), .int (30 : Int32)]) (st := []) rfl rfl rfl (by decide) rfl (Nat.le_of_ble_eq_true rfl) (by decide) (Nat.le_of_ble_eq_true rfl) rfl ?_
  refine LW_ls (ls' := [some (.int x1), some (.int (0 : Int32)), some (.int (30 : Int32))]) rfl ?_
  refine X_iload_n rfl rfl rfl rfl ?_
  refine X_iload_n rfl rfl rfl rfl ?_
  refine S_icmp_lt (tgt := 14) rfl rfl rfl hx1 (show (0 : Int32).toInt = 0 from rfl) (fun vh1 => ?_) (fun vh1 => ?_)
  · refine X_iconst (v := (0 : Int32)) rfl rfl rfl ?_
    refine LW_ireturn (st := []) rfl rfl rfl ?_
    refine S_if_eq (tgt := 27) rfl rfl rfl (show (0 : Int32).toInt = 0 from rfl) (fun vh2 => ?_) (fun q => absurd q (by omega))
    refine X_iconst (v := (-1 : Int32)) rfl rfl rfl ?_
    exact LW_ireturn (st := []) rfl rfl rfl ⟨_, rfl, V, hG⟩
  · refine X_iload_n rfl rfl rfl rfl ?_
    refine X_iload_n rfl rfl rfl rfl ?_
    refine S_icmp_gt (tgt := 14) rfl rfl rfl hx1 (show (30 : Int32).toInt = 30 from rfl) (fun vh3 => ?_) (fun vh3 => ?_)
    · refine X_iconst (v := (0 : Int32)) rfl rfl rfl ?_
      refine LW_ireturn (st := []) rfl rfl rfl ?_
      refine S_if_eq (tgt := 27) rfl rfl rfl (show (0 : Int32).toInt = 0 from rfl) (fun vh4 => ?_) (fun q => absurd q (by omega))
      refine X_iconst (v := (-1 : Int32)) rfl rfl rfl ?_
      exact LW_ireturn (st := []) rfl rfl rfl ⟨_, rfl, V, hG⟩
    · refine X_iconst (v := (1 : Int32)) rfl rfl rfl ?_
      refine LW_goto (tgt := 15) rfl rfl ?_
      refine LW_ireturn (st := []) rfl rfl rfl ?_
      refine S_if_eq (tgt := 27) rfl rfl rfl (show (1 : Int32).toInt = 1 from rfl) (fun q => absurd q (by omega)) (fun vh5 => ?_)
      refine X_iload_n rfl rfl rfl rfl ?_
      refine X_iconst (v := (0 : Int32)) rfl rfl rfl ?_
      refine X_aload_n rfl rfl rfl rfl ?_
      refine X_getR (a := 356) rfl rfl rfl ((congrFun V.1 355).trans s_355) rfl ((congrFun (V.2.1 355 (by decide)) 0).trans r_355_0) ?_
      refine X_bipush (v := (8 : Int32)) rfl rfl rfl ?_
      refine S_iald rfl rfl ((congrFun V.1 356).trans s_356) (show (8 : Int32).toInt = 8 from rfl) (by omega) (fun vz6 evz6 => ?_)
      have evz6 : Gi g 356 8 = vz6 := evz6
      have vf7 := A_PARTS (V.2.2.2.1 (8)) (by omega)
      rw [evz6] at vf7
      have pvz6 := V.2.2.2.2.2.2.2.2.1
      rw [evz6] at pvz6
      refine X_iconst (v := (1 : Int32)) rfl rfl rfl ?_
      refine S_isub rfl rfl rfl (show (1 : Int32).toInt = 1 from rfl) (by omega) (fun vz8 hvz8 => ?_)
      refine X_callS (as := [.int x2, .int (0 : Int32), .int vz8]) (st := []) rfl rfl rfl (by decide) rfl (Nat.le_of_ble_eq_true rfl) (by decide) (Nat.le_of_ble_eq_true rfl) rfl ?_
      refine LW_ls (ls' := [some (.int x2), some (.int (0 : Int32)), some (.int vz8)]) rfl ?_
      refine X_iload_n rfl rfl rfl rfl ?_
      refine X_iload_n rfl rfl rfl rfl ?_
      refine S_icmp_lt (tgt := 14) rfl rfl rfl hx2 (show (0 : Int32).toInt = 0 from rfl) (fun vh9 => ?_) (fun vh9 => ?_)
      · refine X_iconst (v := (0 : Int32)) rfl rfl rfl ?_
        refine LW_ireturn (st := []) rfl rfl rfl ?_
        refine S_if_ne (tgt := 29) rfl rfl rfl (show (0 : Int32).toInt = 0 from rfl) (fun q => absurd q (by omega)) (fun vh10 => ?_)
        refine X_iconst (v := (-1 : Int32)) rfl rfl rfl ?_
        exact LW_ireturn (st := []) rfl rfl rfl ⟨_, rfl, V, hG⟩
      · refine X_iload_n rfl rfl rfl rfl ?_
        refine X_iload_n rfl rfl rfl rfl ?_
        refine S_icmp_gt (tgt := 14) rfl rfl rfl hx2 rfl (fun vh11 => ?_) (fun vh11 => ?_)
        · refine X_iconst (v := (0 : Int32)) rfl rfl rfl ?_
          refine LW_ireturn (st := []) rfl rfl rfl ?_
          refine S_if_ne (tgt := 29) rfl rfl rfl (show (0 : Int32).toInt = 0 from rfl) (fun q => absurd q (by omega)) (fun vh12 => ?_)
          refine X_iconst (v := (-1 : Int32)) rfl rfl rfl ?_
          exact LW_ireturn (st := []) rfl rfl rfl ⟨_, rfl, V, hG⟩
        · refine X_iconst (v := (1 : Int32)) rfl rfl rfl ?_
          refine LW_goto (tgt := 15) rfl rfl ?_
          refine LW_ireturn (st := []) rfl rfl rfl ?_
          refine S_if_ne (tgt := 29) rfl rfl rfl (show (1 : Int32).toInt = 1 from rfl) (fun vh13 => ?_) (fun q => absurd q (by omega))
          refine X_iconst (v := (0 : Int32)) rfl rfl rfl ?_
          refine X_istore_n (i := 3) (ls' := [some (.ref 355), some (.int x1), some (.int x2), some (.int (0 : Int32))]) rfl rfl rfl (Nat.le_of_ble_eq_true rfl) rfl ?_
          exact (C_X13_core_all (((16 - 0) * 1 + 262153) + 1 : Int).toNat).1 _ V hG x1 y1 hx1 (by omega) x2 y2 hx2 (by omega) (0 : Int32) 0 (show (0 : Int32).toInt = 0 from rfl) (by omega) (by rw [evz6]; omega) (by rw [evz6] <;> omega)  (by omega)
