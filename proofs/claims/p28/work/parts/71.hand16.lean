/-! the reference: signs for some letters -/
/-- the greatest of the first k numbers, -1 without any -/
def vum (f : Nat → Int32) : Nat → Int
  | 0 => -1
  | k + 1 => if vum f k < (f k).toInt then (f k).toInt else vum f k
/-- each is at most one more than those ahead -/
def vsR (f : Nat → Int32) (n : Int) : Prop := ∀ k : Nat, (k : Int) < n → 0 ≤ (f k).toInt ∧ (f k).toInt ≤ vum f k + 1
theorem vum_eq {f fa : Nat → Int32} : ∀ k : Nat, (∀ i : Nat, i < k → f i = fa i) → vum f k = vum fa k := by
  intro k
  induction k with
  | zero => exact fun _ => rfl
  | succ k ih =>
    intro vh
    show (if vum f k < (f k).toInt then (f k).toInt else vum f k) = if vum fa k < (fa k).toInt then (fa k).toInt else vum fa k
    rw [ih (fun i hi => vh i (by omega)), vh k (Nat.lt_succ_self k)]
theorem vum_ge (f : Nat → Int32) : ∀ k : Nat, -1 ≤ vum f k := by
  intro k
  induction k with
  | zero => exact Int.le_refl _
  | succ k ih =>
    show -1 ≤ if vum f k < (f k).toInt then (f k).toInt else vum f k
    split <;> omega
theorem vum_le {f : Nat → Int32} {n : Int} (vh : vsR f n) : ∀ k : Nat, (k : Int) ≤ n → vum f k + 1 ≤ (k : Int) := by
  intro k
  induction k with
  | zero => exact fun _ => Int.le_refl _
  | succ k ih =>
    intro hk
    have vh1 := ih (by omega)
    have vh2 := vh k (by omega)
    show (if vum f k < (f k).toInt then (f k).toInt else vum f k) + 1 ≤ ((k + 1 : Nat) : Int)
    split <;> omega
theorem vsR.zero {f : Nat → Int32} {n : Int} (vh : ∀ k : Nat, (k : Int) < n → (f k).toInt = 0) : vsR f n := fun k hk => by
  have vh1 := vh k hk
  have vh2 := vum_ge f k
  omega
/-- on the way to the next signs: the first e of them are set -/
def vsN (f f0 : Nat → Int32) (k e : Int) : Prop := (∀ i : Nat, (i : Int) < k → f i = f0 i) ∧ (f (Int.toNat k)).toInt = (f0 (Int.toNat k)).toInt + 1 ∧ vsR f e
def vsT (f f0 : Nat → Int32) (n r : Int) : Prop := r = 1 → vsR f n ∧ rwM f 25 (Int.toNat n) < rwM f0 25 (Int.toNat n)
theorem vsN.put {fa f f0 : Nat → Int32} {n k e : Int} (vh : vsR fa n) (hf : fa = f0) (hk : 0 ≤ k ∧ k < n ∧ e = k + 1) (n1 : ∀ i : Nat, i ≠ Int.toNat k → f i = fa i) (vh1 : (f (Int.toNat k)).toInt = (fa (Int.toNat k)).toInt + 1) (vh2 : (fa (Int.toNat k)).toInt ≤ vum fa (Int.toNat k)) : vsN f f0 k e := by
  subst hf
  refine ⟨fun i hi => n1 i (by omega), vh1, fun i hi => ?_⟩
  have vh3 := vh i (by omega)
  rw [vum_eq (f := f) (fa := fa) i (fun a ha => n1 a (by omega))]
  by_cases hk2 : i = Int.toNat k
  · subst hk2
    omega
  · rw [n1 i hk2]
    exact vh3
theorem vsN.zero {fa f f0 : Nat → Int32} {k e eb : Int} (vh : vsN fa f0 k e) (hk : 0 ≤ k ∧ k < e ∧ eb = e + 1) (n1 : ∀ i : Nat, i ≠ Int.toNat e → f i = fa i) (vh0 : f (Int.toNat e) = (0 : Int32)) : vsN f f0 k eb := by
  obtain ⟨vh1, vh2, vh3⟩ := vh
  refine ⟨fun i hi => (n1 i (by omega)).trans (vh1 i hi), by rw [n1 (Int.toNat k) (by omega)]; exact vh2, fun i hi => ?_⟩
  rw [vum_eq (f := f) (fa := fa) i (fun a ha => n1 a (by omega))]
  by_cases hk2 : i = Int.toNat e
  · subst hk2
    have vh4 := vum_ge fa (Int.toNat e)
    have vh5 : (0 : Int32).toInt = 0 := rfl
    rw [vh0]
    omega
  · rw [n1 i hk2]
    exact vh3 i (by omega)
theorem vsN.res {f f0 : Nat → Int32} {k e n : Int} (vh : vsN f f0 k e) (hk : 0 ≤ k ∧ k < e ∧ e = n ∧ n ≤ 25) : vsR f n ∧ rwM f 25 (Int.toNat n) < rwM f0 25 (Int.toNat n) := by
  obtain ⟨vh1, vh2, vh3⟩ := vh
  rw [hk.2.2.1] at vh3
  refine ⟨vh3, ?_⟩
  have vh4 := vh3 (Int.toNat k) (by omega)
  have vh5 := vum_le vh3 (Int.toNat k) (by omega)
  have vh6 := rwM_lt (f := f) (f0 := f0) (w := 25) (k := Int.toNat k) (by decide) (fun i hi => vh1 i (by omega)) vh2 (by omega) (Int.toNat n - (Int.toNat k + 1)) (fun i hi => (vh3 i (by omega)).1)
  rw [show Int.toNat k + 1 + (Int.toNat n - (Int.toNat k + 1)) = Int.toNat n by omega] at vh6
  omega
/-- what is left of the signs -/
def vsL (f : Nat → Int32) (n r : Int) : Int := if r = 1 then ((rwM f 25 (Int.toNat n) : Nat) : Int) + 1 else 0
theorem vsL_nn (f : Nat → Int32) (n r : Int) : 0 ≤ vsL f n r := by
  unfold vsL
  split <;> omega
theorem vsL_lt {f f0 : Nat → Int32} {n r : Int} (vh : vsT f f0 n r) (hr : r = 0 ∨ r = 1) : vsL f n r < vsL f0 n 1 := by
  unfold vsL
  rw [if_pos rfl]
  rcases hr with hr | hr
  · rw [if_neg (by omega)]
    omega
  · have vh2 := (vh hr).2
    rw [if_pos hr]
    omega
theorem vsL_le {f : Nat → Int32} {n : Int} (hn : n ≤ 6) (vh : vsR f n) : vsL f n 1 ≤ 68719476737 := by
  have vh1 := rwM_le2 (f := f) (w := 25) (by decide) (Int.toNat n) (fun i hi => (vh i (by omega)).1)
  have vh2 : 64 ^ Int.toNat n ≤ 64 ^ 6 := Nat.pow_le_pow_right (by decide) (by omega)
  unfold vsL
  rw [if_pos rfl]
  rw [show (64 : Nat) ^ 6 = 68719476736 from rfl] at vh2
  omega
set_option maxRecDepth 10000 in
set_option maxHeartbeats 40000000 in
theorem C_X13_unlikeB_4 {P : Par} {g : LH} {d n : Nat}  (V : InvR P g) (x1 : Int32) (y1 : Int) (hx1 : x1.toInt = y1) (hf1 : 0 ≤ y1 ∧ y1 ≤ 6) (x2 : Int32) (y2 : Int) (hx2 : x2.toInt = y2) (hf2 : (-1) ≤ y2 ∧ y2 ≤ 9) (x3 : Int32) (y3 : Int) (hx3 : x3.toInt = y3) (hf3 : 0 ≤ y3 ∧ y3 ≤ 6) (hq0 : y3 ≤ y1) (hq1 : -1 ≤ y2 ∧ y2 < y3) (hq2 : vsR (Gi g 366) (y1)) (hq3 : y2 = vum (Gi g 366) (Int.toNat (y3))) (hmu : (6 - y3) * 1 + 0 < (n : Int) + 1) (ih4 : ∀ (V : InvR P g) (x1 : Int32) (y1 : Int) (hx1 : x1.toInt = y1) (hf1 : 0 ≤ y1 ∧ y1 ≤ 6) (x2 : Int32) (y2 : Int) (hx2 : x2.toInt = y2) (hf2 : (-1) ≤ y2 ∧ y2 ≤ 9) (x3 : Int32) (y3 : Int) (hx3 : x3.toInt = y3) (hf3 : 0 ≤ y3 ∧ y3 ≤ 6) (hq0 : y3 ≤ y1) (hq1 : -1 ≤ y2 ∧ y2 < y3) (hq2 : vsR (Gi g 366) (y1)) (hq3 : y2 = vum (Gi g 366) (Int.toNat (y3))), (6 - y3) * 1 + 0 < (n : Int) → LW 298 (d + 4) 0 0 4 [some (.ref 355), some (.int x1), some (.int x2), some (.int x3)] [] g (fun v g' => ∃ r : Int32, v = some (.int r) ∧ 0 ≤ r.toInt ∧ r.toInt ≤ 10 ∧ g = g' ∧ (r.toInt = vum (Gi g 366) (Int.toNat (y1)) + 1))) : LW 298 (d + 4) 0 0 4 [some (.ref 355), some (.int x1), some (.int x2), some (.int x3)] [] g (fun v g' => ∃ r : Int32, v = some (.int r) ∧ 0 ≤ r.toInt ∧ r.toInt ≤ 10 ∧ g = g' ∧ (r.toInt = vum (Gi g 366) (Int.toNat (y1)) + 1)) := by
  refine X_iload_n rfl rfl rfl rfl ?_
  refine X_iload_n rfl rfl rfl rfl ?_
  refine S_icmp_ge (tgt := 36) rfl rfl rfl hx3 hx1 (fun vh1 => ?_) (fun vh1 => ?_)
  · refine X_iload_n rfl rfl rfl rfl ?_
    refine X_iconst (v := (1 : Int32)) rfl rfl rfl ?_
    refine S_iadd rfl rfl hx2 (show (1 : Int32).toInt = 1 from rfl) (by omega) (fun vz2 hvz2 => ?_)
    have hr := (rfl : vz2.toInt = vz2.toInt)
    exact LW_ireturn (st := []) rfl rfl rfl ⟨_, rfl, by omega, by omega, rfl, (by
          rw [show Int.toNat y1 = Int.toNat y3 by omega, ← hq3]
          omega)⟩
  · refine X_aload_n rfl rfl rfl rfl ?_
    refine X_getR (a := 366) rfl rfl rfl ((congrFun V.1 355).trans s_355) rfl ((congrFun (V.2.1 355 (by decide)) 29).trans r_355_29) ?_
    refine X_iload_n rfl rfl rfl rfl ?_
    refine S_iald rfl rfl ((congrFun V.1 366).trans s_366) hx3 (by omega) (fun vz3 evz3 => ?_)
    have vf4 : 0 ≤ (Gi g 366 ((y3 : Int).toNat)).toInt ∧ (Gi g 366 ((y3 : Int).toNat)).toInt ≤ y2 + 1 := (by
          have vh := hq2 (Int.toNat y3) (by omega)
          rw [← hq3] at vh
          exact vh)
    rw [evz3] at vf4
    refine X_iload_n rfl rfl rfl rfl ?_
    refine S_icmp_le (tgt := 28) rfl rfl rfl rfl hx2 (fun vh5 => ?_) (fun vh5 => ?_)
    · refine X_iload_n rfl rfl rfl rfl ?_
      refine X_istore_n (i := 2) (ls' := [some (.ref 355), some (.int x1), some (.int x2), some (.int x3)]) rfl rfl rfl (Nat.le_of_ble_eq_true rfl) rfl ?_
      refine S_iinc (c := 1) rfl rfl rfl hx3 rfl (by omega) (fun vz6 hvz6 => ?_)
      refine LW_ls (ls' := [some (.ref 355), some (.int x1), some (.int x2), some (.int vz6)]) rfl ?_
      refine LW_goto (tgt := 4) rfl rfl ?_
      exact ih4 V x1 y1 hx1 (by omega) x2 y2 hx2 (by omega) vz6 vz6.toInt rfl (by omega)  (by omega) (by omega) (hq2) (by
            rw [show Int.toNat vz6.toInt = Int.toNat y3 + 1 by omega]
            show y2 = if vum (Gi g 366) (Int.toNat y3) < (Gi g 366 (Int.toNat y3)).toInt then (Gi g 366 (Int.toNat y3)).toInt else vum (Gi g 366) (Int.toNat y3)
            rw [← hq3, evz3, if_neg (by omega)])  (by omega)
    · refine X_aload_n rfl rfl rfl rfl ?_
      refine X_getR (a := 366) rfl rfl rfl ((congrFun V.1 355).trans s_355) rfl ((congrFun (V.2.1 355 (by decide)) 29).trans r_355_29) ?_
      refine X_iload_n rfl rfl rfl rfl ?_
      refine S_iald_v rfl rfl ((congrFun V.1 366).trans s_366) hx3 (by omega) evz3 ?_
      refine LW_goto (tgt := 29) rfl rfl ?_
      refine X_istore_n (i := 2) (ls' := [some (.ref 355), some (.int x1), some (.int vz3), some (.int x3)]) rfl rfl rfl (Nat.le_of_ble_eq_true rfl) rfl ?_
      refine S_iinc (c := 1) rfl rfl rfl hx3 rfl (by omega) (fun vz8 hvz8 => ?_)
      refine LW_ls (ls' := [some (.ref 355), some (.int x1), some (.int vz3), some (.int vz8)]) rfl ?_
      refine LW_goto (tgt := 4) rfl rfl ?_
      exact ih4 V x1 y1 hx1 (by omega) vz3 vz3.toInt rfl (by omega) vz8 vz8.toInt rfl (by omega)  (by omega) (by omega) (hq2) (by
            rw [show Int.toNat vz8.toInt = Int.toNat y3 + 1 by omega]
            show vz3.toInt = if vum (Gi g 366) (Int.toNat y3) < (Gi g 366 (Int.toNat y3)).toInt then (Gi g 366 (Int.toNat y3)).toInt else vum (Gi g 366) (Int.toNat y3)
            rw [← hq3, evz3, if_pos (by omega)])  (by omega)
theorem C_X13_unlikeB_all {P : Par} {g : LH} {d : Nat}  : ∀ n : Nat, (∀ (V : InvR P g) (x1 : Int32) (y1 : Int) (hx1 : x1.toInt = y1) (hf1 : 0 ≤ y1 ∧ y1 ≤ 6) (x2 : Int32) (y2 : Int) (hx2 : x2.toInt = y2) (hf2 : (-1) ≤ y2 ∧ y2 ≤ 9) (x3 : Int32) (y3 : Int) (hx3 : x3.toInt = y3) (hf3 : 0 ≤ y3 ∧ y3 ≤ 6) (hq0 : y3 ≤ y1) (hq1 : -1 ≤ y2 ∧ y2 < y3) (hq2 : vsR (Gi g 366) (y1)) (hq3 : y2 = vum (Gi g 366) (Int.toNat (y3))), (6 - y3) * 1 + 0 < (n : Int) → LW 298 (d + 4) 0 0 4 [some (.ref 355), some (.int x1), some (.int x2), some (.int x3)] [] g (fun v g' => ∃ r : Int32, v = some (.int r) ∧ 0 ≤ r.toInt ∧ r.toInt ≤ 10 ∧ g = g' ∧ (r.toInt = vum (Gi g 366) (Int.toNat (y1)) + 1))) := by
  intro n
  induction n with
  | zero => exact fun V x1 y1 hx1 hf1 x2 y2 hx2 hf2 x3 y3 hx3 hf3 hq0 hq1 hq2 hq3 hmu => absurd hmu (by omega)
  | succ n ih => exact fun V x1 y1 hx1 hf1 x2 y2 hx2 hf2 x3 y3 hx3 hf3 hq0 hq1 hq2 hq3 hmu => C_X13_unlikeB_4  V x1 y1 hx1 hf1 x2 y2 hx2 hf2 x3 y3 hx3 hf3 hq0 hq1 hq2 hq3 (by omega) ih
set_option maxRecDepth 10000 in
set_option maxHeartbeats 40000000 in
theorem C_X13_unlikeB {P : Par} {g : LH} {d : Nat}  (V : InvR P g) (x1 : Int32) (y1 : Int) (hx1 : x1.toInt = y1) (hf1 : 0 ≤ y1 ∧ y1 ≤ 6) (hq0 : vsR (Gi g 366) (y1))  : LW 298 (d + 4) 0 0 0 (lEnt (mL 298) [.ref 355, .int x1]) [] g (fun v g' => ∃ r : Int32, v = some (.int r) ∧ 0 ≤ r.toInt ∧ r.toInt ≤ 10 ∧ g = g' ∧ (r.toInt = vum (Gi g 366) (Int.toNat (y1)) + 1)) := by
  refine LW_ls (ls' := [some (.ref 355), some (.int x1), none, none]) rfl ?_
  refine X_iconst (v := (-1 : Int32)) rfl rfl rfl ?_
  refine X_istore_n (i := 2) (ls' := [some (.ref 355), some (.int x1), some (.int (-1 : Int32)), none]) rfl rfl rfl (Nat.le_of_ble_eq_true rfl) rfl ?_
  refine X_iconst (v := (0 : Int32)) rfl rfl rfl ?_
  refine X_istore_n (i := 3) (ls' := [some (.ref 355), some (.int x1), some (.int (-1 : Int32)), some (.int (0 : Int32))]) rfl rfl rfl (Nat.le_of_ble_eq_true rfl) rfl ?_
  exact (C_X13_unlikeB_all (((6 - 0) * 1 + 0) + 1 : Int).toNat) V x1 y1 hx1 (by omega) (-1 : Int32) (-1) (show (-1 : Int32).toInt = -1 from rfl) (by omega) (0 : Int32) 0 (show (0 : Int32).toInt = 0 from rfl) (by omega)  (by omega) (by omega) (hq0) (rfl)  (by omega)
set_option maxRecDepth 10000 in
set_option maxHeartbeats 40000000 in
theorem C_X13_nextSigns_4 {P : Par} {g g0 : LH} {d n : Nat}  (V : InvR P g) (hG : Gr g = Gr g0) (hA : (∀ q k, q ≠ 366 → Gi g q k = Gi g0 q k)) (x1 : Int32) (y1 : Int) (hx1 : x1.toInt = y1) (hf1 : 1 ≤ y1 ∧ y1 ≤ 6) (x2 : Int32) (y2 : Int) (hx2 : x2.toInt = y2) (hf2 : 0 ≤ y2 ∧ y2 ≤ 5) (o3 : Option Value) (hq0 : y2 < y1) (hq1 : vsR (Gi g 366) (y1)) (hq2 : Gi g 366 = Gi g0 366) (hmu : (y2 - 0) * 1 + 6 < (n : Int) + 1) (ih4 : ∀ (g : LH) (V : InvR P g) (hG : Gr g = Gr g0) (hA : (∀ q k, q ≠ 366 → Gi g q k = Gi g0 q k)) (x1 : Int32) (y1 : Int) (hx1 : x1.toInt = y1) (hf1 : 1 ≤ y1 ∧ y1 ≤ 6) (x2 : Int32) (y2 : Int) (hx2 : x2.toInt = y2) (hf2 : 0 ≤ y2 ∧ y2 ≤ 5) (o3 : Option Value) (hq0 : y2 < y1) (hq1 : vsR (Gi g 366) (y1)) (hq2 : Gi g 366 = Gi g0 366), (y2 - 0) * 1 + 6 < (n : Int) → LW 299 (d + 10) 0 0 4 [some (.ref 355), some (.int x1), some (.int x2), o3] [] g (fun v g' => ∃ r : Int32, v = some (.int r) ∧ 0 ≤ r.toInt ∧ r.toInt ≤ 1 ∧ InvR P g' ∧ Gr g' = Gr g0 ∧ (∀ q k, q ≠ 366 → Gi g' q k = Gi g0 q k) ∧ (vsT (Gi g' 366) (Gi g0 366) (y1) r.toInt))) (ih48 : ∀ (g : LH) (V : InvR P g) (hG : Gr g = Gr g0) (hA : (∀ q k, q ≠ 366 → Gi g q k = Gi g0 q k)) (x1 : Int32) (y1 : Int) (hx1 : x1.toInt = y1) (hf1 : 1 ≤ y1 ∧ y1 ≤ 6) (x2 : Int32) (y2 : Int) (hx2 : x2.toInt = y2) (hf2 : 1 ≤ y2 ∧ y2 ≤ 5) (x3 : Int32) (y3 : Int) (hx3 : x3.toInt = y3) (hf3 : 2 ≤ y3 ∧ y3 ≤ 6) (hq0 : 0 ≤ y2 ∧ y2 < y3) (hq1 : y3 ≤ y1) (hq2 : vsN (Gi g 366) (Gi g0 366) (y2) (y3)), (6 - y3) * 1 + 0 < (n : Int) → LW 299 (d + 10) 0 0 48 [some (.ref 355), some (.int x1), some (.int x2), some (.int x3)] [] g (fun v g' => ∃ r : Int32, v = some (.int r) ∧ 0 ≤ r.toInt ∧ r.toInt ≤ 1 ∧ InvR P g' ∧ Gr g' = Gr g0 ∧ (∀ q k, q ≠ 366 → Gi g' q k = Gi g0 q k) ∧ (vsT (Gi g' 366) (Gi g0 366) (y1) r.toInt))) : LW 299 (d + 10) 0 0 4 [some (.ref 355), some (.int x1), some (.int x2), o3] [] g (fun v g' => ∃ r : Int32, v = some (.int r) ∧ 0 ≤ r.toInt ∧ r.toInt ≤ 1 ∧ InvR P g' ∧ Gr g' = Gr g0 ∧ (∀ q k, q ≠ 366 → Gi g' q k = Gi g0 q k) ∧ (vsT (Gi g' 366) (Gi g0 366) (y1) r.toInt)) := by
  refine X_iload_n rfl rfl rfl rfl ?_
  refine S_if_le (tgt := 28) rfl rfl rfl hx2 (fun vh1 => ?_) (fun vh1 => ?_)
  · refine X_iload_n rfl rfl rfl rfl ?_
    refine S_if_gt (tgt := 34) rfl rfl rfl hx2 (fun q => absurd q (by omega)) (fun vh2 => ?_)
    refine X_iconst (v := (0 : Int32)) rfl rfl rfl ?_
    exact LW_ireturn (st := []) rfl rfl rfl ⟨_, rfl, by decide, by decide, V, hG, hA, (by
          exact fun q => absurd q (by decide))⟩
  · refine X_aload_n rfl rfl rfl rfl ?_
    refine X_getR (a := 366) rfl rfl rfl ((congrFun V.1 355).trans s_355) rfl ((congrFun (V.2.1 355 (by decide)) 29).trans r_355_29) ?_
    refine X_iload_n rfl rfl rfl rfl ?_
    refine S_iald rfl rfl ((congrFun V.1 366).trans s_366) hx2 (by omega) (fun vz3 evz3 => ?_)
    have vf4 : 0 ≤ (Gi g 366 ((y2 : Int).toNat)).toInt ∧ (Gi g 366 ((y2 : Int).toNat)).toInt ≤ y2 := (by
          have vh := hq1 (Int.toNat y2) (by omega)
          have vhb := vum_le hq1 (Int.toNat y2) (by omega)
          omega)
    rw [evz3] at vf4
    refine X_aload_n rfl rfl rfl rfl ?_
    refine X_iload_n rfl rfl rfl rfl ?_
    refine Y_callV (as := [.int x2]) (st := [.int vz3]) rfl rfl rfl (by decide) rfl (Nat.le_of_ble_eq_true rfl) (by decide) (Nat.le_of_ble_eq_true rfl) rfl ((congrFun V.1 355).trans s_355) (by decide) (C_X13_unlikeB V x2 y2 hx2 (by omega) (by
          exact fun k hk => hq1 k (by omega))) ?_
    rintro _ g' ⟨vr5, rfl, hrvr50, hrvr51, hgg, vq6⟩
    subst hgg
    refine S_icmp_ne (tgt := 28) rfl rfl rfl rfl rfl (fun vh7 => ?_) (fun vh7 => ?_)
    · refine X_iload_n rfl rfl rfl rfl ?_
      refine S_if_gt (tgt := 34) rfl rfl rfl hx2 (fun vh8 => ?_) (fun q => absurd q (by omega))
      refine X_aload_n rfl rfl rfl rfl ?_
      refine X_getR (a := 366) rfl rfl rfl ((congrFun V.1 355).trans s_355) rfl ((congrFun (V.2.1 355 (by decide)) 29).trans r_355_29) ?_
      refine X_iload_n rfl rfl rfl rfl ?_
      refine X_dup2 rfl rfl rfl rfl ?_
      refine S_iald_v rfl rfl ((congrFun V.1 366).trans s_366) hx2 (by omega) evz3 ?_
      refine X_iconst (v := (1 : Int32)) rfl rfl rfl ?_
      refine S_iadd rfl rfl rfl (show (1 : Int32).toInt = 1 from rfl) (by omega) (fun vz10 hvz10 => ?_)
      refine S_iast (I := InvR _) rfl rfl ((congrFun V.1 366).trans s_366) hx2 (by omega) (InvR_putO V (by decide) trivial) (fun g V ve11 vn12 hq => ?_)
      have hG := hq.trans hG
      have hA := fun q' k' (vh' : q' ≠ 366) => (vn12 q' k' (Or.inl vh')).trans (hA q' k' vh')
      refine X_iload_n rfl rfl rfl rfl ?_
      refine X_iconst (v := (1 : Int32)) rfl rfl rfl ?_
      refine S_iadd rfl rfl hx2 (show (1 : Int32).toInt = 1 from rfl) (by omega) (fun vz13 hvz13 => ?_)
      refine X_istore_n (i := 3) (ls' := [some (.ref 355), some (.int x1), some (.int x2), some (.int vz13)]) rfl rfl rfl (Nat.le_of_ble_eq_true rfl) rfl ?_
      exact ih48 _ V hG hA x1 y1 hx1 (by omega) x2 y2 hx2 (by omega) vz13 vz13.toInt rfl (by omega)  (by omega) (by omega) (by
            refine vsN.put hq1 hq2 (by omega) (fun i hi => vn12 366 i (Or.inr hi)) (by rw [ve11, evz3]; omega) ?_
            have vh := hq1 (Int.toNat y2) (by omega)
            rw [evz3] at vh ⊢
            omega)  (by omega)
    · refine S_iinc (c := (-1)) rfl rfl rfl hx2 rfl (by omega) (fun vz14 hvz14 => ?_)
      refine LW_ls (ls' := [some (.ref 355), some (.int x1), some (.int vz14), o3]) rfl ?_
      refine LW_goto (tgt := 4) rfl rfl ?_
      exact ih4 _ V hG hA x1 y1 hx1 (by omega) vz14 vz14.toInt rfl (by omega) o3  (by omega) (hq1) (hq2)  (by omega)
set_option maxRecDepth 10000 in
set_option maxHeartbeats 40000000 in
theorem C_X13_nextSigns_48 {P : Par} {g g0 : LH} {d n : Nat}  (V : InvR P g) (hG : Gr g = Gr g0) (hA : (∀ q k, q ≠ 366 → Gi g q k = Gi g0 q k)) (x1 : Int32) (y1 : Int) (hx1 : x1.toInt = y1) (hf1 : 1 ≤ y1 ∧ y1 ≤ 6) (x2 : Int32) (y2 : Int) (hx2 : x2.toInt = y2) (hf2 : 1 ≤ y2 ∧ y2 ≤ 5) (x3 : Int32) (y3 : Int) (hx3 : x3.toInt = y3) (hf3 : 2 ≤ y3 ∧ y3 ≤ 6) (hq0 : 0 ≤ y2 ∧ y2 < y3) (hq1 : y3 ≤ y1) (hq2 : vsN (Gi g 366) (Gi g0 366) (y2) (y3)) (hmu : (6 - y3) * 1 + 0 < (n : Int) + 1) (ih4 : ∀ (g : LH) (V : InvR P g) (hG : Gr g = Gr g0) (hA : (∀ q k, q ≠ 366 → Gi g q k = Gi g0 q k)) (x1 : Int32) (y1 : Int) (hx1 : x1.toInt = y1) (hf1 : 1 ≤ y1 ∧ y1 ≤ 6) (x2 : Int32) (y2 : Int) (hx2 : x2.toInt = y2) (hf2 : 0 ≤ y2 ∧ y2 ≤ 5) (o3 : Option Value) (hq0 : y2 < y1) (hq1 : vsR (Gi g 366) (y1)) (hq2 : Gi g 366 = Gi g0 366), (y2 - 0) * 1 + 6 < (n : Int) → LW 299 (d + 10) 0 0 4 [some (.ref 355), some (.int x1), some (.int x2), o3] [] g (fun v g' => ∃ r : Int32, v = some (.int r) ∧ 0 ≤ r.toInt ∧ r.toInt ≤ 1 ∧ InvR P g' ∧ Gr g' = Gr g0 ∧ (∀ q k, q ≠ 366 → Gi g' q k = Gi g0 q k) ∧ (vsT (Gi g' 366) (Gi g0 366) (y1) r.toInt))) (ih48 : ∀ (g : LH) (V : InvR P g) (hG : Gr g = Gr g0) (hA : (∀ q k, q ≠ 366 → Gi g q k = Gi g0 q k)) (x1 : Int32) (y1 : Int) (hx1 : x1.toInt = y1) (hf1 : 1 ≤ y1 ∧ y1 ≤ 6) (x2 : Int32) (y2 : Int) (hx2 : x2.toInt = y2) (hf2 : 1 ≤ y2 ∧ y2 ≤ 5) (x3 : Int32) (y3 : Int) (hx3 : x3.toInt = y3) (hf3 : 2 ≤ y3 ∧ y3 ≤ 6) (hq0 : 0 ≤ y2 ∧ y2 < y3) (hq1 : y3 ≤ y1) (hq2 : vsN (Gi g 366) (Gi g0 366) (y2) (y3)), (6 - y3) * 1 + 0 < (n : Int) → LW 299 (d + 10) 0 0 48 [some (.ref 355), some (.int x1), some (.int x2), some (.int x3)] [] g (fun v g' => ∃ r : Int32, v = some (.int r) ∧ 0 ≤ r.toInt ∧ r.toInt ≤ 1 ∧ InvR P g' ∧ Gr g' = Gr g0 ∧ (∀ q k, q ≠ 366 → Gi g' q k = Gi g0 q k) ∧ (vsT (Gi g' 366) (Gi g0 366) (y1) r.toInt))) : LW 299 (d + 10) 0 0 48 [some (.ref 355), some (.int x1), some (.int x2), some (.int x3)] [] g (fun v g' => ∃ r : Int32, v = some (.int r) ∧ 0 ≤ r.toInt ∧ r.toInt ≤ 1 ∧ InvR P g' ∧ Gr g' = Gr g0 ∧ (∀ q k, q ≠ 366 → Gi g' q k = Gi g0 q k) ∧ (vsT (Gi g' 366) (Gi g0 366) (y1) r.toInt)) := by
  refine X_iload_n rfl rfl rfl rfl ?_
  refine X_iload_n rfl rfl rfl rfl ?_
  refine S_icmp_ge (tgt := 66) rfl rfl rfl hx3 hx1 (fun vh1 => ?_) (fun vh1 => ?_)
  · refine X_iconst (v := (1 : Int32)) rfl rfl rfl ?_
    exact LW_ireturn (st := []) rfl rfl rfl ⟨_, rfl, by decide, by decide, V, hG, hA, (by
          exact fun _ => vsN.res hq2 (by omega))⟩
  · refine X_aload_n rfl rfl rfl rfl ?_
    refine X_getR (a := 366) rfl rfl rfl ((congrFun V.1 355).trans s_355) rfl ((congrFun (V.2.1 355 (by decide)) 29).trans r_355_29) ?_
    refine X_iload_n rfl rfl rfl rfl ?_
    refine X_iconst (v := (0 : Int32)) rfl rfl rfl ?_
    refine S_iast (I := InvR _) rfl rfl ((congrFun V.1 366).trans s_366) hx3 (by omega) (InvR_putO V (by decide) trivial) (fun g V ve2 vn3 hq => ?_)
    have hG := hq.trans hG
    have hA := fun q' k' (vh' : q' ≠ 366) => (vn3 q' k' (Or.inl vh')).trans (hA q' k' vh')
    refine S_iinc (c := 1) rfl rfl rfl hx3 rfl (by omega) (fun vz4 hvz4 => ?_)
    refine LW_ls (ls' := [some (.ref 355), some (.int x1), some (.int x2), some (.int vz4)]) rfl ?_
    refine LW_goto (tgt := 48) rfl rfl ?_
    exact ih48 _ V hG hA x1 y1 hx1 (by omega) x2 y2 hx2 (by omega) vz4 vz4.toInt rfl (by omega)  (by omega) (by omega) (by
          exact vsN.zero hq2 (by omega) (fun i hi => vn3 366 i (Or.inr hi)) ve2)  (by omega)
theorem C_X13_nextSigns_all {P : Par} {g0 : LH} {d : Nat}  : ∀ n : Nat, (∀ (g : LH) (V : InvR P g) (hG : Gr g = Gr g0) (hA : (∀ q k, q ≠ 366 → Gi g q k = Gi g0 q k)) (x1 : Int32) (y1 : Int) (hx1 : x1.toInt = y1) (hf1 : 1 ≤ y1 ∧ y1 ≤ 6) (x2 : Int32) (y2 : Int) (hx2 : x2.toInt = y2) (hf2 : 0 ≤ y2 ∧ y2 ≤ 5) (o3 : Option Value) (hq0 : y2 < y1) (hq1 : vsR (Gi g 366) (y1)) (hq2 : Gi g 366 = Gi g0 366), (y2 - 0) * 1 + 6 < (n : Int) → LW 299 (d + 10) 0 0 4 [some (.ref 355), some (.int x1), some (.int x2), o3] [] g (fun v g' => ∃ r : Int32, v = some (.int r) ∧ 0 ≤ r.toInt ∧ r.toInt ≤ 1 ∧ InvR P g' ∧ Gr g' = Gr g0 ∧ (∀ q k, q ≠ 366 → Gi g' q k = Gi g0 q k) ∧ (vsT (Gi g' 366) (Gi g0 366) (y1) r.toInt))) ∧ (∀ (g : LH) (V : InvR P g) (hG : Gr g = Gr g0) (hA : (∀ q k, q ≠ 366 → Gi g q k = Gi g0 q k)) (x1 : Int32) (y1 : Int) (hx1 : x1.toInt = y1) (hf1 : 1 ≤ y1 ∧ y1 ≤ 6) (x2 : Int32) (y2 : Int) (hx2 : x2.toInt = y2) (hf2 : 1 ≤ y2 ∧ y2 ≤ 5) (x3 : Int32) (y3 : Int) (hx3 : x3.toInt = y3) (hf3 : 2 ≤ y3 ∧ y3 ≤ 6) (hq0 : 0 ≤ y2 ∧ y2 < y3) (hq1 : y3 ≤ y1) (hq2 : vsN (Gi g 366) (Gi g0 366) (y2) (y3)), (6 - y3) * 1 + 0 < (n : Int) → LW 299 (d + 10) 0 0 48 [some (.ref 355), some (.int x1), some (.int x2), some (.int x3)] [] g (fun v g' => ∃ r : Int32, v = some (.int r) ∧ 0 ≤ r.toInt ∧ r.toInt ≤ 1 ∧ InvR P g' ∧ Gr g' = Gr g0 ∧ (∀ q k, q ≠ 366 → Gi g' q k = Gi g0 q k) ∧ (vsT (Gi g' 366) (Gi g0 366) (y1) r.toInt))) := by
  intro n
  induction n with
  | zero => exact ⟨fun g V hG hA x1 y1 hx1 hf1 x2 y2 hx2 hf2 o3 hq0 hq1 hq2 hmu => absurd hmu (by omega), fun g V hG hA x1 y1 hx1 hf1 x2 y2 hx2 hf2 x3 y3 hx3 hf3 hq0 hq1 hq2 hmu => absurd hmu (by omega)⟩
  | succ n ih => exact ⟨fun g V hG hA x1 y1 hx1 hf1 x2 y2 hx2 hf2 o3 hq0 hq1 hq2 hmu => C_X13_nextSigns_4  V hG hA x1 y1 hx1 hf1 x2 y2 hx2 hf2 o3 hq0 hq1 hq2 (by omega) ih.1 ih.2, fun g V hG hA x1 y1 hx1 hf1 x2 y2 hx2 hf2 x3 y3 hx3 hf3 hq0 hq1 hq2 hmu => C_X13_nextSigns_48  V hG hA x1 y1 hx1 hf1 x2 y2 hx2 hf2 x3 y3 hx3 hf3 hq0 hq1 hq2 (by omega) ih.1 ih.2⟩
set_option maxRecDepth 10000 in
set_option maxHeartbeats 40000000 in
theorem C_X13_nextSigns {P : Par} {g : LH} {d : Nat}  (V : InvR P g) (x1 : Int32) (y1 : Int) (hx1 : x1.toInt = y1) (hf1 : 1 ≤ y1 ∧ y1 ≤ 6) (hq0 : vsR (Gi g 366) (y1))  : LW 299 (d + 10) 0 0 0 (lEnt (mL 299) [.ref 355, .int x1]) [] g (fun v g' => ∃ r : Int32, v = some (.int r) ∧ 0 ≤ r.toInt ∧ r.toInt ≤ 1 ∧ InvR P g' ∧ Gr g' = Gr g ∧ (∀ q k, q ≠ 366 → Gi g' q k = Gi g q k) ∧ (vsT (Gi g' 366) (Gi g 366) (y1) r.toInt)) := by
  refine LW_ls (ls' := [some (.ref 355), some (.int x1), none, none]) rfl ?_
  have hG : Gr g = Gr g := rfl
  have hA : (∀ q k, q ≠ 366 → Gi g q k = Gi g q k) := fun _ _ _ => rfl
  refine X_iload_n rfl rfl rfl rfl ?_
  refine X_iconst (v := (1 : Int32)) rfl rfl rfl ?_
  refine S_isub rfl rfl hx1 (show (1 : Int32).toInt = 1 from rfl) (by omega) (fun vz1 hvz1 => ?_)
  refine X_istore_n (i := 2) (ls' := [some (.ref 355), some (.int x1), some (.int vz1), none]) rfl rfl rfl (Nat.le_of_ble_eq_true rfl) rfl ?_
  exact (C_X13_nextSigns_all (((vz1.toInt - 0) * 1 + 6) + 1 : Int).toNat).1 _ V hG hA x1 y1 hx1 (by omega) vz1 vz1.toInt rfl (by omega) none  (by omega) (hq0) (rfl)  (by omega)
set_option maxRecDepth 10000 in
set_option maxHeartbeats 40000000 in
theorem C_X13_areEnough_2 {P : Par} {g g0 : LH} {d n : Nat}  (V : InvR P g) (hG : Gr g = Gr g0) (x1 : Int32) (y1 : Int) (hx1 : x1.toInt = y1) (hf1 : 1 ≤ y1 ∧ y1 ≤ 6) (x2 : Int32) (y2 : Int) (hx2 : x2.toInt = y2) (hf2 : 1 ≤ y2 ∧ y2 ≤ 6) (x3 : Int32) (y3 : Int) (hx3 : x3.toInt = y3) (hf3 : 0 ≤ y3 ∧ y3 ≤ 6) (o4 : Option Value) (hq0 : ∀ k : Nat, ↑k < y3 → (Gi g 366 k).toInt = 0) (hq1 : y3 ≤ y1) (hmu : (6 - y3) * 1 + 687194767381 < (n : Int) + 1) (ih2 : ∀ (g : LH) (V : InvR P g) (hG : Gr g = Gr g0) (x1 : Int32) (y1 : Int) (hx1 : x1.toInt = y1) (hf1 : 1 ≤ y1 ∧ y1 ≤ 6) (x2 : Int32) (y2 : Int) (hx2 : x2.toInt = y2) (hf2 : 1 ≤ y2 ∧ y2 ≤ 6) (x3 : Int32) (y3 : Int) (hx3 : x3.toInt = y3) (hf3 : 0 ≤ y3 ∧ y3 ≤ 6) (o4 : Option Value) (hq0 : ∀ k : Nat, ↑k < y3 → (Gi g 366 k).toInt = 0) (hq1 : y3 ≤ y1), (6 - y3) * 1 + 687194767381 < (n : Int) → LW 300 (d + 30) 0 0 2 [some (.ref 355), some (.int x1), some (.int x2), some (.int x3), o4] [] g (fun v g' => ∃ r : Int32, v = some (.int r) ∧ 0 ≤ r.toInt ∧ r.toInt ≤ 1 ∧ InvR P g' ∧ Gr g' = Gr g0)) (ih22 : ∀ (g : LH) (V : InvR P g) (hG : Gr g = Gr g0) (x1 : Int32) (y1 : Int) (hx1 : x1.toInt = y1) (hf1 : 1 ≤ y1 ∧ y1 ≤ 6) (x2 : Int32) (y2 : Int) (hx2 : x2.toInt = y2) (hf2 : 1 ≤ y2 ∧ y2 ≤ 6) (x3 : Int32) (y3 : Int) (hx3 : x3.toInt = y3) (hf3 : 0 ≤ y3 ∧ y3 ≤ 1) (o4 : Option Value) (hq0 : y3 = 1 → vsR (Gi g 366) (y1)), vsL (Gi g 366) (y1) (y3) * 10 + 9 < (n : Int) → LW 300 (d + 30) 0 0 22 [some (.ref 355), some (.int x1), some (.int x2), some (.int x3), o4] [] g (fun v g' => ∃ r : Int32, v = some (.int r) ∧ 0 ≤ r.toInt ∧ r.toInt ≤ 1 ∧ InvR P g' ∧ Gr g' = Gr g0)) (ih38 : ∀ (g : LH) (V : InvR P g) (hG : Gr g = Gr g0) (x1 : Int32) (y1 : Int) (hx1 : x1.toInt = y1) (hf1 : 1 ≤ y1 ∧ y1 ≤ 6) (x2 : Int32) (y2 : Int) (hx2 : x2.toInt = y2) (hf2 : 1 ≤ y2 ∧ y2 ≤ 6) (x3 : Int32) (y3 : Int) (hx3 : x3.toInt = y3) (hf3 : 1 ≤ y3 ∧ y3 ≤ 1) (x4 : Int32) (y4 : Int) (hx4 : x4.toInt = y4) (hf4 : 0 ≤ y4 ∧ y4 ≤ 6) (hq0 : y3 = 1) (hq1 : vsR (Gi g 366) (y1)), vsL (Gi g 366) (y1) (y3) * 10 + 0 + (6 - y4) * 1 + 0 < (n : Int) → LW 300 (d + 30) 0 0 38 [some (.ref 355), some (.int x1), some (.int x2), some (.int x3), some (.int x4)] [] g (fun v g' => ∃ r : Int32, v = some (.int r) ∧ 0 ≤ r.toInt ∧ r.toInt ≤ 1 ∧ InvR P g' ∧ Gr g' = Gr g0)) : LW 300 (d + 30) 0 0 2 [some (.ref 355), some (.int x1), some (.int x2), some (.int x3), o4] [] g (fun v g' => ∃ r : Int32, v = some (.int r) ∧ 0 ≤ r.toInt ∧ r.toInt ≤ 1 ∧ InvR P g' ∧ Gr g' = Gr g0) := by
  refine X_iload_n rfl rfl rfl rfl ?_
  refine X_iload_n rfl rfl rfl rfl ?_
  refine S_icmp_ge (tgt := 20) rfl rfl rfl hx3 hx1 (fun vh1 => ?_) (fun vh1 => ?_)
  · refine X_iconst (v := (1 : Int32)) rfl rfl rfl ?_
    refine X_istore_n (i := 3) (ls' := [some (.ref 355), some (.int x1), some (.int x2), some (.int (1 : Int32)), o4]) rfl rfl rfl (Nat.le_of_ble_eq_true rfl) rfl ?_
    have vwb := vsL_le (f := Gi g 366) (n := y1) (by omega) (vsR.zero (fun k hk => hq0 k (by omega)))
    exact ih22 _ V hG x1 y1 hx1 (by omega) x2 y2 hx2 (by omega) (1 : Int32) 1 (show (1 : Int32).toInt = 1 from rfl) (by omega) o4  (by
          exact fun _ => vsR.zero (fun k hk => hq0 k (by omega)))  (by omega)
  · refine X_aload_n rfl rfl rfl rfl ?_
    refine X_getR (a := 366) rfl rfl rfl ((congrFun V.1 355).trans s_355) rfl ((congrFun (V.2.1 355 (by decide)) 29).trans r_355_29) ?_
    refine X_iload_n rfl rfl rfl rfl ?_
    refine X_iconst (v := (0 : Int32)) rfl rfl rfl ?_
    refine S_iast (I := InvR _) rfl rfl ((congrFun V.1 366).trans s_366) hx3 (by omega) (InvR_putO V (by decide) trivial) (fun g V ve2 vn3 hq => ?_)
    have hG := hq.trans hG
    refine S_iinc (c := 1) rfl rfl rfl hx3 rfl (by omega) (fun vz4 hvz4 => ?_)
    refine LW_ls (ls' := [some (.ref 355), some (.int x1), some (.int x2), some (.int vz4), o4]) rfl ?_
    refine LW_goto (tgt := 2) rfl rfl ?_
    exact ih2 _ V hG x1 y1 hx1 (by omega) x2 y2 hx2 (by omega) vz4 vz4.toInt rfl (by omega) o4  (by
          intro k hk
          by_cases hk2 : k = Int.toNat y3
          · subst hk2
            rw [ve2]
            rfl
          · rw [vn3 366 k (Or.inr hk2)]
            exact hq0 k (by omega)) (by omega)  (by omega)
set_option maxRecDepth 10000 in
set_option maxHeartbeats 40000000 in
theorem C_X13_areEnough_22 {P : Par} {g g0 : LH} {d n : Nat}  (V : InvR P g) (hG : Gr g = Gr g0) (x1 : Int32) (y1 : Int) (hx1 : x1.toInt = y1) (hf1 : 1 ≤ y1 ∧ y1 ≤ 6) (x2 : Int32) (y2 : Int) (hx2 : x2.toInt = y2) (hf2 : 1 ≤ y2 ∧ y2 ≤ 6) (x3 : Int32) (y3 : Int) (hx3 : x3.toInt = y3) (hf3 : 0 ≤ y3 ∧ y3 ≤ 1) (o4 : Option Value) (hq0 : y3 = 1 → vsR (Gi g 366) (y1)) (hmu : vsL (Gi g 366) (y1) (y3) * 10 + 9 < (n : Int) + 1) (ih2 : ∀ (g : LH) (V : InvR P g) (hG : Gr g = Gr g0) (x1 : Int32) (y1 : Int) (hx1 : x1.toInt = y1) (hf1 : 1 ≤ y1 ∧ y1 ≤ 6) (x2 : Int32) (y2 : Int) (hx2 : x2.toInt = y2) (hf2 : 1 ≤ y2 ∧ y2 ≤ 6) (x3 : Int32) (y3 : Int) (hx3 : x3.toInt = y3) (hf3 : 0 ≤ y3 ∧ y3 ≤ 6) (o4 : Option Value) (hq0 : ∀ k : Nat, ↑k < y3 → (Gi g 366 k).toInt = 0) (hq1 : y3 ≤ y1), (6 - y3) * 1 + 687194767381 < (n : Int) → LW 300 (d + 30) 0 0 2 [some (.ref 355), some (.int x1), some (.int x2), some (.int x3), o4] [] g (fun v g' => ∃ r : Int32, v = some (.int r) ∧ 0 ≤ r.toInt ∧ r.toInt ≤ 1 ∧ InvR P g' ∧ Gr g' = Gr g0)) (ih22 : ∀ (g : LH) (V : InvR P g) (hG : Gr g = Gr g0) (x1 : Int32) (y1 : Int) (hx1 : x1.toInt = y1) (hf1 : 1 ≤ y1 ∧ y1 ≤ 6) (x2 : Int32) (y2 : Int) (hx2 : x2.toInt = y2) (hf2 : 1 ≤ y2 ∧ y2 ≤ 6) (x3 : Int32) (y3 : Int) (hx3 : x3.toInt = y3) (hf3 : 0 ≤ y3 ∧ y3 ≤ 1) (o4 : Option Value) (hq0 : y3 = 1 → vsR (Gi g 366) (y1)), vsL (Gi g 366) (y1) (y3) * 10 + 9 < (n : Int) → LW 300 (d + 30) 0 0 22 [some (.ref 355), some (.int x1), some (.int x2), some (.int x3), o4] [] g (fun v g' => ∃ r : Int32, v = some (.int r) ∧ 0 ≤ r.toInt ∧ r.toInt ≤ 1 ∧ InvR P g' ∧ Gr g' = Gr g0)) (ih38 : ∀ (g : LH) (V : InvR P g) (hG : Gr g = Gr g0) (x1 : Int32) (y1 : Int) (hx1 : x1.toInt = y1) (hf1 : 1 ≤ y1 ∧ y1 ≤ 6) (x2 : Int32) (y2 : Int) (hx2 : x2.toInt = y2) (hf2 : 1 ≤ y2 ∧ y2 ≤ 6) (x3 : Int32) (y3 : Int) (hx3 : x3.toInt = y3) (hf3 : 1 ≤ y3 ∧ y3 ≤ 1) (x4 : Int32) (y4 : Int) (hx4 : x4.toInt = y4) (hf4 : 0 ≤ y4 ∧ y4 ≤ 6) (hq0 : y3 = 1) (hq1 : vsR (Gi g 366) (y1)), vsL (Gi g 366) (y1) (y3) * 10 + 0 + (6 - y4) * 1 + 0 < (n : Int) → LW 300 (d + 30) 0 0 38 [some (.ref 355), some (.int x1), some (.int x2), some (.int x3), some (.int x4)] [] g (fun v g' => ∃ r : Int32, v = some (.int r) ∧ 0 ≤ r.toInt ∧ r.toInt ≤ 1 ∧ InvR P g' ∧ Gr g' = Gr g0)) : LW 300 (d + 30) 0 0 22 [some (.ref 355), some (.int x1), some (.int x2), some (.int x3), o4] [] g (fun v g' => ∃ r : Int32, v = some (.int r) ∧ 0 ≤ r.toInt ∧ r.toInt ≤ 1 ∧ InvR P g' ∧ Gr g' = Gr g0) := by
  refine X_iload_n rfl rfl rfl rfl ?_
  refine S_if_eq (tgt := 87) rfl rfl rfl hx3 (fun vh1 => ?_) (fun vh1 => ?_)
  · refine X_iconst (v := (0 : Int32)) rfl rfl rfl ?_
    exact LW_ireturn (st := []) rfl rfl rfl ⟨_, rfl, by decide, by decide, V, hG⟩
  · refine X_aload_n rfl rfl rfl rfl ?_
    refine X_iload_n rfl rfl rfl rfl ?_
    refine Y_callV (as := [.int x1]) (st := []) rfl rfl rfl (by decide) rfl (Nat.le_of_ble_eq_true rfl) (by decide) (Nat.le_of_ble_eq_true rfl) rfl ((congrFun V.1 355).trans s_355) (by decide) (C_X13_unlikeB V x1 y1 hx1 (by omega) (by
          exact hq0 (by omega))) ?_
    rintro _ g' ⟨vr2, rfl, hrvr20, hrvr21, hgg, vq3⟩
    subst hgg
    refine X_iload_n rfl rfl rfl rfl ?_
    refine S_icmp_ne (tgt := 78) rfl rfl rfl rfl hx2 (fun vh4 => ?_) (fun vh4 => ?_)
    · refine X_aload_n rfl rfl rfl rfl ?_
      refine X_iload_n rfl rfl rfl rfl ?_
      refine Y_callV (as := [.int x1]) (st := []) rfl rfl rfl (by decide) rfl (Nat.le_of_ble_eq_true rfl) (by decide) (Nat.le_of_ble_eq_true rfl) rfl ((congrFun V.1 355).trans s_355) (by decide) (C_X13_nextSigns V x1 y1 hx1 (by omega) (by
            exact hq0 (by omega))) ?_
      rintro _ g ⟨vr5, rfl, hrvr50, hrvr51, V, hq, chA, vq6⟩
      have hG := hq.trans hG
      have vwk := vsL_lt vq6 (by omega)
      (try rw [show y3 = 1 by omega] at hmu)
      refine X_istore_n (i := 3) (ls' := [some (.ref 355), some (.int x1), some (.int x2), some (.int vr5), o4]) rfl rfl rfl (Nat.le_of_ble_eq_true rfl) rfl ?_
      refine LW_goto (tgt := 22) rfl rfl ?_
      exact ih22 _ V hG x1 y1 hx1 (by omega) x2 y2 hx2 (by omega) vr5 vr5.toInt rfl (by omega) o4  (by
            exact fun vh => (vq6 vh).1)  (by omega)
    · refine X_iconst (v := (0 : Int32)) rfl rfl rfl ?_
      refine X_istore (i := 4) (ls' := [some (.ref 355), some (.int x1), some (.int x2), some (.int x3), some (.int (0 : Int32))]) rfl rfl (Nat.le_of_ble_eq_true rfl) rfl ?_
      exact ih38 _ V hG x1 y1 hx1 (by omega) x2 y2 hx2 (by omega) x3 y3 hx3 (by omega) (0 : Int32) 0 (show (0 : Int32).toInt = 0 from rfl) (by omega)  (by omega) (by
            exact hq0 (by omega))  (by omega)
set_option maxRecDepth 10000 in
set_option maxHeartbeats 40000000 in
theorem C_X13_areEnough_38 {P : Par} {g g0 : LH} {d n : Nat}  (V : InvR P g) (hG : Gr g = Gr g0) (x1 : Int32) (y1 : Int) (hx1 : x1.toInt = y1) (hf1 : 1 ≤ y1 ∧ y1 ≤ 6) (x2 : Int32) (y2 : Int) (hx2 : x2.toInt = y2) (hf2 : 1 ≤ y2 ∧ y2 ≤ 6) (x3 : Int32) (y3 : Int) (hx3 : x3.toInt = y3) (hf3 : 1 ≤ y3 ∧ y3 ≤ 1) (x4 : Int32) (y4 : Int) (hx4 : x4.toInt = y4) (hf4 : 0 ≤ y4 ∧ y4 ≤ 6) (hq0 : y3 = 1) (hq1 : vsR (Gi g 366) (y1)) (hmu : vsL (Gi g 366) (y1) (y3) * 10 + 0 + (6 - y4) * 1 + 0 < (n : Int) + 1) (ih2 : ∀ (g : LH) (V : InvR P g) (hG : Gr g = Gr g0) (x1 : Int32) (y1 : Int) (hx1 : x1.toInt = y1) (hf1 : 1 ≤ y1 ∧ y1 ≤ 6) (x2 : Int32) (y2 : Int) (hx2 : x2.toInt = y2) (hf2 : 1 ≤ y2 ∧ y2 ≤ 6) (x3 : Int32) (y3 : Int) (hx3 : x3.toInt = y3) (hf3 : 0 ≤ y3 ∧ y3 ≤ 6) (o4 : Option Value) (hq0 : ∀ k : Nat, ↑k < y3 → (Gi g 366 k).toInt = 0) (hq1 : y3 ≤ y1), (6 - y3) * 1 + 687194767381 < (n : Int) → LW 300 (d + 30) 0 0 2 [some (.ref 355), some (.int x1), some (.int x2), some (.int x3), o4] [] g (fun v g' => ∃ r : Int32, v = some (.int r) ∧ 0 ≤ r.toInt ∧ r.toInt ≤ 1 ∧ InvR P g' ∧ Gr g' = Gr g0)) (ih22 : ∀ (g : LH) (V : InvR P g) (hG : Gr g = Gr g0) (x1 : Int32) (y1 : Int) (hx1 : x1.toInt = y1) (hf1 : 1 ≤ y1 ∧ y1 ≤ 6) (x2 : Int32) (y2 : Int) (hx2 : x2.toInt = y2) (hf2 : 1 ≤ y2 ∧ y2 ≤ 6) (x3 : Int32) (y3 : Int) (hx3 : x3.toInt = y3) (hf3 : 0 ≤ y3 ∧ y3 ≤ 1) (o4 : Option Value) (hq0 : y3 = 1 → vsR (Gi g 366) (y1)), vsL (Gi g 366) (y1) (y3) * 10 + 9 < (n : Int) → LW 300 (d + 30) 0 0 22 [some (.ref 355), some (.int x1), some (.int x2), some (.int x3), o4] [] g (fun v g' => ∃ r : Int32, v = some (.int r) ∧ 0 ≤ r.toInt ∧ r.toInt ≤ 1 ∧ InvR P g' ∧ Gr g' = Gr g0)) (ih38 : ∀ (g : LH) (V : InvR P g) (hG : Gr g = Gr g0) (x1 : Int32) (y1 : Int) (hx1 : x1.toInt = y1) (hf1 : 1 ≤ y1 ∧ y1 ≤ 6) (x2 : Int32) (y2 : Int) (hx2 : x2.toInt = y2) (hf2 : 1 ≤ y2 ∧ y2 ≤ 6) (x3 : Int32) (y3 : Int) (hx3 : x3.toInt = y3) (hf3 : 1 ≤ y3 ∧ y3 ≤ 1) (x4 : Int32) (y4 : Int) (hx4 : x4.toInt = y4) (hf4 : 0 ≤ y4 ∧ y4 ≤ 6) (hq0 : y3 = 1) (hq1 : vsR (Gi g 366) (y1)), vsL (Gi g 366) (y1) (y3) * 10 + 0 + (6 - y4) * 1 + 0 < (n : Int) → LW 300 (d + 30) 0 0 38 [some (.ref 355), some (.int x1), some (.int x2), some (.int x3), some (.int x4)] [] g (fun v g' => ∃ r : Int32, v = some (.int r) ∧ 0 ≤ r.toInt ∧ r.toInt ≤ 1 ∧ InvR P g' ∧ Gr g' = Gr g0)) : LW 300 (d + 30) 0 0 38 [some (.ref 355), some (.int x1), some (.int x2), some (.int x3), some (.int x4)] [] g (fun v g' => ∃ r : Int32, v = some (.int r) ∧ 0 ≤ r.toInt ∧ r.toInt ≤ 1 ∧ InvR P g' ∧ Gr g' = Gr g0) := by
  refine X_iload rfl rfl rfl ?_
  refine X_iload_n rfl rfl rfl rfl ?_
  refine S_icmp_ge (tgt := 69) rfl rfl rfl hx4 hx1 (fun vh1 => ?_) (fun vh1 => ?_)
  · refine X_aload_n rfl rfl rfl rfl ?_
    refine Y_callV (as := []) (st := []) rfl rfl rfl (by decide) rfl (Nat.le_of_ble_eq_true rfl) (by decide) (Nat.le_of_ble_eq_true rfl) rfl ((congrFun V.1 355).trans s_355) (by decide) (C_X13_isClear V  ) ?_
    rintro _ g' ⟨vr2, rfl, hrvr20, hrvr21, hgg⟩
    subst hgg
    refine S_if_eq (tgt := 78) rfl rfl rfl rfl (fun vh3 => ?_) (fun vh3 => ?_)
    · refine X_aload_n rfl rfl rfl rfl ?_
      refine X_iload_n rfl rfl rfl rfl ?_
      refine Y_callV (as := [.int x1]) (st := []) rfl rfl rfl (by decide) rfl (Nat.le_of_ble_eq_true rfl) (by decide) (Nat.le_of_ble_eq_true rfl) rfl ((congrFun V.1 355).trans s_355) (by decide) (C_X13_nextSigns V x1 y1 hx1 (by omega) (by
            exact hq1)) ?_
      rintro _ g ⟨vr4, rfl, hrvr40, hrvr41, V, hq, chA, vq5⟩
      have hG := hq.trans hG
      have vwk := vsL_lt vq5 (by omega)
      (try rw [show y3 = 1 by omega] at hmu)
      refine X_istore_n (i := 3) (ls' := [some (.ref 355), some (.int x1), some (.int x2), some (.int vr4), some (.int x4)]) rfl rfl rfl (Nat.le_of_ble_eq_true rfl) rfl ?_
      refine LW_goto (tgt := 22) rfl rfl ?_
      exact ih22 _ V hG x1 y1 hx1 (by omega) x2 y2 hx2 (by omega) vr4 vr4.toInt rfl (by omega) (some (.int x4))  (by
            exact fun vh => (vq5 vh).1)  (by omega)
    · refine X_iconst (v := (1 : Int32)) rfl rfl rfl ?_
      exact LW_ireturn (st := []) rfl rfl rfl ⟨_, rfl, by decide, by decide, V, hG⟩
  · refine X_aload_n rfl rfl rfl rfl ?_
    refine X_getR (a := 372) rfl rfl rfl ((congrFun V.1 355).trans s_355) rfl ((congrFun (V.2.1 355 (by decide)) 36).trans r_355_36) ?_
    refine X_aload_n rfl rfl rfl rfl ?_
    refine X_getR (a := 367) rfl rfl rfl ((congrFun V.1 355).trans s_355) rfl ((congrFun (V.2.1 355 (by decide)) 30).trans r_355_30) ?_
    refine X_iload rfl rfl rfl ?_
    refine S_iald rfl rfl ((congrFun V.1 367).trans s_367) hx4 (by omega) (fun vz6 evz6 => ?_)
    have vf7 := O_367 (V.2.2.2.2.2.2.1 367 ((y4 : Int).toNat) (Nat.le_of_ble_eq_true rfl))
    rw [evz6] at vf7
    refine X_aload_n rfl rfl rfl rfl ?_
    refine X_getR (a := 366) rfl rfl rfl ((congrFun V.1 355).trans s_355) rfl ((congrFun (V.2.1 355 (by decide)) 29).trans r_355_29) ?_
    refine X_iload rfl rfl rfl ?_
    refine S_iald rfl rfl ((congrFun V.1 366).trans s_366) hx4 (by omega) (fun vz8 evz8 => ?_)
    refine S_iast (I := InvR _) rfl rfl ((congrFun V.1 372).trans s_372) rfl (by omega) (InvR_putO V (by decide) trivial) (fun g V ve9 vn10 hq => ?_)
    have vwe := (funext fun k => vn10 366 k (Or.inl (by decide)) : Gi g 366 = _)
    rw [← vwe] at hmu hq1
    have hG := hq.trans hG
    have evz6 := (vn10 (367) ((y4 : Int).toNat) (Or.inl (by decide))).trans evz6
    have evz8 := (vn10 (366) ((y4 : Int).toNat) (Or.inl (by decide))).trans evz8
    refine S_iinc (c := 1) rfl rfl rfl hx4 rfl (by omega) (fun vz11 hvz11 => ?_)
    refine LW_ls (ls' := [some (.ref 355), some (.int x1), some (.int x2), some (.int x3), some (.int vz11)]) rfl ?_
    refine LW_goto (tgt := 38) rfl rfl ?_
    exact ih38 _ V hG x1 y1 hx1 (by omega) x2 y2 hx2 (by omega) x3 y3 hx3 (by omega) vz11 vz11.toInt rfl (by omega)  (by omega) (by
          exact hq1)  (by omega)
theorem C_X13_areEnough_all {P : Par} {g0 : LH} {d : Nat}  : ∀ n : Nat, (∀ (g : LH) (V : InvR P g) (hG : Gr g = Gr g0) (x1 : Int32) (y1 : Int) (hx1 : x1.toInt = y1) (hf1 : 1 ≤ y1 ∧ y1 ≤ 6) (x2 : Int32) (y2 : Int) (hx2 : x2.toInt = y2) (hf2 : 1 ≤ y2 ∧ y2 ≤ 6) (x3 : Int32) (y3 : Int) (hx3 : x3.toInt = y3) (hf3 : 0 ≤ y3 ∧ y3 ≤ 6) (o4 : Option Value) (hq0 : ∀ k : Nat, ↑k < y3 → (Gi g 366 k).toInt = 0) (hq1 : y3 ≤ y1), (6 - y3) * 1 + 687194767381 < (n : Int) → LW 300 (d + 30) 0 0 2 [some (.ref 355), some (.int x1), some (.int x2), some (.int x3), o4] [] g (fun v g' => ∃ r : Int32, v = some (.int r) ∧ 0 ≤ r.toInt ∧ r.toInt ≤ 1 ∧ InvR P g' ∧ Gr g' = Gr g0)) ∧ (∀ (g : LH) (V : InvR P g) (hG : Gr g = Gr g0) (x1 : Int32) (y1 : Int) (hx1 : x1.toInt = y1) (hf1 : 1 ≤ y1 ∧ y1 ≤ 6) (x2 : Int32) (y2 : Int) (hx2 : x2.toInt = y2) (hf2 : 1 ≤ y2 ∧ y2 ≤ 6) (x3 : Int32) (y3 : Int) (hx3 : x3.toInt = y3) (hf3 : 0 ≤ y3 ∧ y3 ≤ 1) (o4 : Option Value) (hq0 : y3 = 1 → vsR (Gi g 366) (y1)), vsL (Gi g 366) (y1) (y3) * 10 + 9 < (n : Int) → LW 300 (d + 30) 0 0 22 [some (.ref 355), some (.int x1), some (.int x2), some (.int x3), o4] [] g (fun v g' => ∃ r : Int32, v = some (.int r) ∧ 0 ≤ r.toInt ∧ r.toInt ≤ 1 ∧ InvR P g' ∧ Gr g' = Gr g0)) ∧ (∀ (g : LH) (V : InvR P g) (hG : Gr g = Gr g0) (x1 : Int32) (y1 : Int) (hx1 : x1.toInt = y1) (hf1 : 1 ≤ y1 ∧ y1 ≤ 6) (x2 : Int32) (y2 : Int) (hx2 : x2.toInt = y2) (hf2 : 1 ≤ y2 ∧ y2 ≤ 6) (x3 : Int32) (y3 : Int) (hx3 : x3.toInt = y3) (hf3 : 1 ≤ y3 ∧ y3 ≤ 1) (x4 : Int32) (y4 : Int) (hx4 : x4.toInt = y4) (hf4 : 0 ≤ y4 ∧ y4 ≤ 6) (hq0 : y3 = 1) (hq1 : vsR (Gi g 366) (y1)), vsL (Gi g 366) (y1) (y3) * 10 + 0 + (6 - y4) * 1 + 0 < (n : Int) → LW 300 (d + 30) 0 0 38 [some (.ref 355), some (.int x1), some (.int x2), some (.int x3), some (.int x4)] [] g (fun v g' => ∃ r : Int32, v = some (.int r) ∧ 0 ≤ r.toInt ∧ r.toInt ≤ 1 ∧ InvR P g' ∧ Gr g' = Gr g0)) := by
  intro n
  induction n with
  | zero => exact ⟨fun g V hG x1 y1 hx1 hf1 x2 y2 hx2 hf2 x3 y3 hx3 hf3 o4 hq0 hq1 hmu => absurd hmu (by omega), fun g V hG x1 y1 hx1 hf1 x2 y2 hx2 hf2 x3 y3 hx3 hf3 o4 hq0 hmu => absurd hmu (by have vwn := vsL_nn (Gi g 366) y1 y3; omega), fun g V hG x1 y1 hx1 hf1 x2 y2 hx2 hf2 x3 y3 hx3 hf3 x4 y4 hx4 hf4 hq0 hq1 hmu => absurd hmu (by have vwn := vsL_nn (Gi g 366) y1 y3; omega)⟩
  | succ n ih => exact ⟨fun g V hG x1 y1 hx1 hf1 x2 y2 hx2 hf2 x3 y3 hx3 hf3 o4 hq0 hq1 hmu => C_X13_areEnough_2  V hG x1 y1 hx1 hf1 x2 y2 hx2 hf2 x3 y3 hx3 hf3 o4 hq0 hq1 (by omega) ih.1 ih.2.1 ih.2.2, fun g V hG x1 y1 hx1 hf1 x2 y2 hx2 hf2 x3 y3 hx3 hf3 o4 hq0 hmu => C_X13_areEnough_22  V hG x1 y1 hx1 hf1 x2 y2 hx2 hf2 x3 y3 hx3 hf3 o4 hq0 (by omega) ih.1 ih.2.1 ih.2.2, fun g V hG x1 y1 hx1 hf1 x2 y2 hx2 hf2 x3 y3 hx3 hf3 x4 y4 hx4 hf4 hq0 hq1 hmu => C_X13_areEnough_38  V hG x1 y1 hx1 hf1 x2 y2 hx2 hf2 x3 y3 hx3 hf3 x4 y4 hx4 hf4 hq0 hq1 (by omega) ih.1 ih.2.1 ih.2.2⟩
set_option maxRecDepth 10000 in
set_option maxHeartbeats 40000000 in
theorem C_X13_areEnough {P : Par} {g : LH} {d : Nat}  (V : InvR P g) (x1 : Int32) (y1 : Int) (hx1 : x1.toInt = y1) (hf1 : 1 ≤ y1 ∧ y1 ≤ 6) (x2 : Int32) (y2 : Int) (hx2 : x2.toInt = y2) (hf2 : 1 ≤ y2 ∧ y2 ≤ 6)   : LW 300 (d + 30) 0 0 0 (lEnt (mL 300) [.ref 355, .int x1, .int x2]) [] g (fun v g' => ∃ r : Int32, v = some (.int r) ∧ 0 ≤ r.toInt ∧ r.toInt ≤ 1 ∧ InvR P g' ∧ Gr g' = Gr g) := by
  refine LW_ls (ls' := [some (.ref 355), some (.int x1), some (.int x2), none, none]) rfl ?_
  have hG : Gr g = Gr g := rfl
  refine X_iconst (v := (0 : Int32)) rfl rfl rfl ?_
  refine X_istore_n (i := 3) (ls' := [some (.ref 355), some (.int x1), some (.int x2), some (.int (0 : Int32)), none]) rfl rfl rfl (Nat.le_of_ble_eq_true rfl) rfl ?_
  exact (C_X13_areEnough_all (((6 - 0) * 1 + 687194767381) + 1 : Int).toNat).1 _ V hG x1 y1 hx1 (by omega) x2 y2 hx2 (by omega) (0 : Int32) 0 (show (0 : Int32).toInt = 0 from rfl) (by omega) none  (by
        exact fun k hk => absurd hk (by omega)) (by omega)  (by omega)
set_option maxRecDepth 10000 in
set_option maxHeartbeats 40000000 in
theorem C_X13_signsFor_43 {P : Par} {g g0 : LH} {d n : Nat}  (V : InvR P g) (hG : Gr g = Gr g0) (x1 : Int32) (y1 : Int) (hx1 : x1.toInt = y1) (hf1 : 1 ≤ y1 ∧ y1 ≤ 67108863) (x2 : Int32) (y2 : Int) (hx2 : x2.toInt = y2) (hf2 : (-1) ≤ y2 ∧ y2 ≤ 25) (x3 : Int32) (y3 : Int) (hx3 : x3.toInt = y3) (hf3 : 0 ≤ y3 ∧ y3 ≤ 6) (x4 : Int32) (y4 : Int) (hx4 : x4.toInt = y4) (hf4 : 0 ≤ y4 ∧ y4 ≤ 26) (hq0 : vbS x1 26 ≤ 6) (hq1 : y3 = vbS x1 (Int.toNat (y4))) (hmu : (26 - y4) * 1 + 8 < (n : Int) + 1) (ih43 : ∀ (g : LH) (V : InvR P g) (hG : Gr g = Gr g0) (x1 : Int32) (y1 : Int) (hx1 : x1.toInt = y1) (hf1 : 1 ≤ y1 ∧ y1 ≤ 67108863) (x2 : Int32) (y2 : Int) (hx2 : x2.toInt = y2) (hf2 : (-1) ≤ y2 ∧ y2 ≤ 25) (x3 : Int32) (y3 : Int) (hx3 : x3.toInt = y3) (hf3 : 0 ≤ y3 ∧ y3 ≤ 6) (x4 : Int32) (y4 : Int) (hx4 : x4.toInt = y4) (hf4 : 0 ≤ y4 ∧ y4 ≤ 26) (hq0 : vbS x1 26 ≤ 6) (hq1 : y3 = vbS x1 (Int.toNat (y4))), (26 - y4) * 1 + 8 < (n : Int) → LW 301 (d + 50) 0 0 43 [some (.ref 355), some (.int x1), some (.int x2), some (.int x3), some (.int x4)] [] g (fun v g' => ∃ r : Int32, v = some (.int r) ∧ InvR P g' ∧ Gr g' = Gr g0)) (ih90 : ∀ (g : LH) (V : InvR P g) (hG : Gr g = Gr g0) (x1 : Int32) (y1 : Int) (hx1 : x1.toInt = y1) (hf1 : 1 ≤ y1 ∧ y1 ≤ 67108863) (x2 : Int32) (y2 : Int) (hx2 : x2.toInt = y2) (hf2 : (-1) ≤ y2 ∧ y2 ≤ 25) (x3 : Int32) (y3 : Int) (hx3 : x3.toInt = y3) (hf3 : 0 ≤ y3 ∧ y3 ≤ 6) (x4 : Int32) (y4 : Int) (hx4 : x4.toInt = y4) (hf4 : 1 ≤ y4 ∧ y4 ≤ 7) , (7 - y4) * 1 + 0 < (n : Int) → LW 301 (d + 50) 0 0 90 [some (.ref 355), some (.int x1), some (.int x2), some (.int x3), some (.int x4)] [] g (fun v g' => ∃ r : Int32, v = some (.int r) ∧ InvR P g' ∧ Gr g' = Gr g0)) : LW 301 (d + 50) 0 0 43 [some (.ref 355), some (.int x1), some (.int x2), some (.int x3), some (.int x4)] [] g (fun v g' => ∃ r : Int32, v = some (.int r) ∧ InvR P g' ∧ Gr g' = Gr g0) := by
  refine X_iload rfl rfl rfl ?_
  refine X_bipush (v := (26 : Int32)) rfl rfl rfl ?_
  refine S_icmp_ge (tgt := 87) rfl rfl rfl hx4 (show (26 : Int32).toInt = 26 from rfl) (fun vh1 => ?_) (fun vh1 => ?_)
  · refine X_iconst (v := (1 : Int32)) rfl rfl rfl ?_
    refine X_istore (i := 4) (ls' := [some (.ref 355), some (.int x1), some (.int x2), some (.int x3), some (.int (1 : Int32))]) rfl rfl (Nat.le_of_ble_eq_true rfl) rfl ?_
    exact ih90 _ V hG x1 y1 hx1 (by omega) x2 y2 hx2 (by omega) x3 y3 hx3 (by omega) (1 : Int32) 1 (show (1 : Int32).toInt = 1 from rfl) (by omega)    (by omega)
  · refine X_aload_n rfl rfl rfl rfl ?_
    refine X_getR (a := 372) rfl rfl rfl ((congrFun V.1 355).trans s_355) rfl ((congrFun (V.2.1 355 (by decide)) 36).trans r_355_36) ?_
    refine X_iload rfl rfl rfl ?_
    refine X_iconst (v := (-1 : Int32)) rfl rfl rfl ?_
    refine S_iast (I := InvR _) rfl rfl ((congrFun V.1 372).trans s_372) hx4 (by omega) (InvR_putO V (by decide) trivial) (fun g V ve2 vn3 hq => ?_)
    have hG := hq.trans hG
    refine X_iload_n rfl rfl rfl rfl ?_
    refine X_iload rfl rfl rfl ?_
    refine X_callS (as := [.int x1, .int x4]) (st := []) rfl rfl rfl (by decide) rfl (Nat.le_of_ble_eq_true rfl) (by decide) (Nat.le_of_ble_eq_true rfl) rfl ?_
    refine LW_ls (ls' := [some (.int x1), some (.int x4)]) rfl ?_
    refine X_iload_n rfl rfl rfl rfl ?_
    refine X_iload_n rfl rfl rfl rfl ?_
    refine S_ishrX rfl rfl (fun vz4 hvz4 => ?_)
    refine X_iconst (v := (1 : Int32)) rfl rfl rfl ?_
    refine S_iandE (k := 1) rfl rfl rfl (fun vz5 hvz5 => ?_)
    have vsb : vbS x1 (Int.toNat y4 + 1) = y3 + vz5.toInt := by
      show vbS x1 (Int.toNat y4) + vbt x1 (Int.toNat y4) = y3 + vz5.toInt
      unfold vbt
      rw [← nI_small (Int.toNat y4) (by omega) x4 (by omega), ← hvz4, ← hvz5.1, ← hq1]
    have vsc := vbS_le x1 (Int.toNat y4 + 1) (26 - (Int.toNat y4 + 1))
    rw [show Int.toNat y4 + 1 + (26 - (Int.toNat y4 + 1)) = 26 by omega] at vsc
    refine X_iconst (v := (1 : Int32)) rfl rfl rfl ?_
    refine S_icmp_ne (tgt := 13) rfl rfl rfl rfl (show (1 : Int32).toInt = 1 from rfl) (fun vh6 => ?_) (fun vh6 => ?_)
    · refine X_iconst (v := (0 : Int32)) rfl rfl rfl ?_
      refine LW_ireturn (st := []) rfl rfl rfl ?_
      refine S_if_ne (tgt := 70) rfl rfl rfl (show (0 : Int32).toInt = 0 from rfl) (fun q => absurd q (by omega)) (fun vh7 => ?_)
      refine LW_goto (tgt := 81) rfl rfl ?_
      refine S_iinc (c := 1) rfl rfl rfl hx4 rfl (by omega) (fun vz8 hvz8 => ?_)
      refine LW_ls (ls' := [some (.ref 355), some (.int x1), some (.int x2), some (.int x3), some (.int vz8)]) rfl ?_
      refine LW_goto (tgt := 43) rfl rfl ?_
      exact ih43 _ V hG x1 y1 hx1 (by omega) x2 y2 hx2 (by omega) x3 y3 hx3 (by omega) vz8 vz8.toInt rfl (by omega)  (hq0) (by
            rw [show Int.toNat vz8.toInt = Int.toNat y4 + 1 by omega, vsb]
            omega)  (by omega)
    · refine X_iconst (v := (1 : Int32)) rfl rfl rfl ?_
      refine LW_goto (tgt := 14) rfl rfl ?_
      refine LW_ireturn (st := []) rfl rfl rfl ?_
      refine S_if_ne (tgt := 70) rfl rfl rfl (show (1 : Int32).toInt = 1 from rfl) (fun vh9 => ?_) (fun q => absurd q (by omega))
      refine X_aload_n rfl rfl rfl rfl ?_
      refine X_getR (a := 367) rfl rfl rfl ((congrFun V.1 355).trans s_355) rfl ((congrFun (V.2.1 355 (by decide)) 30).trans r_355_30) ?_
      refine X_iload_n rfl rfl rfl rfl ?_
      refine X_iload rfl rfl rfl ?_
      refine S_iast (I := InvR _) rfl rfl ((congrFun V.1 367).trans s_367) hx3 (by omega) (InvR_putO V (by decide) (show okO 367 _ _ from (show 0 ≤ x4.toInt ∧ x4.toInt ≤ 25 by omega))) (fun g V ve10 vn11 hq => ?_)
      have hG := hq.trans hG
      refine S_iinc (c := 1) rfl rfl rfl hx3 rfl (by omega) (fun vz12 hvz12 => ?_)
      refine LW_ls (ls' := [some (.ref 355), some (.int x1), some (.int x2), some (.int vz12), some (.int x4)]) rfl ?_
      refine S_iinc (c := 1) rfl rfl rfl hx4 rfl (by omega) (fun vz13 hvz13 => ?_)
      refine LW_ls (ls' := [some (.ref 355), some (.int x1), some (.int x2), some (.int vz12), some (.int vz13)]) rfl ?_
      refine LW_goto (tgt := 43) rfl rfl ?_
      exact ih43 _ V hG x1 y1 hx1 (by omega) x2 y2 hx2 (by omega) vz12 vz12.toInt rfl (by omega) vz13 vz13.toInt rfl (by omega)  (hq0) (by
            rw [show Int.toNat vz13.toInt = Int.toNat y4 + 1 by omega, vsb]
            omega)  (by omega)
set_option maxRecDepth 10000 in
set_option maxHeartbeats 40000000 in
theorem C_X13_signsFor_90 {P : Par} {g g0 : LH} {d n : Nat}  (V : InvR P g) (hG : Gr g = Gr g0) (x1 : Int32) (y1 : Int) (hx1 : x1.toInt = y1) (hf1 : 1 ≤ y1 ∧ y1 ≤ 67108863) (x2 : Int32) (y2 : Int) (hx2 : x2.toInt = y2) (hf2 : (-1) ≤ y2 ∧ y2 ≤ 25) (x3 : Int32) (y3 : Int) (hx3 : x3.toInt = y3) (hf3 : 0 ≤ y3 ∧ y3 ≤ 6) (x4 : Int32) (y4 : Int) (hx4 : x4.toInt = y4) (hf4 : 1 ≤ y4 ∧ y4 ≤ 7)  (hmu : (7 - y4) * 1 + 0 < (n : Int) + 1) (ih43 : ∀ (g : LH) (V : InvR P g) (hG : Gr g = Gr g0) (x1 : Int32) (y1 : Int) (hx1 : x1.toInt = y1) (hf1 : 1 ≤ y1 ∧ y1 ≤ 67108863) (x2 : Int32) (y2 : Int) (hx2 : x2.toInt = y2) (hf2 : (-1) ≤ y2 ∧ y2 ≤ 25) (x3 : Int32) (y3 : Int) (hx3 : x3.toInt = y3) (hf3 : 0 ≤ y3 ∧ y3 ≤ 6) (x4 : Int32) (y4 : Int) (hx4 : x4.toInt = y4) (hf4 : 0 ≤ y4 ∧ y4 ≤ 26) (hq0 : vbS x1 26 ≤ 6) (hq1 : y3 = vbS x1 (Int.toNat (y4))), (26 - y4) * 1 + 8 < (n : Int) → LW 301 (d + 50) 0 0 43 [some (.ref 355), some (.int x1), some (.int x2), some (.int x3), some (.int x4)] [] g (fun v g' => ∃ r : Int32, v = some (.int r) ∧ InvR P g' ∧ Gr g' = Gr g0)) (ih90 : ∀ (g : LH) (V : InvR P g) (hG : Gr g = Gr g0) (x1 : Int32) (y1 : Int) (hx1 : x1.toInt = y1) (hf1 : 1 ≤ y1 ∧ y1 ≤ 67108863) (x2 : Int32) (y2 : Int) (hx2 : x2.toInt = y2) (hf2 : (-1) ≤ y2 ∧ y2 ≤ 25) (x3 : Int32) (y3 : Int) (hx3 : x3.toInt = y3) (hf3 : 0 ≤ y3 ∧ y3 ≤ 6) (x4 : Int32) (y4 : Int) (hx4 : x4.toInt = y4) (hf4 : 1 ≤ y4 ∧ y4 ≤ 7) , (7 - y4) * 1 + 0 < (n : Int) → LW 301 (d + 50) 0 0 90 [some (.ref 355), some (.int x1), some (.int x2), some (.int x3), some (.int x4)] [] g (fun v g' => ∃ r : Int32, v = some (.int r) ∧ InvR P g' ∧ Gr g' = Gr g0)) : LW 301 (d + 50) 0 0 90 [some (.ref 355), some (.int x1), some (.int x2), some (.int x3), some (.int x4)] [] g (fun v g' => ∃ r : Int32, v = some (.int r) ∧ InvR P g' ∧ Gr g' = Gr g0) := by
  refine X_iload rfl rfl rfl ?_
  refine X_iload_n rfl rfl rfl rfl ?_
  refine S_icmp_gt (tgt := 129) rfl rfl rfl hx4 hx3 (fun vh1 => ?_) (fun vh1 => ?_)
  · refine X_iconst (v := (-1 : Int32)) rfl rfl rfl ?_
    exact LW_ireturn (st := []) rfl rfl rfl ⟨_, rfl, V, hG⟩
  · refine X_aload_n rfl rfl rfl rfl ?_
    refine X_iload_n rfl rfl rfl rfl ?_
    refine X_iload rfl rfl rfl ?_
    refine Y_callV (as := [.int x3, .int x4]) (st := []) rfl rfl rfl (by decide) rfl (Nat.le_of_ble_eq_true rfl) (by decide) (Nat.le_of_ble_eq_true rfl) rfl ((congrFun V.1 355).trans s_355) (by decide) (C_X13_areEnough V x3 y3 hx3 (by omega) x4 y4 hx4 (by omega) ) ?_
    rintro _ g ⟨vr2, rfl, hrvr20, hrvr21, V, hq⟩
    have hG := hq.trans hG
    refine S_if_eq (tgt := 123) rfl rfl rfl rfl (fun vh3 => ?_) (fun vh3 => ?_)
    · refine S_iinc (c := 1) rfl rfl rfl hx4 rfl (by omega) (fun vz4 hvz4 => ?_)
      refine LW_ls (ls' := [some (.ref 355), some (.int x1), some (.int x2), some (.int x3), some (.int vz4)]) rfl ?_
      refine LW_goto (tgt := 90) rfl rfl ?_
      exact ih90 _ V hG x1 y1 hx1 (by omega) x2 y2 hx2 (by omega) x3 y3 hx3 (by omega) vz4 vz4.toInt rfl (by omega)    (by omega)
    · refine X_iload_n rfl rfl rfl rfl ?_
      refine X_iconst (v := (-1 : Int32)) rfl rfl rfl ?_
      refine S_icmp_ne (tgt := 116) rfl rfl rfl hx2 (show (-1 : Int32).toInt = -1 from rfl) (fun vh5 => ?_) (fun vh5 => ?_)
      · refine X_aload_n rfl rfl rfl rfl ?_
        refine X_getR (a := 372) rfl rfl rfl ((congrFun V.1 355).trans s_355) rfl ((congrFun (V.2.1 355 (by decide)) 36).trans r_355_36) ?_
        refine X_iload_n rfl rfl rfl rfl ?_
        refine S_iald rfl rfl ((congrFun V.1 372).trans s_372) hx2 (by omega) (fun vz6 evz6 => ?_)
        exact LW_ireturn (st := []) rfl rfl rfl ⟨_, rfl, V, hG⟩
      · refine X_iload rfl rfl rfl ?_
        refine LW_goto (tgt := 122) rfl rfl ?_
        exact LW_ireturn (st := []) rfl rfl rfl ⟨_, rfl, V, hG⟩
theorem C_X13_signsFor_all {P : Par} {g0 : LH} {d : Nat}  : ∀ n : Nat, (∀ (g : LH) (V : InvR P g) (hG : Gr g = Gr g0) (x1 : Int32) (y1 : Int) (hx1 : x1.toInt = y1) (hf1 : 1 ≤ y1 ∧ y1 ≤ 67108863) (x2 : Int32) (y2 : Int) (hx2 : x2.toInt = y2) (hf2 : (-1) ≤ y2 ∧ y2 ≤ 25) (x3 : Int32) (y3 : Int) (hx3 : x3.toInt = y3) (hf3 : 0 ≤ y3 ∧ y3 ≤ 6) (x4 : Int32) (y4 : Int) (hx4 : x4.toInt = y4) (hf4 : 0 ≤ y4 ∧ y4 ≤ 26) (hq0 : vbS x1 26 ≤ 6) (hq1 : y3 = vbS x1 (Int.toNat (y4))), (26 - y4) * 1 + 8 < (n : Int) → LW 301 (d + 50) 0 0 43 [some (.ref 355), some (.int x1), some (.int x2), some (.int x3), some (.int x4)] [] g (fun v g' => ∃ r : Int32, v = some (.int r) ∧ InvR P g' ∧ Gr g' = Gr g0)) ∧ (∀ (g : LH) (V : InvR P g) (hG : Gr g = Gr g0) (x1 : Int32) (y1 : Int) (hx1 : x1.toInt = y1) (hf1 : 1 ≤ y1 ∧ y1 ≤ 67108863) (x2 : Int32) (y2 : Int) (hx2 : x2.toInt = y2) (hf2 : (-1) ≤ y2 ∧ y2 ≤ 25) (x3 : Int32) (y3 : Int) (hx3 : x3.toInt = y3) (hf3 : 0 ≤ y3 ∧ y3 ≤ 6) (x4 : Int32) (y4 : Int) (hx4 : x4.toInt = y4) (hf4 : 1 ≤ y4 ∧ y4 ≤ 7) , (7 - y4) * 1 + 0 < (n : Int) → LW 301 (d + 50) 0 0 90 [some (.ref 355), some (.int x1), some (.int x2), some (.int x3), some (.int x4)] [] g (fun v g' => ∃ r : Int32, v = some (.int r) ∧ InvR P g' ∧ Gr g' = Gr g0)) := by
  intro n
  induction n with
  | zero => exact ⟨fun g V hG x1 y1 hx1 hf1 x2 y2 hx2 hf2 x3 y3 hx3 hf3 x4 y4 hx4 hf4 hq0 hq1 hmu => absurd hmu (by omega), fun g V hG x1 y1 hx1 hf1 x2 y2 hx2 hf2 x3 y3 hx3 hf3 x4 y4 hx4 hf4 hmu => absurd hmu (by omega)⟩
  | succ n ih => exact ⟨fun g V hG x1 y1 hx1 hf1 x2 y2 hx2 hf2 x3 y3 hx3 hf3 x4 y4 hx4 hf4 hq0 hq1 hmu => C_X13_signsFor_43  V hG x1 y1 hx1 hf1 x2 y2 hx2 hf2 x3 y3 hx3 hf3 x4 y4 hx4 hf4 hq0 hq1 (by omega) ih.1 ih.2, fun g V hG x1 y1 hx1 hf1 x2 y2 hx2 hf2 x3 y3 hx3 hf3 x4 y4 hx4 hf4 hmu => C_X13_signsFor_90  V hG x1 y1 hx1 hf1 x2 y2 hx2 hf2 x3 y3 hx3 hf3 x4 y4 hx4 hf4 (by omega) ih.1 ih.2⟩
set_option maxRecDepth 10000 in
set_option maxHeartbeats 40000000 in
theorem C_X13_signsFor {P : Par} {g : LH} {d : Nat}  (V : InvR P g) (x1 : Int32) (y1 : Int) (hx1 : x1.toInt = y1) (x2 : Int32) (y2 : Int) (hx2 : x2.toInt = y2)   : LW 301 (d + 50) 0 0 0 (lEnt (mL 301) [.ref 355, .int x1, .int x2]) [] g (fun v g' => ∃ r : Int32, v = some (.int r) ∧ InvR P g' ∧ Gr g' = Gr g) := by
  refine LW_ls (ls' := [some (.ref 355), some (.int x1), some (.int x2), none, none]) rfl ?_
  have hG : Gr g = Gr g := rfl
  refine X_iload_n rfl rfl rfl rfl ?_
  refine X_callS (as := [.int x1]) (st := []) rfl rfl rfl (by decide) rfl (Nat.le_of_ble_eq_true rfl) (by decide) (Nat.le_of_ble_eq_true rfl) rfl ?_
  refine LW_ls (ls' := [some (.int x1)]) rfl ?_
  refine X_iload_n rfl rfl rfl rfl ?_
  refine X_iconst (v := (1 : Int32)) rfl rfl rfl ?_
  refine X_ldc (v := (67108863 : Int32)) rfl rfl rfl ?_
  refine X_callS (as := [.int x1, .int (1 : Int32), .int (67108863 : Int32)]) (st := []) rfl rfl rfl (by decide) rfl (Nat.le_of_ble_eq_true rfl) (by decide) (Nat.le_of_ble_eq_true rfl) rfl ?_
  refine LW_ls (ls' := [some (.int x1), some (.int (1 : Int32)), some (.int (67108863 : Int32))]) rfl ?_
  refine X_iload_n rfl rfl rfl rfl ?_
  refine X_iload_n rfl rfl rfl rfl ?_
  refine S_icmp_lt (tgt := 14) rfl rfl rfl hx1 (show (1 : Int32).toInt = 1 from rfl) (fun vh1 => ?_) (fun vh1 => ?_)
  · refine X_iconst (v := (0 : Int32)) rfl rfl rfl ?_
    refine LW_ireturn (st := []) rfl rfl rfl ?_
    refine LW_ireturn (st := []) rfl rfl rfl ?_
    refine S_if_eq (tgt := 36) rfl rfl rfl (show (0 : Int32).toInt = 0 from rfl) (fun vh2 => ?_) (fun q => absurd q (by omega))
    refine X_iconst (v := (-1 : Int32)) rfl rfl rfl ?_
    exact LW_ireturn (st := []) rfl rfl rfl ⟨_, rfl, V, hG⟩
  · refine X_iload_n rfl rfl rfl rfl ?_
    refine X_iload_n rfl rfl rfl rfl ?_
    refine S_icmp_gt (tgt := 14) rfl rfl rfl hx1 (show (67108863 : Int32).toInt = 67108863 from rfl) (fun vh3 => ?_) (fun vh3 => ?_)
    · refine X_iconst (v := (0 : Int32)) rfl rfl rfl ?_
      refine LW_ireturn (st := []) rfl rfl rfl ?_
      refine LW_ireturn (st := []) rfl rfl rfl ?_
      refine S_if_eq (tgt := 36) rfl rfl rfl (show (0 : Int32).toInt = 0 from rfl) (fun vh4 => ?_) (fun q => absurd q (by omega))
      refine X_iconst (v := (-1 : Int32)) rfl rfl rfl ?_
      exact LW_ireturn (st := []) rfl rfl rfl ⟨_, rfl, V, hG⟩
    · refine X_iconst (v := (1 : Int32)) rfl rfl rfl ?_
      refine LW_goto (tgt := 15) rfl rfl ?_
      refine LW_ireturn (st := []) rfl rfl rfl ?_
      refine LW_ireturn (st := []) rfl rfl rfl ?_
      refine S_if_eq (tgt := 36) rfl rfl rfl (show (1 : Int32).toInt = 1 from rfl) (fun q => absurd q (by omega)) (fun vh5 => ?_)
      refine X_iload_n rfl rfl rfl rfl ?_
      refine Y_callS (as := [.int x1]) (st := []) rfl rfl rfl (by decide) rfl (Nat.le_of_ble_eq_true rfl) (by decide) (Nat.le_of_ble_eq_true rfl) rfl (C_X13_bitsB V x1 y1 hx1 ) ?_
      rintro _ g' ⟨vr6, rfl, hrvr60, hrvr61, hgg, vq7⟩
      subst hgg
      refine X_bipush (v := (6 : Int32)) rfl rfl rfl ?_
      refine S_icmp_gt (tgt := 36) rfl rfl rfl rfl (show (6 : Int32).toInt = 6 from rfl) (fun vh8 => ?_) (fun vh8 => ?_)
      · refine X_iconst (v := (-1 : Int32)) rfl rfl rfl ?_
        exact LW_ireturn (st := []) rfl rfl rfl ⟨_, rfl, V, hG⟩
      · refine X_iload_n rfl rfl rfl rfl ?_
        refine X_iconst (v := (-1 : Int32)) rfl rfl rfl ?_
        refine S_icmp_eq (tgt := 38) rfl rfl rfl hx2 (show (-1 : Int32).toInt = -1 from rfl) (fun vh9 => ?_) (fun vh9 => ?_)
        · refine X_iconst (v := (0 : Int32)) rfl rfl rfl ?_
          refine X_istore_n (i := 3) (ls' := [some (.ref 355), some (.int x1), some (.int x2), some (.int (0 : Int32)), none]) rfl rfl rfl (Nat.le_of_ble_eq_true rfl) rfl ?_
          refine X_iconst (v := (0 : Int32)) rfl rfl rfl ?_
          refine X_istore (i := 4) (ls' := [some (.ref 355), some (.int x1), some (.int x2), some (.int (0 : Int32)), some (.int (0 : Int32))]) rfl rfl (Nat.le_of_ble_eq_true rfl) rfl ?_
          exact (C_X13_signsFor_all (((26 - 0) * 1 + 8) + 1 : Int).toNat).1 _ V hG x1 y1 hx1 (by omega) x2 y2 hx2 (by omega) (0 : Int32) 0 (show (0 : Int32).toInt = 0 from rfl) (by omega) (0 : Int32) 0 (show (0 : Int32).toInt = 0 from rfl) (by omega)  (by
                rw [← vq7]
                omega) (rfl)  (by omega)
        · refine X_iload_n rfl rfl rfl rfl ?_
          refine X_callS (as := [.int x2]) (st := []) rfl rfl rfl (by decide) rfl (Nat.le_of_ble_eq_true rfl) (by decide) (Nat.le_of_ble_eq_true rfl) rfl ?_
          refine LW_ls (ls' := [some (.int x2)]) rfl ?_
          refine X_iload_n rfl rfl rfl rfl ?_
          refine X_iconst (v := (0 : Int32)) rfl rfl rfl ?_
          refine X_bipush (v := (25 : Int32)) rfl rfl rfl ?_
          refine X_callS (as := [.int x2, .int (0 : Int32), .int (25 : Int32)]) (st := []) rfl rfl rfl (by decide) rfl (Nat.le_of_ble_eq_true rfl) (by decide) (Nat.le_of_ble_eq_true rfl) rfl ?_
          refine LW_ls (ls' := [some (.int x2), some (.int (0 : Int32)), some (.int (25 : Int32))]) rfl ?_
          refine X_iload_n rfl rfl rfl rfl ?_
          refine X_iload_n rfl rfl rfl rfl ?_
          refine S_icmp_lt (tgt := 14) rfl rfl rfl hx2 (show (0 : Int32).toInt = 0 from rfl) (fun vh10 => ?_) (fun vh10 => ?_)
          · refine X_iconst (v := (0 : Int32)) rfl rfl rfl ?_
            refine LW_ireturn (st := []) rfl rfl rfl ?_
            refine LW_ireturn (st := []) rfl rfl rfl ?_
            refine S_if_eq (tgt := 36) rfl rfl rfl (show (0 : Int32).toInt = 0 from rfl) (fun vh11 => ?_) (fun q => absurd q (by omega))
            refine X_iconst (v := (-1 : Int32)) rfl rfl rfl ?_
            exact LW_ireturn (st := []) rfl rfl rfl ⟨_, rfl, V, hG⟩
          · refine X_iload_n rfl rfl rfl rfl ?_
            refine X_iload_n rfl rfl rfl rfl ?_
            refine S_icmp_gt (tgt := 14) rfl rfl rfl hx2 (show (25 : Int32).toInt = 25 from rfl) (fun vh12 => ?_) (fun vh12 => ?_)
            · refine X_iconst (v := (0 : Int32)) rfl rfl rfl ?_
              refine LW_ireturn (st := []) rfl rfl rfl ?_
              refine LW_ireturn (st := []) rfl rfl rfl ?_
              refine S_if_eq (tgt := 36) rfl rfl rfl (show (0 : Int32).toInt = 0 from rfl) (fun vh13 => ?_) (fun q => absurd q (by omega))
              refine X_iconst (v := (-1 : Int32)) rfl rfl rfl ?_
              exact LW_ireturn (st := []) rfl rfl rfl ⟨_, rfl, V, hG⟩
            · refine X_iconst (v := (1 : Int32)) rfl rfl rfl ?_
              refine LW_goto (tgt := 15) rfl rfl ?_
              refine LW_ireturn (st := []) rfl rfl rfl ?_
              refine LW_ireturn (st := []) rfl rfl rfl ?_
              refine S_if_eq (tgt := 36) rfl rfl rfl (show (1 : Int32).toInt = 1 from rfl) (fun q => absurd q (by omega)) (fun vh14 => ?_)
              refine X_iload_n rfl rfl rfl rfl ?_
              refine X_iload_n rfl rfl rfl rfl ?_
              refine X_callS (as := [.int x1, .int x2]) (st := []) rfl rfl rfl (by decide) rfl (Nat.le_of_ble_eq_true rfl) (by decide) (Nat.le_of_ble_eq_true rfl) rfl ?_
              refine LW_ls (ls' := [some (.int x1), some (.int x2)]) rfl ?_
              refine X_iload_n rfl rfl rfl rfl ?_
              refine X_iload_n rfl rfl rfl rfl ?_
              refine S_ishrX rfl rfl (fun vz15 hvz15 => ?_)
              refine X_iconst (v := (1 : Int32)) rfl rfl rfl ?_
              refine S_iandE (k := 1) rfl rfl rfl (fun vz16 hvz16 => ?_)
              refine X_iconst (v := (1 : Int32)) rfl rfl rfl ?_
              refine S_icmp_ne (tgt := 13) rfl rfl rfl rfl (show (1 : Int32).toInt = 1 from rfl) (fun vh17 => ?_) (fun vh17 => ?_)
              · refine X_iconst (v := (0 : Int32)) rfl rfl rfl ?_
                refine LW_ireturn (st := []) rfl rfl rfl ?_
                refine S_if_ne (tgt := 38) rfl rfl rfl (show (0 : Int32).toInt = 0 from rfl) (fun q => absurd q (by omega)) (fun vh18 => ?_)
                refine X_iconst (v := (-1 : Int32)) rfl rfl rfl ?_
                exact LW_ireturn (st := []) rfl rfl rfl ⟨_, rfl, V, hG⟩
              · refine X_iconst (v := (1 : Int32)) rfl rfl rfl ?_
                refine LW_goto (tgt := 14) rfl rfl ?_
                refine LW_ireturn (st := []) rfl rfl rfl ?_
                refine S_if_ne (tgt := 38) rfl rfl rfl (show (1 : Int32).toInt = 1 from rfl) (fun vh19 => ?_) (fun q => absurd q (by omega))
                refine X_iconst (v := (0 : Int32)) rfl rfl rfl ?_
                refine X_istore_n (i := 3) (ls' := [some (.ref 355), some (.int x1), some (.int x2), some (.int (0 : Int32)), none]) rfl rfl rfl (Nat.le_of_ble_eq_true rfl) rfl ?_
                refine X_iconst (v := (0 : Int32)) rfl rfl rfl ?_
                refine X_istore (i := 4) (ls' := [some (.ref 355), some (.int x1), some (.int x2), some (.int (0 : Int32)), some (.int (0 : Int32))]) rfl rfl (Nat.le_of_ble_eq_true rfl) rfl ?_
                exact (C_X13_signsFor_all (((26 - 0) * 1 + 8) + 1 : Int).toNat).1 _ V hG x1 y1 hx1 (by omega) x2 y2 hx2 (by omega) (0 : Int32) 0 (show (0 : Int32).toInt = 0 from rfl) (by omega) (0 : Int32) 0 (show (0 : Int32).toInt = 0 from rfl) (by omega)  (by
                      rw [← vq7]
                      omega) (rfl)  (by omega)
