/-! the reader: frames -/
theorem vSm.putN {S : Nat → Nat → Prop} {g g' g0 : LH} {q i : Nat} (h : vSm S g g0) (n : ∀ q' k', q' ≠ q ∨ k' ≠ i → Gi g' q' k' = Gi g q' k') (hS : ¬ S q i) : vSm S g' g0 :=
  h.put n fun q' k' vhs => Decidable.byContradiction fun vhn => hS (by
    have vh1 : q' = q := by omega
    have vh2 : k' = i := by omega
    rw [← vh1, ← vh2]
    exact vhs)
theorem vi_da : ∀ q k, vsd q k → vsa q k := by intro q k h; unfold vsd at h; unfold vsa; omega
theorem vi_db : ∀ q k, vsd q k → vsb q k := by intro q k h; unfold vsd at h; unfold vsb; omega
theorem vi_dc : ∀ q k, vsd q k → vsc q k := by intro q k h; unfold vsd at h; unfold vsc; omega
theorem vi_cb : ∀ q k, vsc q k → vsb q k := by intro q k h; unfold vsc at h; unfold vsb; omega
theorem vi_ea : ∀ q k, vse q k → vsa q k := by intro q k h; unfold vse at h; unfold vsa; omega
theorem vi_de : ∀ q k, vsd q k → vse q k := by intro q k h; unfold vsd at h; unfold vse; omega
theorem vi_ (S : Nat → Nat → Prop) : ∀ q k, S q k → S q k := fun _ _ h => h
theorem vEm.mk {f fa fb fc : Nat → Int32} {i ia ib : Nat} {o v : Int32} (h1 : fa ia = o) (n1 : ∀ k : Nat, k ≠ ia → fa k = f k) (h2 : fb ib = v) (vn2 : ∀ k : Nat, k ≠ ib → fb k = fa k) (vn3 : ∀ k : Nat, fc k = fb k) (vhi : i = ia) (vhb : ib = ia + 1) : vEm fc f i o v := by
  subst vhi vhb
  refine ⟨?_, ?_, fun k vh1 vh2 => ?_⟩
  · rw [vn3, vn2 i (by omega)]
    exact h1
  · rw [vn3]
    exact h2
  · rw [vn3, vn2 k vh2]
    exact n1 k vh1
/-- what is written by letters, numbers into a clause -/
def vX1 (x : Int) (g g0 : LH) : Prop := ∀ k : Nat, (k : Int) ≠ x → Gi g 358 k = Gi g0 358 k
def vX9 (x : Int) (g g0 : LH) : Prop := ∀ k : Nat, ((k : Int) ≤ x ∨ x + 10 < (k : Int)) → Gi g 358 k = Gi g0 358 k
def vXb (x : Int) (g g0 : LH) : Prop := ∀ k : Nat, (k : Int) < (Gi g0 355 16).toInt + 265 + 2 * (Gi g0 355 18).toInt → ((k : Int) ≤ x ∨ x + 10 < (k : Int)) → Gi g 358 k = Gi g0 358 k
theorem vX1.refl {x : Int} {g : LH} : vX1 x g g := fun _ _ => rfl
theorem vX9.refl {x : Int} {g : LH} : vX9 x g g := fun _ _ => rfl
theorem vXb.refl {x : Int} {g : LH} : vXb x g g := fun _ _ _ => rfl
theorem vX1.oth {x : Int} {g g' g0 : LH} (h : vX1 x g g0) (n : ∀ k, Gi g' 358 k = Gi g 358 k) : vX1 x g' g0 := fun k vhk => (n k).trans (h k vhk)
theorem vX9.oth {x : Int} {g g' g0 : LH} (h : vX9 x g g0) (n : ∀ k, Gi g' 358 k = Gi g 358 k) : vX9 x g' g0 := fun k vhk => (n k).trans (h k vhk)
theorem vXb.oth {x : Int} {g g' g0 : LH} (h : vXb x g g0) (n : ∀ k, Gi g' 358 k = Gi g 358 k) : vXb x g' g0 := fun k vhk vhj => (n k).trans (h k vhk vhj)
theorem vX1.put {x : Int} {g g' g0 : LH} {i : Nat} (h : vX1 x g g0) (n : ∀ q' k', q' ≠ 358 ∨ k' ≠ i → Gi g' q' k' = Gi g q' k') (vhi : (i : Int) = x) : vX1 x g' g0 := fun k vhk => (n 358 k (Or.inr (by omega))).trans (h k vhk)
theorem vX9.put {x : Int} {g g' g0 : LH} {i : Nat} (h : vX9 x g g0) (n : ∀ q' k', q' ≠ 358 ∨ k' ≠ i → Gi g' q' k' = Gi g q' k') (vhi : x < (i : Int) ∧ (i : Int) ≤ x + 10) : vX9 x g' g0 := fun k vhk => (n 358 k (Or.inr (by omega))).trans (h k vhk)
theorem vXb.put {x : Int} {g g' g0 : LH} {i : Nat} (h : vXb x g g0) (n : ∀ q' k', q' ≠ 358 ∨ k' ≠ i → Gi g' q' k' = Gi g q' k') (vhi : x < (i : Int) ∧ (i : Int) ≤ x + 10) : vXb x g' g0 := fun k vhk vhj => (n 358 k (Or.inr (by omega))).trans (h k vhk vhj)
theorem vX9.one {x y : Int} {g g' g0 : LH} (h : vX9 x g g0) (c : vX1 y g' g) (vhi : x < y ∧ y ≤ x + 10) : vX9 x g' g0 := fun k vhk => (c k (by omega)).trans (h k vhk)
theorem vXb.one {x y : Int} {g g' g0 : LH} (h : vXb x g g0) (c : vX1 y g' g) (vhi : x < y ∧ y ≤ x + 10) : vXb x g' g0 := fun k vhk vhj => (c k (by omega)).trans (h k vhk vhj)
theorem vXb.nine {x y : Int} {g g' g0 : LH} (h : vXb x g g0) (c : vX9 y g' g) (vhi : y = x) : vXb x g' g0 := fun k vhk vhj => (c k (by omega)).trans (h k vhk vhj)
theorem vXb.cd {x : Int} {g g' g0 : LH} (h : vXb x g g0) (c : vCd g' g) (vhi : (Gi g0 355 16).toInt + 265 + 2 * (Gi g0 355 18).toInt ≤ (Gi g 355 16).toInt + 265 + 2 * (Gi g 355 18).toInt) : vXb x g' g0 := fun k vhk vhj => (c k (by omega)).trans (h k vhk vhj)
/-- the sum goes on with the token -/
def vGO (g : LH) : Prop := ((Gi g 355 13).toInt = 43 ∨ (Gi g 355 13).toInt = 45 ∨ (Gi g 355 13).toInt = 42 ∨ (Gi g 355 13).toInt = 47) ∨ ((Gi g 355 13).toInt = 41 ∧ ∃ k : Nat, (k : Int) < (Gi g 355 21).toInt ∧ (Gi g 362 k).toInt = 40)
/-- which name a word is -/
def vLN (w : Int64) : Int := if w = (6578553 : Int64) then 0 else if w = (1869968499 : Int64) then 1 else if w = (119183001281906 : Int64) then 2 else if w = (2002872165 : Int64) then 3 else if w = (495690081125 : Int64) then 4 else if w = (508676236652 : Int64) then 5 else if w = (1953064292 : Int64) then 6 else if w = (1970496883 : Int64) then 7 else -1
def vNO (o : Int) (w : Int64) : Int := if o = 2 then (if 0 ≤ vLN w then vLN w else if w = (119182899770472 : Int64) then 8 else if w = (495622976357 : Int64) then 9 else if w = (495689625203 : Int64) then 10 else if w = (108243635103086 : Int64) then 11 else if w = (1835101817 : Int64) then 12 else if w = (1684109683 : Int64) then 13 else -1) else -1
