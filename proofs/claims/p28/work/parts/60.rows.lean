/-! the reference: rows that go up -/
/-- the first e places of a row of n out of some -/
def rwI (f : Nat → Int32) (n w e : Int) : Prop := ∀ k : Nat, (k : Int) < e → 0 ≤ (f k).toInt ∧ (f k).toInt ≤ w - n + (k : Int)
/-- how far a row is from the last one -/
def rwM (f : Nat → Int32) (w : Int) : Nat → Nat
  | 0 => 0
  | k + 1 => 64 * rwM f w k + (w - (f k).toInt).toNat
theorem rwM_eq {f f0 : Nat → Int32} {w : Int} : ∀ m : Nat, (∀ j : Nat, j < m → f j = f0 j) → rwM f w m = rwM f0 w m := by
  intro m
  induction m with
  | zero => exact fun _ => rfl
  | succ m ih =>
    intro vh
    show 64 * rwM f w m + (w - (f m).toInt).toNat = 64 * rwM f0 w m + (w - (f0 m).toInt).toNat
    rw [ih (fun j hj => vh j (by omega)), vh m (Nat.lt_succ_self m)]
theorem rwM_lt {f f0 : Nat → Int32} {w : Int} {k : Nat} (hw : w ≤ 63) (hs : ∀ j : Nat, j < k → f j = f0 j) (hk : (f k).toInt = (f0 k).toInt + 1) (hkw : (f k).toInt ≤ w) : ∀ d : Nat, (∀ j : Nat, j < k + 1 + d → 0 ≤ (f j).toInt) → rwM f w (k + 1 + d) + 1 ≤ rwM f0 w (k + 1 + d) := by
  intro d
  induction d with
  | zero =>
    intro _
    show 64 * rwM f w k + (w - (f k).toInt).toNat + 1 ≤ 64 * rwM f0 w k + (w - (f0 k).toInt).toNat
    rw [rwM_eq k hs]
    omega
  | succ d ih =>
    intro vh
    have vh1 := ih (fun j hj => vh j (by omega))
    have vh2 := vh (k + 1 + d) (by omega)
    show 64 * rwM f w (k + 1 + d) + (w - (f (k + 1 + d)).toInt).toNat + 1 ≤ 64 * rwM f0 w (k + 1 + d) + (w - (f0 (k + 1 + d)).toInt).toNat
    omega
/-- on the way to the next row: the first e places are set -/
def rwN (f f0 : Nat → Int32) (n w e : Int) : Prop := ∃ k : Nat, (k : Int) + 1 ≤ e ∧ e ≤ n ∧ rwI f n w e ∧ (∀ j : Nat, j < k → f j = f0 j) ∧ (f k).toInt = (f0 k).toInt + 1
/-- behind the search for the next row -/
def rwR (f f0 : Nat → Int32) (n w r : Int) : Prop := (r = 1 → rwI f n w n ∧ rwM f w n.toNat < rwM f0 w n.toNat) ∧ (r = 0 → f = f0)
theorem rwR_one {f f0 : Nat → Int32} {n w : Int} (hw : w ≤ 63) (vh : rwN f f0 n w n) : rwI f n w n ∧ rwM f w n.toNat < rwM f0 w n.toNat := by
  obtain ⟨k, vh1, vh2, vh3, vh4, vh5⟩ := vh
  refine ⟨vh3, ?_⟩
  have vh6 := vh3 k (by omega)
  have vh7 := rwM_lt (f := f) (f0 := f0) (w := w) (k := k) hw vh4 vh5 (by omega) (n.toNat - (k + 1)) (fun j hj => (vh3 j (by omega)).1)
  rw [show k + 1 + (n.toNat - (k + 1)) = n.toNat by omega] at vh7
  omega
