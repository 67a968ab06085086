/-! rows that keep the numbers themselves; the word's spec of being written -/
section XR
variable {j d bc bs pc pc' : Nat} {ls : List (Option Value)} {st : List Value} {g : LH} {Q : Option Value → LH → Prop}
theorem S_ishrX {x y : Int32} (h : lk j pc = some (.ishr, 1)) (hp : pc + 1 = pc') (k : ∀ z : Int32, z = x >>> (y &&& 31) → LW j d bc bs pc' ls (.int z :: st) g Q) : LW j d bc bs pc ls (.int y :: .int x :: st) g Q := X_ishr h hp rfl (k _ rfl)
theorem S_iandE {x y : Int32} {k : Nat} (h : lk j pc = some (.iand, 1)) (hp : pc + 1 = pc') (vhm : y.toBitVec.toNat = 2 ^ k - 1) (kk : ∀ z : Int32, (z = x &&& y) ∧ (k ≤ 30 → 0 ≤ z.toInt ∧ z.toInt ≤ ((2 ^ k - 1 : Nat) : Int)) → LW j d bc bs pc' ls (.int z :: st) g Q) : LW j d bc bs pc ls (.int y :: .int x :: st) g Q :=
  X_iand h hp rfl (kk _ ⟨rfl, fun h30 => by
    rw [pk_and x k vhm]
    have h2 : 2 ^ k ≤ 2 ^ 30 := Nat.pow_le_pow_right (by decide) h30
    have h1 : x.toBitVec.toNat % 2 ^ k < 2 ^ k := Nat.mod_lt _ (Nat.two_pow_pos k)
    rw [nI_toInt (by omega)]
    omega⟩)
theorem zbit (x : Int32) : 0 ≤ (x &&& 1).toInt ∧ (x &&& 1).toInt ≤ 1 := by
  rw [pk_and x 1 (by decide)]
  have vh1 : x.toBitVec.toNat % 2 ^ 1 < 2 ^ 1 := Nat.mod_lt _ (Nat.two_pow_pos 1)
  rw [nI_toInt (by omega)]
  omega
theorem S_zastB {I : LH → Prop} {q n : Nat} {i x : Int32} {a : Int} (h : lk j pc = some (.bastore, 1)) (hp : pc + 1 = pc') (hsh : Gs g q = .inr (.boolean, n)) (vhi : i.toInt = a) (hin : 0 ≤ a ∧ a < n) (ok : ∀ y : Int32, 0 ≤ y.toInt ∧ y.toInt ≤ 1 → I (putI g q a.toNat y)) (k : ∀ g' : LH, I g' → (∀ q' k', q' ≠ q ∨ k' ≠ a.toNat → Gi g' q' k' = Gi g q' k') → Gr g' = Gr g → LW j d bc bs pc' ls st g' Q) : LW j d bc bs pc ls (.int x :: .int i :: .ref q :: st) g Q := X_zast h hp hsh (ti_idx vhi hin).1 (ti_idx vhi hin).2 rfl (k _ (ok _ (zbit x)) putI_o rfl)
end XR
/-- a letter is out -/
def bO (f : Nat → Int32) (l : Int32) : Prop := ((f 7 >>> (l &&& 31)) &&& 1).toInt = 1
/-- the k-th letter of a word can be written -/
def wrL (f : Nat → Int32) (w k : Nat) : Prop := ¬ (bO f (f (116 + 10 * w + k)) ∧ (f (64 + (f (116 + 10 * w + k)).toInt.toNat)).toInt < 0)
/-- a word can be written -/
def WR (f : Nat → Int32) (w : Nat) : Prop := ∀ k : Nat, (k : Int) < (f (124 + 10 * w)).toInt → wrL f w k
/-- a sense can be said now -/
def SY (f : Nat → Int32) (s : Int) : Prop := ∃ w : Nat, (w : Int) < (f 0).toInt ∧ (f (125 + 10 * w)).toInt = s ∧ WR f w
/-- a saying can be said now -/
def SS (f : Nat → Int32) (s : Nat) : Prop := ∀ k : Nat, (k : Int) < (f (356 + 9 * s)).toInt → SY f (f (357 + 9 * s + k)).toInt
/-- of a, below the steps, nothing but the number of steps has changed -/
def FrK (g g0 : LH) : Prop := ∀ k : Nat, k < 578 → k ≠ 6 → Gi g 356 k = Gi g0 356 k
theorem FrK.refl {g : LH} : FrK g g := fun _ _ _ => rfl
theorem FrK.put {g g' g0 : LH} (h : FrK g g0) {i : Nat} (n : ∀ q' k', q' ≠ 356 ∨ k' ≠ i → Gi g' q' k' = Gi g q' k') (vhi : 578 ≤ i ∨ i = 6) : FrK g' g0 := fun k h1 h2 => (n 356 k (Or.inr (by omega))).trans (h k h1 h2)
theorem FrK.oth {g g' g0 : LH} (h : FrK g g0) (n : ∀ k, Gi g' 356 k = Gi g 356 k) : FrK g' g0 := fun k h1 h2 => (n k).trans (h k h1 h2)
theorem WR_congr {P : Par} {g g' : LH} (V : InvR P g') (e : ∀ k : Nat, k < 428 → k ≠ 6 → Gi g' 356 k = Gi g 356 k) {w : Nat} (hw : w < 24) (h : WR (Gi g 356) w) : WR (Gi g' 356) w := by
  have vf1 := A_LENGTH (V.2.2.2.1 (124 + 10 * w)) (by omega)
  intro k hk
  have vf2 := A_LETTER (V.2.2.2.1 (116 + 10 * w + k)) (by omega)
  have h2 := h k (by rw [← e (124 + 10 * w) (by omega) (by omega)]; exact hk)
  unfold wrL bO at h2 ⊢
  rw [← e (116 + 10 * w + k) (by omega) (by omega), ← e 7 (by omega) (by omega), ← e (64 + (Gi g' 356 (116 + 10 * w + k)).toInt.toNat) (by omega) (by omega)] at h2
  exact h2
theorem SS_congr {P : Par} {g g' : LH} (V : InvR P g') (e : ∀ k : Nat, k < 428 → k ≠ 6 → Gi g' 356 k = Gi g 356 k) {s : Nat} (hs : s ≤ 7) (h : SS (Gi g 356) s) : SS (Gi g' 356) s := by
  have vf1 := A_SCOUNT (V.2.2.2.1 (356 + 9 * s)) (by omega)
  have vf0 := A_WORDS (V.2.2.2.1 0) rfl
  intro k hk
  obtain ⟨w, h1, h2, h3⟩ := h k (by rw [← e (356 + 9 * s) (by omega) (by omega)]; exact hk)
  rw [← e 0 (by omega) (by omega)] at h1
  rw [← e (125 + 10 * w) (by omega) (by omega), ← e (357 + 9 * s + k) (by omega) (by omega)] at h2
  exact ⟨w, h1, h2, WR_congr V e (by omega) h3⟩
