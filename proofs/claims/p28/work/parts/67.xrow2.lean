/-! more rows that keep the numbers themselves; what can be said, of letters given too -/
section XR2
variable {j d bc bs pc pc' : Nat} {ls : List (Option Value)} {st : List Value} {g : LH} {Q : Option Value → LH → Prop}
theorem S_ishlX {x y : Int32} (h : lk j pc = some (.ishl, 1)) (hp : pc + 1 = pc') (k : ∀ z : Int32, z = x <<< (y &&& 31) → LW j d bc bs pc' ls (.int z :: st) g Q) : LW j d bc bs pc ls (.int y :: .int x :: st) g Q := X_ishl h hp rfl (k _ rfl)
theorem S_iorX {x y : Int32} (h : lk j pc = some (.ior, 1)) (hp : pc + 1 = pc') (k : ∀ z : Int32, z = x ||| y → LW j d bc bs pc' ls (.int z :: st) g Q) : LW j d bc bs pc ls (.int y :: .int x :: st) g Q := X_ior h hp rfl (k _ rfl)
theorem S_iandX {x y : Int32} (h : lk j pc = some (.iand, 1)) (hp : pc + 1 = pc') (k : ∀ z : Int32, z = x &&& y → LW j d bc bs pc' ls (.int z :: st) g Q) : LW j d bc bs pc ls (.int y :: .int x :: st) g Q := X_iand h hp rfl (k _ rfl)
end XR2
/-- the letters of a word as a set, the first k of them -/
def vsF (f : Nat → Int32) (w : Nat) : Nat → Int32
  | 0 => 0
  | k + 1 => vsF f w k ||| ((1 : Int32) <<< (f (116 + 10 * w + k) &&& 31))
def vsW (f : Nat → Int32) (w : Nat) : Int32 := vsF f w (Int.toNat (f (124 + 10 * w)).toInt)
/-- a word can be written: now, or without some letters -/
def vWG (f : Nat → Int32) (now wo : Int) (w : Nat) : Prop := (now = 1 → WR f w) ∧ (now = 0 → ∀ u : Int32, u.toInt = wo → (vsW f w &&& u).toInt = 0)
def vSG (f : Nat → Int32) (now wo s : Int) : Prop := ∃ w : Nat, (w : Int) < (f 0).toInt ∧ (f (125 + 10 * w)).toInt = s ∧ vWG f now wo w
def vSA (f : Nat → Int32) (now wo : Int) (s : Nat) : Prop := ∀ k : Nat, (k : Int) < (f (356 + 9 * s)).toInt → vSG f now wo (f (357 + 9 * s + k)).toInt
/-! bits of sets, long numbers themselves -/
section XR3
variable {j d bc bs pc pc' : Nat} {ls : List (Option Value)} {st : List Value} {g : LH} {Q : Option Value → LH → Prop}
theorem S_lmulX {x y : Int64} (h : lk j pc = some (.lmul, 1)) (hp : pc + 1 = pc') (k : ∀ z : Int64, z = x * y → LW j d bc bs pc' ls (.long z :: st) g Q) : LW j d bc bs pc ls (.long y :: .long x :: st) g Q := X_lmul h hp rfl (k _ rfl)
theorem S_i2lX {x : Int32} (h : lk j pc = some (.i2l, 1)) (hp : pc + 1 = pc') (k : ∀ z : Int64, z = x.toInt64 → LW j d bc bs pc' ls (.long z :: st) g Q) : LW j d bc bs pc ls (.int x :: st) g Q := X_i2l h hp rfl (k _ rfl)
theorem vlrem (x y : Int64) : (x - x / y * y).toInt = x.toInt.tmod y.toInt := by
  have vh1 := Int64.le_toInt (x % y)
  have vh2 := Int64.toInt_lt (x % y)
  rw [Int64.toInt_sub, Int64.toInt_mul, Int64.toInt_div, Int.bmod_mul_bmod, Int.sub_bmod_bmod, Int.mul_comm (x.toInt.tdiv y.toInt), ← Int.tmod_def, ← Int64.toInt_mod]
  exact Int.bmod_eq_of_le_mul_two (by omega) (by omega)
theorem S_lremX {x y : Int64} (h : lk j pc = some (.lrem, 1)) (hp : pc + 1 = pc') (hne : ¬ y = 0) (k : ∀ z : Int64, z.toInt = x.toInt.tmod y.toInt → LW j d bc bs pc' ls (.long z :: st) g Q) : LW j d bc bs pc ls (.long y :: .long x :: st) g Q := by
  subst hp
  exact LW_lrem h hne (k _ (vlrem x y))
end XR3
/-- the k-th bit of a set -/
def vbt (x : Int32) (k : Nat) : Int := ((x >>> (nI k &&& 31)) &&& 1).toInt
/-- how many bits there are below -/
def vbS (x : Int32) : Nat → Int
  | 0 => 0
  | k + 1 => vbS x k + vbt x k
theorem vbt_01 (x : Int32) (k : Nat) : 0 ≤ vbt x k ∧ vbt x k ≤ 1 := zbit _
theorem vbS_nn (x : Int32) : ∀ k : Nat, 0 ≤ vbS x k := by
  intro k
  induction k with
  | zero => exact Int.le_refl _
  | succ k ih =>
    have vh := vbt_01 x k
    show 0 ≤ vbS x k + vbt x k
    omega
theorem vbS_le (x : Int32) (k : Nat) : ∀ m : Nat, vbS x k ≤ vbS x (k + m) := by
  intro m
  induction m with
  | zero => exact Int.le_refl _
  | succ m ih =>
    have vh := vbt_01 x (k + m)
    show vbS x k ≤ vbS x (k + m) + vbt x (k + m)
    omega
/-- the members that are laid down: those of the first l letters -/
def vMB (g : LH) (x : Int32) (l : Nat) : Prop := (Gi g 355 33).toInt = vbS x l ∧ ∀ i : Nat, i < l → vbt x i = 1 → ∃ e : Nat, (e : Int) < (Gi g 355 33).toInt ∧ (Gi g 367 e).toInt = (i : Int)
def vMG (g : LH) (x : Int32) : Prop := (0 ≤ (Gi g 355 33).toInt ∧ (Gi g 355 33).toInt ≤ 10) ∧ ∀ i : Nat, i < 26 → vbt x i = 1 → ∃ e : Nat, (e : Int) < (Gi g 355 33).toInt ∧ (Gi g 367 e).toInt = (i : Int)
theorem vMB.lt {g : LH} {x : Int32} {l : Nat} (vh : vMB g x l) (hl : l < 26) (vhb : vbt x l = 1) (h10 : vbS x 26 ≤ 10) : 0 ≤ (Gi g 355 33).toInt ∧ (Gi g 355 33).toInt ≤ 9 := by
  have vh1 := vbS_nn x l
  have vh2 := vbS_le x (l + 1) (26 - (l + 1))
  rw [show l + 1 + (26 - (l + 1)) = 26 by omega] at vh2
  have vh3 : vbS x (l + 1) = vbS x l + vbt x l := rfl
  rw [vh.1]
  omega
theorem vMB.no {g : LH} {x : Int32} {l : Nat} (vh : vMB g x l) (vhb : ¬ vbt x l = 1) : vMB g x (l + 1) := by
  have vh1 := vbt_01 x l
  have vh3 : vbS x (l + 1) = vbS x l + vbt x l := rfl
  refine ⟨by rw [vh3, vh.1]; omega, fun i hi vh4 => ?_⟩
  by_cases hl : i = l
  · subst hl
    exact absurd vh4 vhb
  · exact vh.2 i (by omega) vh4
theorem vMB.yes {g ga gb : LH} {x y m v : Int32} {l : Nat} (vh : vMB g x l) (vhb : vbt x l = 1) (hy : y.toInt = (l : Int)) (n1 : ∀ q' k', q' ≠ 367 ∨ k' ≠ (m.toInt : Int).toNat → Gi ga q' k' = Gi g q' k') (ve1 : Gi ga 367 (m.toInt : Int).toNat = y) (vem : Gi ga 355 33 = m) (vn2 : ∀ q' k', q' ≠ 355 ∨ k' ≠ 33 → Gi gb q' k' = Gi ga q' k') (ve2 : Gi gb 355 33 = v) (vhv : v.toInt = m.toInt + 1) : vMB gb x (l + 1) := by
  have vh0 : Gi g 355 33 = m := (n1 355 33 (Or.inl (by decide))).symm.trans vem
  have vh1 := vh.1
  rw [vh0] at vh1
  have vh2 := vbS_nn x l
  have vh3 : vbS x (l + 1) = vbS x l + vbt x l := rfl
  refine ⟨by rw [ve2, vh3]; omega, fun i hi vh4 => ?_⟩
  by_cases hl : i = l
  · subst hl
    exact ⟨Int.toNat m.toInt, by rw [ve2]; omega, by rw [vn2 367 _ (Or.inl (by decide)), ve1]; exact hy⟩
  · obtain ⟨e, he1, he2⟩ := vh.2 i (by omega) vh4
    rw [vh0] at he1
    exact ⟨e, by rw [ve2]; omega, by rw [vn2 367 _ (Or.inl (by decide)), n1 367 e (Or.inr (by omega))]; exact he2⟩
theorem vMB.all {g : LH} {x : Int32} (h10 : vbS x 26 ≤ 10) (vh : vMB g x 26) : vMG g x := by
  have vh2 := vbS_nn x 26
  exact ⟨by rw [vh.1]; omega, vh.2⟩
theorem vMG.oth {g g' : LH} {x : Int32} (n1 : ∀ k, Gi g' 355 k = Gi g 355 k) (vn2 : ∀ k, Gi g' 367 k = Gi g 367 k) (vh : vMG g x) : vMG g' x := by
  unfold vMG
  rw [n1 33, show Gi g' 367 = Gi g 367 from funext vn2]
  exact vh
/-- products up to some number -/
def vFT : Nat → Int64
  | 0 => 1
  | m + 1 => vFT m * (nI (m + 2)).toInt64
theorem vFT_ne : ∀ m : Nat, m < 10 → ¬ vFT m = 0 := by decide +kernel
theorem vtm {x y z : Int64} (hne : ¬ y = 0) (vh : z.toInt = x.toInt.tmod y.toInt) : z.toInt.natAbs < y.toInt.natAbs := by
  rw [vh, Int.natAbs_tmod]
  refine Nat.mod_lt _ (Int.natAbs_pos.mpr fun q => hne (Int64.toInt_inj.mp ?_))
  rw [q]
  rfl
