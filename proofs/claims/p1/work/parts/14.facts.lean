/-! what is said of a heap in which both objects are fresh: of the class's cells (0 .. 354), of the reference's (355 .. 373) -/
def Fc (g : LH) : Prop := Gs g = eS e2 ∧ (∀ q, q < 355 → Gr g q = eR e2 q) ∧ ∀ q, q < 355 → Gi g q = eI e2 q ∧ Gj g q = eJ e2 q
def Fr (g : LH) : Prop := Gs g = eS e2 ∧ (∀ q, 355 ≤ q → Gr g q = eR e2 q) ∧ ∀ q, 355 ≤ q → Gi g q = eI e2 q ∧ Gj g q = eJ e2 q
theorem Fr_putI {g : LH} {q k : Nat} {x : Int32} (h : Fr g) (hq : q < 355) : Fr (putI g q k x) := by
  refine ⟨h.1, h.2.1, fun z hz => ⟨?_, (h.2.2 z hz).2⟩⟩
  show va_up (Gi g) q (upd (Gi g q) k x) z = _
  rw [va_up_ne _ _ (show z ≠ q by omega)]
  exact (h.2.2 z hz).1
theorem Fr_cpyI {g : LH} {a0 a1 sp dp n : Nat} (h : Fr g) (hq : a1 < 355) : Fr (cpyI g a0 a1 sp dp n) := by
  refine ⟨h.1, h.2.1, fun z hz => ⟨?_, (h.2.2 z hz).2⟩⟩
  show va_up (Gi g) a1 _ z = _
  rw [va_up_ne _ _ (show z ≠ a1 by omega)]
  exact (h.2.2 z hz).1
theorem vp_lt {i : Int32} {n : Nat} (h : vp_in i n) : i.toNatClampNeg < n := Nat.not_le.mp fun q => h (Or.inr q)
theorem LW_slenX {j d bc bs pc pc' : Nat} {ls : List (Option Value)} {st : List Value} {g : LH} {Q : Option Value → LH → Prop} {q L : Nat} {xs : Nat → Int32} {v : Int32} (h : lk j pc = some (.arraylength, 1)) (hp : pc + 1 = pc') (hx : Gx g = some (L, xs)) (hv : Int32.ofNat L = v) (k : LW j d bc bs pc' ls (.int v :: st) g Q) : LW j d bc bs pc ls (.retAddr q :: st) g Q := by
  subst hp
  subst hv
  exact LW_slen h hx k
theorem X_zast {j d bc bs pc pc' : Nat} {ls : List (Option Value)} {st : List Value} {g : LH} {Q : Option Value → LH → Prop} {q n k0 : Nat} {i x v : Int32} (h : lk j pc = some (.bastore, 1)) (hp : pc + 1 = pc') (hsh : Gs g q = .inr (.boolean, n)) (hin : vp_in i n) (hi : i.toNatClampNeg = k0) (hv : vp_nar .boolean x = v) (k : LW j d bc bs pc' ls st (putI g q k0 v) Q) : LW j d bc bs pc ls (.int x :: .int i :: .ref q :: st) g Q := by
  subst hp
  subst hi
  exact LW_zast h hsh hin hv k
theorem vp_in_d {i : Int32} {n : Nat} (h : decide (¬ (i < 0 ∨ n ≤ i.toNatClampNeg)) = true) : vp_in i n := by
  have h2 : ¬ (i < 0 ∨ n ≤ i.toNatClampNeg) := of_decide_eq_true h
  exact h2
theorem LW_eqv {j d bc bs pc : Nat} {ls : List (Option Value)} {st : List Value} {g : LH} {Q : Option Value → LH → Prop} {x v : Int32} (h : x = v) (k : LW j d bc bs pc ls (.int v :: st) g Q) : LW j d bc bs pc ls (.int x :: st) g Q := by
  subst h
  exact k
theorem Fr_putR {g : LH} {q k : Nat} {x : Option Nat} (h : Fr g) (hq : q < 355) : Fr (putR g q k x) := by
  refine ⟨h.1, fun z hz => ?_, h.2.2⟩
  show va_up (Gr g) q (va_up (Gr g q) k x) z = _
  rw [va_up_ne _ _ (show z ≠ q by omega)]
  exact h.2.1 z hz
