/-! what every state keeps of the class's cells (0 .. 354); the reference's (355 .. 373) stay as they are: P.1 parties now, P.2.1 in the image, P.2.2 the reference's cells -/
abbrev Par : Type := Nat × Nat × (Nat → Nat → Int32)
def kinds : List Nat := [0, 13, 10, 1, 2, 0, 3, 1, 0, 3, 11, 0, 0, 0, 12, 0, 11, 0, 0, 0, 11, 0, 0, 0, 11, 0, 0, 0, 11, 0, 0, 0, 11, 0, 0, 0, 11, 0, 0, 0, 11, 0, 0, 0, 11, 0, 0, 0, 11, 0, 0, 0, 11, 0, 0, 0, 11, 0, 0, 0, 11, 0, 0, 0, 11, 0, 0, 0, 11, 0, 0, 0, 11, 0, 0, 0, 11, 0, 0, 0, 11, 0, 0, 0, 11, 0, 0, 0, 11, 0, 0, 0, 11, 0, 0, 0, 11, 0, 0, 0, 11, 0, 0, 0, 11, 0, 0, 0, 11, 0, 0, 0, 11, 0, 0, 0, 11, 0, 0, 0, 11, 0, 0, 0, 11, 0, 0, 0, 11, 0, 0, 0, 11, 0, 0, 0, 0, 0, 0, 1, 0, 0, 0, 4, 5, 0, 14, 10, 1, 2, 0, 3, 1, 0, 3, 11, 0, 0, 0, 12, 0, 11, 0, 0, 0, 11, 0, 0, 0, 11, 0, 0, 0, 11, 0, 0, 0, 11, 0, 0, 0, 11, 0, 0, 0, 11, 0, 0, 0, 11, 0, 0, 0, 11, 0, 0, 0, 11, 0, 0, 0, 11, 0, 0, 0, 11, 0, 0, 0, 11, 0, 0, 0, 11, 0, 0, 0, 11, 0, 0, 0, 11, 0, 0, 0, 11, 0, 0, 0, 11, 0, 0, 0, 11, 0, 0, 0, 11, 0, 0, 0, 11, 0, 0, 0, 11, 0, 0, 0, 11, 0, 0, 0, 11, 0, 0, 0, 11, 0, 0, 0, 11, 0, 0, 0, 11, 0, 0, 0, 11, 0, 0, 0, 11, 0, 0, 0, 11, 0, 0, 0, 0, 0, 0, 1, 0, 0, 0, 4, 5, 0, 0, 15, 0, 0, 0, 0, 1, 3, 6, 6, 9, 15, 0, 0, 0, 0, 1, 3, 6, 6, 9, 15, 0, 0, 0, 0, 1, 3, 6, 6, 9, 15, 0, 0, 0, 0, 1, 3, 6, 6, 9, 16, 7, 0, 8, 0, 0, 17, 0, 0, 0, 0, 18, 0, 1, 3, 0, 0, 0, 0, 0, 4, 0, 3]
def rk (q : Nat) : Nat := kinds.getD q 0
def okK (kd k : Nat) (x : Int) : Prop := match kd with
  | 1 => 0 ≤ x ∧ x ≤ 8
  | 2 => 0 ≤ x ∧ x ≤ 9
  | 3 => 0 ≤ x ∧ x ≤ 25
  | 4 => 0 ≤ x ∧ x ≤ 23
  | 5 => 0 ≤ x ∧ x ≤ 30
  | 6 => (-1) ≤ x ∧ x ≤ 300
  | 7 => 0 ≤ x ∧ x ≤ 255
  | 8 => 0 ≤ x ∧ x ≤ 300
  | 9 => (0 ≤ x ∧ x ≤ 10013) ∨ (20000 ≤ x ∧ x ≤ 20013)
  | 10 => (match k with | 0 => 0 ≤ x ∧ x ≤ 24 | 1 => 0 ≤ x ∧ x ≤ 8 | _ => True)
  | 11 => (match k with | 3 => 0 ≤ x ∧ x ≤ 10 | _ => True)
  | 12 => (match k with | 0 => 0 ≤ x ∧ x ≤ 30 | 1 => 0 ≤ x ∧ x ≤ 29 | _ => True)
  | 13 => (match k with | 5 => 0 ≤ x ∧ x ≤ 4 | 6 => (-1) ≤ x ∧ x ≤ 3 | 7 => 0 ≤ x ∧ x ≤ 4 | 9 => 0 ≤ x ∧ x ≤ 12 | _ => True)
  | 14 => (match k with | 5 => 0 ≤ x ∧ x ≤ 4 | 6 => (-1) ≤ x ∧ x ≤ 3 | 7 => 0 ≤ x ∧ x ≤ 4 | 9 => 0 ≤ x ∧ x ≤ 12 | _ => True)
  | 15 => (match k with | 0 => 0 ≤ x ∧ x ≤ 24 | 9 => 0 ≤ x ∧ x ≤ 300 | _ => True)
  | 16 => (match k with | 0 => 0 ≤ x ∧ x ≤ 300 | 2 => 0 ≤ x ∧ x ≤ 301 | _ => True)
  | 17 => (match k with | 2 => (-1) ≤ x ∧ x ≤ 300 | 5 => 0 ≤ x ∧ x ≤ 300 | 6 => 0 ≤ x ∧ x ≤ 23 | _ => True)
  | 18 => (match k with | 4 => 0 ≤ x ∧ x ≤ 10 | _ => True)
  | _ => True
def Inv (P : Par) (g : LH) : Prop := Gs g = eS e2 ∧ (∀ q, q ≠ 338 → Gr g q = eR e2 q) ∧ (∀ k, k ≠ 1 → Gr g 338 k = eR e2 338 k) ∧ (Gr g 338 1 = none ∨ ∃ i, i < 4 ∧ Gr g 338 1 = some (292 + 10 * i)) ∧ (∀ q k, q < 355 → okK (rk q) k (Gi g q k).toInt) ∧ (∀ q k, 355 ≤ q → Gi g q k = P.2.2 q k) ∧ (Gi g 1 7).toInt = ((P.1 : Nat) : Int) ∧ (Gi g 146 7).toInt = ((P.2.1 : Nat) : Int)
theorem K_1 {q k : Nat} {x : Int} (h : okK (rk q) k x) (hq : rk q = 1) : 0 ≤ x ∧ x ≤ 8 := by
  rw [hq] at h
  exact h
theorem Q_1 {q k : Nat} {x : Int} (hq : rk q = 1) (h : 0 ≤ x ∧ x ≤ 8) : okK (rk q) k x := by
  rw [hq]
  exact h
theorem K_2 {q k : Nat} {x : Int} (h : okK (rk q) k x) (hq : rk q = 2) : 0 ≤ x ∧ x ≤ 9 := by
  rw [hq] at h
  exact h
theorem Q_2 {q k : Nat} {x : Int} (hq : rk q = 2) (h : 0 ≤ x ∧ x ≤ 9) : okK (rk q) k x := by
  rw [hq]
  exact h
theorem K_3 {q k : Nat} {x : Int} (h : okK (rk q) k x) (hq : rk q = 3) : 0 ≤ x ∧ x ≤ 25 := by
  rw [hq] at h
  exact h
theorem Q_3 {q k : Nat} {x : Int} (hq : rk q = 3) (h : 0 ≤ x ∧ x ≤ 25) : okK (rk q) k x := by
  rw [hq]
  exact h
theorem K_4 {q k : Nat} {x : Int} (h : okK (rk q) k x) (hq : rk q = 4) : 0 ≤ x ∧ x ≤ 23 := by
  rw [hq] at h
  exact h
theorem Q_4 {q k : Nat} {x : Int} (hq : rk q = 4) (h : 0 ≤ x ∧ x ≤ 23) : okK (rk q) k x := by
  rw [hq]
  exact h
theorem K_5 {q k : Nat} {x : Int} (h : okK (rk q) k x) (hq : rk q = 5) : 0 ≤ x ∧ x ≤ 30 := by
  rw [hq] at h
  exact h
theorem Q_5 {q k : Nat} {x : Int} (hq : rk q = 5) (h : 0 ≤ x ∧ x ≤ 30) : okK (rk q) k x := by
  rw [hq]
  exact h
theorem K_6 {q k : Nat} {x : Int} (h : okK (rk q) k x) (hq : rk q = 6) : (-1) ≤ x ∧ x ≤ 300 := by
  rw [hq] at h
  exact h
theorem Q_6 {q k : Nat} {x : Int} (hq : rk q = 6) (h : (-1) ≤ x ∧ x ≤ 300) : okK (rk q) k x := by
  rw [hq]
  exact h
theorem K_7 {q k : Nat} {x : Int} (h : okK (rk q) k x) (hq : rk q = 7) : 0 ≤ x ∧ x ≤ 255 := by
  rw [hq] at h
  exact h
theorem Q_7 {q k : Nat} {x : Int} (hq : rk q = 7) (h : 0 ≤ x ∧ x ≤ 255) : okK (rk q) k x := by
  rw [hq]
  exact h
theorem K_8 {q k : Nat} {x : Int} (h : okK (rk q) k x) (hq : rk q = 8) : 0 ≤ x ∧ x ≤ 300 := by
  rw [hq] at h
  exact h
theorem Q_8 {q k : Nat} {x : Int} (hq : rk q = 8) (h : 0 ≤ x ∧ x ≤ 300) : okK (rk q) k x := by
  rw [hq]
  exact h
theorem K_9 {q k : Nat} {x : Int} (h : okK (rk q) k x) (hq : rk q = 9) : (0 ≤ x ∧ x ≤ 10013) ∨ (20000 ≤ x ∧ x ≤ 20013) := by
  rw [hq] at h
  exact h
theorem Q_9 {q k : Nat} {x : Int} (hq : rk q = 9) (h : (0 ≤ x ∧ x ≤ 10013) ∨ (20000 ≤ x ∧ x ≤ 20013)) : okK (rk q) k x := by
  rw [hq]
  exact h
theorem K_10_0 {q : Nat} {x : Int} (h : okK (rk q) 0 x) (hq : rk q = 10) : 0 ≤ x ∧ x ≤ 24 := by
  rw [hq] at h
  exact h
theorem Q_10_0 {q : Nat} {x : Int} (hq : rk q = 10) (h : 0 ≤ x ∧ x ≤ 24) : okK (rk q) 0 x := by
  rw [hq]
  exact h
theorem K_10_1 {q : Nat} {x : Int} (h : okK (rk q) 1 x) (hq : rk q = 10) : 0 ≤ x ∧ x ≤ 8 := by
  rw [hq] at h
  exact h
theorem Q_10_1 {q : Nat} {x : Int} (hq : rk q = 10) (h : 0 ≤ x ∧ x ≤ 8) : okK (rk q) 1 x := by
  rw [hq]
  exact h
theorem K_11_3 {q : Nat} {x : Int} (h : okK (rk q) 3 x) (hq : rk q = 11) : 0 ≤ x ∧ x ≤ 10 := by
  rw [hq] at h
  exact h
theorem Q_11_3 {q : Nat} {x : Int} (hq : rk q = 11) (h : 0 ≤ x ∧ x ≤ 10) : okK (rk q) 3 x := by
  rw [hq]
  exact h
theorem K_12_0 {q : Nat} {x : Int} (h : okK (rk q) 0 x) (hq : rk q = 12) : 0 ≤ x ∧ x ≤ 30 := by
  rw [hq] at h
  exact h
theorem Q_12_0 {q : Nat} {x : Int} (hq : rk q = 12) (h : 0 ≤ x ∧ x ≤ 30) : okK (rk q) 0 x := by
  rw [hq]
  exact h
theorem K_12_1 {q : Nat} {x : Int} (h : okK (rk q) 1 x) (hq : rk q = 12) : 0 ≤ x ∧ x ≤ 29 := by
  rw [hq] at h
  exact h
theorem Q_12_1 {q : Nat} {x : Int} (hq : rk q = 12) (h : 0 ≤ x ∧ x ≤ 29) : okK (rk q) 1 x := by
  rw [hq]
  exact h
theorem K_13_5 {q : Nat} {x : Int} (h : okK (rk q) 5 x) (hq : rk q = 13) : 0 ≤ x ∧ x ≤ 4 := by
  rw [hq] at h
  exact h
theorem Q_13_5 {q : Nat} {x : Int} (hq : rk q = 13) (h : 0 ≤ x ∧ x ≤ 4) : okK (rk q) 5 x := by
  rw [hq]
  exact h
theorem K_13_6 {q : Nat} {x : Int} (h : okK (rk q) 6 x) (hq : rk q = 13) : (-1) ≤ x ∧ x ≤ 3 := by
  rw [hq] at h
  exact h
theorem Q_13_6 {q : Nat} {x : Int} (hq : rk q = 13) (h : (-1) ≤ x ∧ x ≤ 3) : okK (rk q) 6 x := by
  rw [hq]
  exact h
theorem K_13_7 {q : Nat} {x : Int} (h : okK (rk q) 7 x) (hq : rk q = 13) : 0 ≤ x ∧ x ≤ 4 := by
  rw [hq] at h
  exact h
theorem Q_13_7 {q : Nat} {x : Int} (hq : rk q = 13) (h : 0 ≤ x ∧ x ≤ 4) : okK (rk q) 7 x := by
  rw [hq]
  exact h
theorem K_13_9 {q : Nat} {x : Int} (h : okK (rk q) 9 x) (hq : rk q = 13) : 0 ≤ x ∧ x ≤ 12 := by
  rw [hq] at h
  exact h
theorem Q_13_9 {q : Nat} {x : Int} (hq : rk q = 13) (h : 0 ≤ x ∧ x ≤ 12) : okK (rk q) 9 x := by
  rw [hq]
  exact h
theorem K_14_5 {q : Nat} {x : Int} (h : okK (rk q) 5 x) (hq : rk q = 14) : 0 ≤ x ∧ x ≤ 4 := by
  rw [hq] at h
  exact h
theorem Q_14_5 {q : Nat} {x : Int} (hq : rk q = 14) (h : 0 ≤ x ∧ x ≤ 4) : okK (rk q) 5 x := by
  rw [hq]
  exact h
theorem K_14_6 {q : Nat} {x : Int} (h : okK (rk q) 6 x) (hq : rk q = 14) : (-1) ≤ x ∧ x ≤ 3 := by
  rw [hq] at h
  exact h
theorem Q_14_6 {q : Nat} {x : Int} (hq : rk q = 14) (h : (-1) ≤ x ∧ x ≤ 3) : okK (rk q) 6 x := by
  rw [hq]
  exact h
theorem K_14_7 {q : Nat} {x : Int} (h : okK (rk q) 7 x) (hq : rk q = 14) : 0 ≤ x ∧ x ≤ 4 := by
  rw [hq] at h
  exact h
theorem Q_14_7 {q : Nat} {x : Int} (hq : rk q = 14) (h : 0 ≤ x ∧ x ≤ 4) : okK (rk q) 7 x := by
  rw [hq]
  exact h
theorem K_14_9 {q : Nat} {x : Int} (h : okK (rk q) 9 x) (hq : rk q = 14) : 0 ≤ x ∧ x ≤ 12 := by
  rw [hq] at h
  exact h
theorem Q_14_9 {q : Nat} {x : Int} (hq : rk q = 14) (h : 0 ≤ x ∧ x ≤ 12) : okK (rk q) 9 x := by
  rw [hq]
  exact h
theorem K_15_0 {q : Nat} {x : Int} (h : okK (rk q) 0 x) (hq : rk q = 15) : 0 ≤ x ∧ x ≤ 24 := by
  rw [hq] at h
  exact h
theorem Q_15_0 {q : Nat} {x : Int} (hq : rk q = 15) (h : 0 ≤ x ∧ x ≤ 24) : okK (rk q) 0 x := by
  rw [hq]
  exact h
theorem K_15_9 {q : Nat} {x : Int} (h : okK (rk q) 9 x) (hq : rk q = 15) : 0 ≤ x ∧ x ≤ 300 := by
  rw [hq] at h
  exact h
theorem Q_15_9 {q : Nat} {x : Int} (hq : rk q = 15) (h : 0 ≤ x ∧ x ≤ 300) : okK (rk q) 9 x := by
  rw [hq]
  exact h
theorem K_16_0 {q : Nat} {x : Int} (h : okK (rk q) 0 x) (hq : rk q = 16) : 0 ≤ x ∧ x ≤ 300 := by
  rw [hq] at h
  exact h
theorem Q_16_0 {q : Nat} {x : Int} (hq : rk q = 16) (h : 0 ≤ x ∧ x ≤ 300) : okK (rk q) 0 x := by
  rw [hq]
  exact h
theorem K_16_2 {q : Nat} {x : Int} (h : okK (rk q) 2 x) (hq : rk q = 16) : 0 ≤ x ∧ x ≤ 301 := by
  rw [hq] at h
  exact h
theorem Q_16_2 {q : Nat} {x : Int} (hq : rk q = 16) (h : 0 ≤ x ∧ x ≤ 301) : okK (rk q) 2 x := by
  rw [hq]
  exact h
theorem K_17_2 {q : Nat} {x : Int} (h : okK (rk q) 2 x) (hq : rk q = 17) : (-1) ≤ x ∧ x ≤ 300 := by
  rw [hq] at h
  exact h
theorem Q_17_2 {q : Nat} {x : Int} (hq : rk q = 17) (h : (-1) ≤ x ∧ x ≤ 300) : okK (rk q) 2 x := by
  rw [hq]
  exact h
theorem K_17_5 {q : Nat} {x : Int} (h : okK (rk q) 5 x) (hq : rk q = 17) : 0 ≤ x ∧ x ≤ 300 := by
  rw [hq] at h
  exact h
theorem Q_17_5 {q : Nat} {x : Int} (hq : rk q = 17) (h : 0 ≤ x ∧ x ≤ 300) : okK (rk q) 5 x := by
  rw [hq]
  exact h
theorem K_17_6 {q : Nat} {x : Int} (h : okK (rk q) 6 x) (hq : rk q = 17) : 0 ≤ x ∧ x ≤ 23 := by
  rw [hq] at h
  exact h
theorem Q_17_6 {q : Nat} {x : Int} (hq : rk q = 17) (h : 0 ≤ x ∧ x ≤ 23) : okK (rk q) 6 x := by
  rw [hq]
  exact h
theorem K_18_4 {q : Nat} {x : Int} (h : okK (rk q) 4 x) (hq : rk q = 18) : 0 ≤ x ∧ x ≤ 10 := by
  rw [hq] at h
  exact h
theorem Q_18_4 {q : Nat} {x : Int} (hq : rk q = 18) (h : 0 ≤ x ∧ x ≤ 10) : okK (rk q) 4 x := by
  rw [hq]
  exact h
theorem Q_0 {q k : Nat} {x : Int} (hq : rk q = 0) : okK (rk q) k x := by
  rw [hq]
  exact trivial
theorem Q_11_0 {q : Nat} {x : Int} (hq : rk q = 11) : okK (rk q) 0 x := by
  rw [hq]
  exact trivial
theorem Q_11_1 {q : Nat} {x : Int} (hq : rk q = 11) : okK (rk q) 1 x := by
  rw [hq]
  exact trivial
theorem Q_11_2 {q : Nat} {x : Int} (hq : rk q = 11) : okK (rk q) 2 x := by
  rw [hq]
  exact trivial
theorem Q_17_3 {q : Nat} {x : Int} (hq : rk q = 17) : okK (rk q) 3 x := by
  rw [hq]
  exact trivial
theorem Q_17_4 {q : Nat} {x : Int} (hq : rk q = 17) : okK (rk q) 4 x := by
  rw [hq]
  exact trivial
theorem Q_17_7 {q : Nat} {x : Int} (hq : rk q = 17) : okK (rk q) 7 x := by
  rw [hq]
  exact trivial
theorem Q_17_8 {q : Nat} {x : Int} (hq : rk q = 17) : okK (rk q) 8 x := by
  rw [hq]
  exact trivial
theorem Q_17_9 {q : Nat} {x : Int} (hq : rk q = 17) : okK (rk q) 9 x := by
  rw [hq]
  exact trivial
theorem U_0 {q q' : Nat} (h0 : rk q = 0) (h1 : rk q' = 0) : ∀ (k k' : Nat) (x : Int), okK (rk q) k x → okK (rk q') k' x := by
  intro k k' x h
  rw [h0] at h
  rw [h1]
  exact h
theorem U_1 {q q' : Nat} (h0 : rk q = 1) (h1 : rk q' = 1) : ∀ (k k' : Nat) (x : Int), okK (rk q) k x → okK (rk q') k' x := by
  intro k k' x h
  rw [h0] at h
  rw [h1]
  exact h
theorem U_2 {q q' : Nat} (h0 : rk q = 2) (h1 : rk q' = 2) : ∀ (k k' : Nat) (x : Int), okK (rk q) k x → okK (rk q') k' x := by
  intro k k' x h
  rw [h0] at h
  rw [h1]
  exact h
theorem U_3 {q q' : Nat} (h0 : rk q = 3) (h1 : rk q' = 3) : ∀ (k k' : Nat) (x : Int), okK (rk q) k x → okK (rk q') k' x := by
  intro k k' x h
  rw [h0] at h
  rw [h1]
  exact h
theorem U_4 {q q' : Nat} (h0 : rk q = 4) (h1 : rk q' = 4) : ∀ (k k' : Nat) (x : Int), okK (rk q) k x → okK (rk q') k' x := by
  intro k k' x h
  rw [h0] at h
  rw [h1]
  exact h
theorem U_5 {q q' : Nat} (h0 : rk q = 5) (h1 : rk q' = 5) : ∀ (k k' : Nat) (x : Int), okK (rk q) k x → okK (rk q') k' x := by
  intro k k' x h
  rw [h0] at h
  rw [h1]
  exact h
theorem U_6 {q q' : Nat} (h0 : rk q = 6) (h1 : rk q' = 6) : ∀ (k k' : Nat) (x : Int), okK (rk q) k x → okK (rk q') k' x := by
  intro k k' x h
  rw [h0] at h
  rw [h1]
  exact h
theorem U_7 {q q' : Nat} (h0 : rk q = 7) (h1 : rk q' = 7) : ∀ (k k' : Nat) (x : Int), okK (rk q) k x → okK (rk q') k' x := by
  intro k k' x h
  rw [h0] at h
  rw [h1]
  exact h
theorem U_8 {q q' : Nat} (h0 : rk q = 8) (h1 : rk q' = 8) : ∀ (k k' : Nat) (x : Int), okK (rk q) k x → okK (rk q') k' x := by
  intro k k' x h
  rw [h0] at h
  rw [h1]
  exact h
theorem U_9 {q q' : Nat} (h0 : rk q = 9) (h1 : rk q' = 9) : ∀ (k k' : Nat) (x : Int), okK (rk q) k x → okK (rk q') k' x := by
  intro k k' x h
  rw [h0] at h
  rw [h1]
  exact h
