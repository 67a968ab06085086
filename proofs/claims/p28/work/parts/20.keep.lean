/-! the class's side: what a writing keeps -/
theorem nneg {x : Int32} {a : Int} (h : x.toInt = a) (h0 : 0 ≤ a) : ¬ x < 0 := by
  intro q
  have q := Int32.lt_iff_toInt_lt.mp q
  rw [h, show (0 : Int32).toInt = 0 from rfl] at q
  omega
/-- what party answers, and how many there are then -/
def parA (n : Nat) (a : Int) : Int := if a = -1 then 0 else if a ≤ 0 then -2 else if 67108864 ≤ a then -2 else if 4 ≤ n then -2 else (n : Int) + 1
def parN (n : Nat) (a : Int) : Nat := if a = -1 then 0 else if a ≤ 0 then n else if 67108864 ≤ a then n else if 4 ≤ n then n else n + 1
theorem Inv_putI {P : Par} {g : LH} {q k : Nat} {x : Int32} (V : Inv P g) (hl : q < 355) (hn : (q ≠ 1 ∧ q ≠ 146) ∨ k ≠ 7) (h : okK (rk q) k x.toInt) : Inv P (putI g q k x) := by
  refine ⟨V.1, V.2.1, V.2.2.1, V.2.2.2.1, fun q' k' h' => ?_, fun q' k' h' => ?_, ?_, ?_⟩
  · by_cases hq : q' = q ∧ k' = k
    · obtain ⟨rfl, rfl⟩ := hq
      rw [putI_s]
      exact h
    · rw [putI_o q' k' (by omega)]
      exact V.2.2.2.2.1 q' k' h'
  · rw [putI_o q' k' (Or.inl (by omega))]
    exact V.2.2.2.2.2.1 q' k' h'
  · rw [putI_o 1 7 (by omega)]
    exact V.2.2.2.2.2.2.1
  · rw [putI_o 146 7 (by omega)]
    exact V.2.2.2.2.2.2.2
/-- the number of parties is written -/
theorem Inv_parN {P : Par} {g : LH} {n : Nat} {x : Int32} (V : Inv P g) (e : x.toInt = ((n : Nat) : Int)) (h : n ≤ 4) : Inv (n, P.2) (putI g 1 7 x) := by
  refine ⟨V.1, V.2.1, V.2.2.1, V.2.2.2.1, fun q' k' h' => ?_, fun q' k' h' => ?_, ?_, ?_⟩
  · by_cases hq : q' = 1 ∧ k' = 7
    · obtain ⟨rfl, rfl⟩ := hq
      rw [putI_s]
      exact Q_13_7 (by decide +kernel) ⟨by omega, by omega⟩
    · rw [putI_o q' k' (by omega)]
      exact V.2.2.2.2.1 q' k' h'
  · rw [putI_o q' k' (Or.inl (by omega))]
    exact V.2.2.2.2.2.1 q' k' h'
  · rw [putI_s]
    exact e
  · rw [putI_o 146 7 (Or.inl (by decide))]
    exact V.2.2.2.2.2.2.2
theorem Inv_parK {P : Par} {g : LH} {n : Nat} {x : Int32} (V : Inv P g) (e : x.toInt = ((n : Nat) : Int)) (h : n ≤ 4) : Inv (P.1, n, P.2.2) (putI g 146 7 x) := by
  refine ⟨V.1, V.2.1, V.2.2.1, V.2.2.2.1, fun q' k' h' => ?_, fun q' k' h' => ?_, ?_, ?_⟩
  · by_cases hq : q' = 146 ∧ k' = 7
    · obtain ⟨rfl, rfl⟩ := hq
      rw [putI_s]
      exact Q_14_7 (by decide +kernel) ⟨by omega, by omega⟩
    · rw [putI_o q' k' (by omega)]
      exact V.2.2.2.2.1 q' k' h'
  · rw [putI_o q' k' (Or.inl (by omega))]
    exact V.2.2.2.2.2.1 q' k' h'
  · rw [putI_o 1 7 (Or.inl (by decide))]
    exact V.2.2.2.2.2.2.1
  · rw [putI_s]
    exact e
theorem Inv_cpy {P : Par} {g : LH} {a0 a1 sp dp n : Nat} (V : Inv P g) (hl0 : a0 < 355) (hl : a1 < 355) (hn : a1 ≠ 1 ∧ a1 ≠ 146) (hu : ∀ k k' x, okK (rk a0) k x → okK (rk a1) k' x) : Inv P (cpyI g a0 a1 sp dp n) := by
  have ne : ∀ q' k', q' ≠ a1 → Gi (cpyI g a0 a1 sp dp n) q' k' = Gi g q' k' := by
    intro q' k' hq
    show va_up (Gi g) a1 _ q' k' = _
    rw [va_up_ne _ _ hq]
  refine ⟨V.1, V.2.1, V.2.2.1, V.2.2.2.1, fun q' k' h' => ?_, fun q' k' h' => ?_, ?_, ?_⟩
  · by_cases hq : q' = a1
    · subst hq
      show okK (rk q') k' (va_up (Gi g) q' (va_cpy (Gi g a0) (Gi g q') sp dp n) q' k').toInt
      rw [va_up_self]
      by_cases hk : dp ≤ k' ∧ k' < dp + n
      · rw [pk_cpy_in hk.1 hk.2]
        exact hu _ _ _ (V.2.2.2.2.1 a0 _ hl0)
      · rw [pk_cpy_out (by omega)]
        exact V.2.2.2.2.1 q' k' h'
    · rw [ne q' k' hq]
      exact V.2.2.2.2.1 q' k' h'
  · rw [ne q' k' (by omega)]
    exact V.2.2.2.2.2.1 q' k' h'
  · rw [ne 1 7 (fun e => hn.1 e.symm)]
    exact V.2.2.2.2.2.2.1
  · rw [ne 146 7 (fun e => hn.2 e.symm)]
    exact V.2.2.2.2.2.2.2
theorem Inv_txt {P : Par} {g : LH} {u : Nat} (V : Inv P g) (hu : u < 4) : Inv P (putR g 338 1 (some (292 + 10 * u))) ∧ Gr (putR g 338 1 (some (292 + 10 * u))) 338 1 = some (292 + 10 * u) := by
  have e1 : ∀ q k, q ≠ 338 → Gr (putR g 338 1 (some (292 + 10 * u))) q k = Gr g q k := by
    intro q k hq
    show va_up (Gr g) 338 _ q k = _
    rw [va_up_ne _ _ hq]
  have e2 : ∀ k, k ≠ 1 → Gr (putR g 338 1 (some (292 + 10 * u))) 338 k = Gr g 338 k := by
    intro k hk
    show va_up (Gr g) 338 (va_up (Gr g 338) 1 (some (292 + 10 * u))) 338 k = _
    rw [va_up_self, va_up_ne _ _ hk]
  have e3 : Gr (putR g 338 1 (some (292 + 10 * u))) 338 1 = some (292 + 10 * u) := by
    show va_up (Gr g) 338 (va_up (Gr g 338) 1 (some (292 + 10 * u))) 338 1 = _
    rw [va_up_self, va_up_self]
  exact ⟨⟨V.1, fun q hq => funext fun k => (e1 q k hq).trans (congrFun (V.2.1 q hq) k), fun k hk => (e2 k hk).trans (V.2.2.1 k hk), Or.inr ⟨u, hu, e3⟩, V.2.2.2.2⟩, e3⟩
theorem S_putText {j d bc bs pc pc' : Nat} {ls : List (Option Value)} {st : List Value} {g : LH} {Q : Option Value → LH → Prop} {P : Par} {idx u : Nat} (V : Inv P g) (hu : u < 4) (h : lk j pc = some (.putfield idx, 3)) (hp : pc + 3 = pc') (hf : fres j idx = some (8, 1)) (hfin : lFin 8 1 = false) (k : ∀ g' : LH, Inv P g' → Gr g' 338 1 = some (292 + 10 * u) → (∀ q' k', Gi g' q' k' = Gi g q' k') → LW j d bc bs pc' ls st g' Q) : LW j d bc bs pc ls (.ref (292 + 10 * u) :: .ref 338 :: st) g Q := by
  subst hp
  exact LW_putR (r := some (292 + 10 * u)) h hf ((congrFun V.1 338).trans s_338) rfl (Or.inl hfin) (k _ (Inv_txt V hu).1 (Inv_txt V hu).2 (fun _ _ => rfl))
/-- how many bits -/
theorem c_bc {g : LH} {d : Nat} {x : Int32} {y : Int} (hx : x.toInt = y) (n : Nat) (h : 0 ≤ y ∧ y < ((2 ^ n : Nat) : Int)) (hn : n ≤ 31) : LW 319 d 0 0 0 (lEnt (mL 319) [.int x]) [] g (fun v g' => ∃ r : Int32, v = some (.int r) ∧ 0 ≤ r.toInt ∧ r.toInt ≤ (n : Int) ∧ g = g') := by
  obtain ⟨k, hk, e, ek⟩ := nI_ex x (by omega)
  have hkn : k < 2 ^ n := by omega
  have hp : pcn 32 k ≤ n := by
    have h1 := pcn_add n (32 - n) k
    rw [show n + (32 - n) = 32 by omega, Nat.div_eq_of_lt hkn, pcn_zero] at h1
    rw [h1]
    exact pcn_le n k
  rw [e]
  refine LW_post ?_ (c_bitCount hk)
  rintro _ _ ⟨rfl, rfl⟩
  refine ⟨_, rfl, ?_, ?_, rfl⟩ <;> rw [nI_toInt (by omega)] <;> omega
