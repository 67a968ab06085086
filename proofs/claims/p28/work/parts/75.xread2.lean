/-! writing into texts that are still to come; a text that was read -/
theorem vokT_code {k t : Nat} {x : Int} (h : 873 * t + 265 ≤ k ∧ k < 873 * t + 873) : okT k x := by
  have vh1 : k % 873 = k - 873 * t := by
    rw [show k = (k - 873 * t) + 873 * t by omega, Nat.add_mul_mod_self_left]
    rw [Nat.mod_eq_of_lt (by omega)]
    omega
  exact ⟨fun q => absurd q (by rw [vh1]; omega), fun q => absurd q (by rw [vh1]; omega)⟩
theorem vokT_row {k t c m : Nat} {x : Int} (hk : k = 873 * t + 1 + 11 * c + m) (vhc : c < 24) (vhm : m < 11) (h : 3 ≤ m → (-1) ≤ x ∧ x ≤ 25) : okT k x := by
  have vh1 : k % 873 = 1 + 11 * c + m := by
    rw [hk, show 873 * t + 1 + 11 * c + m = (1 + 11 * c + m) + 873 * t by omega, Nat.add_mul_mod_self_left]
    exact Nat.mod_eq_of_lt (by omega)
  refine ⟨fun q => absurd q (by rw [vh1]; omega), fun q => h ?_⟩
  rw [vh1] at q
  omega
theorem vokT_count {k t : Nat} {x : Int} (hk : k = 873 * t) (h : 0 ≤ x ∧ x ≤ 24) : okT k x := by
  have vh1 : k % 873 = 0 := by rw [hk]; exact Nat.mul_mod_right 873 t
  exact ⟨fun _ => h, fun q => absurd q.1 (by rw [vh1]; omega)⟩
theorem vwfC_congr {f f' : Nat → Int32} {t c : Nat} (vhc : c < 24) (e : ∀ k : Nat, 873 * t ≤ k → k < 873 * t + 873 → f' k = f k) (h : wfC f t c) : wfC f' t c := by
  unfold wfC at h ⊢
  rw [e (873 * t + 1 + 11 * c) (by omega) (by omega), e (873 * t + 1 + 11 * c + 1) (by omega) (by omega), e (873 * t + 1 + 11 * c + 2) (by omega) (by omega)]
  refine ⟨h.1, fun vhs => ?_⟩
  obtain ⟨a, z, vh1, vh2, vh3, vh4, vh5⟩ := h.2 vhs
  refine ⟨a, z, vh1, vh2, vh3, vh4, ?_⟩
  rw [okc_congrB (z - a) (fun k hb hk => e k (by omega) (by omega))]
  exact vh5
theorem InvR_putX {P : Par} {g : LH} {k : Nat} {x : Int32} (V : InvR P g) (hk : 873 * (Gi g 356 4).toInt ≤ (k : Int)) (h : okT k x.toInt) : InvR P (putI g 358 k x) := by
  have e : ∀ q' k', q' ≠ 358 → Gi (putI g 358 k x) q' k' = Gi g q' k' := fun q' k' h' => putI_o q' k' (Or.inl h')
  have ve6 : Gi (putI g 358 k x) 356 = Gi g 356 := funext fun k' => e 356 k' (by decide)
  have ve7 : Gi (putI g 358 k x) 357 = Gi g 357 := funext fun k' => e 357 k' (by decide)
  refine ⟨V.1, V.2.1, fun q' k' h' => ?_, ?_, ?_, fun k' => ?_, fun q' k' h' => ?_, ⟨?_, ?_, ?_, fun t ht c vhc => ?_⟩, ?_, ?_⟩
  · rw [e q' k' (by omega)]
    exact V.2.2.1 q' k' h'
  · rw [ve6]
    exact V.2.2.2.1
  · rw [ve7]
    exact V.2.2.2.2.1
  · by_cases hq : k' = k
    · subst hq
      rw [putI_s]
      exact h
    · rw [putI_o 358 k' (Or.inr hq)]
      exact V.2.2.2.2.2.1 k'
  · by_cases hq : q' = 358
    · subst hq
      exact trivial
    · rw [e q' k' hq]
      exact V.2.2.2.2.2.2.1 q' k' h'
  · rw [ve6]
    exact V.2.2.2.2.2.2.2.1.1
  · rw [ve7]
    exact V.2.2.2.2.2.2.2.1.2.1
  · rw [ve6, ve7]
    exact V.2.2.2.2.2.2.2.1.2.2.1
  · rw [ve6] at ht
    have vhx : ∀ k' : Nat, 873 * t ≤ k' → k' < 873 * t + 873 → Gi (putI g 358 k x) 358 k' = Gi g 358 k' := fun k' h1 h2 => putI_o 358 k' (Or.inr (by omega))
    rw [vhx (873 * t) (by omega) (by omega)] at vhc
    have vh24 := (V.2.2.2.2.2.1 (873 * t)).1 (Nat.mul_mod_right 873 t)
    exact vwfC_congr (by omega) vhx (V.2.2.2.2.2.2.2.1.2.2.2 t ht c vhc)
  · rw [ve6]
    exact V.2.2.2.2.2.2.2.2.1
  · rw [ve7]
    exact V.2.2.2.2.2.2.2.2.2
theorem InvR_incT {P : Par} {g : LH} {x : Int32} (V : InvR P g) (hx : x.toInt = (Gi g 356 4).toInt + 1) (h4 : (Gi g 356 4).toInt ≤ 3) (h : wfT (Gi g 358) (Int.toNat (Gi g 356 4).toInt)) : InvR P (putI g 356 4 x) := by
  have e : ∀ q' k', q' ≠ 356 → Gi (putI g 356 4 x) q' k' = Gi g q' k' := fun q' k' hq => putI_o q' k' (Or.inl hq)
  have e' : ∀ k', k' ≠ 4 → Gi (putI g 356 4 x) 356 k' = Gi g 356 k' := fun k' hq => putI_o 356 k' (Or.inr hq)
  have vf := A_TEXTS (V.2.2.2.1 4) rfl
  refine ⟨V.1, V.2.1, fun q' k' h' => ?_, fun k' => ?_, fun k' => ?_, fun k' => ?_, fun q' k' h' => ?_, ⟨?_, ?_, ?_, fun t ht => ?_⟩, ?_, ?_⟩
  · rw [e q' k' (by omega)]
    exact V.2.2.1 q' k' h'
  · by_cases hq : k' = 4
    · subst hq
      rw [putI_s]
      exact B_TEXTS rfl (by omega)
    · rw [e' k' hq]
      exact V.2.2.2.1 k'
  · rw [e 357 k' (by decide)]
    exact V.2.2.2.2.1 k'
  · rw [e 358 k' (by decide)]
    exact V.2.2.2.2.2.1 k'
  · by_cases hq : q' = 356
    · subst hq
      exact trivial
    · rw [e q' k' hq]
      exact V.2.2.2.2.2.2.1 q' k' h'
  · have vhb := V.2.2.2.2.2.2.2.1.1
    rw [e' 5 (by decide), putI_s]
    omega
  · rw [e 357 5 (by decide), e 357 4 (by decide)]
    exact V.2.2.2.2.2.2.2.1.2.1
  · have vhb := V.2.2.2.2.2.2.2.1.2.2.1
    rw [e 357 4 (by decide), putI_s]
    omega
  · rw [putI_s] at ht
    rw [show Gi (putI g 356 4 x) 358 = Gi g 358 from funext fun k' => e 358 k' (by decide)]
    by_cases vhq : (t : Int) < (Gi g 356 4).toInt
    · exact V.2.2.2.2.2.2.2.1.2.2.2 t vhq
    · rw [show t = Int.toNat (Gi g 356 4).toInt by omega]
      exact h
  · rw [e' 8 (by decide)]
    exact V.2.2.2.2.2.2.2.2.1
  · rw [e 357 8 (by decide)]
    exact V.2.2.2.2.2.2.2.2.2
/-- a clause that was read; its cdv ends ahead of w -/
def vWC (f : Nat → Int32) (t c : Nat) (w : Int) : Prop :=
  ((f (873 * t + 1 + 11 * c)).toInt = 5 → 0 ≤ (f (873 * t + 1 + 11 * c + 1)).toInt ∧ (f (873 * t + 1 + 11 * c + 1)).toInt ≤ 8) ∧
  (0 ≤ (f (873 * t + 1 + 11 * c)).toInt ∧ (f (873 * t + 1 + 11 * c)).toInt ≤ 3 → ∃ a z : Nat, (f (873 * t + 1 + 11 * c + 1)).toInt = (a : Int) ∧ (f (873 * t + 1 + 11 * c + 2)).toInt = (z : Int) ∧ a ≤ z ∧ (z : Int) ≤ w ∧ okc f (873 * t + 265) a (z - a) ≠ none)
theorem vWC.to {f : Nat → Int32} {t c : Nat} {w : Int} (hw : w ≤ 304) (h : vWC f t c w) : wfC f t c := by
  refine ⟨h.1, fun vhs => ?_⟩
  obtain ⟨a, z, vh1, vh2, vh3, vh4, vh5⟩ := h.2 vhs
  exact ⟨a, z, vh1, vh2, vh3, by omega, vh5⟩
theorem vWC.keep {f f' : Nat → Int32} {t c : Nat} {w w' : Int} (hw : w ≤ w') (e : ∀ m : Nat, m < 3 → f' (873 * t + 1 + 11 * c + m) = f (873 * t + 1 + 11 * c + m)) (e2 : ∀ k : Nat, 873 * t + 265 ≤ k → (k : Int) < 873 * t + 265 + 2 * w → f' k = f k) (h : vWC f t c w) : vWC f' t c w' := by
  unfold vWC at h ⊢
  have ve0 := e 0 (by omega)
  rw [Nat.add_zero] at ve0
  rw [ve0, e 1 (by omega), e 2 (by omega)]
  refine ⟨h.1, fun vhs => ?_⟩
  obtain ⟨a, z, vh1, vh2, vh3, vh4, vh5⟩ := h.2 vhs
  refine ⟨a, z, vh1, vh2, vh3, by omega, ?_⟩
  rw [okc_congrB (z - a) (fun k hb hk => e2 k (by omega) (by omega))]
  exact vh5
/-- a text being read: its clauses so far -/
def vRT (f : Nat → Int32) (t cn w : Int) : Prop := ∀ c : Nat, (c : Int) < cn → vWC f (Int.toNat t) c w
theorem vRT.to {f : Nat → Int32} {t : Nat} {cn w : Int} (h : vRT f t cn w) (hw : w ≤ 304) (hc : (f (873 * t)).toInt ≤ cn) : wfT f t := fun c vhc => (h c (by omega)).to hw
