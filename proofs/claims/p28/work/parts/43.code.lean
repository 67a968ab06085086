/-! a law's cdv: what can be worked -/
theorem okc_succ {f : Nat → Int32} {b s m : Nat} (h : okc f b s m = none) : okc f b s (m + 1) = none := by
  unfold okc
  rw [h]
theorem okc_mono {f : Nat → Int32} {b s : Nat} : ∀ (k m : Nat), okc f b s (m + k) ≠ none → okc f b s m ≠ none
  | 0, _, h => h
  | k + 1, m, h => okc_mono k m (fun q => h (okc_succ q))
theorem okc_step {f : Nat → Int32} {b s m z n t : Nat} (h : okc f b s m = some (n, t)) (hz : okc f b s z ≠ none) (vhm : m < z) : ∃ n' t' : Nat, okc f b s (m + 1) = some (n', t') ∧
    (((f (b + 2 * (s + m))).toInt = 0 ∧ n' = n + 1 ∧ t' = t) ∨ ((f (b + 2 * (s + m))).toInt = 1 ∧ (0 ≤ (f (b + 2 * (s + m) + 1)).toInt ∧ (f (b + 2 * (s + m) + 1)).toInt ≤ 13) ∧ n' = n + 1 ∧ t' = t) ∨ ((f (b + 2 * (s + m))).toInt = 2 ∧ 1 ≤ n ∧ n' = n ∧ t' = t) ∨
    (3 ≤ (f (b + 2 * (s + m))).toInt ∧ (f (b + 2 * (s + m))).toInt < 10 ∧ 2 ≤ n ∧ n' = n - 1 ∧ t' = t) ∨ (10 ≤ (f (b + 2 * (s + m))).toInt ∧ (f (b + 2 * (s + m))).toInt < 20 ∧ 2 ≤ n ∧ n' = n - 2 ∧ t' = t + 1) ∨
    ((f (b + 2 * (s + m))).toInt = 20 ∧ 1 ≤ t ∧ n' = n ∧ t' = t) ∨ (20 < (f (b + 2 * (s + m))).toInt ∧ 2 ≤ t ∧ n' = n ∧ t' = t - 1)) := by
  have h1 : okc f b s (m + 1) ≠ none := okc_mono (z - (m + 1)) (m + 1) (by rw [show m + 1 + (z - (m + 1)) = z by omega]; exact hz)
  cases hh : okc f b s (m + 1) with
  | none => exact absurd hh h1
  | some p =>
    obtain ⟨n', t'⟩ := p
    refine ⟨n', t', rfl, ?_⟩
    unfold okc at hh
    rw [h] at hh
    dsimp only at hh
    generalize (f (b + 2 * (s + m))).toInt = oo at hh ⊢
    generalize (f (b + 2 * (s + m) + 1)).toInt = vv at hh ⊢
    split at hh
    · simp only [Option.some.injEq, Prod.mk.injEq] at hh
      omega
    · split at hh
      · split at hh
        · simp only [Option.some.injEq, Prod.mk.injEq] at hh
          omega
        · cases hh
      · split at hh
        · split at hh
          · simp only [Option.some.injEq, Prod.mk.injEq] at hh
            omega
          · cases hh
        · split at hh
          · cases hh
          · split at hh
            · split at hh
              · simp only [Option.some.injEq, Prod.mk.injEq] at hh
                omega
              · cases hh
            · split at hh
              · split at hh
                · simp only [Option.some.injEq, Prod.mk.injEq] at hh
                  omega
                · cases hh
              · split at hh
                · split at hh
                  · simp only [Option.some.injEq, Prod.mk.injEq] at hh
                    omega
                  · cases hh
                · split at hh
                  · simp only [Option.some.injEq, Prod.mk.injEq] at hh
                    omega
                  · cases hh
theorem okc_le {f : Nat → Int32} {b s : Nat} : ∀ (m n t : Nat), okc f b s m = some (n, t) → n ≤ m ∧ t ≤ m := by
  intro m
  induction m with
  | zero =>
    intro n t h
    unfold okc at h
    simp only [Option.some.injEq, Prod.mk.injEq] at h
    omega
  | succ m vih =>
    intro n t h
    have h1 : okc f b s m ≠ none := fun q => by rw [okc_succ q] at h; cases h
    cases hh : okc f b s m with
    | none => exact absurd hh h1
    | some p =>
      obtain ⟨vn0, t0'⟩ := p
      have h2 := vih vn0 t0' hh
      obtain ⟨n', t', h3, h4⟩ := okc_step (z := m + 1) hh (by rw [h]; exact fun q => by cases q) (Nat.lt_succ_self m)
      rw [h] at h3
      simp only [Option.some.injEq, Prod.mk.injEq] at h3
      omega
/-- a clause of THE TEXT has this sort -/
def CL (g : LH) (s r : Int) : Prop := 0 ≤ (Gi g 356 5).toInt ∧ 0 ≤ r ∧ r < (Gi g 358 (873 * Int.toNat (Gi g 356 5).toInt)).toInt ∧ (Gi g 358 (873 * Int.toNat (Gi g 356 5).toInt + 1 + 11 * Int.toNat r)).toInt = s
/-- a clause of THE TEXT is a law -/
def WK (g : LH) (c : Int) : Prop := ∃ s : Int, 0 ≤ s ∧ s ≤ 3 ∧ CL g s c
theorem WK.oth {g g' : LH} {c : Int} (n : ∀ q' k', q' ≠ 363 → Gi g' q' k' = Gi g q' k') (h : WK g c) : WK g' c := by
  obtain ⟨s, h0, h3, h⟩ := h
  refine ⟨s, h0, h3, ?_⟩
  unfold CL at h ⊢
  rw [n 356 5 (by decide), n 358 _ (by decide), n 358 _ (by decide)]
  exact h
/-- a law being worked: its cdv from a to z, m steps done -/
def WS (g : LH) (x cdv n t i : Int) (a z m nn tt : Nat) : Prop := (Gi g 358 (Int.toNat (x + 2))).toInt = (z : Int) ∧ z ≤ 304 ∧ okc (Gi g 358) (Int.toNat cdv) a (z - a) ≠ none ∧ okc (Gi g 358) (Int.toNat cdv) a m = some (nn, tt) ∧ i = ((a + m : Nat) : Int) ∧ a + m ≤ z ∧ n = (nn : Int) ∧ t = (tt : Int)
theorem WS.now {g g' : LH} {x cdv n t i : Int} {a z m nn tt : Nat} (e : Gi g' 358 = Gi g 358) (h : WS g x cdv n t i a z m nn tt) : WS g' x cdv n t i a z m nn tt := by
  unfold WS at h ⊢
  rw [e]
  exact h
theorem WS.start {P : Par} {g : LH} (V : InvR P g) {c : Int} (h : WK g c) : ∃ a z : Nat, (Gi g 358 (873 * Int.toNat (Gi g 356 5).toInt + 1 + 11 * Int.toNat c + 1)).toInt = (a : Int) ∧ a ≤ z ∧ z ≤ 304 ∧ WS g (((873 * Int.toNat (Gi g 356 5).toInt + 1 + 11 * Int.toNat c : Nat) : Int)) (((873 * Int.toNat (Gi g 356 5).toInt + 265 : Nat) : Int)) 0 0 (a : Int) a z 0 0 0 := by
  obtain ⟨s, hs0, hs3, h1, h2, h3, h4⟩ := h
  have hx := V.2.2.2.2.2.2.2.1
  have vhT := hx.1
  obtain ⟨a, z, vha, hz, haz, hz3, hk⟩ := (hx.2.2.2 (Int.toNat (Gi g 356 5).toInt) (by omega) (Int.toNat c) (by omega)).2 (by rw [h4]; exact ⟨hs0, hs3⟩)
  exact ⟨a, z, vha, haz, hz3, hz, hz3, hk, rfl, rfl, haz, rfl, rfl⟩
theorem WS.next {g : LH} {x cdv n t i : Int} {a z m nn tt : Nat} (h : WS g x cdv n t i a z m nn tt) (vhi : i < (z : Int)) : ∃ n' t' : Nat, n' ≤ 304 ∧ t' ≤ 304 ∧ WS g x cdv (n' : Int) (t' : Int) (i + 1) a z (m + 1) n' t' ∧ n = (nn : Int) ∧ t = (tt : Int) ∧ i = ((a + m : Nat) : Int) ∧
    (((Gi g 358 (Int.toNat cdv + 2 * Int.toNat i)).toInt = 0 ∧ n' = nn + 1 ∧ t' = tt) ∨ ((Gi g 358 (Int.toNat cdv + 2 * Int.toNat i)).toInt = 1 ∧ (0 ≤ (Gi g 358 (Int.toNat cdv + 2 * Int.toNat i + 1)).toInt ∧ (Gi g 358 (Int.toNat cdv + 2 * Int.toNat i + 1)).toInt ≤ 13) ∧ n' = nn + 1 ∧ t' = tt) ∨ ((Gi g 358 (Int.toNat cdv + 2 * Int.toNat i)).toInt = 2 ∧ 1 ≤ nn ∧ n' = nn ∧ t' = tt) ∨
    (3 ≤ (Gi g 358 (Int.toNat cdv + 2 * Int.toNat i)).toInt ∧ (Gi g 358 (Int.toNat cdv + 2 * Int.toNat i)).toInt < 10 ∧ 2 ≤ nn ∧ n' = nn - 1 ∧ t' = tt) ∨ (10 ≤ (Gi g 358 (Int.toNat cdv + 2 * Int.toNat i)).toInt ∧ (Gi g 358 (Int.toNat cdv + 2 * Int.toNat i)).toInt < 20 ∧ 2 ≤ nn ∧ n' = nn - 2 ∧ t' = tt + 1) ∨
    ((Gi g 358 (Int.toNat cdv + 2 * Int.toNat i)).toInt = 20 ∧ 1 ≤ tt ∧ n' = nn ∧ t' = tt) ∨ (20 < (Gi g 358 (Int.toNat cdv + 2 * Int.toNat i)).toInt ∧ 2 ≤ tt ∧ n' = nn ∧ t' = tt - 1)) := by
  obtain ⟨h1, h2, h3, h4, h5, h6, h7, h8⟩ := h
  obtain ⟨n', t', vk1, vk2⟩ := okc_step h4 h3 (by omega)
  have vk3 := okc_le _ _ _ vk1
  rw [show a + m = Int.toNat i by omega] at vk2
  exact ⟨n', t', by omega, by omega, ⟨h1, h2, h3, vk1, by omega, by omega, rfl, rfl⟩, h7, h8, h5, vk2⟩
