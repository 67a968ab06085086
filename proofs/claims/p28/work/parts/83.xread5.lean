/-! the reader: clauses, texts -/
theorem vKK.nil {f : Nat → Int32} {b s : Nat} : vKK f b s s 0 0 := by
  refine ⟨Nat.le_refl _, ?_⟩
  rw [Nat.sub_self]
  rfl
/-- a law that was read: its cdv ends ahead of w -/
def vLW (f : Nat → Int32) (b x : Nat) (w : Int) : Prop := ∃ a z : Nat, (f (x + 1)).toInt = (a : Int) ∧ (f (x + 2)).toInt = (z : Int) ∧ a ≤ z ∧ (z : Int) ≤ w ∧ okc f b a (z - a) ≠ none
theorem vLW.mk {f2 f3 : Nat → Int32} {b s n t x i1 i2 : Nat} {wr : Int} {a0 z0 : Int32} (h : vKK f2 b s (Int.toNat wr) n t) (e1 : f2 i1 = a0) (e3 : f3 i2 = z0) (vn3 : ∀ k : Nat, k ≠ i2 → f3 k = f2 k) (h1 : i1 = x + 1) (h2 : i2 = x + 2) (ha : a0.toInt = (s : Int)) (hz : z0.toInt = wr) (hw : 0 ≤ wr) (hb : i2 < b) : vLW f3 b x wr := by
  have vh1 := h.1
  refine ⟨s, Int.toNat wr, ?_, ?_, vh1, by omega, ?_⟩
  · rw [← h1, vn3 i1 (by omega), e1]
    exact ha
  · rw [← h2, e3]
    omega
  · rw [okc_congrB (Int.toNat wr - s) (fun k vhk1 vhk2 => vn3 k (by omega)), h.2]
    exact fun q => by cases q
/-- what a clause's body leaves -/
def vBW (o : Int) (f : Nat → Int32) (b x : Nat) (w : Int) : Prop := (o = 5 → 0 ≤ (f (x + 1)).toInt ∧ (f (x + 1)).toInt ≤ 8) ∧ (0 ≤ o ∧ o ≤ 3 → vLW f b x w)
theorem vBW.no {o : Int} {f : Nat → Int32} {b x : Nat} {w : Int} (h5 : ¬ o = 5) (h3 : 3 < o) : vBW o f b x w := ⟨fun q => absurd q h5, fun q => absurd q (by omega)⟩
theorem vBW.say {o : Int} {f : Nat → Int32} {b x i : Nat} {w : Int} (h : 0 ≤ (f i).toInt ∧ (f i).toInt ≤ 8) (vhi : i = x + 1) (ho : 3 < o) : vBW o f b x w := by
  subst vhi
  exact ⟨fun _ => h, fun q => absurd q (by omega)⟩
theorem vBW.law {o : Int} {f : Nat → Int32} {b x : Nat} {w : Int} (h : vLW f b x w) (ho : o ≤ 3) : vBW o f b x w := ⟨fun q => absurd q (by omega), fun _ => h⟩
theorem vRT.nil {f : Nat → Int32} {tx cn w : Int} (h : cn ≤ 0) : vRT f tx cn w := fun c vhc => absurd vhc (by omega)
/-- one clause more -/
theorem vRT.next {f0 f1 f2 : Nat → Int32} {tx cn w w2 y t0 t3 w3 : Int} {x i b : Nat} {s0 : Int32} (h : vRT f0 tx cn w) (vn1 : ∀ k : Nat, k ≠ i → f1 k = f0 k) (e1 : f1 i = s0) (vn2 : ∀ k : Nat, (k : Int) < t3 + 265 + 2 * w3 → ((k : Int) ≤ y ∨ y + 10 < (k : Int)) → f2 k = f1 k) (hb : vBW s0.toInt f2 b x w2) (ht : t0 = 873 * tx ∧ t3 = t0 ∧ w3 = w) (hx : (i : Int) = y ∧ (x : Int) = y ∧ y = t0 + 1 + 11 * cn) (vhb : (b : Int) = t0 + 265) (h0 : 0 ≤ tx ∧ 0 ≤ cn ∧ cn < 24 ∧ 0 ≤ w ∧ w ≤ w2) : vRT f2 tx (cn + 1) w2 := by
  obtain ⟨ht1, ht2, ht3⟩ := ht
  obtain ⟨hx1, hx2, hx3⟩ := hx
  obtain ⟨h01, h02, h03, h04, h05⟩ := h0
  have vtx : ((Int.toNat tx : Nat) : Int) = tx := by omega
  intro c vhc
  by_cases vhq : (c : Int) < cn
  · refine (h c vhq).keep h05 (fun m vhm => ?_) (fun k vhk1 vhk2 => ?_)
    · rw [vn2 _ (by omega) (Or.inl (by omega)), vn1 _ (by omega)]
    · rw [vn2 k (by omega) (Or.inr (by omega)), vn1 k (by omega)]
  · have vxe : 873 * Int.toNat tx + 1 + 11 * c = x := by omega
    have vbe : 873 * Int.toNat tx + 265 = b := by omega
    unfold vWC
    rw [vxe, vbe]
    have ve : f2 x = s0 := by
      rw [vn2 x (by omega) (Or.inl (by omega)), show x = i by omega]
      exact e1
    rw [ve]
    exact hb
theorem vRT.cnt {f2 f3 : Nat → Int32} {tx cn cnb w : Int} {j : Nat} (h : vRT f2 tx cn w) (vn3 : ∀ k : Nat, k ≠ j → f3 k = f2 k) (hj : (j : Int) = 873 * tx) (h0 : 0 ≤ tx) (hc : cnb = cn) : vRT f3 tx cnb w := by
  intro c vhc
  exact (h c (by omega)).keep (Int.le_refl _) (fun m vhm => vn3 _ (by omega)) (fun k vhk1 vhk2 => vn3 k (by omega))
theorem vRT.fin {f : Nat → Int32} {tx cn w : Int} {i : Nat} (h : vRT f tx cn w) (hw : w ≤ 304) (h0 : 0 ≤ tx) (vhi : (i : Int) = 873 * tx) (hc : cn = (f i).toInt) : wfT f (Int.toNat tx) := by
  intro c vhc
  rw [show 873 * Int.toNat tx = i by omega] at vhc
  exact (h c (by omega)).to hw
abbrev vsf (q k : Nat) : Prop := q = 356 ∨ q = 361 ∨ (q = 355 ∧ k = 8)
theorem vi_fa : ∀ q k, vsf q k → vsa q k := by intro q k h; unfold vsf at h; unfold vsa; omega
theorem vi_fd : ∀ q k, vsf q k → vsd q k := by intro q k h; unfold vsf at h; unfold vsd; omega
