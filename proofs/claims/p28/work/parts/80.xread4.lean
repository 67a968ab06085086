/-! the reader: sums, what is asked -/
theorem vNO_tok {o : Int} {w : Int64} (h : 0 ≤ vNO o w) : o = 2 := by
  unfold vNO at h
  by_cases vho : o = 2
  · exact vho
  · rw [if_neg vho] at h
    exact absurd h (by decide)
/-- the sum goes on with the token t -/
def vGP (t pi : Int) (p : Nat → Int32) : Prop := (t = 43 ∨ t = 45 ∨ t = 42 ∨ t = 47) ∨ (t = 41 ∧ ∃ k : Nat, (k : Int) < pi ∧ (p k).toInt = 40)
theorem vGP.or {t pi : Int} {p : Nat → Int32} (h : vGP t pi p) : t = 43 ∨ t = 45 ∨ t = 42 ∨ t = 47 ∨ t = 41 := by
  rcases h with vh1 | vh2
  · omega
  · have vh3 := vh2.1
    omega
theorem vGP.pos {t pi pib pj : Int} {p : Nat → Int32} (h : vGP t pi p) (ht : t = 41) (c : ∀ k : Nat, pib ≤ (k : Int) → (k : Int) < pj → (p k).toInt < 40) (e : pi ≤ pj) : 0 < pib := by
  rcases h with vh1 | vh2
  · omega
  · obtain ⟨vh3, k, vhk, vhp⟩ := vh2
    refine Decidable.byContradiction fun vhn => ?_
    have vhc := c k (by omega) (by omega)
    omega
theorem vSV.wh {f p : Nat → Int32} {b s n t : Nat} {wr pi op z wh whb pl : Int} (h : vSV f p b s n t wr pi op z wh pl) (e : whb = wh) : vSV f p b s n t wr pi op z whb pl := by
  rw [e]
  exact h
theorem vSV.doneP {f p : Nat → Int32} {b s n t : Nat} {wr pi op z pl : Int} (h : vSV f p b s n t wr pi op z 1 pl) (e : pi ≤ 0) : vKK f b s (Int.toNat wr) (n + 1) t ∧ op = z ∧ 0 ≤ wr := by
  have vhp : pi = 0 := by
    have vh1 := h.1
    omega
  subst vhp
  exact h.done
theorem vSV.start2 {f p : Nat → Int32} {b s n t : Nat} {wr pi op z wh pl : Int} (h : vKK f b s (Int.toNat wr) n t) (hz : 0 ≤ op ∧ op ≤ 8) (hw : 0 ≤ wr) (hp : 0 ≤ pl) (e1 : pi = 0) (e2 : z = op) (e3 : wh = 0) : vSV f p b s n t wr pi op z wh pl := by
  subst e1 e2 e3
  exact vSV.start h hz hw hp
/-- two values are compared -/
theorem vKK.cmp {f f' : Nat → Int32} {b s n t i : Nat} {wr wrb : Int} {o v : Int32} (h : vKK f b s (Int.toNat wr) (n + 1 + 1) t) (c : vEm f' f i o v) (vhi : (i : Int) = b + 2 * wr) (ho : 10 ≤ o.toInt ∧ o.toInt < 20) (hw : wrb = wr + 1) (h0 : 0 ≤ wr) : vKK f' b s (Int.toNat wrb) n (t + 1) := by
  rw [show Int.toNat wrb = Int.toNat wr + 1 by omega]
  refine h.step c (by omega) ?_
  unfold vST
  omega
/-- a truth is turned -/
theorem vKK.nt {f f' : Nat → Int32} {b s n t i : Nat} {wr wrb : Int} {o v : Int32} (h : vKK f b s (Int.toNat wr) n (t + 1)) (c : vEm f' f i o v) (vhi : (i : Int) = b + 2 * wr) (ho : o.toInt = 20) (hw : wrb = wr + 1) (h0 : 0 ≤ wr) : vKK f' b s (Int.toNat wrb) n (t + 1) := by
  rw [show Int.toNat wrb = Int.toNat wr + 1 by omega]
  refine h.step c (by omega) ?_
  unfold vST
  omega
/-- two truths become one -/
theorem vKK.jn {f f' : Nat → Int32} {b s n t i : Nat} {wr wrb : Int} {o v : Int32} (h : vKK f b s (Int.toNat wr) n t) (c : vEm f' f i o v) (vhi : (i : Int) = b + 2 * wr) (ho : 20 < o.toInt) (hw : wrb = wr + 1) (h0 : 0 ≤ wr) (ht : 2 ≤ t) : vKK f' b s (Int.toNat wrb) n (t - 1) := by
  rw [show Int.toNat wrb = Int.toNat wr + 1 by omega]
  refine h.step c (by omega) ?_
  unfold vST
  omega
theorem vKK.tt {f : Nat → Int32} {b s w n t tb : Nat} (h : vKK f b s w n t) (e : tb = t) : vKK f b s w n tb := by
  rw [e]
  exact h
