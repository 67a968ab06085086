/-! the reader of texts: what its methods leave as it is, what is written so far -/
/-- the places of S stay -/
def vSm (S : Nat → Nat → Prop) (g g0 : LH) : Prop := ∀ q k, S q k → Gi g q k = Gi g0 q k
theorem vSm.refl {S : Nat → Nat → Prop} {g : LH} : vSm S g g := fun _ _ _ => rfl
theorem vSm.put {S : Nat → Nat → Prop} {g g' g0 : LH} {q i : Nat} (h : vSm S g g0) (n : ∀ q' k', q' ≠ q ∨ k' ≠ i → Gi g' q' k' = Gi g q' k') (hS : ∀ q' k', S q' k' → q' ≠ q ∨ k' ≠ i) : vSm S g' g0 := fun a b c => (n a b (hS a b c)).trans (h a b c)
theorem vSm.all {S : Nat → Nat → Prop} {g g' g0 : LH} (h : vSm S g g0) (n : ∀ q' k', Gi g' q' k' = Gi g q' k') : vSm S g' g0 := fun a b c => (n a b).trans (h a b c)
theorem vSm.tr {S T : Nat → Nat → Prop} {g g' g0 : LH} (c : vSm T g' g) (vhS : ∀ q k, S q k → T q k) (h : vSm S g g0) : vSm S g' g0 := fun a b d => (c a b (vhS a b d)).trans (h a b d)
abbrev vsa (q k : Nat) : Prop := q ≠ 355 ∨ (k ≠ 11 ∧ k ≠ 12 ∧ k ≠ 13 ∧ k ≠ 14)
abbrev vsb (q k : Nat) : Prop := q ≠ 358 ∧ (q ≠ 355 ∨ k ≠ 18)
abbrev vsc (q k : Nat) : Prop := q ≠ 358 ∧ (q ≠ 355 ∨ (k ≠ 18 ∧ k ≠ 21 ∧ k ≠ 22 ∧ k ≠ 23))
abbrev vsd (q k : Nat) : Prop := q = 356 ∨ q = 361 ∨ (q = 355 ∧ (k = 8 ∨ k = 16))
abbrev vse (q k : Nat) : Prop := q = 356 ∨ q = 361 ∨ (q = 355 ∧ (k = 8 ∨ k = 16 ∨ k = 18 ∨ k = 22))
/-- what was written ahead stays -/
def vCd (g g0 : LH) : Prop := ∀ k : Nat, (k : Int) < (Gi g0 355 16).toInt + 265 + 2 * (Gi g0 355 18).toInt → Gi g 358 k = Gi g0 358 k
/-- one step of cdv comes -/
def vEm (f' f : Nat → Int32) (i : Nat) (o v : Int32) : Prop := f' i = o ∧ f' (i + 1) = v ∧ ∀ k : Nat, k ≠ i → k ≠ i + 1 → f' k = f k
theorem vCd.refl {g : LH} : vCd g g := fun _ _ => rfl
theorem vCd.oth {g g' g0 : LH} (h : vCd g g0) (n : ∀ k, Gi g' 358 k = Gi g 358 k) : vCd g' g0 := fun k vhk => (n k).trans (h k vhk)
theorem vCd.em {g g' g0 : LH} {i : Nat} {o v : Int32} (h : vCd g g0) (c : vEm (Gi g' 358) (Gi g 358) i o v) (vhi : (Gi g0 355 16).toInt + 265 + 2 * (Gi g0 355 18).toInt ≤ (i : Int)) : vCd g' g0 := fun k vhk => (c.2.2 k (by omega) (by omega)).trans (h k vhk)
theorem vCd.tr {g g' g0 : LH} (h : vCd g g0) (c : vCd g' g) (vhi : (Gi g0 355 16).toInt + 265 + 2 * (Gi g0 355 18).toInt ≤ (Gi g 355 16).toInt + 265 + 2 * (Gi g 355 18).toInt) : vCd g' g0 := fun k vhk => (c k (by omega)).trans (h k vhk)
/-- the reader's cdv of a law from s on, w its end: n values and t truths lie there -/
def vKK (f : Nat → Int32) (b s w n t : Nat) : Prop := s ≤ w ∧ okc f b s (w - s) = some (n, t)
theorem okc_congr {f f' : Nat → Int32} {b s : Nat} : ∀ m : Nat, (∀ k : Nat, k < b + 2 * (s + m) → f' k = f k) → okc f' b s m = okc f b s m := by
  intro m
  induction m with
  | zero => exact fun _ => rfl
  | succ m ih =>
    intro vh
    have vh1 := ih (fun k hk => vh k (by omega))
    unfold okc
    rw [vh1, vh (b + 2 * (s + m)) (by omega), vh (b + 2 * (s + m) + 1) (by omega)]
theorem okc_congrB {f f' : Nat → Int32} {b s : Nat} : ∀ m : Nat, (∀ k : Nat, b ≤ k → k < b + 2 * (s + m) → f' k = f k) → okc f' b s m = okc f b s m := by
  intro m
  induction m with
  | zero => exact fun _ => rfl
  | succ m ih =>
    intro vh
    have vh1 := ih (fun k hb hk => vh k hb (by omega))
    unfold okc
    rw [vh1, vh (b + 2 * (s + m)) (by omega) (by omega), vh (b + 2 * (s + m) + 1) (by omega) (by omega)]
theorem vKK.keep {f f' : Nat → Int32} {b s w n t : Nat} (h : vKK f b s w n t) (e : ∀ k : Nat, k < b + 2 * w → f' k = f k) : vKK f' b s w n t := by
  refine ⟨h.1, ?_⟩
  have vh1 := h.1
  rw [okc_congr (w - s) (fun k hk => e k (by omega))]
  exact h.2
/-- what a step does to the heights -/
def vST (o v : Int) (n t n' t' : Nat) : Prop := (o = 0 ∧ n' = n + 1 ∧ t' = t) ∨ (o = 1 ∧ 0 ≤ v ∧ v ≤ 13 ∧ n' = n + 1 ∧ t' = t) ∨ (o = 2 ∧ 1 ≤ n ∧ n' = n ∧ t' = t) ∨ (3 ≤ o ∧ o < 10 ∧ 2 ≤ n ∧ n' = n - 1 ∧ t' = t) ∨ (10 ≤ o ∧ o < 20 ∧ 2 ≤ n ∧ n' = n - 2 ∧ t' = t + 1) ∨ (o = 20 ∧ 1 ≤ t ∧ n' = n ∧ t' = t) ∨ (20 < o ∧ 2 ≤ t ∧ n' = n ∧ t' = t - 1)
theorem okc_next {f : Nat → Int32} {b s m n t n' t' : Nat} (h : okc f b s m = some (n, t)) (hs : vST (f (b + 2 * (s + m))).toInt (f (b + 2 * (s + m) + 1)).toInt n t n' t') : okc f b s (m + 1) = some (n', t') := by
  unfold okc
  rw [h]
  dsimp only
  generalize (f (b + 2 * (s + m))).toInt = oo at hs ⊢
  generalize (f (b + 2 * (s + m) + 1)).toInt = vv at hs ⊢
  rcases hs with ⟨h1, rfl, rfl⟩ | ⟨h1, h2, h3, rfl, rfl⟩ | ⟨h1, h2, rfl, rfl⟩ | ⟨h1, h2, h3, rfl, rfl⟩ | ⟨h1, h2, h3, rfl, rfl⟩ | ⟨h1, h2, rfl, rfl⟩ | ⟨h1, h2, rfl, rfl⟩
  · rw [if_pos h1]
  · rw [if_neg (by omega), if_pos h1, if_pos ⟨h2, h3⟩]
  · rw [if_neg (by omega), if_neg (by omega), if_pos h1, if_pos h2]
  · rw [if_neg (by omega), if_neg (by omega), if_neg (by omega), if_neg (by omega), if_pos h2, if_pos h3]
  · rw [if_neg (by omega), if_neg (by omega), if_neg (by omega), if_neg (by omega), if_neg (by omega), if_pos h2, if_pos h3]
  · rw [if_neg (by omega), if_neg (by omega), if_neg (by omega), if_neg (by omega), if_neg (by omega), if_neg (by omega), if_pos h1, if_pos h2]
  · rw [if_neg (by omega), if_neg (by omega), if_neg (by omega), if_neg (by omega), if_neg (by omega), if_neg (by omega), if_neg (by omega), if_pos h2]
theorem vKK.step {f f' : Nat → Int32} {b s w i n t n' t' : Nat} {o v : Int32} (h : vKK f b s w n t) (c : vEm f' f i o v) (vhi : i = b + 2 * w) (hs : vST o.toInt v.toInt n t n' t') : vKK f' b s (w + 1) n' t' := by
  have vh1 := h.1
  have vh2 := (h.keep (f' := f') (fun k hk => c.2.2 k (by omega) (by omega))).2
  refine ⟨by omega, ?_⟩
  rw [show w + 1 - s = (w - s) + 1 by omega]
  refine okc_next vh2 ?_
  rw [show b + 2 * (s + (w - s)) = i by omega, c.1, c.2.1]
  exact hs
/-- the binary ones in a pile -/
def vnb (p : Nat → Int32) : Nat → Nat
  | 0 => 0
  | k + 1 => vnb p k + if 3 ≤ (p k).toInt ∧ (p k).toInt < 40 then 1 else 0
theorem vnb_eq {p p' : Nat → Int32} : ∀ m : Nat, (∀ k : Nat, k < m → p' k = p k) → vnb p' m = vnb p m := by
  intro m
  induction m with
  | zero => exact fun _ => rfl
  | succ m ih =>
    intro vh
    show (vnb p' m + if 3 ≤ (p' m).toInt ∧ (p' m).toInt < 40 then 1 else 0) = vnb p m + if 3 ≤ (p m).toInt ∧ (p m).toInt < 40 then 1 else 0
    rw [ih (fun k hk => vh k (by omega)), vh m (Nat.lt_succ_self m)]
/-- a sum being read: what is written, the pile, how many are open (z of them from outside), whether the last one is whole, where the token is -/
def vSV (f p : Nat → Int32) (b s n t : Nat) (wr pi op z wh pl : Int) : Prop := 0 ≤ pi ∧ 0 ≤ wr ∧ 0 ≤ z ∧ op ≤ 8 ∧ (wh = 0 ∨ wh = 1) ∧ (∀ k : Nat, (k : Int) < pi → (2 ≤ (p k).toInt ∧ (p k).toInt ≤ 6) ∨ (p k).toInt = 40) ∧ ∃ B : Nat, vnb p (Int.toNat pi) = B ∧ vKK f b s (Int.toNat wr) (n + B + Int.toNat wh) t ∧ 2 * (B : Int) + wh ≤ pl ∧ pi - B + z = op
section SV
variable {f f' p p' : Nat → Int32} {b s n t i : Nat} {wr pi op z wh pl wrb pib opb plb : Int} {o v : Int32}
theorem vSV.ub (h : vSV f p b s n t wr pi op z wh pl) (hp : pl ≤ 300) : 0 ≤ pi ∧ pi ≤ 158 ∧ 0 ≤ wr ∧ pi + z ≤ op + 150 := by
  obtain ⟨vh1, vh2, vh3, vh4, vh5, vh6, B, vh7, vh8, vh9, vha⟩ := h
  omega
theorem vSV.opn (h : vSV f p b s n t wr pi op z wh pl) : 0 ≤ op ∧ op ≤ 8 ∧ z ≤ op := by
  obtain ⟨vh1, vh2, vh3, vh4, vh5, vh6, B, vh7, vh8, vh9, vha⟩ := h
  have vhb : ∀ m : Nat, vnb p m ≤ m := by
    intro m
    induction m with
    | zero => exact Nat.le_refl _
    | succ m ih =>
      show (vnb p m + if 3 ≤ (p m).toInt ∧ (p m).toInt < 40 then 1 else 0) ≤ m + 1
      split <;> omega
  have vhc := vhb (Int.toNat pi)
  omega
theorem vSV.start (h : vKK f b s (Int.toNat wr) n t) (hz : 0 ≤ z ∧ z ≤ 8) (hw : 0 ≤ wr) (hp : 0 ≤ pl) : vSV f p b s n t wr 0 z z 0 pl :=
  ⟨Int.le_refl _, hw, hz.1, hz.2, Or.inl rfl, fun k hk => absurd hk (by omega), 0, rfl, h, by omega, by omega⟩
theorem vSV.done (h : vSV f p b s n t wr 0 op z 1 pl) : vKK f b s (Int.toNat wr) (n + 1) t ∧ op = z ∧ 0 ≤ wr := by
  obtain ⟨vh1, vh2, vh3, vh4, vh5, vh6, B, vh7, vh8, vh9, vha⟩ := h
  have vhb : B = 0 := vh7.symm
  subst vhb
  exact ⟨vh8, by omega, vh2⟩
theorem vSV.mono (h : vSV f p b s n t wr pi op z wh pl) (hp : pl ≤ plb) : vSV f p b s n t wr pi op z wh plb := by
  obtain ⟨vh1, vh2, vh3, vh4, vh5, vh6, B, vh7, vh8, vh9, vha⟩ := h
  exact ⟨vh1, vh2, vh3, vh4, vh5, vh6, B, vh7, vh8, by omega, vha⟩
/-- a number or a name -/
theorem vSV.num (h : vSV f p b s n t wr pi op z 0 pl) (c : vEm f' f i o v) (vhi : (i : Int) = b + 2 * wr) (ho : o.toInt = 0 ∨ (o.toInt = 1 ∧ 0 ≤ v.toInt ∧ v.toInt ≤ 13)) (hw : wrb = wr + 1) (hp : pl < plb) : vSV f' p b s n t wrb pi op z 1 plb := by
  obtain ⟨vh1, vh2, vh3, vh4, vh5, vh6, B, vh7, vh8, vh9, vha⟩ := h
  refine ⟨vh1, by omega, vh3, vh4, Or.inr rfl, vh6, B, vh7, ?_, by omega, vha⟩
  rw [show Int.toNat wrb = Int.toNat wr + 1 by omega]
  refine vh8.step c (by omega) ?_
  unfold vST
  have vhb : Int.toNat 0 = 0 := rfl
  have vhc : Int.toNat 1 = 1 := rfl
  omega
theorem vSV.top (h : vSV f p b s n t wr pi op z wh pl) (hp : 0 < pi) : vnb p (Int.toNat pi) = vnb p (Int.toNat (pi - 1)) + if 3 ≤ (p (Int.toNat (pi - 1))).toInt ∧ (p (Int.toNat (pi - 1))).toInt < 40 then 1 else 0 := by
  rw [show Int.toNat pi = Int.toNat (pi - 1) + 1 by omega]
  rfl
/-- the minus on top is written -/
theorem vSV.neg (h : vSV f p b s n t wr pi op z 1 pl) (hp : 0 < pi) (he : (p (Int.toNat (pi - 1))).toInt = 2) (c : vEm f' f i o v) (vhi : (i : Int) = b + 2 * wr) (ho : o.toInt = 2) (hw : wrb = wr + 1) (hb : pib = pi - 1) (hc : opb = op - 1) : vSV f' p b s n t wrb pib opb z 1 pl := by
  have vht := h.top hp
  obtain ⟨vh1, vh2, vh3, vh4, vh5, vh6, B, vh7, vh8, vh9, vha⟩ := h
  rw [if_neg (by omega)] at vht
  subst hb hc
  refine ⟨by omega, by omega, vh3, by omega, Or.inr rfl, fun k hk => vh6 k (by omega), B, by omega, ?_, by omega, by omega⟩
  rw [show Int.toNat wrb = Int.toNat wr + 1 by omega]
  refine vh8.step c (by omega) ?_
  unfold vST
  have vhc : Int.toNat 1 = 1 := rfl
  omega
/-- the binary one on top is written -/
theorem vSV.bin (h : vSV f p b s n t wr pi op z 1 pl) (hp : 0 < pi) (he : 3 ≤ (p (Int.toNat (pi - 1))).toInt ∧ (p (Int.toNat (pi - 1))).toInt < 40) (c : vEm f' f i o v) (vhi : (i : Int) = b + 2 * wr) (ho : o.toInt = (p (Int.toNat (pi - 1))).toInt) (hw : wrb = wr + 1) (hb : pib = pi - 1) : vSV f' p b s n t wrb pib op z 1 pl := by
  have vht := h.top hp
  obtain ⟨vh1, vh2, vh3, vh4, vh5, vh6, B, vh7, vh8, vh9, vha⟩ := h
  have vhe := vh6 (Int.toNat (pi - 1)) (by omega)
  rw [if_pos he] at vht
  subst hb
  refine ⟨by omega, by omega, vh3, vh4, Or.inr rfl, fun k hk => vh6 k (by omega), vnb p (Int.toNat (pi - 1)), rfl, ?_, by omega, by omega⟩
  rw [show Int.toNat wrb = Int.toNat wr + 1 by omega]
  refine vh8.step c (by omega) ?_
  unfold vST
  have vhc : Int.toNat 1 = 1 := rfl
  omega
/-- what is open ends -/
theorem vSV.par (h : vSV f p b s n t wr pi op z 1 pl) (hp : 0 < pi) (he : ¬ (3 ≤ (p (Int.toNat (pi - 1))).toInt ∧ (p (Int.toNat (pi - 1))).toInt < 40)) (hb : pib = pi - 1) (hc : opb = op - 1) : vSV f p b s n t wr pib opb z 1 pl := by
  have vht := h.top hp
  obtain ⟨vh1, vh2, vh3, vh4, vh5, vh6, B, vh7, vh8, vh9, vha⟩ := h
  rw [if_neg he] at vht
  subst hb hc
  exact ⟨by omega, vh2, vh3, by omega, vh5, fun k hk => vh6 k (by omega), B, by omega, vh8, by omega, by omega⟩
/-- ( or - comes onto the pile -/
theorem vSV.pushU (h : vSV f p b s n t wr pi op z 0 pl) (n1 : ∀ k : Nat, k ≠ Int.toNat pi → p' k = p k) (he : (p' (Int.toNat pi)).toInt = 2 ∨ (p' (Int.toNat pi)).toInt = 40) (ho : op < 8) (hb : pib = pi + 1) (hc : opb = op + 1) (hp : pl ≤ plb) : vSV f p' b s n t wr pib opb z 0 plb := by
  obtain ⟨vh1, vh2, vh3, vh4, vh5, vh6, B, vh7, vh8, vh9, vha⟩ := h
  have vht : vnb p' (Int.toNat pib) = vnb p (Int.toNat pi) := by
    rw [show Int.toNat pib = Int.toNat pi + 1 by omega]
    show (vnb p' (Int.toNat pi) + if 3 ≤ (p' (Int.toNat pi)).toInt ∧ (p' (Int.toNat pi)).toInt < 40 then 1 else 0) = vnb p (Int.toNat pi)
    rw [if_neg (by omega)]
    exact vnb_eq (Int.toNat pi) (fun k hk => n1 k (by omega))
  refine ⟨by omega, vh2, vh3, by omega, vh5, fun k hk => ?_, B, by omega, vh8, by omega, by omega⟩
  by_cases hk2 : k = Int.toNat pi
  · subst hk2
    omega
  · rw [n1 k hk2]
    exact vh6 k (by omega)
/-- a binary one comes onto the pile -/
theorem vSV.pushB (h : vSV f p b s n t wr pi op z 1 pl) (n1 : ∀ k : Nat, k ≠ Int.toNat pi → p' k = p k) (he : 3 ≤ (p' (Int.toNat pi)).toInt ∧ (p' (Int.toNat pi)).toInt ≤ 6) (hb : pib = pi + 1) (hp : pl < plb) : vSV f p' b s n t wr pib op z 0 plb := by
  obtain ⟨vh1, vh2, vh3, vh4, vh5, vh6, B, vh7, vh8, vh9, vha⟩ := h
  have vht : vnb p' (Int.toNat pib) = vnb p (Int.toNat pi) + 1 := by
    rw [show Int.toNat pib = Int.toNat pi + 1 by omega]
    show (vnb p' (Int.toNat pi) + if 3 ≤ (p' (Int.toNat pi)).toInt ∧ (p' (Int.toNat pi)).toInt < 40 then 1 else 0) = vnb p (Int.toNat pi) + 1
    rw [if_pos (by omega), vnb_eq (Int.toNat pi) (fun k hk => n1 k (by omega))]
  refine ⟨by omega, vh2, vh3, vh4, Or.inl rfl, fun k hk => ?_, B + 1, by omega, ?_, by omega, by omega⟩
  · by_cases hk2 : k = Int.toNat pi
    · subst hk2
      omega
    · rw [n1 k hk2]
      exact vh6 k (by omega)
  · exact vh8
end SV
