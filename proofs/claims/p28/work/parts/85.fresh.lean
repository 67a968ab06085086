/-! the fresh heap keeps what every state keeps; both sides together -/
def ckL {α : Type} (f : Nat → α → Bool) : List α → Nat → Bool
  | [], _ => true
  | a :: r, b => f b a && ckL f r (b + 1)
theorem ckL_ok {α : Type} {f : Nat → α → Bool} {d : α} (hd : ∀ i, f i d = true) : ∀ (l : List α) (b : Nat), ckL f l b = true → ∀ i, f (b + i) (nth d l i) = true
  | [], b, _, i => hd (b + i)
  | a :: r, b, h, 0 => ((Bool.and_eq_true _ _).mp h).1
  | a :: r, b, h, i + 1 => by
    have vh := ckL_ok hd r (b + 1) ((Bool.and_eq_true _ _).mp h).2 i
    rw [show b + (i + 1) = b + 1 + i by omega]
    exact vh
def ck3 {α : Type} (f : Nat → α → Bool) (t : T3 α) : Bool := ckL (fun a va => ckL (fun b vb => ckL (fun c v => f (256 * a + 16 * b + c) v) vb 0) va 0) t 0
theorem ck3_ok {α : Type} {f : Nat → α → Bool} {d : α} (hd : ∀ i, f i d = true) {t : T3 α} (h : ck3 f t = true) (i : Nat) : f i (g3 d t i) = true := by
  have vh1 := ckL_ok (f := fun a va => ckL (fun b vb => ckL (fun c v => f (256 * a + 16 * b + c) v) vb 0) va 0) (d := []) (fun _ => rfl) t 0 h (i / 256)
  have vh2 := ckL_ok (f := fun b vb => ckL (fun c v => f (256 * (0 + i / 256) + 16 * b + c) v) vb 0) (d := []) (fun _ => rfl) (nth [] t (i / 256)) 0 vh1 (i / 16 % 16)
  have vh3 := ckL_ok (f := fun c v => f (256 * (0 + i / 256) + 16 * (0 + i / 16 % 16) + c) v) (d := d) (fun c => hd _) (nth [] (nth [] t (i / 256)) (i / 16 % 16)) 0 vh2 (i % 16)
  have vhi : 256 * (0 + i / 256) + 16 * (0 + i / 16 % 16) + (0 + i % 16) = i := by omega
  have vh4 : f (256 * (0 + i / 256) + 16 * (0 + i / 16 % 16) + (0 + i % 16)) (nth d (nth [] (nth [] t (i / 256)) (i / 16 % 16)) (i % 16)) = true := vh3
  rw [vhi] at vh4
  exact vh4
theorem vK0 {kd k : Nat} : okK kd k 0 := by
  unfold okK
  split <;> (try split) <;> (first | exact trivial | omega)
theorem vK11 : ∀ {k : Nat} {x : Int}, ¬ k = 3 → okK 11 k x
  | 0, _, _ => trivial
  | 1, _, _ => trivial
  | 2, _, _ => trivial
  | 3, _, h => absurd rfl h
  | _ + 4, _, _ => trivial
def okKb (kd k : Nat) (v : Int32) : Bool := decide (v = 0 ∨ kd = 0 ∨ (kd = 11 ∧ ¬ k = 3) ∨ ((kd = 13 ∨ kd = 14) ∧ k = 6 ∧ v = -1))
theorem vK_ok {kd k : Nat} {v : Int32} (h : okKb kd k v = true) : okK kd k v.toInt := by
  rcases of_decide_eq_true h with h | h | h | h
  · rw [h, show (0 : Int32).toInt = 0 from rfl]
    exact vK0
  · rw [h]
    exact (show okK 0 k v.toInt from trivial)
  · rw [h.1]
    exact vK11 h.2
  · obtain ⟨vh1, vh2, vh3⟩ := h
    rw [vh2, vh3, show ((-1 : Int32)).toInt = -1 from rfl]
    rcases vh1 with vh1 | vh1
    · rw [vh1]
      exact (show (-1 : Int) ≤ -1 ∧ (-1 : Int) ≤ 3 from ⟨by decide, by decide⟩)
    · rw [vh1]
      exact (show (-1 : Int) ≤ -1 ∧ (-1 : Int) ≤ 3 from ⟨by decide, by decide⟩)
theorem vA0 {k : Nat} : okA k 0 := by
  unfold okA
  omega
def okAb (k : Nat) (v : Int32) : Bool := decide (v = 0 ∨ (k = 5 ∧ v = -1) ∨ k = 3 ∨ (11 ≤ k ∧ k < 116))
theorem vA_ok {k : Nat} {v : Int32} (h : okAb k v = true) : okA k v.toInt := by
  rcases of_decide_eq_true h with h | h | h
  · rw [h, show (0 : Int32).toInt = 0 from rfl]
    exact vA0
  · rw [h.2, show ((-1 : Int32)).toInt = -1 from rfl]
    exact B_TEXT h.1 (by omega)
  · rcases h with h | h
    · exact B_FREE (Or.inr (Or.inl h))
    · exact B_FREE (Or.inr (Or.inr (Or.inr (Or.inl h))))
theorem vT0 {k : Nat} : okT k 0 := ⟨fun _ => by omega, fun _ => by omega⟩
theorem vO0 {q k : Nat} : okO q k 0 := by
  unfold okO
  split <;> (try split) <;> (first | exact trivial | omega)
theorem vO355 {k : Nat} {x : Int} (h : k = 9 ∨ k = 10) : okO 355 k x := by
  rcases h with h | h
  · rw [h]
    exact trivial
  · rw [h]
    exact trivial
def okOb (q k : Nat) (v : Int32) : Bool := decide (v = 0 ∨ q = 356 ∨ q = 357 ∨ (q = 355 ∧ (k = 9 ∨ k = 10)))
theorem vO_ok {q k : Nat} {v : Int32} (h : okOb q k v = true) : okO q k v.toInt := by
  rcases of_decide_eq_true h with h | h | h | h
  · rw [h, show (0 : Int32).toInt = 0 from rfl]
    exact vO0
  · rw [h]
    exact trivial
  · rw [h]
    exact trivial
  · rw [h.1]
    exact vO355 h.2
set_option maxRecDepth 1000000 in
theorem vfr_c : ck3 (fun q row => decide (355 ≤ q) || ck3 (fun k v => okKb (rk q) k v) row) e2.2.2.1 = true := by decide +kernel
set_option maxRecDepth 1000000 in
theorem vfr_r : ck3 (fun q row => decide (q < 355) || ck3 (fun k v => okOb q k v) row) e2.2.2.1 = true := by decide +kernel
set_option maxRecDepth 1000000 in
theorem vfr_a : ck3 (fun k v => okAb k v) (g3 [] e2.2.2.1 356) = true := by decide +kernel
set_option maxRecDepth 1000000 in
theorem vfr_b : ck3 (fun k v => okAb k v) (g3 [] e2.2.2.1 357) = true := by decide +kernel
set_option maxRecDepth 1000000 in
theorem vfr_t : ck3 (fun _ v => decide (v = (0 : Int32))) (g3 [] e2.2.2.1 358) = true := by decide +kernel
theorem vfr_cK {q k : Nat} (hq : q < 355) : okK (rk q) k (eI e2 q k).toInt := by
  have vh1 := ck3_ok (f := fun q row => decide (355 ≤ q) || ck3 (fun k v => okKb (rk q) k v) row) (d := []) (fun i => (Bool.or_eq_true _ _).mpr (Or.inr rfl)) vfr_c q
  rcases (Bool.or_eq_true _ _).mp vh1 with vh2 | vh2
  · exact absurd (of_decide_eq_true vh2) (by omega)
  · exact vK_ok (ck3_ok (f := fun k v => okKb (rk q) k v) (d := 0) (fun i => decide_eq_true (Or.inl rfl)) vh2 k)
theorem vfr_rO {q k : Nat} (hq : 355 ≤ q) : okO q k (eI e2 q k).toInt := by
  have vh1 := ck3_ok (f := fun q row => decide (q < 355) || ck3 (fun k v => okOb q k v) row) (d := []) (fun i => (Bool.or_eq_true _ _).mpr (Or.inr rfl)) vfr_r q
  rcases (Bool.or_eq_true _ _).mp vh1 with vh2 | vh2
  · exact absurd (of_decide_eq_true vh2) (by omega)
  · exact vO_ok (ck3_ok (f := fun k v => okOb q k v) (d := 0) (fun i => decide_eq_true (Or.inl rfl)) vh2 k)
theorem vfr_aA {k : Nat} : okA k (eI e2 356 k).toInt := vA_ok (ck3_ok (f := fun k v => okAb k v) (d := 0) (fun i => decide_eq_true (Or.inl rfl)) vfr_a k)
theorem vfr_bA {k : Nat} : okA k (eI e2 357 k).toInt := vA_ok (ck3_ok (f := fun k v => okAb k v) (d := 0) (fun i => decide_eq_true (Or.inl rfl)) vfr_b k)
theorem vfr_tT {k : Nat} : okT k (eI e2 358 k).toInt := by
  have vh := of_decide_eq_true (ck3_ok (f := fun _ v => decide (v = (0 : Int32))) (d := 0) (fun _ => decide_eq_true rfl) vfr_t k)
  rw [show eI e2 358 k = 0 from vh, show (0 : Int32).toInt = 0 from rfl]
  exact vT0
/-- both sides, as they go from call to call -/
def IB (g : LH) : Prop := ∃ n m : Nat, Inv (n, m, Gi g) g ∧ InvR (n, m, Gi g) g
set_option maxRecDepth 1000000 in
theorem vIB_e2 (x : Option (Nat × (Nat → Int32))) : IB (eV x e2) := by
  have vh0 : (eI e2 356 4).toInt = 0 := by decide +kernel
  refine ⟨0, 0, ⟨rfl, fun _ _ => rfl, fun _ _ => rfl, Or.inl ?_, fun q k hq => vfr_cK hq, fun _ _ _ => rfl, ?_, ?_⟩, ⟨rfl, fun _ _ => rfl, fun _ _ _ => rfl, fun k => vfr_aA, fun k => vfr_bA, fun k => vfr_tT, fun q k hq => vfr_rO hq, ⟨?_, ?_, ?_, fun t ht => ?_⟩, ?_, ?_⟩⟩
  · show eR e2 338 1 = none
    decide +kernel
  · show (eI e2 1 7).toInt = 0
    decide +kernel
  · show (eI e2 146 7).toInt = 0
    decide +kernel
  · show (eI e2 356 5).toInt < (eI e2 356 4).toInt
    decide +kernel
  · show (eI e2 357 5).toInt < (eI e2 357 4).toInt
    decide +kernel
  · show (eI e2 357 4).toInt ≤ (eI e2 356 4).toInt
    decide +kernel
  · have vh1 : (t : Int) < (eI e2 356 4).toInt := ht
    exact absurd vh1 (by omega)
  · show (eI e2 356 8).toInt = 0
    decide +kernel
  · show (eI e2 357 8).toInt = 0
    decide +kernel
/-- behind a call of the class's -/
theorem vIB_c {n m na ma : Nat} {g g' : LH} (V : Inv (na, ma, Gi g) g') (W : InvR (n, m, Gi g) g) : InvR (n, m, Gi g') g' := by
  have ve : ∀ q, 355 ≤ q → Gi g' q = Gi g q := fun q hq => funext fun k => V.2.2.2.2.2.1 q k hq
  refine ⟨V.1, fun q hq => V.2.1 q (by omega), fun _ _ _ => rfl, fun k => ?_, fun k => ?_, fun k => ?_, fun q k hq => ?_, ?_, ?_, ?_⟩
  · rw [ve 356 (by decide)]
    exact W.2.2.2.1 k
  · rw [ve 357 (by decide)]
    exact W.2.2.2.2.1 k
  · rw [ve 358 (by decide)]
    exact W.2.2.2.2.2.1 k
  · rw [ve q hq]
    exact W.2.2.2.2.2.2.1 q k hq
  · unfold okX
    rw [ve 356 (by decide), ve 357 (by decide), ve 358 (by decide)]
    exact W.2.2.2.2.2.2.2.1
  · rw [ve 356 (by decide)]
    exact W.2.2.2.2.2.2.2.2.1
  · rw [ve 357 (by decide)]
    exact W.2.2.2.2.2.2.2.2.2
theorem vIB_s {na ma : Nat} {g g' : LH} (V : Inv (na, ma, Gi g) g') : Inv (na, ma, Gi g') g' := ⟨V.1, V.2.1, V.2.2.1, V.2.2.2.1, V.2.2.2.2.1, fun _ _ _ => rfl, V.2.2.2.2.2.2⟩
/-- behind a call of the reference's -/
theorem vIB_r {n m na ma : Nat} {g g' : LH} (W : InvR (na, ma, Gi g) g') (hG : Gr g' = Gr g) (V : Inv (n, m, Gi g) g) : Inv (n, m, Gi g') g' := by
  have ve : ∀ q, q < 355 → Gi g' q = Gi g q := fun q hq => funext fun k => W.2.2.1 q k hq
  refine ⟨W.1, fun q hq => ?_, fun k hk => ?_, ?_, fun q k hq => ?_, fun _ _ _ => rfl, ?_, ?_⟩
  · rw [hG]
    exact V.2.1 q hq
  · rw [hG]
    exact V.2.2.1 k hk
  · rw [hG]
    exact V.2.2.2.1
  · rw [ve q hq]
    exact V.2.2.2.2.1 q k hq
  · rw [ve 1 (by decide)]
    exact V.2.2.2.2.2.2.1
  · rw [ve 146 (by decide)]
    exact V.2.2.2.2.2.2.2
theorem vIB_t {na ma : Nat} {g g' : LH} (W : InvR (na, ma, Gi g) g') : InvR (na, ma, Gi g') g' := ⟨W.1, W.2.1, fun _ _ _ => rfl, W.2.2.2⟩
theorem LW_gx {j d bc bs pc : Nat} {ls : List (Option Value)} {st : List Value} {g : LH} {Q : Option Value → LH → Prop} (h : LW j d bc bs pc ls st g Q) : LW j d bc bs pc ls st g (fun v g' => Q v g' ∧ Gx g' = Gx g) :=
  fun p l e R s m args below meth c H locs cells slots Z D aC ρ A H0 b lsR X hc hs hw hl ho hz => h p l e R s m args below meth c H locs cells slots Z D aC ρ A H0 b lsR X hc hs hw hl ho (fun v g' ρ' H' locs' cells' slots' pc' ls' hQ h1 h2 h3 => hz v g' ρ' H' locs' cells' slots' pc' ls' ⟨hQ, h3⟩ h1 h2 h3)
/-- the script's numbers -/
theorem vX_sld {j d bc bs pc pc' : Nat} {ls : List (Option Value)} {st : List Value} {g : LH} {Q : Option Value → LH → Prop} {L : Nat} {xs : Nat → Int32} {i : Int32} {a : Int} (h : lk j pc = some (.iaload, 1)) (hp : pc + 1 = pc') (hx : Gx g = some (L, xs)) (ha : i.toInt = a) (hb : 0 ≤ a ∧ a < (L : Int)) (k : LW j d bc bs pc' ls (.int (xs (Int.toNat a)) :: st) g Q) : LW j d bc bs pc ls (.int i :: .retAddr 0 :: st) g Q :=
  X_sld h hp hx (ti_idx ha hb).1 (congrArg xs (ti_idx ha hb).2) k
theorem vofN {L : Nat} (hL : L ≤ 3072) : (Int32.ofNat L).toInt = (L : Int) := Int32.toInt_ofNat_of_lt (by omega)
