/-! the class: Standing.move -/
theorem zs_10 : eS e2 10 = .inl 9 := by decide +kernel
theorem zs_12 : eS e2 12 = .inr (.int, 26) := by decide +kernel
theorem zr_10_5 : eR e2 10 5 = some 12 := by decide +kernel
/-- shapes and references are the fresh ones -/
def Sh (g : LH) : Prop := Gs g = eS e2 ∧ ∀ q, q < 355 → Gr g q = eR e2 q
def mvR (n i : Nat) (f : Nat → Int32) : Nat → Int32 := fun k => if k < i ∧ n / 2 ^ k % 2 = 1 then 0 else f k
def mvG (g : LH) (n i : Nat) : LH := (Gn g, Gs g, va_up (va_up (Gi g) 10 (upd (Gi g 10) 0 (Gi g 10 0 ^^^ nI n))) 12 (mvR n i (Gi g 12)), Gj g, Gr g, Gx g)
theorem mvG_zero {g : LH} {n : Nat} : mvG g n 0 = putI g 10 0 (Gi g 10 0 ^^^ nI n) := by
  unfold mvG putI
  refine congrArg (fun z => (Gn g, Gs g, z, Gj g, Gr g, Gx g)) (funext fun q => funext fun k => ?_)
  unfold va_up
  by_cases h12 : q = 12
  · subst h12
    rw [if_pos rfl, if_neg (by decide)]
    unfold mvR
    rw [if_neg (by omega)]
  · rw [if_neg h12]
theorem mvG_one {g : LH} {n i : Nat} (h : n / 2 ^ i % 2 = 1) : putI (mvG g n i) 12 i 0 = mvG g n (i + 1) := by
  unfold mvG putI
  refine congrArg (fun z => (Gn g, Gs g, z, Gj g, Gr g, Gx g)) (funext fun q => funext fun k => ?_)
  generalize va_up (Gi g) 10 (upd (Gi g 10) 0 (Gi g 10 0 ^^^ nI n)) = f
  show va_up (va_up f 12 (mvR n i (Gi g 12))) 12 (upd (va_up f 12 (mvR n i (Gi g 12)) 12) i 0) q k = _
  rw [va_up_self]
  unfold va_up upd mvR
  by_cases h12 : q = 12
  · rw [if_pos h12, if_pos h12]
    by_cases hk : k = i
    · subst hk
      rw [if_pos rfl, if_pos ⟨by omega, h⟩]
    · rw [if_neg hk]
      by_cases h2 : k < i ∧ n / 2 ^ k % 2 = 1
      · rw [if_pos h2, if_pos ⟨by omega, h2.2⟩]
      · rw [if_neg h2, if_neg (fun q => h2 ⟨by omega, q.2⟩)]
  · rw [if_neg h12, if_neg h12, if_neg h12]
theorem mvG_skip {g : LH} {n i : Nat} (h : ¬ n / 2 ^ i % 2 = 1) : mvG g n i = mvG g n (i + 1) := by
  unfold mvG
  refine congrArg (fun z => (Gn g, Gs g, va_up _ 12 z, Gj g, Gr g, Gx g)) (funext fun k => ?_)
  unfold mvR
  by_cases h2 : k < i ∧ n / 2 ^ k % 2 = 1
  · rw [if_pos h2, if_pos ⟨by omega, h2.2⟩]
  · rw [if_neg h2, if_neg (fun q => h2 ⟨by
      rcases Nat.lt_or_ge k i with h3 | h3
      · exact h3
      · have : k = i := by omega
        subst this
        exact absurd q.2 h, q.2⟩)]
theorem nI_bit {n k : Nat} : nI (n / 2 ^ k % 2) = 0 ↔ ¬ n / 2 ^ k % 2 = 1 := by
  have h : n / 2 ^ k % 2 < 2 := Nat.mod_lt _ (by decide)
  constructor
  · intro h0 h1
    rw [h1] at h0
    exact absurd h0 (by decide)
  · intro h1
    have : n / 2 ^ k % 2 = 0 := by omega
    rw [this]
    rfl
theorem c_move_loop {g : LH} (F : Sh g) {d n : Nat} (hn : n < 2 ^ 31) : ∀ (m i : Nat), i + m = 26 → LW 109 d 0 0 12 [some (.ref 10), some (.int (nI n)), some (.int (nI i))] [] (mvG g n i) (fun v g' => v = none ∧ g' = mvG g n 26) := by
  intro m
  induction m with
  | zero =>
    intro i hi
    have hi : i = 26 := by omega
    subst hi
    refine X_iload_n rfl rfl rfl rfl ?_
    refine X_bipush (v := (26 : Int32)) rfl rfl rfl ?_
    refine X_icmp_ge (tgt := 39) rfl rfl rfl (fun _ => ?_) (fun q => absurd (show nI 26 ≤ nI 26 from nI_le (Nat.le_refl _) (by decide)) q)
    exact LW_return (st := []) rfl rfl ⟨rfl, rfl⟩
  | succ m ih =>
    intro i hi
    have back : LW 109 d 0 0 33 [some (.ref 10), some (.int (nI n)), some (.int (nI i))] [] (mvG g n (i + 1)) (fun v g' => v = none ∧ g' = mvG g n 26) := by
      refine X_iinc (v := nI (i + 1)) (ls' := [some (.ref 10), some (.int (nI n)), some (.int (nI (i + 1)))]) rfl rfl rfl (nI_add i 1) rfl ?_
      refine LW_goto (tgt := 12) rfl rfl ?_
      exact ih (i + 1) (by omega)
    refine X_iload_n rfl rfl rfl rfl ?_
    refine X_bipush (v := (26 : Int32)) rfl rfl rfl ?_
    refine X_icmp_ge (tgt := 39) rfl rfl rfl (fun q => absurd q (show ¬ nI 26 ≤ nI i from nI_ge (by omega) (by decide))) (fun _ => ?_)
    refine X_iload_n rfl rfl rfl rfl ?_
    refine X_iload_n rfl rfl rfl rfl ?_
    refine X_ishr (v := nI n >>> (nI i &&& 31)) rfl rfl rfl ?_
    refine X_iconst (v := 1) rfl rfl rfl ?_
    refine X_iand (v := nI (n / 2 ^ i % 2)) rfl rfl (bit_nI hn (by omega)) ?_
    refine X_if_eq (tgt := 33) rfl rfl rfl (fun h => ?_) (fun h => ?_)
    · rw [mvG_skip (nI_bit.mp h)]
      exact back
    · have h1 : n / 2 ^ i % 2 = 1 := Classical.byContradiction fun q => h (nI_bit.mpr q)
      refine X_aload_n rfl rfl rfl rfl ?_
      refine X_getR (a := 12) rfl rfl rfl ((congrFun F.1 10).trans zs_10) rfl ((congrFun (F.2 10 (by decide)) 5).trans zr_10_5) ?_
      refine X_iload_n rfl rfl rfl rfl ?_
      refine X_iconst (v := 0) rfl rfl rfl ?_
      refine X_iast (k0 := i) rfl rfl ((congrFun F.1 12).trans zs_12) (vp_in_nI (by omega) (by decide)) (nI_clamp (by omega)) ?_
      rw [mvG_one h1]
      exact back
theorem c_move {g : LH} (F : Sh g) {d n : Nat} (hn : n < 2 ^ 31) : LW 109 d 0 0 0 (lEnt (mL 109) [.ref 10, .int (nI n)]) [] g (fun v g' => v = none ∧ g' = mvG g n 26) := by
  refine LW_ls (ls' := [some (.ref 10), some (.int (nI n)), none]) rfl ?_
  refine X_aload_n rfl rfl rfl rfl ?_
  refine X_dup rfl rfl rfl ?_
  refine X_getI (v := Gi g 10 0) rfl rfl rfl ((congrFun F.1 10).trans zs_10) rfl rfl ?_
  refine X_iload_n rfl rfl rfl rfl ?_
  refine X_ixor (v := Gi g 10 0 ^^^ nI n) rfl rfl rfl ?_
  refine X_putI rfl rfl rfl ((congrFun F.1 10).trans zs_10) rfl rfl rfl rfl ?_
  rw [← mvG_zero]
  refine X_iconst (v := 0) rfl rfl rfl ?_
  refine X_istore_n (i := 2) (ls' := [some (.ref 10), some (.int (nI n)), some (.int (nI 0))]) rfl rfl rfl (Nat.le_of_ble_eq_true rfl) rfl ?_
  exact c_move_loop F hn 26 0 rfl
