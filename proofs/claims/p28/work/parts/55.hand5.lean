/-! the reference: copy, image, back; what `by` and `party` write -/
theorem InvR_putG {P : Par} {g : LH} {k n : Nat} {x : Int32} (V : InvR P g) (h : okA k x.toInt) (hx : okX (putI g 356 k x)) (h8 : (Gi (putI g 356 k x) 356 8).toInt = ((n : Nat) : Int)) : InvR (n, P.2) (putI g 356 k x) := by
  have e : ∀ q' k', q' ≠ 356 → Gi (putI g 356 k x) q' k' = Gi g q' k' := fun q' k' hq => putI_o q' k' (Or.inl hq)
  refine ⟨V.1, V.2.1, fun q' k' h' => ?_, fun k' => ?_, fun k' => ?_, fun k' => ?_, fun q' k' h' => ?_, hx, h8, ?_⟩
  · rw [e q' k' (by omega)]
    exact V.2.2.1 q' k' h'
  · by_cases hq : k' = k
    · subst hq
      rw [putI_s]
      exact h
    · rw [putI_o 356 k' (Or.inr hq)]
      exact V.2.2.2.1 k'
  · rw [e 357 k' (by decide)]
    exact V.2.2.2.2.1 k'
  · rw [e 358 k' (by decide)]
    exact V.2.2.2.2.2.1 k'
  · by_cases hq : q' = 356
    · subst hq
      exact trivial
    · rw [e q' k' hq]
      exact V.2.2.2.2.2.2.1 q' k' h'
  · rw [e 357 8 (by decide)]
    exact V.2.2.2.2.2.2.2.2.2
theorem InvR_putT {P : Par} {g : LH} {x : Int32} (V : InvR P g) (h : (-1) ≤ x.toInt ∧ x.toInt < (Gi g 356 4).toInt) : InvR P (putI g 356 5 x) := by
  have vf := A_TEXTS (V.2.2.2.1 4) rfl
  refine InvR_putG (n := P.1) V (B_TEXT rfl (by omega)) ⟨?_, ?_, ?_, fun t ht => ?_⟩ ?_
  · rw [putI_s, putI_o 356 4 (Or.inr (by decide))]
    exact h.2
  · rw [putI_o 357 5 (Or.inl (by decide)), putI_o 357 4 (Or.inl (by decide))]
    exact V.2.2.2.2.2.2.2.1.2.1
  · rw [putI_o 357 4 (Or.inl (by decide)), putI_o 356 4 (Or.inr (by decide))]
    exact V.2.2.2.2.2.2.2.1.2.2.1
  · rw [putI_o 356 4 (Or.inr (by decide))] at ht
    rw [show Gi (putI g 356 5 x) 358 = Gi g 358 from funext fun k' => putI_o 358 k' (Or.inl (by decide))]
    exact V.2.2.2.2.2.2.2.1.2.2.2 t ht
  · rw [putI_o 356 8 (Or.inr (by decide))]
    exact V.2.2.2.2.2.2.2.2.1
theorem InvR_parN {P : Par} {g : LH} {n : Nat} {x : Int32} (V : InvR P g) (e : x.toInt = ((n : Nat) : Int)) (h : n ≤ 4) : InvR (n, P.2) (putI g 356 8 x) := by
  refine InvR_putG V (B_PARTS rfl (by omega)) ⟨?_, ?_, ?_, fun t ht => ?_⟩ ?_
  · rw [putI_o 356 5 (Or.inr (by decide)), putI_o 356 4 (Or.inr (by decide))]
    exact V.2.2.2.2.2.2.2.1.1
  · rw [putI_o 357 5 (Or.inl (by decide)), putI_o 357 4 (Or.inl (by decide))]
    exact V.2.2.2.2.2.2.2.1.2.1
  · rw [putI_o 357 4 (Or.inl (by decide)), putI_o 356 4 (Or.inr (by decide))]
    exact V.2.2.2.2.2.2.2.1.2.2.1
  · rw [putI_o 356 4 (Or.inr (by decide))] at ht
    rw [show Gi (putI g 356 8 x) 358 = Gi g 358 from funext fun k' => putI_o 358 k' (Or.inl (by decide))]
    exact V.2.2.2.2.2.2.2.1.2.2.2 t ht
  · rw [putI_s]
    exact e
theorem cpyR_o {g : LH} {a0 a1 n : Nat} (q k : Nat) (h : q ≠ a1) : Gi (cpyI g a0 a1 0 0 n) q k = Gi g q k := by
  show va_up (Gi g) a1 _ q k = _
  rw [va_up_ne _ _ h]
theorem cpyR_s {g : LH} {a0 a1 n : Nat} (k : Nat) : Gi (cpyI g a0 a1 0 0 n) a1 k = Gi g a0 k ∧ k < n ∨ Gi (cpyI g a0 a1 0 0 n) a1 k = Gi g a1 k ∧ n ≤ k := by
  have e : Gi (cpyI g a0 a1 0 0 n) a1 k = va_cpy (Gi g a0) (Gi g a1) 0 0 n k := by
    show va_up (Gi g) a1 _ a1 k = _
    rw [va_up_self]
  rw [e]
  by_cases hk : k < n
  · left
    refine ⟨?_, hk⟩
    rw [pk_cpy_in (Nat.zero_le k) (by omega)]
    congr 1
    omega
  · right
    exact ⟨pk_cpy_out (by omega), by omega⟩
theorem cpyR_i {g : LH} {a0 a1 n k : Nat} (hk : k < n) : Gi (cpyI g a0 a1 0 0 n) a1 k = Gi g a0 k := by
  rcases cpyR_s (g := g) (a0 := a0) (a1 := a1) (n := n) k with vh | vh
  · exact vh.1
  · omega
theorem InvR_img {P : Par} {g : LH} (V : InvR P g) : InvR (P.1, P.1, P.2.2) (cpyI g 356 357 0 0 3038) := by
  refine ⟨V.1, V.2.1, fun q' k' h' => ?_, fun k' => ?_, fun k' => ?_, fun k' => ?_, fun q' k' h' => ?_, ⟨?_, ?_, ?_, fun t ht => ?_⟩, ?_, ?_⟩
  · rw [cpyR_o q' k' (by omega)]
    exact V.2.2.1 q' k' h'
  · rw [cpyR_o 356 k' (by decide)]
    exact V.2.2.2.1 k'
  · rcases cpyR_s (g := g) (a0 := 356) (a1 := 357) (n := 3038) k' with vh | vh
    · rw [vh.1]
      exact V.2.2.2.1 k'
    · rw [vh.1]
      exact V.2.2.2.2.1 k'
  · rw [cpyR_o 358 k' (by decide)]
    exact V.2.2.2.2.2.1 k'
  · by_cases hq : q' = 357
    · subst hq
      exact trivial
    · rw [cpyR_o q' k' hq]
      exact V.2.2.2.2.2.2.1 q' k' h'
  · rw [cpyR_o 356 5 (by decide), cpyR_o 356 4 (by decide)]
    exact V.2.2.2.2.2.2.2.1.1
  · rw [cpyR_i (by decide), cpyR_i (by decide)]
    exact V.2.2.2.2.2.2.2.1.1
  · rw [cpyR_o 356 4 (by decide), cpyR_i (by decide)]
    exact Int.le_refl _
  · rw [cpyR_o 356 4 (by decide)] at ht
    rw [show Gi (cpyI g 356 357 0 0 3038) 358 = Gi g 358 from funext fun k' => cpyR_o 358 k' (by decide)]
    exact V.2.2.2.2.2.2.2.1.2.2.2 t ht
  · rw [cpyR_o 356 8 (by decide)]
    exact V.2.2.2.2.2.2.2.2.1
  · rw [cpyR_i (by decide)]
    exact V.2.2.2.2.2.2.2.2.1
theorem InvR_bck {P : Par} {g : LH} (V : InvR P g) : InvR (P.2.1, P.2.1, P.2.2) (cpyI g 357 356 0 0 3038) := by
  refine ⟨V.1, V.2.1, fun q' k' h' => ?_, fun k' => ?_, fun k' => ?_, fun k' => ?_, fun q' k' h' => ?_, ⟨?_, ?_, ?_, fun t ht => ?_⟩, ?_, ?_⟩
  · rw [cpyR_o q' k' (by omega)]
    exact V.2.2.1 q' k' h'
  · rcases cpyR_s (g := g) (a0 := 357) (a1 := 356) (n := 3038) k' with vh | vh
    · rw [vh.1]
      exact V.2.2.2.2.1 k'
    · rw [vh.1]
      exact V.2.2.2.1 k'
  · rw [cpyR_o 357 k' (by decide)]
    exact V.2.2.2.2.1 k'
  · rw [cpyR_o 358 k' (by decide)]
    exact V.2.2.2.2.2.1 k'
  · by_cases hq : q' = 356
    · subst hq
      exact trivial
    · rw [cpyR_o q' k' hq]
      exact V.2.2.2.2.2.2.1 q' k' h'
  · rw [cpyR_i (by decide), cpyR_i (by decide)]
    exact V.2.2.2.2.2.2.2.1.2.1
  · rw [cpyR_o 357 5 (by decide), cpyR_o 357 4 (by decide)]
    exact V.2.2.2.2.2.2.2.1.2.1
  · rw [cpyR_o 357 4 (by decide), cpyR_i (by decide)]
    exact Int.le_refl _
  · rw [cpyR_i (by decide)] at ht
    have vh := V.2.2.2.2.2.2.2.1.2.2.1
    rw [show Gi (cpyI g 357 356 0 0 3038) 358 = Gi g 358 from funext fun k' => cpyR_o 358 k' (by decide)]
    exact V.2.2.2.2.2.2.2.1.2.2.2 t (by omega)
  · rw [cpyR_i (by decide)]
    exact V.2.2.2.2.2.2.2.2.2
  · rw [cpyR_o 357 8 (by decide)]
    exact V.2.2.2.2.2.2.2.2.2
theorem cpyI_succ {g : LH} {a0 a1 i : Nat} (hne : a0 ≠ a1) : putI (cpyI g a0 a1 0 0 i) a1 i (Gi (cpyI g a0 a1 0 0 i) a0 i) = cpyI g a0 a1 0 0 (i + 1) := by
  unfold putI cpyI
  refine congrArg (fun z => (Gn g, Gs g, z, Gj g, Gr g, Gx g)) (funext fun q => funext fun k => ?_)
  show va_up (va_up (Gi g) a1 _) a1 (upd (va_up (Gi g) a1 _ a1) i (va_up (Gi g) a1 _ a0 i)) q k = va_up (Gi g) a1 _ q k
  rw [va_up_self, va_up_ne _ _ hne]
  unfold va_up upd va_cpy
  by_cases hq : q = a1
  · rw [if_pos hq, if_pos hq]
    by_cases hk : k = i
    · subst hk
      rw [if_pos rfl, if_pos (by omega)]
      congr 1
      omega
    · rw [if_neg hk]
      by_cases h : 0 ≤ k ∧ k < 0 + i
      · rw [if_pos h, if_pos (by omega)]
      · rw [if_neg h, if_neg (by omega)]
  · rw [if_neg hq, if_neg hq, if_neg hq]
theorem cpyI_zero {g : LH} {a0 a1 : Nat} : cpyI g a0 a1 0 0 0 = g := by
  unfold cpyI
  refine Eq.trans (congrArg (fun z => (Gn g, Gs g, z, Gj g, Gr g, Gx g)) (funext fun q => funext fun k => ?_)) rfl
  unfold va_up va_cpy
  split
  · rename_i h
    subst h
    dsimp only
    rw [if_neg (by omega)]
  · rfl
theorem r_copy_loop {g : LH} {a0 a1 d : Nat} {Q : Option Value → LH → Prop} (hne : a0 ≠ a1) (h0 : Gs g a0 = .inr (.int, 3038)) (h1 : Gs g a1 = .inr (.int, 3038)) (hQ : Q none (cpyI g a0 a1 0 0 3038)) : ∀ (m i : Nat), i + m = 3038 → LW 171 d 0 0 2 [some (.ref a0), some (.ref a1), some (.int (nI i))] [] (cpyI g a0 a1 0 0 i) Q := by
  intro m
  induction m with
  | zero =>
    intro i hi
    have hi : i = 3038 := by omega
    subst hi
    refine X_iload_n rfl rfl rfl rfl ?_
    refine X_sipush (v := (3038 : Int32)) rfl rfl rfl ?_
    refine X_icmp_ge (tgt := 21) rfl rfl rfl (fun _ => ?_) (fun q => absurd (show nI 3038 ≤ nI 3038 from nI_le (Nat.le_refl _) (by decide)) q)
    exact LW_return (st := []) rfl rfl hQ
  | succ m ih =>
    intro i hi
    refine X_iload_n rfl rfl rfl rfl ?_
    refine X_sipush (v := (3038 : Int32)) rfl rfl rfl ?_
    refine X_icmp_ge (tgt := 21) rfl rfl rfl (fun q => absurd q (show ¬ nI 3038 ≤ nI i from nI_ge (by omega) (by decide))) (fun _ => ?_)
    refine X_aload_n rfl rfl rfl rfl ?_
    refine X_iload_n rfl rfl rfl rfl ?_
    refine X_aload_n rfl rfl rfl rfl ?_
    refine X_iload_n rfl rfl rfl rfl ?_
    refine X_iald (v := Gi (cpyI g a0 a1 0 0 i) a0 i) rfl rfl h0 (vp_in_nI (by omega) (by decide)) (by rw [nI_clamp (by omega)]) ?_
    refine X_iast (k0 := i) rfl rfl h1 (vp_in_nI (by omega) (by decide)) (nI_clamp (by omega)) ?_
    rw [cpyI_succ hne]
    refine X_iinc (v := nI (i + 1)) (ls' := [some (.ref a0), some (.ref a1), some (.int (nI (i + 1)))]) rfl rfl rfl (nI_add i 1) rfl ?_
    refine LW_goto (tgt := 2) rfl rfl ?_
    exact ih (i + 1) (by omega)
theorem r_copy {g : LH} {a0 a1 d : Nat} (hne : a0 ≠ a1) (h0 : Gs g a0 = .inr (.int, 3038)) (h1 : Gs g a1 = .inr (.int, 3038)) : LW 171 d 0 0 0 (lEnt (mL 171) [.ref a0, .ref a1]) [] g (fun v g' => v = none ∧ g' = cpyI g a0 a1 0 0 3038) := by
  refine LW_ls (ls' := [some (.ref a0), some (.ref a1), none]) rfl ?_
  refine X_iconst (v := (0 : Int32)) rfl rfl rfl ?_
  refine X_istore_n (i := 2) (ls' := [some (.ref a0), some (.ref a1), some (.int (nI 0))]) rfl rfl rfl (Nat.le_of_ble_eq_true rfl) rfl ?_
  have h := r_copy_loop (d := d) (Q := fun v g' => v = none ∧ g' = cpyI g a0 a1 0 0 3038) hne h0 h1 ⟨rfl, rfl⟩ 3038 0 rfl
  rw [cpyI_zero] at h
  exact h
theorem C_X13_image {P : Par} {g : LH} {d : Nat} (V : InvR P g) : LW 316 (d + 3) 0 0 0 (lEnt (mL 316) [.ref 355]) [] g (fun v g' => ∃ r : Int32, v = some (.int r) ∧ InvR (P.1, P.1, P.2.2) g' ∧ Gr g' = Gr g) := by
  refine LW_ls (ls' := [some (.ref 355)]) rfl ?_
  refine X_aload_n rfl rfl rfl rfl ?_
  refine X_getR (a := 356) rfl rfl rfl ((congrFun V.1 355).trans s_355) rfl ((congrFun (V.2.1 355 (by decide)) 0).trans r_355_0) ?_
  refine X_aload_n rfl rfl rfl rfl ?_
  refine X_getR (a := 357) rfl rfl rfl ((congrFun V.1 355).trans s_355) rfl ((congrFun (V.2.1 355 (by decide)) 1).trans r_355_1) ?_
  refine Y_callS (as := [.ref 356, .ref 357]) (st := []) rfl rfl rfl (by decide) rfl (Nat.le_of_ble_eq_true rfl) (by decide) (Nat.le_of_ble_eq_true rfl) rfl (r_copy (by decide) ((congrFun V.1 356).trans s_356) ((congrFun V.1 357).trans s_357)) ?_
  rintro _ g' ⟨rfl, hgg⟩
  subst hgg
  have V := InvR_img V
  refine X_aload_n rfl rfl rfl rfl ?_
  refine X_getR (a := 356) rfl rfl rfl ((congrFun V.1 355).trans s_355) rfl ((congrFun (V.2.1 355 (by decide)) 0).trans r_355_0) ?_
  refine X_iconst (v := (2 : Int32)) rfl rfl rfl ?_
  refine S_iald rfl rfl ((congrFun V.1 356).trans s_356) (show (2 : Int32).toInt = 2 from rfl) (by omega) (fun vz1 evz1 => ?_)
  exact LW_ireturn (st := []) rfl rfl rfl ⟨_, rfl, V, rfl⟩
theorem C_X13_back {P : Par} {g : LH} {d : Nat} (V : InvR P g) : LW 317 (d + 3) 0 0 0 (lEnt (mL 317) [.ref 355]) [] g (fun v g' => ∃ r : Int32, v = some (.int r) ∧ InvR (P.2.1, P.2.1, P.2.2) g' ∧ Gr g' = Gr g) := by
  refine LW_ls (ls' := [some (.ref 355)]) rfl ?_
  refine X_aload_n rfl rfl rfl rfl ?_
  refine X_getR (a := 357) rfl rfl rfl ((congrFun V.1 355).trans s_355) rfl ((congrFun (V.2.1 355 (by decide)) 1).trans r_355_1) ?_
  refine X_aload_n rfl rfl rfl rfl ?_
  refine X_getR (a := 356) rfl rfl rfl ((congrFun V.1 355).trans s_355) rfl ((congrFun (V.2.1 355 (by decide)) 0).trans r_355_0) ?_
  refine Y_callS (as := [.ref 357, .ref 356]) (st := []) rfl rfl rfl (by decide) rfl (Nat.le_of_ble_eq_true rfl) (by decide) (Nat.le_of_ble_eq_true rfl) rfl (r_copy (by decide) ((congrFun V.1 357).trans s_357) ((congrFun V.1 356).trans s_356)) ?_
  rintro _ g' ⟨rfl, hgg⟩
  subst hgg
  have V := InvR_bck V
  refine X_aload_n rfl rfl rfl rfl ?_
  refine X_getR (a := 356) rfl rfl rfl ((congrFun V.1 355).trans s_355) rfl ((congrFun (V.2.1 355 (by decide)) 0).trans r_355_0) ?_
  refine X_iconst (v := (2 : Int32)) rfl rfl rfl ?_
  refine S_iald rfl rfl ((congrFun V.1 356).trans s_356) (show (2 : Int32).toInt = 2 from rfl) (by omega) (fun vz1 evz1 => ?_)
  exact LW_ireturn (st := []) rfl rfl rfl ⟨_, rfl, V, rfl⟩
