/-! the reference: copy, image, back -/
theorem cpyI_succ {g : LH} {a0 a1 i : Nat} (hne : a0 ≠ a1) : putI (cpyI g a0 a1 0 0 i) a1 i (Gi (cpyI g a0 a1 0 0 i) a0 i) = cpyI g a0 a1 0 0 (i + 1) := by
  unfold putI cpyI
  refine congrArg (fun z => (Gn g, Gs g, z, Gj g, Gr g, Gx g)) (funext fun q => funext fun k => ?_)
  show va_up (va_up (Gi g) a1 _) a1 (upd (va_up (Gi g) a1 _ a1) i (va_up (Gi g) a1 _ a0 i)) q k = va_up (Gi g) a1 _ q k
  rw [va_up_self, va_up_ne _ _ hne]
  unfold va_up upd va_cpy
  by_cases hq : q = a1
  · rw [if_pos hq, if_pos hq]
    by_cases hk : k = i
    · subst hk
      rw [if_pos rfl, if_pos (by omega)]
      congr 1
      omega
    · rw [if_neg hk]
      by_cases h : 0 ≤ k ∧ k < 0 + i
      · rw [if_pos h, if_pos (by omega)]
      · rw [if_neg h, if_neg (by omega)]
  · rw [if_neg hq, if_neg hq, if_neg hq]
theorem cpyI_zero {g : LH} {a0 a1 : Nat} : cpyI g a0 a1 0 0 0 = g := by
  unfold cpyI
  refine Eq.trans (congrArg (fun z => (Gn g, Gs g, z, Gj g, Gr g, Gx g)) (funext fun q => funext fun k => ?_)) rfl
  unfold va_up va_cpy
  split
  · rename_i h
    subst h
    dsimp only
    rw [if_neg (by omega)]
  · rfl
theorem r_copy_loop {g : LH} {a0 a1 d : Nat} {Q : Option Value → LH → Prop} (hne : a0 ≠ a1) (h0 : Gs g a0 = .inr (.int, 3038)) (h1 : Gs g a1 = .inr (.int, 3038)) (hQ : Q none (cpyI g a0 a1 0 0 3038)) : ∀ (m i : Nat), i + m = 3038 → LW 171 d 0 0 2 [some (.ref a0), some (.ref a1), some (.int (nI i))] [] (cpyI g a0 a1 0 0 i) Q := by
  intro m
  induction m with
  | zero =>
    intro i hi
    have hi : i = 3038 := by omega
    subst hi
    refine X_iload_n rfl rfl rfl rfl ?_
    refine X_sipush (v := (3038 : Int32)) rfl rfl rfl ?_
    refine X_icmp_ge (tgt := 21) rfl rfl rfl (fun _ => ?_) (fun q => absurd (show nI 3038 ≤ nI 3038 from nI_le (Nat.le_refl _) (by decide)) q)
    exact LW_return (st := []) rfl rfl hQ
  | succ m ih =>
    intro i hi
    refine X_iload_n rfl rfl rfl rfl ?_
    refine X_sipush (v := (3038 : Int32)) rfl rfl rfl ?_
    refine X_icmp_ge (tgt := 21) rfl rfl rfl (fun q => absurd q (show ¬ nI 3038 ≤ nI i from nI_ge (by omega) (by decide))) (fun _ => ?_)
    refine X_aload_n rfl rfl rfl rfl ?_
    refine X_iload_n rfl rfl rfl rfl ?_
    refine X_aload_n rfl rfl rfl rfl ?_
    refine X_iload_n rfl rfl rfl rfl ?_
    refine X_iald (v := Gi (cpyI g a0 a1 0 0 i) a0 i) rfl rfl h0 (vp_in_nI (by omega) (by decide)) (by rw [nI_clamp (by omega)]) ?_
    refine X_iast (k0 := i) rfl rfl h1 (vp_in_nI (by omega) (by decide)) (nI_clamp (by omega)) ?_
    rw [cpyI_succ hne]
    refine X_iinc (v := nI (i + 1)) (ls' := [some (.ref a0), some (.ref a1), some (.int (nI (i + 1)))]) rfl rfl rfl (nI_add i 1) rfl ?_
    refine LW_goto (tgt := 2) rfl rfl ?_
    exact ih (i + 1) (by omega)
theorem r_copy {g : LH} {a0 a1 d : Nat} (hne : a0 ≠ a1) (h0 : Gs g a0 = .inr (.int, 3038)) (h1 : Gs g a1 = .inr (.int, 3038)) : LW 171 d 0 0 0 (lEnt (mL 171) [.ref a0, .ref a1]) [] g (fun v g' => v = none ∧ g' = cpyI g a0 a1 0 0 3038) := by
  refine LW_ls (ls' := [some (.ref a0), some (.ref a1), none]) rfl ?_
  refine X_iconst (v := (0 : Int32)) rfl rfl rfl ?_
  refine X_istore_n (i := 2) (ls' := [some (.ref a0), some (.ref a1), some (.int (nI 0))]) rfl rfl rfl (Nat.le_of_ble_eq_true rfl) rfl ?_
  have h := r_copy_loop (d := d) (Q := fun v g' => v = none ∧ g' = cpyI g a0 a1 0 0 3038) hne h0 h1 ⟨rfl, rfl⟩ 3038 0 rfl
  rw [cpyI_zero] at h
  exact h
theorem zi_356_2 : eI e2 356 2 = 0 := by decide +kernel
theorem zi_357_2 : eI e2 357 2 = 0 := by decide +kernel
theorem zs_357 : eS e2 357 = .inr (.int, 3038) := by decide +kernel
theorem zr_355_1 : eR e2 355 1 = some 357 := by decide +kernel
theorem r_image {g : LH} (F : Fr g) : LW 316 30 0 0 0 (lEnt (mL 316) [.ref 355]) [] g (fun v _ => v = some (.int 0)) := by
  refine LW_ls (ls' := [some (.ref 355)]) rfl ?_
  refine X_aload_n rfl rfl rfl rfl ?_
  refine X_getR (a := 356) rfl rfl rfl ((congrFun F.1 355).trans s_355) rfl ((congrFun (F.2.1 355 (by decide)) 0).trans r_355_0) ?_
  refine X_aload_n rfl rfl rfl rfl ?_
  refine X_getR (a := 357) rfl rfl rfl ((congrFun F.1 355).trans s_355) rfl ((congrFun (F.2.1 355 (by decide)) 1).trans zr_355_1) ?_
  refine Y_callS (as := [.ref 356, .ref 357]) (st := []) rfl rfl rfl (by decide) rfl (Nat.le_of_ble_eq_true rfl) (by decide) (Nat.le_of_ble_eq_true rfl) rfl (r_copy (by decide) ((congrFun F.1 356).trans s_356) ((congrFun F.1 357).trans zs_357)) ?_
  rintro v g' ⟨rfl, rfl⟩
  refine X_aload_n rfl rfl rfl rfl ?_
  refine X_getR (a := 356) rfl rfl rfl ((congrFun F.1 355).trans s_355) rfl ((congrFun (F.2.1 355 (by decide)) 0).trans r_355_0) ?_
  refine X_iconst (v := (2 : Int32)) rfl rfl rfl ?_
  refine X_iald (v := (0 : Int32)) rfl rfl ((congrFun F.1 356).trans s_356) (vp_in_d rfl) ((congrFun (F.2.2 356 (by decide)).1 2).trans zi_356_2) ?_
  exact LW_ireturn (st := []) rfl rfl rfl rfl
theorem r_back {g : LH} (F : Fr g) : LW 317 30 0 0 0 (lEnt (mL 317) [.ref 355]) [] g (fun v _ => v = some (.int 0)) := by
  refine LW_ls (ls' := [some (.ref 355)]) rfl ?_
  refine X_aload_n rfl rfl rfl rfl ?_
  refine X_getR (a := 357) rfl rfl rfl ((congrFun F.1 355).trans s_355) rfl ((congrFun (F.2.1 355 (by decide)) 1).trans zr_355_1) ?_
  refine X_aload_n rfl rfl rfl rfl ?_
  refine X_getR (a := 356) rfl rfl rfl ((congrFun F.1 355).trans s_355) rfl ((congrFun (F.2.1 355 (by decide)) 0).trans r_355_0) ?_
  refine Y_callS (as := [.ref 357, .ref 356]) (st := []) rfl rfl rfl (by decide) rfl (Nat.le_of_ble_eq_true rfl) (by decide) (Nat.le_of_ble_eq_true rfl) rfl (r_copy (by decide) ((congrFun F.1 357).trans zs_357) ((congrFun F.1 356).trans s_356)) ?_
  rintro v g' ⟨rfl, rfl⟩
  refine X_aload_n rfl rfl rfl rfl ?_
  refine X_getR (a := 356) rfl rfl rfl ((congrFun F.1 355).trans s_355) rfl ((congrFun (F.2.1 355 (by decide)) 0).trans r_355_0) ?_
  refine X_iconst (v := (2 : Int32)) rfl rfl rfl ?_
  refine X_iald (v := (0 : Int32)) rfl rfl ((congrFun F.1 356).trans s_356) (vp_in_d rfl) ((congrFun (F.2.2 357 (by decide)).1 2).trans zi_357_2) ?_
  exact LW_ireturn (st := []) rfl rfl rfl rfl
