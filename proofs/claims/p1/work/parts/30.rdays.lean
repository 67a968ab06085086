/-! the reference: keep, wouldChange, dawn, morning, year -/
def RV (g : LH) (w : Nat → Nat) (o dy : Nat) : Prop := Gs g = eS e2 ∧ (∀ q, 355 ≤ q → Gr g q = eR e2 q) ∧ Gi g 356 7 = nI o ∧ Gi g 356 2 = nI dy ∧ (∀ k, k < 26 → Gi g 356 (12 + k) = nI (w k)) ∧ (∀ k, k < 26 → Gi g 356 (90 + k) = 0) ∧ Gi g 356 5 = -1 ∧ ∃ c : Nat, Gi g 356 6 = nI c ∧ c ≤ 30
theorem put356 {g : LH} {k : Nat} {z : Int32} : Gi (putI g 356 k z) 356 = upd (Gi g 356) k z := putS
theorem RV_put {g : LH} {w : Nat → Nat} {o dy k : Nat} {z : Int32} (V : RV g w o dy) (hk : (38 ≤ k ∧ k < 90) ∨ 116 ≤ k ∨ k = 3) : RV (putI g 356 k z) w o dy := by
  obtain ⟨a1, a2, a3, a4, a5, a6, a7, c, a8, a9⟩ := V
  refine ⟨a1, a2, ?_, ?_, fun l hl => ?_, fun l hl => ?_, ?_, c, ?_, a9⟩
  · rw [put356, pk_un (by omega)]; exact a3
  · rw [put356, pk_un (by omega)]; exact a4
  · rw [put356, pk_un (by omega)]; exact a5 l hl
  · rw [put356, pk_un (by omega)]; exact a6 l hl
  · rw [put356, pk_un (by omega)]; exact a7
  · rw [put356, pk_un (by omega)]; exact a8
theorem RV_fld {g : LH} {w : Nat → Nat} {o dy o' dy' k v : Nat} (V : RV g w o dy) (hk : (k = 7 ∧ o' = v ∧ dy' = dy) ∨ (k = 2 ∧ dy' = v ∧ o' = o) ∨ (k = 6 ∧ v ≤ 30 ∧ o' = o ∧ dy' = dy)) : RV (putI g 356 k (nI v)) w o' dy' := by
  obtain ⟨a1, a2, a3, a4, a5, a6, a7, c, a8, a9⟩ := V
  have r5 : ∀ l, l < 26 → Gi (putI g 356 k (nI v)) 356 (12 + l) = nI (w l) := fun l hl => by rw [put356, pk_un (by omega)]; exact a5 l hl
  have r6 : ∀ l, l < 26 → Gi (putI g 356 k (nI v)) 356 (90 + l) = 0 := fun l hl => by rw [put356, pk_un (by omega)]; exact a6 l hl
  have r7 : Gi (putI g 356 k (nI v)) 356 5 = -1 := by rw [put356, pk_un (by omega)]; exact a7
  rcases hk with ⟨rfl, rfl, rfl⟩ | ⟨rfl, rfl, rfl⟩ | ⟨rfl, hv, rfl, rfl⟩
  · refine ⟨a1, a2, ?_, ?_, r5, r6, r7, c, ?_, a9⟩
    · rw [put356]; exact pk_us
    · rw [put356, pk_un (by decide)]; exact a4
    · rw [put356, pk_un (by decide)]; exact a8
  · refine ⟨a1, a2, ?_, ?_, r5, r6, r7, c, ?_, a9⟩
    · rw [put356, pk_un (by decide)]; exact a3
    · rw [put356]; exact pk_us
    · rw [put356, pk_un (by decide)]; exact a8
  · refine ⟨a1, a2, ?_, ?_, r5, r6, r7, v, ?_, hv⟩
    · rw [put356, pk_un (by decide)]; exact a3
    · rw [put356, pk_un (by decide)]; exact a4
    · rw [put356]; exact pk_us
theorem RV_wage {g : LH} {w : Nat → Nat} {o dy l : Nat} (V : RV g w o dy) (hl : l < 26) (h99 : w l < 99) : RV (putI g 356 (12 + l) (nI (w l + 1))) (upW w l) o dy := by
  obtain ⟨a1, a2, a3, a4, a5, a6, a7, c, a8, a9⟩ := V
  refine ⟨a1, a2, ?_, ?_, fun k hk => ?_, fun k hk => ?_, ?_, c, ?_, a9⟩
  · rw [put356, pk_un (by omega)]; exact a3
  · rw [put356, pk_un (by omega)]; exact a4
  · rw [put356]
    unfold upW
    by_cases hkl : k = l
    · subst hkl
      rw [pk_us, if_pos rfl, if_pos h99]
    · rw [pk_un (by omega), if_neg hkl]
      exact a5 k hk
  · rw [put356, pk_un (by omega)]; exact a6 k hk
  · rw [put356, pk_un (by omega)]; exact a7
  · rw [put356, pk_un (by omega)]; exact a8
theorem RV_full {g : LH} {w : Nat → Nat} {o dy l : Nat} (V : RV g w o dy) (h99 : ¬ w l < 99) (h : w l ≤ 99) : RV g (upW w l) o dy := by
  have e : upW w l = w := funext fun k => by
    unfold upW
    by_cases hkl : k = l
    · subst hkl
      rw [if_pos rfl, if_neg h99]
      omega
    · rw [if_neg hkl]
  rw [e]
  exact V
theorem rv_12 : ∀ k, k < 26 → eI e2 356 (12 + k) = nI 1 := by decide +kernel
theorem rv_90 : ∀ k, k < 26 → eI e2 356 (90 + k) = 0 := by decide +kernel
theorem RV_new {g : LH} (F : Fr g) : RV g (fun _ => 1) 0 0 := by
  have i := (F.2.2 356 (by decide)).1
  refine ⟨F.1, F.2.1, ?_, ?_, fun k hk => ?_, fun k hk => ?_, ?_, 0, ?_, by decide⟩
  · rw [i]; decide +kernel
  · rw [i]; decide +kernel
  · rw [i]; exact rv_12 k hk
  · rw [i]; exact rv_90 k hk
  · rw [i]; decide +kernel
  · rw [i]; decide +kernel
set_option maxRecDepth 10000 in
set_option maxHeartbeats 40000000 in
theorem rv_shift1 {g : LH} {d i : Nat} {w : Nat → Nat} {o dy : Nat} {l2 : Option Value} {Q : Option Value → LH → Prop} (F : RV g w o dy) (hi : i < 2378) (k : ∀ z, LW 245 d 0 0 14 [some (.ref 355), some (.int (nI (i + 1))), l2] [] (putI g 356 (578 + i) z) Q) : LW 245 d 0 0 14 [some (.ref 355), some (.int (nI (i))), l2] [] g (Q) := by
  refine X_iload_n rfl rfl rfl rfl ?_
  refine X_sipush (v := (2378 : Int32)) rfl rfl rfl ?_
  refine X_icmp_ge (tgt := 47) rfl rfl rfl (fun h1 => ?_) (fun h1 => ?_)
  · exfalso
    simp only [Int32.lt_iff_toInt_lt, Int32.le_iff_toInt_le, ← Int32.toInt_inj, (show (2378 : Int32).toInt = 2378 from rfl), (nI_toInt (n := i) (by omega))] at h1
    omega
  · refine X_aload_n rfl rfl rfl rfl ?_
    refine X_getR (a := 356) rfl rfl rfl ((congrFun F.1 355).trans s_355) rfl ((congrFun (F.2.1 355 (by decide)) 0).trans r_355_0) ?_
    refine X_sipush (v := (578 : Int32)) rfl rfl rfl ?_
    refine X_iload_n rfl rfl rfl rfl ?_
    refine X_iadd (v := (nI (578 + i))) rfl rfl (nI_add (578) (i)) ?_
    refine X_aload_n rfl rfl rfl rfl ?_
    refine X_getR (a := 356) rfl rfl rfl ((congrFun F.1 355).trans s_355) rfl ((congrFun (F.2.1 355 (by decide)) 0).trans r_355_0) ?_
    refine X_sipush (v := (660 : Int32)) rfl rfl rfl ?_
    refine X_iload_n rfl rfl rfl rfl ?_
    refine X_iadd (v := (nI (660 + i))) rfl rfl (nI_add (660) (i)) ?_
    refine X_iald (v := ((Gi g 356) (660 + i))) rfl rfl ((congrFun F.1 356).trans s_356) (vp_in_nI (by omega) (by decide)) (congrArg (Gi _ 356) (nI_clamp (n := 660 + i) (by omega))) ?_
    refine X_iast (k0 := 578 + i) rfl rfl ((congrFun F.1 356).trans s_356) (vp_in_nI (by omega) (by decide)) (nI_clamp (n := 578 + i) (by omega)) ?_
    refine X_iinc (v := (nI (i + 1))) (ls' := [some (.ref 355), some (.int (nI (i + 1))), l2]) rfl rfl rfl (nI_add (i) 1) rfl ?_
    refine LW_goto (tgt := 14) rfl rfl ?_
    exact k _
set_option maxRecDepth 10000 in
set_option maxHeartbeats 40000000 in
theorem rv_shift2 {g : LH} {d : Nat} {w : Nat → Nat} {o dy : Nat} {l2 : Option Value} {Q : Option Value → LH → Prop} (F : RV g w o dy) (k : LW 245 d 0 0 47 [some (.ref 355), some (.int (nI (2378))), l2] [] g Q) : LW 245 d 0 0 14 [some (.ref 355), some (.int (nI (2378))), l2] [] g (Q) := by
  refine X_iload_n rfl rfl rfl rfl ?_
  refine X_sipush (v := (2378 : Int32)) rfl rfl rfl ?_
  refine X_icmp_ge (tgt := 47) rfl rfl rfl (fun h1 => ?_) (fun h1 => ?_)
  · exact k
  · exfalso
    simp only [Int32.lt_iff_toInt_lt, Int32.le_iff_toInt_le, ← Int32.toInt_inj, (show (2378 : Int32).toInt = 2378 from rfl), (nI_toInt (n := 2378) (by omega))] at h1
    omega
theorem rv_shift {d : Nat} {w : Nat → Nat} {o dy : Nat} {l2 : Option Value} {Q : Option Value → LH → Prop} : ∀ (m i : Nat), i + m = 2378 → ∀ g : LH, RV g w o dy → Gi g 356 6 = nI 30 → (∀ g', RV g' w o dy → Gi g' 356 6 = nI 30 → LW 245 d 0 0 47 [some (.ref 355), some (.int (nI (2378))), l2] [] g' Q) → LW 245 d 0 0 14 [some (.ref 355), some (.int (nI (i))), l2] [] g Q := by
  intro m
  induction m with
  | zero =>
    intro i hi g F h6 k
    have hi : i = 2378 := by omega
    subst hi
    exact rv_shift2 F (k g F h6)
  | succ m ih =>
    intro i hi g F h6 k
    exact rv_shift1 F (by omega) (fun z => ih (i + 1) (by omega) _ (RV_put F (by omega)) (by rw [put356, pk_un (by omega)]; exact h6) k)
set_option maxRecDepth 10000 in
set_option maxHeartbeats 40000000 in
theorem rv_cp1 {g : LH} {d i x : Nat} {w : Nat → Nat} {o dy : Nat} {Q : Option Value → LH → Prop} (F : RV g w o dy) (hi : i < 78) (hx : x ≤ 2956) (k : ∀ z, LW 245 d 0 0 131 [some (.ref 355), some (.int (nI (x))), some (.int (nI (i + 1)))] [] (putI g 356 ((x + 4) + i) z) Q) : LW 245 d 0 0 131 [some (.ref 355), some (.int (nI (x))), some (.int (nI (i)))] [] g (Q) := by
  refine X_iload_n rfl rfl rfl rfl ?_
  refine X_bipush (v := (78 : Int32)) rfl rfl rfl ?_
  refine X_icmp_ge (tgt := 162) rfl rfl rfl (fun h1 => ?_) (fun h1 => ?_)
  · exfalso
    simp only [Int32.lt_iff_toInt_lt, Int32.le_iff_toInt_le, ← Int32.toInt_inj, (show (78 : Int32).toInt = 78 from rfl), (nI_toInt (n := i) (by omega))] at h1
    omega
  · refine X_aload_n rfl rfl rfl rfl ?_
    refine X_getR (a := 356) rfl rfl rfl ((congrFun F.1 355).trans s_355) rfl ((congrFun (F.2.1 355 (by decide)) 0).trans r_355_0) ?_
    refine X_iload_n rfl rfl rfl rfl ?_
    refine X_iconst (v := (4 : Int32)) rfl rfl rfl ?_
    refine X_iadd (v := (nI (x + 4))) rfl rfl (nI_add (x) (4)) ?_
    refine X_iload_n rfl rfl rfl rfl ?_
    refine X_iadd (v := (nI ((x + 4) + i))) rfl rfl (nI_add (x + 4) (i)) ?_
    refine X_aload_n rfl rfl rfl rfl ?_
    refine X_getR (a := 356) rfl rfl rfl ((congrFun F.1 355).trans s_355) rfl ((congrFun (F.2.1 355 (by decide)) 0).trans r_355_0) ?_
    refine X_bipush (v := (12 : Int32)) rfl rfl rfl ?_
    refine X_iload_n rfl rfl rfl rfl ?_
    refine X_iadd (v := (nI (12 + i))) rfl rfl (nI_add (12) (i)) ?_
    refine X_iald (v := ((Gi g 356) (12 + i))) rfl rfl ((congrFun F.1 356).trans s_356) (vp_in_nI (by omega) (by decide)) (congrArg (Gi _ 356) (nI_clamp (n := 12 + i) (by omega))) ?_
    refine X_iast (k0 := (x + 4) + i) rfl rfl ((congrFun F.1 356).trans s_356) (vp_in_nI (by omega) (by decide)) (nI_clamp (n := (x + 4) + i) (by omega)) ?_
    refine X_iinc (v := (nI (i + 1))) (ls' := [some (.ref 355), some (.int (nI (x))), some (.int (nI (i + 1)))]) rfl rfl rfl (nI_add (i) 1) rfl ?_
    refine LW_goto (tgt := 131) rfl rfl ?_
    exact k _
set_option maxRecDepth 10000 in
set_option maxHeartbeats 40000000 in
theorem rv_cp2 {g : LH} {d c x : Nat} {w : Nat → Nat} {o dy : Nat} {Q : Option Value → LH → Prop} (F : RV g w o dy) (hc : c < 30) (h6 : Gi g 356 6 = nI c) (k : ∀ g', RV g' w o dy → Q none g') : LW 245 d 0 0 131 [some (.ref 355), some (.int (nI (x))), some (.int (nI (78)))] [] g (Q) := by
  refine X_iload_n rfl rfl rfl rfl ?_
  refine X_bipush (v := (78 : Int32)) rfl rfl rfl ?_
  refine X_icmp_ge (tgt := 162) rfl rfl rfl (fun h1 => ?_) (fun h1 => ?_)
  · refine X_aload_n rfl rfl rfl rfl ?_
    refine X_getR (a := 356) rfl rfl rfl ((congrFun F.1 355).trans s_355) rfl ((congrFun (F.2.1 355 (by decide)) 0).trans r_355_0) ?_
    refine X_bipush (v := (6 : Int32)) rfl rfl rfl ?_
    refine X_dup2 rfl rfl rfl rfl ?_
    refine X_iald (v := (nI (c))) rfl rfl ((congrFun F.1 356).trans s_356) (vp_in_d rfl) h6 ?_
    refine X_iconst (v := (1 : Int32)) rfl rfl rfl ?_
    refine X_iadd (v := (nI (c + 1))) rfl rfl (nI_add (c) (1)) ?_
    refine X_iast (k0 := 6) rfl rfl ((congrFun F.1 356).trans s_356) (vp_in_d rfl) rfl ?_
    exact LW_return (st := []) rfl rfl (k _ (RV_fld F (Or.inr (Or.inr ⟨rfl, by omega, rfl, rfl⟩))))
  · exfalso
    simp only [Int32.lt_iff_toInt_lt, Int32.le_iff_toInt_le, ← Int32.toInt_inj, (show (78 : Int32).toInt = 78 from rfl), (nI_toInt (n := 78) (by omega))] at h1
    omega
theorem rv_cp {d c x : Nat} {w : Nat → Nat} {o dy : Nat} {Q : Option Value → LH → Prop} (hc : c < 30) (hx : 578 ≤ x ∧ x ≤ 2956) (k : ∀ g', RV g' w o dy → Q none g') : ∀ (m i : Nat), i + m = 78 → ∀ g : LH, RV g w o dy → Gi g 356 6 = nI c → LW 245 d 0 0 131 [some (.ref 355), some (.int (nI (x))), some (.int (nI (i)))] [] g Q := by
  intro m
  induction m with
  | zero =>
    intro i hi g F h6
    have hi : i = 78 := by omega
    subst hi
    exact rv_cp2 F hc h6 k
  | succ m ih =>
    intro i hi g F h6
    exact rv_cp1 F (by omega) hx.2 (fun z => ih (i + 1) (by omega) _ (RV_put F (by omega)) (by rw [put356, pk_un (by omega)]; exact h6))
theorem rv_58 {g : LH} {d c : Nat} {w : Nat → Nat} {o dy : Nat} {l1 l2 : Option Value} {Q : Option Value → LH → Prop} (F : RV g w o dy) (hc : c < 30) (h6 : Gi g 356 6 = nI c) (k : ∀ g', RV g' w o dy → Q none g') : LW 245 d 0 0 58 [some (.ref 355), l1, l2] [] g Q := by
  refine X_sipush (v := 578) rfl rfl rfl ?_
  refine X_bipush (v := 82) rfl rfl rfl ?_
  refine X_aload_n rfl rfl rfl rfl ?_
  refine X_getR (a := 356) rfl rfl rfl ((congrFun F.1 355).trans s_355) rfl ((congrFun (F.2.1 355 (by decide)) 0).trans r_355_0) ?_
  refine X_bipush (v := 6) rfl rfl rfl ?_
  refine X_iald (v := nI c) rfl rfl ((congrFun F.1 356).trans s_356) (vp_in_d rfl) h6 ?_
  refine X_imul (v := nI (82 * c)) rfl rfl (pk_mul 82 c) ?_
  refine X_iadd (v := nI (578 + 82 * c)) rfl rfl (nI_add 578 (82 * c)) ?_
  refine X_istore_n (i := 1) (ls' := [some (.ref 355), some (.int (nI (578 + 82 * c))), l2]) rfl rfl rfl (Nat.le_of_ble_eq_true rfl) rfl ?_
  refine X_aload_n rfl rfl rfl rfl ?_
  refine X_getR (a := 356) rfl rfl rfl ((congrFun F.1 355).trans s_355) rfl ((congrFun (F.2.1 355 (by decide)) 0).trans r_355_0) ?_
  refine X_iload_n rfl rfl rfl rfl ?_
  refine X_aload_n rfl rfl rfl rfl ?_
  refine X_getR (a := 356) rfl rfl rfl ((congrFun F.1 355).trans s_355) rfl ((congrFun (F.2.1 355 (by decide)) 0).trans r_355_0) ?_
  refine X_bipush (v := 7) rfl rfl rfl ?_
  refine X_iald (v := _) rfl rfl ((congrFun F.1 356).trans s_356) (vp_in_d rfl) rfl ?_
  refine X_iast (k0 := 578 + 82 * c) rfl rfl ((congrFun F.1 356).trans s_356) (vp_in_nI (by omega) (by decide)) (nI_clamp (by omega)) ?_
  refine X_aload_n rfl rfl rfl rfl ?_
  refine X_getR (a := 356) rfl rfl rfl ((congrFun F.1 355).trans s_355) rfl ((congrFun (F.2.1 355 (by decide)) 0).trans r_355_0) ?_
  refine X_iload_n rfl rfl rfl rfl ?_
  refine X_iconst (v := 1) rfl rfl rfl ?_
  refine X_iadd (v := nI (578 + 82 * c + 1)) rfl rfl (nI_add (578 + 82 * c) 1) ?_
  refine X_aload_n rfl rfl rfl rfl ?_
  refine X_getR (a := 356) rfl rfl rfl ((congrFun F.1 355).trans s_355) rfl ((congrFun (F.2.1 355 (by decide)) 0).trans r_355_0) ?_
  refine X_bipush (v := 10) rfl rfl rfl ?_
  refine X_iald (v := _) rfl rfl ((congrFun F.1 356).trans s_356) (vp_in_d rfl) rfl ?_
  refine X_iast (k0 := 578 + 82 * c + 1) rfl rfl ((congrFun F.1 356).trans s_356) (vp_in_nI (by omega) (by decide)) (nI_clamp (by omega)) ?_
  refine X_aload_n rfl rfl rfl rfl ?_
  refine X_getR (a := 356) rfl rfl rfl ((congrFun F.1 355).trans s_355) rfl ((congrFun (F.2.1 355 (by decide)) 0).trans r_355_0) ?_
  refine X_iload_n rfl rfl rfl rfl ?_
  refine X_iconst (v := 2) rfl rfl rfl ?_
  refine X_iadd (v := nI (578 + 82 * c + 2)) rfl rfl (nI_add (578 + 82 * c) 2) ?_
  refine X_aload_n rfl rfl rfl rfl ?_
  refine X_getR (a := 356) rfl rfl rfl ((congrFun F.1 355).trans s_355) rfl ((congrFun (F.2.1 355 (by decide)) 0).trans r_355_0) ?_
  refine X_iconst (v := 2) rfl rfl rfl ?_
  refine X_iald (v := _) rfl rfl ((congrFun F.1 356).trans s_356) (vp_in_d rfl) rfl ?_
  refine X_iast (k0 := 578 + 82 * c + 2) rfl rfl ((congrFun F.1 356).trans s_356) (vp_in_nI (by omega) (by decide)) (nI_clamp (by omega)) ?_
  refine X_aload_n rfl rfl rfl rfl ?_
  refine X_getR (a := 356) rfl rfl rfl ((congrFun F.1 355).trans s_355) rfl ((congrFun (F.2.1 355 (by decide)) 0).trans r_355_0) ?_
  refine X_iload_n rfl rfl rfl rfl ?_
  refine X_iconst (v := 3) rfl rfl rfl ?_
  refine X_iadd (v := nI (578 + 82 * c + 3)) rfl rfl (nI_add (578 + 82 * c) 3) ?_
  refine X_aload_n rfl rfl rfl rfl ?_
  refine X_getR (a := 356) rfl rfl rfl ((congrFun F.1 355).trans s_355) rfl ((congrFun (F.2.1 355 (by decide)) 0).trans r_355_0) ?_
  refine X_iconst (v := 3) rfl rfl rfl ?_
  refine X_iald (v := _) rfl rfl ((congrFun F.1 356).trans s_356) (vp_in_d rfl) rfl ?_
  refine X_iast (k0 := 578 + 82 * c + 3) rfl rfl ((congrFun F.1 356).trans s_356) (vp_in_nI (by omega) (by decide)) (nI_clamp (by omega)) ?_
  refine X_iconst (v := 0) rfl rfl rfl ?_
  refine X_istore_n (i := 2) (ls' := [some (.ref 355), some (.int (nI (578 + 82 * c))), some (.int (nI 0))]) rfl rfl rfl (Nat.le_of_ble_eq_true rfl) rfl ?_
  refine rv_cp hc ⟨by omega, by omega⟩ k 78 0 rfl _ (RV_put (RV_put (RV_put (RV_put F (by omega)) (by omega)) (by omega)) (by omega)) ?_
  rw [put356, pk_un (by omega), put356, pk_un (by omega), put356, pk_un (by omega), put356, pk_un (by omega)]
  exact h6
theorem rv_keep {g : LH} {d : Nat} {w : Nat → Nat} {o dy : Nat} (F : RV g w o dy) : LW 245 d 0 0 0 (lEnt (mL 245) [.ref 355]) [] g (fun v g' => v = none ∧ RV g' w o dy) := by
  obtain ⟨c, h6, hc⟩ := F.2.2.2.2.2.2.2
  refine LW_ls (ls' := [some (.ref 355), none, none]) rfl ?_
  refine X_aload_n rfl rfl rfl rfl ?_
  refine X_getR (a := 356) rfl rfl rfl ((congrFun F.1 355).trans s_355) rfl ((congrFun (F.2.1 355 (by decide)) 0).trans r_355_0) ?_
  refine X_bipush (v := 6) rfl rfl rfl ?_
  refine X_iald (v := nI c) rfl rfl ((congrFun F.1 356).trans s_356) (vp_in_d rfl) h6 ?_
  refine X_bipush (v := nI 30) rfl rfl rfl ?_
  refine X_icmp_ne (tgt := 58) rfl rfl rfl (fun q => ?_) (fun q => ?_)
  · have hne : c ≠ 30 := fun e => q (by rw [e])
    exact rv_58 F (by omega) h6 (fun g' V => ⟨rfl, V⟩)
  · have hc30 : c = 30 := (nI_eq (by omega) (by decide)).mp q
    subst hc30
    refine X_iconst (v := 0) rfl rfl rfl ?_
    refine X_istore_n (i := 1) (ls' := [some (.ref 355), some (.int (nI 0)), none]) rfl rfl rfl (Nat.le_of_ble_eq_true rfl) rfl ?_
    refine rv_shift 2378 0 rfl g F h6 (fun g F h6 => ?_)
    refine X_aload_n rfl rfl rfl rfl ?_
    refine X_getR (a := 356) rfl rfl rfl ((congrFun F.1 355).trans s_355) rfl ((congrFun (F.2.1 355 (by decide)) 0).trans r_355_0) ?_
    refine X_bipush (v := 6) rfl rfl rfl ?_
    refine X_dup2 rfl rfl rfl rfl ?_
    refine X_iald (v := nI 30) rfl rfl ((congrFun F.1 356).trans s_356) (vp_in_d rfl) h6 ?_
    refine X_iconst (v := 1) rfl rfl rfl ?_
    refine X_isub (v := nI 29) rfl rfl rfl ?_
    refine X_iast (k0 := 6) rfl rfl ((congrFun F.1 356).trans s_356) (vp_in_d rfl) rfl ?_
    exact rv_58 (RV_fld F (Or.inr (Or.inr ⟨rfl, by decide, rfl, rfl⟩))) (by decide) rfl (fun g' V => ⟨rfl, V⟩)
set_option maxRecDepth 10000 in
set_option maxHeartbeats 40000000 in
theorem rv_would {g : LH} {w : Nat → Nat} {o dy : Nat} (F : RV g w o dy) {d l t : Nat} (hw : ∀ k, k < 26 → w k ≤ 99) (ho : o < 2 ^ 26) (hl : l < 26) (ht : t = o / 2 ^ l % 2) (ht2 : t < 2) (hb : (((nI (o)) >>> ((nI (l)) &&& 31)) &&& (1 : Int32)) = nI t) : LW 244 (d + 2) 0 0 0 (lEnt (mL 244) [.ref 355, .int (nI (l))]) [] g (fun v g' => v = some (.int (nI (mvB w o l))) ∧ g' = g) := by
  refine LW_ls (ls' := [some (.ref 355), some (.int (nI (l))), none, none, none]) rfl ?_
  refine X_aload_n rfl rfl rfl rfl ?_
  refine X_iload_n rfl rfl rfl rfl ?_
  refine X_callV (as := [.int (nI (l))]) (st := []) rfl rfl rfl (by decide) rfl (Nat.le_of_ble_eq_true rfl) (by decide) (Nat.le_of_ble_eq_true rfl) rfl ((congrFun F.1 355).trans s_355) (by decide) ?_
  refine LW_ls (ls' := [some (.ref 355), some (.int (nI (l)))]) rfl ?_
  refine X_aload_n rfl rfl rfl rfl ?_
  refine X_getR (a := 356) rfl rfl rfl ((congrFun F.1 355).trans s_355) rfl ((congrFun (F.2.1 355 (by decide)) 0).trans r_355_0) ?_
  refine X_bipush (v := (7 : Int32)) rfl rfl rfl ?_
  refine X_iald (v := (nI (o))) rfl rfl ((congrFun F.1 356).trans s_356) (vp_in_d rfl) F.2.2.1 ?_
  refine X_iload_n rfl rfl rfl rfl ?_
  refine X_callS (as := [.int (nI (o)), .int (nI (l))]) (st := []) rfl rfl rfl (by decide) rfl (Nat.le_of_ble_eq_true rfl) (by decide) (Nat.le_of_ble_eq_true rfl) rfl ?_
  refine LW_ls (ls' := [some (.int (nI (o))), some (.int (nI (l)))]) rfl ?_
  refine X_iload_n rfl rfl rfl rfl ?_
  refine X_iload_n rfl rfl rfl rfl ?_
  refine X_ishr (v := ((nI (o)) >>> ((nI (l)) &&& 31))) rfl rfl rfl ?_
  refine X_iconst (v := (1 : Int32)) rfl rfl rfl ?_
  refine X_iand (v := (nI (t))) rfl rfl hb ?_
  refine X_iconst (v := (1 : Int32)) rfl rfl rfl ?_
  refine X_icmp_ne (tgt := 13) rfl rfl rfl (fun h1 => ?_) (fun h1 => ?_)
  · refine X_iconst (v := (0 : Int32)) rfl rfl rfl ?_
    refine LW_ireturn (st := []) rfl rfl rfl ?_
    refine LW_ireturn (st := []) rfl rfl rfl ?_
    refine X_if_eq (tgt := 12) rfl rfl rfl (fun _ => ?_) (fun q => absurd q (by decide))
    refine X_iconst (v := (0 : Int32)) rfl rfl rfl ?_
    refine X_istore_n (i := 2) (ls' := [some (.ref 355), some (.int (nI (l))), some (.int (0 : Int32)), none, none]) rfl rfl rfl (Nat.le_of_ble_eq_true rfl) rfl ?_
    refine X_aload_n rfl rfl rfl rfl ?_
    refine X_iload_n rfl rfl rfl rfl ?_
    refine X_callV (as := [.int (0 : Int32)]) (st := []) rfl rfl rfl (by decide) rfl (Nat.le_of_ble_eq_true rfl) (by decide) (Nat.le_of_ble_eq_true rfl) rfl ((congrFun F.1 355).trans s_355) (by decide) ?_
    refine LW_ls (ls' := [some (.ref 355), some (.int (0 : Int32)), none]) rfl ?_
    refine X_iconst (v := (0 : Int32)) rfl rfl rfl ?_
    refine X_istore_n (i := 2) (ls' := [some (.ref 355), some (.int (0 : Int32)), some (.int (0 : Int32))]) rfl rfl rfl (Nat.le_of_ble_eq_true rfl) rfl ?_
    refine X_aload_n rfl rfl rfl rfl ?_
    refine X_getR (a := 356) rfl rfl rfl ((congrFun F.1 355).trans s_355) rfl ((congrFun (F.2.1 355 (by decide)) 0).trans r_355_0) ?_
    refine X_iconst (v := (5 : Int32)) rfl rfl rfl ?_
    refine X_iald (v := (-1 : Int32)) rfl rfl ((congrFun F.1 356).trans s_356) (vp_in_d rfl) F.2.2.2.2.2.2.1 ?_
    refine X_if_lt (tgt := 64) rfl rfl rfl (fun _ => ?_) (fun q => absurd q (by decide))
    refine X_iconst (v := (-1 : Int32)) rfl rfl rfl ?_
    refine LW_ireturn (st := []) rfl rfl rfl ?_
    refine X_istore_n (i := 3) (ls' := [some (.ref 355), some (.int (nI (l))), some (.int (0 : Int32)), some (.int (-1 : Int32)), none]) rfl rfl rfl (Nat.le_of_ble_eq_true rfl) rfl ?_
    refine X_aload_n rfl rfl rfl rfl ?_
    refine X_getR (a := 356) rfl rfl rfl ((congrFun F.1 355).trans s_355) rfl ((congrFun (F.2.1 355 (by decide)) 0).trans r_355_0) ?_
    refine X_bipush (v := (90 : Int32)) rfl rfl rfl ?_
    refine X_iload_n rfl rfl rfl rfl ?_
    refine X_iadd (v := (nI (90 + l))) rfl rfl (nI_add (90) (l)) ?_
    refine X_iald (v := (0 : Int32)) rfl rfl ((congrFun F.1 356).trans s_356) (vp_in_nI (by omega) (by decide)) ((congrArg (Gi _ 356) (nI_clamp (n := 90 + l) (by omega))).trans (F.2.2.2.2.2.1 l hl)) ?_
    refine X_aload_n rfl rfl rfl rfl ?_
    refine X_getR (a := 356) rfl rfl rfl ((congrFun F.1 355).trans s_355) rfl ((congrFun (F.2.1 355 (by decide)) 0).trans r_355_0) ?_
    refine X_bipush (v := (7 : Int32)) rfl rfl rfl ?_
    refine X_iald (v := (nI (o))) rfl rfl ((congrFun F.1 356).trans s_356) (vp_in_d rfl) F.2.2.1 ?_
    refine X_iand (v := (0 : Int32)) rfl rfl (by simp) ?_
    refine Y_callS (as := [.int (0 : Int32)]) (st := []) rfl rfl rfl (by decide) rfl (Nat.le_of_ble_eq_true rfl) (by decide) (Nat.le_of_ble_eq_true rfl) rfl (r_bits (n := 0) (by decide)) ?_
    rintro _ _ ⟨rfl, rfl⟩
    refine LW_eqv (v := (0 : Int32)) (by decide) ?_
    refine X_istore (i := 4) (ls' := [some (.ref 355), some (.int (nI (l))), some (.int (0 : Int32)), some (.int (-1 : Int32)), some (.int (0 : Int32))]) rfl rfl (Nat.le_of_ble_eq_true rfl) rfl ?_
    refine X_iload_n rfl rfl rfl rfl ?_
    refine X_if_ge (tgt := 96) rfl rfl rfl (fun q => absurd q (by decide)) (fun _ => ?_)
    refine X_iload_n rfl rfl rfl rfl ?_
    refine X_iconst (v := (1 : Int32)) rfl rfl rfl ?_
    refine X_icmp_ne (tgt := 73) rfl rfl rfl (fun _ => ?_) (fun q => absurd q (by decide))
    refine X_iload rfl rfl rfl ?_
    refine X_if_le (tgt := 94) rfl rfl rfl (fun _ => ?_) (fun q => absurd q (by decide))
    refine X_iconst (v := (0 : Int32)) rfl rfl rfl ?_
    refine LW_ireturn (st := []) rfl rfl rfl ⟨congrArg (fun z => some (Value.int z)) ?_, rfl⟩
    have hww := hw l hl
    simp only [Int32.lt_iff_toInt_lt, Int32.le_iff_toInt_le, ← Int32.toInt_inj, (show (1 : Int32).toInt = 1 from rfl), (nI_toInt (n := t) (by omega))] at h1
    unfold mvB
    rw [← ht]
    rw [if_neg (by omega)]
    rfl
  · refine X_iconst (v := (1 : Int32)) rfl rfl rfl ?_
    refine LW_goto (tgt := 14) rfl rfl ?_
    refine LW_ireturn (st := []) rfl rfl rfl ?_
    refine LW_ireturn (st := []) rfl rfl rfl ?_
    refine X_if_eq (tgt := 12) rfl rfl rfl (fun q => absurd q (by decide)) (fun _ => ?_)
    refine X_iconst (v := (1 : Int32)) rfl rfl rfl ?_
    refine LW_goto (tgt := 13) rfl rfl ?_
    refine X_istore_n (i := 2) (ls' := [some (.ref 355), some (.int (nI (l))), some (.int (1 : Int32)), none, none]) rfl rfl rfl (Nat.le_of_ble_eq_true rfl) rfl ?_
    refine X_aload_n rfl rfl rfl rfl ?_
    refine X_iload_n rfl rfl rfl rfl ?_
    refine X_callV (as := [.int (1 : Int32)]) (st := []) rfl rfl rfl (by decide) rfl (Nat.le_of_ble_eq_true rfl) (by decide) (Nat.le_of_ble_eq_true rfl) rfl ((congrFun F.1 355).trans s_355) (by decide) ?_
    refine LW_ls (ls' := [some (.ref 355), some (.int (1 : Int32)), none]) rfl ?_
    refine X_iconst (v := (0 : Int32)) rfl rfl rfl ?_
    refine X_istore_n (i := 2) (ls' := [some (.ref 355), some (.int (1 : Int32)), some (.int (0 : Int32))]) rfl rfl rfl (Nat.le_of_ble_eq_true rfl) rfl ?_
    refine X_aload_n rfl rfl rfl rfl ?_
    refine X_getR (a := 356) rfl rfl rfl ((congrFun F.1 355).trans s_355) rfl ((congrFun (F.2.1 355 (by decide)) 0).trans r_355_0) ?_
    refine X_iconst (v := (5 : Int32)) rfl rfl rfl ?_
    refine X_iald (v := (-1 : Int32)) rfl rfl ((congrFun F.1 356).trans s_356) (vp_in_d rfl) F.2.2.2.2.2.2.1 ?_
    refine X_if_lt (tgt := 64) rfl rfl rfl (fun _ => ?_) (fun q => absurd q (by decide))
    refine X_iconst (v := (-1 : Int32)) rfl rfl rfl ?_
    refine LW_ireturn (st := []) rfl rfl rfl ?_
    refine X_istore_n (i := 3) (ls' := [some (.ref 355), some (.int (nI (l))), some (.int (1 : Int32)), some (.int (-1 : Int32)), none]) rfl rfl rfl (Nat.le_of_ble_eq_true rfl) rfl ?_
    refine X_aload_n rfl rfl rfl rfl ?_
    refine X_getR (a := 356) rfl rfl rfl ((congrFun F.1 355).trans s_355) rfl ((congrFun (F.2.1 355 (by decide)) 0).trans r_355_0) ?_
    refine X_bipush (v := (90 : Int32)) rfl rfl rfl ?_
    refine X_iload_n rfl rfl rfl rfl ?_
    refine X_iadd (v := (nI (90 + l))) rfl rfl (nI_add (90) (l)) ?_
    refine X_iald (v := (0 : Int32)) rfl rfl ((congrFun F.1 356).trans s_356) (vp_in_nI (by omega) (by decide)) ((congrArg (Gi _ 356) (nI_clamp (n := 90 + l) (by omega))).trans (F.2.2.2.2.2.1 l hl)) ?_
    refine X_aload_n rfl rfl rfl rfl ?_
    refine X_getR (a := 356) rfl rfl rfl ((congrFun F.1 355).trans s_355) rfl ((congrFun (F.2.1 355 (by decide)) 0).trans r_355_0) ?_
    refine X_bipush (v := (7 : Int32)) rfl rfl rfl ?_
    refine X_iald (v := (nI (o))) rfl rfl ((congrFun F.1 356).trans s_356) (vp_in_d rfl) F.2.2.1 ?_
    refine X_iand (v := (0 : Int32)) rfl rfl (by simp) ?_
    refine Y_callS (as := [.int (0 : Int32)]) (st := []) rfl rfl rfl (by decide) rfl (Nat.le_of_ble_eq_true rfl) (by decide) (Nat.le_of_ble_eq_true rfl) rfl (r_bits (n := 0) (by decide)) ?_
    rintro _ _ ⟨rfl, rfl⟩
    refine LW_eqv (v := (0 : Int32)) (by decide) ?_
    refine X_istore (i := 4) (ls' := [some (.ref 355), some (.int (nI (l))), some (.int (1 : Int32)), some (.int (-1 : Int32)), some (.int (0 : Int32))]) rfl rfl (Nat.le_of_ble_eq_true rfl) rfl ?_
    refine X_iload_n rfl rfl rfl rfl ?_
    refine X_if_ge (tgt := 96) rfl rfl rfl (fun q => absurd q (by decide)) (fun _ => ?_)
    refine X_iload_n rfl rfl rfl rfl ?_
    refine X_iconst (v := (1 : Int32)) rfl rfl rfl ?_
    refine X_icmp_ne (tgt := 73) rfl rfl rfl (fun q => absurd q (by decide)) (fun _ => ?_)
    refine X_aload_n rfl rfl rfl rfl ?_
    refine X_getR (a := 356) rfl rfl rfl ((congrFun F.1 355).trans s_355) rfl ((congrFun (F.2.1 355 (by decide)) 0).trans r_355_0) ?_
    refine X_bipush (v := (12 : Int32)) rfl rfl rfl ?_
    refine X_iload_n rfl rfl rfl rfl ?_
    refine X_iadd (v := (nI (12 + l))) rfl rfl (nI_add (12) (l)) ?_
    refine X_iald (v := (nI (w l))) rfl rfl ((congrFun F.1 356).trans s_356) (vp_in_nI (by omega) (by decide)) ((congrArg (Gi _ 356) (nI_clamp (n := 12 + l) (by omega))).trans (F.2.2.2.2.1 l hl)) ?_
    refine X_bipush (v := (9 : Int32)) rfl rfl rfl ?_
    refine X_icmp_le (tgt := 69) rfl rfl rfl (fun h2 => ?_) (fun h2 => ?_)
    · refine X_iconst (v := (0 : Int32)) rfl rfl rfl ?_
      refine LW_goto (tgt := 95) rfl rfl ?_
      refine LW_ireturn (st := []) rfl rfl rfl ⟨congrArg (fun z => some (Value.int z)) ?_, rfl⟩
      have hww := hw l hl
      simp only [Int32.lt_iff_toInt_lt, Int32.le_iff_toInt_le, ← Int32.toInt_inj, (show (1 : Int32).toInt = 1 from rfl), (show (9 : Int32).toInt = 9 from rfl), (nI_toInt (n := t) (by omega)), (nI_toInt (n := w l) (by omega))] at h1 h2
      unfold mvB
      rw [← ht]
      rw [if_neg (by omega)]
      rfl
    · refine X_iconst (v := (1 : Int32)) rfl rfl rfl ?_
      refine LW_goto (tgt := 95) rfl rfl ?_
      refine LW_ireturn (st := []) rfl rfl rfl ⟨congrArg (fun z => some (Value.int z)) ?_, rfl⟩
      have hww := hw l hl
      simp only [Int32.lt_iff_toInt_lt, Int32.le_iff_toInt_le, ← Int32.toInt_inj, (show (1 : Int32).toInt = 1 from rfl), (show (9 : Int32).toInt = 9 from rfl), (nI_toInt (n := t) (by omega)), (nI_toInt (n := w l) (by omega))] at h1 h2
      unfold mvB
      rw [← ht]
      rw [if_pos (by omega)]
      rfl
set_option maxRecDepth 10000 in
set_option maxHeartbeats 40000000 in
theorem rv_dawn1 {g : LH} {d l : Nat} {w : Nat → Nat} {o dy : Nat} {Q : Option Value → LH → Prop} (F : RV g w o dy) (hw : ∀ k, k < 26 → w k ≤ 99) (ho : o < 2 ^ 26) (hl : l < 26) (k : LW 247 (d + 3) 0 0 4 [some (.ref 355), some (.int (nI (mvS w o (l + 1)))), some (.int (nI (l + 1)))] [] g Q) : LW 247 (d + 3) 0 0 4 [some (.ref 355), some (.int (nI (mvS w o l))), some (.int (nI (l)))] [] g (Q) := by
  refine X_iload_n rfl rfl rfl rfl ?_
  refine X_bipush (v := (26 : Int32)) rfl rfl rfl ?_
  refine X_icmp_ge (tgt := 34) rfl rfl rfl (fun h1 => ?_) (fun h1 => ?_)
  · exfalso
    simp only [Int32.lt_iff_toInt_lt, Int32.le_iff_toInt_le, ← Int32.toInt_inj, (show (26 : Int32).toInt = 26 from rfl), (nI_toInt (n := l) (by omega))] at h1
    omega
  · refine X_iload_n rfl rfl rfl rfl ?_
    refine X_aload_n rfl rfl rfl rfl ?_
    refine X_iload_n rfl rfl rfl rfl ?_
    refine Y_callV (as := [.int (nI (l))]) (st := [.int (nI (mvS w o l))]) rfl rfl rfl (by decide) rfl (Nat.le_of_ble_eq_true rfl) (by decide) (Nat.le_of_ble_eq_true rfl) rfl ((congrFun F.1 355).trans s_355) (by decide) (rv_would F hw ho hl rfl (Nat.mod_lt _ (by decide)) (bit_nI (by omega) (by omega))) ?_
    rintro _ _ ⟨rfl, rfl⟩
    refine X_if_eq (tgt := 25) rfl rfl rfl (fun h2 => ?_) (fun h2 => ?_)
    · refine X_iconst (v := (0 : Int32)) rfl rfl rfl ?_
      refine X_ior (v := (nI (mvS w o l))) rfl rfl (nI_or0 _) ?_
      refine X_istore_n (i := 1) (ls' := [some (.ref 355), some (.int (nI (mvS w o l))), some (.int (nI (l)))]) rfl rfl rfl (Nat.le_of_ble_eq_true rfl) rfl ?_
      refine X_iinc (v := (nI (l + 1))) (ls' := [some (.ref 355), some (.int (nI (mvS w o l))), some (.int (nI (l + 1)))]) rfl rfl rfl (nI_add (l) 1) rfl ?_
      refine LW_goto (tgt := 4) rfl rfl ?_
      have hlt := mvB_lt w o l
      have hq : mvB w o l = 0 := by
        have hz : nI (mvB w o l) = nI 0 ↔ mvB w o l = 0 := nI_eq (by omega) (by decide)
        exact hz.mp h2
      rw [mvS_0 w o l hq] at k
      exact k
    · refine X_iconst (v := (1 : Int32)) rfl rfl rfl ?_
      refine X_iload_n rfl rfl rfl rfl ?_
      refine X_ishl (v := (nI (2 ^ l))) rfl rfl (tie_1 l hl) ?_
      refine LW_goto (tgt := 26) rfl rfl ?_
      refine X_ior (v := (nI ((mvS w o l) ||| (2 ^ l)))) rfl rfl (nI_or (mvS w o l) (2 ^ l)) ?_
      refine X_istore_n (i := 1) (ls' := [some (.ref 355), some (.int (nI ((mvS w o l) ||| (2 ^ l)))), some (.int (nI (l)))]) rfl rfl rfl (Nat.le_of_ble_eq_true rfl) rfl ?_
      refine X_iinc (v := (nI (l + 1))) (ls' := [some (.ref 355), some (.int (nI ((mvS w o l) ||| (2 ^ l)))), some (.int (nI (l + 1)))]) rfl rfl rfl (nI_add (l) 1) rfl ?_
      refine LW_goto (tgt := 4) rfl rfl ?_
      have hlt := mvB_lt w o l
      have hq : mvB w o l = 1 := by
        have hz : nI (mvB w o l) = nI 0 ↔ mvB w o l = 0 := nI_eq (by omega) (by decide)
        have h0 : ¬ mvB w o l = 0 := fun q => h2 (hz.mpr q)
        omega
      rw [mvS_1 w o l hq] at k
      exact k
set_option maxRecDepth 10000 in
set_option maxHeartbeats 40000000 in
theorem rv_dawn1e {g : LH} {d m : Nat} {w : Nat → Nat} {o dy : Nat} {Q : Option Value → LH → Prop} (F : RV g w o dy) (hw : ∀ k, k < 26 → w k ≤ 99) (ho : o < 2 ^ 26) (k : LW 247 (d + 3) 0 0 36 [some (.ref 355), some (.int (nI (m))), some (.int (nI (0)))] [] g Q) : LW 247 (d + 3) 0 0 4 [some (.ref 355), some (.int (nI (m))), some (.int (nI (26)))] [] g (Q) := by
  refine X_iload_n rfl rfl rfl rfl ?_
  refine X_bipush (v := (26 : Int32)) rfl rfl rfl ?_
  refine X_icmp_ge (tgt := 34) rfl rfl rfl (fun h1 => ?_) (fun h1 => ?_)
  · refine X_iconst (v := (0 : Int32)) rfl rfl rfl ?_
    refine X_istore_n (i := 2) (ls' := [some (.ref 355), some (.int (nI (m))), some (.int (0 : Int32))]) rfl rfl rfl (Nat.le_of_ble_eq_true rfl) rfl ?_
    exact k
  · exfalso
    simp only [Int32.lt_iff_toInt_lt, Int32.le_iff_toInt_le, ← Int32.toInt_inj, (show (26 : Int32).toInt = 26 from rfl), (nI_toInt (n := 26) (by omega))] at h1
    omega
theorem rv_dawn1l {g : LH} {d : Nat} {w : Nat → Nat} {o dy : Nat} {Q : Option Value → LH → Prop} (F : RV g w o dy) (hw : ∀ k, k < 26 → w k ≤ 99) (ho : o < 2 ^ 26) : ∀ (n l : Nat), l + n = 26 → LW 247 (d + 3) 0 0 36 [some (.ref 355), some (.int (nI (mvS w o 26))), some (.int (nI (0)))] [] g Q → LW 247 (d + 3) 0 0 4 [some (.ref 355), some (.int (nI (mvS w o l))), some (.int (nI (l)))] [] g Q := by
  intro n
  induction n with
  | zero =>
    intro l hl k
    have hl : l = 26 := by omega
    subst hl
    exact rv_dawn1e F hw ho k
  | succ n ih =>
    intro l hl k
    exact rv_dawn1 F hw ho (by omega) (ih (l + 1) (by omega) k)
set_option maxRecDepth 10000 in
set_option maxHeartbeats 40000000 in
theorem rv_dawn2 {g : LH} {d l m t : Nat} {w : Nat → Nat} {o dy : Nat} {Q : Option Value → LH → Prop} (F : RV g w o dy) (hw : ∀ k, k < 26 → w k ≤ 99) (ho : o < 2 ^ 26) (hl : l < 26) (ht : t < 2) (hb : (((nI (m)) >>> ((nI (l)) &&& 31)) &&& (1 : Int32)) = nI t) (k : ∀ z, LW 247 (d + 3) 0 0 36 [some (.ref 355), some (.int (nI (m))), some (.int (nI (l + 1)))] [] (putI g 356 (38 + l) z) Q) : LW 247 (d + 3) 0 0 36 [some (.ref 355), some (.int (nI (m))), some (.int (nI (l)))] [] g (Q) := by
  refine X_iload_n rfl rfl rfl rfl ?_
  refine X_bipush (v := (26 : Int32)) rfl rfl rfl ?_
  refine X_icmp_ge (tgt := 101) rfl rfl rfl (fun h1 => ?_) (fun h1 => ?_)
  · exfalso
    simp only [Int32.lt_iff_toInt_lt, Int32.le_iff_toInt_le, ← Int32.toInt_inj, (show (26 : Int32).toInt = 26 from rfl), (nI_toInt (n := l) (by omega))] at h1
    omega
  · refine X_aload_n rfl rfl rfl rfl ?_
    refine X_getR (a := 356) rfl rfl rfl ((congrFun F.1 355).trans s_355) rfl ((congrFun (F.2.1 355 (by decide)) 0).trans r_355_0) ?_
    refine X_bipush (v := (38 : Int32)) rfl rfl rfl ?_
    refine X_iload_n rfl rfl rfl rfl ?_
    refine X_iadd (v := (nI (38 + l))) rfl rfl (nI_add (38) (l)) ?_
    refine X_iload_n rfl rfl rfl rfl ?_
    refine X_iload_n rfl rfl rfl rfl ?_
    refine X_callS (as := [.int (nI (m)), .int (nI (l))]) (st := [.int (nI (38 + l)), .ref 356]) rfl rfl rfl (by decide) rfl (Nat.le_of_ble_eq_true rfl) (by decide) (Nat.le_of_ble_eq_true rfl) rfl ?_
    refine LW_ls (ls' := [some (.int (nI (m))), some (.int (nI (l)))]) rfl ?_
    refine X_iload_n rfl rfl rfl rfl ?_
    refine X_iload_n rfl rfl rfl rfl ?_
    refine X_ishr (v := ((nI (m)) >>> ((nI (l)) &&& 31))) rfl rfl rfl ?_
    refine X_iconst (v := (1 : Int32)) rfl rfl rfl ?_
    refine X_iand (v := (nI (t))) rfl rfl hb ?_
    refine X_iconst (v := (1 : Int32)) rfl rfl rfl ?_
    refine X_icmp_ne (tgt := 13) rfl rfl rfl (fun h2 => ?_) (fun h2 => ?_)
    · refine X_iconst (v := (0 : Int32)) rfl rfl rfl ?_
      refine LW_ireturn (st := []) rfl rfl rfl ?_
      refine X_if_eq (tgt := 62) rfl rfl rfl (fun _ => ?_) (fun q => absurd q (by decide))
      refine X_aload_n rfl rfl rfl rfl ?_
      refine X_getR (a := 356) rfl rfl rfl ((congrFun F.1 355).trans s_355) rfl ((congrFun (F.2.1 355 (by decide)) 0).trans r_355_0) ?_
      refine X_bipush (v := (38 : Int32)) rfl rfl rfl ?_
      refine X_iload_n rfl rfl rfl rfl ?_
      refine X_iadd (v := (nI (38 + l))) rfl rfl (nI_add (38) (l)) ?_
      refine X_iald (v := ((Gi g 356) (38 + l))) rfl rfl ((congrFun F.1 356).trans s_356) (vp_in_nI (by omega) (by decide)) (congrArg (Gi _ 356) (nI_clamp (n := 38 + l) (by omega))) ?_
      refine X_sipush (v := (999 : Int32)) rfl rfl rfl ?_
      refine X_icmp_ge (tgt := 91) rfl rfl rfl (fun h3 => ?_) (fun h3 => ?_)
      · refine X_sipush (v := (999 : Int32)) rfl rfl rfl ?_
        refine X_iast (k0 := 38 + l) rfl rfl ((congrFun F.1 356).trans s_356) (vp_in_nI (by omega) (by decide)) (nI_clamp (n := 38 + l) (by omega)) ?_
        refine X_iinc (v := (nI (l + 1))) (ls' := [some (.ref 355), some (.int (nI (m))), some (.int (nI (l + 1)))]) rfl rfl rfl (nI_add (l) 1) rfl ?_
        refine LW_goto (tgt := 36) rfl rfl ?_
        exact k _
      · refine X_aload_n rfl rfl rfl rfl ?_
        refine X_getR (a := 356) rfl rfl rfl ((congrFun F.1 355).trans s_355) rfl ((congrFun (F.2.1 355 (by decide)) 0).trans r_355_0) ?_
        refine X_bipush (v := (38 : Int32)) rfl rfl rfl ?_
        refine X_iload_n rfl rfl rfl rfl ?_
        refine X_iadd (v := (nI (38 + l))) rfl rfl (nI_add (38) (l)) ?_
        refine X_iald (v := ((Gi g 356) (38 + l))) rfl rfl ((congrFun F.1 356).trans s_356) (vp_in_nI (by omega) (by decide)) (congrArg (Gi _ 356) (nI_clamp (n := 38 + l) (by omega))) ?_
        refine X_iconst (v := (1 : Int32)) rfl rfl rfl ?_
        refine X_iadd (v := (((Gi g 356) (38 + l)) + (1 : Int32))) rfl rfl rfl ?_
        refine LW_goto (tgt := 94) rfl rfl ?_
        refine X_iast (k0 := 38 + l) rfl rfl ((congrFun F.1 356).trans s_356) (vp_in_nI (by omega) (by decide)) (nI_clamp (n := 38 + l) (by omega)) ?_
        refine X_iinc (v := (nI (l + 1))) (ls' := [some (.ref 355), some (.int (nI (m))), some (.int (nI (l + 1)))]) rfl rfl rfl (nI_add (l) 1) rfl ?_
        refine LW_goto (tgt := 36) rfl rfl ?_
        exact k _
    · refine X_iconst (v := (1 : Int32)) rfl rfl rfl ?_
      refine LW_goto (tgt := 14) rfl rfl ?_
      refine LW_ireturn (st := []) rfl rfl rfl ?_
      refine X_if_eq (tgt := 62) rfl rfl rfl (fun q => absurd q (by decide)) (fun _ => ?_)
      refine X_iconst (v := (0 : Int32)) rfl rfl rfl ?_
      refine LW_goto (tgt := 94) rfl rfl ?_
      refine X_iast (k0 := 38 + l) rfl rfl ((congrFun F.1 356).trans s_356) (vp_in_nI (by omega) (by decide)) (nI_clamp (n := 38 + l) (by omega)) ?_
      refine X_iinc (v := (nI (l + 1))) (ls' := [some (.ref 355), some (.int (nI (m))), some (.int (nI (l + 1)))]) rfl rfl rfl (nI_add (l) 1) rfl ?_
      refine LW_goto (tgt := 36) rfl rfl ?_
      exact k _
set_option maxRecDepth 10000 in
set_option maxHeartbeats 40000000 in
theorem rv_dawn2e {g : LH} {d m : Nat} {w : Nat → Nat} {o dy : Nat} {Q : Option Value → LH → Prop} (F : RV g w o dy) (hw : ∀ k, k < 26 → w k ≤ 99) (ho : o < 2 ^ 26) (hm : m < 2 ^ 26) (k : ∀ g', RV g' w (o ^^^ m) (dy + 1) → Q none g') : LW 247 (d + 3) 0 0 36 [some (.ref 355), some (.int (nI (m))), some (.int (nI (26)))] [] g (Q) := by
  refine X_iload_n rfl rfl rfl rfl ?_
  refine X_bipush (v := (26 : Int32)) rfl rfl rfl ?_
  refine X_icmp_ge (tgt := 101) rfl rfl rfl (fun h1 => ?_) (fun h1 => ?_)
  · refine X_aload_n rfl rfl rfl rfl ?_
    refine X_getR (a := 356) rfl rfl rfl ((congrFun F.1 355).trans s_355) rfl ((congrFun (F.2.1 355 (by decide)) 0).trans r_355_0) ?_
    refine X_bipush (v := (7 : Int32)) rfl rfl rfl ?_
    refine X_dup2 rfl rfl rfl rfl ?_
    refine X_iald (v := (nI (o))) rfl rfl ((congrFun F.1 356).trans s_356) (vp_in_d rfl) F.2.2.1 ?_
    refine X_iload_n rfl rfl rfl rfl ?_
    refine X_ixor (v := (nI (o ^^^ m))) rfl rfl (nI_xor (o) (m)) ?_
    refine X_iast (k0 := 7) rfl rfl ((congrFun F.1 356).trans s_356) (vp_in_d rfl) rfl ?_
    refine X_aload_n rfl rfl rfl rfl ?_
    refine X_getR (a := 356) rfl rfl rfl ((congrFun F.1 355).trans s_355) rfl ((congrFun (F.2.1 355 (by decide)) 0).trans r_355_0) ?_
    refine X_iconst (v := (2 : Int32)) rfl rfl rfl ?_
    refine X_dup2 rfl rfl rfl rfl ?_
    refine X_iald (v := (nI (dy))) rfl rfl ((congrFun F.1 356).trans s_356) (vp_in_d rfl) F.2.2.2.1 ?_
    refine X_iconst (v := (1 : Int32)) rfl rfl rfl ?_
    refine X_iadd (v := (nI (dy + 1))) rfl rfl (nI_add (dy) (1)) ?_
    refine X_iast (k0 := 2) rfl rfl ((congrFun F.1 356).trans s_356) (vp_in_d rfl) rfl ?_
    exact LW_return (st := []) rfl rfl (k _ (RV_fld (RV_fld F (Or.inl ⟨rfl, rfl, rfl⟩)) (Or.inr (Or.inl ⟨rfl, rfl, rfl⟩))))
  · exfalso
    simp only [Int32.lt_iff_toInt_lt, Int32.le_iff_toInt_le, ← Int32.toInt_inj, (show (26 : Int32).toInt = 26 from rfl), (nI_toInt (n := 26) (by omega))] at h1
    omega
theorem rv_dawn2l {d m : Nat} {w : Nat → Nat} {o dy : Nat} {Q : Option Value → LH → Prop} (hw : ∀ k, k < 26 → w k ≤ 99) (ho : o < 2 ^ 26) (hm : m < 2 ^ 26) (k : ∀ g', RV g' w (o ^^^ m) (dy + 1) → Q none g') : ∀ (n l : Nat), l + n = 26 → ∀ g : LH, RV g w o dy → LW 247 (d + 3) 0 0 36 [some (.ref 355), some (.int (nI (m))), some (.int (nI (l)))] [] g Q := by
  intro n
  induction n with
  | zero =>
    intro l hl g F
    have hl : l = 26 := by omega
    subst hl
    exact rv_dawn2e F hw ho hm k
  | succ n ih =>
    intro l hl g F
    exact rv_dawn2 (t := m / 2 ^ l % 2) F hw ho (by omega) (Nat.mod_lt _ (by decide)) (bit_nI (by omega) (by omega)) (fun z => ih (l + 1) (by omega) _ (RV_put F (by omega)))
theorem rv_dawn {g : LH} {d : Nat} {w : Nat → Nat} {o dy : Nat} (F : RV g w o dy) (hw : ∀ k, k < 26 → w k ≤ 99) (ho : o < 2 ^ 26) : LW 247 (d + 3) 0 0 0 (lEnt (mL 247) [.ref 355]) [] g (fun v g' => v = none ∧ RV g' w (o ^^^ mvS w o 26) (dy + 1)) := by
  refine LW_ls (ls' := [some (.ref 355), none, none]) rfl ?_
  refine X_iconst (v := 0) rfl rfl rfl ?_
  refine X_istore_n (i := 1) (ls' := [some (.ref 355), some (.int (nI (mvS w o 0))), none]) rfl rfl rfl (Nat.le_of_ble_eq_true rfl) rfl ?_
  refine X_iconst (v := 0) rfl rfl rfl ?_
  refine X_istore_n (i := 2) (ls' := [some (.ref 355), some (.int (nI (mvS w o 0))), some (.int (nI 0))]) rfl rfl rfl (Nat.le_of_ble_eq_true rfl) rfl ?_
  exact rv_dawn1l F hw ho 26 0 rfl (rv_dawn2l hw ho (mvS_lt w o 26 (Nat.le_refl _)) (fun g' V => ⟨rfl, V⟩) 26 0 rfl g F)
set_option maxRecDepth 10000 in
set_option maxHeartbeats 40000000 in
theorem rv_isMorning {g : LH} {i : Nat} (F : RV g (fun _ => 1) 0 i) {d : Nat} (hi : i < 99) : LW 248 (d + 4) 0 0 0 (lEnt (mL 248) [.ref 355]) [] g (fun v g' => v = some (.int 1) ∧ RV g' (fun _ => 1) 0 (i + 1)) := by
  refine LW_ls (ls' := [some (.ref 355)]) rfl ?_
  refine X_aload_n rfl rfl rfl rfl ?_
  refine X_getR (a := 356) rfl rfl rfl ((congrFun F.1 355).trans s_355) rfl ((congrFun (F.2.1 355 (by decide)) 0).trans r_355_0) ?_
  refine X_iconst (v := (2 : Int32)) rfl rfl rfl ?_
  refine X_iald (v := (nI (i))) rfl rfl ((congrFun F.1 356).trans s_356) (vp_in_d rfl) F.2.2.2.1 ?_
  refine X_sipush (v := (999 : Int32)) rfl rfl rfl ?_
  refine X_icmp_ne (tgt := 14) rfl rfl rfl (fun h1 => ?_) (fun h1 => ?_)
  · refine X_aload_n rfl rfl rfl rfl ?_
    refine Y_callV (as := []) (st := []) rfl rfl rfl (by decide) rfl (Nat.le_of_ble_eq_true rfl) (by decide) (Nat.le_of_ble_eq_true rfl) rfl ((congrFun F.1 355).trans s_355) (by decide) (rv_keep F) ?_
    rintro _ g ⟨rfl, F⟩
    refine X_aload_n rfl rfl rfl rfl ?_
    refine Y_callV (as := []) (st := []) rfl rfl rfl (by decide) rfl (Nat.le_of_ble_eq_true rfl) (by decide) (Nat.le_of_ble_eq_true rfl) rfl ((congrFun F.1 355).trans s_355) (by decide) (rv_dawn F ones (by decide)) ?_
    rintro _ g ⟨rfl, F⟩
    refine X_iconst (v := (1 : Int32)) rfl rfl rfl ?_
    rw [mvS_new] at F
    exact LW_ireturn (st := []) rfl rfl rfl ⟨rfl, F⟩
  · exfalso
    simp only [Int32.lt_iff_toInt_lt, Int32.le_iff_toInt_le, ← Int32.toInt_inj, (show (999 : Int32).toInt = 999 from rfl), (nI_toInt (n := i) (by omega))] at h1
    omega
set_option maxRecDepth 10000 in
set_option maxHeartbeats 40000000 in
theorem rv_mo1 {g : LH} {d i n : Nat} {Q : Option Value → LH → Prop} (F : RV g (fun _ => 1) 0 i) (hi : i < n) (hn : n ≤ 99) (k : ∀ g', RV g' (fun _ => 1) 0 (i + 1) → LW 249 (d + 5) 0 0 30 [some (.ref 355), some (.int (nI (n))), some (.int (nI (i + 1))), some (.int (nI (i + 1)))] [] g' Q) : LW 249 (d + 5) 0 0 30 [some (.ref 355), some (.int (nI (n))), some (.int (nI (i))), some (.int (nI (i)))] [] g (Q) := by
  refine X_iload_n rfl rfl rfl rfl ?_
  refine X_iload_n rfl rfl rfl rfl ?_
  refine X_icmp_ge (tgt := 56) rfl rfl rfl (fun h1 => ?_) (fun h1 => ?_)
  · exfalso
    simp only [Int32.lt_iff_toInt_lt, Int32.le_iff_toInt_le, ← Int32.toInt_inj, (nI_toInt (n := i) (by omega)), (nI_toInt (n := n) (by omega))] at h1
    omega
  · refine X_iload_n rfl rfl rfl rfl ?_
    refine X_aload_n rfl rfl rfl rfl ?_
    refine Y_callV (as := []) (st := [.int (nI (i))]) rfl rfl rfl (by decide) rfl (Nat.le_of_ble_eq_true rfl) (by decide) (Nat.le_of_ble_eq_true rfl) rfl ((congrFun F.1 355).trans s_355) (by decide) (rv_isMorning F (by omega)) ?_
    rintro _ g ⟨rfl, F⟩
    refine X_if_eq (tgt := 47) rfl rfl rfl (fun q => absurd q (by decide)) (fun _ => ?_)
    refine X_iconst (v := (1 : Int32)) rfl rfl rfl ?_
    refine LW_goto (tgt := 48) rfl rfl ?_
    refine X_iadd (v := (nI (i + 1))) rfl rfl (nI_add (i) (1)) ?_
    refine X_istore_n (i := 2) (ls' := [some (.ref 355), some (.int (nI (n))), some (.int (nI (i + 1))), some (.int (nI (i)))]) rfl rfl rfl (Nat.le_of_ble_eq_true rfl) rfl ?_
    refine X_iinc (v := (nI (i + 1))) (ls' := [some (.ref 355), some (.int (nI (n))), some (.int (nI (i + 1))), some (.int (nI (i + 1)))]) rfl rfl rfl (nI_add (i) 1) rfl ?_
    refine LW_goto (tgt := 30) rfl rfl ?_
    exact k _ F
set_option maxRecDepth 10000 in
set_option maxHeartbeats 40000000 in
theorem rv_mo2 {g : LH} {d n : Nat} {Q : Option Value → LH → Prop} (F : RV g (fun _ => 1) 0 n) (hn : n ≤ 99) (k : Q (some (.int (nI (pcn 26 0)))) g) : LW 249 (d + 5) 0 0 30 [some (.ref 355), some (.int (nI (n))), some (.int (nI (n))), some (.int (nI (n)))] [] g (Q) := by
  refine X_iload_n rfl rfl rfl rfl ?_
  refine X_iload_n rfl rfl rfl rfl ?_
  refine X_icmp_ge (tgt := 56) rfl rfl rfl (fun h1 => ?_) (fun h1 => ?_)
  · refine X_iload_n rfl rfl rfl rfl ?_
    refine X_iload_n rfl rfl rfl rfl ?_
    refine X_icmp_ge (tgt := 65) rfl rfl rfl (fun h2 => ?_) (fun h2 => ?_)
    · refine X_aload_n rfl rfl rfl rfl ?_
      refine X_getR (a := 356) rfl rfl rfl ((congrFun F.1 355).trans s_355) rfl ((congrFun (F.2.1 355 (by decide)) 0).trans r_355_0) ?_
      refine X_bipush (v := (7 : Int32)) rfl rfl rfl ?_
      refine X_iald (v := (nI (0))) rfl rfl ((congrFun F.1 356).trans s_356) (vp_in_d rfl) F.2.2.1 ?_
      refine Y_callS (as := [.int (nI (0))]) (st := []) rfl rfl rfl (by decide) rfl (Nat.le_of_ble_eq_true rfl) (by decide) (Nat.le_of_ble_eq_true rfl) rfl (r_bits (n := 0) (by omega)) ?_
      rintro _ _ ⟨rfl, rfl⟩
      exact LW_ireturn (st := []) rfl rfl rfl k
    · exfalso
      simp only [Int32.lt_iff_toInt_lt, Int32.le_iff_toInt_le, ← Int32.toInt_inj, (nI_toInt (n := n) (by omega))] at h1 h2
      omega
  · exfalso
    simp only [Int32.lt_iff_toInt_lt, Int32.le_iff_toInt_le, ← Int32.toInt_inj, (nI_toInt (n := n) (by omega))] at h1
    omega
theorem rv_mol {d n : Nat} {Q : Option Value → LH → Prop} (hn : n ≤ 99) (k : ∀ g, Q (some (.int (nI (pcn 26 0)))) g) : ∀ (m i : Nat), i + m = n → ∀ g : LH, RV g (fun _ => 1) 0 i → LW 249 (d + 5) 0 0 30 [some (.ref 355), some (.int (nI (n))), some (.int (nI (i))), some (.int (nI (i)))] [] g Q := by
  intro m
  induction m with
  | zero =>
    intro i hi g F
    have hi : i = n := by omega
    subst hi
    exact rv_mo2 F hn (k g)
  | succ m ih =>
    intro i hi g F
    exact rv_mo1 F (by omega) hn (fun g' V => ih (i + 1) (by omega) g' V)
set_option maxRecDepth 10000 in
set_option maxHeartbeats 40000000 in
theorem r_morning_in {g : LH} (F : Fr g) {n : Nat} (h0 : 1 ≤ n) (hn : n ≤ 99) : LW 249 30 0 0 0 (lEnt (mL 249) [.ref 355, .int (nI (n))]) [] g (fun v _ => v = some (.int (0))) := by
  refine LW_ls (ls' := [some (.ref 355), some (.int (nI (n))), none, none]) rfl ?_
  refine X_iload_n rfl rfl rfl rfl ?_
  refine X_iconst (v := (1 : Int32)) rfl rfl rfl ?_
  refine X_bipush (v := (99 : Int32)) rfl rfl rfl ?_
  refine X_callS (as := [.int (nI (n)), .int (1 : Int32), .int (99 : Int32)]) (st := []) rfl rfl rfl (by decide) rfl (Nat.le_of_ble_eq_true rfl) (by decide) (Nat.le_of_ble_eq_true rfl) rfl ?_
  refine LW_ls (ls' := [some (.int (nI (n))), some (.int (1 : Int32)), some (.int (99 : Int32))]) rfl ?_
  refine X_iload_n rfl rfl rfl rfl ?_
  refine X_iload_n rfl rfl rfl rfl ?_
  refine X_icmp_lt (tgt := 14) rfl rfl rfl (fun h1 => ?_) (fun h1 => ?_)
  · exfalso
    simp only [Int32.lt_iff_toInt_lt, Int32.le_iff_toInt_le, ← Int32.toInt_inj, (show (1 : Int32).toInt = 1 from rfl), (nI_toInt (n := n) (by omega))] at h1
    omega
  · refine X_iload_n rfl rfl rfl rfl ?_
    refine X_iload_n rfl rfl rfl rfl ?_
    refine X_icmp_gt (tgt := 14) rfl rfl rfl (fun h2 => ?_) (fun h2 => ?_)
    · exfalso
      simp only [Int32.lt_iff_toInt_lt, Int32.le_iff_toInt_le, ← Int32.toInt_inj, (show (1 : Int32).toInt = 1 from rfl), (show (99 : Int32).toInt = 99 from rfl), (nI_toInt (n := n) (by omega))] at h1 h2
      omega
    · refine X_iconst (v := (1 : Int32)) rfl rfl rfl ?_
      refine LW_goto (tgt := 15) rfl rfl ?_
      refine LW_ireturn (st := []) rfl rfl rfl ?_
      refine X_if_eq (tgt := 24) rfl rfl rfl (fun q => absurd q (by decide)) (fun _ => ?_)
      refine X_aload_n rfl rfl rfl rfl ?_
      refine X_getR (a := 356) rfl rfl rfl ((congrFun F.1 355).trans s_355) rfl ((congrFun (F.2.1 355 (by decide)) 0).trans r_355_0) ?_
      refine X_iconst (v := (2 : Int32)) rfl rfl rfl ?_
      refine X_iald (v := (0 : Int32)) rfl rfl ((congrFun F.1 356).trans s_356) (vp_in_d rfl) ((congrFun (F.2.2 356 (by decide)).1 2).trans i_356_2) ?_
      refine X_iload_n rfl rfl rfl rfl ?_
      refine X_iadd (v := (nI (0 + n))) rfl rfl (nI_add (0) (n)) ?_
      refine X_sipush (v := (999 : Int32)) rfl rfl rfl ?_
      refine X_icmp_le (tgt := 26) rfl rfl rfl (fun h3 => ?_) (fun h3 => ?_)
      · refine X_iconst (v := (0 : Int32)) rfl rfl rfl ?_
        refine X_istore_n (i := 2) (ls' := [some (.ref 355), some (.int (nI (n))), some (.int (0 : Int32)), none]) rfl rfl rfl (Nat.le_of_ble_eq_true rfl) rfl ?_
        refine X_iconst (v := (0 : Int32)) rfl rfl rfl ?_
        refine X_istore_n (i := 3) (ls' := [some (.ref 355), some (.int (nI (n))), some (.int (0 : Int32)), some (.int (0 : Int32))]) rfl rfl rfl (Nat.le_of_ble_eq_true rfl) rfl ?_
        exact rv_mol hn (fun g => congrArg (fun z => some (Value.int z)) (show nI (pcn 26 0) = 0 from by decide +kernel)) n 0 (by omega) g (RV_new F)
      · exfalso
        simp only [Int32.lt_iff_toInt_lt, Int32.le_iff_toInt_le, ← Int32.toInt_inj, (show (1 : Int32).toInt = 1 from rfl), (show (99 : Int32).toInt = 99 from rfl), (show (999 : Int32).toInt = 999 from rfl), (nI_toInt (n := 0 + n) (by omega)), (nI_toInt (n := n) (by omega))] at h1 h2 h3
        omega
set_option maxRecDepth 10000 in
set_option maxHeartbeats 40000000 in
theorem r_morning_out {g : LH} (F : Fr g) (a : Int32) (hr : ¬ (1 ≤ a.toInt ∧ a.toInt ≤ 99)) : LW 249 30 0 0 0 (lEnt (mL 249) [.ref 355, .int a]) [] g (fun v _ => v = some (.int (-1))) := by
  refine LW_ls (ls' := [some (.ref 355), some (.int a), none, none]) rfl ?_
  refine X_iload_n rfl rfl rfl rfl ?_
  refine X_iconst (v := (1 : Int32)) rfl rfl rfl ?_
  refine X_bipush (v := (99 : Int32)) rfl rfl rfl ?_
  refine X_callS (as := [.int a, .int (1 : Int32), .int (99 : Int32)]) (st := []) rfl rfl rfl (by decide) rfl (Nat.le_of_ble_eq_true rfl) (by decide) (Nat.le_of_ble_eq_true rfl) rfl ?_
  refine LW_ls (ls' := [some (.int a), some (.int (1 : Int32)), some (.int (99 : Int32))]) rfl ?_
  refine X_iload_n rfl rfl rfl rfl ?_
  refine X_iload_n rfl rfl rfl rfl ?_
  refine X_icmp_lt (tgt := 14) rfl rfl rfl (fun h1 => ?_) (fun h1 => ?_)
  · refine X_iconst (v := (0 : Int32)) rfl rfl rfl ?_
    refine LW_ireturn (st := []) rfl rfl rfl ?_
    refine X_if_eq (tgt := 24) rfl rfl rfl (fun _ => ?_) (fun q => absurd q (by decide))
    refine X_iconst (v := (-1 : Int32)) rfl rfl rfl ?_
    exact LW_ireturn (st := []) rfl rfl rfl rfl
  · refine X_iload_n rfl rfl rfl rfl ?_
    refine X_iload_n rfl rfl rfl rfl ?_
    refine X_icmp_gt (tgt := 14) rfl rfl rfl (fun h2 => ?_) (fun h2 => ?_)
    · refine X_iconst (v := (0 : Int32)) rfl rfl rfl ?_
      refine LW_ireturn (st := []) rfl rfl rfl ?_
      refine X_if_eq (tgt := 24) rfl rfl rfl (fun _ => ?_) (fun q => absurd q (by decide))
      refine X_iconst (v := (-1 : Int32)) rfl rfl rfl ?_
      exact LW_ireturn (st := []) rfl rfl rfl rfl
    · refine X_iconst (v := (1 : Int32)) rfl rfl rfl ?_
      refine LW_goto (tgt := 15) rfl rfl ?_
      refine LW_ireturn (st := []) rfl rfl rfl ?_
      refine X_if_eq (tgt := 24) rfl rfl rfl (fun q => absurd q (by decide)) (fun _ => ?_)
      exfalso
      simp only [Int32.lt_iff_toInt_lt, Int32.le_iff_toInt_le, ← Int32.toInt_inj, (show (1 : Int32).toInt = 1 from rfl), (show (99 : Int32).toInt = 99 from rfl)] at h1 h2
      omega
set_option maxRecDepth 10000 in
set_option maxHeartbeats 40000000 in
theorem rv_anew {g : LH}  {d x : Nat} (hx : x < 60000) : LW 267 d 0 0 0 (lEnt (mL 267) [.int (nI (x))]) [] g (fun v g' => v = some (.int (nI (anewN x))) ∧ g' = g) := by
  refine LW_ls (ls' := [some (.int (nI (x)))]) rfl ?_
  refine X_iload_n rfl rfl rfl rfl ?_
  refine X_sipush (v := (211 : Int32)) rfl rfl rfl ?_
  refine X_imul (v := (nI (x * 211))) rfl rfl (pk_mul (x) (211)) ?_
  refine X_bipush (v := (97 : Int32)) rfl rfl rfl ?_
  refine X_iadd (v := (nI ((x * 211) + 97))) rfl rfl (nI_add (x * 211) (97)) ?_
  refine X_sipush (v := (30139 : Int32)) rfl rfl rfl ?_
  refine X_irem (v := (nI (((x * 211) + 97) % 30139))) rfl rfl (by decide) (nI_irem (d := 30139) (by omega) (by decide)) ?_
  exact LW_ireturn (st := []) rfl rfl rfl ⟨rfl, rfl⟩
set_option maxRecDepth 10000 in
set_option maxHeartbeats 40000000 in
theorem rv_happens {g : LH} {w : Nat → Nat} {o dy : Nat} (F : RV g w o dy) {d l x : Nat} (ok : yOk w o) (hl : l < 26) (hx : x < 60000) (hdy : dy < 900) : LW 268 (d + 4) 0 0 0 (lEnt (mL 268) [.ref 355, .int (nI (l)), .int (nI (x))]) [] g (fun v g' => v = none ∧ ∃ dy', dy' ≤ dy + 1 ∧ RV g' (yW w l x) (yO w o l x) dy') := by
  refine LW_ls (ls' := [some (.ref 355), some (.int (nI (l))), some (.int (nI (x)))]) rfl ?_
  refine X_iload_n rfl rfl rfl rfl ?_
  refine X_iconst (v := (4 : Int32)) rfl rfl rfl ?_
  refine X_irem (v := (nI (x % 4))) rfl rfl (by decide) (nI_irem (d := 4) (by omega) (by decide)) ?_
  by_cases h1 : (nI (x % 4)) = (0 : Int32)
  · refine LW_eqv h1 ?_
    refine LW_tableIn (tgt := 28) rfl (by decide) (by decide) rfl rfl ?_
    refine X_aload_n rfl rfl rfl rfl ?_
    refine X_getR (a := 356) rfl rfl rfl ((congrFun F.1 355).trans s_355) rfl ((congrFun (F.2.1 355 (by decide)) 0).trans r_355_0) ?_
    refine X_bipush (v := (12 : Int32)) rfl rfl rfl ?_
    refine X_iload_n rfl rfl rfl rfl ?_
    refine X_iadd (v := (nI (12 + l))) rfl rfl (nI_add (12) (l)) ?_
    refine X_iald (v := (nI (w l))) rfl rfl ((congrFun F.1 356).trans s_356) (vp_in_nI (by omega) (by decide)) ((congrArg (Gi _ 356) (nI_clamp (n := 12 + l) (by omega))).trans (F.2.2.2.2.1 l hl)) ?_
    refine X_bipush (v := (99 : Int32)) rfl rfl rfl ?_
    refine X_icmp_ge (tgt := 118) rfl rfl rfl (fun h2 => ?_) (fun h2 => ?_)
    · have e4 : x % 4 = 0 := by
        simp only [Int32.lt_iff_toInt_lt, Int32.le_iff_toInt_le, ← Int32.toInt_inj, (show (0 : Int32).toInt = 0 from rfl), (nI_toInt (n := x % 4) (by omega))] at h1
        omega
      have hww := ok.1 l hl
      have h99 : ¬ w l < 99 := by
        simp only [Int32.lt_iff_toInt_lt, Int32.le_iff_toInt_le, ← Int32.toInt_inj, (show (99 : Int32).toInt = 99 from rfl), (nI_toInt (n := w l) (by omega))] at h2
        omega
      refine LW_return (st := []) rfl rfl ⟨rfl, dy, by omega, ?_⟩
      rw [yW_p e4, yO_n (by omega) (by omega)]
      exact RV_full F h99 hww
    · refine X_aload_n rfl rfl rfl rfl ?_
      refine X_getR (a := 356) rfl rfl rfl ((congrFun F.1 355).trans s_355) rfl ((congrFun (F.2.1 355 (by decide)) 0).trans r_355_0) ?_
      refine X_bipush (v := (12 : Int32)) rfl rfl rfl ?_
      refine X_iload_n rfl rfl rfl rfl ?_
      refine X_iadd (v := (nI (12 + l))) rfl rfl (nI_add (12) (l)) ?_
      refine X_dup2 rfl rfl rfl rfl ?_
      refine X_iald (v := (nI (w l))) rfl rfl ((congrFun F.1 356).trans s_356) (vp_in_nI (by omega) (by decide)) ((congrArg (Gi _ 356) (nI_clamp (n := 12 + l) (by omega))).trans (F.2.2.2.2.1 l hl)) ?_
      refine X_iconst (v := (1 : Int32)) rfl rfl rfl ?_
      refine X_iadd (v := (nI ((w l) + 1))) rfl rfl (nI_add (w l) (1)) ?_
      refine X_iast (k0 := 12 + l) rfl rfl ((congrFun F.1 356).trans s_356) (vp_in_nI (by omega) (by decide)) (nI_clamp (n := 12 + l) (by omega)) ?_
      refine LW_goto (tgt := 118) rfl rfl ?_
      have e4 : x % 4 = 0 := by
        simp only [Int32.lt_iff_toInt_lt, Int32.le_iff_toInt_le, ← Int32.toInt_inj, (show (0 : Int32).toInt = 0 from rfl), (nI_toInt (n := x % 4) (by omega))] at h1
        omega
      have hww := ok.1 l hl
      have h99 :  w l < 99 := by
        simp only [Int32.lt_iff_toInt_lt, Int32.le_iff_toInt_le, ← Int32.toInt_inj, (show (99 : Int32).toInt = 99 from rfl), (nI_toInt (n := w l) (by omega))] at h2
        omega
      refine LW_return (st := []) rfl rfl ⟨rfl, dy, by omega, ?_⟩
      rw [yW_p e4, yO_n (by omega) (by omega)]
      exact RV_wage F hl h99
  by_cases h3 : (nI (x % 4)) = (1 : Int32)
  · refine LW_eqv h3 ?_
    refine LW_tableIn (tgt := 58) rfl (by decide) (by decide) rfl rfl ?_
    refine X_aload_n rfl rfl rfl rfl ?_
    refine X_getR (a := 356) rfl rfl rfl ((congrFun F.1 355).trans s_355) rfl ((congrFun (F.2.1 355 (by decide)) 0).trans r_355_0) ?_
    refine X_bipush (v := (7 : Int32)) rfl rfl rfl ?_
    refine X_dup2 rfl rfl rfl rfl ?_
    refine X_iald (v := (nI (o))) rfl rfl ((congrFun F.1 356).trans s_356) (vp_in_d rfl) F.2.2.1 ?_
    refine X_iconst (v := (1 : Int32)) rfl rfl rfl ?_
    refine X_iload_n rfl rfl rfl rfl ?_
    refine X_ishl (v := (nI (2 ^ l))) rfl rfl (tie_1 l hl) ?_
    refine X_ixor (v := (nI (o ^^^ (2 ^ l)))) rfl rfl (nI_xor (o) (2 ^ l)) ?_
    refine X_iast (k0 := 7) rfl rfl ((congrFun F.1 356).trans s_356) (vp_in_d rfl) rfl ?_
    refine X_aload_n rfl rfl rfl rfl ?_
    refine X_getR (a := 356) rfl rfl rfl ((congrFun F.1 355).trans s_355) rfl ((congrFun (F.2.1 355 (by decide)) 0).trans r_355_0) ?_
    refine X_bipush (v := (38 : Int32)) rfl rfl rfl ?_
    refine X_iload_n rfl rfl rfl rfl ?_
    refine X_iadd (v := (nI (38 + l))) rfl rfl (nI_add (38) (l)) ?_
    refine X_iconst (v := (0 : Int32)) rfl rfl rfl ?_
    refine X_iast (k0 := 38 + l) rfl rfl ((congrFun F.1 356).trans s_356) (vp_in_nI (by omega) (by decide)) (nI_clamp (n := 38 + l) (by omega)) ?_
    refine LW_goto (tgt := 118) rfl rfl ?_
    have e4 : x % 4 = 1 := by
      simp only [Int32.lt_iff_toInt_lt, Int32.le_iff_toInt_le, ← Int32.toInt_inj, (show (0 : Int32).toInt = 0 from rfl), (show (1 : Int32).toInt = 1 from rfl), (nI_toInt (n := x % 4) (by omega))] at h1 h3
      omega
    refine LW_return (st := []) rfl rfl ⟨rfl, dy, by omega, ?_⟩
    rw [yW_n (by omega), yO_1 e4]
    exact RV_put (RV_fld F (Or.inl ⟨rfl, rfl, rfl⟩)) (by omega)
  by_cases h4 : (nI (x % 4)) = (2 : Int32)
  · refine LW_eqv h4 ?_
    refine LW_tableIn (tgt := 84) rfl (by decide) (by decide) rfl rfl ?_
    refine X_aload_n rfl rfl rfl rfl ?_
    refine X_getR (a := 356) rfl rfl rfl ((congrFun F.1 355).trans s_355) rfl ((congrFun (F.2.1 355 (by decide)) 0).trans r_355_0) ?_
    refine X_bipush (v := (64 : Int32)) rfl rfl rfl ?_
    refine X_iload_n rfl rfl rfl rfl ?_
    refine X_iadd (v := (nI (64 + l))) rfl rfl (nI_add (64) (l)) ?_
    refine X_iload_n rfl rfl rfl rfl ?_
    refine X_bipush (v := (11 : Int32)) rfl rfl rfl ?_
    refine X_irem (v := (nI (x % 11))) rfl rfl (by decide) (nI_irem (d := 11) (by omega) (by decide)) ?_
    refine X_iconst (v := (1 : Int32)) rfl rfl rfl ?_
    refine X_isub (v := ((nI (x % 11)) - (1 : Int32))) rfl rfl rfl ?_
    refine X_iast (k0 := 64 + l) rfl rfl ((congrFun F.1 356).trans s_356) (vp_in_nI (by omega) (by decide)) (nI_clamp (n := 64 + l) (by omega)) ?_
    refine LW_goto (tgt := 118) rfl rfl ?_
    have e4 : x % 4 = 2 := by
      simp only [Int32.lt_iff_toInt_lt, Int32.le_iff_toInt_le, ← Int32.toInt_inj, (show (0 : Int32).toInt = 0 from rfl), (show (1 : Int32).toInt = 1 from rfl), (show (2 : Int32).toInt = 2 from rfl), (nI_toInt (n := x % 4) (by omega))] at h1 h3 h4
      omega
    refine LW_return (st := []) rfl rfl ⟨rfl, dy, by omega, ?_⟩
    rw [yW_n (by omega), yO_n (by omega) (by omega)]
    exact RV_put F (by omega)
  refine LW_tableOut (tgt := 102) rfl (by simp only [Int32.lt_iff_toInt_lt, Int32.le_iff_toInt_le, ← Int32.toInt_inj, (show (0 : Int32).toInt = 0 from rfl), (show (1 : Int32).toInt = 1 from rfl), (show (2 : Int32).toInt = 2 from rfl), (nI_toInt (n := x % 4) (by omega))] at h1 h3 h4 ⊢; omega) rfl ?_
  refine X_aload_n rfl rfl rfl rfl ?_
  refine X_getR (a := 356) rfl rfl rfl ((congrFun F.1 355).trans s_355) rfl ((congrFun (F.2.1 355 (by decide)) 0).trans r_355_0) ?_
  refine X_iconst (v := (2 : Int32)) rfl rfl rfl ?_
  refine X_iald (v := (nI (dy))) rfl rfl ((congrFun F.1 356).trans s_356) (vp_in_d rfl) F.2.2.2.1 ?_
  refine X_sipush (v := (999 : Int32)) rfl rfl rfl ?_
  refine X_icmp_ge (tgt := 118) rfl rfl rfl (fun h5 => ?_) (fun h5 => ?_)
  · exfalso
    simp only [Int32.lt_iff_toInt_lt, Int32.le_iff_toInt_le, ← Int32.toInt_inj, (show (0 : Int32).toInt = 0 from rfl), (show (1 : Int32).toInt = 1 from rfl), (show (2 : Int32).toInt = 2 from rfl), (show (999 : Int32).toInt = 999 from rfl), (nI_toInt (n := dy) (by omega)), (nI_toInt (n := x % 4) (by omega))] at h1 h3 h4 h5
    omega
  · refine X_aload_n rfl rfl rfl rfl ?_
    refine Y_callV (as := []) (st := []) rfl rfl rfl (by decide) rfl (Nat.le_of_ble_eq_true rfl) (by decide) (Nat.le_of_ble_eq_true rfl) rfl ((congrFun F.1 355).trans s_355) (by decide) (rv_dawn F ok.1 ok.2) ?_
    rintro _ g ⟨rfl, F⟩
    have e4 : x % 4 = 3 := by
      simp only [Int32.lt_iff_toInt_lt, Int32.le_iff_toInt_le, ← Int32.toInt_inj, (show (0 : Int32).toInt = 0 from rfl), (show (1 : Int32).toInt = 1 from rfl), (show (2 : Int32).toInt = 2 from rfl), (nI_toInt (n := x % 4) (by omega))] at h1 h3 h4
      omega
    refine LW_return (st := []) rfl rfl ⟨rfl, dy + 1, by omega, ?_⟩
    rw [yW_n (by omega), yO_3 e4]
    exact F
set_option maxRecDepth 10000 in
set_option maxHeartbeats 40000000 in
theorem rv_year1 {g : LH} {d i n x : Nat} {w : Nat → Nat} {o dy : Nat} {s0 l5 : Option Value} {Q : Option Value → LH → Prop} (F : RV g w o dy) (ok : yOk w o) (hx : x < 60000) (hdy : dy < 900) (hi : i < n) (hn : n ≤ 40) (k : ∀ g' dy', dy' ≤ dy + 1 → RV g' (yW w (x % 26) (anewN x)) (yO w o (x % 26) (anewN x)) dy' → LW 269 (d + 5) 0 0 37 [some (.ref 355), s0, some (.int (nI (n))), some (.int (nI (anewN (anewN x)))), some (.int (nI (i + 1))), some (.int (nI (x % 26)))] [] g' Q) : LW 269 (d + 5) 0 0 37 [some (.ref 355), s0, some (.int (nI (n))), some (.int (nI (x))), some (.int (nI (i))), l5] [] g (Q) := by
  refine X_iload rfl rfl rfl ?_
  refine X_iload_n rfl rfl rfl rfl ?_
  refine X_icmp_ge (tgt := 72) rfl rfl rfl (fun h1 => ?_) (fun h1 => ?_)
  · exfalso
    simp only [Int32.lt_iff_toInt_lt, Int32.le_iff_toInt_le, ← Int32.toInt_inj, (nI_toInt (n := i) (by omega)), (nI_toInt (n := n) (by omega))] at h1
    omega
  · refine X_iload_n rfl rfl rfl rfl ?_
    refine X_bipush (v := (26 : Int32)) rfl rfl rfl ?_
    refine X_irem (v := (nI (x % 26))) rfl rfl (by decide) (nI_irem (d := 26) (by omega) (by decide)) ?_
    refine X_istore (i := 5) (ls' := [some (.ref 355), s0, some (.int (nI (n))), some (.int (nI (x))), some (.int (nI (i))), some (.int (nI (x % 26)))]) rfl rfl (Nat.le_of_ble_eq_true rfl) rfl ?_
    refine X_iload_n rfl rfl rfl rfl ?_
    refine Y_callS (as := [.int (nI (x))]) (st := []) rfl rfl rfl (by decide) rfl (Nat.le_of_ble_eq_true rfl) (by decide) (Nat.le_of_ble_eq_true rfl) rfl (rv_anew (x := x) hx) ?_
    rintro _ _ ⟨rfl, rfl⟩
    refine X_istore_n (i := 3) (ls' := [some (.ref 355), s0, some (.int (nI (n))), some (.int (nI (anewN x))), some (.int (nI (i))), some (.int (nI (x % 26)))]) rfl rfl rfl (Nat.le_of_ble_eq_true rfl) rfl ?_
    refine X_aload_n rfl rfl rfl rfl ?_
    refine X_iload rfl rfl rfl ?_
    refine X_iload_n rfl rfl rfl rfl ?_
    refine Y_callV (as := [.int (nI (x % 26)), .int (nI (anewN x))]) (st := []) rfl rfl rfl (by decide) rfl (Nat.le_of_ble_eq_true rfl) (by decide) (Nat.le_of_ble_eq_true rfl) rfl ((congrFun F.1 355).trans s_355) (by decide) (rv_happens (l := x % 26) (x := anewN x) F ok (Nat.mod_lt _ (by decide)) (Nat.lt_trans (anewN_lt _) (by decide)) hdy) ?_
    rintro _ g ⟨rfl, dy1, hdy1, F⟩
    refine X_iload_n rfl rfl rfl rfl ?_
    refine Y_callS (as := [.int (nI (anewN x))]) (st := []) rfl rfl rfl (by decide) rfl (Nat.le_of_ble_eq_true rfl) (by decide) (Nat.le_of_ble_eq_true rfl) rfl (rv_anew (x := anewN x) (Nat.lt_trans (anewN_lt _) (by decide))) ?_
    rintro _ _ ⟨rfl, rfl⟩
    refine X_istore_n (i := 3) (ls' := [some (.ref 355), s0, some (.int (nI (n))), some (.int (nI (anewN (anewN x)))), some (.int (nI (i))), some (.int (nI (x % 26)))]) rfl rfl rfl (Nat.le_of_ble_eq_true rfl) rfl ?_
    refine X_iinc (v := (nI (i + 1))) (ls' := [some (.ref 355), s0, some (.int (nI (n))), some (.int (nI (anewN (anewN x)))), some (.int (nI (i + 1))), some (.int (nI (x % 26)))]) rfl rfl rfl (nI_add (i) 1) rfl ?_
    refine LW_goto (tgt := 37) rfl rfl ?_
    exact k _ dy1 hdy1 F
set_option maxRecDepth 10000 in
set_option maxHeartbeats 40000000 in
theorem rv_year2 {g : LH} {d n x : Nat} {w : Nat → Nat} {o dy : Nat} {s0 l5 : Option Value} {Q : Option Value → LH → Prop} (F : RV g w o dy) (ho : o < 2 ^ 26) (hn : n ≤ 40) (k : ∀ g', Q (some (.int (nI (pcn 26 o)))) g') : LW 269 (d + 5) 0 0 37 [some (.ref 355), s0, some (.int (nI (n))), some (.int (nI (x))), some (.int (nI (n))), l5] [] g (Q) := by
  refine X_iload rfl rfl rfl ?_
  refine X_iload_n rfl rfl rfl rfl ?_
  refine X_icmp_ge (tgt := 72) rfl rfl rfl (fun h1 => ?_) (fun h1 => ?_)
  · refine X_aload_n rfl rfl rfl rfl ?_
    refine X_getR (a := 356) rfl rfl rfl ((congrFun F.1 355).trans s_355) rfl ((congrFun (F.2.1 355 (by decide)) 0).trans r_355_0) ?_
    refine X_iconst (v := (3 : Int32)) rfl rfl rfl ?_
    refine X_iload_n rfl rfl rfl rfl ?_
    refine X_iast (k0 := 3) rfl rfl ((congrFun F.1 356).trans s_356) (vp_in_d rfl) rfl ?_
    refine X_aload_n rfl rfl rfl rfl ?_
    refine X_getR (a := 356) rfl rfl rfl ((congrFun F.1 355).trans s_355) rfl ((congrFun (F.2.1 355 (by decide)) 0).trans r_355_0) ?_
    refine X_bipush (v := (7 : Int32)) rfl rfl rfl ?_
    refine X_iald (v := (nI (o))) rfl rfl ((congrFun F.1 356).trans s_356) (vp_in_d rfl) F.2.2.1 ?_
    refine Y_callS (as := [.int (nI (o))]) (st := []) rfl rfl rfl (by decide) rfl (Nat.le_of_ble_eq_true rfl) (by decide) (Nat.le_of_ble_eq_true rfl) rfl (r_bits (n := o) (by omega)) ?_
    rintro _ _ ⟨rfl, rfl⟩
    exact LW_ireturn (st := []) rfl rfl rfl (k _)
  · exfalso
    simp only [Int32.lt_iff_toInt_lt, Int32.le_iff_toInt_le, ← Int32.toInt_inj, (nI_toInt (n := n) (by omega))] at h1
    omega
theorem rv_yearl {d n : Nat} {s0 : Option Value} {Q : Option Value → LH → Prop} (hn : n ≤ 40) : ∀ (m i : Nat), i + m = n → ∀ (g : LH) (w : Nat → Nat) (o x dy : Nat) (l5 : Option Value), RV g w o dy → yOk w o → x < 60000 → dy ≤ i → (∀ g', Q (some (.int (nI (pcn 26 (yr m w o x))))) g') → LW 269 (d + 5) 0 0 37 [some (.ref 355), s0, some (.int (nI (n))), some (.int (nI (x))), some (.int (nI (i))), l5] [] g Q := by
  intro m
  induction m with
  | zero =>
    intro i hi g w o x dy l5 F ok hx hdy k
    have hi : i = n := by omega
    subst hi
    exact rv_year2 F ok.2 hn k
  | succ m ih =>
    intro i hi g w o x dy l5 F ok hx hdy k
    exact rv_year1 F ok hx (by omega) (by omega) hn (fun g' dy' hd' F' => ih (i + 1) (by omega) g' _ _ _ dy' _ F' (yOk_step ok (Nat.mod_lt _ (by decide))) (Nat.lt_trans (anewN_lt _) (by decide)) (by omega) k)
set_option maxRecDepth 10000 in
set_option maxHeartbeats 40000000 in
theorem r_year_in {g : LH} (F : Fr g) {s n : Nat} (hs : s ≤ 9999) (h1 : 1 ≤ n) (hn : n ≤ 40) : LW 269 30 0 0 0 (lEnt (mL 269) [.ref 355, .int (nI (s)), .int (nI (n))]) [] g (fun v _ => v = some (.int (f_year s n))) := by
  refine LW_ls (ls' := [some (.ref 355), some (.int (nI (s))), some (.int (nI (n))), none, none, none]) rfl ?_
  refine X_iload_n rfl rfl rfl rfl ?_
  refine X_iconst (v := (0 : Int32)) rfl rfl rfl ?_
  refine X_sipush (v := (9999 : Int32)) rfl rfl rfl ?_
  refine X_callS (as := [.int (nI (s)), .int (0 : Int32), .int (9999 : Int32)]) (st := []) rfl rfl rfl (by decide) rfl (Nat.le_of_ble_eq_true rfl) (by decide) (Nat.le_of_ble_eq_true rfl) rfl ?_
  refine LW_ls (ls' := [some (.int (nI (s))), some (.int (0 : Int32)), some (.int (9999 : Int32))]) rfl ?_
  refine X_iload_n rfl rfl rfl rfl ?_
  refine X_iload_n rfl rfl rfl rfl ?_
  refine X_icmp_lt (tgt := 14) rfl rfl rfl (fun h1 => ?_) (fun h1 => ?_)
  · exfalso
    simp only [Int32.lt_iff_toInt_lt, Int32.le_iff_toInt_le, ← Int32.toInt_inj, (show (0 : Int32).toInt = 0 from rfl), (nI_toInt (n := s) (by omega))] at h1
    omega
  · refine X_iload_n rfl rfl rfl rfl ?_
    refine X_iload_n rfl rfl rfl rfl ?_
    refine X_icmp_gt (tgt := 14) rfl rfl rfl (fun h2 => ?_) (fun h2 => ?_)
    · exfalso
      simp only [Int32.lt_iff_toInt_lt, Int32.le_iff_toInt_le, ← Int32.toInt_inj, (show (0 : Int32).toInt = 0 from rfl), (show (9999 : Int32).toInt = 9999 from rfl), (nI_toInt (n := s) (by omega))] at h1 h2
      omega
    · refine X_iconst (v := (1 : Int32)) rfl rfl rfl ?_
      refine LW_goto (tgt := 15) rfl rfl ?_
      refine LW_ireturn (st := []) rfl rfl rfl ?_
      refine X_if_eq (tgt := 21) rfl rfl rfl (fun q => absurd q (by decide)) (fun _ => ?_)
      refine X_iload_n rfl rfl rfl rfl ?_
      refine X_iconst (v := (1 : Int32)) rfl rfl rfl ?_
      refine X_bipush (v := (40 : Int32)) rfl rfl rfl ?_
      refine X_callS (as := [.int (nI (n)), .int (1 : Int32), .int (40 : Int32)]) (st := []) rfl rfl rfl (by decide) rfl (Nat.le_of_ble_eq_true rfl) (by decide) (Nat.le_of_ble_eq_true rfl) rfl ?_
      refine LW_ls (ls' := [some (.int (nI (n))), some (.int (1 : Int32)), some (.int (40 : Int32))]) rfl ?_
      refine X_iload_n rfl rfl rfl rfl ?_
      refine X_iload_n rfl rfl rfl rfl ?_
      refine X_icmp_lt (tgt := 14) rfl rfl rfl (fun h3 => ?_) (fun h3 => ?_)
      · exfalso
        simp only [Int32.lt_iff_toInt_lt, Int32.le_iff_toInt_le, ← Int32.toInt_inj, (show (0 : Int32).toInt = 0 from rfl), (show (1 : Int32).toInt = 1 from rfl), (show (9999 : Int32).toInt = 9999 from rfl), (nI_toInt (n := n) (by omega)), (nI_toInt (n := s) (by omega))] at h1 h2 h3
        omega
      · refine X_iload_n rfl rfl rfl rfl ?_
        refine X_iload_n rfl rfl rfl rfl ?_
        refine X_icmp_gt (tgt := 14) rfl rfl rfl (fun h4 => ?_) (fun h4 => ?_)
        · exfalso
          simp only [Int32.lt_iff_toInt_lt, Int32.le_iff_toInt_le, ← Int32.toInt_inj, (show (0 : Int32).toInt = 0 from rfl), (show (1 : Int32).toInt = 1 from rfl), (show (40 : Int32).toInt = 40 from rfl), (show (9999 : Int32).toInt = 9999 from rfl), (nI_toInt (n := n) (by omega)), (nI_toInt (n := s) (by omega))] at h1 h2 h3 h4
          omega
        · refine X_iconst (v := (1 : Int32)) rfl rfl rfl ?_
          refine LW_goto (tgt := 15) rfl rfl ?_
          refine LW_ireturn (st := []) rfl rfl rfl ?_
          refine X_if_ne (tgt := 23) rfl rfl rfl (fun _ => ?_) (fun q => absurd q (by decide))
          refine X_aload_n rfl rfl rfl rfl ?_
          refine Y_callV (as := []) (st := []) rfl rfl rfl (by decide) rfl (Nat.le_of_ble_eq_true rfl) (by decide) (Nat.le_of_ble_eq_true rfl) rfl ((congrFun F.1 355).trans s_355) (by decide) (rv_keep (RV_new F)) ?_
          rintro _ g ⟨rfl, F⟩
          refine X_iload_n rfl rfl rfl rfl ?_
          refine X_iconst (v := (5 : Int32)) rfl rfl rfl ?_
          refine X_imul (v := (nI (s * 5))) rfl rfl (pk_mul (s) (5)) ?_
          refine X_bipush (v := (17 : Int32)) rfl rfl rfl ?_
          refine X_iadd (v := (nI ((s * 5) + 17))) rfl rfl (nI_add (s * 5) (17)) ?_
          refine X_istore_n (i := 3) (ls' := [some (.ref 355), some (.int (nI (s))), some (.int (nI (n))), some (.int (nI ((s * 5) + 17))), none, none]) rfl rfl rfl (Nat.le_of_ble_eq_true rfl) rfl ?_
          refine X_iconst (v := (0 : Int32)) rfl rfl rfl ?_
          refine X_istore (i := 4) (ls' := [some (.ref 355), some (.int (nI (s))), some (.int (nI (n))), some (.int (nI ((s * 5) + 17))), some (.int (0 : Int32)), none]) rfl rfl (Nat.le_of_ble_eq_true rfl) rfl ?_
          refine rv_yearl hn n 0 (by omega) _ (fun _ => 1) 0 (s * 5 + 17) 0 none F ⟨ones, by decide⟩ (by omega) (Nat.le_refl _) (fun g' => ?_)
          have hyr : yr n (fun _ => 1) 0 (s * 5 + 17) < 2 ^ 26 := yr_lt _ _ _ _ ⟨ones, by decide⟩
          exact congrArg (fun z => some (Value.int (nI z))) (pcn26 hyr).symm
set_option maxRecDepth 10000 in
set_option maxHeartbeats 40000000 in
theorem r_year_out {g : LH} (F : Fr g) (a b : Int32) (hr : ¬ (0 ≤ a.toInt ∧ a.toInt ≤ 9999 ∧ 1 ≤ b.toInt ∧ b.toInt ≤ 40)) : LW 269 30 0 0 0 (lEnt (mL 269) [.ref 355, .int a, .int b]) [] g (fun v _ => v = some (.int (-1))) := by
  refine LW_ls (ls' := [some (.ref 355), some (.int a), some (.int b), none, none, none]) rfl ?_
  refine X_iload_n rfl rfl rfl rfl ?_
  refine X_iconst (v := (0 : Int32)) rfl rfl rfl ?_
  refine X_sipush (v := (9999 : Int32)) rfl rfl rfl ?_
  refine X_callS (as := [.int a, .int (0 : Int32), .int (9999 : Int32)]) (st := []) rfl rfl rfl (by decide) rfl (Nat.le_of_ble_eq_true rfl) (by decide) (Nat.le_of_ble_eq_true rfl) rfl ?_
  refine LW_ls (ls' := [some (.int a), some (.int (0 : Int32)), some (.int (9999 : Int32))]) rfl ?_
  refine X_iload_n rfl rfl rfl rfl ?_
  refine X_iload_n rfl rfl rfl rfl ?_
  refine X_icmp_lt (tgt := 14) rfl rfl rfl (fun h1 => ?_) (fun h1 => ?_)
  · refine X_iconst (v := (0 : Int32)) rfl rfl rfl ?_
    refine LW_ireturn (st := []) rfl rfl rfl ?_
    refine X_if_eq (tgt := 21) rfl rfl rfl (fun _ => ?_) (fun q => absurd q (by decide))
    refine X_iconst (v := (-1 : Int32)) rfl rfl rfl ?_
    exact LW_ireturn (st := []) rfl rfl rfl rfl
  · refine X_iload_n rfl rfl rfl rfl ?_
    refine X_iload_n rfl rfl rfl rfl ?_
    refine X_icmp_gt (tgt := 14) rfl rfl rfl (fun h2 => ?_) (fun h2 => ?_)
    · refine X_iconst (v := (0 : Int32)) rfl rfl rfl ?_
      refine LW_ireturn (st := []) rfl rfl rfl ?_
      refine X_if_eq (tgt := 21) rfl rfl rfl (fun _ => ?_) (fun q => absurd q (by decide))
      refine X_iconst (v := (-1 : Int32)) rfl rfl rfl ?_
      exact LW_ireturn (st := []) rfl rfl rfl rfl
    · refine X_iconst (v := (1 : Int32)) rfl rfl rfl ?_
      refine LW_goto (tgt := 15) rfl rfl ?_
      refine LW_ireturn (st := []) rfl rfl rfl ?_
      refine X_if_eq (tgt := 21) rfl rfl rfl (fun q => absurd q (by decide)) (fun _ => ?_)
      refine X_iload_n rfl rfl rfl rfl ?_
      refine X_iconst (v := (1 : Int32)) rfl rfl rfl ?_
      refine X_bipush (v := (40 : Int32)) rfl rfl rfl ?_
      refine X_callS (as := [.int b, .int (1 : Int32), .int (40 : Int32)]) (st := []) rfl rfl rfl (by decide) rfl (Nat.le_of_ble_eq_true rfl) (by decide) (Nat.le_of_ble_eq_true rfl) rfl ?_
      refine LW_ls (ls' := [some (.int b), some (.int (1 : Int32)), some (.int (40 : Int32))]) rfl ?_
      refine X_iload_n rfl rfl rfl rfl ?_
      refine X_iload_n rfl rfl rfl rfl ?_
      refine X_icmp_lt (tgt := 14) rfl rfl rfl (fun h3 => ?_) (fun h3 => ?_)
      · refine X_iconst (v := (0 : Int32)) rfl rfl rfl ?_
        refine LW_ireturn (st := []) rfl rfl rfl ?_
        refine X_if_ne (tgt := 23) rfl rfl rfl (fun q => absurd q (by decide)) (fun _ => ?_)
        refine X_iconst (v := (-1 : Int32)) rfl rfl rfl ?_
        exact LW_ireturn (st := []) rfl rfl rfl rfl
      · refine X_iload_n rfl rfl rfl rfl ?_
        refine X_iload_n rfl rfl rfl rfl ?_
        refine X_icmp_gt (tgt := 14) rfl rfl rfl (fun h4 => ?_) (fun h4 => ?_)
        · refine X_iconst (v := (0 : Int32)) rfl rfl rfl ?_
          refine LW_ireturn (st := []) rfl rfl rfl ?_
          refine X_if_ne (tgt := 23) rfl rfl rfl (fun q => absurd q (by decide)) (fun _ => ?_)
          refine X_iconst (v := (-1 : Int32)) rfl rfl rfl ?_
          exact LW_ireturn (st := []) rfl rfl rfl rfl
        · refine X_iconst (v := (1 : Int32)) rfl rfl rfl ?_
          refine LW_goto (tgt := 15) rfl rfl ?_
          refine LW_ireturn (st := []) rfl rfl rfl ?_
          refine X_if_ne (tgt := 23) rfl rfl rfl (fun _ => ?_) (fun q => absurd q (by decide))
          exfalso
          simp only [Int32.lt_iff_toInt_lt, Int32.le_iff_toInt_le, ← Int32.toInt_inj, (show (0 : Int32).toInt = 0 from rfl), (show (1 : Int32).toInt = 1 from rfl), (show (40 : Int32).toInt = 40 from rfl), (show (9999 : Int32).toInt = 9999 from rfl)] at h1 h2 h3 h4
          omega
