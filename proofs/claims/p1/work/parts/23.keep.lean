/-! the reference: keep, call, strike, comeBack -/
theorem i_356_2 : eI e2 356 2 = 0 := by decide +kernel
theorem i_356_3 : eI e2 356 3 = 17 := by decide +kernel
theorem i_356_7 : eI e2 356 7 = 0 := by decide +kernel
def ShR (g : LH) : Prop := Gs g = eS e2 ∧ (∀ q, 355 ≤ q → Gr g q = eR e2 q) ∧ True
theorem r_keep_end {g : LH} {d : Nat} (F : ShR g) : LW 245 d 0 0 131 [some (.ref 355), some (.int (578 : Int32)), some (.int (nI 78))] [] g (fun v g' => v = none ∧ ShR g') := by
  refine X_iload_n rfl rfl rfl rfl ?_
  refine X_bipush (v := (78 : Int32)) rfl rfl rfl ?_
  refine X_icmp_ge (tgt := 162) rfl rfl rfl (fun _ => ?_) (fun q => absurd (show nI 78 ≤ nI 78 from nI_le (Nat.le_refl _) (by decide)) q)
  refine X_aload_n rfl rfl rfl rfl ?_
  refine X_getR (a := 356) rfl rfl rfl ((congrFun F.1 355).trans s_355) rfl ((congrFun (F.2.1 355 (by decide)) 0).trans r_355_0) ?_
  refine X_bipush (v := (6 : Int32)) rfl rfl rfl ?_
  refine X_dup2 rfl rfl rfl rfl ?_
  refine X_iald (v := Gi g 356 6) rfl rfl ((congrFun F.1 356).trans s_356) (vp_in_d rfl) rfl ?_
  refine X_iconst (v := (1 : Int32)) rfl rfl rfl ?_
  refine X_iadd (v := Gi g 356 6 + 1) rfl rfl rfl ?_
  refine X_iast (k0 := 6) rfl rfl ((congrFun F.1 356).trans s_356) (vp_in_d rfl) rfl ?_
  exact LW_return (st := []) rfl rfl ⟨rfl, F.1, F.2.1, trivial⟩
set_option maxRecDepth 10000 in
set_option maxHeartbeats 4000000 in
theorem r_keep_one {g : LH} {d i : Nat} {Q : Option Value → LH → Prop} (F : ShR g) (hi : i < 78) (k : ∀ g', ShR g' → LW 245 d 0 0 131 [some (.ref 355), some (.int (578 : Int32)), some (.int (nI (i + 1)))] [] g' Q) : LW 245 d 0 0 131 [some (.ref 355), some (.int (578 : Int32)), some (.int (nI (i)))] [] g Q := by
  refine X_iload_n rfl rfl rfl rfl ?_
  refine X_bipush (v := (78 : Int32)) rfl rfl rfl ?_
  refine X_icmp_ge (tgt := 162) rfl rfl rfl (fun h1 => ?_) (fun h1 => ?_)
  · exfalso
    simp only [Int32.lt_iff_toInt_lt, Int32.le_iff_toInt_le, ← Int32.toInt_inj, (show (78 : Int32).toInt = 78 from rfl), (nI_toInt (n := i) (by omega))] at h1
    omega
  · refine X_aload_n rfl rfl rfl rfl ?_
    refine X_getR (a := 356) rfl rfl rfl ((congrFun F.1 355).trans s_355) rfl ((congrFun (F.2.1 355 (by decide)) 0).trans r_355_0) ?_
    refine X_iload_n rfl rfl rfl rfl ?_
    refine X_iconst (v := (4 : Int32)) rfl rfl rfl ?_
    refine X_iadd (v := (582 : Int32)) rfl rfl rfl ?_
    refine X_iload_n rfl rfl rfl rfl ?_
    refine X_iadd (v := (nI (582 + i))) rfl rfl (nI_add (582) (i)) ?_
    refine X_aload_n rfl rfl rfl rfl ?_
    refine X_getR (a := 356) rfl rfl rfl ((congrFun F.1 355).trans s_355) rfl ((congrFun (F.2.1 355 (by decide)) 0).trans r_355_0) ?_
    refine X_bipush (v := (12 : Int32)) rfl rfl rfl ?_
    refine X_iload_n rfl rfl rfl rfl ?_
    refine X_iadd (v := (nI (12 + i))) rfl rfl (nI_add (12) (i)) ?_
    refine X_iald (v := ((Gi g 356) (12 + i))) rfl rfl ((congrFun F.1 356).trans s_356) (vp_in_nI (by omega) (by decide)) (congrArg (Gi _ 356) (nI_clamp (n := 12 + i) (by omega))) ?_
    refine X_iast (k0 := 582 + i) rfl rfl ((congrFun F.1 356).trans s_356) (vp_in_nI (by omega) (by decide)) (nI_clamp (n := 582 + i) (by omega)) ?_
    refine X_iinc (v := (nI (i + 1))) (ls' := [some (.ref 355), some (.int (578 : Int32)), some (.int (nI (i + 1)))]) rfl rfl rfl (nI_add (i) 1) rfl ?_
    refine LW_goto (tgt := 131) rfl rfl ?_
    exact k _ ⟨F.1, F.2.1, trivial⟩
theorem r_keep_loop {d : Nat} : ∀ (m i : Nat), i + m = 78 → ∀ g : LH, ShR g → LW 245 d 0 0 131 [some (.ref 355), some (.int (578 : Int32)), some (.int (nI i))] [] g (fun v g' => v = none ∧ ShR g') := by
  intro m
  induction m with
  | zero =>
    intro i hi g F
    have hi : i = 78 := by omega
    subst hi
    exact r_keep_end F
  | succ m ih =>
    intro i hi g F
    exact r_keep_one F (by omega) (fun g' F' => ih (i + 1) (by omega) g' F')
theorem r_keep {g : LH} {d : Nat} (F : Fr g) : LW 245 d 0 0 0 (lEnt (mL 245) [.ref 355]) [] g (fun v g' => v = none ∧ ShR g') := by
  refine LW_ls (ls' := [some (.ref 355), none, none]) rfl ?_
  refine X_aload_n rfl rfl rfl rfl ?_
  refine X_getR (a := 356) rfl rfl rfl ((congrFun F.1 355).trans s_355) rfl ((congrFun (F.2.1 355 (by decide)) 0).trans r_355_0) ?_
  refine X_bipush (v := (6 : Int32)) rfl rfl rfl ?_
  refine X_iald (v := (0 : Int32)) rfl rfl ((congrFun F.1 356).trans s_356) (vp_in_d rfl) ((congrFun (F.2.2 356 (by decide)).1 6).trans i_356_6) ?_
  refine X_bipush (v := (30 : Int32)) rfl rfl rfl ?_
  refine X_icmp_ne (tgt := 58) rfl rfl rfl (fun _ => ?_) (fun q => absurd q (by decide))
  refine X_sipush (v := (578 : Int32)) rfl rfl rfl ?_
  refine X_bipush (v := (82 : Int32)) rfl rfl rfl ?_
  refine X_aload_n rfl rfl rfl rfl ?_
  refine X_getR (a := 356) rfl rfl rfl ((congrFun F.1 355).trans s_355) rfl ((congrFun (F.2.1 355 (by decide)) 0).trans r_355_0) ?_
  refine X_bipush (v := (6 : Int32)) rfl rfl rfl ?_
  refine X_iald (v := (0 : Int32)) rfl rfl ((congrFun F.1 356).trans s_356) (vp_in_d rfl) ((congrFun (F.2.2 356 (by decide)).1 6).trans i_356_6) ?_
  refine X_imul (v := (0 : Int32)) rfl rfl rfl ?_
  refine X_iadd (v := (578 : Int32)) rfl rfl rfl ?_
  refine X_istore_n (i := 1) (ls' := [some (.ref 355), some (.int (578 : Int32)), none]) rfl rfl rfl (Nat.le_of_ble_eq_true rfl) rfl ?_
  refine X_aload_n rfl rfl rfl rfl ?_
  refine X_getR (a := 356) rfl rfl rfl ((congrFun F.1 355).trans s_355) rfl ((congrFun (F.2.1 355 (by decide)) 0).trans r_355_0) ?_
  refine X_iload_n rfl rfl rfl rfl ?_
  refine X_aload_n rfl rfl rfl rfl ?_
  refine X_getR (a := 356) rfl rfl rfl ((congrFun F.1 355).trans s_355) rfl ((congrFun (F.2.1 355 (by decide)) 0).trans r_355_0) ?_
  refine X_bipush (v := (7 : Int32)) rfl rfl rfl ?_
  refine X_iald (v := (0 : Int32)) rfl rfl ((congrFun F.1 356).trans s_356) (vp_in_d rfl) ((congrFun (F.2.2 356 (by decide)).1 7).trans i_356_7) ?_
  refine X_iast (k0 := 578) rfl rfl ((congrFun F.1 356).trans s_356) (vp_in_d rfl) rfl ?_
  refine X_aload_n rfl rfl rfl rfl ?_
  refine X_getR (a := 356) rfl rfl rfl ((congrFun F.1 355).trans s_355) rfl ((congrFun (F.2.1 355 (by decide)) 0).trans r_355_0) ?_
  refine X_iload_n rfl rfl rfl rfl ?_
  refine X_iconst (v := (1 : Int32)) rfl rfl rfl ?_
  refine X_iadd (v := (579 : Int32)) rfl rfl rfl ?_
  refine X_aload_n rfl rfl rfl rfl ?_
  refine X_getR (a := 356) rfl rfl rfl ((congrFun F.1 355).trans s_355) rfl ((congrFun (F.2.1 355 (by decide)) 0).trans r_355_0) ?_
  refine X_bipush (v := (10 : Int32)) rfl rfl rfl ?_
  refine X_iald (v := (0 : Int32)) rfl rfl ((congrFun F.1 356).trans s_356) (vp_in_d rfl) ((congrFun (F.2.2 356 (by decide)).1 10).trans i_356_10) ?_
  refine X_iast (k0 := 579) rfl rfl ((congrFun F.1 356).trans s_356) (vp_in_d rfl) rfl ?_
  refine X_aload_n rfl rfl rfl rfl ?_
  refine X_getR (a := 356) rfl rfl rfl ((congrFun F.1 355).trans s_355) rfl ((congrFun (F.2.1 355 (by decide)) 0).trans r_355_0) ?_
  refine X_iload_n rfl rfl rfl rfl ?_
  refine X_iconst (v := (2 : Int32)) rfl rfl rfl ?_
  refine X_iadd (v := (580 : Int32)) rfl rfl rfl ?_
  refine X_aload_n rfl rfl rfl rfl ?_
  refine X_getR (a := 356) rfl rfl rfl ((congrFun F.1 355).trans s_355) rfl ((congrFun (F.2.1 355 (by decide)) 0).trans r_355_0) ?_
  refine X_iconst (v := (2 : Int32)) rfl rfl rfl ?_
  refine X_iald (v := (0 : Int32)) rfl rfl ((congrFun F.1 356).trans s_356) (vp_in_d rfl) ((congrFun (F.2.2 356 (by decide)).1 2).trans i_356_2) ?_
  refine X_iast (k0 := 580) rfl rfl ((congrFun F.1 356).trans s_356) (vp_in_d rfl) rfl ?_
  refine X_aload_n rfl rfl rfl rfl ?_
  refine X_getR (a := 356) rfl rfl rfl ((congrFun F.1 355).trans s_355) rfl ((congrFun (F.2.1 355 (by decide)) 0).trans r_355_0) ?_
  refine X_iload_n rfl rfl rfl rfl ?_
  refine X_iconst (v := (3 : Int32)) rfl rfl rfl ?_
  refine X_iadd (v := (581 : Int32)) rfl rfl rfl ?_
  refine X_aload_n rfl rfl rfl rfl ?_
  refine X_getR (a := 356) rfl rfl rfl ((congrFun F.1 355).trans s_355) rfl ((congrFun (F.2.1 355 (by decide)) 0).trans r_355_0) ?_
  refine X_iconst (v := (3 : Int32)) rfl rfl rfl ?_
  refine X_iald (v := (17 : Int32)) rfl rfl ((congrFun F.1 356).trans s_356) (vp_in_d rfl) ((congrFun (F.2.2 356 (by decide)).1 3).trans i_356_3) ?_
  refine X_iast (k0 := 581) rfl rfl ((congrFun F.1 356).trans s_356) (vp_in_d rfl) rfl ?_
  refine X_iconst (v := (0 : Int32)) rfl rfl rfl ?_
  refine X_istore_n (i := 2) (ls' := [some (.ref 355), some (.int (578 : Int32)), some (.int (0 : Int32))]) rfl rfl rfl (Nat.le_of_ble_eq_true rfl) rfl ?_
  exact r_keep_loop 78 0 rfl _ ⟨F.1, F.2.1, trivial⟩
set_option maxRecDepth 10000 in
set_option maxHeartbeats 4000000 in
theorem r_call_one {g : LH} {d n i : Nat} {Q : Option Value → LH → Prop} (F : ShR g) (hi : i < 26) (k : ∀ g', ShR g' → LW 250 (d + 1) 0 0 12 [some (.ref 355), some (.int (nI n)), some (.int (nI (i + 1)))] [] g' Q) : LW 250 (d + 1) 0 0 12 [some (.ref 355), some (.int (nI (n))), some (.int (nI (i)))] [] g Q := by
  refine X_iload_n rfl rfl rfl rfl ?_
  refine X_bipush (v := (26 : Int32)) rfl rfl rfl ?_
  refine X_icmp_ge (tgt := 42) rfl rfl rfl (fun h1 => ?_) (fun h1 => ?_)
  · exfalso
    simp only [Int32.lt_iff_toInt_lt, Int32.le_iff_toInt_le, ← Int32.toInt_inj, (show (26 : Int32).toInt = 26 from rfl), (nI_toInt (n := i) (by omega))] at h1
    omega
  · refine X_iload_n rfl rfl rfl rfl ?_
    refine X_iload_n rfl rfl rfl rfl ?_
    refine X_callS (as := [.int (nI (n)), .int (nI (i))]) (st := []) rfl rfl rfl (by decide) rfl (Nat.le_of_ble_eq_true rfl) (by decide) (Nat.le_of_ble_eq_true rfl) rfl ?_
    refine LW_ls (ls' := [some (.int (nI (n))), some (.int (nI (i)))]) rfl ?_
    refine X_iload_n rfl rfl rfl rfl ?_
    refine X_iload_n rfl rfl rfl rfl ?_
    refine X_ishr (v := ((nI (n)) >>> ((nI (i)) &&& 31))) rfl rfl rfl ?_
    refine X_iconst (v := (1 : Int32)) rfl rfl rfl ?_
    refine X_iand (v := (((nI (n)) >>> ((nI (i)) &&& 31)) &&& (1 : Int32))) rfl rfl rfl ?_
    refine X_iconst (v := (1 : Int32)) rfl rfl rfl ?_
    refine X_icmp_ne (tgt := 13) rfl rfl rfl (fun h2 => ?_) (fun h2 => ?_)
    · refine X_iconst (v := (0 : Int32)) rfl rfl rfl ?_
      refine LW_ireturn (st := []) rfl rfl rfl ?_
      refine X_if_eq (tgt := 36) rfl rfl rfl (fun _ => ?_) (fun q => absurd q (by decide))
      refine X_iinc (v := (nI (i + 1))) (ls' := [some (.ref 355), some (.int (nI (n))), some (.int (nI (i + 1)))]) rfl rfl rfl (nI_add (i) 1) rfl ?_
      refine LW_goto (tgt := 12) rfl rfl ?_
      exact k _ ⟨F.1, F.2.1, trivial⟩
    · refine X_iconst (v := (1 : Int32)) rfl rfl rfl ?_
      refine LW_goto (tgt := 14) rfl rfl ?_
      refine LW_ireturn (st := []) rfl rfl rfl ?_
      refine X_if_eq (tgt := 36) rfl rfl rfl (fun q => absurd q (by decide)) (fun _ => ?_)
      refine X_aload_n rfl rfl rfl rfl ?_
      refine X_getR (a := 356) rfl rfl rfl ((congrFun F.1 355).trans s_355) rfl ((congrFun (F.2.1 355 (by decide)) 0).trans r_355_0) ?_
      refine X_bipush (v := (38 : Int32)) rfl rfl rfl ?_
      refine X_iload_n rfl rfl rfl rfl ?_
      refine X_iadd (v := (nI (38 + i))) rfl rfl (nI_add (38) (i)) ?_
      refine X_iconst (v := (0 : Int32)) rfl rfl rfl ?_
      refine X_iast (k0 := 38 + i) rfl rfl ((congrFun F.1 356).trans s_356) (vp_in_nI (by omega) (by decide)) (nI_clamp (n := 38 + i) (by omega)) ?_
      refine X_iinc (v := (nI (i + 1))) (ls' := [some (.ref 355), some (.int (nI (n))), some (.int (nI (i + 1)))]) rfl rfl rfl (nI_add (i) 1) rfl ?_
      refine LW_goto (tgt := 12) rfl rfl ?_
      exact k _ ⟨F.1, F.2.1, trivial⟩
theorem r_call_loop {d n : Nat} (hn : n < 2 ^ 31) : ∀ (m i : Nat), i + m = 26 → ∀ g : LH, ShR g → LW 250 (d + 1) 0 0 12 [some (.ref 355), some (.int (nI n)), some (.int (nI i))] [] g (fun v g' => v = some (.int (nI (pcn 26 n)))) := by
  intro m
  induction m with
  | zero =>
    intro i hi g F
    have hi : i = 26 := by omega
    subst hi
    refine X_iload_n rfl rfl rfl rfl ?_
    refine X_bipush (v := (26 : Int32)) rfl rfl rfl ?_
    refine X_icmp_ge (tgt := 42) rfl rfl rfl (fun _ => ?_) (fun q => absurd (show nI 26 ≤ nI 26 from nI_le (Nat.le_refl _) (by decide)) q)
    refine X_aload_n rfl rfl rfl rfl ?_
    refine X_getR (a := 356) rfl rfl rfl ((congrFun F.1 355).trans s_355) rfl ((congrFun (F.2.1 355 (by decide)) 0).trans r_355_0) ?_
    refine X_bipush (v := (7 : Int32)) rfl rfl rfl ?_
    refine X_dup2 rfl rfl rfl rfl ?_
    refine X_iald (v := Gi g 356 7) rfl rfl ((congrFun F.1 356).trans s_356) (vp_in_d rfl) rfl ?_
    refine X_iload_n rfl rfl rfl rfl ?_
    refine X_ixor (v := Gi g 356 7 ^^^ nI n) rfl rfl rfl ?_
    refine X_iast (k0 := 7) rfl rfl ((congrFun F.1 356).trans s_356) (vp_in_d rfl) rfl ?_
    refine X_iload_n rfl rfl rfl rfl ?_
    refine Y_callS (as := [.int (nI n)]) (st := []) rfl rfl rfl (by decide) rfl (Nat.le_of_ble_eq_true rfl) (by decide) (Nat.le_of_ble_eq_true rfl) rfl (r_bits (n := n) hn) ?_
    rintro _ _ ⟨rfl, rfl⟩
    exact LW_ireturn (st := []) rfl rfl rfl rfl
  | succ m ih =>
    intro i hi g F
    exact r_call_one F (by omega) (fun g' F' => ih (i + 1) (by omega) g' F')
theorem r_call {g : LH} {d n : Nat} (F : Fr g) (h0 : 1 ≤ n) (hn : n < 2 ^ 31) : LW 250 (d + 1) 0 0 0 (lEnt (mL 250) [.ref 355, .int (nI n)]) [] g (fun v _ => v = some (.int (nI (pcn 26 n)))) := by
  refine LW_ls (ls' := [some (.ref 355), some (.int (nI n)), none]) rfl ?_
  refine X_iload_n rfl rfl rfl rfl ?_
  refine X_if_ne (tgt := 6) rfl rfl rfl (fun _ => ?_) (fun q => ?_)
  · refine X_aload_n rfl rfl rfl rfl ?_
    refine Y_callV (as := []) (st := []) rfl rfl rfl (by decide) rfl (Nat.le_of_ble_eq_true rfl) (by decide) (Nat.le_of_ble_eq_true rfl) rfl ((congrFun F.1 355).trans s_355) (by decide) (r_keep F) ?_
    rintro _ g' ⟨rfl, F'⟩
    refine X_iconst (v := 0) rfl rfl rfl ?_
    refine X_istore_n (i := 2) (ls' := [some (.ref 355), some (.int (nI n)), some (.int (nI 0))]) rfl rfl rfl (Nat.le_of_ble_eq_true rfl) rfl ?_
    exact r_call_loop hn 26 0 rfl g' F'
  · exfalso
    have := congrArg Int32.toInt q
    rw [nI_toInt (by omega), show (0 : Int32).toInt = 0 from rfl] at this
    omega
set_option maxRecDepth 10000 in
set_option maxHeartbeats 4000000 in
theorem r_strike_in {g : LH} (F : Fr g) {n : Nat} (h0 : 1 ≤ n) (hn : n < 67108864) : LW 251 30 0 0 0 (lEnt (mL 251) [.ref 355, .int (nI (n))]) [] g (fun v _ => v = some (.int (nI (pcn 32 n)))) := by
  refine LW_ls (ls' := [some (.ref 355), some (.int (nI (n)))]) rfl ?_
  refine X_iload_n rfl rfl rfl rfl ?_
  refine X_callS (as := [.int (nI (n))]) (st := []) rfl rfl rfl (by decide) rfl (Nat.le_of_ble_eq_true rfl) (by decide) (Nat.le_of_ble_eq_true rfl) rfl ?_
  refine LW_ls (ls' := [some (.int (nI (n)))]) rfl ?_
  refine X_iload_n rfl rfl rfl rfl ?_
  refine X_iconst (v := (1 : Int32)) rfl rfl rfl ?_
  refine X_ldc (v := (67108863 : Int32)) rfl rfl rfl ?_
  refine X_callS (as := [.int (nI (n)), .int (1 : Int32), .int (67108863 : Int32)]) (st := []) rfl rfl rfl (by decide) rfl (Nat.le_of_ble_eq_true rfl) (by decide) (Nat.le_of_ble_eq_true rfl) rfl ?_
  refine LW_ls (ls' := [some (.int (nI (n))), some (.int (1 : Int32)), some (.int (67108863 : Int32))]) rfl ?_
  refine X_iload_n rfl rfl rfl rfl ?_
  refine X_iload_n rfl rfl rfl rfl ?_
  refine X_icmp_lt (tgt := 14) rfl rfl rfl (fun h1 => ?_) (fun h1 => ?_)
  · exfalso
    simp only [Int32.lt_iff_toInt_lt, Int32.le_iff_toInt_le, ← Int32.toInt_inj, (show (1 : Int32).toInt = 1 from rfl), (nI_toInt (n := n) (by omega))] at h1
    omega
  · refine X_iload_n rfl rfl rfl rfl ?_
    refine X_iload_n rfl rfl rfl rfl ?_
    refine X_icmp_gt (tgt := 14) rfl rfl rfl (fun h2 => ?_) (fun h2 => ?_)
    · exfalso
      simp only [Int32.lt_iff_toInt_lt, Int32.le_iff_toInt_le, ← Int32.toInt_inj, (show (1 : Int32).toInt = 1 from rfl), (show (67108863 : Int32).toInt = 67108863 from rfl), (nI_toInt (n := n) (by omega))] at h1 h2
      omega
    · refine X_iconst (v := (1 : Int32)) rfl rfl rfl ?_
      refine LW_goto (tgt := 15) rfl rfl ?_
      refine LW_ireturn (st := []) rfl rfl rfl ?_
      refine LW_ireturn (st := []) rfl rfl rfl ?_
      refine X_if_eq (tgt := 25) rfl rfl rfl (fun q => absurd q (by decide)) (fun _ => ?_)
      refine X_aload_n rfl rfl rfl rfl ?_
      refine X_iload_n rfl rfl rfl rfl ?_
      refine X_aload_n rfl rfl rfl rfl ?_
      refine X_getR (a := 356) rfl rfl rfl ((congrFun F.1 355).trans s_355) rfl ((congrFun (F.2.1 355 (by decide)) 0).trans r_355_0) ?_
      refine X_bipush (v := (7 : Int32)) rfl rfl rfl ?_
      refine X_iald (v := (0 : Int32)) rfl rfl ((congrFun F.1 356).trans s_356) (vp_in_d rfl) ((congrFun (F.2.2 356 (by decide)).1 7).trans i_356_7) ?_
      refine X_iconst (v := (-1 : Int32)) rfl rfl rfl ?_
      refine X_ixor (v := (-1 : Int32)) rfl rfl rfl ?_
      refine X_iand (v := (nI (n))) rfl rfl (and_m1 _) ?_
      refine Y_callV (as := [.int (nI (n))]) (st := []) rfl rfl rfl (by decide) rfl (Nat.le_of_ble_eq_true rfl) (by decide) (Nat.le_of_ble_eq_true rfl) rfl ((congrFun F.1 355).trans s_355) (by decide) (r_call (n := n) F h0 (by omega)) ?_
      rintro _ _ rfl
      refine LW_goto (tgt := 26) rfl rfl ?_
      exact LW_ireturn (st := []) rfl rfl rfl (congrArg (fun z => some (Value.int (nI z))) (pcn26 (by omega)).symm)
set_option maxRecDepth 10000 in
set_option maxHeartbeats 4000000 in
theorem r_strike_out {g : LH} (F : Fr g) (a : Int32) (hr : ¬ (1 ≤ a.toInt ∧ a.toInt ≤ 67108863)) : LW 251 30 0 0 0 (lEnt (mL 251) [.ref 355, .int a]) [] g (fun v _ => v = some (.int (-1))) := by
  refine LW_ls (ls' := [some (.ref 355), some (.int a)]) rfl ?_
  refine X_iload_n rfl rfl rfl rfl ?_
  refine X_callS (as := [.int a]) (st := []) rfl rfl rfl (by decide) rfl (Nat.le_of_ble_eq_true rfl) (by decide) (Nat.le_of_ble_eq_true rfl) rfl ?_
  refine LW_ls (ls' := [some (.int a)]) rfl ?_
  refine X_iload_n rfl rfl rfl rfl ?_
  refine X_iconst (v := (1 : Int32)) rfl rfl rfl ?_
  refine X_ldc (v := (67108863 : Int32)) rfl rfl rfl ?_
  refine X_callS (as := [.int a, .int (1 : Int32), .int (67108863 : Int32)]) (st := []) rfl rfl rfl (by decide) rfl (Nat.le_of_ble_eq_true rfl) (by decide) (Nat.le_of_ble_eq_true rfl) rfl ?_
  refine LW_ls (ls' := [some (.int a), some (.int (1 : Int32)), some (.int (67108863 : Int32))]) rfl ?_
  refine X_iload_n rfl rfl rfl rfl ?_
  refine X_iload_n rfl rfl rfl rfl ?_
  refine X_icmp_lt (tgt := 14) rfl rfl rfl (fun h1 => ?_) (fun h1 => ?_)
  · refine X_iconst (v := (0 : Int32)) rfl rfl rfl ?_
    refine LW_ireturn (st := []) rfl rfl rfl ?_
    refine LW_ireturn (st := []) rfl rfl rfl ?_
    refine X_if_eq (tgt := 25) rfl rfl rfl (fun _ => ?_) (fun q => absurd q (by decide))
    refine X_iconst (v := (-1 : Int32)) rfl rfl rfl ?_
    exact LW_ireturn (st := []) rfl rfl rfl rfl
  · refine X_iload_n rfl rfl rfl rfl ?_
    refine X_iload_n rfl rfl rfl rfl ?_
    refine X_icmp_gt (tgt := 14) rfl rfl rfl (fun h2 => ?_) (fun h2 => ?_)
    · refine X_iconst (v := (0 : Int32)) rfl rfl rfl ?_
      refine LW_ireturn (st := []) rfl rfl rfl ?_
      refine LW_ireturn (st := []) rfl rfl rfl ?_
      refine X_if_eq (tgt := 25) rfl rfl rfl (fun _ => ?_) (fun q => absurd q (by decide))
      refine X_iconst (v := (-1 : Int32)) rfl rfl rfl ?_
      exact LW_ireturn (st := []) rfl rfl rfl rfl
    · refine X_iconst (v := (1 : Int32)) rfl rfl rfl ?_
      refine LW_goto (tgt := 15) rfl rfl ?_
      refine LW_ireturn (st := []) rfl rfl rfl ?_
      refine LW_ireturn (st := []) rfl rfl rfl ?_
      refine X_if_eq (tgt := 25) rfl rfl rfl (fun q => absurd q (by decide)) (fun _ => ?_)
      exfalso
      simp only [Int32.lt_iff_toInt_lt, Int32.le_iff_toInt_le, ← Int32.toInt_inj, (show (1 : Int32).toInt = 1 from rfl), (show (67108863 : Int32).toInt = 67108863 from rfl)] at h1 h2
      omega
set_option maxRecDepth 10000 in
set_option maxHeartbeats 4000000 in
theorem r_comeBack_in {g : LH} (F : Fr g) {n : Nat} (h0 : 1 ≤ n) (hn : n < 67108864) : LW 252 30 0 0 0 (lEnt (mL 252) [.ref 355, .int (nI (n))]) [] g (fun v _ => v = some (.int (-1))) := by
  refine LW_ls (ls' := [some (.ref 355), some (.int (nI (n)))]) rfl ?_
  refine X_iload_n rfl rfl rfl rfl ?_
  refine X_callS (as := [.int (nI (n))]) (st := []) rfl rfl rfl (by decide) rfl (Nat.le_of_ble_eq_true rfl) (by decide) (Nat.le_of_ble_eq_true rfl) rfl ?_
  refine LW_ls (ls' := [some (.int (nI (n)))]) rfl ?_
  refine X_iload_n rfl rfl rfl rfl ?_
  refine X_iconst (v := (1 : Int32)) rfl rfl rfl ?_
  refine X_ldc (v := (67108863 : Int32)) rfl rfl rfl ?_
  refine X_callS (as := [.int (nI (n)), .int (1 : Int32), .int (67108863 : Int32)]) (st := []) rfl rfl rfl (by decide) rfl (Nat.le_of_ble_eq_true rfl) (by decide) (Nat.le_of_ble_eq_true rfl) rfl ?_
  refine LW_ls (ls' := [some (.int (nI (n))), some (.int (1 : Int32)), some (.int (67108863 : Int32))]) rfl ?_
  refine X_iload_n rfl rfl rfl rfl ?_
  refine X_iload_n rfl rfl rfl rfl ?_
  refine X_icmp_lt (tgt := 14) rfl rfl rfl (fun h1 => ?_) (fun h1 => ?_)
  · exfalso
    simp only [Int32.lt_iff_toInt_lt, Int32.le_iff_toInt_le, ← Int32.toInt_inj, (show (1 : Int32).toInt = 1 from rfl), (nI_toInt (n := n) (by omega))] at h1
    omega
  · refine X_iload_n rfl rfl rfl rfl ?_
    refine X_iload_n rfl rfl rfl rfl ?_
    refine X_icmp_gt (tgt := 14) rfl rfl rfl (fun h2 => ?_) (fun h2 => ?_)
    · exfalso
      simp only [Int32.lt_iff_toInt_lt, Int32.le_iff_toInt_le, ← Int32.toInt_inj, (show (1 : Int32).toInt = 1 from rfl), (show (67108863 : Int32).toInt = 67108863 from rfl), (nI_toInt (n := n) (by omega))] at h1 h2
      omega
    · refine X_iconst (v := (1 : Int32)) rfl rfl rfl ?_
      refine LW_goto (tgt := 15) rfl rfl ?_
      refine LW_ireturn (st := []) rfl rfl rfl ?_
      refine LW_ireturn (st := []) rfl rfl rfl ?_
      refine X_if_eq (tgt := 23) rfl rfl rfl (fun q => absurd q (by decide)) (fun _ => ?_)
      refine X_aload_n rfl rfl rfl rfl ?_
      refine X_iload_n rfl rfl rfl rfl ?_
      refine X_aload_n rfl rfl rfl rfl ?_
      refine X_getR (a := 356) rfl rfl rfl ((congrFun F.1 355).trans s_355) rfl ((congrFun (F.2.1 355 (by decide)) 0).trans r_355_0) ?_
      refine X_bipush (v := (7 : Int32)) rfl rfl rfl ?_
      refine X_iald (v := (0 : Int32)) rfl rfl ((congrFun F.1 356).trans s_356) (vp_in_d rfl) ((congrFun (F.2.2 356 (by decide)).1 7).trans i_356_7) ?_
      refine X_iand (v := (0 : Int32)) rfl rfl (by simp) ?_
      refine X_callV (as := [.int (0 : Int32)]) (st := []) rfl rfl rfl (by decide) rfl (Nat.le_of_ble_eq_true rfl) (by decide) (Nat.le_of_ble_eq_true rfl) rfl ((congrFun F.1 355).trans s_355) (by decide) ?_
      refine LW_ls (ls' := [some (.ref 355), some (.int (0 : Int32)), none]) rfl ?_
      refine X_iload_n rfl rfl rfl rfl ?_
      refine X_if_ne (tgt := 6) rfl rfl rfl (fun q => absurd q (by decide)) (fun _ => ?_)
      refine X_iconst (v := (-1 : Int32)) rfl rfl rfl ?_
      refine LW_ireturn (st := []) rfl rfl rfl ?_
      refine LW_goto (tgt := 24) rfl rfl ?_
      exact LW_ireturn (st := []) rfl rfl rfl rfl
set_option maxRecDepth 10000 in
set_option maxHeartbeats 4000000 in
theorem r_comeBack_out {g : LH} (F : Fr g) (a : Int32) (hr : ¬ (1 ≤ a.toInt ∧ a.toInt ≤ 67108863)) : LW 252 30 0 0 0 (lEnt (mL 252) [.ref 355, .int a]) [] g (fun v _ => v = some (.int (-1))) := by
  refine LW_ls (ls' := [some (.ref 355), some (.int a)]) rfl ?_
  refine X_iload_n rfl rfl rfl rfl ?_
  refine X_callS (as := [.int a]) (st := []) rfl rfl rfl (by decide) rfl (Nat.le_of_ble_eq_true rfl) (by decide) (Nat.le_of_ble_eq_true rfl) rfl ?_
  refine LW_ls (ls' := [some (.int a)]) rfl ?_
  refine X_iload_n rfl rfl rfl rfl ?_
  refine X_iconst (v := (1 : Int32)) rfl rfl rfl ?_
  refine X_ldc (v := (67108863 : Int32)) rfl rfl rfl ?_
  refine X_callS (as := [.int a, .int (1 : Int32), .int (67108863 : Int32)]) (st := []) rfl rfl rfl (by decide) rfl (Nat.le_of_ble_eq_true rfl) (by decide) (Nat.le_of_ble_eq_true rfl) rfl ?_
  refine LW_ls (ls' := [some (.int a), some (.int (1 : Int32)), some (.int (67108863 : Int32))]) rfl ?_
  refine X_iload_n rfl rfl rfl rfl ?_
  refine X_iload_n rfl rfl rfl rfl ?_
  refine X_icmp_lt (tgt := 14) rfl rfl rfl (fun h1 => ?_) (fun h1 => ?_)
  · refine X_iconst (v := (0 : Int32)) rfl rfl rfl ?_
    refine LW_ireturn (st := []) rfl rfl rfl ?_
    refine LW_ireturn (st := []) rfl rfl rfl ?_
    refine X_if_eq (tgt := 23) rfl rfl rfl (fun _ => ?_) (fun q => absurd q (by decide))
    refine X_iconst (v := (-1 : Int32)) rfl rfl rfl ?_
    exact LW_ireturn (st := []) rfl rfl rfl rfl
  · refine X_iload_n rfl rfl rfl rfl ?_
    refine X_iload_n rfl rfl rfl rfl ?_
    refine X_icmp_gt (tgt := 14) rfl rfl rfl (fun h2 => ?_) (fun h2 => ?_)
    · refine X_iconst (v := (0 : Int32)) rfl rfl rfl ?_
      refine LW_ireturn (st := []) rfl rfl rfl ?_
      refine LW_ireturn (st := []) rfl rfl rfl ?_
      refine X_if_eq (tgt := 23) rfl rfl rfl (fun _ => ?_) (fun q => absurd q (by decide))
      refine X_iconst (v := (-1 : Int32)) rfl rfl rfl ?_
      exact LW_ireturn (st := []) rfl rfl rfl rfl
    · refine X_iconst (v := (1 : Int32)) rfl rfl rfl ?_
      refine LW_goto (tgt := 15) rfl rfl ?_
      refine LW_ireturn (st := []) rfl rfl rfl ?_
      refine LW_ireturn (st := []) rfl rfl rfl ?_
      refine X_if_eq (tgt := 23) rfl rfl rfl (fun q => absurd q (by decide)) (fun _ => ?_)
      exfalso
      simp only [Int32.lt_iff_toInt_lt, Int32.le_iff_toInt_le, ← Int32.toInt_inj, (show (1 : Int32).toInt = 1 from rfl), (show (67108863 : Int32).toInt = 67108863 from rfl)] at h1 h2
      omega
