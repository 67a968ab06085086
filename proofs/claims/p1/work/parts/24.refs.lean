/-! the reference: raise, sign, of, about -/
theorem i_356_5 : eI e2 356 5 = -1 := by decide +kernel
theorem i_356_9 : eI e2 356 9 = 0 := by decide +kernel
theorem v_356_12 : ∀ k, k < 26 → eI e2 356 (12 + k) = 1 := by decide +kernel
theorem v_356_38 : ∀ k, k < 26 → eI e2 356 (38 + k) = 0 := by decide +kernel
theorem v_356_64 : ∀ k, k < 26 → eI e2 356 (64 + k) = -1 := by decide +kernel
set_option maxRecDepth 10000 in
set_option maxHeartbeats 4000000 in
theorem r_raise_in {g : LH} (F : Fr g) {n : Nat} (hn : n < 26) (b : Int32) : LW 253 30 0 0 0 (lEnt (mL 253) [.ref 355, .int (nI (n)), .int b]) [] g (fun v _ => v = some (.int (if (0 ≤ b.toInt ∧ b.toInt ≤ 99) ∧ ¬ b.toInt = 1 then 1 else 0))) := by
  refine LW_ls (ls' := [some (.ref 355), some (.int (nI (n))), some (.int b)]) rfl ?_
  refine X_iload_n rfl rfl rfl rfl ?_
  refine X_callS (as := [.int (nI (n))]) (st := []) rfl rfl rfl (by decide) rfl (Nat.le_of_ble_eq_true rfl) (by decide) (Nat.le_of_ble_eq_true rfl) rfl ?_
  refine LW_ls (ls' := [some (.int (nI (n)))]) rfl ?_
  refine X_iload_n rfl rfl rfl rfl ?_
  refine X_iconst (v := (0 : Int32)) rfl rfl rfl ?_
  refine X_bipush (v := (25 : Int32)) rfl rfl rfl ?_
  refine X_callS (as := [.int (nI (n)), .int (0 : Int32), .int (25 : Int32)]) (st := []) rfl rfl rfl (by decide) rfl (Nat.le_of_ble_eq_true rfl) (by decide) (Nat.le_of_ble_eq_true rfl) rfl ?_
  refine LW_ls (ls' := [some (.int (nI (n))), some (.int (0 : Int32)), some (.int (25 : Int32))]) rfl ?_
  refine X_iload_n rfl rfl rfl rfl ?_
  refine X_iload_n rfl rfl rfl rfl ?_
  refine X_icmp_lt (tgt := 14) rfl rfl rfl (fun h1 => ?_) (fun h1 => ?_)
  · exfalso
    simp only [Int32.lt_iff_toInt_lt, Int32.le_iff_toInt_le, ← Int32.toInt_inj, (show (0 : Int32).toInt = 0 from rfl), (nI_toInt (n := n) (by omega))] at h1
    omega
  · refine X_iload_n rfl rfl rfl rfl ?_
    refine X_iload_n rfl rfl rfl rfl ?_
    refine X_icmp_gt (tgt := 14) rfl rfl rfl (fun h2 => ?_) (fun h2 => ?_)
    · exfalso
      simp only [Int32.lt_iff_toInt_lt, Int32.le_iff_toInt_le, ← Int32.toInt_inj, (show (0 : Int32).toInt = 0 from rfl), (show (25 : Int32).toInt = 25 from rfl), (nI_toInt (n := n) (by omega))] at h1 h2
      omega
    · refine X_iconst (v := (1 : Int32)) rfl rfl rfl ?_
      refine LW_goto (tgt := 15) rfl rfl ?_
      refine LW_ireturn (st := []) rfl rfl rfl ?_
      refine LW_ireturn (st := []) rfl rfl rfl ?_
      refine X_if_eq (tgt := 30) rfl rfl rfl (fun q => absurd q (by decide)) (fun _ => ?_)
      refine X_iload_n rfl rfl rfl rfl ?_
      refine X_iconst (v := (0 : Int32)) rfl rfl rfl ?_
      refine X_bipush (v := (99 : Int32)) rfl rfl rfl ?_
      refine X_callS (as := [.int b, .int (0 : Int32), .int (99 : Int32)]) (st := []) rfl rfl rfl (by decide) rfl (Nat.le_of_ble_eq_true rfl) (by decide) (Nat.le_of_ble_eq_true rfl) rfl ?_
      refine LW_ls (ls' := [some (.int b), some (.int (0 : Int32)), some (.int (99 : Int32))]) rfl ?_
      refine X_iload_n rfl rfl rfl rfl ?_
      refine X_iload_n rfl rfl rfl rfl ?_
      refine X_icmp_lt (tgt := 14) rfl rfl rfl (fun h3 => ?_) (fun h3 => ?_)
      · refine X_iconst (v := (0 : Int32)) rfl rfl rfl ?_
        refine LW_ireturn (st := []) rfl rfl rfl ?_
        refine X_if_eq (tgt := 30) rfl rfl rfl (fun _ => ?_) (fun q => absurd q (by decide))
        refine X_iconst (v := (0 : Int32)) rfl rfl rfl ?_
        refine LW_ireturn (st := []) rfl rfl rfl (congrArg (fun z => some (Value.int z)) ?_)
        simp only [Int32.lt_iff_toInt_lt, Int32.le_iff_toInt_le, ← Int32.toInt_inj, (show (0 : Int32).toInt = 0 from rfl), (show (25 : Int32).toInt = 25 from rfl), (nI_toInt (n := n) (by omega))] at h1 h2 h3
        repeat' split
        all_goals first | rfl | (exfalso; omega)
      · refine X_iload_n rfl rfl rfl rfl ?_
        refine X_iload_n rfl rfl rfl rfl ?_
        refine X_icmp_gt (tgt := 14) rfl rfl rfl (fun h4 => ?_) (fun h4 => ?_)
        · refine X_iconst (v := (0 : Int32)) rfl rfl rfl ?_
          refine LW_ireturn (st := []) rfl rfl rfl ?_
          refine X_if_eq (tgt := 30) rfl rfl rfl (fun _ => ?_) (fun q => absurd q (by decide))
          refine X_iconst (v := (0 : Int32)) rfl rfl rfl ?_
          refine LW_ireturn (st := []) rfl rfl rfl (congrArg (fun z => some (Value.int z)) ?_)
          simp only [Int32.lt_iff_toInt_lt, Int32.le_iff_toInt_le, ← Int32.toInt_inj, (show (0 : Int32).toInt = 0 from rfl), (show (25 : Int32).toInt = 25 from rfl), (show (99 : Int32).toInt = 99 from rfl), (nI_toInt (n := n) (by omega))] at h1 h2 h3 h4
          repeat' split
          all_goals first | rfl | (exfalso; omega)
        · refine X_iconst (v := (1 : Int32)) rfl rfl rfl ?_
          refine LW_goto (tgt := 15) rfl rfl ?_
          refine LW_ireturn (st := []) rfl rfl rfl ?_
          refine X_if_eq (tgt := 30) rfl rfl rfl (fun q => absurd q (by decide)) (fun _ => ?_)
          refine X_aload_n rfl rfl rfl rfl ?_
          refine X_getR (a := 356) rfl rfl rfl ((congrFun F.1 355).trans s_355) rfl ((congrFun (F.2.1 355 (by decide)) 0).trans r_355_0) ?_
          refine X_bipush (v := (12 : Int32)) rfl rfl rfl ?_
          refine X_iload_n rfl rfl rfl rfl ?_
          refine X_iadd (v := (nI (12 + n))) rfl rfl (nI_add (12) (n)) ?_
          refine X_iald (v := (1 : Int32)) rfl rfl ((congrFun F.1 356).trans s_356) (vp_in_nI (by omega) (by decide)) ((congrArg (Gi _ 356) (nI_clamp (n := 12 + n) (by omega))).trans ((congrFun (F.2.2 356 (by decide)).1 _).trans (v_356_12 _ (by omega)))) ?_
          refine X_iload_n rfl rfl rfl rfl ?_
          refine X_icmp_ne (tgt := 32) rfl rfl rfl (fun h5 => ?_) (fun h5 => ?_)
          · refine X_aload_n rfl rfl rfl rfl ?_
            refine Y_callV (as := []) (st := []) rfl rfl rfl (by decide) rfl (Nat.le_of_ble_eq_true rfl) (by decide) (Nat.le_of_ble_eq_true rfl) rfl ((congrFun F.1 355).trans s_355) (by decide) (r_keep F) ?_
            rintro _ g' ⟨rfl, F'⟩
            refine X_aload_n rfl rfl rfl rfl ?_
            refine X_getR (a := 356) rfl rfl rfl ((congrFun F'.1 355).trans s_355) rfl ((congrFun (F'.2.1 355 (by decide)) 0).trans r_355_0) ?_
            refine X_bipush (v := (12 : Int32)) rfl rfl rfl ?_
            refine X_iload_n rfl rfl rfl rfl ?_
            refine X_iadd (v := nI (12 + n)) rfl rfl (nI_add 12 n) ?_
            refine X_iload_n rfl rfl rfl rfl ?_
            refine X_iast (k0 := 12 + n) rfl rfl ((congrFun F'.1 356).trans s_356) (vp_in_nI (by omega) (by decide)) (nI_clamp (by omega)) ?_
            refine X_iconst (v := (1 : Int32)) rfl rfl rfl ?_
            refine LW_ireturn (st := []) rfl rfl rfl (congrArg (fun z => some (Value.int z)) ?_)
            simp only [Int32.lt_iff_toInt_lt, Int32.le_iff_toInt_le, ← Int32.toInt_inj, (show (0 : Int32).toInt = 0 from rfl), (show (1 : Int32).toInt = 1 from rfl), (show (25 : Int32).toInt = 25 from rfl), (show (99 : Int32).toInt = 99 from rfl), (nI_toInt (n := n) (by omega))] at h1 h2 h3 h4 h5
            repeat' split
            all_goals first | rfl | (exfalso; omega)
          · refine X_iconst (v := (0 : Int32)) rfl rfl rfl ?_
            refine LW_ireturn (st := []) rfl rfl rfl (congrArg (fun z => some (Value.int z)) ?_)
            simp only [Int32.lt_iff_toInt_lt, Int32.le_iff_toInt_le, ← Int32.toInt_inj, (show (0 : Int32).toInt = 0 from rfl), (show (1 : Int32).toInt = 1 from rfl), (show (25 : Int32).toInt = 25 from rfl), (show (99 : Int32).toInt = 99 from rfl), (nI_toInt (n := n) (by omega))] at h1 h2 h3 h4 h5
            repeat' split
            all_goals first | rfl | (exfalso; omega)
set_option maxRecDepth 10000 in
set_option maxHeartbeats 4000000 in
theorem r_raise_out {g : LH} (F : Fr g) (a b : Int32) (hr : ¬ (0 ≤ a.toInt ∧ a.toInt ≤ 25)) : LW 253 30 0 0 0 (lEnt (mL 253) [.ref 355, .int a, .int b]) [] g (fun v _ => v = some (.int (0))) := by
  refine LW_ls (ls' := [some (.ref 355), some (.int a), some (.int b)]) rfl ?_
  refine X_iload_n rfl rfl rfl rfl ?_
  refine X_callS (as := [.int a]) (st := []) rfl rfl rfl (by decide) rfl (Nat.le_of_ble_eq_true rfl) (by decide) (Nat.le_of_ble_eq_true rfl) rfl ?_
  refine LW_ls (ls' := [some (.int a)]) rfl ?_
  refine X_iload_n rfl rfl rfl rfl ?_
  refine X_iconst (v := (0 : Int32)) rfl rfl rfl ?_
  refine X_bipush (v := (25 : Int32)) rfl rfl rfl ?_
  refine X_callS (as := [.int a, .int (0 : Int32), .int (25 : Int32)]) (st := []) rfl rfl rfl (by decide) rfl (Nat.le_of_ble_eq_true rfl) (by decide) (Nat.le_of_ble_eq_true rfl) rfl ?_
  refine LW_ls (ls' := [some (.int a), some (.int (0 : Int32)), some (.int (25 : Int32))]) rfl ?_
  refine X_iload_n rfl rfl rfl rfl ?_
  refine X_iload_n rfl rfl rfl rfl ?_
  refine X_icmp_lt (tgt := 14) rfl rfl rfl (fun h1 => ?_) (fun h1 => ?_)
  · refine X_iconst (v := (0 : Int32)) rfl rfl rfl ?_
    refine LW_ireturn (st := []) rfl rfl rfl ?_
    refine LW_ireturn (st := []) rfl rfl rfl ?_
    refine X_if_eq (tgt := 30) rfl rfl rfl (fun _ => ?_) (fun q => absurd q (by decide))
    refine X_iconst (v := (0 : Int32)) rfl rfl rfl ?_
    exact LW_ireturn (st := []) rfl rfl rfl rfl
  · refine X_iload_n rfl rfl rfl rfl ?_
    refine X_iload_n rfl rfl rfl rfl ?_
    refine X_icmp_gt (tgt := 14) rfl rfl rfl (fun h2 => ?_) (fun h2 => ?_)
    · refine X_iconst (v := (0 : Int32)) rfl rfl rfl ?_
      refine LW_ireturn (st := []) rfl rfl rfl ?_
      refine LW_ireturn (st := []) rfl rfl rfl ?_
      refine X_if_eq (tgt := 30) rfl rfl rfl (fun _ => ?_) (fun q => absurd q (by decide))
      refine X_iconst (v := (0 : Int32)) rfl rfl rfl ?_
      exact LW_ireturn (st := []) rfl rfl rfl rfl
    · refine X_iconst (v := (1 : Int32)) rfl rfl rfl ?_
      refine LW_goto (tgt := 15) rfl rfl ?_
      refine LW_ireturn (st := []) rfl rfl rfl ?_
      refine LW_ireturn (st := []) rfl rfl rfl ?_
      refine X_if_eq (tgt := 30) rfl rfl rfl (fun q => absurd q (by decide)) (fun _ => ?_)
      exfalso
      simp only [Int32.lt_iff_toInt_lt, Int32.le_iff_toInt_le, ← Int32.toInt_inj, (show (0 : Int32).toInt = 0 from rfl), (show (25 : Int32).toInt = 25 from rfl)] at h1 h2
      omega
set_option maxRecDepth 10000 in
set_option maxHeartbeats 4000000 in
theorem r_sign_in {g : LH} (F : Fr g) {n : Nat} (hn : n < 26) (b : Int32) : LW 254 30 0 0 0 (lEnt (mL 254) [.ref 355, .int (nI (n)), .int b]) [] g (fun v _ => v = some (.int (if (-1 ≤ b.toInt ∧ b.toInt ≤ 9) ∧ ¬ b.toInt = -1 then 1 else 0))) := by
  refine LW_ls (ls' := [some (.ref 355), some (.int (nI (n))), some (.int b)]) rfl ?_
  refine X_iload_n rfl rfl rfl rfl ?_
  refine X_callS (as := [.int (nI (n))]) (st := []) rfl rfl rfl (by decide) rfl (Nat.le_of_ble_eq_true rfl) (by decide) (Nat.le_of_ble_eq_true rfl) rfl ?_
  refine LW_ls (ls' := [some (.int (nI (n)))]) rfl ?_
  refine X_iload_n rfl rfl rfl rfl ?_
  refine X_iconst (v := (0 : Int32)) rfl rfl rfl ?_
  refine X_bipush (v := (25 : Int32)) rfl rfl rfl ?_
  refine X_callS (as := [.int (nI (n)), .int (0 : Int32), .int (25 : Int32)]) (st := []) rfl rfl rfl (by decide) rfl (Nat.le_of_ble_eq_true rfl) (by decide) (Nat.le_of_ble_eq_true rfl) rfl ?_
  refine LW_ls (ls' := [some (.int (nI (n))), some (.int (0 : Int32)), some (.int (25 : Int32))]) rfl ?_
  refine X_iload_n rfl rfl rfl rfl ?_
  refine X_iload_n rfl rfl rfl rfl ?_
  refine X_icmp_lt (tgt := 14) rfl rfl rfl (fun h1 => ?_) (fun h1 => ?_)
  · exfalso
    simp only [Int32.lt_iff_toInt_lt, Int32.le_iff_toInt_le, ← Int32.toInt_inj, (show (0 : Int32).toInt = 0 from rfl), (nI_toInt (n := n) (by omega))] at h1
    omega
  · refine X_iload_n rfl rfl rfl rfl ?_
    refine X_iload_n rfl rfl rfl rfl ?_
    refine X_icmp_gt (tgt := 14) rfl rfl rfl (fun h2 => ?_) (fun h2 => ?_)
    · exfalso
      simp only [Int32.lt_iff_toInt_lt, Int32.le_iff_toInt_le, ← Int32.toInt_inj, (show (0 : Int32).toInt = 0 from rfl), (show (25 : Int32).toInt = 25 from rfl), (nI_toInt (n := n) (by omega))] at h1 h2
      omega
    · refine X_iconst (v := (1 : Int32)) rfl rfl rfl ?_
      refine LW_goto (tgt := 15) rfl rfl ?_
      refine LW_ireturn (st := []) rfl rfl rfl ?_
      refine LW_ireturn (st := []) rfl rfl rfl ?_
      refine X_if_eq (tgt := 30) rfl rfl rfl (fun q => absurd q (by decide)) (fun _ => ?_)
      refine X_iload_n rfl rfl rfl rfl ?_
      refine X_iconst (v := (-1 : Int32)) rfl rfl rfl ?_
      refine X_bipush (v := (9 : Int32)) rfl rfl rfl ?_
      refine X_callS (as := [.int b, .int (-1 : Int32), .int (9 : Int32)]) (st := []) rfl rfl rfl (by decide) rfl (Nat.le_of_ble_eq_true rfl) (by decide) (Nat.le_of_ble_eq_true rfl) rfl ?_
      refine LW_ls (ls' := [some (.int b), some (.int (-1 : Int32)), some (.int (9 : Int32))]) rfl ?_
      refine X_iload_n rfl rfl rfl rfl ?_
      refine X_iload_n rfl rfl rfl rfl ?_
      refine X_icmp_lt (tgt := 14) rfl rfl rfl (fun h3 => ?_) (fun h3 => ?_)
      · refine X_iconst (v := (0 : Int32)) rfl rfl rfl ?_
        refine LW_ireturn (st := []) rfl rfl rfl ?_
        refine X_if_eq (tgt := 30) rfl rfl rfl (fun _ => ?_) (fun q => absurd q (by decide))
        refine X_iconst (v := (0 : Int32)) rfl rfl rfl ?_
        refine LW_ireturn (st := []) rfl rfl rfl (congrArg (fun z => some (Value.int z)) ?_)
        simp only [Int32.lt_iff_toInt_lt, Int32.le_iff_toInt_le, ← Int32.toInt_inj, (show (-1 : Int32).toInt = -1 from rfl), (show (0 : Int32).toInt = 0 from rfl), (show (25 : Int32).toInt = 25 from rfl), (nI_toInt (n := n) (by omega))] at h1 h2 h3
        repeat' split
        all_goals first | rfl | (exfalso; omega)
      · refine X_iload_n rfl rfl rfl rfl ?_
        refine X_iload_n rfl rfl rfl rfl ?_
        refine X_icmp_gt (tgt := 14) rfl rfl rfl (fun h4 => ?_) (fun h4 => ?_)
        · refine X_iconst (v := (0 : Int32)) rfl rfl rfl ?_
          refine LW_ireturn (st := []) rfl rfl rfl ?_
          refine X_if_eq (tgt := 30) rfl rfl rfl (fun _ => ?_) (fun q => absurd q (by decide))
          refine X_iconst (v := (0 : Int32)) rfl rfl rfl ?_
          refine LW_ireturn (st := []) rfl rfl rfl (congrArg (fun z => some (Value.int z)) ?_)
          simp only [Int32.lt_iff_toInt_lt, Int32.le_iff_toInt_le, ← Int32.toInt_inj, (show (-1 : Int32).toInt = -1 from rfl), (show (0 : Int32).toInt = 0 from rfl), (show (9 : Int32).toInt = 9 from rfl), (show (25 : Int32).toInt = 25 from rfl), (nI_toInt (n := n) (by omega))] at h1 h2 h3 h4
          repeat' split
          all_goals first | rfl | (exfalso; omega)
        · refine X_iconst (v := (1 : Int32)) rfl rfl rfl ?_
          refine LW_goto (tgt := 15) rfl rfl ?_
          refine LW_ireturn (st := []) rfl rfl rfl ?_
          refine X_if_eq (tgt := 30) rfl rfl rfl (fun q => absurd q (by decide)) (fun _ => ?_)
          refine X_aload_n rfl rfl rfl rfl ?_
          refine X_getR (a := 356) rfl rfl rfl ((congrFun F.1 355).trans s_355) rfl ((congrFun (F.2.1 355 (by decide)) 0).trans r_355_0) ?_
          refine X_bipush (v := (64 : Int32)) rfl rfl rfl ?_
          refine X_iload_n rfl rfl rfl rfl ?_
          refine X_iadd (v := (nI (64 + n))) rfl rfl (nI_add (64) (n)) ?_
          refine X_iald (v := (-1 : Int32)) rfl rfl ((congrFun F.1 356).trans s_356) (vp_in_nI (by omega) (by decide)) ((congrArg (Gi _ 356) (nI_clamp (n := 64 + n) (by omega))).trans ((congrFun (F.2.2 356 (by decide)).1 _).trans (v_356_64 _ (by omega)))) ?_
          refine X_iload_n rfl rfl rfl rfl ?_
          refine X_icmp_ne (tgt := 32) rfl rfl rfl (fun h5 => ?_) (fun h5 => ?_)
          · refine X_aload_n rfl rfl rfl rfl ?_
            refine Y_callV (as := []) (st := []) rfl rfl rfl (by decide) rfl (Nat.le_of_ble_eq_true rfl) (by decide) (Nat.le_of_ble_eq_true rfl) rfl ((congrFun F.1 355).trans s_355) (by decide) (r_keep F) ?_
            rintro _ g' ⟨rfl, F'⟩
            refine X_aload_n rfl rfl rfl rfl ?_
            refine X_getR (a := 356) rfl rfl rfl ((congrFun F'.1 355).trans s_355) rfl ((congrFun (F'.2.1 355 (by decide)) 0).trans r_355_0) ?_
            refine X_bipush (v := (64 : Int32)) rfl rfl rfl ?_
            refine X_iload_n rfl rfl rfl rfl ?_
            refine X_iadd (v := nI (64 + n)) rfl rfl (nI_add 64 n) ?_
            refine X_iload_n rfl rfl rfl rfl ?_
            refine X_iast (k0 := 64 + n) rfl rfl ((congrFun F'.1 356).trans s_356) (vp_in_nI (by omega) (by decide)) (nI_clamp (by omega)) ?_
            refine X_iconst (v := (1 : Int32)) rfl rfl rfl ?_
            refine LW_ireturn (st := []) rfl rfl rfl (congrArg (fun z => some (Value.int z)) ?_)
            simp only [Int32.lt_iff_toInt_lt, Int32.le_iff_toInt_le, ← Int32.toInt_inj, (show (-1 : Int32).toInt = -1 from rfl), (show (0 : Int32).toInt = 0 from rfl), (show (9 : Int32).toInt = 9 from rfl), (show (25 : Int32).toInt = 25 from rfl), (nI_toInt (n := n) (by omega))] at h1 h2 h3 h4 h5
            repeat' split
            all_goals first | rfl | (exfalso; omega)
          · refine X_iconst (v := (0 : Int32)) rfl rfl rfl ?_
            refine LW_ireturn (st := []) rfl rfl rfl (congrArg (fun z => some (Value.int z)) ?_)
            simp only [Int32.lt_iff_toInt_lt, Int32.le_iff_toInt_le, ← Int32.toInt_inj, (show (-1 : Int32).toInt = -1 from rfl), (show (0 : Int32).toInt = 0 from rfl), (show (9 : Int32).toInt = 9 from rfl), (show (25 : Int32).toInt = 25 from rfl), (nI_toInt (n := n) (by omega))] at h1 h2 h3 h4 h5
            repeat' split
            all_goals first | rfl | (exfalso; omega)
set_option maxRecDepth 10000 in
set_option maxHeartbeats 4000000 in
theorem r_sign_out {g : LH} (F : Fr g) (a b : Int32) (hr : ¬ (0 ≤ a.toInt ∧ a.toInt ≤ 25)) : LW 254 30 0 0 0 (lEnt (mL 254) [.ref 355, .int a, .int b]) [] g (fun v _ => v = some (.int (0))) := by
  refine LW_ls (ls' := [some (.ref 355), some (.int a), some (.int b)]) rfl ?_
  refine X_iload_n rfl rfl rfl rfl ?_
  refine X_callS (as := [.int a]) (st := []) rfl rfl rfl (by decide) rfl (Nat.le_of_ble_eq_true rfl) (by decide) (Nat.le_of_ble_eq_true rfl) rfl ?_
  refine LW_ls (ls' := [some (.int a)]) rfl ?_
  refine X_iload_n rfl rfl rfl rfl ?_
  refine X_iconst (v := (0 : Int32)) rfl rfl rfl ?_
  refine X_bipush (v := (25 : Int32)) rfl rfl rfl ?_
  refine X_callS (as := [.int a, .int (0 : Int32), .int (25 : Int32)]) (st := []) rfl rfl rfl (by decide) rfl (Nat.le_of_ble_eq_true rfl) (by decide) (Nat.le_of_ble_eq_true rfl) rfl ?_
  refine LW_ls (ls' := [some (.int a), some (.int (0 : Int32)), some (.int (25 : Int32))]) rfl ?_
  refine X_iload_n rfl rfl rfl rfl ?_
  refine X_iload_n rfl rfl rfl rfl ?_
  refine X_icmp_lt (tgt := 14) rfl rfl rfl (fun h1 => ?_) (fun h1 => ?_)
  · refine X_iconst (v := (0 : Int32)) rfl rfl rfl ?_
    refine LW_ireturn (st := []) rfl rfl rfl ?_
    refine LW_ireturn (st := []) rfl rfl rfl ?_
    refine X_if_eq (tgt := 30) rfl rfl rfl (fun _ => ?_) (fun q => absurd q (by decide))
    refine X_iconst (v := (0 : Int32)) rfl rfl rfl ?_
    exact LW_ireturn (st := []) rfl rfl rfl rfl
  · refine X_iload_n rfl rfl rfl rfl ?_
    refine X_iload_n rfl rfl rfl rfl ?_
    refine X_icmp_gt (tgt := 14) rfl rfl rfl (fun h2 => ?_) (fun h2 => ?_)
    · refine X_iconst (v := (0 : Int32)) rfl rfl rfl ?_
      refine LW_ireturn (st := []) rfl rfl rfl ?_
      refine LW_ireturn (st := []) rfl rfl rfl ?_
      refine X_if_eq (tgt := 30) rfl rfl rfl (fun _ => ?_) (fun q => absurd q (by decide))
      refine X_iconst (v := (0 : Int32)) rfl rfl rfl ?_
      exact LW_ireturn (st := []) rfl rfl rfl rfl
    · refine X_iconst (v := (1 : Int32)) rfl rfl rfl ?_
      refine LW_goto (tgt := 15) rfl rfl ?_
      refine LW_ireturn (st := []) rfl rfl rfl ?_
      refine LW_ireturn (st := []) rfl rfl rfl ?_
      refine X_if_eq (tgt := 30) rfl rfl rfl (fun q => absurd q (by decide)) (fun _ => ?_)
      exfalso
      simp only [Int32.lt_iff_toInt_lt, Int32.le_iff_toInt_le, ← Int32.toInt_inj, (show (0 : Int32).toInt = 0 from rfl), (show (25 : Int32).toInt = 25 from rfl)] at h1 h2
      omega
set_option maxRecDepth 10000 in
set_option maxHeartbeats 4000000 in
theorem r_of_in {g : LH} (F : Fr g) {n : Nat} (hn : n < 26) (b : Int32) : LW 270 30 0 0 0 (lEnt (mL 270) [.ref 355, .int (nI (n)), .int b]) [] g (fun v _ => v = some (.int (if b.toInt = 0 then 1 else if b.toInt = 3 then -1 else if 0 ≤ b.toInt ∧ b.toInt ≤ 6 then 0 else -2))) := by
  refine LW_ls (ls' := [some (.ref 355), some (.int (nI (n))), some (.int b)]) rfl ?_
  refine X_iload_n rfl rfl rfl rfl ?_
  refine X_callS (as := [.int (nI (n))]) (st := []) rfl rfl rfl (by decide) rfl (Nat.le_of_ble_eq_true rfl) (by decide) (Nat.le_of_ble_eq_true rfl) rfl ?_
  refine LW_ls (ls' := [some (.int (nI (n)))]) rfl ?_
  refine X_iload_n rfl rfl rfl rfl ?_
  refine X_iconst (v := (0 : Int32)) rfl rfl rfl ?_
  refine X_bipush (v := (25 : Int32)) rfl rfl rfl ?_
  refine X_callS (as := [.int (nI (n)), .int (0 : Int32), .int (25 : Int32)]) (st := []) rfl rfl rfl (by decide) rfl (Nat.le_of_ble_eq_true rfl) (by decide) (Nat.le_of_ble_eq_true rfl) rfl ?_
  refine LW_ls (ls' := [some (.int (nI (n))), some (.int (0 : Int32)), some (.int (25 : Int32))]) rfl ?_
  refine X_iload_n rfl rfl rfl rfl ?_
  refine X_iload_n rfl rfl rfl rfl ?_
  refine X_icmp_lt (tgt := 14) rfl rfl rfl (fun h1 => ?_) (fun h1 => ?_)
  · exfalso
    simp only [Int32.lt_iff_toInt_lt, Int32.le_iff_toInt_le, ← Int32.toInt_inj, (show (0 : Int32).toInt = 0 from rfl), (nI_toInt (n := n) (by omega))] at h1
    omega
  · refine X_iload_n rfl rfl rfl rfl ?_
    refine X_iload_n rfl rfl rfl rfl ?_
    refine X_icmp_gt (tgt := 14) rfl rfl rfl (fun h2 => ?_) (fun h2 => ?_)
    · exfalso
      simp only [Int32.lt_iff_toInt_lt, Int32.le_iff_toInt_le, ← Int32.toInt_inj, (show (0 : Int32).toInt = 0 from rfl), (show (25 : Int32).toInt = 25 from rfl), (nI_toInt (n := n) (by omega))] at h1 h2
      omega
    · refine X_iconst (v := (1 : Int32)) rfl rfl rfl ?_
      refine LW_goto (tgt := 15) rfl rfl ?_
      refine LW_ireturn (st := []) rfl rfl rfl ?_
      refine LW_ireturn (st := []) rfl rfl rfl ?_
      refine X_if_ne (tgt := 10) rfl rfl rfl (fun _ => ?_) (fun q => absurd q (by decide))
      refine X_iload_n rfl rfl rfl rfl ?_
      by_cases h3 : b = (0 : Int32)
      · refine LW_eqv h3 ?_
        refine LW_tableIn (tgt := 52) rfl (by decide) (by decide) rfl rfl ?_
        refine X_aload_n rfl rfl rfl rfl ?_
        refine X_getR (a := 356) rfl rfl rfl ((congrFun F.1 355).trans s_355) rfl ((congrFun (F.2.1 355 (by decide)) 0).trans r_355_0) ?_
        refine X_bipush (v := (12 : Int32)) rfl rfl rfl ?_
        refine X_iload_n rfl rfl rfl rfl ?_
        refine X_iadd (v := (nI (12 + n))) rfl rfl (nI_add (12) (n)) ?_
        refine X_iald (v := (1 : Int32)) rfl rfl ((congrFun F.1 356).trans s_356) (vp_in_nI (by omega) (by decide)) ((congrArg (Gi _ 356) (nI_clamp (n := 12 + n) (by omega))).trans ((congrFun (F.2.2 356 (by decide)).1 _).trans (v_356_12 _ (by omega)))) ?_
        refine LW_ireturn (st := []) rfl rfl rfl (congrArg (fun z => some (Value.int z)) ?_)
        simp only [Int32.lt_iff_toInt_lt, Int32.le_iff_toInt_le, ← Int32.toInt_inj, (show (0 : Int32).toInt = 0 from rfl), (show (25 : Int32).toInt = 25 from rfl), (nI_toInt (n := n) (by omega))] at h1 h2 h3
        repeat' split
        all_goals first | rfl | (exfalso; omega)
      by_cases h4 : b = (1 : Int32)
      · refine LW_eqv h4 ?_
        refine LW_tableIn (tgt := 62) rfl (by decide) (by decide) rfl rfl ?_
        refine X_aload_n rfl rfl rfl rfl ?_
        refine X_getR (a := 356) rfl rfl rfl ((congrFun F.1 355).trans s_355) rfl ((congrFun (F.2.1 355 (by decide)) 0).trans r_355_0) ?_
        refine X_bipush (v := (38 : Int32)) rfl rfl rfl ?_
        refine X_iload_n rfl rfl rfl rfl ?_
        refine X_iadd (v := (nI (38 + n))) rfl rfl (nI_add (38) (n)) ?_
        refine X_iald (v := (0 : Int32)) rfl rfl ((congrFun F.1 356).trans s_356) (vp_in_nI (by omega) (by decide)) ((congrArg (Gi _ 356) (nI_clamp (n := 38 + n) (by omega))).trans ((congrFun (F.2.2 356 (by decide)).1 _).trans (v_356_38 _ (by omega)))) ?_
        refine LW_ireturn (st := []) rfl rfl rfl (congrArg (fun z => some (Value.int z)) ?_)
        simp only [Int32.lt_iff_toInt_lt, Int32.le_iff_toInt_le, ← Int32.toInt_inj, (show (0 : Int32).toInt = 0 from rfl), (show (1 : Int32).toInt = 1 from rfl), (show (25 : Int32).toInt = 25 from rfl), (nI_toInt (n := n) (by omega))] at h1 h2 h3 h4
        repeat' split
        all_goals first | rfl | (exfalso; omega)
      by_cases h5 : b = (2 : Int32)
      · refine LW_eqv h5 ?_
        refine LW_tableIn (tgt := 72) rfl (by decide) (by decide) rfl rfl ?_
        refine X_aload_n rfl rfl rfl rfl ?_
        refine X_iload_n rfl rfl rfl rfl ?_
        refine X_callV (as := [.int (nI (n))]) (st := []) rfl rfl rfl (by decide) rfl (Nat.le_of_ble_eq_true rfl) (by decide) (Nat.le_of_ble_eq_true rfl) rfl ((congrFun F.1 355).trans s_355) (by decide) ?_
        refine LW_ls (ls' := [some (.ref 355), some (.int (nI (n)))]) rfl ?_
        refine X_aload_n rfl rfl rfl rfl ?_
        refine X_getR (a := 356) rfl rfl rfl ((congrFun F.1 355).trans s_355) rfl ((congrFun (F.2.1 355 (by decide)) 0).trans r_355_0) ?_
        refine X_bipush (v := (7 : Int32)) rfl rfl rfl ?_
        refine X_iald (v := (0 : Int32)) rfl rfl ((congrFun F.1 356).trans s_356) (vp_in_d rfl) ((congrFun (F.2.2 356 (by decide)).1 7).trans i_356_7) ?_
        refine X_iload_n rfl rfl rfl rfl ?_
        refine X_callS (as := [.int (0 : Int32), .int (nI (n))]) (st := []) rfl rfl rfl (by decide) rfl (Nat.le_of_ble_eq_true rfl) (by decide) (Nat.le_of_ble_eq_true rfl) rfl ?_
        refine LW_ls (ls' := [some (.int (0 : Int32)), some (.int (nI (n)))]) rfl ?_
        refine X_iload_n rfl rfl rfl rfl ?_
        refine X_iload_n rfl rfl rfl rfl ?_
        refine X_ishr (v := (0 : Int32)) rfl rfl (by simp) ?_
        refine X_iconst (v := (1 : Int32)) rfl rfl rfl ?_
        refine X_iand (v := (0 : Int32)) rfl rfl rfl ?_
        refine X_iconst (v := (1 : Int32)) rfl rfl rfl ?_
        refine X_icmp_ne (tgt := 13) rfl rfl rfl (fun _ => ?_) (fun q => absurd q (by decide))
        refine X_iconst (v := (0 : Int32)) rfl rfl rfl ?_
        refine LW_ireturn (st := []) rfl rfl rfl ?_
        refine LW_ireturn (st := []) rfl rfl rfl ?_
        refine X_if_eq (tgt := 84) rfl rfl rfl (fun _ => ?_) (fun q => absurd q (by decide))
        refine X_iconst (v := (0 : Int32)) rfl rfl rfl ?_
        refine LW_ireturn (st := []) rfl rfl rfl (congrArg (fun z => some (Value.int z)) ?_)
        simp only [Int32.lt_iff_toInt_lt, Int32.le_iff_toInt_le, ← Int32.toInt_inj, (show (0 : Int32).toInt = 0 from rfl), (show (1 : Int32).toInt = 1 from rfl), (show (2 : Int32).toInt = 2 from rfl), (show (25 : Int32).toInt = 25 from rfl), (nI_toInt (n := n) (by omega))] at h1 h2 h3 h4 h5
        repeat' split
        all_goals first | rfl | (exfalso; omega)
      by_cases h6 : b = (3 : Int32)
      · refine LW_eqv h6 ?_
        refine LW_tableIn (tgt := 86) rfl (by decide) (by decide) rfl rfl ?_
        refine X_aload_n rfl rfl rfl rfl ?_
        refine X_getR (a := 356) rfl rfl rfl ((congrFun F.1 355).trans s_355) rfl ((congrFun (F.2.1 355 (by decide)) 0).trans r_355_0) ?_
        refine X_bipush (v := (64 : Int32)) rfl rfl rfl ?_
        refine X_iload_n rfl rfl rfl rfl ?_
        refine X_iadd (v := (nI (64 + n))) rfl rfl (nI_add (64) (n)) ?_
        refine X_iald (v := (-1 : Int32)) rfl rfl ((congrFun F.1 356).trans s_356) (vp_in_nI (by omega) (by decide)) ((congrArg (Gi _ 356) (nI_clamp (n := 64 + n) (by omega))).trans ((congrFun (F.2.2 356 (by decide)).1 _).trans (v_356_64 _ (by omega)))) ?_
        refine LW_ireturn (st := []) rfl rfl rfl (congrArg (fun z => some (Value.int z)) ?_)
        simp only [Int32.lt_iff_toInt_lt, Int32.le_iff_toInt_le, ← Int32.toInt_inj, (show (0 : Int32).toInt = 0 from rfl), (show (1 : Int32).toInt = 1 from rfl), (show (2 : Int32).toInt = 2 from rfl), (show (3 : Int32).toInt = 3 from rfl), (show (25 : Int32).toInt = 25 from rfl), (nI_toInt (n := n) (by omega))] at h1 h2 h3 h4 h5 h6
        repeat' split
        all_goals first | rfl | (exfalso; omega)
      by_cases h7 : b = (4 : Int32)
      · refine LW_eqv h7 ?_
        refine LW_tableIn (tgt := 96) rfl (by decide) (by decide) rfl rfl ?_
        refine X_aload_n rfl rfl rfl rfl ?_
        refine X_getR (a := 356) rfl rfl rfl ((congrFun F.1 355).trans s_355) rfl ((congrFun (F.2.1 355 (by decide)) 0).trans r_355_0) ?_
        refine X_bipush (v := (90 : Int32)) rfl rfl rfl ?_
        refine X_iload_n rfl rfl rfl rfl ?_
        refine X_iadd (v := (nI (90 + n))) rfl rfl (nI_add (90) (n)) ?_
        refine X_iald (v := (0 : Int32)) rfl rfl ((congrFun F.1 356).trans s_356) (vp_in_nI (by omega) (by decide)) ((congrArg (Gi _ 356) (nI_clamp (n := 90 + n) (by omega))).trans ((congrFun (F.2.2 356 (by decide)).1 _).trans (v_356_90 _ (by omega)))) ?_
        refine LW_ireturn (st := []) rfl rfl rfl (congrArg (fun z => some (Value.int z)) ?_)
        simp only [Int32.lt_iff_toInt_lt, Int32.le_iff_toInt_le, ← Int32.toInt_inj, (show (0 : Int32).toInt = 0 from rfl), (show (1 : Int32).toInt = 1 from rfl), (show (2 : Int32).toInt = 2 from rfl), (show (3 : Int32).toInt = 3 from rfl), (show (4 : Int32).toInt = 4 from rfl), (show (25 : Int32).toInt = 25 from rfl), (nI_toInt (n := n) (by omega))] at h1 h2 h3 h4 h5 h6 h7
        repeat' split
        all_goals first | rfl | (exfalso; omega)
      by_cases h8 : b = (5 : Int32)
      · refine LW_eqv h8 ?_
        refine LW_tableIn (tgt := 106) rfl (by decide) (by decide) rfl rfl ?_
        refine X_aload_n rfl rfl rfl rfl ?_
        refine X_iload_n rfl rfl rfl rfl ?_
        refine X_callV (as := [.int (nI (n))]) (st := []) rfl rfl rfl (by decide) rfl (Nat.le_of_ble_eq_true rfl) (by decide) (Nat.le_of_ble_eq_true rfl) rfl ((congrFun F.1 355).trans s_355) (by decide) ?_
        refine LW_ls (ls' := [some (.ref 355), some (.int (nI (n))), none, none]) rfl ?_
        refine X_iconst (v := (0 : Int32)) rfl rfl rfl ?_
        refine X_istore_n (i := 2) (ls' := [some (.ref 355), some (.int (nI (n))), some (.int (0 : Int32)), none]) rfl rfl rfl (Nat.le_of_ble_eq_true rfl) rfl ?_
        refine X_iconst (v := (0 : Int32)) rfl rfl rfl ?_
        refine X_istore_n (i := 3) (ls' := [some (.ref 355), some (.int (nI (n))), some (.int (0 : Int32)), some (.int (0 : Int32))]) rfl rfl rfl (Nat.le_of_ble_eq_true rfl) rfl ?_
        refine X_iload_n rfl rfl rfl rfl ?_
        refine X_aload_n rfl rfl rfl rfl ?_
        refine X_getR (a := 356) rfl rfl rfl ((congrFun F.1 355).trans s_355) rfl ((congrFun (F.2.1 355 (by decide)) 0).trans r_355_0) ?_
        refine X_iconst (v := (0 : Int32)) rfl rfl rfl ?_
        refine X_iald (v := (0 : Int32)) rfl rfl ((congrFun F.1 356).trans s_356) (vp_in_d rfl) ((congrFun (F.2.2 356 (by decide)).1 0).trans i_356_0) ?_
        refine X_icmp_ge (tgt := 40) rfl rfl rfl (fun _ => ?_) (fun q => absurd q (by decide))
        refine X_iload_n rfl rfl rfl rfl ?_
        refine LW_ireturn (st := []) rfl rfl rfl ?_
        refine LW_ireturn (st := []) rfl rfl rfl (congrArg (fun z => some (Value.int z)) ?_)
        simp only [Int32.lt_iff_toInt_lt, Int32.le_iff_toInt_le, ← Int32.toInt_inj, (show (0 : Int32).toInt = 0 from rfl), (show (1 : Int32).toInt = 1 from rfl), (show (2 : Int32).toInt = 2 from rfl), (show (3 : Int32).toInt = 3 from rfl), (show (4 : Int32).toInt = 4 from rfl), (show (5 : Int32).toInt = 5 from rfl), (show (25 : Int32).toInt = 25 from rfl), (nI_toInt (n := n) (by omega))] at h1 h2 h3 h4 h5 h6 h7 h8
        repeat' split
        all_goals first | rfl | (exfalso; omega)
      by_cases h9 : b = (6 : Int32)
      · refine LW_eqv h9 ?_
        refine LW_tableIn (tgt := 112) rfl (by decide) (by decide) rfl rfl ?_
        refine X_aload_n rfl rfl rfl rfl ?_
        refine X_iload_n rfl rfl rfl rfl ?_
        refine X_callV (as := [.int (nI (n))]) (st := []) rfl rfl rfl (by decide) rfl (Nat.le_of_ble_eq_true rfl) (by decide) (Nat.le_of_ble_eq_true rfl) rfl ((congrFun F.1 355).trans s_355) (by decide) ?_
        refine LW_ls (ls' := [some (.ref 355), some (.int (nI (n))), none, none, none]) rfl ?_
        refine X_aload_n rfl rfl rfl rfl ?_
        refine X_iload_n rfl rfl rfl rfl ?_
        refine X_callV (as := [.int (nI (n))]) (st := []) rfl rfl rfl (by decide) rfl (Nat.le_of_ble_eq_true rfl) (by decide) (Nat.le_of_ble_eq_true rfl) rfl ((congrFun F.1 355).trans s_355) (by decide) ?_
        refine LW_ls (ls' := [some (.ref 355), some (.int (nI (n)))]) rfl ?_
        refine X_aload_n rfl rfl rfl rfl ?_
        refine X_getR (a := 356) rfl rfl rfl ((congrFun F.1 355).trans s_355) rfl ((congrFun (F.2.1 355 (by decide)) 0).trans r_355_0) ?_
        refine X_bipush (v := (7 : Int32)) rfl rfl rfl ?_
        refine X_iald (v := (0 : Int32)) rfl rfl ((congrFun F.1 356).trans s_356) (vp_in_d rfl) ((congrFun (F.2.2 356 (by decide)).1 7).trans i_356_7) ?_
        refine X_iload_n rfl rfl rfl rfl ?_
        refine X_callS (as := [.int (0 : Int32), .int (nI (n))]) (st := []) rfl rfl rfl (by decide) rfl (Nat.le_of_ble_eq_true rfl) (by decide) (Nat.le_of_ble_eq_true rfl) rfl ?_
        refine LW_ls (ls' := [some (.int (0 : Int32)), some (.int (nI (n)))]) rfl ?_
        refine X_iload_n rfl rfl rfl rfl ?_
        refine X_iload_n rfl rfl rfl rfl ?_
        refine X_ishr (v := (0 : Int32)) rfl rfl (by simp) ?_
        refine X_iconst (v := (1 : Int32)) rfl rfl rfl ?_
        refine X_iand (v := (0 : Int32)) rfl rfl rfl ?_
        refine X_iconst (v := (1 : Int32)) rfl rfl rfl ?_
        refine X_icmp_ne (tgt := 13) rfl rfl rfl (fun _ => ?_) (fun q => absurd q (by decide))
        refine X_iconst (v := (0 : Int32)) rfl rfl rfl ?_
        refine LW_ireturn (st := []) rfl rfl rfl ?_
        refine LW_ireturn (st := []) rfl rfl rfl ?_
        refine X_if_eq (tgt := 12) rfl rfl rfl (fun _ => ?_) (fun q => absurd q (by decide))
        refine X_iconst (v := (0 : Int32)) rfl rfl rfl ?_
        refine X_istore_n (i := 2) (ls' := [some (.ref 355), some (.int (nI (n))), some (.int (0 : Int32)), none, none]) rfl rfl rfl (Nat.le_of_ble_eq_true rfl) rfl ?_
        refine X_aload_n rfl rfl rfl rfl ?_
        refine X_iload_n rfl rfl rfl rfl ?_
        refine X_callV (as := [.int (0 : Int32)]) (st := []) rfl rfl rfl (by decide) rfl (Nat.le_of_ble_eq_true rfl) (by decide) (Nat.le_of_ble_eq_true rfl) rfl ((congrFun F.1 355).trans s_355) (by decide) ?_
        refine LW_ls (ls' := [some (.ref 355), some (.int (0 : Int32)), none]) rfl ?_
        refine X_iconst (v := (0 : Int32)) rfl rfl rfl ?_
        refine X_istore_n (i := 2) (ls' := [some (.ref 355), some (.int (0 : Int32)), some (.int (0 : Int32))]) rfl rfl rfl (Nat.le_of_ble_eq_true rfl) rfl ?_
        refine X_aload_n rfl rfl rfl rfl ?_
        refine X_getR (a := 356) rfl rfl rfl ((congrFun F.1 355).trans s_355) rfl ((congrFun (F.2.1 355 (by decide)) 0).trans r_355_0) ?_
        refine X_iconst (v := (5 : Int32)) rfl rfl rfl ?_
        refine X_iald (v := (-1 : Int32)) rfl rfl ((congrFun F.1 356).trans s_356) (vp_in_d rfl) ((congrFun (F.2.2 356 (by decide)).1 5).trans i_356_5) ?_
        refine X_if_lt (tgt := 64) rfl rfl rfl (fun _ => ?_) (fun q => absurd q (by decide))
        refine X_iconst (v := (-1 : Int32)) rfl rfl rfl ?_
        refine LW_ireturn (st := []) rfl rfl rfl ?_
        refine X_istore_n (i := 3) (ls' := [some (.ref 355), some (.int (nI (n))), some (.int (0 : Int32)), some (.int (-1 : Int32)), none]) rfl rfl rfl (Nat.le_of_ble_eq_true rfl) rfl ?_
        refine X_aload_n rfl rfl rfl rfl ?_
        refine X_getR (a := 356) rfl rfl rfl ((congrFun F.1 355).trans s_355) rfl ((congrFun (F.2.1 355 (by decide)) 0).trans r_355_0) ?_
        refine X_bipush (v := (90 : Int32)) rfl rfl rfl ?_
        refine X_iload_n rfl rfl rfl rfl ?_
        refine X_iadd (v := (nI (90 + n))) rfl rfl (nI_add (90) (n)) ?_
        refine X_iald (v := (0 : Int32)) rfl rfl ((congrFun F.1 356).trans s_356) (vp_in_nI (by omega) (by decide)) ((congrArg (Gi _ 356) (nI_clamp (n := 90 + n) (by omega))).trans ((congrFun (F.2.2 356 (by decide)).1 _).trans (v_356_90 _ (by omega)))) ?_
        refine X_aload_n rfl rfl rfl rfl ?_
        refine X_getR (a := 356) rfl rfl rfl ((congrFun F.1 355).trans s_355) rfl ((congrFun (F.2.1 355 (by decide)) 0).trans r_355_0) ?_
        refine X_bipush (v := (7 : Int32)) rfl rfl rfl ?_
        refine X_iald (v := (0 : Int32)) rfl rfl ((congrFun F.1 356).trans s_356) (vp_in_d rfl) ((congrFun (F.2.2 356 (by decide)).1 7).trans i_356_7) ?_
        refine X_iand (v := (0 : Int32)) rfl rfl rfl ?_
        refine Y_callS (as := [.int (0 : Int32)]) (st := []) rfl rfl rfl (by decide) rfl (Nat.le_of_ble_eq_true rfl) (by decide) (Nat.le_of_ble_eq_true rfl) rfl (r_bits (n := 0) (by decide)) ?_
        rintro _ _ ⟨rfl, rfl⟩
        refine LW_eqv (v := (0 : Int32)) (by decide) ?_
        refine X_istore (i := 4) (ls' := [some (.ref 355), some (.int (nI (n))), some (.int (0 : Int32)), some (.int (-1 : Int32)), some (.int (0 : Int32))]) rfl rfl (Nat.le_of_ble_eq_true rfl) rfl ?_
        refine X_iload_n rfl rfl rfl rfl ?_
        refine X_if_ge (tgt := 96) rfl rfl rfl (fun q => absurd q (by decide)) (fun _ => ?_)
        refine X_iload_n rfl rfl rfl rfl ?_
        refine X_iconst (v := (1 : Int32)) rfl rfl rfl ?_
        refine X_icmp_ne (tgt := 73) rfl rfl rfl (fun _ => ?_) (fun q => absurd q (by decide))
        refine X_iload rfl rfl rfl ?_
        refine X_if_le (tgt := 94) rfl rfl rfl (fun _ => ?_) (fun q => absurd q (by decide))
        refine X_iconst (v := (0 : Int32)) rfl rfl rfl ?_
        refine LW_ireturn (st := []) rfl rfl rfl ?_
        refine X_if_eq (tgt := 124) rfl rfl rfl (fun _ => ?_) (fun q => absurd q (by decide))
        refine X_iconst (v := (0 : Int32)) rfl rfl rfl ?_
        refine LW_ireturn (st := []) rfl rfl rfl (congrArg (fun z => some (Value.int z)) ?_)
        simp only [Int32.lt_iff_toInt_lt, Int32.le_iff_toInt_le, ← Int32.toInt_inj, (show (0 : Int32).toInt = 0 from rfl), (show (1 : Int32).toInt = 1 from rfl), (show (2 : Int32).toInt = 2 from rfl), (show (3 : Int32).toInt = 3 from rfl), (show (4 : Int32).toInt = 4 from rfl), (show (5 : Int32).toInt = 5 from rfl), (show (6 : Int32).toInt = 6 from rfl), (show (25 : Int32).toInt = 25 from rfl), (nI_toInt (n := n) (by omega))] at h1 h2 h3 h4 h5 h6 h7 h8 h9
        repeat' split
        all_goals first | rfl | (exfalso; omega)
      refine LW_tableOut (tgt := 126) rfl (by simp only [Int32.lt_iff_toInt_lt, Int32.le_iff_toInt_le, ← Int32.toInt_inj, (show (0 : Int32).toInt = 0 from rfl), (show (1 : Int32).toInt = 1 from rfl), (show (2 : Int32).toInt = 2 from rfl), (show (3 : Int32).toInt = 3 from rfl), (show (4 : Int32).toInt = 4 from rfl), (show (5 : Int32).toInt = 5 from rfl), (show (6 : Int32).toInt = 6 from rfl), (show (25 : Int32).toInt = 25 from rfl), (nI_toInt (n := n) (by omega))] at h1 h2 h3 h4 h5 h6 h7 h8 h9; omega) rfl ?_
      refine X_bipush (v := (-2 : Int32)) rfl rfl rfl ?_
      refine LW_ireturn (st := []) rfl rfl rfl (congrArg (fun z => some (Value.int z)) ?_)
      simp only [Int32.lt_iff_toInt_lt, Int32.le_iff_toInt_le, ← Int32.toInt_inj, (show (0 : Int32).toInt = 0 from rfl), (show (1 : Int32).toInt = 1 from rfl), (show (2 : Int32).toInt = 2 from rfl), (show (3 : Int32).toInt = 3 from rfl), (show (4 : Int32).toInt = 4 from rfl), (show (5 : Int32).toInt = 5 from rfl), (show (6 : Int32).toInt = 6 from rfl), (show (25 : Int32).toInt = 25 from rfl), (nI_toInt (n := n) (by omega))] at h1 h2 h3 h4 h5 h6 h7 h8 h9
      repeat' split
      all_goals first | rfl | (exfalso; omega)
set_option maxRecDepth 10000 in
set_option maxHeartbeats 4000000 in
theorem r_of_out {g : LH} (F : Fr g) (a b : Int32) (hr : ¬ (0 ≤ a.toInt ∧ a.toInt ≤ 25)) : LW 270 30 0 0 0 (lEnt (mL 270) [.ref 355, .int a, .int b]) [] g (fun v _ => v = some (.int (-2))) := by
  refine LW_ls (ls' := [some (.ref 355), some (.int a), some (.int b)]) rfl ?_
  refine X_iload_n rfl rfl rfl rfl ?_
  refine X_callS (as := [.int a]) (st := []) rfl rfl rfl (by decide) rfl (Nat.le_of_ble_eq_true rfl) (by decide) (Nat.le_of_ble_eq_true rfl) rfl ?_
  refine LW_ls (ls' := [some (.int a)]) rfl ?_
  refine X_iload_n rfl rfl rfl rfl ?_
  refine X_iconst (v := (0 : Int32)) rfl rfl rfl ?_
  refine X_bipush (v := (25 : Int32)) rfl rfl rfl ?_
  refine X_callS (as := [.int a, .int (0 : Int32), .int (25 : Int32)]) (st := []) rfl rfl rfl (by decide) rfl (Nat.le_of_ble_eq_true rfl) (by decide) (Nat.le_of_ble_eq_true rfl) rfl ?_
  refine LW_ls (ls' := [some (.int a), some (.int (0 : Int32)), some (.int (25 : Int32))]) rfl ?_
  refine X_iload_n rfl rfl rfl rfl ?_
  refine X_iload_n rfl rfl rfl rfl ?_
  refine X_icmp_lt (tgt := 14) rfl rfl rfl (fun h1 => ?_) (fun h1 => ?_)
  · refine X_iconst (v := (0 : Int32)) rfl rfl rfl ?_
    refine LW_ireturn (st := []) rfl rfl rfl ?_
    refine LW_ireturn (st := []) rfl rfl rfl ?_
    refine X_if_ne (tgt := 10) rfl rfl rfl (fun q => absurd q (by decide)) (fun _ => ?_)
    refine X_bipush (v := (-2 : Int32)) rfl rfl rfl ?_
    exact LW_ireturn (st := []) rfl rfl rfl rfl
  · refine X_iload_n rfl rfl rfl rfl ?_
    refine X_iload_n rfl rfl rfl rfl ?_
    refine X_icmp_gt (tgt := 14) rfl rfl rfl (fun h2 => ?_) (fun h2 => ?_)
    · refine X_iconst (v := (0 : Int32)) rfl rfl rfl ?_
      refine LW_ireturn (st := []) rfl rfl rfl ?_
      refine LW_ireturn (st := []) rfl rfl rfl ?_
      refine X_if_ne (tgt := 10) rfl rfl rfl (fun q => absurd q (by decide)) (fun _ => ?_)
      refine X_bipush (v := (-2 : Int32)) rfl rfl rfl ?_
      exact LW_ireturn (st := []) rfl rfl rfl rfl
    · refine X_iconst (v := (1 : Int32)) rfl rfl rfl ?_
      refine LW_goto (tgt := 15) rfl rfl ?_
      refine LW_ireturn (st := []) rfl rfl rfl ?_
      refine LW_ireturn (st := []) rfl rfl rfl ?_
      refine X_if_ne (tgt := 10) rfl rfl rfl (fun _ => ?_) (fun q => absurd q (by decide))
      exfalso
      simp only [Int32.lt_iff_toInt_lt, Int32.le_iff_toInt_le, ← Int32.toInt_inj, (show (0 : Int32).toInt = 0 from rfl), (show (25 : Int32).toInt = 25 from rfl)] at h1 h2
      omega
set_option maxRecDepth 10000 in
set_option maxHeartbeats 4000000 in
theorem r_about_0 {g : LH} (F : Fr g)  : LW 318 30 0 0 0 (lEnt (mL 318) [.ref 355, .int (0 : Int32)]) [] g (fun v _ => v = some (.int (0))) := by
  refine LW_ls (ls' := [some (.ref 355), some (.int (0 : Int32))]) rfl ?_
  refine X_iload_n rfl rfl rfl rfl ?_
  refine X_iconst (v := (0 : Int32)) rfl rfl rfl ?_
  refine X_bipush (v := (9 : Int32)) rfl rfl rfl ?_
  refine X_callS (as := [.int (0 : Int32), .int (0 : Int32), .int (9 : Int32)]) (st := []) rfl rfl rfl (by decide) rfl (Nat.le_of_ble_eq_true rfl) (by decide) (Nat.le_of_ble_eq_true rfl) rfl ?_
  refine LW_ls (ls' := [some (.int (0 : Int32)), some (.int (0 : Int32)), some (.int (9 : Int32))]) rfl ?_
  refine X_iload_n rfl rfl rfl rfl ?_
  refine X_iload_n rfl rfl rfl rfl ?_
  refine X_icmp_lt (tgt := 14) rfl rfl rfl (fun q => absurd q (by decide)) (fun _ => ?_)
  refine X_iload_n rfl rfl rfl rfl ?_
  refine X_iload_n rfl rfl rfl rfl ?_
  refine X_icmp_gt (tgt := 14) rfl rfl rfl (fun q => absurd q (by decide)) (fun _ => ?_)
  refine X_iconst (v := (1 : Int32)) rfl rfl rfl ?_
  refine LW_goto (tgt := 15) rfl rfl ?_
  refine LW_ireturn (st := []) rfl rfl rfl ?_
  refine X_if_eq (tgt := 19) rfl rfl rfl (fun q => absurd q (by decide)) (fun _ => ?_)
  refine X_aload_n rfl rfl rfl rfl ?_
  refine X_getR (a := 356) rfl rfl rfl ((congrFun F.1 355).trans s_355) rfl ((congrFun (F.2.1 355 (by decide)) 0).trans r_355_0) ?_
  refine X_iload_n rfl rfl rfl rfl ?_
  refine X_iald (v := (0 : Int32)) rfl rfl ((congrFun F.1 356).trans s_356) (vp_in_d rfl) ((congrFun (F.2.2 356 (by decide)).1 0).trans i_356_0) ?_
  refine LW_goto (tgt := 53) rfl rfl ?_
  exact LW_ireturn (st := []) rfl rfl rfl rfl
set_option maxRecDepth 10000 in
set_option maxHeartbeats 4000000 in
theorem r_about_1 {g : LH} (F : Fr g)  : LW 318 30 0 0 0 (lEnt (mL 318) [.ref 355, .int (1 : Int32)]) [] g (fun v _ => v = some (.int (0))) := by
  refine LW_ls (ls' := [some (.ref 355), some (.int (1 : Int32))]) rfl ?_
  refine X_iload_n rfl rfl rfl rfl ?_
  refine X_iconst (v := (0 : Int32)) rfl rfl rfl ?_
  refine X_bipush (v := (9 : Int32)) rfl rfl rfl ?_
  refine X_callS (as := [.int (1 : Int32), .int (0 : Int32), .int (9 : Int32)]) (st := []) rfl rfl rfl (by decide) rfl (Nat.le_of_ble_eq_true rfl) (by decide) (Nat.le_of_ble_eq_true rfl) rfl ?_
  refine LW_ls (ls' := [some (.int (1 : Int32)), some (.int (0 : Int32)), some (.int (9 : Int32))]) rfl ?_
  refine X_iload_n rfl rfl rfl rfl ?_
  refine X_iload_n rfl rfl rfl rfl ?_
  refine X_icmp_lt (tgt := 14) rfl rfl rfl (fun q => absurd q (by decide)) (fun _ => ?_)
  refine X_iload_n rfl rfl rfl rfl ?_
  refine X_iload_n rfl rfl rfl rfl ?_
  refine X_icmp_gt (tgt := 14) rfl rfl rfl (fun q => absurd q (by decide)) (fun _ => ?_)
  refine X_iconst (v := (1 : Int32)) rfl rfl rfl ?_
  refine LW_goto (tgt := 15) rfl rfl ?_
  refine LW_ireturn (st := []) rfl rfl rfl ?_
  refine X_if_eq (tgt := 19) rfl rfl rfl (fun q => absurd q (by decide)) (fun _ => ?_)
  refine X_aload_n rfl rfl rfl rfl ?_
  refine X_getR (a := 356) rfl rfl rfl ((congrFun F.1 355).trans s_355) rfl ((congrFun (F.2.1 355 (by decide)) 0).trans r_355_0) ?_
  refine X_iload_n rfl rfl rfl rfl ?_
  refine X_iald (v := (0 : Int32)) rfl rfl ((congrFun F.1 356).trans s_356) (vp_in_d rfl) ((congrFun (F.2.2 356 (by decide)).1 1).trans i_356_1) ?_
  refine LW_goto (tgt := 53) rfl rfl ?_
  exact LW_ireturn (st := []) rfl rfl rfl rfl
set_option maxRecDepth 10000 in
set_option maxHeartbeats 4000000 in
theorem r_about_2 {g : LH} (F : Fr g)  : LW 318 30 0 0 0 (lEnt (mL 318) [.ref 355, .int (2 : Int32)]) [] g (fun v _ => v = some (.int (0))) := by
  refine LW_ls (ls' := [some (.ref 355), some (.int (2 : Int32))]) rfl ?_
  refine X_iload_n rfl rfl rfl rfl ?_
  refine X_iconst (v := (0 : Int32)) rfl rfl rfl ?_
  refine X_bipush (v := (9 : Int32)) rfl rfl rfl ?_
  refine X_callS (as := [.int (2 : Int32), .int (0 : Int32), .int (9 : Int32)]) (st := []) rfl rfl rfl (by decide) rfl (Nat.le_of_ble_eq_true rfl) (by decide) (Nat.le_of_ble_eq_true rfl) rfl ?_
  refine LW_ls (ls' := [some (.int (2 : Int32)), some (.int (0 : Int32)), some (.int (9 : Int32))]) rfl ?_
  refine X_iload_n rfl rfl rfl rfl ?_
  refine X_iload_n rfl rfl rfl rfl ?_
  refine X_icmp_lt (tgt := 14) rfl rfl rfl (fun q => absurd q (by decide)) (fun _ => ?_)
  refine X_iload_n rfl rfl rfl rfl ?_
  refine X_iload_n rfl rfl rfl rfl ?_
  refine X_icmp_gt (tgt := 14) rfl rfl rfl (fun q => absurd q (by decide)) (fun _ => ?_)
  refine X_iconst (v := (1 : Int32)) rfl rfl rfl ?_
  refine LW_goto (tgt := 15) rfl rfl ?_
  refine LW_ireturn (st := []) rfl rfl rfl ?_
  refine X_if_eq (tgt := 19) rfl rfl rfl (fun q => absurd q (by decide)) (fun _ => ?_)
  refine X_aload_n rfl rfl rfl rfl ?_
  refine X_getR (a := 356) rfl rfl rfl ((congrFun F.1 355).trans s_355) rfl ((congrFun (F.2.1 355 (by decide)) 0).trans r_355_0) ?_
  refine X_iload_n rfl rfl rfl rfl ?_
  refine X_iald (v := (0 : Int32)) rfl rfl ((congrFun F.1 356).trans s_356) (vp_in_d rfl) ((congrFun (F.2.2 356 (by decide)).1 2).trans i_356_2) ?_
  refine LW_goto (tgt := 53) rfl rfl ?_
  exact LW_ireturn (st := []) rfl rfl rfl rfl
set_option maxRecDepth 10000 in
set_option maxHeartbeats 4000000 in
theorem r_about_3 {g : LH} (F : Fr g)  : LW 318 30 0 0 0 (lEnt (mL 318) [.ref 355, .int (3 : Int32)]) [] g (fun v _ => v = some (.int (17))) := by
  refine LW_ls (ls' := [some (.ref 355), some (.int (3 : Int32))]) rfl ?_
  refine X_iload_n rfl rfl rfl rfl ?_
  refine X_iconst (v := (0 : Int32)) rfl rfl rfl ?_
  refine X_bipush (v := (9 : Int32)) rfl rfl rfl ?_
  refine X_callS (as := [.int (3 : Int32), .int (0 : Int32), .int (9 : Int32)]) (st := []) rfl rfl rfl (by decide) rfl (Nat.le_of_ble_eq_true rfl) (by decide) (Nat.le_of_ble_eq_true rfl) rfl ?_
  refine LW_ls (ls' := [some (.int (3 : Int32)), some (.int (0 : Int32)), some (.int (9 : Int32))]) rfl ?_
  refine X_iload_n rfl rfl rfl rfl ?_
  refine X_iload_n rfl rfl rfl rfl ?_
  refine X_icmp_lt (tgt := 14) rfl rfl rfl (fun q => absurd q (by decide)) (fun _ => ?_)
  refine X_iload_n rfl rfl rfl rfl ?_
  refine X_iload_n rfl rfl rfl rfl ?_
  refine X_icmp_gt (tgt := 14) rfl rfl rfl (fun q => absurd q (by decide)) (fun _ => ?_)
  refine X_iconst (v := (1 : Int32)) rfl rfl rfl ?_
  refine LW_goto (tgt := 15) rfl rfl ?_
  refine LW_ireturn (st := []) rfl rfl rfl ?_
  refine X_if_eq (tgt := 19) rfl rfl rfl (fun q => absurd q (by decide)) (fun _ => ?_)
  refine X_aload_n rfl rfl rfl rfl ?_
  refine X_getR (a := 356) rfl rfl rfl ((congrFun F.1 355).trans s_355) rfl ((congrFun (F.2.1 355 (by decide)) 0).trans r_355_0) ?_
  refine X_iload_n rfl rfl rfl rfl ?_
  refine X_iald (v := (17 : Int32)) rfl rfl ((congrFun F.1 356).trans s_356) (vp_in_d rfl) ((congrFun (F.2.2 356 (by decide)).1 3).trans i_356_3) ?_
  refine LW_goto (tgt := 53) rfl rfl ?_
  exact LW_ireturn (st := []) rfl rfl rfl rfl
set_option maxRecDepth 10000 in
set_option maxHeartbeats 4000000 in
theorem r_about_4 {g : LH} (F : Fr g)  : LW 318 30 0 0 0 (lEnt (mL 318) [.ref 355, .int (4 : Int32)]) [] g (fun v _ => v = some (.int (0))) := by
  refine LW_ls (ls' := [some (.ref 355), some (.int (4 : Int32))]) rfl ?_
  refine X_iload_n rfl rfl rfl rfl ?_
  refine X_iconst (v := (0 : Int32)) rfl rfl rfl ?_
  refine X_bipush (v := (9 : Int32)) rfl rfl rfl ?_
  refine X_callS (as := [.int (4 : Int32), .int (0 : Int32), .int (9 : Int32)]) (st := []) rfl rfl rfl (by decide) rfl (Nat.le_of_ble_eq_true rfl) (by decide) (Nat.le_of_ble_eq_true rfl) rfl ?_
  refine LW_ls (ls' := [some (.int (4 : Int32)), some (.int (0 : Int32)), some (.int (9 : Int32))]) rfl ?_
  refine X_iload_n rfl rfl rfl rfl ?_
  refine X_iload_n rfl rfl rfl rfl ?_
  refine X_icmp_lt (tgt := 14) rfl rfl rfl (fun q => absurd q (by decide)) (fun _ => ?_)
  refine X_iload_n rfl rfl rfl rfl ?_
  refine X_iload_n rfl rfl rfl rfl ?_
  refine X_icmp_gt (tgt := 14) rfl rfl rfl (fun q => absurd q (by decide)) (fun _ => ?_)
  refine X_iconst (v := (1 : Int32)) rfl rfl rfl ?_
  refine LW_goto (tgt := 15) rfl rfl ?_
  refine LW_ireturn (st := []) rfl rfl rfl ?_
  refine X_if_eq (tgt := 19) rfl rfl rfl (fun q => absurd q (by decide)) (fun _ => ?_)
  refine X_aload_n rfl rfl rfl rfl ?_
  refine X_getR (a := 356) rfl rfl rfl ((congrFun F.1 355).trans s_355) rfl ((congrFun (F.2.1 355 (by decide)) 0).trans r_355_0) ?_
  refine X_iload_n rfl rfl rfl rfl ?_
  refine X_iald (v := (0 : Int32)) rfl rfl ((congrFun F.1 356).trans s_356) (vp_in_d rfl) ((congrFun (F.2.2 356 (by decide)).1 4).trans i_356_4) ?_
  refine LW_goto (tgt := 53) rfl rfl ?_
  exact LW_ireturn (st := []) rfl rfl rfl rfl
set_option maxRecDepth 10000 in
set_option maxHeartbeats 4000000 in
theorem r_about_5 {g : LH} (F : Fr g)  : LW 318 30 0 0 0 (lEnt (mL 318) [.ref 355, .int (5 : Int32)]) [] g (fun v _ => v = some (.int (-1))) := by
  refine LW_ls (ls' := [some (.ref 355), some (.int (5 : Int32))]) rfl ?_
  refine X_iload_n rfl rfl rfl rfl ?_
  refine X_iconst (v := (0 : Int32)) rfl rfl rfl ?_
  refine X_bipush (v := (9 : Int32)) rfl rfl rfl ?_
  refine X_callS (as := [.int (5 : Int32), .int (0 : Int32), .int (9 : Int32)]) (st := []) rfl rfl rfl (by decide) rfl (Nat.le_of_ble_eq_true rfl) (by decide) (Nat.le_of_ble_eq_true rfl) rfl ?_
  refine LW_ls (ls' := [some (.int (5 : Int32)), some (.int (0 : Int32)), some (.int (9 : Int32))]) rfl ?_
  refine X_iload_n rfl rfl rfl rfl ?_
  refine X_iload_n rfl rfl rfl rfl ?_
  refine X_icmp_lt (tgt := 14) rfl rfl rfl (fun q => absurd q (by decide)) (fun _ => ?_)
  refine X_iload_n rfl rfl rfl rfl ?_
  refine X_iload_n rfl rfl rfl rfl ?_
  refine X_icmp_gt (tgt := 14) rfl rfl rfl (fun q => absurd q (by decide)) (fun _ => ?_)
  refine X_iconst (v := (1 : Int32)) rfl rfl rfl ?_
  refine LW_goto (tgt := 15) rfl rfl ?_
  refine LW_ireturn (st := []) rfl rfl rfl ?_
  refine X_if_eq (tgt := 19) rfl rfl rfl (fun q => absurd q (by decide)) (fun _ => ?_)
  refine X_aload_n rfl rfl rfl rfl ?_
  refine X_getR (a := 356) rfl rfl rfl ((congrFun F.1 355).trans s_355) rfl ((congrFun (F.2.1 355 (by decide)) 0).trans r_355_0) ?_
  refine X_iload_n rfl rfl rfl rfl ?_
  refine X_iald (v := (-1 : Int32)) rfl rfl ((congrFun F.1 356).trans s_356) (vp_in_d rfl) ((congrFun (F.2.2 356 (by decide)).1 5).trans i_356_5) ?_
  refine LW_goto (tgt := 53) rfl rfl ?_
  exact LW_ireturn (st := []) rfl rfl rfl rfl
set_option maxRecDepth 10000 in
set_option maxHeartbeats 4000000 in
theorem r_about_6 {g : LH} (F : Fr g)  : LW 318 30 0 0 0 (lEnt (mL 318) [.ref 355, .int (6 : Int32)]) [] g (fun v _ => v = some (.int (0))) := by
  refine LW_ls (ls' := [some (.ref 355), some (.int (6 : Int32))]) rfl ?_
  refine X_iload_n rfl rfl rfl rfl ?_
  refine X_iconst (v := (0 : Int32)) rfl rfl rfl ?_
  refine X_bipush (v := (9 : Int32)) rfl rfl rfl ?_
  refine X_callS (as := [.int (6 : Int32), .int (0 : Int32), .int (9 : Int32)]) (st := []) rfl rfl rfl (by decide) rfl (Nat.le_of_ble_eq_true rfl) (by decide) (Nat.le_of_ble_eq_true rfl) rfl ?_
  refine LW_ls (ls' := [some (.int (6 : Int32)), some (.int (0 : Int32)), some (.int (9 : Int32))]) rfl ?_
  refine X_iload_n rfl rfl rfl rfl ?_
  refine X_iload_n rfl rfl rfl rfl ?_
  refine X_icmp_lt (tgt := 14) rfl rfl rfl (fun q => absurd q (by decide)) (fun _ => ?_)
  refine X_iload_n rfl rfl rfl rfl ?_
  refine X_iload_n rfl rfl rfl rfl ?_
  refine X_icmp_gt (tgt := 14) rfl rfl rfl (fun q => absurd q (by decide)) (fun _ => ?_)
  refine X_iconst (v := (1 : Int32)) rfl rfl rfl ?_
  refine LW_goto (tgt := 15) rfl rfl ?_
  refine LW_ireturn (st := []) rfl rfl rfl ?_
  refine X_if_eq (tgt := 19) rfl rfl rfl (fun q => absurd q (by decide)) (fun _ => ?_)
  refine X_aload_n rfl rfl rfl rfl ?_
  refine X_getR (a := 356) rfl rfl rfl ((congrFun F.1 355).trans s_355) rfl ((congrFun (F.2.1 355 (by decide)) 0).trans r_355_0) ?_
  refine X_iload_n rfl rfl rfl rfl ?_
  refine X_iald (v := (0 : Int32)) rfl rfl ((congrFun F.1 356).trans s_356) (vp_in_d rfl) ((congrFun (F.2.2 356 (by decide)).1 6).trans i_356_6) ?_
  refine LW_goto (tgt := 53) rfl rfl ?_
  exact LW_ireturn (st := []) rfl rfl rfl rfl
set_option maxRecDepth 10000 in
set_option maxHeartbeats 4000000 in
theorem r_about_7 {g : LH} (F : Fr g)  : LW 318 30 0 0 0 (lEnt (mL 318) [.ref 355, .int (7 : Int32)]) [] g (fun v _ => v = some (.int (0))) := by
  refine LW_ls (ls' := [some (.ref 355), some (.int (7 : Int32))]) rfl ?_
  refine X_iload_n rfl rfl rfl rfl ?_
  refine X_iconst (v := (0 : Int32)) rfl rfl rfl ?_
  refine X_bipush (v := (9 : Int32)) rfl rfl rfl ?_
  refine X_callS (as := [.int (7 : Int32), .int (0 : Int32), .int (9 : Int32)]) (st := []) rfl rfl rfl (by decide) rfl (Nat.le_of_ble_eq_true rfl) (by decide) (Nat.le_of_ble_eq_true rfl) rfl ?_
  refine LW_ls (ls' := [some (.int (7 : Int32)), some (.int (0 : Int32)), some (.int (9 : Int32))]) rfl ?_
  refine X_iload_n rfl rfl rfl rfl ?_
  refine X_iload_n rfl rfl rfl rfl ?_
  refine X_icmp_lt (tgt := 14) rfl rfl rfl (fun q => absurd q (by decide)) (fun _ => ?_)
  refine X_iload_n rfl rfl rfl rfl ?_
  refine X_iload_n rfl rfl rfl rfl ?_
  refine X_icmp_gt (tgt := 14) rfl rfl rfl (fun q => absurd q (by decide)) (fun _ => ?_)
  refine X_iconst (v := (1 : Int32)) rfl rfl rfl ?_
  refine LW_goto (tgt := 15) rfl rfl ?_
  refine LW_ireturn (st := []) rfl rfl rfl ?_
  refine X_if_eq (tgt := 19) rfl rfl rfl (fun q => absurd q (by decide)) (fun _ => ?_)
  refine X_aload_n rfl rfl rfl rfl ?_
  refine X_getR (a := 356) rfl rfl rfl ((congrFun F.1 355).trans s_355) rfl ((congrFun (F.2.1 355 (by decide)) 0).trans r_355_0) ?_
  refine X_iload_n rfl rfl rfl rfl ?_
  refine X_iald (v := (0 : Int32)) rfl rfl ((congrFun F.1 356).trans s_356) (vp_in_d rfl) ((congrFun (F.2.2 356 (by decide)).1 7).trans i_356_7) ?_
  refine LW_goto (tgt := 53) rfl rfl ?_
  exact LW_ireturn (st := []) rfl rfl rfl rfl
set_option maxRecDepth 10000 in
set_option maxHeartbeats 4000000 in
theorem r_about_8 {g : LH} (F : Fr g)  : LW 318 30 0 0 0 (lEnt (mL 318) [.ref 355, .int (8 : Int32)]) [] g (fun v _ => v = some (.int (0))) := by
  refine LW_ls (ls' := [some (.ref 355), some (.int (8 : Int32))]) rfl ?_
  refine X_iload_n rfl rfl rfl rfl ?_
  refine X_iconst (v := (0 : Int32)) rfl rfl rfl ?_
  refine X_bipush (v := (9 : Int32)) rfl rfl rfl ?_
  refine X_callS (as := [.int (8 : Int32), .int (0 : Int32), .int (9 : Int32)]) (st := []) rfl rfl rfl (by decide) rfl (Nat.le_of_ble_eq_true rfl) (by decide) (Nat.le_of_ble_eq_true rfl) rfl ?_
  refine LW_ls (ls' := [some (.int (8 : Int32)), some (.int (0 : Int32)), some (.int (9 : Int32))]) rfl ?_
  refine X_iload_n rfl rfl rfl rfl ?_
  refine X_iload_n rfl rfl rfl rfl ?_
  refine X_icmp_lt (tgt := 14) rfl rfl rfl (fun q => absurd q (by decide)) (fun _ => ?_)
  refine X_iload_n rfl rfl rfl rfl ?_
  refine X_iload_n rfl rfl rfl rfl ?_
  refine X_icmp_gt (tgt := 14) rfl rfl rfl (fun q => absurd q (by decide)) (fun _ => ?_)
  refine X_iconst (v := (1 : Int32)) rfl rfl rfl ?_
  refine LW_goto (tgt := 15) rfl rfl ?_
  refine LW_ireturn (st := []) rfl rfl rfl ?_
  refine X_if_eq (tgt := 19) rfl rfl rfl (fun q => absurd q (by decide)) (fun _ => ?_)
  refine X_aload_n rfl rfl rfl rfl ?_
  refine X_getR (a := 356) rfl rfl rfl ((congrFun F.1 355).trans s_355) rfl ((congrFun (F.2.1 355 (by decide)) 0).trans r_355_0) ?_
  refine X_iload_n rfl rfl rfl rfl ?_
  refine X_iald (v := (0 : Int32)) rfl rfl ((congrFun F.1 356).trans s_356) (vp_in_d rfl) ((congrFun (F.2.2 356 (by decide)).1 8).trans i_356_8) ?_
  refine LW_goto (tgt := 53) rfl rfl ?_
  exact LW_ireturn (st := []) rfl rfl rfl rfl
set_option maxRecDepth 10000 in
set_option maxHeartbeats 4000000 in
theorem r_about_9 {g : LH} (F : Fr g)  : LW 318 30 0 0 0 (lEnt (mL 318) [.ref 355, .int (9 : Int32)]) [] g (fun v _ => v = some (.int (0))) := by
  refine LW_ls (ls' := [some (.ref 355), some (.int (9 : Int32))]) rfl ?_
  refine X_iload_n rfl rfl rfl rfl ?_
  refine X_iconst (v := (0 : Int32)) rfl rfl rfl ?_
  refine X_bipush (v := (9 : Int32)) rfl rfl rfl ?_
  refine X_callS (as := [.int (9 : Int32), .int (0 : Int32), .int (9 : Int32)]) (st := []) rfl rfl rfl (by decide) rfl (Nat.le_of_ble_eq_true rfl) (by decide) (Nat.le_of_ble_eq_true rfl) rfl ?_
  refine LW_ls (ls' := [some (.int (9 : Int32)), some (.int (0 : Int32)), some (.int (9 : Int32))]) rfl ?_
  refine X_iload_n rfl rfl rfl rfl ?_
  refine X_iload_n rfl rfl rfl rfl ?_
  refine X_icmp_lt (tgt := 14) rfl rfl rfl (fun q => absurd q (by decide)) (fun _ => ?_)
  refine X_iload_n rfl rfl rfl rfl ?_
  refine X_iload_n rfl rfl rfl rfl ?_
  refine X_icmp_gt (tgt := 14) rfl rfl rfl (fun q => absurd q (by decide)) (fun _ => ?_)
  refine X_iconst (v := (1 : Int32)) rfl rfl rfl ?_
  refine LW_goto (tgt := 15) rfl rfl ?_
  refine LW_ireturn (st := []) rfl rfl rfl ?_
  refine X_if_eq (tgt := 19) rfl rfl rfl (fun q => absurd q (by decide)) (fun _ => ?_)
  refine X_aload_n rfl rfl rfl rfl ?_
  refine X_getR (a := 356) rfl rfl rfl ((congrFun F.1 355).trans s_355) rfl ((congrFun (F.2.1 355 (by decide)) 0).trans r_355_0) ?_
  refine X_iload_n rfl rfl rfl rfl ?_
  refine X_iald (v := (0 : Int32)) rfl rfl ((congrFun F.1 356).trans s_356) (vp_in_d rfl) ((congrFun (F.2.2 356 (by decide)).1 9).trans i_356_9) ?_
  refine LW_goto (tgt := 53) rfl rfl ?_
  exact LW_ireturn (st := []) rfl rfl rfl rfl
set_option maxRecDepth 10000 in
set_option maxHeartbeats 4000000 in
theorem r_about_10 {g : LH} (F : Fr g)  : LW 318 30 0 0 0 (lEnt (mL 318) [.ref 355, .int (10 : Int32)]) [] g (fun v _ => v = some (.int (0))) := by
  refine LW_ls (ls' := [some (.ref 355), some (.int (10 : Int32))]) rfl ?_
  refine X_iload_n rfl rfl rfl rfl ?_
  refine X_iconst (v := (0 : Int32)) rfl rfl rfl ?_
  refine X_bipush (v := (9 : Int32)) rfl rfl rfl ?_
  refine X_callS (as := [.int (10 : Int32), .int (0 : Int32), .int (9 : Int32)]) (st := []) rfl rfl rfl (by decide) rfl (Nat.le_of_ble_eq_true rfl) (by decide) (Nat.le_of_ble_eq_true rfl) rfl ?_
  refine LW_ls (ls' := [some (.int (10 : Int32)), some (.int (0 : Int32)), some (.int (9 : Int32))]) rfl ?_
  refine X_iload_n rfl rfl rfl rfl ?_
  refine X_iload_n rfl rfl rfl rfl ?_
  refine X_icmp_lt (tgt := 14) rfl rfl rfl (fun q => absurd q (by decide)) (fun _ => ?_)
  refine X_iload_n rfl rfl rfl rfl ?_
  refine X_iload_n rfl rfl rfl rfl ?_
  refine X_icmp_gt (tgt := 14) rfl rfl rfl (fun _ => ?_) (fun q => absurd q (by decide))
  refine X_iconst (v := (0 : Int32)) rfl rfl rfl ?_
  refine LW_ireturn (st := []) rfl rfl rfl ?_
  refine X_if_eq (tgt := 19) rfl rfl rfl (fun _ => ?_) (fun q => absurd q (by decide))
  refine X_iload_n rfl rfl rfl rfl ?_
  refine X_bipush (v := (10 : Int32)) rfl rfl rfl ?_
  refine X_icmp_ne (tgt := 32) rfl rfl rfl (fun q => absurd q (by decide)) (fun _ => ?_)
  refine X_aload_n rfl rfl rfl rfl ?_
  refine X_getI (v := (0 : Int32)) rfl rfl rfl ((congrFun F.1 355).trans s_355) rfl ((congrFun (F.2.2 355 (by decide)).1 8).trans i_355_8) ?_
  refine LW_goto (tgt := 53) rfl rfl ?_
  exact LW_ireturn (st := []) rfl rfl rfl rfl
set_option maxRecDepth 10000 in
set_option maxHeartbeats 4000000 in
theorem r_about_11 {g : LH} (F : Fr g)  : LW 318 30 0 0 0 (lEnt (mL 318) [.ref 355, .int (11 : Int32)]) [] g (fun v _ => v = some (.int (0))) := by
  refine LW_ls (ls' := [some (.ref 355), some (.int (11 : Int32))]) rfl ?_
  refine X_iload_n rfl rfl rfl rfl ?_
  refine X_iconst (v := (0 : Int32)) rfl rfl rfl ?_
  refine X_bipush (v := (9 : Int32)) rfl rfl rfl ?_
  refine X_callS (as := [.int (11 : Int32), .int (0 : Int32), .int (9 : Int32)]) (st := []) rfl rfl rfl (by decide) rfl (Nat.le_of_ble_eq_true rfl) (by decide) (Nat.le_of_ble_eq_true rfl) rfl ?_
  refine LW_ls (ls' := [some (.int (11 : Int32)), some (.int (0 : Int32)), some (.int (9 : Int32))]) rfl ?_
  refine X_iload_n rfl rfl rfl rfl ?_
  refine X_iload_n rfl rfl rfl rfl ?_
  refine X_icmp_lt (tgt := 14) rfl rfl rfl (fun q => absurd q (by decide)) (fun _ => ?_)
  refine X_iload_n rfl rfl rfl rfl ?_
  refine X_iload_n rfl rfl rfl rfl ?_
  refine X_icmp_gt (tgt := 14) rfl rfl rfl (fun _ => ?_) (fun q => absurd q (by decide))
  refine X_iconst (v := (0 : Int32)) rfl rfl rfl ?_
  refine LW_ireturn (st := []) rfl rfl rfl ?_
  refine X_if_eq (tgt := 19) rfl rfl rfl (fun _ => ?_) (fun q => absurd q (by decide))
  refine X_iload_n rfl rfl rfl rfl ?_
  refine X_bipush (v := (10 : Int32)) rfl rfl rfl ?_
  refine X_icmp_ne (tgt := 32) rfl rfl rfl (fun _ => ?_) (fun q => absurd q (by decide))
  refine X_iload_n rfl rfl rfl rfl ?_
  refine X_bipush (v := (11 : Int32)) rfl rfl rfl ?_
  refine X_icmp_ne (tgt := 51) rfl rfl rfl (fun q => absurd q (by decide)) (fun _ => ?_)
  refine X_aload_n rfl rfl rfl rfl ?_
  refine X_getR (a := 356) rfl rfl rfl ((congrFun F.1 355).trans s_355) rfl ((congrFun (F.2.1 355 (by decide)) 0).trans r_355_0) ?_
  refine X_bipush (v := (7 : Int32)) rfl rfl rfl ?_
  refine X_iald (v := (0 : Int32)) rfl rfl ((congrFun F.1 356).trans s_356) (vp_in_d rfl) ((congrFun (F.2.2 356 (by decide)).1 7).trans i_356_7) ?_
  refine Y_callS (as := [.int (0 : Int32)]) (st := []) rfl rfl rfl (by decide) rfl (Nat.le_of_ble_eq_true rfl) (by decide) (Nat.le_of_ble_eq_true rfl) rfl (r_bits (n := 0) (by decide)) ?_
  rintro _ _ ⟨rfl, rfl⟩
  refine LW_eqv (v := (0 : Int32)) (by decide) ?_
  refine LW_goto (tgt := 53) rfl rfl ?_
  exact LW_ireturn (st := []) rfl rfl rfl rfl
set_option maxRecDepth 10000 in
set_option maxHeartbeats 4000000 in
theorem r_about_out {g : LH} (F : Fr g) (a : Int32) (hr : ¬ (0 ≤ a.toInt ∧ a.toInt ≤ 11)) : LW 318 30 0 0 0 (lEnt (mL 318) [.ref 355, .int a]) [] g (fun v _ => v = some (.int (-2))) := by
  refine LW_ls (ls' := [some (.ref 355), some (.int a)]) rfl ?_
  refine X_iload_n rfl rfl rfl rfl ?_
  refine X_iconst (v := (0 : Int32)) rfl rfl rfl ?_
  refine X_bipush (v := (9 : Int32)) rfl rfl rfl ?_
  refine X_callS (as := [.int a, .int (0 : Int32), .int (9 : Int32)]) (st := []) rfl rfl rfl (by decide) rfl (Nat.le_of_ble_eq_true rfl) (by decide) (Nat.le_of_ble_eq_true rfl) rfl ?_
  refine LW_ls (ls' := [some (.int a), some (.int (0 : Int32)), some (.int (9 : Int32))]) rfl ?_
  refine X_iload_n rfl rfl rfl rfl ?_
  refine X_iload_n rfl rfl rfl rfl ?_
  refine X_icmp_lt (tgt := 14) rfl rfl rfl (fun h1 => ?_) (fun h1 => ?_)
  · refine X_iconst (v := (0 : Int32)) rfl rfl rfl ?_
    refine LW_ireturn (st := []) rfl rfl rfl ?_
    refine X_if_eq (tgt := 19) rfl rfl rfl (fun _ => ?_) (fun q => absurd q (by decide))
    refine X_iload_n rfl rfl rfl rfl ?_
    refine X_bipush (v := (10 : Int32)) rfl rfl rfl ?_
    refine X_icmp_ne (tgt := 32) rfl rfl rfl (fun h2 => ?_) (fun h2 => ?_)
    · refine X_iload_n rfl rfl rfl rfl ?_
      refine X_bipush (v := (11 : Int32)) rfl rfl rfl ?_
      refine X_icmp_ne (tgt := 51) rfl rfl rfl (fun h3 => ?_) (fun h3 => ?_)
      · refine X_bipush (v := (-2 : Int32)) rfl rfl rfl ?_
        exact LW_ireturn (st := []) rfl rfl rfl rfl
      · exfalso
        simp only [Int32.lt_iff_toInt_lt, Int32.le_iff_toInt_le, ← Int32.toInt_inj, (show (0 : Int32).toInt = 0 from rfl), (show (10 : Int32).toInt = 10 from rfl), (show (11 : Int32).toInt = 11 from rfl)] at h1 h2 h3
        omega
    · exfalso
      simp only [Int32.lt_iff_toInt_lt, Int32.le_iff_toInt_le, ← Int32.toInt_inj, (show (0 : Int32).toInt = 0 from rfl), (show (10 : Int32).toInt = 10 from rfl)] at h1 h2
      omega
  · refine X_iload_n rfl rfl rfl rfl ?_
    refine X_iload_n rfl rfl rfl rfl ?_
    refine X_icmp_gt (tgt := 14) rfl rfl rfl (fun h4 => ?_) (fun h4 => ?_)
    · refine X_iconst (v := (0 : Int32)) rfl rfl rfl ?_
      refine LW_ireturn (st := []) rfl rfl rfl ?_
      refine X_if_eq (tgt := 19) rfl rfl rfl (fun _ => ?_) (fun q => absurd q (by decide))
      refine X_iload_n rfl rfl rfl rfl ?_
      refine X_bipush (v := (10 : Int32)) rfl rfl rfl ?_
      refine X_icmp_ne (tgt := 32) rfl rfl rfl (fun h5 => ?_) (fun h5 => ?_)
      · refine X_iload_n rfl rfl rfl rfl ?_
        refine X_bipush (v := (11 : Int32)) rfl rfl rfl ?_
        refine X_icmp_ne (tgt := 51) rfl rfl rfl (fun h6 => ?_) (fun h6 => ?_)
        · refine X_bipush (v := (-2 : Int32)) rfl rfl rfl ?_
          exact LW_ireturn (st := []) rfl rfl rfl rfl
        · exfalso
          simp only [Int32.lt_iff_toInt_lt, Int32.le_iff_toInt_le, ← Int32.toInt_inj, (show (0 : Int32).toInt = 0 from rfl), (show (9 : Int32).toInt = 9 from rfl), (show (10 : Int32).toInt = 10 from rfl), (show (11 : Int32).toInt = 11 from rfl)] at h1 h4 h5 h6
          omega
      · exfalso
        simp only [Int32.lt_iff_toInt_lt, Int32.le_iff_toInt_le, ← Int32.toInt_inj, (show (0 : Int32).toInt = 0 from rfl), (show (9 : Int32).toInt = 9 from rfl), (show (10 : Int32).toInt = 10 from rfl)] at h1 h4 h5
        omega
    · refine X_iconst (v := (1 : Int32)) rfl rfl rfl ?_
      refine LW_goto (tgt := 15) rfl rfl ?_
      refine LW_ireturn (st := []) rfl rfl rfl ?_
      refine X_if_eq (tgt := 19) rfl rfl rfl (fun q => absurd q (by decide)) (fun _ => ?_)
      exfalso
      simp only [Int32.lt_iff_toInt_lt, Int32.le_iff_toInt_le, ← Int32.toInt_inj, (show (0 : Int32).toInt = 0 from rfl), (show (9 : Int32).toInt = 9 from rfl)] at h1 h4
      omega
