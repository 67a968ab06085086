/-! numbers; saying, of both -/
theorem r_355_5 : eR e2 355 5 = some 360 := by decide +kernel
theorem s_360 : eS e2 360 = .inr (.int, 9) := by decide +kernel
theorem nI_idiv {a d : Nat} (ha : a < 2 ^ 31) (h : 0 < d ∧ d < 2 ^ 31) : nI a / nI d = nI (a / d) := pk_div ha h.1 h.2
theorem nI_irem {a d : Nat} (ha : a < 2 ^ 31) (h : 0 < d ∧ d < 2 ^ 31) : nI a - nI a / nI d * nI d = nI (a % d) := pk_rem ha h.1 h.2
def f_sayN (n : Nat) : Int32 := if (10 ≤ n ∧ n ≤ 19) ∨ (100 ≤ n ∧ n ≤ 199) ∨ (1000 ≤ n ∧ n ≤ 1999) ∨ (10000 ≤ n ∧ n ≤ 19999) ∨ (100000 ≤ n ∧ n ≤ 199999) ∨ (1000000 ≤ n ∧ n ≤ 1999999) ∨ (10000000 ≤ n ∧ n ≤ 19999999) ∨ (100000000 ≤ n ∧ n ≤ 199999999) then 0 else -1
set_option maxRecDepth 10000 in
set_option maxHeartbeats 40000000 in
theorem c_saying_in {g : LH} (F : Fc g) (E : Fr g) {n : Nat} (h0 : 10 ≤ n) (hn : n ≤ 199999999) : LW 128 30 0 0 0 (lEnt (mL 128) [.ref 0, .int (nI (n))]) [] g (fun v g' => v = some (.int (f_sayN n)) ∧ Fr g') := by
  refine LW_ls (ls' := [some (.ref 0), some (.int (nI (n))), none, none, none, none]) rfl ?_
  refine X_iload_n rfl rfl rfl rfl ?_
  refine X_bipush (v := (10 : Int32)) rfl rfl rfl ?_
  refine X_icmp_lt (tgt := 12) rfl rfl rfl (fun h1 => ?_) (fun h1 => ?_)
  · exfalso
    simp only [Int32.lt_iff_toInt_lt, Int32.le_iff_toInt_le, ← Int32.toInt_inj, (show (10 : Int32).toInt = 10 from rfl), (nI_toInt (n := n) (by omega))] at h1
    omega
  · refine X_iload_n rfl rfl rfl rfl ?_
    refine X_ldc (v := (199999999 : Int32)) rfl rfl rfl ?_
    refine X_icmp_le (tgt := 14) rfl rfl rfl (fun h2 => ?_) (fun h2 => ?_)
    · refine X_iconst (v := (0 : Int32)) rfl rfl rfl ?_
      refine X_istore_n (i := 2) (ls' := [some (.ref 0), some (.int (nI (n))), some (.int (0 : Int32)), none, none, none]) rfl rfl rfl (Nat.le_of_ble_eq_true rfl) rfl ?_
      refine X_iload_n rfl rfl rfl rfl ?_
      refine X_istore_n (i := 3) (ls' := [some (.ref 0), some (.int (nI (n))), some (.int (0 : Int32)), some (.int (nI (n))), none, none]) rfl rfl rfl (Nat.le_of_ble_eq_true rfl) rfl ?_
      refine X_iconst (v := (0 : Int32)) rfl rfl rfl ?_
      refine X_istore (i := 4) (ls' := [some (.ref 0), some (.int (nI (n))), some (.int (0 : Int32)), some (.int (nI (n))), some (.int (0 : Int32)), none]) rfl rfl (Nat.le_of_ble_eq_true rfl) rfl ?_
      refine X_iload rfl rfl rfl ?_
      refine X_bipush (v := (8 : Int32)) rfl rfl rfl ?_
      refine X_icmp_ge (tgt := 48) rfl rfl rfl (fun q => absurd q (by decide)) (fun _ => ?_)
      refine X_iload_n rfl rfl rfl rfl ?_
      refine X_bipush (v := (10 : Int32)) rfl rfl rfl ?_
      refine X_icmp_lt (tgt := 48) rfl rfl rfl (fun h3 => ?_) (fun h3 => ?_)
      · exfalso
        simp only [Int32.lt_iff_toInt_lt, Int32.le_iff_toInt_le, ← Int32.toInt_inj, (show (10 : Int32).toInt = 10 from rfl), (show (199999999 : Int32).toInt = 199999999 from rfl), (nI_toInt (n := n) (by omega))] at h1 h2 h3
        omega
      · refine X_iload_n rfl rfl rfl rfl ?_
        refine X_bipush (v := (10 : Int32)) rfl rfl rfl ?_
        refine X_idiv (v := (nI (n / 10))) rfl rfl (by decide) (nI_idiv (d := 10) (by omega) (by decide)) ?_
        refine X_istore_n (i := 3) (ls' := [some (.ref 0), some (.int (nI (n))), some (.int (0 : Int32)), some (.int (nI (n / 10))), some (.int (0 : Int32)), none]) rfl rfl rfl (Nat.le_of_ble_eq_true rfl) rfl ?_
        refine X_iinc (v := (1 : Int32)) (ls' := [some (.ref 0), some (.int (nI (n))), some (.int (1 : Int32)), some (.int (nI (n / 10))), some (.int (0 : Int32)), none]) rfl rfl rfl rfl rfl ?_
        refine X_iinc (v := (1 : Int32)) (ls' := [some (.ref 0), some (.int (nI (n))), some (.int (1 : Int32)), some (.int (nI (n / 10))), some (.int (1 : Int32)), none]) rfl rfl rfl rfl rfl ?_
        refine LW_goto (tgt := 21) rfl rfl ?_
        refine X_iload rfl rfl rfl ?_
        refine X_bipush (v := (8 : Int32)) rfl rfl rfl ?_
        refine X_icmp_ge (tgt := 48) rfl rfl rfl (fun q => absurd q (by decide)) (fun _ => ?_)
        refine X_iload_n rfl rfl rfl rfl ?_
        refine X_bipush (v := (10 : Int32)) rfl rfl rfl ?_
        refine X_icmp_lt (tgt := 48) rfl rfl rfl (fun h4 => ?_) (fun h4 => ?_)
        · refine X_iload_n rfl rfl rfl rfl ?_
          refine X_iconst (v := (1 : Int32)) rfl rfl rfl ?_
          refine X_icmp_eq (tgt := 55) rfl rfl rfl (fun h5 => ?_) (fun h5 => ?_)
          · refine X_iload_n rfl rfl rfl rfl ?_
            refine X_istore (i := 4) (ls' := [some (.ref 0), some (.int (nI (n))), some (.int (1 : Int32)), some (.int (nI (n / 10))), some (.int (nI (n))), none]) rfl rfl (Nat.le_of_ble_eq_true rfl) rfl ?_
            refine X_iload_n rfl rfl rfl rfl ?_
            refine X_iconst (v := (1 : Int32)) rfl rfl rfl ?_
            refine X_isub (v := (0 : Int32)) rfl rfl rfl ?_
            refine X_istore (i := 5) (ls' := [some (.ref 0), some (.int (nI (n))), some (.int (1 : Int32)), some (.int (nI (n / 10))), some (.int (nI (n))), some (.int (0 : Int32))]) rfl rfl (Nat.le_of_ble_eq_true rfl) rfl ?_
            refine X_iload rfl rfl rfl ?_
            refine X_if_lt (tgt := 93) rfl rfl rfl (fun q => absurd q (by decide)) (fun _ => ?_)
            refine X_aload_n rfl rfl rfl rfl ?_
            refine X_getR (a := 354) rfl rfl rfl ((congrFun F.1 0).trans s_0) rfl ((congrFun (F.2.1 0 (by decide)) 9).trans r_0_9) ?_
            refine X_iload rfl rfl rfl ?_
            refine X_iload rfl rfl rfl ?_
            refine X_bipush (v := (10 : Int32)) rfl rfl rfl ?_
            refine X_irem (v := (nI (n % 10))) rfl rfl (by decide) (nI_irem (d := 10) (by omega) (by decide)) ?_
            refine X_iast (k0 := 0) rfl rfl ((congrFun F.1 354).trans s_354) (vp_in_d rfl) rfl ?_
            refine X_iload rfl rfl rfl ?_
            refine X_bipush (v := (10 : Int32)) rfl rfl rfl ?_
            refine X_idiv (v := (nI (n / 10))) rfl rfl (by decide) (nI_idiv (d := 10) (by omega) (by decide)) ?_
            refine X_istore (i := 4) (ls' := [some (.ref 0), some (.int (nI (n))), some (.int (1 : Int32)), some (.int (nI (n / 10))), some (.int (nI (n / 10))), some (.int (0 : Int32))]) rfl rfl (Nat.le_of_ble_eq_true rfl) rfl ?_
            refine X_iinc (v := (-1 : Int32)) (ls' := [some (.ref 0), some (.int (nI (n))), some (.int (1 : Int32)), some (.int (nI (n / 10))), some (.int (nI (n / 10))), some (.int (-1 : Int32))]) rfl rfl rfl rfl rfl ?_
            refine LW_goto (tgt := 63) rfl rfl ?_
            refine X_iload rfl rfl rfl ?_
            refine X_if_lt (tgt := 93) rfl rfl rfl (fun _ => ?_) (fun q => absurd q (by decide))
            refine X_aload_n rfl rfl rfl rfl ?_
            refine X_getR (a := 1) rfl rfl rfl ((congrFun F.1 0).trans s_0) rfl ((congrFun (F.2.1 0 (by decide)) 0).trans r_0_0) ?_
            refine X_getR (a := 2) rfl rfl rfl ((congrFun F.1 1).trans s_1) rfl ((congrFun (F.2.1 1 (by decide)) 0).trans r_1_0) ?_
            refine X_aload_n rfl rfl rfl rfl ?_
            refine X_getR (a := 354) rfl rfl rfl ((congrFun F.1 0).trans s_0) rfl ((congrFun (F.2.1 0 (by decide)) 9).trans r_0_9) ?_
            refine X_iconst (v := (0 : Int32)) rfl rfl rfl ?_
            refine X_iload_n rfl rfl rfl rfl ?_
            refine X_callV (as := [.ref 354, .int (0 : Int32), .int (1 : Int32)]) (st := []) rfl rfl rfl (by decide) rfl (Nat.le_of_ble_eq_true rfl) (by decide) (Nat.le_of_ble_eq_true rfl) rfl ((congrFun F.1 2).trans s_2) (by decide) ?_
            refine LW_ls (ls' := [some (.ref 2), some (.ref 354), some (.int (0 : Int32)), some (.int (1 : Int32)), none, none]) rfl ?_
            refine X_iload_n rfl rfl rfl rfl ?_
            refine X_iconst (v := (1 : Int32)) rfl rfl rfl ?_
            refine X_icmp_lt (tgt := 23) rfl rfl rfl (fun q => absurd q (by decide)) (fun _ => ?_)
            refine X_iload_n rfl rfl rfl rfl ?_
            refine X_bipush (v := (8 : Int32)) rfl rfl rfl ?_
            refine X_icmp_gt (tgt := 23) rfl rfl rfl (fun q => absurd q (by decide)) (fun _ => ?_)
            refine X_iload_n rfl rfl rfl rfl ?_
            refine X_if_lt (tgt := 23) rfl rfl rfl (fun q => absurd q (by decide)) (fun _ => ?_)
            refine X_iload_n rfl rfl rfl rfl ?_
            refine X_iload_n rfl rfl rfl rfl ?_
            refine X_iadd (v := (1 : Int32)) rfl rfl rfl ?_
            refine X_aload_n rfl rfl rfl rfl ?_
            refine X_alen (t0 := 0) (v := (8 : Int32)) rfl rfl ((congrFun F.1 354).trans s_354) rfl rfl ?_
            refine X_icmp_le (tgt := 25) rfl rfl rfl (fun _ => ?_) (fun q => absurd q (by decide))
            refine X_aload_n rfl rfl rfl rfl ?_
            refine X_getI (v := (0 : Int32)) rfl rfl rfl ((congrFun F.1 2).trans s_2) rfl ((congrFun (F.2.2 2 (by decide)).1 1).trans i_2_1) ?_
            refine X_bipush (v := (8 : Int32)) rfl rfl rfl ?_
            refine X_icmp_lt (tgt := 36) rfl rfl rfl (fun _ => ?_) (fun q => absurd q (by decide))
            refine X_iconst (v := (0 : Int32)) rfl rfl rfl ?_
            refine X_istore (i := 4) (ls' := [some (.ref 2), some (.ref 354), some (.int (0 : Int32)), some (.int (1 : Int32)), some (.int (0 : Int32)), none]) rfl rfl (Nat.le_of_ble_eq_true rfl) rfl ?_
            refine X_iconst (v := (0 : Int32)) rfl rfl rfl ?_
            refine X_istore (i := 5) (ls' := [some (.ref 2), some (.ref 354), some (.int (0 : Int32)), some (.int (1 : Int32)), some (.int (0 : Int32)), some (.int (0 : Int32))]) rfl rfl (Nat.le_of_ble_eq_true rfl) rfl ?_
            refine X_iload rfl rfl rfl ?_
            refine X_iload_n rfl rfl rfl rfl ?_
            refine X_icmp_ge (tgt := 88) rfl rfl rfl (fun q => absurd q (by decide)) (fun _ => ?_)
            refine X_aload_n rfl rfl rfl rfl ?_
            refine X_getR (a := 9) rfl rfl rfl ((congrFun F.1 2).trans s_2) rfl ((congrFun (F.2.1 2 (by decide)) 8).trans r_2_8) ?_
            refine X_aload_n rfl rfl rfl rfl ?_
            refine X_getI (v := (0 : Int32)) rfl rfl rfl ((congrFun F.1 2).trans s_2) rfl ((congrFun (F.2.2 2 (by decide)).1 1).trans i_2_1) ?_
            refine X_bipush (v := (8 : Int32)) rfl rfl rfl ?_
            refine X_imul (v := (0 : Int32)) rfl rfl rfl ?_
            refine X_iload rfl rfl rfl ?_
            refine X_iadd (v := (0 : Int32)) rfl rfl rfl ?_
            refine X_aload_n rfl rfl rfl rfl ?_
            refine X_iload_n rfl rfl rfl rfl ?_
            refine X_iload rfl rfl rfl ?_
            refine X_iadd (v := (0 : Int32)) rfl rfl rfl ?_
            refine X_iald (v := (nI (n % 10))) rfl rfl ((congrFun F.1 354).trans s_354) (vp_in_d rfl) rfl ?_
            refine X_iast (k0 := 0) rfl rfl ((congrFun F.1 9).trans s_9) (vp_in_d rfl) rfl ?_
            refine X_iload rfl rfl rfl ?_
            refine X_iconst (v := (1 : Int32)) rfl rfl rfl ?_
            refine X_aload_n rfl rfl rfl rfl ?_
            refine X_iload_n rfl rfl rfl rfl ?_
            refine X_iload rfl rfl rfl ?_
            refine X_iadd (v := (0 : Int32)) rfl rfl rfl ?_
            refine X_iald (v := (nI (n % 10))) rfl rfl ((congrFun F.1 354).trans s_354) (vp_in_d rfl) rfl ?_
            refine X_ishl (v := ((1 : Int32) <<< ((nI (n % 10)) &&& 31))) rfl rfl rfl ?_
            refine X_ior (v := ((0 : Int32) ||| ((1 : Int32) <<< ((nI (n % 10)) &&& 31)))) rfl rfl rfl ?_
            refine X_istore (i := 4) (ls' := [some (.ref 2), some (.ref 354), some (.int (0 : Int32)), some (.int (1 : Int32)), some (.int ((0 : Int32) ||| ((1 : Int32) <<< ((nI (n % 10)) &&& 31)))), some (.int (0 : Int32))]) rfl rfl (Nat.le_of_ble_eq_true rfl) rfl ?_
            refine X_iinc (v := (1 : Int32)) (ls' := [some (.ref 2), some (.ref 354), some (.int (0 : Int32)), some (.int (1 : Int32)), some (.int ((0 : Int32) ||| ((1 : Int32) <<< ((nI (n % 10)) &&& 31)))), some (.int (1 : Int32))]) rfl rfl rfl rfl rfl ?_
            refine LW_goto (tgt := 42) rfl rfl ?_
            refine X_iload rfl rfl rfl ?_
            refine X_iload_n rfl rfl rfl rfl ?_
            refine X_icmp_ge (tgt := 88) rfl rfl rfl (fun _ => ?_) (fun q => absurd q (by decide))
            refine X_aload_n rfl rfl rfl rfl ?_
            refine X_getR (a := 7) rfl rfl rfl ((congrFun F.1 2).trans s_2) rfl ((congrFun (F.2.1 2 (by decide)) 6).trans r_2_6) ?_
            refine X_aload_n rfl rfl rfl rfl ?_
            refine X_getI (v := (0 : Int32)) rfl rfl rfl ((congrFun F.1 2).trans s_2) rfl ((congrFun (F.2.2 2 (by decide)).1 1).trans i_2_1) ?_
            refine X_iload_n rfl rfl rfl rfl ?_
            refine X_iast (k0 := 0) rfl rfl ((congrFun F.1 7).trans s_7) (vp_in_d rfl) rfl ?_
            refine X_aload_n rfl rfl rfl rfl ?_
            refine X_getR (a := 8) rfl rfl rfl ((congrFun F.1 2).trans s_2) rfl ((congrFun (F.2.1 2 (by decide)) 7).trans r_2_7) ?_
            refine X_aload_n rfl rfl rfl rfl ?_
            refine X_getI (v := (0 : Int32)) rfl rfl rfl ((congrFun F.1 2).trans s_2) rfl ((congrFun (F.2.2 2 (by decide)).1 1).trans i_2_1) ?_
            refine X_iload rfl rfl rfl ?_
            refine X_iast (k0 := 0) rfl rfl ((congrFun F.1 8).trans s_8) (vp_in_d rfl) rfl ?_
            refine X_aload_n rfl rfl rfl rfl ?_
            refine X_dup rfl rfl rfl ?_
            refine X_getI (v := (0 : Int32)) rfl rfl rfl ((congrFun F.1 2).trans s_2) rfl ((congrFun (F.2.2 2 (by decide)).1 1).trans i_2_1) ?_
            refine X_iconst (v := (1 : Int32)) rfl rfl rfl ?_
            refine X_iadd (v := (1 : Int32)) rfl rfl rfl ?_
            refine X_putI rfl rfl rfl ((congrFun F.1 2).trans s_2) rfl rfl rfl rfl ?_
            refine X_aload_n rfl rfl rfl rfl ?_
            refine X_getI (v := (1 : Int32)) rfl rfl rfl ((congrFun F.1 2).trans s_2) rfl rfl ?_
            refine X_iconst (v := (1 : Int32)) rfl rfl rfl ?_
            refine X_isub (v := (0 : Int32)) rfl rfl rfl ?_
            refine LW_ireturn (st := []) rfl rfl rfl ?_
            refine LW_ireturn (st := []) rfl rfl rfl ⟨congrArg (fun z => some (Value.int z)) ?_, (Fr_putI (Fr_putI (Fr_putI (Fr_putI (Fr_putI E (by decide)) (by decide)) (by decide)) (by decide)) (by decide))⟩
            simp only [Int32.lt_iff_toInt_lt, Int32.le_iff_toInt_le, ← Int32.toInt_inj, (show (1 : Int32).toInt = 1 from rfl), (show (10 : Int32).toInt = 10 from rfl), (show (199999999 : Int32).toInt = 199999999 from rfl), (nI_toInt (n := n) (by omega)), (nI_toInt (n := n / 10) (by omega))] at h1 h2 h3 h4 h5
            unfold f_sayN
            rw [if_pos (by omega)]
          · refine X_iconst (v := (-1 : Int32)) rfl rfl rfl ?_
            refine LW_ireturn (st := []) rfl rfl rfl ⟨congrArg (fun z => some (Value.int z)) ?_, E⟩
            simp only [Int32.lt_iff_toInt_lt, Int32.le_iff_toInt_le, ← Int32.toInt_inj, (show (1 : Int32).toInt = 1 from rfl), (show (10 : Int32).toInt = 10 from rfl), (show (199999999 : Int32).toInt = 199999999 from rfl), (nI_toInt (n := n) (by omega)), (nI_toInt (n := n / 10) (by omega))] at h1 h2 h3 h4 h5
            unfold f_sayN
            rw [if_neg (by omega)]
        · refine X_iload_n rfl rfl rfl rfl ?_
          refine X_bipush (v := (10 : Int32)) rfl rfl rfl ?_
          refine X_idiv (v := (nI ((n / 10) / 10))) rfl rfl (by decide) (nI_idiv (d := 10) (by omega) (by decide)) ?_
          refine X_istore_n (i := 3) (ls' := [some (.ref 0), some (.int (nI (n))), some (.int (1 : Int32)), some (.int (nI ((n / 10) / 10))), some (.int (1 : Int32)), none]) rfl rfl rfl (Nat.le_of_ble_eq_true rfl) rfl ?_
          refine X_iinc (v := (2 : Int32)) (ls' := [some (.ref 0), some (.int (nI (n))), some (.int (2 : Int32)), some (.int (nI ((n / 10) / 10))), some (.int (1 : Int32)), none]) rfl rfl rfl rfl rfl ?_
          refine X_iinc (v := (2 : Int32)) (ls' := [some (.ref 0), some (.int (nI (n))), some (.int (2 : Int32)), some (.int (nI ((n / 10) / 10))), some (.int (2 : Int32)), none]) rfl rfl rfl rfl rfl ?_
          refine LW_goto (tgt := 21) rfl rfl ?_
          refine X_iload rfl rfl rfl ?_
          refine X_bipush (v := (8 : Int32)) rfl rfl rfl ?_
          refine X_icmp_ge (tgt := 48) rfl rfl rfl (fun q => absurd q (by decide)) (fun _ => ?_)
          refine X_iload_n rfl rfl rfl rfl ?_
          refine X_bipush (v := (10 : Int32)) rfl rfl rfl ?_
          refine X_icmp_lt (tgt := 48) rfl rfl rfl (fun h6 => ?_) (fun h6 => ?_)
          · refine X_iload_n rfl rfl rfl rfl ?_
            refine X_iconst (v := (1 : Int32)) rfl rfl rfl ?_
            refine X_icmp_eq (tgt := 55) rfl rfl rfl (fun h7 => ?_) (fun h7 => ?_)
            · refine X_iload_n rfl rfl rfl rfl ?_
              refine X_istore (i := 4) (ls' := [some (.ref 0), some (.int (nI (n))), some (.int (2 : Int32)), some (.int (nI ((n / 10) / 10))), some (.int (nI (n))), none]) rfl rfl (Nat.le_of_ble_eq_true rfl) rfl ?_
              refine X_iload_n rfl rfl rfl rfl ?_
              refine X_iconst (v := (1 : Int32)) rfl rfl rfl ?_
              refine X_isub (v := (1 : Int32)) rfl rfl rfl ?_
              refine X_istore (i := 5) (ls' := [some (.ref 0), some (.int (nI (n))), some (.int (2 : Int32)), some (.int (nI ((n / 10) / 10))), some (.int (nI (n))), some (.int (1 : Int32))]) rfl rfl (Nat.le_of_ble_eq_true rfl) rfl ?_
              refine X_iload rfl rfl rfl ?_
              refine X_if_lt (tgt := 93) rfl rfl rfl (fun q => absurd q (by decide)) (fun _ => ?_)
              refine X_aload_n rfl rfl rfl rfl ?_
              refine X_getR (a := 354) rfl rfl rfl ((congrFun F.1 0).trans s_0) rfl ((congrFun (F.2.1 0 (by decide)) 9).trans r_0_9) ?_
              refine X_iload rfl rfl rfl ?_
              refine X_iload rfl rfl rfl ?_
              refine X_bipush (v := (10 : Int32)) rfl rfl rfl ?_
              refine X_irem (v := (nI (n % 10))) rfl rfl (by decide) (nI_irem (d := 10) (by omega) (by decide)) ?_
              refine X_iast (k0 := 1) rfl rfl ((congrFun F.1 354).trans s_354) (vp_in_d rfl) rfl ?_
              refine X_iload rfl rfl rfl ?_
              refine X_bipush (v := (10 : Int32)) rfl rfl rfl ?_
              refine X_idiv (v := (nI (n / 10))) rfl rfl (by decide) (nI_idiv (d := 10) (by omega) (by decide)) ?_
              refine X_istore (i := 4) (ls' := [some (.ref 0), some (.int (nI (n))), some (.int (2 : Int32)), some (.int (nI ((n / 10) / 10))), some (.int (nI (n / 10))), some (.int (1 : Int32))]) rfl rfl (Nat.le_of_ble_eq_true rfl) rfl ?_
              refine X_iinc (v := (0 : Int32)) (ls' := [some (.ref 0), some (.int (nI (n))), some (.int (2 : Int32)), some (.int (nI ((n / 10) / 10))), some (.int (nI (n / 10))), some (.int (0 : Int32))]) rfl rfl rfl rfl rfl ?_
              refine LW_goto (tgt := 63) rfl rfl ?_
              refine X_iload rfl rfl rfl ?_
              refine X_if_lt (tgt := 93) rfl rfl rfl (fun q => absurd q (by decide)) (fun _ => ?_)
              refine X_aload_n rfl rfl rfl rfl ?_
              refine X_getR (a := 354) rfl rfl rfl ((congrFun F.1 0).trans s_0) rfl ((congrFun (F.2.1 0 (by decide)) 9).trans r_0_9) ?_
              refine X_iload rfl rfl rfl ?_
              refine X_iload rfl rfl rfl ?_
              refine X_bipush (v := (10 : Int32)) rfl rfl rfl ?_
              refine X_irem (v := (nI ((n / 10) % 10))) rfl rfl (by decide) (nI_irem (d := 10) (by omega) (by decide)) ?_
              refine X_iast (k0 := 0) rfl rfl ((congrFun F.1 354).trans s_354) (vp_in_d rfl) rfl ?_
              refine X_iload rfl rfl rfl ?_
              refine X_bipush (v := (10 : Int32)) rfl rfl rfl ?_
              refine X_idiv (v := (nI ((n / 10) / 10))) rfl rfl (by decide) (nI_idiv (d := 10) (by omega) (by decide)) ?_
              refine X_istore (i := 4) (ls' := [some (.ref 0), some (.int (nI (n))), some (.int (2 : Int32)), some (.int (nI ((n / 10) / 10))), some (.int (nI ((n / 10) / 10))), some (.int (0 : Int32))]) rfl rfl (Nat.le_of_ble_eq_true rfl) rfl ?_
              refine X_iinc (v := (-1 : Int32)) (ls' := [some (.ref 0), some (.int (nI (n))), some (.int (2 : Int32)), some (.int (nI ((n / 10) / 10))), some (.int (nI ((n / 10) / 10))), some (.int (-1 : Int32))]) rfl rfl rfl rfl rfl ?_
              refine LW_goto (tgt := 63) rfl rfl ?_
              refine X_iload rfl rfl rfl ?_
              refine X_if_lt (tgt := 93) rfl rfl rfl (fun _ => ?_) (fun q => absurd q (by decide))
              refine X_aload_n rfl rfl rfl rfl ?_
              refine X_getR (a := 1) rfl rfl rfl ((congrFun F.1 0).trans s_0) rfl ((congrFun (F.2.1 0 (by decide)) 0).trans r_0_0) ?_
              refine X_getR (a := 2) rfl rfl rfl ((congrFun F.1 1).trans s_1) rfl ((congrFun (F.2.1 1 (by decide)) 0).trans r_1_0) ?_
              refine X_aload_n rfl rfl rfl rfl ?_
              refine X_getR (a := 354) rfl rfl rfl ((congrFun F.1 0).trans s_0) rfl ((congrFun (F.2.1 0 (by decide)) 9).trans r_0_9) ?_
              refine X_iconst (v := (0 : Int32)) rfl rfl rfl ?_
              refine X_iload_n rfl rfl rfl rfl ?_
              refine X_callV (as := [.ref 354, .int (0 : Int32), .int (2 : Int32)]) (st := []) rfl rfl rfl (by decide) rfl (Nat.le_of_ble_eq_true rfl) (by decide) (Nat.le_of_ble_eq_true rfl) rfl ((congrFun F.1 2).trans s_2) (by decide) ?_
              refine LW_ls (ls' := [some (.ref 2), some (.ref 354), some (.int (0 : Int32)), some (.int (2 : Int32)), none, none]) rfl ?_
              refine X_iload_n rfl rfl rfl rfl ?_
              refine X_iconst (v := (1 : Int32)) rfl rfl rfl ?_
              refine X_icmp_lt (tgt := 23) rfl rfl rfl (fun q => absurd q (by decide)) (fun _ => ?_)
              refine X_iload_n rfl rfl rfl rfl ?_
              refine X_bipush (v := (8 : Int32)) rfl rfl rfl ?_
              refine X_icmp_gt (tgt := 23) rfl rfl rfl (fun q => absurd q (by decide)) (fun _ => ?_)
              refine X_iload_n rfl rfl rfl rfl ?_
              refine X_if_lt (tgt := 23) rfl rfl rfl (fun q => absurd q (by decide)) (fun _ => ?_)
              refine X_iload_n rfl rfl rfl rfl ?_
              refine X_iload_n rfl rfl rfl rfl ?_
              refine X_iadd (v := (2 : Int32)) rfl rfl rfl ?_
              refine X_aload_n rfl rfl rfl rfl ?_
              refine X_alen (t0 := 0) (v := (8 : Int32)) rfl rfl ((congrFun F.1 354).trans s_354) rfl rfl ?_
              refine X_icmp_le (tgt := 25) rfl rfl rfl (fun _ => ?_) (fun q => absurd q (by decide))
              refine X_aload_n rfl rfl rfl rfl ?_
              refine X_getI (v := (0 : Int32)) rfl rfl rfl ((congrFun F.1 2).trans s_2) rfl ((congrFun (F.2.2 2 (by decide)).1 1).trans i_2_1) ?_
              refine X_bipush (v := (8 : Int32)) rfl rfl rfl ?_
              refine X_icmp_lt (tgt := 36) rfl rfl rfl (fun _ => ?_) (fun q => absurd q (by decide))
              refine X_iconst (v := (0 : Int32)) rfl rfl rfl ?_
              refine X_istore (i := 4) (ls' := [some (.ref 2), some (.ref 354), some (.int (0 : Int32)), some (.int (2 : Int32)), some (.int (0 : Int32)), none]) rfl rfl (Nat.le_of_ble_eq_true rfl) rfl ?_
              refine X_iconst (v := (0 : Int32)) rfl rfl rfl ?_
              refine X_istore (i := 5) (ls' := [some (.ref 2), some (.ref 354), some (.int (0 : Int32)), some (.int (2 : Int32)), some (.int (0 : Int32)), some (.int (0 : Int32))]) rfl rfl (Nat.le_of_ble_eq_true rfl) rfl ?_
              refine X_iload rfl rfl rfl ?_
              refine X_iload_n rfl rfl rfl rfl ?_
              refine X_icmp_ge (tgt := 88) rfl rfl rfl (fun q => absurd q (by decide)) (fun _ => ?_)
              refine X_aload_n rfl rfl rfl rfl ?_
              refine X_getR (a := 9) rfl rfl rfl ((congrFun F.1 2).trans s_2) rfl ((congrFun (F.2.1 2 (by decide)) 8).trans r_2_8) ?_
              refine X_aload_n rfl rfl rfl rfl ?_
              refine X_getI (v := (0 : Int32)) rfl rfl rfl ((congrFun F.1 2).trans s_2) rfl ((congrFun (F.2.2 2 (by decide)).1 1).trans i_2_1) ?_
              refine X_bipush (v := (8 : Int32)) rfl rfl rfl ?_
              refine X_imul (v := (0 : Int32)) rfl rfl rfl ?_
              refine X_iload rfl rfl rfl ?_
              refine X_iadd (v := (0 : Int32)) rfl rfl rfl ?_
              refine X_aload_n rfl rfl rfl rfl ?_
              refine X_iload_n rfl rfl rfl rfl ?_
              refine X_iload rfl rfl rfl ?_
              refine X_iadd (v := (0 : Int32)) rfl rfl rfl ?_
              refine X_iald (v := (nI ((n / 10) % 10))) rfl rfl ((congrFun F.1 354).trans s_354) (vp_in_d rfl) rfl ?_
              refine X_iast (k0 := 0) rfl rfl ((congrFun F.1 9).trans s_9) (vp_in_d rfl) rfl ?_
              refine X_iload rfl rfl rfl ?_
              refine X_iconst (v := (1 : Int32)) rfl rfl rfl ?_
              refine X_aload_n rfl rfl rfl rfl ?_
              refine X_iload_n rfl rfl rfl rfl ?_
              refine X_iload rfl rfl rfl ?_
              refine X_iadd (v := (0 : Int32)) rfl rfl rfl ?_
              refine X_iald (v := (nI ((n / 10) % 10))) rfl rfl ((congrFun F.1 354).trans s_354) (vp_in_d rfl) rfl ?_
              refine X_ishl (v := ((1 : Int32) <<< ((nI ((n / 10) % 10)) &&& 31))) rfl rfl rfl ?_
              refine X_ior (v := ((0 : Int32) ||| ((1 : Int32) <<< ((nI ((n / 10) % 10)) &&& 31)))) rfl rfl rfl ?_
              refine X_istore (i := 4) (ls' := [some (.ref 2), some (.ref 354), some (.int (0 : Int32)), some (.int (2 : Int32)), some (.int ((0 : Int32) ||| ((1 : Int32) <<< ((nI ((n / 10) % 10)) &&& 31)))), some (.int (0 : Int32))]) rfl rfl (Nat.le_of_ble_eq_true rfl) rfl ?_
              refine X_iinc (v := (1 : Int32)) (ls' := [some (.ref 2), some (.ref 354), some (.int (0 : Int32)), some (.int (2 : Int32)), some (.int ((0 : Int32) ||| ((1 : Int32) <<< ((nI ((n / 10) % 10)) &&& 31)))), some (.int (1 : Int32))]) rfl rfl rfl rfl rfl ?_
              refine LW_goto (tgt := 42) rfl rfl ?_
              refine X_iload rfl rfl rfl ?_
              refine X_iload_n rfl rfl rfl rfl ?_
              refine X_icmp_ge (tgt := 88) rfl rfl rfl (fun q => absurd q (by decide)) (fun _ => ?_)
              refine X_aload_n rfl rfl rfl rfl ?_
              refine X_getR (a := 9) rfl rfl rfl ((congrFun F.1 2).trans s_2) rfl ((congrFun (F.2.1 2 (by decide)) 8).trans r_2_8) ?_
              refine X_aload_n rfl rfl rfl rfl ?_
              refine X_getI (v := (0 : Int32)) rfl rfl rfl ((congrFun F.1 2).trans s_2) rfl ((congrFun (F.2.2 2 (by decide)).1 1).trans i_2_1) ?_
              refine X_bipush (v := (8 : Int32)) rfl rfl rfl ?_
              refine X_imul (v := (0 : Int32)) rfl rfl rfl ?_
              refine X_iload rfl rfl rfl ?_
              refine X_iadd (v := (1 : Int32)) rfl rfl rfl ?_
              refine X_aload_n rfl rfl rfl rfl ?_
              refine X_iload_n rfl rfl rfl rfl ?_
              refine X_iload rfl rfl rfl ?_
              refine X_iadd (v := (1 : Int32)) rfl rfl rfl ?_
              refine X_iald (v := (nI (n % 10))) rfl rfl ((congrFun F.1 354).trans s_354) (vp_in_d rfl) rfl ?_
              refine X_iast (k0 := 1) rfl rfl ((congrFun F.1 9).trans s_9) (vp_in_d rfl) rfl ?_
              refine X_iload rfl rfl rfl ?_
              refine X_iconst (v := (1 : Int32)) rfl rfl rfl ?_
              refine X_aload_n rfl rfl rfl rfl ?_
              refine X_iload_n rfl rfl rfl rfl ?_
              refine X_iload rfl rfl rfl ?_
              refine X_iadd (v := (1 : Int32)) rfl rfl rfl ?_
              refine X_iald (v := (nI (n % 10))) rfl rfl ((congrFun F.1 354).trans s_354) (vp_in_d rfl) rfl ?_
              refine X_ishl (v := ((1 : Int32) <<< ((nI (n % 10)) &&& 31))) rfl rfl rfl ?_
              refine X_ior (v := (((0 : Int32) ||| ((1 : Int32) <<< ((nI ((n / 10) % 10)) &&& 31))) ||| ((1 : Int32) <<< ((nI (n % 10)) &&& 31)))) rfl rfl rfl ?_
              refine X_istore (i := 4) (ls' := [some (.ref 2), some (.ref 354), some (.int (0 : Int32)), some (.int (2 : Int32)), some (.int (((0 : Int32) ||| ((1 : Int32) <<< ((nI ((n / 10) % 10)) &&& 31))) ||| ((1 : Int32) <<< ((nI (n % 10)) &&& 31)))), some (.int (1 : Int32))]) rfl rfl (Nat.le_of_ble_eq_true rfl) rfl ?_
              refine X_iinc (v := (2 : Int32)) (ls' := [some (.ref 2), some (.ref 354), some (.int (0 : Int32)), some (.int (2 : Int32)), some (.int (((0 : Int32) ||| ((1 : Int32) <<< ((nI ((n / 10) % 10)) &&& 31))) ||| ((1 : Int32) <<< ((nI (n % 10)) &&& 31)))), some (.int (2 : Int32))]) rfl rfl rfl rfl rfl ?_
              refine LW_goto (tgt := 42) rfl rfl ?_
              refine X_iload rfl rfl rfl ?_
              refine X_iload_n rfl rfl rfl rfl ?_
              refine X_icmp_ge (tgt := 88) rfl rfl rfl (fun _ => ?_) (fun q => absurd q (by decide))
              refine X_aload_n rfl rfl rfl rfl ?_
              refine X_getR (a := 7) rfl rfl rfl ((congrFun F.1 2).trans s_2) rfl ((congrFun (F.2.1 2 (by decide)) 6).trans r_2_6) ?_
              refine X_aload_n rfl rfl rfl rfl ?_
              refine X_getI (v := (0 : Int32)) rfl rfl rfl ((congrFun F.1 2).trans s_2) rfl ((congrFun (F.2.2 2 (by decide)).1 1).trans i_2_1) ?_
              refine X_iload_n rfl rfl rfl rfl ?_
              refine X_iast (k0 := 0) rfl rfl ((congrFun F.1 7).trans s_7) (vp_in_d rfl) rfl ?_
              refine X_aload_n rfl rfl rfl rfl ?_
              refine X_getR (a := 8) rfl rfl rfl ((congrFun F.1 2).trans s_2) rfl ((congrFun (F.2.1 2 (by decide)) 7).trans r_2_7) ?_
              refine X_aload_n rfl rfl rfl rfl ?_
              refine X_getI (v := (0 : Int32)) rfl rfl rfl ((congrFun F.1 2).trans s_2) rfl ((congrFun (F.2.2 2 (by decide)).1 1).trans i_2_1) ?_
              refine X_iload rfl rfl rfl ?_
              refine X_iast (k0 := 0) rfl rfl ((congrFun F.1 8).trans s_8) (vp_in_d rfl) rfl ?_
              refine X_aload_n rfl rfl rfl rfl ?_
              refine X_dup rfl rfl rfl ?_
              refine X_getI (v := (0 : Int32)) rfl rfl rfl ((congrFun F.1 2).trans s_2) rfl ((congrFun (F.2.2 2 (by decide)).1 1).trans i_2_1) ?_
              refine X_iconst (v := (1 : Int32)) rfl rfl rfl ?_
              refine X_iadd (v := (1 : Int32)) rfl rfl rfl ?_
              refine X_putI rfl rfl rfl ((congrFun F.1 2).trans s_2) rfl rfl rfl rfl ?_
              refine X_aload_n rfl rfl rfl rfl ?_
              refine X_getI (v := (1 : Int32)) rfl rfl rfl ((congrFun F.1 2).trans s_2) rfl rfl ?_
              refine X_iconst (v := (1 : Int32)) rfl rfl rfl ?_
              refine X_isub (v := (0 : Int32)) rfl rfl rfl ?_
              refine LW_ireturn (st := []) rfl rfl rfl ?_
              refine LW_ireturn (st := []) rfl rfl rfl ⟨congrArg (fun z => some (Value.int z)) ?_, (Fr_putI (Fr_putI (Fr_putI (Fr_putI (Fr_putI (Fr_putI (Fr_putI E (by decide)) (by decide)) (by decide)) (by decide)) (by decide)) (by decide)) (by decide))⟩
              simp only [Int32.lt_iff_toInt_lt, Int32.le_iff_toInt_le, ← Int32.toInt_inj, (show (1 : Int32).toInt = 1 from rfl), (show (10 : Int32).toInt = 10 from rfl), (show (199999999 : Int32).toInt = 199999999 from rfl), (nI_toInt (n := (n / 10) / 10) (by omega)), (nI_toInt (n := n) (by omega)), (nI_toInt (n := n / 10) (by omega))] at h1 h2 h3 h4 h6 h7
              unfold f_sayN
              rw [if_pos (by omega)]
            · refine X_iconst (v := (-1 : Int32)) rfl rfl rfl ?_
              refine LW_ireturn (st := []) rfl rfl rfl ⟨congrArg (fun z => some (Value.int z)) ?_, E⟩
              simp only [Int32.lt_iff_toInt_lt, Int32.le_iff_toInt_le, ← Int32.toInt_inj, (show (1 : Int32).toInt = 1 from rfl), (show (10 : Int32).toInt = 10 from rfl), (show (199999999 : Int32).toInt = 199999999 from rfl), (nI_toInt (n := (n / 10) / 10) (by omega)), (nI_toInt (n := n) (by omega)), (nI_toInt (n := n / 10) (by omega))] at h1 h2 h3 h4 h6 h7
              unfold f_sayN
              rw [if_neg (by omega)]
          · refine X_iload_n rfl rfl rfl rfl ?_
            refine X_bipush (v := (10 : Int32)) rfl rfl rfl ?_
            refine X_idiv (v := (nI (((n / 10) / 10) / 10))) rfl rfl (by decide) (nI_idiv (d := 10) (by omega) (by decide)) ?_
            refine X_istore_n (i := 3) (ls' := [some (.ref 0), some (.int (nI (n))), some (.int (2 : Int32)), some (.int (nI (((n / 10) / 10) / 10))), some (.int (2 : Int32)), none]) rfl rfl rfl (Nat.le_of_ble_eq_true rfl) rfl ?_
            refine X_iinc (v := (3 : Int32)) (ls' := [some (.ref 0), some (.int (nI (n))), some (.int (3 : Int32)), some (.int (nI (((n / 10) / 10) / 10))), some (.int (2 : Int32)), none]) rfl rfl rfl rfl rfl ?_
            refine X_iinc (v := (3 : Int32)) (ls' := [some (.ref 0), some (.int (nI (n))), some (.int (3 : Int32)), some (.int (nI (((n / 10) / 10) / 10))), some (.int (3 : Int32)), none]) rfl rfl rfl rfl rfl ?_
            refine LW_goto (tgt := 21) rfl rfl ?_
            refine X_iload rfl rfl rfl ?_
            refine X_bipush (v := (8 : Int32)) rfl rfl rfl ?_
            refine X_icmp_ge (tgt := 48) rfl rfl rfl (fun q => absurd q (by decide)) (fun _ => ?_)
            refine X_iload_n rfl rfl rfl rfl ?_
            refine X_bipush (v := (10 : Int32)) rfl rfl rfl ?_
            refine X_icmp_lt (tgt := 48) rfl rfl rfl (fun h8 => ?_) (fun h8 => ?_)
            · refine X_iload_n rfl rfl rfl rfl ?_
              refine X_iconst (v := (1 : Int32)) rfl rfl rfl ?_
              refine X_icmp_eq (tgt := 55) rfl rfl rfl (fun h9 => ?_) (fun h9 => ?_)
              · refine X_iload_n rfl rfl rfl rfl ?_
                refine X_istore (i := 4) (ls' := [some (.ref 0), some (.int (nI (n))), some (.int (3 : Int32)), some (.int (nI (((n / 10) / 10) / 10))), some (.int (nI (n))), none]) rfl rfl (Nat.le_of_ble_eq_true rfl) rfl ?_
                refine X_iload_n rfl rfl rfl rfl ?_
                refine X_iconst (v := (1 : Int32)) rfl rfl rfl ?_
                refine X_isub (v := (2 : Int32)) rfl rfl rfl ?_
                refine X_istore (i := 5) (ls' := [some (.ref 0), some (.int (nI (n))), some (.int (3 : Int32)), some (.int (nI (((n / 10) / 10) / 10))), some (.int (nI (n))), some (.int (2 : Int32))]) rfl rfl (Nat.le_of_ble_eq_true rfl) rfl ?_
                refine X_iload rfl rfl rfl ?_
                refine X_if_lt (tgt := 93) rfl rfl rfl (fun q => absurd q (by decide)) (fun _ => ?_)
                refine X_aload_n rfl rfl rfl rfl ?_
                refine X_getR (a := 354) rfl rfl rfl ((congrFun F.1 0).trans s_0) rfl ((congrFun (F.2.1 0 (by decide)) 9).trans r_0_9) ?_
                refine X_iload rfl rfl rfl ?_
                refine X_iload rfl rfl rfl ?_
                refine X_bipush (v := (10 : Int32)) rfl rfl rfl ?_
                refine X_irem (v := (nI (n % 10))) rfl rfl (by decide) (nI_irem (d := 10) (by omega) (by decide)) ?_
                refine X_iast (k0 := 2) rfl rfl ((congrFun F.1 354).trans s_354) (vp_in_d rfl) rfl ?_
                refine X_iload rfl rfl rfl ?_
                refine X_bipush (v := (10 : Int32)) rfl rfl rfl ?_
                refine X_idiv (v := (nI (n / 10))) rfl rfl (by decide) (nI_idiv (d := 10) (by omega) (by decide)) ?_
                refine X_istore (i := 4) (ls' := [some (.ref 0), some (.int (nI (n))), some (.int (3 : Int32)), some (.int (nI (((n / 10) / 10) / 10))), some (.int (nI (n / 10))), some (.int (2 : Int32))]) rfl rfl (Nat.le_of_ble_eq_true rfl) rfl ?_
                refine X_iinc (v := (1 : Int32)) (ls' := [some (.ref 0), some (.int (nI (n))), some (.int (3 : Int32)), some (.int (nI (((n / 10) / 10) / 10))), some (.int (nI (n / 10))), some (.int (1 : Int32))]) rfl rfl rfl rfl rfl ?_
                refine LW_goto (tgt := 63) rfl rfl ?_
                refine X_iload rfl rfl rfl ?_
                refine X_if_lt (tgt := 93) rfl rfl rfl (fun q => absurd q (by decide)) (fun _ => ?_)
                refine X_aload_n rfl rfl rfl rfl ?_
                refine X_getR (a := 354) rfl rfl rfl ((congrFun F.1 0).trans s_0) rfl ((congrFun (F.2.1 0 (by decide)) 9).trans r_0_9) ?_
                refine X_iload rfl rfl rfl ?_
                refine X_iload rfl rfl rfl ?_
                refine X_bipush (v := (10 : Int32)) rfl rfl rfl ?_
                refine X_irem (v := (nI ((n / 10) % 10))) rfl rfl (by decide) (nI_irem (d := 10) (by omega) (by decide)) ?_
                refine X_iast (k0 := 1) rfl rfl ((congrFun F.1 354).trans s_354) (vp_in_d rfl) rfl ?_
                refine X_iload rfl rfl rfl ?_
                refine X_bipush (v := (10 : Int32)) rfl rfl rfl ?_
                refine X_idiv (v := (nI ((n / 10) / 10))) rfl rfl (by decide) (nI_idiv (d := 10) (by omega) (by decide)) ?_
                refine X_istore (i := 4) (ls' := [some (.ref 0), some (.int (nI (n))), some (.int (3 : Int32)), some (.int (nI (((n / 10) / 10) / 10))), some (.int (nI ((n / 10) / 10))), some (.int (1 : Int32))]) rfl rfl (Nat.le_of_ble_eq_true rfl) rfl ?_
                refine X_iinc (v := (0 : Int32)) (ls' := [some (.ref 0), some (.int (nI (n))), some (.int (3 : Int32)), some (.int (nI (((n / 10) / 10) / 10))), some (.int (nI ((n / 10) / 10))), some (.int (0 : Int32))]) rfl rfl rfl rfl rfl ?_
                refine LW_goto (tgt := 63) rfl rfl ?_
                refine X_iload rfl rfl rfl ?_
                refine X_if_lt (tgt := 93) rfl rfl rfl (fun q => absurd q (by decide)) (fun _ => ?_)
                refine X_aload_n rfl rfl rfl rfl ?_
                refine X_getR (a := 354) rfl rfl rfl ((congrFun F.1 0).trans s_0) rfl ((congrFun (F.2.1 0 (by decide)) 9).trans r_0_9) ?_
                refine X_iload rfl rfl rfl ?_
                refine X_iload rfl rfl rfl ?_
                refine X_bipush (v := (10 : Int32)) rfl rfl rfl ?_
                refine X_irem (v := (nI (((n / 10) / 10) % 10))) rfl rfl (by decide) (nI_irem (d := 10) (by omega) (by decide)) ?_
                refine X_iast (k0 := 0) rfl rfl ((congrFun F.1 354).trans s_354) (vp_in_d rfl) rfl ?_
                refine X_iload rfl rfl rfl ?_
                refine X_bipush (v := (10 : Int32)) rfl rfl rfl ?_
                refine X_idiv (v := (nI (((n / 10) / 10) / 10))) rfl rfl (by decide) (nI_idiv (d := 10) (by omega) (by decide)) ?_
                refine X_istore (i := 4) (ls' := [some (.ref 0), some (.int (nI (n))), some (.int (3 : Int32)), some (.int (nI (((n / 10) / 10) / 10))), some (.int (nI (((n / 10) / 10) / 10))), some (.int (0 : Int32))]) rfl rfl (Nat.le_of_ble_eq_true rfl) rfl ?_
                refine X_iinc (v := (-1 : Int32)) (ls' := [some (.ref 0), some (.int (nI (n))), some (.int (3 : Int32)), some (.int (nI (((n / 10) / 10) / 10))), some (.int (nI (((n / 10) / 10) / 10))), some (.int (-1 : Int32))]) rfl rfl rfl rfl rfl ?_
                refine LW_goto (tgt := 63) rfl rfl ?_
                refine X_iload rfl rfl rfl ?_
                refine X_if_lt (tgt := 93) rfl rfl rfl (fun _ => ?_) (fun q => absurd q (by decide))
                refine X_aload_n rfl rfl rfl rfl ?_
                refine X_getR (a := 1) rfl rfl rfl ((congrFun F.1 0).trans s_0) rfl ((congrFun (F.2.1 0 (by decide)) 0).trans r_0_0) ?_
                refine X_getR (a := 2) rfl rfl rfl ((congrFun F.1 1).trans s_1) rfl ((congrFun (F.2.1 1 (by decide)) 0).trans r_1_0) ?_
                refine X_aload_n rfl rfl rfl rfl ?_
                refine X_getR (a := 354) rfl rfl rfl ((congrFun F.1 0).trans s_0) rfl ((congrFun (F.2.1 0 (by decide)) 9).trans r_0_9) ?_
                refine X_iconst (v := (0 : Int32)) rfl rfl rfl ?_
                refine X_iload_n rfl rfl rfl rfl ?_
                refine X_callV (as := [.ref 354, .int (0 : Int32), .int (3 : Int32)]) (st := []) rfl rfl rfl (by decide) rfl (Nat.le_of_ble_eq_true rfl) (by decide) (Nat.le_of_ble_eq_true rfl) rfl ((congrFun F.1 2).trans s_2) (by decide) ?_
                refine LW_ls (ls' := [some (.ref 2), some (.ref 354), some (.int (0 : Int32)), some (.int (3 : Int32)), none, none]) rfl ?_
                refine X_iload_n rfl rfl rfl rfl ?_
                refine X_iconst (v := (1 : Int32)) rfl rfl rfl ?_
                refine X_icmp_lt (tgt := 23) rfl rfl rfl (fun q => absurd q (by decide)) (fun _ => ?_)
                refine X_iload_n rfl rfl rfl rfl ?_
                refine X_bipush (v := (8 : Int32)) rfl rfl rfl ?_
                refine X_icmp_gt (tgt := 23) rfl rfl rfl (fun q => absurd q (by decide)) (fun _ => ?_)
                refine X_iload_n rfl rfl rfl rfl ?_
                refine X_if_lt (tgt := 23) rfl rfl rfl (fun q => absurd q (by decide)) (fun _ => ?_)
                refine X_iload_n rfl rfl rfl rfl ?_
                refine X_iload_n rfl rfl rfl rfl ?_
                refine X_iadd (v := (3 : Int32)) rfl rfl rfl ?_
                refine X_aload_n rfl rfl rfl rfl ?_
                refine X_alen (t0 := 0) (v := (8 : Int32)) rfl rfl ((congrFun F.1 354).trans s_354) rfl rfl ?_
                refine X_icmp_le (tgt := 25) rfl rfl rfl (fun _ => ?_) (fun q => absurd q (by decide))
                refine X_aload_n rfl rfl rfl rfl ?_
                refine X_getI (v := (0 : Int32)) rfl rfl rfl ((congrFun F.1 2).trans s_2) rfl ((congrFun (F.2.2 2 (by decide)).1 1).trans i_2_1) ?_
                refine X_bipush (v := (8 : Int32)) rfl rfl rfl ?_
                refine X_icmp_lt (tgt := 36) rfl rfl rfl (fun _ => ?_) (fun q => absurd q (by decide))
                refine X_iconst (v := (0 : Int32)) rfl rfl rfl ?_
                refine X_istore (i := 4) (ls' := [some (.ref 2), some (.ref 354), some (.int (0 : Int32)), some (.int (3 : Int32)), some (.int (0 : Int32)), none]) rfl rfl (Nat.le_of_ble_eq_true rfl) rfl ?_
                refine X_iconst (v := (0 : Int32)) rfl rfl rfl ?_
                refine X_istore (i := 5) (ls' := [some (.ref 2), some (.ref 354), some (.int (0 : Int32)), some (.int (3 : Int32)), some (.int (0 : Int32)), some (.int (0 : Int32))]) rfl rfl (Nat.le_of_ble_eq_true rfl) rfl ?_
                refine X_iload rfl rfl rfl ?_
                refine X_iload_n rfl rfl rfl rfl ?_
                refine X_icmp_ge (tgt := 88) rfl rfl rfl (fun q => absurd q (by decide)) (fun _ => ?_)
                refine X_aload_n rfl rfl rfl rfl ?_
                refine X_getR (a := 9) rfl rfl rfl ((congrFun F.1 2).trans s_2) rfl ((congrFun (F.2.1 2 (by decide)) 8).trans r_2_8) ?_
                refine X_aload_n rfl rfl rfl rfl ?_
                refine X_getI (v := (0 : Int32)) rfl rfl rfl ((congrFun F.1 2).trans s_2) rfl ((congrFun (F.2.2 2 (by decide)).1 1).trans i_2_1) ?_
                refine X_bipush (v := (8 : Int32)) rfl rfl rfl ?_
                refine X_imul (v := (0 : Int32)) rfl rfl rfl ?_
                refine X_iload rfl rfl rfl ?_
                refine X_iadd (v := (0 : Int32)) rfl rfl rfl ?_
                refine X_aload_n rfl rfl rfl rfl ?_
                refine X_iload_n rfl rfl rfl rfl ?_
                refine X_iload rfl rfl rfl ?_
                refine X_iadd (v := (0 : Int32)) rfl rfl rfl ?_
                refine X_iald (v := (nI (((n / 10) / 10) % 10))) rfl rfl ((congrFun F.1 354).trans s_354) (vp_in_d rfl) rfl ?_
                refine X_iast (k0 := 0) rfl rfl ((congrFun F.1 9).trans s_9) (vp_in_d rfl) rfl ?_
                refine X_iload rfl rfl rfl ?_
                refine X_iconst (v := (1 : Int32)) rfl rfl rfl ?_
                refine X_aload_n rfl rfl rfl rfl ?_
                refine X_iload_n rfl rfl rfl rfl ?_
                refine X_iload rfl rfl rfl ?_
                refine X_iadd (v := (0 : Int32)) rfl rfl rfl ?_
                refine X_iald (v := (nI (((n / 10) / 10) % 10))) rfl rfl ((congrFun F.1 354).trans s_354) (vp_in_d rfl) rfl ?_
                refine X_ishl (v := ((1 : Int32) <<< ((nI (((n / 10) / 10) % 10)) &&& 31))) rfl rfl rfl ?_
                refine X_ior (v := ((0 : Int32) ||| ((1 : Int32) <<< ((nI (((n / 10) / 10) % 10)) &&& 31)))) rfl rfl rfl ?_
                refine X_istore (i := 4) (ls' := [some (.ref 2), some (.ref 354), some (.int (0 : Int32)), some (.int (3 : Int32)), some (.int ((0 : Int32) ||| ((1 : Int32) <<< ((nI (((n / 10) / 10) % 10)) &&& 31)))), some (.int (0 : Int32))]) rfl rfl (Nat.le_of_ble_eq_true rfl) rfl ?_
                refine X_iinc (v := (1 : Int32)) (ls' := [some (.ref 2), some (.ref 354), some (.int (0 : Int32)), some (.int (3 : Int32)), some (.int ((0 : Int32) ||| ((1 : Int32) <<< ((nI (((n / 10) / 10) % 10)) &&& 31)))), some (.int (1 : Int32))]) rfl rfl rfl rfl rfl ?_
                refine LW_goto (tgt := 42) rfl rfl ?_
                refine X_iload rfl rfl rfl ?_
                refine X_iload_n rfl rfl rfl rfl ?_
                refine X_icmp_ge (tgt := 88) rfl rfl rfl (fun q => absurd q (by decide)) (fun _ => ?_)
                refine X_aload_n rfl rfl rfl rfl ?_
                refine X_getR (a := 9) rfl rfl rfl ((congrFun F.1 2).trans s_2) rfl ((congrFun (F.2.1 2 (by decide)) 8).trans r_2_8) ?_
                refine X_aload_n rfl rfl rfl rfl ?_
                refine X_getI (v := (0 : Int32)) rfl rfl rfl ((congrFun F.1 2).trans s_2) rfl ((congrFun (F.2.2 2 (by decide)).1 1).trans i_2_1) ?_
                refine X_bipush (v := (8 : Int32)) rfl rfl rfl ?_
                refine X_imul (v := (0 : Int32)) rfl rfl rfl ?_
                refine X_iload rfl rfl rfl ?_
                refine X_iadd (v := (1 : Int32)) rfl rfl rfl ?_
                refine X_aload_n rfl rfl rfl rfl ?_
                refine X_iload_n rfl rfl rfl rfl ?_
                refine X_iload rfl rfl rfl ?_
                refine X_iadd (v := (1 : Int32)) rfl rfl rfl ?_
                refine X_iald (v := (nI ((n / 10) % 10))) rfl rfl ((congrFun F.1 354).trans s_354) (vp_in_d rfl) rfl ?_
                refine X_iast (k0 := 1) rfl rfl ((congrFun F.1 9).trans s_9) (vp_in_d rfl) rfl ?_
                refine X_iload rfl rfl rfl ?_
                refine X_iconst (v := (1 : Int32)) rfl rfl rfl ?_
                refine X_aload_n rfl rfl rfl rfl ?_
                refine X_iload_n rfl rfl rfl rfl ?_
                refine X_iload rfl rfl rfl ?_
                refine X_iadd (v := (1 : Int32)) rfl rfl rfl ?_
                refine X_iald (v := (nI ((n / 10) % 10))) rfl rfl ((congrFun F.1 354).trans s_354) (vp_in_d rfl) rfl ?_
                refine X_ishl (v := ((1 : Int32) <<< ((nI ((n / 10) % 10)) &&& 31))) rfl rfl rfl ?_
                refine X_ior (v := (((0 : Int32) ||| ((1 : Int32) <<< ((nI (((n / 10) / 10) % 10)) &&& 31))) ||| ((1 : Int32) <<< ((nI ((n / 10) % 10)) &&& 31)))) rfl rfl rfl ?_
                refine X_istore (i := 4) (ls' := [some (.ref 2), some (.ref 354), some (.int (0 : Int32)), some (.int (3 : Int32)), some (.int (((0 : Int32) ||| ((1 : Int32) <<< ((nI (((n / 10) / 10) % 10)) &&& 31))) ||| ((1 : Int32) <<< ((nI ((n / 10) % 10)) &&& 31)))), some (.int (1 : Int32))]) rfl rfl (Nat.le_of_ble_eq_true rfl) rfl ?_
                refine X_iinc (v := (2 : Int32)) (ls' := [some (.ref 2), some (.ref 354), some (.int (0 : Int32)), some (.int (3 : Int32)), some (.int (((0 : Int32) ||| ((1 : Int32) <<< ((nI (((n / 10) / 10) % 10)) &&& 31))) ||| ((1 : Int32) <<< ((nI ((n / 10) % 10)) &&& 31)))), some (.int (2 : Int32))]) rfl rfl rfl rfl rfl ?_
                refine LW_goto (tgt := 42) rfl rfl ?_
                refine X_iload rfl rfl rfl ?_
                refine X_iload_n rfl rfl rfl rfl ?_
                refine X_icmp_ge (tgt := 88) rfl rfl rfl (fun q => absurd q (by decide)) (fun _ => ?_)
                refine X_aload_n rfl rfl rfl rfl ?_
                refine X_getR (a := 9) rfl rfl rfl ((congrFun F.1 2).trans s_2) rfl ((congrFun (F.2.1 2 (by decide)) 8).trans r_2_8) ?_
                refine X_aload_n rfl rfl rfl rfl ?_
                refine X_getI (v := (0 : Int32)) rfl rfl rfl ((congrFun F.1 2).trans s_2) rfl ((congrFun (F.2.2 2 (by decide)).1 1).trans i_2_1) ?_
                refine X_bipush (v := (8 : Int32)) rfl rfl rfl ?_
                refine X_imul (v := (0 : Int32)) rfl rfl rfl ?_
                refine X_iload rfl rfl rfl ?_
                refine X_iadd (v := (2 : Int32)) rfl rfl rfl ?_
                refine X_aload_n rfl rfl rfl rfl ?_
                refine X_iload_n rfl rfl rfl rfl ?_
                refine X_iload rfl rfl rfl ?_
                refine X_iadd (v := (2 : Int32)) rfl rfl rfl ?_
                refine X_iald (v := (nI (n % 10))) rfl rfl ((congrFun F.1 354).trans s_354) (vp_in_d rfl) rfl ?_
                refine X_iast (k0 := 2) rfl rfl ((congrFun F.1 9).trans s_9) (vp_in_d rfl) rfl ?_
                refine X_iload rfl rfl rfl ?_
                refine X_iconst (v := (1 : Int32)) rfl rfl rfl ?_
                refine X_aload_n rfl rfl rfl rfl ?_
                refine X_iload_n rfl rfl rfl rfl ?_
                refine X_iload rfl rfl rfl ?_
                refine X_iadd (v := (2 : Int32)) rfl rfl rfl ?_
                refine X_iald (v := (nI (n % 10))) rfl rfl ((congrFun F.1 354).trans s_354) (vp_in_d rfl) rfl ?_
                refine X_ishl (v := ((1 : Int32) <<< ((nI (n % 10)) &&& 31))) rfl rfl rfl ?_
                refine X_ior (v := ((((0 : Int32) ||| ((1 : Int32) <<< ((nI (((n / 10) / 10) % 10)) &&& 31))) ||| ((1 : Int32) <<< ((nI ((n / 10) % 10)) &&& 31))) ||| ((1 : Int32) <<< ((nI (n % 10)) &&& 31)))) rfl rfl rfl ?_
                refine X_istore (i := 4) (ls' := [some (.ref 2), some (.ref 354), some (.int (0 : Int32)), some (.int (3 : Int32)), some (.int ((((0 : Int32) ||| ((1 : Int32) <<< ((nI (((n / 10) / 10) % 10)) &&& 31))) ||| ((1 : Int32) <<< ((nI ((n / 10) % 10)) &&& 31))) ||| ((1 : Int32) <<< ((nI (n % 10)) &&& 31)))), some (.int (2 : Int32))]) rfl rfl (Nat.le_of_ble_eq_true rfl) rfl ?_
                refine X_iinc (v := (3 : Int32)) (ls' := [some (.ref 2), some (.ref 354), some (.int (0 : Int32)), some (.int (3 : Int32)), some (.int ((((0 : Int32) ||| ((1 : Int32) <<< ((nI (((n / 10) / 10) % 10)) &&& 31))) ||| ((1 : Int32) <<< ((nI ((n / 10) % 10)) &&& 31))) ||| ((1 : Int32) <<< ((nI (n % 10)) &&& 31)))), some (.int (3 : Int32))]) rfl rfl rfl rfl rfl ?_
                refine LW_goto (tgt := 42) rfl rfl ?_
                refine X_iload rfl rfl rfl ?_
                refine X_iload_n rfl rfl rfl rfl ?_
                refine X_icmp_ge (tgt := 88) rfl rfl rfl (fun _ => ?_) (fun q => absurd q (by decide))
                refine X_aload_n rfl rfl rfl rfl ?_
                refine X_getR (a := 7) rfl rfl rfl ((congrFun F.1 2).trans s_2) rfl ((congrFun (F.2.1 2 (by decide)) 6).trans r_2_6) ?_
                refine X_aload_n rfl rfl rfl rfl ?_
                refine X_getI (v := (0 : Int32)) rfl rfl rfl ((congrFun F.1 2).trans s_2) rfl ((congrFun (F.2.2 2 (by decide)).1 1).trans i_2_1) ?_
                refine X_iload_n rfl rfl rfl rfl ?_
                refine X_iast (k0 := 0) rfl rfl ((congrFun F.1 7).trans s_7) (vp_in_d rfl) rfl ?_
                refine X_aload_n rfl rfl rfl rfl ?_
                refine X_getR (a := 8) rfl rfl rfl ((congrFun F.1 2).trans s_2) rfl ((congrFun (F.2.1 2 (by decide)) 7).trans r_2_7) ?_
                refine X_aload_n rfl rfl rfl rfl ?_
                refine X_getI (v := (0 : Int32)) rfl rfl rfl ((congrFun F.1 2).trans s_2) rfl ((congrFun (F.2.2 2 (by decide)).1 1).trans i_2_1) ?_
                refine X_iload rfl rfl rfl ?_
                refine X_iast (k0 := 0) rfl rfl ((congrFun F.1 8).trans s_8) (vp_in_d rfl) rfl ?_
                refine X_aload_n rfl rfl rfl rfl ?_
                refine X_dup rfl rfl rfl ?_
                refine X_getI (v := (0 : Int32)) rfl rfl rfl ((congrFun F.1 2).trans s_2) rfl ((congrFun (F.2.2 2 (by decide)).1 1).trans i_2_1) ?_
                refine X_iconst (v := (1 : Int32)) rfl rfl rfl ?_
                refine X_iadd (v := (1 : Int32)) rfl rfl rfl ?_
                refine X_putI rfl rfl rfl ((congrFun F.1 2).trans s_2) rfl rfl rfl rfl ?_
                refine X_aload_n rfl rfl rfl rfl ?_
                refine X_getI (v := (1 : Int32)) rfl rfl rfl ((congrFun F.1 2).trans s_2) rfl rfl ?_
                refine X_iconst (v := (1 : Int32)) rfl rfl rfl ?_
                refine X_isub (v := (0 : Int32)) rfl rfl rfl ?_
                refine LW_ireturn (st := []) rfl rfl rfl ?_
                refine LW_ireturn (st := []) rfl rfl rfl ⟨congrArg (fun z => some (Value.int z)) ?_, (Fr_putI (Fr_putI (Fr_putI (Fr_putI (Fr_putI (Fr_putI (Fr_putI (Fr_putI (Fr_putI E (by decide)) (by decide)) (by decide)) (by decide)) (by decide)) (by decide)) (by decide)) (by decide)) (by decide))⟩
                simp only [Int32.lt_iff_toInt_lt, Int32.le_iff_toInt_le, ← Int32.toInt_inj, (show (1 : Int32).toInt = 1 from rfl), (show (10 : Int32).toInt = 10 from rfl), (show (199999999 : Int32).toInt = 199999999 from rfl), (nI_toInt (n := ((n / 10) / 10) / 10) (by omega)), (nI_toInt (n := (n / 10) / 10) (by omega)), (nI_toInt (n := n) (by omega)), (nI_toInt (n := n / 10) (by omega))] at h1 h2 h3 h4 h6 h8 h9
                unfold f_sayN
                rw [if_pos (by omega)]
              · refine X_iconst (v := (-1 : Int32)) rfl rfl rfl ?_
                refine LW_ireturn (st := []) rfl rfl rfl ⟨congrArg (fun z => some (Value.int z)) ?_, E⟩
                simp only [Int32.lt_iff_toInt_lt, Int32.le_iff_toInt_le, ← Int32.toInt_inj, (show (1 : Int32).toInt = 1 from rfl), (show (10 : Int32).toInt = 10 from rfl), (show (199999999 : Int32).toInt = 199999999 from rfl), (nI_toInt (n := ((n / 10) / 10) / 10) (by omega)), (nI_toInt (n := (n / 10) / 10) (by omega)), (nI_toInt (n := n) (by omega)), (nI_toInt (n := n / 10) (by omega))] at h1 h2 h3 h4 h6 h8 h9
                unfold f_sayN
                rw [if_neg (by omega)]
            · refine X_iload_n rfl rfl rfl rfl ?_
              refine X_bipush (v := (10 : Int32)) rfl rfl rfl ?_
              refine X_idiv (v := (nI ((((n / 10) / 10) / 10) / 10))) rfl rfl (by decide) (nI_idiv (d := 10) (by omega) (by decide)) ?_
              refine X_istore_n (i := 3) (ls' := [some (.ref 0), some (.int (nI (n))), some (.int (3 : Int32)), some (.int (nI ((((n / 10) / 10) / 10) / 10))), some (.int (3 : Int32)), none]) rfl rfl rfl (Nat.le_of_ble_eq_true rfl) rfl ?_
              refine X_iinc (v := (4 : Int32)) (ls' := [some (.ref 0), some (.int (nI (n))), some (.int (4 : Int32)), some (.int (nI ((((n / 10) / 10) / 10) / 10))), some (.int (3 : Int32)), none]) rfl rfl rfl rfl rfl ?_
              refine X_iinc (v := (4 : Int32)) (ls' := [some (.ref 0), some (.int (nI (n))), some (.int (4 : Int32)), some (.int (nI ((((n / 10) / 10) / 10) / 10))), some (.int (4 : Int32)), none]) rfl rfl rfl rfl rfl ?_
              refine LW_goto (tgt := 21) rfl rfl ?_
              refine X_iload rfl rfl rfl ?_
              refine X_bipush (v := (8 : Int32)) rfl rfl rfl ?_
              refine X_icmp_ge (tgt := 48) rfl rfl rfl (fun q => absurd q (by decide)) (fun _ => ?_)
              refine X_iload_n rfl rfl rfl rfl ?_
              refine X_bipush (v := (10 : Int32)) rfl rfl rfl ?_
              refine X_icmp_lt (tgt := 48) rfl rfl rfl (fun h10 => ?_) (fun h10 => ?_)
              · refine X_iload_n rfl rfl rfl rfl ?_
                refine X_iconst (v := (1 : Int32)) rfl rfl rfl ?_
                refine X_icmp_eq (tgt := 55) rfl rfl rfl (fun h11 => ?_) (fun h11 => ?_)
                · refine X_iload_n rfl rfl rfl rfl ?_
                  refine X_istore (i := 4) (ls' := [some (.ref 0), some (.int (nI (n))), some (.int (4 : Int32)), some (.int (nI ((((n / 10) / 10) / 10) / 10))), some (.int (nI (n))), none]) rfl rfl (Nat.le_of_ble_eq_true rfl) rfl ?_
                  refine X_iload_n rfl rfl rfl rfl ?_
                  refine X_iconst (v := (1 : Int32)) rfl rfl rfl ?_
                  refine X_isub (v := (3 : Int32)) rfl rfl rfl ?_
                  refine X_istore (i := 5) (ls' := [some (.ref 0), some (.int (nI (n))), some (.int (4 : Int32)), some (.int (nI ((((n / 10) / 10) / 10) / 10))), some (.int (nI (n))), some (.int (3 : Int32))]) rfl rfl (Nat.le_of_ble_eq_true rfl) rfl ?_
                  refine X_iload rfl rfl rfl ?_
                  refine X_if_lt (tgt := 93) rfl rfl rfl (fun q => absurd q (by decide)) (fun _ => ?_)
                  refine X_aload_n rfl rfl rfl rfl ?_
                  refine X_getR (a := 354) rfl rfl rfl ((congrFun F.1 0).trans s_0) rfl ((congrFun (F.2.1 0 (by decide)) 9).trans r_0_9) ?_
                  refine X_iload rfl rfl rfl ?_
                  refine X_iload rfl rfl rfl ?_
                  refine X_bipush (v := (10 : Int32)) rfl rfl rfl ?_
                  refine X_irem (v := (nI (n % 10))) rfl rfl (by decide) (nI_irem (d := 10) (by omega) (by decide)) ?_
                  refine X_iast (k0 := 3) rfl rfl ((congrFun F.1 354).trans s_354) (vp_in_d rfl) rfl ?_
                  refine X_iload rfl rfl rfl ?_
                  refine X_bipush (v := (10 : Int32)) rfl rfl rfl ?_
                  refine X_idiv (v := (nI (n / 10))) rfl rfl (by decide) (nI_idiv (d := 10) (by omega) (by decide)) ?_
                  refine X_istore (i := 4) (ls' := [some (.ref 0), some (.int (nI (n))), some (.int (4 : Int32)), some (.int (nI ((((n / 10) / 10) / 10) / 10))), some (.int (nI (n / 10))), some (.int (3 : Int32))]) rfl rfl (Nat.le_of_ble_eq_true rfl) rfl ?_
                  refine X_iinc (v := (2 : Int32)) (ls' := [some (.ref 0), some (.int (nI (n))), some (.int (4 : Int32)), some (.int (nI ((((n / 10) / 10) / 10) / 10))), some (.int (nI (n / 10))), some (.int (2 : Int32))]) rfl rfl rfl rfl rfl ?_
                  refine LW_goto (tgt := 63) rfl rfl ?_
                  refine X_iload rfl rfl rfl ?_
                  refine X_if_lt (tgt := 93) rfl rfl rfl (fun q => absurd q (by decide)) (fun _ => ?_)
                  refine X_aload_n rfl rfl rfl rfl ?_
                  refine X_getR (a := 354) rfl rfl rfl ((congrFun F.1 0).trans s_0) rfl ((congrFun (F.2.1 0 (by decide)) 9).trans r_0_9) ?_
                  refine X_iload rfl rfl rfl ?_
                  refine X_iload rfl rfl rfl ?_
                  refine X_bipush (v := (10 : Int32)) rfl rfl rfl ?_
                  refine X_irem (v := (nI ((n / 10) % 10))) rfl rfl (by decide) (nI_irem (d := 10) (by omega) (by decide)) ?_
                  refine X_iast (k0 := 2) rfl rfl ((congrFun F.1 354).trans s_354) (vp_in_d rfl) rfl ?_
                  refine X_iload rfl rfl rfl ?_
                  refine X_bipush (v := (10 : Int32)) rfl rfl rfl ?_
                  refine X_idiv (v := (nI ((n / 10) / 10))) rfl rfl (by decide) (nI_idiv (d := 10) (by omega) (by decide)) ?_
                  refine X_istore (i := 4) (ls' := [some (.ref 0), some (.int (nI (n))), some (.int (4 : Int32)), some (.int (nI ((((n / 10) / 10) / 10) / 10))), some (.int (nI ((n / 10) / 10))), some (.int (2 : Int32))]) rfl rfl (Nat.le_of_ble_eq_true rfl) rfl ?_
                  refine X_iinc (v := (1 : Int32)) (ls' := [some (.ref 0), some (.int (nI (n))), some (.int (4 : Int32)), some (.int (nI ((((n / 10) / 10) / 10) / 10))), some (.int (nI ((n / 10) / 10))), some (.int (1 : Int32))]) rfl rfl rfl rfl rfl ?_
                  refine LW_goto (tgt := 63) rfl rfl ?_
                  refine X_iload rfl rfl rfl ?_
                  refine X_if_lt (tgt := 93) rfl rfl rfl (fun q => absurd q (by decide)) (fun _ => ?_)
                  refine X_aload_n rfl rfl rfl rfl ?_
                  refine X_getR (a := 354) rfl rfl rfl ((congrFun F.1 0).trans s_0) rfl ((congrFun (F.2.1 0 (by decide)) 9).trans r_0_9) ?_
                  refine X_iload rfl rfl rfl ?_
                  refine X_iload rfl rfl rfl ?_
                  refine X_bipush (v := (10 : Int32)) rfl rfl rfl ?_
                  refine X_irem (v := (nI (((n / 10) / 10) % 10))) rfl rfl (by decide) (nI_irem (d := 10) (by omega) (by decide)) ?_
                  refine X_iast (k0 := 1) rfl rfl ((congrFun F.1 354).trans s_354) (vp_in_d rfl) rfl ?_
                  refine X_iload rfl rfl rfl ?_
                  refine X_bipush (v := (10 : Int32)) rfl rfl rfl ?_
                  refine X_idiv (v := (nI (((n / 10) / 10) / 10))) rfl rfl (by decide) (nI_idiv (d := 10) (by omega) (by decide)) ?_
                  refine X_istore (i := 4) (ls' := [some (.ref 0), some (.int (nI (n))), some (.int (4 : Int32)), some (.int (nI ((((n / 10) / 10) / 10) / 10))), some (.int (nI (((n / 10) / 10) / 10))), some (.int (1 : Int32))]) rfl rfl (Nat.le_of_ble_eq_true rfl) rfl ?_
                  refine X_iinc (v := (0 : Int32)) (ls' := [some (.ref 0), some (.int (nI (n))), some (.int (4 : Int32)), some (.int (nI ((((n / 10) / 10) / 10) / 10))), some (.int (nI (((n / 10) / 10) / 10))), some (.int (0 : Int32))]) rfl rfl rfl rfl rfl ?_
                  refine LW_goto (tgt := 63) rfl rfl ?_
                  refine X_iload rfl rfl rfl ?_
                  refine X_if_lt (tgt := 93) rfl rfl rfl (fun q => absurd q (by decide)) (fun _ => ?_)
                  refine X_aload_n rfl rfl rfl rfl ?_
                  refine X_getR (a := 354) rfl rfl rfl ((congrFun F.1 0).trans s_0) rfl ((congrFun (F.2.1 0 (by decide)) 9).trans r_0_9) ?_
                  refine X_iload rfl rfl rfl ?_
                  refine X_iload rfl rfl rfl ?_
                  refine X_bipush (v := (10 : Int32)) rfl rfl rfl ?_
                  refine X_irem (v := (nI ((((n / 10) / 10) / 10) % 10))) rfl rfl (by decide) (nI_irem (d := 10) (by omega) (by decide)) ?_
                  refine X_iast (k0 := 0) rfl rfl ((congrFun F.1 354).trans s_354) (vp_in_d rfl) rfl ?_
                  refine X_iload rfl rfl rfl ?_
                  refine X_bipush (v := (10 : Int32)) rfl rfl rfl ?_
                  refine X_idiv (v := (nI ((((n / 10) / 10) / 10) / 10))) rfl rfl (by decide) (nI_idiv (d := 10) (by omega) (by decide)) ?_
                  refine X_istore (i := 4) (ls' := [some (.ref 0), some (.int (nI (n))), some (.int (4 : Int32)), some (.int (nI ((((n / 10) / 10) / 10) / 10))), some (.int (nI ((((n / 10) / 10) / 10) / 10))), some (.int (0 : Int32))]) rfl rfl (Nat.le_of_ble_eq_true rfl) rfl ?_
                  refine X_iinc (v := (-1 : Int32)) (ls' := [some (.ref 0), some (.int (nI (n))), some (.int (4 : Int32)), some (.int (nI ((((n / 10) / 10) / 10) / 10))), some (.int (nI ((((n / 10) / 10) / 10) / 10))), some (.int (-1 : Int32))]) rfl rfl rfl rfl rfl ?_
                  refine LW_goto (tgt := 63) rfl rfl ?_
                  refine X_iload rfl rfl rfl ?_
                  refine X_if_lt (tgt := 93) rfl rfl rfl (fun _ => ?_) (fun q => absurd q (by decide))
                  refine X_aload_n rfl rfl rfl rfl ?_
                  refine X_getR (a := 1) rfl rfl rfl ((congrFun F.1 0).trans s_0) rfl ((congrFun (F.2.1 0 (by decide)) 0).trans r_0_0) ?_
                  refine X_getR (a := 2) rfl rfl rfl ((congrFun F.1 1).trans s_1) rfl ((congrFun (F.2.1 1 (by decide)) 0).trans r_1_0) ?_
                  refine X_aload_n rfl rfl rfl rfl ?_
                  refine X_getR (a := 354) rfl rfl rfl ((congrFun F.1 0).trans s_0) rfl ((congrFun (F.2.1 0 (by decide)) 9).trans r_0_9) ?_
                  refine X_iconst (v := (0 : Int32)) rfl rfl rfl ?_
                  refine X_iload_n rfl rfl rfl rfl ?_
                  refine X_callV (as := [.ref 354, .int (0 : Int32), .int (4 : Int32)]) (st := []) rfl rfl rfl (by decide) rfl (Nat.le_of_ble_eq_true rfl) (by decide) (Nat.le_of_ble_eq_true rfl) rfl ((congrFun F.1 2).trans s_2) (by decide) ?_
                  refine LW_ls (ls' := [some (.ref 2), some (.ref 354), some (.int (0 : Int32)), some (.int (4 : Int32)), none, none]) rfl ?_
                  refine X_iload_n rfl rfl rfl rfl ?_
                  refine X_iconst (v := (1 : Int32)) rfl rfl rfl ?_
                  refine X_icmp_lt (tgt := 23) rfl rfl rfl (fun q => absurd q (by decide)) (fun _ => ?_)
                  refine X_iload_n rfl rfl rfl rfl ?_
                  refine X_bipush (v := (8 : Int32)) rfl rfl rfl ?_
                  refine X_icmp_gt (tgt := 23) rfl rfl rfl (fun q => absurd q (by decide)) (fun _ => ?_)
                  refine X_iload_n rfl rfl rfl rfl ?_
                  refine X_if_lt (tgt := 23) rfl rfl rfl (fun q => absurd q (by decide)) (fun _ => ?_)
                  refine X_iload_n rfl rfl rfl rfl ?_
                  refine X_iload_n rfl rfl rfl rfl ?_
                  refine X_iadd (v := (4 : Int32)) rfl rfl rfl ?_
                  refine X_aload_n rfl rfl rfl rfl ?_
                  refine X_alen (t0 := 0) (v := (8 : Int32)) rfl rfl ((congrFun F.1 354).trans s_354) rfl rfl ?_
                  refine X_icmp_le (tgt := 25) rfl rfl rfl (fun _ => ?_) (fun q => absurd q (by decide))
                  refine X_aload_n rfl rfl rfl rfl ?_
                  refine X_getI (v := (0 : Int32)) rfl rfl rfl ((congrFun F.1 2).trans s_2) rfl ((congrFun (F.2.2 2 (by decide)).1 1).trans i_2_1) ?_
                  refine X_bipush (v := (8 : Int32)) rfl rfl rfl ?_
                  refine X_icmp_lt (tgt := 36) rfl rfl rfl (fun _ => ?_) (fun q => absurd q (by decide))
                  refine X_iconst (v := (0 : Int32)) rfl rfl rfl ?_
                  refine X_istore (i := 4) (ls' := [some (.ref 2), some (.ref 354), some (.int (0 : Int32)), some (.int (4 : Int32)), some (.int (0 : Int32)), none]) rfl rfl (Nat.le_of_ble_eq_true rfl) rfl ?_
                  refine X_iconst (v := (0 : Int32)) rfl rfl rfl ?_
                  refine X_istore (i := 5) (ls' := [some (.ref 2), some (.ref 354), some (.int (0 : Int32)), some (.int (4 : Int32)), some (.int (0 : Int32)), some (.int (0 : Int32))]) rfl rfl (Nat.le_of_ble_eq_true rfl) rfl ?_
                  refine X_iload rfl rfl rfl ?_
                  refine X_iload_n rfl rfl rfl rfl ?_
                  refine X_icmp_ge (tgt := 88) rfl rfl rfl (fun q => absurd q (by decide)) (fun _ => ?_)
                  refine X_aload_n rfl rfl rfl rfl ?_
                  refine X_getR (a := 9) rfl rfl rfl ((congrFun F.1 2).trans s_2) rfl ((congrFun (F.2.1 2 (by decide)) 8).trans r_2_8) ?_
                  refine X_aload_n rfl rfl rfl rfl ?_
                  refine X_getI (v := (0 : Int32)) rfl rfl rfl ((congrFun F.1 2).trans s_2) rfl ((congrFun (F.2.2 2 (by decide)).1 1).trans i_2_1) ?_
                  refine X_bipush (v := (8 : Int32)) rfl rfl rfl ?_
                  refine X_imul (v := (0 : Int32)) rfl rfl rfl ?_
                  refine X_iload rfl rfl rfl ?_
                  refine X_iadd (v := (0 : Int32)) rfl rfl rfl ?_
                  refine X_aload_n rfl rfl rfl rfl ?_
                  refine X_iload_n rfl rfl rfl rfl ?_
                  refine X_iload rfl rfl rfl ?_
                  refine X_iadd (v := (0 : Int32)) rfl rfl rfl ?_
                  refine X_iald (v := (nI ((((n / 10) / 10) / 10) % 10))) rfl rfl ((congrFun F.1 354).trans s_354) (vp_in_d rfl) rfl ?_
                  refine X_iast (k0 := 0) rfl rfl ((congrFun F.1 9).trans s_9) (vp_in_d rfl) rfl ?_
                  refine X_iload rfl rfl rfl ?_
                  refine X_iconst (v := (1 : Int32)) rfl rfl rfl ?_
                  refine X_aload_n rfl rfl rfl rfl ?_
                  refine X_iload_n rfl rfl rfl rfl ?_
                  refine X_iload rfl rfl rfl ?_
                  refine X_iadd (v := (0 : Int32)) rfl rfl rfl ?_
                  refine X_iald (v := (nI ((((n / 10) / 10) / 10) % 10))) rfl rfl ((congrFun F.1 354).trans s_354) (vp_in_d rfl) rfl ?_
                  refine X_ishl (v := ((1 : Int32) <<< ((nI ((((n / 10) / 10) / 10) % 10)) &&& 31))) rfl rfl rfl ?_
                  refine X_ior (v := ((0 : Int32) ||| ((1 : Int32) <<< ((nI ((((n / 10) / 10) / 10) % 10)) &&& 31)))) rfl rfl rfl ?_
                  refine X_istore (i := 4) (ls' := [some (.ref 2), some (.ref 354), some (.int (0 : Int32)), some (.int (4 : Int32)), some (.int ((0 : Int32) ||| ((1 : Int32) <<< ((nI ((((n / 10) / 10) / 10) % 10)) &&& 31)))), some (.int (0 : Int32))]) rfl rfl (Nat.le_of_ble_eq_true rfl) rfl ?_
                  refine X_iinc (v := (1 : Int32)) (ls' := [some (.ref 2), some (.ref 354), some (.int (0 : Int32)), some (.int (4 : Int32)), some (.int ((0 : Int32) ||| ((1 : Int32) <<< ((nI ((((n / 10) / 10) / 10) % 10)) &&& 31)))), some (.int (1 : Int32))]) rfl rfl rfl rfl rfl ?_
                  refine LW_goto (tgt := 42) rfl rfl ?_
                  refine X_iload rfl rfl rfl ?_
                  refine X_iload_n rfl rfl rfl rfl ?_
                  refine X_icmp_ge (tgt := 88) rfl rfl rfl (fun q => absurd q (by decide)) (fun _ => ?_)
                  refine X_aload_n rfl rfl rfl rfl ?_
                  refine X_getR (a := 9) rfl rfl rfl ((congrFun F.1 2).trans s_2) rfl ((congrFun (F.2.1 2 (by decide)) 8).trans r_2_8) ?_
                  refine X_aload_n rfl rfl rfl rfl ?_
                  refine X_getI (v := (0 : Int32)) rfl rfl rfl ((congrFun F.1 2).trans s_2) rfl ((congrFun (F.2.2 2 (by decide)).1 1).trans i_2_1) ?_
                  refine X_bipush (v := (8 : Int32)) rfl rfl rfl ?_
                  refine X_imul (v := (0 : Int32)) rfl rfl rfl ?_
                  refine X_iload rfl rfl rfl ?_
                  refine X_iadd (v := (1 : Int32)) rfl rfl rfl ?_
                  refine X_aload_n rfl rfl rfl rfl ?_
                  refine X_iload_n rfl rfl rfl rfl ?_
                  refine X_iload rfl rfl rfl ?_
                  refine X_iadd (v := (1 : Int32)) rfl rfl rfl ?_
                  refine X_iald (v := (nI (((n / 10) / 10) % 10))) rfl rfl ((congrFun F.1 354).trans s_354) (vp_in_d rfl) rfl ?_
                  refine X_iast (k0 := 1) rfl rfl ((congrFun F.1 9).trans s_9) (vp_in_d rfl) rfl ?_
                  refine X_iload rfl rfl rfl ?_
                  refine X_iconst (v := (1 : Int32)) rfl rfl rfl ?_
                  refine X_aload_n rfl rfl rfl rfl ?_
                  refine X_iload_n rfl rfl rfl rfl ?_
                  refine X_iload rfl rfl rfl ?_
                  refine X_iadd (v := (1 : Int32)) rfl rfl rfl ?_
                  refine X_iald (v := (nI (((n / 10) / 10) % 10))) rfl rfl ((congrFun F.1 354).trans s_354) (vp_in_d rfl) rfl ?_
                  refine X_ishl (v := ((1 : Int32) <<< ((nI (((n / 10) / 10) % 10)) &&& 31))) rfl rfl rfl ?_
                  refine X_ior (v := (((0 : Int32) ||| ((1 : Int32) <<< ((nI ((((n / 10) / 10) / 10) % 10)) &&& 31))) ||| ((1 : Int32) <<< ((nI (((n / 10) / 10) % 10)) &&& 31)))) rfl rfl rfl ?_
                  refine X_istore (i := 4) (ls' := [some (.ref 2), some (.ref 354), some (.int (0 : Int32)), some (.int (4 : Int32)), some (.int (((0 : Int32) ||| ((1 : Int32) <<< ((nI ((((n / 10) / 10) / 10) % 10)) &&& 31))) ||| ((1 : Int32) <<< ((nI (((n / 10) / 10) % 10)) &&& 31)))), some (.int (1 : Int32))]) rfl rfl (Nat.le_of_ble_eq_true rfl) rfl ?_
                  refine X_iinc (v := (2 : Int32)) (ls' := [some (.ref 2), some (.ref 354), some (.int (0 : Int32)), some (.int (4 : Int32)), some (.int (((0 : Int32) ||| ((1 : Int32) <<< ((nI ((((n / 10) / 10) / 10) % 10)) &&& 31))) ||| ((1 : Int32) <<< ((nI (((n / 10) / 10) % 10)) &&& 31)))), some (.int (2 : Int32))]) rfl rfl rfl rfl rfl ?_
                  refine LW_goto (tgt := 42) rfl rfl ?_
                  refine X_iload rfl rfl rfl ?_
                  refine X_iload_n rfl rfl rfl rfl ?_
                  refine X_icmp_ge (tgt := 88) rfl rfl rfl (fun q => absurd q (by decide)) (fun _ => ?_)
                  refine X_aload_n rfl rfl rfl rfl ?_
                  refine X_getR (a := 9) rfl rfl rfl ((congrFun F.1 2).trans s_2) rfl ((congrFun (F.2.1 2 (by decide)) 8).trans r_2_8) ?_
                  refine X_aload_n rfl rfl rfl rfl ?_
                  refine X_getI (v := (0 : Int32)) rfl rfl rfl ((congrFun F.1 2).trans s_2) rfl ((congrFun (F.2.2 2 (by decide)).1 1).trans i_2_1) ?_
                  refine X_bipush (v := (8 : Int32)) rfl rfl rfl ?_
                  refine X_imul (v := (0 : Int32)) rfl rfl rfl ?_
                  refine X_iload rfl rfl rfl ?_
                  refine X_iadd (v := (2 : Int32)) rfl rfl rfl ?_
                  refine X_aload_n rfl rfl rfl rfl ?_
                  refine X_iload_n rfl rfl rfl rfl ?_
                  refine X_iload rfl rfl rfl ?_
                  refine X_iadd (v := (2 : Int32)) rfl rfl rfl ?_
                  refine X_iald (v := (nI ((n / 10) % 10))) rfl rfl ((congrFun F.1 354).trans s_354) (vp_in_d rfl) rfl ?_
                  refine X_iast (k0 := 2) rfl rfl ((congrFun F.1 9).trans s_9) (vp_in_d rfl) rfl ?_
                  refine X_iload rfl rfl rfl ?_
                  refine X_iconst (v := (1 : Int32)) rfl rfl rfl ?_
                  refine X_aload_n rfl rfl rfl rfl ?_
                  refine X_iload_n rfl rfl rfl rfl ?_
                  refine X_iload rfl rfl rfl ?_
                  refine X_iadd (v := (2 : Int32)) rfl rfl rfl ?_
                  refine X_iald (v := (nI ((n / 10) % 10))) rfl rfl ((congrFun F.1 354).trans s_354) (vp_in_d rfl) rfl ?_
                  refine X_ishl (v := ((1 : Int32) <<< ((nI ((n / 10) % 10)) &&& 31))) rfl rfl rfl ?_
                  refine X_ior (v := ((((0 : Int32) ||| ((1 : Int32) <<< ((nI ((((n / 10) / 10) / 10) % 10)) &&& 31))) ||| ((1 : Int32) <<< ((nI (((n / 10) / 10) % 10)) &&& 31))) ||| ((1 : Int32) <<< ((nI ((n / 10) % 10)) &&& 31)))) rfl rfl rfl ?_
                  refine X_istore (i := 4) (ls' := [some (.ref 2), some (.ref 354), some (.int (0 : Int32)), some (.int (4 : Int32)), some (.int ((((0 : Int32) ||| ((1 : Int32) <<< ((nI ((((n / 10) / 10) / 10) % 10)) &&& 31))) ||| ((1 : Int32) <<< ((nI (((n / 10) / 10) % 10)) &&& 31))) ||| ((1 : Int32) <<< ((nI ((n / 10) % 10)) &&& 31)))), some (.int (2 : Int32))]) rfl rfl (Nat.le_of_ble_eq_true rfl) rfl ?_
                  refine X_iinc (v := (3 : Int32)) (ls' := [some (.ref 2), some (.ref 354), some (.int (0 : Int32)), some (.int (4 : Int32)), some (.int ((((0 : Int32) ||| ((1 : Int32) <<< ((nI ((((n / 10) / 10) / 10) % 10)) &&& 31))) ||| ((1 : Int32) <<< ((nI (((n / 10) / 10) % 10)) &&& 31))) ||| ((1 : Int32) <<< ((nI ((n / 10) % 10)) &&& 31)))), some (.int (3 : Int32))]) rfl rfl rfl rfl rfl ?_
                  refine LW_goto (tgt := 42) rfl rfl ?_
                  refine X_iload rfl rfl rfl ?_
                  refine X_iload_n rfl rfl rfl rfl ?_
                  refine X_icmp_ge (tgt := 88) rfl rfl rfl (fun q => absurd q (by decide)) (fun _ => ?_)
                  refine X_aload_n rfl rfl rfl rfl ?_
                  refine X_getR (a := 9) rfl rfl rfl ((congrFun F.1 2).trans s_2) rfl ((congrFun (F.2.1 2 (by decide)) 8).trans r_2_8) ?_
                  refine X_aload_n rfl rfl rfl rfl ?_
                  refine X_getI (v := (0 : Int32)) rfl rfl rfl ((congrFun F.1 2).trans s_2) rfl ((congrFun (F.2.2 2 (by decide)).1 1).trans i_2_1) ?_
                  refine X_bipush (v := (8 : Int32)) rfl rfl rfl ?_
                  refine X_imul (v := (0 : Int32)) rfl rfl rfl ?_
                  refine X_iload rfl rfl rfl ?_
                  refine X_iadd (v := (3 : Int32)) rfl rfl rfl ?_
                  refine X_aload_n rfl rfl rfl rfl ?_
                  refine X_iload_n rfl rfl rfl rfl ?_
                  refine X_iload rfl rfl rfl ?_
                  refine X_iadd (v := (3 : Int32)) rfl rfl rfl ?_
                  refine X_iald (v := (nI (n % 10))) rfl rfl ((congrFun F.1 354).trans s_354) (vp_in_d rfl) rfl ?_
                  refine X_iast (k0 := 3) rfl rfl ((congrFun F.1 9).trans s_9) (vp_in_d rfl) rfl ?_
                  refine X_iload rfl rfl rfl ?_
                  refine X_iconst (v := (1 : Int32)) rfl rfl rfl ?_
                  refine X_aload_n rfl rfl rfl rfl ?_
                  refine X_iload_n rfl rfl rfl rfl ?_
                  refine X_iload rfl rfl rfl ?_
                  refine X_iadd (v := (3 : Int32)) rfl rfl rfl ?_
                  refine X_iald (v := (nI (n % 10))) rfl rfl ((congrFun F.1 354).trans s_354) (vp_in_d rfl) rfl ?_
                  refine X_ishl (v := ((1 : Int32) <<< ((nI (n % 10)) &&& 31))) rfl rfl rfl ?_
                  refine X_ior (v := (((((0 : Int32) ||| ((1 : Int32) <<< ((nI ((((n / 10) / 10) / 10) % 10)) &&& 31))) ||| ((1 : Int32) <<< ((nI (((n / 10) / 10) % 10)) &&& 31))) ||| ((1 : Int32) <<< ((nI ((n / 10) % 10)) &&& 31))) ||| ((1 : Int32) <<< ((nI (n % 10)) &&& 31)))) rfl rfl rfl ?_
                  refine X_istore (i := 4) (ls' := [some (.ref 2), some (.ref 354), some (.int (0 : Int32)), some (.int (4 : Int32)), some (.int (((((0 : Int32) ||| ((1 : Int32) <<< ((nI ((((n / 10) / 10) / 10) % 10)) &&& 31))) ||| ((1 : Int32) <<< ((nI (((n / 10) / 10) % 10)) &&& 31))) ||| ((1 : Int32) <<< ((nI ((n / 10) % 10)) &&& 31))) ||| ((1 : Int32) <<< ((nI (n % 10)) &&& 31)))), some (.int (3 : Int32))]) rfl rfl (Nat.le_of_ble_eq_true rfl) rfl ?_
                  refine X_iinc (v := (4 : Int32)) (ls' := [some (.ref 2), some (.ref 354), some (.int (0 : Int32)), some (.int (4 : Int32)), some (.int (((((0 : Int32) ||| ((1 : Int32) <<< ((nI ((((n / 10) / 10) / 10) % 10)) &&& 31))) ||| ((1 : Int32) <<< ((nI (((n / 10) / 10) % 10)) &&& 31))) ||| ((1 : Int32) <<< ((nI ((n / 10) % 10)) &&& 31))) ||| ((1 : Int32) <<< ((nI (n % 10)) &&& 31)))), some (.int (4 : Int32))]) rfl rfl rfl rfl rfl ?_
                  refine LW_goto (tgt := 42) rfl rfl ?_
                  refine X_iload rfl rfl rfl ?_
                  refine X_iload_n rfl rfl rfl rfl ?_
                  refine X_icmp_ge (tgt := 88) rfl rfl rfl (fun _ => ?_) (fun q => absurd q (by decide))
                  refine X_aload_n rfl rfl rfl rfl ?_
                  refine X_getR (a := 7) rfl rfl rfl ((congrFun F.1 2).trans s_2) rfl ((congrFun (F.2.1 2 (by decide)) 6).trans r_2_6) ?_
                  refine X_aload_n rfl rfl rfl rfl ?_
                  refine X_getI (v := (0 : Int32)) rfl rfl rfl ((congrFun F.1 2).trans s_2) rfl ((congrFun (F.2.2 2 (by decide)).1 1).trans i_2_1) ?_
                  refine X_iload_n rfl rfl rfl rfl ?_
                  refine X_iast (k0 := 0) rfl rfl ((congrFun F.1 7).trans s_7) (vp_in_d rfl) rfl ?_
                  refine X_aload_n rfl rfl rfl rfl ?_
                  refine X_getR (a := 8) rfl rfl rfl ((congrFun F.1 2).trans s_2) rfl ((congrFun (F.2.1 2 (by decide)) 7).trans r_2_7) ?_
                  refine X_aload_n rfl rfl rfl rfl ?_
                  refine X_getI (v := (0 : Int32)) rfl rfl rfl ((congrFun F.1 2).trans s_2) rfl ((congrFun (F.2.2 2 (by decide)).1 1).trans i_2_1) ?_
                  refine X_iload rfl rfl rfl ?_
                  refine X_iast (k0 := 0) rfl rfl ((congrFun F.1 8).trans s_8) (vp_in_d rfl) rfl ?_
                  refine X_aload_n rfl rfl rfl rfl ?_
                  refine X_dup rfl rfl rfl ?_
                  refine X_getI (v := (0 : Int32)) rfl rfl rfl ((congrFun F.1 2).trans s_2) rfl ((congrFun (F.2.2 2 (by decide)).1 1).trans i_2_1) ?_
                  refine X_iconst (v := (1 : Int32)) rfl rfl rfl ?_
                  refine X_iadd (v := (1 : Int32)) rfl rfl rfl ?_
                  refine X_putI rfl rfl rfl ((congrFun F.1 2).trans s_2) rfl rfl rfl rfl ?_
                  refine X_aload_n rfl rfl rfl rfl ?_
                  refine X_getI (v := (1 : Int32)) rfl rfl rfl ((congrFun F.1 2).trans s_2) rfl rfl ?_
                  refine X_iconst (v := (1 : Int32)) rfl rfl rfl ?_
                  refine X_isub (v := (0 : Int32)) rfl rfl rfl ?_
                  refine LW_ireturn (st := []) rfl rfl rfl ?_
                  refine LW_ireturn (st := []) rfl rfl rfl ⟨congrArg (fun z => some (Value.int z)) ?_, (Fr_putI (Fr_putI (Fr_putI (Fr_putI (Fr_putI (Fr_putI (Fr_putI (Fr_putI (Fr_putI (Fr_putI (Fr_putI E (by decide)) (by decide)) (by decide)) (by decide)) (by decide)) (by decide)) (by decide)) (by decide)) (by decide)) (by decide)) (by decide))⟩
                  simp only [Int32.lt_iff_toInt_lt, Int32.le_iff_toInt_le, ← Int32.toInt_inj, (show (1 : Int32).toInt = 1 from rfl), (show (10 : Int32).toInt = 10 from rfl), (show (199999999 : Int32).toInt = 199999999 from rfl), (nI_toInt (n := (((n / 10) / 10) / 10) / 10) (by omega)), (nI_toInt (n := ((n / 10) / 10) / 10) (by omega)), (nI_toInt (n := (n / 10) / 10) (by omega)), (nI_toInt (n := n) (by omega)), (nI_toInt (n := n / 10) (by omega))] at h1 h2 h3 h4 h6 h8 h10 h11
                  unfold f_sayN
                  rw [if_pos (by omega)]
                · refine X_iconst (v := (-1 : Int32)) rfl rfl rfl ?_
                  refine LW_ireturn (st := []) rfl rfl rfl ⟨congrArg (fun z => some (Value.int z)) ?_, E⟩
                  simp only [Int32.lt_iff_toInt_lt, Int32.le_iff_toInt_le, ← Int32.toInt_inj, (show (1 : Int32).toInt = 1 from rfl), (show (10 : Int32).toInt = 10 from rfl), (show (199999999 : Int32).toInt = 199999999 from rfl), (nI_toInt (n := (((n / 10) / 10) / 10) / 10) (by omega)), (nI_toInt (n := ((n / 10) / 10) / 10) (by omega)), (nI_toInt (n := (n / 10) / 10) (by omega)), (nI_toInt (n := n) (by omega)), (nI_toInt (n := n / 10) (by omega))] at h1 h2 h3 h4 h6 h8 h10 h11
                  unfold f_sayN
                  rw [if_neg (by omega)]
              · refine X_iload_n rfl rfl rfl rfl ?_
                refine X_bipush (v := (10 : Int32)) rfl rfl rfl ?_
                refine X_idiv (v := (nI (((((n / 10) / 10) / 10) / 10) / 10))) rfl rfl (by decide) (nI_idiv (d := 10) (by omega) (by decide)) ?_
                refine X_istore_n (i := 3) (ls' := [some (.ref 0), some (.int (nI (n))), some (.int (4 : Int32)), some (.int (nI (((((n / 10) / 10) / 10) / 10) / 10))), some (.int (4 : Int32)), none]) rfl rfl rfl (Nat.le_of_ble_eq_true rfl) rfl ?_
                refine X_iinc (v := (5 : Int32)) (ls' := [some (.ref 0), some (.int (nI (n))), some (.int (5 : Int32)), some (.int (nI (((((n / 10) / 10) / 10) / 10) / 10))), some (.int (4 : Int32)), none]) rfl rfl rfl rfl rfl ?_
                refine X_iinc (v := (5 : Int32)) (ls' := [some (.ref 0), some (.int (nI (n))), some (.int (5 : Int32)), some (.int (nI (((((n / 10) / 10) / 10) / 10) / 10))), some (.int (5 : Int32)), none]) rfl rfl rfl rfl rfl ?_
                refine LW_goto (tgt := 21) rfl rfl ?_
                refine X_iload rfl rfl rfl ?_
                refine X_bipush (v := (8 : Int32)) rfl rfl rfl ?_
                refine X_icmp_ge (tgt := 48) rfl rfl rfl (fun q => absurd q (by decide)) (fun _ => ?_)
                refine X_iload_n rfl rfl rfl rfl ?_
                refine X_bipush (v := (10 : Int32)) rfl rfl rfl ?_
                refine X_icmp_lt (tgt := 48) rfl rfl rfl (fun h12 => ?_) (fun h12 => ?_)
                · refine X_iload_n rfl rfl rfl rfl ?_
                  refine X_iconst (v := (1 : Int32)) rfl rfl rfl ?_
                  refine X_icmp_eq (tgt := 55) rfl rfl rfl (fun h13 => ?_) (fun h13 => ?_)
                  · refine X_iload_n rfl rfl rfl rfl ?_
                    refine X_istore (i := 4) (ls' := [some (.ref 0), some (.int (nI (n))), some (.int (5 : Int32)), some (.int (nI (((((n / 10) / 10) / 10) / 10) / 10))), some (.int (nI (n))), none]) rfl rfl (Nat.le_of_ble_eq_true rfl) rfl ?_
                    refine X_iload_n rfl rfl rfl rfl ?_
                    refine X_iconst (v := (1 : Int32)) rfl rfl rfl ?_
                    refine X_isub (v := (4 : Int32)) rfl rfl rfl ?_
                    refine X_istore (i := 5) (ls' := [some (.ref 0), some (.int (nI (n))), some (.int (5 : Int32)), some (.int (nI (((((n / 10) / 10) / 10) / 10) / 10))), some (.int (nI (n))), some (.int (4 : Int32))]) rfl rfl (Nat.le_of_ble_eq_true rfl) rfl ?_
                    refine X_iload rfl rfl rfl ?_
                    refine X_if_lt (tgt := 93) rfl rfl rfl (fun q => absurd q (by decide)) (fun _ => ?_)
                    refine X_aload_n rfl rfl rfl rfl ?_
                    refine X_getR (a := 354) rfl rfl rfl ((congrFun F.1 0).trans s_0) rfl ((congrFun (F.2.1 0 (by decide)) 9).trans r_0_9) ?_
                    refine X_iload rfl rfl rfl ?_
                    refine X_iload rfl rfl rfl ?_
                    refine X_bipush (v := (10 : Int32)) rfl rfl rfl ?_
                    refine X_irem (v := (nI (n % 10))) rfl rfl (by decide) (nI_irem (d := 10) (by omega) (by decide)) ?_
                    refine X_iast (k0 := 4) rfl rfl ((congrFun F.1 354).trans s_354) (vp_in_d rfl) rfl ?_
                    refine X_iload rfl rfl rfl ?_
                    refine X_bipush (v := (10 : Int32)) rfl rfl rfl ?_
                    refine X_idiv (v := (nI (n / 10))) rfl rfl (by decide) (nI_idiv (d := 10) (by omega) (by decide)) ?_
                    refine X_istore (i := 4) (ls' := [some (.ref 0), some (.int (nI (n))), some (.int (5 : Int32)), some (.int (nI (((((n / 10) / 10) / 10) / 10) / 10))), some (.int (nI (n / 10))), some (.int (4 : Int32))]) rfl rfl (Nat.le_of_ble_eq_true rfl) rfl ?_
                    refine X_iinc (v := (3 : Int32)) (ls' := [some (.ref 0), some (.int (nI (n))), some (.int (5 : Int32)), some (.int (nI (((((n / 10) / 10) / 10) / 10) / 10))), some (.int (nI (n / 10))), some (.int (3 : Int32))]) rfl rfl rfl rfl rfl ?_
                    refine LW_goto (tgt := 63) rfl rfl ?_
                    refine X_iload rfl rfl rfl ?_
                    refine X_if_lt (tgt := 93) rfl rfl rfl (fun q => absurd q (by decide)) (fun _ => ?_)
                    refine X_aload_n rfl rfl rfl rfl ?_
                    refine X_getR (a := 354) rfl rfl rfl ((congrFun F.1 0).trans s_0) rfl ((congrFun (F.2.1 0 (by decide)) 9).trans r_0_9) ?_
                    refine X_iload rfl rfl rfl ?_
                    refine X_iload rfl rfl rfl ?_
                    refine X_bipush (v := (10 : Int32)) rfl rfl rfl ?_
                    refine X_irem (v := (nI ((n / 10) % 10))) rfl rfl (by decide) (nI_irem (d := 10) (by omega) (by decide)) ?_
                    refine X_iast (k0 := 3) rfl rfl ((congrFun F.1 354).trans s_354) (vp_in_d rfl) rfl ?_
                    refine X_iload rfl rfl rfl ?_
                    refine X_bipush (v := (10 : Int32)) rfl rfl rfl ?_
                    refine X_idiv (v := (nI ((n / 10) / 10))) rfl rfl (by decide) (nI_idiv (d := 10) (by omega) (by decide)) ?_
                    refine X_istore (i := 4) (ls' := [some (.ref 0), some (.int (nI (n))), some (.int (5 : Int32)), some (.int (nI (((((n / 10) / 10) / 10) / 10) / 10))), some (.int (nI ((n / 10) / 10))), some (.int (3 : Int32))]) rfl rfl (Nat.le_of_ble_eq_true rfl) rfl ?_
                    refine X_iinc (v := (2 : Int32)) (ls' := [some (.ref 0), some (.int (nI (n))), some (.int (5 : Int32)), some (.int (nI (((((n / 10) / 10) / 10) / 10) / 10))), some (.int (nI ((n / 10) / 10))), some (.int (2 : Int32))]) rfl rfl rfl rfl rfl ?_
                    refine LW_goto (tgt := 63) rfl rfl ?_
                    refine X_iload rfl rfl rfl ?_
                    refine X_if_lt (tgt := 93) rfl rfl rfl (fun q => absurd q (by decide)) (fun _ => ?_)
                    refine X_aload_n rfl rfl rfl rfl ?_
                    refine X_getR (a := 354) rfl rfl rfl ((congrFun F.1 0).trans s_0) rfl ((congrFun (F.2.1 0 (by decide)) 9).trans r_0_9) ?_
                    refine X_iload rfl rfl rfl ?_
                    refine X_iload rfl rfl rfl ?_
                    refine X_bipush (v := (10 : Int32)) rfl rfl rfl ?_
                    refine X_irem (v := (nI (((n / 10) / 10) % 10))) rfl rfl (by decide) (nI_irem (d := 10) (by omega) (by decide)) ?_
                    refine X_iast (k0 := 2) rfl rfl ((congrFun F.1 354).trans s_354) (vp_in_d rfl) rfl ?_
                    refine X_iload rfl rfl rfl ?_
                    refine X_bipush (v := (10 : Int32)) rfl rfl rfl ?_
                    refine X_idiv (v := (nI (((n / 10) / 10) / 10))) rfl rfl (by decide) (nI_idiv (d := 10) (by omega) (by decide)) ?_
                    refine X_istore (i := 4) (ls' := [some (.ref 0), some (.int (nI (n))), some (.int (5 : Int32)), some (.int (nI (((((n / 10) / 10) / 10) / 10) / 10))), some (.int (nI (((n / 10) / 10) / 10))), some (.int (2 : Int32))]) rfl rfl (Nat.le_of_ble_eq_true rfl) rfl ?_
                    refine X_iinc (v := (1 : Int32)) (ls' := [some (.ref 0), some (.int (nI (n))), some (.int (5 : Int32)), some (.int (nI (((((n / 10) / 10) / 10) / 10) / 10))), some (.int (nI (((n / 10) / 10) / 10))), some (.int (1 : Int32))]) rfl rfl rfl rfl rfl ?_
                    refine LW_goto (tgt := 63) rfl rfl ?_
                    refine X_iload rfl rfl rfl ?_
                    refine X_if_lt (tgt := 93) rfl rfl rfl (fun q => absurd q (by decide)) (fun _ => ?_)
                    refine X_aload_n rfl rfl rfl rfl ?_
                    refine X_getR (a := 354) rfl rfl rfl ((congrFun F.1 0).trans s_0) rfl ((congrFun (F.2.1 0 (by decide)) 9).trans r_0_9) ?_
                    refine X_iload rfl rfl rfl ?_
                    refine X_iload rfl rfl rfl ?_
                    refine X_bipush (v := (10 : Int32)) rfl rfl rfl ?_
                    refine X_irem (v := (nI ((((n / 10) / 10) / 10) % 10))) rfl rfl (by decide) (nI_irem (d := 10) (by omega) (by decide)) ?_
                    refine X_iast (k0 := 1) rfl rfl ((congrFun F.1 354).trans s_354) (vp_in_d rfl) rfl ?_
                    refine X_iload rfl rfl rfl ?_
                    refine X_bipush (v := (10 : Int32)) rfl rfl rfl ?_
                    refine X_idiv (v := (nI ((((n / 10) / 10) / 10) / 10))) rfl rfl (by decide) (nI_idiv (d := 10) (by omega) (by decide)) ?_
                    refine X_istore (i := 4) (ls' := [some (.ref 0), some (.int (nI (n))), some (.int (5 : Int32)), some (.int (nI (((((n / 10) / 10) / 10) / 10) / 10))), some (.int (nI ((((n / 10) / 10) / 10) / 10))), some (.int (1 : Int32))]) rfl rfl (Nat.le_of_ble_eq_true rfl) rfl ?_
                    refine X_iinc (v := (0 : Int32)) (ls' := [some (.ref 0), some (.int (nI (n))), some (.int (5 : Int32)), some (.int (nI (((((n / 10) / 10) / 10) / 10) / 10))), some (.int (nI ((((n / 10) / 10) / 10) / 10))), some (.int (0 : Int32))]) rfl rfl rfl rfl rfl ?_
                    refine LW_goto (tgt := 63) rfl rfl ?_
                    refine X_iload rfl rfl rfl ?_
                    refine X_if_lt (tgt := 93) rfl rfl rfl (fun q => absurd q (by decide)) (fun _ => ?_)
                    refine X_aload_n rfl rfl rfl rfl ?_
                    refine X_getR (a := 354) rfl rfl rfl ((congrFun F.1 0).trans s_0) rfl ((congrFun (F.2.1 0 (by decide)) 9).trans r_0_9) ?_
                    refine X_iload rfl rfl rfl ?_
                    refine X_iload rfl rfl rfl ?_
                    refine X_bipush (v := (10 : Int32)) rfl rfl rfl ?_
                    refine X_irem (v := (nI (((((n / 10) / 10) / 10) / 10) % 10))) rfl rfl (by decide) (nI_irem (d := 10) (by omega) (by decide)) ?_
                    refine X_iast (k0 := 0) rfl rfl ((congrFun F.1 354).trans s_354) (vp_in_d rfl) rfl ?_
                    refine X_iload rfl rfl rfl ?_
                    refine X_bipush (v := (10 : Int32)) rfl rfl rfl ?_
                    refine X_idiv (v := (nI (((((n / 10) / 10) / 10) / 10) / 10))) rfl rfl (by decide) (nI_idiv (d := 10) (by omega) (by decide)) ?_
                    refine X_istore (i := 4) (ls' := [some (.ref 0), some (.int (nI (n))), some (.int (5 : Int32)), some (.int (nI (((((n / 10) / 10) / 10) / 10) / 10))), some (.int (nI (((((n / 10) / 10) / 10) / 10) / 10))), some (.int (0 : Int32))]) rfl rfl (Nat.le_of_ble_eq_true rfl) rfl ?_
                    refine X_iinc (v := (-1 : Int32)) (ls' := [some (.ref 0), some (.int (nI (n))), some (.int (5 : Int32)), some (.int (nI (((((n / 10) / 10) / 10) / 10) / 10))), some (.int (nI (((((n / 10) / 10) / 10) / 10) / 10))), some (.int (-1 : Int32))]) rfl rfl rfl rfl rfl ?_
                    refine LW_goto (tgt := 63) rfl rfl ?_
                    refine X_iload rfl rfl rfl ?_
                    refine X_if_lt (tgt := 93) rfl rfl rfl (fun _ => ?_) (fun q => absurd q (by decide))
                    refine X_aload_n rfl rfl rfl rfl ?_
                    refine X_getR (a := 1) rfl rfl rfl ((congrFun F.1 0).trans s_0) rfl ((congrFun (F.2.1 0 (by decide)) 0).trans r_0_0) ?_
                    refine X_getR (a := 2) rfl rfl rfl ((congrFun F.1 1).trans s_1) rfl ((congrFun (F.2.1 1 (by decide)) 0).trans r_1_0) ?_
                    refine X_aload_n rfl rfl rfl rfl ?_
                    refine X_getR (a := 354) rfl rfl rfl ((congrFun F.1 0).trans s_0) rfl ((congrFun (F.2.1 0 (by decide)) 9).trans r_0_9) ?_
                    refine X_iconst (v := (0 : Int32)) rfl rfl rfl ?_
                    refine X_iload_n rfl rfl rfl rfl ?_
                    refine X_callV (as := [.ref 354, .int (0 : Int32), .int (5 : Int32)]) (st := []) rfl rfl rfl (by decide) rfl (Nat.le_of_ble_eq_true rfl) (by decide) (Nat.le_of_ble_eq_true rfl) rfl ((congrFun F.1 2).trans s_2) (by decide) ?_
                    refine LW_ls (ls' := [some (.ref 2), some (.ref 354), some (.int (0 : Int32)), some (.int (5 : Int32)), none, none]) rfl ?_
                    refine X_iload_n rfl rfl rfl rfl ?_
                    refine X_iconst (v := (1 : Int32)) rfl rfl rfl ?_
                    refine X_icmp_lt (tgt := 23) rfl rfl rfl (fun q => absurd q (by decide)) (fun _ => ?_)
                    refine X_iload_n rfl rfl rfl rfl ?_
                    refine X_bipush (v := (8 : Int32)) rfl rfl rfl ?_
                    refine X_icmp_gt (tgt := 23) rfl rfl rfl (fun q => absurd q (by decide)) (fun _ => ?_)
                    refine X_iload_n rfl rfl rfl rfl ?_
                    refine X_if_lt (tgt := 23) rfl rfl rfl (fun q => absurd q (by decide)) (fun _ => ?_)
                    refine X_iload_n rfl rfl rfl rfl ?_
                    refine X_iload_n rfl rfl rfl rfl ?_
                    refine X_iadd (v := (5 : Int32)) rfl rfl rfl ?_
                    refine X_aload_n rfl rfl rfl rfl ?_
                    refine X_alen (t0 := 0) (v := (8 : Int32)) rfl rfl ((congrFun F.1 354).trans s_354) rfl rfl ?_
                    refine X_icmp_le (tgt := 25) rfl rfl rfl (fun _ => ?_) (fun q => absurd q (by decide))
                    refine X_aload_n rfl rfl rfl rfl ?_
                    refine X_getI (v := (0 : Int32)) rfl rfl rfl ((congrFun F.1 2).trans s_2) rfl ((congrFun (F.2.2 2 (by decide)).1 1).trans i_2_1) ?_
                    refine X_bipush (v := (8 : Int32)) rfl rfl rfl ?_
                    refine X_icmp_lt (tgt := 36) rfl rfl rfl (fun _ => ?_) (fun q => absurd q (by decide))
                    refine X_iconst (v := (0 : Int32)) rfl rfl rfl ?_
                    refine X_istore (i := 4) (ls' := [some (.ref 2), some (.ref 354), some (.int (0 : Int32)), some (.int (5 : Int32)), some (.int (0 : Int32)), none]) rfl rfl (Nat.le_of_ble_eq_true rfl) rfl ?_
                    refine X_iconst (v := (0 : Int32)) rfl rfl rfl ?_
                    refine X_istore (i := 5) (ls' := [some (.ref 2), some (.ref 354), some (.int (0 : Int32)), some (.int (5 : Int32)), some (.int (0 : Int32)), some (.int (0 : Int32))]) rfl rfl (Nat.le_of_ble_eq_true rfl) rfl ?_
                    refine X_iload rfl rfl rfl ?_
                    refine X_iload_n rfl rfl rfl rfl ?_
                    refine X_icmp_ge (tgt := 88) rfl rfl rfl (fun q => absurd q (by decide)) (fun _ => ?_)
                    refine X_aload_n rfl rfl rfl rfl ?_
                    refine X_getR (a := 9) rfl rfl rfl ((congrFun F.1 2).trans s_2) rfl ((congrFun (F.2.1 2 (by decide)) 8).trans r_2_8) ?_
                    refine X_aload_n rfl rfl rfl rfl ?_
                    refine X_getI (v := (0 : Int32)) rfl rfl rfl ((congrFun F.1 2).trans s_2) rfl ((congrFun (F.2.2 2 (by decide)).1 1).trans i_2_1) ?_
                    refine X_bipush (v := (8 : Int32)) rfl rfl rfl ?_
                    refine X_imul (v := (0 : Int32)) rfl rfl rfl ?_
                    refine X_iload rfl rfl rfl ?_
                    refine X_iadd (v := (0 : Int32)) rfl rfl rfl ?_
                    refine X_aload_n rfl rfl rfl rfl ?_
                    refine X_iload_n rfl rfl rfl rfl ?_
                    refine X_iload rfl rfl rfl ?_
                    refine X_iadd (v := (0 : Int32)) rfl rfl rfl ?_
                    refine X_iald (v := (nI (((((n / 10) / 10) / 10) / 10) % 10))) rfl rfl ((congrFun F.1 354).trans s_354) (vp_in_d rfl) rfl ?_
                    refine X_iast (k0 := 0) rfl rfl ((congrFun F.1 9).trans s_9) (vp_in_d rfl) rfl ?_
                    refine X_iload rfl rfl rfl ?_
                    refine X_iconst (v := (1 : Int32)) rfl rfl rfl ?_
                    refine X_aload_n rfl rfl rfl rfl ?_
                    refine X_iload_n rfl rfl rfl rfl ?_
                    refine X_iload rfl rfl rfl ?_
                    refine X_iadd (v := (0 : Int32)) rfl rfl rfl ?_
                    refine X_iald (v := (nI (((((n / 10) / 10) / 10) / 10) % 10))) rfl rfl ((congrFun F.1 354).trans s_354) (vp_in_d rfl) rfl ?_
                    refine X_ishl (v := ((1 : Int32) <<< ((nI (((((n / 10) / 10) / 10) / 10) % 10)) &&& 31))) rfl rfl rfl ?_
                    refine X_ior (v := ((0 : Int32) ||| ((1 : Int32) <<< ((nI (((((n / 10) / 10) / 10) / 10) % 10)) &&& 31)))) rfl rfl rfl ?_
                    refine X_istore (i := 4) (ls' := [some (.ref 2), some (.ref 354), some (.int (0 : Int32)), some (.int (5 : Int32)), some (.int ((0 : Int32) ||| ((1 : Int32) <<< ((nI (((((n / 10) / 10) / 10) / 10) % 10)) &&& 31)))), some (.int (0 : Int32))]) rfl rfl (Nat.le_of_ble_eq_true rfl) rfl ?_
                    refine X_iinc (v := (1 : Int32)) (ls' := [some (.ref 2), some (.ref 354), some (.int (0 : Int32)), some (.int (5 : Int32)), some (.int ((0 : Int32) ||| ((1 : Int32) <<< ((nI (((((n / 10) / 10) / 10) / 10) % 10)) &&& 31)))), some (.int (1 : Int32))]) rfl rfl rfl rfl rfl ?_
                    refine LW_goto (tgt := 42) rfl rfl ?_
                    refine X_iload rfl rfl rfl ?_
                    refine X_iload_n rfl rfl rfl rfl ?_
                    refine X_icmp_ge (tgt := 88) rfl rfl rfl (fun q => absurd q (by decide)) (fun _ => ?_)
                    refine X_aload_n rfl rfl rfl rfl ?_
                    refine X_getR (a := 9) rfl rfl rfl ((congrFun F.1 2).trans s_2) rfl ((congrFun (F.2.1 2 (by decide)) 8).trans r_2_8) ?_
                    refine X_aload_n rfl rfl rfl rfl ?_
                    refine X_getI (v := (0 : Int32)) rfl rfl rfl ((congrFun F.1 2).trans s_2) rfl ((congrFun (F.2.2 2 (by decide)).1 1).trans i_2_1) ?_
                    refine X_bipush (v := (8 : Int32)) rfl rfl rfl ?_
                    refine X_imul (v := (0 : Int32)) rfl rfl rfl ?_
                    refine X_iload rfl rfl rfl ?_
                    refine X_iadd (v := (1 : Int32)) rfl rfl rfl ?_
                    refine X_aload_n rfl rfl rfl rfl ?_
                    refine X_iload_n rfl rfl rfl rfl ?_
                    refine X_iload rfl rfl rfl ?_
                    refine X_iadd (v := (1 : Int32)) rfl rfl rfl ?_
                    refine X_iald (v := (nI ((((n / 10) / 10) / 10) % 10))) rfl rfl ((congrFun F.1 354).trans s_354) (vp_in_d rfl) rfl ?_
                    refine X_iast (k0 := 1) rfl rfl ((congrFun F.1 9).trans s_9) (vp_in_d rfl) rfl ?_
                    refine X_iload rfl rfl rfl ?_
                    refine X_iconst (v := (1 : Int32)) rfl rfl rfl ?_
                    refine X_aload_n rfl rfl rfl rfl ?_
                    refine X_iload_n rfl rfl rfl rfl ?_
                    refine X_iload rfl rfl rfl ?_
                    refine X_iadd (v := (1 : Int32)) rfl rfl rfl ?_
                    refine X_iald (v := (nI ((((n / 10) / 10) / 10) % 10))) rfl rfl ((congrFun F.1 354).trans s_354) (vp_in_d rfl) rfl ?_
                    refine X_ishl (v := ((1 : Int32) <<< ((nI ((((n / 10) / 10) / 10) % 10)) &&& 31))) rfl rfl rfl ?_
                    refine X_ior (v := (((0 : Int32) ||| ((1 : Int32) <<< ((nI (((((n / 10) / 10) / 10) / 10) % 10)) &&& 31))) ||| ((1 : Int32) <<< ((nI ((((n / 10) / 10) / 10) % 10)) &&& 31)))) rfl rfl rfl ?_
                    refine X_istore (i := 4) (ls' := [some (.ref 2), some (.ref 354), some (.int (0 : Int32)), some (.int (5 : Int32)), some (.int (((0 : Int32) ||| ((1 : Int32) <<< ((nI (((((n / 10) / 10) / 10) / 10) % 10)) &&& 31))) ||| ((1 : Int32) <<< ((nI ((((n / 10) / 10) / 10) % 10)) &&& 31)))), some (.int (1 : Int32))]) rfl rfl (Nat.le_of_ble_eq_true rfl) rfl ?_
                    refine X_iinc (v := (2 : Int32)) (ls' := [some (.ref 2), some (.ref 354), some (.int (0 : Int32)), some (.int (5 : Int32)), some (.int (((0 : Int32) ||| ((1 : Int32) <<< ((nI (((((n / 10) / 10) / 10) / 10) % 10)) &&& 31))) ||| ((1 : Int32) <<< ((nI ((((n / 10) / 10) / 10) % 10)) &&& 31)))), some (.int (2 : Int32))]) rfl rfl rfl rfl rfl ?_
                    refine LW_goto (tgt := 42) rfl rfl ?_
                    refine X_iload rfl rfl rfl ?_
                    refine X_iload_n rfl rfl rfl rfl ?_
                    refine X_icmp_ge (tgt := 88) rfl rfl rfl (fun q => absurd q (by decide)) (fun _ => ?_)
                    refine X_aload_n rfl rfl rfl rfl ?_
                    refine X_getR (a := 9) rfl rfl rfl ((congrFun F.1 2).trans s_2) rfl ((congrFun (F.2.1 2 (by decide)) 8).trans r_2_8) ?_
                    refine X_aload_n rfl rfl rfl rfl ?_
                    refine X_getI (v := (0 : Int32)) rfl rfl rfl ((congrFun F.1 2).trans s_2) rfl ((congrFun (F.2.2 2 (by decide)).1 1).trans i_2_1) ?_
                    refine X_bipush (v := (8 : Int32)) rfl rfl rfl ?_
                    refine X_imul (v := (0 : Int32)) rfl rfl rfl ?_
                    refine X_iload rfl rfl rfl ?_
                    refine X_iadd (v := (2 : Int32)) rfl rfl rfl ?_
                    refine X_aload_n rfl rfl rfl rfl ?_
                    refine X_iload_n rfl rfl rfl rfl ?_
                    refine X_iload rfl rfl rfl ?_
                    refine X_iadd (v := (2 : Int32)) rfl rfl rfl ?_
                    refine X_iald (v := (nI (((n / 10) / 10) % 10))) rfl rfl ((congrFun F.1 354).trans s_354) (vp_in_d rfl) rfl ?_
                    refine X_iast (k0 := 2) rfl rfl ((congrFun F.1 9).trans s_9) (vp_in_d rfl) rfl ?_
                    refine X_iload rfl rfl rfl ?_
                    refine X_iconst (v := (1 : Int32)) rfl rfl rfl ?_
                    refine X_aload_n rfl rfl rfl rfl ?_
                    refine X_iload_n rfl rfl rfl rfl ?_
                    refine X_iload rfl rfl rfl ?_
                    refine X_iadd (v := (2 : Int32)) rfl rfl rfl ?_
                    refine X_iald (v := (nI (((n / 10) / 10) % 10))) rfl rfl ((congrFun F.1 354).trans s_354) (vp_in_d rfl) rfl ?_
                    refine X_ishl (v := ((1 : Int32) <<< ((nI (((n / 10) / 10) % 10)) &&& 31))) rfl rfl rfl ?_
                    refine X_ior (v := ((((0 : Int32) ||| ((1 : Int32) <<< ((nI (((((n / 10) / 10) / 10) / 10) % 10)) &&& 31))) ||| ((1 : Int32) <<< ((nI ((((n / 10) / 10) / 10) % 10)) &&& 31))) ||| ((1 : Int32) <<< ((nI (((n / 10) / 10) % 10)) &&& 31)))) rfl rfl rfl ?_
                    refine X_istore (i := 4) (ls' := [some (.ref 2), some (.ref 354), some (.int (0 : Int32)), some (.int (5 : Int32)), some (.int ((((0 : Int32) ||| ((1 : Int32) <<< ((nI (((((n / 10) / 10) / 10) / 10) % 10)) &&& 31))) ||| ((1 : Int32) <<< ((nI ((((n / 10) / 10) / 10) % 10)) &&& 31))) ||| ((1 : Int32) <<< ((nI (((n / 10) / 10) % 10)) &&& 31)))), some (.int (2 : Int32))]) rfl rfl (Nat.le_of_ble_eq_true rfl) rfl ?_
                    refine X_iinc (v := (3 : Int32)) (ls' := [some (.ref 2), some (.ref 354), some (.int (0 : Int32)), some (.int (5 : Int32)), some (.int ((((0 : Int32) ||| ((1 : Int32) <<< ((nI (((((n / 10) / 10) / 10) / 10) % 10)) &&& 31))) ||| ((1 : Int32) <<< ((nI ((((n / 10) / 10) / 10) % 10)) &&& 31))) ||| ((1 : Int32) <<< ((nI (((n / 10) / 10) % 10)) &&& 31)))), some (.int (3 : Int32))]) rfl rfl rfl rfl rfl ?_
                    refine LW_goto (tgt := 42) rfl rfl ?_
                    refine X_iload rfl rfl rfl ?_
                    refine X_iload_n rfl rfl rfl rfl ?_
                    refine X_icmp_ge (tgt := 88) rfl rfl rfl (fun q => absurd q (by decide)) (fun _ => ?_)
                    refine X_aload_n rfl rfl rfl rfl ?_
                    refine X_getR (a := 9) rfl rfl rfl ((congrFun F.1 2).trans s_2) rfl ((congrFun (F.2.1 2 (by decide)) 8).trans r_2_8) ?_
                    refine X_aload_n rfl rfl rfl rfl ?_
                    refine X_getI (v := (0 : Int32)) rfl rfl rfl ((congrFun F.1 2).trans s_2) rfl ((congrFun (F.2.2 2 (by decide)).1 1).trans i_2_1) ?_
                    refine X_bipush (v := (8 : Int32)) rfl rfl rfl ?_
                    refine X_imul (v := (0 : Int32)) rfl rfl rfl ?_
                    refine X_iload rfl rfl rfl ?_
                    refine X_iadd (v := (3 : Int32)) rfl rfl rfl ?_
                    refine X_aload_n rfl rfl rfl rfl ?_
                    refine X_iload_n rfl rfl rfl rfl ?_
                    refine X_iload rfl rfl rfl ?_
                    refine X_iadd (v := (3 : Int32)) rfl rfl rfl ?_
                    refine X_iald (v := (nI ((n / 10) % 10))) rfl rfl ((congrFun F.1 354).trans s_354) (vp_in_d rfl) rfl ?_
                    refine X_iast (k0 := 3) rfl rfl ((congrFun F.1 9).trans s_9) (vp_in_d rfl) rfl ?_
                    refine X_iload rfl rfl rfl ?_
                    refine X_iconst (v := (1 : Int32)) rfl rfl rfl ?_
                    refine X_aload_n rfl rfl rfl rfl ?_
                    refine X_iload_n rfl rfl rfl rfl ?_
                    refine X_iload rfl rfl rfl ?_
                    refine X_iadd (v := (3 : Int32)) rfl rfl rfl ?_
                    refine X_iald (v := (nI ((n / 10) % 10))) rfl rfl ((congrFun F.1 354).trans s_354) (vp_in_d rfl) rfl ?_
                    refine X_ishl (v := ((1 : Int32) <<< ((nI ((n / 10) % 10)) &&& 31))) rfl rfl rfl ?_
                    refine X_ior (v := (((((0 : Int32) ||| ((1 : Int32) <<< ((nI (((((n / 10) / 10) / 10) / 10) % 10)) &&& 31))) ||| ((1 : Int32) <<< ((nI ((((n / 10) / 10) / 10) % 10)) &&& 31))) ||| ((1 : Int32) <<< ((nI (((n / 10) / 10) % 10)) &&& 31))) ||| ((1 : Int32) <<< ((nI ((n / 10) % 10)) &&& 31)))) rfl rfl rfl ?_
                    refine X_istore (i := 4) (ls' := [some (.ref 2), some (.ref 354), some (.int (0 : Int32)), some (.int (5 : Int32)), some (.int (((((0 : Int32) ||| ((1 : Int32) <<< ((nI (((((n / 10) / 10) / 10) / 10) % 10)) &&& 31))) ||| ((1 : Int32) <<< ((nI ((((n / 10) / 10) / 10) % 10)) &&& 31))) ||| ((1 : Int32) <<< ((nI (((n / 10) / 10) % 10)) &&& 31))) ||| ((1 : Int32) <<< ((nI ((n / 10) % 10)) &&& 31)))), some (.int (3 : Int32))]) rfl rfl (Nat.le_of_ble_eq_true rfl) rfl ?_
                    refine X_iinc (v := (4 : Int32)) (ls' := [some (.ref 2), some (.ref 354), some (.int (0 : Int32)), some (.int (5 : Int32)), some (.int (((((0 : Int32) ||| ((1 : Int32) <<< ((nI (((((n / 10) / 10) / 10) / 10) % 10)) &&& 31))) ||| ((1 : Int32) <<< ((nI ((((n / 10) / 10) / 10) % 10)) &&& 31))) ||| ((1 : Int32) <<< ((nI (((n / 10) / 10) % 10)) &&& 31))) ||| ((1 : Int32) <<< ((nI ((n / 10) % 10)) &&& 31)))), some (.int (4 : Int32))]) rfl rfl rfl rfl rfl ?_
                    refine LW_goto (tgt := 42) rfl rfl ?_
                    refine X_iload rfl rfl rfl ?_
                    refine X_iload_n rfl rfl rfl rfl ?_
                    refine X_icmp_ge (tgt := 88) rfl rfl rfl (fun q => absurd q (by decide)) (fun _ => ?_)
                    refine X_aload_n rfl rfl rfl rfl ?_
                    refine X_getR (a := 9) rfl rfl rfl ((congrFun F.1 2).trans s_2) rfl ((congrFun (F.2.1 2 (by decide)) 8).trans r_2_8) ?_
                    refine X_aload_n rfl rfl rfl rfl ?_
                    refine X_getI (v := (0 : Int32)) rfl rfl rfl ((congrFun F.1 2).trans s_2) rfl ((congrFun (F.2.2 2 (by decide)).1 1).trans i_2_1) ?_
                    refine X_bipush (v := (8 : Int32)) rfl rfl rfl ?_
                    refine X_imul (v := (0 : Int32)) rfl rfl rfl ?_
                    refine X_iload rfl rfl rfl ?_
                    refine X_iadd (v := (4 : Int32)) rfl rfl rfl ?_
                    refine X_aload_n rfl rfl rfl rfl ?_
                    refine X_iload_n rfl rfl rfl rfl ?_
                    refine X_iload rfl rfl rfl ?_
                    refine X_iadd (v := (4 : Int32)) rfl rfl rfl ?_
                    refine X_iald (v := (nI (n % 10))) rfl rfl ((congrFun F.1 354).trans s_354) (vp_in_d rfl) rfl ?_
                    refine X_iast (k0 := 4) rfl rfl ((congrFun F.1 9).trans s_9) (vp_in_d rfl) rfl ?_
                    refine X_iload rfl rfl rfl ?_
                    refine X_iconst (v := (1 : Int32)) rfl rfl rfl ?_
                    refine X_aload_n rfl rfl rfl rfl ?_
                    refine X_iload_n rfl rfl rfl rfl ?_
                    refine X_iload rfl rfl rfl ?_
                    refine X_iadd (v := (4 : Int32)) rfl rfl rfl ?_
                    refine X_iald (v := (nI (n % 10))) rfl rfl ((congrFun F.1 354).trans s_354) (vp_in_d rfl) rfl ?_
                    refine X_ishl (v := ((1 : Int32) <<< ((nI (n % 10)) &&& 31))) rfl rfl rfl ?_
                    refine X_ior (v := ((((((0 : Int32) ||| ((1 : Int32) <<< ((nI (((((n / 10) / 10) / 10) / 10) % 10)) &&& 31))) ||| ((1 : Int32) <<< ((nI ((((n / 10) / 10) / 10) % 10)) &&& 31))) ||| ((1 : Int32) <<< ((nI (((n / 10) / 10) % 10)) &&& 31))) ||| ((1 : Int32) <<< ((nI ((n / 10) % 10)) &&& 31))) ||| ((1 : Int32) <<< ((nI (n % 10)) &&& 31)))) rfl rfl rfl ?_
                    refine X_istore (i := 4) (ls' := [some (.ref 2), some (.ref 354), some (.int (0 : Int32)), some (.int (5 : Int32)), some (.int ((((((0 : Int32) ||| ((1 : Int32) <<< ((nI (((((n / 10) / 10) / 10) / 10) % 10)) &&& 31))) ||| ((1 : Int32) <<< ((nI ((((n / 10) / 10) / 10) % 10)) &&& 31))) ||| ((1 : Int32) <<< ((nI (((n / 10) / 10) % 10)) &&& 31))) ||| ((1 : Int32) <<< ((nI ((n / 10) % 10)) &&& 31))) ||| ((1 : Int32) <<< ((nI (n % 10)) &&& 31)))), some (.int (4 : Int32))]) rfl rfl (Nat.le_of_ble_eq_true rfl) rfl ?_
                    refine X_iinc (v := (5 : Int32)) (ls' := [some (.ref 2), some (.ref 354), some (.int (0 : Int32)), some (.int (5 : Int32)), some (.int ((((((0 : Int32) ||| ((1 : Int32) <<< ((nI (((((n / 10) / 10) / 10) / 10) % 10)) &&& 31))) ||| ((1 : Int32) <<< ((nI ((((n / 10) / 10) / 10) % 10)) &&& 31))) ||| ((1 : Int32) <<< ((nI (((n / 10) / 10) % 10)) &&& 31))) ||| ((1 : Int32) <<< ((nI ((n / 10) % 10)) &&& 31))) ||| ((1 : Int32) <<< ((nI (n % 10)) &&& 31)))), some (.int (5 : Int32))]) rfl rfl rfl rfl rfl ?_
                    refine LW_goto (tgt := 42) rfl rfl ?_
                    refine X_iload rfl rfl rfl ?_
                    refine X_iload_n rfl rfl rfl rfl ?_
                    refine X_icmp_ge (tgt := 88) rfl rfl rfl (fun _ => ?_) (fun q => absurd q (by decide))
                    refine X_aload_n rfl rfl rfl rfl ?_
                    refine X_getR (a := 7) rfl rfl rfl ((congrFun F.1 2).trans s_2) rfl ((congrFun (F.2.1 2 (by decide)) 6).trans r_2_6) ?_
                    refine X_aload_n rfl rfl rfl rfl ?_
                    refine X_getI (v := (0 : Int32)) rfl rfl rfl ((congrFun F.1 2).trans s_2) rfl ((congrFun (F.2.2 2 (by decide)).1 1).trans i_2_1) ?_
                    refine X_iload_n rfl rfl rfl rfl ?_
                    refine X_iast (k0 := 0) rfl rfl ((congrFun F.1 7).trans s_7) (vp_in_d rfl) rfl ?_
                    refine X_aload_n rfl rfl rfl rfl ?_
                    refine X_getR (a := 8) rfl rfl rfl ((congrFun F.1 2).trans s_2) rfl ((congrFun (F.2.1 2 (by decide)) 7).trans r_2_7) ?_
                    refine X_aload_n rfl rfl rfl rfl ?_
                    refine X_getI (v := (0 : Int32)) rfl rfl rfl ((congrFun F.1 2).trans s_2) rfl ((congrFun (F.2.2 2 (by decide)).1 1).trans i_2_1) ?_
                    refine X_iload rfl rfl rfl ?_
                    refine X_iast (k0 := 0) rfl rfl ((congrFun F.1 8).trans s_8) (vp_in_d rfl) rfl ?_
                    refine X_aload_n rfl rfl rfl rfl ?_
                    refine X_dup rfl rfl rfl ?_
                    refine X_getI (v := (0 : Int32)) rfl rfl rfl ((congrFun F.1 2).trans s_2) rfl ((congrFun (F.2.2 2 (by decide)).1 1).trans i_2_1) ?_
                    refine X_iconst (v := (1 : Int32)) rfl rfl rfl ?_
                    refine X_iadd (v := (1 : Int32)) rfl rfl rfl ?_
                    refine X_putI rfl rfl rfl ((congrFun F.1 2).trans s_2) rfl rfl rfl rfl ?_
                    refine X_aload_n rfl rfl rfl rfl ?_
                    refine X_getI (v := (1 : Int32)) rfl rfl rfl ((congrFun F.1 2).trans s_2) rfl rfl ?_
                    refine X_iconst (v := (1 : Int32)) rfl rfl rfl ?_
                    refine X_isub (v := (0 : Int32)) rfl rfl rfl ?_
                    refine LW_ireturn (st := []) rfl rfl rfl ?_
                    refine LW_ireturn (st := []) rfl rfl rfl ⟨congrArg (fun z => some (Value.int z)) ?_, (Fr_putI (Fr_putI (Fr_putI (Fr_putI (Fr_putI (Fr_putI (Fr_putI (Fr_putI (Fr_putI (Fr_putI (Fr_putI (Fr_putI (Fr_putI E (by decide)) (by decide)) (by decide)) (by decide)) (by decide)) (by decide)) (by decide)) (by decide)) (by decide)) (by decide)) (by decide)) (by decide)) (by decide))⟩
                    simp only [Int32.lt_iff_toInt_lt, Int32.le_iff_toInt_le, ← Int32.toInt_inj, (show (1 : Int32).toInt = 1 from rfl), (show (10 : Int32).toInt = 10 from rfl), (show (199999999 : Int32).toInt = 199999999 from rfl), (nI_toInt (n := ((((n / 10) / 10) / 10) / 10) / 10) (by omega)), (nI_toInt (n := (((n / 10) / 10) / 10) / 10) (by omega)), (nI_toInt (n := ((n / 10) / 10) / 10) (by omega)), (nI_toInt (n := (n / 10) / 10) (by omega)), (nI_toInt (n := n) (by omega)), (nI_toInt (n := n / 10) (by omega))] at h1 h2 h3 h4 h6 h8 h10 h12 h13
                    unfold f_sayN
                    rw [if_pos (by omega)]
                  · refine X_iconst (v := (-1 : Int32)) rfl rfl rfl ?_
                    refine LW_ireturn (st := []) rfl rfl rfl ⟨congrArg (fun z => some (Value.int z)) ?_, E⟩
                    simp only [Int32.lt_iff_toInt_lt, Int32.le_iff_toInt_le, ← Int32.toInt_inj, (show (1 : Int32).toInt = 1 from rfl), (show (10 : Int32).toInt = 10 from rfl), (show (199999999 : Int32).toInt = 199999999 from rfl), (nI_toInt (n := ((((n / 10) / 10) / 10) / 10) / 10) (by omega)), (nI_toInt (n := (((n / 10) / 10) / 10) / 10) (by omega)), (nI_toInt (n := ((n / 10) / 10) / 10) (by omega)), (nI_toInt (n := (n / 10) / 10) (by omega)), (nI_toInt (n := n) (by omega)), (nI_toInt (n := n / 10) (by omega))] at h1 h2 h3 h4 h6 h8 h10 h12 h13
                    unfold f_sayN
                    rw [if_neg (by omega)]
                · refine X_iload_n rfl rfl rfl rfl ?_
                  refine X_bipush (v := (10 : Int32)) rfl rfl rfl ?_
                  refine X_idiv (v := (nI ((((((n / 10) / 10) / 10) / 10) / 10) / 10))) rfl rfl (by decide) (nI_idiv (d := 10) (by omega) (by decide)) ?_
                  refine X_istore_n (i := 3) (ls' := [some (.ref 0), some (.int (nI (n))), some (.int (5 : Int32)), some (.int (nI ((((((n / 10) / 10) / 10) / 10) / 10) / 10))), some (.int (5 : Int32)), none]) rfl rfl rfl (Nat.le_of_ble_eq_true rfl) rfl ?_
                  refine X_iinc (v := (6 : Int32)) (ls' := [some (.ref 0), some (.int (nI (n))), some (.int (6 : Int32)), some (.int (nI ((((((n / 10) / 10) / 10) / 10) / 10) / 10))), some (.int (5 : Int32)), none]) rfl rfl rfl rfl rfl ?_
                  refine X_iinc (v := (6 : Int32)) (ls' := [some (.ref 0), some (.int (nI (n))), some (.int (6 : Int32)), some (.int (nI ((((((n / 10) / 10) / 10) / 10) / 10) / 10))), some (.int (6 : Int32)), none]) rfl rfl rfl rfl rfl ?_
                  refine LW_goto (tgt := 21) rfl rfl ?_
                  refine X_iload rfl rfl rfl ?_
                  refine X_bipush (v := (8 : Int32)) rfl rfl rfl ?_
                  refine X_icmp_ge (tgt := 48) rfl rfl rfl (fun q => absurd q (by decide)) (fun _ => ?_)
                  refine X_iload_n rfl rfl rfl rfl ?_
                  refine X_bipush (v := (10 : Int32)) rfl rfl rfl ?_
                  refine X_icmp_lt (tgt := 48) rfl rfl rfl (fun h14 => ?_) (fun h14 => ?_)
                  · refine X_iload_n rfl rfl rfl rfl ?_
                    refine X_iconst (v := (1 : Int32)) rfl rfl rfl ?_
                    refine X_icmp_eq (tgt := 55) rfl rfl rfl (fun h15 => ?_) (fun h15 => ?_)
                    · refine X_iload_n rfl rfl rfl rfl ?_
                      refine X_istore (i := 4) (ls' := [some (.ref 0), some (.int (nI (n))), some (.int (6 : Int32)), some (.int (nI ((((((n / 10) / 10) / 10) / 10) / 10) / 10))), some (.int (nI (n))), none]) rfl rfl (Nat.le_of_ble_eq_true rfl) rfl ?_
                      refine X_iload_n rfl rfl rfl rfl ?_
                      refine X_iconst (v := (1 : Int32)) rfl rfl rfl ?_
                      refine X_isub (v := (5 : Int32)) rfl rfl rfl ?_
                      refine X_istore (i := 5) (ls' := [some (.ref 0), some (.int (nI (n))), some (.int (6 : Int32)), some (.int (nI ((((((n / 10) / 10) / 10) / 10) / 10) / 10))), some (.int (nI (n))), some (.int (5 : Int32))]) rfl rfl (Nat.le_of_ble_eq_true rfl) rfl ?_
                      refine X_iload rfl rfl rfl ?_
                      refine X_if_lt (tgt := 93) rfl rfl rfl (fun q => absurd q (by decide)) (fun _ => ?_)
                      refine X_aload_n rfl rfl rfl rfl ?_
                      refine X_getR (a := 354) rfl rfl rfl ((congrFun F.1 0).trans s_0) rfl ((congrFun (F.2.1 0 (by decide)) 9).trans r_0_9) ?_
                      refine X_iload rfl rfl rfl ?_
                      refine X_iload rfl rfl rfl ?_
                      refine X_bipush (v := (10 : Int32)) rfl rfl rfl ?_
                      refine X_irem (v := (nI (n % 10))) rfl rfl (by decide) (nI_irem (d := 10) (by omega) (by decide)) ?_
                      refine X_iast (k0 := 5) rfl rfl ((congrFun F.1 354).trans s_354) (vp_in_d rfl) rfl ?_
                      refine X_iload rfl rfl rfl ?_
                      refine X_bipush (v := (10 : Int32)) rfl rfl rfl ?_
                      refine X_idiv (v := (nI (n / 10))) rfl rfl (by decide) (nI_idiv (d := 10) (by omega) (by decide)) ?_
                      refine X_istore (i := 4) (ls' := [some (.ref 0), some (.int (nI (n))), some (.int (6 : Int32)), some (.int (nI ((((((n / 10) / 10) / 10) / 10) / 10) / 10))), some (.int (nI (n / 10))), some (.int (5 : Int32))]) rfl rfl (Nat.le_of_ble_eq_true rfl) rfl ?_
                      refine X_iinc (v := (4 : Int32)) (ls' := [some (.ref 0), some (.int (nI (n))), some (.int (6 : Int32)), some (.int (nI ((((((n / 10) / 10) / 10) / 10) / 10) / 10))), some (.int (nI (n / 10))), some (.int (4 : Int32))]) rfl rfl rfl rfl rfl ?_
                      refine LW_goto (tgt := 63) rfl rfl ?_
                      refine X_iload rfl rfl rfl ?_
                      refine X_if_lt (tgt := 93) rfl rfl rfl (fun q => absurd q (by decide)) (fun _ => ?_)
                      refine X_aload_n rfl rfl rfl rfl ?_
                      refine X_getR (a := 354) rfl rfl rfl ((congrFun F.1 0).trans s_0) rfl ((congrFun (F.2.1 0 (by decide)) 9).trans r_0_9) ?_
                      refine X_iload rfl rfl rfl ?_
                      refine X_iload rfl rfl rfl ?_
                      refine X_bipush (v := (10 : Int32)) rfl rfl rfl ?_
                      refine X_irem (v := (nI ((n / 10) % 10))) rfl rfl (by decide) (nI_irem (d := 10) (by omega) (by decide)) ?_
                      refine X_iast (k0 := 4) rfl rfl ((congrFun F.1 354).trans s_354) (vp_in_d rfl) rfl ?_
                      refine X_iload rfl rfl rfl ?_
                      refine X_bipush (v := (10 : Int32)) rfl rfl rfl ?_
                      refine X_idiv (v := (nI ((n / 10) / 10))) rfl rfl (by decide) (nI_idiv (d := 10) (by omega) (by decide)) ?_
                      refine X_istore (i := 4) (ls' := [some (.ref 0), some (.int (nI (n))), some (.int (6 : Int32)), some (.int (nI ((((((n / 10) / 10) / 10) / 10) / 10) / 10))), some (.int (nI ((n / 10) / 10))), some (.int (4 : Int32))]) rfl rfl (Nat.le_of_ble_eq_true rfl) rfl ?_
                      refine X_iinc (v := (3 : Int32)) (ls' := [some (.ref 0), some (.int (nI (n))), some (.int (6 : Int32)), some (.int (nI ((((((n / 10) / 10) / 10) / 10) / 10) / 10))), some (.int (nI ((n / 10) / 10))), some (.int (3 : Int32))]) rfl rfl rfl rfl rfl ?_
                      refine LW_goto (tgt := 63) rfl rfl ?_
                      refine X_iload rfl rfl rfl ?_
                      refine X_if_lt (tgt := 93) rfl rfl rfl (fun q => absurd q (by decide)) (fun _ => ?_)
                      refine X_aload_n rfl rfl rfl rfl ?_
                      refine X_getR (a := 354) rfl rfl rfl ((congrFun F.1 0).trans s_0) rfl ((congrFun (F.2.1 0 (by decide)) 9).trans r_0_9) ?_
                      refine X_iload rfl rfl rfl ?_
                      refine X_iload rfl rfl rfl ?_
                      refine X_bipush (v := (10 : Int32)) rfl rfl rfl ?_
                      refine X_irem (v := (nI (((n / 10) / 10) % 10))) rfl rfl (by decide) (nI_irem (d := 10) (by omega) (by decide)) ?_
                      refine X_iast (k0 := 3) rfl rfl ((congrFun F.1 354).trans s_354) (vp_in_d rfl) rfl ?_
                      refine X_iload rfl rfl rfl ?_
                      refine X_bipush (v := (10 : Int32)) rfl rfl rfl ?_
                      refine X_idiv (v := (nI (((n / 10) / 10) / 10))) rfl rfl (by decide) (nI_idiv (d := 10) (by omega) (by decide)) ?_
                      refine X_istore (i := 4) (ls' := [some (.ref 0), some (.int (nI (n))), some (.int (6 : Int32)), some (.int (nI ((((((n / 10) / 10) / 10) / 10) / 10) / 10))), some (.int (nI (((n / 10) / 10) / 10))), some (.int (3 : Int32))]) rfl rfl (Nat.le_of_ble_eq_true rfl) rfl ?_
                      refine X_iinc (v := (2 : Int32)) (ls' := [some (.ref 0), some (.int (nI (n))), some (.int (6 : Int32)), some (.int (nI ((((((n / 10) / 10) / 10) / 10) / 10) / 10))), some (.int (nI (((n / 10) / 10) / 10))), some (.int (2 : Int32))]) rfl rfl rfl rfl rfl ?_
                      refine LW_goto (tgt := 63) rfl rfl ?_
                      refine X_iload rfl rfl rfl ?_
                      refine X_if_lt (tgt := 93) rfl rfl rfl (fun q => absurd q (by decide)) (fun _ => ?_)
                      refine X_aload_n rfl rfl rfl rfl ?_
                      refine X_getR (a := 354) rfl rfl rfl ((congrFun F.1 0).trans s_0) rfl ((congrFun (F.2.1 0 (by decide)) 9).trans r_0_9) ?_
                      refine X_iload rfl rfl rfl ?_
                      refine X_iload rfl rfl rfl ?_
                      refine X_bipush (v := (10 : Int32)) rfl rfl rfl ?_
                      refine X_irem (v := (nI ((((n / 10) / 10) / 10) % 10))) rfl rfl (by decide) (nI_irem (d := 10) (by omega) (by decide)) ?_
                      refine X_iast (k0 := 2) rfl rfl ((congrFun F.1 354).trans s_354) (vp_in_d rfl) rfl ?_
                      refine X_iload rfl rfl rfl ?_
                      refine X_bipush (v := (10 : Int32)) rfl rfl rfl ?_
                      refine X_idiv (v := (nI ((((n / 10) / 10) / 10) / 10))) rfl rfl (by decide) (nI_idiv (d := 10) (by omega) (by decide)) ?_
                      refine X_istore (i := 4) (ls' := [some (.ref 0), some (.int (nI (n))), some (.int (6 : Int32)), some (.int (nI ((((((n / 10) / 10) / 10) / 10) / 10) / 10))), some (.int (nI ((((n / 10) / 10) / 10) / 10))), some (.int (2 : Int32))]) rfl rfl (Nat.le_of_ble_eq_true rfl) rfl ?_
                      refine X_iinc (v := (1 : Int32)) (ls' := [some (.ref 0), some (.int (nI (n))), some (.int (6 : Int32)), some (.int (nI ((((((n / 10) / 10) / 10) / 10) / 10) / 10))), some (.int (nI ((((n / 10) / 10) / 10) / 10))), some (.int (1 : Int32))]) rfl rfl rfl rfl rfl ?_
                      refine LW_goto (tgt := 63) rfl rfl ?_
                      refine X_iload rfl rfl rfl ?_
                      refine X_if_lt (tgt := 93) rfl rfl rfl (fun q => absurd q (by decide)) (fun _ => ?_)
                      refine X_aload_n rfl rfl rfl rfl ?_
                      refine X_getR (a := 354) rfl rfl rfl ((congrFun F.1 0).trans s_0) rfl ((congrFun (F.2.1 0 (by decide)) 9).trans r_0_9) ?_
                      refine X_iload rfl rfl rfl ?_
                      refine X_iload rfl rfl rfl ?_
                      refine X_bipush (v := (10 : Int32)) rfl rfl rfl ?_
                      refine X_irem (v := (nI (((((n / 10) / 10) / 10) / 10) % 10))) rfl rfl (by decide) (nI_irem (d := 10) (by omega) (by decide)) ?_
                      refine X_iast (k0 := 1) rfl rfl ((congrFun F.1 354).trans s_354) (vp_in_d rfl) rfl ?_
                      refine X_iload rfl rfl rfl ?_
                      refine X_bipush (v := (10 : Int32)) rfl rfl rfl ?_
                      refine X_idiv (v := (nI (((((n / 10) / 10) / 10) / 10) / 10))) rfl rfl (by decide) (nI_idiv (d := 10) (by omega) (by decide)) ?_
                      refine X_istore (i := 4) (ls' := [some (.ref 0), some (.int (nI (n))), some (.int (6 : Int32)), some (.int (nI ((((((n / 10) / 10) / 10) / 10) / 10) / 10))), some (.int (nI (((((n / 10) / 10) / 10) / 10) / 10))), some (.int (1 : Int32))]) rfl rfl (Nat.le_of_ble_eq_true rfl) rfl ?_
                      refine X_iinc (v := (0 : Int32)) (ls' := [some (.ref 0), some (.int (nI (n))), some (.int (6 : Int32)), some (.int (nI ((((((n / 10) / 10) / 10) / 10) / 10) / 10))), some (.int (nI (((((n / 10) / 10) / 10) / 10) / 10))), some (.int (0 : Int32))]) rfl rfl rfl rfl rfl ?_
                      refine LW_goto (tgt := 63) rfl rfl ?_
                      refine X_iload rfl rfl rfl ?_
                      refine X_if_lt (tgt := 93) rfl rfl rfl (fun q => absurd q (by decide)) (fun _ => ?_)
                      refine X_aload_n rfl rfl rfl rfl ?_
                      refine X_getR (a := 354) rfl rfl rfl ((congrFun F.1 0).trans s_0) rfl ((congrFun (F.2.1 0 (by decide)) 9).trans r_0_9) ?_
                      refine X_iload rfl rfl rfl ?_
                      refine X_iload rfl rfl rfl ?_
                      refine X_bipush (v := (10 : Int32)) rfl rfl rfl ?_
                      refine X_irem (v := (nI ((((((n / 10) / 10) / 10) / 10) / 10) % 10))) rfl rfl (by decide) (nI_irem (d := 10) (by omega) (by decide)) ?_
                      refine X_iast (k0 := 0) rfl rfl ((congrFun F.1 354).trans s_354) (vp_in_d rfl) rfl ?_
                      refine X_iload rfl rfl rfl ?_
                      refine X_bipush (v := (10 : Int32)) rfl rfl rfl ?_
                      refine X_idiv (v := (nI ((((((n / 10) / 10) / 10) / 10) / 10) / 10))) rfl rfl (by decide) (nI_idiv (d := 10) (by omega) (by decide)) ?_
                      refine X_istore (i := 4) (ls' := [some (.ref 0), some (.int (nI (n))), some (.int (6 : Int32)), some (.int (nI ((((((n / 10) / 10) / 10) / 10) / 10) / 10))), some (.int (nI ((((((n / 10) / 10) / 10) / 10) / 10) / 10))), some (.int (0 : Int32))]) rfl rfl (Nat.le_of_ble_eq_true rfl) rfl ?_
                      refine X_iinc (v := (-1 : Int32)) (ls' := [some (.ref 0), some (.int (nI (n))), some (.int (6 : Int32)), some (.int (nI ((((((n / 10) / 10) / 10) / 10) / 10) / 10))), some (.int (nI ((((((n / 10) / 10) / 10) / 10) / 10) / 10))), some (.int (-1 : Int32))]) rfl rfl rfl rfl rfl ?_
                      refine LW_goto (tgt := 63) rfl rfl ?_
                      refine X_iload rfl rfl rfl ?_
                      refine X_if_lt (tgt := 93) rfl rfl rfl (fun _ => ?_) (fun q => absurd q (by decide))
                      refine X_aload_n rfl rfl rfl rfl ?_
                      refine X_getR (a := 1) rfl rfl rfl ((congrFun F.1 0).trans s_0) rfl ((congrFun (F.2.1 0 (by decide)) 0).trans r_0_0) ?_
                      refine X_getR (a := 2) rfl rfl rfl ((congrFun F.1 1).trans s_1) rfl ((congrFun (F.2.1 1 (by decide)) 0).trans r_1_0) ?_
                      refine X_aload_n rfl rfl rfl rfl ?_
                      refine X_getR (a := 354) rfl rfl rfl ((congrFun F.1 0).trans s_0) rfl ((congrFun (F.2.1 0 (by decide)) 9).trans r_0_9) ?_
                      refine X_iconst (v := (0 : Int32)) rfl rfl rfl ?_
                      refine X_iload_n rfl rfl rfl rfl ?_
                      refine X_callV (as := [.ref 354, .int (0 : Int32), .int (6 : Int32)]) (st := []) rfl rfl rfl (by decide) rfl (Nat.le_of_ble_eq_true rfl) (by decide) (Nat.le_of_ble_eq_true rfl) rfl ((congrFun F.1 2).trans s_2) (by decide) ?_
                      refine LW_ls (ls' := [some (.ref 2), some (.ref 354), some (.int (0 : Int32)), some (.int (6 : Int32)), none, none]) rfl ?_
                      refine X_iload_n rfl rfl rfl rfl ?_
                      refine X_iconst (v := (1 : Int32)) rfl rfl rfl ?_
                      refine X_icmp_lt (tgt := 23) rfl rfl rfl (fun q => absurd q (by decide)) (fun _ => ?_)
                      refine X_iload_n rfl rfl rfl rfl ?_
                      refine X_bipush (v := (8 : Int32)) rfl rfl rfl ?_
                      refine X_icmp_gt (tgt := 23) rfl rfl rfl (fun q => absurd q (by decide)) (fun _ => ?_)
                      refine X_iload_n rfl rfl rfl rfl ?_
                      refine X_if_lt (tgt := 23) rfl rfl rfl (fun q => absurd q (by decide)) (fun _ => ?_)
                      refine X_iload_n rfl rfl rfl rfl ?_
                      refine X_iload_n rfl rfl rfl rfl ?_
                      refine X_iadd (v := (6 : Int32)) rfl rfl rfl ?_
                      refine X_aload_n rfl rfl rfl rfl ?_
                      refine X_alen (t0 := 0) (v := (8 : Int32)) rfl rfl ((congrFun F.1 354).trans s_354) rfl rfl ?_
                      refine X_icmp_le (tgt := 25) rfl rfl rfl (fun _ => ?_) (fun q => absurd q (by decide))
                      refine X_aload_n rfl rfl rfl rfl ?_
                      refine X_getI (v := (0 : Int32)) rfl rfl rfl ((congrFun F.1 2).trans s_2) rfl ((congrFun (F.2.2 2 (by decide)).1 1).trans i_2_1) ?_
                      refine X_bipush (v := (8 : Int32)) rfl rfl rfl ?_
                      refine X_icmp_lt (tgt := 36) rfl rfl rfl (fun _ => ?_) (fun q => absurd q (by decide))
                      refine X_iconst (v := (0 : Int32)) rfl rfl rfl ?_
                      refine X_istore (i := 4) (ls' := [some (.ref 2), some (.ref 354), some (.int (0 : Int32)), some (.int (6 : Int32)), some (.int (0 : Int32)), none]) rfl rfl (Nat.le_of_ble_eq_true rfl) rfl ?_
                      refine X_iconst (v := (0 : Int32)) rfl rfl rfl ?_
                      refine X_istore (i := 5) (ls' := [some (.ref 2), some (.ref 354), some (.int (0 : Int32)), some (.int (6 : Int32)), some (.int (0 : Int32)), some (.int (0 : Int32))]) rfl rfl (Nat.le_of_ble_eq_true rfl) rfl ?_
                      refine X_iload rfl rfl rfl ?_
                      refine X_iload_n rfl rfl rfl rfl ?_
                      refine X_icmp_ge (tgt := 88) rfl rfl rfl (fun q => absurd q (by decide)) (fun _ => ?_)
                      refine X_aload_n rfl rfl rfl rfl ?_
                      refine X_getR (a := 9) rfl rfl rfl ((congrFun F.1 2).trans s_2) rfl ((congrFun (F.2.1 2 (by decide)) 8).trans r_2_8) ?_
                      refine X_aload_n rfl rfl rfl rfl ?_
                      refine X_getI (v := (0 : Int32)) rfl rfl rfl ((congrFun F.1 2).trans s_2) rfl ((congrFun (F.2.2 2 (by decide)).1 1).trans i_2_1) ?_
                      refine X_bipush (v := (8 : Int32)) rfl rfl rfl ?_
                      refine X_imul (v := (0 : Int32)) rfl rfl rfl ?_
                      refine X_iload rfl rfl rfl ?_
                      refine X_iadd (v := (0 : Int32)) rfl rfl rfl ?_
                      refine X_aload_n rfl rfl rfl rfl ?_
                      refine X_iload_n rfl rfl rfl rfl ?_
                      refine X_iload rfl rfl rfl ?_
                      refine X_iadd (v := (0 : Int32)) rfl rfl rfl ?_
                      refine X_iald (v := (nI ((((((n / 10) / 10) / 10) / 10) / 10) % 10))) rfl rfl ((congrFun F.1 354).trans s_354) (vp_in_d rfl) rfl ?_
                      refine X_iast (k0 := 0) rfl rfl ((congrFun F.1 9).trans s_9) (vp_in_d rfl) rfl ?_
                      refine X_iload rfl rfl rfl ?_
                      refine X_iconst (v := (1 : Int32)) rfl rfl rfl ?_
                      refine X_aload_n rfl rfl rfl rfl ?_
                      refine X_iload_n rfl rfl rfl rfl ?_
                      refine X_iload rfl rfl rfl ?_
                      refine X_iadd (v := (0 : Int32)) rfl rfl rfl ?_
                      refine X_iald (v := (nI ((((((n / 10) / 10) / 10) / 10) / 10) % 10))) rfl rfl ((congrFun F.1 354).trans s_354) (vp_in_d rfl) rfl ?_
                      refine X_ishl (v := ((1 : Int32) <<< ((nI ((((((n / 10) / 10) / 10) / 10) / 10) % 10)) &&& 31))) rfl rfl rfl ?_
                      refine X_ior (v := ((0 : Int32) ||| ((1 : Int32) <<< ((nI ((((((n / 10) / 10) / 10) / 10) / 10) % 10)) &&& 31)))) rfl rfl rfl ?_
                      refine X_istore (i := 4) (ls' := [some (.ref 2), some (.ref 354), some (.int (0 : Int32)), some (.int (6 : Int32)), some (.int ((0 : Int32) ||| ((1 : Int32) <<< ((nI ((((((n / 10) / 10) / 10) / 10) / 10) % 10)) &&& 31)))), some (.int (0 : Int32))]) rfl rfl (Nat.le_of_ble_eq_true rfl) rfl ?_
                      refine X_iinc (v := (1 : Int32)) (ls' := [some (.ref 2), some (.ref 354), some (.int (0 : Int32)), some (.int (6 : Int32)), some (.int ((0 : Int32) ||| ((1 : Int32) <<< ((nI ((((((n / 10) / 10) / 10) / 10) / 10) % 10)) &&& 31)))), some (.int (1 : Int32))]) rfl rfl rfl rfl rfl ?_
                      refine LW_goto (tgt := 42) rfl rfl ?_
                      refine X_iload rfl rfl rfl ?_
                      refine X_iload_n rfl rfl rfl rfl ?_
                      refine X_icmp_ge (tgt := 88) rfl rfl rfl (fun q => absurd q (by decide)) (fun _ => ?_)
                      refine X_aload_n rfl rfl rfl rfl ?_
                      refine X_getR (a := 9) rfl rfl rfl ((congrFun F.1 2).trans s_2) rfl ((congrFun (F.2.1 2 (by decide)) 8).trans r_2_8) ?_
                      refine X_aload_n rfl rfl rfl rfl ?_
                      refine X_getI (v := (0 : Int32)) rfl rfl rfl ((congrFun F.1 2).trans s_2) rfl ((congrFun (F.2.2 2 (by decide)).1 1).trans i_2_1) ?_
                      refine X_bipush (v := (8 : Int32)) rfl rfl rfl ?_
                      refine X_imul (v := (0 : Int32)) rfl rfl rfl ?_
                      refine X_iload rfl rfl rfl ?_
                      refine X_iadd (v := (1 : Int32)) rfl rfl rfl ?_
                      refine X_aload_n rfl rfl rfl rfl ?_
                      refine X_iload_n rfl rfl rfl rfl ?_
                      refine X_iload rfl rfl rfl ?_
                      refine X_iadd (v := (1 : Int32)) rfl rfl rfl ?_
                      refine X_iald (v := (nI (((((n / 10) / 10) / 10) / 10) % 10))) rfl rfl ((congrFun F.1 354).trans s_354) (vp_in_d rfl) rfl ?_
                      refine X_iast (k0 := 1) rfl rfl ((congrFun F.1 9).trans s_9) (vp_in_d rfl) rfl ?_
                      refine X_iload rfl rfl rfl ?_
                      refine X_iconst (v := (1 : Int32)) rfl rfl rfl ?_
                      refine X_aload_n rfl rfl rfl rfl ?_
                      refine X_iload_n rfl rfl rfl rfl ?_
                      refine X_iload rfl rfl rfl ?_
                      refine X_iadd (v := (1 : Int32)) rfl rfl rfl ?_
                      refine X_iald (v := (nI (((((n / 10) / 10) / 10) / 10) % 10))) rfl rfl ((congrFun F.1 354).trans s_354) (vp_in_d rfl) rfl ?_
                      refine X_ishl (v := ((1 : Int32) <<< ((nI (((((n / 10) / 10) / 10) / 10) % 10)) &&& 31))) rfl rfl rfl ?_
                      refine X_ior (v := (((0 : Int32) ||| ((1 : Int32) <<< ((nI ((((((n / 10) / 10) / 10) / 10) / 10) % 10)) &&& 31))) ||| ((1 : Int32) <<< ((nI (((((n / 10) / 10) / 10) / 10) % 10)) &&& 31)))) rfl rfl rfl ?_
                      refine X_istore (i := 4) (ls' := [some (.ref 2), some (.ref 354), some (.int (0 : Int32)), some (.int (6 : Int32)), some (.int (((0 : Int32) ||| ((1 : Int32) <<< ((nI ((((((n / 10) / 10) / 10) / 10) / 10) % 10)) &&& 31))) ||| ((1 : Int32) <<< ((nI (((((n / 10) / 10) / 10) / 10) % 10)) &&& 31)))), some (.int (1 : Int32))]) rfl rfl (Nat.le_of_ble_eq_true rfl) rfl ?_
                      refine X_iinc (v := (2 : Int32)) (ls' := [some (.ref 2), some (.ref 354), some (.int (0 : Int32)), some (.int (6 : Int32)), some (.int (((0 : Int32) ||| ((1 : Int32) <<< ((nI ((((((n / 10) / 10) / 10) / 10) / 10) % 10)) &&& 31))) ||| ((1 : Int32) <<< ((nI (((((n / 10) / 10) / 10) / 10) % 10)) &&& 31)))), some (.int (2 : Int32))]) rfl rfl rfl rfl rfl ?_
                      refine LW_goto (tgt := 42) rfl rfl ?_
                      refine X_iload rfl rfl rfl ?_
                      refine X_iload_n rfl rfl rfl rfl ?_
                      refine X_icmp_ge (tgt := 88) rfl rfl rfl (fun q => absurd q (by decide)) (fun _ => ?_)
                      refine X_aload_n rfl rfl rfl rfl ?_
                      refine X_getR (a := 9) rfl rfl rfl ((congrFun F.1 2).trans s_2) rfl ((congrFun (F.2.1 2 (by decide)) 8).trans r_2_8) ?_
                      refine X_aload_n rfl rfl rfl rfl ?_
                      refine X_getI (v := (0 : Int32)) rfl rfl rfl ((congrFun F.1 2).trans s_2) rfl ((congrFun (F.2.2 2 (by decide)).1 1).trans i_2_1) ?_
                      refine X_bipush (v := (8 : Int32)) rfl rfl rfl ?_
                      refine X_imul (v := (0 : Int32)) rfl rfl rfl ?_
                      refine X_iload rfl rfl rfl ?_
                      refine X_iadd (v := (2 : Int32)) rfl rfl rfl ?_
                      refine X_aload_n rfl rfl rfl rfl ?_
                      refine X_iload_n rfl rfl rfl rfl ?_
                      refine X_iload rfl rfl rfl ?_
                      refine X_iadd (v := (2 : Int32)) rfl rfl rfl ?_
                      refine X_iald (v := (nI ((((n / 10) / 10) / 10) % 10))) rfl rfl ((congrFun F.1 354).trans s_354) (vp_in_d rfl) rfl ?_
                      refine X_iast (k0 := 2) rfl rfl ((congrFun F.1 9).trans s_9) (vp_in_d rfl) rfl ?_
                      refine X_iload rfl rfl rfl ?_
                      refine X_iconst (v := (1 : Int32)) rfl rfl rfl ?_
                      refine X_aload_n rfl rfl rfl rfl ?_
                      refine X_iload_n rfl rfl rfl rfl ?_
                      refine X_iload rfl rfl rfl ?_
                      refine X_iadd (v := (2 : Int32)) rfl rfl rfl ?_
                      refine X_iald (v := (nI ((((n / 10) / 10) / 10) % 10))) rfl rfl ((congrFun F.1 354).trans s_354) (vp_in_d rfl) rfl ?_
                      refine X_ishl (v := ((1 : Int32) <<< ((nI ((((n / 10) / 10) / 10) % 10)) &&& 31))) rfl rfl rfl ?_
                      refine X_ior (v := ((((0 : Int32) ||| ((1 : Int32) <<< ((nI ((((((n / 10) / 10) / 10) / 10) / 10) % 10)) &&& 31))) ||| ((1 : Int32) <<< ((nI (((((n / 10) / 10) / 10) / 10) % 10)) &&& 31))) ||| ((1 : Int32) <<< ((nI ((((n / 10) / 10) / 10) % 10)) &&& 31)))) rfl rfl rfl ?_
                      refine X_istore (i := 4) (ls' := [some (.ref 2), some (.ref 354), some (.int (0 : Int32)), some (.int (6 : Int32)), some (.int ((((0 : Int32) ||| ((1 : Int32) <<< ((nI ((((((n / 10) / 10) / 10) / 10) / 10) % 10)) &&& 31))) ||| ((1 : Int32) <<< ((nI (((((n / 10) / 10) / 10) / 10) % 10)) &&& 31))) ||| ((1 : Int32) <<< ((nI ((((n / 10) / 10) / 10) % 10)) &&& 31)))), some (.int (2 : Int32))]) rfl rfl (Nat.le_of_ble_eq_true rfl) rfl ?_
                      refine X_iinc (v := (3 : Int32)) (ls' := [some (.ref 2), some (.ref 354), some (.int (0 : Int32)), some (.int (6 : Int32)), some (.int ((((0 : Int32) ||| ((1 : Int32) <<< ((nI ((((((n / 10) / 10) / 10) / 10) / 10) % 10)) &&& 31))) ||| ((1 : Int32) <<< ((nI (((((n / 10) / 10) / 10) / 10) % 10)) &&& 31))) ||| ((1 : Int32) <<< ((nI ((((n / 10) / 10) / 10) % 10)) &&& 31)))), some (.int (3 : Int32))]) rfl rfl rfl rfl rfl ?_
                      refine LW_goto (tgt := 42) rfl rfl ?_
                      refine X_iload rfl rfl rfl ?_
                      refine X_iload_n rfl rfl rfl rfl ?_
                      refine X_icmp_ge (tgt := 88) rfl rfl rfl (fun q => absurd q (by decide)) (fun _ => ?_)
                      refine X_aload_n rfl rfl rfl rfl ?_
                      refine X_getR (a := 9) rfl rfl rfl ((congrFun F.1 2).trans s_2) rfl ((congrFun (F.2.1 2 (by decide)) 8).trans r_2_8) ?_
                      refine X_aload_n rfl rfl rfl rfl ?_
                      refine X_getI (v := (0 : Int32)) rfl rfl rfl ((congrFun F.1 2).trans s_2) rfl ((congrFun (F.2.2 2 (by decide)).1 1).trans i_2_1) ?_
                      refine X_bipush (v := (8 : Int32)) rfl rfl rfl ?_
                      refine X_imul (v := (0 : Int32)) rfl rfl rfl ?_
                      refine X_iload rfl rfl rfl ?_
                      refine X_iadd (v := (3 : Int32)) rfl rfl rfl ?_
                      refine X_aload_n rfl rfl rfl rfl ?_
                      refine X_iload_n rfl rfl rfl rfl ?_
                      refine X_iload rfl rfl rfl ?_
                      refine X_iadd (v := (3 : Int32)) rfl rfl rfl ?_
                      refine X_iald (v := (nI (((n / 10) / 10) % 10))) rfl rfl ((congrFun F.1 354).trans s_354) (vp_in_d rfl) rfl ?_
                      refine X_iast (k0 := 3) rfl rfl ((congrFun F.1 9).trans s_9) (vp_in_d rfl) rfl ?_
                      refine X_iload rfl rfl rfl ?_
                      refine X_iconst (v := (1 : Int32)) rfl rfl rfl ?_
                      refine X_aload_n rfl rfl rfl rfl ?_
                      refine X_iload_n rfl rfl rfl rfl ?_
                      refine X_iload rfl rfl rfl ?_
                      refine X_iadd (v := (3 : Int32)) rfl rfl rfl ?_
                      refine X_iald (v := (nI (((n / 10) / 10) % 10))) rfl rfl ((congrFun F.1 354).trans s_354) (vp_in_d rfl) rfl ?_
                      refine X_ishl (v := ((1 : Int32) <<< ((nI (((n / 10) / 10) % 10)) &&& 31))) rfl rfl rfl ?_
                      refine X_ior (v := (((((0 : Int32) ||| ((1 : Int32) <<< ((nI ((((((n / 10) / 10) / 10) / 10) / 10) % 10)) &&& 31))) ||| ((1 : Int32) <<< ((nI (((((n / 10) / 10) / 10) / 10) % 10)) &&& 31))) ||| ((1 : Int32) <<< ((nI ((((n / 10) / 10) / 10) % 10)) &&& 31))) ||| ((1 : Int32) <<< ((nI (((n / 10) / 10) % 10)) &&& 31)))) rfl rfl rfl ?_
                      refine X_istore (i := 4) (ls' := [some (.ref 2), some (.ref 354), some (.int (0 : Int32)), some (.int (6 : Int32)), some (.int (((((0 : Int32) ||| ((1 : Int32) <<< ((nI ((((((n / 10) / 10) / 10) / 10) / 10) % 10)) &&& 31))) ||| ((1 : Int32) <<< ((nI (((((n / 10) / 10) / 10) / 10) % 10)) &&& 31))) ||| ((1 : Int32) <<< ((nI ((((n / 10) / 10) / 10) % 10)) &&& 31))) ||| ((1 : Int32) <<< ((nI (((n / 10) / 10) % 10)) &&& 31)))), some (.int (3 : Int32))]) rfl rfl (Nat.le_of_ble_eq_true rfl) rfl ?_
                      refine X_iinc (v := (4 : Int32)) (ls' := [some (.ref 2), some (.ref 354), some (.int (0 : Int32)), some (.int (6 : Int32)), some (.int (((((0 : Int32) ||| ((1 : Int32) <<< ((nI ((((((n / 10) / 10) / 10) / 10) / 10) % 10)) &&& 31))) ||| ((1 : Int32) <<< ((nI (((((n / 10) / 10) / 10) / 10) % 10)) &&& 31))) ||| ((1 : Int32) <<< ((nI ((((n / 10) / 10) / 10) % 10)) &&& 31))) ||| ((1 : Int32) <<< ((nI (((n / 10) / 10) % 10)) &&& 31)))), some (.int (4 : Int32))]) rfl rfl rfl rfl rfl ?_
                      refine LW_goto (tgt := 42) rfl rfl ?_
                      refine X_iload rfl rfl rfl ?_
                      refine X_iload_n rfl rfl rfl rfl ?_
                      refine X_icmp_ge (tgt := 88) rfl rfl rfl (fun q => absurd q (by decide)) (fun _ => ?_)
                      refine X_aload_n rfl rfl rfl rfl ?_
                      refine X_getR (a := 9) rfl rfl rfl ((congrFun F.1 2).trans s_2) rfl ((congrFun (F.2.1 2 (by decide)) 8).trans r_2_8) ?_
                      refine X_aload_n rfl rfl rfl rfl ?_
                      refine X_getI (v := (0 : Int32)) rfl rfl rfl ((congrFun F.1 2).trans s_2) rfl ((congrFun (F.2.2 2 (by decide)).1 1).trans i_2_1) ?_
                      refine X_bipush (v := (8 : Int32)) rfl rfl rfl ?_
                      refine X_imul (v := (0 : Int32)) rfl rfl rfl ?_
                      refine X_iload rfl rfl rfl ?_
                      refine X_iadd (v := (4 : Int32)) rfl rfl rfl ?_
                      refine X_aload_n rfl rfl rfl rfl ?_
                      refine X_iload_n rfl rfl rfl rfl ?_
                      refine X_iload rfl rfl rfl ?_
                      refine X_iadd (v := (4 : Int32)) rfl rfl rfl ?_
                      refine X_iald (v := (nI ((n / 10) % 10))) rfl rfl ((congrFun F.1 354).trans s_354) (vp_in_d rfl) rfl ?_
                      refine X_iast (k0 := 4) rfl rfl ((congrFun F.1 9).trans s_9) (vp_in_d rfl) rfl ?_
                      refine X_iload rfl rfl rfl ?_
                      refine X_iconst (v := (1 : Int32)) rfl rfl rfl ?_
                      refine X_aload_n rfl rfl rfl rfl ?_
                      refine X_iload_n rfl rfl rfl rfl ?_
                      refine X_iload rfl rfl rfl ?_
                      refine X_iadd (v := (4 : Int32)) rfl rfl rfl ?_
                      refine X_iald (v := (nI ((n / 10) % 10))) rfl rfl ((congrFun F.1 354).trans s_354) (vp_in_d rfl) rfl ?_
                      refine X_ishl (v := ((1 : Int32) <<< ((nI ((n / 10) % 10)) &&& 31))) rfl rfl rfl ?_
                      refine X_ior (v := ((((((0 : Int32) ||| ((1 : Int32) <<< ((nI ((((((n / 10) / 10) / 10) / 10) / 10) % 10)) &&& 31))) ||| ((1 : Int32) <<< ((nI (((((n / 10) / 10) / 10) / 10) % 10)) &&& 31))) ||| ((1 : Int32) <<< ((nI ((((n / 10) / 10) / 10) % 10)) &&& 31))) ||| ((1 : Int32) <<< ((nI (((n / 10) / 10) % 10)) &&& 31))) ||| ((1 : Int32) <<< ((nI ((n / 10) % 10)) &&& 31)))) rfl rfl rfl ?_
                      refine X_istore (i := 4) (ls' := [some (.ref 2), some (.ref 354), some (.int (0 : Int32)), some (.int (6 : Int32)), some (.int ((((((0 : Int32) ||| ((1 : Int32) <<< ((nI ((((((n / 10) / 10) / 10) / 10) / 10) % 10)) &&& 31))) ||| ((1 : Int32) <<< ((nI (((((n / 10) / 10) / 10) / 10) % 10)) &&& 31))) ||| ((1 : Int32) <<< ((nI ((((n / 10) / 10) / 10) % 10)) &&& 31))) ||| ((1 : Int32) <<< ((nI (((n / 10) / 10) % 10)) &&& 31))) ||| ((1 : Int32) <<< ((nI ((n / 10) % 10)) &&& 31)))), some (.int (4 : Int32))]) rfl rfl (Nat.le_of_ble_eq_true rfl) rfl ?_
                      refine X_iinc (v := (5 : Int32)) (ls' := [some (.ref 2), some (.ref 354), some (.int (0 : Int32)), some (.int (6 : Int32)), some (.int ((((((0 : Int32) ||| ((1 : Int32) <<< ((nI ((((((n / 10) / 10) / 10) / 10) / 10) % 10)) &&& 31))) ||| ((1 : Int32) <<< ((nI (((((n / 10) / 10) / 10) / 10) % 10)) &&& 31))) ||| ((1 : Int32) <<< ((nI ((((n / 10) / 10) / 10) % 10)) &&& 31))) ||| ((1 : Int32) <<< ((nI (((n / 10) / 10) % 10)) &&& 31))) ||| ((1 : Int32) <<< ((nI ((n / 10) % 10)) &&& 31)))), some (.int (5 : Int32))]) rfl rfl rfl rfl rfl ?_
                      refine LW_goto (tgt := 42) rfl rfl ?_
                      refine X_iload rfl rfl rfl ?_
                      refine X_iload_n rfl rfl rfl rfl ?_
                      refine X_icmp_ge (tgt := 88) rfl rfl rfl (fun q => absurd q (by decide)) (fun _ => ?_)
                      refine X_aload_n rfl rfl rfl rfl ?_
                      refine X_getR (a := 9) rfl rfl rfl ((congrFun F.1 2).trans s_2) rfl ((congrFun (F.2.1 2 (by decide)) 8).trans r_2_8) ?_
                      refine X_aload_n rfl rfl rfl rfl ?_
                      refine X_getI (v := (0 : Int32)) rfl rfl rfl ((congrFun F.1 2).trans s_2) rfl ((congrFun (F.2.2 2 (by decide)).1 1).trans i_2_1) ?_
                      refine X_bipush (v := (8 : Int32)) rfl rfl rfl ?_
                      refine X_imul (v := (0 : Int32)) rfl rfl rfl ?_
                      refine X_iload rfl rfl rfl ?_
                      refine X_iadd (v := (5 : Int32)) rfl rfl rfl ?_
                      refine X_aload_n rfl rfl rfl rfl ?_
                      refine X_iload_n rfl rfl rfl rfl ?_
                      refine X_iload rfl rfl rfl ?_
                      refine X_iadd (v := (5 : Int32)) rfl rfl rfl ?_
                      refine X_iald (v := (nI (n % 10))) rfl rfl ((congrFun F.1 354).trans s_354) (vp_in_d rfl) rfl ?_
                      refine X_iast (k0 := 5) rfl rfl ((congrFun F.1 9).trans s_9) (vp_in_d rfl) rfl ?_
                      refine X_iload rfl rfl rfl ?_
                      refine X_iconst (v := (1 : Int32)) rfl rfl rfl ?_
                      refine X_aload_n rfl rfl rfl rfl ?_
                      refine X_iload_n rfl rfl rfl rfl ?_
                      refine X_iload rfl rfl rfl ?_
                      refine X_iadd (v := (5 : Int32)) rfl rfl rfl ?_
                      refine X_iald (v := (nI (n % 10))) rfl rfl ((congrFun F.1 354).trans s_354) (vp_in_d rfl) rfl ?_
                      refine X_ishl (v := ((1 : Int32) <<< ((nI (n % 10)) &&& 31))) rfl rfl rfl ?_
                      refine X_ior (v := (((((((0 : Int32) ||| ((1 : Int32) <<< ((nI ((((((n / 10) / 10) / 10) / 10) / 10) % 10)) &&& 31))) ||| ((1 : Int32) <<< ((nI (((((n / 10) / 10) / 10) / 10) % 10)) &&& 31))) ||| ((1 : Int32) <<< ((nI ((((n / 10) / 10) / 10) % 10)) &&& 31))) ||| ((1 : Int32) <<< ((nI (((n / 10) / 10) % 10)) &&& 31))) ||| ((1 : Int32) <<< ((nI ((n / 10) % 10)) &&& 31))) ||| ((1 : Int32) <<< ((nI (n % 10)) &&& 31)))) rfl rfl rfl ?_
                      refine X_istore (i := 4) (ls' := [some (.ref 2), some (.ref 354), some (.int (0 : Int32)), some (.int (6 : Int32)), some (.int (((((((0 : Int32) ||| ((1 : Int32) <<< ((nI ((((((n / 10) / 10) / 10) / 10) / 10) % 10)) &&& 31))) ||| ((1 : Int32) <<< ((nI (((((n / 10) / 10) / 10) / 10) % 10)) &&& 31))) ||| ((1 : Int32) <<< ((nI ((((n / 10) / 10) / 10) % 10)) &&& 31))) ||| ((1 : Int32) <<< ((nI (((n / 10) / 10) % 10)) &&& 31))) ||| ((1 : Int32) <<< ((nI ((n / 10) % 10)) &&& 31))) ||| ((1 : Int32) <<< ((nI (n % 10)) &&& 31)))), some (.int (5 : Int32))]) rfl rfl (Nat.le_of_ble_eq_true rfl) rfl ?_
                      refine X_iinc (v := (6 : Int32)) (ls' := [some (.ref 2), some (.ref 354), some (.int (0 : Int32)), some (.int (6 : Int32)), some (.int (((((((0 : Int32) ||| ((1 : Int32) <<< ((nI ((((((n / 10) / 10) / 10) / 10) / 10) % 10)) &&& 31))) ||| ((1 : Int32) <<< ((nI (((((n / 10) / 10) / 10) / 10) % 10)) &&& 31))) ||| ((1 : Int32) <<< ((nI ((((n / 10) / 10) / 10) % 10)) &&& 31))) ||| ((1 : Int32) <<< ((nI (((n / 10) / 10) % 10)) &&& 31))) ||| ((1 : Int32) <<< ((nI ((n / 10) % 10)) &&& 31))) ||| ((1 : Int32) <<< ((nI (n % 10)) &&& 31)))), some (.int (6 : Int32))]) rfl rfl rfl rfl rfl ?_
                      refine LW_goto (tgt := 42) rfl rfl ?_
                      refine X_iload rfl rfl rfl ?_
                      refine X_iload_n rfl rfl rfl rfl ?_
                      refine X_icmp_ge (tgt := 88) rfl rfl rfl (fun _ => ?_) (fun q => absurd q (by decide))
                      refine X_aload_n rfl rfl rfl rfl ?_
                      refine X_getR (a := 7) rfl rfl rfl ((congrFun F.1 2).trans s_2) rfl ((congrFun (F.2.1 2 (by decide)) 6).trans r_2_6) ?_
                      refine X_aload_n rfl rfl rfl rfl ?_
                      refine X_getI (v := (0 : Int32)) rfl rfl rfl ((congrFun F.1 2).trans s_2) rfl ((congrFun (F.2.2 2 (by decide)).1 1).trans i_2_1) ?_
                      refine X_iload_n rfl rfl rfl rfl ?_
                      refine X_iast (k0 := 0) rfl rfl ((congrFun F.1 7).trans s_7) (vp_in_d rfl) rfl ?_
                      refine X_aload_n rfl rfl rfl rfl ?_
                      refine X_getR (a := 8) rfl rfl rfl ((congrFun F.1 2).trans s_2) rfl ((congrFun (F.2.1 2 (by decide)) 7).trans r_2_7) ?_
                      refine X_aload_n rfl rfl rfl rfl ?_
                      refine X_getI (v := (0 : Int32)) rfl rfl rfl ((congrFun F.1 2).trans s_2) rfl ((congrFun (F.2.2 2 (by decide)).1 1).trans i_2_1) ?_
                      refine X_iload rfl rfl rfl ?_
                      refine X_iast (k0 := 0) rfl rfl ((congrFun F.1 8).trans s_8) (vp_in_d rfl) rfl ?_
                      refine X_aload_n rfl rfl rfl rfl ?_
                      refine X_dup rfl rfl rfl ?_
                      refine X_getI (v := (0 : Int32)) rfl rfl rfl ((congrFun F.1 2).trans s_2) rfl ((congrFun (F.2.2 2 (by decide)).1 1).trans i_2_1) ?_
                      refine X_iconst (v := (1 : Int32)) rfl rfl rfl ?_
                      refine X_iadd (v := (1 : Int32)) rfl rfl rfl ?_
                      refine X_putI rfl rfl rfl ((congrFun F.1 2).trans s_2) rfl rfl rfl rfl ?_
                      refine X_aload_n rfl rfl rfl rfl ?_
                      refine X_getI (v := (1 : Int32)) rfl rfl rfl ((congrFun F.1 2).trans s_2) rfl rfl ?_
                      refine X_iconst (v := (1 : Int32)) rfl rfl rfl ?_
                      refine X_isub (v := (0 : Int32)) rfl rfl rfl ?_
                      refine LW_ireturn (st := []) rfl rfl rfl ?_
                      refine LW_ireturn (st := []) rfl rfl rfl ⟨congrArg (fun z => some (Value.int z)) ?_, (Fr_putI (Fr_putI (Fr_putI (Fr_putI (Fr_putI (Fr_putI (Fr_putI (Fr_putI (Fr_putI (Fr_putI (Fr_putI (Fr_putI (Fr_putI (Fr_putI (Fr_putI E (by decide)) (by decide)) (by decide)) (by decide)) (by decide)) (by decide)) (by decide)) (by decide)) (by decide)) (by decide)) (by decide)) (by decide)) (by decide)) (by decide)) (by decide))⟩
                      simp only [Int32.lt_iff_toInt_lt, Int32.le_iff_toInt_le, ← Int32.toInt_inj, (show (1 : Int32).toInt = 1 from rfl), (show (10 : Int32).toInt = 10 from rfl), (show (199999999 : Int32).toInt = 199999999 from rfl), (nI_toInt (n := (((((n / 10) / 10) / 10) / 10) / 10) / 10) (by omega)), (nI_toInt (n := ((((n / 10) / 10) / 10) / 10) / 10) (by omega)), (nI_toInt (n := (((n / 10) / 10) / 10) / 10) (by omega)), (nI_toInt (n := ((n / 10) / 10) / 10) (by omega)), (nI_toInt (n := (n / 10) / 10) (by omega)), (nI_toInt (n := n) (by omega)), (nI_toInt (n := n / 10) (by omega))] at h1 h2 h3 h4 h6 h8 h10 h12 h14 h15
                      unfold f_sayN
                      rw [if_pos (by omega)]
                    · refine X_iconst (v := (-1 : Int32)) rfl rfl rfl ?_
                      refine LW_ireturn (st := []) rfl rfl rfl ⟨congrArg (fun z => some (Value.int z)) ?_, E⟩
                      simp only [Int32.lt_iff_toInt_lt, Int32.le_iff_toInt_le, ← Int32.toInt_inj, (show (1 : Int32).toInt = 1 from rfl), (show (10 : Int32).toInt = 10 from rfl), (show (199999999 : Int32).toInt = 199999999 from rfl), (nI_toInt (n := (((((n / 10) / 10) / 10) / 10) / 10) / 10) (by omega)), (nI_toInt (n := ((((n / 10) / 10) / 10) / 10) / 10) (by omega)), (nI_toInt (n := (((n / 10) / 10) / 10) / 10) (by omega)), (nI_toInt (n := ((n / 10) / 10) / 10) (by omega)), (nI_toInt (n := (n / 10) / 10) (by omega)), (nI_toInt (n := n) (by omega)), (nI_toInt (n := n / 10) (by omega))] at h1 h2 h3 h4 h6 h8 h10 h12 h14 h15
                      unfold f_sayN
                      rw [if_neg (by omega)]
                  · refine X_iload_n rfl rfl rfl rfl ?_
                    refine X_bipush (v := (10 : Int32)) rfl rfl rfl ?_
                    refine X_idiv (v := (nI (((((((n / 10) / 10) / 10) / 10) / 10) / 10) / 10))) rfl rfl (by decide) (nI_idiv (d := 10) (by omega) (by decide)) ?_
                    refine X_istore_n (i := 3) (ls' := [some (.ref 0), some (.int (nI (n))), some (.int (6 : Int32)), some (.int (nI (((((((n / 10) / 10) / 10) / 10) / 10) / 10) / 10))), some (.int (6 : Int32)), none]) rfl rfl rfl (Nat.le_of_ble_eq_true rfl) rfl ?_
                    refine X_iinc (v := (7 : Int32)) (ls' := [some (.ref 0), some (.int (nI (n))), some (.int (7 : Int32)), some (.int (nI (((((((n / 10) / 10) / 10) / 10) / 10) / 10) / 10))), some (.int (6 : Int32)), none]) rfl rfl rfl rfl rfl ?_
                    refine X_iinc (v := (7 : Int32)) (ls' := [some (.ref 0), some (.int (nI (n))), some (.int (7 : Int32)), some (.int (nI (((((((n / 10) / 10) / 10) / 10) / 10) / 10) / 10))), some (.int (7 : Int32)), none]) rfl rfl rfl rfl rfl ?_
                    refine LW_goto (tgt := 21) rfl rfl ?_
                    refine X_iload rfl rfl rfl ?_
                    refine X_bipush (v := (8 : Int32)) rfl rfl rfl ?_
                    refine X_icmp_ge (tgt := 48) rfl rfl rfl (fun q => absurd q (by decide)) (fun _ => ?_)
                    refine X_iload_n rfl rfl rfl rfl ?_
                    refine X_bipush (v := (10 : Int32)) rfl rfl rfl ?_
                    refine X_icmp_lt (tgt := 48) rfl rfl rfl (fun h16 => ?_) (fun h16 => ?_)
                    · refine X_iload_n rfl rfl rfl rfl ?_
                      refine X_iconst (v := (1 : Int32)) rfl rfl rfl ?_
                      refine X_icmp_eq (tgt := 55) rfl rfl rfl (fun h17 => ?_) (fun h17 => ?_)
                      · refine X_iload_n rfl rfl rfl rfl ?_
                        refine X_istore (i := 4) (ls' := [some (.ref 0), some (.int (nI (n))), some (.int (7 : Int32)), some (.int (nI (((((((n / 10) / 10) / 10) / 10) / 10) / 10) / 10))), some (.int (nI (n))), none]) rfl rfl (Nat.le_of_ble_eq_true rfl) rfl ?_
                        refine X_iload_n rfl rfl rfl rfl ?_
                        refine X_iconst (v := (1 : Int32)) rfl rfl rfl ?_
                        refine X_isub (v := (6 : Int32)) rfl rfl rfl ?_
                        refine X_istore (i := 5) (ls' := [some (.ref 0), some (.int (nI (n))), some (.int (7 : Int32)), some (.int (nI (((((((n / 10) / 10) / 10) / 10) / 10) / 10) / 10))), some (.int (nI (n))), some (.int (6 : Int32))]) rfl rfl (Nat.le_of_ble_eq_true rfl) rfl ?_
                        refine X_iload rfl rfl rfl ?_
                        refine X_if_lt (tgt := 93) rfl rfl rfl (fun q => absurd q (by decide)) (fun _ => ?_)
                        refine X_aload_n rfl rfl rfl rfl ?_
                        refine X_getR (a := 354) rfl rfl rfl ((congrFun F.1 0).trans s_0) rfl ((congrFun (F.2.1 0 (by decide)) 9).trans r_0_9) ?_
                        refine X_iload rfl rfl rfl ?_
                        refine X_iload rfl rfl rfl ?_
                        refine X_bipush (v := (10 : Int32)) rfl rfl rfl ?_
                        refine X_irem (v := (nI (n % 10))) rfl rfl (by decide) (nI_irem (d := 10) (by omega) (by decide)) ?_
                        refine X_iast (k0 := 6) rfl rfl ((congrFun F.1 354).trans s_354) (vp_in_d rfl) rfl ?_
                        refine X_iload rfl rfl rfl ?_
                        refine X_bipush (v := (10 : Int32)) rfl rfl rfl ?_
                        refine X_idiv (v := (nI (n / 10))) rfl rfl (by decide) (nI_idiv (d := 10) (by omega) (by decide)) ?_
                        refine X_istore (i := 4) (ls' := [some (.ref 0), some (.int (nI (n))), some (.int (7 : Int32)), some (.int (nI (((((((n / 10) / 10) / 10) / 10) / 10) / 10) / 10))), some (.int (nI (n / 10))), some (.int (6 : Int32))]) rfl rfl (Nat.le_of_ble_eq_true rfl) rfl ?_
                        refine X_iinc (v := (5 : Int32)) (ls' := [some (.ref 0), some (.int (nI (n))), some (.int (7 : Int32)), some (.int (nI (((((((n / 10) / 10) / 10) / 10) / 10) / 10) / 10))), some (.int (nI (n / 10))), some (.int (5 : Int32))]) rfl rfl rfl rfl rfl ?_
                        refine LW_goto (tgt := 63) rfl rfl ?_
                        refine X_iload rfl rfl rfl ?_
                        refine X_if_lt (tgt := 93) rfl rfl rfl (fun q => absurd q (by decide)) (fun _ => ?_)
                        refine X_aload_n rfl rfl rfl rfl ?_
                        refine X_getR (a := 354) rfl rfl rfl ((congrFun F.1 0).trans s_0) rfl ((congrFun (F.2.1 0 (by decide)) 9).trans r_0_9) ?_
                        refine X_iload rfl rfl rfl ?_
                        refine X_iload rfl rfl rfl ?_
                        refine X_bipush (v := (10 : Int32)) rfl rfl rfl ?_
                        refine X_irem (v := (nI ((n / 10) % 10))) rfl rfl (by decide) (nI_irem (d := 10) (by omega) (by decide)) ?_
                        refine X_iast (k0 := 5) rfl rfl ((congrFun F.1 354).trans s_354) (vp_in_d rfl) rfl ?_
                        refine X_iload rfl rfl rfl ?_
                        refine X_bipush (v := (10 : Int32)) rfl rfl rfl ?_
                        refine X_idiv (v := (nI ((n / 10) / 10))) rfl rfl (by decide) (nI_idiv (d := 10) (by omega) (by decide)) ?_
                        refine X_istore (i := 4) (ls' := [some (.ref 0), some (.int (nI (n))), some (.int (7 : Int32)), some (.int (nI (((((((n / 10) / 10) / 10) / 10) / 10) / 10) / 10))), some (.int (nI ((n / 10) / 10))), some (.int (5 : Int32))]) rfl rfl (Nat.le_of_ble_eq_true rfl) rfl ?_
                        refine X_iinc (v := (4 : Int32)) (ls' := [some (.ref 0), some (.int (nI (n))), some (.int (7 : Int32)), some (.int (nI (((((((n / 10) / 10) / 10) / 10) / 10) / 10) / 10))), some (.int (nI ((n / 10) / 10))), some (.int (4 : Int32))]) rfl rfl rfl rfl rfl ?_
                        refine LW_goto (tgt := 63) rfl rfl ?_
                        refine X_iload rfl rfl rfl ?_
                        refine X_if_lt (tgt := 93) rfl rfl rfl (fun q => absurd q (by decide)) (fun _ => ?_)
                        refine X_aload_n rfl rfl rfl rfl ?_
                        refine X_getR (a := 354) rfl rfl rfl ((congrFun F.1 0).trans s_0) rfl ((congrFun (F.2.1 0 (by decide)) 9).trans r_0_9) ?_
                        refine X_iload rfl rfl rfl ?_
                        refine X_iload rfl rfl rfl ?_
                        refine X_bipush (v := (10 : Int32)) rfl rfl rfl ?_
                        refine X_irem (v := (nI (((n / 10) / 10) % 10))) rfl rfl (by decide) (nI_irem (d := 10) (by omega) (by decide)) ?_
                        refine X_iast (k0 := 4) rfl rfl ((congrFun F.1 354).trans s_354) (vp_in_d rfl) rfl ?_
                        refine X_iload rfl rfl rfl ?_
                        refine X_bipush (v := (10 : Int32)) rfl rfl rfl ?_
                        refine X_idiv (v := (nI (((n / 10) / 10) / 10))) rfl rfl (by decide) (nI_idiv (d := 10) (by omega) (by decide)) ?_
                        refine X_istore (i := 4) (ls' := [some (.ref 0), some (.int (nI (n))), some (.int (7 : Int32)), some (.int (nI (((((((n / 10) / 10) / 10) / 10) / 10) / 10) / 10))), some (.int (nI (((n / 10) / 10) / 10))), some (.int (4 : Int32))]) rfl rfl (Nat.le_of_ble_eq_true rfl) rfl ?_
                        refine X_iinc (v := (3 : Int32)) (ls' := [some (.ref 0), some (.int (nI (n))), some (.int (7 : Int32)), some (.int (nI (((((((n / 10) / 10) / 10) / 10) / 10) / 10) / 10))), some (.int (nI (((n / 10) / 10) / 10))), some (.int (3 : Int32))]) rfl rfl rfl rfl rfl ?_
                        refine LW_goto (tgt := 63) rfl rfl ?_
                        refine X_iload rfl rfl rfl ?_
                        refine X_if_lt (tgt := 93) rfl rfl rfl (fun q => absurd q (by decide)) (fun _ => ?_)
                        refine X_aload_n rfl rfl rfl rfl ?_
                        refine X_getR (a := 354) rfl rfl rfl ((congrFun F.1 0).trans s_0) rfl ((congrFun (F.2.1 0 (by decide)) 9).trans r_0_9) ?_
                        refine X_iload rfl rfl rfl ?_
                        refine X_iload rfl rfl rfl ?_
                        refine X_bipush (v := (10 : Int32)) rfl rfl rfl ?_
                        refine X_irem (v := (nI ((((n / 10) / 10) / 10) % 10))) rfl rfl (by decide) (nI_irem (d := 10) (by omega) (by decide)) ?_
                        refine X_iast (k0 := 3) rfl rfl ((congrFun F.1 354).trans s_354) (vp_in_d rfl) rfl ?_
                        refine X_iload rfl rfl rfl ?_
                        refine X_bipush (v := (10 : Int32)) rfl rfl rfl ?_
                        refine X_idiv (v := (nI ((((n / 10) / 10) / 10) / 10))) rfl rfl (by decide) (nI_idiv (d := 10) (by omega) (by decide)) ?_
                        refine X_istore (i := 4) (ls' := [some (.ref 0), some (.int (nI (n))), some (.int (7 : Int32)), some (.int (nI (((((((n / 10) / 10) / 10) / 10) / 10) / 10) / 10))), some (.int (nI ((((n / 10) / 10) / 10) / 10))), some (.int (3 : Int32))]) rfl rfl (Nat.le_of_ble_eq_true rfl) rfl ?_
                        refine X_iinc (v := (2 : Int32)) (ls' := [some (.ref 0), some (.int (nI (n))), some (.int (7 : Int32)), some (.int (nI (((((((n / 10) / 10) / 10) / 10) / 10) / 10) / 10))), some (.int (nI ((((n / 10) / 10) / 10) / 10))), some (.int (2 : Int32))]) rfl rfl rfl rfl rfl ?_
                        refine LW_goto (tgt := 63) rfl rfl ?_
                        refine X_iload rfl rfl rfl ?_
                        refine X_if_lt (tgt := 93) rfl rfl rfl (fun q => absurd q (by decide)) (fun _ => ?_)
                        refine X_aload_n rfl rfl rfl rfl ?_
                        refine X_getR (a := 354) rfl rfl rfl ((congrFun F.1 0).trans s_0) rfl ((congrFun (F.2.1 0 (by decide)) 9).trans r_0_9) ?_
                        refine X_iload rfl rfl rfl ?_
                        refine X_iload rfl rfl rfl ?_
                        refine X_bipush (v := (10 : Int32)) rfl rfl rfl ?_
                        refine X_irem (v := (nI (((((n / 10) / 10) / 10) / 10) % 10))) rfl rfl (by decide) (nI_irem (d := 10) (by omega) (by decide)) ?_
                        refine X_iast (k0 := 2) rfl rfl ((congrFun F.1 354).trans s_354) (vp_in_d rfl) rfl ?_
                        refine X_iload rfl rfl rfl ?_
                        refine X_bipush (v := (10 : Int32)) rfl rfl rfl ?_
                        refine X_idiv (v := (nI (((((n / 10) / 10) / 10) / 10) / 10))) rfl rfl (by decide) (nI_idiv (d := 10) (by omega) (by decide)) ?_
                        refine X_istore (i := 4) (ls' := [some (.ref 0), some (.int (nI (n))), some (.int (7 : Int32)), some (.int (nI (((((((n / 10) / 10) / 10) / 10) / 10) / 10) / 10))), some (.int (nI (((((n / 10) / 10) / 10) / 10) / 10))), some (.int (2 : Int32))]) rfl rfl (Nat.le_of_ble_eq_true rfl) rfl ?_
                        refine X_iinc (v := (1 : Int32)) (ls' := [some (.ref 0), some (.int (nI (n))), some (.int (7 : Int32)), some (.int (nI (((((((n / 10) / 10) / 10) / 10) / 10) / 10) / 10))), some (.int (nI (((((n / 10) / 10) / 10) / 10) / 10))), some (.int (1 : Int32))]) rfl rfl rfl rfl rfl ?_
                        refine LW_goto (tgt := 63) rfl rfl ?_
                        refine X_iload rfl rfl rfl ?_
                        refine X_if_lt (tgt := 93) rfl rfl rfl (fun q => absurd q (by decide)) (fun _ => ?_)
                        refine X_aload_n rfl rfl rfl rfl ?_
                        refine X_getR (a := 354) rfl rfl rfl ((congrFun F.1 0).trans s_0) rfl ((congrFun (F.2.1 0 (by decide)) 9).trans r_0_9) ?_
                        refine X_iload rfl rfl rfl ?_
                        refine X_iload rfl rfl rfl ?_
                        refine X_bipush (v := (10 : Int32)) rfl rfl rfl ?_
                        refine X_irem (v := (nI ((((((n / 10) / 10) / 10) / 10) / 10) % 10))) rfl rfl (by decide) (nI_irem (d := 10) (by omega) (by decide)) ?_
                        refine X_iast (k0 := 1) rfl rfl ((congrFun F.1 354).trans s_354) (vp_in_d rfl) rfl ?_
                        refine X_iload rfl rfl rfl ?_
                        refine X_bipush (v := (10 : Int32)) rfl rfl rfl ?_
                        refine X_idiv (v := (nI ((((((n / 10) / 10) / 10) / 10) / 10) / 10))) rfl rfl (by decide) (nI_idiv (d := 10) (by omega) (by decide)) ?_
                        refine X_istore (i := 4) (ls' := [some (.ref 0), some (.int (nI (n))), some (.int (7 : Int32)), some (.int (nI (((((((n / 10) / 10) / 10) / 10) / 10) / 10) / 10))), some (.int (nI ((((((n / 10) / 10) / 10) / 10) / 10) / 10))), some (.int (1 : Int32))]) rfl rfl (Nat.le_of_ble_eq_true rfl) rfl ?_
                        refine X_iinc (v := (0 : Int32)) (ls' := [some (.ref 0), some (.int (nI (n))), some (.int (7 : Int32)), some (.int (nI (((((((n / 10) / 10) / 10) / 10) / 10) / 10) / 10))), some (.int (nI ((((((n / 10) / 10) / 10) / 10) / 10) / 10))), some (.int (0 : Int32))]) rfl rfl rfl rfl rfl ?_
                        refine LW_goto (tgt := 63) rfl rfl ?_
                        refine X_iload rfl rfl rfl ?_
                        refine X_if_lt (tgt := 93) rfl rfl rfl (fun q => absurd q (by decide)) (fun _ => ?_)
                        refine X_aload_n rfl rfl rfl rfl ?_
                        refine X_getR (a := 354) rfl rfl rfl ((congrFun F.1 0).trans s_0) rfl ((congrFun (F.2.1 0 (by decide)) 9).trans r_0_9) ?_
                        refine X_iload rfl rfl rfl ?_
                        refine X_iload rfl rfl rfl ?_
                        refine X_bipush (v := (10 : Int32)) rfl rfl rfl ?_
                        refine X_irem (v := (nI (((((((n / 10) / 10) / 10) / 10) / 10) / 10) % 10))) rfl rfl (by decide) (nI_irem (d := 10) (by omega) (by decide)) ?_
                        refine X_iast (k0 := 0) rfl rfl ((congrFun F.1 354).trans s_354) (vp_in_d rfl) rfl ?_
                        refine X_iload rfl rfl rfl ?_
                        refine X_bipush (v := (10 : Int32)) rfl rfl rfl ?_
                        refine X_idiv (v := (nI (((((((n / 10) / 10) / 10) / 10) / 10) / 10) / 10))) rfl rfl (by decide) (nI_idiv (d := 10) (by omega) (by decide)) ?_
                        refine X_istore (i := 4) (ls' := [some (.ref 0), some (.int (nI (n))), some (.int (7 : Int32)), some (.int (nI (((((((n / 10) / 10) / 10) / 10) / 10) / 10) / 10))), some (.int (nI (((((((n / 10) / 10) / 10) / 10) / 10) / 10) / 10))), some (.int (0 : Int32))]) rfl rfl (Nat.le_of_ble_eq_true rfl) rfl ?_
                        refine X_iinc (v := (-1 : Int32)) (ls' := [some (.ref 0), some (.int (nI (n))), some (.int (7 : Int32)), some (.int (nI (((((((n / 10) / 10) / 10) / 10) / 10) / 10) / 10))), some (.int (nI (((((((n / 10) / 10) / 10) / 10) / 10) / 10) / 10))), some (.int (-1 : Int32))]) rfl rfl rfl rfl rfl ?_
                        refine LW_goto (tgt := 63) rfl rfl ?_
                        refine X_iload rfl rfl rfl ?_
                        refine X_if_lt (tgt := 93) rfl rfl rfl (fun _ => ?_) (fun q => absurd q (by decide))
                        refine X_aload_n rfl rfl rfl rfl ?_
                        refine X_getR (a := 1) rfl rfl rfl ((congrFun F.1 0).trans s_0) rfl ((congrFun (F.2.1 0 (by decide)) 0).trans r_0_0) ?_
                        refine X_getR (a := 2) rfl rfl rfl ((congrFun F.1 1).trans s_1) rfl ((congrFun (F.2.1 1 (by decide)) 0).trans r_1_0) ?_
                        refine X_aload_n rfl rfl rfl rfl ?_
                        refine X_getR (a := 354) rfl rfl rfl ((congrFun F.1 0).trans s_0) rfl ((congrFun (F.2.1 0 (by decide)) 9).trans r_0_9) ?_
                        refine X_iconst (v := (0 : Int32)) rfl rfl rfl ?_
                        refine X_iload_n rfl rfl rfl rfl ?_
                        refine X_callV (as := [.ref 354, .int (0 : Int32), .int (7 : Int32)]) (st := []) rfl rfl rfl (by decide) rfl (Nat.le_of_ble_eq_true rfl) (by decide) (Nat.le_of_ble_eq_true rfl) rfl ((congrFun F.1 2).trans s_2) (by decide) ?_
                        refine LW_ls (ls' := [some (.ref 2), some (.ref 354), some (.int (0 : Int32)), some (.int (7 : Int32)), none, none]) rfl ?_
                        refine X_iload_n rfl rfl rfl rfl ?_
                        refine X_iconst (v := (1 : Int32)) rfl rfl rfl ?_
                        refine X_icmp_lt (tgt := 23) rfl rfl rfl (fun q => absurd q (by decide)) (fun _ => ?_)
                        refine X_iload_n rfl rfl rfl rfl ?_
                        refine X_bipush (v := (8 : Int32)) rfl rfl rfl ?_
                        refine X_icmp_gt (tgt := 23) rfl rfl rfl (fun q => absurd q (by decide)) (fun _ => ?_)
                        refine X_iload_n rfl rfl rfl rfl ?_
                        refine X_if_lt (tgt := 23) rfl rfl rfl (fun q => absurd q (by decide)) (fun _ => ?_)
                        refine X_iload_n rfl rfl rfl rfl ?_
                        refine X_iload_n rfl rfl rfl rfl ?_
                        refine X_iadd (v := (7 : Int32)) rfl rfl rfl ?_
                        refine X_aload_n rfl rfl rfl rfl ?_
                        refine X_alen (t0 := 0) (v := (8 : Int32)) rfl rfl ((congrFun F.1 354).trans s_354) rfl rfl ?_
                        refine X_icmp_le (tgt := 25) rfl rfl rfl (fun _ => ?_) (fun q => absurd q (by decide))
                        refine X_aload_n rfl rfl rfl rfl ?_
                        refine X_getI (v := (0 : Int32)) rfl rfl rfl ((congrFun F.1 2).trans s_2) rfl ((congrFun (F.2.2 2 (by decide)).1 1).trans i_2_1) ?_
                        refine X_bipush (v := (8 : Int32)) rfl rfl rfl ?_
                        refine X_icmp_lt (tgt := 36) rfl rfl rfl (fun _ => ?_) (fun q => absurd q (by decide))
                        refine X_iconst (v := (0 : Int32)) rfl rfl rfl ?_
                        refine X_istore (i := 4) (ls' := [some (.ref 2), some (.ref 354), some (.int (0 : Int32)), some (.int (7 : Int32)), some (.int (0 : Int32)), none]) rfl rfl (Nat.le_of_ble_eq_true rfl) rfl ?_
                        refine X_iconst (v := (0 : Int32)) rfl rfl rfl ?_
                        refine X_istore (i := 5) (ls' := [some (.ref 2), some (.ref 354), some (.int (0 : Int32)), some (.int (7 : Int32)), some (.int (0 : Int32)), some (.int (0 : Int32))]) rfl rfl (Nat.le_of_ble_eq_true rfl) rfl ?_
                        refine X_iload rfl rfl rfl ?_
                        refine X_iload_n rfl rfl rfl rfl ?_
                        refine X_icmp_ge (tgt := 88) rfl rfl rfl (fun q => absurd q (by decide)) (fun _ => ?_)
                        refine X_aload_n rfl rfl rfl rfl ?_
                        refine X_getR (a := 9) rfl rfl rfl ((congrFun F.1 2).trans s_2) rfl ((congrFun (F.2.1 2 (by decide)) 8).trans r_2_8) ?_
                        refine X_aload_n rfl rfl rfl rfl ?_
                        refine X_getI (v := (0 : Int32)) rfl rfl rfl ((congrFun F.1 2).trans s_2) rfl ((congrFun (F.2.2 2 (by decide)).1 1).trans i_2_1) ?_
                        refine X_bipush (v := (8 : Int32)) rfl rfl rfl ?_
                        refine X_imul (v := (0 : Int32)) rfl rfl rfl ?_
                        refine X_iload rfl rfl rfl ?_
                        refine X_iadd (v := (0 : Int32)) rfl rfl rfl ?_
                        refine X_aload_n rfl rfl rfl rfl ?_
                        refine X_iload_n rfl rfl rfl rfl ?_
                        refine X_iload rfl rfl rfl ?_
                        refine X_iadd (v := (0 : Int32)) rfl rfl rfl ?_
                        refine X_iald (v := (nI (((((((n / 10) / 10) / 10) / 10) / 10) / 10) % 10))) rfl rfl ((congrFun F.1 354).trans s_354) (vp_in_d rfl) rfl ?_
                        refine X_iast (k0 := 0) rfl rfl ((congrFun F.1 9).trans s_9) (vp_in_d rfl) rfl ?_
                        refine X_iload rfl rfl rfl ?_
                        refine X_iconst (v := (1 : Int32)) rfl rfl rfl ?_
                        refine X_aload_n rfl rfl rfl rfl ?_
                        refine X_iload_n rfl rfl rfl rfl ?_
                        refine X_iload rfl rfl rfl ?_
                        refine X_iadd (v := (0 : Int32)) rfl rfl rfl ?_
                        refine X_iald (v := (nI (((((((n / 10) / 10) / 10) / 10) / 10) / 10) % 10))) rfl rfl ((congrFun F.1 354).trans s_354) (vp_in_d rfl) rfl ?_
                        refine X_ishl (v := ((1 : Int32) <<< ((nI (((((((n / 10) / 10) / 10) / 10) / 10) / 10) % 10)) &&& 31))) rfl rfl rfl ?_
                        refine X_ior (v := ((0 : Int32) ||| ((1 : Int32) <<< ((nI (((((((n / 10) / 10) / 10) / 10) / 10) / 10) % 10)) &&& 31)))) rfl rfl rfl ?_
                        refine X_istore (i := 4) (ls' := [some (.ref 2), some (.ref 354), some (.int (0 : Int32)), some (.int (7 : Int32)), some (.int ((0 : Int32) ||| ((1 : Int32) <<< ((nI (((((((n / 10) / 10) / 10) / 10) / 10) / 10) % 10)) &&& 31)))), some (.int (0 : Int32))]) rfl rfl (Nat.le_of_ble_eq_true rfl) rfl ?_
                        refine X_iinc (v := (1 : Int32)) (ls' := [some (.ref 2), some (.ref 354), some (.int (0 : Int32)), some (.int (7 : Int32)), some (.int ((0 : Int32) ||| ((1 : Int32) <<< ((nI (((((((n / 10) / 10) / 10) / 10) / 10) / 10) % 10)) &&& 31)))), some (.int (1 : Int32))]) rfl rfl rfl rfl rfl ?_
                        refine LW_goto (tgt := 42) rfl rfl ?_
                        refine X_iload rfl rfl rfl ?_
                        refine X_iload_n rfl rfl rfl rfl ?_
                        refine X_icmp_ge (tgt := 88) rfl rfl rfl (fun q => absurd q (by decide)) (fun _ => ?_)
                        refine X_aload_n rfl rfl rfl rfl ?_
                        refine X_getR (a := 9) rfl rfl rfl ((congrFun F.1 2).trans s_2) rfl ((congrFun (F.2.1 2 (by decide)) 8).trans r_2_8) ?_
                        refine X_aload_n rfl rfl rfl rfl ?_
                        refine X_getI (v := (0 : Int32)) rfl rfl rfl ((congrFun F.1 2).trans s_2) rfl ((congrFun (F.2.2 2 (by decide)).1 1).trans i_2_1) ?_
                        refine X_bipush (v := (8 : Int32)) rfl rfl rfl ?_
                        refine X_imul (v := (0 : Int32)) rfl rfl rfl ?_
                        refine X_iload rfl rfl rfl ?_
                        refine X_iadd (v := (1 : Int32)) rfl rfl rfl ?_
                        refine X_aload_n rfl rfl rfl rfl ?_
                        refine X_iload_n rfl rfl rfl rfl ?_
                        refine X_iload rfl rfl rfl ?_
                        refine X_iadd (v := (1 : Int32)) rfl rfl rfl ?_
                        refine X_iald (v := (nI ((((((n / 10) / 10) / 10) / 10) / 10) % 10))) rfl rfl ((congrFun F.1 354).trans s_354) (vp_in_d rfl) rfl ?_
                        refine X_iast (k0 := 1) rfl rfl ((congrFun F.1 9).trans s_9) (vp_in_d rfl) rfl ?_
                        refine X_iload rfl rfl rfl ?_
                        refine X_iconst (v := (1 : Int32)) rfl rfl rfl ?_
                        refine X_aload_n rfl rfl rfl rfl ?_
                        refine X_iload_n rfl rfl rfl rfl ?_
                        refine X_iload rfl rfl rfl ?_
                        refine X_iadd (v := (1 : Int32)) rfl rfl rfl ?_
                        refine X_iald (v := (nI ((((((n / 10) / 10) / 10) / 10) / 10) % 10))) rfl rfl ((congrFun F.1 354).trans s_354) (vp_in_d rfl) rfl ?_
                        refine X_ishl (v := ((1 : Int32) <<< ((nI ((((((n / 10) / 10) / 10) / 10) / 10) % 10)) &&& 31))) rfl rfl rfl ?_
                        refine X_ior (v := (((0 : Int32) ||| ((1 : Int32) <<< ((nI (((((((n / 10) / 10) / 10) / 10) / 10) / 10) % 10)) &&& 31))) ||| ((1 : Int32) <<< ((nI ((((((n / 10) / 10) / 10) / 10) / 10) % 10)) &&& 31)))) rfl rfl rfl ?_
                        refine X_istore (i := 4) (ls' := [some (.ref 2), some (.ref 354), some (.int (0 : Int32)), some (.int (7 : Int32)), some (.int (((0 : Int32) ||| ((1 : Int32) <<< ((nI (((((((n / 10) / 10) / 10) / 10) / 10) / 10) % 10)) &&& 31))) ||| ((1 : Int32) <<< ((nI ((((((n / 10) / 10) / 10) / 10) / 10) % 10)) &&& 31)))), some (.int (1 : Int32))]) rfl rfl (Nat.le_of_ble_eq_true rfl) rfl ?_
                        refine X_iinc (v := (2 : Int32)) (ls' := [some (.ref 2), some (.ref 354), some (.int (0 : Int32)), some (.int (7 : Int32)), some (.int (((0 : Int32) ||| ((1 : Int32) <<< ((nI (((((((n / 10) / 10) / 10) / 10) / 10) / 10) % 10)) &&& 31))) ||| ((1 : Int32) <<< ((nI ((((((n / 10) / 10) / 10) / 10) / 10) % 10)) &&& 31)))), some (.int (2 : Int32))]) rfl rfl rfl rfl rfl ?_
                        refine LW_goto (tgt := 42) rfl rfl ?_
                        refine X_iload rfl rfl rfl ?_
                        refine X_iload_n rfl rfl rfl rfl ?_
                        refine X_icmp_ge (tgt := 88) rfl rfl rfl (fun q => absurd q (by decide)) (fun _ => ?_)
                        refine X_aload_n rfl rfl rfl rfl ?_
                        refine X_getR (a := 9) rfl rfl rfl ((congrFun F.1 2).trans s_2) rfl ((congrFun (F.2.1 2 (by decide)) 8).trans r_2_8) ?_
                        refine X_aload_n rfl rfl rfl rfl ?_
                        refine X_getI (v := (0 : Int32)) rfl rfl rfl ((congrFun F.1 2).trans s_2) rfl ((congrFun (F.2.2 2 (by decide)).1 1).trans i_2_1) ?_
                        refine X_bipush (v := (8 : Int32)) rfl rfl rfl ?_
                        refine X_imul (v := (0 : Int32)) rfl rfl rfl ?_
                        refine X_iload rfl rfl rfl ?_
                        refine X_iadd (v := (2 : Int32)) rfl rfl rfl ?_
                        refine X_aload_n rfl rfl rfl rfl ?_
                        refine X_iload_n rfl rfl rfl rfl ?_
                        refine X_iload rfl rfl rfl ?_
                        refine X_iadd (v := (2 : Int32)) rfl rfl rfl ?_
                        refine X_iald (v := (nI (((((n / 10) / 10) / 10) / 10) % 10))) rfl rfl ((congrFun F.1 354).trans s_354) (vp_in_d rfl) rfl ?_
                        refine X_iast (k0 := 2) rfl rfl ((congrFun F.1 9).trans s_9) (vp_in_d rfl) rfl ?_
                        refine X_iload rfl rfl rfl ?_
                        refine X_iconst (v := (1 : Int32)) rfl rfl rfl ?_
                        refine X_aload_n rfl rfl rfl rfl ?_
                        refine X_iload_n rfl rfl rfl rfl ?_
                        refine X_iload rfl rfl rfl ?_
                        refine X_iadd (v := (2 : Int32)) rfl rfl rfl ?_
                        refine X_iald (v := (nI (((((n / 10) / 10) / 10) / 10) % 10))) rfl rfl ((congrFun F.1 354).trans s_354) (vp_in_d rfl) rfl ?_
                        refine X_ishl (v := ((1 : Int32) <<< ((nI (((((n / 10) / 10) / 10) / 10) % 10)) &&& 31))) rfl rfl rfl ?_
                        refine X_ior (v := ((((0 : Int32) ||| ((1 : Int32) <<< ((nI (((((((n / 10) / 10) / 10) / 10) / 10) / 10) % 10)) &&& 31))) ||| ((1 : Int32) <<< ((nI ((((((n / 10) / 10) / 10) / 10) / 10) % 10)) &&& 31))) ||| ((1 : Int32) <<< ((nI (((((n / 10) / 10) / 10) / 10) % 10)) &&& 31)))) rfl rfl rfl ?_
                        refine X_istore (i := 4) (ls' := [some (.ref 2), some (.ref 354), some (.int (0 : Int32)), some (.int (7 : Int32)), some (.int ((((0 : Int32) ||| ((1 : Int32) <<< ((nI (((((((n / 10) / 10) / 10) / 10) / 10) / 10) % 10)) &&& 31))) ||| ((1 : Int32) <<< ((nI ((((((n / 10) / 10) / 10) / 10) / 10) % 10)) &&& 31))) ||| ((1 : Int32) <<< ((nI (((((n / 10) / 10) / 10) / 10) % 10)) &&& 31)))), some (.int (2 : Int32))]) rfl rfl (Nat.le_of_ble_eq_true rfl) rfl ?_
                        refine X_iinc (v := (3 : Int32)) (ls' := [some (.ref 2), some (.ref 354), some (.int (0 : Int32)), some (.int (7 : Int32)), some (.int ((((0 : Int32) ||| ((1 : Int32) <<< ((nI (((((((n / 10) / 10) / 10) / 10) / 10) / 10) % 10)) &&& 31))) ||| ((1 : Int32) <<< ((nI ((((((n / 10) / 10) / 10) / 10) / 10) % 10)) &&& 31))) ||| ((1 : Int32) <<< ((nI (((((n / 10) / 10) / 10) / 10) % 10)) &&& 31)))), some (.int (3 : Int32))]) rfl rfl rfl rfl rfl ?_
                        refine LW_goto (tgt := 42) rfl rfl ?_
                        refine X_iload rfl rfl rfl ?_
                        refine X_iload_n rfl rfl rfl rfl ?_
                        refine X_icmp_ge (tgt := 88) rfl rfl rfl (fun q => absurd q (by decide)) (fun _ => ?_)
                        refine X_aload_n rfl rfl rfl rfl ?_
                        refine X_getR (a := 9) rfl rfl rfl ((congrFun F.1 2).trans s_2) rfl ((congrFun (F.2.1 2 (by decide)) 8).trans r_2_8) ?_
                        refine X_aload_n rfl rfl rfl rfl ?_
                        refine X_getI (v := (0 : Int32)) rfl rfl rfl ((congrFun F.1 2).trans s_2) rfl ((congrFun (F.2.2 2 (by decide)).1 1).trans i_2_1) ?_
                        refine X_bipush (v := (8 : Int32)) rfl rfl rfl ?_
                        refine X_imul (v := (0 : Int32)) rfl rfl rfl ?_
                        refine X_iload rfl rfl rfl ?_
                        refine X_iadd (v := (3 : Int32)) rfl rfl rfl ?_
                        refine X_aload_n rfl rfl rfl rfl ?_
                        refine X_iload_n rfl rfl rfl rfl ?_
                        refine X_iload rfl rfl rfl ?_
                        refine X_iadd (v := (3 : Int32)) rfl rfl rfl ?_
                        refine X_iald (v := (nI ((((n / 10) / 10) / 10) % 10))) rfl rfl ((congrFun F.1 354).trans s_354) (vp_in_d rfl) rfl ?_
                        refine X_iast (k0 := 3) rfl rfl ((congrFun F.1 9).trans s_9) (vp_in_d rfl) rfl ?_
                        refine X_iload rfl rfl rfl ?_
                        refine X_iconst (v := (1 : Int32)) rfl rfl rfl ?_
                        refine X_aload_n rfl rfl rfl rfl ?_
                        refine X_iload_n rfl rfl rfl rfl ?_
                        refine X_iload rfl rfl rfl ?_
                        refine X_iadd (v := (3 : Int32)) rfl rfl rfl ?_
                        refine X_iald (v := (nI ((((n / 10) / 10) / 10) % 10))) rfl rfl ((congrFun F.1 354).trans s_354) (vp_in_d rfl) rfl ?_
                        refine X_ishl (v := ((1 : Int32) <<< ((nI ((((n / 10) / 10) / 10) % 10)) &&& 31))) rfl rfl rfl ?_
                        refine X_ior (v := (((((0 : Int32) ||| ((1 : Int32) <<< ((nI (((((((n / 10) / 10) / 10) / 10) / 10) / 10) % 10)) &&& 31))) ||| ((1 : Int32) <<< ((nI ((((((n / 10) / 10) / 10) / 10) / 10) % 10)) &&& 31))) ||| ((1 : Int32) <<< ((nI (((((n / 10) / 10) / 10) / 10) % 10)) &&& 31))) ||| ((1 : Int32) <<< ((nI ((((n / 10) / 10) / 10) % 10)) &&& 31)))) rfl rfl rfl ?_
                        refine X_istore (i := 4) (ls' := [some (.ref 2), some (.ref 354), some (.int (0 : Int32)), some (.int (7 : Int32)), some (.int (((((0 : Int32) ||| ((1 : Int32) <<< ((nI (((((((n / 10) / 10) / 10) / 10) / 10) / 10) % 10)) &&& 31))) ||| ((1 : Int32) <<< ((nI ((((((n / 10) / 10) / 10) / 10) / 10) % 10)) &&& 31))) ||| ((1 : Int32) <<< ((nI (((((n / 10) / 10) / 10) / 10) % 10)) &&& 31))) ||| ((1 : Int32) <<< ((nI ((((n / 10) / 10) / 10) % 10)) &&& 31)))), some (.int (3 : Int32))]) rfl rfl (Nat.le_of_ble_eq_true rfl) rfl ?_
                        refine X_iinc (v := (4 : Int32)) (ls' := [some (.ref 2), some (.ref 354), some (.int (0 : Int32)), some (.int (7 : Int32)), some (.int (((((0 : Int32) ||| ((1 : Int32) <<< ((nI (((((((n / 10) / 10) / 10) / 10) / 10) / 10) % 10)) &&& 31))) ||| ((1 : Int32) <<< ((nI ((((((n / 10) / 10) / 10) / 10) / 10) % 10)) &&& 31))) ||| ((1 : Int32) <<< ((nI (((((n / 10) / 10) / 10) / 10) % 10)) &&& 31))) ||| ((1 : Int32) <<< ((nI ((((n / 10) / 10) / 10) % 10)) &&& 31)))), some (.int (4 : Int32))]) rfl rfl rfl rfl rfl ?_
                        refine LW_goto (tgt := 42) rfl rfl ?_
                        refine X_iload rfl rfl rfl ?_
                        refine X_iload_n rfl rfl rfl rfl ?_
                        refine X_icmp_ge (tgt := 88) rfl rfl rfl (fun q => absurd q (by decide)) (fun _ => ?_)
                        refine X_aload_n rfl rfl rfl rfl ?_
                        refine X_getR (a := 9) rfl rfl rfl ((congrFun F.1 2).trans s_2) rfl ((congrFun (F.2.1 2 (by decide)) 8).trans r_2_8) ?_
                        refine X_aload_n rfl rfl rfl rfl ?_
                        refine X_getI (v := (0 : Int32)) rfl rfl rfl ((congrFun F.1 2).trans s_2) rfl ((congrFun (F.2.2 2 (by decide)).1 1).trans i_2_1) ?_
                        refine X_bipush (v := (8 : Int32)) rfl rfl rfl ?_
                        refine X_imul (v := (0 : Int32)) rfl rfl rfl ?_
                        refine X_iload rfl rfl rfl ?_
                        refine X_iadd (v := (4 : Int32)) rfl rfl rfl ?_
                        refine X_aload_n rfl rfl rfl rfl ?_
                        refine X_iload_n rfl rfl rfl rfl ?_
                        refine X_iload rfl rfl rfl ?_
                        refine X_iadd (v := (4 : Int32)) rfl rfl rfl ?_
                        refine X_iald (v := (nI (((n / 10) / 10) % 10))) rfl rfl ((congrFun F.1 354).trans s_354) (vp_in_d rfl) rfl ?_
                        refine X_iast (k0 := 4) rfl rfl ((congrFun F.1 9).trans s_9) (vp_in_d rfl) rfl ?_
                        refine X_iload rfl rfl rfl ?_
                        refine X_iconst (v := (1 : Int32)) rfl rfl rfl ?_
                        refine X_aload_n rfl rfl rfl rfl ?_
                        refine X_iload_n rfl rfl rfl rfl ?_
                        refine X_iload rfl rfl rfl ?_
                        refine X_iadd (v := (4 : Int32)) rfl rfl rfl ?_
                        refine X_iald (v := (nI (((n / 10) / 10) % 10))) rfl rfl ((congrFun F.1 354).trans s_354) (vp_in_d rfl) rfl ?_
                        refine X_ishl (v := ((1 : Int32) <<< ((nI (((n / 10) / 10) % 10)) &&& 31))) rfl rfl rfl ?_
                        refine X_ior (v := ((((((0 : Int32) ||| ((1 : Int32) <<< ((nI (((((((n / 10) / 10) / 10) / 10) / 10) / 10) % 10)) &&& 31))) ||| ((1 : Int32) <<< ((nI ((((((n / 10) / 10) / 10) / 10) / 10) % 10)) &&& 31))) ||| ((1 : Int32) <<< ((nI (((((n / 10) / 10) / 10) / 10) % 10)) &&& 31))) ||| ((1 : Int32) <<< ((nI ((((n / 10) / 10) / 10) % 10)) &&& 31))) ||| ((1 : Int32) <<< ((nI (((n / 10) / 10) % 10)) &&& 31)))) rfl rfl rfl ?_
                        refine X_istore (i := 4) (ls' := [some (.ref 2), some (.ref 354), some (.int (0 : Int32)), some (.int (7 : Int32)), some (.int ((((((0 : Int32) ||| ((1 : Int32) <<< ((nI (((((((n / 10) / 10) / 10) / 10) / 10) / 10) % 10)) &&& 31))) ||| ((1 : Int32) <<< ((nI ((((((n / 10) / 10) / 10) / 10) / 10) % 10)) &&& 31))) ||| ((1 : Int32) <<< ((nI (((((n / 10) / 10) / 10) / 10) % 10)) &&& 31))) ||| ((1 : Int32) <<< ((nI ((((n / 10) / 10) / 10) % 10)) &&& 31))) ||| ((1 : Int32) <<< ((nI (((n / 10) / 10) % 10)) &&& 31)))), some (.int (4 : Int32))]) rfl rfl (Nat.le_of_ble_eq_true rfl) rfl ?_
                        refine X_iinc (v := (5 : Int32)) (ls' := [some (.ref 2), some (.ref 354), some (.int (0 : Int32)), some (.int (7 : Int32)), some (.int ((((((0 : Int32) ||| ((1 : Int32) <<< ((nI (((((((n / 10) / 10) / 10) / 10) / 10) / 10) % 10)) &&& 31))) ||| ((1 : Int32) <<< ((nI ((((((n / 10) / 10) / 10) / 10) / 10) % 10)) &&& 31))) ||| ((1 : Int32) <<< ((nI (((((n / 10) / 10) / 10) / 10) % 10)) &&& 31))) ||| ((1 : Int32) <<< ((nI ((((n / 10) / 10) / 10) % 10)) &&& 31))) ||| ((1 : Int32) <<< ((nI (((n / 10) / 10) % 10)) &&& 31)))), some (.int (5 : Int32))]) rfl rfl rfl rfl rfl ?_
                        refine LW_goto (tgt := 42) rfl rfl ?_
                        refine X_iload rfl rfl rfl ?_
                        refine X_iload_n rfl rfl rfl rfl ?_
                        refine X_icmp_ge (tgt := 88) rfl rfl rfl (fun q => absurd q (by decide)) (fun _ => ?_)
                        refine X_aload_n rfl rfl rfl rfl ?_
                        refine X_getR (a := 9) rfl rfl rfl ((congrFun F.1 2).trans s_2) rfl ((congrFun (F.2.1 2 (by decide)) 8).trans r_2_8) ?_
                        refine X_aload_n rfl rfl rfl rfl ?_
                        refine X_getI (v := (0 : Int32)) rfl rfl rfl ((congrFun F.1 2).trans s_2) rfl ((congrFun (F.2.2 2 (by decide)).1 1).trans i_2_1) ?_
                        refine X_bipush (v := (8 : Int32)) rfl rfl rfl ?_
                        refine X_imul (v := (0 : Int32)) rfl rfl rfl ?_
                        refine X_iload rfl rfl rfl ?_
                        refine X_iadd (v := (5 : Int32)) rfl rfl rfl ?_
                        refine X_aload_n rfl rfl rfl rfl ?_
                        refine X_iload_n rfl rfl rfl rfl ?_
                        refine X_iload rfl rfl rfl ?_
                        refine X_iadd (v := (5 : Int32)) rfl rfl rfl ?_
                        refine X_iald (v := (nI ((n / 10) % 10))) rfl rfl ((congrFun F.1 354).trans s_354) (vp_in_d rfl) rfl ?_
                        refine X_iast (k0 := 5) rfl rfl ((congrFun F.1 9).trans s_9) (vp_in_d rfl) rfl ?_
                        refine X_iload rfl rfl rfl ?_
                        refine X_iconst (v := (1 : Int32)) rfl rfl rfl ?_
                        refine X_aload_n rfl rfl rfl rfl ?_
                        refine X_iload_n rfl rfl rfl rfl ?_
                        refine X_iload rfl rfl rfl ?_
                        refine X_iadd (v := (5 : Int32)) rfl rfl rfl ?_
                        refine X_iald (v := (nI ((n / 10) % 10))) rfl rfl ((congrFun F.1 354).trans s_354) (vp_in_d rfl) rfl ?_
                        refine X_ishl (v := ((1 : Int32) <<< ((nI ((n / 10) % 10)) &&& 31))) rfl rfl rfl ?_
                        refine X_ior (v := (((((((0 : Int32) ||| ((1 : Int32) <<< ((nI (((((((n / 10) / 10) / 10) / 10) / 10) / 10) % 10)) &&& 31))) ||| ((1 : Int32) <<< ((nI ((((((n / 10) / 10) / 10) / 10) / 10) % 10)) &&& 31))) ||| ((1 : Int32) <<< ((nI (((((n / 10) / 10) / 10) / 10) % 10)) &&& 31))) ||| ((1 : Int32) <<< ((nI ((((n / 10) / 10) / 10) % 10)) &&& 31))) ||| ((1 : Int32) <<< ((nI (((n / 10) / 10) % 10)) &&& 31))) ||| ((1 : Int32) <<< ((nI ((n / 10) % 10)) &&& 31)))) rfl rfl rfl ?_
                        refine X_istore (i := 4) (ls' := [some (.ref 2), some (.ref 354), some (.int (0 : Int32)), some (.int (7 : Int32)), some (.int (((((((0 : Int32) ||| ((1 : Int32) <<< ((nI (((((((n / 10) / 10) / 10) / 10) / 10) / 10) % 10)) &&& 31))) ||| ((1 : Int32) <<< ((nI ((((((n / 10) / 10) / 10) / 10) / 10) % 10)) &&& 31))) ||| ((1 : Int32) <<< ((nI (((((n / 10) / 10) / 10) / 10) % 10)) &&& 31))) ||| ((1 : Int32) <<< ((nI ((((n / 10) / 10) / 10) % 10)) &&& 31))) ||| ((1 : Int32) <<< ((nI (((n / 10) / 10) % 10)) &&& 31))) ||| ((1 : Int32) <<< ((nI ((n / 10) % 10)) &&& 31)))), some (.int (5 : Int32))]) rfl rfl (Nat.le_of_ble_eq_true rfl) rfl ?_
                        refine X_iinc (v := (6 : Int32)) (ls' := [some (.ref 2), some (.ref 354), some (.int (0 : Int32)), some (.int (7 : Int32)), some (.int (((((((0 : Int32) ||| ((1 : Int32) <<< ((nI (((((((n / 10) / 10) / 10) / 10) / 10) / 10) % 10)) &&& 31))) ||| ((1 : Int32) <<< ((nI ((((((n / 10) / 10) / 10) / 10) / 10) % 10)) &&& 31))) ||| ((1 : Int32) <<< ((nI (((((n / 10) / 10) / 10) / 10) % 10)) &&& 31))) ||| ((1 : Int32) <<< ((nI ((((n / 10) / 10) / 10) % 10)) &&& 31))) ||| ((1 : Int32) <<< ((nI (((n / 10) / 10) % 10)) &&& 31))) ||| ((1 : Int32) <<< ((nI ((n / 10) % 10)) &&& 31)))), some (.int (6 : Int32))]) rfl rfl rfl rfl rfl ?_
                        refine LW_goto (tgt := 42) rfl rfl ?_
                        refine X_iload rfl rfl rfl ?_
                        refine X_iload_n rfl rfl rfl rfl ?_
                        refine X_icmp_ge (tgt := 88) rfl rfl rfl (fun q => absurd q (by decide)) (fun _ => ?_)
                        refine X_aload_n rfl rfl rfl rfl ?_
                        refine X_getR (a := 9) rfl rfl rfl ((congrFun F.1 2).trans s_2) rfl ((congrFun (F.2.1 2 (by decide)) 8).trans r_2_8) ?_
                        refine X_aload_n rfl rfl rfl rfl ?_
                        refine X_getI (v := (0 : Int32)) rfl rfl rfl ((congrFun F.1 2).trans s_2) rfl ((congrFun (F.2.2 2 (by decide)).1 1).trans i_2_1) ?_
                        refine X_bipush (v := (8 : Int32)) rfl rfl rfl ?_
                        refine X_imul (v := (0 : Int32)) rfl rfl rfl ?_
                        refine X_iload rfl rfl rfl ?_
                        refine X_iadd (v := (6 : Int32)) rfl rfl rfl ?_
                        refine X_aload_n rfl rfl rfl rfl ?_
                        refine X_iload_n rfl rfl rfl rfl ?_
                        refine X_iload rfl rfl rfl ?_
                        refine X_iadd (v := (6 : Int32)) rfl rfl rfl ?_
                        refine X_iald (v := (nI (n % 10))) rfl rfl ((congrFun F.1 354).trans s_354) (vp_in_d rfl) rfl ?_
                        refine X_iast (k0 := 6) rfl rfl ((congrFun F.1 9).trans s_9) (vp_in_d rfl) rfl ?_
                        refine X_iload rfl rfl rfl ?_
                        refine X_iconst (v := (1 : Int32)) rfl rfl rfl ?_
                        refine X_aload_n rfl rfl rfl rfl ?_
                        refine X_iload_n rfl rfl rfl rfl ?_
                        refine X_iload rfl rfl rfl ?_
                        refine X_iadd (v := (6 : Int32)) rfl rfl rfl ?_
                        refine X_iald (v := (nI (n % 10))) rfl rfl ((congrFun F.1 354).trans s_354) (vp_in_d rfl) rfl ?_
                        refine X_ishl (v := ((1 : Int32) <<< ((nI (n % 10)) &&& 31))) rfl rfl rfl ?_
                        refine X_ior (v := ((((((((0 : Int32) ||| ((1 : Int32) <<< ((nI (((((((n / 10) / 10) / 10) / 10) / 10) / 10) % 10)) &&& 31))) ||| ((1 : Int32) <<< ((nI ((((((n / 10) / 10) / 10) / 10) / 10) % 10)) &&& 31))) ||| ((1 : Int32) <<< ((nI (((((n / 10) / 10) / 10) / 10) % 10)) &&& 31))) ||| ((1 : Int32) <<< ((nI ((((n / 10) / 10) / 10) % 10)) &&& 31))) ||| ((1 : Int32) <<< ((nI (((n / 10) / 10) % 10)) &&& 31))) ||| ((1 : Int32) <<< ((nI ((n / 10) % 10)) &&& 31))) ||| ((1 : Int32) <<< ((nI (n % 10)) &&& 31)))) rfl rfl rfl ?_
                        refine X_istore (i := 4) (ls' := [some (.ref 2), some (.ref 354), some (.int (0 : Int32)), some (.int (7 : Int32)), some (.int ((((((((0 : Int32) ||| ((1 : Int32) <<< ((nI (((((((n / 10) / 10) / 10) / 10) / 10) / 10) % 10)) &&& 31))) ||| ((1 : Int32) <<< ((nI ((((((n / 10) / 10) / 10) / 10) / 10) % 10)) &&& 31))) ||| ((1 : Int32) <<< ((nI (((((n / 10) / 10) / 10) / 10) % 10)) &&& 31))) ||| ((1 : Int32) <<< ((nI ((((n / 10) / 10) / 10) % 10)) &&& 31))) ||| ((1 : Int32) <<< ((nI (((n / 10) / 10) % 10)) &&& 31))) ||| ((1 : Int32) <<< ((nI ((n / 10) % 10)) &&& 31))) ||| ((1 : Int32) <<< ((nI (n % 10)) &&& 31)))), some (.int (6 : Int32))]) rfl rfl (Nat.le_of_ble_eq_true rfl) rfl ?_
                        refine X_iinc (v := (7 : Int32)) (ls' := [some (.ref 2), some (.ref 354), some (.int (0 : Int32)), some (.int (7 : Int32)), some (.int ((((((((0 : Int32) ||| ((1 : Int32) <<< ((nI (((((((n / 10) / 10) / 10) / 10) / 10) / 10) % 10)) &&& 31))) ||| ((1 : Int32) <<< ((nI ((((((n / 10) / 10) / 10) / 10) / 10) % 10)) &&& 31))) ||| ((1 : Int32) <<< ((nI (((((n / 10) / 10) / 10) / 10) % 10)) &&& 31))) ||| ((1 : Int32) <<< ((nI ((((n / 10) / 10) / 10) % 10)) &&& 31))) ||| ((1 : Int32) <<< ((nI (((n / 10) / 10) % 10)) &&& 31))) ||| ((1 : Int32) <<< ((nI ((n / 10) % 10)) &&& 31))) ||| ((1 : Int32) <<< ((nI (n % 10)) &&& 31)))), some (.int (7 : Int32))]) rfl rfl rfl rfl rfl ?_
                        refine LW_goto (tgt := 42) rfl rfl ?_
                        refine X_iload rfl rfl rfl ?_
                        refine X_iload_n rfl rfl rfl rfl ?_
                        refine X_icmp_ge (tgt := 88) rfl rfl rfl (fun _ => ?_) (fun q => absurd q (by decide))
                        refine X_aload_n rfl rfl rfl rfl ?_
                        refine X_getR (a := 7) rfl rfl rfl ((congrFun F.1 2).trans s_2) rfl ((congrFun (F.2.1 2 (by decide)) 6).trans r_2_6) ?_
                        refine X_aload_n rfl rfl rfl rfl ?_
                        refine X_getI (v := (0 : Int32)) rfl rfl rfl ((congrFun F.1 2).trans s_2) rfl ((congrFun (F.2.2 2 (by decide)).1 1).trans i_2_1) ?_
                        refine X_iload_n rfl rfl rfl rfl ?_
                        refine X_iast (k0 := 0) rfl rfl ((congrFun F.1 7).trans s_7) (vp_in_d rfl) rfl ?_
                        refine X_aload_n rfl rfl rfl rfl ?_
                        refine X_getR (a := 8) rfl rfl rfl ((congrFun F.1 2).trans s_2) rfl ((congrFun (F.2.1 2 (by decide)) 7).trans r_2_7) ?_
                        refine X_aload_n rfl rfl rfl rfl ?_
                        refine X_getI (v := (0 : Int32)) rfl rfl rfl ((congrFun F.1 2).trans s_2) rfl ((congrFun (F.2.2 2 (by decide)).1 1).trans i_2_1) ?_
                        refine X_iload rfl rfl rfl ?_
                        refine X_iast (k0 := 0) rfl rfl ((congrFun F.1 8).trans s_8) (vp_in_d rfl) rfl ?_
                        refine X_aload_n rfl rfl rfl rfl ?_
                        refine X_dup rfl rfl rfl ?_
                        refine X_getI (v := (0 : Int32)) rfl rfl rfl ((congrFun F.1 2).trans s_2) rfl ((congrFun (F.2.2 2 (by decide)).1 1).trans i_2_1) ?_
                        refine X_iconst (v := (1 : Int32)) rfl rfl rfl ?_
                        refine X_iadd (v := (1 : Int32)) rfl rfl rfl ?_
                        refine X_putI rfl rfl rfl ((congrFun F.1 2).trans s_2) rfl rfl rfl rfl ?_
                        refine X_aload_n rfl rfl rfl rfl ?_
                        refine X_getI (v := (1 : Int32)) rfl rfl rfl ((congrFun F.1 2).trans s_2) rfl rfl ?_
                        refine X_iconst (v := (1 : Int32)) rfl rfl rfl ?_
                        refine X_isub (v := (0 : Int32)) rfl rfl rfl ?_
                        refine LW_ireturn (st := []) rfl rfl rfl ?_
                        refine LW_ireturn (st := []) rfl rfl rfl ⟨congrArg (fun z => some (Value.int z)) ?_, (Fr_putI (Fr_putI (Fr_putI (Fr_putI (Fr_putI (Fr_putI (Fr_putI (Fr_putI (Fr_putI (Fr_putI (Fr_putI (Fr_putI (Fr_putI (Fr_putI (Fr_putI (Fr_putI (Fr_putI E (by decide)) (by decide)) (by decide)) (by decide)) (by decide)) (by decide)) (by decide)) (by decide)) (by decide)) (by decide)) (by decide)) (by decide)) (by decide)) (by decide)) (by decide)) (by decide)) (by decide))⟩
                        simp only [Int32.lt_iff_toInt_lt, Int32.le_iff_toInt_le, ← Int32.toInt_inj, (show (1 : Int32).toInt = 1 from rfl), (show (10 : Int32).toInt = 10 from rfl), (show (199999999 : Int32).toInt = 199999999 from rfl), (nI_toInt (n := ((((((n / 10) / 10) / 10) / 10) / 10) / 10) / 10) (by omega)), (nI_toInt (n := (((((n / 10) / 10) / 10) / 10) / 10) / 10) (by omega)), (nI_toInt (n := ((((n / 10) / 10) / 10) / 10) / 10) (by omega)), (nI_toInt (n := (((n / 10) / 10) / 10) / 10) (by omega)), (nI_toInt (n := ((n / 10) / 10) / 10) (by omega)), (nI_toInt (n := (n / 10) / 10) (by omega)), (nI_toInt (n := n) (by omega)), (nI_toInt (n := n / 10) (by omega))] at h1 h2 h3 h4 h6 h8 h10 h12 h14 h16 h17
                        unfold f_sayN
                        rw [if_pos (by omega)]
                      · refine X_iconst (v := (-1 : Int32)) rfl rfl rfl ?_
                        refine LW_ireturn (st := []) rfl rfl rfl ⟨congrArg (fun z => some (Value.int z)) ?_, E⟩
                        simp only [Int32.lt_iff_toInt_lt, Int32.le_iff_toInt_le, ← Int32.toInt_inj, (show (1 : Int32).toInt = 1 from rfl), (show (10 : Int32).toInt = 10 from rfl), (show (199999999 : Int32).toInt = 199999999 from rfl), (nI_toInt (n := ((((((n / 10) / 10) / 10) / 10) / 10) / 10) / 10) (by omega)), (nI_toInt (n := (((((n / 10) / 10) / 10) / 10) / 10) / 10) (by omega)), (nI_toInt (n := ((((n / 10) / 10) / 10) / 10) / 10) (by omega)), (nI_toInt (n := (((n / 10) / 10) / 10) / 10) (by omega)), (nI_toInt (n := ((n / 10) / 10) / 10) (by omega)), (nI_toInt (n := (n / 10) / 10) (by omega)), (nI_toInt (n := n) (by omega)), (nI_toInt (n := n / 10) (by omega))] at h1 h2 h3 h4 h6 h8 h10 h12 h14 h16 h17
                        unfold f_sayN
                        rw [if_neg (by omega)]
                    · refine X_iload_n rfl rfl rfl rfl ?_
                      refine X_bipush (v := (10 : Int32)) rfl rfl rfl ?_
                      refine X_idiv (v := (nI ((((((((n / 10) / 10) / 10) / 10) / 10) / 10) / 10) / 10))) rfl rfl (by decide) (nI_idiv (d := 10) (by omega) (by decide)) ?_
                      refine X_istore_n (i := 3) (ls' := [some (.ref 0), some (.int (nI (n))), some (.int (7 : Int32)), some (.int (nI ((((((((n / 10) / 10) / 10) / 10) / 10) / 10) / 10) / 10))), some (.int (7 : Int32)), none]) rfl rfl rfl (Nat.le_of_ble_eq_true rfl) rfl ?_
                      refine X_iinc (v := (8 : Int32)) (ls' := [some (.ref 0), some (.int (nI (n))), some (.int (8 : Int32)), some (.int (nI ((((((((n / 10) / 10) / 10) / 10) / 10) / 10) / 10) / 10))), some (.int (7 : Int32)), none]) rfl rfl rfl rfl rfl ?_
                      refine X_iinc (v := (8 : Int32)) (ls' := [some (.ref 0), some (.int (nI (n))), some (.int (8 : Int32)), some (.int (nI ((((((((n / 10) / 10) / 10) / 10) / 10) / 10) / 10) / 10))), some (.int (8 : Int32)), none]) rfl rfl rfl rfl rfl ?_
                      refine LW_goto (tgt := 21) rfl rfl ?_
                      refine X_iload rfl rfl rfl ?_
                      refine X_bipush (v := (8 : Int32)) rfl rfl rfl ?_
                      refine X_icmp_ge (tgt := 48) rfl rfl rfl (fun _ => ?_) (fun q => absurd q (by decide))
                      refine X_iload_n rfl rfl rfl rfl ?_
                      refine X_iconst (v := (1 : Int32)) rfl rfl rfl ?_
                      refine X_icmp_eq (tgt := 55) rfl rfl rfl (fun h18 => ?_) (fun h18 => ?_)
                      · refine X_iload_n rfl rfl rfl rfl ?_
                        refine X_istore (i := 4) (ls' := [some (.ref 0), some (.int (nI (n))), some (.int (8 : Int32)), some (.int (nI ((((((((n / 10) / 10) / 10) / 10) / 10) / 10) / 10) / 10))), some (.int (nI (n))), none]) rfl rfl (Nat.le_of_ble_eq_true rfl) rfl ?_
                        refine X_iload_n rfl rfl rfl rfl ?_
                        refine X_iconst (v := (1 : Int32)) rfl rfl rfl ?_
                        refine X_isub (v := (7 : Int32)) rfl rfl rfl ?_
                        refine X_istore (i := 5) (ls' := [some (.ref 0), some (.int (nI (n))), some (.int (8 : Int32)), some (.int (nI ((((((((n / 10) / 10) / 10) / 10) / 10) / 10) / 10) / 10))), some (.int (nI (n))), some (.int (7 : Int32))]) rfl rfl (Nat.le_of_ble_eq_true rfl) rfl ?_
                        refine X_iload rfl rfl rfl ?_
                        refine X_if_lt (tgt := 93) rfl rfl rfl (fun q => absurd q (by decide)) (fun _ => ?_)
                        refine X_aload_n rfl rfl rfl rfl ?_
                        refine X_getR (a := 354) rfl rfl rfl ((congrFun F.1 0).trans s_0) rfl ((congrFun (F.2.1 0 (by decide)) 9).trans r_0_9) ?_
                        refine X_iload rfl rfl rfl ?_
                        refine X_iload rfl rfl rfl ?_
                        refine X_bipush (v := (10 : Int32)) rfl rfl rfl ?_
                        refine X_irem (v := (nI (n % 10))) rfl rfl (by decide) (nI_irem (d := 10) (by omega) (by decide)) ?_
                        refine X_iast (k0 := 7) rfl rfl ((congrFun F.1 354).trans s_354) (vp_in_d rfl) rfl ?_
                        refine X_iload rfl rfl rfl ?_
                        refine X_bipush (v := (10 : Int32)) rfl rfl rfl ?_
                        refine X_idiv (v := (nI (n / 10))) rfl rfl (by decide) (nI_idiv (d := 10) (by omega) (by decide)) ?_
                        refine X_istore (i := 4) (ls' := [some (.ref 0), some (.int (nI (n))), some (.int (8 : Int32)), some (.int (nI ((((((((n / 10) / 10) / 10) / 10) / 10) / 10) / 10) / 10))), some (.int (nI (n / 10))), some (.int (7 : Int32))]) rfl rfl (Nat.le_of_ble_eq_true rfl) rfl ?_
                        refine X_iinc (v := (6 : Int32)) (ls' := [some (.ref 0), some (.int (nI (n))), some (.int (8 : Int32)), some (.int (nI ((((((((n / 10) / 10) / 10) / 10) / 10) / 10) / 10) / 10))), some (.int (nI (n / 10))), some (.int (6 : Int32))]) rfl rfl rfl rfl rfl ?_
                        refine LW_goto (tgt := 63) rfl rfl ?_
                        refine X_iload rfl rfl rfl ?_
                        refine X_if_lt (tgt := 93) rfl rfl rfl (fun q => absurd q (by decide)) (fun _ => ?_)
                        refine X_aload_n rfl rfl rfl rfl ?_
                        refine X_getR (a := 354) rfl rfl rfl ((congrFun F.1 0).trans s_0) rfl ((congrFun (F.2.1 0 (by decide)) 9).trans r_0_9) ?_
                        refine X_iload rfl rfl rfl ?_
                        refine X_iload rfl rfl rfl ?_
                        refine X_bipush (v := (10 : Int32)) rfl rfl rfl ?_
                        refine X_irem (v := (nI ((n / 10) % 10))) rfl rfl (by decide) (nI_irem (d := 10) (by omega) (by decide)) ?_
                        refine X_iast (k0 := 6) rfl rfl ((congrFun F.1 354).trans s_354) (vp_in_d rfl) rfl ?_
                        refine X_iload rfl rfl rfl ?_
                        refine X_bipush (v := (10 : Int32)) rfl rfl rfl ?_
                        refine X_idiv (v := (nI ((n / 10) / 10))) rfl rfl (by decide) (nI_idiv (d := 10) (by omega) (by decide)) ?_
                        refine X_istore (i := 4) (ls' := [some (.ref 0), some (.int (nI (n))), some (.int (8 : Int32)), some (.int (nI ((((((((n / 10) / 10) / 10) / 10) / 10) / 10) / 10) / 10))), some (.int (nI ((n / 10) / 10))), some (.int (6 : Int32))]) rfl rfl (Nat.le_of_ble_eq_true rfl) rfl ?_
                        refine X_iinc (v := (5 : Int32)) (ls' := [some (.ref 0), some (.int (nI (n))), some (.int (8 : Int32)), some (.int (nI ((((((((n / 10) / 10) / 10) / 10) / 10) / 10) / 10) / 10))), some (.int (nI ((n / 10) / 10))), some (.int (5 : Int32))]) rfl rfl rfl rfl rfl ?_
                        refine LW_goto (tgt := 63) rfl rfl ?_
                        refine X_iload rfl rfl rfl ?_
                        refine X_if_lt (tgt := 93) rfl rfl rfl (fun q => absurd q (by decide)) (fun _ => ?_)
                        refine X_aload_n rfl rfl rfl rfl ?_
                        refine X_getR (a := 354) rfl rfl rfl ((congrFun F.1 0).trans s_0) rfl ((congrFun (F.2.1 0 (by decide)) 9).trans r_0_9) ?_
                        refine X_iload rfl rfl rfl ?_
                        refine X_iload rfl rfl rfl ?_
                        refine X_bipush (v := (10 : Int32)) rfl rfl rfl ?_
                        refine X_irem (v := (nI (((n / 10) / 10) % 10))) rfl rfl (by decide) (nI_irem (d := 10) (by omega) (by decide)) ?_
                        refine X_iast (k0 := 5) rfl rfl ((congrFun F.1 354).trans s_354) (vp_in_d rfl) rfl ?_
                        refine X_iload rfl rfl rfl ?_
                        refine X_bipush (v := (10 : Int32)) rfl rfl rfl ?_
                        refine X_idiv (v := (nI (((n / 10) / 10) / 10))) rfl rfl (by decide) (nI_idiv (d := 10) (by omega) (by decide)) ?_
                        refine X_istore (i := 4) (ls' := [some (.ref 0), some (.int (nI (n))), some (.int (8 : Int32)), some (.int (nI ((((((((n / 10) / 10) / 10) / 10) / 10) / 10) / 10) / 10))), some (.int (nI (((n / 10) / 10) / 10))), some (.int (5 : Int32))]) rfl rfl (Nat.le_of_ble_eq_true rfl) rfl ?_
                        refine X_iinc (v := (4 : Int32)) (ls' := [some (.ref 0), some (.int (nI (n))), some (.int (8 : Int32)), some (.int (nI ((((((((n / 10) / 10) / 10) / 10) / 10) / 10) / 10) / 10))), some (.int (nI (((n / 10) / 10) / 10))), some (.int (4 : Int32))]) rfl rfl rfl rfl rfl ?_
                        refine LW_goto (tgt := 63) rfl rfl ?_
                        refine X_iload rfl rfl rfl ?_
                        refine X_if_lt (tgt := 93) rfl rfl rfl (fun q => absurd q (by decide)) (fun _ => ?_)
                        refine X_aload_n rfl rfl rfl rfl ?_
                        refine X_getR (a := 354) rfl rfl rfl ((congrFun F.1 0).trans s_0) rfl ((congrFun (F.2.1 0 (by decide)) 9).trans r_0_9) ?_
                        refine X_iload rfl rfl rfl ?_
                        refine X_iload rfl rfl rfl ?_
                        refine X_bipush (v := (10 : Int32)) rfl rfl rfl ?_
                        refine X_irem (v := (nI ((((n / 10) / 10) / 10) % 10))) rfl rfl (by decide) (nI_irem (d := 10) (by omega) (by decide)) ?_
                        refine X_iast (k0 := 4) rfl rfl ((congrFun F.1 354).trans s_354) (vp_in_d rfl) rfl ?_
                        refine X_iload rfl rfl rfl ?_
                        refine X_bipush (v := (10 : Int32)) rfl rfl rfl ?_
                        refine X_idiv (v := (nI ((((n / 10) / 10) / 10) / 10))) rfl rfl (by decide) (nI_idiv (d := 10) (by omega) (by decide)) ?_
                        refine X_istore (i := 4) (ls' := [some (.ref 0), some (.int (nI (n))), some (.int (8 : Int32)), some (.int (nI ((((((((n / 10) / 10) / 10) / 10) / 10) / 10) / 10) / 10))), some (.int (nI ((((n / 10) / 10) / 10) / 10))), some (.int (4 : Int32))]) rfl rfl (Nat.le_of_ble_eq_true rfl) rfl ?_
                        refine X_iinc (v := (3 : Int32)) (ls' := [some (.ref 0), some (.int (nI (n))), some (.int (8 : Int32)), some (.int (nI ((((((((n / 10) / 10) / 10) / 10) / 10) / 10) / 10) / 10))), some (.int (nI ((((n / 10) / 10) / 10) / 10))), some (.int (3 : Int32))]) rfl rfl rfl rfl rfl ?_
                        refine LW_goto (tgt := 63) rfl rfl ?_
                        refine X_iload rfl rfl rfl ?_
                        refine X_if_lt (tgt := 93) rfl rfl rfl (fun q => absurd q (by decide)) (fun _ => ?_)
                        refine X_aload_n rfl rfl rfl rfl ?_
                        refine X_getR (a := 354) rfl rfl rfl ((congrFun F.1 0).trans s_0) rfl ((congrFun (F.2.1 0 (by decide)) 9).trans r_0_9) ?_
                        refine X_iload rfl rfl rfl ?_
                        refine X_iload rfl rfl rfl ?_
                        refine X_bipush (v := (10 : Int32)) rfl rfl rfl ?_
                        refine X_irem (v := (nI (((((n / 10) / 10) / 10) / 10) % 10))) rfl rfl (by decide) (nI_irem (d := 10) (by omega) (by decide)) ?_
                        refine X_iast (k0 := 3) rfl rfl ((congrFun F.1 354).trans s_354) (vp_in_d rfl) rfl ?_
                        refine X_iload rfl rfl rfl ?_
                        refine X_bipush (v := (10 : Int32)) rfl rfl rfl ?_
                        refine X_idiv (v := (nI (((((n / 10) / 10) / 10) / 10) / 10))) rfl rfl (by decide) (nI_idiv (d := 10) (by omega) (by decide)) ?_
                        refine X_istore (i := 4) (ls' := [some (.ref 0), some (.int (nI (n))), some (.int (8 : Int32)), some (.int (nI ((((((((n / 10) / 10) / 10) / 10) / 10) / 10) / 10) / 10))), some (.int (nI (((((n / 10) / 10) / 10) / 10) / 10))), some (.int (3 : Int32))]) rfl rfl (Nat.le_of_ble_eq_true rfl) rfl ?_
                        refine X_iinc (v := (2 : Int32)) (ls' := [some (.ref 0), some (.int (nI (n))), some (.int (8 : Int32)), some (.int (nI ((((((((n / 10) / 10) / 10) / 10) / 10) / 10) / 10) / 10))), some (.int (nI (((((n / 10) / 10) / 10) / 10) / 10))), some (.int (2 : Int32))]) rfl rfl rfl rfl rfl ?_
                        refine LW_goto (tgt := 63) rfl rfl ?_
                        refine X_iload rfl rfl rfl ?_
                        refine X_if_lt (tgt := 93) rfl rfl rfl (fun q => absurd q (by decide)) (fun _ => ?_)
                        refine X_aload_n rfl rfl rfl rfl ?_
                        refine X_getR (a := 354) rfl rfl rfl ((congrFun F.1 0).trans s_0) rfl ((congrFun (F.2.1 0 (by decide)) 9).trans r_0_9) ?_
                        refine X_iload rfl rfl rfl ?_
                        refine X_iload rfl rfl rfl ?_
                        refine X_bipush (v := (10 : Int32)) rfl rfl rfl ?_
                        refine X_irem (v := (nI ((((((n / 10) / 10) / 10) / 10) / 10) % 10))) rfl rfl (by decide) (nI_irem (d := 10) (by omega) (by decide)) ?_
                        refine X_iast (k0 := 2) rfl rfl ((congrFun F.1 354).trans s_354) (vp_in_d rfl) rfl ?_
                        refine X_iload rfl rfl rfl ?_
                        refine X_bipush (v := (10 : Int32)) rfl rfl rfl ?_
                        refine X_idiv (v := (nI ((((((n / 10) / 10) / 10) / 10) / 10) / 10))) rfl rfl (by decide) (nI_idiv (d := 10) (by omega) (by decide)) ?_
                        refine X_istore (i := 4) (ls' := [some (.ref 0), some (.int (nI (n))), some (.int (8 : Int32)), some (.int (nI ((((((((n / 10) / 10) / 10) / 10) / 10) / 10) / 10) / 10))), some (.int (nI ((((((n / 10) / 10) / 10) / 10) / 10) / 10))), some (.int (2 : Int32))]) rfl rfl (Nat.le_of_ble_eq_true rfl) rfl ?_
                        refine X_iinc (v := (1 : Int32)) (ls' := [some (.ref 0), some (.int (nI (n))), some (.int (8 : Int32)), some (.int (nI ((((((((n / 10) / 10) / 10) / 10) / 10) / 10) / 10) / 10))), some (.int (nI ((((((n / 10) / 10) / 10) / 10) / 10) / 10))), some (.int (1 : Int32))]) rfl rfl rfl rfl rfl ?_
                        refine LW_goto (tgt := 63) rfl rfl ?_
                        refine X_iload rfl rfl rfl ?_
                        refine X_if_lt (tgt := 93) rfl rfl rfl (fun q => absurd q (by decide)) (fun _ => ?_)
                        refine X_aload_n rfl rfl rfl rfl ?_
                        refine X_getR (a := 354) rfl rfl rfl ((congrFun F.1 0).trans s_0) rfl ((congrFun (F.2.1 0 (by decide)) 9).trans r_0_9) ?_
                        refine X_iload rfl rfl rfl ?_
                        refine X_iload rfl rfl rfl ?_
                        refine X_bipush (v := (10 : Int32)) rfl rfl rfl ?_
                        refine X_irem (v := (nI (((((((n / 10) / 10) / 10) / 10) / 10) / 10) % 10))) rfl rfl (by decide) (nI_irem (d := 10) (by omega) (by decide)) ?_
                        refine X_iast (k0 := 1) rfl rfl ((congrFun F.1 354).trans s_354) (vp_in_d rfl) rfl ?_
                        refine X_iload rfl rfl rfl ?_
                        refine X_bipush (v := (10 : Int32)) rfl rfl rfl ?_
                        refine X_idiv (v := (nI (((((((n / 10) / 10) / 10) / 10) / 10) / 10) / 10))) rfl rfl (by decide) (nI_idiv (d := 10) (by omega) (by decide)) ?_
                        refine X_istore (i := 4) (ls' := [some (.ref 0), some (.int (nI (n))), some (.int (8 : Int32)), some (.int (nI ((((((((n / 10) / 10) / 10) / 10) / 10) / 10) / 10) / 10))), some (.int (nI (((((((n / 10) / 10) / 10) / 10) / 10) / 10) / 10))), some (.int (1 : Int32))]) rfl rfl (Nat.le_of_ble_eq_true rfl) rfl ?_
                        refine X_iinc (v := (0 : Int32)) (ls' := [some (.ref 0), some (.int (nI (n))), some (.int (8 : Int32)), some (.int (nI ((((((((n / 10) / 10) / 10) / 10) / 10) / 10) / 10) / 10))), some (.int (nI (((((((n / 10) / 10) / 10) / 10) / 10) / 10) / 10))), some (.int (0 : Int32))]) rfl rfl rfl rfl rfl ?_
                        refine LW_goto (tgt := 63) rfl rfl ?_
                        refine X_iload rfl rfl rfl ?_
                        refine X_if_lt (tgt := 93) rfl rfl rfl (fun q => absurd q (by decide)) (fun _ => ?_)
                        refine X_aload_n rfl rfl rfl rfl ?_
                        refine X_getR (a := 354) rfl rfl rfl ((congrFun F.1 0).trans s_0) rfl ((congrFun (F.2.1 0 (by decide)) 9).trans r_0_9) ?_
                        refine X_iload rfl rfl rfl ?_
                        refine X_iload rfl rfl rfl ?_
                        refine X_bipush (v := (10 : Int32)) rfl rfl rfl ?_
                        refine X_irem (v := (nI ((((((((n / 10) / 10) / 10) / 10) / 10) / 10) / 10) % 10))) rfl rfl (by decide) (nI_irem (d := 10) (by omega) (by decide)) ?_
                        refine X_iast (k0 := 0) rfl rfl ((congrFun F.1 354).trans s_354) (vp_in_d rfl) rfl ?_
                        refine X_iload rfl rfl rfl ?_
                        refine X_bipush (v := (10 : Int32)) rfl rfl rfl ?_
                        refine X_idiv (v := (nI ((((((((n / 10) / 10) / 10) / 10) / 10) / 10) / 10) / 10))) rfl rfl (by decide) (nI_idiv (d := 10) (by omega) (by decide)) ?_
                        refine X_istore (i := 4) (ls' := [some (.ref 0), some (.int (nI (n))), some (.int (8 : Int32)), some (.int (nI ((((((((n / 10) / 10) / 10) / 10) / 10) / 10) / 10) / 10))), some (.int (nI ((((((((n / 10) / 10) / 10) / 10) / 10) / 10) / 10) / 10))), some (.int (0 : Int32))]) rfl rfl (Nat.le_of_ble_eq_true rfl) rfl ?_
                        refine X_iinc (v := (-1 : Int32)) (ls' := [some (.ref 0), some (.int (nI (n))), some (.int (8 : Int32)), some (.int (nI ((((((((n / 10) / 10) / 10) / 10) / 10) / 10) / 10) / 10))), some (.int (nI ((((((((n / 10) / 10) / 10) / 10) / 10) / 10) / 10) / 10))), some (.int (-1 : Int32))]) rfl rfl rfl rfl rfl ?_
                        refine LW_goto (tgt := 63) rfl rfl ?_
                        refine X_iload rfl rfl rfl ?_
                        refine X_if_lt (tgt := 93) rfl rfl rfl (fun _ => ?_) (fun q => absurd q (by decide))
                        refine X_aload_n rfl rfl rfl rfl ?_
                        refine X_getR (a := 1) rfl rfl rfl ((congrFun F.1 0).trans s_0) rfl ((congrFun (F.2.1 0 (by decide)) 0).trans r_0_0) ?_
                        refine X_getR (a := 2) rfl rfl rfl ((congrFun F.1 1).trans s_1) rfl ((congrFun (F.2.1 1 (by decide)) 0).trans r_1_0) ?_
                        refine X_aload_n rfl rfl rfl rfl ?_
                        refine X_getR (a := 354) rfl rfl rfl ((congrFun F.1 0).trans s_0) rfl ((congrFun (F.2.1 0 (by decide)) 9).trans r_0_9) ?_
                        refine X_iconst (v := (0 : Int32)) rfl rfl rfl ?_
                        refine X_iload_n rfl rfl rfl rfl ?_
                        refine X_callV (as := [.ref 354, .int (0 : Int32), .int (8 : Int32)]) (st := []) rfl rfl rfl (by decide) rfl (Nat.le_of_ble_eq_true rfl) (by decide) (Nat.le_of_ble_eq_true rfl) rfl ((congrFun F.1 2).trans s_2) (by decide) ?_
                        refine LW_ls (ls' := [some (.ref 2), some (.ref 354), some (.int (0 : Int32)), some (.int (8 : Int32)), none, none]) rfl ?_
                        refine X_iload_n rfl rfl rfl rfl ?_
                        refine X_iconst (v := (1 : Int32)) rfl rfl rfl ?_
                        refine X_icmp_lt (tgt := 23) rfl rfl rfl (fun q => absurd q (by decide)) (fun _ => ?_)
                        refine X_iload_n rfl rfl rfl rfl ?_
                        refine X_bipush (v := (8 : Int32)) rfl rfl rfl ?_
                        refine X_icmp_gt (tgt := 23) rfl rfl rfl (fun q => absurd q (by decide)) (fun _ => ?_)
                        refine X_iload_n rfl rfl rfl rfl ?_
                        refine X_if_lt (tgt := 23) rfl rfl rfl (fun q => absurd q (by decide)) (fun _ => ?_)
                        refine X_iload_n rfl rfl rfl rfl ?_
                        refine X_iload_n rfl rfl rfl rfl ?_
                        refine X_iadd (v := (8 : Int32)) rfl rfl rfl ?_
                        refine X_aload_n rfl rfl rfl rfl ?_
                        refine X_alen (t0 := 0) (v := (8 : Int32)) rfl rfl ((congrFun F.1 354).trans s_354) rfl rfl ?_
                        refine X_icmp_le (tgt := 25) rfl rfl rfl (fun _ => ?_) (fun q => absurd q (by decide))
                        refine X_aload_n rfl rfl rfl rfl ?_
                        refine X_getI (v := (0 : Int32)) rfl rfl rfl ((congrFun F.1 2).trans s_2) rfl ((congrFun (F.2.2 2 (by decide)).1 1).trans i_2_1) ?_
                        refine X_bipush (v := (8 : Int32)) rfl rfl rfl ?_
                        refine X_icmp_lt (tgt := 36) rfl rfl rfl (fun _ => ?_) (fun q => absurd q (by decide))
                        refine X_iconst (v := (0 : Int32)) rfl rfl rfl ?_
                        refine X_istore (i := 4) (ls' := [some (.ref 2), some (.ref 354), some (.int (0 : Int32)), some (.int (8 : Int32)), some (.int (0 : Int32)), none]) rfl rfl (Nat.le_of_ble_eq_true rfl) rfl ?_
                        refine X_iconst (v := (0 : Int32)) rfl rfl rfl ?_
                        refine X_istore (i := 5) (ls' := [some (.ref 2), some (.ref 354), some (.int (0 : Int32)), some (.int (8 : Int32)), some (.int (0 : Int32)), some (.int (0 : Int32))]) rfl rfl (Nat.le_of_ble_eq_true rfl) rfl ?_
                        refine X_iload rfl rfl rfl ?_
                        refine X_iload_n rfl rfl rfl rfl ?_
                        refine X_icmp_ge (tgt := 88) rfl rfl rfl (fun q => absurd q (by decide)) (fun _ => ?_)
                        refine X_aload_n rfl rfl rfl rfl ?_
                        refine X_getR (a := 9) rfl rfl rfl ((congrFun F.1 2).trans s_2) rfl ((congrFun (F.2.1 2 (by decide)) 8).trans r_2_8) ?_
                        refine X_aload_n rfl rfl rfl rfl ?_
                        refine X_getI (v := (0 : Int32)) rfl rfl rfl ((congrFun F.1 2).trans s_2) rfl ((congrFun (F.2.2 2 (by decide)).1 1).trans i_2_1) ?_
                        refine X_bipush (v := (8 : Int32)) rfl rfl rfl ?_
                        refine X_imul (v := (0 : Int32)) rfl rfl rfl ?_
                        refine X_iload rfl rfl rfl ?_
                        refine X_iadd (v := (0 : Int32)) rfl rfl rfl ?_
                        refine X_aload_n rfl rfl rfl rfl ?_
                        refine X_iload_n rfl rfl rfl rfl ?_
                        refine X_iload rfl rfl rfl ?_
                        refine X_iadd (v := (0 : Int32)) rfl rfl rfl ?_
                        refine X_iald (v := (nI ((((((((n / 10) / 10) / 10) / 10) / 10) / 10) / 10) % 10))) rfl rfl ((congrFun F.1 354).trans s_354) (vp_in_d rfl) rfl ?_
                        refine X_iast (k0 := 0) rfl rfl ((congrFun F.1 9).trans s_9) (vp_in_d rfl) rfl ?_
                        refine X_iload rfl rfl rfl ?_
                        refine X_iconst (v := (1 : Int32)) rfl rfl rfl ?_
                        refine X_aload_n rfl rfl rfl rfl ?_
                        refine X_iload_n rfl rfl rfl rfl ?_
                        refine X_iload rfl rfl rfl ?_
                        refine X_iadd (v := (0 : Int32)) rfl rfl rfl ?_
                        refine X_iald (v := (nI ((((((((n / 10) / 10) / 10) / 10) / 10) / 10) / 10) % 10))) rfl rfl ((congrFun F.1 354).trans s_354) (vp_in_d rfl) rfl ?_
                        refine X_ishl (v := ((1 : Int32) <<< ((nI ((((((((n / 10) / 10) / 10) / 10) / 10) / 10) / 10) % 10)) &&& 31))) rfl rfl rfl ?_
                        refine X_ior (v := ((0 : Int32) ||| ((1 : Int32) <<< ((nI ((((((((n / 10) / 10) / 10) / 10) / 10) / 10) / 10) % 10)) &&& 31)))) rfl rfl rfl ?_
                        refine X_istore (i := 4) (ls' := [some (.ref 2), some (.ref 354), some (.int (0 : Int32)), some (.int (8 : Int32)), some (.int ((0 : Int32) ||| ((1 : Int32) <<< ((nI ((((((((n / 10) / 10) / 10) / 10) / 10) / 10) / 10) % 10)) &&& 31)))), some (.int (0 : Int32))]) rfl rfl (Nat.le_of_ble_eq_true rfl) rfl ?_
                        refine X_iinc (v := (1 : Int32)) (ls' := [some (.ref 2), some (.ref 354), some (.int (0 : Int32)), some (.int (8 : Int32)), some (.int ((0 : Int32) ||| ((1 : Int32) <<< ((nI ((((((((n / 10) / 10) / 10) / 10) / 10) / 10) / 10) % 10)) &&& 31)))), some (.int (1 : Int32))]) rfl rfl rfl rfl rfl ?_
                        refine LW_goto (tgt := 42) rfl rfl ?_
                        refine X_iload rfl rfl rfl ?_
                        refine X_iload_n rfl rfl rfl rfl ?_
                        refine X_icmp_ge (tgt := 88) rfl rfl rfl (fun q => absurd q (by decide)) (fun _ => ?_)
                        refine X_aload_n rfl rfl rfl rfl ?_
                        refine X_getR (a := 9) rfl rfl rfl ((congrFun F.1 2).trans s_2) rfl ((congrFun (F.2.1 2 (by decide)) 8).trans r_2_8) ?_
                        refine X_aload_n rfl rfl rfl rfl ?_
                        refine X_getI (v := (0 : Int32)) rfl rfl rfl ((congrFun F.1 2).trans s_2) rfl ((congrFun (F.2.2 2 (by decide)).1 1).trans i_2_1) ?_
                        refine X_bipush (v := (8 : Int32)) rfl rfl rfl ?_
                        refine X_imul (v := (0 : Int32)) rfl rfl rfl ?_
                        refine X_iload rfl rfl rfl ?_
                        refine X_iadd (v := (1 : Int32)) rfl rfl rfl ?_
                        refine X_aload_n rfl rfl rfl rfl ?_
                        refine X_iload_n rfl rfl rfl rfl ?_
                        refine X_iload rfl rfl rfl ?_
                        refine X_iadd (v := (1 : Int32)) rfl rfl rfl ?_
                        refine X_iald (v := (nI (((((((n / 10) / 10) / 10) / 10) / 10) / 10) % 10))) rfl rfl ((congrFun F.1 354).trans s_354) (vp_in_d rfl) rfl ?_
                        refine X_iast (k0 := 1) rfl rfl ((congrFun F.1 9).trans s_9) (vp_in_d rfl) rfl ?_
                        refine X_iload rfl rfl rfl ?_
                        refine X_iconst (v := (1 : Int32)) rfl rfl rfl ?_
                        refine X_aload_n rfl rfl rfl rfl ?_
                        refine X_iload_n rfl rfl rfl rfl ?_
                        refine X_iload rfl rfl rfl ?_
                        refine X_iadd (v := (1 : Int32)) rfl rfl rfl ?_
                        refine X_iald (v := (nI (((((((n / 10) / 10) / 10) / 10) / 10) / 10) % 10))) rfl rfl ((congrFun F.1 354).trans s_354) (vp_in_d rfl) rfl ?_
                        refine X_ishl (v := ((1 : Int32) <<< ((nI (((((((n / 10) / 10) / 10) / 10) / 10) / 10) % 10)) &&& 31))) rfl rfl rfl ?_
                        refine X_ior (v := (((0 : Int32) ||| ((1 : Int32) <<< ((nI ((((((((n / 10) / 10) / 10) / 10) / 10) / 10) / 10) % 10)) &&& 31))) ||| ((1 : Int32) <<< ((nI (((((((n / 10) / 10) / 10) / 10) / 10) / 10) % 10)) &&& 31)))) rfl rfl rfl ?_
                        refine X_istore (i := 4) (ls' := [some (.ref 2), some (.ref 354), some (.int (0 : Int32)), some (.int (8 : Int32)), some (.int (((0 : Int32) ||| ((1 : Int32) <<< ((nI ((((((((n / 10) / 10) / 10) / 10) / 10) / 10) / 10) % 10)) &&& 31))) ||| ((1 : Int32) <<< ((nI (((((((n / 10) / 10) / 10) / 10) / 10) / 10) % 10)) &&& 31)))), some (.int (1 : Int32))]) rfl rfl (Nat.le_of_ble_eq_true rfl) rfl ?_
                        refine X_iinc (v := (2 : Int32)) (ls' := [some (.ref 2), some (.ref 354), some (.int (0 : Int32)), some (.int (8 : Int32)), some (.int (((0 : Int32) ||| ((1 : Int32) <<< ((nI ((((((((n / 10) / 10) / 10) / 10) / 10) / 10) / 10) % 10)) &&& 31))) ||| ((1 : Int32) <<< ((nI (((((((n / 10) / 10) / 10) / 10) / 10) / 10) % 10)) &&& 31)))), some (.int (2 : Int32))]) rfl rfl rfl rfl rfl ?_
                        refine LW_goto (tgt := 42) rfl rfl ?_
                        refine X_iload rfl rfl rfl ?_
                        refine X_iload_n rfl rfl rfl rfl ?_
                        refine X_icmp_ge (tgt := 88) rfl rfl rfl (fun q => absurd q (by decide)) (fun _ => ?_)
                        refine X_aload_n rfl rfl rfl rfl ?_
                        refine X_getR (a := 9) rfl rfl rfl ((congrFun F.1 2).trans s_2) rfl ((congrFun (F.2.1 2 (by decide)) 8).trans r_2_8) ?_
                        refine X_aload_n rfl rfl rfl rfl ?_
                        refine X_getI (v := (0 : Int32)) rfl rfl rfl ((congrFun F.1 2).trans s_2) rfl ((congrFun (F.2.2 2 (by decide)).1 1).trans i_2_1) ?_
                        refine X_bipush (v := (8 : Int32)) rfl rfl rfl ?_
                        refine X_imul (v := (0 : Int32)) rfl rfl rfl ?_
                        refine X_iload rfl rfl rfl ?_
                        refine X_iadd (v := (2 : Int32)) rfl rfl rfl ?_
                        refine X_aload_n rfl rfl rfl rfl ?_
                        refine X_iload_n rfl rfl rfl rfl ?_
                        refine X_iload rfl rfl rfl ?_
                        refine X_iadd (v := (2 : Int32)) rfl rfl rfl ?_
                        refine X_iald (v := (nI ((((((n / 10) / 10) / 10) / 10) / 10) % 10))) rfl rfl ((congrFun F.1 354).trans s_354) (vp_in_d rfl) rfl ?_
                        refine X_iast (k0 := 2) rfl rfl ((congrFun F.1 9).trans s_9) (vp_in_d rfl) rfl ?_
                        refine X_iload rfl rfl rfl ?_
                        refine X_iconst (v := (1 : Int32)) rfl rfl rfl ?_
                        refine X_aload_n rfl rfl rfl rfl ?_
                        refine X_iload_n rfl rfl rfl rfl ?_
                        refine X_iload rfl rfl rfl ?_
                        refine X_iadd (v := (2 : Int32)) rfl rfl rfl ?_
                        refine X_iald (v := (nI ((((((n / 10) / 10) / 10) / 10) / 10) % 10))) rfl rfl ((congrFun F.1 354).trans s_354) (vp_in_d rfl) rfl ?_
                        refine X_ishl (v := ((1 : Int32) <<< ((nI ((((((n / 10) / 10) / 10) / 10) / 10) % 10)) &&& 31))) rfl rfl rfl ?_
                        refine X_ior (v := ((((0 : Int32) ||| ((1 : Int32) <<< ((nI ((((((((n / 10) / 10) / 10) / 10) / 10) / 10) / 10) % 10)) &&& 31))) ||| ((1 : Int32) <<< ((nI (((((((n / 10) / 10) / 10) / 10) / 10) / 10) % 10)) &&& 31))) ||| ((1 : Int32) <<< ((nI ((((((n / 10) / 10) / 10) / 10) / 10) % 10)) &&& 31)))) rfl rfl rfl ?_
                        refine X_istore (i := 4) (ls' := [some (.ref 2), some (.ref 354), some (.int (0 : Int32)), some (.int (8 : Int32)), some (.int ((((0 : Int32) ||| ((1 : Int32) <<< ((nI ((((((((n / 10) / 10) / 10) / 10) / 10) / 10) / 10) % 10)) &&& 31))) ||| ((1 : Int32) <<< ((nI (((((((n / 10) / 10) / 10) / 10) / 10) / 10) % 10)) &&& 31))) ||| ((1 : Int32) <<< ((nI ((((((n / 10) / 10) / 10) / 10) / 10) % 10)) &&& 31)))), some (.int (2 : Int32))]) rfl rfl (Nat.le_of_ble_eq_true rfl) rfl ?_
                        refine X_iinc (v := (3 : Int32)) (ls' := [some (.ref 2), some (.ref 354), some (.int (0 : Int32)), some (.int (8 : Int32)), some (.int ((((0 : Int32) ||| ((1 : Int32) <<< ((nI ((((((((n / 10) / 10) / 10) / 10) / 10) / 10) / 10) % 10)) &&& 31))) ||| ((1 : Int32) <<< ((nI (((((((n / 10) / 10) / 10) / 10) / 10) / 10) % 10)) &&& 31))) ||| ((1 : Int32) <<< ((nI ((((((n / 10) / 10) / 10) / 10) / 10) % 10)) &&& 31)))), some (.int (3 : Int32))]) rfl rfl rfl rfl rfl ?_
                        refine LW_goto (tgt := 42) rfl rfl ?_
                        refine X_iload rfl rfl rfl ?_
                        refine X_iload_n rfl rfl rfl rfl ?_
                        refine X_icmp_ge (tgt := 88) rfl rfl rfl (fun q => absurd q (by decide)) (fun _ => ?_)
                        refine X_aload_n rfl rfl rfl rfl ?_
                        refine X_getR (a := 9) rfl rfl rfl ((congrFun F.1 2).trans s_2) rfl ((congrFun (F.2.1 2 (by decide)) 8).trans r_2_8) ?_
                        refine X_aload_n rfl rfl rfl rfl ?_
                        refine X_getI (v := (0 : Int32)) rfl rfl rfl ((congrFun F.1 2).trans s_2) rfl ((congrFun (F.2.2 2 (by decide)).1 1).trans i_2_1) ?_
                        refine X_bipush (v := (8 : Int32)) rfl rfl rfl ?_
                        refine X_imul (v := (0 : Int32)) rfl rfl rfl ?_
                        refine X_iload rfl rfl rfl ?_
                        refine X_iadd (v := (3 : Int32)) rfl rfl rfl ?_
                        refine X_aload_n rfl rfl rfl rfl ?_
                        refine X_iload_n rfl rfl rfl rfl ?_
                        refine X_iload rfl rfl rfl ?_
                        refine X_iadd (v := (3 : Int32)) rfl rfl rfl ?_
                        refine X_iald (v := (nI (((((n / 10) / 10) / 10) / 10) % 10))) rfl rfl ((congrFun F.1 354).trans s_354) (vp_in_d rfl) rfl ?_
                        refine X_iast (k0 := 3) rfl rfl ((congrFun F.1 9).trans s_9) (vp_in_d rfl) rfl ?_
                        refine X_iload rfl rfl rfl ?_
                        refine X_iconst (v := (1 : Int32)) rfl rfl rfl ?_
                        refine X_aload_n rfl rfl rfl rfl ?_
                        refine X_iload_n rfl rfl rfl rfl ?_
                        refine X_iload rfl rfl rfl ?_
                        refine X_iadd (v := (3 : Int32)) rfl rfl rfl ?_
                        refine X_iald (v := (nI (((((n / 10) / 10) / 10) / 10) % 10))) rfl rfl ((congrFun F.1 354).trans s_354) (vp_in_d rfl) rfl ?_
                        refine X_ishl (v := ((1 : Int32) <<< ((nI (((((n / 10) / 10) / 10) / 10) % 10)) &&& 31))) rfl rfl rfl ?_
                        refine X_ior (v := (((((0 : Int32) ||| ((1 : Int32) <<< ((nI ((((((((n / 10) / 10) / 10) / 10) / 10) / 10) / 10) % 10)) &&& 31))) ||| ((1 : Int32) <<< ((nI (((((((n / 10) / 10) / 10) / 10) / 10) / 10) % 10)) &&& 31))) ||| ((1 : Int32) <<< ((nI ((((((n / 10) / 10) / 10) / 10) / 10) % 10)) &&& 31))) ||| ((1 : Int32) <<< ((nI (((((n / 10) / 10) / 10) / 10) % 10)) &&& 31)))) rfl rfl rfl ?_
                        refine X_istore (i := 4) (ls' := [some (.ref 2), some (.ref 354), some (.int (0 : Int32)), some (.int (8 : Int32)), some (.int (((((0 : Int32) ||| ((1 : Int32) <<< ((nI ((((((((n / 10) / 10) / 10) / 10) / 10) / 10) / 10) % 10)) &&& 31))) ||| ((1 : Int32) <<< ((nI (((((((n / 10) / 10) / 10) / 10) / 10) / 10) % 10)) &&& 31))) ||| ((1 : Int32) <<< ((nI ((((((n / 10) / 10) / 10) / 10) / 10) % 10)) &&& 31))) ||| ((1 : Int32) <<< ((nI (((((n / 10) / 10) / 10) / 10) % 10)) &&& 31)))), some (.int (3 : Int32))]) rfl rfl (Nat.le_of_ble_eq_true rfl) rfl ?_
                        refine X_iinc (v := (4 : Int32)) (ls' := [some (.ref 2), some (.ref 354), some (.int (0 : Int32)), some (.int (8 : Int32)), some (.int (((((0 : Int32) ||| ((1 : Int32) <<< ((nI ((((((((n / 10) / 10) / 10) / 10) / 10) / 10) / 10) % 10)) &&& 31))) ||| ((1 : Int32) <<< ((nI (((((((n / 10) / 10) / 10) / 10) / 10) / 10) % 10)) &&& 31))) ||| ((1 : Int32) <<< ((nI ((((((n / 10) / 10) / 10) / 10) / 10) % 10)) &&& 31))) ||| ((1 : Int32) <<< ((nI (((((n / 10) / 10) / 10) / 10) % 10)) &&& 31)))), some (.int (4 : Int32))]) rfl rfl rfl rfl rfl ?_
                        refine LW_goto (tgt := 42) rfl rfl ?_
                        refine X_iload rfl rfl rfl ?_
                        refine X_iload_n rfl rfl rfl rfl ?_
                        refine X_icmp_ge (tgt := 88) rfl rfl rfl (fun q => absurd q (by decide)) (fun _ => ?_)
                        refine X_aload_n rfl rfl rfl rfl ?_
                        refine X_getR (a := 9) rfl rfl rfl ((congrFun F.1 2).trans s_2) rfl ((congrFun (F.2.1 2 (by decide)) 8).trans r_2_8) ?_
                        refine X_aload_n rfl rfl rfl rfl ?_
                        refine X_getI (v := (0 : Int32)) rfl rfl rfl ((congrFun F.1 2).trans s_2) rfl ((congrFun (F.2.2 2 (by decide)).1 1).trans i_2_1) ?_
                        refine X_bipush (v := (8 : Int32)) rfl rfl rfl ?_
                        refine X_imul (v := (0 : Int32)) rfl rfl rfl ?_
                        refine X_iload rfl rfl rfl ?_
                        refine X_iadd (v := (4 : Int32)) rfl rfl rfl ?_
                        refine X_aload_n rfl rfl rfl rfl ?_
                        refine X_iload_n rfl rfl rfl rfl ?_
                        refine X_iload rfl rfl rfl ?_
                        refine X_iadd (v := (4 : Int32)) rfl rfl rfl ?_
                        refine X_iald (v := (nI ((((n / 10) / 10) / 10) % 10))) rfl rfl ((congrFun F.1 354).trans s_354) (vp_in_d rfl) rfl ?_
                        refine X_iast (k0 := 4) rfl rfl ((congrFun F.1 9).trans s_9) (vp_in_d rfl) rfl ?_
                        refine X_iload rfl rfl rfl ?_
                        refine X_iconst (v := (1 : Int32)) rfl rfl rfl ?_
                        refine X_aload_n rfl rfl rfl rfl ?_
                        refine X_iload_n rfl rfl rfl rfl ?_
                        refine X_iload rfl rfl rfl ?_
                        refine X_iadd (v := (4 : Int32)) rfl rfl rfl ?_
                        refine X_iald (v := (nI ((((n / 10) / 10) / 10) % 10))) rfl rfl ((congrFun F.1 354).trans s_354) (vp_in_d rfl) rfl ?_
                        refine X_ishl (v := ((1 : Int32) <<< ((nI ((((n / 10) / 10) / 10) % 10)) &&& 31))) rfl rfl rfl ?_
                        refine X_ior (v := ((((((0 : Int32) ||| ((1 : Int32) <<< ((nI ((((((((n / 10) / 10) / 10) / 10) / 10) / 10) / 10) % 10)) &&& 31))) ||| ((1 : Int32) <<< ((nI (((((((n / 10) / 10) / 10) / 10) / 10) / 10) % 10)) &&& 31))) ||| ((1 : Int32) <<< ((nI ((((((n / 10) / 10) / 10) / 10) / 10) % 10)) &&& 31))) ||| ((1 : Int32) <<< ((nI (((((n / 10) / 10) / 10) / 10) % 10)) &&& 31))) ||| ((1 : Int32) <<< ((nI ((((n / 10) / 10) / 10) % 10)) &&& 31)))) rfl rfl rfl ?_
                        refine X_istore (i := 4) (ls' := [some (.ref 2), some (.ref 354), some (.int (0 : Int32)), some (.int (8 : Int32)), some (.int ((((((0 : Int32) ||| ((1 : Int32) <<< ((nI ((((((((n / 10) / 10) / 10) / 10) / 10) / 10) / 10) % 10)) &&& 31))) ||| ((1 : Int32) <<< ((nI (((((((n / 10) / 10) / 10) / 10) / 10) / 10) % 10)) &&& 31))) ||| ((1 : Int32) <<< ((nI ((((((n / 10) / 10) / 10) / 10) / 10) % 10)) &&& 31))) ||| ((1 : Int32) <<< ((nI (((((n / 10) / 10) / 10) / 10) % 10)) &&& 31))) ||| ((1 : Int32) <<< ((nI ((((n / 10) / 10) / 10) % 10)) &&& 31)))), some (.int (4 : Int32))]) rfl rfl (Nat.le_of_ble_eq_true rfl) rfl ?_
                        refine X_iinc (v := (5 : Int32)) (ls' := [some (.ref 2), some (.ref 354), some (.int (0 : Int32)), some (.int (8 : Int32)), some (.int ((((((0 : Int32) ||| ((1 : Int32) <<< ((nI ((((((((n / 10) / 10) / 10) / 10) / 10) / 10) / 10) % 10)) &&& 31))) ||| ((1 : Int32) <<< ((nI (((((((n / 10) / 10) / 10) / 10) / 10) / 10) % 10)) &&& 31))) ||| ((1 : Int32) <<< ((nI ((((((n / 10) / 10) / 10) / 10) / 10) % 10)) &&& 31))) ||| ((1 : Int32) <<< ((nI (((((n / 10) / 10) / 10) / 10) % 10)) &&& 31))) ||| ((1 : Int32) <<< ((nI ((((n / 10) / 10) / 10) % 10)) &&& 31)))), some (.int (5 : Int32))]) rfl rfl rfl rfl rfl ?_
                        refine LW_goto (tgt := 42) rfl rfl ?_
                        refine X_iload rfl rfl rfl ?_
                        refine X_iload_n rfl rfl rfl rfl ?_
                        refine X_icmp_ge (tgt := 88) rfl rfl rfl (fun q => absurd q (by decide)) (fun _ => ?_)
                        refine X_aload_n rfl rfl rfl rfl ?_
                        refine X_getR (a := 9) rfl rfl rfl ((congrFun F.1 2).trans s_2) rfl ((congrFun (F.2.1 2 (by decide)) 8).trans r_2_8) ?_
                        refine X_aload_n rfl rfl rfl rfl ?_
                        refine X_getI (v := (0 : Int32)) rfl rfl rfl ((congrFun F.1 2).trans s_2) rfl ((congrFun (F.2.2 2 (by decide)).1 1).trans i_2_1) ?_
                        refine X_bipush (v := (8 : Int32)) rfl rfl rfl ?_
                        refine X_imul (v := (0 : Int32)) rfl rfl rfl ?_
                        refine X_iload rfl rfl rfl ?_
                        refine X_iadd (v := (5 : Int32)) rfl rfl rfl ?_
                        refine X_aload_n rfl rfl rfl rfl ?_
                        refine X_iload_n rfl rfl rfl rfl ?_
                        refine X_iload rfl rfl rfl ?_
                        refine X_iadd (v := (5 : Int32)) rfl rfl rfl ?_
                        refine X_iald (v := (nI (((n / 10) / 10) % 10))) rfl rfl ((congrFun F.1 354).trans s_354) (vp_in_d rfl) rfl ?_
                        refine X_iast (k0 := 5) rfl rfl ((congrFun F.1 9).trans s_9) (vp_in_d rfl) rfl ?_
                        refine X_iload rfl rfl rfl ?_
                        refine X_iconst (v := (1 : Int32)) rfl rfl rfl ?_
                        refine X_aload_n rfl rfl rfl rfl ?_
                        refine X_iload_n rfl rfl rfl rfl ?_
                        refine X_iload rfl rfl rfl ?_
                        refine X_iadd (v := (5 : Int32)) rfl rfl rfl ?_
                        refine X_iald (v := (nI (((n / 10) / 10) % 10))) rfl rfl ((congrFun F.1 354).trans s_354) (vp_in_d rfl) rfl ?_
                        refine X_ishl (v := ((1 : Int32) <<< ((nI (((n / 10) / 10) % 10)) &&& 31))) rfl rfl rfl ?_
                        refine X_ior (v := (((((((0 : Int32) ||| ((1 : Int32) <<< ((nI ((((((((n / 10) / 10) / 10) / 10) / 10) / 10) / 10) % 10)) &&& 31))) ||| ((1 : Int32) <<< ((nI (((((((n / 10) / 10) / 10) / 10) / 10) / 10) % 10)) &&& 31))) ||| ((1 : Int32) <<< ((nI ((((((n / 10) / 10) / 10) / 10) / 10) % 10)) &&& 31))) ||| ((1 : Int32) <<< ((nI (((((n / 10) / 10) / 10) / 10) % 10)) &&& 31))) ||| ((1 : Int32) <<< ((nI ((((n / 10) / 10) / 10) % 10)) &&& 31))) ||| ((1 : Int32) <<< ((nI (((n / 10) / 10) % 10)) &&& 31)))) rfl rfl rfl ?_
                        refine X_istore (i := 4) (ls' := [some (.ref 2), some (.ref 354), some (.int (0 : Int32)), some (.int (8 : Int32)), some (.int (((((((0 : Int32) ||| ((1 : Int32) <<< ((nI ((((((((n / 10) / 10) / 10) / 10) / 10) / 10) / 10) % 10)) &&& 31))) ||| ((1 : Int32) <<< ((nI (((((((n / 10) / 10) / 10) / 10) / 10) / 10) % 10)) &&& 31))) ||| ((1 : Int32) <<< ((nI ((((((n / 10) / 10) / 10) / 10) / 10) % 10)) &&& 31))) ||| ((1 : Int32) <<< ((nI (((((n / 10) / 10) / 10) / 10) % 10)) &&& 31))) ||| ((1 : Int32) <<< ((nI ((((n / 10) / 10) / 10) % 10)) &&& 31))) ||| ((1 : Int32) <<< ((nI (((n / 10) / 10) % 10)) &&& 31)))), some (.int (5 : Int32))]) rfl rfl (Nat.le_of_ble_eq_true rfl) rfl ?_
                        refine X_iinc (v := (6 : Int32)) (ls' := [some (.ref 2), some (.ref 354), some (.int (0 : Int32)), some (.int (8 : Int32)), some (.int (((((((0 : Int32) ||| ((1 : Int32) <<< ((nI ((((((((n / 10) / 10) / 10) / 10) / 10) / 10) / 10) % 10)) &&& 31))) ||| ((1 : Int32) <<< ((nI (((((((n / 10) / 10) / 10) / 10) / 10) / 10) % 10)) &&& 31))) ||| ((1 : Int32) <<< ((nI ((((((n / 10) / 10) / 10) / 10) / 10) % 10)) &&& 31))) ||| ((1 : Int32) <<< ((nI (((((n / 10) / 10) / 10) / 10) % 10)) &&& 31))) ||| ((1 : Int32) <<< ((nI ((((n / 10) / 10) / 10) % 10)) &&& 31))) ||| ((1 : Int32) <<< ((nI (((n / 10) / 10) % 10)) &&& 31)))), some (.int (6 : Int32))]) rfl rfl rfl rfl rfl ?_
                        refine LW_goto (tgt := 42) rfl rfl ?_
                        refine X_iload rfl rfl rfl ?_
                        refine X_iload_n rfl rfl rfl rfl ?_
                        refine X_icmp_ge (tgt := 88) rfl rfl rfl (fun q => absurd q (by decide)) (fun _ => ?_)
                        refine X_aload_n rfl rfl rfl rfl ?_
                        refine X_getR (a := 9) rfl rfl rfl ((congrFun F.1 2).trans s_2) rfl ((congrFun (F.2.1 2 (by decide)) 8).trans r_2_8) ?_
                        refine X_aload_n rfl rfl rfl rfl ?_
                        refine X_getI (v := (0 : Int32)) rfl rfl rfl ((congrFun F.1 2).trans s_2) rfl ((congrFun (F.2.2 2 (by decide)).1 1).trans i_2_1) ?_
                        refine X_bipush (v := (8 : Int32)) rfl rfl rfl ?_
                        refine X_imul (v := (0 : Int32)) rfl rfl rfl ?_
                        refine X_iload rfl rfl rfl ?_
                        refine X_iadd (v := (6 : Int32)) rfl rfl rfl ?_
                        refine X_aload_n rfl rfl rfl rfl ?_
                        refine X_iload_n rfl rfl rfl rfl ?_
                        refine X_iload rfl rfl rfl ?_
                        refine X_iadd (v := (6 : Int32)) rfl rfl rfl ?_
                        refine X_iald (v := (nI ((n / 10) % 10))) rfl rfl ((congrFun F.1 354).trans s_354) (vp_in_d rfl) rfl ?_
                        refine X_iast (k0 := 6) rfl rfl ((congrFun F.1 9).trans s_9) (vp_in_d rfl) rfl ?_
                        refine X_iload rfl rfl rfl ?_
                        refine X_iconst (v := (1 : Int32)) rfl rfl rfl ?_
                        refine X_aload_n rfl rfl rfl rfl ?_
                        refine X_iload_n rfl rfl rfl rfl ?_
                        refine X_iload rfl rfl rfl ?_
                        refine X_iadd (v := (6 : Int32)) rfl rfl rfl ?_
                        refine X_iald (v := (nI ((n / 10) % 10))) rfl rfl ((congrFun F.1 354).trans s_354) (vp_in_d rfl) rfl ?_
                        refine X_ishl (v := ((1 : Int32) <<< ((nI ((n / 10) % 10)) &&& 31))) rfl rfl rfl ?_
                        refine X_ior (v := ((((((((0 : Int32) ||| ((1 : Int32) <<< ((nI ((((((((n / 10) / 10) / 10) / 10) / 10) / 10) / 10) % 10)) &&& 31))) ||| ((1 : Int32) <<< ((nI (((((((n / 10) / 10) / 10) / 10) / 10) / 10) % 10)) &&& 31))) ||| ((1 : Int32) <<< ((nI ((((((n / 10) / 10) / 10) / 10) / 10) % 10)) &&& 31))) ||| ((1 : Int32) <<< ((nI (((((n / 10) / 10) / 10) / 10) % 10)) &&& 31))) ||| ((1 : Int32) <<< ((nI ((((n / 10) / 10) / 10) % 10)) &&& 31))) ||| ((1 : Int32) <<< ((nI (((n / 10) / 10) % 10)) &&& 31))) ||| ((1 : Int32) <<< ((nI ((n / 10) % 10)) &&& 31)))) rfl rfl rfl ?_
                        refine X_istore (i := 4) (ls' := [some (.ref 2), some (.ref 354), some (.int (0 : Int32)), some (.int (8 : Int32)), some (.int ((((((((0 : Int32) ||| ((1 : Int32) <<< ((nI ((((((((n / 10) / 10) / 10) / 10) / 10) / 10) / 10) % 10)) &&& 31))) ||| ((1 : Int32) <<< ((nI (((((((n / 10) / 10) / 10) / 10) / 10) / 10) % 10)) &&& 31))) ||| ((1 : Int32) <<< ((nI ((((((n / 10) / 10) / 10) / 10) / 10) % 10)) &&& 31))) ||| ((1 : Int32) <<< ((nI (((((n / 10) / 10) / 10) / 10) % 10)) &&& 31))) ||| ((1 : Int32) <<< ((nI ((((n / 10) / 10) / 10) % 10)) &&& 31))) ||| ((1 : Int32) <<< ((nI (((n / 10) / 10) % 10)) &&& 31))) ||| ((1 : Int32) <<< ((nI ((n / 10) % 10)) &&& 31)))), some (.int (6 : Int32))]) rfl rfl (Nat.le_of_ble_eq_true rfl) rfl ?_
                        refine X_iinc (v := (7 : Int32)) (ls' := [some (.ref 2), some (.ref 354), some (.int (0 : Int32)), some (.int (8 : Int32)), some (.int ((((((((0 : Int32) ||| ((1 : Int32) <<< ((nI ((((((((n / 10) / 10) / 10) / 10) / 10) / 10) / 10) % 10)) &&& 31))) ||| ((1 : Int32) <<< ((nI (((((((n / 10) / 10) / 10) / 10) / 10) / 10) % 10)) &&& 31))) ||| ((1 : Int32) <<< ((nI ((((((n / 10) / 10) / 10) / 10) / 10) % 10)) &&& 31))) ||| ((1 : Int32) <<< ((nI (((((n / 10) / 10) / 10) / 10) % 10)) &&& 31))) ||| ((1 : Int32) <<< ((nI ((((n / 10) / 10) / 10) % 10)) &&& 31))) ||| ((1 : Int32) <<< ((nI (((n / 10) / 10) % 10)) &&& 31))) ||| ((1 : Int32) <<< ((nI ((n / 10) % 10)) &&& 31)))), some (.int (7 : Int32))]) rfl rfl rfl rfl rfl ?_
                        refine LW_goto (tgt := 42) rfl rfl ?_
                        refine X_iload rfl rfl rfl ?_
                        refine X_iload_n rfl rfl rfl rfl ?_
                        refine X_icmp_ge (tgt := 88) rfl rfl rfl (fun q => absurd q (by decide)) (fun _ => ?_)
                        refine X_aload_n rfl rfl rfl rfl ?_
                        refine X_getR (a := 9) rfl rfl rfl ((congrFun F.1 2).trans s_2) rfl ((congrFun (F.2.1 2 (by decide)) 8).trans r_2_8) ?_
                        refine X_aload_n rfl rfl rfl rfl ?_
                        refine X_getI (v := (0 : Int32)) rfl rfl rfl ((congrFun F.1 2).trans s_2) rfl ((congrFun (F.2.2 2 (by decide)).1 1).trans i_2_1) ?_
                        refine X_bipush (v := (8 : Int32)) rfl rfl rfl ?_
                        refine X_imul (v := (0 : Int32)) rfl rfl rfl ?_
                        refine X_iload rfl rfl rfl ?_
                        refine X_iadd (v := (7 : Int32)) rfl rfl rfl ?_
                        refine X_aload_n rfl rfl rfl rfl ?_
                        refine X_iload_n rfl rfl rfl rfl ?_
                        refine X_iload rfl rfl rfl ?_
                        refine X_iadd (v := (7 : Int32)) rfl rfl rfl ?_
                        refine X_iald (v := (nI (n % 10))) rfl rfl ((congrFun F.1 354).trans s_354) (vp_in_d rfl) rfl ?_
                        refine X_iast (k0 := 7) rfl rfl ((congrFun F.1 9).trans s_9) (vp_in_d rfl) rfl ?_
                        refine X_iload rfl rfl rfl ?_
                        refine X_iconst (v := (1 : Int32)) rfl rfl rfl ?_
                        refine X_aload_n rfl rfl rfl rfl ?_
                        refine X_iload_n rfl rfl rfl rfl ?_
                        refine X_iload rfl rfl rfl ?_
                        refine X_iadd (v := (7 : Int32)) rfl rfl rfl ?_
                        refine X_iald (v := (nI (n % 10))) rfl rfl ((congrFun F.1 354).trans s_354) (vp_in_d rfl) rfl ?_
                        refine X_ishl (v := ((1 : Int32) <<< ((nI (n % 10)) &&& 31))) rfl rfl rfl ?_
                        refine X_ior (v := (((((((((0 : Int32) ||| ((1 : Int32) <<< ((nI ((((((((n / 10) / 10) / 10) / 10) / 10) / 10) / 10) % 10)) &&& 31))) ||| ((1 : Int32) <<< ((nI (((((((n / 10) / 10) / 10) / 10) / 10) / 10) % 10)) &&& 31))) ||| ((1 : Int32) <<< ((nI ((((((n / 10) / 10) / 10) / 10) / 10) % 10)) &&& 31))) ||| ((1 : Int32) <<< ((nI (((((n / 10) / 10) / 10) / 10) % 10)) &&& 31))) ||| ((1 : Int32) <<< ((nI ((((n / 10) / 10) / 10) % 10)) &&& 31))) ||| ((1 : Int32) <<< ((nI (((n / 10) / 10) % 10)) &&& 31))) ||| ((1 : Int32) <<< ((nI ((n / 10) % 10)) &&& 31))) ||| ((1 : Int32) <<< ((nI (n % 10)) &&& 31)))) rfl rfl rfl ?_
                        refine X_istore (i := 4) (ls' := [some (.ref 2), some (.ref 354), some (.int (0 : Int32)), some (.int (8 : Int32)), some (.int (((((((((0 : Int32) ||| ((1 : Int32) <<< ((nI ((((((((n / 10) / 10) / 10) / 10) / 10) / 10) / 10) % 10)) &&& 31))) ||| ((1 : Int32) <<< ((nI (((((((n / 10) / 10) / 10) / 10) / 10) / 10) % 10)) &&& 31))) ||| ((1 : Int32) <<< ((nI ((((((n / 10) / 10) / 10) / 10) / 10) % 10)) &&& 31))) ||| ((1 : Int32) <<< ((nI (((((n / 10) / 10) / 10) / 10) % 10)) &&& 31))) ||| ((1 : Int32) <<< ((nI ((((n / 10) / 10) / 10) % 10)) &&& 31))) ||| ((1 : Int32) <<< ((nI (((n / 10) / 10) % 10)) &&& 31))) ||| ((1 : Int32) <<< ((nI ((n / 10) % 10)) &&& 31))) ||| ((1 : Int32) <<< ((nI (n % 10)) &&& 31)))), some (.int (7 : Int32))]) rfl rfl (Nat.le_of_ble_eq_true rfl) rfl ?_
                        refine X_iinc (v := (8 : Int32)) (ls' := [some (.ref 2), some (.ref 354), some (.int (0 : Int32)), some (.int (8 : Int32)), some (.int (((((((((0 : Int32) ||| ((1 : Int32) <<< ((nI ((((((((n / 10) / 10) / 10) / 10) / 10) / 10) / 10) % 10)) &&& 31))) ||| ((1 : Int32) <<< ((nI (((((((n / 10) / 10) / 10) / 10) / 10) / 10) % 10)) &&& 31))) ||| ((1 : Int32) <<< ((nI ((((((n / 10) / 10) / 10) / 10) / 10) % 10)) &&& 31))) ||| ((1 : Int32) <<< ((nI (((((n / 10) / 10) / 10) / 10) % 10)) &&& 31))) ||| ((1 : Int32) <<< ((nI ((((n / 10) / 10) / 10) % 10)) &&& 31))) ||| ((1 : Int32) <<< ((nI (((n / 10) / 10) % 10)) &&& 31))) ||| ((1 : Int32) <<< ((nI ((n / 10) % 10)) &&& 31))) ||| ((1 : Int32) <<< ((nI (n % 10)) &&& 31)))), some (.int (8 : Int32))]) rfl rfl rfl rfl rfl ?_
                        refine LW_goto (tgt := 42) rfl rfl ?_
                        refine X_iload rfl rfl rfl ?_
                        refine X_iload_n rfl rfl rfl rfl ?_
                        refine X_icmp_ge (tgt := 88) rfl rfl rfl (fun _ => ?_) (fun q => absurd q (by decide))
                        refine X_aload_n rfl rfl rfl rfl ?_
                        refine X_getR (a := 7) rfl rfl rfl ((congrFun F.1 2).trans s_2) rfl ((congrFun (F.2.1 2 (by decide)) 6).trans r_2_6) ?_
                        refine X_aload_n rfl rfl rfl rfl ?_
                        refine X_getI (v := (0 : Int32)) rfl rfl rfl ((congrFun F.1 2).trans s_2) rfl ((congrFun (F.2.2 2 (by decide)).1 1).trans i_2_1) ?_
                        refine X_iload_n rfl rfl rfl rfl ?_
                        refine X_iast (k0 := 0) rfl rfl ((congrFun F.1 7).trans s_7) (vp_in_d rfl) rfl ?_
                        refine X_aload_n rfl rfl rfl rfl ?_
                        refine X_getR (a := 8) rfl rfl rfl ((congrFun F.1 2).trans s_2) rfl ((congrFun (F.2.1 2 (by decide)) 7).trans r_2_7) ?_
                        refine X_aload_n rfl rfl rfl rfl ?_
                        refine X_getI (v := (0 : Int32)) rfl rfl rfl ((congrFun F.1 2).trans s_2) rfl ((congrFun (F.2.2 2 (by decide)).1 1).trans i_2_1) ?_
                        refine X_iload rfl rfl rfl ?_
                        refine X_iast (k0 := 0) rfl rfl ((congrFun F.1 8).trans s_8) (vp_in_d rfl) rfl ?_
                        refine X_aload_n rfl rfl rfl rfl ?_
                        refine X_dup rfl rfl rfl ?_
                        refine X_getI (v := (0 : Int32)) rfl rfl rfl ((congrFun F.1 2).trans s_2) rfl ((congrFun (F.2.2 2 (by decide)).1 1).trans i_2_1) ?_
                        refine X_iconst (v := (1 : Int32)) rfl rfl rfl ?_
                        refine X_iadd (v := (1 : Int32)) rfl rfl rfl ?_
                        refine X_putI rfl rfl rfl ((congrFun F.1 2).trans s_2) rfl rfl rfl rfl ?_
                        refine X_aload_n rfl rfl rfl rfl ?_
                        refine X_getI (v := (1 : Int32)) rfl rfl rfl ((congrFun F.1 2).trans s_2) rfl rfl ?_
                        refine X_iconst (v := (1 : Int32)) rfl rfl rfl ?_
                        refine X_isub (v := (0 : Int32)) rfl rfl rfl ?_
                        refine LW_ireturn (st := []) rfl rfl rfl ?_
                        refine LW_ireturn (st := []) rfl rfl rfl ⟨congrArg (fun z => some (Value.int z)) ?_, (Fr_putI (Fr_putI (Fr_putI (Fr_putI (Fr_putI (Fr_putI (Fr_putI (Fr_putI (Fr_putI (Fr_putI (Fr_putI (Fr_putI (Fr_putI (Fr_putI (Fr_putI (Fr_putI (Fr_putI (Fr_putI (Fr_putI E (by decide)) (by decide)) (by decide)) (by decide)) (by decide)) (by decide)) (by decide)) (by decide)) (by decide)) (by decide)) (by decide)) (by decide)) (by decide)) (by decide)) (by decide)) (by decide)) (by decide)) (by decide)) (by decide))⟩
                        simp only [Int32.lt_iff_toInt_lt, Int32.le_iff_toInt_le, ← Int32.toInt_inj, (show (1 : Int32).toInt = 1 from rfl), (show (10 : Int32).toInt = 10 from rfl), (show (199999999 : Int32).toInt = 199999999 from rfl), (nI_toInt (n := (((((((n / 10) / 10) / 10) / 10) / 10) / 10) / 10) / 10) (by omega)), (nI_toInt (n := ((((((n / 10) / 10) / 10) / 10) / 10) / 10) / 10) (by omega)), (nI_toInt (n := (((((n / 10) / 10) / 10) / 10) / 10) / 10) (by omega)), (nI_toInt (n := ((((n / 10) / 10) / 10) / 10) / 10) (by omega)), (nI_toInt (n := (((n / 10) / 10) / 10) / 10) (by omega)), (nI_toInt (n := ((n / 10) / 10) / 10) (by omega)), (nI_toInt (n := (n / 10) / 10) (by omega)), (nI_toInt (n := n) (by omega)), (nI_toInt (n := n / 10) (by omega))] at h1 h2 h3 h4 h6 h8 h10 h12 h14 h16 h18
                        unfold f_sayN
                        rw [if_pos (by omega)]
                      · refine X_iconst (v := (-1 : Int32)) rfl rfl rfl ?_
                        refine LW_ireturn (st := []) rfl rfl rfl ⟨congrArg (fun z => some (Value.int z)) ?_, E⟩
                        simp only [Int32.lt_iff_toInt_lt, Int32.le_iff_toInt_le, ← Int32.toInt_inj, (show (1 : Int32).toInt = 1 from rfl), (show (10 : Int32).toInt = 10 from rfl), (show (199999999 : Int32).toInt = 199999999 from rfl), (nI_toInt (n := (((((((n / 10) / 10) / 10) / 10) / 10) / 10) / 10) / 10) (by omega)), (nI_toInt (n := ((((((n / 10) / 10) / 10) / 10) / 10) / 10) / 10) (by omega)), (nI_toInt (n := (((((n / 10) / 10) / 10) / 10) / 10) / 10) (by omega)), (nI_toInt (n := ((((n / 10) / 10) / 10) / 10) / 10) (by omega)), (nI_toInt (n := (((n / 10) / 10) / 10) / 10) (by omega)), (nI_toInt (n := ((n / 10) / 10) / 10) (by omega)), (nI_toInt (n := (n / 10) / 10) (by omega)), (nI_toInt (n := n) (by omega)), (nI_toInt (n := n / 10) (by omega))] at h1 h2 h3 h4 h6 h8 h10 h12 h14 h16 h18
                        unfold f_sayN
                        rw [if_neg (by omega)]
    · exfalso
      simp only [Int32.lt_iff_toInt_lt, Int32.le_iff_toInt_le, ← Int32.toInt_inj, (show (10 : Int32).toInt = 10 from rfl), (show (199999999 : Int32).toInt = 199999999 from rfl), (nI_toInt (n := n) (by omega))] at h1 h2
      omega
set_option maxRecDepth 10000 in
set_option maxHeartbeats 40000000 in
theorem c_saying_out {g : LH} (F : Fc g) (E : Fr g) (a : Int32) (hr : ¬ (10 ≤ a.toInt ∧ a.toInt ≤ 199999999)) : LW 128 30 0 0 0 (lEnt (mL 128) [.ref 0, .int a]) [] g (fun v g' => v = some (.int (-1)) ∧ Fr g') := by
  refine LW_ls (ls' := [some (.ref 0), some (.int a), none, none, none, none]) rfl ?_
  refine X_iload_n rfl rfl rfl rfl ?_
  refine X_bipush (v := (10 : Int32)) rfl rfl rfl ?_
  refine X_icmp_lt (tgt := 12) rfl rfl rfl (fun h1 => ?_) (fun h1 => ?_)
  · refine X_iconst (v := (-1 : Int32)) rfl rfl rfl ?_
    exact LW_ireturn (st := []) rfl rfl rfl ⟨rfl, E⟩
  · refine X_iload_n rfl rfl rfl rfl ?_
    refine X_ldc (v := (199999999 : Int32)) rfl rfl rfl ?_
    refine X_icmp_le (tgt := 14) rfl rfl rfl (fun h2 => ?_) (fun h2 => ?_)
    · exfalso
      simp only [Int32.lt_iff_toInt_lt, Int32.le_iff_toInt_le, ← Int32.toInt_inj, (show (10 : Int32).toInt = 10 from rfl), (show (199999999 : Int32).toInt = 199999999 from rfl)] at h1 h2
      omega
    · refine X_iconst (v := (-1 : Int32)) rfl rfl rfl ?_
      exact LW_ireturn (st := []) rfl rfl rfl ⟨rfl, E⟩
set_option maxRecDepth 10000 in
set_option maxHeartbeats 40000000 in
theorem r_saying_in {g : LH} (F : Fr g) {n : Nat} (h0 : 10 ≤ n) (hn : n ≤ 199999999) : LW 191 30 0 0 0 (lEnt (mL 191) [.ref 355, .int (nI (n))]) [] g (fun v _ => v = some (.int (f_sayN n))) := by
  refine LW_ls (ls' := [some (.ref 355), some (.int (nI (n))), none, none, none]) rfl ?_
  refine X_iload_n rfl rfl rfl rfl ?_
  refine X_bipush (v := (10 : Int32)) rfl rfl rfl ?_
  refine X_ldc (v := (199999999 : Int32)) rfl rfl rfl ?_
  refine X_callS (as := [.int (nI (n)), .int (10 : Int32), .int (199999999 : Int32)]) (st := []) rfl rfl rfl (by decide) rfl (Nat.le_of_ble_eq_true rfl) (by decide) (Nat.le_of_ble_eq_true rfl) rfl ?_
  refine LW_ls (ls' := [some (.int (nI (n))), some (.int (10 : Int32)), some (.int (199999999 : Int32))]) rfl ?_
  refine X_iload_n rfl rfl rfl rfl ?_
  refine X_iload_n rfl rfl rfl rfl ?_
  refine X_icmp_lt (tgt := 14) rfl rfl rfl (fun h1 => ?_) (fun h1 => ?_)
  · exfalso
    simp only [Int32.lt_iff_toInt_lt, Int32.le_iff_toInt_le, ← Int32.toInt_inj, (show (10 : Int32).toInt = 10 from rfl), (nI_toInt (n := n) (by omega))] at h1
    omega
  · refine X_iload_n rfl rfl rfl rfl ?_
    refine X_iload_n rfl rfl rfl rfl ?_
    refine X_icmp_gt (tgt := 14) rfl rfl rfl (fun h2 => ?_) (fun h2 => ?_)
    · exfalso
      simp only [Int32.lt_iff_toInt_lt, Int32.le_iff_toInt_le, ← Int32.toInt_inj, (show (10 : Int32).toInt = 10 from rfl), (show (199999999 : Int32).toInt = 199999999 from rfl), (nI_toInt (n := n) (by omega))] at h1 h2
      omega
    · refine X_iconst (v := (1 : Int32)) rfl rfl rfl ?_
      refine LW_goto (tgt := 15) rfl rfl ?_
      refine LW_ireturn (st := []) rfl rfl rfl ?_
      refine X_if_ne (tgt := 13) rfl rfl rfl (fun _ => ?_) (fun q => absurd q (by decide))
      refine X_bipush (v := (10 : Int32)) rfl rfl rfl ?_
      refine X_istore_n (i := 2) (ls' := [some (.ref 355), some (.int (nI (n))), some (.int (10 : Int32)), none, none]) rfl rfl rfl (Nat.le_of_ble_eq_true rfl) rfl ?_
      refine X_aload_n rfl rfl rfl rfl ?_
      refine X_iconst (v := (1 : Int32)) rfl rfl rfl ?_
      refine X_putI rfl rfl rfl ((congrFun F.1 355).trans s_355) rfl rfl rfl rfl ?_
      refine X_iload_n rfl rfl rfl rfl ?_
      refine X_iload_n rfl rfl rfl rfl ?_
      refine X_idiv (v := (nI (n / 10))) rfl rfl (by decide) (nI_idiv (d := 10) (by omega) (by decide)) ?_
      refine X_bipush (v := (9 : Int32)) rfl rfl rfl ?_
      refine X_icmp_le (tgt := 47) rfl rfl rfl (fun h3 => ?_) (fun h3 => ?_)
      · refine X_iload_n rfl rfl rfl rfl ?_
        refine X_iload_n rfl rfl rfl rfl ?_
        refine X_idiv (v := (nI (n / 10))) rfl rfl (by decide) (nI_idiv (d := 10) (by omega) (by decide)) ?_
        refine X_iconst (v := (1 : Int32)) rfl rfl rfl ?_
        refine X_icmp_eq (tgt := 56) rfl rfl rfl (fun h4 => ?_) (fun h4 => ?_)
        · refine X_iload_n rfl rfl rfl rfl ?_
          refine X_istore_n (i := 3) (ls' := [some (.ref 355), some (.int (nI (n))), some (.int (10 : Int32)), some (.int (nI (n))), none]) rfl rfl rfl (Nat.le_of_ble_eq_true rfl) rfl ?_
          refine X_aload_n rfl rfl rfl rfl ?_
          refine X_getI (v := (1 : Int32)) rfl rfl rfl ((congrFun F.1 355).trans s_355) rfl rfl ?_
          refine X_iconst (v := (1 : Int32)) rfl rfl rfl ?_
          refine X_isub (v := (0 : Int32)) rfl rfl rfl ?_
          refine X_istore (i := 4) (ls' := [some (.ref 355), some (.int (nI (n))), some (.int (10 : Int32)), some (.int (nI (n))), some (.int (0 : Int32))]) rfl rfl (Nat.le_of_ble_eq_true rfl) rfl ?_
          refine X_iload rfl rfl rfl ?_
          refine X_if_lt (tgt := 93) rfl rfl rfl (fun q => absurd q (by decide)) (fun _ => ?_)
          refine X_aload_n rfl rfl rfl rfl ?_
          refine X_getR (a := 360) rfl rfl rfl ((congrFun F.1 355).trans s_355) rfl ((congrFun (F.2.1 355 (by decide)) 5).trans r_355_5) ?_
          refine X_iload rfl rfl rfl ?_
          refine X_iload_n rfl rfl rfl rfl ?_
          refine X_bipush (v := (10 : Int32)) rfl rfl rfl ?_
          refine X_irem (v := (nI (n % 10))) rfl rfl (by decide) (nI_irem (d := 10) (by omega) (by decide)) ?_
          refine X_iast (k0 := 0) rfl rfl ((congrFun F.1 360).trans s_360) (vp_in_d rfl) rfl ?_
          refine X_iload_n rfl rfl rfl rfl ?_
          refine X_bipush (v := (10 : Int32)) rfl rfl rfl ?_
          refine X_idiv (v := (nI (n / 10))) rfl rfl (by decide) (nI_idiv (d := 10) (by omega) (by decide)) ?_
          refine X_istore_n (i := 3) (ls' := [some (.ref 355), some (.int (nI (n))), some (.int (10 : Int32)), some (.int (nI (n / 10))), some (.int (0 : Int32))]) rfl rfl rfl (Nat.le_of_ble_eq_true rfl) rfl ?_
          refine X_iinc (v := (-1 : Int32)) (ls' := [some (.ref 355), some (.int (nI (n))), some (.int (10 : Int32)), some (.int (nI (n / 10))), some (.int (-1 : Int32))]) rfl rfl rfl rfl rfl ?_
          refine LW_goto (tgt := 66) rfl rfl ?_
          refine X_iload rfl rfl rfl ?_
          refine X_if_lt (tgt := 93) rfl rfl rfl (fun _ => ?_) (fun q => absurd q (by decide))
          refine X_aload_n rfl rfl rfl rfl ?_
          refine X_callV (as := []) (st := []) rfl rfl rfl (by decide) rfl (Nat.le_of_ble_eq_true rfl) (by decide) (Nat.le_of_ble_eq_true rfl) rfl ((congrFun F.1 355).trans s_355) (by decide) ?_
          refine LW_ls (ls' := [some (.ref 355), none, none]) rfl ?_
          refine X_aload_n rfl rfl rfl rfl ?_
          refine X_getR (a := 356) rfl rfl rfl ((congrFun F.1 355).trans s_355) rfl ((congrFun (F.2.1 355 (by decide)) 0).trans r_355_0) ?_
          refine X_iconst (v := (1 : Int32)) rfl rfl rfl ?_
          refine X_iald (v := (0 : Int32)) rfl rfl ((congrFun F.1 356).trans s_356) (vp_in_d rfl) ((congrFun (F.2.2 356 (by decide)).1 1).trans i_356_1) ?_
          refine X_bipush (v := (8 : Int32)) rfl rfl rfl ?_
          refine X_icmp_ne (tgt := 13) rfl rfl rfl (fun _ => ?_) (fun q => absurd q (by decide))
          refine X_sipush (v := (356 : Int32)) rfl rfl rfl ?_
          refine X_bipush (v := (9 : Int32)) rfl rfl rfl ?_
          refine X_aload_n rfl rfl rfl rfl ?_
          refine X_getR (a := 356) rfl rfl rfl ((congrFun F.1 355).trans s_355) rfl ((congrFun (F.2.1 355 (by decide)) 0).trans r_355_0) ?_
          refine X_iconst (v := (1 : Int32)) rfl rfl rfl ?_
          refine X_iald (v := (0 : Int32)) rfl rfl ((congrFun F.1 356).trans s_356) (vp_in_d rfl) ((congrFun (F.2.2 356 (by decide)).1 1).trans i_356_1) ?_
          refine X_imul (v := (0 : Int32)) rfl rfl rfl ?_
          refine X_iadd (v := (356 : Int32)) rfl rfl rfl ?_
          refine X_istore_n (i := 1) (ls' := [some (.ref 355), some (.int (356 : Int32)), none]) rfl rfl rfl (Nat.le_of_ble_eq_true rfl) rfl ?_
          refine X_aload_n rfl rfl rfl rfl ?_
          refine X_getR (a := 356) rfl rfl rfl ((congrFun F.1 355).trans s_355) rfl ((congrFun (F.2.1 355 (by decide)) 0).trans r_355_0) ?_
          refine X_iload_n rfl rfl rfl rfl ?_
          refine X_aload_n rfl rfl rfl rfl ?_
          refine X_getI (v := (1 : Int32)) rfl rfl rfl ((congrFun F.1 355).trans s_355) rfl rfl ?_
          refine X_iast (k0 := 356) rfl rfl ((congrFun F.1 356).trans s_356) (vp_in_d rfl) rfl ?_
          refine X_iconst (v := (0 : Int32)) rfl rfl rfl ?_
          refine X_istore_n (i := 2) (ls' := [some (.ref 355), some (.int (356 : Int32)), some (.int (0 : Int32))]) rfl rfl rfl (Nat.le_of_ble_eq_true rfl) rfl ?_
          refine X_iload_n rfl rfl rfl rfl ?_
          refine X_aload_n rfl rfl rfl rfl ?_
          refine X_getI (v := (1 : Int32)) rfl rfl rfl ((congrFun F.1 355).trans s_355) rfl rfl ?_
          refine X_icmp_ge (tgt := 69) rfl rfl rfl (fun q => absurd q (by decide)) (fun _ => ?_)
          refine X_aload_n rfl rfl rfl rfl ?_
          refine X_getR (a := 356) rfl rfl rfl ((congrFun F.1 355).trans s_355) rfl ((congrFun (F.2.1 355 (by decide)) 0).trans r_355_0) ?_
          refine X_iload_n rfl rfl rfl rfl ?_
          refine X_iconst (v := (1 : Int32)) rfl rfl rfl ?_
          refine X_iadd (v := (357 : Int32)) rfl rfl rfl ?_
          refine X_iload_n rfl rfl rfl rfl ?_
          refine X_iadd (v := (357 : Int32)) rfl rfl rfl ?_
          refine X_aload_n rfl rfl rfl rfl ?_
          refine X_getR (a := 360) rfl rfl rfl ((congrFun F.1 355).trans s_355) rfl ((congrFun (F.2.1 355 (by decide)) 5).trans r_355_5) ?_
          refine X_iload_n rfl rfl rfl rfl ?_
          refine X_iald (v := (nI (n % 10))) rfl rfl ((congrFun F.1 360).trans s_360) (vp_in_d rfl) rfl ?_
          refine X_iast (k0 := 357) rfl rfl ((congrFun F.1 356).trans s_356) (vp_in_d rfl) rfl ?_
          refine X_iinc (v := (1 : Int32)) (ls' := [some (.ref 355), some (.int (356 : Int32)), some (.int (1 : Int32))]) rfl rfl rfl rfl rfl ?_
          refine LW_goto (tgt := 39) rfl rfl ?_
          refine X_iload_n rfl rfl rfl rfl ?_
          refine X_aload_n rfl rfl rfl rfl ?_
          refine X_getI (v := (1 : Int32)) rfl rfl rfl ((congrFun F.1 355).trans s_355) rfl rfl ?_
          refine X_icmp_ge (tgt := 69) rfl rfl rfl (fun _ => ?_) (fun q => absurd q (by decide))
          refine X_aload_n rfl rfl rfl rfl ?_
          refine X_getR (a := 356) rfl rfl rfl ((congrFun F.1 355).trans s_355) rfl ((congrFun (F.2.1 355 (by decide)) 0).trans r_355_0) ?_
          refine X_iconst (v := (1 : Int32)) rfl rfl rfl ?_
          refine X_dup2 rfl rfl rfl rfl ?_
          refine X_iald (v := (0 : Int32)) rfl rfl ((congrFun F.1 356).trans s_356) (vp_in_d rfl) ((congrFun (F.2.2 356 (by decide)).1 1).trans i_356_1) ?_
          refine X_iconst (v := (1 : Int32)) rfl rfl rfl ?_
          refine X_iadd (v := (1 : Int32)) rfl rfl rfl ?_
          refine X_iast (k0 := 1) rfl rfl ((congrFun F.1 356).trans s_356) (vp_in_d rfl) rfl ?_
          refine X_aload_n rfl rfl rfl rfl ?_
          refine X_getR (a := 356) rfl rfl rfl ((congrFun F.1 355).trans s_355) rfl ((congrFun (F.2.1 355 (by decide)) 0).trans r_355_0) ?_
          refine X_iconst (v := (1 : Int32)) rfl rfl rfl ?_
          refine X_iald (v := (1 : Int32)) rfl rfl ((congrFun F.1 356).trans s_356) (vp_in_d rfl) rfl ?_
          refine X_iconst (v := (1 : Int32)) rfl rfl rfl ?_
          refine X_isub (v := (0 : Int32)) rfl rfl rfl ?_
          refine LW_ireturn (st := []) rfl rfl rfl ?_
          refine LW_ireturn (st := []) rfl rfl rfl (congrArg (fun z => some (Value.int z)) ?_)
          simp only [Int32.lt_iff_toInt_lt, Int32.le_iff_toInt_le, ← Int32.toInt_inj, (show (1 : Int32).toInt = 1 from rfl), (show (9 : Int32).toInt = 9 from rfl), (show (10 : Int32).toInt = 10 from rfl), (show (199999999 : Int32).toInt = 199999999 from rfl), (nI_toInt (n := n) (by omega)), (nI_toInt (n := n / 10) (by omega))] at h1 h2 h3 h4
          unfold f_sayN
          rw [if_pos (by omega)]
        · refine X_iconst (v := (-1 : Int32)) rfl rfl rfl ?_
          refine LW_ireturn (st := []) rfl rfl rfl (congrArg (fun z => some (Value.int z)) ?_)
          simp only [Int32.lt_iff_toInt_lt, Int32.le_iff_toInt_le, ← Int32.toInt_inj, (show (1 : Int32).toInt = 1 from rfl), (show (9 : Int32).toInt = 9 from rfl), (show (10 : Int32).toInt = 10 from rfl), (show (199999999 : Int32).toInt = 199999999 from rfl), (nI_toInt (n := n) (by omega)), (nI_toInt (n := n / 10) (by omega))] at h1 h2 h3 h4
          unfold f_sayN
          rw [if_neg (by omega)]
      · refine X_iload_n rfl rfl rfl rfl ?_
        refine X_bipush (v := (10 : Int32)) rfl rfl rfl ?_
        refine X_imul (v := (100 : Int32)) rfl rfl rfl ?_
        refine X_istore_n (i := 2) (ls' := [some (.ref 355), some (.int (nI (n))), some (.int (100 : Int32)), none, none]) rfl rfl rfl (Nat.le_of_ble_eq_true rfl) rfl ?_
        refine X_aload_n rfl rfl rfl rfl ?_
        refine X_dup rfl rfl rfl ?_
        refine X_getI (v := (1 : Int32)) rfl rfl rfl ((congrFun F.1 355).trans s_355) rfl rfl ?_
        refine X_iconst (v := (1 : Int32)) rfl rfl rfl ?_
        refine X_iadd (v := (2 : Int32)) rfl rfl rfl ?_
        refine X_putI rfl rfl rfl ((congrFun F.1 355).trans s_355) rfl rfl rfl rfl ?_
        refine LW_goto (tgt := 21) rfl rfl ?_
        refine X_iload_n rfl rfl rfl rfl ?_
        refine X_iload_n rfl rfl rfl rfl ?_
        refine X_idiv (v := (nI (n / 100))) rfl rfl (by decide) (nI_idiv (d := 100) (by omega) (by decide)) ?_
        refine X_bipush (v := (9 : Int32)) rfl rfl rfl ?_
        refine X_icmp_le (tgt := 47) rfl rfl rfl (fun h5 => ?_) (fun h5 => ?_)
        · refine X_iload_n rfl rfl rfl rfl ?_
          refine X_iload_n rfl rfl rfl rfl ?_
          refine X_idiv (v := (nI (n / 100))) rfl rfl (by decide) (nI_idiv (d := 100) (by omega) (by decide)) ?_
          refine X_iconst (v := (1 : Int32)) rfl rfl rfl ?_
          refine X_icmp_eq (tgt := 56) rfl rfl rfl (fun h6 => ?_) (fun h6 => ?_)
          · refine X_iload_n rfl rfl rfl rfl ?_
            refine X_istore_n (i := 3) (ls' := [some (.ref 355), some (.int (nI (n))), some (.int (100 : Int32)), some (.int (nI (n))), none]) rfl rfl rfl (Nat.le_of_ble_eq_true rfl) rfl ?_
            refine X_aload_n rfl rfl rfl rfl ?_
            refine X_getI (v := (2 : Int32)) rfl rfl rfl ((congrFun F.1 355).trans s_355) rfl rfl ?_
            refine X_iconst (v := (1 : Int32)) rfl rfl rfl ?_
            refine X_isub (v := (1 : Int32)) rfl rfl rfl ?_
            refine X_istore (i := 4) (ls' := [some (.ref 355), some (.int (nI (n))), some (.int (100 : Int32)), some (.int (nI (n))), some (.int (1 : Int32))]) rfl rfl (Nat.le_of_ble_eq_true rfl) rfl ?_
            refine X_iload rfl rfl rfl ?_
            refine X_if_lt (tgt := 93) rfl rfl rfl (fun q => absurd q (by decide)) (fun _ => ?_)
            refine X_aload_n rfl rfl rfl rfl ?_
            refine X_getR (a := 360) rfl rfl rfl ((congrFun F.1 355).trans s_355) rfl ((congrFun (F.2.1 355 (by decide)) 5).trans r_355_5) ?_
            refine X_iload rfl rfl rfl ?_
            refine X_iload_n rfl rfl rfl rfl ?_
            refine X_bipush (v := (10 : Int32)) rfl rfl rfl ?_
            refine X_irem (v := (nI (n % 10))) rfl rfl (by decide) (nI_irem (d := 10) (by omega) (by decide)) ?_
            refine X_iast (k0 := 1) rfl rfl ((congrFun F.1 360).trans s_360) (vp_in_d rfl) rfl ?_
            refine X_iload_n rfl rfl rfl rfl ?_
            refine X_bipush (v := (10 : Int32)) rfl rfl rfl ?_
            refine X_idiv (v := (nI (n / 10))) rfl rfl (by decide) (nI_idiv (d := 10) (by omega) (by decide)) ?_
            refine X_istore_n (i := 3) (ls' := [some (.ref 355), some (.int (nI (n))), some (.int (100 : Int32)), some (.int (nI (n / 10))), some (.int (1 : Int32))]) rfl rfl rfl (Nat.le_of_ble_eq_true rfl) rfl ?_
            refine X_iinc (v := (0 : Int32)) (ls' := [some (.ref 355), some (.int (nI (n))), some (.int (100 : Int32)), some (.int (nI (n / 10))), some (.int (0 : Int32))]) rfl rfl rfl rfl rfl ?_
            refine LW_goto (tgt := 66) rfl rfl ?_
            refine X_iload rfl rfl rfl ?_
            refine X_if_lt (tgt := 93) rfl rfl rfl (fun q => absurd q (by decide)) (fun _ => ?_)
            refine X_aload_n rfl rfl rfl rfl ?_
            refine X_getR (a := 360) rfl rfl rfl ((congrFun F.1 355).trans s_355) rfl ((congrFun (F.2.1 355 (by decide)) 5).trans r_355_5) ?_
            refine X_iload rfl rfl rfl ?_
            refine X_iload_n rfl rfl rfl rfl ?_
            refine X_bipush (v := (10 : Int32)) rfl rfl rfl ?_
            refine X_irem (v := (nI ((n / 10) % 10))) rfl rfl (by decide) (nI_irem (d := 10) (by omega) (by decide)) ?_
            refine X_iast (k0 := 0) rfl rfl ((congrFun F.1 360).trans s_360) (vp_in_d rfl) rfl ?_
            refine X_iload_n rfl rfl rfl rfl ?_
            refine X_bipush (v := (10 : Int32)) rfl rfl rfl ?_
            refine X_idiv (v := (nI ((n / 10) / 10))) rfl rfl (by decide) (nI_idiv (d := 10) (by omega) (by decide)) ?_
            refine X_istore_n (i := 3) (ls' := [some (.ref 355), some (.int (nI (n))), some (.int (100 : Int32)), some (.int (nI ((n / 10) / 10))), some (.int (0 : Int32))]) rfl rfl rfl (Nat.le_of_ble_eq_true rfl) rfl ?_
            refine X_iinc (v := (-1 : Int32)) (ls' := [some (.ref 355), some (.int (nI (n))), some (.int (100 : Int32)), some (.int (nI ((n / 10) / 10))), some (.int (-1 : Int32))]) rfl rfl rfl rfl rfl ?_
            refine LW_goto (tgt := 66) rfl rfl ?_
            refine X_iload rfl rfl rfl ?_
            refine X_if_lt (tgt := 93) rfl rfl rfl (fun _ => ?_) (fun q => absurd q (by decide))
            refine X_aload_n rfl rfl rfl rfl ?_
            refine X_callV (as := []) (st := []) rfl rfl rfl (by decide) rfl (Nat.le_of_ble_eq_true rfl) (by decide) (Nat.le_of_ble_eq_true rfl) rfl ((congrFun F.1 355).trans s_355) (by decide) ?_
            refine LW_ls (ls' := [some (.ref 355), none, none]) rfl ?_
            refine X_aload_n rfl rfl rfl rfl ?_
            refine X_getR (a := 356) rfl rfl rfl ((congrFun F.1 355).trans s_355) rfl ((congrFun (F.2.1 355 (by decide)) 0).trans r_355_0) ?_
            refine X_iconst (v := (1 : Int32)) rfl rfl rfl ?_
            refine X_iald (v := (0 : Int32)) rfl rfl ((congrFun F.1 356).trans s_356) (vp_in_d rfl) ((congrFun (F.2.2 356 (by decide)).1 1).trans i_356_1) ?_
            refine X_bipush (v := (8 : Int32)) rfl rfl rfl ?_
            refine X_icmp_ne (tgt := 13) rfl rfl rfl (fun _ => ?_) (fun q => absurd q (by decide))
            refine X_sipush (v := (356 : Int32)) rfl rfl rfl ?_
            refine X_bipush (v := (9 : Int32)) rfl rfl rfl ?_
            refine X_aload_n rfl rfl rfl rfl ?_
            refine X_getR (a := 356) rfl rfl rfl ((congrFun F.1 355).trans s_355) rfl ((congrFun (F.2.1 355 (by decide)) 0).trans r_355_0) ?_
            refine X_iconst (v := (1 : Int32)) rfl rfl rfl ?_
            refine X_iald (v := (0 : Int32)) rfl rfl ((congrFun F.1 356).trans s_356) (vp_in_d rfl) ((congrFun (F.2.2 356 (by decide)).1 1).trans i_356_1) ?_
            refine X_imul (v := (0 : Int32)) rfl rfl rfl ?_
            refine X_iadd (v := (356 : Int32)) rfl rfl rfl ?_
            refine X_istore_n (i := 1) (ls' := [some (.ref 355), some (.int (356 : Int32)), none]) rfl rfl rfl (Nat.le_of_ble_eq_true rfl) rfl ?_
            refine X_aload_n rfl rfl rfl rfl ?_
            refine X_getR (a := 356) rfl rfl rfl ((congrFun F.1 355).trans s_355) rfl ((congrFun (F.2.1 355 (by decide)) 0).trans r_355_0) ?_
            refine X_iload_n rfl rfl rfl rfl ?_
            refine X_aload_n rfl rfl rfl rfl ?_
            refine X_getI (v := (2 : Int32)) rfl rfl rfl ((congrFun F.1 355).trans s_355) rfl rfl ?_
            refine X_iast (k0 := 356) rfl rfl ((congrFun F.1 356).trans s_356) (vp_in_d rfl) rfl ?_
            refine X_iconst (v := (0 : Int32)) rfl rfl rfl ?_
            refine X_istore_n (i := 2) (ls' := [some (.ref 355), some (.int (356 : Int32)), some (.int (0 : Int32))]) rfl rfl rfl (Nat.le_of_ble_eq_true rfl) rfl ?_
            refine X_iload_n rfl rfl rfl rfl ?_
            refine X_aload_n rfl rfl rfl rfl ?_
            refine X_getI (v := (2 : Int32)) rfl rfl rfl ((congrFun F.1 355).trans s_355) rfl rfl ?_
            refine X_icmp_ge (tgt := 69) rfl rfl rfl (fun q => absurd q (by decide)) (fun _ => ?_)
            refine X_aload_n rfl rfl rfl rfl ?_
            refine X_getR (a := 356) rfl rfl rfl ((congrFun F.1 355).trans s_355) rfl ((congrFun (F.2.1 355 (by decide)) 0).trans r_355_0) ?_
            refine X_iload_n rfl rfl rfl rfl ?_
            refine X_iconst (v := (1 : Int32)) rfl rfl rfl ?_
            refine X_iadd (v := (357 : Int32)) rfl rfl rfl ?_
            refine X_iload_n rfl rfl rfl rfl ?_
            refine X_iadd (v := (357 : Int32)) rfl rfl rfl ?_
            refine X_aload_n rfl rfl rfl rfl ?_
            refine X_getR (a := 360) rfl rfl rfl ((congrFun F.1 355).trans s_355) rfl ((congrFun (F.2.1 355 (by decide)) 5).trans r_355_5) ?_
            refine X_iload_n rfl rfl rfl rfl ?_
            refine X_iald (v := (nI ((n / 10) % 10))) rfl rfl ((congrFun F.1 360).trans s_360) (vp_in_d rfl) rfl ?_
            refine X_iast (k0 := 357) rfl rfl ((congrFun F.1 356).trans s_356) (vp_in_d rfl) rfl ?_
            refine X_iinc (v := (1 : Int32)) (ls' := [some (.ref 355), some (.int (356 : Int32)), some (.int (1 : Int32))]) rfl rfl rfl rfl rfl ?_
            refine LW_goto (tgt := 39) rfl rfl ?_
            refine X_iload_n rfl rfl rfl rfl ?_
            refine X_aload_n rfl rfl rfl rfl ?_
            refine X_getI (v := (2 : Int32)) rfl rfl rfl ((congrFun F.1 355).trans s_355) rfl rfl ?_
            refine X_icmp_ge (tgt := 69) rfl rfl rfl (fun q => absurd q (by decide)) (fun _ => ?_)
            refine X_aload_n rfl rfl rfl rfl ?_
            refine X_getR (a := 356) rfl rfl rfl ((congrFun F.1 355).trans s_355) rfl ((congrFun (F.2.1 355 (by decide)) 0).trans r_355_0) ?_
            refine X_iload_n rfl rfl rfl rfl ?_
            refine X_iconst (v := (1 : Int32)) rfl rfl rfl ?_
            refine X_iadd (v := (357 : Int32)) rfl rfl rfl ?_
            refine X_iload_n rfl rfl rfl rfl ?_
            refine X_iadd (v := (358 : Int32)) rfl rfl rfl ?_
            refine X_aload_n rfl rfl rfl rfl ?_
            refine X_getR (a := 360) rfl rfl rfl ((congrFun F.1 355).trans s_355) rfl ((congrFun (F.2.1 355 (by decide)) 5).trans r_355_5) ?_
            refine X_iload_n rfl rfl rfl rfl ?_
            refine X_iald (v := (nI (n % 10))) rfl rfl ((congrFun F.1 360).trans s_360) (vp_in_d rfl) rfl ?_
            refine X_iast (k0 := 358) rfl rfl ((congrFun F.1 356).trans s_356) (vp_in_d rfl) rfl ?_
            refine X_iinc (v := (2 : Int32)) (ls' := [some (.ref 355), some (.int (356 : Int32)), some (.int (2 : Int32))]) rfl rfl rfl rfl rfl ?_
            refine LW_goto (tgt := 39) rfl rfl ?_
            refine X_iload_n rfl rfl rfl rfl ?_
            refine X_aload_n rfl rfl rfl rfl ?_
            refine X_getI (v := (2 : Int32)) rfl rfl rfl ((congrFun F.1 355).trans s_355) rfl rfl ?_
            refine X_icmp_ge (tgt := 69) rfl rfl rfl (fun _ => ?_) (fun q => absurd q (by decide))
            refine X_aload_n rfl rfl rfl rfl ?_
            refine X_getR (a := 356) rfl rfl rfl ((congrFun F.1 355).trans s_355) rfl ((congrFun (F.2.1 355 (by decide)) 0).trans r_355_0) ?_
            refine X_iconst (v := (1 : Int32)) rfl rfl rfl ?_
            refine X_dup2 rfl rfl rfl rfl ?_
            refine X_iald (v := (0 : Int32)) rfl rfl ((congrFun F.1 356).trans s_356) (vp_in_d rfl) ((congrFun (F.2.2 356 (by decide)).1 1).trans i_356_1) ?_
            refine X_iconst (v := (1 : Int32)) rfl rfl rfl ?_
            refine X_iadd (v := (1 : Int32)) rfl rfl rfl ?_
            refine X_iast (k0 := 1) rfl rfl ((congrFun F.1 356).trans s_356) (vp_in_d rfl) rfl ?_
            refine X_aload_n rfl rfl rfl rfl ?_
            refine X_getR (a := 356) rfl rfl rfl ((congrFun F.1 355).trans s_355) rfl ((congrFun (F.2.1 355 (by decide)) 0).trans r_355_0) ?_
            refine X_iconst (v := (1 : Int32)) rfl rfl rfl ?_
            refine X_iald (v := (1 : Int32)) rfl rfl ((congrFun F.1 356).trans s_356) (vp_in_d rfl) rfl ?_
            refine X_iconst (v := (1 : Int32)) rfl rfl rfl ?_
            refine X_isub (v := (0 : Int32)) rfl rfl rfl ?_
            refine LW_ireturn (st := []) rfl rfl rfl ?_
            refine LW_ireturn (st := []) rfl rfl rfl (congrArg (fun z => some (Value.int z)) ?_)
            simp only [Int32.lt_iff_toInt_lt, Int32.le_iff_toInt_le, ← Int32.toInt_inj, (show (1 : Int32).toInt = 1 from rfl), (show (9 : Int32).toInt = 9 from rfl), (show (10 : Int32).toInt = 10 from rfl), (show (199999999 : Int32).toInt = 199999999 from rfl), (nI_toInt (n := n) (by omega)), (nI_toInt (n := n / 10) (by omega)), (nI_toInt (n := n / 100) (by omega))] at h1 h2 h3 h5 h6
            unfold f_sayN
            rw [if_pos (by omega)]
          · refine X_iconst (v := (-1 : Int32)) rfl rfl rfl ?_
            refine LW_ireturn (st := []) rfl rfl rfl (congrArg (fun z => some (Value.int z)) ?_)
            simp only [Int32.lt_iff_toInt_lt, Int32.le_iff_toInt_le, ← Int32.toInt_inj, (show (1 : Int32).toInt = 1 from rfl), (show (9 : Int32).toInt = 9 from rfl), (show (10 : Int32).toInt = 10 from rfl), (show (199999999 : Int32).toInt = 199999999 from rfl), (nI_toInt (n := n) (by omega)), (nI_toInt (n := n / 10) (by omega)), (nI_toInt (n := n / 100) (by omega))] at h1 h2 h3 h5 h6
            unfold f_sayN
            rw [if_neg (by omega)]
        · refine X_iload_n rfl rfl rfl rfl ?_
          refine X_bipush (v := (10 : Int32)) rfl rfl rfl ?_
          refine X_imul (v := (1000 : Int32)) rfl rfl rfl ?_
          refine X_istore_n (i := 2) (ls' := [some (.ref 355), some (.int (nI (n))), some (.int (1000 : Int32)), none, none]) rfl rfl rfl (Nat.le_of_ble_eq_true rfl) rfl ?_
          refine X_aload_n rfl rfl rfl rfl ?_
          refine X_dup rfl rfl rfl ?_
          refine X_getI (v := (2 : Int32)) rfl rfl rfl ((congrFun F.1 355).trans s_355) rfl rfl ?_
          refine X_iconst (v := (1 : Int32)) rfl rfl rfl ?_
          refine X_iadd (v := (3 : Int32)) rfl rfl rfl ?_
          refine X_putI rfl rfl rfl ((congrFun F.1 355).trans s_355) rfl rfl rfl rfl ?_
          refine LW_goto (tgt := 21) rfl rfl ?_
          refine X_iload_n rfl rfl rfl rfl ?_
          refine X_iload_n rfl rfl rfl rfl ?_
          refine X_idiv (v := (nI (n / 1000))) rfl rfl (by decide) (nI_idiv (d := 1000) (by omega) (by decide)) ?_
          refine X_bipush (v := (9 : Int32)) rfl rfl rfl ?_
          refine X_icmp_le (tgt := 47) rfl rfl rfl (fun h7 => ?_) (fun h7 => ?_)
          · refine X_iload_n rfl rfl rfl rfl ?_
            refine X_iload_n rfl rfl rfl rfl ?_
            refine X_idiv (v := (nI (n / 1000))) rfl rfl (by decide) (nI_idiv (d := 1000) (by omega) (by decide)) ?_
            refine X_iconst (v := (1 : Int32)) rfl rfl rfl ?_
            refine X_icmp_eq (tgt := 56) rfl rfl rfl (fun h8 => ?_) (fun h8 => ?_)
            · refine X_iload_n rfl rfl rfl rfl ?_
              refine X_istore_n (i := 3) (ls' := [some (.ref 355), some (.int (nI (n))), some (.int (1000 : Int32)), some (.int (nI (n))), none]) rfl rfl rfl (Nat.le_of_ble_eq_true rfl) rfl ?_
              refine X_aload_n rfl rfl rfl rfl ?_
              refine X_getI (v := (3 : Int32)) rfl rfl rfl ((congrFun F.1 355).trans s_355) rfl rfl ?_
              refine X_iconst (v := (1 : Int32)) rfl rfl rfl ?_
              refine X_isub (v := (2 : Int32)) rfl rfl rfl ?_
              refine X_istore (i := 4) (ls' := [some (.ref 355), some (.int (nI (n))), some (.int (1000 : Int32)), some (.int (nI (n))), some (.int (2 : Int32))]) rfl rfl (Nat.le_of_ble_eq_true rfl) rfl ?_
              refine X_iload rfl rfl rfl ?_
              refine X_if_lt (tgt := 93) rfl rfl rfl (fun q => absurd q (by decide)) (fun _ => ?_)
              refine X_aload_n rfl rfl rfl rfl ?_
              refine X_getR (a := 360) rfl rfl rfl ((congrFun F.1 355).trans s_355) rfl ((congrFun (F.2.1 355 (by decide)) 5).trans r_355_5) ?_
              refine X_iload rfl rfl rfl ?_
              refine X_iload_n rfl rfl rfl rfl ?_
              refine X_bipush (v := (10 : Int32)) rfl rfl rfl ?_
              refine X_irem (v := (nI (n % 10))) rfl rfl (by decide) (nI_irem (d := 10) (by omega) (by decide)) ?_
              refine X_iast (k0 := 2) rfl rfl ((congrFun F.1 360).trans s_360) (vp_in_d rfl) rfl ?_
              refine X_iload_n rfl rfl rfl rfl ?_
              refine X_bipush (v := (10 : Int32)) rfl rfl rfl ?_
              refine X_idiv (v := (nI (n / 10))) rfl rfl (by decide) (nI_idiv (d := 10) (by omega) (by decide)) ?_
              refine X_istore_n (i := 3) (ls' := [some (.ref 355), some (.int (nI (n))), some (.int (1000 : Int32)), some (.int (nI (n / 10))), some (.int (2 : Int32))]) rfl rfl rfl (Nat.le_of_ble_eq_true rfl) rfl ?_
              refine X_iinc (v := (1 : Int32)) (ls' := [some (.ref 355), some (.int (nI (n))), some (.int (1000 : Int32)), some (.int (nI (n / 10))), some (.int (1 : Int32))]) rfl rfl rfl rfl rfl ?_
              refine LW_goto (tgt := 66) rfl rfl ?_
              refine X_iload rfl rfl rfl ?_
              refine X_if_lt (tgt := 93) rfl rfl rfl (fun q => absurd q (by decide)) (fun _ => ?_)
              refine X_aload_n rfl rfl rfl rfl ?_
              refine X_getR (a := 360) rfl rfl rfl ((congrFun F.1 355).trans s_355) rfl ((congrFun (F.2.1 355 (by decide)) 5).trans r_355_5) ?_
              refine X_iload rfl rfl rfl ?_
              refine X_iload_n rfl rfl rfl rfl ?_
              refine X_bipush (v := (10 : Int32)) rfl rfl rfl ?_
              refine X_irem (v := (nI ((n / 10) % 10))) rfl rfl (by decide) (nI_irem (d := 10) (by omega) (by decide)) ?_
              refine X_iast (k0 := 1) rfl rfl ((congrFun F.1 360).trans s_360) (vp_in_d rfl) rfl ?_
              refine X_iload_n rfl rfl rfl rfl ?_
              refine X_bipush (v := (10 : Int32)) rfl rfl rfl ?_
              refine X_idiv (v := (nI ((n / 10) / 10))) rfl rfl (by decide) (nI_idiv (d := 10) (by omega) (by decide)) ?_
              refine X_istore_n (i := 3) (ls' := [some (.ref 355), some (.int (nI (n))), some (.int (1000 : Int32)), some (.int (nI ((n / 10) / 10))), some (.int (1 : Int32))]) rfl rfl rfl (Nat.le_of_ble_eq_true rfl) rfl ?_
              refine X_iinc (v := (0 : Int32)) (ls' := [some (.ref 355), some (.int (nI (n))), some (.int (1000 : Int32)), some (.int (nI ((n / 10) / 10))), some (.int (0 : Int32))]) rfl rfl rfl rfl rfl ?_
              refine LW_goto (tgt := 66) rfl rfl ?_
              refine X_iload rfl rfl rfl ?_
              refine X_if_lt (tgt := 93) rfl rfl rfl (fun q => absurd q (by decide)) (fun _ => ?_)
              refine X_aload_n rfl rfl rfl rfl ?_
              refine X_getR (a := 360) rfl rfl rfl ((congrFun F.1 355).trans s_355) rfl ((congrFun (F.2.1 355 (by decide)) 5).trans r_355_5) ?_
              refine X_iload rfl rfl rfl ?_
              refine X_iload_n rfl rfl rfl rfl ?_
              refine X_bipush (v := (10 : Int32)) rfl rfl rfl ?_
              refine X_irem (v := (nI (((n / 10) / 10) % 10))) rfl rfl (by decide) (nI_irem (d := 10) (by omega) (by decide)) ?_
              refine X_iast (k0 := 0) rfl rfl ((congrFun F.1 360).trans s_360) (vp_in_d rfl) rfl ?_
              refine X_iload_n rfl rfl rfl rfl ?_
              refine X_bipush (v := (10 : Int32)) rfl rfl rfl ?_
              refine X_idiv (v := (nI (((n / 10) / 10) / 10))) rfl rfl (by decide) (nI_idiv (d := 10) (by omega) (by decide)) ?_
              refine X_istore_n (i := 3) (ls' := [some (.ref 355), some (.int (nI (n))), some (.int (1000 : Int32)), some (.int (nI (((n / 10) / 10) / 10))), some (.int (0 : Int32))]) rfl rfl rfl (Nat.le_of_ble_eq_true rfl) rfl ?_
              refine X_iinc (v := (-1 : Int32)) (ls' := [some (.ref 355), some (.int (nI (n))), some (.int (1000 : Int32)), some (.int (nI (((n / 10) / 10) / 10))), some (.int (-1 : Int32))]) rfl rfl rfl rfl rfl ?_
              refine LW_goto (tgt := 66) rfl rfl ?_
              refine X_iload rfl rfl rfl ?_
              refine X_if_lt (tgt := 93) rfl rfl rfl (fun _ => ?_) (fun q => absurd q (by decide))
              refine X_aload_n rfl rfl rfl rfl ?_
              refine X_callV (as := []) (st := []) rfl rfl rfl (by decide) rfl (Nat.le_of_ble_eq_true rfl) (by decide) (Nat.le_of_ble_eq_true rfl) rfl ((congrFun F.1 355).trans s_355) (by decide) ?_
              refine LW_ls (ls' := [some (.ref 355), none, none]) rfl ?_
              refine X_aload_n rfl rfl rfl rfl ?_
              refine X_getR (a := 356) rfl rfl rfl ((congrFun F.1 355).trans s_355) rfl ((congrFun (F.2.1 355 (by decide)) 0).trans r_355_0) ?_
              refine X_iconst (v := (1 : Int32)) rfl rfl rfl ?_
              refine X_iald (v := (0 : Int32)) rfl rfl ((congrFun F.1 356).trans s_356) (vp_in_d rfl) ((congrFun (F.2.2 356 (by decide)).1 1).trans i_356_1) ?_
              refine X_bipush (v := (8 : Int32)) rfl rfl rfl ?_
              refine X_icmp_ne (tgt := 13) rfl rfl rfl (fun _ => ?_) (fun q => absurd q (by decide))
              refine X_sipush (v := (356 : Int32)) rfl rfl rfl ?_
              refine X_bipush (v := (9 : Int32)) rfl rfl rfl ?_
              refine X_aload_n rfl rfl rfl rfl ?_
              refine X_getR (a := 356) rfl rfl rfl ((congrFun F.1 355).trans s_355) rfl ((congrFun (F.2.1 355 (by decide)) 0).trans r_355_0) ?_
              refine X_iconst (v := (1 : Int32)) rfl rfl rfl ?_
              refine X_iald (v := (0 : Int32)) rfl rfl ((congrFun F.1 356).trans s_356) (vp_in_d rfl) ((congrFun (F.2.2 356 (by decide)).1 1).trans i_356_1) ?_
              refine X_imul (v := (0 : Int32)) rfl rfl rfl ?_
              refine X_iadd (v := (356 : Int32)) rfl rfl rfl ?_
              refine X_istore_n (i := 1) (ls' := [some (.ref 355), some (.int (356 : Int32)), none]) rfl rfl rfl (Nat.le_of_ble_eq_true rfl) rfl ?_
              refine X_aload_n rfl rfl rfl rfl ?_
              refine X_getR (a := 356) rfl rfl rfl ((congrFun F.1 355).trans s_355) rfl ((congrFun (F.2.1 355 (by decide)) 0).trans r_355_0) ?_
              refine X_iload_n rfl rfl rfl rfl ?_
              refine X_aload_n rfl rfl rfl rfl ?_
              refine X_getI (v := (3 : Int32)) rfl rfl rfl ((congrFun F.1 355).trans s_355) rfl rfl ?_
              refine X_iast (k0 := 356) rfl rfl ((congrFun F.1 356).trans s_356) (vp_in_d rfl) rfl ?_
              refine X_iconst (v := (0 : Int32)) rfl rfl rfl ?_
              refine X_istore_n (i := 2) (ls' := [some (.ref 355), some (.int (356 : Int32)), some (.int (0 : Int32))]) rfl rfl rfl (Nat.le_of_ble_eq_true rfl) rfl ?_
              refine X_iload_n rfl rfl rfl rfl ?_
              refine X_aload_n rfl rfl rfl rfl ?_
              refine X_getI (v := (3 : Int32)) rfl rfl rfl ((congrFun F.1 355).trans s_355) rfl rfl ?_
              refine X_icmp_ge (tgt := 69) rfl rfl rfl (fun q => absurd q (by decide)) (fun _ => ?_)
              refine X_aload_n rfl rfl rfl rfl ?_
              refine X_getR (a := 356) rfl rfl rfl ((congrFun F.1 355).trans s_355) rfl ((congrFun (F.2.1 355 (by decide)) 0).trans r_355_0) ?_
              refine X_iload_n rfl rfl rfl rfl ?_
              refine X_iconst (v := (1 : Int32)) rfl rfl rfl ?_
              refine X_iadd (v := (357 : Int32)) rfl rfl rfl ?_
              refine X_iload_n rfl rfl rfl rfl ?_
              refine X_iadd (v := (357 : Int32)) rfl rfl rfl ?_
              refine X_aload_n rfl rfl rfl rfl ?_
              refine X_getR (a := 360) rfl rfl rfl ((congrFun F.1 355).trans s_355) rfl ((congrFun (F.2.1 355 (by decide)) 5).trans r_355_5) ?_
              refine X_iload_n rfl rfl rfl rfl ?_
              refine X_iald (v := (nI (((n / 10) / 10) % 10))) rfl rfl ((congrFun F.1 360).trans s_360) (vp_in_d rfl) rfl ?_
              refine X_iast (k0 := 357) rfl rfl ((congrFun F.1 356).trans s_356) (vp_in_d rfl) rfl ?_
              refine X_iinc (v := (1 : Int32)) (ls' := [some (.ref 355), some (.int (356 : Int32)), some (.int (1 : Int32))]) rfl rfl rfl rfl rfl ?_
              refine LW_goto (tgt := 39) rfl rfl ?_
              refine X_iload_n rfl rfl rfl rfl ?_
              refine X_aload_n rfl rfl rfl rfl ?_
              refine X_getI (v := (3 : Int32)) rfl rfl rfl ((congrFun F.1 355).trans s_355) rfl rfl ?_
              refine X_icmp_ge (tgt := 69) rfl rfl rfl (fun q => absurd q (by decide)) (fun _ => ?_)
              refine X_aload_n rfl rfl rfl rfl ?_
              refine X_getR (a := 356) rfl rfl rfl ((congrFun F.1 355).trans s_355) rfl ((congrFun (F.2.1 355 (by decide)) 0).trans r_355_0) ?_
              refine X_iload_n rfl rfl rfl rfl ?_
              refine X_iconst (v := (1 : Int32)) rfl rfl rfl ?_
              refine X_iadd (v := (357 : Int32)) rfl rfl rfl ?_
              refine X_iload_n rfl rfl rfl rfl ?_
              refine X_iadd (v := (358 : Int32)) rfl rfl rfl ?_
              refine X_aload_n rfl rfl rfl rfl ?_
              refine X_getR (a := 360) rfl rfl rfl ((congrFun F.1 355).trans s_355) rfl ((congrFun (F.2.1 355 (by decide)) 5).trans r_355_5) ?_
              refine X_iload_n rfl rfl rfl rfl ?_
              refine X_iald (v := (nI ((n / 10) % 10))) rfl rfl ((congrFun F.1 360).trans s_360) (vp_in_d rfl) rfl ?_
              refine X_iast (k0 := 358) rfl rfl ((congrFun F.1 356).trans s_356) (vp_in_d rfl) rfl ?_
              refine X_iinc (v := (2 : Int32)) (ls' := [some (.ref 355), some (.int (356 : Int32)), some (.int (2 : Int32))]) rfl rfl rfl rfl rfl ?_
              refine LW_goto (tgt := 39) rfl rfl ?_
              refine X_iload_n rfl rfl rfl rfl ?_
              refine X_aload_n rfl rfl rfl rfl ?_
              refine X_getI (v := (3 : Int32)) rfl rfl rfl ((congrFun F.1 355).trans s_355) rfl rfl ?_
              refine X_icmp_ge (tgt := 69) rfl rfl rfl (fun q => absurd q (by decide)) (fun _ => ?_)
              refine X_aload_n rfl rfl rfl rfl ?_
              refine X_getR (a := 356) rfl rfl rfl ((congrFun F.1 355).trans s_355) rfl ((congrFun (F.2.1 355 (by decide)) 0).trans r_355_0) ?_
              refine X_iload_n rfl rfl rfl rfl ?_
              refine X_iconst (v := (1 : Int32)) rfl rfl rfl ?_
              refine X_iadd (v := (357 : Int32)) rfl rfl rfl ?_
              refine X_iload_n rfl rfl rfl rfl ?_
              refine X_iadd (v := (359 : Int32)) rfl rfl rfl ?_
              refine X_aload_n rfl rfl rfl rfl ?_
              refine X_getR (a := 360) rfl rfl rfl ((congrFun F.1 355).trans s_355) rfl ((congrFun (F.2.1 355 (by decide)) 5).trans r_355_5) ?_
              refine X_iload_n rfl rfl rfl rfl ?_
              refine X_iald (v := (nI (n % 10))) rfl rfl ((congrFun F.1 360).trans s_360) (vp_in_d rfl) rfl ?_
              refine X_iast (k0 := 359) rfl rfl ((congrFun F.1 356).trans s_356) (vp_in_d rfl) rfl ?_
              refine X_iinc (v := (3 : Int32)) (ls' := [some (.ref 355), some (.int (356 : Int32)), some (.int (3 : Int32))]) rfl rfl rfl rfl rfl ?_
              refine LW_goto (tgt := 39) rfl rfl ?_
              refine X_iload_n rfl rfl rfl rfl ?_
              refine X_aload_n rfl rfl rfl rfl ?_
              refine X_getI (v := (3 : Int32)) rfl rfl rfl ((congrFun F.1 355).trans s_355) rfl rfl ?_
              refine X_icmp_ge (tgt := 69) rfl rfl rfl (fun _ => ?_) (fun q => absurd q (by decide))
              refine X_aload_n rfl rfl rfl rfl ?_
              refine X_getR (a := 356) rfl rfl rfl ((congrFun F.1 355).trans s_355) rfl ((congrFun (F.2.1 355 (by decide)) 0).trans r_355_0) ?_
              refine X_iconst (v := (1 : Int32)) rfl rfl rfl ?_
              refine X_dup2 rfl rfl rfl rfl ?_
              refine X_iald (v := (0 : Int32)) rfl rfl ((congrFun F.1 356).trans s_356) (vp_in_d rfl) ((congrFun (F.2.2 356 (by decide)).1 1).trans i_356_1) ?_
              refine X_iconst (v := (1 : Int32)) rfl rfl rfl ?_
              refine X_iadd (v := (1 : Int32)) rfl rfl rfl ?_
              refine X_iast (k0 := 1) rfl rfl ((congrFun F.1 356).trans s_356) (vp_in_d rfl) rfl ?_
              refine X_aload_n rfl rfl rfl rfl ?_
              refine X_getR (a := 356) rfl rfl rfl ((congrFun F.1 355).trans s_355) rfl ((congrFun (F.2.1 355 (by decide)) 0).trans r_355_0) ?_
              refine X_iconst (v := (1 : Int32)) rfl rfl rfl ?_
              refine X_iald (v := (1 : Int32)) rfl rfl ((congrFun F.1 356).trans s_356) (vp_in_d rfl) rfl ?_
              refine X_iconst (v := (1 : Int32)) rfl rfl rfl ?_
              refine X_isub (v := (0 : Int32)) rfl rfl rfl ?_
              refine LW_ireturn (st := []) rfl rfl rfl ?_
              refine LW_ireturn (st := []) rfl rfl rfl (congrArg (fun z => some (Value.int z)) ?_)
              simp only [Int32.lt_iff_toInt_lt, Int32.le_iff_toInt_le, ← Int32.toInt_inj, (show (1 : Int32).toInt = 1 from rfl), (show (9 : Int32).toInt = 9 from rfl), (show (10 : Int32).toInt = 10 from rfl), (show (199999999 : Int32).toInt = 199999999 from rfl), (nI_toInt (n := n) (by omega)), (nI_toInt (n := n / 10) (by omega)), (nI_toInt (n := n / 100) (by omega)), (nI_toInt (n := n / 1000) (by omega))] at h1 h2 h3 h5 h7 h8
              unfold f_sayN
              rw [if_pos (by omega)]
            · refine X_iconst (v := (-1 : Int32)) rfl rfl rfl ?_
              refine LW_ireturn (st := []) rfl rfl rfl (congrArg (fun z => some (Value.int z)) ?_)
              simp only [Int32.lt_iff_toInt_lt, Int32.le_iff_toInt_le, ← Int32.toInt_inj, (show (1 : Int32).toInt = 1 from rfl), (show (9 : Int32).toInt = 9 from rfl), (show (10 : Int32).toInt = 10 from rfl), (show (199999999 : Int32).toInt = 199999999 from rfl), (nI_toInt (n := n) (by omega)), (nI_toInt (n := n / 10) (by omega)), (nI_toInt (n := n / 100) (by omega)), (nI_toInt (n := n / 1000) (by omega))] at h1 h2 h3 h5 h7 h8
              unfold f_sayN
              rw [if_neg (by omega)]
          · refine X_iload_n rfl rfl rfl rfl ?_
            refine X_bipush (v := (10 : Int32)) rfl rfl rfl ?_
            refine X_imul (v := (10000 : Int32)) rfl rfl rfl ?_
            refine X_istore_n (i := 2) (ls' := [some (.ref 355), some (.int (nI (n))), some (.int (10000 : Int32)), none, none]) rfl rfl rfl (Nat.le_of_ble_eq_true rfl) rfl ?_
            refine X_aload_n rfl rfl rfl rfl ?_
            refine X_dup rfl rfl rfl ?_
            refine X_getI (v := (3 : Int32)) rfl rfl rfl ((congrFun F.1 355).trans s_355) rfl rfl ?_
            refine X_iconst (v := (1 : Int32)) rfl rfl rfl ?_
            refine X_iadd (v := (4 : Int32)) rfl rfl rfl ?_
            refine X_putI rfl rfl rfl ((congrFun F.1 355).trans s_355) rfl rfl rfl rfl ?_
            refine LW_goto (tgt := 21) rfl rfl ?_
            refine X_iload_n rfl rfl rfl rfl ?_
            refine X_iload_n rfl rfl rfl rfl ?_
            refine X_idiv (v := (nI (n / 10000))) rfl rfl (by decide) (nI_idiv (d := 10000) (by omega) (by decide)) ?_
            refine X_bipush (v := (9 : Int32)) rfl rfl rfl ?_
            refine X_icmp_le (tgt := 47) rfl rfl rfl (fun h9 => ?_) (fun h9 => ?_)
            · refine X_iload_n rfl rfl rfl rfl ?_
              refine X_iload_n rfl rfl rfl rfl ?_
              refine X_idiv (v := (nI (n / 10000))) rfl rfl (by decide) (nI_idiv (d := 10000) (by omega) (by decide)) ?_
              refine X_iconst (v := (1 : Int32)) rfl rfl rfl ?_
              refine X_icmp_eq (tgt := 56) rfl rfl rfl (fun h10 => ?_) (fun h10 => ?_)
              · refine X_iload_n rfl rfl rfl rfl ?_
                refine X_istore_n (i := 3) (ls' := [some (.ref 355), some (.int (nI (n))), some (.int (10000 : Int32)), some (.int (nI (n))), none]) rfl rfl rfl (Nat.le_of_ble_eq_true rfl) rfl ?_
                refine X_aload_n rfl rfl rfl rfl ?_
                refine X_getI (v := (4 : Int32)) rfl rfl rfl ((congrFun F.1 355).trans s_355) rfl rfl ?_
                refine X_iconst (v := (1 : Int32)) rfl rfl rfl ?_
                refine X_isub (v := (3 : Int32)) rfl rfl rfl ?_
                refine X_istore (i := 4) (ls' := [some (.ref 355), some (.int (nI (n))), some (.int (10000 : Int32)), some (.int (nI (n))), some (.int (3 : Int32))]) rfl rfl (Nat.le_of_ble_eq_true rfl) rfl ?_
                refine X_iload rfl rfl rfl ?_
                refine X_if_lt (tgt := 93) rfl rfl rfl (fun q => absurd q (by decide)) (fun _ => ?_)
                refine X_aload_n rfl rfl rfl rfl ?_
                refine X_getR (a := 360) rfl rfl rfl ((congrFun F.1 355).trans s_355) rfl ((congrFun (F.2.1 355 (by decide)) 5).trans r_355_5) ?_
                refine X_iload rfl rfl rfl ?_
                refine X_iload_n rfl rfl rfl rfl ?_
                refine X_bipush (v := (10 : Int32)) rfl rfl rfl ?_
                refine X_irem (v := (nI (n % 10))) rfl rfl (by decide) (nI_irem (d := 10) (by omega) (by decide)) ?_
                refine X_iast (k0 := 3) rfl rfl ((congrFun F.1 360).trans s_360) (vp_in_d rfl) rfl ?_
                refine X_iload_n rfl rfl rfl rfl ?_
                refine X_bipush (v := (10 : Int32)) rfl rfl rfl ?_
                refine X_idiv (v := (nI (n / 10))) rfl rfl (by decide) (nI_idiv (d := 10) (by omega) (by decide)) ?_
                refine X_istore_n (i := 3) (ls' := [some (.ref 355), some (.int (nI (n))), some (.int (10000 : Int32)), some (.int (nI (n / 10))), some (.int (3 : Int32))]) rfl rfl rfl (Nat.le_of_ble_eq_true rfl) rfl ?_
                refine X_iinc (v := (2 : Int32)) (ls' := [some (.ref 355), some (.int (nI (n))), some (.int (10000 : Int32)), some (.int (nI (n / 10))), some (.int (2 : Int32))]) rfl rfl rfl rfl rfl ?_
                refine LW_goto (tgt := 66) rfl rfl ?_
                refine X_iload rfl rfl rfl ?_
                refine X_if_lt (tgt := 93) rfl rfl rfl (fun q => absurd q (by decide)) (fun _ => ?_)
                refine X_aload_n rfl rfl rfl rfl ?_
                refine X_getR (a := 360) rfl rfl rfl ((congrFun F.1 355).trans s_355) rfl ((congrFun (F.2.1 355 (by decide)) 5).trans r_355_5) ?_
                refine X_iload rfl rfl rfl ?_
                refine X_iload_n rfl rfl rfl rfl ?_
                refine X_bipush (v := (10 : Int32)) rfl rfl rfl ?_
                refine X_irem (v := (nI ((n / 10) % 10))) rfl rfl (by decide) (nI_irem (d := 10) (by omega) (by decide)) ?_
                refine X_iast (k0 := 2) rfl rfl ((congrFun F.1 360).trans s_360) (vp_in_d rfl) rfl ?_
                refine X_iload_n rfl rfl rfl rfl ?_
                refine X_bipush (v := (10 : Int32)) rfl rfl rfl ?_
                refine X_idiv (v := (nI ((n / 10) / 10))) rfl rfl (by decide) (nI_idiv (d := 10) (by omega) (by decide)) ?_
                refine X_istore_n (i := 3) (ls' := [some (.ref 355), some (.int (nI (n))), some (.int (10000 : Int32)), some (.int (nI ((n / 10) / 10))), some (.int (2 : Int32))]) rfl rfl rfl (Nat.le_of_ble_eq_true rfl) rfl ?_
                refine X_iinc (v := (1 : Int32)) (ls' := [some (.ref 355), some (.int (nI (n))), some (.int (10000 : Int32)), some (.int (nI ((n / 10) / 10))), some (.int (1 : Int32))]) rfl rfl rfl rfl rfl ?_
                refine LW_goto (tgt := 66) rfl rfl ?_
                refine X_iload rfl rfl rfl ?_
                refine X_if_lt (tgt := 93) rfl rfl rfl (fun q => absurd q (by decide)) (fun _ => ?_)
                refine X_aload_n rfl rfl rfl rfl ?_
                refine X_getR (a := 360) rfl rfl rfl ((congrFun F.1 355).trans s_355) rfl ((congrFun (F.2.1 355 (by decide)) 5).trans r_355_5) ?_
                refine X_iload rfl rfl rfl ?_
                refine X_iload_n rfl rfl rfl rfl ?_
                refine X_bipush (v := (10 : Int32)) rfl rfl rfl ?_
                refine X_irem (v := (nI (((n / 10) / 10) % 10))) rfl rfl (by decide) (nI_irem (d := 10) (by omega) (by decide)) ?_
                refine X_iast (k0 := 1) rfl rfl ((congrFun F.1 360).trans s_360) (vp_in_d rfl) rfl ?_
                refine X_iload_n rfl rfl rfl rfl ?_
                refine X_bipush (v := (10 : Int32)) rfl rfl rfl ?_
                refine X_idiv (v := (nI (((n / 10) / 10) / 10))) rfl rfl (by decide) (nI_idiv (d := 10) (by omega) (by decide)) ?_
                refine X_istore_n (i := 3) (ls' := [some (.ref 355), some (.int (nI (n))), some (.int (10000 : Int32)), some (.int (nI (((n / 10) / 10) / 10))), some (.int (1 : Int32))]) rfl rfl rfl (Nat.le_of_ble_eq_true rfl) rfl ?_
                refine X_iinc (v := (0 : Int32)) (ls' := [some (.ref 355), some (.int (nI (n))), some (.int (10000 : Int32)), some (.int (nI (((n / 10) / 10) / 10))), some (.int (0 : Int32))]) rfl rfl rfl rfl rfl ?_
                refine LW_goto (tgt := 66) rfl rfl ?_
                refine X_iload rfl rfl rfl ?_
                refine X_if_lt (tgt := 93) rfl rfl rfl (fun q => absurd q (by decide)) (fun _ => ?_)
                refine X_aload_n rfl rfl rfl rfl ?_
                refine X_getR (a := 360) rfl rfl rfl ((congrFun F.1 355).trans s_355) rfl ((congrFun (F.2.1 355 (by decide)) 5).trans r_355_5) ?_
                refine X_iload rfl rfl rfl ?_
                refine X_iload_n rfl rfl rfl rfl ?_
                refine X_bipush (v := (10 : Int32)) rfl rfl rfl ?_
                refine X_irem (v := (nI ((((n / 10) / 10) / 10) % 10))) rfl rfl (by decide) (nI_irem (d := 10) (by omega) (by decide)) ?_
                refine X_iast (k0 := 0) rfl rfl ((congrFun F.1 360).trans s_360) (vp_in_d rfl) rfl ?_
                refine X_iload_n rfl rfl rfl rfl ?_
                refine X_bipush (v := (10 : Int32)) rfl rfl rfl ?_
                refine X_idiv (v := (nI ((((n / 10) / 10) / 10) / 10))) rfl rfl (by decide) (nI_idiv (d := 10) (by omega) (by decide)) ?_
                refine X_istore_n (i := 3) (ls' := [some (.ref 355), some (.int (nI (n))), some (.int (10000 : Int32)), some (.int (nI ((((n / 10) / 10) / 10) / 10))), some (.int (0 : Int32))]) rfl rfl rfl (Nat.le_of_ble_eq_true rfl) rfl ?_
                refine X_iinc (v := (-1 : Int32)) (ls' := [some (.ref 355), some (.int (nI (n))), some (.int (10000 : Int32)), some (.int (nI ((((n / 10) / 10) / 10) / 10))), some (.int (-1 : Int32))]) rfl rfl rfl rfl rfl ?_
                refine LW_goto (tgt := 66) rfl rfl ?_
                refine X_iload rfl rfl rfl ?_
                refine X_if_lt (tgt := 93) rfl rfl rfl (fun _ => ?_) (fun q => absurd q (by decide))
                refine X_aload_n rfl rfl rfl rfl ?_
                refine X_callV (as := []) (st := []) rfl rfl rfl (by decide) rfl (Nat.le_of_ble_eq_true rfl) (by decide) (Nat.le_of_ble_eq_true rfl) rfl ((congrFun F.1 355).trans s_355) (by decide) ?_
                refine LW_ls (ls' := [some (.ref 355), none, none]) rfl ?_
                refine X_aload_n rfl rfl rfl rfl ?_
                refine X_getR (a := 356) rfl rfl rfl ((congrFun F.1 355).trans s_355) rfl ((congrFun (F.2.1 355 (by decide)) 0).trans r_355_0) ?_
                refine X_iconst (v := (1 : Int32)) rfl rfl rfl ?_
                refine X_iald (v := (0 : Int32)) rfl rfl ((congrFun F.1 356).trans s_356) (vp_in_d rfl) ((congrFun (F.2.2 356 (by decide)).1 1).trans i_356_1) ?_
                refine X_bipush (v := (8 : Int32)) rfl rfl rfl ?_
                refine X_icmp_ne (tgt := 13) rfl rfl rfl (fun _ => ?_) (fun q => absurd q (by decide))
                refine X_sipush (v := (356 : Int32)) rfl rfl rfl ?_
                refine X_bipush (v := (9 : Int32)) rfl rfl rfl ?_
                refine X_aload_n rfl rfl rfl rfl ?_
                refine X_getR (a := 356) rfl rfl rfl ((congrFun F.1 355).trans s_355) rfl ((congrFun (F.2.1 355 (by decide)) 0).trans r_355_0) ?_
                refine X_iconst (v := (1 : Int32)) rfl rfl rfl ?_
                refine X_iald (v := (0 : Int32)) rfl rfl ((congrFun F.1 356).trans s_356) (vp_in_d rfl) ((congrFun (F.2.2 356 (by decide)).1 1).trans i_356_1) ?_
                refine X_imul (v := (0 : Int32)) rfl rfl rfl ?_
                refine X_iadd (v := (356 : Int32)) rfl rfl rfl ?_
                refine X_istore_n (i := 1) (ls' := [some (.ref 355), some (.int (356 : Int32)), none]) rfl rfl rfl (Nat.le_of_ble_eq_true rfl) rfl ?_
                refine X_aload_n rfl rfl rfl rfl ?_
                refine X_getR (a := 356) rfl rfl rfl ((congrFun F.1 355).trans s_355) rfl ((congrFun (F.2.1 355 (by decide)) 0).trans r_355_0) ?_
                refine X_iload_n rfl rfl rfl rfl ?_
                refine X_aload_n rfl rfl rfl rfl ?_
                refine X_getI (v := (4 : Int32)) rfl rfl rfl ((congrFun F.1 355).trans s_355) rfl rfl ?_
                refine X_iast (k0 := 356) rfl rfl ((congrFun F.1 356).trans s_356) (vp_in_d rfl) rfl ?_
                refine X_iconst (v := (0 : Int32)) rfl rfl rfl ?_
                refine X_istore_n (i := 2) (ls' := [some (.ref 355), some (.int (356 : Int32)), some (.int (0 : Int32))]) rfl rfl rfl (Nat.le_of_ble_eq_true rfl) rfl ?_
                refine X_iload_n rfl rfl rfl rfl ?_
                refine X_aload_n rfl rfl rfl rfl ?_
                refine X_getI (v := (4 : Int32)) rfl rfl rfl ((congrFun F.1 355).trans s_355) rfl rfl ?_
                refine X_icmp_ge (tgt := 69) rfl rfl rfl (fun q => absurd q (by decide)) (fun _ => ?_)
                refine X_aload_n rfl rfl rfl rfl ?_
                refine X_getR (a := 356) rfl rfl rfl ((congrFun F.1 355).trans s_355) rfl ((congrFun (F.2.1 355 (by decide)) 0).trans r_355_0) ?_
                refine X_iload_n rfl rfl rfl rfl ?_
                refine X_iconst (v := (1 : Int32)) rfl rfl rfl ?_
                refine X_iadd (v := (357 : Int32)) rfl rfl rfl ?_
                refine X_iload_n rfl rfl rfl rfl ?_
                refine X_iadd (v := (357 : Int32)) rfl rfl rfl ?_
                refine X_aload_n rfl rfl rfl rfl ?_
                refine X_getR (a := 360) rfl rfl rfl ((congrFun F.1 355).trans s_355) rfl ((congrFun (F.2.1 355 (by decide)) 5).trans r_355_5) ?_
                refine X_iload_n rfl rfl rfl rfl ?_
                refine X_iald (v := (nI ((((n / 10) / 10) / 10) % 10))) rfl rfl ((congrFun F.1 360).trans s_360) (vp_in_d rfl) rfl ?_
                refine X_iast (k0 := 357) rfl rfl ((congrFun F.1 356).trans s_356) (vp_in_d rfl) rfl ?_
                refine X_iinc (v := (1 : Int32)) (ls' := [some (.ref 355), some (.int (356 : Int32)), some (.int (1 : Int32))]) rfl rfl rfl rfl rfl ?_
                refine LW_goto (tgt := 39) rfl rfl ?_
                refine X_iload_n rfl rfl rfl rfl ?_
                refine X_aload_n rfl rfl rfl rfl ?_
                refine X_getI (v := (4 : Int32)) rfl rfl rfl ((congrFun F.1 355).trans s_355) rfl rfl ?_
                refine X_icmp_ge (tgt := 69) rfl rfl rfl (fun q => absurd q (by decide)) (fun _ => ?_)
                refine X_aload_n rfl rfl rfl rfl ?_
                refine X_getR (a := 356) rfl rfl rfl ((congrFun F.1 355).trans s_355) rfl ((congrFun (F.2.1 355 (by decide)) 0).trans r_355_0) ?_
                refine X_iload_n rfl rfl rfl rfl ?_
                refine X_iconst (v := (1 : Int32)) rfl rfl rfl ?_
                refine X_iadd (v := (357 : Int32)) rfl rfl rfl ?_
                refine X_iload_n rfl rfl rfl rfl ?_
                refine X_iadd (v := (358 : Int32)) rfl rfl rfl ?_
                refine X_aload_n rfl rfl rfl rfl ?_
                refine X_getR (a := 360) rfl rfl rfl ((congrFun F.1 355).trans s_355) rfl ((congrFun (F.2.1 355 (by decide)) 5).trans r_355_5) ?_
                refine X_iload_n rfl rfl rfl rfl ?_
                refine X_iald (v := (nI (((n / 10) / 10) % 10))) rfl rfl ((congrFun F.1 360).trans s_360) (vp_in_d rfl) rfl ?_
                refine X_iast (k0 := 358) rfl rfl ((congrFun F.1 356).trans s_356) (vp_in_d rfl) rfl ?_
                refine X_iinc (v := (2 : Int32)) (ls' := [some (.ref 355), some (.int (356 : Int32)), some (.int (2 : Int32))]) rfl rfl rfl rfl rfl ?_
                refine LW_goto (tgt := 39) rfl rfl ?_
                refine X_iload_n rfl rfl rfl rfl ?_
                refine X_aload_n rfl rfl rfl rfl ?_
                refine X_getI (v := (4 : Int32)) rfl rfl rfl ((congrFun F.1 355).trans s_355) rfl rfl ?_
                refine X_icmp_ge (tgt := 69) rfl rfl rfl (fun q => absurd q (by decide)) (fun _ => ?_)
                refine X_aload_n rfl rfl rfl rfl ?_
                refine X_getR (a := 356) rfl rfl rfl ((congrFun F.1 355).trans s_355) rfl ((congrFun (F.2.1 355 (by decide)) 0).trans r_355_0) ?_
                refine X_iload_n rfl rfl rfl rfl ?_
                refine X_iconst (v := (1 : Int32)) rfl rfl rfl ?_
                refine X_iadd (v := (357 : Int32)) rfl rfl rfl ?_
                refine X_iload_n rfl rfl rfl rfl ?_
                refine X_iadd (v := (359 : Int32)) rfl rfl rfl ?_
                refine X_aload_n rfl rfl rfl rfl ?_
                refine X_getR (a := 360) rfl rfl rfl ((congrFun F.1 355).trans s_355) rfl ((congrFun (F.2.1 355 (by decide)) 5).trans r_355_5) ?_
                refine X_iload_n rfl rfl rfl rfl ?_
                refine X_iald (v := (nI ((n / 10) % 10))) rfl rfl ((congrFun F.1 360).trans s_360) (vp_in_d rfl) rfl ?_
                refine X_iast (k0 := 359) rfl rfl ((congrFun F.1 356).trans s_356) (vp_in_d rfl) rfl ?_
                refine X_iinc (v := (3 : Int32)) (ls' := [some (.ref 355), some (.int (356 : Int32)), some (.int (3 : Int32))]) rfl rfl rfl rfl rfl ?_
                refine LW_goto (tgt := 39) rfl rfl ?_
                refine X_iload_n rfl rfl rfl rfl ?_
                refine X_aload_n rfl rfl rfl rfl ?_
                refine X_getI (v := (4 : Int32)) rfl rfl rfl ((congrFun F.1 355).trans s_355) rfl rfl ?_
                refine X_icmp_ge (tgt := 69) rfl rfl rfl (fun q => absurd q (by decide)) (fun _ => ?_)
                refine X_aload_n rfl rfl rfl rfl ?_
                refine X_getR (a := 356) rfl rfl rfl ((congrFun F.1 355).trans s_355) rfl ((congrFun (F.2.1 355 (by decide)) 0).trans r_355_0) ?_
                refine X_iload_n rfl rfl rfl rfl ?_
                refine X_iconst (v := (1 : Int32)) rfl rfl rfl ?_
                refine X_iadd (v := (357 : Int32)) rfl rfl rfl ?_
                refine X_iload_n rfl rfl rfl rfl ?_
                refine X_iadd (v := (360 : Int32)) rfl rfl rfl ?_
                refine X_aload_n rfl rfl rfl rfl ?_
                refine X_getR (a := 360) rfl rfl rfl ((congrFun F.1 355).trans s_355) rfl ((congrFun (F.2.1 355 (by decide)) 5).trans r_355_5) ?_
                refine X_iload_n rfl rfl rfl rfl ?_
                refine X_iald (v := (nI (n % 10))) rfl rfl ((congrFun F.1 360).trans s_360) (vp_in_d rfl) rfl ?_
                refine X_iast (k0 := 360) rfl rfl ((congrFun F.1 356).trans s_356) (vp_in_d rfl) rfl ?_
                refine X_iinc (v := (4 : Int32)) (ls' := [some (.ref 355), some (.int (356 : Int32)), some (.int (4 : Int32))]) rfl rfl rfl rfl rfl ?_
                refine LW_goto (tgt := 39) rfl rfl ?_
                refine X_iload_n rfl rfl rfl rfl ?_
                refine X_aload_n rfl rfl rfl rfl ?_
                refine X_getI (v := (4 : Int32)) rfl rfl rfl ((congrFun F.1 355).trans s_355) rfl rfl ?_
                refine X_icmp_ge (tgt := 69) rfl rfl rfl (fun _ => ?_) (fun q => absurd q (by decide))
                refine X_aload_n rfl rfl rfl rfl ?_
                refine X_getR (a := 356) rfl rfl rfl ((congrFun F.1 355).trans s_355) rfl ((congrFun (F.2.1 355 (by decide)) 0).trans r_355_0) ?_
                refine X_iconst (v := (1 : Int32)) rfl rfl rfl ?_
                refine X_dup2 rfl rfl rfl rfl ?_
                refine X_iald (v := (0 : Int32)) rfl rfl ((congrFun F.1 356).trans s_356) (vp_in_d rfl) ((congrFun (F.2.2 356 (by decide)).1 1).trans i_356_1) ?_
                refine X_iconst (v := (1 : Int32)) rfl rfl rfl ?_
                refine X_iadd (v := (1 : Int32)) rfl rfl rfl ?_
                refine X_iast (k0 := 1) rfl rfl ((congrFun F.1 356).trans s_356) (vp_in_d rfl) rfl ?_
                refine X_aload_n rfl rfl rfl rfl ?_
                refine X_getR (a := 356) rfl rfl rfl ((congrFun F.1 355).trans s_355) rfl ((congrFun (F.2.1 355 (by decide)) 0).trans r_355_0) ?_
                refine X_iconst (v := (1 : Int32)) rfl rfl rfl ?_
                refine X_iald (v := (1 : Int32)) rfl rfl ((congrFun F.1 356).trans s_356) (vp_in_d rfl) rfl ?_
                refine X_iconst (v := (1 : Int32)) rfl rfl rfl ?_
                refine X_isub (v := (0 : Int32)) rfl rfl rfl ?_
                refine LW_ireturn (st := []) rfl rfl rfl ?_
                refine LW_ireturn (st := []) rfl rfl rfl (congrArg (fun z => some (Value.int z)) ?_)
                simp only [Int32.lt_iff_toInt_lt, Int32.le_iff_toInt_le, ← Int32.toInt_inj, (show (1 : Int32).toInt = 1 from rfl), (show (9 : Int32).toInt = 9 from rfl), (show (10 : Int32).toInt = 10 from rfl), (show (199999999 : Int32).toInt = 199999999 from rfl), (nI_toInt (n := n) (by omega)), (nI_toInt (n := n / 10) (by omega)), (nI_toInt (n := n / 100) (by omega)), (nI_toInt (n := n / 1000) (by omega)), (nI_toInt (n := n / 10000) (by omega))] at h1 h2 h3 h5 h7 h9 h10
                unfold f_sayN
                rw [if_pos (by omega)]
              · refine X_iconst (v := (-1 : Int32)) rfl rfl rfl ?_
                refine LW_ireturn (st := []) rfl rfl rfl (congrArg (fun z => some (Value.int z)) ?_)
                simp only [Int32.lt_iff_toInt_lt, Int32.le_iff_toInt_le, ← Int32.toInt_inj, (show (1 : Int32).toInt = 1 from rfl), (show (9 : Int32).toInt = 9 from rfl), (show (10 : Int32).toInt = 10 from rfl), (show (199999999 : Int32).toInt = 199999999 from rfl), (nI_toInt (n := n) (by omega)), (nI_toInt (n := n / 10) (by omega)), (nI_toInt (n := n / 100) (by omega)), (nI_toInt (n := n / 1000) (by omega)), (nI_toInt (n := n / 10000) (by omega))] at h1 h2 h3 h5 h7 h9 h10
                unfold f_sayN
                rw [if_neg (by omega)]
            · refine X_iload_n rfl rfl rfl rfl ?_
              refine X_bipush (v := (10 : Int32)) rfl rfl rfl ?_
              refine X_imul (v := (100000 : Int32)) rfl rfl rfl ?_
              refine X_istore_n (i := 2) (ls' := [some (.ref 355), some (.int (nI (n))), some (.int (100000 : Int32)), none, none]) rfl rfl rfl (Nat.le_of_ble_eq_true rfl) rfl ?_
              refine X_aload_n rfl rfl rfl rfl ?_
              refine X_dup rfl rfl rfl ?_
              refine X_getI (v := (4 : Int32)) rfl rfl rfl ((congrFun F.1 355).trans s_355) rfl rfl ?_
              refine X_iconst (v := (1 : Int32)) rfl rfl rfl ?_
              refine X_iadd (v := (5 : Int32)) rfl rfl rfl ?_
              refine X_putI rfl rfl rfl ((congrFun F.1 355).trans s_355) rfl rfl rfl rfl ?_
              refine LW_goto (tgt := 21) rfl rfl ?_
              refine X_iload_n rfl rfl rfl rfl ?_
              refine X_iload_n rfl rfl rfl rfl ?_
              refine X_idiv (v := (nI (n / 100000))) rfl rfl (by decide) (nI_idiv (d := 100000) (by omega) (by decide)) ?_
              refine X_bipush (v := (9 : Int32)) rfl rfl rfl ?_
              refine X_icmp_le (tgt := 47) rfl rfl rfl (fun h11 => ?_) (fun h11 => ?_)
              · refine X_iload_n rfl rfl rfl rfl ?_
                refine X_iload_n rfl rfl rfl rfl ?_
                refine X_idiv (v := (nI (n / 100000))) rfl rfl (by decide) (nI_idiv (d := 100000) (by omega) (by decide)) ?_
                refine X_iconst (v := (1 : Int32)) rfl rfl rfl ?_
                refine X_icmp_eq (tgt := 56) rfl rfl rfl (fun h12 => ?_) (fun h12 => ?_)
                · refine X_iload_n rfl rfl rfl rfl ?_
                  refine X_istore_n (i := 3) (ls' := [some (.ref 355), some (.int (nI (n))), some (.int (100000 : Int32)), some (.int (nI (n))), none]) rfl rfl rfl (Nat.le_of_ble_eq_true rfl) rfl ?_
                  refine X_aload_n rfl rfl rfl rfl ?_
                  refine X_getI (v := (5 : Int32)) rfl rfl rfl ((congrFun F.1 355).trans s_355) rfl rfl ?_
                  refine X_iconst (v := (1 : Int32)) rfl rfl rfl ?_
                  refine X_isub (v := (4 : Int32)) rfl rfl rfl ?_
                  refine X_istore (i := 4) (ls' := [some (.ref 355), some (.int (nI (n))), some (.int (100000 : Int32)), some (.int (nI (n))), some (.int (4 : Int32))]) rfl rfl (Nat.le_of_ble_eq_true rfl) rfl ?_
                  refine X_iload rfl rfl rfl ?_
                  refine X_if_lt (tgt := 93) rfl rfl rfl (fun q => absurd q (by decide)) (fun _ => ?_)
                  refine X_aload_n rfl rfl rfl rfl ?_
                  refine X_getR (a := 360) rfl rfl rfl ((congrFun F.1 355).trans s_355) rfl ((congrFun (F.2.1 355 (by decide)) 5).trans r_355_5) ?_
                  refine X_iload rfl rfl rfl ?_
                  refine X_iload_n rfl rfl rfl rfl ?_
                  refine X_bipush (v := (10 : Int32)) rfl rfl rfl ?_
                  refine X_irem (v := (nI (n % 10))) rfl rfl (by decide) (nI_irem (d := 10) (by omega) (by decide)) ?_
                  refine X_iast (k0 := 4) rfl rfl ((congrFun F.1 360).trans s_360) (vp_in_d rfl) rfl ?_
                  refine X_iload_n rfl rfl rfl rfl ?_
                  refine X_bipush (v := (10 : Int32)) rfl rfl rfl ?_
                  refine X_idiv (v := (nI (n / 10))) rfl rfl (by decide) (nI_idiv (d := 10) (by omega) (by decide)) ?_
                  refine X_istore_n (i := 3) (ls' := [some (.ref 355), some (.int (nI (n))), some (.int (100000 : Int32)), some (.int (nI (n / 10))), some (.int (4 : Int32))]) rfl rfl rfl (Nat.le_of_ble_eq_true rfl) rfl ?_
                  refine X_iinc (v := (3 : Int32)) (ls' := [some (.ref 355), some (.int (nI (n))), some (.int (100000 : Int32)), some (.int (nI (n / 10))), some (.int (3 : Int32))]) rfl rfl rfl rfl rfl ?_
                  refine LW_goto (tgt := 66) rfl rfl ?_
                  refine X_iload rfl rfl rfl ?_
                  refine X_if_lt (tgt := 93) rfl rfl rfl (fun q => absurd q (by decide)) (fun _ => ?_)
                  refine X_aload_n rfl rfl rfl rfl ?_
                  refine X_getR (a := 360) rfl rfl rfl ((congrFun F.1 355).trans s_355) rfl ((congrFun (F.2.1 355 (by decide)) 5).trans r_355_5) ?_
                  refine X_iload rfl rfl rfl ?_
                  refine X_iload_n rfl rfl rfl rfl ?_
                  refine X_bipush (v := (10 : Int32)) rfl rfl rfl ?_
                  refine X_irem (v := (nI ((n / 10) % 10))) rfl rfl (by decide) (nI_irem (d := 10) (by omega) (by decide)) ?_
                  refine X_iast (k0 := 3) rfl rfl ((congrFun F.1 360).trans s_360) (vp_in_d rfl) rfl ?_
                  refine X_iload_n rfl rfl rfl rfl ?_
                  refine X_bipush (v := (10 : Int32)) rfl rfl rfl ?_
                  refine X_idiv (v := (nI ((n / 10) / 10))) rfl rfl (by decide) (nI_idiv (d := 10) (by omega) (by decide)) ?_
                  refine X_istore_n (i := 3) (ls' := [some (.ref 355), some (.int (nI (n))), some (.int (100000 : Int32)), some (.int (nI ((n / 10) / 10))), some (.int (3 : Int32))]) rfl rfl rfl (Nat.le_of_ble_eq_true rfl) rfl ?_
                  refine X_iinc (v := (2 : Int32)) (ls' := [some (.ref 355), some (.int (nI (n))), some (.int (100000 : Int32)), some (.int (nI ((n / 10) / 10))), some (.int (2 : Int32))]) rfl rfl rfl rfl rfl ?_
                  refine LW_goto (tgt := 66) rfl rfl ?_
                  refine X_iload rfl rfl rfl ?_
                  refine X_if_lt (tgt := 93) rfl rfl rfl (fun q => absurd q (by decide)) (fun _ => ?_)
                  refine X_aload_n rfl rfl rfl rfl ?_
                  refine X_getR (a := 360) rfl rfl rfl ((congrFun F.1 355).trans s_355) rfl ((congrFun (F.2.1 355 (by decide)) 5).trans r_355_5) ?_
                  refine X_iload rfl rfl rfl ?_
                  refine X_iload_n rfl rfl rfl rfl ?_
                  refine X_bipush (v := (10 : Int32)) rfl rfl rfl ?_
                  refine X_irem (v := (nI (((n / 10) / 10) % 10))) rfl rfl (by decide) (nI_irem (d := 10) (by omega) (by decide)) ?_
                  refine X_iast (k0 := 2) rfl rfl ((congrFun F.1 360).trans s_360) (vp_in_d rfl) rfl ?_
                  refine X_iload_n rfl rfl rfl rfl ?_
                  refine X_bipush (v := (10 : Int32)) rfl rfl rfl ?_
                  refine X_idiv (v := (nI (((n / 10) / 10) / 10))) rfl rfl (by decide) (nI_idiv (d := 10) (by omega) (by decide)) ?_
                  refine X_istore_n (i := 3) (ls' := [some (.ref 355), some (.int (nI (n))), some (.int (100000 : Int32)), some (.int (nI (((n / 10) / 10) / 10))), some (.int (2 : Int32))]) rfl rfl rfl (Nat.le_of_ble_eq_true rfl) rfl ?_
                  refine X_iinc (v := (1 : Int32)) (ls' := [some (.ref 355), some (.int (nI (n))), some (.int (100000 : Int32)), some (.int (nI (((n / 10) / 10) / 10))), some (.int (1 : Int32))]) rfl rfl rfl rfl rfl ?_
                  refine LW_goto (tgt := 66) rfl rfl ?_
                  refine X_iload rfl rfl rfl ?_
                  refine X_if_lt (tgt := 93) rfl rfl rfl (fun q => absurd q (by decide)) (fun _ => ?_)
                  refine X_aload_n rfl rfl rfl rfl ?_
                  refine X_getR (a := 360) rfl rfl rfl ((congrFun F.1 355).trans s_355) rfl ((congrFun (F.2.1 355 (by decide)) 5).trans r_355_5) ?_
                  refine X_iload rfl rfl rfl ?_
                  refine X_iload_n rfl rfl rfl rfl ?_
                  refine X_bipush (v := (10 : Int32)) rfl rfl rfl ?_
                  refine X_irem (v := (nI ((((n / 10) / 10) / 10) % 10))) rfl rfl (by decide) (nI_irem (d := 10) (by omega) (by decide)) ?_
                  refine X_iast (k0 := 1) rfl rfl ((congrFun F.1 360).trans s_360) (vp_in_d rfl) rfl ?_
                  refine X_iload_n rfl rfl rfl rfl ?_
                  refine X_bipush (v := (10 : Int32)) rfl rfl rfl ?_
                  refine X_idiv (v := (nI ((((n / 10) / 10) / 10) / 10))) rfl rfl (by decide) (nI_idiv (d := 10) (by omega) (by decide)) ?_
                  refine X_istore_n (i := 3) (ls' := [some (.ref 355), some (.int (nI (n))), some (.int (100000 : Int32)), some (.int (nI ((((n / 10) / 10) / 10) / 10))), some (.int (1 : Int32))]) rfl rfl rfl (Nat.le_of_ble_eq_true rfl) rfl ?_
                  refine X_iinc (v := (0 : Int32)) (ls' := [some (.ref 355), some (.int (nI (n))), some (.int (100000 : Int32)), some (.int (nI ((((n / 10) / 10) / 10) / 10))), some (.int (0 : Int32))]) rfl rfl rfl rfl rfl ?_
                  refine LW_goto (tgt := 66) rfl rfl ?_
                  refine X_iload rfl rfl rfl ?_
                  refine X_if_lt (tgt := 93) rfl rfl rfl (fun q => absurd q (by decide)) (fun _ => ?_)
                  refine X_aload_n rfl rfl rfl rfl ?_
                  refine X_getR (a := 360) rfl rfl rfl ((congrFun F.1 355).trans s_355) rfl ((congrFun (F.2.1 355 (by decide)) 5).trans r_355_5) ?_
                  refine X_iload rfl rfl rfl ?_
                  refine X_iload_n rfl rfl rfl rfl ?_
                  refine X_bipush (v := (10 : Int32)) rfl rfl rfl ?_
                  refine X_irem (v := (nI (((((n / 10) / 10) / 10) / 10) % 10))) rfl rfl (by decide) (nI_irem (d := 10) (by omega) (by decide)) ?_
                  refine X_iast (k0 := 0) rfl rfl ((congrFun F.1 360).trans s_360) (vp_in_d rfl) rfl ?_
                  refine X_iload_n rfl rfl rfl rfl ?_
                  refine X_bipush (v := (10 : Int32)) rfl rfl rfl ?_
                  refine X_idiv (v := (nI (((((n / 10) / 10) / 10) / 10) / 10))) rfl rfl (by decide) (nI_idiv (d := 10) (by omega) (by decide)) ?_
                  refine X_istore_n (i := 3) (ls' := [some (.ref 355), some (.int (nI (n))), some (.int (100000 : Int32)), some (.int (nI (((((n / 10) / 10) / 10) / 10) / 10))), some (.int (0 : Int32))]) rfl rfl rfl (Nat.le_of_ble_eq_true rfl) rfl ?_
                  refine X_iinc (v := (-1 : Int32)) (ls' := [some (.ref 355), some (.int (nI (n))), some (.int (100000 : Int32)), some (.int (nI (((((n / 10) / 10) / 10) / 10) / 10))), some (.int (-1 : Int32))]) rfl rfl rfl rfl rfl ?_
                  refine LW_goto (tgt := 66) rfl rfl ?_
                  refine X_iload rfl rfl rfl ?_
                  refine X_if_lt (tgt := 93) rfl rfl rfl (fun _ => ?_) (fun q => absurd q (by decide))
                  refine X_aload_n rfl rfl rfl rfl ?_
                  refine X_callV (as := []) (st := []) rfl rfl rfl (by decide) rfl (Nat.le_of_ble_eq_true rfl) (by decide) (Nat.le_of_ble_eq_true rfl) rfl ((congrFun F.1 355).trans s_355) (by decide) ?_
                  refine LW_ls (ls' := [some (.ref 355), none, none]) rfl ?_
                  refine X_aload_n rfl rfl rfl rfl ?_
                  refine X_getR (a := 356) rfl rfl rfl ((congrFun F.1 355).trans s_355) rfl ((congrFun (F.2.1 355 (by decide)) 0).trans r_355_0) ?_
                  refine X_iconst (v := (1 : Int32)) rfl rfl rfl ?_
                  refine X_iald (v := (0 : Int32)) rfl rfl ((congrFun F.1 356).trans s_356) (vp_in_d rfl) ((congrFun (F.2.2 356 (by decide)).1 1).trans i_356_1) ?_
                  refine X_bipush (v := (8 : Int32)) rfl rfl rfl ?_
                  refine X_icmp_ne (tgt := 13) rfl rfl rfl (fun _ => ?_) (fun q => absurd q (by decide))
                  refine X_sipush (v := (356 : Int32)) rfl rfl rfl ?_
                  refine X_bipush (v := (9 : Int32)) rfl rfl rfl ?_
                  refine X_aload_n rfl rfl rfl rfl ?_
                  refine X_getR (a := 356) rfl rfl rfl ((congrFun F.1 355).trans s_355) rfl ((congrFun (F.2.1 355 (by decide)) 0).trans r_355_0) ?_
                  refine X_iconst (v := (1 : Int32)) rfl rfl rfl ?_
                  refine X_iald (v := (0 : Int32)) rfl rfl ((congrFun F.1 356).trans s_356) (vp_in_d rfl) ((congrFun (F.2.2 356 (by decide)).1 1).trans i_356_1) ?_
                  refine X_imul (v := (0 : Int32)) rfl rfl rfl ?_
                  refine X_iadd (v := (356 : Int32)) rfl rfl rfl ?_
                  refine X_istore_n (i := 1) (ls' := [some (.ref 355), some (.int (356 : Int32)), none]) rfl rfl rfl (Nat.le_of_ble_eq_true rfl) rfl ?_
                  refine X_aload_n rfl rfl rfl rfl ?_
                  refine X_getR (a := 356) rfl rfl rfl ((congrFun F.1 355).trans s_355) rfl ((congrFun (F.2.1 355 (by decide)) 0).trans r_355_0) ?_
                  refine X_iload_n rfl rfl rfl rfl ?_
                  refine X_aload_n rfl rfl rfl rfl ?_
                  refine X_getI (v := (5 : Int32)) rfl rfl rfl ((congrFun F.1 355).trans s_355) rfl rfl ?_
                  refine X_iast (k0 := 356) rfl rfl ((congrFun F.1 356).trans s_356) (vp_in_d rfl) rfl ?_
                  refine X_iconst (v := (0 : Int32)) rfl rfl rfl ?_
                  refine X_istore_n (i := 2) (ls' := [some (.ref 355), some (.int (356 : Int32)), some (.int (0 : Int32))]) rfl rfl rfl (Nat.le_of_ble_eq_true rfl) rfl ?_
                  refine X_iload_n rfl rfl rfl rfl ?_
                  refine X_aload_n rfl rfl rfl rfl ?_
                  refine X_getI (v := (5 : Int32)) rfl rfl rfl ((congrFun F.1 355).trans s_355) rfl rfl ?_
                  refine X_icmp_ge (tgt := 69) rfl rfl rfl (fun q => absurd q (by decide)) (fun _ => ?_)
                  refine X_aload_n rfl rfl rfl rfl ?_
                  refine X_getR (a := 356) rfl rfl rfl ((congrFun F.1 355).trans s_355) rfl ((congrFun (F.2.1 355 (by decide)) 0).trans r_355_0) ?_
                  refine X_iload_n rfl rfl rfl rfl ?_
                  refine X_iconst (v := (1 : Int32)) rfl rfl rfl ?_
                  refine X_iadd (v := (357 : Int32)) rfl rfl rfl ?_
                  refine X_iload_n rfl rfl rfl rfl ?_
                  refine X_iadd (v := (357 : Int32)) rfl rfl rfl ?_
                  refine X_aload_n rfl rfl rfl rfl ?_
                  refine X_getR (a := 360) rfl rfl rfl ((congrFun F.1 355).trans s_355) rfl ((congrFun (F.2.1 355 (by decide)) 5).trans r_355_5) ?_
                  refine X_iload_n rfl rfl rfl rfl ?_
                  refine X_iald (v := (nI (((((n / 10) / 10) / 10) / 10) % 10))) rfl rfl ((congrFun F.1 360).trans s_360) (vp_in_d rfl) rfl ?_
                  refine X_iast (k0 := 357) rfl rfl ((congrFun F.1 356).trans s_356) (vp_in_d rfl) rfl ?_
                  refine X_iinc (v := (1 : Int32)) (ls' := [some (.ref 355), some (.int (356 : Int32)), some (.int (1 : Int32))]) rfl rfl rfl rfl rfl ?_
                  refine LW_goto (tgt := 39) rfl rfl ?_
                  refine X_iload_n rfl rfl rfl rfl ?_
                  refine X_aload_n rfl rfl rfl rfl ?_
                  refine X_getI (v := (5 : Int32)) rfl rfl rfl ((congrFun F.1 355).trans s_355) rfl rfl ?_
                  refine X_icmp_ge (tgt := 69) rfl rfl rfl (fun q => absurd q (by decide)) (fun _ => ?_)
                  refine X_aload_n rfl rfl rfl rfl ?_
                  refine X_getR (a := 356) rfl rfl rfl ((congrFun F.1 355).trans s_355) rfl ((congrFun (F.2.1 355 (by decide)) 0).trans r_355_0) ?_
                  refine X_iload_n rfl rfl rfl rfl ?_
                  refine X_iconst (v := (1 : Int32)) rfl rfl rfl ?_
                  refine X_iadd (v := (357 : Int32)) rfl rfl rfl ?_
                  refine X_iload_n rfl rfl rfl rfl ?_
                  refine X_iadd (v := (358 : Int32)) rfl rfl rfl ?_
                  refine X_aload_n rfl rfl rfl rfl ?_
                  refine X_getR (a := 360) rfl rfl rfl ((congrFun F.1 355).trans s_355) rfl ((congrFun (F.2.1 355 (by decide)) 5).trans r_355_5) ?_
                  refine X_iload_n rfl rfl rfl rfl ?_
                  refine X_iald (v := (nI ((((n / 10) / 10) / 10) % 10))) rfl rfl ((congrFun F.1 360).trans s_360) (vp_in_d rfl) rfl ?_
                  refine X_iast (k0 := 358) rfl rfl ((congrFun F.1 356).trans s_356) (vp_in_d rfl) rfl ?_
                  refine X_iinc (v := (2 : Int32)) (ls' := [some (.ref 355), some (.int (356 : Int32)), some (.int (2 : Int32))]) rfl rfl rfl rfl rfl ?_
                  refine LW_goto (tgt := 39) rfl rfl ?_
                  refine X_iload_n rfl rfl rfl rfl ?_
                  refine X_aload_n rfl rfl rfl rfl ?_
                  refine X_getI (v := (5 : Int32)) rfl rfl rfl ((congrFun F.1 355).trans s_355) rfl rfl ?_
                  refine X_icmp_ge (tgt := 69) rfl rfl rfl (fun q => absurd q (by decide)) (fun _ => ?_)
                  refine X_aload_n rfl rfl rfl rfl ?_
                  refine X_getR (a := 356) rfl rfl rfl ((congrFun F.1 355).trans s_355) rfl ((congrFun (F.2.1 355 (by decide)) 0).trans r_355_0) ?_
                  refine X_iload_n rfl rfl rfl rfl ?_
                  refine X_iconst (v := (1 : Int32)) rfl rfl rfl ?_
                  refine X_iadd (v := (357 : Int32)) rfl rfl rfl ?_
                  refine X_iload_n rfl rfl rfl rfl ?_
                  refine X_iadd (v := (359 : Int32)) rfl rfl rfl ?_
                  refine X_aload_n rfl rfl rfl rfl ?_
                  refine X_getR (a := 360) rfl rfl rfl ((congrFun F.1 355).trans s_355) rfl ((congrFun (F.2.1 355 (by decide)) 5).trans r_355_5) ?_
                  refine X_iload_n rfl rfl rfl rfl ?_
                  refine X_iald (v := (nI (((n / 10) / 10) % 10))) rfl rfl ((congrFun F.1 360).trans s_360) (vp_in_d rfl) rfl ?_
                  refine X_iast (k0 := 359) rfl rfl ((congrFun F.1 356).trans s_356) (vp_in_d rfl) rfl ?_
                  refine X_iinc (v := (3 : Int32)) (ls' := [some (.ref 355), some (.int (356 : Int32)), some (.int (3 : Int32))]) rfl rfl rfl rfl rfl ?_
                  refine LW_goto (tgt := 39) rfl rfl ?_
                  refine X_iload_n rfl rfl rfl rfl ?_
                  refine X_aload_n rfl rfl rfl rfl ?_
                  refine X_getI (v := (5 : Int32)) rfl rfl rfl ((congrFun F.1 355).trans s_355) rfl rfl ?_
                  refine X_icmp_ge (tgt := 69) rfl rfl rfl (fun q => absurd q (by decide)) (fun _ => ?_)
                  refine X_aload_n rfl rfl rfl rfl ?_
                  refine X_getR (a := 356) rfl rfl rfl ((congrFun F.1 355).trans s_355) rfl ((congrFun (F.2.1 355 (by decide)) 0).trans r_355_0) ?_
                  refine X_iload_n rfl rfl rfl rfl ?_
                  refine X_iconst (v := (1 : Int32)) rfl rfl rfl ?_
                  refine X_iadd (v := (357 : Int32)) rfl rfl rfl ?_
                  refine X_iload_n rfl rfl rfl rfl ?_
                  refine X_iadd (v := (360 : Int32)) rfl rfl rfl ?_
                  refine X_aload_n rfl rfl rfl rfl ?_
                  refine X_getR (a := 360) rfl rfl rfl ((congrFun F.1 355).trans s_355) rfl ((congrFun (F.2.1 355 (by decide)) 5).trans r_355_5) ?_
                  refine X_iload_n rfl rfl rfl rfl ?_
                  refine X_iald (v := (nI ((n / 10) % 10))) rfl rfl ((congrFun F.1 360).trans s_360) (vp_in_d rfl) rfl ?_
                  refine X_iast (k0 := 360) rfl rfl ((congrFun F.1 356).trans s_356) (vp_in_d rfl) rfl ?_
                  refine X_iinc (v := (4 : Int32)) (ls' := [some (.ref 355), some (.int (356 : Int32)), some (.int (4 : Int32))]) rfl rfl rfl rfl rfl ?_
                  refine LW_goto (tgt := 39) rfl rfl ?_
                  refine X_iload_n rfl rfl rfl rfl ?_
                  refine X_aload_n rfl rfl rfl rfl ?_
                  refine X_getI (v := (5 : Int32)) rfl rfl rfl ((congrFun F.1 355).trans s_355) rfl rfl ?_
                  refine X_icmp_ge (tgt := 69) rfl rfl rfl (fun q => absurd q (by decide)) (fun _ => ?_)
                  refine X_aload_n rfl rfl rfl rfl ?_
                  refine X_getR (a := 356) rfl rfl rfl ((congrFun F.1 355).trans s_355) rfl ((congrFun (F.2.1 355 (by decide)) 0).trans r_355_0) ?_
                  refine X_iload_n rfl rfl rfl rfl ?_
                  refine X_iconst (v := (1 : Int32)) rfl rfl rfl ?_
                  refine X_iadd (v := (357 : Int32)) rfl rfl rfl ?_
                  refine X_iload_n rfl rfl rfl rfl ?_
                  refine X_iadd (v := (361 : Int32)) rfl rfl rfl ?_
                  refine X_aload_n rfl rfl rfl rfl ?_
                  refine X_getR (a := 360) rfl rfl rfl ((congrFun F.1 355).trans s_355) rfl ((congrFun (F.2.1 355 (by decide)) 5).trans r_355_5) ?_
                  refine X_iload_n rfl rfl rfl rfl ?_
                  refine X_iald (v := (nI (n % 10))) rfl rfl ((congrFun F.1 360).trans s_360) (vp_in_d rfl) rfl ?_
                  refine X_iast (k0 := 361) rfl rfl ((congrFun F.1 356).trans s_356) (vp_in_d rfl) rfl ?_
                  refine X_iinc (v := (5 : Int32)) (ls' := [some (.ref 355), some (.int (356 : Int32)), some (.int (5 : Int32))]) rfl rfl rfl rfl rfl ?_
                  refine LW_goto (tgt := 39) rfl rfl ?_
                  refine X_iload_n rfl rfl rfl rfl ?_
                  refine X_aload_n rfl rfl rfl rfl ?_
                  refine X_getI (v := (5 : Int32)) rfl rfl rfl ((congrFun F.1 355).trans s_355) rfl rfl ?_
                  refine X_icmp_ge (tgt := 69) rfl rfl rfl (fun _ => ?_) (fun q => absurd q (by decide))
                  refine X_aload_n rfl rfl rfl rfl ?_
                  refine X_getR (a := 356) rfl rfl rfl ((congrFun F.1 355).trans s_355) rfl ((congrFun (F.2.1 355 (by decide)) 0).trans r_355_0) ?_
                  refine X_iconst (v := (1 : Int32)) rfl rfl rfl ?_
                  refine X_dup2 rfl rfl rfl rfl ?_
                  refine X_iald (v := (0 : Int32)) rfl rfl ((congrFun F.1 356).trans s_356) (vp_in_d rfl) ((congrFun (F.2.2 356 (by decide)).1 1).trans i_356_1) ?_
                  refine X_iconst (v := (1 : Int32)) rfl rfl rfl ?_
                  refine X_iadd (v := (1 : Int32)) rfl rfl rfl ?_
                  refine X_iast (k0 := 1) rfl rfl ((congrFun F.1 356).trans s_356) (vp_in_d rfl) rfl ?_
                  refine X_aload_n rfl rfl rfl rfl ?_
                  refine X_getR (a := 356) rfl rfl rfl ((congrFun F.1 355).trans s_355) rfl ((congrFun (F.2.1 355 (by decide)) 0).trans r_355_0) ?_
                  refine X_iconst (v := (1 : Int32)) rfl rfl rfl ?_
                  refine X_iald (v := (1 : Int32)) rfl rfl ((congrFun F.1 356).trans s_356) (vp_in_d rfl) rfl ?_
                  refine X_iconst (v := (1 : Int32)) rfl rfl rfl ?_
                  refine X_isub (v := (0 : Int32)) rfl rfl rfl ?_
                  refine LW_ireturn (st := []) rfl rfl rfl ?_
                  refine LW_ireturn (st := []) rfl rfl rfl (congrArg (fun z => some (Value.int z)) ?_)
                  simp only [Int32.lt_iff_toInt_lt, Int32.le_iff_toInt_le, ← Int32.toInt_inj, (show (1 : Int32).toInt = 1 from rfl), (show (9 : Int32).toInt = 9 from rfl), (show (10 : Int32).toInt = 10 from rfl), (show (199999999 : Int32).toInt = 199999999 from rfl), (nI_toInt (n := n) (by omega)), (nI_toInt (n := n / 10) (by omega)), (nI_toInt (n := n / 100) (by omega)), (nI_toInt (n := n / 1000) (by omega)), (nI_toInt (n := n / 10000) (by omega)), (nI_toInt (n := n / 100000) (by omega))] at h1 h2 h3 h5 h7 h9 h11 h12
                  unfold f_sayN
                  rw [if_pos (by omega)]
                · refine X_iconst (v := (-1 : Int32)) rfl rfl rfl ?_
                  refine LW_ireturn (st := []) rfl rfl rfl (congrArg (fun z => some (Value.int z)) ?_)
                  simp only [Int32.lt_iff_toInt_lt, Int32.le_iff_toInt_le, ← Int32.toInt_inj, (show (1 : Int32).toInt = 1 from rfl), (show (9 : Int32).toInt = 9 from rfl), (show (10 : Int32).toInt = 10 from rfl), (show (199999999 : Int32).toInt = 199999999 from rfl), (nI_toInt (n := n) (by omega)), (nI_toInt (n := n / 10) (by omega)), (nI_toInt (n := n / 100) (by omega)), (nI_toInt (n := n / 1000) (by omega)), (nI_toInt (n := n / 10000) (by omega)), (nI_toInt (n := n / 100000) (by omega))] at h1 h2 h3 h5 h7 h9 h11 h12
                  unfold f_sayN
                  rw [if_neg (by omega)]
              · refine X_iload_n rfl rfl rfl rfl ?_
                refine X_bipush (v := (10 : Int32)) rfl rfl rfl ?_
                refine X_imul (v := (1000000 : Int32)) rfl rfl rfl ?_
                refine X_istore_n (i := 2) (ls' := [some (.ref 355), some (.int (nI (n))), some (.int (1000000 : Int32)), none, none]) rfl rfl rfl (Nat.le_of_ble_eq_true rfl) rfl ?_
                refine X_aload_n rfl rfl rfl rfl ?_
                refine X_dup rfl rfl rfl ?_
                refine X_getI (v := (5 : Int32)) rfl rfl rfl ((congrFun F.1 355).trans s_355) rfl rfl ?_
                refine X_iconst (v := (1 : Int32)) rfl rfl rfl ?_
                refine X_iadd (v := (6 : Int32)) rfl rfl rfl ?_
                refine X_putI rfl rfl rfl ((congrFun F.1 355).trans s_355) rfl rfl rfl rfl ?_
                refine LW_goto (tgt := 21) rfl rfl ?_
                refine X_iload_n rfl rfl rfl rfl ?_
                refine X_iload_n rfl rfl rfl rfl ?_
                refine X_idiv (v := (nI (n / 1000000))) rfl rfl (by decide) (nI_idiv (d := 1000000) (by omega) (by decide)) ?_
                refine X_bipush (v := (9 : Int32)) rfl rfl rfl ?_
                refine X_icmp_le (tgt := 47) rfl rfl rfl (fun h13 => ?_) (fun h13 => ?_)
                · refine X_iload_n rfl rfl rfl rfl ?_
                  refine X_iload_n rfl rfl rfl rfl ?_
                  refine X_idiv (v := (nI (n / 1000000))) rfl rfl (by decide) (nI_idiv (d := 1000000) (by omega) (by decide)) ?_
                  refine X_iconst (v := (1 : Int32)) rfl rfl rfl ?_
                  refine X_icmp_eq (tgt := 56) rfl rfl rfl (fun h14 => ?_) (fun h14 => ?_)
                  · refine X_iload_n rfl rfl rfl rfl ?_
                    refine X_istore_n (i := 3) (ls' := [some (.ref 355), some (.int (nI (n))), some (.int (1000000 : Int32)), some (.int (nI (n))), none]) rfl rfl rfl (Nat.le_of_ble_eq_true rfl) rfl ?_
                    refine X_aload_n rfl rfl rfl rfl ?_
                    refine X_getI (v := (6 : Int32)) rfl rfl rfl ((congrFun F.1 355).trans s_355) rfl rfl ?_
                    refine X_iconst (v := (1 : Int32)) rfl rfl rfl ?_
                    refine X_isub (v := (5 : Int32)) rfl rfl rfl ?_
                    refine X_istore (i := 4) (ls' := [some (.ref 355), some (.int (nI (n))), some (.int (1000000 : Int32)), some (.int (nI (n))), some (.int (5 : Int32))]) rfl rfl (Nat.le_of_ble_eq_true rfl) rfl ?_
                    refine X_iload rfl rfl rfl ?_
                    refine X_if_lt (tgt := 93) rfl rfl rfl (fun q => absurd q (by decide)) (fun _ => ?_)
                    refine X_aload_n rfl rfl rfl rfl ?_
                    refine X_getR (a := 360) rfl rfl rfl ((congrFun F.1 355).trans s_355) rfl ((congrFun (F.2.1 355 (by decide)) 5).trans r_355_5) ?_
                    refine X_iload rfl rfl rfl ?_
                    refine X_iload_n rfl rfl rfl rfl ?_
                    refine X_bipush (v := (10 : Int32)) rfl rfl rfl ?_
                    refine X_irem (v := (nI (n % 10))) rfl rfl (by decide) (nI_irem (d := 10) (by omega) (by decide)) ?_
                    refine X_iast (k0 := 5) rfl rfl ((congrFun F.1 360).trans s_360) (vp_in_d rfl) rfl ?_
                    refine X_iload_n rfl rfl rfl rfl ?_
                    refine X_bipush (v := (10 : Int32)) rfl rfl rfl ?_
                    refine X_idiv (v := (nI (n / 10))) rfl rfl (by decide) (nI_idiv (d := 10) (by omega) (by decide)) ?_
                    refine X_istore_n (i := 3) (ls' := [some (.ref 355), some (.int (nI (n))), some (.int (1000000 : Int32)), some (.int (nI (n / 10))), some (.int (5 : Int32))]) rfl rfl rfl (Nat.le_of_ble_eq_true rfl) rfl ?_
                    refine X_iinc (v := (4 : Int32)) (ls' := [some (.ref 355), some (.int (nI (n))), some (.int (1000000 : Int32)), some (.int (nI (n / 10))), some (.int (4 : Int32))]) rfl rfl rfl rfl rfl ?_
                    refine LW_goto (tgt := 66) rfl rfl ?_
                    refine X_iload rfl rfl rfl ?_
                    refine X_if_lt (tgt := 93) rfl rfl rfl (fun q => absurd q (by decide)) (fun _ => ?_)
                    refine X_aload_n rfl rfl rfl rfl ?_
                    refine X_getR (a := 360) rfl rfl rfl ((congrFun F.1 355).trans s_355) rfl ((congrFun (F.2.1 355 (by decide)) 5).trans r_355_5) ?_
                    refine X_iload rfl rfl rfl ?_
                    refine X_iload_n rfl rfl rfl rfl ?_
                    refine X_bipush (v := (10 : Int32)) rfl rfl rfl ?_
                    refine X_irem (v := (nI ((n / 10) % 10))) rfl rfl (by decide) (nI_irem (d := 10) (by omega) (by decide)) ?_
                    refine X_iast (k0 := 4) rfl rfl ((congrFun F.1 360).trans s_360) (vp_in_d rfl) rfl ?_
                    refine X_iload_n rfl rfl rfl rfl ?_
                    refine X_bipush (v := (10 : Int32)) rfl rfl rfl ?_
                    refine X_idiv (v := (nI ((n / 10) / 10))) rfl rfl (by decide) (nI_idiv (d := 10) (by omega) (by decide)) ?_
                    refine X_istore_n (i := 3) (ls' := [some (.ref 355), some (.int (nI (n))), some (.int (1000000 : Int32)), some (.int (nI ((n / 10) / 10))), some (.int (4 : Int32))]) rfl rfl rfl (Nat.le_of_ble_eq_true rfl) rfl ?_
                    refine X_iinc (v := (3 : Int32)) (ls' := [some (.ref 355), some (.int (nI (n))), some (.int (1000000 : Int32)), some (.int (nI ((n / 10) / 10))), some (.int (3 : Int32))]) rfl rfl rfl rfl rfl ?_
                    refine LW_goto (tgt := 66) rfl rfl ?_
                    refine X_iload rfl rfl rfl ?_
                    refine X_if_lt (tgt := 93) rfl rfl rfl (fun q => absurd q (by decide)) (fun _ => ?_)
                    refine X_aload_n rfl rfl rfl rfl ?_
                    refine X_getR (a := 360) rfl rfl rfl ((congrFun F.1 355).trans s_355) rfl ((congrFun (F.2.1 355 (by decide)) 5).trans r_355_5) ?_
                    refine X_iload rfl rfl rfl ?_
                    refine X_iload_n rfl rfl rfl rfl ?_
                    refine X_bipush (v := (10 : Int32)) rfl rfl rfl ?_
                    refine X_irem (v := (nI (((n / 10) / 10) % 10))) rfl rfl (by decide) (nI_irem (d := 10) (by omega) (by decide)) ?_
                    refine X_iast (k0 := 3) rfl rfl ((congrFun F.1 360).trans s_360) (vp_in_d rfl) rfl ?_
                    refine X_iload_n rfl rfl rfl rfl ?_
                    refine X_bipush (v := (10 : Int32)) rfl rfl rfl ?_
                    refine X_idiv (v := (nI (((n / 10) / 10) / 10))) rfl rfl (by decide) (nI_idiv (d := 10) (by omega) (by decide)) ?_
                    refine X_istore_n (i := 3) (ls' := [some (.ref 355), some (.int (nI (n))), some (.int (1000000 : Int32)), some (.int (nI (((n / 10) / 10) / 10))), some (.int (3 : Int32))]) rfl rfl rfl (Nat.le_of_ble_eq_true rfl) rfl ?_
                    refine X_iinc (v := (2 : Int32)) (ls' := [some (.ref 355), some (.int (nI (n))), some (.int (1000000 : Int32)), some (.int (nI (((n / 10) / 10) / 10))), some (.int (2 : Int32))]) rfl rfl rfl rfl rfl ?_
                    refine LW_goto (tgt := 66) rfl rfl ?_
                    refine X_iload rfl rfl rfl ?_
                    refine X_if_lt (tgt := 93) rfl rfl rfl (fun q => absurd q (by decide)) (fun _ => ?_)
                    refine X_aload_n rfl rfl rfl rfl ?_
                    refine X_getR (a := 360) rfl rfl rfl ((congrFun F.1 355).trans s_355) rfl ((congrFun (F.2.1 355 (by decide)) 5).trans r_355_5) ?_
                    refine X_iload rfl rfl rfl ?_
                    refine X_iload_n rfl rfl rfl rfl ?_
                    refine X_bipush (v := (10 : Int32)) rfl rfl rfl ?_
                    refine X_irem (v := (nI ((((n / 10) / 10) / 10) % 10))) rfl rfl (by decide) (nI_irem (d := 10) (by omega) (by decide)) ?_
                    refine X_iast (k0 := 2) rfl rfl ((congrFun F.1 360).trans s_360) (vp_in_d rfl) rfl ?_
                    refine X_iload_n rfl rfl rfl rfl ?_
                    refine X_bipush (v := (10 : Int32)) rfl rfl rfl ?_
                    refine X_idiv (v := (nI ((((n / 10) / 10) / 10) / 10))) rfl rfl (by decide) (nI_idiv (d := 10) (by omega) (by decide)) ?_
                    refine X_istore_n (i := 3) (ls' := [some (.ref 355), some (.int (nI (n))), some (.int (1000000 : Int32)), some (.int (nI ((((n / 10) / 10) / 10) / 10))), some (.int (2 : Int32))]) rfl rfl rfl (Nat.le_of_ble_eq_true rfl) rfl ?_
                    refine X_iinc (v := (1 : Int32)) (ls' := [some (.ref 355), some (.int (nI (n))), some (.int (1000000 : Int32)), some (.int (nI ((((n / 10) / 10) / 10) / 10))), some (.int (1 : Int32))]) rfl rfl rfl rfl rfl ?_
                    refine LW_goto (tgt := 66) rfl rfl ?_
                    refine X_iload rfl rfl rfl ?_
                    refine X_if_lt (tgt := 93) rfl rfl rfl (fun q => absurd q (by decide)) (fun _ => ?_)
                    refine X_aload_n rfl rfl rfl rfl ?_
                    refine X_getR (a := 360) rfl rfl rfl ((congrFun F.1 355).trans s_355) rfl ((congrFun (F.2.1 355 (by decide)) 5).trans r_355_5) ?_
                    refine X_iload rfl rfl rfl ?_
                    refine X_iload_n rfl rfl rfl rfl ?_
                    refine X_bipush (v := (10 : Int32)) rfl rfl rfl ?_
                    refine X_irem (v := (nI (((((n / 10) / 10) / 10) / 10) % 10))) rfl rfl (by decide) (nI_irem (d := 10) (by omega) (by decide)) ?_
                    refine X_iast (k0 := 1) rfl rfl ((congrFun F.1 360).trans s_360) (vp_in_d rfl) rfl ?_
                    refine X_iload_n rfl rfl rfl rfl ?_
                    refine X_bipush (v := (10 : Int32)) rfl rfl rfl ?_
                    refine X_idiv (v := (nI (((((n / 10) / 10) / 10) / 10) / 10))) rfl rfl (by decide) (nI_idiv (d := 10) (by omega) (by decide)) ?_
                    refine X_istore_n (i := 3) (ls' := [some (.ref 355), some (.int (nI (n))), some (.int (1000000 : Int32)), some (.int (nI (((((n / 10) / 10) / 10) / 10) / 10))), some (.int (1 : Int32))]) rfl rfl rfl (Nat.le_of_ble_eq_true rfl) rfl ?_
                    refine X_iinc (v := (0 : Int32)) (ls' := [some (.ref 355), some (.int (nI (n))), some (.int (1000000 : Int32)), some (.int (nI (((((n / 10) / 10) / 10) / 10) / 10))), some (.int (0 : Int32))]) rfl rfl rfl rfl rfl ?_
                    refine LW_goto (tgt := 66) rfl rfl ?_
                    refine X_iload rfl rfl rfl ?_
                    refine X_if_lt (tgt := 93) rfl rfl rfl (fun q => absurd q (by decide)) (fun _ => ?_)
                    refine X_aload_n rfl rfl rfl rfl ?_
                    refine X_getR (a := 360) rfl rfl rfl ((congrFun F.1 355).trans s_355) rfl ((congrFun (F.2.1 355 (by decide)) 5).trans r_355_5) ?_
                    refine X_iload rfl rfl rfl ?_
                    refine X_iload_n rfl rfl rfl rfl ?_
                    refine X_bipush (v := (10 : Int32)) rfl rfl rfl ?_
                    refine X_irem (v := (nI ((((((n / 10) / 10) / 10) / 10) / 10) % 10))) rfl rfl (by decide) (nI_irem (d := 10) (by omega) (by decide)) ?_
                    refine X_iast (k0 := 0) rfl rfl ((congrFun F.1 360).trans s_360) (vp_in_d rfl) rfl ?_
                    refine X_iload_n rfl rfl rfl rfl ?_
                    refine X_bipush (v := (10 : Int32)) rfl rfl rfl ?_
                    refine X_idiv (v := (nI ((((((n / 10) / 10) / 10) / 10) / 10) / 10))) rfl rfl (by decide) (nI_idiv (d := 10) (by omega) (by decide)) ?_
                    refine X_istore_n (i := 3) (ls' := [some (.ref 355), some (.int (nI (n))), some (.int (1000000 : Int32)), some (.int (nI ((((((n / 10) / 10) / 10) / 10) / 10) / 10))), some (.int (0 : Int32))]) rfl rfl rfl (Nat.le_of_ble_eq_true rfl) rfl ?_
                    refine X_iinc (v := (-1 : Int32)) (ls' := [some (.ref 355), some (.int (nI (n))), some (.int (1000000 : Int32)), some (.int (nI ((((((n / 10) / 10) / 10) / 10) / 10) / 10))), some (.int (-1 : Int32))]) rfl rfl rfl rfl rfl ?_
                    refine LW_goto (tgt := 66) rfl rfl ?_
                    refine X_iload rfl rfl rfl ?_
                    refine X_if_lt (tgt := 93) rfl rfl rfl (fun _ => ?_) (fun q => absurd q (by decide))
                    refine X_aload_n rfl rfl rfl rfl ?_
                    refine X_callV (as := []) (st := []) rfl rfl rfl (by decide) rfl (Nat.le_of_ble_eq_true rfl) (by decide) (Nat.le_of_ble_eq_true rfl) rfl ((congrFun F.1 355).trans s_355) (by decide) ?_
                    refine LW_ls (ls' := [some (.ref 355), none, none]) rfl ?_
                    refine X_aload_n rfl rfl rfl rfl ?_
                    refine X_getR (a := 356) rfl rfl rfl ((congrFun F.1 355).trans s_355) rfl ((congrFun (F.2.1 355 (by decide)) 0).trans r_355_0) ?_
                    refine X_iconst (v := (1 : Int32)) rfl rfl rfl ?_
                    refine X_iald (v := (0 : Int32)) rfl rfl ((congrFun F.1 356).trans s_356) (vp_in_d rfl) ((congrFun (F.2.2 356 (by decide)).1 1).trans i_356_1) ?_
                    refine X_bipush (v := (8 : Int32)) rfl rfl rfl ?_
                    refine X_icmp_ne (tgt := 13) rfl rfl rfl (fun _ => ?_) (fun q => absurd q (by decide))
                    refine X_sipush (v := (356 : Int32)) rfl rfl rfl ?_
                    refine X_bipush (v := (9 : Int32)) rfl rfl rfl ?_
                    refine X_aload_n rfl rfl rfl rfl ?_
                    refine X_getR (a := 356) rfl rfl rfl ((congrFun F.1 355).trans s_355) rfl ((congrFun (F.2.1 355 (by decide)) 0).trans r_355_0) ?_
                    refine X_iconst (v := (1 : Int32)) rfl rfl rfl ?_
                    refine X_iald (v := (0 : Int32)) rfl rfl ((congrFun F.1 356).trans s_356) (vp_in_d rfl) ((congrFun (F.2.2 356 (by decide)).1 1).trans i_356_1) ?_
                    refine X_imul (v := (0 : Int32)) rfl rfl rfl ?_
                    refine X_iadd (v := (356 : Int32)) rfl rfl rfl ?_
                    refine X_istore_n (i := 1) (ls' := [some (.ref 355), some (.int (356 : Int32)), none]) rfl rfl rfl (Nat.le_of_ble_eq_true rfl) rfl ?_
                    refine X_aload_n rfl rfl rfl rfl ?_
                    refine X_getR (a := 356) rfl rfl rfl ((congrFun F.1 355).trans s_355) rfl ((congrFun (F.2.1 355 (by decide)) 0).trans r_355_0) ?_
                    refine X_iload_n rfl rfl rfl rfl ?_
                    refine X_aload_n rfl rfl rfl rfl ?_
                    refine X_getI (v := (6 : Int32)) rfl rfl rfl ((congrFun F.1 355).trans s_355) rfl rfl ?_
                    refine X_iast (k0 := 356) rfl rfl ((congrFun F.1 356).trans s_356) (vp_in_d rfl) rfl ?_
                    refine X_iconst (v := (0 : Int32)) rfl rfl rfl ?_
                    refine X_istore_n (i := 2) (ls' := [some (.ref 355), some (.int (356 : Int32)), some (.int (0 : Int32))]) rfl rfl rfl (Nat.le_of_ble_eq_true rfl) rfl ?_
                    refine X_iload_n rfl rfl rfl rfl ?_
                    refine X_aload_n rfl rfl rfl rfl ?_
                    refine X_getI (v := (6 : Int32)) rfl rfl rfl ((congrFun F.1 355).trans s_355) rfl rfl ?_
                    refine X_icmp_ge (tgt := 69) rfl rfl rfl (fun q => absurd q (by decide)) (fun _ => ?_)
                    refine X_aload_n rfl rfl rfl rfl ?_
                    refine X_getR (a := 356) rfl rfl rfl ((congrFun F.1 355).trans s_355) rfl ((congrFun (F.2.1 355 (by decide)) 0).trans r_355_0) ?_
                    refine X_iload_n rfl rfl rfl rfl ?_
                    refine X_iconst (v := (1 : Int32)) rfl rfl rfl ?_
                    refine X_iadd (v := (357 : Int32)) rfl rfl rfl ?_
                    refine X_iload_n rfl rfl rfl rfl ?_
                    refine X_iadd (v := (357 : Int32)) rfl rfl rfl ?_
                    refine X_aload_n rfl rfl rfl rfl ?_
                    refine X_getR (a := 360) rfl rfl rfl ((congrFun F.1 355).trans s_355) rfl ((congrFun (F.2.1 355 (by decide)) 5).trans r_355_5) ?_
                    refine X_iload_n rfl rfl rfl rfl ?_
                    refine X_iald (v := (nI ((((((n / 10) / 10) / 10) / 10) / 10) % 10))) rfl rfl ((congrFun F.1 360).trans s_360) (vp_in_d rfl) rfl ?_
                    refine X_iast (k0 := 357) rfl rfl ((congrFun F.1 356).trans s_356) (vp_in_d rfl) rfl ?_
                    refine X_iinc (v := (1 : Int32)) (ls' := [some (.ref 355), some (.int (356 : Int32)), some (.int (1 : Int32))]) rfl rfl rfl rfl rfl ?_
                    refine LW_goto (tgt := 39) rfl rfl ?_
                    refine X_iload_n rfl rfl rfl rfl ?_
                    refine X_aload_n rfl rfl rfl rfl ?_
                    refine X_getI (v := (6 : Int32)) rfl rfl rfl ((congrFun F.1 355).trans s_355) rfl rfl ?_
                    refine X_icmp_ge (tgt := 69) rfl rfl rfl (fun q => absurd q (by decide)) (fun _ => ?_)
                    refine X_aload_n rfl rfl rfl rfl ?_
                    refine X_getR (a := 356) rfl rfl rfl ((congrFun F.1 355).trans s_355) rfl ((congrFun (F.2.1 355 (by decide)) 0).trans r_355_0) ?_
                    refine X_iload_n rfl rfl rfl rfl ?_
                    refine X_iconst (v := (1 : Int32)) rfl rfl rfl ?_
                    refine X_iadd (v := (357 : Int32)) rfl rfl rfl ?_
                    refine X_iload_n rfl rfl rfl rfl ?_
                    refine X_iadd (v := (358 : Int32)) rfl rfl rfl ?_
                    refine X_aload_n rfl rfl rfl rfl ?_
                    refine X_getR (a := 360) rfl rfl rfl ((congrFun F.1 355).trans s_355) rfl ((congrFun (F.2.1 355 (by decide)) 5).trans r_355_5) ?_
                    refine X_iload_n rfl rfl rfl rfl ?_
                    refine X_iald (v := (nI (((((n / 10) / 10) / 10) / 10) % 10))) rfl rfl ((congrFun F.1 360).trans s_360) (vp_in_d rfl) rfl ?_
                    refine X_iast (k0 := 358) rfl rfl ((congrFun F.1 356).trans s_356) (vp_in_d rfl) rfl ?_
                    refine X_iinc (v := (2 : Int32)) (ls' := [some (.ref 355), some (.int (356 : Int32)), some (.int (2 : Int32))]) rfl rfl rfl rfl rfl ?_
                    refine LW_goto (tgt := 39) rfl rfl ?_
                    refine X_iload_n rfl rfl rfl rfl ?_
                    refine X_aload_n rfl rfl rfl rfl ?_
                    refine X_getI (v := (6 : Int32)) rfl rfl rfl ((congrFun F.1 355).trans s_355) rfl rfl ?_
                    refine X_icmp_ge (tgt := 69) rfl rfl rfl (fun q => absurd q (by decide)) (fun _ => ?_)
                    refine X_aload_n rfl rfl rfl rfl ?_
                    refine X_getR (a := 356) rfl rfl rfl ((congrFun F.1 355).trans s_355) rfl ((congrFun (F.2.1 355 (by decide)) 0).trans r_355_0) ?_
                    refine X_iload_n rfl rfl rfl rfl ?_
                    refine X_iconst (v := (1 : Int32)) rfl rfl rfl ?_
                    refine X_iadd (v := (357 : Int32)) rfl rfl rfl ?_
                    refine X_iload_n rfl rfl rfl rfl ?_
                    refine X_iadd (v := (359 : Int32)) rfl rfl rfl ?_
                    refine X_aload_n rfl rfl rfl rfl ?_
                    refine X_getR (a := 360) rfl rfl rfl ((congrFun F.1 355).trans s_355) rfl ((congrFun (F.2.1 355 (by decide)) 5).trans r_355_5) ?_
                    refine X_iload_n rfl rfl rfl rfl ?_
                    refine X_iald (v := (nI ((((n / 10) / 10) / 10) % 10))) rfl rfl ((congrFun F.1 360).trans s_360) (vp_in_d rfl) rfl ?_
                    refine X_iast (k0 := 359) rfl rfl ((congrFun F.1 356).trans s_356) (vp_in_d rfl) rfl ?_
                    refine X_iinc (v := (3 : Int32)) (ls' := [some (.ref 355), some (.int (356 : Int32)), some (.int (3 : Int32))]) rfl rfl rfl rfl rfl ?_
                    refine LW_goto (tgt := 39) rfl rfl ?_
                    refine X_iload_n rfl rfl rfl rfl ?_
                    refine X_aload_n rfl rfl rfl rfl ?_
                    refine X_getI (v := (6 : Int32)) rfl rfl rfl ((congrFun F.1 355).trans s_355) rfl rfl ?_
                    refine X_icmp_ge (tgt := 69) rfl rfl rfl (fun q => absurd q (by decide)) (fun _ => ?_)
                    refine X_aload_n rfl rfl rfl rfl ?_
                    refine X_getR (a := 356) rfl rfl rfl ((congrFun F.1 355).trans s_355) rfl ((congrFun (F.2.1 355 (by decide)) 0).trans r_355_0) ?_
                    refine X_iload_n rfl rfl rfl rfl ?_
                    refine X_iconst (v := (1 : Int32)) rfl rfl rfl ?_
                    refine X_iadd (v := (357 : Int32)) rfl rfl rfl ?_
                    refine X_iload_n rfl rfl rfl rfl ?_
                    refine X_iadd (v := (360 : Int32)) rfl rfl rfl ?_
                    refine X_aload_n rfl rfl rfl rfl ?_
                    refine X_getR (a := 360) rfl rfl rfl ((congrFun F.1 355).trans s_355) rfl ((congrFun (F.2.1 355 (by decide)) 5).trans r_355_5) ?_
                    refine X_iload_n rfl rfl rfl rfl ?_
                    refine X_iald (v := (nI (((n / 10) / 10) % 10))) rfl rfl ((congrFun F.1 360).trans s_360) (vp_in_d rfl) rfl ?_
                    refine X_iast (k0 := 360) rfl rfl ((congrFun F.1 356).trans s_356) (vp_in_d rfl) rfl ?_
                    refine X_iinc (v := (4 : Int32)) (ls' := [some (.ref 355), some (.int (356 : Int32)), some (.int (4 : Int32))]) rfl rfl rfl rfl rfl ?_
                    refine LW_goto (tgt := 39) rfl rfl ?_
                    refine X_iload_n rfl rfl rfl rfl ?_
                    refine X_aload_n rfl rfl rfl rfl ?_
                    refine X_getI (v := (6 : Int32)) rfl rfl rfl ((congrFun F.1 355).trans s_355) rfl rfl ?_
                    refine X_icmp_ge (tgt := 69) rfl rfl rfl (fun q => absurd q (by decide)) (fun _ => ?_)
                    refine X_aload_n rfl rfl rfl rfl ?_
                    refine X_getR (a := 356) rfl rfl rfl ((congrFun F.1 355).trans s_355) rfl ((congrFun (F.2.1 355 (by decide)) 0).trans r_355_0) ?_
                    refine X_iload_n rfl rfl rfl rfl ?_
                    refine X_iconst (v := (1 : Int32)) rfl rfl rfl ?_
                    refine X_iadd (v := (357 : Int32)) rfl rfl rfl ?_
                    refine X_iload_n rfl rfl rfl rfl ?_
                    refine X_iadd (v := (361 : Int32)) rfl rfl rfl ?_
                    refine X_aload_n rfl rfl rfl rfl ?_
                    refine X_getR (a := 360) rfl rfl rfl ((congrFun F.1 355).trans s_355) rfl ((congrFun (F.2.1 355 (by decide)) 5).trans r_355_5) ?_
                    refine X_iload_n rfl rfl rfl rfl ?_
                    refine X_iald (v := (nI ((n / 10) % 10))) rfl rfl ((congrFun F.1 360).trans s_360) (vp_in_d rfl) rfl ?_
                    refine X_iast (k0 := 361) rfl rfl ((congrFun F.1 356).trans s_356) (vp_in_d rfl) rfl ?_
                    refine X_iinc (v := (5 : Int32)) (ls' := [some (.ref 355), some (.int (356 : Int32)), some (.int (5 : Int32))]) rfl rfl rfl rfl rfl ?_
                    refine LW_goto (tgt := 39) rfl rfl ?_
                    refine X_iload_n rfl rfl rfl rfl ?_
                    refine X_aload_n rfl rfl rfl rfl ?_
                    refine X_getI (v := (6 : Int32)) rfl rfl rfl ((congrFun F.1 355).trans s_355) rfl rfl ?_
                    refine X_icmp_ge (tgt := 69) rfl rfl rfl (fun q => absurd q (by decide)) (fun _ => ?_)
                    refine X_aload_n rfl rfl rfl rfl ?_
                    refine X_getR (a := 356) rfl rfl rfl ((congrFun F.1 355).trans s_355) rfl ((congrFun (F.2.1 355 (by decide)) 0).trans r_355_0) ?_
                    refine X_iload_n rfl rfl rfl rfl ?_
                    refine X_iconst (v := (1 : Int32)) rfl rfl rfl ?_
                    refine X_iadd (v := (357 : Int32)) rfl rfl rfl ?_
                    refine X_iload_n rfl rfl rfl rfl ?_
                    refine X_iadd (v := (362 : Int32)) rfl rfl rfl ?_
                    refine X_aload_n rfl rfl rfl rfl ?_
                    refine X_getR (a := 360) rfl rfl rfl ((congrFun F.1 355).trans s_355) rfl ((congrFun (F.2.1 355 (by decide)) 5).trans r_355_5) ?_
                    refine X_iload_n rfl rfl rfl rfl ?_
                    refine X_iald (v := (nI (n % 10))) rfl rfl ((congrFun F.1 360).trans s_360) (vp_in_d rfl) rfl ?_
                    refine X_iast (k0 := 362) rfl rfl ((congrFun F.1 356).trans s_356) (vp_in_d rfl) rfl ?_
                    refine X_iinc (v := (6 : Int32)) (ls' := [some (.ref 355), some (.int (356 : Int32)), some (.int (6 : Int32))]) rfl rfl rfl rfl rfl ?_
                    refine LW_goto (tgt := 39) rfl rfl ?_
                    refine X_iload_n rfl rfl rfl rfl ?_
                    refine X_aload_n rfl rfl rfl rfl ?_
                    refine X_getI (v := (6 : Int32)) rfl rfl rfl ((congrFun F.1 355).trans s_355) rfl rfl ?_
                    refine X_icmp_ge (tgt := 69) rfl rfl rfl (fun _ => ?_) (fun q => absurd q (by decide))
                    refine X_aload_n rfl rfl rfl rfl ?_
                    refine X_getR (a := 356) rfl rfl rfl ((congrFun F.1 355).trans s_355) rfl ((congrFun (F.2.1 355 (by decide)) 0).trans r_355_0) ?_
                    refine X_iconst (v := (1 : Int32)) rfl rfl rfl ?_
                    refine X_dup2 rfl rfl rfl rfl ?_
                    refine X_iald (v := (0 : Int32)) rfl rfl ((congrFun F.1 356).trans s_356) (vp_in_d rfl) ((congrFun (F.2.2 356 (by decide)).1 1).trans i_356_1) ?_
                    refine X_iconst (v := (1 : Int32)) rfl rfl rfl ?_
                    refine X_iadd (v := (1 : Int32)) rfl rfl rfl ?_
                    refine X_iast (k0 := 1) rfl rfl ((congrFun F.1 356).trans s_356) (vp_in_d rfl) rfl ?_
                    refine X_aload_n rfl rfl rfl rfl ?_
                    refine X_getR (a := 356) rfl rfl rfl ((congrFun F.1 355).trans s_355) rfl ((congrFun (F.2.1 355 (by decide)) 0).trans r_355_0) ?_
                    refine X_iconst (v := (1 : Int32)) rfl rfl rfl ?_
                    refine X_iald (v := (1 : Int32)) rfl rfl ((congrFun F.1 356).trans s_356) (vp_in_d rfl) rfl ?_
                    refine X_iconst (v := (1 : Int32)) rfl rfl rfl ?_
                    refine X_isub (v := (0 : Int32)) rfl rfl rfl ?_
                    refine LW_ireturn (st := []) rfl rfl rfl ?_
                    refine LW_ireturn (st := []) rfl rfl rfl (congrArg (fun z => some (Value.int z)) ?_)
                    simp only [Int32.lt_iff_toInt_lt, Int32.le_iff_toInt_le, ← Int32.toInt_inj, (show (1 : Int32).toInt = 1 from rfl), (show (9 : Int32).toInt = 9 from rfl), (show (10 : Int32).toInt = 10 from rfl), (show (199999999 : Int32).toInt = 199999999 from rfl), (nI_toInt (n := n) (by omega)), (nI_toInt (n := n / 10) (by omega)), (nI_toInt (n := n / 100) (by omega)), (nI_toInt (n := n / 1000) (by omega)), (nI_toInt (n := n / 10000) (by omega)), (nI_toInt (n := n / 100000) (by omega)), (nI_toInt (n := n / 1000000) (by omega))] at h1 h2 h3 h5 h7 h9 h11 h13 h14
                    unfold f_sayN
                    rw [if_pos (by omega)]
                  · refine X_iconst (v := (-1 : Int32)) rfl rfl rfl ?_
                    refine LW_ireturn (st := []) rfl rfl rfl (congrArg (fun z => some (Value.int z)) ?_)
                    simp only [Int32.lt_iff_toInt_lt, Int32.le_iff_toInt_le, ← Int32.toInt_inj, (show (1 : Int32).toInt = 1 from rfl), (show (9 : Int32).toInt = 9 from rfl), (show (10 : Int32).toInt = 10 from rfl), (show (199999999 : Int32).toInt = 199999999 from rfl), (nI_toInt (n := n) (by omega)), (nI_toInt (n := n / 10) (by omega)), (nI_toInt (n := n / 100) (by omega)), (nI_toInt (n := n / 1000) (by omega)), (nI_toInt (n := n / 10000) (by omega)), (nI_toInt (n := n / 100000) (by omega)), (nI_toInt (n := n / 1000000) (by omega))] at h1 h2 h3 h5 h7 h9 h11 h13 h14
                    unfold f_sayN
                    rw [if_neg (by omega)]
                · refine X_iload_n rfl rfl rfl rfl ?_
                  refine X_bipush (v := (10 : Int32)) rfl rfl rfl ?_
                  refine X_imul (v := (10000000 : Int32)) rfl rfl rfl ?_
                  refine X_istore_n (i := 2) (ls' := [some (.ref 355), some (.int (nI (n))), some (.int (10000000 : Int32)), none, none]) rfl rfl rfl (Nat.le_of_ble_eq_true rfl) rfl ?_
                  refine X_aload_n rfl rfl rfl rfl ?_
                  refine X_dup rfl rfl rfl ?_
                  refine X_getI (v := (6 : Int32)) rfl rfl rfl ((congrFun F.1 355).trans s_355) rfl rfl ?_
                  refine X_iconst (v := (1 : Int32)) rfl rfl rfl ?_
                  refine X_iadd (v := (7 : Int32)) rfl rfl rfl ?_
                  refine X_putI rfl rfl rfl ((congrFun F.1 355).trans s_355) rfl rfl rfl rfl ?_
                  refine LW_goto (tgt := 21) rfl rfl ?_
                  refine X_iload_n rfl rfl rfl rfl ?_
                  refine X_iload_n rfl rfl rfl rfl ?_
                  refine X_idiv (v := (nI (n / 10000000))) rfl rfl (by decide) (nI_idiv (d := 10000000) (by omega) (by decide)) ?_
                  refine X_bipush (v := (9 : Int32)) rfl rfl rfl ?_
                  refine X_icmp_le (tgt := 47) rfl rfl rfl (fun h15 => ?_) (fun h15 => ?_)
                  · refine X_iload_n rfl rfl rfl rfl ?_
                    refine X_iload_n rfl rfl rfl rfl ?_
                    refine X_idiv (v := (nI (n / 10000000))) rfl rfl (by decide) (nI_idiv (d := 10000000) (by omega) (by decide)) ?_
                    refine X_iconst (v := (1 : Int32)) rfl rfl rfl ?_
                    refine X_icmp_eq (tgt := 56) rfl rfl rfl (fun h16 => ?_) (fun h16 => ?_)
                    · refine X_iload_n rfl rfl rfl rfl ?_
                      refine X_istore_n (i := 3) (ls' := [some (.ref 355), some (.int (nI (n))), some (.int (10000000 : Int32)), some (.int (nI (n))), none]) rfl rfl rfl (Nat.le_of_ble_eq_true rfl) rfl ?_
                      refine X_aload_n rfl rfl rfl rfl ?_
                      refine X_getI (v := (7 : Int32)) rfl rfl rfl ((congrFun F.1 355).trans s_355) rfl rfl ?_
                      refine X_iconst (v := (1 : Int32)) rfl rfl rfl ?_
                      refine X_isub (v := (6 : Int32)) rfl rfl rfl ?_
                      refine X_istore (i := 4) (ls' := [some (.ref 355), some (.int (nI (n))), some (.int (10000000 : Int32)), some (.int (nI (n))), some (.int (6 : Int32))]) rfl rfl (Nat.le_of_ble_eq_true rfl) rfl ?_
                      refine X_iload rfl rfl rfl ?_
                      refine X_if_lt (tgt := 93) rfl rfl rfl (fun q => absurd q (by decide)) (fun _ => ?_)
                      refine X_aload_n rfl rfl rfl rfl ?_
                      refine X_getR (a := 360) rfl rfl rfl ((congrFun F.1 355).trans s_355) rfl ((congrFun (F.2.1 355 (by decide)) 5).trans r_355_5) ?_
                      refine X_iload rfl rfl rfl ?_
                      refine X_iload_n rfl rfl rfl rfl ?_
                      refine X_bipush (v := (10 : Int32)) rfl rfl rfl ?_
                      refine X_irem (v := (nI (n % 10))) rfl rfl (by decide) (nI_irem (d := 10) (by omega) (by decide)) ?_
                      refine X_iast (k0 := 6) rfl rfl ((congrFun F.1 360).trans s_360) (vp_in_d rfl) rfl ?_
                      refine X_iload_n rfl rfl rfl rfl ?_
                      refine X_bipush (v := (10 : Int32)) rfl rfl rfl ?_
                      refine X_idiv (v := (nI (n / 10))) rfl rfl (by decide) (nI_idiv (d := 10) (by omega) (by decide)) ?_
                      refine X_istore_n (i := 3) (ls' := [some (.ref 355), some (.int (nI (n))), some (.int (10000000 : Int32)), some (.int (nI (n / 10))), some (.int (6 : Int32))]) rfl rfl rfl (Nat.le_of_ble_eq_true rfl) rfl ?_
                      refine X_iinc (v := (5 : Int32)) (ls' := [some (.ref 355), some (.int (nI (n))), some (.int (10000000 : Int32)), some (.int (nI (n / 10))), some (.int (5 : Int32))]) rfl rfl rfl rfl rfl ?_
                      refine LW_goto (tgt := 66) rfl rfl ?_
                      refine X_iload rfl rfl rfl ?_
                      refine X_if_lt (tgt := 93) rfl rfl rfl (fun q => absurd q (by decide)) (fun _ => ?_)
                      refine X_aload_n rfl rfl rfl rfl ?_
                      refine X_getR (a := 360) rfl rfl rfl ((congrFun F.1 355).trans s_355) rfl ((congrFun (F.2.1 355 (by decide)) 5).trans r_355_5) ?_
                      refine X_iload rfl rfl rfl ?_
                      refine X_iload_n rfl rfl rfl rfl ?_
                      refine X_bipush (v := (10 : Int32)) rfl rfl rfl ?_
                      refine X_irem (v := (nI ((n / 10) % 10))) rfl rfl (by decide) (nI_irem (d := 10) (by omega) (by decide)) ?_
                      refine X_iast (k0 := 5) rfl rfl ((congrFun F.1 360).trans s_360) (vp_in_d rfl) rfl ?_
                      refine X_iload_n rfl rfl rfl rfl ?_
                      refine X_bipush (v := (10 : Int32)) rfl rfl rfl ?_
                      refine X_idiv (v := (nI ((n / 10) / 10))) rfl rfl (by decide) (nI_idiv (d := 10) (by omega) (by decide)) ?_
                      refine X_istore_n (i := 3) (ls' := [some (.ref 355), some (.int (nI (n))), some (.int (10000000 : Int32)), some (.int (nI ((n / 10) / 10))), some (.int (5 : Int32))]) rfl rfl rfl (Nat.le_of_ble_eq_true rfl) rfl ?_
                      refine X_iinc (v := (4 : Int32)) (ls' := [some (.ref 355), some (.int (nI (n))), some (.int (10000000 : Int32)), some (.int (nI ((n / 10) / 10))), some (.int (4 : Int32))]) rfl rfl rfl rfl rfl ?_
                      refine LW_goto (tgt := 66) rfl rfl ?_
                      refine X_iload rfl rfl rfl ?_
                      refine X_if_lt (tgt := 93) rfl rfl rfl (fun q => absurd q (by decide)) (fun _ => ?_)
                      refine X_aload_n rfl rfl rfl rfl ?_
                      refine X_getR (a := 360) rfl rfl rfl ((congrFun F.1 355).trans s_355) rfl ((congrFun (F.2.1 355 (by decide)) 5).trans r_355_5) ?_
                      refine X_iload rfl rfl rfl ?_
                      refine X_iload_n rfl rfl rfl rfl ?_
                      refine X_bipush (v := (10 : Int32)) rfl rfl rfl ?_
                      refine X_irem (v := (nI (((n / 10) / 10) % 10))) rfl rfl (by decide) (nI_irem (d := 10) (by omega) (by decide)) ?_
                      refine X_iast (k0 := 4) rfl rfl ((congrFun F.1 360).trans s_360) (vp_in_d rfl) rfl ?_
                      refine X_iload_n rfl rfl rfl rfl ?_
                      refine X_bipush (v := (10 : Int32)) rfl rfl rfl ?_
                      refine X_idiv (v := (nI (((n / 10) / 10) / 10))) rfl rfl (by decide) (nI_idiv (d := 10) (by omega) (by decide)) ?_
                      refine X_istore_n (i := 3) (ls' := [some (.ref 355), some (.int (nI (n))), some (.int (10000000 : Int32)), some (.int (nI (((n / 10) / 10) / 10))), some (.int (4 : Int32))]) rfl rfl rfl (Nat.le_of_ble_eq_true rfl) rfl ?_
                      refine X_iinc (v := (3 : Int32)) (ls' := [some (.ref 355), some (.int (nI (n))), some (.int (10000000 : Int32)), some (.int (nI (((n / 10) / 10) / 10))), some (.int (3 : Int32))]) rfl rfl rfl rfl rfl ?_
                      refine LW_goto (tgt := 66) rfl rfl ?_
                      refine X_iload rfl rfl rfl ?_
                      refine X_if_lt (tgt := 93) rfl rfl rfl (fun q => absurd q (by decide)) (fun _ => ?_)
                      refine X_aload_n rfl rfl rfl rfl ?_
                      refine X_getR (a := 360) rfl rfl rfl ((congrFun F.1 355).trans s_355) rfl ((congrFun (F.2.1 355 (by decide)) 5).trans r_355_5) ?_
                      refine X_iload rfl rfl rfl ?_
                      refine X_iload_n rfl rfl rfl rfl ?_
                      refine X_bipush (v := (10 : Int32)) rfl rfl rfl ?_
                      refine X_irem (v := (nI ((((n / 10) / 10) / 10) % 10))) rfl rfl (by decide) (nI_irem (d := 10) (by omega) (by decide)) ?_
                      refine X_iast (k0 := 3) rfl rfl ((congrFun F.1 360).trans s_360) (vp_in_d rfl) rfl ?_
                      refine X_iload_n rfl rfl rfl rfl ?_
                      refine X_bipush (v := (10 : Int32)) rfl rfl rfl ?_
                      refine X_idiv (v := (nI ((((n / 10) / 10) / 10) / 10))) rfl rfl (by decide) (nI_idiv (d := 10) (by omega) (by decide)) ?_
                      refine X_istore_n (i := 3) (ls' := [some (.ref 355), some (.int (nI (n))), some (.int (10000000 : Int32)), some (.int (nI ((((n / 10) / 10) / 10) / 10))), some (.int (3 : Int32))]) rfl rfl rfl (Nat.le_of_ble_eq_true rfl) rfl ?_
                      refine X_iinc (v := (2 : Int32)) (ls' := [some (.ref 355), some (.int (nI (n))), some (.int (10000000 : Int32)), some (.int (nI ((((n / 10) / 10) / 10) / 10))), some (.int (2 : Int32))]) rfl rfl rfl rfl rfl ?_
                      refine LW_goto (tgt := 66) rfl rfl ?_
                      refine X_iload rfl rfl rfl ?_
                      refine X_if_lt (tgt := 93) rfl rfl rfl (fun q => absurd q (by decide)) (fun _ => ?_)
                      refine X_aload_n rfl rfl rfl rfl ?_
                      refine X_getR (a := 360) rfl rfl rfl ((congrFun F.1 355).trans s_355) rfl ((congrFun (F.2.1 355 (by decide)) 5).trans r_355_5) ?_
                      refine X_iload rfl rfl rfl ?_
                      refine X_iload_n rfl rfl rfl rfl ?_
                      refine X_bipush (v := (10 : Int32)) rfl rfl rfl ?_
                      refine X_irem (v := (nI (((((n / 10) / 10) / 10) / 10) % 10))) rfl rfl (by decide) (nI_irem (d := 10) (by omega) (by decide)) ?_
                      refine X_iast (k0 := 2) rfl rfl ((congrFun F.1 360).trans s_360) (vp_in_d rfl) rfl ?_
                      refine X_iload_n rfl rfl rfl rfl ?_
                      refine X_bipush (v := (10 : Int32)) rfl rfl rfl ?_
                      refine X_idiv (v := (nI (((((n / 10) / 10) / 10) / 10) / 10))) rfl rfl (by decide) (nI_idiv (d := 10) (by omega) (by decide)) ?_
                      refine X_istore_n (i := 3) (ls' := [some (.ref 355), some (.int (nI (n))), some (.int (10000000 : Int32)), some (.int (nI (((((n / 10) / 10) / 10) / 10) / 10))), some (.int (2 : Int32))]) rfl rfl rfl (Nat.le_of_ble_eq_true rfl) rfl ?_
                      refine X_iinc (v := (1 : Int32)) (ls' := [some (.ref 355), some (.int (nI (n))), some (.int (10000000 : Int32)), some (.int (nI (((((n / 10) / 10) / 10) / 10) / 10))), some (.int (1 : Int32))]) rfl rfl rfl rfl rfl ?_
                      refine LW_goto (tgt := 66) rfl rfl ?_
                      refine X_iload rfl rfl rfl ?_
                      refine X_if_lt (tgt := 93) rfl rfl rfl (fun q => absurd q (by decide)) (fun _ => ?_)
                      refine X_aload_n rfl rfl rfl rfl ?_
                      refine X_getR (a := 360) rfl rfl rfl ((congrFun F.1 355).trans s_355) rfl ((congrFun (F.2.1 355 (by decide)) 5).trans r_355_5) ?_
                      refine X_iload rfl rfl rfl ?_
                      refine X_iload_n rfl rfl rfl rfl ?_
                      refine X_bipush (v := (10 : Int32)) rfl rfl rfl ?_
                      refine X_irem (v := (nI ((((((n / 10) / 10) / 10) / 10) / 10) % 10))) rfl rfl (by decide) (nI_irem (d := 10) (by omega) (by decide)) ?_
                      refine X_iast (k0 := 1) rfl rfl ((congrFun F.1 360).trans s_360) (vp_in_d rfl) rfl ?_
                      refine X_iload_n rfl rfl rfl rfl ?_
                      refine X_bipush (v := (10 : Int32)) rfl rfl rfl ?_
                      refine X_idiv (v := (nI ((((((n / 10) / 10) / 10) / 10) / 10) / 10))) rfl rfl (by decide) (nI_idiv (d := 10) (by omega) (by decide)) ?_
                      refine X_istore_n (i := 3) (ls' := [some (.ref 355), some (.int (nI (n))), some (.int (10000000 : Int32)), some (.int (nI ((((((n / 10) / 10) / 10) / 10) / 10) / 10))), some (.int (1 : Int32))]) rfl rfl rfl (Nat.le_of_ble_eq_true rfl) rfl ?_
                      refine X_iinc (v := (0 : Int32)) (ls' := [some (.ref 355), some (.int (nI (n))), some (.int (10000000 : Int32)), some (.int (nI ((((((n / 10) / 10) / 10) / 10) / 10) / 10))), some (.int (0 : Int32))]) rfl rfl rfl rfl rfl ?_
                      refine LW_goto (tgt := 66) rfl rfl ?_
                      refine X_iload rfl rfl rfl ?_
                      refine X_if_lt (tgt := 93) rfl rfl rfl (fun q => absurd q (by decide)) (fun _ => ?_)
                      refine X_aload_n rfl rfl rfl rfl ?_
                      refine X_getR (a := 360) rfl rfl rfl ((congrFun F.1 355).trans s_355) rfl ((congrFun (F.2.1 355 (by decide)) 5).trans r_355_5) ?_
                      refine X_iload rfl rfl rfl ?_
                      refine X_iload_n rfl rfl rfl rfl ?_
                      refine X_bipush (v := (10 : Int32)) rfl rfl rfl ?_
                      refine X_irem (v := (nI (((((((n / 10) / 10) / 10) / 10) / 10) / 10) % 10))) rfl rfl (by decide) (nI_irem (d := 10) (by omega) (by decide)) ?_
                      refine X_iast (k0 := 0) rfl rfl ((congrFun F.1 360).trans s_360) (vp_in_d rfl) rfl ?_
                      refine X_iload_n rfl rfl rfl rfl ?_
                      refine X_bipush (v := (10 : Int32)) rfl rfl rfl ?_
                      refine X_idiv (v := (nI (((((((n / 10) / 10) / 10) / 10) / 10) / 10) / 10))) rfl rfl (by decide) (nI_idiv (d := 10) (by omega) (by decide)) ?_
                      refine X_istore_n (i := 3) (ls' := [some (.ref 355), some (.int (nI (n))), some (.int (10000000 : Int32)), some (.int (nI (((((((n / 10) / 10) / 10) / 10) / 10) / 10) / 10))), some (.int (0 : Int32))]) rfl rfl rfl (Nat.le_of_ble_eq_true rfl) rfl ?_
                      refine X_iinc (v := (-1 : Int32)) (ls' := [some (.ref 355), some (.int (nI (n))), some (.int (10000000 : Int32)), some (.int (nI (((((((n / 10) / 10) / 10) / 10) / 10) / 10) / 10))), some (.int (-1 : Int32))]) rfl rfl rfl rfl rfl ?_
                      refine LW_goto (tgt := 66) rfl rfl ?_
                      refine X_iload rfl rfl rfl ?_
                      refine X_if_lt (tgt := 93) rfl rfl rfl (fun _ => ?_) (fun q => absurd q (by decide))
                      refine X_aload_n rfl rfl rfl rfl ?_
                      refine X_callV (as := []) (st := []) rfl rfl rfl (by decide) rfl (Nat.le_of_ble_eq_true rfl) (by decide) (Nat.le_of_ble_eq_true rfl) rfl ((congrFun F.1 355).trans s_355) (by decide) ?_
                      refine LW_ls (ls' := [some (.ref 355), none, none]) rfl ?_
                      refine X_aload_n rfl rfl rfl rfl ?_
                      refine X_getR (a := 356) rfl rfl rfl ((congrFun F.1 355).trans s_355) rfl ((congrFun (F.2.1 355 (by decide)) 0).trans r_355_0) ?_
                      refine X_iconst (v := (1 : Int32)) rfl rfl rfl ?_
                      refine X_iald (v := (0 : Int32)) rfl rfl ((congrFun F.1 356).trans s_356) (vp_in_d rfl) ((congrFun (F.2.2 356 (by decide)).1 1).trans i_356_1) ?_
                      refine X_bipush (v := (8 : Int32)) rfl rfl rfl ?_
                      refine X_icmp_ne (tgt := 13) rfl rfl rfl (fun _ => ?_) (fun q => absurd q (by decide))
                      refine X_sipush (v := (356 : Int32)) rfl rfl rfl ?_
                      refine X_bipush (v := (9 : Int32)) rfl rfl rfl ?_
                      refine X_aload_n rfl rfl rfl rfl ?_
                      refine X_getR (a := 356) rfl rfl rfl ((congrFun F.1 355).trans s_355) rfl ((congrFun (F.2.1 355 (by decide)) 0).trans r_355_0) ?_
                      refine X_iconst (v := (1 : Int32)) rfl rfl rfl ?_
                      refine X_iald (v := (0 : Int32)) rfl rfl ((congrFun F.1 356).trans s_356) (vp_in_d rfl) ((congrFun (F.2.2 356 (by decide)).1 1).trans i_356_1) ?_
                      refine X_imul (v := (0 : Int32)) rfl rfl rfl ?_
                      refine X_iadd (v := (356 : Int32)) rfl rfl rfl ?_
                      refine X_istore_n (i := 1) (ls' := [some (.ref 355), some (.int (356 : Int32)), none]) rfl rfl rfl (Nat.le_of_ble_eq_true rfl) rfl ?_
                      refine X_aload_n rfl rfl rfl rfl ?_
                      refine X_getR (a := 356) rfl rfl rfl ((congrFun F.1 355).trans s_355) rfl ((congrFun (F.2.1 355 (by decide)) 0).trans r_355_0) ?_
                      refine X_iload_n rfl rfl rfl rfl ?_
                      refine X_aload_n rfl rfl rfl rfl ?_
                      refine X_getI (v := (7 : Int32)) rfl rfl rfl ((congrFun F.1 355).trans s_355) rfl rfl ?_
                      refine X_iast (k0 := 356) rfl rfl ((congrFun F.1 356).trans s_356) (vp_in_d rfl) rfl ?_
                      refine X_iconst (v := (0 : Int32)) rfl rfl rfl ?_
                      refine X_istore_n (i := 2) (ls' := [some (.ref 355), some (.int (356 : Int32)), some (.int (0 : Int32))]) rfl rfl rfl (Nat.le_of_ble_eq_true rfl) rfl ?_
                      refine X_iload_n rfl rfl rfl rfl ?_
                      refine X_aload_n rfl rfl rfl rfl ?_
                      refine X_getI (v := (7 : Int32)) rfl rfl rfl ((congrFun F.1 355).trans s_355) rfl rfl ?_
                      refine X_icmp_ge (tgt := 69) rfl rfl rfl (fun q => absurd q (by decide)) (fun _ => ?_)
                      refine X_aload_n rfl rfl rfl rfl ?_
                      refine X_getR (a := 356) rfl rfl rfl ((congrFun F.1 355).trans s_355) rfl ((congrFun (F.2.1 355 (by decide)) 0).trans r_355_0) ?_
                      refine X_iload_n rfl rfl rfl rfl ?_
                      refine X_iconst (v := (1 : Int32)) rfl rfl rfl ?_
                      refine X_iadd (v := (357 : Int32)) rfl rfl rfl ?_
                      refine X_iload_n rfl rfl rfl rfl ?_
                      refine X_iadd (v := (357 : Int32)) rfl rfl rfl ?_
                      refine X_aload_n rfl rfl rfl rfl ?_
                      refine X_getR (a := 360) rfl rfl rfl ((congrFun F.1 355).trans s_355) rfl ((congrFun (F.2.1 355 (by decide)) 5).trans r_355_5) ?_
                      refine X_iload_n rfl rfl rfl rfl ?_
                      refine X_iald (v := (nI (((((((n / 10) / 10) / 10) / 10) / 10) / 10) % 10))) rfl rfl ((congrFun F.1 360).trans s_360) (vp_in_d rfl) rfl ?_
                      refine X_iast (k0 := 357) rfl rfl ((congrFun F.1 356).trans s_356) (vp_in_d rfl) rfl ?_
                      refine X_iinc (v := (1 : Int32)) (ls' := [some (.ref 355), some (.int (356 : Int32)), some (.int (1 : Int32))]) rfl rfl rfl rfl rfl ?_
                      refine LW_goto (tgt := 39) rfl rfl ?_
                      refine X_iload_n rfl rfl rfl rfl ?_
                      refine X_aload_n rfl rfl rfl rfl ?_
                      refine X_getI (v := (7 : Int32)) rfl rfl rfl ((congrFun F.1 355).trans s_355) rfl rfl ?_
                      refine X_icmp_ge (tgt := 69) rfl rfl rfl (fun q => absurd q (by decide)) (fun _ => ?_)
                      refine X_aload_n rfl rfl rfl rfl ?_
                      refine X_getR (a := 356) rfl rfl rfl ((congrFun F.1 355).trans s_355) rfl ((congrFun (F.2.1 355 (by decide)) 0).trans r_355_0) ?_
                      refine X_iload_n rfl rfl rfl rfl ?_
                      refine X_iconst (v := (1 : Int32)) rfl rfl rfl ?_
                      refine X_iadd (v := (357 : Int32)) rfl rfl rfl ?_
                      refine X_iload_n rfl rfl rfl rfl ?_
                      refine X_iadd (v := (358 : Int32)) rfl rfl rfl ?_
                      refine X_aload_n rfl rfl rfl rfl ?_
                      refine X_getR (a := 360) rfl rfl rfl ((congrFun F.1 355).trans s_355) rfl ((congrFun (F.2.1 355 (by decide)) 5).trans r_355_5) ?_
                      refine X_iload_n rfl rfl rfl rfl ?_
                      refine X_iald (v := (nI ((((((n / 10) / 10) / 10) / 10) / 10) % 10))) rfl rfl ((congrFun F.1 360).trans s_360) (vp_in_d rfl) rfl ?_
                      refine X_iast (k0 := 358) rfl rfl ((congrFun F.1 356).trans s_356) (vp_in_d rfl) rfl ?_
                      refine X_iinc (v := (2 : Int32)) (ls' := [some (.ref 355), some (.int (356 : Int32)), some (.int (2 : Int32))]) rfl rfl rfl rfl rfl ?_
                      refine LW_goto (tgt := 39) rfl rfl ?_
                      refine X_iload_n rfl rfl rfl rfl ?_
                      refine X_aload_n rfl rfl rfl rfl ?_
                      refine X_getI (v := (7 : Int32)) rfl rfl rfl ((congrFun F.1 355).trans s_355) rfl rfl ?_
                      refine X_icmp_ge (tgt := 69) rfl rfl rfl (fun q => absurd q (by decide)) (fun _ => ?_)
                      refine X_aload_n rfl rfl rfl rfl ?_
                      refine X_getR (a := 356) rfl rfl rfl ((congrFun F.1 355).trans s_355) rfl ((congrFun (F.2.1 355 (by decide)) 0).trans r_355_0) ?_
                      refine X_iload_n rfl rfl rfl rfl ?_
                      refine X_iconst (v := (1 : Int32)) rfl rfl rfl ?_
                      refine X_iadd (v := (357 : Int32)) rfl rfl rfl ?_
                      refine X_iload_n rfl rfl rfl rfl ?_
                      refine X_iadd (v := (359 : Int32)) rfl rfl rfl ?_
                      refine X_aload_n rfl rfl rfl rfl ?_
                      refine X_getR (a := 360) rfl rfl rfl ((congrFun F.1 355).trans s_355) rfl ((congrFun (F.2.1 355 (by decide)) 5).trans r_355_5) ?_
                      refine X_iload_n rfl rfl rfl rfl ?_
                      refine X_iald (v := (nI (((((n / 10) / 10) / 10) / 10) % 10))) rfl rfl ((congrFun F.1 360).trans s_360) (vp_in_d rfl) rfl ?_
                      refine X_iast (k0 := 359) rfl rfl ((congrFun F.1 356).trans s_356) (vp_in_d rfl) rfl ?_
                      refine X_iinc (v := (3 : Int32)) (ls' := [some (.ref 355), some (.int (356 : Int32)), some (.int (3 : Int32))]) rfl rfl rfl rfl rfl ?_
                      refine LW_goto (tgt := 39) rfl rfl ?_
                      refine X_iload_n rfl rfl rfl rfl ?_
                      refine X_aload_n rfl rfl rfl rfl ?_
                      refine X_getI (v := (7 : Int32)) rfl rfl rfl ((congrFun F.1 355).trans s_355) rfl rfl ?_
                      refine X_icmp_ge (tgt := 69) rfl rfl rfl (fun q => absurd q (by decide)) (fun _ => ?_)
                      refine X_aload_n rfl rfl rfl rfl ?_
                      refine X_getR (a := 356) rfl rfl rfl ((congrFun F.1 355).trans s_355) rfl ((congrFun (F.2.1 355 (by decide)) 0).trans r_355_0) ?_
                      refine X_iload_n rfl rfl rfl rfl ?_
                      refine X_iconst (v := (1 : Int32)) rfl rfl rfl ?_
                      refine X_iadd (v := (357 : Int32)) rfl rfl rfl ?_
                      refine X_iload_n rfl rfl rfl rfl ?_
                      refine X_iadd (v := (360 : Int32)) rfl rfl rfl ?_
                      refine X_aload_n rfl rfl rfl rfl ?_
                      refine X_getR (a := 360) rfl rfl rfl ((congrFun F.1 355).trans s_355) rfl ((congrFun (F.2.1 355 (by decide)) 5).trans r_355_5) ?_
                      refine X_iload_n rfl rfl rfl rfl ?_
                      refine X_iald (v := (nI ((((n / 10) / 10) / 10) % 10))) rfl rfl ((congrFun F.1 360).trans s_360) (vp_in_d rfl) rfl ?_
                      refine X_iast (k0 := 360) rfl rfl ((congrFun F.1 356).trans s_356) (vp_in_d rfl) rfl ?_
                      refine X_iinc (v := (4 : Int32)) (ls' := [some (.ref 355), some (.int (356 : Int32)), some (.int (4 : Int32))]) rfl rfl rfl rfl rfl ?_
                      refine LW_goto (tgt := 39) rfl rfl ?_
                      refine X_iload_n rfl rfl rfl rfl ?_
                      refine X_aload_n rfl rfl rfl rfl ?_
                      refine X_getI (v := (7 : Int32)) rfl rfl rfl ((congrFun F.1 355).trans s_355) rfl rfl ?_
                      refine X_icmp_ge (tgt := 69) rfl rfl rfl (fun q => absurd q (by decide)) (fun _ => ?_)
                      refine X_aload_n rfl rfl rfl rfl ?_
                      refine X_getR (a := 356) rfl rfl rfl ((congrFun F.1 355).trans s_355) rfl ((congrFun (F.2.1 355 (by decide)) 0).trans r_355_0) ?_
                      refine X_iload_n rfl rfl rfl rfl ?_
                      refine X_iconst (v := (1 : Int32)) rfl rfl rfl ?_
                      refine X_iadd (v := (357 : Int32)) rfl rfl rfl ?_
                      refine X_iload_n rfl rfl rfl rfl ?_
                      refine X_iadd (v := (361 : Int32)) rfl rfl rfl ?_
                      refine X_aload_n rfl rfl rfl rfl ?_
                      refine X_getR (a := 360) rfl rfl rfl ((congrFun F.1 355).trans s_355) rfl ((congrFun (F.2.1 355 (by decide)) 5).trans r_355_5) ?_
                      refine X_iload_n rfl rfl rfl rfl ?_
                      refine X_iald (v := (nI (((n / 10) / 10) % 10))) rfl rfl ((congrFun F.1 360).trans s_360) (vp_in_d rfl) rfl ?_
                      refine X_iast (k0 := 361) rfl rfl ((congrFun F.1 356).trans s_356) (vp_in_d rfl) rfl ?_
                      refine X_iinc (v := (5 : Int32)) (ls' := [some (.ref 355), some (.int (356 : Int32)), some (.int (5 : Int32))]) rfl rfl rfl rfl rfl ?_
                      refine LW_goto (tgt := 39) rfl rfl ?_
                      refine X_iload_n rfl rfl rfl rfl ?_
                      refine X_aload_n rfl rfl rfl rfl ?_
                      refine X_getI (v := (7 : Int32)) rfl rfl rfl ((congrFun F.1 355).trans s_355) rfl rfl ?_
                      refine X_icmp_ge (tgt := 69) rfl rfl rfl (fun q => absurd q (by decide)) (fun _ => ?_)
                      refine X_aload_n rfl rfl rfl rfl ?_
                      refine X_getR (a := 356) rfl rfl rfl ((congrFun F.1 355).trans s_355) rfl ((congrFun (F.2.1 355 (by decide)) 0).trans r_355_0) ?_
                      refine X_iload_n rfl rfl rfl rfl ?_
                      refine X_iconst (v := (1 : Int32)) rfl rfl rfl ?_
                      refine X_iadd (v := (357 : Int32)) rfl rfl rfl ?_
                      refine X_iload_n rfl rfl rfl rfl ?_
                      refine X_iadd (v := (362 : Int32)) rfl rfl rfl ?_
                      refine X_aload_n rfl rfl rfl rfl ?_
                      refine X_getR (a := 360) rfl rfl rfl ((congrFun F.1 355).trans s_355) rfl ((congrFun (F.2.1 355 (by decide)) 5).trans r_355_5) ?_
                      refine X_iload_n rfl rfl rfl rfl ?_
                      refine X_iald (v := (nI ((n / 10) % 10))) rfl rfl ((congrFun F.1 360).trans s_360) (vp_in_d rfl) rfl ?_
                      refine X_iast (k0 := 362) rfl rfl ((congrFun F.1 356).trans s_356) (vp_in_d rfl) rfl ?_
                      refine X_iinc (v := (6 : Int32)) (ls' := [some (.ref 355), some (.int (356 : Int32)), some (.int (6 : Int32))]) rfl rfl rfl rfl rfl ?_
                      refine LW_goto (tgt := 39) rfl rfl ?_
                      refine X_iload_n rfl rfl rfl rfl ?_
                      refine X_aload_n rfl rfl rfl rfl ?_
                      refine X_getI (v := (7 : Int32)) rfl rfl rfl ((congrFun F.1 355).trans s_355) rfl rfl ?_
                      refine X_icmp_ge (tgt := 69) rfl rfl rfl (fun q => absurd q (by decide)) (fun _ => ?_)
                      refine X_aload_n rfl rfl rfl rfl ?_
                      refine X_getR (a := 356) rfl rfl rfl ((congrFun F.1 355).trans s_355) rfl ((congrFun (F.2.1 355 (by decide)) 0).trans r_355_0) ?_
                      refine X_iload_n rfl rfl rfl rfl ?_
                      refine X_iconst (v := (1 : Int32)) rfl rfl rfl ?_
                      refine X_iadd (v := (357 : Int32)) rfl rfl rfl ?_
                      refine X_iload_n rfl rfl rfl rfl ?_
                      refine X_iadd (v := (363 : Int32)) rfl rfl rfl ?_
                      refine X_aload_n rfl rfl rfl rfl ?_
                      refine X_getR (a := 360) rfl rfl rfl ((congrFun F.1 355).trans s_355) rfl ((congrFun (F.2.1 355 (by decide)) 5).trans r_355_5) ?_
                      refine X_iload_n rfl rfl rfl rfl ?_
                      refine X_iald (v := (nI (n % 10))) rfl rfl ((congrFun F.1 360).trans s_360) (vp_in_d rfl) rfl ?_
                      refine X_iast (k0 := 363) rfl rfl ((congrFun F.1 356).trans s_356) (vp_in_d rfl) rfl ?_
                      refine X_iinc (v := (7 : Int32)) (ls' := [some (.ref 355), some (.int (356 : Int32)), some (.int (7 : Int32))]) rfl rfl rfl rfl rfl ?_
                      refine LW_goto (tgt := 39) rfl rfl ?_
                      refine X_iload_n rfl rfl rfl rfl ?_
                      refine X_aload_n rfl rfl rfl rfl ?_
                      refine X_getI (v := (7 : Int32)) rfl rfl rfl ((congrFun F.1 355).trans s_355) rfl rfl ?_
                      refine X_icmp_ge (tgt := 69) rfl rfl rfl (fun _ => ?_) (fun q => absurd q (by decide))
                      refine X_aload_n rfl rfl rfl rfl ?_
                      refine X_getR (a := 356) rfl rfl rfl ((congrFun F.1 355).trans s_355) rfl ((congrFun (F.2.1 355 (by decide)) 0).trans r_355_0) ?_
                      refine X_iconst (v := (1 : Int32)) rfl rfl rfl ?_
                      refine X_dup2 rfl rfl rfl rfl ?_
                      refine X_iald (v := (0 : Int32)) rfl rfl ((congrFun F.1 356).trans s_356) (vp_in_d rfl) ((congrFun (F.2.2 356 (by decide)).1 1).trans i_356_1) ?_
                      refine X_iconst (v := (1 : Int32)) rfl rfl rfl ?_
                      refine X_iadd (v := (1 : Int32)) rfl rfl rfl ?_
                      refine X_iast (k0 := 1) rfl rfl ((congrFun F.1 356).trans s_356) (vp_in_d rfl) rfl ?_
                      refine X_aload_n rfl rfl rfl rfl ?_
                      refine X_getR (a := 356) rfl rfl rfl ((congrFun F.1 355).trans s_355) rfl ((congrFun (F.2.1 355 (by decide)) 0).trans r_355_0) ?_
                      refine X_iconst (v := (1 : Int32)) rfl rfl rfl ?_
                      refine X_iald (v := (1 : Int32)) rfl rfl ((congrFun F.1 356).trans s_356) (vp_in_d rfl) rfl ?_
                      refine X_iconst (v := (1 : Int32)) rfl rfl rfl ?_
                      refine X_isub (v := (0 : Int32)) rfl rfl rfl ?_
                      refine LW_ireturn (st := []) rfl rfl rfl ?_
                      refine LW_ireturn (st := []) rfl rfl rfl (congrArg (fun z => some (Value.int z)) ?_)
                      simp only [Int32.lt_iff_toInt_lt, Int32.le_iff_toInt_le, ← Int32.toInt_inj, (show (1 : Int32).toInt = 1 from rfl), (show (9 : Int32).toInt = 9 from rfl), (show (10 : Int32).toInt = 10 from rfl), (show (199999999 : Int32).toInt = 199999999 from rfl), (nI_toInt (n := n) (by omega)), (nI_toInt (n := n / 10) (by omega)), (nI_toInt (n := n / 100) (by omega)), (nI_toInt (n := n / 1000) (by omega)), (nI_toInt (n := n / 10000) (by omega)), (nI_toInt (n := n / 100000) (by omega)), (nI_toInt (n := n / 1000000) (by omega)), (nI_toInt (n := n / 10000000) (by omega))] at h1 h2 h3 h5 h7 h9 h11 h13 h15 h16
                      unfold f_sayN
                      rw [if_pos (by omega)]
                    · refine X_iconst (v := (-1 : Int32)) rfl rfl rfl ?_
                      refine LW_ireturn (st := []) rfl rfl rfl (congrArg (fun z => some (Value.int z)) ?_)
                      simp only [Int32.lt_iff_toInt_lt, Int32.le_iff_toInt_le, ← Int32.toInt_inj, (show (1 : Int32).toInt = 1 from rfl), (show (9 : Int32).toInt = 9 from rfl), (show (10 : Int32).toInt = 10 from rfl), (show (199999999 : Int32).toInt = 199999999 from rfl), (nI_toInt (n := n) (by omega)), (nI_toInt (n := n / 10) (by omega)), (nI_toInt (n := n / 100) (by omega)), (nI_toInt (n := n / 1000) (by omega)), (nI_toInt (n := n / 10000) (by omega)), (nI_toInt (n := n / 100000) (by omega)), (nI_toInt (n := n / 1000000) (by omega)), (nI_toInt (n := n / 10000000) (by omega))] at h1 h2 h3 h5 h7 h9 h11 h13 h15 h16
                      unfold f_sayN
                      rw [if_neg (by omega)]
                  · refine X_iload_n rfl rfl rfl rfl ?_
                    refine X_bipush (v := (10 : Int32)) rfl rfl rfl ?_
                    refine X_imul (v := (100000000 : Int32)) rfl rfl rfl ?_
                    refine X_istore_n (i := 2) (ls' := [some (.ref 355), some (.int (nI (n))), some (.int (100000000 : Int32)), none, none]) rfl rfl rfl (Nat.le_of_ble_eq_true rfl) rfl ?_
                    refine X_aload_n rfl rfl rfl rfl ?_
                    refine X_dup rfl rfl rfl ?_
                    refine X_getI (v := (7 : Int32)) rfl rfl rfl ((congrFun F.1 355).trans s_355) rfl rfl ?_
                    refine X_iconst (v := (1 : Int32)) rfl rfl rfl ?_
                    refine X_iadd (v := (8 : Int32)) rfl rfl rfl ?_
                    refine X_putI rfl rfl rfl ((congrFun F.1 355).trans s_355) rfl rfl rfl rfl ?_
                    refine LW_goto (tgt := 21) rfl rfl ?_
                    refine X_iload_n rfl rfl rfl rfl ?_
                    refine X_iload_n rfl rfl rfl rfl ?_
                    refine X_idiv (v := (nI (n / 100000000))) rfl rfl (by decide) (nI_idiv (d := 100000000) (by omega) (by decide)) ?_
                    refine X_bipush (v := (9 : Int32)) rfl rfl rfl ?_
                    refine X_icmp_le (tgt := 47) rfl rfl rfl (fun h17 => ?_) (fun h17 => ?_)
                    · refine X_iload_n rfl rfl rfl rfl ?_
                      refine X_iload_n rfl rfl rfl rfl ?_
                      refine X_idiv (v := (nI (n / 100000000))) rfl rfl (by decide) (nI_idiv (d := 100000000) (by omega) (by decide)) ?_
                      refine X_iconst (v := (1 : Int32)) rfl rfl rfl ?_
                      refine X_icmp_eq (tgt := 56) rfl rfl rfl (fun h18 => ?_) (fun h18 => ?_)
                      · refine X_iload_n rfl rfl rfl rfl ?_
                        refine X_istore_n (i := 3) (ls' := [some (.ref 355), some (.int (nI (n))), some (.int (100000000 : Int32)), some (.int (nI (n))), none]) rfl rfl rfl (Nat.le_of_ble_eq_true rfl) rfl ?_
                        refine X_aload_n rfl rfl rfl rfl ?_
                        refine X_getI (v := (8 : Int32)) rfl rfl rfl ((congrFun F.1 355).trans s_355) rfl rfl ?_
                        refine X_iconst (v := (1 : Int32)) rfl rfl rfl ?_
                        refine X_isub (v := (7 : Int32)) rfl rfl rfl ?_
                        refine X_istore (i := 4) (ls' := [some (.ref 355), some (.int (nI (n))), some (.int (100000000 : Int32)), some (.int (nI (n))), some (.int (7 : Int32))]) rfl rfl (Nat.le_of_ble_eq_true rfl) rfl ?_
                        refine X_iload rfl rfl rfl ?_
                        refine X_if_lt (tgt := 93) rfl rfl rfl (fun q => absurd q (by decide)) (fun _ => ?_)
                        refine X_aload_n rfl rfl rfl rfl ?_
                        refine X_getR (a := 360) rfl rfl rfl ((congrFun F.1 355).trans s_355) rfl ((congrFun (F.2.1 355 (by decide)) 5).trans r_355_5) ?_
                        refine X_iload rfl rfl rfl ?_
                        refine X_iload_n rfl rfl rfl rfl ?_
                        refine X_bipush (v := (10 : Int32)) rfl rfl rfl ?_
                        refine X_irem (v := (nI (n % 10))) rfl rfl (by decide) (nI_irem (d := 10) (by omega) (by decide)) ?_
                        refine X_iast (k0 := 7) rfl rfl ((congrFun F.1 360).trans s_360) (vp_in_d rfl) rfl ?_
                        refine X_iload_n rfl rfl rfl rfl ?_
                        refine X_bipush (v := (10 : Int32)) rfl rfl rfl ?_
                        refine X_idiv (v := (nI (n / 10))) rfl rfl (by decide) (nI_idiv (d := 10) (by omega) (by decide)) ?_
                        refine X_istore_n (i := 3) (ls' := [some (.ref 355), some (.int (nI (n))), some (.int (100000000 : Int32)), some (.int (nI (n / 10))), some (.int (7 : Int32))]) rfl rfl rfl (Nat.le_of_ble_eq_true rfl) rfl ?_
                        refine X_iinc (v := (6 : Int32)) (ls' := [some (.ref 355), some (.int (nI (n))), some (.int (100000000 : Int32)), some (.int (nI (n / 10))), some (.int (6 : Int32))]) rfl rfl rfl rfl rfl ?_
                        refine LW_goto (tgt := 66) rfl rfl ?_
                        refine X_iload rfl rfl rfl ?_
                        refine X_if_lt (tgt := 93) rfl rfl rfl (fun q => absurd q (by decide)) (fun _ => ?_)
                        refine X_aload_n rfl rfl rfl rfl ?_
                        refine X_getR (a := 360) rfl rfl rfl ((congrFun F.1 355).trans s_355) rfl ((congrFun (F.2.1 355 (by decide)) 5).trans r_355_5) ?_
                        refine X_iload rfl rfl rfl ?_
                        refine X_iload_n rfl rfl rfl rfl ?_
                        refine X_bipush (v := (10 : Int32)) rfl rfl rfl ?_
                        refine X_irem (v := (nI ((n / 10) % 10))) rfl rfl (by decide) (nI_irem (d := 10) (by omega) (by decide)) ?_
                        refine X_iast (k0 := 6) rfl rfl ((congrFun F.1 360).trans s_360) (vp_in_d rfl) rfl ?_
                        refine X_iload_n rfl rfl rfl rfl ?_
                        refine X_bipush (v := (10 : Int32)) rfl rfl rfl ?_
                        refine X_idiv (v := (nI ((n / 10) / 10))) rfl rfl (by decide) (nI_idiv (d := 10) (by omega) (by decide)) ?_
                        refine X_istore_n (i := 3) (ls' := [some (.ref 355), some (.int (nI (n))), some (.int (100000000 : Int32)), some (.int (nI ((n / 10) / 10))), some (.int (6 : Int32))]) rfl rfl rfl (Nat.le_of_ble_eq_true rfl) rfl ?_
                        refine X_iinc (v := (5 : Int32)) (ls' := [some (.ref 355), some (.int (nI (n))), some (.int (100000000 : Int32)), some (.int (nI ((n / 10) / 10))), some (.int (5 : Int32))]) rfl rfl rfl rfl rfl ?_
                        refine LW_goto (tgt := 66) rfl rfl ?_
                        refine X_iload rfl rfl rfl ?_
                        refine X_if_lt (tgt := 93) rfl rfl rfl (fun q => absurd q (by decide)) (fun _ => ?_)
                        refine X_aload_n rfl rfl rfl rfl ?_
                        refine X_getR (a := 360) rfl rfl rfl ((congrFun F.1 355).trans s_355) rfl ((congrFun (F.2.1 355 (by decide)) 5).trans r_355_5) ?_
                        refine X_iload rfl rfl rfl ?_
                        refine X_iload_n rfl rfl rfl rfl ?_
                        refine X_bipush (v := (10 : Int32)) rfl rfl rfl ?_
                        refine X_irem (v := (nI (((n / 10) / 10) % 10))) rfl rfl (by decide) (nI_irem (d := 10) (by omega) (by decide)) ?_
                        refine X_iast (k0 := 5) rfl rfl ((congrFun F.1 360).trans s_360) (vp_in_d rfl) rfl ?_
                        refine X_iload_n rfl rfl rfl rfl ?_
                        refine X_bipush (v := (10 : Int32)) rfl rfl rfl ?_
                        refine X_idiv (v := (nI (((n / 10) / 10) / 10))) rfl rfl (by decide) (nI_idiv (d := 10) (by omega) (by decide)) ?_
                        refine X_istore_n (i := 3) (ls' := [some (.ref 355), some (.int (nI (n))), some (.int (100000000 : Int32)), some (.int (nI (((n / 10) / 10) / 10))), some (.int (5 : Int32))]) rfl rfl rfl (Nat.le_of_ble_eq_true rfl) rfl ?_
                        refine X_iinc (v := (4 : Int32)) (ls' := [some (.ref 355), some (.int (nI (n))), some (.int (100000000 : Int32)), some (.int (nI (((n / 10) / 10) / 10))), some (.int (4 : Int32))]) rfl rfl rfl rfl rfl ?_
                        refine LW_goto (tgt := 66) rfl rfl ?_
                        refine X_iload rfl rfl rfl ?_
                        refine X_if_lt (tgt := 93) rfl rfl rfl (fun q => absurd q (by decide)) (fun _ => ?_)
                        refine X_aload_n rfl rfl rfl rfl ?_
                        refine X_getR (a := 360) rfl rfl rfl ((congrFun F.1 355).trans s_355) rfl ((congrFun (F.2.1 355 (by decide)) 5).trans r_355_5) ?_
                        refine X_iload rfl rfl rfl ?_
                        refine X_iload_n rfl rfl rfl rfl ?_
                        refine X_bipush (v := (10 : Int32)) rfl rfl rfl ?_
                        refine X_irem (v := (nI ((((n / 10) / 10) / 10) % 10))) rfl rfl (by decide) (nI_irem (d := 10) (by omega) (by decide)) ?_
                        refine X_iast (k0 := 4) rfl rfl ((congrFun F.1 360).trans s_360) (vp_in_d rfl) rfl ?_
                        refine X_iload_n rfl rfl rfl rfl ?_
                        refine X_bipush (v := (10 : Int32)) rfl rfl rfl ?_
                        refine X_idiv (v := (nI ((((n / 10) / 10) / 10) / 10))) rfl rfl (by decide) (nI_idiv (d := 10) (by omega) (by decide)) ?_
                        refine X_istore_n (i := 3) (ls' := [some (.ref 355), some (.int (nI (n))), some (.int (100000000 : Int32)), some (.int (nI ((((n / 10) / 10) / 10) / 10))), some (.int (4 : Int32))]) rfl rfl rfl (Nat.le_of_ble_eq_true rfl) rfl ?_
                        refine X_iinc (v := (3 : Int32)) (ls' := [some (.ref 355), some (.int (nI (n))), some (.int (100000000 : Int32)), some (.int (nI ((((n / 10) / 10) / 10) / 10))), some (.int (3 : Int32))]) rfl rfl rfl rfl rfl ?_
                        refine LW_goto (tgt := 66) rfl rfl ?_
                        refine X_iload rfl rfl rfl ?_
                        refine X_if_lt (tgt := 93) rfl rfl rfl (fun q => absurd q (by decide)) (fun _ => ?_)
                        refine X_aload_n rfl rfl rfl rfl ?_
                        refine X_getR (a := 360) rfl rfl rfl ((congrFun F.1 355).trans s_355) rfl ((congrFun (F.2.1 355 (by decide)) 5).trans r_355_5) ?_
                        refine X_iload rfl rfl rfl ?_
                        refine X_iload_n rfl rfl rfl rfl ?_
                        refine X_bipush (v := (10 : Int32)) rfl rfl rfl ?_
                        refine X_irem (v := (nI (((((n / 10) / 10) / 10) / 10) % 10))) rfl rfl (by decide) (nI_irem (d := 10) (by omega) (by decide)) ?_
                        refine X_iast (k0 := 3) rfl rfl ((congrFun F.1 360).trans s_360) (vp_in_d rfl) rfl ?_
                        refine X_iload_n rfl rfl rfl rfl ?_
                        refine X_bipush (v := (10 : Int32)) rfl rfl rfl ?_
                        refine X_idiv (v := (nI (((((n / 10) / 10) / 10) / 10) / 10))) rfl rfl (by decide) (nI_idiv (d := 10) (by omega) (by decide)) ?_
                        refine X_istore_n (i := 3) (ls' := [some (.ref 355), some (.int (nI (n))), some (.int (100000000 : Int32)), some (.int (nI (((((n / 10) / 10) / 10) / 10) / 10))), some (.int (3 : Int32))]) rfl rfl rfl (Nat.le_of_ble_eq_true rfl) rfl ?_
                        refine X_iinc (v := (2 : Int32)) (ls' := [some (.ref 355), some (.int (nI (n))), some (.int (100000000 : Int32)), some (.int (nI (((((n / 10) / 10) / 10) / 10) / 10))), some (.int (2 : Int32))]) rfl rfl rfl rfl rfl ?_
                        refine LW_goto (tgt := 66) rfl rfl ?_
                        refine X_iload rfl rfl rfl ?_
                        refine X_if_lt (tgt := 93) rfl rfl rfl (fun q => absurd q (by decide)) (fun _ => ?_)
                        refine X_aload_n rfl rfl rfl rfl ?_
                        refine X_getR (a := 360) rfl rfl rfl ((congrFun F.1 355).trans s_355) rfl ((congrFun (F.2.1 355 (by decide)) 5).trans r_355_5) ?_
                        refine X_iload rfl rfl rfl ?_
                        refine X_iload_n rfl rfl rfl rfl ?_
                        refine X_bipush (v := (10 : Int32)) rfl rfl rfl ?_
                        refine X_irem (v := (nI ((((((n / 10) / 10) / 10) / 10) / 10) % 10))) rfl rfl (by decide) (nI_irem (d := 10) (by omega) (by decide)) ?_
                        refine X_iast (k0 := 2) rfl rfl ((congrFun F.1 360).trans s_360) (vp_in_d rfl) rfl ?_
                        refine X_iload_n rfl rfl rfl rfl ?_
                        refine X_bipush (v := (10 : Int32)) rfl rfl rfl ?_
                        refine X_idiv (v := (nI ((((((n / 10) / 10) / 10) / 10) / 10) / 10))) rfl rfl (by decide) (nI_idiv (d := 10) (by omega) (by decide)) ?_
                        refine X_istore_n (i := 3) (ls' := [some (.ref 355), some (.int (nI (n))), some (.int (100000000 : Int32)), some (.int (nI ((((((n / 10) / 10) / 10) / 10) / 10) / 10))), some (.int (2 : Int32))]) rfl rfl rfl (Nat.le_of_ble_eq_true rfl) rfl ?_
                        refine X_iinc (v := (1 : Int32)) (ls' := [some (.ref 355), some (.int (nI (n))), some (.int (100000000 : Int32)), some (.int (nI ((((((n / 10) / 10) / 10) / 10) / 10) / 10))), some (.int (1 : Int32))]) rfl rfl rfl rfl rfl ?_
                        refine LW_goto (tgt := 66) rfl rfl ?_
                        refine X_iload rfl rfl rfl ?_
                        refine X_if_lt (tgt := 93) rfl rfl rfl (fun q => absurd q (by decide)) (fun _ => ?_)
                        refine X_aload_n rfl rfl rfl rfl ?_
                        refine X_getR (a := 360) rfl rfl rfl ((congrFun F.1 355).trans s_355) rfl ((congrFun (F.2.1 355 (by decide)) 5).trans r_355_5) ?_
                        refine X_iload rfl rfl rfl ?_
                        refine X_iload_n rfl rfl rfl rfl ?_
                        refine X_bipush (v := (10 : Int32)) rfl rfl rfl ?_
                        refine X_irem (v := (nI (((((((n / 10) / 10) / 10) / 10) / 10) / 10) % 10))) rfl rfl (by decide) (nI_irem (d := 10) (by omega) (by decide)) ?_
                        refine X_iast (k0 := 1) rfl rfl ((congrFun F.1 360).trans s_360) (vp_in_d rfl) rfl ?_
                        refine X_iload_n rfl rfl rfl rfl ?_
                        refine X_bipush (v := (10 : Int32)) rfl rfl rfl ?_
                        refine X_idiv (v := (nI (((((((n / 10) / 10) / 10) / 10) / 10) / 10) / 10))) rfl rfl (by decide) (nI_idiv (d := 10) (by omega) (by decide)) ?_
                        refine X_istore_n (i := 3) (ls' := [some (.ref 355), some (.int (nI (n))), some (.int (100000000 : Int32)), some (.int (nI (((((((n / 10) / 10) / 10) / 10) / 10) / 10) / 10))), some (.int (1 : Int32))]) rfl rfl rfl (Nat.le_of_ble_eq_true rfl) rfl ?_
                        refine X_iinc (v := (0 : Int32)) (ls' := [some (.ref 355), some (.int (nI (n))), some (.int (100000000 : Int32)), some (.int (nI (((((((n / 10) / 10) / 10) / 10) / 10) / 10) / 10))), some (.int (0 : Int32))]) rfl rfl rfl rfl rfl ?_
                        refine LW_goto (tgt := 66) rfl rfl ?_
                        refine X_iload rfl rfl rfl ?_
                        refine X_if_lt (tgt := 93) rfl rfl rfl (fun q => absurd q (by decide)) (fun _ => ?_)
                        refine X_aload_n rfl rfl rfl rfl ?_
                        refine X_getR (a := 360) rfl rfl rfl ((congrFun F.1 355).trans s_355) rfl ((congrFun (F.2.1 355 (by decide)) 5).trans r_355_5) ?_
                        refine X_iload rfl rfl rfl ?_
                        refine X_iload_n rfl rfl rfl rfl ?_
                        refine X_bipush (v := (10 : Int32)) rfl rfl rfl ?_
                        refine X_irem (v := (nI ((((((((n / 10) / 10) / 10) / 10) / 10) / 10) / 10) % 10))) rfl rfl (by decide) (nI_irem (d := 10) (by omega) (by decide)) ?_
                        refine X_iast (k0 := 0) rfl rfl ((congrFun F.1 360).trans s_360) (vp_in_d rfl) rfl ?_
                        refine X_iload_n rfl rfl rfl rfl ?_
                        refine X_bipush (v := (10 : Int32)) rfl rfl rfl ?_
                        refine X_idiv (v := (nI ((((((((n / 10) / 10) / 10) / 10) / 10) / 10) / 10) / 10))) rfl rfl (by decide) (nI_idiv (d := 10) (by omega) (by decide)) ?_
                        refine X_istore_n (i := 3) (ls' := [some (.ref 355), some (.int (nI (n))), some (.int (100000000 : Int32)), some (.int (nI ((((((((n / 10) / 10) / 10) / 10) / 10) / 10) / 10) / 10))), some (.int (0 : Int32))]) rfl rfl rfl (Nat.le_of_ble_eq_true rfl) rfl ?_
                        refine X_iinc (v := (-1 : Int32)) (ls' := [some (.ref 355), some (.int (nI (n))), some (.int (100000000 : Int32)), some (.int (nI ((((((((n / 10) / 10) / 10) / 10) / 10) / 10) / 10) / 10))), some (.int (-1 : Int32))]) rfl rfl rfl rfl rfl ?_
                        refine LW_goto (tgt := 66) rfl rfl ?_
                        refine X_iload rfl rfl rfl ?_
                        refine X_if_lt (tgt := 93) rfl rfl rfl (fun _ => ?_) (fun q => absurd q (by decide))
                        refine X_aload_n rfl rfl rfl rfl ?_
                        refine X_callV (as := []) (st := []) rfl rfl rfl (by decide) rfl (Nat.le_of_ble_eq_true rfl) (by decide) (Nat.le_of_ble_eq_true rfl) rfl ((congrFun F.1 355).trans s_355) (by decide) ?_
                        refine LW_ls (ls' := [some (.ref 355), none, none]) rfl ?_
                        refine X_aload_n rfl rfl rfl rfl ?_
                        refine X_getR (a := 356) rfl rfl rfl ((congrFun F.1 355).trans s_355) rfl ((congrFun (F.2.1 355 (by decide)) 0).trans r_355_0) ?_
                        refine X_iconst (v := (1 : Int32)) rfl rfl rfl ?_
                        refine X_iald (v := (0 : Int32)) rfl rfl ((congrFun F.1 356).trans s_356) (vp_in_d rfl) ((congrFun (F.2.2 356 (by decide)).1 1).trans i_356_1) ?_
                        refine X_bipush (v := (8 : Int32)) rfl rfl rfl ?_
                        refine X_icmp_ne (tgt := 13) rfl rfl rfl (fun _ => ?_) (fun q => absurd q (by decide))
                        refine X_sipush (v := (356 : Int32)) rfl rfl rfl ?_
                        refine X_bipush (v := (9 : Int32)) rfl rfl rfl ?_
                        refine X_aload_n rfl rfl rfl rfl ?_
                        refine X_getR (a := 356) rfl rfl rfl ((congrFun F.1 355).trans s_355) rfl ((congrFun (F.2.1 355 (by decide)) 0).trans r_355_0) ?_
                        refine X_iconst (v := (1 : Int32)) rfl rfl rfl ?_
                        refine X_iald (v := (0 : Int32)) rfl rfl ((congrFun F.1 356).trans s_356) (vp_in_d rfl) ((congrFun (F.2.2 356 (by decide)).1 1).trans i_356_1) ?_
                        refine X_imul (v := (0 : Int32)) rfl rfl rfl ?_
                        refine X_iadd (v := (356 : Int32)) rfl rfl rfl ?_
                        refine X_istore_n (i := 1) (ls' := [some (.ref 355), some (.int (356 : Int32)), none]) rfl rfl rfl (Nat.le_of_ble_eq_true rfl) rfl ?_
                        refine X_aload_n rfl rfl rfl rfl ?_
                        refine X_getR (a := 356) rfl rfl rfl ((congrFun F.1 355).trans s_355) rfl ((congrFun (F.2.1 355 (by decide)) 0).trans r_355_0) ?_
                        refine X_iload_n rfl rfl rfl rfl ?_
                        refine X_aload_n rfl rfl rfl rfl ?_
                        refine X_getI (v := (8 : Int32)) rfl rfl rfl ((congrFun F.1 355).trans s_355) rfl rfl ?_
                        refine X_iast (k0 := 356) rfl rfl ((congrFun F.1 356).trans s_356) (vp_in_d rfl) rfl ?_
                        refine X_iconst (v := (0 : Int32)) rfl rfl rfl ?_
                        refine X_istore_n (i := 2) (ls' := [some (.ref 355), some (.int (356 : Int32)), some (.int (0 : Int32))]) rfl rfl rfl (Nat.le_of_ble_eq_true rfl) rfl ?_
                        refine X_iload_n rfl rfl rfl rfl ?_
                        refine X_aload_n rfl rfl rfl rfl ?_
                        refine X_getI (v := (8 : Int32)) rfl rfl rfl ((congrFun F.1 355).trans s_355) rfl rfl ?_
                        refine X_icmp_ge (tgt := 69) rfl rfl rfl (fun q => absurd q (by decide)) (fun _ => ?_)
                        refine X_aload_n rfl rfl rfl rfl ?_
                        refine X_getR (a := 356) rfl rfl rfl ((congrFun F.1 355).trans s_355) rfl ((congrFun (F.2.1 355 (by decide)) 0).trans r_355_0) ?_
                        refine X_iload_n rfl rfl rfl rfl ?_
                        refine X_iconst (v := (1 : Int32)) rfl rfl rfl ?_
                        refine X_iadd (v := (357 : Int32)) rfl rfl rfl ?_
                        refine X_iload_n rfl rfl rfl rfl ?_
                        refine X_iadd (v := (357 : Int32)) rfl rfl rfl ?_
                        refine X_aload_n rfl rfl rfl rfl ?_
                        refine X_getR (a := 360) rfl rfl rfl ((congrFun F.1 355).trans s_355) rfl ((congrFun (F.2.1 355 (by decide)) 5).trans r_355_5) ?_
                        refine X_iload_n rfl rfl rfl rfl ?_
                        refine X_iald (v := (nI ((((((((n / 10) / 10) / 10) / 10) / 10) / 10) / 10) % 10))) rfl rfl ((congrFun F.1 360).trans s_360) (vp_in_d rfl) rfl ?_
                        refine X_iast (k0 := 357) rfl rfl ((congrFun F.1 356).trans s_356) (vp_in_d rfl) rfl ?_
                        refine X_iinc (v := (1 : Int32)) (ls' := [some (.ref 355), some (.int (356 : Int32)), some (.int (1 : Int32))]) rfl rfl rfl rfl rfl ?_
                        refine LW_goto (tgt := 39) rfl rfl ?_
                        refine X_iload_n rfl rfl rfl rfl ?_
                        refine X_aload_n rfl rfl rfl rfl ?_
                        refine X_getI (v := (8 : Int32)) rfl rfl rfl ((congrFun F.1 355).trans s_355) rfl rfl ?_
                        refine X_icmp_ge (tgt := 69) rfl rfl rfl (fun q => absurd q (by decide)) (fun _ => ?_)
                        refine X_aload_n rfl rfl rfl rfl ?_
                        refine X_getR (a := 356) rfl rfl rfl ((congrFun F.1 355).trans s_355) rfl ((congrFun (F.2.1 355 (by decide)) 0).trans r_355_0) ?_
                        refine X_iload_n rfl rfl rfl rfl ?_
                        refine X_iconst (v := (1 : Int32)) rfl rfl rfl ?_
                        refine X_iadd (v := (357 : Int32)) rfl rfl rfl ?_
                        refine X_iload_n rfl rfl rfl rfl ?_
                        refine X_iadd (v := (358 : Int32)) rfl rfl rfl ?_
                        refine X_aload_n rfl rfl rfl rfl ?_
                        refine X_getR (a := 360) rfl rfl rfl ((congrFun F.1 355).trans s_355) rfl ((congrFun (F.2.1 355 (by decide)) 5).trans r_355_5) ?_
                        refine X_iload_n rfl rfl rfl rfl ?_
                        refine X_iald (v := (nI (((((((n / 10) / 10) / 10) / 10) / 10) / 10) % 10))) rfl rfl ((congrFun F.1 360).trans s_360) (vp_in_d rfl) rfl ?_
                        refine X_iast (k0 := 358) rfl rfl ((congrFun F.1 356).trans s_356) (vp_in_d rfl) rfl ?_
                        refine X_iinc (v := (2 : Int32)) (ls' := [some (.ref 355), some (.int (356 : Int32)), some (.int (2 : Int32))]) rfl rfl rfl rfl rfl ?_
                        refine LW_goto (tgt := 39) rfl rfl ?_
                        refine X_iload_n rfl rfl rfl rfl ?_
                        refine X_aload_n rfl rfl rfl rfl ?_
                        refine X_getI (v := (8 : Int32)) rfl rfl rfl ((congrFun F.1 355).trans s_355) rfl rfl ?_
                        refine X_icmp_ge (tgt := 69) rfl rfl rfl (fun q => absurd q (by decide)) (fun _ => ?_)
                        refine X_aload_n rfl rfl rfl rfl ?_
                        refine X_getR (a := 356) rfl rfl rfl ((congrFun F.1 355).trans s_355) rfl ((congrFun (F.2.1 355 (by decide)) 0).trans r_355_0) ?_
                        refine X_iload_n rfl rfl rfl rfl ?_
                        refine X_iconst (v := (1 : Int32)) rfl rfl rfl ?_
                        refine X_iadd (v := (357 : Int32)) rfl rfl rfl ?_
                        refine X_iload_n rfl rfl rfl rfl ?_
                        refine X_iadd (v := (359 : Int32)) rfl rfl rfl ?_
                        refine X_aload_n rfl rfl rfl rfl ?_
                        refine X_getR (a := 360) rfl rfl rfl ((congrFun F.1 355).trans s_355) rfl ((congrFun (F.2.1 355 (by decide)) 5).trans r_355_5) ?_
                        refine X_iload_n rfl rfl rfl rfl ?_
                        refine X_iald (v := (nI ((((((n / 10) / 10) / 10) / 10) / 10) % 10))) rfl rfl ((congrFun F.1 360).trans s_360) (vp_in_d rfl) rfl ?_
                        refine X_iast (k0 := 359) rfl rfl ((congrFun F.1 356).trans s_356) (vp_in_d rfl) rfl ?_
                        refine X_iinc (v := (3 : Int32)) (ls' := [some (.ref 355), some (.int (356 : Int32)), some (.int (3 : Int32))]) rfl rfl rfl rfl rfl ?_
                        refine LW_goto (tgt := 39) rfl rfl ?_
                        refine X_iload_n rfl rfl rfl rfl ?_
                        refine X_aload_n rfl rfl rfl rfl ?_
                        refine X_getI (v := (8 : Int32)) rfl rfl rfl ((congrFun F.1 355).trans s_355) rfl rfl ?_
                        refine X_icmp_ge (tgt := 69) rfl rfl rfl (fun q => absurd q (by decide)) (fun _ => ?_)
                        refine X_aload_n rfl rfl rfl rfl ?_
                        refine X_getR (a := 356) rfl rfl rfl ((congrFun F.1 355).trans s_355) rfl ((congrFun (F.2.1 355 (by decide)) 0).trans r_355_0) ?_
                        refine X_iload_n rfl rfl rfl rfl ?_
                        refine X_iconst (v := (1 : Int32)) rfl rfl rfl ?_
                        refine X_iadd (v := (357 : Int32)) rfl rfl rfl ?_
                        refine X_iload_n rfl rfl rfl rfl ?_
                        refine X_iadd (v := (360 : Int32)) rfl rfl rfl ?_
                        refine X_aload_n rfl rfl rfl rfl ?_
                        refine X_getR (a := 360) rfl rfl rfl ((congrFun F.1 355).trans s_355) rfl ((congrFun (F.2.1 355 (by decide)) 5).trans r_355_5) ?_
                        refine X_iload_n rfl rfl rfl rfl ?_
                        refine X_iald (v := (nI (((((n / 10) / 10) / 10) / 10) % 10))) rfl rfl ((congrFun F.1 360).trans s_360) (vp_in_d rfl) rfl ?_
                        refine X_iast (k0 := 360) rfl rfl ((congrFun F.1 356).trans s_356) (vp_in_d rfl) rfl ?_
                        refine X_iinc (v := (4 : Int32)) (ls' := [some (.ref 355), some (.int (356 : Int32)), some (.int (4 : Int32))]) rfl rfl rfl rfl rfl ?_
                        refine LW_goto (tgt := 39) rfl rfl ?_
                        refine X_iload_n rfl rfl rfl rfl ?_
                        refine X_aload_n rfl rfl rfl rfl ?_
                        refine X_getI (v := (8 : Int32)) rfl rfl rfl ((congrFun F.1 355).trans s_355) rfl rfl ?_
                        refine X_icmp_ge (tgt := 69) rfl rfl rfl (fun q => absurd q (by decide)) (fun _ => ?_)
                        refine X_aload_n rfl rfl rfl rfl ?_
                        refine X_getR (a := 356) rfl rfl rfl ((congrFun F.1 355).trans s_355) rfl ((congrFun (F.2.1 355 (by decide)) 0).trans r_355_0) ?_
                        refine X_iload_n rfl rfl rfl rfl ?_
                        refine X_iconst (v := (1 : Int32)) rfl rfl rfl ?_
                        refine X_iadd (v := (357 : Int32)) rfl rfl rfl ?_
                        refine X_iload_n rfl rfl rfl rfl ?_
                        refine X_iadd (v := (361 : Int32)) rfl rfl rfl ?_
                        refine X_aload_n rfl rfl rfl rfl ?_
                        refine X_getR (a := 360) rfl rfl rfl ((congrFun F.1 355).trans s_355) rfl ((congrFun (F.2.1 355 (by decide)) 5).trans r_355_5) ?_
                        refine X_iload_n rfl rfl rfl rfl ?_
                        refine X_iald (v := (nI ((((n / 10) / 10) / 10) % 10))) rfl rfl ((congrFun F.1 360).trans s_360) (vp_in_d rfl) rfl ?_
                        refine X_iast (k0 := 361) rfl rfl ((congrFun F.1 356).trans s_356) (vp_in_d rfl) rfl ?_
                        refine X_iinc (v := (5 : Int32)) (ls' := [some (.ref 355), some (.int (356 : Int32)), some (.int (5 : Int32))]) rfl rfl rfl rfl rfl ?_
                        refine LW_goto (tgt := 39) rfl rfl ?_
                        refine X_iload_n rfl rfl rfl rfl ?_
                        refine X_aload_n rfl rfl rfl rfl ?_
                        refine X_getI (v := (8 : Int32)) rfl rfl rfl ((congrFun F.1 355).trans s_355) rfl rfl ?_
                        refine X_icmp_ge (tgt := 69) rfl rfl rfl (fun q => absurd q (by decide)) (fun _ => ?_)
                        refine X_aload_n rfl rfl rfl rfl ?_
                        refine X_getR (a := 356) rfl rfl rfl ((congrFun F.1 355).trans s_355) rfl ((congrFun (F.2.1 355 (by decide)) 0).trans r_355_0) ?_
                        refine X_iload_n rfl rfl rfl rfl ?_
                        refine X_iconst (v := (1 : Int32)) rfl rfl rfl ?_
                        refine X_iadd (v := (357 : Int32)) rfl rfl rfl ?_
                        refine X_iload_n rfl rfl rfl rfl ?_
                        refine X_iadd (v := (362 : Int32)) rfl rfl rfl ?_
                        refine X_aload_n rfl rfl rfl rfl ?_
                        refine X_getR (a := 360) rfl rfl rfl ((congrFun F.1 355).trans s_355) rfl ((congrFun (F.2.1 355 (by decide)) 5).trans r_355_5) ?_
                        refine X_iload_n rfl rfl rfl rfl ?_
                        refine X_iald (v := (nI (((n / 10) / 10) % 10))) rfl rfl ((congrFun F.1 360).trans s_360) (vp_in_d rfl) rfl ?_
                        refine X_iast (k0 := 362) rfl rfl ((congrFun F.1 356).trans s_356) (vp_in_d rfl) rfl ?_
                        refine X_iinc (v := (6 : Int32)) (ls' := [some (.ref 355), some (.int (356 : Int32)), some (.int (6 : Int32))]) rfl rfl rfl rfl rfl ?_
                        refine LW_goto (tgt := 39) rfl rfl ?_
                        refine X_iload_n rfl rfl rfl rfl ?_
                        refine X_aload_n rfl rfl rfl rfl ?_
                        refine X_getI (v := (8 : Int32)) rfl rfl rfl ((congrFun F.1 355).trans s_355) rfl rfl ?_
                        refine X_icmp_ge (tgt := 69) rfl rfl rfl (fun q => absurd q (by decide)) (fun _ => ?_)
                        refine X_aload_n rfl rfl rfl rfl ?_
                        refine X_getR (a := 356) rfl rfl rfl ((congrFun F.1 355).trans s_355) rfl ((congrFun (F.2.1 355 (by decide)) 0).trans r_355_0) ?_
                        refine X_iload_n rfl rfl rfl rfl ?_
                        refine X_iconst (v := (1 : Int32)) rfl rfl rfl ?_
                        refine X_iadd (v := (357 : Int32)) rfl rfl rfl ?_
                        refine X_iload_n rfl rfl rfl rfl ?_
                        refine X_iadd (v := (363 : Int32)) rfl rfl rfl ?_
                        refine X_aload_n rfl rfl rfl rfl ?_
                        refine X_getR (a := 360) rfl rfl rfl ((congrFun F.1 355).trans s_355) rfl ((congrFun (F.2.1 355 (by decide)) 5).trans r_355_5) ?_
                        refine X_iload_n rfl rfl rfl rfl ?_
                        refine X_iald (v := (nI ((n / 10) % 10))) rfl rfl ((congrFun F.1 360).trans s_360) (vp_in_d rfl) rfl ?_
                        refine X_iast (k0 := 363) rfl rfl ((congrFun F.1 356).trans s_356) (vp_in_d rfl) rfl ?_
                        refine X_iinc (v := (7 : Int32)) (ls' := [some (.ref 355), some (.int (356 : Int32)), some (.int (7 : Int32))]) rfl rfl rfl rfl rfl ?_
                        refine LW_goto (tgt := 39) rfl rfl ?_
                        refine X_iload_n rfl rfl rfl rfl ?_
                        refine X_aload_n rfl rfl rfl rfl ?_
                        refine X_getI (v := (8 : Int32)) rfl rfl rfl ((congrFun F.1 355).trans s_355) rfl rfl ?_
                        refine X_icmp_ge (tgt := 69) rfl rfl rfl (fun q => absurd q (by decide)) (fun _ => ?_)
                        refine X_aload_n rfl rfl rfl rfl ?_
                        refine X_getR (a := 356) rfl rfl rfl ((congrFun F.1 355).trans s_355) rfl ((congrFun (F.2.1 355 (by decide)) 0).trans r_355_0) ?_
                        refine X_iload_n rfl rfl rfl rfl ?_
                        refine X_iconst (v := (1 : Int32)) rfl rfl rfl ?_
                        refine X_iadd (v := (357 : Int32)) rfl rfl rfl ?_
                        refine X_iload_n rfl rfl rfl rfl ?_
                        refine X_iadd (v := (364 : Int32)) rfl rfl rfl ?_
                        refine X_aload_n rfl rfl rfl rfl ?_
                        refine X_getR (a := 360) rfl rfl rfl ((congrFun F.1 355).trans s_355) rfl ((congrFun (F.2.1 355 (by decide)) 5).trans r_355_5) ?_
                        refine X_iload_n rfl rfl rfl rfl ?_
                        refine X_iald (v := (nI (n % 10))) rfl rfl ((congrFun F.1 360).trans s_360) (vp_in_d rfl) rfl ?_
                        refine X_iast (k0 := 364) rfl rfl ((congrFun F.1 356).trans s_356) (vp_in_d rfl) rfl ?_
                        refine X_iinc (v := (8 : Int32)) (ls' := [some (.ref 355), some (.int (356 : Int32)), some (.int (8 : Int32))]) rfl rfl rfl rfl rfl ?_
                        refine LW_goto (tgt := 39) rfl rfl ?_
                        refine X_iload_n rfl rfl rfl rfl ?_
                        refine X_aload_n rfl rfl rfl rfl ?_
                        refine X_getI (v := (8 : Int32)) rfl rfl rfl ((congrFun F.1 355).trans s_355) rfl rfl ?_
                        refine X_icmp_ge (tgt := 69) rfl rfl rfl (fun _ => ?_) (fun q => absurd q (by decide))
                        refine X_aload_n rfl rfl rfl rfl ?_
                        refine X_getR (a := 356) rfl rfl rfl ((congrFun F.1 355).trans s_355) rfl ((congrFun (F.2.1 355 (by decide)) 0).trans r_355_0) ?_
                        refine X_iconst (v := (1 : Int32)) rfl rfl rfl ?_
                        refine X_dup2 rfl rfl rfl rfl ?_
                        refine X_iald (v := (0 : Int32)) rfl rfl ((congrFun F.1 356).trans s_356) (vp_in_d rfl) ((congrFun (F.2.2 356 (by decide)).1 1).trans i_356_1) ?_
                        refine X_iconst (v := (1 : Int32)) rfl rfl rfl ?_
                        refine X_iadd (v := (1 : Int32)) rfl rfl rfl ?_
                        refine X_iast (k0 := 1) rfl rfl ((congrFun F.1 356).trans s_356) (vp_in_d rfl) rfl ?_
                        refine X_aload_n rfl rfl rfl rfl ?_
                        refine X_getR (a := 356) rfl rfl rfl ((congrFun F.1 355).trans s_355) rfl ((congrFun (F.2.1 355 (by decide)) 0).trans r_355_0) ?_
                        refine X_iconst (v := (1 : Int32)) rfl rfl rfl ?_
                        refine X_iald (v := (1 : Int32)) rfl rfl ((congrFun F.1 356).trans s_356) (vp_in_d rfl) rfl ?_
                        refine X_iconst (v := (1 : Int32)) rfl rfl rfl ?_
                        refine X_isub (v := (0 : Int32)) rfl rfl rfl ?_
                        refine LW_ireturn (st := []) rfl rfl rfl ?_
                        refine LW_ireturn (st := []) rfl rfl rfl (congrArg (fun z => some (Value.int z)) ?_)
                        simp only [Int32.lt_iff_toInt_lt, Int32.le_iff_toInt_le, ← Int32.toInt_inj, (show (1 : Int32).toInt = 1 from rfl), (show (9 : Int32).toInt = 9 from rfl), (show (10 : Int32).toInt = 10 from rfl), (show (199999999 : Int32).toInt = 199999999 from rfl), (nI_toInt (n := n) (by omega)), (nI_toInt (n := n / 10) (by omega)), (nI_toInt (n := n / 100) (by omega)), (nI_toInt (n := n / 1000) (by omega)), (nI_toInt (n := n / 10000) (by omega)), (nI_toInt (n := n / 100000) (by omega)), (nI_toInt (n := n / 1000000) (by omega)), (nI_toInt (n := n / 10000000) (by omega)), (nI_toInt (n := n / 100000000) (by omega))] at h1 h2 h3 h5 h7 h9 h11 h13 h15 h17 h18
                        unfold f_sayN
                        rw [if_pos (by omega)]
                      · refine X_iconst (v := (-1 : Int32)) rfl rfl rfl ?_
                        refine LW_ireturn (st := []) rfl rfl rfl (congrArg (fun z => some (Value.int z)) ?_)
                        simp only [Int32.lt_iff_toInt_lt, Int32.le_iff_toInt_le, ← Int32.toInt_inj, (show (1 : Int32).toInt = 1 from rfl), (show (9 : Int32).toInt = 9 from rfl), (show (10 : Int32).toInt = 10 from rfl), (show (199999999 : Int32).toInt = 199999999 from rfl), (nI_toInt (n := n) (by omega)), (nI_toInt (n := n / 10) (by omega)), (nI_toInt (n := n / 100) (by omega)), (nI_toInt (n := n / 1000) (by omega)), (nI_toInt (n := n / 10000) (by omega)), (nI_toInt (n := n / 100000) (by omega)), (nI_toInt (n := n / 1000000) (by omega)), (nI_toInt (n := n / 10000000) (by omega)), (nI_toInt (n := n / 100000000) (by omega))] at h1 h2 h3 h5 h7 h9 h11 h13 h15 h17 h18
                        unfold f_sayN
                        rw [if_neg (by omega)]
                    · exfalso
                      simp only [Int32.lt_iff_toInt_lt, Int32.le_iff_toInt_le, ← Int32.toInt_inj, (show (9 : Int32).toInt = 9 from rfl), (show (10 : Int32).toInt = 10 from rfl), (show (199999999 : Int32).toInt = 199999999 from rfl), (nI_toInt (n := n) (by omega)), (nI_toInt (n := n / 10) (by omega)), (nI_toInt (n := n / 100) (by omega)), (nI_toInt (n := n / 1000) (by omega)), (nI_toInt (n := n / 10000) (by omega)), (nI_toInt (n := n / 100000) (by omega)), (nI_toInt (n := n / 1000000) (by omega)), (nI_toInt (n := n / 10000000) (by omega)), (nI_toInt (n := n / 100000000) (by omega))] at h1 h2 h3 h5 h7 h9 h11 h13 h15 h17
                      omega
set_option maxRecDepth 10000 in
set_option maxHeartbeats 40000000 in
theorem r_saying_out {g : LH} (F : Fr g) (a : Int32) (hr : ¬ (10 ≤ a.toInt ∧ a.toInt ≤ 199999999)) : LW 191 30 0 0 0 (lEnt (mL 191) [.ref 355, .int a]) [] g (fun v _ => v = some (.int (-1))) := by
  refine LW_ls (ls' := [some (.ref 355), some (.int a), none, none, none]) rfl ?_
  refine X_iload_n rfl rfl rfl rfl ?_
  refine X_bipush (v := (10 : Int32)) rfl rfl rfl ?_
  refine X_ldc (v := (199999999 : Int32)) rfl rfl rfl ?_
  refine X_callS (as := [.int a, .int (10 : Int32), .int (199999999 : Int32)]) (st := []) rfl rfl rfl (by decide) rfl (Nat.le_of_ble_eq_true rfl) (by decide) (Nat.le_of_ble_eq_true rfl) rfl ?_
  refine LW_ls (ls' := [some (.int a), some (.int (10 : Int32)), some (.int (199999999 : Int32))]) rfl ?_
  refine X_iload_n rfl rfl rfl rfl ?_
  refine X_iload_n rfl rfl rfl rfl ?_
  refine X_icmp_lt (tgt := 14) rfl rfl rfl (fun h1 => ?_) (fun h1 => ?_)
  · refine X_iconst (v := (0 : Int32)) rfl rfl rfl ?_
    refine LW_ireturn (st := []) rfl rfl rfl ?_
    refine X_if_ne (tgt := 13) rfl rfl rfl (fun q => absurd q (by decide)) (fun _ => ?_)
    refine X_iconst (v := (-1 : Int32)) rfl rfl rfl ?_
    exact LW_ireturn (st := []) rfl rfl rfl rfl
  · refine X_iload_n rfl rfl rfl rfl ?_
    refine X_iload_n rfl rfl rfl rfl ?_
    refine X_icmp_gt (tgt := 14) rfl rfl rfl (fun h2 => ?_) (fun h2 => ?_)
    · refine X_iconst (v := (0 : Int32)) rfl rfl rfl ?_
      refine LW_ireturn (st := []) rfl rfl rfl ?_
      refine X_if_ne (tgt := 13) rfl rfl rfl (fun q => absurd q (by decide)) (fun _ => ?_)
      refine X_iconst (v := (-1 : Int32)) rfl rfl rfl ?_
      exact LW_ireturn (st := []) rfl rfl rfl rfl
    · refine X_iconst (v := (1 : Int32)) rfl rfl rfl ?_
      refine LW_goto (tgt := 15) rfl rfl ?_
      refine LW_ireturn (st := []) rfl rfl rfl ?_
      refine X_if_ne (tgt := 13) rfl rfl rfl (fun _ => ?_) (fun q => absurd q (by decide))
      exfalso
      simp only [Int32.lt_iff_toInt_lt, Int32.le_iff_toInt_le, ← Int32.toInt_inj, (show (10 : Int32).toInt = 10 from rfl), (show (199999999 : Int32).toInt = 199999999 from rfl)] at h1 h2
      omega
