/-! the class: strike, comeBack -/
theorem and_m1 (x : Int32) : x &&& (-1) = x := Int32.toBitVec_inj.mp (by
  show x.toBitVec &&& (-1 : Int32).toBitVec = x.toBitVec
  rw [show (-1 : Int32).toBitVec = BitVec.allOnes 32 from rfl, BitVec.and_allOnes])
theorem pcn_none : ∀ (k n : Nat), n < 2 ^ k → pcn k n = 0 → n = 0
  | 0, n, h, _ => by simpa using h
  | k + 1, n, h, h0 => by
    have h0 : n % 2 + pcn k (n / 2) = 0 := h0
    have := pcn_none k (n / 2) (by rw [Nat.pow_succ] at h; omega) (by omega)
    omega
theorem pcn_le : ∀ (k n : Nat), pcn k n ≤ k
  | 0, _ => Nat.le_refl _
  | k + 1, n => by
    have := pcn_le k (n / 2)
    show n % 2 + pcn k (n / 2) ≤ k + 1
    omega
theorem Fr_mvG {g : LH} {n i : Nat} (h : Fr g) : Fr (mvG g n i) := by
  refine ⟨h.1, h.2.1, fun z hz => ⟨?_, (h.2.2 z hz).2⟩⟩
  show va_up (va_up (Gi g) 10 _) 12 _ z = _
  rw [va_up_ne _ _ (show z ≠ 12 by omega), va_up_ne _ _ (show z ≠ 10 by omega)]
  exact (h.2.2 z hz).1
set_option maxRecDepth 10000 in
set_option maxHeartbeats 4000000 in
theorem c_strike_in {g : LH} (F : Fc g) (E : Fr g) {n : Nat} (h0 : 1 ≤ n) (hn : n < 67108864) (hp : 1 ≤ pcn 32 n) (hp2 : pcn 32 n ≤ 32) : LW 135 30 0 0 0 (lEnt (mL 135) [.ref 0, .int (nI (n))]) [] g (fun v g' => v = some (.int (nI (pcn 32 n))) ∧ Fr g') := by
  refine LW_ls (ls' := [some (.ref 0), some (.int (nI (n))), none]) rfl ?_
  refine X_iload_n rfl rfl rfl rfl ?_
  refine X_callS (as := [.int (nI (n))]) (st := []) rfl rfl rfl (by decide) rfl (Nat.le_of_ble_eq_true rfl) (by decide) (Nat.le_of_ble_eq_true rfl) rfl ?_
  refine LW_ls (ls' := [some (.int (nI (n)))]) rfl ?_
  refine X_iload_n rfl rfl rfl rfl ?_
  refine X_if_le (tgt := 15) rfl rfl rfl (fun h1 => ?_) (fun h1 => ?_)
  · exfalso
    simp only [Int32.lt_iff_toInt_lt, Int32.le_iff_toInt_le, ← Int32.toInt_inj, (show (0 : Int32).toInt = 0 from rfl), (nI_toInt (n := n) (by omega))] at h1
    omega
  · refine X_iload_n rfl rfl rfl rfl ?_
    refine X_ldcw (v := (67108864 : Int32)) rfl rfl rfl ?_
    refine X_icmp_ge (tgt := 15) rfl rfl rfl (fun h2 => ?_) (fun h2 => ?_)
    · exfalso
      simp only [Int32.lt_iff_toInt_lt, Int32.le_iff_toInt_le, ← Int32.toInt_inj, (show (0 : Int32).toInt = 0 from rfl), (show (67108864 : Int32).toInt = 67108864 from rfl), (nI_toInt (n := n) (by omega))] at h1 h2
      omega
    · refine X_iconst (v := (1 : Int32)) rfl rfl rfl ?_
      refine LW_goto (tgt := 16) rfl rfl ?_
      refine LW_ireturn (st := []) rfl rfl rfl ?_
      refine X_if_eq (tgt := 18) rfl rfl rfl (fun q => absurd q (by decide)) (fun _ => ?_)
      refine X_aload_n rfl rfl rfl rfl ?_
      refine X_getR (a := 342) rfl rfl rfl ((congrFun F.1 0).trans s_0) rfl ((congrFun (F.2.1 0 (by decide)) 6).trans r_0_6) ?_
      refine X_iload_n rfl rfl rfl rfl ?_
      refine X_callV (as := [.int (nI (n))]) (st := []) rfl rfl rfl (by decide) rfl (Nat.le_of_ble_eq_true rfl) (by decide) (Nat.le_of_ble_eq_true rfl) rfl ((congrFun F.1 342).trans s_342) (by decide) ?_
      refine LW_ls (ls' := [some (.ref 342), some (.int (nI (n)))]) rfl ?_
      refine X_aload_n rfl rfl rfl rfl ?_
      refine X_iload_n rfl rfl rfl rfl ?_
      refine X_aload_n rfl rfl rfl rfl ?_
      refine X_getR (a := 10) rfl rfl rfl ((congrFun F.1 342).trans s_342) rfl ((congrFun (F.2.1 342 (by decide)) 1).trans r_342_1) ?_
      refine X_getI (v := (0 : Int32)) rfl rfl rfl ((congrFun F.1 10).trans s_10) rfl ((congrFun (F.2.2 10 (by decide)).1 0).trans i_10_0) ?_
      refine X_iconst (v := (-1 : Int32)) rfl rfl rfl ?_
      refine X_ixor (v := (-1 : Int32)) rfl rfl rfl ?_
      refine X_iand (v := (nI (n))) rfl rfl (and_m1 _) ?_
      refine X_callV (as := [.int (nI (n))]) (st := []) rfl rfl rfl (by decide) rfl (Nat.le_of_ble_eq_true rfl) (by decide) (Nat.le_of_ble_eq_true rfl) rfl ((congrFun F.1 342).trans s_342) (by decide) ?_
      refine LW_ls (ls' := [some (.ref 342), some (.int (nI (n)))]) rfl ?_
      refine X_iload_n rfl rfl rfl rfl ?_
      refine X_if_eq (tgt := 26) rfl rfl rfl (fun h3 => ?_) (fun h3 => ?_)
      · exfalso
        simp only [Int32.lt_iff_toInt_lt, Int32.le_iff_toInt_le, ← Int32.toInt_inj, (show (0 : Int32).toInt = 0 from rfl), (show (67108864 : Int32).toInt = 67108864 from rfl), (nI_toInt (n := n) (by omega))] at h1 h2 h3
        omega
      · refine X_aload_n rfl rfl rfl rfl ?_
        refine X_getR (a := 1) rfl rfl rfl ((congrFun F.1 342).trans s_342) rfl ((congrFun (F.2.1 342 (by decide)) 0).trans r_342_0) ?_
        refine X_getR (a := 14) rfl rfl rfl ((congrFun F.1 1).trans s_1) rfl ((congrFun (F.2.1 1 (by decide)) 2).trans r_1_2) ?_
        refine X_aload_n rfl rfl rfl rfl ?_
        refine X_getR (a := 10) rfl rfl rfl ((congrFun F.1 342).trans s_342) rfl ((congrFun (F.2.1 342 (by decide)) 1).trans r_342_1) ?_
        refine X_callV (as := [.ref 10]) (st := []) rfl rfl rfl (by decide) rfl (Nat.le_of_ble_eq_true rfl) (by decide) (Nat.le_of_ble_eq_true rfl) rfl ((congrFun F.1 14).trans s_14) (by decide) ?_
        refine LW_ls (ls' := [some (.ref 14), some (.ref 10)]) rfl ?_
        refine X_aload_n rfl rfl rfl rfl ?_
        refine X_getI (v := (0 : Int32)) rfl rfl rfl ((congrFun F.1 14).trans s_14) rfl ((congrFun (F.2.2 14 (by decide)).1 0).trans i_14_0) ?_
        refine X_bipush (v := (30 : Int32)) rfl rfl rfl ?_
        refine X_icmp_ne (tgt := 32) rfl rfl rfl (fun _ => ?_) (fun q => absurd q (by decide))
        refine X_aload_n rfl rfl rfl rfl ?_
        refine X_getR (a := 15) rfl rfl rfl ((congrFun F.1 14).trans s_14) rfl ((congrFun (F.2.1 14 (by decide)) 2).trans r_14_2) ?_
        refine X_aload_n rfl rfl rfl rfl ?_
        refine X_getI (v := (0 : Int32)) rfl rfl rfl ((congrFun F.1 14).trans s_14) rfl ((congrFun (F.2.2 14 (by decide)).1 1).trans i_14_1) ?_
        refine X_aload_n rfl rfl rfl rfl ?_
        refine X_getI (v := (0 : Int32)) rfl rfl rfl ((congrFun F.1 14).trans s_14) rfl ((congrFun (F.2.2 14 (by decide)).1 0).trans i_14_0) ?_
        refine X_iadd (v := (0 : Int32)) rfl rfl rfl ?_
        refine X_bipush (v := (30 : Int32)) rfl rfl rfl ?_
        refine X_irem (v := (0 : Int32)) rfl rfl (by decide) rfl ?_
        refine X_aald (a := 16) (t0 := 3) rfl rfl ((congrFun F.1 15).trans s_15) rfl (vp_in_d rfl) ((congrFun (F.2.1 15 (by decide)) 0).trans r_15_0) ?_
        refine X_aload_n rfl rfl rfl rfl ?_
        refine X_callV (as := [.ref 10]) (st := []) rfl rfl rfl (by decide) rfl (Nat.le_of_ble_eq_true rfl) (by decide) (Nat.le_of_ble_eq_true rfl) rfl ((congrFun F.1 16).trans s_16) (by decide) ?_
        refine LW_ls (ls' := [some (.ref 16), some (.ref 10)]) rfl ?_
        refine X_aload_n rfl rfl rfl rfl ?_
        refine X_aload_n rfl rfl rfl rfl ?_
        refine X_getI (v := (0 : Int32)) rfl rfl rfl ((congrFun F.1 10).trans s_10) rfl ((congrFun (F.2.2 10 (by decide)).1 0).trans i_10_0) ?_
        refine X_putI rfl rfl rfl ((congrFun F.1 16).trans s_16) rfl rfl rfl rfl ?_
        refine X_aload_n rfl rfl rfl rfl ?_
        refine X_aload_n rfl rfl rfl rfl ?_
        refine X_getI (v := (0 : Int32)) rfl rfl rfl ((congrFun F.1 10).trans s_10) rfl ((congrFun (F.2.2 10 (by decide)).1 1).trans i_10_1) ?_
        refine X_putI rfl rfl rfl ((congrFun F.1 16).trans s_16) rfl rfl rfl rfl ?_
        refine X_aload_n rfl rfl rfl rfl ?_
        refine X_aload_n rfl rfl rfl rfl ?_
        refine X_getI (v := (17 : Int32)) rfl rfl rfl ((congrFun F.1 10).trans s_10) rfl ((congrFun (F.2.2 10 (by decide)).1 2).trans i_10_2) ?_
        refine X_putI rfl rfl rfl ((congrFun F.1 16).trans s_16) rfl rfl rfl rfl ?_
        refine X_aload_n rfl rfl rfl rfl ?_
        refine X_aload_n rfl rfl rfl rfl ?_
        refine X_getI (v := (0 : Int32)) rfl rfl rfl ((congrFun F.1 10).trans s_10) rfl ((congrFun (F.2.2 10 (by decide)).1 3).trans i_10_3) ?_
        refine X_putI rfl rfl rfl ((congrFun F.1 16).trans s_16) rfl rfl rfl rfl ?_
        refine X_aload_n rfl rfl rfl rfl ?_
        refine X_getR (a := 11) rfl rfl rfl ((congrFun F.1 10).trans s_10) rfl ((congrFun (F.2.1 10 (by decide)) 4).trans r_10_4) ?_
        refine X_iconst (v := (0 : Int32)) rfl rfl rfl ?_
        refine X_aload_n rfl rfl rfl rfl ?_
        refine X_getR (a := 17) rfl rfl rfl ((congrFun F.1 16).trans s_16) rfl ((congrFun (F.2.1 16 (by decide)) 4).trans r_16_4) ?_
        refine X_iconst (v := (0 : Int32)) rfl rfl rfl ?_
        refine X_bipush (v := (26 : Int32)) rfl rfl rfl ?_
        refine X_copy (sp' := 0) (dp' := 0) (n' := 26) rfl rfl rfl ((congrFun F.1 11).trans s_11) ((congrFun F.1 17).trans s_17) (by decide) (by decide) (by decide) rfl rfl rfl (by decide) (by decide) (Nat.le_of_ble_eq_true rfl) ?_
        refine X_aload_n rfl rfl rfl rfl ?_
        refine X_getR (a := 12) rfl rfl rfl ((congrFun F.1 10).trans s_10) rfl ((congrFun (F.2.1 10 (by decide)) 5).trans r_10_5) ?_
        refine X_iconst (v := (0 : Int32)) rfl rfl rfl ?_
        refine X_aload_n rfl rfl rfl rfl ?_
        refine X_getR (a := 18) rfl rfl rfl ((congrFun F.1 16).trans s_16) rfl ((congrFun (F.2.1 16 (by decide)) 5).trans r_16_5) ?_
        refine X_iconst (v := (0 : Int32)) rfl rfl rfl ?_
        refine X_bipush (v := (26 : Int32)) rfl rfl rfl ?_
        refine X_copy (sp' := 0) (dp' := 0) (n' := 26) rfl rfl rfl ((congrFun F.1 12).trans s_12) ((congrFun F.1 18).trans s_18) (by decide) (by decide) (by decide) rfl rfl rfl (by decide) (by decide) (Nat.le_of_ble_eq_true rfl) ?_
        refine X_aload_n rfl rfl rfl rfl ?_
        refine X_getR (a := 13) rfl rfl rfl ((congrFun F.1 10).trans s_10) rfl ((congrFun (F.2.1 10 (by decide)) 6).trans r_10_6) ?_
        refine X_iconst (v := (0 : Int32)) rfl rfl rfl ?_
        refine X_aload_n rfl rfl rfl rfl ?_
        refine X_getR (a := 19) rfl rfl rfl ((congrFun F.1 16).trans s_16) rfl ((congrFun (F.2.1 16 (by decide)) 6).trans r_16_6) ?_
        refine X_iconst (v := (0 : Int32)) rfl rfl rfl ?_
        refine X_bipush (v := (26 : Int32)) rfl rfl rfl ?_
        refine X_copy (sp' := 0) (dp' := 0) (n' := 26) rfl rfl rfl ((congrFun F.1 13).trans s_13) ((congrFun F.1 19).trans s_19) (by decide) (by decide) (by decide) rfl rfl rfl (by decide) (by decide) (Nat.le_of_ble_eq_true rfl) ?_
        refine LW_return (st := []) rfl rfl ?_
        refine X_aload_n rfl rfl rfl rfl ?_
        refine X_dup rfl rfl rfl ?_
        refine X_getI (v := (0 : Int32)) rfl rfl rfl ((congrFun F.1 14).trans s_14) rfl ((congrFun (F.2.2 14 (by decide)).1 0).trans i_14_0) ?_
        refine X_iconst (v := (1 : Int32)) rfl rfl rfl ?_
        refine X_iadd (v := (1 : Int32)) rfl rfl rfl ?_
        refine X_putI rfl rfl rfl ((congrFun F.1 14).trans s_14) rfl rfl rfl rfl ?_
        refine LW_return (st := []) rfl rfl ?_
        refine X_aload_n rfl rfl rfl rfl ?_
        refine X_getR (a := 10) rfl rfl rfl ((congrFun F.1 342).trans s_342) rfl ((congrFun (F.2.1 342 (by decide)) 1).trans r_342_1) ?_
        refine X_iload_n rfl rfl rfl rfl ?_
        refine Y_callV (as := [.int (nI (n))]) (st := []) rfl rfl rfl (by decide) rfl (Nat.le_of_ble_eq_true rfl) (by decide) (Nat.le_of_ble_eq_true rfl) rfl ((congrFun F.1 10).trans s_10) (by decide) (by refine c_move (n := n) ?_ (by omega); exact ⟨F.1, F.2.1⟩) ?_
        rintro _ _ ⟨rfl, rfl⟩
        refine X_iload_n rfl rfl rfl rfl ?_
        refine Y_callS (as := [.int (nI (n))]) (st := []) rfl rfl rfl (by decide) rfl (Nat.le_of_ble_eq_true rfl) (by decide) (Nat.le_of_ble_eq_true rfl) rfl (c_bitCount (n := n) (by omega)) ?_
        rintro _ _ ⟨rfl, rfl⟩
        refine LW_ireturn (st := []) rfl rfl rfl ?_
        refine LW_ireturn (st := []) rfl rfl rfl ?_
        refine LW_goto (tgt := 19) rfl rfl ?_
        refine X_istore_n (i := 2) (ls' := [some (.ref 0), some (.int (nI (n))), some (.int (nI (pcn 32 n)))]) rfl rfl rfl (Nat.le_of_ble_eq_true rfl) rfl ?_
        refine X_iload_n rfl rfl rfl rfl ?_
        refine X_if_le (tgt := 28) rfl rfl rfl (fun h4 => ?_) (fun h4 => ?_)
        · exfalso
          simp only [Int32.lt_iff_toInt_lt, Int32.le_iff_toInt_le, ← Int32.toInt_inj, (show (0 : Int32).toInt = 0 from rfl), (show (67108864 : Int32).toInt = 67108864 from rfl), (nI_toInt (n := n) (by omega)), (nI_toInt (n := pcn 32 n) (by omega))] at h1 h2 h3 h4
          omega
        · refine X_iload_n rfl rfl rfl rfl ?_
          refine LW_goto (tgt := 29) rfl rfl ?_
          exact LW_ireturn (st := []) rfl rfl rfl ⟨rfl, (Fr_mvG (Fr_putI (Fr_cpyI (Fr_cpyI (Fr_cpyI (Fr_putI (Fr_putI (Fr_putI (Fr_putI E (by decide)) (by decide)) (by decide)) (by decide)) (by decide)) (by decide)) (by decide)) (by decide)))⟩
set_option maxRecDepth 10000 in
set_option maxHeartbeats 4000000 in
theorem c_strike_out {g : LH} (F : Fc g) (E : Fr g) (a : Int32) (hr : ¬ (1 ≤ a.toInt ∧ a.toInt ≤ 67108863)) : LW 135 30 0 0 0 (lEnt (mL 135) [.ref 0, .int a]) [] g (fun v g' => v = some (.int (-1)) ∧ Fr g') := by
  refine LW_ls (ls' := [some (.ref 0), some (.int a), none]) rfl ?_
  refine X_iload_n rfl rfl rfl rfl ?_
  refine X_callS (as := [.int a]) (st := []) rfl rfl rfl (by decide) rfl (Nat.le_of_ble_eq_true rfl) (by decide) (Nat.le_of_ble_eq_true rfl) rfl ?_
  refine LW_ls (ls' := [some (.int a)]) rfl ?_
  refine X_iload_n rfl rfl rfl rfl ?_
  refine X_if_le (tgt := 15) rfl rfl rfl (fun h1 => ?_) (fun h1 => ?_)
  · refine X_iconst (v := (0 : Int32)) rfl rfl rfl ?_
    refine LW_ireturn (st := []) rfl rfl rfl ?_
    refine X_if_eq (tgt := 18) rfl rfl rfl (fun _ => ?_) (fun q => absurd q (by decide))
    refine X_iconst (v := (0 : Int32)) rfl rfl rfl ?_
    refine X_istore_n (i := 2) (ls' := [some (.ref 0), some (.int a), some (.int (0 : Int32))]) rfl rfl rfl (Nat.le_of_ble_eq_true rfl) rfl ?_
    refine X_iload_n rfl rfl rfl rfl ?_
    refine X_if_le (tgt := 28) rfl rfl rfl (fun _ => ?_) (fun q => absurd q (by decide))
    refine X_iconst (v := (-1 : Int32)) rfl rfl rfl ?_
    exact LW_ireturn (st := []) rfl rfl rfl ⟨rfl, E⟩
  · refine X_iload_n rfl rfl rfl rfl ?_
    refine X_ldcw (v := (67108864 : Int32)) rfl rfl rfl ?_
    refine X_icmp_ge (tgt := 15) rfl rfl rfl (fun h2 => ?_) (fun h2 => ?_)
    · refine X_iconst (v := (0 : Int32)) rfl rfl rfl ?_
      refine LW_ireturn (st := []) rfl rfl rfl ?_
      refine X_if_eq (tgt := 18) rfl rfl rfl (fun _ => ?_) (fun q => absurd q (by decide))
      refine X_iconst (v := (0 : Int32)) rfl rfl rfl ?_
      refine X_istore_n (i := 2) (ls' := [some (.ref 0), some (.int a), some (.int (0 : Int32))]) rfl rfl rfl (Nat.le_of_ble_eq_true rfl) rfl ?_
      refine X_iload_n rfl rfl rfl rfl ?_
      refine X_if_le (tgt := 28) rfl rfl rfl (fun _ => ?_) (fun q => absurd q (by decide))
      refine X_iconst (v := (-1 : Int32)) rfl rfl rfl ?_
      exact LW_ireturn (st := []) rfl rfl rfl ⟨rfl, E⟩
    · refine X_iconst (v := (1 : Int32)) rfl rfl rfl ?_
      refine LW_goto (tgt := 16) rfl rfl ?_
      refine LW_ireturn (st := []) rfl rfl rfl ?_
      refine X_if_eq (tgt := 18) rfl rfl rfl (fun q => absurd q (by decide)) (fun _ => ?_)
      exfalso
      simp only [Int32.lt_iff_toInt_lt, Int32.le_iff_toInt_le, ← Int32.toInt_inj, (show (0 : Int32).toInt = 0 from rfl), (show (67108864 : Int32).toInt = 67108864 from rfl)] at h1 h2
      omega
set_option maxRecDepth 10000 in
set_option maxHeartbeats 4000000 in
theorem c_comeBack_in {g : LH} (F : Fc g) (E : Fr g) {n : Nat} (h0 : 1 ≤ n) (hn : n < 67108864) : LW 136 30 0 0 0 (lEnt (mL 136) [.ref 0, .int (nI (n))]) [] g (fun v g' => v = some (.int (-1)) ∧ Fr g') := by
  refine LW_ls (ls' := [some (.ref 0), some (.int (nI (n))), none]) rfl ?_
  refine X_iload_n rfl rfl rfl rfl ?_
  refine X_callS (as := [.int (nI (n))]) (st := []) rfl rfl rfl (by decide) rfl (Nat.le_of_ble_eq_true rfl) (by decide) (Nat.le_of_ble_eq_true rfl) rfl ?_
  refine LW_ls (ls' := [some (.int (nI (n)))]) rfl ?_
  refine X_iload_n rfl rfl rfl rfl ?_
  refine X_if_le (tgt := 15) rfl rfl rfl (fun h1 => ?_) (fun h1 => ?_)
  · exfalso
    simp only [Int32.lt_iff_toInt_lt, Int32.le_iff_toInt_le, ← Int32.toInt_inj, (show (0 : Int32).toInt = 0 from rfl), (nI_toInt (n := n) (by omega))] at h1
    omega
  · refine X_iload_n rfl rfl rfl rfl ?_
    refine X_ldcw (v := (67108864 : Int32)) rfl rfl rfl ?_
    refine X_icmp_ge (tgt := 15) rfl rfl rfl (fun h2 => ?_) (fun h2 => ?_)
    · exfalso
      simp only [Int32.lt_iff_toInt_lt, Int32.le_iff_toInt_le, ← Int32.toInt_inj, (show (0 : Int32).toInt = 0 from rfl), (show (67108864 : Int32).toInt = 67108864 from rfl), (nI_toInt (n := n) (by omega))] at h1 h2
      omega
    · refine X_iconst (v := (1 : Int32)) rfl rfl rfl ?_
      refine LW_goto (tgt := 16) rfl rfl ?_
      refine LW_ireturn (st := []) rfl rfl rfl ?_
      refine X_if_eq (tgt := 18) rfl rfl rfl (fun q => absurd q (by decide)) (fun _ => ?_)
      refine X_aload_n rfl rfl rfl rfl ?_
      refine X_getR (a := 342) rfl rfl rfl ((congrFun F.1 0).trans s_0) rfl ((congrFun (F.2.1 0 (by decide)) 6).trans r_0_6) ?_
      refine X_iload_n rfl rfl rfl rfl ?_
      refine X_callV (as := [.int (nI (n))]) (st := []) rfl rfl rfl (by decide) rfl (Nat.le_of_ble_eq_true rfl) (by decide) (Nat.le_of_ble_eq_true rfl) rfl ((congrFun F.1 342).trans s_342) (by decide) ?_
      refine LW_ls (ls' := [some (.ref 342), some (.int (nI (n)))]) rfl ?_
      refine X_aload_n rfl rfl rfl rfl ?_
      refine X_iload_n rfl rfl rfl rfl ?_
      refine X_aload_n rfl rfl rfl rfl ?_
      refine X_getR (a := 10) rfl rfl rfl ((congrFun F.1 342).trans s_342) rfl ((congrFun (F.2.1 342 (by decide)) 1).trans r_342_1) ?_
      refine X_getI (v := (0 : Int32)) rfl rfl rfl ((congrFun F.1 10).trans s_10) rfl ((congrFun (F.2.2 10 (by decide)).1 0).trans i_10_0) ?_
      refine X_iand (v := (0 : Int32)) rfl rfl (by simp) ?_
      refine X_callV (as := [.int (0 : Int32)]) (st := []) rfl rfl rfl (by decide) rfl (Nat.le_of_ble_eq_true rfl) (by decide) (Nat.le_of_ble_eq_true rfl) rfl ((congrFun F.1 342).trans s_342) (by decide) ?_
      refine LW_ls (ls' := [some (.ref 342), some (.int (0 : Int32))]) rfl ?_
      refine X_iload_n rfl rfl rfl rfl ?_
      refine X_if_eq (tgt := 26) rfl rfl rfl (fun _ => ?_) (fun q => absurd q (by decide))
      refine X_iload_n rfl rfl rfl rfl ?_
      refine X_callS (as := [.int (0 : Int32)]) (st := []) rfl rfl rfl (by decide) rfl (Nat.le_of_ble_eq_true rfl) (by decide) (Nat.le_of_ble_eq_true rfl) rfl ?_
      refine LW_ls (ls' := [some (.int (0 : Int32))]) rfl ?_
      refine X_iload_n rfl rfl rfl rfl ?_
      refine X_iload_n rfl rfl rfl rfl ?_
      refine X_iconst (v := (1 : Int32)) rfl rfl rfl ?_
      refine X_iushr (v := (0 : Int32)) rfl rfl rfl ?_
      refine X_ldcw (v := (1431655765 : Int32)) rfl rfl rfl ?_
      refine X_iand (v := (0 : Int32)) rfl rfl rfl ?_
      refine X_isub (v := (0 : Int32)) rfl rfl rfl ?_
      refine X_istore_n (i := 0) (ls' := [some (.int (0 : Int32))]) rfl rfl rfl (Nat.le_of_ble_eq_true rfl) rfl ?_
      refine X_iload_n rfl rfl rfl rfl ?_
      refine X_ldcw (v := (858993459 : Int32)) rfl rfl rfl ?_
      refine X_iand (v := (0 : Int32)) rfl rfl rfl ?_
      refine X_iload_n rfl rfl rfl rfl ?_
      refine X_iconst (v := (2 : Int32)) rfl rfl rfl ?_
      refine X_iushr (v := (0 : Int32)) rfl rfl rfl ?_
      refine X_ldcw (v := (858993459 : Int32)) rfl rfl rfl ?_
      refine X_iand (v := (0 : Int32)) rfl rfl rfl ?_
      refine X_iadd (v := (0 : Int32)) rfl rfl rfl ?_
      refine X_istore_n (i := 0) (ls' := [some (.int (0 : Int32))]) rfl rfl rfl (Nat.le_of_ble_eq_true rfl) rfl ?_
      refine X_iload_n rfl rfl rfl rfl ?_
      refine X_iload_n rfl rfl rfl rfl ?_
      refine X_iconst (v := (4 : Int32)) rfl rfl rfl ?_
      refine X_iushr (v := (0 : Int32)) rfl rfl rfl ?_
      refine X_iadd (v := (0 : Int32)) rfl rfl rfl ?_
      refine X_ldcw (v := (252645135 : Int32)) rfl rfl rfl ?_
      refine X_iand (v := (0 : Int32)) rfl rfl rfl ?_
      refine X_istore_n (i := 0) (ls' := [some (.int (0 : Int32))]) rfl rfl rfl (Nat.le_of_ble_eq_true rfl) rfl ?_
      refine X_iload_n rfl rfl rfl rfl ?_
      refine X_iload_n rfl rfl rfl rfl ?_
      refine X_bipush (v := (8 : Int32)) rfl rfl rfl ?_
      refine X_iushr (v := (0 : Int32)) rfl rfl rfl ?_
      refine X_iadd (v := (0 : Int32)) rfl rfl rfl ?_
      refine X_istore_n (i := 0) (ls' := [some (.int (0 : Int32))]) rfl rfl rfl (Nat.le_of_ble_eq_true rfl) rfl ?_
      refine X_iload_n rfl rfl rfl rfl ?_
      refine X_iload_n rfl rfl rfl rfl ?_
      refine X_bipush (v := (16 : Int32)) rfl rfl rfl ?_
      refine X_iushr (v := (0 : Int32)) rfl rfl rfl ?_
      refine X_iadd (v := (0 : Int32)) rfl rfl rfl ?_
      refine X_istore_n (i := 0) (ls' := [some (.int (0 : Int32))]) rfl rfl rfl (Nat.le_of_ble_eq_true rfl) rfl ?_
      refine X_iload_n rfl rfl rfl rfl ?_
      refine X_bipush (v := (63 : Int32)) rfl rfl rfl ?_
      refine X_iand (v := (0 : Int32)) rfl rfl rfl ?_
      refine LW_ireturn (st := []) rfl rfl rfl ?_
      refine LW_ireturn (st := []) rfl rfl rfl ?_
      refine LW_ireturn (st := []) rfl rfl rfl ?_
      refine LW_goto (tgt := 19) rfl rfl ?_
      refine X_istore_n (i := 2) (ls' := [some (.ref 0), some (.int (nI (n))), some (.int (0 : Int32))]) rfl rfl rfl (Nat.le_of_ble_eq_true rfl) rfl ?_
      refine X_iload_n rfl rfl rfl rfl ?_
      refine X_if_le (tgt := 28) rfl rfl rfl (fun _ => ?_) (fun q => absurd q (by decide))
      refine X_iconst (v := (-1 : Int32)) rfl rfl rfl ?_
      exact LW_ireturn (st := []) rfl rfl rfl ⟨rfl, E⟩
set_option maxRecDepth 10000 in
set_option maxHeartbeats 4000000 in
theorem c_comeBack_out {g : LH} (F : Fc g) (E : Fr g) (a : Int32) (hr : ¬ (1 ≤ a.toInt ∧ a.toInt ≤ 67108863)) : LW 136 30 0 0 0 (lEnt (mL 136) [.ref 0, .int a]) [] g (fun v g' => v = some (.int (-1)) ∧ Fr g') := by
  refine LW_ls (ls' := [some (.ref 0), some (.int a), none]) rfl ?_
  refine X_iload_n rfl rfl rfl rfl ?_
  refine X_callS (as := [.int a]) (st := []) rfl rfl rfl (by decide) rfl (Nat.le_of_ble_eq_true rfl) (by decide) (Nat.le_of_ble_eq_true rfl) rfl ?_
  refine LW_ls (ls' := [some (.int a)]) rfl ?_
  refine X_iload_n rfl rfl rfl rfl ?_
  refine X_if_le (tgt := 15) rfl rfl rfl (fun h1 => ?_) (fun h1 => ?_)
  · refine X_iconst (v := (0 : Int32)) rfl rfl rfl ?_
    refine LW_ireturn (st := []) rfl rfl rfl ?_
    refine X_if_eq (tgt := 18) rfl rfl rfl (fun _ => ?_) (fun q => absurd q (by decide))
    refine X_iconst (v := (0 : Int32)) rfl rfl rfl ?_
    refine X_istore_n (i := 2) (ls' := [some (.ref 0), some (.int a), some (.int (0 : Int32))]) rfl rfl rfl (Nat.le_of_ble_eq_true rfl) rfl ?_
    refine X_iload_n rfl rfl rfl rfl ?_
    refine X_if_le (tgt := 28) rfl rfl rfl (fun _ => ?_) (fun q => absurd q (by decide))
    refine X_iconst (v := (-1 : Int32)) rfl rfl rfl ?_
    exact LW_ireturn (st := []) rfl rfl rfl ⟨rfl, E⟩
  · refine X_iload_n rfl rfl rfl rfl ?_
    refine X_ldcw (v := (67108864 : Int32)) rfl rfl rfl ?_
    refine X_icmp_ge (tgt := 15) rfl rfl rfl (fun h2 => ?_) (fun h2 => ?_)
    · refine X_iconst (v := (0 : Int32)) rfl rfl rfl ?_
      refine LW_ireturn (st := []) rfl rfl rfl ?_
      refine X_if_eq (tgt := 18) rfl rfl rfl (fun _ => ?_) (fun q => absurd q (by decide))
      refine X_iconst (v := (0 : Int32)) rfl rfl rfl ?_
      refine X_istore_n (i := 2) (ls' := [some (.ref 0), some (.int a), some (.int (0 : Int32))]) rfl rfl rfl (Nat.le_of_ble_eq_true rfl) rfl ?_
      refine X_iload_n rfl rfl rfl rfl ?_
      refine X_if_le (tgt := 28) rfl rfl rfl (fun _ => ?_) (fun q => absurd q (by decide))
      refine X_iconst (v := (-1 : Int32)) rfl rfl rfl ?_
      exact LW_ireturn (st := []) rfl rfl rfl ⟨rfl, E⟩
    · refine X_iconst (v := (1 : Int32)) rfl rfl rfl ?_
      refine LW_goto (tgt := 16) rfl rfl ?_
      refine LW_ireturn (st := []) rfl rfl rfl ?_
      refine X_if_eq (tgt := 18) rfl rfl rfl (fun q => absurd q (by decide)) (fun _ => ?_)
      exfalso
      simp only [Int32.lt_iff_toInt_lt, Int32.le_iff_toInt_le, ← Int32.toInt_inj, (show (0 : Int32).toInt = 0 from rfl), (show (67108864 : Int32).toInt = 67108864 from rfl)] at h1 h2
      omega
