/-! tie, of the class -/
theorem v_356_90 : ∀ k, k < 26 → eI e2 356 (90 + k) = 0 := by decide +kernel
theorem tie_1 : ∀ n, n < 26 → (1 : Int32) <<< (nI n &&& 31) = nI (2 ^ n) := by decide +kernel
theorem tie_2 : ∀ n, n < 26 → 2 ^ n / 2 ^ n % 2 = 1 := by decide +kernel
theorem tie_3 : ∀ n, n < 26 → ∀ i, i < 26 → i ≠ n → nI (2 ^ n / 2 ^ i % 2) = 0 := by decide +kernel
theorem tie_4 : ∀ n, n < 26 → ∀ b, b < 26 → b ≠ n → (0 : Int32) ||| (nI (2 ^ b) &&& (((1 : Int32) <<< (nI n &&& 31)) ^^^ (-1))) = nI (2 ^ b) := by decide +kernel
theorem tie_5 : ∀ b, b < 26 → ¬ nI (2 ^ b) = 0 := by decide +kernel
theorem tie_6 : ∀ n, n < 26 → 2 ^ n < 2 ^ 31 := by decide +kernel
theorem tie_skip {g : LH} {d n i : Nat} {y f : Int32} {l5 : Option Value} {Q : Option Value → LH → Prop} (hn : n < 26) (hi : i < 26) (hne : i ≠ n) (k : LW 21 d 0 0 5 [some (.ref 1), some (.int (nI (2 ^ n))), some (.int y), some (.int f), some (.int (nI (i + 1))), l5] [] g Q) : LW 21 d 0 0 5 [some (.ref 1), some (.int (nI (2 ^ n))), some (.int y), some (.int f), some (.int (nI i)), l5] [] g Q := by
  refine X_iload rfl rfl rfl ?_
  refine X_bipush (v := (26 : Int32)) rfl rfl rfl ?_
  refine X_icmp_ge (tgt := 74) rfl rfl rfl (fun q => absurd q (show ¬ nI 26 ≤ nI i from nI_ge (by omega) (by decide))) (fun _ => ?_)
  refine X_iload_n rfl rfl rfl rfl ?_
  refine X_iload rfl rfl rfl ?_
  refine X_ishr (v := nI (2 ^ n) >>> (nI i &&& 31)) rfl rfl rfl ?_
  refine X_iconst (v := 1) rfl rfl rfl ?_
  refine X_iand (v := 0) rfl rfl ((bit_nI (tie_6 n hn) (by omega)).trans (tie_3 n hn i hi hne)) ?_
  refine X_if_eq (tgt := 68) rfl rfl rfl (fun _ => ?_) (fun q => absurd rfl q)
  refine X_iinc (v := nI (i + 1)) (ls' := [some (.ref 1), some (.int (nI (2 ^ n))), some (.int y), some (.int f), some (.int (nI (i + 1))), l5]) rfl rfl rfl (nI_add i 1) rfl ?_
  refine LW_goto (tgt := 5) rfl rfl ?_
  exact k
theorem tie_to {g : LH} {d n : Nat} {y f : Int32} {l5 : Option Value} {Q : Option Value → LH → Prop} (hn : n < 26) : ∀ (m i : Nat), i + m ≤ 26 → (∀ t, i ≤ t → t < i + m → t ≠ n) → LW 21 d 0 0 5 [some (.ref 1), some (.int (nI (2 ^ n))), some (.int y), some (.int f), some (.int (nI (i + m))), l5] [] g Q → LW 21 d 0 0 5 [some (.ref 1), some (.int (nI (2 ^ n))), some (.int y), some (.int f), some (.int (nI i)), l5] [] g Q := by
  intro m
  induction m with
  | zero => intro i _ _ k; exact k
  | succ m ih =>
    intro i hi ht k
    refine tie_skip hn (by omega) (ht i (Nat.le_refl _) (by omega)) ?_
    refine ih (i + 1) (by omega) (fun t h1 h2 => ht t (by omega) (by omega)) ?_
    rw [show i + 1 + m = i + (m + 1) by omega]
    exact k
theorem c_tieAll {g : LH} {d n b : Nat} (F : Sh g) (E : Fr g) (h0 : ∀ k, k < 26 → Gi g 141 k = 0) (hn : n < 26) (hb : b < 26) (hne : b ≠ n) : LW 21 d 0 0 0 (lEnt (mL 21) [.ref 1, .int ((1 : Int32) <<< (nI n &&& 31)), .int ((1 : Int32) <<< (nI b &&& 31))]) [] g (fun v g' => v = some (.int 1) ∧ Fr g') := by
  rw [tie_1 n hn, tie_1 b hb]
  refine LW_ls (ls' := [some (.ref 1), some (.int (nI (2 ^ n))), some (.int (nI (2 ^ b))), none, none, none]) rfl ?_
  refine X_iconst (v := 0) rfl rfl rfl ?_
  refine X_istore_n (i := 3) (ls' := [some (.ref 1), some (.int (nI (2 ^ n))), some (.int (nI (2 ^ b))), some (.int 0), none, none]) rfl rfl rfl (Nat.le_of_ble_eq_true rfl) rfl ?_
  refine X_iconst (v := 0) rfl rfl rfl ?_
  refine X_istore (i := 4) (ls' := [some (.ref 1), some (.int (nI (2 ^ n))), some (.int (nI (2 ^ b))), some (.int 0), some (.int (nI 0)), none]) rfl rfl (Nat.le_of_ble_eq_true rfl) rfl ?_
  refine tie_to hn n 0 (by omega) (fun t _ h2 => by omega) ?_
  rw [Nat.zero_add]
  refine X_iload rfl rfl rfl ?_
  refine X_bipush (v := (26 : Int32)) rfl rfl rfl ?_
  refine X_icmp_ge (tgt := 74) rfl rfl rfl (fun q => absurd q (show ¬ nI 26 ≤ nI n from nI_ge (by omega) (by decide))) (fun _ => ?_)
  refine X_iload_n rfl rfl rfl rfl ?_
  refine X_iload rfl rfl rfl ?_
  refine X_ishr (v := nI (2 ^ n) >>> (nI n &&& 31)) rfl rfl rfl ?_
  refine X_iconst (v := 1) rfl rfl rfl ?_
  refine X_iand (v := 1) rfl rfl ((bit_nI (tie_6 n hn) (by omega)).trans (congrArg nI (tie_2 n hn))) ?_
  refine X_if_eq (tgt := 68) rfl rfl rfl (fun q => absurd q (by decide)) (fun _ => ?_)
  refine X_aload_n rfl rfl rfl rfl ?_
  refine X_getR (a := 141) rfl rfl rfl ((congrFun F.1 1).trans s_1) rfl ((congrFun (F.2 1 (by decide)) 4).trans r_1_4) ?_
  refine X_iload rfl rfl rfl ?_
  refine X_iald (v := (0 : Int32)) rfl rfl ((congrFun F.1 141).trans s_141) (vp_in_nI (by omega) (by decide)) ((congrArg (Gi _ 141) (nI_clamp (n := n) (by omega))).trans (h0 n hn)) ?_
  refine X_iload_n rfl rfl rfl rfl ?_
  refine X_iconst (v := 1) rfl rfl rfl ?_
  refine X_iload rfl rfl rfl ?_
  refine X_ishl (v := (1 : Int32) <<< (nI n &&& 31)) rfl rfl rfl ?_
  refine X_iconst (v := -1) rfl rfl rfl ?_
  refine X_ixor (v := ((1 : Int32) <<< (nI n &&& 31)) ^^^ (-1)) rfl rfl rfl ?_
  refine X_iand (v := nI (2 ^ b) &&& (((1 : Int32) <<< (nI n &&& 31)) ^^^ (-1))) rfl rfl rfl ?_
  refine X_ior (v := nI (2 ^ b)) rfl rfl (tie_4 n hn b hb hne) ?_
  refine X_istore (i := 5) (ls' := [some (.ref 1), some (.int (nI (2 ^ n))), some (.int (nI (2 ^ b))), some (.int 0), some (.int (nI n)), some (.int (nI (2 ^ b)))]) rfl rfl (Nat.le_of_ble_eq_true rfl) rfl ?_
  refine X_iload_n rfl rfl rfl rfl ?_
  refine X_iload rfl rfl rfl ?_
  refine X_aload_n rfl rfl rfl rfl ?_
  refine X_getR (a := 141) rfl rfl rfl ((congrFun F.1 1).trans s_1) rfl ((congrFun (F.2 1 (by decide)) 4).trans r_1_4) ?_
  refine X_iload rfl rfl rfl ?_
  refine X_iald (v := (0 : Int32)) rfl rfl ((congrFun F.1 141).trans s_141) (vp_in_nI (by omega) (by decide)) ((congrArg (Gi _ 141) (nI_clamp (n := n) (by omega))).trans (h0 n hn)) ?_
  refine X_icmp_eq (tgt := 56) rfl rfl rfl (fun q => absurd q (tie_5 b hb)) (fun _ => ?_)
  refine X_iconst (v := 1) rfl rfl rfl ?_
  refine LW_goto (tgt := 57) rfl rfl ?_
  refine X_ior (v := (1 : Int32)) rfl rfl rfl ?_
  refine X_istore_n (i := 3) (ls' := [some (.ref 1), some (.int (nI (2 ^ n))), some (.int (nI (2 ^ b))), some (.int 1), some (.int (nI n)), some (.int (nI (2 ^ b)))]) rfl rfl rfl (Nat.le_of_ble_eq_true rfl) rfl ?_
  refine X_aload_n rfl rfl rfl rfl ?_
  refine X_getR (a := 141) rfl rfl rfl ((congrFun F.1 1).trans s_1) rfl ((congrFun (F.2 1 (by decide)) 4).trans r_1_4) ?_
  refine X_iload rfl rfl rfl ?_
  refine X_iload rfl rfl rfl ?_
  refine X_iast (k0 := n) rfl rfl ((congrFun F.1 141).trans s_141) (vp_in_nI (by omega) (by decide)) (nI_clamp (by omega)) ?_
  refine X_iinc (v := nI (n + 1)) (ls' := [some (.ref 1), some (.int (nI (2 ^ n))), some (.int (nI (2 ^ b))), some (.int 1), some (.int (nI (n + 1))), some (.int (nI (2 ^ b)))]) rfl rfl rfl (nI_add n 1) rfl ?_
  refine LW_goto (tgt := 5) rfl rfl ?_
  refine tie_to hn (25 - n) (n + 1) (by omega) (fun t _ h2 => by omega) ?_
  rw [show n + 1 + (25 - n) = 26 by omega]
  refine X_iload rfl rfl rfl ?_
  refine X_bipush (v := (26 : Int32)) rfl rfl rfl ?_
  refine X_icmp_ge (tgt := 74) rfl rfl rfl (fun _ => ?_) (fun q => absurd (show nI 26 ≤ nI 26 from nI_le (Nat.le_refl _) (by decide)) q)
  refine X_iload_n rfl rfl rfl rfl ?_
  exact LW_ireturn (st := []) rfl rfl rfl ⟨rfl, Fr_putI E (by decide)⟩
set_option maxRecDepth 10000 in
set_option maxHeartbeats 4000000 in
theorem c_tie_in {g : LH} (F : Fc g) (E : Fr g) {n b : Nat} (hn : n < 26) (hb : b < 26) (hne : b ≠ n) : LW 126 30 0 0 0 (lEnt (mL 126) [.ref 0, .int (nI (n)), .int (nI (b))]) [] g (fun v g' => v = some (.int (1)) ∧ Fr g') := by
  refine LW_ls (ls' := [some (.ref 0), some (.int (nI (n))), some (.int (nI (b)))]) rfl ?_
  refine X_iload_n rfl rfl rfl rfl ?_
  refine X_callS (as := [.int (nI (n))]) (st := []) rfl rfl rfl (by decide) rfl (Nat.le_of_ble_eq_true rfl) (by decide) (Nat.le_of_ble_eq_true rfl) rfl ?_
  refine LW_ls (ls' := [some (.int (nI (n)))]) rfl ?_
  refine X_iload_n rfl rfl rfl rfl ?_
  refine X_if_lt (tgt := 14) rfl rfl rfl (fun h1 => ?_) (fun h1 => ?_)
  · exfalso
    simp only [Int32.lt_iff_toInt_lt, Int32.le_iff_toInt_le, ← Int32.toInt_inj, (show (0 : Int32).toInt = 0 from rfl), (nI_toInt (n := n) (by omega))] at h1
    omega
  · refine X_iload_n rfl rfl rfl rfl ?_
    refine X_bipush (v := (26 : Int32)) rfl rfl rfl ?_
    refine X_icmp_ge (tgt := 14) rfl rfl rfl (fun h2 => ?_) (fun h2 => ?_)
    · exfalso
      simp only [Int32.lt_iff_toInt_lt, Int32.le_iff_toInt_le, ← Int32.toInt_inj, (show (0 : Int32).toInt = 0 from rfl), (show (26 : Int32).toInt = 26 from rfl), (nI_toInt (n := n) (by omega))] at h1 h2
      omega
    · refine X_iconst (v := (1 : Int32)) rfl rfl rfl ?_
      refine LW_goto (tgt := 15) rfl rfl ?_
      refine LW_ireturn (st := []) rfl rfl rfl ?_
      refine X_if_eq (tgt := 19) rfl rfl rfl (fun q => absurd q (by decide)) (fun _ => ?_)
      refine X_iload_n rfl rfl rfl rfl ?_
      refine X_callS (as := [.int (nI (b))]) (st := []) rfl rfl rfl (by decide) rfl (Nat.le_of_ble_eq_true rfl) (by decide) (Nat.le_of_ble_eq_true rfl) rfl ?_
      refine LW_ls (ls' := [some (.int (nI (b)))]) rfl ?_
      refine X_iload_n rfl rfl rfl rfl ?_
      refine X_if_lt (tgt := 14) rfl rfl rfl (fun h3 => ?_) (fun h3 => ?_)
      · exfalso
        simp only [Int32.lt_iff_toInt_lt, Int32.le_iff_toInt_le, ← Int32.toInt_inj, (show (0 : Int32).toInt = 0 from rfl), (show (26 : Int32).toInt = 26 from rfl), (nI_toInt (n := b) (by omega)), (nI_toInt (n := n) (by omega))] at h1 h2 h3
        omega
      · refine X_iload_n rfl rfl rfl rfl ?_
        refine X_bipush (v := (26 : Int32)) rfl rfl rfl ?_
        refine X_icmp_ge (tgt := 14) rfl rfl rfl (fun h4 => ?_) (fun h4 => ?_)
        · exfalso
          simp only [Int32.lt_iff_toInt_lt, Int32.le_iff_toInt_le, ← Int32.toInt_inj, (show (0 : Int32).toInt = 0 from rfl), (show (26 : Int32).toInt = 26 from rfl), (nI_toInt (n := b) (by omega)), (nI_toInt (n := n) (by omega))] at h1 h2 h3 h4
          omega
        · refine X_iconst (v := (1 : Int32)) rfl rfl rfl ?_
          refine LW_goto (tgt := 15) rfl rfl ?_
          refine LW_ireturn (st := []) rfl rfl rfl ?_
          refine X_if_eq (tgt := 19) rfl rfl rfl (fun q => absurd q (by decide)) (fun _ => ?_)
          refine X_iload_n rfl rfl rfl rfl ?_
          refine X_iload_n rfl rfl rfl rfl ?_
          refine X_icmp_ne (tgt := 21) rfl rfl rfl (fun h5 => ?_) (fun h5 => ?_)
          · refine X_aload_n rfl rfl rfl rfl ?_
            refine X_getR (a := 1) rfl rfl rfl ((congrFun F.1 0).trans s_0) rfl ((congrFun (F.2.1 0 (by decide)) 0).trans r_0_0) ?_
            refine X_iconst (v := (1 : Int32)) rfl rfl rfl ?_
            refine X_iload_n rfl rfl rfl rfl ?_
            refine X_ishl (v := ((1 : Int32) <<< ((nI (n)) &&& 31))) rfl rfl rfl ?_
            refine X_iconst (v := (1 : Int32)) rfl rfl rfl ?_
            refine X_iload_n rfl rfl rfl rfl ?_
            refine X_ishl (v := ((1 : Int32) <<< ((nI (b)) &&& 31))) rfl rfl rfl ?_
            refine Y_callV (as := [.int ((1 : Int32) <<< ((nI (n)) &&& 31)), .int ((1 : Int32) <<< ((nI (b)) &&& 31))]) (st := []) rfl rfl rfl (by decide) rfl (Nat.le_of_ble_eq_true rfl) (by decide) (Nat.le_of_ble_eq_true rfl) rfl ((congrFun F.1 1).trans s_1) (by decide) (by refine c_tieAll (n := n) (b := b) ?_ E (fun k hk => (congrFun (F.2.2 141 (by decide)).1 k).trans (u_141 k hk)) hn hb hne; exact ⟨F.1, F.2.1⟩) ?_
            rintro v g' ⟨hv, E'⟩
            subst hv
            exact LW_ireturn (st := []) rfl rfl rfl ⟨rfl, E'⟩
          · refine X_iconst (v := (0 : Int32)) rfl rfl rfl ?_
            exfalso
            simp only [Int32.lt_iff_toInt_lt, Int32.le_iff_toInt_le, ← Int32.toInt_inj, (show (0 : Int32).toInt = 0 from rfl), (show (26 : Int32).toInt = 26 from rfl), (nI_toInt (n := b) (by omega)), (nI_toInt (n := n) (by omega))] at h1 h2 h3 h4 h5
            omega
set_option maxRecDepth 10000 in
set_option maxHeartbeats 4000000 in
theorem c_tie_out {g : LH} (F : Fc g) (E : Fr g) (a c : Int32) (hr : ¬ (0 ≤ a.toInt ∧ a.toInt ≤ 25 ∧ 0 ≤ c.toInt ∧ c.toInt ≤ 25 ∧ ¬ a.toInt = c.toInt)) : LW 126 30 0 0 0 (lEnt (mL 126) [.ref 0, .int a, .int c]) [] g (fun v g' => v = some (.int (0)) ∧ Fr g') := by
  refine LW_ls (ls' := [some (.ref 0), some (.int a), some (.int c)]) rfl ?_
  refine X_iload_n rfl rfl rfl rfl ?_
  refine X_callS (as := [.int a]) (st := []) rfl rfl rfl (by decide) rfl (Nat.le_of_ble_eq_true rfl) (by decide) (Nat.le_of_ble_eq_true rfl) rfl ?_
  refine LW_ls (ls' := [some (.int a)]) rfl ?_
  refine X_iload_n rfl rfl rfl rfl ?_
  refine X_if_lt (tgt := 14) rfl rfl rfl (fun h1 => ?_) (fun h1 => ?_)
  · refine X_iconst (v := (0 : Int32)) rfl rfl rfl ?_
    refine LW_ireturn (st := []) rfl rfl rfl ?_
    refine X_if_eq (tgt := 19) rfl rfl rfl (fun _ => ?_) (fun q => absurd q (by decide))
    refine X_iconst (v := (0 : Int32)) rfl rfl rfl ?_
    exact LW_ireturn (st := []) rfl rfl rfl ⟨rfl, E⟩
  · refine X_iload_n rfl rfl rfl rfl ?_
    refine X_bipush (v := (26 : Int32)) rfl rfl rfl ?_
    refine X_icmp_ge (tgt := 14) rfl rfl rfl (fun h2 => ?_) (fun h2 => ?_)
    · refine X_iconst (v := (0 : Int32)) rfl rfl rfl ?_
      refine LW_ireturn (st := []) rfl rfl rfl ?_
      refine X_if_eq (tgt := 19) rfl rfl rfl (fun _ => ?_) (fun q => absurd q (by decide))
      refine X_iconst (v := (0 : Int32)) rfl rfl rfl ?_
      exact LW_ireturn (st := []) rfl rfl rfl ⟨rfl, E⟩
    · refine X_iconst (v := (1 : Int32)) rfl rfl rfl ?_
      refine LW_goto (tgt := 15) rfl rfl ?_
      refine LW_ireturn (st := []) rfl rfl rfl ?_
      refine X_if_eq (tgt := 19) rfl rfl rfl (fun q => absurd q (by decide)) (fun _ => ?_)
      refine X_iload_n rfl rfl rfl rfl ?_
      refine X_callS (as := [.int c]) (st := []) rfl rfl rfl (by decide) rfl (Nat.le_of_ble_eq_true rfl) (by decide) (Nat.le_of_ble_eq_true rfl) rfl ?_
      refine LW_ls (ls' := [some (.int c)]) rfl ?_
      refine X_iload_n rfl rfl rfl rfl ?_
      refine X_if_lt (tgt := 14) rfl rfl rfl (fun h3 => ?_) (fun h3 => ?_)
      · refine X_iconst (v := (0 : Int32)) rfl rfl rfl ?_
        refine LW_ireturn (st := []) rfl rfl rfl ?_
        refine X_if_eq (tgt := 19) rfl rfl rfl (fun _ => ?_) (fun q => absurd q (by decide))
        refine X_iconst (v := (0 : Int32)) rfl rfl rfl ?_
        exact LW_ireturn (st := []) rfl rfl rfl ⟨rfl, E⟩
      · refine X_iload_n rfl rfl rfl rfl ?_
        refine X_bipush (v := (26 : Int32)) rfl rfl rfl ?_
        refine X_icmp_ge (tgt := 14) rfl rfl rfl (fun h4 => ?_) (fun h4 => ?_)
        · refine X_iconst (v := (0 : Int32)) rfl rfl rfl ?_
          refine LW_ireturn (st := []) rfl rfl rfl ?_
          refine X_if_eq (tgt := 19) rfl rfl rfl (fun _ => ?_) (fun q => absurd q (by decide))
          refine X_iconst (v := (0 : Int32)) rfl rfl rfl ?_
          exact LW_ireturn (st := []) rfl rfl rfl ⟨rfl, E⟩
        · refine X_iconst (v := (1 : Int32)) rfl rfl rfl ?_
          refine LW_goto (tgt := 15) rfl rfl ?_
          refine LW_ireturn (st := []) rfl rfl rfl ?_
          refine X_if_eq (tgt := 19) rfl rfl rfl (fun q => absurd q (by decide)) (fun _ => ?_)
          refine X_iload_n rfl rfl rfl rfl ?_
          refine X_iload_n rfl rfl rfl rfl ?_
          refine X_icmp_ne (tgt := 21) rfl rfl rfl (fun h5 => ?_) (fun h5 => ?_)
          · exfalso
            simp only [Int32.lt_iff_toInt_lt, Int32.le_iff_toInt_le, ← Int32.toInt_inj, (show (0 : Int32).toInt = 0 from rfl), (show (26 : Int32).toInt = 26 from rfl)] at h1 h2 h3 h4 h5
            omega
          · refine X_iconst (v := (0 : Int32)) rfl rfl rfl ?_
            exact LW_ireturn (st := []) rfl rfl rfl ⟨rfl, E⟩
/-! tie, of the reference -/
set_option maxRecDepth 10000 in
set_option maxHeartbeats 4000000 in
theorem r_tie_in {g : LH} (F : Fr g) {n b : Nat} (hn : n < 26) (hb : b < 26) (hne : b ≠ n) : LW 185 30 0 0 0 (lEnt (mL 185) [.ref 355, .int (nI (n)), .int (nI (b))]) [] g (fun v _ => v = some (.int (1))) := by
  refine LW_ls (ls' := [some (.ref 355), some (.int (nI (n))), some (.int (nI (b)))]) rfl ?_
  refine X_iload_n rfl rfl rfl rfl ?_
  refine X_callS (as := [.int (nI (n))]) (st := []) rfl rfl rfl (by decide) rfl (Nat.le_of_ble_eq_true rfl) (by decide) (Nat.le_of_ble_eq_true rfl) rfl ?_
  refine LW_ls (ls' := [some (.int (nI (n)))]) rfl ?_
  refine X_iload_n rfl rfl rfl rfl ?_
  refine X_iconst (v := (0 : Int32)) rfl rfl rfl ?_
  refine X_bipush (v := (25 : Int32)) rfl rfl rfl ?_
  refine X_callS (as := [.int (nI (n)), .int (0 : Int32), .int (25 : Int32)]) (st := []) rfl rfl rfl (by decide) rfl (Nat.le_of_ble_eq_true rfl) (by decide) (Nat.le_of_ble_eq_true rfl) rfl ?_
  refine LW_ls (ls' := [some (.int (nI (n))), some (.int (0 : Int32)), some (.int (25 : Int32))]) rfl ?_
  refine X_iload_n rfl rfl rfl rfl ?_
  refine X_iload_n rfl rfl rfl rfl ?_
  refine X_icmp_lt (tgt := 14) rfl rfl rfl (fun h1 => ?_) (fun h1 => ?_)
  · exfalso
    simp only [Int32.lt_iff_toInt_lt, Int32.le_iff_toInt_le, ← Int32.toInt_inj, (show (0 : Int32).toInt = 0 from rfl), (nI_toInt (n := n) (by omega))] at h1
    omega
  · refine X_iload_n rfl rfl rfl rfl ?_
    refine X_iload_n rfl rfl rfl rfl ?_
    refine X_icmp_gt (tgt := 14) rfl rfl rfl (fun h2 => ?_) (fun h2 => ?_)
    · exfalso
      simp only [Int32.lt_iff_toInt_lt, Int32.le_iff_toInt_le, ← Int32.toInt_inj, (show (0 : Int32).toInt = 0 from rfl), (show (25 : Int32).toInt = 25 from rfl), (nI_toInt (n := n) (by omega))] at h1 h2
      omega
    · refine X_iconst (v := (1 : Int32)) rfl rfl rfl ?_
      refine LW_goto (tgt := 15) rfl rfl ?_
      refine LW_ireturn (st := []) rfl rfl rfl ?_
      refine LW_ireturn (st := []) rfl rfl rfl ?_
      refine X_if_eq (tgt := 35) rfl rfl rfl (fun q => absurd q (by decide)) (fun _ => ?_)
      refine X_iload_n rfl rfl rfl rfl ?_
      refine X_callS (as := [.int (nI (b))]) (st := []) rfl rfl rfl (by decide) rfl (Nat.le_of_ble_eq_true rfl) (by decide) (Nat.le_of_ble_eq_true rfl) rfl ?_
      refine LW_ls (ls' := [some (.int (nI (b)))]) rfl ?_
      refine X_iload_n rfl rfl rfl rfl ?_
      refine X_iconst (v := (0 : Int32)) rfl rfl rfl ?_
      refine X_bipush (v := (25 : Int32)) rfl rfl rfl ?_
      refine X_callS (as := [.int (nI (b)), .int (0 : Int32), .int (25 : Int32)]) (st := []) rfl rfl rfl (by decide) rfl (Nat.le_of_ble_eq_true rfl) (by decide) (Nat.le_of_ble_eq_true rfl) rfl ?_
      refine LW_ls (ls' := [some (.int (nI (b))), some (.int (0 : Int32)), some (.int (25 : Int32))]) rfl ?_
      refine X_iload_n rfl rfl rfl rfl ?_
      refine X_iload_n rfl rfl rfl rfl ?_
      refine X_icmp_lt (tgt := 14) rfl rfl rfl (fun h3 => ?_) (fun h3 => ?_)
      · exfalso
        simp only [Int32.lt_iff_toInt_lt, Int32.le_iff_toInt_le, ← Int32.toInt_inj, (show (0 : Int32).toInt = 0 from rfl), (show (25 : Int32).toInt = 25 from rfl), (nI_toInt (n := b) (by omega)), (nI_toInt (n := n) (by omega))] at h1 h2 h3
        omega
      · refine X_iload_n rfl rfl rfl rfl ?_
        refine X_iload_n rfl rfl rfl rfl ?_
        refine X_icmp_gt (tgt := 14) rfl rfl rfl (fun h4 => ?_) (fun h4 => ?_)
        · exfalso
          simp only [Int32.lt_iff_toInt_lt, Int32.le_iff_toInt_le, ← Int32.toInt_inj, (show (0 : Int32).toInt = 0 from rfl), (show (25 : Int32).toInt = 25 from rfl), (nI_toInt (n := b) (by omega)), (nI_toInt (n := n) (by omega))] at h1 h2 h3 h4
          omega
        · refine X_iconst (v := (1 : Int32)) rfl rfl rfl ?_
          refine LW_goto (tgt := 15) rfl rfl ?_
          refine LW_ireturn (st := []) rfl rfl rfl ?_
          refine LW_ireturn (st := []) rfl rfl rfl ?_
          refine X_if_eq (tgt := 35) rfl rfl rfl (fun q => absurd q (by decide)) (fun _ => ?_)
          refine X_iload_n rfl rfl rfl rfl ?_
          refine X_iload_n rfl rfl rfl rfl ?_
          refine X_icmp_eq (tgt := 35) rfl rfl rfl (fun h5 => ?_) (fun h5 => ?_)
          · refine X_iconst (v := (0 : Int32)) rfl rfl rfl ?_
            exfalso
            simp only [Int32.lt_iff_toInt_lt, Int32.le_iff_toInt_le, ← Int32.toInt_inj, (show (0 : Int32).toInt = 0 from rfl), (show (25 : Int32).toInt = 25 from rfl), (nI_toInt (n := b) (by omega)), (nI_toInt (n := n) (by omega))] at h1 h2 h3 h4 h5
            omega
          · refine X_aload_n rfl rfl rfl rfl ?_
            refine X_getR (a := 356) rfl rfl rfl ((congrFun F.1 355).trans s_355) rfl ((congrFun (F.2.1 355 (by decide)) 0).trans r_355_0) ?_
            refine X_bipush (v := (90 : Int32)) rfl rfl rfl ?_
            refine X_iload_n rfl rfl rfl rfl ?_
            refine X_iadd (v := (nI (90 + n))) rfl rfl (nI_add (90) (n)) ?_
            refine X_iald (v := (0 : Int32)) rfl rfl ((congrFun F.1 356).trans s_356) (vp_in_nI (by omega) (by decide)) ((congrArg (Gi _ 356) (nI_clamp (n := 90 + n) (by omega))).trans ((congrFun (F.2.2 356 (by decide)).1 _).trans (v_356_90 _ (by omega)))) ?_
            refine X_iload_n rfl rfl rfl rfl ?_
            refine X_callS (as := [.int (0 : Int32), .int (nI (b))]) (st := []) rfl rfl rfl (by decide) rfl (Nat.le_of_ble_eq_true rfl) (by decide) (Nat.le_of_ble_eq_true rfl) rfl ?_
            refine LW_ls (ls' := [some (.int (0 : Int32)), some (.int (nI (b)))]) rfl ?_
            refine X_iload_n rfl rfl rfl rfl ?_
            refine X_iload_n rfl rfl rfl rfl ?_
            refine X_ishr (v := (0 : Int32)) rfl rfl (by simp) ?_
            refine X_iconst (v := (1 : Int32)) rfl rfl rfl ?_
            refine X_iand (v := (0 : Int32)) rfl rfl rfl ?_
            refine X_iconst (v := (1 : Int32)) rfl rfl rfl ?_
            refine X_icmp_ne (tgt := 13) rfl rfl rfl (fun _ => ?_) (fun q => absurd q (by decide))
            refine X_iconst (v := (0 : Int32)) rfl rfl rfl ?_
            refine LW_ireturn (st := []) rfl rfl rfl ?_
            refine X_if_eq (tgt := 37) rfl rfl rfl (fun _ => ?_) (fun q => absurd q (by decide))
            refine X_aload_n rfl rfl rfl rfl ?_
            refine X_getR (a := 356) rfl rfl rfl ((congrFun F.1 355).trans s_355) rfl ((congrFun (F.2.1 355 (by decide)) 0).trans r_355_0) ?_
            refine X_bipush (v := (90 : Int32)) rfl rfl rfl ?_
            refine X_iload_n rfl rfl rfl rfl ?_
            refine X_iadd (v := (nI (90 + n))) rfl rfl (nI_add (90) (n)) ?_
            refine X_dup2 rfl rfl rfl rfl ?_
            refine X_iald (v := (0 : Int32)) rfl rfl ((congrFun F.1 356).trans s_356) (vp_in_nI (by omega) (by decide)) ((congrArg (Gi _ 356) (nI_clamp (n := 90 + n) (by omega))).trans ((congrFun (F.2.2 356 (by decide)).1 _).trans (v_356_90 _ (by omega)))) ?_
            refine X_iconst (v := (1 : Int32)) rfl rfl rfl ?_
            refine X_iload_n rfl rfl rfl rfl ?_
            refine X_ishl (v := ((1 : Int32) <<< ((nI (b)) &&& 31))) rfl rfl rfl ?_
            refine X_ior (v := ((0 : Int32) ||| ((1 : Int32) <<< ((nI (b)) &&& 31)))) rfl rfl rfl ?_
            refine X_iast (k0 := 90 + n) rfl rfl ((congrFun F.1 356).trans s_356) (vp_in_nI (by omega) (by decide)) (nI_clamp (n := 90 + n) (by omega)) ?_
            refine X_iconst (v := (1 : Int32)) rfl rfl rfl ?_
            exact LW_ireturn (st := []) rfl rfl rfl rfl
set_option maxRecDepth 10000 in
set_option maxHeartbeats 4000000 in
theorem r_tie_out {g : LH} (F : Fr g) (a c : Int32) (hr : ¬ (0 ≤ a.toInt ∧ a.toInt ≤ 25 ∧ 0 ≤ c.toInt ∧ c.toInt ≤ 25 ∧ ¬ a.toInt = c.toInt)) : LW 185 30 0 0 0 (lEnt (mL 185) [.ref 355, .int a, .int c]) [] g (fun v _ => v = some (.int (0))) := by
  refine LW_ls (ls' := [some (.ref 355), some (.int a), some (.int c)]) rfl ?_
  refine X_iload_n rfl rfl rfl rfl ?_
  refine X_callS (as := [.int a]) (st := []) rfl rfl rfl (by decide) rfl (Nat.le_of_ble_eq_true rfl) (by decide) (Nat.le_of_ble_eq_true rfl) rfl ?_
  refine LW_ls (ls' := [some (.int a)]) rfl ?_
  refine X_iload_n rfl rfl rfl rfl ?_
  refine X_iconst (v := (0 : Int32)) rfl rfl rfl ?_
  refine X_bipush (v := (25 : Int32)) rfl rfl rfl ?_
  refine X_callS (as := [.int a, .int (0 : Int32), .int (25 : Int32)]) (st := []) rfl rfl rfl (by decide) rfl (Nat.le_of_ble_eq_true rfl) (by decide) (Nat.le_of_ble_eq_true rfl) rfl ?_
  refine LW_ls (ls' := [some (.int a), some (.int (0 : Int32)), some (.int (25 : Int32))]) rfl ?_
  refine X_iload_n rfl rfl rfl rfl ?_
  refine X_iload_n rfl rfl rfl rfl ?_
  refine X_icmp_lt (tgt := 14) rfl rfl rfl (fun h1 => ?_) (fun h1 => ?_)
  · refine X_iconst (v := (0 : Int32)) rfl rfl rfl ?_
    refine LW_ireturn (st := []) rfl rfl rfl ?_
    refine LW_ireturn (st := []) rfl rfl rfl ?_
    refine X_if_eq (tgt := 35) rfl rfl rfl (fun _ => ?_) (fun q => absurd q (by decide))
    refine X_iconst (v := (0 : Int32)) rfl rfl rfl ?_
    exact LW_ireturn (st := []) rfl rfl rfl rfl
  · refine X_iload_n rfl rfl rfl rfl ?_
    refine X_iload_n rfl rfl rfl rfl ?_
    refine X_icmp_gt (tgt := 14) rfl rfl rfl (fun h2 => ?_) (fun h2 => ?_)
    · refine X_iconst (v := (0 : Int32)) rfl rfl rfl ?_
      refine LW_ireturn (st := []) rfl rfl rfl ?_
      refine LW_ireturn (st := []) rfl rfl rfl ?_
      refine X_if_eq (tgt := 35) rfl rfl rfl (fun _ => ?_) (fun q => absurd q (by decide))
      refine X_iconst (v := (0 : Int32)) rfl rfl rfl ?_
      exact LW_ireturn (st := []) rfl rfl rfl rfl
    · refine X_iconst (v := (1 : Int32)) rfl rfl rfl ?_
      refine LW_goto (tgt := 15) rfl rfl ?_
      refine LW_ireturn (st := []) rfl rfl rfl ?_
      refine LW_ireturn (st := []) rfl rfl rfl ?_
      refine X_if_eq (tgt := 35) rfl rfl rfl (fun q => absurd q (by decide)) (fun _ => ?_)
      refine X_iload_n rfl rfl rfl rfl ?_
      refine X_callS (as := [.int c]) (st := []) rfl rfl rfl (by decide) rfl (Nat.le_of_ble_eq_true rfl) (by decide) (Nat.le_of_ble_eq_true rfl) rfl ?_
      refine LW_ls (ls' := [some (.int c)]) rfl ?_
      refine X_iload_n rfl rfl rfl rfl ?_
      refine X_iconst (v := (0 : Int32)) rfl rfl rfl ?_
      refine X_bipush (v := (25 : Int32)) rfl rfl rfl ?_
      refine X_callS (as := [.int c, .int (0 : Int32), .int (25 : Int32)]) (st := []) rfl rfl rfl (by decide) rfl (Nat.le_of_ble_eq_true rfl) (by decide) (Nat.le_of_ble_eq_true rfl) rfl ?_
      refine LW_ls (ls' := [some (.int c), some (.int (0 : Int32)), some (.int (25 : Int32))]) rfl ?_
      refine X_iload_n rfl rfl rfl rfl ?_
      refine X_iload_n rfl rfl rfl rfl ?_
      refine X_icmp_lt (tgt := 14) rfl rfl rfl (fun h3 => ?_) (fun h3 => ?_)
      · refine X_iconst (v := (0 : Int32)) rfl rfl rfl ?_
        refine LW_ireturn (st := []) rfl rfl rfl ?_
        refine LW_ireturn (st := []) rfl rfl rfl ?_
        refine X_if_eq (tgt := 35) rfl rfl rfl (fun _ => ?_) (fun q => absurd q (by decide))
        refine X_iconst (v := (0 : Int32)) rfl rfl rfl ?_
        exact LW_ireturn (st := []) rfl rfl rfl rfl
      · refine X_iload_n rfl rfl rfl rfl ?_
        refine X_iload_n rfl rfl rfl rfl ?_
        refine X_icmp_gt (tgt := 14) rfl rfl rfl (fun h4 => ?_) (fun h4 => ?_)
        · refine X_iconst (v := (0 : Int32)) rfl rfl rfl ?_
          refine LW_ireturn (st := []) rfl rfl rfl ?_
          refine LW_ireturn (st := []) rfl rfl rfl ?_
          refine X_if_eq (tgt := 35) rfl rfl rfl (fun _ => ?_) (fun q => absurd q (by decide))
          refine X_iconst (v := (0 : Int32)) rfl rfl rfl ?_
          exact LW_ireturn (st := []) rfl rfl rfl rfl
        · refine X_iconst (v := (1 : Int32)) rfl rfl rfl ?_
          refine LW_goto (tgt := 15) rfl rfl ?_
          refine LW_ireturn (st := []) rfl rfl rfl ?_
          refine LW_ireturn (st := []) rfl rfl rfl ?_
          refine X_if_eq (tgt := 35) rfl rfl rfl (fun q => absurd q (by decide)) (fun _ => ?_)
          refine X_iload_n rfl rfl rfl rfl ?_
          refine X_iload_n rfl rfl rfl rfl ?_
          refine X_icmp_eq (tgt := 35) rfl rfl rfl (fun h5 => ?_) (fun h5 => ?_)
          · refine X_iconst (v := (0 : Int32)) rfl rfl rfl ?_
            exact LW_ireturn (st := []) rfl rfl rfl rfl
          · exfalso
            simp only [Int32.lt_iff_toInt_lt, Int32.le_iff_toInt_le, ← Int32.toInt_inj, (show (0 : Int32).toInt = 0 from rfl), (show (25 : Int32).toInt = 25 from rfl)] at h1 h2 h3 h4 h5
            omega
