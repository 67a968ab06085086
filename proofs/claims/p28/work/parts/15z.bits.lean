/-! Integer.bitCount (class), bits (reference): both are how many bits -/
theorem nI_and (a b : Nat) : nI a &&& nI b = nI (a &&& b) := by
  apply Int32.toBitVec_inj.mp
  show BitVec.ofNat 32 a &&& BitVec.ofNat 32 b = BitVec.ofNat 32 (a &&& b)
  apply BitVec.eq_of_toNat_eq
  simp [Nat.and_mod_two_pow]
theorem nI_small (n : Nat) (h : n < 2 ^ 31) : ∀ (x : Int32), x.toInt = n → x = nI n := fun x hx => Int32.toInt_inj.mp (by rw [hx, nI_toInt h])
theorem c_bitCount {g : LH} {d n : Nat} (hn : n < 2 ^ 31) : LW 319 d 0 0 0 (lEnt (mL 319) [.int (nI n)]) [] g (fun v g' => v = some (.int (nI (pcn 32 n))) ∧ g' = g) := by
  have hsw := sw_eq n (by omega)
  unfold sw sw3 at hsw
  generalize hA : n - (n / 2 &&& 1431655765) = A at hsw
  have hA1 : n / 2 &&& 1431655765 ≤ n := Nat.le_trans Nat.and_le_left (by omega)
  have hA2 : A < 2 ^ 31 := by omega
  generalize hB : (A &&& 858993459) + (A / 4 &&& 858993459) = B at hsw
  have hB1 : A &&& 858993459 ≤ 858993459 := Nat.and_le_right
  have hB2 : A / 4 &&& 858993459 ≤ 858993459 := Nat.and_le_right
  have hB3 : B < 2 ^ 31 := by omega
  generalize hC : (B + B / 16) &&& 252645135 = C at hsw
  have hC1 : C ≤ 252645135 := by rw [← hC]; exact Nat.and_le_right
  refine LW_ls (ls' := [some (.int (nI n))]) rfl ?_
  refine X_iload_n rfl rfl rfl rfl ?_
  refine X_iload_n rfl rfl rfl rfl ?_
  refine X_iconst (v := 1) rfl rfl rfl ?_
  refine X_iushr (v := nI (n / 2)) rfl rfl (pk_ushrN (by omega) 1 1 rfl) ?_
  refine X_ldcw (v := nI 1431655765) rfl rfl rfl ?_
  refine X_iand (v := nI (n / 2 &&& 1431655765)) rfl rfl (nI_and _ _) ?_
  refine X_isub (v := nI A) rfl rfl (by rw [pk_sub hA1, hA]) ?_
  refine X_istore_n (i := 0) (ls' := [some (.int (nI A))]) rfl rfl rfl (Nat.le_of_ble_eq_true rfl) rfl ?_
  refine X_iload_n rfl rfl rfl rfl ?_
  refine X_ldcw (v := nI 858993459) rfl rfl rfl ?_
  refine X_iand (v := nI (A &&& 858993459)) rfl rfl (nI_and _ _) ?_
  refine X_iload_n rfl rfl rfl rfl ?_
  refine X_iconst (v := 2) rfl rfl rfl ?_
  refine X_iushr (v := nI (A / 4)) rfl rfl (pk_ushrN (by omega) 2 2 rfl) ?_
  refine X_ldcw (v := nI 858993459) rfl rfl rfl ?_
  refine X_iand (v := nI (A / 4 &&& 858993459)) rfl rfl (nI_and _ _) ?_
  refine X_iadd (v := nI B) rfl rfl (by rw [nI_add, hB]) ?_
  refine X_istore_n (i := 0) (ls' := [some (.int (nI B))]) rfl rfl rfl (Nat.le_of_ble_eq_true rfl) rfl ?_
  refine X_iload_n rfl rfl rfl rfl ?_
  refine X_iload_n rfl rfl rfl rfl ?_
  refine X_iconst (v := 4) rfl rfl rfl ?_
  refine X_iushr (v := nI (B / 16)) rfl rfl (pk_ushrN (by omega) 4 4 rfl) ?_
  refine X_iadd (v := nI (B + B / 16)) rfl rfl (nI_add _ _) ?_
  refine X_ldcw (v := nI 252645135) rfl rfl rfl ?_
  refine X_iand (v := nI C) rfl rfl (by rw [nI_and, hC]) ?_
  refine X_istore_n (i := 0) (ls' := [some (.int (nI C))]) rfl rfl rfl (Nat.le_of_ble_eq_true rfl) rfl ?_
  refine X_iload_n rfl rfl rfl rfl ?_
  refine X_iload_n rfl rfl rfl rfl ?_
  refine X_bipush (v := 8) rfl rfl rfl ?_
  refine X_iushr (v := nI (C / 256)) rfl rfl (pk_ushrN (by omega) 8 8 rfl) ?_
  refine X_iadd (v := nI (C + C / 256)) rfl rfl (nI_add _ _) ?_
  refine X_istore_n (i := 0) (ls' := [some (.int (nI (C + C / 256)))]) rfl rfl rfl (Nat.le_of_ble_eq_true rfl) rfl ?_
  refine X_iload_n rfl rfl rfl rfl ?_
  refine X_iload_n rfl rfl rfl rfl ?_
  refine X_bipush (v := 16) rfl rfl rfl ?_
  refine X_iushr (v := nI ((C + C / 256) / 65536)) rfl rfl (pk_ushrN (by omega) 16 16 rfl) ?_
  refine X_iadd (v := nI (C + C / 256 + (C + C / 256) / 65536)) rfl rfl (nI_add _ _) ?_
  refine X_istore_n (i := 0) (ls' := [some (.int (nI (C + C / 256 + (C + C / 256) / 65536)))]) rfl rfl rfl (Nat.le_of_ble_eq_true rfl) rfl ?_
  refine X_iload_n rfl rfl rfl rfl ?_
  refine X_bipush (v := 63) rfl rfl rfl ?_
  refine X_iand (v := nI (pcn 32 n)) rfl rfl (by rw [pk_andN (by omega) 6 rfl, ← hsw]) ?_
  exact LW_ireturn (st := []) rfl rfl rfl ⟨rfl, rfl⟩
theorem bit_nI {n k : Nat} (hn : n < 2 ^ 31) (hk : k < 31) : (nI n >>> (nI k &&& 31)) &&& 1 = nI (n / 2 ^ k % 2) := by
  have h31 : nI k &&& 31 = nI k := by rw [pk_andN (by omega) 5 rfl, Nat.mod_eq_of_lt (by omega)]
  have hs : ((nI k &&& 31).toBitVec.smod 32).toNat = k := by
    have : ∀ k, k < 31 → ((nI k &&& 31).toBitVec.smod 32).toNat = k := by decide +kernel
    exact this k hk
  rw [pk_shrN hn (nI k &&& 31) k hs, pk_andN (Nat.lt_of_le_of_lt (Nat.div_le_self _ _) (by omega)) 1 rfl]
theorem pcn_succ (k n : Nat) : pcn (k + 1) n = pcn k n + n / 2 ^ k % 2 := by
  rw [pcn_add k 1 n]
  show pcn k n + (n / 2 ^ k % 2 + 0) = _
  omega
theorem r_bits_loop {g : LH} {d n : Nat} (hn : n < 2 ^ 31) : ∀ (m i : Nat), i + m = 26 → LW 174 d 0 0 4 [some (.int (nI n)), some (.int (nI (pcn i n))), some (.int (nI i))] [] g (fun v g' => v = some (.int (nI (pcn 26 n))) ∧ g' = g) := by
  intro m
  induction m with
  | zero =>
    intro i hi
    have hi : i = 26 := by omega
    subst hi
    refine X_iload_n rfl rfl rfl rfl ?_
    refine X_bipush (v := (26 : Int32)) rfl rfl rfl ?_
    refine X_icmp_ge (tgt := 24) rfl rfl rfl (fun _ => ?_) (fun q => absurd (show nI 26 ≤ nI 26 from nI_le (Nat.le_refl _) (by decide)) q)
    refine X_iload_n rfl rfl rfl rfl ?_
    exact LW_ireturn (st := []) rfl rfl rfl ⟨rfl, rfl⟩
  | succ m ih =>
    intro i hi
    refine X_iload_n rfl rfl rfl rfl ?_
    refine X_bipush (v := (26 : Int32)) rfl rfl rfl ?_
    refine X_icmp_ge (tgt := 24) rfl rfl rfl (fun q => absurd q (show ¬ nI 26 ≤ nI i from nI_ge (by omega) (by decide))) (fun _ => ?_)
    refine X_iload_n rfl rfl rfl rfl ?_
    refine X_iload_n rfl rfl rfl rfl ?_
    refine X_iload_n rfl rfl rfl rfl ?_
    refine X_ishr (v := nI n >>> (nI i &&& 31)) rfl rfl rfl ?_
    refine X_iconst (v := 1) rfl rfl rfl ?_
    refine X_iand (v := nI (n / 2 ^ i % 2)) rfl rfl (bit_nI hn (by omega)) ?_
    refine X_iadd (v := nI (pcn (i + 1) n)) rfl rfl (by rw [nI_add, pcn_succ]) ?_
    refine X_istore_n (i := 1) (ls' := [some (.int (nI n)), some (.int (nI (pcn (i + 1) n))), some (.int (nI i))]) rfl rfl rfl (Nat.le_of_ble_eq_true rfl) rfl ?_
    refine X_iinc (v := nI (i + 1)) (ls' := [some (.int (nI n)), some (.int (nI (pcn (i + 1) n))), some (.int (nI (i + 1)))]) rfl rfl rfl (nI_add i 1) rfl ?_
    refine LW_goto (tgt := 4) rfl rfl ?_
    exact ih (i + 1) (by omega)
theorem r_bits {g : LH} {d n : Nat} (hn : n < 2 ^ 31) : LW 174 d 0 0 0 (lEnt (mL 174) [.int (nI n)]) [] g (fun v g' => v = some (.int (nI (pcn 26 n))) ∧ g' = g) := by
  refine LW_ls (ls' := [some (.int (nI n)), none, none]) rfl ?_
  refine X_iconst (v := 0) rfl rfl rfl ?_
  refine X_istore_n (i := 1) (ls' := [some (.int (nI n)), some (.int (nI (pcn 0 n))), none]) rfl rfl rfl (Nat.le_of_ble_eq_true rfl) rfl ?_
  refine X_iconst (v := 0) rfl rfl rfl ?_
  refine X_istore_n (i := 2) (ls' := [some (.int (nI n)), some (.int (nI (pcn 0 n))), some (.int (nI 0))]) rfl rfl rfl (Nat.le_of_ble_eq_true rfl) rfl ?_
  exact r_bits_loop hn 26 0 rfl
theorem pcn26 {n : Nat} (h : n < 2 ^ 26) : pcn 32 n = pcn 26 n := by
  rw [show (32 : Nat) = 26 + 6 from rfl, pcn_add, Nat.div_eq_of_lt h, pcn_zero, Nat.add_zero]
