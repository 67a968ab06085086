/-! the class: moves, dawn, morning, year -/
theorem r_342_2 : eR e2 342 2 = some 339 := by decide +kernel
theorem cv_11 : ∀ k, k < 26 → eI e2 11 k = nI 1 := by decide +kernel
theorem min_n {n : Nat} (h : n ≤ 99) : (if (999 : Int32) < nI n then (999 : Int32) else nI n) = nI n := if_neg (fun q => absurd q (nI_nlt (a := 999) (b := n) (by omega) (by decide)))
theorem yW_p {w : Nat → Nat} {l x : Nat} (h : x % 4 = 0) : yW w l x = upW w l := if_pos h
theorem yW_n {w : Nat → Nat} {l x : Nat} (h : ¬ x % 4 = 0) : yW w l x = w := if_neg h
theorem yO_1 {w : Nat → Nat} {o l x : Nat} (h : x % 4 = 1) : yO w o l x = o ^^^ 2 ^ l := if_pos h
theorem yO_3 {w : Nat → Nat} {o l x : Nat} (h : x % 4 = 3) : yO w o l x = o ^^^ mvS w o 26 := by
  unfold yO
  rw [if_neg (by omega), if_pos h]
theorem yO_n {w : Nat → Nat} {o l x : Nat} (h1 : ¬ x % 4 = 1) (h3 : ¬ x % 4 = 3) : yO w o l x = o := by
  unfold yO
  rw [if_neg h1, if_neg h3]
theorem min_w {n : Nat} (h : n ≤ 99) : (if nI (n + 1) < (99 : Int32) then nI (n + 1) else (99 : Int32)) = nI (if n < 99 then n + 1 else 99) := by
  show (if nI (n + 1) < nI 99 then nI (n + 1) else nI 99) = _
  by_cases q : n < 98
  · rw [if_pos (nI_lt (a := n + 1) (b := 99) (by omega) (by decide)), if_pos (by omega)]
  · rw [if_neg (nI_nlt (a := n + 1) (b := 99) (by omega) (by omega))]
    split
    · have : n = 98 := by omega
      subst this
      rfl
    · rfl
set_option maxRecDepth 10000 in
set_option maxHeartbeats 40000000 in
theorem c_moves {g : LH} {w : Nat → Nat} {o x dy : Nat} (F : CV g w o x dy) {d l t : Nat} (hw : ∀ k, k < 26 → w k ≤ 99) (ho : o < 2 ^ 26) (hl : l < 26) (ht : t = o / 2 ^ l % 2) (ht2 : t < 2) (hb : (((nI (o)) >>> ((nI (l)) &&& 31)) &&& (1 : Int32)) = nI t) : LW 28 (d + 2) 0 0 0 (lEnt (mL 28) [.ref 339, .int (nI (l))]) [] g (fun v g' => v = some (.int (nI (mvB w o l))) ∧ g' = g) := by
  refine LW_ls (ls' := [some (.ref 339), some (.int (nI (l))), none, none, none, none]) rfl ?_
  refine X_aload_n rfl rfl rfl rfl ?_
  refine X_getR (a := 1) rfl rfl rfl ((congrFun F.1 339).trans s_339) rfl ((congrFun (F.2.1 339 (by decide)) 0).trans r_339_0) ?_
  refine X_getR (a := 10) rfl rfl rfl ((congrFun F.1 1).trans s_1) rfl ((congrFun (F.2.1 1 (by decide)) 1).trans r_1_1) ?_
  refine X_astore_n (i := 2) (ls' := [some (.ref 339), some (.int (nI (l))), some (.ref 10), none, none, none]) rfl rfl rfl (Nat.le_of_ble_eq_true rfl) rfl ?_
  refine X_aload_n rfl rfl rfl rfl ?_
  refine X_getR (a := 1) rfl rfl rfl ((congrFun F.1 339).trans s_339) rfl ((congrFun (F.2.1 339 (by decide)) 0).trans r_339_0) ?_
  refine X_getR (a := 141) rfl rfl rfl ((congrFun F.1 1).trans s_1) rfl ((congrFun (F.2.1 1 (by decide)) 4).trans r_1_4) ?_
  refine X_iload_n rfl rfl rfl rfl ?_
  refine X_iald (v := (0 : Int32)) rfl rfl ((congrFun F.1 141).trans s_141) (vp_in_nI (by omega) (by decide)) ((congrArg (Gi _ 141) (nI_clamp (n := l) (by omega))).trans (F.2.2.2.2.2.2.2.1 l hl)) ?_
  refine X_aload_n rfl rfl rfl rfl ?_
  refine X_getI (v := (nI (o))) rfl rfl rfl ((congrFun F.1 10).trans s_10) rfl F.2.2.2.1 ?_
  refine X_iand (v := (0 : Int32)) rfl rfl (by simp) ?_
  refine Y_callS (as := [.int (0 : Int32)]) (st := []) rfl rfl rfl (by decide) rfl (Nat.le_of_ble_eq_true rfl) (by decide) (Nat.le_of_ble_eq_true rfl) rfl (c_bitCount (n := 0) (by decide)) ?_
  rintro _ _ ⟨rfl, rfl⟩
  refine LW_eqv (v := (0 : Int32)) (by decide) ?_
  refine X_istore_n (i := 3) (ls' := [some (.ref 339), some (.int (nI (l))), some (.ref 10), some (.int (0 : Int32)), none, none]) rfl rfl rfl (Nat.le_of_ble_eq_true rfl) rfl ?_
  refine X_aload_n rfl rfl rfl rfl ?_
  refine X_iload_n rfl rfl rfl rfl ?_
  refine X_callV (as := [.int (nI (l))]) (st := []) rfl rfl rfl (by decide) rfl (Nat.le_of_ble_eq_true rfl) (by decide) (Nat.le_of_ble_eq_true rfl) rfl ((congrFun F.1 10).trans s_10) (by decide) ?_
  refine LW_ls (ls' := [some (.ref 10), some (.int (nI (l)))]) rfl ?_
  refine X_aload_n rfl rfl rfl rfl ?_
  refine X_getI (v := (nI (o))) rfl rfl rfl ((congrFun F.1 10).trans s_10) rfl F.2.2.2.1 ?_
  refine X_iload_n rfl rfl rfl rfl ?_
  refine X_ishr (v := ((nI (o)) >>> ((nI (l)) &&& 31))) rfl rfl rfl ?_
  refine X_iconst (v := (1 : Int32)) rfl rfl rfl ?_
  refine X_iand (v := (nI (t))) rfl rfl hb ?_
  refine X_if_eq (tgt := 15) rfl rfl rfl (fun h1 => ?_) (fun h1 => ?_)
  · refine X_iconst (v := (0 : Int32)) rfl rfl rfl ?_
    refine LW_ireturn (st := []) rfl rfl rfl ?_
    refine X_if_eq (tgt := 38) rfl rfl rfl (fun _ => ?_) (fun q => absurd q (by decide))
    refine X_iconst (v := (0 : Int32)) rfl rfl rfl ?_
    refine X_istore (i := 4) (ls' := [some (.ref 339), some (.int (nI (l))), some (.ref 10), some (.int (0 : Int32)), some (.int (0 : Int32)), none]) rfl rfl (Nat.le_of_ble_eq_true rfl) rfl ?_
    refine X_aload_n rfl rfl rfl rfl ?_
    refine X_iload rfl rfl rfl ?_
    refine X_callV (as := [.int (0 : Int32)]) (st := []) rfl rfl rfl (by decide) rfl (Nat.le_of_ble_eq_true rfl) (by decide) (Nat.le_of_ble_eq_true rfl) rfl ((congrFun F.1 339).trans s_339) (by decide) ?_
    refine LW_ls (ls' := [some (.ref 339), some (.int (0 : Int32)), none, none]) rfl ?_
    refine X_aload_n rfl rfl rfl rfl ?_
    refine X_getR (a := 1) rfl rfl rfl ((congrFun F.1 339).trans s_339) rfl ((congrFun (F.2.1 339 (by decide)) 0).trans r_339_0) ?_
    refine X_getI (v := (-1 : Int32)) rfl rfl rfl ((congrFun F.1 1).trans s_1) rfl F.2.2.2.2.2.2.2.2.1 ?_
    refine X_istore_n (i := 2) (ls' := [some (.ref 339), some (.int (0 : Int32)), some (.int (-1 : Int32)), none]) rfl rfl rfl (Nat.le_of_ble_eq_true rfl) rfl ?_
    refine X_iload_n rfl rfl rfl rfl ?_
    refine X_if_lt (tgt := 38) rfl rfl rfl (fun _ => ?_) (fun q => absurd q (by decide))
    refine X_iconst (v := (0 : Int32)) rfl rfl rfl ?_
    refine X_istore_n (i := 3) (ls' := [some (.ref 339), some (.int (0 : Int32)), some (.int (-1 : Int32)), some (.int (0 : Int32))]) rfl rfl rfl (Nat.le_of_ble_eq_true rfl) rfl ?_
    refine X_iload_n rfl rfl rfl rfl ?_
    refine X_if_eq (tgt := 53) rfl rfl rfl (fun _ => ?_) (fun q => absurd q (by decide))
    refine X_null rfl rfl ?_
    refine LW_areturnN (st := []) rfl rfl (Or.inl ⟨_, rfl⟩) ?_
    refine X_astoreN (i := 5) (ls' := [some (.ref 339), some (.int (nI (l))), some (.ref 10), some (.int (0 : Int32)), some (.int (0 : Int32)), some (.null)]) rfl rfl (Nat.le_of_ble_eq_true rfl) rfl ?_
    refine X_aloadN rfl rfl rfl ?_
    refine X_ifnonnullN (tgt := 98) rfl rfl rfl ?_
    refine X_iload rfl rfl rfl ?_
    refine X_iconst (v := (1 : Int32)) rfl rfl rfl ?_
    refine X_icmp_ne (tgt := 79) rfl rfl rfl (fun _ => ?_) (fun q => absurd q (by decide))
    refine X_iload_n rfl rfl rfl rfl ?_
    refine X_if_le (tgt := 96) rfl rfl rfl (fun _ => ?_) (fun q => absurd q (by decide))
    refine X_iconst (v := (0 : Int32)) rfl rfl rfl ?_
    refine LW_ireturn (st := []) rfl rfl rfl ⟨congrArg (fun z => some (Value.int z)) ?_, rfl⟩
    have hww := hw l hl
    simp only [Int32.lt_iff_toInt_lt, Int32.le_iff_toInt_le, ← Int32.toInt_inj, (show (0 : Int32).toInt = 0 from rfl), (nI_toInt (n := t) (by omega))] at h1
    unfold mvB
    rw [← ht]
    rw [if_neg (by omega)]
    rfl
  · refine X_iconst (v := (1 : Int32)) rfl rfl rfl ?_
    refine LW_goto (tgt := 16) rfl rfl ?_
    refine LW_ireturn (st := []) rfl rfl rfl ?_
    refine X_if_eq (tgt := 38) rfl rfl rfl (fun q => absurd q (by decide)) (fun _ => ?_)
    refine X_iconst (v := (1 : Int32)) rfl rfl rfl ?_
    refine LW_goto (tgt := 39) rfl rfl ?_
    refine X_istore (i := 4) (ls' := [some (.ref 339), some (.int (nI (l))), some (.ref 10), some (.int (0 : Int32)), some (.int (1 : Int32)), none]) rfl rfl (Nat.le_of_ble_eq_true rfl) rfl ?_
    refine X_aload_n rfl rfl rfl rfl ?_
    refine X_iload rfl rfl rfl ?_
    refine X_callV (as := [.int (1 : Int32)]) (st := []) rfl rfl rfl (by decide) rfl (Nat.le_of_ble_eq_true rfl) (by decide) (Nat.le_of_ble_eq_true rfl) rfl ((congrFun F.1 339).trans s_339) (by decide) ?_
    refine LW_ls (ls' := [some (.ref 339), some (.int (1 : Int32)), none, none]) rfl ?_
    refine X_aload_n rfl rfl rfl rfl ?_
    refine X_getR (a := 1) rfl rfl rfl ((congrFun F.1 339).trans s_339) rfl ((congrFun (F.2.1 339 (by decide)) 0).trans r_339_0) ?_
    refine X_getI (v := (-1 : Int32)) rfl rfl rfl ((congrFun F.1 1).trans s_1) rfl F.2.2.2.2.2.2.2.2.1 ?_
    refine X_istore_n (i := 2) (ls' := [some (.ref 339), some (.int (1 : Int32)), some (.int (-1 : Int32)), none]) rfl rfl rfl (Nat.le_of_ble_eq_true rfl) rfl ?_
    refine X_iload_n rfl rfl rfl rfl ?_
    refine X_if_lt (tgt := 38) rfl rfl rfl (fun _ => ?_) (fun q => absurd q (by decide))
    refine X_iconst (v := (0 : Int32)) rfl rfl rfl ?_
    refine X_istore_n (i := 3) (ls' := [some (.ref 339), some (.int (1 : Int32)), some (.int (-1 : Int32)), some (.int (0 : Int32))]) rfl rfl rfl (Nat.le_of_ble_eq_true rfl) rfl ?_
    refine X_iload_n rfl rfl rfl rfl ?_
    refine X_if_eq (tgt := 53) rfl rfl rfl (fun _ => ?_) (fun q => absurd q (by decide))
    refine X_null rfl rfl ?_
    refine LW_areturnN (st := []) rfl rfl (Or.inl ⟨_, rfl⟩) ?_
    refine X_astoreN (i := 5) (ls' := [some (.ref 339), some (.int (nI (l))), some (.ref 10), some (.int (0 : Int32)), some (.int (1 : Int32)), some (.null)]) rfl rfl (Nat.le_of_ble_eq_true rfl) rfl ?_
    refine X_aloadN rfl rfl rfl ?_
    refine X_ifnonnullN (tgt := 98) rfl rfl rfl ?_
    refine X_iload rfl rfl rfl ?_
    refine X_iconst (v := (1 : Int32)) rfl rfl rfl ?_
    refine X_icmp_ne (tgt := 79) rfl rfl rfl (fun q => absurd q (by decide)) (fun _ => ?_)
    refine X_aload_n rfl rfl rfl rfl ?_
    refine X_getR (a := 11) rfl rfl rfl ((congrFun F.1 10).trans s_10) rfl ((congrFun (F.2.1 10 (by decide)) 4).trans r_10_4) ?_
    refine X_iload_n rfl rfl rfl rfl ?_
    refine X_iald (v := (nI (w l))) rfl rfl ((congrFun F.1 11).trans s_11) (vp_in_nI (by omega) (by decide)) ((congrArg (Gi _ 11) (nI_clamp (n := l) (by omega))).trans (F.2.2.2.2.2.2.1 l hl)) ?_
    refine X_bipush (v := (9 : Int32)) rfl rfl rfl ?_
    refine X_icmp_le (tgt := 75) rfl rfl rfl (fun h2 => ?_) (fun h2 => ?_)
    · refine X_iconst (v := (0 : Int32)) rfl rfl rfl ?_
      refine LW_goto (tgt := 97) rfl rfl ?_
      refine LW_ireturn (st := []) rfl rfl rfl ⟨congrArg (fun z => some (Value.int z)) ?_, rfl⟩
      have hww := hw l hl
      simp only [Int32.lt_iff_toInt_lt, Int32.le_iff_toInt_le, ← Int32.toInt_inj, (show (0 : Int32).toInt = 0 from rfl), (show (9 : Int32).toInt = 9 from rfl), (nI_toInt (n := t) (by omega)), (nI_toInt (n := w l) (by omega))] at h1 h2
      unfold mvB
      rw [← ht]
      rw [if_neg (by omega)]
      rfl
    · refine X_iconst (v := (1 : Int32)) rfl rfl rfl ?_
      refine LW_goto (tgt := 97) rfl rfl ?_
      refine LW_ireturn (st := []) rfl rfl rfl ⟨congrArg (fun z => some (Value.int z)) ?_, rfl⟩
      have hww := hw l hl
      simp only [Int32.lt_iff_toInt_lt, Int32.le_iff_toInt_le, ← Int32.toInt_inj, (show (0 : Int32).toInt = 0 from rfl), (show (9 : Int32).toInt = 9 from rfl), (nI_toInt (n := t) (by omega)), (nI_toInt (n := w l) (by omega))] at h1 h2
      unfold mvB
      rw [← ht]
      rw [if_pos (by omega)]
      rfl
set_option maxRecDepth 10000 in
set_option maxHeartbeats 40000000 in
theorem c_dawn1 {g : LH} {d l : Nat} {w : Nat → Nat} {o x dy : Nat} {b0 : Int32} {Q : Option Value → LH → Prop} (F : CV g w o x dy) (hw : ∀ k, k < 26 → w k ≤ 99) (ho : o < 2 ^ 26) (hl : l < 26) (k : LW 5 (d + 3) 0 0 22 [some (.ref 342), some (.int b0), some (.int (nI (mvS w o (l + 1)))), some (.int (nI (l + 1)))] [] g Q) : LW 5 (d + 3) 0 0 22 [some (.ref 342), some (.int b0), some (.int (nI (mvS w o l))), some (.int (nI (l)))] [] g (Q) := by
  refine X_iload_n rfl rfl rfl rfl ?_
  refine X_bipush (v := (26 : Int32)) rfl rfl rfl ?_
  refine X_icmp_ge (tgt := 55) rfl rfl rfl (fun h1 => ?_) (fun h1 => ?_)
  · exfalso
    simp only [Int32.lt_iff_toInt_lt, Int32.le_iff_toInt_le, ← Int32.toInt_inj, (show (26 : Int32).toInt = 26 from rfl), (nI_toInt (n := l) (by omega))] at h1
    omega
  · refine X_iload_n rfl rfl rfl rfl ?_
    refine X_aload_n rfl rfl rfl rfl ?_
    refine X_getR (a := 339) rfl rfl rfl ((congrFun F.1 342).trans s_342) rfl ((congrFun (F.2.1 342 (by decide)) 2).trans r_342_2) ?_
    refine X_iload_n rfl rfl rfl rfl ?_
    refine Y_callV (as := [.int (nI (l))]) (st := [.int (nI (mvS w o l))]) rfl rfl rfl (by decide) rfl (Nat.le_of_ble_eq_true rfl) (by decide) (Nat.le_of_ble_eq_true rfl) rfl ((congrFun F.1 339).trans s_339) (by decide) (c_moves F hw ho hl rfl (Nat.mod_lt _ (by decide)) (bit_nI (by omega) (by omega))) ?_
    rintro _ _ ⟨rfl, rfl⟩
    refine X_if_eq (tgt := 46) rfl rfl rfl (fun h2 => ?_) (fun h2 => ?_)
    · refine X_iconst (v := (0 : Int32)) rfl rfl rfl ?_
      refine X_ior (v := (nI (mvS w o l))) rfl rfl (nI_or0 _) ?_
      refine X_istore_n (i := 2) (ls' := [some (.ref 342), some (.int b0), some (.int (nI (mvS w o l))), some (.int (nI (l)))]) rfl rfl rfl (Nat.le_of_ble_eq_true rfl) rfl ?_
      refine X_iinc (v := (nI (l + 1))) (ls' := [some (.ref 342), some (.int b0), some (.int (nI (mvS w o l))), some (.int (nI (l + 1)))]) rfl rfl rfl (nI_add (l) 1) rfl ?_
      refine LW_goto (tgt := 22) rfl rfl ?_
      have hlt := mvB_lt w o l
      have hq : mvB w o l = 0 := by
        have hz : nI (mvB w o l) = nI 0 ↔ mvB w o l = 0 := nI_eq (by omega) (by decide)
        exact hz.mp h2
      rw [mvS_0 w o l hq] at k
      exact k
    · refine X_iconst (v := (1 : Int32)) rfl rfl rfl ?_
      refine X_iload_n rfl rfl rfl rfl ?_
      refine X_ishl (v := (nI (2 ^ l))) rfl rfl (tie_1 l hl) ?_
      refine LW_goto (tgt := 47) rfl rfl ?_
      refine X_ior (v := (nI ((mvS w o l) ||| (2 ^ l)))) rfl rfl (nI_or (mvS w o l) (2 ^ l)) ?_
      refine X_istore_n (i := 2) (ls' := [some (.ref 342), some (.int b0), some (.int (nI ((mvS w o l) ||| (2 ^ l)))), some (.int (nI (l)))]) rfl rfl rfl (Nat.le_of_ble_eq_true rfl) rfl ?_
      refine X_iinc (v := (nI (l + 1))) (ls' := [some (.ref 342), some (.int b0), some (.int (nI ((mvS w o l) ||| (2 ^ l)))), some (.int (nI (l + 1)))]) rfl rfl rfl (nI_add (l) 1) rfl ?_
      refine LW_goto (tgt := 22) rfl rfl ?_
      have hlt := mvB_lt w o l
      have hq : mvB w o l = 1 := by
        have hz : nI (mvB w o l) = nI 0 ↔ mvB w o l = 0 := nI_eq (by omega) (by decide)
        have h0 : ¬ mvB w o l = 0 := fun q => h2 (hz.mpr q)
        omega
      rw [mvS_1 w o l hq] at k
      exact k
set_option maxRecDepth 10000 in
set_option maxHeartbeats 40000000 in
theorem c_dawn1e {g : LH} {d m : Nat} {w : Nat → Nat} {o x dy : Nat} {b0 : Int32} {Q : Option Value → LH → Prop} (F : CV g w o x dy) (hw : ∀ k, k < 26 → w k ≤ 99) (ho : o < 2 ^ 26) (k : LW 5 (d + 3) 0 0 57 [some (.ref 342), some (.int b0), some (.int (nI (m))), some (.int (nI (0)))] [] g Q) : LW 5 (d + 3) 0 0 22 [some (.ref 342), some (.int b0), some (.int (nI (m))), some (.int (nI (26)))] [] g (Q) := by
  refine X_iload_n rfl rfl rfl rfl ?_
  refine X_bipush (v := (26 : Int32)) rfl rfl rfl ?_
  refine X_icmp_ge (tgt := 55) rfl rfl rfl (fun h1 => ?_) (fun h1 => ?_)
  · refine X_iconst (v := (0 : Int32)) rfl rfl rfl ?_
    refine X_istore_n (i := 3) (ls' := [some (.ref 342), some (.int b0), some (.int (nI (m))), some (.int (0 : Int32))]) rfl rfl rfl (Nat.le_of_ble_eq_true rfl) rfl ?_
    exact k
  · exfalso
    simp only [Int32.lt_iff_toInt_lt, Int32.le_iff_toInt_le, ← Int32.toInt_inj, (show (26 : Int32).toInt = 26 from rfl), (nI_toInt (n := 26) (by omega))] at h1
    omega
theorem c_dawn1l {g : LH} {d : Nat} {w : Nat → Nat} {o x dy : Nat} {b0 : Int32} {Q : Option Value → LH → Prop} (F : CV g w o x dy) (hw : ∀ k, k < 26 → w k ≤ 99) (ho : o < 2 ^ 26) : ∀ (n l : Nat), l + n = 26 → LW 5 (d + 3) 0 0 57 [some (.ref 342), some (.int b0), some (.int (nI (mvS w o 26))), some (.int (nI (0)))] [] g Q → LW 5 (d + 3) 0 0 22 [some (.ref 342), some (.int b0), some (.int (nI (mvS w o l))), some (.int (nI (l)))] [] g Q := by
  intro n
  induction n with
  | zero =>
    intro l hl k
    have hl : l = 26 := by omega
    subst hl
    exact c_dawn1e F hw ho k
  | succ n ih =>
    intro l hl k
    exact c_dawn1 F hw ho (by omega) (ih (l + 1) (by omega) k)
set_option maxRecDepth 10000 in
set_option maxHeartbeats 40000000 in
theorem c_dawn2 {g : LH} {d l m : Nat} {w : Nat → Nat} {o x dy : Nat} {b0 : Int32} {Q : Option Value → LH → Prop} (F : CV g w o x dy) (hw : ∀ k, k < 26 → w k ≤ 99) (ho : o < 2 ^ 26) (hl : l < 26) (k : ∀ z, LW 5 (d + 3) 0 0 57 [some (.ref 342), some (.int b0), some (.int (nI (m))), some (.int (nI (l + 1)))] [] (putI g 12 l z) Q) : LW 5 (d + 3) 0 0 57 [some (.ref 342), some (.int b0), some (.int (nI (m))), some (.int (nI (l)))] [] g (Q) := by
  refine X_iload_n rfl rfl rfl rfl ?_
  refine X_bipush (v := (26 : Int32)) rfl rfl rfl ?_
  refine X_icmp_ge (tgt := 95) rfl rfl rfl (fun h1 => ?_) (fun h1 => ?_)
  · exfalso
    simp only [Int32.lt_iff_toInt_lt, Int32.le_iff_toInt_le, ← Int32.toInt_inj, (show (26 : Int32).toInt = 26 from rfl), (nI_toInt (n := l) (by omega))] at h1
    omega
  · refine X_aload_n rfl rfl rfl rfl ?_
    refine X_getR (a := 10) rfl rfl rfl ((congrFun F.1 342).trans s_342) rfl ((congrFun (F.2.1 342 (by decide)) 1).trans r_342_1) ?_
    refine X_getR (a := 12) rfl rfl rfl ((congrFun F.1 10).trans s_10) rfl ((congrFun (F.2.1 10 (by decide)) 5).trans r_10_5) ?_
    refine X_iload_n rfl rfl rfl rfl ?_
    refine X_sipush (v := (999 : Int32)) rfl rfl rfl ?_
    refine X_aload_n rfl rfl rfl rfl ?_
    refine X_getR (a := 10) rfl rfl rfl ((congrFun F.1 342).trans s_342) rfl ((congrFun (F.2.1 342 (by decide)) 1).trans r_342_1) ?_
    refine X_getR (a := 12) rfl rfl rfl ((congrFun F.1 10).trans s_10) rfl ((congrFun (F.2.1 10 (by decide)) 5).trans r_10_5) ?_
    refine X_iload_n rfl rfl rfl rfl ?_
    refine X_iald (v := ((Gi g 12) (l))) rfl rfl ((congrFun F.1 12).trans s_12) (vp_in_nI (by omega) (by decide)) (congrArg (Gi _ 12) (nI_clamp (n := l) (by omega))) ?_
    refine X_iconst (v := (1 : Int32)) rfl rfl rfl ?_
    refine X_iadd (v := (((Gi g 12) (l)) + (1 : Int32))) rfl rfl rfl ?_
    refine X_min (v := (if (((Gi g 12) (l)) + (1 : Int32)) < (999 : Int32) then (((Gi g 12) (l)) + (1 : Int32)) else (999 : Int32))) rfl rfl rfl (Nat.le_of_ble_eq_true rfl) rfl ?_
    refine X_iast (k0 := l) rfl rfl ((congrFun F.1 12).trans s_12) (vp_in_nI (by omega) (by decide)) (nI_clamp (n := l) (by omega)) ?_
    refine X_iinc (v := (nI (l + 1))) (ls' := [some (.ref 342), some (.int b0), some (.int (nI (m))), some (.int (nI (l + 1)))]) rfl rfl rfl (nI_add (l) 1) rfl ?_
    refine LW_goto (tgt := 57) rfl rfl ?_
    exact k _
set_option maxRecDepth 10000 in
set_option maxHeartbeats 40000000 in
theorem c_dawn2e {g : LH} {d m : Nat} {w : Nat → Nat} {o x dy : Nat} {b0 : Int32} {Q : Option Value → LH → Prop} (F : CV g w o x dy) (hw : ∀ k, k < 26 → w k ≤ 99) (ho : o < 2 ^ 26) (hm : m < 2 ^ 26) (k : ∀ g', CV g' w (o ^^^ m) x (dy + 1) → Q none g') : LW 5 (d + 3) 0 0 57 [some (.ref 342), some (.int b0), some (.int (nI (m))), some (.int (nI (26)))] [] g (Q) := by
  refine X_iload_n rfl rfl rfl rfl ?_
  refine X_bipush (v := (26 : Int32)) rfl rfl rfl ?_
  refine X_icmp_ge (tgt := 95) rfl rfl rfl (fun h1 => ?_) (fun h1 => ?_)
  · refine X_aload_n rfl rfl rfl rfl ?_
    refine X_getR (a := 10) rfl rfl rfl ((congrFun F.1 342).trans s_342) rfl ((congrFun (F.2.1 342 (by decide)) 1).trans r_342_1) ?_
    refine X_iload_n rfl rfl rfl rfl ?_
    refine Y_callV (as := [.int (nI (m))]) (st := []) rfl rfl rfl (by decide) rfl (Nat.le_of_ble_eq_true rfl) (by decide) (Nat.le_of_ble_eq_true rfl) rfl ((congrFun F.1 10).trans s_10) (by decide) (by refine c_move (n := m) ?_ (by omega); exact ⟨F.1, F.2.1⟩) ?_
    rintro _ g' ⟨rfl, eg⟩
    have V' : CV g' w (o ^^^ m) x dy := by rw [eg]; exact CV_move F
    clear eg
    refine X_aload_n rfl rfl rfl rfl ?_
    refine X_getR (a := 10) rfl rfl rfl ((congrFun V'.1 342).trans s_342) rfl ((congrFun (V'.2.1 342 (by decide)) 1).trans r_342_1) ?_
    refine X_dup rfl rfl rfl ?_
    refine X_getI (v := nI dy) rfl rfl rfl ((congrFun V'.1 10).trans s_10) rfl V'.2.2.2.2.1 ?_
    refine X_iconst (v := 1) rfl rfl rfl ?_
    refine X_iadd (v := nI (dy + 1)) rfl rfl (nI_add dy 1) ?_
    refine X_putI rfl rfl rfl ((congrFun V'.1 10).trans s_10) rfl rfl rfl rfl ?_
    exact LW_return (st := []) rfl rfl (k _ (CV_fld V' (Or.inr (Or.inl ⟨rfl, rfl, rfl, rfl⟩))))
  · exfalso
    simp only [Int32.lt_iff_toInt_lt, Int32.le_iff_toInt_le, ← Int32.toInt_inj, (show (26 : Int32).toInt = 26 from rfl), (nI_toInt (n := 26) (by omega))] at h1
    omega
theorem c_dawn2l {d m : Nat} {w : Nat → Nat} {o x dy : Nat} {b0 : Int32} {Q : Option Value → LH → Prop} (hw : ∀ k, k < 26 → w k ≤ 99) (ho : o < 2 ^ 26) (hm : m < 2 ^ 26) (k : ∀ g', CV g' w (o ^^^ m) x (dy + 1) → Q none g') : ∀ (n l : Nat), l + n = 26 → ∀ g : LH, CV g w o x dy → LW 5 (d + 3) 0 0 57 [some (.ref 342), some (.int b0), some (.int (nI (m))), some (.int (nI (l)))] [] g Q := by
  intro n
  induction n with
  | zero =>
    intro l hl g F
    have hl : l = 26 := by omega
    subst hl
    exact c_dawn2e F hw ho hm k
  | succ n ih =>
    intro l hl g F
    exact c_dawn2 F hw ho (by omega) (fun z => ih (l + 1) (by omega) _ (CV_put F (Or.inr (Or.inl rfl))))
theorem c_dawn18 {g : LH} {d : Nat} {w : Nat → Nat} {o x dy : Nat} {b0 : Int32} (F : CV g w o x dy) (hw : ∀ k, k < 26 → w k ≤ 99) (ho : o < 2 ^ 26) : LW 5 (d + 3) 0 0 18 [some (.ref 342), some (.int b0), none, none] [] g (fun v g' => v = none ∧ CV g' w (o ^^^ mvS w o 26) x (dy + 1)) := by
  refine X_iconst (v := 0) rfl rfl rfl ?_
  refine X_istore_n (i := 2) (ls' := [some (.ref 342), some (.int b0), some (.int (nI (mvS w o 0))), none]) rfl rfl rfl (Nat.le_of_ble_eq_true rfl) rfl ?_
  refine X_iconst (v := 0) rfl rfl rfl ?_
  refine X_istore_n (i := 3) (ls' := [some (.ref 342), some (.int b0), some (.int (nI (mvS w o 0))), some (.int (nI 0))]) rfl rfl rfl (Nat.le_of_ble_eq_true rfl) rfl ?_
  exact c_dawn1l F hw ho 26 0 rfl (c_dawn2l hw ho (mvS_lt w o 26 (Nat.le_refl _)) (fun g' V => ⟨rfl, V⟩) 26 0 rfl g F)
theorem c_dawn_y {g : LH} {d : Nat} {w : Nat → Nat} {o x dy : Nat} (F : CV g w o x dy) (hw : ∀ k, k < 26 → w k ≤ 99) (ho : o < 2 ^ 26) : LW 5 (d + 3) 0 0 0 (lEnt (mL 5) [.ref 342, .int 0]) [] g (fun v g' => v = none ∧ CV g' w (o ^^^ mvS w o 26) x (dy + 1)) := by
  refine LW_ls (ls' := [some (.ref 342), some (.int 0), none, none]) rfl ?_
  refine X_iload_n rfl rfl rfl rfl ?_
  refine X_if_eq (tgt := 18) rfl rfl rfl (fun _ => ?_) (fun q => absurd rfl q)
  exact c_dawn18 F hw ho
theorem c_dawn_m {g : LH} {d : Nat} {w : Nat → Nat} {o x dy : Nat} (F : CV g w o x dy) (hw : ∀ k, k < 26 → w k ≤ 99) (ho : o < 2 ^ 26) : LW 5 (d + 3) 0 0 0 (lEnt (mL 5) [.ref 342, .int 1]) [] g (fun v g' => v = none ∧ CV g' w (o ^^^ mvS w o 26) x (dy + 1)) := by
  refine LW_ls (ls' := [some (.ref 342), some (.int 1), none, none]) rfl ?_
  refine X_iload_n rfl rfl rfl rfl ?_
  refine X_if_eq (tgt := 18) rfl rfl rfl (fun q => absurd q (by decide)) (fun _ => ?_)
  refine X_aload_n rfl rfl rfl rfl ?_
  refine X_getR (a := 1) rfl rfl rfl ((congrFun F.1 342).trans s_342) rfl ((congrFun (F.2.1 342 (by decide)) 0).trans r_342_0) ?_
  refine X_getR (a := 14) rfl rfl rfl ((congrFun F.1 1).trans s_1) rfl ((congrFun (F.2.1 1 (by decide)) 2).trans r_1_2) ?_
  refine X_aload_n rfl rfl rfl rfl ?_
  refine X_getR (a := 10) rfl rfl rfl ((congrFun F.1 342).trans s_342) rfl ((congrFun (F.2.1 342 (by decide)) 1).trans r_342_1) ?_
  refine Y_callV (as := [.ref 10]) (st := []) rfl rfl rfl (by decide) rfl (Nat.le_of_ble_eq_true rfl) (by decide) (Nat.le_of_ble_eq_true rfl) rfl ((congrFun F.1 14).trans s_14) (by decide) (c_keep F) ?_
  rintro _ g' ⟨rfl, V⟩
  exact c_dawn18 V hw ho
theorem ones : ∀ k, k < 26 → (fun _ => 1 : Nat → Nat) k ≤ 99 := fun _ _ => (by decide : 1 ≤ 99)
set_option maxRecDepth 10000 in
set_option maxHeartbeats 40000000 in
theorem c_pass1 {g : LH} {d i n : Nat} {n0 : Option Value} {Q : Option Value → LH → Prop} (F : CV g (fun _ => 1) 0 17 i) (hi : i < n) (hn : n ≤ 99) (k : ∀ g', CV g' (fun _ => 1) 0 17 (i + 1) → LW 4 (d + 4) 0 0 18 [some (.ref 342), n0, some (.int (nI (n))), some (.int (nI (i + 1)))] [] g' Q) : LW 4 (d + 4) 0 0 18 [some (.ref 342), n0, some (.int (nI (n))), some (.int (nI (i)))] [] g (Q) := by
  refine X_iload_n rfl rfl rfl rfl ?_
  refine X_iload_n rfl rfl rfl rfl ?_
  refine X_icmp_ge (tgt := 34) rfl rfl rfl (fun h1 => ?_) (fun h1 => ?_)
  · exfalso
    simp only [Int32.lt_iff_toInt_lt, Int32.le_iff_toInt_le, ← Int32.toInt_inj, (nI_toInt (n := i) (by omega)), (nI_toInt (n := n) (by omega))] at h1
    omega
  · refine X_aload_n rfl rfl rfl rfl ?_
    refine X_iconst (v := (1 : Int32)) rfl rfl rfl ?_
    refine Y_callV (as := [.int (1 : Int32)]) (st := []) rfl rfl rfl (by decide) rfl (Nat.le_of_ble_eq_true rfl) (by decide) (Nat.le_of_ble_eq_true rfl) rfl ((congrFun F.1 342).trans s_342) (by decide) (c_dawn_m F ones (by decide)) ?_
    rintro _ g' ⟨rfl, V⟩
    rw [mvS_new] at V
    refine X_iinc (v := (nI (i + 1))) (ls' := [some (.ref 342), n0, some (.int (nI (n))), some (.int (nI (i + 1)))]) rfl rfl rfl (nI_add (i) 1) rfl ?_
    refine LW_goto (tgt := 18) rfl rfl ?_
    exact k g' V
set_option maxRecDepth 10000 in
set_option maxHeartbeats 40000000 in
theorem c_pass2 {g : LH} {d n : Nat} {n0 : Option Value} {Q : Option Value → LH → Prop} (hn : n ≤ 99) (k : Q (some (.int (nI n))) g) : LW 4 (d + 4) 0 0 18 [some (.ref 342), n0, some (.int (nI (n))), some (.int (nI (n)))] [] g (Q) := by
  refine X_iload_n rfl rfl rfl rfl ?_
  refine X_iload_n rfl rfl rfl rfl ?_
  refine X_icmp_ge (tgt := 34) rfl rfl rfl (fun h1 => ?_) (fun h1 => ?_)
  · refine X_iload_n rfl rfl rfl rfl ?_
    exact LW_ireturn (st := []) rfl rfl rfl k
  · exfalso
    simp only [Int32.lt_iff_toInt_lt, Int32.le_iff_toInt_le, ← Int32.toInt_inj, (nI_toInt (n := n) (by omega))] at h1
    omega
theorem c_passl {d n : Nat} {n0 : Option Value} {Q : Option Value → LH → Prop} (hn : n ≤ 99) (k : ∀ g', CV g' (fun _ => 1) 0 17 n → Q (some (.int (nI n))) g') : ∀ (m i : Nat), i + m = n → ∀ g : LH, CV g (fun _ => 1) 0 17 i → LW 4 (d + 4) 0 0 18 [some (.ref 342), n0, some (.int (nI (n))), some (.int (nI (i)))] [] g Q := by
  intro m
  induction m with
  | zero =>
    intro i hi g F
    have hi : i = n := by omega
    subst hi
    exact c_pass2 hn (k g F)
  | succ m ih =>
    intro i hi g F
    exact c_pass1 F (by omega) hn (fun g' V => ih (i + 1) (by omega) g' V)
theorem CV_new {g : LH} (F : Fc g) (E : Fr g) : CV g (fun _ => 1) 0 17 0 := by
  have i := fun q (hq : q < 355) => (F.2.2 q hq).1
  refine ⟨F.1, F.2.1, E, ?_, ?_, ?_, fun k hk => ?_, fun k hk => ?_, ?_, 0, 0, ?_, ?_, by decide, by decide⟩
  · rw [i 10 (by decide)]; decide +kernel
  · rw [i 10 (by decide)]; decide +kernel
  · rw [i 10 (by decide)]; decide +kernel
  · rw [i 11 (by decide)]
    exact cv_11 k hk
  · rw [i 141 (by decide)]
    exact u_141 k hk
  · rw [i 1 (by decide)]; decide +kernel
  · rw [i 14 (by decide)]; decide +kernel
  · rw [i 14 (by decide)]; decide +kernel
set_option maxRecDepth 10000 in
set_option maxHeartbeats 40000000 in
theorem c_pass {g : LH} (F : CV g (fun _ => 1) 0 17 0) {d n : Nat} (hn : n ≤ 99) : LW 4 (d + 4) 0 0 0 (lEnt (mL 4) [.ref 342, .int (nI (n))]) [] g (fun v g' => v = some (.int (nI n)) ∧ CV g' (fun _ => 1) 0 17 n) := by
  refine LW_ls (ls' := [some (.ref 342), some (.int (nI (n))), none, none]) rfl ?_
  refine X_iload_n rfl rfl rfl rfl ?_
  refine X_sipush (v := (999 : Int32)) rfl rfl rfl ?_
  refine X_aload_n rfl rfl rfl rfl ?_
  refine X_getR (a := 10) rfl rfl rfl ((congrFun F.1 342).trans s_342) rfl ((congrFun (F.2.1 342 (by decide)) 1).trans r_342_1) ?_
  refine X_getI (v := (0 : Int32)) rfl rfl rfl ((congrFun F.1 10).trans s_10) rfl F.2.2.2.2.1 ?_
  refine X_isub (v := (999 : Int32)) rfl rfl rfl ?_
  refine X_min (v := (nI (n))) rfl rfl rfl (Nat.le_of_ble_eq_true rfl) (min_n hn) ?_
  refine X_istore_n (i := 2) (ls' := [some (.ref 342), some (.int (nI (n))), some (.int (nI (n))), none]) rfl rfl rfl (Nat.le_of_ble_eq_true rfl) rfl ?_
  refine X_iconst (v := (0 : Int32)) rfl rfl rfl ?_
  refine X_istore_n (i := 3) (ls' := [some (.ref 342), some (.int (nI (n))), some (.int (nI (n))), some (.int (0 : Int32))]) rfl rfl rfl (Nat.le_of_ble_eq_true rfl) rfl ?_
  exact c_passl hn (fun g' V => ⟨rfl, V⟩) n 0 (by omega) g F
theorem c_outs {g : LH} {d : Nat} {w : Nat → Nat} {o x dy : Nat} (V : CV g w o x dy) (ho : o < 2 ^ 26) : LW 107 (d + 1) 0 0 0 (lEnt (mL 107) [.ref 10]) [] g (fun v g' => v = some (.int (nI (pcn 32 o))) ∧ g' = g) := by
  refine LW_ls (ls' := [some (.ref 10)]) rfl ?_
  refine X_aload_n rfl rfl rfl rfl ?_
  refine X_getI (v := nI o) rfl rfl rfl ((congrFun V.1 10).trans s_10) rfl V.2.2.2.1 ?_
  refine Y_callS (as := [.int (nI o)]) (st := []) rfl rfl rfl (by decide) rfl (Nat.le_of_ble_eq_true rfl) (by decide) (Nat.le_of_ble_eq_true rfl) rfl (c_bitCount (n := o) (by omega)) ?_
  rintro _ _ ⟨rfl, rfl⟩
  exact LW_ireturn (st := []) rfl rfl rfl ⟨rfl, rfl⟩
set_option maxRecDepth 10000 in
set_option maxHeartbeats 40000000 in
theorem c_morning_in {g : LH} (F : Fc g) (E : Fr g) {n : Nat} (h0 : 1 ≤ n) (hn : n ≤ 99) : LW 134 30 0 0 0 (lEnt (mL 134) [.ref 0, .int (nI (n))]) [] g (fun v g' => v = some (.int (0)) ∧ Fr g') := by
  refine LW_ls (ls' := [some (.ref 0), some (.int (nI (n)))]) rfl ?_
  refine X_iload_n rfl rfl rfl rfl ?_
  refine X_iconst (v := (1 : Int32)) rfl rfl rfl ?_
  refine X_icmp_lt (tgt := 29) rfl rfl rfl (fun h1 => ?_) (fun h1 => ?_)
  · exfalso
    simp only [Int32.lt_iff_toInt_lt, Int32.le_iff_toInt_le, ← Int32.toInt_inj, (show (1 : Int32).toInt = 1 from rfl), (nI_toInt (n := n) (by omega))] at h1
    omega
  · refine X_iload_n rfl rfl rfl rfl ?_
    refine X_bipush (v := (99 : Int32)) rfl rfl rfl ?_
    refine X_icmp_gt (tgt := 29) rfl rfl rfl (fun h2 => ?_) (fun h2 => ?_)
    · exfalso
      simp only [Int32.lt_iff_toInt_lt, Int32.le_iff_toInt_le, ← Int32.toInt_inj, (show (1 : Int32).toInt = 1 from rfl), (show (99 : Int32).toInt = 99 from rfl), (nI_toInt (n := n) (by omega))] at h1 h2
      omega
    · refine X_aload_n rfl rfl rfl rfl ?_
      refine X_getR (a := 1) rfl rfl rfl ((congrFun F.1 0).trans s_0) rfl ((congrFun (F.2.1 0 (by decide)) 0).trans r_0_0) ?_
      refine X_getR (a := 10) rfl rfl rfl ((congrFun F.1 1).trans s_1) rfl ((congrFun (F.2.1 1 (by decide)) 1).trans r_1_1) ?_
      refine X_getI (v := (0 : Int32)) rfl rfl rfl ((congrFun F.1 10).trans s_10) rfl ((congrFun (F.2.2 10 (by decide)).1 1).trans i_10_1) ?_
      refine X_iload_n rfl rfl rfl rfl ?_
      refine X_iadd (v := (nI (0 + n))) rfl rfl (nI_add (0) (n)) ?_
      refine X_sipush (v := (999 : Int32)) rfl rfl rfl ?_
      refine X_icmp_le (tgt := 31) rfl rfl rfl (fun h3 => ?_) (fun h3 => ?_)
      · refine X_aload_n rfl rfl rfl rfl ?_
        refine X_getR (a := 342) rfl rfl rfl ((congrFun F.1 0).trans s_0) rfl ((congrFun (F.2.1 0 (by decide)) 6).trans r_0_6) ?_
        refine X_iload_n rfl rfl rfl rfl ?_
        refine Y_callV (as := [.int (nI (n))]) (st := []) rfl rfl rfl (by decide) rfl (Nat.le_of_ble_eq_true rfl) (by decide) (Nat.le_of_ble_eq_true rfl) rfl ((congrFun F.1 342).trans s_342) (by decide) (c_pass (CV_new F E) hn) ?_
        rintro _ g' ⟨rfl, V⟩
        refine X_pop rfl rfl rfl ?_
        refine X_aload_n rfl rfl rfl rfl ?_
        refine X_getR (a := 1) rfl rfl rfl ((congrFun V.1 0).trans s_0) rfl ((congrFun (V.2.1 0 (by decide)) 0).trans r_0_0) ?_
        refine X_getR (a := 10) rfl rfl rfl ((congrFun V.1 1).trans s_1) rfl ((congrFun (V.2.1 1 (by decide)) 1).trans r_1_1) ?_
        refine Y_callV (as := []) (st := []) rfl rfl rfl (by decide) rfl (Nat.le_of_ble_eq_true rfl) (by decide) (Nat.le_of_ble_eq_true rfl) rfl ((congrFun V.1 10).trans s_10) (by decide) (c_outs V (by decide)) ?_
        rintro _ _ ⟨rfl, rfl⟩
        exact LW_ireturn (st := []) rfl rfl rfl ⟨congrArg (fun z => some (Value.int z)) (show nI (pcn 32 0) = 0 from by decide +kernel), V.2.2.1⟩
      · exfalso
        simp only [Int32.lt_iff_toInt_lt, Int32.le_iff_toInt_le, ← Int32.toInt_inj, (show (1 : Int32).toInt = 1 from rfl), (show (99 : Int32).toInt = 99 from rfl), (show (999 : Int32).toInt = 999 from rfl), (nI_toInt (n := 0 + n) (by omega)), (nI_toInt (n := n) (by omega))] at h1 h2 h3
        omega
set_option maxRecDepth 10000 in
set_option maxHeartbeats 40000000 in
theorem c_morning_out {g : LH} (F : Fc g) (E : Fr g) (a : Int32) (hr : ¬ (1 ≤ a.toInt ∧ a.toInt ≤ 99)) : LW 134 30 0 0 0 (lEnt (mL 134) [.ref 0, .int a]) [] g (fun v g' => v = some (.int (-1)) ∧ Fr g') := by
  refine LW_ls (ls' := [some (.ref 0), some (.int a)]) rfl ?_
  refine X_iload_n rfl rfl rfl rfl ?_
  refine X_iconst (v := (1 : Int32)) rfl rfl rfl ?_
  refine X_icmp_lt (tgt := 29) rfl rfl rfl (fun h1 => ?_) (fun h1 => ?_)
  · refine X_iconst (v := (-1 : Int32)) rfl rfl rfl ?_
    exact LW_ireturn (st := []) rfl rfl rfl ⟨rfl, E⟩
  · refine X_iload_n rfl rfl rfl rfl ?_
    refine X_bipush (v := (99 : Int32)) rfl rfl rfl ?_
    refine X_icmp_gt (tgt := 29) rfl rfl rfl (fun h2 => ?_) (fun h2 => ?_)
    · refine X_iconst (v := (-1 : Int32)) rfl rfl rfl ?_
      exact LW_ireturn (st := []) rfl rfl rfl ⟨rfl, E⟩
    · exfalso
      simp only [Int32.lt_iff_toInt_lt, Int32.le_iff_toInt_le, ← Int32.toInt_inj, (show (1 : Int32).toInt = 1 from rfl), (show (99 : Int32).toInt = 99 from rfl)] at h1 h2
      omega
set_option maxRecDepth 10000 in
set_option maxHeartbeats 40000000 in
theorem c_drawX {g : LH} {w : Nat → Nat} {o x dy : Nat} (F : CV g w o x dy) {d : Nat} (hx : x < 60000) : LW 13 d 0 0 0 (lEnt (mL 13) [.ref 342]) [] g (fun v g' => v = none ∧ CV g' w o (anewN x) dy) := by
  refine LW_ls (ls' := [some (.ref 342)]) rfl ?_
  refine X_aload_n rfl rfl rfl rfl ?_
  refine X_getR (a := 10) rfl rfl rfl ((congrFun F.1 342).trans s_342) rfl ((congrFun (F.2.1 342 (by decide)) 1).trans r_342_1) ?_
  refine X_aload_n rfl rfl rfl rfl ?_
  refine X_getR (a := 10) rfl rfl rfl ((congrFun F.1 342).trans s_342) rfl ((congrFun (F.2.1 342 (by decide)) 1).trans r_342_1) ?_
  refine X_getI (v := (nI (x))) rfl rfl rfl ((congrFun F.1 10).trans s_10) rfl F.2.2.2.2.2.1 ?_
  refine X_sipush (v := (211 : Int32)) rfl rfl rfl ?_
  refine X_imul (v := (nI (x * 211))) rfl rfl (pk_mul (x) (211)) ?_
  refine X_bipush (v := (97 : Int32)) rfl rfl rfl ?_
  refine X_iadd (v := (nI ((x * 211) + 97))) rfl rfl (nI_add (x * 211) (97)) ?_
  refine X_sipush (v := (30139 : Int32)) rfl rfl rfl ?_
  refine X_irem (v := (nI (((x * 211) + 97) % 30139))) rfl rfl (by decide) (nI_irem (d := 30139) (by omega) (by decide)) ?_
  refine X_putI rfl rfl rfl ((congrFun F.1 10).trans s_10) rfl rfl rfl rfl ?_
  exact LW_return (st := []) rfl rfl ⟨rfl, CV_fld F (Or.inr (Or.inr ⟨rfl, rfl, rfl, rfl⟩))⟩
set_option maxRecDepth 10000 in
set_option maxHeartbeats 40000000 in
theorem c_befall {g : LH} {w : Nat → Nat} {o x dy : Nat} (F : CV g w o x dy) {d l : Nat} (ok : yOk w o) (hl : l < 26) (hx : x < 60000) (hdy : dy < 900) : LW 14 (d + 4) 0 0 0 (lEnt (mL 14) [.ref 342, .int (nI (l))]) [] g (fun v g' => v = none ∧ ∃ dy', dy' ≤ dy + 1 ∧ CV g' (yW w l x) (yO w o l x) x dy') := by
  refine LW_ls (ls' := [some (.ref 342), some (.int (nI (l)))]) rfl ?_
  refine X_iload_n rfl rfl rfl rfl ?_
  refine X_callN (as := [.int (nI (l))]) (st := []) rfl rfl rfl (by decide) rfl (Nat.le_of_ble_eq_true rfl) (by decide) (Nat.le_of_ble_eq_true rfl) rfl ?_
  refine LW_ls (ls' := [some (.int (nI (l)))]) rfl ?_
  refine X_iload_n rfl rfl rfl rfl ?_
  refine X_if_lt (tgt := 14) rfl rfl rfl (fun h1 => ?_) (fun h1 => ?_)
  · exfalso
    simp only [Int32.lt_iff_toInt_lt, Int32.le_iff_toInt_le, ← Int32.toInt_inj, (show (0 : Int32).toInt = 0 from rfl), (nI_toInt (n := l) (by omega))] at h1
    omega
  · refine X_iload_n rfl rfl rfl rfl ?_
    refine X_bipush (v := (26 : Int32)) rfl rfl rfl ?_
    refine X_icmp_ge (tgt := 14) rfl rfl rfl (fun h2 => ?_) (fun h2 => ?_)
    · exfalso
      simp only [Int32.lt_iff_toInt_lt, Int32.le_iff_toInt_le, ← Int32.toInt_inj, (show (0 : Int32).toInt = 0 from rfl), (show (26 : Int32).toInt = 26 from rfl), (nI_toInt (n := l) (by omega))] at h1 h2
      omega
    · refine X_iconst (v := (1 : Int32)) rfl rfl rfl ?_
      refine LW_goto (tgt := 15) rfl rfl ?_
      refine LW_ireturn (st := []) rfl rfl rfl ?_
      refine X_if_ne (tgt := 8) rfl rfl rfl (fun _ => ?_) (fun q => absurd q (by decide))
      refine X_aload_n rfl rfl rfl rfl ?_
      refine X_getR (a := 10) rfl rfl rfl ((congrFun F.1 342).trans s_342) rfl ((congrFun (F.2.1 342 (by decide)) 1).trans r_342_1) ?_
      refine X_getI (v := (nI (x))) rfl rfl rfl ((congrFun F.1 10).trans s_10) rfl F.2.2.2.2.2.1 ?_
      refine X_iconst (v := (4 : Int32)) rfl rfl rfl ?_
      refine X_irem (v := (nI (x % 4))) rfl rfl (by decide) (nI_irem (d := 4) (by omega) (by decide)) ?_
      by_cases h3 : (nI (x % 4)) = (0 : Int32)
      · refine LW_eqv h3 ?_
        refine LW_tableIn (tgt := 44) rfl (by decide) (by decide) rfl rfl ?_
        refine X_aload_n rfl rfl rfl rfl ?_
        refine X_getR (a := 10) rfl rfl rfl ((congrFun F.1 342).trans s_342) rfl ((congrFun (F.2.1 342 (by decide)) 1).trans r_342_1) ?_
        refine X_getR (a := 11) rfl rfl rfl ((congrFun F.1 10).trans s_10) rfl ((congrFun (F.2.1 10 (by decide)) 4).trans r_10_4) ?_
        refine X_iload_n rfl rfl rfl rfl ?_
        refine X_bipush (v := (99 : Int32)) rfl rfl rfl ?_
        refine X_aload_n rfl rfl rfl rfl ?_
        refine X_getR (a := 10) rfl rfl rfl ((congrFun F.1 342).trans s_342) rfl ((congrFun (F.2.1 342 (by decide)) 1).trans r_342_1) ?_
        refine X_getR (a := 11) rfl rfl rfl ((congrFun F.1 10).trans s_10) rfl ((congrFun (F.2.1 10 (by decide)) 4).trans r_10_4) ?_
        refine X_iload_n rfl rfl rfl rfl ?_
        refine X_iald (v := (nI (w l))) rfl rfl ((congrFun F.1 11).trans s_11) (vp_in_nI (by omega) (by decide)) ((congrArg (Gi _ 11) (nI_clamp (n := l) (by omega))).trans (F.2.2.2.2.2.2.1 l hl)) ?_
        refine X_iconst (v := (1 : Int32)) rfl rfl rfl ?_
        refine X_iadd (v := (nI ((w l) + 1))) rfl rfl (nI_add (w l) (1)) ?_
        refine X_min (v := (nI ((if w l < 99 then w l + 1 else 99)))) rfl rfl rfl (Nat.le_of_ble_eq_true rfl) (min_w (ok.1 l hl)) ?_
        refine X_iast (k0 := l) rfl rfl ((congrFun F.1 11).trans s_11) (vp_in_nI (by omega) (by decide)) (nI_clamp (n := l) (by omega)) ?_
        refine LW_goto (tgt := 127) rfl rfl ?_
        have e4 : x % 4 = 0 := by
          simp only [Int32.lt_iff_toInt_lt, Int32.le_iff_toInt_le, ← Int32.toInt_inj, (show (0 : Int32).toInt = 0 from rfl), (nI_toInt (n := x % 4) (by omega))] at h3
          omega
        refine LW_return (st := []) rfl rfl ⟨rfl, dy, by omega, ?_⟩
        rw [yW_p e4, yO_n (by omega) (by omega)]
        exact CV_wage F
      by_cases h4 : (nI (x % 4)) = (1 : Int32)
      · refine LW_eqv h4 ?_
        refine LW_tableIn (tgt := 72) rfl (by decide) (by decide) rfl rfl ?_
        refine X_aload_n rfl rfl rfl rfl ?_
        refine X_getR (a := 10) rfl rfl rfl ((congrFun F.1 342).trans s_342) rfl ((congrFun (F.2.1 342 (by decide)) 1).trans r_342_1) ?_
        refine X_iconst (v := (1 : Int32)) rfl rfl rfl ?_
        refine X_iload_n rfl rfl rfl rfl ?_
        refine X_ishl (v := (nI (2 ^ l))) rfl rfl (tie_1 l hl) ?_
        refine Y_callV (as := [.int (nI (2 ^ l))]) (st := []) rfl rfl rfl (by decide) rfl (Nat.le_of_ble_eq_true rfl) (by decide) (Nat.le_of_ble_eq_true rfl) rfl ((congrFun F.1 10).trans s_10) (by decide) (by refine c_move (n := 2 ^ l) ?_ (tie_6 l hl); exact ⟨F.1, F.2.1⟩) ?_
        rintro _ g' ⟨rfl, eg⟩
        have V' : CV g' w (o ^^^ 2 ^ l) x dy := by rw [eg]; exact CV_move F
        refine LW_goto (tgt := 127) rfl rfl ?_
        have e4 : x % 4 = 1 := by
          simp only [Int32.lt_iff_toInt_lt, Int32.le_iff_toInt_le, ← Int32.toInt_inj, (show (0 : Int32).toInt = 0 from rfl), (show (1 : Int32).toInt = 1 from rfl), (nI_toInt (n := x % 4) (by omega))] at h3 h4
          omega
        refine LW_return (st := []) rfl rfl ⟨rfl, dy, by omega, ?_⟩
        rw [yW_n (by omega), yO_1 e4]
        exact V'
      by_cases h5 : (nI (x % 4)) = (2 : Int32)
      · refine LW_eqv h5 ?_
        refine LW_tableIn (tgt := 85) rfl (by decide) (by decide) rfl rfl ?_
        refine X_aload_n rfl rfl rfl rfl ?_
        refine X_getR (a := 10) rfl rfl rfl ((congrFun F.1 342).trans s_342) rfl ((congrFun (F.2.1 342 (by decide)) 1).trans r_342_1) ?_
        refine X_getR (a := 13) rfl rfl rfl ((congrFun F.1 10).trans s_10) rfl ((congrFun (F.2.1 10 (by decide)) 6).trans r_10_6) ?_
        refine X_iload_n rfl rfl rfl rfl ?_
        refine X_aload_n rfl rfl rfl rfl ?_
        refine X_getR (a := 10) rfl rfl rfl ((congrFun F.1 342).trans s_342) rfl ((congrFun (F.2.1 342 (by decide)) 1).trans r_342_1) ?_
        refine X_getI (v := (nI (x))) rfl rfl rfl ((congrFun F.1 10).trans s_10) rfl F.2.2.2.2.2.1 ?_
        refine X_bipush (v := (11 : Int32)) rfl rfl rfl ?_
        refine X_irem (v := (nI (x % 11))) rfl rfl (by decide) (nI_irem (d := 11) (by omega) (by decide)) ?_
        refine X_iconst (v := (1 : Int32)) rfl rfl rfl ?_
        refine X_isub (v := ((nI (x % 11)) - (1 : Int32))) rfl rfl rfl ?_
        refine X_iast (k0 := l) rfl rfl ((congrFun F.1 13).trans s_13) (vp_in_nI (by omega) (by decide)) (nI_clamp (n := l) (by omega)) ?_
        refine LW_goto (tgt := 127) rfl rfl ?_
        have e4 : x % 4 = 2 := by
          simp only [Int32.lt_iff_toInt_lt, Int32.le_iff_toInt_le, ← Int32.toInt_inj, (show (0 : Int32).toInt = 0 from rfl), (show (1 : Int32).toInt = 1 from rfl), (show (2 : Int32).toInt = 2 from rfl), (nI_toInt (n := x % 4) (by omega))] at h3 h4 h5
          omega
        refine LW_return (st := []) rfl rfl ⟨rfl, dy, by omega, ?_⟩
        rw [yW_n (by omega), yO_n (by omega) (by omega)]
        exact CV_put F (Or.inr (Or.inr rfl))
      refine LW_tableOut (tgt := 109) rfl (by simp only [Int32.lt_iff_toInt_lt, Int32.le_iff_toInt_le, ← Int32.toInt_inj, (show (0 : Int32).toInt = 0 from rfl), (show (1 : Int32).toInt = 1 from rfl), (show (2 : Int32).toInt = 2 from rfl), (show (26 : Int32).toInt = 26 from rfl), (nI_toInt (n := l) (by omega)), (nI_toInt (n := x % 4) (by omega))] at h1 h2 h3 h4 h5 ⊢; omega) rfl ?_
      refine X_aload_n rfl rfl rfl rfl ?_
      refine X_getR (a := 10) rfl rfl rfl ((congrFun F.1 342).trans s_342) rfl ((congrFun (F.2.1 342 (by decide)) 1).trans r_342_1) ?_
      refine X_getI (v := (nI (dy))) rfl rfl rfl ((congrFun F.1 10).trans s_10) rfl F.2.2.2.2.1 ?_
      refine X_sipush (v := (999 : Int32)) rfl rfl rfl ?_
      refine X_icmp_ge (tgt := 127) rfl rfl rfl (fun h6 => ?_) (fun h6 => ?_)
      · exfalso
        simp only [Int32.lt_iff_toInt_lt, Int32.le_iff_toInt_le, ← Int32.toInt_inj, (show (0 : Int32).toInt = 0 from rfl), (show (1 : Int32).toInt = 1 from rfl), (show (2 : Int32).toInt = 2 from rfl), (show (26 : Int32).toInt = 26 from rfl), (show (999 : Int32).toInt = 999 from rfl), (nI_toInt (n := dy) (by omega)), (nI_toInt (n := l) (by omega)), (nI_toInt (n := x % 4) (by omega))] at h1 h2 h3 h4 h5 h6
        omega
      · refine X_aload_n rfl rfl rfl rfl ?_
        refine X_iconst (v := (0 : Int32)) rfl rfl rfl ?_
        refine Y_callV (as := [.int (0 : Int32)]) (st := []) rfl rfl rfl (by decide) rfl (Nat.le_of_ble_eq_true rfl) (by decide) (Nat.le_of_ble_eq_true rfl) rfl ((congrFun F.1 342).trans s_342) (by decide) (c_dawn_y F ok.1 ok.2) ?_
        rintro _ g' ⟨rfl, V'⟩
        have e4 : x % 4 = 3 := by
          simp only [Int32.lt_iff_toInt_lt, Int32.le_iff_toInt_le, ← Int32.toInt_inj, (show (0 : Int32).toInt = 0 from rfl), (show (1 : Int32).toInt = 1 from rfl), (show (2 : Int32).toInt = 2 from rfl), (nI_toInt (n := x % 4) (by omega))] at h3 h4 h5
          omega
        refine LW_return (st := []) rfl rfl ⟨rfl, dy + 1, by omega, ?_⟩
        rw [yW_n (by omega), yO_3 e4]
        exact V'
set_option maxRecDepth 10000 in
set_option maxHeartbeats 40000000 in
theorem c_year1 {g : LH} {d i n : Nat} {w : Nat → Nat} {o x dy : Nat} {s0 l4 : Option Value} {Q : Option Value → LH → Prop} (F : CV g w o x dy) (ok : yOk w o) (hx : x < 60000) (hdy : dy < 900) (hi : i < n) (hn : n ≤ 40) (k : ∀ g' dy', dy' ≤ dy + 1 → CV g' (yW w (x % 26) (anewN x)) (yO w o (x % 26) (anewN x)) (anewN (anewN x)) dy' → LW 12 (d + 5) 0 0 29 [some (.ref 342), s0, some (.int (nI (n))), some (.int (nI (i + 1))), some (.int (nI (x % 26)))] [] g' Q) : LW 12 (d + 5) 0 0 29 [some (.ref 342), s0, some (.int (nI (n))), some (.int (nI (i))), l4] [] g (Q) := by
  refine X_iload_n rfl rfl rfl rfl ?_
  refine X_iload_n rfl rfl rfl rfl ?_
  refine X_icmp_ge (tgt := 66) rfl rfl rfl (fun h1 => ?_) (fun h1 => ?_)
  · exfalso
    simp only [Int32.lt_iff_toInt_lt, Int32.le_iff_toInt_le, ← Int32.toInt_inj, (nI_toInt (n := i) (by omega)), (nI_toInt (n := n) (by omega))] at h1
    omega
  · refine X_aload_n rfl rfl rfl rfl ?_
    refine X_getR (a := 10) rfl rfl rfl ((congrFun F.1 342).trans s_342) rfl ((congrFun (F.2.1 342 (by decide)) 1).trans r_342_1) ?_
    refine X_getI (v := (nI (x))) rfl rfl rfl ((congrFun F.1 10).trans s_10) rfl F.2.2.2.2.2.1 ?_
    refine X_bipush (v := (26 : Int32)) rfl rfl rfl ?_
    refine X_irem (v := (nI (x % 26))) rfl rfl (by decide) (nI_irem (d := 26) (by omega) (by decide)) ?_
    refine X_istore (i := 4) (ls' := [some (.ref 342), s0, some (.int (nI (n))), some (.int (nI (i))), some (.int (nI (x % 26)))]) rfl rfl (Nat.le_of_ble_eq_true rfl) rfl ?_
    refine X_aload_n rfl rfl rfl rfl ?_
    refine Y_callV (as := []) (st := []) rfl rfl rfl (by decide) rfl (Nat.le_of_ble_eq_true rfl) (by decide) (Nat.le_of_ble_eq_true rfl) rfl ((congrFun F.1 342).trans s_342) (by decide) (c_drawX (x := x) F hx) ?_
    rintro _ g ⟨rfl, F⟩
    refine X_aload_n rfl rfl rfl rfl ?_
    refine X_iload rfl rfl rfl ?_
    refine Y_callV (as := [.int (nI (x % 26))]) (st := []) rfl rfl rfl (by decide) rfl (Nat.le_of_ble_eq_true rfl) (by decide) (Nat.le_of_ble_eq_true rfl) rfl ((congrFun F.1 342).trans s_342) (by decide) (c_befall (l := x % 26) F ok (Nat.mod_lt _ (by decide)) (Nat.lt_trans (anewN_lt _) (by decide)) hdy) ?_
    rintro _ g ⟨rfl, dy1, hdy1, F⟩
    refine X_aload_n rfl rfl rfl rfl ?_
    refine Y_callV (as := []) (st := []) rfl rfl rfl (by decide) rfl (Nat.le_of_ble_eq_true rfl) (by decide) (Nat.le_of_ble_eq_true rfl) rfl ((congrFun F.1 342).trans s_342) (by decide) (c_drawX (x := anewN x) F (Nat.lt_trans (anewN_lt _) (by decide))) ?_
    rintro _ g ⟨rfl, F⟩
    refine X_iinc (v := (nI (i + 1))) (ls' := [some (.ref 342), s0, some (.int (nI (n))), some (.int (nI (i + 1))), some (.int (nI (x % 26)))]) rfl rfl rfl (nI_add (i) 1) rfl ?_
    refine LW_goto (tgt := 29) rfl rfl ?_
    exact k g dy1 hdy1 F
set_option maxRecDepth 10000 in
set_option maxHeartbeats 40000000 in
theorem c_year2 {g : LH} {d n : Nat} {s0 l4 : Option Value} {Q : Option Value → LH → Prop} (hn : n ≤ 40) (k : Q none g) : LW 12 (d + 5) 0 0 29 [some (.ref 342), s0, some (.int (nI (n))), some (.int (nI (n))), l4] [] g (Q) := by
  refine X_iload_n rfl rfl rfl rfl ?_
  refine X_iload_n rfl rfl rfl rfl ?_
  refine X_icmp_ge (tgt := 66) rfl rfl rfl (fun h1 => ?_) (fun h1 => ?_)
  · exact LW_return (st := []) rfl rfl k
  · exfalso
    simp only [Int32.lt_iff_toInt_lt, Int32.le_iff_toInt_le, ← Int32.toInt_inj, (nI_toInt (n := n) (by omega))] at h1
    omega
theorem c_yearl {d n : Nat} {s0 : Option Value} {Q : Option Value → LH → Prop} (hn : n ≤ 40) : ∀ (m i : Nat), i + m = n → ∀ (g : LH) (w : Nat → Nat) (o x dy : Nat) (l4 : Option Value), CV g w o x dy → yOk w o → x < 60000 → dy ≤ i → (∀ g' w' x' dy', CV g' w' (yr m w o x) x' dy' → Q none g') → LW 12 (d + 5) 0 0 29 [some (.ref 342), s0, some (.int (nI (n))), some (.int (nI (i))), l4] [] g Q := by
  intro m
  induction m with
  | zero =>
    intro i hi g w o x dy l4 F ok hx hdy k
    have hi : i = n := by omega
    subst hi
    exact c_year2 hn (k g w x dy F)
  | succ m ih =>
    intro i hi g w o x dy l4 F ok hx hdy k
    exact c_year1 F ok hx (by omega) (by omega) hn (fun g' dy' hd' F' => ih (i + 1) (by omega) g' _ _ _ dy' _ F' (yOk_step ok (Nat.mod_lt _ (by decide))) (Nat.lt_trans (anewN_lt _) (by decide)) (by omega) k)
set_option maxRecDepth 10000 in
set_option maxHeartbeats 40000000 in
theorem c_live {g : LH} (F : CV g (fun _ => 1) 0 17 0) {d s n : Nat} (hs : s ≤ 9999) (hn : n ≤ 40) : LW 12 (d + 5) 0 0 0 (lEnt (mL 12) [.ref 342, .int (nI (s)), .int (nI (n))]) [] g (fun v g' => v = none ∧ ∃ w' x' dy', CV g' w' (yr n (fun _ => 1) 0 (s * 5 + 17)) x' dy') := by
  refine LW_ls (ls' := [some (.ref 342), some (.int (nI (s))), some (.int (nI (n))), none, none]) rfl ?_
  refine X_aload_n rfl rfl rfl rfl ?_
  refine X_getR (a := 1) rfl rfl rfl ((congrFun F.1 342).trans s_342) rfl ((congrFun (F.2.1 342 (by decide)) 0).trans r_342_0) ?_
  refine X_getR (a := 14) rfl rfl rfl ((congrFun F.1 1).trans s_1) rfl ((congrFun (F.2.1 1 (by decide)) 2).trans r_1_2) ?_
  refine X_aload_n rfl rfl rfl rfl ?_
  refine X_getR (a := 10) rfl rfl rfl ((congrFun F.1 342).trans s_342) rfl ((congrFun (F.2.1 342 (by decide)) 1).trans r_342_1) ?_
  refine Y_callV (as := [.ref 10]) (st := []) rfl rfl rfl (by decide) rfl (Nat.le_of_ble_eq_true rfl) (by decide) (Nat.le_of_ble_eq_true rfl) rfl ((congrFun F.1 14).trans s_14) (by decide) (c_keep F) ?_
  rintro _ g ⟨rfl, F⟩
  refine X_aload_n rfl rfl rfl rfl ?_
  refine X_getR (a := 10) rfl rfl rfl ((congrFun F.1 342).trans s_342) rfl ((congrFun (F.2.1 342 (by decide)) 1).trans r_342_1) ?_
  refine X_iload_n rfl rfl rfl rfl ?_
  refine X_iconst (v := (5 : Int32)) rfl rfl rfl ?_
  refine X_imul (v := (nI (s * 5))) rfl rfl (pk_mul (s) (5)) ?_
  refine X_bipush (v := (17 : Int32)) rfl rfl rfl ?_
  refine X_iadd (v := (nI ((s * 5) + 17))) rfl rfl (nI_add (s * 5) (17)) ?_
  refine X_putI rfl rfl rfl ((congrFun F.1 10).trans s_10) rfl rfl rfl rfl ?_
  refine X_iconst (v := (0 : Int32)) rfl rfl rfl ?_
  refine X_istore_n (i := 3) (ls' := [some (.ref 342), some (.int (nI (s))), some (.int (nI (n))), some (.int (0 : Int32)), none]) rfl rfl rfl (Nat.le_of_ble_eq_true rfl) rfl ?_
  refine c_yearl (by omega) n 0 (by omega) _ (fun _ => 1) 0 (s * 5 + 17) 0 none (CV_fld F (Or.inr (Or.inr ⟨rfl, rfl, rfl, rfl⟩))) ⟨ones, by decide⟩ (by omega) (Nat.le_refl _) (fun g' w' x' dy' V => ⟨rfl, w', x', dy', V⟩)
def f_year (s n : Nat) : Int32 := nI (pcn 32 (yr n (fun _ => 1) 0 (s * 5 + 17)))
set_option maxRecDepth 10000 in
set_option maxHeartbeats 40000000 in
theorem c_year_in {g : LH} (F : Fc g) (E : Fr g) {s n : Nat} (hs : s ≤ 9999) (h1 : 1 ≤ n) (hn : n ≤ 40) : LW 141 30 0 0 0 (lEnt (mL 141) [.ref 0, .int (nI (s)), .int (nI (n))]) [] g (fun v g' => v = some (.int (f_year s n)) ∧ Fr g') := by
  refine LW_ls (ls' := [some (.ref 0), some (.int (nI (s))), some (.int (nI (n)))]) rfl ?_
  refine X_iload_n rfl rfl rfl rfl ?_
  refine X_if_lt (tgt := 22) rfl rfl rfl (fun h1 => ?_) (fun h1 => ?_)
  · exfalso
    simp only [Int32.lt_iff_toInt_lt, Int32.le_iff_toInt_le, ← Int32.toInt_inj, (show (0 : Int32).toInt = 0 from rfl), (nI_toInt (n := s) (by omega))] at h1
    omega
  · refine X_iload_n rfl rfl rfl rfl ?_
    refine X_sipush (v := (9999 : Int32)) rfl rfl rfl ?_
    refine X_icmp_gt (tgt := 22) rfl rfl rfl (fun h2 => ?_) (fun h2 => ?_)
    · exfalso
      simp only [Int32.lt_iff_toInt_lt, Int32.le_iff_toInt_le, ← Int32.toInt_inj, (show (0 : Int32).toInt = 0 from rfl), (show (9999 : Int32).toInt = 9999 from rfl), (nI_toInt (n := s) (by omega))] at h1 h2
      omega
    · refine X_iload_n rfl rfl rfl rfl ?_
      refine X_iconst (v := (1 : Int32)) rfl rfl rfl ?_
      refine X_icmp_lt (tgt := 22) rfl rfl rfl (fun h3 => ?_) (fun h3 => ?_)
      · exfalso
        simp only [Int32.lt_iff_toInt_lt, Int32.le_iff_toInt_le, ← Int32.toInt_inj, (show (0 : Int32).toInt = 0 from rfl), (show (1 : Int32).toInt = 1 from rfl), (show (9999 : Int32).toInt = 9999 from rfl), (nI_toInt (n := n) (by omega)), (nI_toInt (n := s) (by omega))] at h1 h2 h3
        omega
      · refine X_iload_n rfl rfl rfl rfl ?_
        refine X_bipush (v := (40 : Int32)) rfl rfl rfl ?_
        refine X_icmp_le (tgt := 24) rfl rfl rfl (fun h4 => ?_) (fun h4 => ?_)
        · refine X_aload_n rfl rfl rfl rfl ?_
          refine X_getR (a := 342) rfl rfl rfl ((congrFun F.1 0).trans s_0) rfl ((congrFun (F.2.1 0 (by decide)) 6).trans r_0_6) ?_
          refine X_iload_n rfl rfl rfl rfl ?_
          refine X_iload_n rfl rfl rfl rfl ?_
          refine Y_callV (as := [.int (nI (s)), .int (nI (n))]) (st := []) rfl rfl rfl (by decide) rfl (Nat.le_of_ble_eq_true rfl) (by decide) (Nat.le_of_ble_eq_true rfl) rfl ((congrFun F.1 342).trans s_342) (by decide) (c_live (CV_new F E) hs hn) ?_
          rintro _ g' ⟨rfl, w', x', dy', V⟩
          have hyr : yr n (fun _ => 1) 0 (s * 5 + 17) < 2 ^ 26 := yr_lt _ _ _ _ ⟨ones, by decide⟩
          refine X_aload_n rfl rfl rfl rfl ?_
          refine X_getR (a := 1) rfl rfl rfl ((congrFun V.1 0).trans s_0) rfl ((congrFun (V.2.1 0 (by decide)) 0).trans r_0_0) ?_
          refine X_getR (a := 10) rfl rfl rfl ((congrFun V.1 1).trans s_1) rfl ((congrFun (V.2.1 1 (by decide)) 1).trans r_1_1) ?_
          refine Y_callV (as := []) (st := []) rfl rfl rfl (by decide) rfl (Nat.le_of_ble_eq_true rfl) (by decide) (Nat.le_of_ble_eq_true rfl) rfl ((congrFun V.1 10).trans s_10) (by decide) (c_outs V hyr) ?_
          rintro _ _ ⟨rfl, rfl⟩
          exact LW_ireturn (st := []) rfl rfl rfl ⟨rfl, V.2.2.1⟩
        · exfalso
          simp only [Int32.lt_iff_toInt_lt, Int32.le_iff_toInt_le, ← Int32.toInt_inj, (show (0 : Int32).toInt = 0 from rfl), (show (1 : Int32).toInt = 1 from rfl), (show (40 : Int32).toInt = 40 from rfl), (show (9999 : Int32).toInt = 9999 from rfl), (nI_toInt (n := n) (by omega)), (nI_toInt (n := s) (by omega))] at h1 h2 h3 h4
          omega
set_option maxRecDepth 10000 in
set_option maxHeartbeats 40000000 in
theorem c_year_out {g : LH} (F : Fc g) (E : Fr g) (a b : Int32) (hr : ¬ (0 ≤ a.toInt ∧ a.toInt ≤ 9999 ∧ 1 ≤ b.toInt ∧ b.toInt ≤ 40)) : LW 141 30 0 0 0 (lEnt (mL 141) [.ref 0, .int a, .int b]) [] g (fun v g' => v = some (.int (-1)) ∧ Fr g') := by
  refine LW_ls (ls' := [some (.ref 0), some (.int a), some (.int b)]) rfl ?_
  refine X_iload_n rfl rfl rfl rfl ?_
  refine X_if_lt (tgt := 22) rfl rfl rfl (fun h1 => ?_) (fun h1 => ?_)
  · refine X_iconst (v := (-1 : Int32)) rfl rfl rfl ?_
    exact LW_ireturn (st := []) rfl rfl rfl ⟨rfl, E⟩
  · refine X_iload_n rfl rfl rfl rfl ?_
    refine X_sipush (v := (9999 : Int32)) rfl rfl rfl ?_
    refine X_icmp_gt (tgt := 22) rfl rfl rfl (fun h2 => ?_) (fun h2 => ?_)
    · refine X_iconst (v := (-1 : Int32)) rfl rfl rfl ?_
      exact LW_ireturn (st := []) rfl rfl rfl ⟨rfl, E⟩
    · refine X_iload_n rfl rfl rfl rfl ?_
      refine X_iconst (v := (1 : Int32)) rfl rfl rfl ?_
      refine X_icmp_lt (tgt := 22) rfl rfl rfl (fun h3 => ?_) (fun h3 => ?_)
      · refine X_iconst (v := (-1 : Int32)) rfl rfl rfl ?_
        exact LW_ireturn (st := []) rfl rfl rfl ⟨rfl, E⟩
      · refine X_iload_n rfl rfl rfl rfl ?_
        refine X_bipush (v := (40 : Int32)) rfl rfl rfl ?_
        refine X_icmp_le (tgt := 24) rfl rfl rfl (fun h4 => ?_) (fun h4 => ?_)
        · exfalso
          simp only [Int32.lt_iff_toInt_lt, Int32.le_iff_toInt_le, ← Int32.toInt_inj, (show (0 : Int32).toInt = 0 from rfl), (show (1 : Int32).toInt = 1 from rfl), (show (40 : Int32).toInt = 40 from rfl), (show (9999 : Int32).toInt = 9999 from rfl)] at h1 h2 h3 h4
          omega
        · refine X_iconst (v := (-1 : Int32)) rfl rfl rfl ?_
          exact LW_ireturn (st := []) rfl rfl rfl ⟨rfl, E⟩
