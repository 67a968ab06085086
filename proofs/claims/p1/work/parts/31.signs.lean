/-! signsFor, of both -/
theorem r_349_1 : eR e2 349 1 = some 350 := by decide +kernel
theorem r_355_29 : eR e2 355 29 = some 366 := by decide +kernel
theorem r_355_30 : eR e2 355 30 = some 367 := by decide +kernel
theorem r_355_36 : eR e2 355 36 = some 372 := by decide +kernel
theorem s_350 : eS e2 350 = .inr (.int, 26) := by decide +kernel
theorem s_366 : eS e2 366 = .inr (.int, 10) := by decide +kernel
theorem s_367 : eS e2 367 = .inr (.int, 26) := by decide +kernel
theorem s_372 : eS e2 372 = .inr (.int, 26) := by decide +kernel
def SV (g : LH) : Prop := Gs g = eS e2 ∧ (∀ q, q < 355 → Gr g q = eR e2 q) ∧ Fr g ∧ Gi g 2 0 = 0
def SL (g g' : LH) (n f : Nat) : Prop := SV g' ∧ (∀ k, k < f → Gi g' 350 k = Gi g 350 k) ∧ ∀ k, f ≤ k → k < 26 → n / 2 ^ k % 2 = 1 → Gi g' 350 k = 0
theorem SV_look {g : LH} {k : Nat} {z : Int32} (F : SV g) : SV (putI g 350 k z) := ⟨F.1, F.2.1, Fr_putI F.2.2.1 (by decide), by
  rw [putN (by decide)]
  exact F.2.2.2⟩
theorem put350 {g : LH} {k : Nat} {z : Int32} : Gi (putI g 350 k z) 350 = upd (Gi g 350) k z := putS
theorem max_u {u : Nat} (h : u ≤ 1) : (if nI u < (1 : Int32) then (1 : Int32) else nI u) = 1 := by
  rcases Nat.lt_or_ge u 1 with q | q
  · have : u = 0 := by omega
    subst this
    decide
  · have : u = 1 := by omega
    subst this
    decide
set_option maxRecDepth 10000 in
set_option maxHeartbeats 40000000 in
theorem c_nothing {g : LH} (F : SV g) {d : Nat} : LW 73 d 0 0 0 (lEnt (mL 73) [.ref 349]) [] g (fun v g' => v = some (.int 1) ∧ g' = g) := by
  refine LW_ls (ls' := [some (.ref 349), none, none]) rfl ?_
  refine X_iconst (v := (0 : Int32)) rfl rfl rfl ?_
  refine X_istore_n (i := 1) (ls' := [some (.ref 349), some (.int (0 : Int32)), none]) rfl rfl rfl (Nat.le_of_ble_eq_true rfl) rfl ?_
  refine X_iload_n rfl rfl rfl rfl ?_
  refine X_aload_n rfl rfl rfl rfl ?_
  refine X_getR (a := 1) rfl rfl rfl ((congrFun F.1 349).trans s_349) rfl ((congrFun (F.2.1 349 (by decide)) 0).trans r_349_0) ?_
  refine X_getR (a := 2) rfl rfl rfl ((congrFun F.1 1).trans s_1) rfl ((congrFun (F.2.1 1 (by decide)) 0).trans r_1_0) ?_
  refine X_getI (v := (0 : Int32)) rfl rfl rfl ((congrFun F.1 2).trans s_2) rfl F.2.2.2 ?_
  refine X_icmp_ge (tgt := 46) rfl rfl rfl (fun _ => ?_) (fun q => absurd q (by decide))
  refine X_iconst (v := (1 : Int32)) rfl rfl rfl ?_
  exact LW_ireturn (st := []) rfl rfl rfl ⟨rfl, rfl⟩
set_option maxRecDepth 10000 in
set_option maxHeartbeats 40000000 in
theorem c_ps_skip {g : LH} {d n u i : Nat} {f0 l6 : Option Value} {Q : Option Value → LH → Prop} (F : SV g) (hu : u ≤ 1) (hi : i < 26) (hb : (((nI (n)) >>> ((nI (i)) &&& 31)) &&& (1 : Int32)) = (0 : Int32)) (k : LW 72 d 0 0 3 [some (.ref 349), some (.int (nI (n))), f0, some (.int (nI (u))), some (.int (1 : Int32)), some (.int (nI (i + 1))), l6] [] g Q) : LW 72 d 0 0 3 [some (.ref 349), some (.int (nI (n))), f0, some (.int (nI (u))), some (.int (1 : Int32)), some (.int (nI (i))), l6] [] g (Q) := by
  refine X_iload rfl rfl rfl ?_
  refine X_bipush (v := (26 : Int32)) rfl rfl rfl ?_
  refine X_icmp_ge (tgt := 25) rfl rfl rfl (fun h1 => ?_) (fun h1 => ?_)
  · exfalso
    simp only [Int32.lt_iff_toInt_lt, Int32.le_iff_toInt_le, ← Int32.toInt_inj, (show (26 : Int32).toInt = 26 from rfl), (nI_toInt (n := i) (by omega))] at h1
    omega
  · refine X_iload_n rfl rfl rfl rfl ?_
    refine X_iload rfl rfl rfl ?_
    refine X_ishr (v := ((nI (n)) >>> ((nI (i)) &&& 31))) rfl rfl rfl ?_
    refine X_iconst (v := (1 : Int32)) rfl rfl rfl ?_
    refine X_iand (v := (0 : Int32)) rfl rfl hb ?_
    refine X_if_ne (tgt := 25) rfl rfl rfl (fun q => absurd q (by decide)) (fun _ => ?_)
    refine X_iinc (v := (nI (i + 1))) (ls' := [some (.ref 349), some (.int (nI (n))), f0, some (.int (nI (u))), some (.int (1 : Int32)), some (.int (nI (i + 1))), l6]) rfl rfl rfl (nI_add (i) 1) rfl ?_
    refine LW_goto (tgt := 3) rfl rfl ?_
    exact k
set_option maxRecDepth 10000 in
set_option maxHeartbeats 40000000 in
theorem c_ps_end {g : LH} {d n u : Nat} {f0 l6 : Option Value} {Q : Option Value → LH → Prop} (F : SV g) (hu : u ≤ 1) (k : Q (some (.int 1)) g) : LW 72 (d + 1) 0 0 3 [some (.ref 349), some (.int (nI (n))), f0, some (.int (nI (u))), some (.int (1 : Int32)), some (.int (nI (26))), l6] [] g (Q) := by
  refine X_iload rfl rfl rfl ?_
  refine X_bipush (v := (26 : Int32)) rfl rfl rfl ?_
  refine X_icmp_ge (tgt := 25) rfl rfl rfl (fun h1 => ?_) (fun h1 => ?_)
  · refine X_iload rfl rfl rfl ?_
    refine X_bipush (v := (26 : Int32)) rfl rfl rfl ?_
    refine X_icmp_lt (tgt := 37) rfl rfl rfl (fun h2 => ?_) (fun h2 => ?_)
    · exfalso
      simp only [Int32.lt_iff_toInt_lt, Int32.le_iff_toInt_le, ← Int32.toInt_inj, (show (26 : Int32).toInt = 26 from rfl), (nI_toInt (n := 26) (by omega))] at h1 h2
      omega
    · refine X_aload_n rfl rfl rfl rfl ?_
      refine Y_callV (as := []) (st := []) rfl rfl rfl (by decide) rfl (Nat.le_of_ble_eq_true rfl) (by decide) (Nat.le_of_ble_eq_true rfl) rfl ((congrFun F.1 349).trans s_349) (by decide) (c_nothing F) ?_
      rintro _ _ ⟨rfl, rfl⟩
      exact LW_ireturn (st := []) rfl rfl rfl k
  · exfalso
    simp only [Int32.lt_iff_toInt_lt, Int32.le_iff_toInt_le, ← Int32.toInt_inj, (show (26 : Int32).toInt = 26 from rfl), (nI_toInt (n := 26) (by omega))] at h1
    omega
set_option maxRecDepth 10000 in
set_option maxHeartbeats 40000000 in
theorem c_ps_hit {g : LH} {d n u i : Nat} {f0 l6 : Option Value} {Q : Option Value → LH → Prop} (F : SV g) (hu : u ≤ 1) {R : LH → Prop} (hi : i < 26) (hb : (((nI (n)) >>> ((nI (i)) &&& 31)) &&& (1 : Int32)) = (1 : Int32)) (spec : LW 72 d 0 0 0 (lEnt (mL 72) [.ref 349, .int (nI n), .int (nI (i + 1)), .int 1, .int 1]) [] (putI g 350 i 0) (fun v g' => v = some (.int 1) ∧ R g')) (k : ∀ g', R g' → Q (some (.int 1)) g') : LW 72 (d + 1) 0 0 3 [some (.ref 349), some (.int (nI (n))), f0, some (.int (nI (u))), some (.int (1 : Int32)), some (.int (nI (i))), l6] [] g (Q) := by
  refine X_iload rfl rfl rfl ?_
  refine X_bipush (v := (26 : Int32)) rfl rfl rfl ?_
  refine X_icmp_ge (tgt := 25) rfl rfl rfl (fun h1 => ?_) (fun h1 => ?_)
  · exfalso
    simp only [Int32.lt_iff_toInt_lt, Int32.le_iff_toInt_le, ← Int32.toInt_inj, (show (26 : Int32).toInt = 26 from rfl), (nI_toInt (n := i) (by omega))] at h1
    omega
  · refine X_iload_n rfl rfl rfl rfl ?_
    refine X_iload rfl rfl rfl ?_
    refine X_ishr (v := ((nI (n)) >>> ((nI (i)) &&& 31))) rfl rfl rfl ?_
    refine X_iconst (v := (1 : Int32)) rfl rfl rfl ?_
    refine X_iand (v := (1 : Int32)) rfl rfl hb ?_
    refine X_if_ne (tgt := 25) rfl rfl rfl (fun _ => ?_) (fun q => absurd q (by decide))
    refine X_iload rfl rfl rfl ?_
    refine X_bipush (v := (26 : Int32)) rfl rfl rfl ?_
    refine X_icmp_lt (tgt := 37) rfl rfl rfl (fun h2 => ?_) (fun h2 => ?_)
    · refine X_iconst (v := (0 : Int32)) rfl rfl rfl ?_
      refine X_istore (i := 6) (ls' := [some (.ref 349), some (.int (nI (n))), f0, some (.int (nI (u))), some (.int (1 : Int32)), some (.int (nI (i))), some (.int (0 : Int32))]) rfl rfl (Nat.le_of_ble_eq_true rfl) rfl ?_
      refine X_iload rfl rfl rfl ?_
      refine X_iload_n rfl rfl rfl rfl ?_
      refine X_icmp_gt (tgt := 92) rfl rfl rfl (fun h3 => ?_) (fun h3 => ?_)
      · exfalso
        simp only [Int32.lt_iff_toInt_lt, Int32.le_iff_toInt_le, ← Int32.toInt_inj, (show (0 : Int32).toInt = 0 from rfl), (show (26 : Int32).toInt = 26 from rfl), (nI_toInt (n := i) (by omega)), (nI_toInt (n := u) (by omega))] at h1 h2 h3
        omega
      · refine X_iload rfl rfl rfl ?_
        refine X_iload rfl rfl rfl ?_
        refine X_icmp_ge (tgt := 92) rfl rfl rfl (fun q => absurd q (by decide)) (fun _ => ?_)
        refine X_aload_n rfl rfl rfl rfl ?_
        refine X_getR (a := 350) rfl rfl rfl ((congrFun F.1 349).trans s_349) rfl ((congrFun (F.2.1 349 (by decide)) 1).trans r_349_1) ?_
        refine X_iload rfl rfl rfl ?_
        refine X_iload rfl rfl rfl ?_
        refine X_iast (k0 := i) rfl rfl ((congrFun F.1 350).trans s_350) (vp_in_nI (by omega) (by decide)) (nI_clamp (n := i) (by omega)) ?_
        refine X_aload_n rfl rfl rfl rfl ?_
        refine X_iload_n rfl rfl rfl rfl ?_
        refine X_iload rfl rfl rfl ?_
        refine X_iconst (v := (1 : Int32)) rfl rfl rfl ?_
        refine X_iadd (v := (nI (i + 1))) rfl rfl (nI_add (i) (1)) ?_
        refine X_iload_n rfl rfl rfl rfl ?_
        refine X_iload rfl rfl rfl ?_
        refine X_iconst (v := (1 : Int32)) rfl rfl rfl ?_
        refine X_iadd (v := (1 : Int32)) rfl rfl rfl ?_
        refine X_max (v := (1 : Int32)) rfl rfl rfl (Nat.le_of_ble_eq_true rfl) (max_u hu) ?_
        refine X_iload rfl rfl rfl ?_
        refine Y_callV (as := [.int (nI (n)), .int (nI (i + 1)), .int (1 : Int32), .int (1 : Int32)]) (st := []) rfl rfl rfl (by decide) rfl (Nat.le_of_ble_eq_true rfl) (by decide) (Nat.le_of_ble_eq_true rfl) rfl ((congrFun F.1 349).trans s_349) (by decide) spec ?_
        rintro _ g' ⟨rfl, hR⟩
        refine X_if_eq (tgt := 86) rfl rfl rfl (fun q => absurd q (by decide)) (fun _ => ?_)
        refine X_iconst (v := (1 : Int32)) rfl rfl rfl ?_
        exact LW_ireturn (st := []) rfl rfl rfl (k g' hR)
    · exfalso
      simp only [Int32.lt_iff_toInt_lt, Int32.le_iff_toInt_le, ← Int32.toInt_inj, (show (26 : Int32).toInt = 26 from rfl), (nI_toInt (n := i) (by omega))] at h1 h2
      omega
theorem SL_of {g g' : LH} {n f : Nat} (h : SL g g' n (f + 1)) (hb : ¬ n / 2 ^ f % 2 = 1) : SL g g' n f :=
  ⟨h.1, fun k hk => h.2.1 k (by omega), fun k h1 h2 h3 => h.2.2 k (by
    rcases Nat.lt_or_ge f k with q | q
    · omega
    · have : k = f := by omega
      subst this
      exact absurd h3 hb) h2 h3⟩
theorem SL_hit {g g' : LH} {n f : Nat} (h : SL (putI g 350 f 0) g' n (f + 1)) : SL g g' n f :=
  ⟨h.1, fun k hk => by rw [h.2.1 k (by omega), put350, pk_un (by omega)], fun k h1 h2 h3 => by
    rcases Nat.lt_or_ge f k with q | q
    · exact h.2.2 k (by omega) h2 h3
    · have : k = f := by omega
      subst this
      rw [h.2.1 k (by omega), put350]
      exact pk_us⟩
theorem c_ps_loop {n : Nat} (hn : n < 2 ^ 31) : ∀ (m i : Nat), i + m = 26 → ∀ (c d u : Nat) (g : LH) (f0 l6 : Option Value), pcn m (n / 2 ^ i) ≤ c → u ≤ 1 → SV g → LW 72 (d + c + 1) 0 0 3 [some (.ref 349), some (.int (nI (n))), f0, some (.int (nI (u))), some (.int (1 : Int32)), some (.int (nI (i))), l6] [] g (fun v g' => v = some (.int 1) ∧ SL g g' n i) := by
  intro m
  induction m with
  | zero =>
    intro i hi c d u g f0 l6 hc hu F
    have hi : i = 26 := by omega
    subst hi
    exact c_ps_end F hu ⟨rfl, F, fun _ _ => rfl, fun k h1 h2 _ => by omega⟩
  | succ m ih =>
    intro i hi c d u g f0 l6 hc hu F
    have hc : n / 2 ^ i % 2 + pcn m (n / 2 ^ i / 2) ≤ c := hc
    have hpw : n / 2 ^ i / 2 = n / 2 ^ (i + 1) := by rw [Nat.pow_succ, Nat.div_div_eq_div_mul]
    rw [hpw] at hc
    have hbn := bit_nI (n := n) (k := i) hn (by omega)
    by_cases hb : n / 2 ^ i % 2 = 1
    · rw [hb] at hbn hc
      obtain ⟨c', rfl⟩ : ∃ c', c = c' + 1 := ⟨c - 1, by omega⟩
      refine c_ps_hit (d := d + c' + 1) (R := fun g' => SL (putI g 350 i 0) g' n (i + 1)) F hu (by omega) hbn ?_ (fun g' hR => ⟨rfl, SL_hit hR⟩)
      refine LW_ls (ls' := [some (.ref 349), some (.int (nI n)), some (.int (nI (i + 1))), some (.int (nI 1)), some (.int 1), none, none]) rfl ?_
      refine X_iload_n rfl rfl rfl rfl ?_
      refine X_istore (i := 5) (ls' := [some (.ref 349), some (.int (nI n)), some (.int (nI (i + 1))), some (.int (nI 1)), some (.int 1), some (.int (nI (i + 1))), none]) rfl rfl (Nat.le_of_ble_eq_true rfl) rfl ?_
      exact ih (i + 1) (by omega) c' d 1 _ _ _ (by omega) (Nat.le_refl _) (SV_look F)
    · have h0 : n / 2 ^ i % 2 = 0 := by omega
      rw [h0] at hbn hc
      refine c_ps_skip F hu (by omega) hbn ?_
      have h := ih (i + 1) (by omega) c d u g f0 l6 (by omega) hu F
      exact LW_mono h (fun v g' q => ⟨q.1, SL_of q.2 hb⟩)
theorem c_put0 {g : LH} {n d : Nat} (F : SV g) (hn : n < 2 ^ 26) (h6 : pcn 32 n ≤ 6) : LW 72 (d + 6 + 1) 0 0 0 (lEnt (mL 72) [.ref 349, .int (nI n), .int 0, .int 0, .int 1]) [] g (fun v g' => v = some (.int 1) ∧ SL g g' n 0) := by
  refine LW_ls (ls' := [some (.ref 349), some (.int (nI n)), some (.int (nI 0)), some (.int (nI 0)), some (.int 1), none, none]) rfl ?_
  refine X_iload_n rfl rfl rfl rfl ?_
  refine X_istore (i := 5) (ls' := [some (.ref 349), some (.int (nI n)), some (.int (nI 0)), some (.int (nI 0)), some (.int 1), some (.int (nI 0)), none]) rfl rfl (Nat.le_of_ble_eq_true rfl) rfl ?_
  refine c_ps_loop (by omega) 26 0 rfl 6 d 0 g _ _ ?_ (by decide) F
  rw [Nat.pow_zero, Nat.div_one, ← pcn26 hn]
  exact h6
set_option maxRecDepth 10000 in
set_option maxHeartbeats 40000000 in
theorem c_fw1 {g : LH} {d l n : Nat} {Q : Option Value → LH → Prop} (F : SV g) (hl : l < 26) (k : LW 71 d 0 0 2 [some (.ref 349), some (.int (nI (n))), some (.int (nI (l + 1)))] [] (putI g 350 l (nI (l + 10))) Q) : LW 71 d 0 0 2 [some (.ref 349), some (.int (nI (n))), some (.int (nI (l)))] [] g (Q) := by
  refine X_iload_n rfl rfl rfl rfl ?_
  refine X_bipush (v := (26 : Int32)) rfl rfl rfl ?_
  refine X_icmp_ge (tgt := 24) rfl rfl rfl (fun h1 => ?_) (fun h1 => ?_)
  · exfalso
    simp only [Int32.lt_iff_toInt_lt, Int32.le_iff_toInt_le, ← Int32.toInt_inj, (show (26 : Int32).toInt = 26 from rfl), (nI_toInt (n := l) (by omega))] at h1
    omega
  · refine X_aload_n rfl rfl rfl rfl ?_
    refine X_getR (a := 350) rfl rfl rfl ((congrFun F.1 349).trans s_349) rfl ((congrFun (F.2.1 349 (by decide)) 1).trans r_349_1) ?_
    refine X_iload_n rfl rfl rfl rfl ?_
    refine X_iload_n rfl rfl rfl rfl ?_
    refine X_bipush (v := (10 : Int32)) rfl rfl rfl ?_
    refine X_iadd (v := (nI (l + 10))) rfl rfl (nI_add (l) (10)) ?_
    refine X_iast (k0 := l) rfl rfl ((congrFun F.1 350).trans s_350) (vp_in_nI (by omega) (by decide)) (nI_clamp (n := l) (by omega)) ?_
    refine X_iinc (v := (nI (l + 1))) (ls' := [some (.ref 349), some (.int (nI (n))), some (.int (nI (l + 1)))]) rfl rfl rfl (nI_add (l) 1) rfl ?_
    refine LW_goto (tgt := 2) rfl rfl ?_
    exact k
set_option maxRecDepth 10000 in
set_option maxHeartbeats 40000000 in
theorem c_fw2 {g : LH} {d n : Nat} {Q : Option Value → LH → Prop} (F : SV g) (hn : n < 2 ^ 26) (h6 : pcn 32 n ≤ 6) (k : ∀ g', SL g g' n 0 → Q (some (.int 1)) g') : LW 71 (d + 6 + 2) 0 0 2 [some (.ref 349), some (.int (nI (n))), some (.int (nI (26)))] [] g (Q) := by
  refine X_iload_n rfl rfl rfl rfl ?_
  refine X_bipush (v := (26 : Int32)) rfl rfl rfl ?_
  refine X_icmp_ge (tgt := 24) rfl rfl rfl (fun h1 => ?_) (fun h1 => ?_)
  · refine X_iconst (v := (1 : Int32)) rfl rfl rfl ?_
    refine X_istore_n (i := 2) (ls' := [some (.ref 349), some (.int (nI (n))), some (.int (1 : Int32))]) rfl rfl rfl (Nat.le_of_ble_eq_true rfl) rfl ?_
    refine X_iload_n rfl rfl rfl rfl ?_
    refine X_bipush (v := (6 : Int32)) rfl rfl rfl ?_
    refine X_icmp_gt (tgt := 51) rfl rfl rfl (fun q => absurd q (by decide)) (fun _ => ?_)
    refine X_aload_n rfl rfl rfl rfl ?_
    refine X_iload_n rfl rfl rfl rfl ?_
    refine X_iconst (v := (0 : Int32)) rfl rfl rfl ?_
    refine X_iconst (v := (0 : Int32)) rfl rfl rfl ?_
    refine X_iload_n rfl rfl rfl rfl ?_
    refine Y_callV (as := [.int (nI (n)), .int (0 : Int32), .int (0 : Int32), .int (1 : Int32)]) (st := []) rfl rfl rfl (by decide) rfl (Nat.le_of_ble_eq_true rfl) (by decide) (Nat.le_of_ble_eq_true rfl) rfl ((congrFun F.1 349).trans s_349) (by decide) (c_put0 (n := n) F hn h6) ?_
    rintro _ g' ⟨rfl, hL⟩
    refine X_if_eq (tgt := 45) rfl rfl rfl (fun q => absurd q (by decide)) (fun _ => ?_)
    refine X_iload_n rfl rfl rfl rfl ?_
    exact LW_ireturn (st := []) rfl rfl rfl (k _ hL)
  · exfalso
    simp only [Int32.lt_iff_toInt_lt, Int32.le_iff_toInt_le, ← Int32.toInt_inj, (show (26 : Int32).toInt = 26 from rfl), (nI_toInt (n := 26) (by omega))] at h1
    omega
theorem c_fwl {d n : Nat} {Q : Option Value → LH → Prop} (hn : n < 2 ^ 26) (h6 : pcn 32 n ≤ 6) (k : ∀ g0 g', SL g0 g' n 0 → Q (some (.int 1)) g') : ∀ (m l : Nat), l + m = 26 → ∀ g : LH, SV g → LW 71 (d + 6 + 2) 0 0 2 [some (.ref 349), some (.int (nI (n))), some (.int (nI (l)))] [] g Q := by
  intro m
  induction m with
  | zero =>
    intro l hl g F
    have hl : l = 26 := by omega
    subst hl
    exact c_fw2 F hn h6 (k g)
  | succ m ih =>
    intro l hl g F
    exact c_fw1 F (by omega) (ih (l + 1) (by omega) _ (SV_look F))
theorem c_few {g : LH} {d n : Nat} (F : SV g) (hn : n < 2 ^ 26) (h6 : pcn 32 n ≤ 6) : LW 71 (d + 6 + 2) 0 0 0 (lEnt (mL 71) [.ref 349, .int (nI n)]) [] g (fun v g' => v = some (.int 1) ∧ SV g' ∧ ∀ k, k < 26 → n / 2 ^ k % 2 = 1 → Gi g' 350 k = 0) := by
  refine LW_ls (ls' := [some (.ref 349), some (.int (nI n)), none]) rfl ?_
  refine X_iconst (v := 0) rfl rfl rfl ?_
  refine X_istore_n (i := 2) (ls' := [some (.ref 349), some (.int (nI n)), some (.int (nI 0))]) rfl rfl rfl (Nat.le_of_ble_eq_true rfl) rfl ?_
  exact c_fwl hn h6 (fun g0 g' hL => ⟨rfl, hL.1, fun k h1 h2 => hL.2.2 k (Nat.zero_le _) h1 h2⟩) 26 0 rfl g F
theorem SV_new {g : LH} (F : Fc g) (E : Fr g) : SV g := ⟨F.1, F.2.1, E, by
  rw [(F.2.2 2 (by decide)).1]
  decide +kernel⟩
set_option maxRecDepth 10000 in
set_option maxHeartbeats 40000000 in
theorem c_sg_out {g : LH} (F : Fc g) (E : Fr g) (a b : Int32) (hr : ¬ (1 ≤ a.toInt ∧ a.toInt ≤ 67108863)) : LW 156 30 0 0 0 (lEnt (mL 156) [.ref 0, .int a, .int b]) [] g (fun v g' => v = some (.int (-1)) ∧ Fr g') := by
  refine LW_ls (ls' := [some (.ref 0), some (.int a), some (.int b), none]) rfl ?_
  refine X_iload_n rfl rfl rfl rfl ?_
  refine X_callS (as := [.int a]) (st := []) rfl rfl rfl (by decide) rfl (Nat.le_of_ble_eq_true rfl) (by decide) (Nat.le_of_ble_eq_true rfl) rfl ?_
  refine LW_ls (ls' := [some (.int a)]) rfl ?_
  refine X_iload_n rfl rfl rfl rfl ?_
  refine X_if_le (tgt := 15) rfl rfl rfl (fun h1 => ?_) (fun h1 => ?_)
  · refine X_iconst (v := (0 : Int32)) rfl rfl rfl ?_
    refine LW_ireturn (st := []) rfl rfl rfl ?_
    refine X_if_eq (tgt := 16) rfl rfl rfl (fun _ => ?_) (fun q => absurd q (by decide))
    refine X_iconst (v := (-1 : Int32)) rfl rfl rfl ?_
    exact LW_ireturn (st := []) rfl rfl rfl ⟨rfl, E⟩
  · refine X_iload_n rfl rfl rfl rfl ?_
    refine X_ldcw (v := (67108864 : Int32)) rfl rfl rfl ?_
    refine X_icmp_ge (tgt := 15) rfl rfl rfl (fun h2 => ?_) (fun h2 => ?_)
    · refine X_iconst (v := (0 : Int32)) rfl rfl rfl ?_
      refine LW_ireturn (st := []) rfl rfl rfl ?_
      refine X_if_eq (tgt := 16) rfl rfl rfl (fun _ => ?_) (fun q => absurd q (by decide))
      refine X_iconst (v := (-1 : Int32)) rfl rfl rfl ?_
      exact LW_ireturn (st := []) rfl rfl rfl ⟨rfl, E⟩
    · refine X_iconst (v := (1 : Int32)) rfl rfl rfl ?_
      refine LW_goto (tgt := 16) rfl rfl ?_
      refine LW_ireturn (st := []) rfl rfl rfl ?_
      refine X_if_eq (tgt := 16) rfl rfl rfl (fun q => absurd q (by decide)) (fun _ => ?_)
      exfalso
      simp only [Int32.lt_iff_toInt_lt, Int32.le_iff_toInt_le, ← Int32.toInt_inj, (show (0 : Int32).toInt = 0 from rfl), (show (67108864 : Int32).toInt = 67108864 from rfl)] at h1 h2
      omega
set_option maxRecDepth 10000 in
set_option maxHeartbeats 40000000 in
theorem c_sg_big {g : LH} (F : Fc g) (E : Fr g) {n p : Nat} (h0 : 1 ≤ n) (hn : n < 2 ^ 26) (hp : pcn 32 n = p) (h32 : p ≤ 32) (hs6 : 6 < p) (b : Int32) : LW 156 30 0 0 0 (lEnt (mL 156) [.ref 0, .int (nI (n)), .int b]) [] g (fun v g' => v = some (.int (-1)) ∧ Fr g') := by
  refine LW_ls (ls' := [some (.ref 0), some (.int (nI (n))), some (.int b), none]) rfl ?_
  refine X_iload_n rfl rfl rfl rfl ?_
  refine X_callS (as := [.int (nI (n))]) (st := []) rfl rfl rfl (by decide) rfl (Nat.le_of_ble_eq_true rfl) (by decide) (Nat.le_of_ble_eq_true rfl) rfl ?_
  refine LW_ls (ls' := [some (.int (nI (n)))]) rfl ?_
  refine X_iload_n rfl rfl rfl rfl ?_
  refine X_if_le (tgt := 15) rfl rfl rfl (fun h1 => ?_) (fun h1 => ?_)
  · exfalso
    simp only [Int32.lt_iff_toInt_lt, Int32.le_iff_toInt_le, ← Int32.toInt_inj, (show (0 : Int32).toInt = 0 from rfl), (nI_toInt (n := n) (by omega))] at h1
    omega
  · refine X_iload_n rfl rfl rfl rfl ?_
    refine X_ldcw (v := (67108864 : Int32)) rfl rfl rfl ?_
    refine X_icmp_ge (tgt := 15) rfl rfl rfl (fun h2 => ?_) (fun h2 => ?_)
    · exfalso
      simp only [Int32.lt_iff_toInt_lt, Int32.le_iff_toInt_le, ← Int32.toInt_inj, (show (0 : Int32).toInt = 0 from rfl), (show (67108864 : Int32).toInt = 67108864 from rfl), (nI_toInt (n := n) (by omega))] at h1 h2
      omega
    · refine X_iconst (v := (1 : Int32)) rfl rfl rfl ?_
      refine LW_goto (tgt := 16) rfl rfl ?_
      refine LW_ireturn (st := []) rfl rfl rfl ?_
      refine X_if_eq (tgt := 16) rfl rfl rfl (fun q => absurd q (by decide)) (fun _ => ?_)
      refine X_iload_n rfl rfl rfl rfl ?_
      refine Y_callS (as := [.int (nI (n))]) (st := []) rfl rfl rfl (by decide) rfl (Nat.le_of_ble_eq_true rfl) (by decide) (Nat.le_of_ble_eq_true rfl) rfl (c_bitCount (n := n) (by omega)) ?_
      rintro _ _ ⟨rfl, rfl⟩
      refine LW_eqv (v := nI p) (congrArg nI hp) ?_
      refine X_bipush (v := (6 : Int32)) rfl rfl rfl ?_
      refine X_icmp_le (tgt := 18) rfl rfl rfl (fun h3 => ?_) (fun h3 => ?_)
      · exfalso
        simp only [Int32.lt_iff_toInt_lt, Int32.le_iff_toInt_le, ← Int32.toInt_inj, (show (0 : Int32).toInt = 0 from rfl), (show (6 : Int32).toInt = 6 from rfl), (show (67108864 : Int32).toInt = 67108864 from rfl), (nI_toInt (n := n) (by omega)), (nI_toInt (n := p) (by omega))] at h1 h2 h3
        omega
      · refine X_iconst (v := (-1 : Int32)) rfl rfl rfl ?_
        exact LW_ireturn (st := []) rfl rfl rfl ⟨rfl, E⟩
set_option maxRecDepth 10000 in
set_option maxHeartbeats 40000000 in
theorem c_sg_m1 {g : LH} (F : Fc g) (E : Fr g) {n p : Nat} (h0 : 1 ≤ n) (hn : n < 2 ^ 26) (hp : pcn 32 n = p) (h32 : p ≤ 32) (hs6 : p ≤ 6) : LW 156 30 0 0 0 (lEnt (mL 156) [.ref 0, .int (nI (n)), .int (-1 : Int32)]) [] g (fun v g' => v = some (.int (1)) ∧ Fr g') := by
  refine LW_ls (ls' := [some (.ref 0), some (.int (nI (n))), some (.int (-1 : Int32)), none]) rfl ?_
  refine X_iload_n rfl rfl rfl rfl ?_
  refine X_callS (as := [.int (nI (n))]) (st := []) rfl rfl rfl (by decide) rfl (Nat.le_of_ble_eq_true rfl) (by decide) (Nat.le_of_ble_eq_true rfl) rfl ?_
  refine LW_ls (ls' := [some (.int (nI (n)))]) rfl ?_
  refine X_iload_n rfl rfl rfl rfl ?_
  refine X_if_le (tgt := 15) rfl rfl rfl (fun h1 => ?_) (fun h1 => ?_)
  · exfalso
    simp only [Int32.lt_iff_toInt_lt, Int32.le_iff_toInt_le, ← Int32.toInt_inj, (show (0 : Int32).toInt = 0 from rfl), (nI_toInt (n := n) (by omega))] at h1
    omega
  · refine X_iload_n rfl rfl rfl rfl ?_
    refine X_ldcw (v := (67108864 : Int32)) rfl rfl rfl ?_
    refine X_icmp_ge (tgt := 15) rfl rfl rfl (fun h2 => ?_) (fun h2 => ?_)
    · exfalso
      simp only [Int32.lt_iff_toInt_lt, Int32.le_iff_toInt_le, ← Int32.toInt_inj, (show (0 : Int32).toInt = 0 from rfl), (show (67108864 : Int32).toInt = 67108864 from rfl), (nI_toInt (n := n) (by omega))] at h1 h2
      omega
    · refine X_iconst (v := (1 : Int32)) rfl rfl rfl ?_
      refine LW_goto (tgt := 16) rfl rfl ?_
      refine LW_ireturn (st := []) rfl rfl rfl ?_
      refine X_if_eq (tgt := 16) rfl rfl rfl (fun q => absurd q (by decide)) (fun _ => ?_)
      refine X_iload_n rfl rfl rfl rfl ?_
      refine Y_callS (as := [.int (nI (n))]) (st := []) rfl rfl rfl (by decide) rfl (Nat.le_of_ble_eq_true rfl) (by decide) (Nat.le_of_ble_eq_true rfl) rfl (c_bitCount (n := n) (by omega)) ?_
      rintro _ _ ⟨rfl, rfl⟩
      refine LW_eqv (v := nI p) (congrArg nI hp) ?_
      refine X_bipush (v := (6 : Int32)) rfl rfl rfl ?_
      refine X_icmp_le (tgt := 18) rfl rfl rfl (fun h3 => ?_) (fun h3 => ?_)
      · refine X_iload_n rfl rfl rfl rfl ?_
        refine X_iconst (v := (-1 : Int32)) rfl rfl rfl ?_
        refine X_icmp_eq (tgt := 40) rfl rfl rfl (fun _ => ?_) (fun q => absurd q (by decide))
        refine X_aload_n rfl rfl rfl rfl ?_
        refine X_getR (a := 349) rfl rfl rfl ((congrFun F.1 0).trans s_0) rfl ((congrFun (F.2.1 0 (by decide)) 8).trans r_0_8) ?_
        refine X_iload_n rfl rfl rfl rfl ?_
        refine Y_callV (as := [.int (nI (n))]) (st := []) rfl rfl rfl (by decide) rfl (Nat.le_of_ble_eq_true rfl) (by decide) (Nat.le_of_ble_eq_true rfl) rfl ((congrFun F.1 349).trans s_349) (by decide) (c_few (SV_new F E) hn (by rw [hp]; exact hs6)) ?_
        rintro _ g' ⟨rfl, V, hV⟩
        refine X_istore_n (i := 3) (ls' := [some (.ref 0), some (.int (nI (n))), some (.int (-1 : Int32)), some (.int (1 : Int32))]) rfl rfl rfl (Nat.le_of_ble_eq_true rfl) rfl ?_
        refine X_iload_n rfl rfl rfl rfl ?_
        refine X_iconst (v := (-1 : Int32)) rfl rfl rfl ?_
        refine X_icmp_eq (tgt := 59) rfl rfl rfl (fun _ => ?_) (fun q => absurd q (by decide))
        refine X_iload_n rfl rfl rfl rfl ?_
        refine LW_goto (tgt := 72) rfl rfl ?_
        exact LW_ireturn (st := []) rfl rfl rfl ⟨rfl, V.2.2.1⟩
      · exfalso
        simp only [Int32.lt_iff_toInt_lt, Int32.le_iff_toInt_le, ← Int32.toInt_inj, (show (0 : Int32).toInt = 0 from rfl), (show (6 : Int32).toInt = 6 from rfl), (show (67108864 : Int32).toInt = 67108864 from rfl), (nI_toInt (n := n) (by omega)), (nI_toInt (n := p) (by omega))] at h1 h2 h3
        omega
set_option maxRecDepth 10000 in
set_option maxHeartbeats 40000000 in
theorem c_sg_in {g : LH} (F : Fc g) (E : Fr g) {n l p : Nat} (h0 : 1 ≤ n) (hn : n < 2 ^ 26) (hp : pcn 32 n = p) (h32 : p ≤ 32) (hs6 : p ≤ 6) (hl : l < 26) (hb1 : n / 2 ^ l % 2 = 1) (hb : (((nI (n)) >>> ((nI (l)) &&& 31)) &&& (1 : Int32)) = (1 : Int32)) : LW 156 30 0 0 0 (lEnt (mL 156) [.ref 0, .int (nI (n)), .int (nI (l))]) [] g (fun v g' => v = some (.int (0)) ∧ Fr g') := by
  refine LW_ls (ls' := [some (.ref 0), some (.int (nI (n))), some (.int (nI (l))), none]) rfl ?_
  refine X_iload_n rfl rfl rfl rfl ?_
  refine X_callS (as := [.int (nI (n))]) (st := []) rfl rfl rfl (by decide) rfl (Nat.le_of_ble_eq_true rfl) (by decide) (Nat.le_of_ble_eq_true rfl) rfl ?_
  refine LW_ls (ls' := [some (.int (nI (n)))]) rfl ?_
  refine X_iload_n rfl rfl rfl rfl ?_
  refine X_if_le (tgt := 15) rfl rfl rfl (fun h1 => ?_) (fun h1 => ?_)
  · exfalso
    simp only [Int32.lt_iff_toInt_lt, Int32.le_iff_toInt_le, ← Int32.toInt_inj, (show (0 : Int32).toInt = 0 from rfl), (nI_toInt (n := n) (by omega))] at h1
    omega
  · refine X_iload_n rfl rfl rfl rfl ?_
    refine X_ldcw (v := (67108864 : Int32)) rfl rfl rfl ?_
    refine X_icmp_ge (tgt := 15) rfl rfl rfl (fun h2 => ?_) (fun h2 => ?_)
    · exfalso
      simp only [Int32.lt_iff_toInt_lt, Int32.le_iff_toInt_le, ← Int32.toInt_inj, (show (0 : Int32).toInt = 0 from rfl), (show (67108864 : Int32).toInt = 67108864 from rfl), (nI_toInt (n := n) (by omega))] at h1 h2
      omega
    · refine X_iconst (v := (1 : Int32)) rfl rfl rfl ?_
      refine LW_goto (tgt := 16) rfl rfl ?_
      refine LW_ireturn (st := []) rfl rfl rfl ?_
      refine X_if_eq (tgt := 16) rfl rfl rfl (fun q => absurd q (by decide)) (fun _ => ?_)
      refine X_iload_n rfl rfl rfl rfl ?_
      refine Y_callS (as := [.int (nI (n))]) (st := []) rfl rfl rfl (by decide) rfl (Nat.le_of_ble_eq_true rfl) (by decide) (Nat.le_of_ble_eq_true rfl) rfl (c_bitCount (n := n) (by omega)) ?_
      rintro _ _ ⟨rfl, rfl⟩
      refine LW_eqv (v := nI p) (congrArg nI hp) ?_
      refine X_bipush (v := (6 : Int32)) rfl rfl rfl ?_
      refine X_icmp_le (tgt := 18) rfl rfl rfl (fun h3 => ?_) (fun h3 => ?_)
      · refine X_iload_n rfl rfl rfl rfl ?_
        refine X_iconst (v := (-1 : Int32)) rfl rfl rfl ?_
        refine X_icmp_eq (tgt := 40) rfl rfl rfl (fun h4 => ?_) (fun h4 => ?_)
        · exfalso
          simp only [Int32.lt_iff_toInt_lt, Int32.le_iff_toInt_le, ← Int32.toInt_inj, (show (-1 : Int32).toInt = -1 from rfl), (show (0 : Int32).toInt = 0 from rfl), (show (6 : Int32).toInt = 6 from rfl), (show (67108864 : Int32).toInt = 67108864 from rfl), (nI_toInt (n := l) (by omega)), (nI_toInt (n := n) (by omega)), (nI_toInt (n := p) (by omega))] at h1 h2 h3 h4
          omega
        · refine X_iload_n rfl rfl rfl rfl ?_
          refine X_callS (as := [.int (nI (l))]) (st := []) rfl rfl rfl (by decide) rfl (Nat.le_of_ble_eq_true rfl) (by decide) (Nat.le_of_ble_eq_true rfl) rfl ?_
          refine LW_ls (ls' := [some (.int (nI (l)))]) rfl ?_
          refine X_iload_n rfl rfl rfl rfl ?_
          refine X_if_lt (tgt := 14) rfl rfl rfl (fun h5 => ?_) (fun h5 => ?_)
          · exfalso
            simp only [Int32.lt_iff_toInt_lt, Int32.le_iff_toInt_le, ← Int32.toInt_inj, (show (-1 : Int32).toInt = -1 from rfl), (show (0 : Int32).toInt = 0 from rfl), (show (6 : Int32).toInt = 6 from rfl), (show (67108864 : Int32).toInt = 67108864 from rfl), (nI_toInt (n := l) (by omega)), (nI_toInt (n := n) (by omega)), (nI_toInt (n := p) (by omega))] at h1 h2 h3 h4 h5
            omega
          · refine X_iload_n rfl rfl rfl rfl ?_
            refine X_bipush (v := (26 : Int32)) rfl rfl rfl ?_
            refine X_icmp_ge (tgt := 14) rfl rfl rfl (fun h6 => ?_) (fun h6 => ?_)
            · exfalso
              simp only [Int32.lt_iff_toInt_lt, Int32.le_iff_toInt_le, ← Int32.toInt_inj, (show (-1 : Int32).toInt = -1 from rfl), (show (0 : Int32).toInt = 0 from rfl), (show (6 : Int32).toInt = 6 from rfl), (show (26 : Int32).toInt = 26 from rfl), (show (67108864 : Int32).toInt = 67108864 from rfl), (nI_toInt (n := l) (by omega)), (nI_toInt (n := n) (by omega)), (nI_toInt (n := p) (by omega))] at h1 h2 h3 h4 h5 h6
              omega
            · refine X_iconst (v := (1 : Int32)) rfl rfl rfl ?_
              refine LW_goto (tgt := 15) rfl rfl ?_
              refine LW_ireturn (st := []) rfl rfl rfl ?_
              refine X_if_eq (tgt := 38) rfl rfl rfl (fun q => absurd q (by decide)) (fun _ => ?_)
              refine X_iload_n rfl rfl rfl rfl ?_
              refine X_iload_n rfl rfl rfl rfl ?_
              refine X_ishr (v := ((nI (n)) >>> ((nI (l)) &&& 31))) rfl rfl rfl ?_
              refine X_iconst (v := (1 : Int32)) rfl rfl rfl ?_
              refine X_iand (v := (1 : Int32)) rfl rfl hb ?_
              refine X_if_ne (tgt := 40) rfl rfl rfl (fun _ => ?_) (fun q => absurd q (by decide))
              refine X_aload_n rfl rfl rfl rfl ?_
              refine X_getR (a := 349) rfl rfl rfl ((congrFun F.1 0).trans s_0) rfl ((congrFun (F.2.1 0 (by decide)) 8).trans r_0_8) ?_
              refine X_iload_n rfl rfl rfl rfl ?_
              refine Y_callV (as := [.int (nI (n))]) (st := []) rfl rfl rfl (by decide) rfl (Nat.le_of_ble_eq_true rfl) (by decide) (Nat.le_of_ble_eq_true rfl) rfl ((congrFun F.1 349).trans s_349) (by decide) (c_few (SV_new F E) hn (by rw [hp]; exact hs6)) ?_
              rintro _ g' ⟨rfl, V, hV⟩
              refine X_istore_n (i := 3) (ls' := [some (.ref 0), some (.int (nI (n))), some (.int (nI (l))), some (.int (1 : Int32))]) rfl rfl rfl (Nat.le_of_ble_eq_true rfl) rfl ?_
              refine X_iload_n rfl rfl rfl rfl ?_
              refine X_iconst (v := (-1 : Int32)) rfl rfl rfl ?_
              refine X_icmp_eq (tgt := 59) rfl rfl rfl (fun h7 => ?_) (fun h7 => ?_)
              · exfalso
                simp only [Int32.lt_iff_toInt_lt, Int32.le_iff_toInt_le, ← Int32.toInt_inj, (show (-1 : Int32).toInt = -1 from rfl), (show (0 : Int32).toInt = 0 from rfl), (show (6 : Int32).toInt = 6 from rfl), (show (26 : Int32).toInt = 26 from rfl), (show (67108864 : Int32).toInt = 67108864 from rfl), (nI_toInt (n := l) (by omega)), (nI_toInt (n := n) (by omega)), (nI_toInt (n := p) (by omega))] at h1 h2 h3 h4 h5 h6 h7
                omega
              · refine X_iload_n rfl rfl rfl rfl ?_
                refine X_iconst (v := (-1 : Int32)) rfl rfl rfl ?_
                refine X_icmp_ne (tgt := 63) rfl rfl rfl (fun _ => ?_) (fun q => absurd q (by decide))
                refine X_aload_n rfl rfl rfl rfl ?_
                refine X_getR (a := 349) rfl rfl rfl ((congrFun V.1 0).trans s_0) rfl ((congrFun (V.2.1 0 (by decide)) 8).trans r_0_8) ?_
                refine X_getR (a := 350) rfl rfl rfl ((congrFun V.1 349).trans s_349) rfl ((congrFun (V.2.1 349 (by decide)) 1).trans r_349_1) ?_
                refine X_iload_n rfl rfl rfl rfl ?_
                refine X_iald (v := (0 : Int32)) rfl rfl ((congrFun V.1 350).trans s_350) (vp_in_nI (by omega) (by decide)) ((congrArg (Gi _ 350) (nI_clamp (n := l) (by omega))).trans (hV l hl hb1)) ?_
                exact LW_ireturn (st := []) rfl rfl rfl ⟨rfl, V.2.2.1⟩
      · exfalso
        simp only [Int32.lt_iff_toInt_lt, Int32.le_iff_toInt_le, ← Int32.toInt_inj, (show (0 : Int32).toInt = 0 from rfl), (show (6 : Int32).toInt = 6 from rfl), (show (67108864 : Int32).toInt = 67108864 from rfl), (nI_toInt (n := n) (by omega)), (nI_toInt (n := p) (by omega))] at h1 h2 h3
        omega
set_option maxRecDepth 10000 in
set_option maxHeartbeats 40000000 in
theorem c_sg_no {g : LH} (F : Fc g) (E : Fr g) {n l p : Nat} (h0 : 1 ≤ n) (hn : n < 2 ^ 26) (hp : pcn 32 n = p) (h32 : p ≤ 32) (hs6 : p ≤ 6) (hl : l < 26) (hb : (((nI (n)) >>> ((nI (l)) &&& 31)) &&& (1 : Int32)) = (0 : Int32)) : LW 156 30 0 0 0 (lEnt (mL 156) [.ref 0, .int (nI (n)), .int (nI (l))]) [] g (fun v g' => v = some (.int (-1)) ∧ Fr g') := by
  refine LW_ls (ls' := [some (.ref 0), some (.int (nI (n))), some (.int (nI (l))), none]) rfl ?_
  refine X_iload_n rfl rfl rfl rfl ?_
  refine X_callS (as := [.int (nI (n))]) (st := []) rfl rfl rfl (by decide) rfl (Nat.le_of_ble_eq_true rfl) (by decide) (Nat.le_of_ble_eq_true rfl) rfl ?_
  refine LW_ls (ls' := [some (.int (nI (n)))]) rfl ?_
  refine X_iload_n rfl rfl rfl rfl ?_
  refine X_if_le (tgt := 15) rfl rfl rfl (fun h1 => ?_) (fun h1 => ?_)
  · exfalso
    simp only [Int32.lt_iff_toInt_lt, Int32.le_iff_toInt_le, ← Int32.toInt_inj, (show (0 : Int32).toInt = 0 from rfl), (nI_toInt (n := n) (by omega))] at h1
    omega
  · refine X_iload_n rfl rfl rfl rfl ?_
    refine X_ldcw (v := (67108864 : Int32)) rfl rfl rfl ?_
    refine X_icmp_ge (tgt := 15) rfl rfl rfl (fun h2 => ?_) (fun h2 => ?_)
    · exfalso
      simp only [Int32.lt_iff_toInt_lt, Int32.le_iff_toInt_le, ← Int32.toInt_inj, (show (0 : Int32).toInt = 0 from rfl), (show (67108864 : Int32).toInt = 67108864 from rfl), (nI_toInt (n := n) (by omega))] at h1 h2
      omega
    · refine X_iconst (v := (1 : Int32)) rfl rfl rfl ?_
      refine LW_goto (tgt := 16) rfl rfl ?_
      refine LW_ireturn (st := []) rfl rfl rfl ?_
      refine X_if_eq (tgt := 16) rfl rfl rfl (fun q => absurd q (by decide)) (fun _ => ?_)
      refine X_iload_n rfl rfl rfl rfl ?_
      refine Y_callS (as := [.int (nI (n))]) (st := []) rfl rfl rfl (by decide) rfl (Nat.le_of_ble_eq_true rfl) (by decide) (Nat.le_of_ble_eq_true rfl) rfl (c_bitCount (n := n) (by omega)) ?_
      rintro _ _ ⟨rfl, rfl⟩
      refine LW_eqv (v := nI p) (congrArg nI hp) ?_
      refine X_bipush (v := (6 : Int32)) rfl rfl rfl ?_
      refine X_icmp_le (tgt := 18) rfl rfl rfl (fun h3 => ?_) (fun h3 => ?_)
      · refine X_iload_n rfl rfl rfl rfl ?_
        refine X_iconst (v := (-1 : Int32)) rfl rfl rfl ?_
        refine X_icmp_eq (tgt := 40) rfl rfl rfl (fun h4 => ?_) (fun h4 => ?_)
        · exfalso
          simp only [Int32.lt_iff_toInt_lt, Int32.le_iff_toInt_le, ← Int32.toInt_inj, (show (-1 : Int32).toInt = -1 from rfl), (show (0 : Int32).toInt = 0 from rfl), (show (6 : Int32).toInt = 6 from rfl), (show (67108864 : Int32).toInt = 67108864 from rfl), (nI_toInt (n := l) (by omega)), (nI_toInt (n := n) (by omega)), (nI_toInt (n := p) (by omega))] at h1 h2 h3 h4
          omega
        · refine X_iload_n rfl rfl rfl rfl ?_
          refine X_callS (as := [.int (nI (l))]) (st := []) rfl rfl rfl (by decide) rfl (Nat.le_of_ble_eq_true rfl) (by decide) (Nat.le_of_ble_eq_true rfl) rfl ?_
          refine LW_ls (ls' := [some (.int (nI (l)))]) rfl ?_
          refine X_iload_n rfl rfl rfl rfl ?_
          refine X_if_lt (tgt := 14) rfl rfl rfl (fun h5 => ?_) (fun h5 => ?_)
          · exfalso
            simp only [Int32.lt_iff_toInt_lt, Int32.le_iff_toInt_le, ← Int32.toInt_inj, (show (-1 : Int32).toInt = -1 from rfl), (show (0 : Int32).toInt = 0 from rfl), (show (6 : Int32).toInt = 6 from rfl), (show (67108864 : Int32).toInt = 67108864 from rfl), (nI_toInt (n := l) (by omega)), (nI_toInt (n := n) (by omega)), (nI_toInt (n := p) (by omega))] at h1 h2 h3 h4 h5
            omega
          · refine X_iload_n rfl rfl rfl rfl ?_
            refine X_bipush (v := (26 : Int32)) rfl rfl rfl ?_
            refine X_icmp_ge (tgt := 14) rfl rfl rfl (fun h6 => ?_) (fun h6 => ?_)
            · exfalso
              simp only [Int32.lt_iff_toInt_lt, Int32.le_iff_toInt_le, ← Int32.toInt_inj, (show (-1 : Int32).toInt = -1 from rfl), (show (0 : Int32).toInt = 0 from rfl), (show (6 : Int32).toInt = 6 from rfl), (show (26 : Int32).toInt = 26 from rfl), (show (67108864 : Int32).toInt = 67108864 from rfl), (nI_toInt (n := l) (by omega)), (nI_toInt (n := n) (by omega)), (nI_toInt (n := p) (by omega))] at h1 h2 h3 h4 h5 h6
              omega
            · refine X_iconst (v := (1 : Int32)) rfl rfl rfl ?_
              refine LW_goto (tgt := 15) rfl rfl ?_
              refine LW_ireturn (st := []) rfl rfl rfl ?_
              refine X_if_eq (tgt := 38) rfl rfl rfl (fun q => absurd q (by decide)) (fun _ => ?_)
              refine X_iload_n rfl rfl rfl rfl ?_
              refine X_iload_n rfl rfl rfl rfl ?_
              refine X_ishr (v := ((nI (n)) >>> ((nI (l)) &&& 31))) rfl rfl rfl ?_
              refine X_iconst (v := (1 : Int32)) rfl rfl rfl ?_
              refine X_iand (v := (0 : Int32)) rfl rfl hb ?_
              refine X_if_ne (tgt := 40) rfl rfl rfl (fun q => absurd q (by decide)) (fun _ => ?_)
              refine X_iconst (v := (-1 : Int32)) rfl rfl rfl ?_
              exact LW_ireturn (st := []) rfl rfl rfl ⟨rfl, E⟩
      · exfalso
        simp only [Int32.lt_iff_toInt_lt, Int32.le_iff_toInt_le, ← Int32.toInt_inj, (show (0 : Int32).toInt = 0 from rfl), (show (6 : Int32).toInt = 6 from rfl), (show (67108864 : Int32).toInt = 67108864 from rfl), (nI_toInt (n := n) (by omega)), (nI_toInt (n := p) (by omega))] at h1 h2 h3
        omega
set_option maxRecDepth 10000 in
set_option maxHeartbeats 40000000 in
theorem c_sg_lo {g : LH} (F : Fc g) (E : Fr g) {n p : Nat} (h0 : 1 ≤ n) (hn : n < 2 ^ 26) (hp : pcn 32 n = p) (h32 : p ≤ 32) (hs6 : p ≤ 6) (b : Int32) (hr : ¬ (-1 ≤ b.toInt ∧ b.toInt ≤ 25)) : LW 156 30 0 0 0 (lEnt (mL 156) [.ref 0, .int (nI (n)), .int b]) [] g (fun v g' => v = some (.int (-1)) ∧ Fr g') := by
  refine LW_ls (ls' := [some (.ref 0), some (.int (nI (n))), some (.int b), none]) rfl ?_
  refine X_iload_n rfl rfl rfl rfl ?_
  refine X_callS (as := [.int (nI (n))]) (st := []) rfl rfl rfl (by decide) rfl (Nat.le_of_ble_eq_true rfl) (by decide) (Nat.le_of_ble_eq_true rfl) rfl ?_
  refine LW_ls (ls' := [some (.int (nI (n)))]) rfl ?_
  refine X_iload_n rfl rfl rfl rfl ?_
  refine X_if_le (tgt := 15) rfl rfl rfl (fun h1 => ?_) (fun h1 => ?_)
  · exfalso
    simp only [Int32.lt_iff_toInt_lt, Int32.le_iff_toInt_le, ← Int32.toInt_inj, (show (0 : Int32).toInt = 0 from rfl), (nI_toInt (n := n) (by omega))] at h1
    omega
  · refine X_iload_n rfl rfl rfl rfl ?_
    refine X_ldcw (v := (67108864 : Int32)) rfl rfl rfl ?_
    refine X_icmp_ge (tgt := 15) rfl rfl rfl (fun h2 => ?_) (fun h2 => ?_)
    · exfalso
      simp only [Int32.lt_iff_toInt_lt, Int32.le_iff_toInt_le, ← Int32.toInt_inj, (show (0 : Int32).toInt = 0 from rfl), (show (67108864 : Int32).toInt = 67108864 from rfl), (nI_toInt (n := n) (by omega))] at h1 h2
      omega
    · refine X_iconst (v := (1 : Int32)) rfl rfl rfl ?_
      refine LW_goto (tgt := 16) rfl rfl ?_
      refine LW_ireturn (st := []) rfl rfl rfl ?_
      refine X_if_eq (tgt := 16) rfl rfl rfl (fun q => absurd q (by decide)) (fun _ => ?_)
      refine X_iload_n rfl rfl rfl rfl ?_
      refine Y_callS (as := [.int (nI (n))]) (st := []) rfl rfl rfl (by decide) rfl (Nat.le_of_ble_eq_true rfl) (by decide) (Nat.le_of_ble_eq_true rfl) rfl (c_bitCount (n := n) (by omega)) ?_
      rintro _ _ ⟨rfl, rfl⟩
      refine LW_eqv (v := nI p) (congrArg nI hp) ?_
      refine X_bipush (v := (6 : Int32)) rfl rfl rfl ?_
      refine X_icmp_le (tgt := 18) rfl rfl rfl (fun h3 => ?_) (fun h3 => ?_)
      · refine X_iload_n rfl rfl rfl rfl ?_
        refine X_iconst (v := (-1 : Int32)) rfl rfl rfl ?_
        refine X_icmp_eq (tgt := 40) rfl rfl rfl (fun h4 => ?_) (fun h4 => ?_)
        · exfalso
          simp only [Int32.lt_iff_toInt_lt, Int32.le_iff_toInt_le, ← Int32.toInt_inj, (show (-1 : Int32).toInt = -1 from rfl), (show (0 : Int32).toInt = 0 from rfl), (show (6 : Int32).toInt = 6 from rfl), (show (67108864 : Int32).toInt = 67108864 from rfl), (nI_toInt (n := n) (by omega)), (nI_toInt (n := p) (by omega))] at h1 h2 h3 h4
          omega
        · refine X_iload_n rfl rfl rfl rfl ?_
          refine X_callS (as := [.int b]) (st := []) rfl rfl rfl (by decide) rfl (Nat.le_of_ble_eq_true rfl) (by decide) (Nat.le_of_ble_eq_true rfl) rfl ?_
          refine LW_ls (ls' := [some (.int b)]) rfl ?_
          refine X_iload_n rfl rfl rfl rfl ?_
          refine X_if_lt (tgt := 14) rfl rfl rfl (fun h5 => ?_) (fun h5 => ?_)
          · refine X_iconst (v := (0 : Int32)) rfl rfl rfl ?_
            refine LW_ireturn (st := []) rfl rfl rfl ?_
            refine X_if_eq (tgt := 38) rfl rfl rfl (fun _ => ?_) (fun q => absurd q (by decide))
            refine X_iconst (v := (-1 : Int32)) rfl rfl rfl ?_
            exact LW_ireturn (st := []) rfl rfl rfl ⟨rfl, E⟩
          · refine X_iload_n rfl rfl rfl rfl ?_
            refine X_bipush (v := (26 : Int32)) rfl rfl rfl ?_
            refine X_icmp_ge (tgt := 14) rfl rfl rfl (fun h6 => ?_) (fun h6 => ?_)
            · refine X_iconst (v := (0 : Int32)) rfl rfl rfl ?_
              refine LW_ireturn (st := []) rfl rfl rfl ?_
              refine X_if_eq (tgt := 38) rfl rfl rfl (fun _ => ?_) (fun q => absurd q (by decide))
              refine X_iconst (v := (-1 : Int32)) rfl rfl rfl ?_
              exact LW_ireturn (st := []) rfl rfl rfl ⟨rfl, E⟩
            · refine X_iconst (v := (1 : Int32)) rfl rfl rfl ?_
              refine LW_goto (tgt := 15) rfl rfl ?_
              refine LW_ireturn (st := []) rfl rfl rfl ?_
              refine X_if_eq (tgt := 38) rfl rfl rfl (fun q => absurd q (by decide)) (fun _ => ?_)
              exfalso
              simp only [Int32.lt_iff_toInt_lt, Int32.le_iff_toInt_le, ← Int32.toInt_inj, (show (-1 : Int32).toInt = -1 from rfl), (show (0 : Int32).toInt = 0 from rfl), (show (6 : Int32).toInt = 6 from rfl), (show (26 : Int32).toInt = 26 from rfl), (show (67108864 : Int32).toInt = 67108864 from rfl), (nI_toInt (n := n) (by omega)), (nI_toInt (n := p) (by omega))] at h1 h2 h3 h4 h5 h6
              omega
      · exfalso
        simp only [Int32.lt_iff_toInt_lt, Int32.le_iff_toInt_le, ← Int32.toInt_inj, (show (0 : Int32).toInt = 0 from rfl), (show (6 : Int32).toInt = 6 from rfl), (show (67108864 : Int32).toInt = 67108864 from rfl), (nI_toInt (n := n) (by omega)), (nI_toInt (n := p) (by omega))] at h1 h2 h3
        omega
/-! signsFor, of the reference -/
def SR (g : LH) : Prop := Gs g = eS e2 ∧ (∀ q, 355 ≤ q → Gr g q = eR e2 q) ∧ Gi g 356 0 = 0
theorem SR_put {g : LH} {q k : Nat} {z : Int32} (F : SR g) (hq : q ≠ 356) : SR (putI g q k z) := ⟨F.1, F.2.1, by
  rw [putN (fun e => hq e.symm)]
  exact F.2.2⟩
theorem SR_new {g : LH} (F : Fr g) : SR g := ⟨F.1, F.2.1, by
  rw [(F.2.2 356 (by decide)).1]
  decide +kernel⟩
def MB (g : LH) (n i : Nat) : Prop := (∀ k, k < pcn i n → ∃ t, t < 26 ∧ Gi g 367 k = nI t) ∧ ∀ t, t < i → n / 2 ^ t % 2 = 1 → ∃ k, k < pcn i n ∧ Gi g 367 k = nI t
theorem MB_0 {g : LH} {n i : Nat} {z : Int32} (h : MB g n i) (hb : n / 2 ^ i % 2 = 0) : MB (putI g 372 i z) n (i + 1) := by
  have hp : pcn (i + 1) n = pcn i n := by rw [pcn_succ, hb, Nat.add_zero]
  refine ⟨fun k hk => ?_, fun t ht hbt => ?_⟩
  · rw [hp] at hk
    rw [putN (by decide)]
    exact h.1 k hk
  · rw [hp, putN (by decide)]
    rcases Nat.lt_or_ge t i with q | q
    · exact h.2 t q hbt
    · have : t = i := by omega
      subst this
      omega
theorem MB_1 {g : LH} {n i : Nat} {z : Int32} (h : MB g n i) (hi : i < 26) (hb : n / 2 ^ i % 2 = 1) : MB (putI (putI g 372 i z) 367 (pcn i n) (nI i)) n (i + 1) := by
  have hp : pcn (i + 1) n = pcn i n + 1 := by rw [pcn_succ, hb]
  refine ⟨fun k hk => ?_, fun t ht hbt => ?_⟩
  · rw [hp] at hk
    rw [putS]
    rcases Nat.lt_or_ge k (pcn i n) with q | q
    · rw [pk_un (by omega), putN (by decide)]
      exact h.1 k q
    · have : k = pcn i n := by omega
      subst this
      exact ⟨i, hi, pk_us⟩
  · rw [hp, putS]
    rcases Nat.lt_or_ge t i with q | q
    · obtain ⟨k, h1, h2⟩ := h.2 t q hbt
      exact ⟨k, by omega, by rw [pk_un (by omega), putN (by decide)]; exact h2⟩
    · have : t = i := by omega
      subst this
      exact ⟨pcn t n, by omega, pk_us⟩
set_option maxRecDepth 10000 in
set_option maxHeartbeats 40000000 in
theorem r_clear {g : LH} (F : SR g) {d : Nat} : LW 297 d 0 0 0 (lEnt (mL 297) [.ref 355]) [] g (fun v g' => v = some (.int 1) ∧ g' = g) := by
  refine LW_ls (ls' := [some (.ref 355), none, none]) rfl ?_
  refine X_iconst (v := (0 : Int32)) rfl rfl rfl ?_
  refine X_istore_n (i := 1) (ls' := [some (.ref 355), some (.int (0 : Int32)), none]) rfl rfl rfl (Nat.le_of_ble_eq_true rfl) rfl ?_
  refine X_iload_n rfl rfl rfl rfl ?_
  refine X_aload_n rfl rfl rfl rfl ?_
  refine X_getR (a := 356) rfl rfl rfl ((congrFun F.1 355).trans s_355) rfl ((congrFun (F.2.1 355 (by decide)) 0).trans r_355_0) ?_
  refine X_iconst (v := (0 : Int32)) rfl rfl rfl ?_
  refine X_iald (v := (0 : Int32)) rfl rfl ((congrFun F.1 356).trans s_356) (vp_in_d rfl) F.2.2 ?_
  refine X_icmp_ge (tgt := 42) rfl rfl rfl (fun _ => ?_) (fun q => absurd q (by decide))
  refine X_iconst (v := (1 : Int32)) rfl rfl rfl ?_
  exact LW_ireturn (st := []) rfl rfl rfl ⟨rfl, rfl⟩
set_option maxRecDepth 10000 in
set_option maxHeartbeats 40000000 in
theorem r_un1 {g : LH} {d n i : Nat} {Q : Option Value → LH → Prop} (F : SR g) (hn : n ≤ 10) (h0 : ∀ k, k < n → Gi g 366 k = 0) (hi : i < n) (k : LW 298 d 0 0 4 [some (.ref 355), some (.int (nI (n))), some (.int (0 : Int32)), some (.int (nI (i + 1)))] [] g Q) : LW 298 d 0 0 4 [some (.ref 355), some (.int (nI (n))), some (.int (0 : Int32)), some (.int (nI (i)))] [] g (Q) := by
  refine X_iload_n rfl rfl rfl rfl ?_
  refine X_iload_n rfl rfl rfl rfl ?_
  refine X_icmp_ge (tgt := 36) rfl rfl rfl (fun h1 => ?_) (fun h1 => ?_)
  · exfalso
    simp only [Int32.lt_iff_toInt_lt, Int32.le_iff_toInt_le, ← Int32.toInt_inj, (nI_toInt (n := i) (by omega)), (nI_toInt (n := n) (by omega))] at h1
    omega
  · refine X_aload_n rfl rfl rfl rfl ?_
    refine X_getR (a := 366) rfl rfl rfl ((congrFun F.1 355).trans s_355) rfl ((congrFun (F.2.1 355 (by decide)) 29).trans r_355_29) ?_
    refine X_iload_n rfl rfl rfl rfl ?_
    refine X_iald (v := (0 : Int32)) rfl rfl ((congrFun F.1 366).trans s_366) (vp_in_nI (by omega) (by decide)) ((congrArg (Gi _ 366) (nI_clamp (n := i) (by omega))).trans (h0 i hi)) ?_
    refine X_iload_n rfl rfl rfl rfl ?_
    refine X_icmp_le (tgt := 28) rfl rfl rfl (fun _ => ?_) (fun q => absurd q (by decide))
    refine X_iload_n rfl rfl rfl rfl ?_
    refine X_istore_n (i := 2) (ls' := [some (.ref 355), some (.int (nI (n))), some (.int (0 : Int32)), some (.int (nI (i)))]) rfl rfl rfl (Nat.le_of_ble_eq_true rfl) rfl ?_
    refine X_iinc (v := (nI (i + 1))) (ls' := [some (.ref 355), some (.int (nI (n))), some (.int (0 : Int32)), some (.int (nI (i + 1)))]) rfl rfl rfl (nI_add (i) 1) rfl ?_
    refine LW_goto (tgt := 4) rfl rfl ?_
    exact k
set_option maxRecDepth 10000 in
set_option maxHeartbeats 40000000 in
theorem r_un0 {g : LH} {d n i : Nat} {Q : Option Value → LH → Prop} (F : SR g) (hn : n ≤ 10) (h0 : ∀ k, k < n → Gi g 366 k = 0) (hi : i < n) (k : LW 298 d 0 0 4 [some (.ref 355), some (.int (nI (n))), some (.int (0 : Int32)), some (.int (nI (i + 1)))] [] g Q) : LW 298 d 0 0 4 [some (.ref 355), some (.int (nI (n))), some (.int (-1 : Int32)), some (.int (nI (i)))] [] g (Q) := by
  refine X_iload_n rfl rfl rfl rfl ?_
  refine X_iload_n rfl rfl rfl rfl ?_
  refine X_icmp_ge (tgt := 36) rfl rfl rfl (fun h1 => ?_) (fun h1 => ?_)
  · exfalso
    simp only [Int32.lt_iff_toInt_lt, Int32.le_iff_toInt_le, ← Int32.toInt_inj, (nI_toInt (n := i) (by omega)), (nI_toInt (n := n) (by omega))] at h1
    omega
  · refine X_aload_n rfl rfl rfl rfl ?_
    refine X_getR (a := 366) rfl rfl rfl ((congrFun F.1 355).trans s_355) rfl ((congrFun (F.2.1 355 (by decide)) 29).trans r_355_29) ?_
    refine X_iload_n rfl rfl rfl rfl ?_
    refine X_iald (v := (0 : Int32)) rfl rfl ((congrFun F.1 366).trans s_366) (vp_in_nI (by omega) (by decide)) ((congrArg (Gi _ 366) (nI_clamp (n := i) (by omega))).trans (h0 i hi)) ?_
    refine X_iload_n rfl rfl rfl rfl ?_
    refine X_icmp_le (tgt := 28) rfl rfl rfl (fun q => absurd q (by decide)) (fun _ => ?_)
    refine X_aload_n rfl rfl rfl rfl ?_
    refine X_getR (a := 366) rfl rfl rfl ((congrFun F.1 355).trans s_355) rfl ((congrFun (F.2.1 355 (by decide)) 29).trans r_355_29) ?_
    refine X_iload_n rfl rfl rfl rfl ?_
    refine X_iald (v := (0 : Int32)) rfl rfl ((congrFun F.1 366).trans s_366) (vp_in_nI (by omega) (by decide)) ((congrArg (Gi _ 366) (nI_clamp (n := i) (by omega))).trans (h0 i hi)) ?_
    refine LW_goto (tgt := 29) rfl rfl ?_
    refine X_istore_n (i := 2) (ls' := [some (.ref 355), some (.int (nI (n))), some (.int (0 : Int32)), some (.int (nI (i)))]) rfl rfl rfl (Nat.le_of_ble_eq_true rfl) rfl ?_
    refine X_iinc (v := (nI (i + 1))) (ls' := [some (.ref 355), some (.int (nI (n))), some (.int (0 : Int32)), some (.int (nI (i + 1)))]) rfl rfl rfl (nI_add (i) 1) rfl ?_
    refine LW_goto (tgt := 4) rfl rfl ?_
    exact k
set_option maxRecDepth 10000 in
set_option maxHeartbeats 40000000 in
theorem r_un2 {g : LH} {d n : Nat} {Q : Option Value → LH → Prop} (hn : n ≤ 10) (k : Q (some (.int 1)) g) : LW 298 d 0 0 4 [some (.ref 355), some (.int (nI (n))), some (.int (0 : Int32)), some (.int (nI (n)))] [] g (Q) := by
  refine X_iload_n rfl rfl rfl rfl ?_
  refine X_iload_n rfl rfl rfl rfl ?_
  refine X_icmp_ge (tgt := 36) rfl rfl rfl (fun h1 => ?_) (fun h1 => ?_)
  · refine X_iload_n rfl rfl rfl rfl ?_
    refine X_iconst (v := (1 : Int32)) rfl rfl rfl ?_
    refine X_iadd (v := (1 : Int32)) rfl rfl rfl ?_
    exact LW_ireturn (st := []) rfl rfl rfl k
  · exfalso
    simp only [Int32.lt_iff_toInt_lt, Int32.le_iff_toInt_le, ← Int32.toInt_inj, (nI_toInt (n := n) (by omega))] at h1
    omega
theorem r_unl {g : LH} {d n : Nat} {Q : Option Value → LH → Prop} (F : SR g) (hn : n ≤ 10) (h0 : ∀ k, k < n → Gi g 366 k = 0) (k : Q (some (.int 1)) g) : ∀ (m i : Nat), i + m = n → LW 298 d 0 0 4 [some (.ref 355), some (.int (nI (n))), some (.int (0 : Int32)), some (.int (nI (i)))] [] g Q := by
  intro m
  induction m with
  | zero =>
    intro i hi
    have hi : i = n := by omega
    subst hi
    exact r_un2 hn k
  | succ m ih =>
    intro i hi
    exact r_un1 F hn h0 (by omega) (ih (i + 1) (by omega))
theorem r_unlike {g : LH} {d n : Nat} (F : SR g) (h1 : 1 ≤ n) (hn : n ≤ 10) (h0 : ∀ k, k < n → Gi g 366 k = 0) : LW 298 d 0 0 0 (lEnt (mL 298) [.ref 355, .int (nI n)]) [] g (fun v g' => v = some (.int 1) ∧ g' = g) := by
  refine LW_ls (ls' := [some (.ref 355), some (.int (nI n)), none, none]) rfl ?_
  refine X_iconst (v := -1) rfl rfl rfl ?_
  refine X_istore_n (i := 2) (ls' := [some (.ref 355), some (.int (nI n)), some (.int (-1)), none]) rfl rfl rfl (Nat.le_of_ble_eq_true rfl) rfl ?_
  refine X_iconst (v := 0) rfl rfl rfl ?_
  refine X_istore_n (i := 3) (ls' := [some (.ref 355), some (.int (nI n)), some (.int (-1)), some (.int (nI 0))]) rfl rfl rfl (Nat.le_of_ble_eq_true rfl) rfl ?_
  exact r_un0 F hn h0 (by omega) (r_unl F hn h0 ⟨rfl, rfl⟩ (n - 1) 1 (by omega))
set_option maxRecDepth 10000 in
set_option maxHeartbeats 40000000 in
theorem r_ae1 {g : LH} {d n i : Nat} {l4 : Option Value} {Q : Option Value → LH → Prop} (F : SR g) (hn : n ≤ 10) (hi : i < n) (k : LW 300 d 0 0 2 [some (.ref 355), some (.int (nI (n))), some (.int (1 : Int32)), some (.int (nI (i + 1))), l4] [] (putI g 366 i 0) Q) : LW 300 d 0 0 2 [some (.ref 355), some (.int (nI (n))), some (.int (1 : Int32)), some (.int (nI (i))), l4] [] g (Q) := by
  refine X_iload_n rfl rfl rfl rfl ?_
  refine X_iload_n rfl rfl rfl rfl ?_
  refine X_icmp_ge (tgt := 20) rfl rfl rfl (fun h1 => ?_) (fun h1 => ?_)
  · exfalso
    simp only [Int32.lt_iff_toInt_lt, Int32.le_iff_toInt_le, ← Int32.toInt_inj, (nI_toInt (n := i) (by omega)), (nI_toInt (n := n) (by omega))] at h1
    omega
  · refine X_aload_n rfl rfl rfl rfl ?_
    refine X_getR (a := 366) rfl rfl rfl ((congrFun F.1 355).trans s_355) rfl ((congrFun (F.2.1 355 (by decide)) 29).trans r_355_29) ?_
    refine X_iload_n rfl rfl rfl rfl ?_
    refine X_iconst (v := (0 : Int32)) rfl rfl rfl ?_
    refine X_iast (k0 := i) rfl rfl ((congrFun F.1 366).trans s_366) (vp_in_nI (by omega) (by decide)) (nI_clamp (n := i) (by omega)) ?_
    refine X_iinc (v := (nI (i + 1))) (ls' := [some (.ref 355), some (.int (nI (n))), some (.int (1 : Int32)), some (.int (nI (i + 1))), l4]) rfl rfl rfl (nI_add (i) 1) rfl ?_
    refine LW_goto (tgt := 2) rfl rfl ?_
    exact k
set_option maxRecDepth 10000 in
set_option maxHeartbeats 40000000 in
theorem r_ae2 {g : LH} {d n : Nat} {l4 : Option Value} {Q : Option Value → LH → Prop} (F : SR g) (hn : n ≤ 10) (k : LW 300 d 0 0 22 [some (.ref 355), some (.int (nI (n))), some (.int (1 : Int32)), some (.int (1 : Int32)), l4] [] g Q) : LW 300 d 0 0 2 [some (.ref 355), some (.int (nI (n))), some (.int (1 : Int32)), some (.int (nI (n))), l4] [] g (Q) := by
  refine X_iload_n rfl rfl rfl rfl ?_
  refine X_iload_n rfl rfl rfl rfl ?_
  refine X_icmp_ge (tgt := 20) rfl rfl rfl (fun h1 => ?_) (fun h1 => ?_)
  · refine X_iconst (v := (1 : Int32)) rfl rfl rfl ?_
    refine X_istore_n (i := 3) (ls' := [some (.ref 355), some (.int (nI (n))), some (.int (1 : Int32)), some (.int (1 : Int32)), l4]) rfl rfl rfl (Nat.le_of_ble_eq_true rfl) rfl ?_
    exact k
  · exfalso
    simp only [Int32.lt_iff_toInt_lt, Int32.le_iff_toInt_le, ← Int32.toInt_inj, (nI_toInt (n := n) (by omega))] at h1
    omega
theorem r_ael {d n : Nat} {l4 : Option Value} {Q : Option Value → LH → Prop} (hn : n ≤ 10) {g0 : LH} (k : ∀ g', SR g' → Gi g' 367 = Gi g0 367 → (∀ k, k < n → Gi g' 366 k = 0) → LW 300 d 0 0 22 [some (.ref 355), some (.int (nI (n))), some (.int (1 : Int32)), some (.int (1 : Int32)), l4] [] g' Q) : ∀ (m i : Nat), i + m = n → ∀ g : LH, SR g → Gi g 367 = Gi g0 367 → (∀ k, k < i → Gi g 366 k = 0) → LW 300 d 0 0 2 [some (.ref 355), some (.int (nI (n))), some (.int (1 : Int32)), some (.int (nI (i))), l4] [] g Q := by
  intro m
  induction m with
  | zero =>
    intro i hi g F h7 h0
    have hi : i = n := by omega
    subst hi
    exact r_ae2 F hn (k g F h7 h0)
  | succ m ih =>
    intro i hi g F h7 h0
    refine r_ae1 F hn (by omega) (ih (i + 1) (by omega) _ (SR_put F (by decide)) ((putN (by decide)).trans h7) (fun k hk => ?_))
    rw [putS]
    rcases Nat.lt_or_ge k i with q | q
    · rw [pk_un (by omega)]; exact h0 k q
    · have : k = i := by omega
      subst this
      exact pk_us
set_option maxRecDepth 10000 in
set_option maxHeartbeats 40000000 in
theorem r_ae3 {g : LH} {d n : Nat} {l4 : Option Value} {Q : Option Value → LH → Prop} (F : SR g) (hn : n ≤ 10) (h1 : 1 ≤ n) (h0 : ∀ k, k < n → Gi g 366 k = 0) (k : LW 300 (d + 1) 0 0 38 [some (.ref 355), some (.int (nI (n))), some (.int (1 : Int32)), some (.int (1 : Int32)), some (.int (nI (0)))] [] g Q) : LW 300 (d + 1) 0 0 22 [some (.ref 355), some (.int (nI (n))), some (.int (1 : Int32)), some (.int (1 : Int32)), l4] [] g (Q) := by
  refine X_iload_n rfl rfl rfl rfl ?_
  refine X_if_eq (tgt := 87) rfl rfl rfl (fun q => absurd q (by decide)) (fun _ => ?_)
  refine X_aload_n rfl rfl rfl rfl ?_
  refine X_iload_n rfl rfl rfl rfl ?_
  refine Y_callV (as := [.int (nI (n))]) (st := []) rfl rfl rfl (by decide) rfl (Nat.le_of_ble_eq_true rfl) (by decide) (Nat.le_of_ble_eq_true rfl) rfl ((congrFun F.1 355).trans s_355) (by decide) (r_unlike F h1 hn h0) ?_
  rintro _ _ ⟨rfl, rfl⟩
  refine X_iload_n rfl rfl rfl rfl ?_
  refine X_icmp_ne (tgt := 78) rfl rfl rfl (fun q => absurd q (by decide)) (fun _ => ?_)
  refine X_iconst (v := (0 : Int32)) rfl rfl rfl ?_
  refine X_istore (i := 4) (ls' := [some (.ref 355), some (.int (nI (n))), some (.int (1 : Int32)), some (.int (1 : Int32)), some (.int (0 : Int32))]) rfl rfl (Nat.le_of_ble_eq_true rfl) rfl ?_
  exact k
set_option maxRecDepth 10000 in
set_option maxHeartbeats 40000000 in
theorem r_ae4 {g : LH} {d n i t : Nat} {Q : Option Value → LH → Prop} (F : SR g) (hn : n ≤ 10) (hi : i < n) (h0 : ∀ k, k < n → Gi g 366 k = 0) (ht : Gi g 367 i = nI t) (ht2 : t < 26) (k : LW 300 d 0 0 38 [some (.ref 355), some (.int (nI (n))), some (.int (1 : Int32)), some (.int (1 : Int32)), some (.int (nI (i + 1)))] [] (putI g 372 t 0) Q) : LW 300 d 0 0 38 [some (.ref 355), some (.int (nI (n))), some (.int (1 : Int32)), some (.int (1 : Int32)), some (.int (nI (i)))] [] g (Q) := by
  refine X_iload rfl rfl rfl ?_
  refine X_iload_n rfl rfl rfl rfl ?_
  refine X_icmp_ge (tgt := 69) rfl rfl rfl (fun h1 => ?_) (fun h1 => ?_)
  · exfalso
    simp only [Int32.lt_iff_toInt_lt, Int32.le_iff_toInt_le, ← Int32.toInt_inj, (nI_toInt (n := i) (by omega)), (nI_toInt (n := n) (by omega))] at h1
    omega
  · refine X_aload_n rfl rfl rfl rfl ?_
    refine X_getR (a := 372) rfl rfl rfl ((congrFun F.1 355).trans s_355) rfl ((congrFun (F.2.1 355 (by decide)) 36).trans r_355_36) ?_
    refine X_aload_n rfl rfl rfl rfl ?_
    refine X_getR (a := 367) rfl rfl rfl ((congrFun F.1 355).trans s_355) rfl ((congrFun (F.2.1 355 (by decide)) 30).trans r_355_30) ?_
    refine X_iload rfl rfl rfl ?_
    refine X_iald (v := (nI (t))) rfl rfl ((congrFun F.1 367).trans s_367) (vp_in_nI (by omega) (by decide)) ((congrArg (Gi _ 367) (nI_clamp (n := i) (by omega))).trans ht) ?_
    refine X_aload_n rfl rfl rfl rfl ?_
    refine X_getR (a := 366) rfl rfl rfl ((congrFun F.1 355).trans s_355) rfl ((congrFun (F.2.1 355 (by decide)) 29).trans r_355_29) ?_
    refine X_iload rfl rfl rfl ?_
    refine X_iald (v := (0 : Int32)) rfl rfl ((congrFun F.1 366).trans s_366) (vp_in_nI (by omega) (by decide)) ((congrArg (Gi _ 366) (nI_clamp (n := i) (by omega))).trans (h0 i hi)) ?_
    refine X_iast (k0 := t) rfl rfl ((congrFun F.1 372).trans s_372) (vp_in_nI (by omega) (by decide)) (nI_clamp (n := t) (by omega)) ?_
    refine X_iinc (v := (nI (i + 1))) (ls' := [some (.ref 355), some (.int (nI (n))), some (.int (1 : Int32)), some (.int (1 : Int32)), some (.int (nI (i + 1)))]) rfl rfl rfl (nI_add (i) 1) rfl ?_
    refine LW_goto (tgt := 38) rfl rfl ?_
    exact k
set_option maxRecDepth 10000 in
set_option maxHeartbeats 40000000 in
theorem r_ae5 {g : LH} {d n : Nat} {Q : Option Value → LH → Prop} (F : SR g) (hn : n ≤ 10) (k : Q (some (.int 1)) g) : LW 300 (d + 1) 0 0 38 [some (.ref 355), some (.int (nI (n))), some (.int (1 : Int32)), some (.int (1 : Int32)), some (.int (nI (n)))] [] g (Q) := by
  refine X_iload rfl rfl rfl ?_
  refine X_iload_n rfl rfl rfl rfl ?_
  refine X_icmp_ge (tgt := 69) rfl rfl rfl (fun h1 => ?_) (fun h1 => ?_)
  · refine X_aload_n rfl rfl rfl rfl ?_
    refine Y_callV (as := []) (st := []) rfl rfl rfl (by decide) rfl (Nat.le_of_ble_eq_true rfl) (by decide) (Nat.le_of_ble_eq_true rfl) rfl ((congrFun F.1 355).trans s_355) (by decide) (r_clear F) ?_
    rintro _ _ ⟨rfl, rfl⟩
    refine X_if_eq (tgt := 78) rfl rfl rfl (fun q => absurd q (by decide)) (fun _ => ?_)
    refine X_iconst (v := (1 : Int32)) rfl rfl rfl ?_
    exact LW_ireturn (st := []) rfl rfl rfl k
  · exfalso
    simp only [Int32.lt_iff_toInt_lt, Int32.le_iff_toInt_le, ← Int32.toInt_inj, (nI_toInt (n := n) (by omega))] at h1
    omega
theorem r_aeb {d n : Nat} {Q : Option Value → LH → Prop} (hn : n ≤ 10) {g0 : LH} (hm : ∀ k, k < n → ∃ t, t < 26 ∧ Gi g0 367 k = nI t) (k : ∀ g', SR g' → (∀ k t, k < n → t < 26 → Gi g0 367 k = nI t → Gi g' 372 t = 0) → Q (some (.int 1)) g') : ∀ (m i : Nat), i + m = n → ∀ g : LH, SR g → Gi g 367 = Gi g0 367 → (∀ k, k < n → Gi g 366 k = 0) → (∀ k t, k < i → t < 26 → Gi g0 367 k = nI t → Gi g 372 t = 0) → LW 300 (d + 1) 0 0 38 [some (.ref 355), some (.int (nI (n))), some (.int (1 : Int32)), some (.int (1 : Int32)), some (.int (nI (i)))] [] g Q := by
  intro m
  induction m with
  | zero =>
    intro i hi g F h7 h0 hs
    have hi : i = n := by omega
    subst hi
    exact r_ae5 F hn (k g F hs)
  | succ m ih =>
    intro i hi g F h7 h0 hs
    obtain ⟨t, ht, hti⟩ := hm i (by omega)
    refine r_ae4 (t := t) F hn (by omega) h0 (by rw [h7]; exact hti) ht (ih (i + 1) (by omega) _ (SR_put F (by decide)) ((putN (by decide)).trans h7) (fun k hk => by rw [putN (by decide)]; exact h0 k hk) (fun k t' hk ht' hkt => ?_))
    rw [putS]
    by_cases q : t' = t
    · subst q
      exact pk_us
    · rw [pk_un q]
      rcases Nat.lt_or_ge k i with q2 | q2
      · exact hs k t' q2 ht' hkt
      · have : k = i := by omega
        subst this
        rw [hti] at hkt
        exact absurd ((nI_eq (by omega) (by omega)).mp hkt).symm q
theorem r_areEnough {g : LH} {d n : Nat} (F : SR g) (h1 : 1 ≤ n) (hn : n ≤ 10) (hm : ∀ k, k < n → ∃ t, t < 26 ∧ Gi g 367 k = nI t) : LW 300 (d + 1) 0 0 0 (lEnt (mL 300) [.ref 355, .int (nI n), .int 1]) [] g (fun v g' => v = some (.int 1) ∧ SR g' ∧ ∀ k t, k < n → t < 26 → Gi g 367 k = nI t → Gi g' 372 t = 0) := by
  refine LW_ls (ls' := [some (.ref 355), some (.int (nI n)), some (.int 1), none, none]) rfl ?_
  refine X_iconst (v := 0) rfl rfl rfl ?_
  refine X_istore_n (i := 3) (ls' := [some (.ref 355), some (.int (nI n)), some (.int 1), some (.int (nI 0)), none]) rfl rfl rfl (Nat.le_of_ble_eq_true rfl) rfl ?_
  refine r_ael hn (g0 := g) (fun g1 F1 h7 h0 => ?_) n 0 (by omega) g F rfl (fun k hk => absurd hk (Nat.not_lt_zero _))
  refine r_ae3 F1 hn h1 h0 ?_
  exact r_aeb hn (g0 := g) hm (fun g2 F2 hs => ⟨rfl, F2, hs⟩) n 0 (by omega) g1 F1 h7 h0 (fun k t hk => absurd hk (Nat.not_lt_zero _))
set_option maxRecDepth 10000 in
set_option maxHeartbeats 40000000 in
theorem r_sg0 {g : LH} {d n c i : Nat} {b : Int32} {Q : Option Value → LH → Prop} (F : SR g) (hi : i < 26) (hb : (((nI (n)) >>> ((nI (i)) &&& 31)) &&& (1 : Int32)) = (0 : Int32)) (k : LW 301 (d + 1) 0 0 43 [some (.ref 355), some (.int (nI (n))), some (.int b), some (.int (nI (c))), some (.int (nI (i + 1)))] [] (putI g 372 i (-1)) Q) : LW 301 (d + 1) 0 0 43 [some (.ref 355), some (.int (nI (n))), some (.int b), some (.int (nI (c))), some (.int (nI (i)))] [] g (Q) := by
  refine X_iload rfl rfl rfl ?_
  refine X_bipush (v := (26 : Int32)) rfl rfl rfl ?_
  refine X_icmp_ge (tgt := 87) rfl rfl rfl (fun h1 => ?_) (fun h1 => ?_)
  · exfalso
    simp only [Int32.lt_iff_toInt_lt, Int32.le_iff_toInt_le, ← Int32.toInt_inj, (show (26 : Int32).toInt = 26 from rfl), (nI_toInt (n := i) (by omega))] at h1
    omega
  · refine X_aload_n rfl rfl rfl rfl ?_
    refine X_getR (a := 372) rfl rfl rfl ((congrFun F.1 355).trans s_355) rfl ((congrFun (F.2.1 355 (by decide)) 36).trans r_355_36) ?_
    refine X_iload rfl rfl rfl ?_
    refine X_iconst (v := (-1 : Int32)) rfl rfl rfl ?_
    refine X_iast (k0 := i) rfl rfl ((congrFun F.1 372).trans s_372) (vp_in_nI (by omega) (by decide)) (nI_clamp (n := i) (by omega)) ?_
    refine X_iload_n rfl rfl rfl rfl ?_
    refine X_iload rfl rfl rfl ?_
    refine X_callS (as := [.int (nI (n)), .int (nI (i))]) (st := []) rfl rfl rfl (by decide) rfl (Nat.le_of_ble_eq_true rfl) (by decide) (Nat.le_of_ble_eq_true rfl) rfl ?_
    refine LW_ls (ls' := [some (.int (nI (n))), some (.int (nI (i)))]) rfl ?_
    refine X_iload_n rfl rfl rfl rfl ?_
    refine X_iload_n rfl rfl rfl rfl ?_
    refine X_ishr (v := ((nI (n)) >>> ((nI (i)) &&& 31))) rfl rfl rfl ?_
    refine X_iconst (v := (1 : Int32)) rfl rfl rfl ?_
    refine X_iand (v := (0 : Int32)) rfl rfl hb ?_
    refine X_iconst (v := (1 : Int32)) rfl rfl rfl ?_
    refine X_icmp_ne (tgt := 13) rfl rfl rfl (fun _ => ?_) (fun q => absurd q (by decide))
    refine X_iconst (v := (0 : Int32)) rfl rfl rfl ?_
    refine LW_ireturn (st := []) rfl rfl rfl ?_
    refine X_if_ne (tgt := 70) rfl rfl rfl (fun q => absurd q (by decide)) (fun _ => ?_)
    refine LW_goto (tgt := 81) rfl rfl ?_
    refine X_iinc (v := (nI (i + 1))) (ls' := [some (.ref 355), some (.int (nI (n))), some (.int b), some (.int (nI (c))), some (.int (nI (i + 1)))]) rfl rfl rfl (nI_add (i) 1) rfl ?_
    refine LW_goto (tgt := 43) rfl rfl ?_
    exact k
set_option maxRecDepth 10000 in
set_option maxHeartbeats 40000000 in
theorem r_sg1 {g : LH} {d n c i : Nat} {b : Int32} {Q : Option Value → LH → Prop} (F : SR g) (hi : i < 26) (hc : c < 26) (hb : (((nI (n)) >>> ((nI (i)) &&& 31)) &&& (1 : Int32)) = (1 : Int32)) (k : LW 301 (d + 1) 0 0 43 [some (.ref 355), some (.int (nI (n))), some (.int b), some (.int (nI (c + 1))), some (.int (nI (i + 1)))] [] (putI (putI g 372 i (-1)) 367 c (nI i)) Q) : LW 301 (d + 1) 0 0 43 [some (.ref 355), some (.int (nI (n))), some (.int b), some (.int (nI (c))), some (.int (nI (i)))] [] g (Q) := by
  refine X_iload rfl rfl rfl ?_
  refine X_bipush (v := (26 : Int32)) rfl rfl rfl ?_
  refine X_icmp_ge (tgt := 87) rfl rfl rfl (fun h1 => ?_) (fun h1 => ?_)
  · exfalso
    simp only [Int32.lt_iff_toInt_lt, Int32.le_iff_toInt_le, ← Int32.toInt_inj, (show (26 : Int32).toInt = 26 from rfl), (nI_toInt (n := i) (by omega))] at h1
    omega
  · refine X_aload_n rfl rfl rfl rfl ?_
    refine X_getR (a := 372) rfl rfl rfl ((congrFun F.1 355).trans s_355) rfl ((congrFun (F.2.1 355 (by decide)) 36).trans r_355_36) ?_
    refine X_iload rfl rfl rfl ?_
    refine X_iconst (v := (-1 : Int32)) rfl rfl rfl ?_
    refine X_iast (k0 := i) rfl rfl ((congrFun F.1 372).trans s_372) (vp_in_nI (by omega) (by decide)) (nI_clamp (n := i) (by omega)) ?_
    refine X_iload_n rfl rfl rfl rfl ?_
    refine X_iload rfl rfl rfl ?_
    refine X_callS (as := [.int (nI (n)), .int (nI (i))]) (st := []) rfl rfl rfl (by decide) rfl (Nat.le_of_ble_eq_true rfl) (by decide) (Nat.le_of_ble_eq_true rfl) rfl ?_
    refine LW_ls (ls' := [some (.int (nI (n))), some (.int (nI (i)))]) rfl ?_
    refine X_iload_n rfl rfl rfl rfl ?_
    refine X_iload_n rfl rfl rfl rfl ?_
    refine X_ishr (v := ((nI (n)) >>> ((nI (i)) &&& 31))) rfl rfl rfl ?_
    refine X_iconst (v := (1 : Int32)) rfl rfl rfl ?_
    refine X_iand (v := (1 : Int32)) rfl rfl hb ?_
    refine X_iconst (v := (1 : Int32)) rfl rfl rfl ?_
    refine X_icmp_ne (tgt := 13) rfl rfl rfl (fun q => absurd q (by decide)) (fun _ => ?_)
    refine X_iconst (v := (1 : Int32)) rfl rfl rfl ?_
    refine LW_goto (tgt := 14) rfl rfl ?_
    refine LW_ireturn (st := []) rfl rfl rfl ?_
    refine X_if_ne (tgt := 70) rfl rfl rfl (fun _ => ?_) (fun q => absurd q (by decide))
    refine X_aload_n rfl rfl rfl rfl ?_
    refine X_getR (a := 367) rfl rfl rfl ((congrFun F.1 355).trans s_355) rfl ((congrFun (F.2.1 355 (by decide)) 30).trans r_355_30) ?_
    refine X_iload_n rfl rfl rfl rfl ?_
    refine X_iload rfl rfl rfl ?_
    refine X_iast (k0 := c) rfl rfl ((congrFun F.1 367).trans s_367) (vp_in_nI (by omega) (by decide)) (nI_clamp (n := c) (by omega)) ?_
    refine X_iinc (v := (nI (c + 1))) (ls' := [some (.ref 355), some (.int (nI (n))), some (.int b), some (.int (nI (c + 1))), some (.int (nI (i)))]) rfl rfl rfl (nI_add (c) 1) rfl ?_
    refine X_iinc (v := (nI (i + 1))) (ls' := [some (.ref 355), some (.int (nI (n))), some (.int b), some (.int (nI (c + 1))), some (.int (nI (i + 1)))]) rfl rfl rfl (nI_add (i) 1) rfl ?_
    refine LW_goto (tgt := 43) rfl rfl ?_
    exact k
theorem pcn_lt (n i : Nat) : pcn i n ≤ i := pcn_le i n
theorem r_sgl {d n : Nat} {b : Int32} {Q : Option Value → LH → Prop} (hn : n < 2 ^ 31) (k : ∀ g', SR g' → MB g' n 26 → LW 301 (d + 1) 0 0 43 [some (.ref 355), some (.int (nI (n))), some (.int b), some (.int (nI (pcn 26 n))), some (.int (nI (26)))] [] g' Q) : ∀ (m i : Nat), i + m = 26 → ∀ g : LH, SR g → MB g n i → LW 301 (d + 1) 0 0 43 [some (.ref 355), some (.int (nI (n))), some (.int b), some (.int (nI (pcn i n))), some (.int (nI (i)))] [] g Q := by
  intro m
  induction m with
  | zero =>
    intro i hi g F h
    have hi : i = 26 := by omega
    subst hi
    exact k g F h
  | succ m ih =>
    intro i hi g F h
    have hbn := bit_nI (n := n) (k := i) hn (by omega)
    have hpl := pcn_lt n i
    by_cases hb : n / 2 ^ i % 2 = 1
    · rw [hb] at hbn
      have hp : pcn (i + 1) n = pcn i n + 1 := by rw [pcn_succ, hb]
      have h2 := ih (i + 1) (by omega) _ (SR_put (SR_put F (q := 372) (k := i) (z := -1) (by decide)) (q := 367) (k := pcn i n) (z := nI i) (by decide)) (MB_1 h (by omega) hb)
      rw [hp] at h2
      exact r_sg1 F (by omega) (by omega) hbn h2
    · have hb0 : n / 2 ^ i % 2 = 0 := by omega
      rw [hb0] at hbn
      have hp : pcn (i + 1) n = pcn i n := by rw [pcn_succ, hb0, Nat.add_zero]
      have h2 := ih (i + 1) (by omega) _ (SR_put F (q := 372) (k := i) (z := -1) (by decide)) (MB_0 h hb0)
      rw [hp] at h2
      exact r_sg0 F (by omega) hbn h2
set_option maxRecDepth 10000 in
set_option maxHeartbeats 40000000 in
theorem r_sge_m1 {g : LH} {d n mm : Nat} {Q : Option Value → LH → Prop} (F : SR g) (hm1 : 1 ≤ mm) (hm6 : mm ≤ 6) (hm : ∀ k, k < mm → ∃ t, t < 26 ∧ Gi g 367 k = nI t) (k : ∀ g', Q (some (.int 1)) g') : LW 301 (d + 2) 0 0 43 [some (.ref 355), some (.int (nI (n))), some (.int (-1 : Int32)), some (.int (nI (mm))), some (.int (nI (26)))] [] g (Q) := by
  refine X_iload rfl rfl rfl ?_
  refine X_bipush (v := (26 : Int32)) rfl rfl rfl ?_
  refine X_icmp_ge (tgt := 87) rfl rfl rfl (fun h1 => ?_) (fun h1 => ?_)
  · refine X_iconst (v := (1 : Int32)) rfl rfl rfl ?_
    refine X_istore (i := 4) (ls' := [some (.ref 355), some (.int (nI (n))), some (.int (-1 : Int32)), some (.int (nI (mm))), some (.int (1 : Int32))]) rfl rfl (Nat.le_of_ble_eq_true rfl) rfl ?_
    refine X_iload rfl rfl rfl ?_
    refine X_iload_n rfl rfl rfl rfl ?_
    refine X_icmp_gt (tgt := 129) rfl rfl rfl (fun h2 => ?_) (fun h2 => ?_)
    · exfalso
      simp only [Int32.lt_iff_toInt_lt, Int32.le_iff_toInt_le, ← Int32.toInt_inj, (show (1 : Int32).toInt = 1 from rfl), (show (26 : Int32).toInt = 26 from rfl), (nI_toInt (n := 26) (by omega)), (nI_toInt (n := mm) (by omega))] at h1 h2
      omega
    · refine X_aload_n rfl rfl rfl rfl ?_
      refine X_iload_n rfl rfl rfl rfl ?_
      refine X_iload rfl rfl rfl ?_
      refine Y_callV (as := [.int (nI (mm)), .int (1 : Int32)]) (st := []) rfl rfl rfl (by decide) rfl (Nat.le_of_ble_eq_true rfl) (by decide) (Nat.le_of_ble_eq_true rfl) rfl ((congrFun F.1 355).trans s_355) (by decide) (r_areEnough F hm1 (by omega) hm) ?_
      rintro _ g' ⟨rfl, F', hs'⟩
      refine X_if_eq (tgt := 123) rfl rfl rfl (fun q => absurd q (by decide)) (fun _ => ?_)
      refine X_iload_n rfl rfl rfl rfl ?_
      refine X_iconst (v := (-1 : Int32)) rfl rfl rfl ?_
      refine X_icmp_ne (tgt := 116) rfl rfl rfl (fun q => absurd q (by decide)) (fun _ => ?_)
      refine X_iload rfl rfl rfl ?_
      refine LW_goto (tgt := 122) rfl rfl ?_
      exact LW_ireturn (st := []) rfl rfl rfl (k _)
  · exfalso
    simp only [Int32.lt_iff_toInt_lt, Int32.le_iff_toInt_le, ← Int32.toInt_inj, (show (26 : Int32).toInt = 26 from rfl), (nI_toInt (n := 26) (by omega))] at h1
    omega
set_option maxRecDepth 10000 in
set_option maxHeartbeats 40000000 in
theorem r_sge_l {g : LH} {d n l mm : Nat} {Q : Option Value → LH → Prop} (F : SR g) (hm1 : 1 ≤ mm) (hm6 : mm ≤ 6) (hm : ∀ k, k < mm → ∃ t, t < 26 ∧ Gi g 367 k = nI t) (hl : l < 26) (hx : ∃ k, k < mm ∧ Gi g 367 k = nI l) (k : ∀ g', Q (some (.int 0)) g') : LW 301 (d + 2) 0 0 43 [some (.ref 355), some (.int (nI (n))), some (.int (nI (l))), some (.int (nI (mm))), some (.int (nI (26)))] [] g (Q) := by
  refine X_iload rfl rfl rfl ?_
  refine X_bipush (v := (26 : Int32)) rfl rfl rfl ?_
  refine X_icmp_ge (tgt := 87) rfl rfl rfl (fun h1 => ?_) (fun h1 => ?_)
  · refine X_iconst (v := (1 : Int32)) rfl rfl rfl ?_
    refine X_istore (i := 4) (ls' := [some (.ref 355), some (.int (nI (n))), some (.int (nI (l))), some (.int (nI (mm))), some (.int (1 : Int32))]) rfl rfl (Nat.le_of_ble_eq_true rfl) rfl ?_
    refine X_iload rfl rfl rfl ?_
    refine X_iload_n rfl rfl rfl rfl ?_
    refine X_icmp_gt (tgt := 129) rfl rfl rfl (fun h2 => ?_) (fun h2 => ?_)
    · exfalso
      simp only [Int32.lt_iff_toInt_lt, Int32.le_iff_toInt_le, ← Int32.toInt_inj, (show (1 : Int32).toInt = 1 from rfl), (show (26 : Int32).toInt = 26 from rfl), (nI_toInt (n := 26) (by omega)), (nI_toInt (n := mm) (by omega))] at h1 h2
      omega
    · refine X_aload_n rfl rfl rfl rfl ?_
      refine X_iload_n rfl rfl rfl rfl ?_
      refine X_iload rfl rfl rfl ?_
      refine Y_callV (as := [.int (nI (mm)), .int (1 : Int32)]) (st := []) rfl rfl rfl (by decide) rfl (Nat.le_of_ble_eq_true rfl) (by decide) (Nat.le_of_ble_eq_true rfl) rfl ((congrFun F.1 355).trans s_355) (by decide) (r_areEnough F hm1 (by omega) hm) ?_
      rintro _ g' ⟨rfl, F', hs'⟩
      refine X_if_eq (tgt := 123) rfl rfl rfl (fun q => absurd q (by decide)) (fun _ => ?_)
      refine X_iload_n rfl rfl rfl rfl ?_
      refine X_iconst (v := (-1 : Int32)) rfl rfl rfl ?_
      refine X_icmp_ne (tgt := 116) rfl rfl rfl (fun h3 => ?_) (fun h3 => ?_)
      · obtain ⟨kk, hk1, hk2⟩ := hx
        refine X_aload_n rfl rfl rfl rfl ?_
        refine X_getR (a := 372) rfl rfl rfl ((congrFun F'.1 355).trans s_355) rfl ((congrFun (F'.2.1 355 (by decide)) 36).trans r_355_36) ?_
        refine X_iload_n rfl rfl rfl rfl ?_
        refine X_iald (v := (0 : Int32)) rfl rfl ((congrFun F'.1 372).trans s_372) (vp_in_nI (by omega) (by decide)) ((congrArg (Gi _ 372) (nI_clamp (n := l) (by omega))).trans (hs' kk l hk1 hl hk2)) ?_
        exact LW_ireturn (st := []) rfl rfl rfl (k _)
      · exfalso
        simp only [Int32.lt_iff_toInt_lt, Int32.le_iff_toInt_le, ← Int32.toInt_inj, (show (-1 : Int32).toInt = -1 from rfl), (show (1 : Int32).toInt = 1 from rfl), (show (26 : Int32).toInt = 26 from rfl), (nI_toInt (n := 26) (by omega)), (nI_toInt (n := l) (by omega)), (nI_toInt (n := mm) (by omega))] at h1 h2 h3
        omega
  · exfalso
    simp only [Int32.lt_iff_toInt_lt, Int32.le_iff_toInt_le, ← Int32.toInt_inj, (show (26 : Int32).toInt = 26 from rfl), (nI_toInt (n := 26) (by omega))] at h1
    omega
theorem MB_new {g : LH} {n : Nat} : MB g n 0 := ⟨fun k hk => absurd hk (Nat.not_lt_zero _), fun t ht => absurd ht (Nat.not_lt_zero _)⟩
set_option maxRecDepth 10000 in
set_option maxHeartbeats 40000000 in
theorem r_sg_out {g : LH} (F : Fr g) (a b : Int32) (hr : ¬ (1 ≤ a.toInt ∧ a.toInt ≤ 67108863)) : LW 301 30 0 0 0 (lEnt (mL 301) [.ref 355, .int a, .int b]) [] g (fun v _ => v = some (.int (-1))) := by
  refine LW_ls (ls' := [some (.ref 355), some (.int a), some (.int b), none, none]) rfl ?_
  refine X_iload_n rfl rfl rfl rfl ?_
  refine X_callS (as := [.int a]) (st := []) rfl rfl rfl (by decide) rfl (Nat.le_of_ble_eq_true rfl) (by decide) (Nat.le_of_ble_eq_true rfl) rfl ?_
  refine LW_ls (ls' := [some (.int a)]) rfl ?_
  refine X_iload_n rfl rfl rfl rfl ?_
  refine X_iconst (v := (1 : Int32)) rfl rfl rfl ?_
  refine X_ldc (v := (67108863 : Int32)) rfl rfl rfl ?_
  refine X_callS (as := [.int a, .int (1 : Int32), .int (67108863 : Int32)]) (st := []) rfl rfl rfl (by decide) rfl (Nat.le_of_ble_eq_true rfl) (by decide) (Nat.le_of_ble_eq_true rfl) rfl ?_
  refine LW_ls (ls' := [some (.int a), some (.int (1 : Int32)), some (.int (67108863 : Int32))]) rfl ?_
  refine X_iload_n rfl rfl rfl rfl ?_
  refine X_iload_n rfl rfl rfl rfl ?_
  refine X_icmp_lt (tgt := 14) rfl rfl rfl (fun h1 => ?_) (fun h1 => ?_)
  · refine X_iconst (v := (0 : Int32)) rfl rfl rfl ?_
    refine LW_ireturn (st := []) rfl rfl rfl ?_
    refine LW_ireturn (st := []) rfl rfl rfl ?_
    refine X_if_eq (tgt := 36) rfl rfl rfl (fun _ => ?_) (fun q => absurd q (by decide))
    refine X_iconst (v := (-1 : Int32)) rfl rfl rfl ?_
    exact LW_ireturn (st := []) rfl rfl rfl rfl
  · refine X_iload_n rfl rfl rfl rfl ?_
    refine X_iload_n rfl rfl rfl rfl ?_
    refine X_icmp_gt (tgt := 14) rfl rfl rfl (fun h2 => ?_) (fun h2 => ?_)
    · refine X_iconst (v := (0 : Int32)) rfl rfl rfl ?_
      refine LW_ireturn (st := []) rfl rfl rfl ?_
      refine LW_ireturn (st := []) rfl rfl rfl ?_
      refine X_if_eq (tgt := 36) rfl rfl rfl (fun _ => ?_) (fun q => absurd q (by decide))
      refine X_iconst (v := (-1 : Int32)) rfl rfl rfl ?_
      exact LW_ireturn (st := []) rfl rfl rfl rfl
    · refine X_iconst (v := (1 : Int32)) rfl rfl rfl ?_
      refine LW_goto (tgt := 15) rfl rfl ?_
      refine LW_ireturn (st := []) rfl rfl rfl ?_
      refine LW_ireturn (st := []) rfl rfl rfl ?_
      refine X_if_eq (tgt := 36) rfl rfl rfl (fun q => absurd q (by decide)) (fun _ => ?_)
      exfalso
      simp only [Int32.lt_iff_toInt_lt, Int32.le_iff_toInt_le, ← Int32.toInt_inj, (show (1 : Int32).toInt = 1 from rfl), (show (67108863 : Int32).toInt = 67108863 from rfl)] at h1 h2
      omega
set_option maxRecDepth 10000 in
set_option maxHeartbeats 40000000 in
theorem r_sg_big {g : LH} (F : Fr g) {n p : Nat} (h0 : 1 ≤ n) (hn : n < 2 ^ 26) (hp : pcn 26 n = p) (h32 : p ≤ 32) (hs6 : 6 < p) (b : Int32) : LW 301 30 0 0 0 (lEnt (mL 301) [.ref 355, .int (nI (n)), .int b]) [] g (fun v _ => v = some (.int (-1))) := by
  refine LW_ls (ls' := [some (.ref 355), some (.int (nI (n))), some (.int b), none, none]) rfl ?_
  refine X_iload_n rfl rfl rfl rfl ?_
  refine X_callS (as := [.int (nI (n))]) (st := []) rfl rfl rfl (by decide) rfl (Nat.le_of_ble_eq_true rfl) (by decide) (Nat.le_of_ble_eq_true rfl) rfl ?_
  refine LW_ls (ls' := [some (.int (nI (n)))]) rfl ?_
  refine X_iload_n rfl rfl rfl rfl ?_
  refine X_iconst (v := (1 : Int32)) rfl rfl rfl ?_
  refine X_ldc (v := (67108863 : Int32)) rfl rfl rfl ?_
  refine X_callS (as := [.int (nI (n)), .int (1 : Int32), .int (67108863 : Int32)]) (st := []) rfl rfl rfl (by decide) rfl (Nat.le_of_ble_eq_true rfl) (by decide) (Nat.le_of_ble_eq_true rfl) rfl ?_
  refine LW_ls (ls' := [some (.int (nI (n))), some (.int (1 : Int32)), some (.int (67108863 : Int32))]) rfl ?_
  refine X_iload_n rfl rfl rfl rfl ?_
  refine X_iload_n rfl rfl rfl rfl ?_
  refine X_icmp_lt (tgt := 14) rfl rfl rfl (fun h1 => ?_) (fun h1 => ?_)
  · exfalso
    simp only [Int32.lt_iff_toInt_lt, Int32.le_iff_toInt_le, ← Int32.toInt_inj, (show (1 : Int32).toInt = 1 from rfl), (nI_toInt (n := n) (by omega))] at h1
    omega
  · refine X_iload_n rfl rfl rfl rfl ?_
    refine X_iload_n rfl rfl rfl rfl ?_
    refine X_icmp_gt (tgt := 14) rfl rfl rfl (fun h2 => ?_) (fun h2 => ?_)
    · exfalso
      simp only [Int32.lt_iff_toInt_lt, Int32.le_iff_toInt_le, ← Int32.toInt_inj, (show (1 : Int32).toInt = 1 from rfl), (show (67108863 : Int32).toInt = 67108863 from rfl), (nI_toInt (n := n) (by omega))] at h1 h2
      omega
    · refine X_iconst (v := (1 : Int32)) rfl rfl rfl ?_
      refine LW_goto (tgt := 15) rfl rfl ?_
      refine LW_ireturn (st := []) rfl rfl rfl ?_
      refine LW_ireturn (st := []) rfl rfl rfl ?_
      refine X_if_eq (tgt := 36) rfl rfl rfl (fun q => absurd q (by decide)) (fun _ => ?_)
      refine X_iload_n rfl rfl rfl rfl ?_
      refine Y_callS (as := [.int (nI (n))]) (st := []) rfl rfl rfl (by decide) rfl (Nat.le_of_ble_eq_true rfl) (by decide) (Nat.le_of_ble_eq_true rfl) rfl (r_bits (n := n) (by omega)) ?_
      rintro _ _ ⟨rfl, rfl⟩
      refine LW_eqv (v := nI p) (congrArg nI hp) ?_
      refine X_bipush (v := (6 : Int32)) rfl rfl rfl ?_
      refine X_icmp_gt (tgt := 36) rfl rfl rfl (fun h3 => ?_) (fun h3 => ?_)
      · refine X_iconst (v := (-1 : Int32)) rfl rfl rfl ?_
        exact LW_ireturn (st := []) rfl rfl rfl rfl
      · exfalso
        simp only [Int32.lt_iff_toInt_lt, Int32.le_iff_toInt_le, ← Int32.toInt_inj, (show (1 : Int32).toInt = 1 from rfl), (show (6 : Int32).toInt = 6 from rfl), (show (67108863 : Int32).toInt = 67108863 from rfl), (nI_toInt (n := n) (by omega)), (nI_toInt (n := p) (by omega))] at h1 h2 h3
        omega
set_option maxRecDepth 10000 in
set_option maxHeartbeats 40000000 in
theorem r_sg_m1 {g : LH} (F : Fr g) {n p : Nat} (h0 : 1 ≤ n) (hn : n < 2 ^ 26) (hp : pcn 26 n = p) (h32 : p ≤ 32) (hs6 : p ≤ 6) (hp1 : 1 ≤ p) : LW 301 30 0 0 0 (lEnt (mL 301) [.ref 355, .int (nI (n)), .int (-1 : Int32)]) [] g (fun v _ => v = some (.int (1))) := by
  refine LW_ls (ls' := [some (.ref 355), some (.int (nI (n))), some (.int (-1 : Int32)), none, none]) rfl ?_
  refine X_iload_n rfl rfl rfl rfl ?_
  refine X_callS (as := [.int (nI (n))]) (st := []) rfl rfl rfl (by decide) rfl (Nat.le_of_ble_eq_true rfl) (by decide) (Nat.le_of_ble_eq_true rfl) rfl ?_
  refine LW_ls (ls' := [some (.int (nI (n)))]) rfl ?_
  refine X_iload_n rfl rfl rfl rfl ?_
  refine X_iconst (v := (1 : Int32)) rfl rfl rfl ?_
  refine X_ldc (v := (67108863 : Int32)) rfl rfl rfl ?_
  refine X_callS (as := [.int (nI (n)), .int (1 : Int32), .int (67108863 : Int32)]) (st := []) rfl rfl rfl (by decide) rfl (Nat.le_of_ble_eq_true rfl) (by decide) (Nat.le_of_ble_eq_true rfl) rfl ?_
  refine LW_ls (ls' := [some (.int (nI (n))), some (.int (1 : Int32)), some (.int (67108863 : Int32))]) rfl ?_
  refine X_iload_n rfl rfl rfl rfl ?_
  refine X_iload_n rfl rfl rfl rfl ?_
  refine X_icmp_lt (tgt := 14) rfl rfl rfl (fun h1 => ?_) (fun h1 => ?_)
  · exfalso
    simp only [Int32.lt_iff_toInt_lt, Int32.le_iff_toInt_le, ← Int32.toInt_inj, (show (1 : Int32).toInt = 1 from rfl), (nI_toInt (n := n) (by omega))] at h1
    omega
  · refine X_iload_n rfl rfl rfl rfl ?_
    refine X_iload_n rfl rfl rfl rfl ?_
    refine X_icmp_gt (tgt := 14) rfl rfl rfl (fun h2 => ?_) (fun h2 => ?_)
    · exfalso
      simp only [Int32.lt_iff_toInt_lt, Int32.le_iff_toInt_le, ← Int32.toInt_inj, (show (1 : Int32).toInt = 1 from rfl), (show (67108863 : Int32).toInt = 67108863 from rfl), (nI_toInt (n := n) (by omega))] at h1 h2
      omega
    · refine X_iconst (v := (1 : Int32)) rfl rfl rfl ?_
      refine LW_goto (tgt := 15) rfl rfl ?_
      refine LW_ireturn (st := []) rfl rfl rfl ?_
      refine LW_ireturn (st := []) rfl rfl rfl ?_
      refine X_if_eq (tgt := 36) rfl rfl rfl (fun q => absurd q (by decide)) (fun _ => ?_)
      refine X_iload_n rfl rfl rfl rfl ?_
      refine Y_callS (as := [.int (nI (n))]) (st := []) rfl rfl rfl (by decide) rfl (Nat.le_of_ble_eq_true rfl) (by decide) (Nat.le_of_ble_eq_true rfl) rfl (r_bits (n := n) (by omega)) ?_
      rintro _ _ ⟨rfl, rfl⟩
      refine LW_eqv (v := nI p) (congrArg nI hp) ?_
      refine X_bipush (v := (6 : Int32)) rfl rfl rfl ?_
      refine X_icmp_gt (tgt := 36) rfl rfl rfl (fun h3 => ?_) (fun h3 => ?_)
      · exfalso
        simp only [Int32.lt_iff_toInt_lt, Int32.le_iff_toInt_le, ← Int32.toInt_inj, (show (1 : Int32).toInt = 1 from rfl), (show (6 : Int32).toInt = 6 from rfl), (show (67108863 : Int32).toInt = 67108863 from rfl), (nI_toInt (n := n) (by omega)), (nI_toInt (n := p) (by omega))] at h1 h2 h3
        omega
      · refine X_iload_n rfl rfl rfl rfl ?_
        refine X_iconst (v := (-1 : Int32)) rfl rfl rfl ?_
        refine X_icmp_eq (tgt := 38) rfl rfl rfl (fun _ => ?_) (fun q => absurd q (by decide))
        refine X_iconst (v := (0 : Int32)) rfl rfl rfl ?_
        refine X_istore_n (i := 3) (ls' := [some (.ref 355), some (.int (nI (n))), some (.int (-1 : Int32)), some (.int (0 : Int32)), none]) rfl rfl rfl (Nat.le_of_ble_eq_true rfl) rfl ?_
        refine X_iconst (v := (0 : Int32)) rfl rfl rfl ?_
        refine X_istore (i := 4) (ls' := [some (.ref 355), some (.int (nI (n))), some (.int (-1 : Int32)), some (.int (0 : Int32)), some (.int (0 : Int32))]) rfl rfl (Nat.le_of_ble_eq_true rfl) rfl ?_
        exact r_sgl (by omega) (fun g' F' hM => r_sge_m1 F' (by omega) (by omega) hM.1 (fun _ => rfl)) 26 0 rfl _ (SR_new F) MB_new
set_option maxRecDepth 10000 in
set_option maxHeartbeats 40000000 in
theorem r_sg_in {g : LH} (F : Fr g) {n l p : Nat} (h0 : 1 ≤ n) (hn : n < 2 ^ 26) (hp : pcn 26 n = p) (h32 : p ≤ 32) (hs6 : p ≤ 6) (hp1 : 1 ≤ p) (hl : l < 26) (hb1 : n / 2 ^ l % 2 = 1) (hb : (((nI (n)) >>> ((nI (l)) &&& 31)) &&& (1 : Int32)) = (1 : Int32)) : LW 301 30 0 0 0 (lEnt (mL 301) [.ref 355, .int (nI (n)), .int (nI (l))]) [] g (fun v _ => v = some (.int (0))) := by
  refine LW_ls (ls' := [some (.ref 355), some (.int (nI (n))), some (.int (nI (l))), none, none]) rfl ?_
  refine X_iload_n rfl rfl rfl rfl ?_
  refine X_callS (as := [.int (nI (n))]) (st := []) rfl rfl rfl (by decide) rfl (Nat.le_of_ble_eq_true rfl) (by decide) (Nat.le_of_ble_eq_true rfl) rfl ?_
  refine LW_ls (ls' := [some (.int (nI (n)))]) rfl ?_
  refine X_iload_n rfl rfl rfl rfl ?_
  refine X_iconst (v := (1 : Int32)) rfl rfl rfl ?_
  refine X_ldc (v := (67108863 : Int32)) rfl rfl rfl ?_
  refine X_callS (as := [.int (nI (n)), .int (1 : Int32), .int (67108863 : Int32)]) (st := []) rfl rfl rfl (by decide) rfl (Nat.le_of_ble_eq_true rfl) (by decide) (Nat.le_of_ble_eq_true rfl) rfl ?_
  refine LW_ls (ls' := [some (.int (nI (n))), some (.int (1 : Int32)), some (.int (67108863 : Int32))]) rfl ?_
  refine X_iload_n rfl rfl rfl rfl ?_
  refine X_iload_n rfl rfl rfl rfl ?_
  refine X_icmp_lt (tgt := 14) rfl rfl rfl (fun h1 => ?_) (fun h1 => ?_)
  · exfalso
    simp only [Int32.lt_iff_toInt_lt, Int32.le_iff_toInt_le, ← Int32.toInt_inj, (show (1 : Int32).toInt = 1 from rfl), (nI_toInt (n := n) (by omega))] at h1
    omega
  · refine X_iload_n rfl rfl rfl rfl ?_
    refine X_iload_n rfl rfl rfl rfl ?_
    refine X_icmp_gt (tgt := 14) rfl rfl rfl (fun h2 => ?_) (fun h2 => ?_)
    · exfalso
      simp only [Int32.lt_iff_toInt_lt, Int32.le_iff_toInt_le, ← Int32.toInt_inj, (show (1 : Int32).toInt = 1 from rfl), (show (67108863 : Int32).toInt = 67108863 from rfl), (nI_toInt (n := n) (by omega))] at h1 h2
      omega
    · refine X_iconst (v := (1 : Int32)) rfl rfl rfl ?_
      refine LW_goto (tgt := 15) rfl rfl ?_
      refine LW_ireturn (st := []) rfl rfl rfl ?_
      refine LW_ireturn (st := []) rfl rfl rfl ?_
      refine X_if_eq (tgt := 36) rfl rfl rfl (fun q => absurd q (by decide)) (fun _ => ?_)
      refine X_iload_n rfl rfl rfl rfl ?_
      refine Y_callS (as := [.int (nI (n))]) (st := []) rfl rfl rfl (by decide) rfl (Nat.le_of_ble_eq_true rfl) (by decide) (Nat.le_of_ble_eq_true rfl) rfl (r_bits (n := n) (by omega)) ?_
      rintro _ _ ⟨rfl, rfl⟩
      refine LW_eqv (v := nI p) (congrArg nI hp) ?_
      refine X_bipush (v := (6 : Int32)) rfl rfl rfl ?_
      refine X_icmp_gt (tgt := 36) rfl rfl rfl (fun h3 => ?_) (fun h3 => ?_)
      · exfalso
        simp only [Int32.lt_iff_toInt_lt, Int32.le_iff_toInt_le, ← Int32.toInt_inj, (show (1 : Int32).toInt = 1 from rfl), (show (6 : Int32).toInt = 6 from rfl), (show (67108863 : Int32).toInt = 67108863 from rfl), (nI_toInt (n := n) (by omega)), (nI_toInt (n := p) (by omega))] at h1 h2 h3
        omega
      · refine X_iload_n rfl rfl rfl rfl ?_
        refine X_iconst (v := (-1 : Int32)) rfl rfl rfl ?_
        refine X_icmp_eq (tgt := 38) rfl rfl rfl (fun h4 => ?_) (fun h4 => ?_)
        · exfalso
          simp only [Int32.lt_iff_toInt_lt, Int32.le_iff_toInt_le, ← Int32.toInt_inj, (show (-1 : Int32).toInt = -1 from rfl), (show (1 : Int32).toInt = 1 from rfl), (show (6 : Int32).toInt = 6 from rfl), (show (67108863 : Int32).toInt = 67108863 from rfl), (nI_toInt (n := l) (by omega)), (nI_toInt (n := n) (by omega)), (nI_toInt (n := p) (by omega))] at h1 h2 h3 h4
          omega
        · refine X_iload_n rfl rfl rfl rfl ?_
          refine X_callS (as := [.int (nI (l))]) (st := []) rfl rfl rfl (by decide) rfl (Nat.le_of_ble_eq_true rfl) (by decide) (Nat.le_of_ble_eq_true rfl) rfl ?_
          refine LW_ls (ls' := [some (.int (nI (l)))]) rfl ?_
          refine X_iload_n rfl rfl rfl rfl ?_
          refine X_iconst (v := (0 : Int32)) rfl rfl rfl ?_
          refine X_bipush (v := (25 : Int32)) rfl rfl rfl ?_
          refine X_callS (as := [.int (nI (l)), .int (0 : Int32), .int (25 : Int32)]) (st := []) rfl rfl rfl (by decide) rfl (Nat.le_of_ble_eq_true rfl) (by decide) (Nat.le_of_ble_eq_true rfl) rfl ?_
          refine LW_ls (ls' := [some (.int (nI (l))), some (.int (0 : Int32)), some (.int (25 : Int32))]) rfl ?_
          refine X_iload_n rfl rfl rfl rfl ?_
          refine X_iload_n rfl rfl rfl rfl ?_
          refine X_icmp_lt (tgt := 14) rfl rfl rfl (fun h5 => ?_) (fun h5 => ?_)
          · exfalso
            simp only [Int32.lt_iff_toInt_lt, Int32.le_iff_toInt_le, ← Int32.toInt_inj, (show (-1 : Int32).toInt = -1 from rfl), (show (0 : Int32).toInt = 0 from rfl), (show (1 : Int32).toInt = 1 from rfl), (show (6 : Int32).toInt = 6 from rfl), (show (67108863 : Int32).toInt = 67108863 from rfl), (nI_toInt (n := l) (by omega)), (nI_toInt (n := n) (by omega)), (nI_toInt (n := p) (by omega))] at h1 h2 h3 h4 h5
            omega
          · refine X_iload_n rfl rfl rfl rfl ?_
            refine X_iload_n rfl rfl rfl rfl ?_
            refine X_icmp_gt (tgt := 14) rfl rfl rfl (fun h6 => ?_) (fun h6 => ?_)
            · exfalso
              simp only [Int32.lt_iff_toInt_lt, Int32.le_iff_toInt_le, ← Int32.toInt_inj, (show (-1 : Int32).toInt = -1 from rfl), (show (0 : Int32).toInt = 0 from rfl), (show (1 : Int32).toInt = 1 from rfl), (show (6 : Int32).toInt = 6 from rfl), (show (25 : Int32).toInt = 25 from rfl), (show (67108863 : Int32).toInt = 67108863 from rfl), (nI_toInt (n := l) (by omega)), (nI_toInt (n := n) (by omega)), (nI_toInt (n := p) (by omega))] at h1 h2 h3 h4 h5 h6
              omega
            · refine X_iconst (v := (1 : Int32)) rfl rfl rfl ?_
              refine LW_goto (tgt := 15) rfl rfl ?_
              refine LW_ireturn (st := []) rfl rfl rfl ?_
              refine LW_ireturn (st := []) rfl rfl rfl ?_
              refine X_if_eq (tgt := 36) rfl rfl rfl (fun q => absurd q (by decide)) (fun _ => ?_)
              refine X_iload_n rfl rfl rfl rfl ?_
              refine X_iload_n rfl rfl rfl rfl ?_
              refine X_callS (as := [.int (nI (n)), .int (nI (l))]) (st := []) rfl rfl rfl (by decide) rfl (Nat.le_of_ble_eq_true rfl) (by decide) (Nat.le_of_ble_eq_true rfl) rfl ?_
              refine LW_ls (ls' := [some (.int (nI (n))), some (.int (nI (l)))]) rfl ?_
              refine X_iload_n rfl rfl rfl rfl ?_
              refine X_iload_n rfl rfl rfl rfl ?_
              refine X_ishr (v := ((nI (n)) >>> ((nI (l)) &&& 31))) rfl rfl rfl ?_
              refine X_iconst (v := (1 : Int32)) rfl rfl rfl ?_
              refine X_iand (v := (1 : Int32)) rfl rfl hb ?_
              refine X_iconst (v := (1 : Int32)) rfl rfl rfl ?_
              refine X_icmp_ne (tgt := 13) rfl rfl rfl (fun q => absurd q (by decide)) (fun _ => ?_)
              refine X_iconst (v := (1 : Int32)) rfl rfl rfl ?_
              refine LW_goto (tgt := 14) rfl rfl ?_
              refine LW_ireturn (st := []) rfl rfl rfl ?_
              refine X_if_ne (tgt := 38) rfl rfl rfl (fun _ => ?_) (fun q => absurd q (by decide))
              refine X_iconst (v := (0 : Int32)) rfl rfl rfl ?_
              refine X_istore_n (i := 3) (ls' := [some (.ref 355), some (.int (nI (n))), some (.int (nI (l))), some (.int (0 : Int32)), none]) rfl rfl rfl (Nat.le_of_ble_eq_true rfl) rfl ?_
              refine X_iconst (v := (0 : Int32)) rfl rfl rfl ?_
              refine X_istore (i := 4) (ls' := [some (.ref 355), some (.int (nI (n))), some (.int (nI (l))), some (.int (0 : Int32)), some (.int (0 : Int32))]) rfl rfl (Nat.le_of_ble_eq_true rfl) rfl ?_
              exact r_sgl (by omega) (fun g' F' hM => r_sge_l F' (by omega) (by omega) hM.1 hl (hM.2 l hl hb1) (fun _ => rfl)) 26 0 rfl _ (SR_new F) MB_new
set_option maxRecDepth 10000 in
set_option maxHeartbeats 40000000 in
theorem r_sg_no {g : LH} (F : Fr g) {n l p : Nat} (h0 : 1 ≤ n) (hn : n < 2 ^ 26) (hp : pcn 26 n = p) (h32 : p ≤ 32) (hs6 : p ≤ 6) (hl : l < 26) (hb : (((nI (n)) >>> ((nI (l)) &&& 31)) &&& (1 : Int32)) = (0 : Int32)) : LW 301 30 0 0 0 (lEnt (mL 301) [.ref 355, .int (nI (n)), .int (nI (l))]) [] g (fun v _ => v = some (.int (-1))) := by
  refine LW_ls (ls' := [some (.ref 355), some (.int (nI (n))), some (.int (nI (l))), none, none]) rfl ?_
  refine X_iload_n rfl rfl rfl rfl ?_
  refine X_callS (as := [.int (nI (n))]) (st := []) rfl rfl rfl (by decide) rfl (Nat.le_of_ble_eq_true rfl) (by decide) (Nat.le_of_ble_eq_true rfl) rfl ?_
  refine LW_ls (ls' := [some (.int (nI (n)))]) rfl ?_
  refine X_iload_n rfl rfl rfl rfl ?_
  refine X_iconst (v := (1 : Int32)) rfl rfl rfl ?_
  refine X_ldc (v := (67108863 : Int32)) rfl rfl rfl ?_
  refine X_callS (as := [.int (nI (n)), .int (1 : Int32), .int (67108863 : Int32)]) (st := []) rfl rfl rfl (by decide) rfl (Nat.le_of_ble_eq_true rfl) (by decide) (Nat.le_of_ble_eq_true rfl) rfl ?_
  refine LW_ls (ls' := [some (.int (nI (n))), some (.int (1 : Int32)), some (.int (67108863 : Int32))]) rfl ?_
  refine X_iload_n rfl rfl rfl rfl ?_
  refine X_iload_n rfl rfl rfl rfl ?_
  refine X_icmp_lt (tgt := 14) rfl rfl rfl (fun h1 => ?_) (fun h1 => ?_)
  · exfalso
    simp only [Int32.lt_iff_toInt_lt, Int32.le_iff_toInt_le, ← Int32.toInt_inj, (show (1 : Int32).toInt = 1 from rfl), (nI_toInt (n := n) (by omega))] at h1
    omega
  · refine X_iload_n rfl rfl rfl rfl ?_
    refine X_iload_n rfl rfl rfl rfl ?_
    refine X_icmp_gt (tgt := 14) rfl rfl rfl (fun h2 => ?_) (fun h2 => ?_)
    · exfalso
      simp only [Int32.lt_iff_toInt_lt, Int32.le_iff_toInt_le, ← Int32.toInt_inj, (show (1 : Int32).toInt = 1 from rfl), (show (67108863 : Int32).toInt = 67108863 from rfl), (nI_toInt (n := n) (by omega))] at h1 h2
      omega
    · refine X_iconst (v := (1 : Int32)) rfl rfl rfl ?_
      refine LW_goto (tgt := 15) rfl rfl ?_
      refine LW_ireturn (st := []) rfl rfl rfl ?_
      refine LW_ireturn (st := []) rfl rfl rfl ?_
      refine X_if_eq (tgt := 36) rfl rfl rfl (fun q => absurd q (by decide)) (fun _ => ?_)
      refine X_iload_n rfl rfl rfl rfl ?_
      refine Y_callS (as := [.int (nI (n))]) (st := []) rfl rfl rfl (by decide) rfl (Nat.le_of_ble_eq_true rfl) (by decide) (Nat.le_of_ble_eq_true rfl) rfl (r_bits (n := n) (by omega)) ?_
      rintro _ _ ⟨rfl, rfl⟩
      refine LW_eqv (v := nI p) (congrArg nI hp) ?_
      refine X_bipush (v := (6 : Int32)) rfl rfl rfl ?_
      refine X_icmp_gt (tgt := 36) rfl rfl rfl (fun h3 => ?_) (fun h3 => ?_)
      · exfalso
        simp only [Int32.lt_iff_toInt_lt, Int32.le_iff_toInt_le, ← Int32.toInt_inj, (show (1 : Int32).toInt = 1 from rfl), (show (6 : Int32).toInt = 6 from rfl), (show (67108863 : Int32).toInt = 67108863 from rfl), (nI_toInt (n := n) (by omega)), (nI_toInt (n := p) (by omega))] at h1 h2 h3
        omega
      · refine X_iload_n rfl rfl rfl rfl ?_
        refine X_iconst (v := (-1 : Int32)) rfl rfl rfl ?_
        refine X_icmp_eq (tgt := 38) rfl rfl rfl (fun h4 => ?_) (fun h4 => ?_)
        · exfalso
          simp only [Int32.lt_iff_toInt_lt, Int32.le_iff_toInt_le, ← Int32.toInt_inj, (show (-1 : Int32).toInt = -1 from rfl), (show (1 : Int32).toInt = 1 from rfl), (show (6 : Int32).toInt = 6 from rfl), (show (67108863 : Int32).toInt = 67108863 from rfl), (nI_toInt (n := l) (by omega)), (nI_toInt (n := n) (by omega)), (nI_toInt (n := p) (by omega))] at h1 h2 h3 h4
          omega
        · refine X_iload_n rfl rfl rfl rfl ?_
          refine X_callS (as := [.int (nI (l))]) (st := []) rfl rfl rfl (by decide) rfl (Nat.le_of_ble_eq_true rfl) (by decide) (Nat.le_of_ble_eq_true rfl) rfl ?_
          refine LW_ls (ls' := [some (.int (nI (l)))]) rfl ?_
          refine X_iload_n rfl rfl rfl rfl ?_
          refine X_iconst (v := (0 : Int32)) rfl rfl rfl ?_
          refine X_bipush (v := (25 : Int32)) rfl rfl rfl ?_
          refine X_callS (as := [.int (nI (l)), .int (0 : Int32), .int (25 : Int32)]) (st := []) rfl rfl rfl (by decide) rfl (Nat.le_of_ble_eq_true rfl) (by decide) (Nat.le_of_ble_eq_true rfl) rfl ?_
          refine LW_ls (ls' := [some (.int (nI (l))), some (.int (0 : Int32)), some (.int (25 : Int32))]) rfl ?_
          refine X_iload_n rfl rfl rfl rfl ?_
          refine X_iload_n rfl rfl rfl rfl ?_
          refine X_icmp_lt (tgt := 14) rfl rfl rfl (fun h5 => ?_) (fun h5 => ?_)
          · exfalso
            simp only [Int32.lt_iff_toInt_lt, Int32.le_iff_toInt_le, ← Int32.toInt_inj, (show (-1 : Int32).toInt = -1 from rfl), (show (0 : Int32).toInt = 0 from rfl), (show (1 : Int32).toInt = 1 from rfl), (show (6 : Int32).toInt = 6 from rfl), (show (67108863 : Int32).toInt = 67108863 from rfl), (nI_toInt (n := l) (by omega)), (nI_toInt (n := n) (by omega)), (nI_toInt (n := p) (by omega))] at h1 h2 h3 h4 h5
            omega
          · refine X_iload_n rfl rfl rfl rfl ?_
            refine X_iload_n rfl rfl rfl rfl ?_
            refine X_icmp_gt (tgt := 14) rfl rfl rfl (fun h6 => ?_) (fun h6 => ?_)
            · exfalso
              simp only [Int32.lt_iff_toInt_lt, Int32.le_iff_toInt_le, ← Int32.toInt_inj, (show (-1 : Int32).toInt = -1 from rfl), (show (0 : Int32).toInt = 0 from rfl), (show (1 : Int32).toInt = 1 from rfl), (show (6 : Int32).toInt = 6 from rfl), (show (25 : Int32).toInt = 25 from rfl), (show (67108863 : Int32).toInt = 67108863 from rfl), (nI_toInt (n := l) (by omega)), (nI_toInt (n := n) (by omega)), (nI_toInt (n := p) (by omega))] at h1 h2 h3 h4 h5 h6
              omega
            · refine X_iconst (v := (1 : Int32)) rfl rfl rfl ?_
              refine LW_goto (tgt := 15) rfl rfl ?_
              refine LW_ireturn (st := []) rfl rfl rfl ?_
              refine LW_ireturn (st := []) rfl rfl rfl ?_
              refine X_if_eq (tgt := 36) rfl rfl rfl (fun q => absurd q (by decide)) (fun _ => ?_)
              refine X_iload_n rfl rfl rfl rfl ?_
              refine X_iload_n rfl rfl rfl rfl ?_
              refine X_callS (as := [.int (nI (n)), .int (nI (l))]) (st := []) rfl rfl rfl (by decide) rfl (Nat.le_of_ble_eq_true rfl) (by decide) (Nat.le_of_ble_eq_true rfl) rfl ?_
              refine LW_ls (ls' := [some (.int (nI (n))), some (.int (nI (l)))]) rfl ?_
              refine X_iload_n rfl rfl rfl rfl ?_
              refine X_iload_n rfl rfl rfl rfl ?_
              refine X_ishr (v := ((nI (n)) >>> ((nI (l)) &&& 31))) rfl rfl rfl ?_
              refine X_iconst (v := (1 : Int32)) rfl rfl rfl ?_
              refine X_iand (v := (0 : Int32)) rfl rfl hb ?_
              refine X_iconst (v := (1 : Int32)) rfl rfl rfl ?_
              refine X_icmp_ne (tgt := 13) rfl rfl rfl (fun _ => ?_) (fun q => absurd q (by decide))
              refine X_iconst (v := (0 : Int32)) rfl rfl rfl ?_
              refine LW_ireturn (st := []) rfl rfl rfl ?_
              refine X_if_ne (tgt := 38) rfl rfl rfl (fun q => absurd q (by decide)) (fun _ => ?_)
              refine X_iconst (v := (-1 : Int32)) rfl rfl rfl ?_
              exact LW_ireturn (st := []) rfl rfl rfl rfl
set_option maxRecDepth 10000 in
set_option maxHeartbeats 40000000 in
theorem r_sg_lo {g : LH} (F : Fr g) {n p : Nat} (h0 : 1 ≤ n) (hn : n < 2 ^ 26) (hp : pcn 26 n = p) (h32 : p ≤ 32) (hs6 : p ≤ 6) (b : Int32) (hr : ¬ (-1 ≤ b.toInt ∧ b.toInt ≤ 25)) : LW 301 30 0 0 0 (lEnt (mL 301) [.ref 355, .int (nI (n)), .int b]) [] g (fun v _ => v = some (.int (-1))) := by
  refine LW_ls (ls' := [some (.ref 355), some (.int (nI (n))), some (.int b), none, none]) rfl ?_
  refine X_iload_n rfl rfl rfl rfl ?_
  refine X_callS (as := [.int (nI (n))]) (st := []) rfl rfl rfl (by decide) rfl (Nat.le_of_ble_eq_true rfl) (by decide) (Nat.le_of_ble_eq_true rfl) rfl ?_
  refine LW_ls (ls' := [some (.int (nI (n)))]) rfl ?_
  refine X_iload_n rfl rfl rfl rfl ?_
  refine X_iconst (v := (1 : Int32)) rfl rfl rfl ?_
  refine X_ldc (v := (67108863 : Int32)) rfl rfl rfl ?_
  refine X_callS (as := [.int (nI (n)), .int (1 : Int32), .int (67108863 : Int32)]) (st := []) rfl rfl rfl (by decide) rfl (Nat.le_of_ble_eq_true rfl) (by decide) (Nat.le_of_ble_eq_true rfl) rfl ?_
  refine LW_ls (ls' := [some (.int (nI (n))), some (.int (1 : Int32)), some (.int (67108863 : Int32))]) rfl ?_
  refine X_iload_n rfl rfl rfl rfl ?_
  refine X_iload_n rfl rfl rfl rfl ?_
  refine X_icmp_lt (tgt := 14) rfl rfl rfl (fun h1 => ?_) (fun h1 => ?_)
  · exfalso
    simp only [Int32.lt_iff_toInt_lt, Int32.le_iff_toInt_le, ← Int32.toInt_inj, (show (1 : Int32).toInt = 1 from rfl), (nI_toInt (n := n) (by omega))] at h1
    omega
  · refine X_iload_n rfl rfl rfl rfl ?_
    refine X_iload_n rfl rfl rfl rfl ?_
    refine X_icmp_gt (tgt := 14) rfl rfl rfl (fun h2 => ?_) (fun h2 => ?_)
    · exfalso
      simp only [Int32.lt_iff_toInt_lt, Int32.le_iff_toInt_le, ← Int32.toInt_inj, (show (1 : Int32).toInt = 1 from rfl), (show (67108863 : Int32).toInt = 67108863 from rfl), (nI_toInt (n := n) (by omega))] at h1 h2
      omega
    · refine X_iconst (v := (1 : Int32)) rfl rfl rfl ?_
      refine LW_goto (tgt := 15) rfl rfl ?_
      refine LW_ireturn (st := []) rfl rfl rfl ?_
      refine LW_ireturn (st := []) rfl rfl rfl ?_
      refine X_if_eq (tgt := 36) rfl rfl rfl (fun q => absurd q (by decide)) (fun _ => ?_)
      refine X_iload_n rfl rfl rfl rfl ?_
      refine Y_callS (as := [.int (nI (n))]) (st := []) rfl rfl rfl (by decide) rfl (Nat.le_of_ble_eq_true rfl) (by decide) (Nat.le_of_ble_eq_true rfl) rfl (r_bits (n := n) (by omega)) ?_
      rintro _ _ ⟨rfl, rfl⟩
      refine LW_eqv (v := nI p) (congrArg nI hp) ?_
      refine X_bipush (v := (6 : Int32)) rfl rfl rfl ?_
      refine X_icmp_gt (tgt := 36) rfl rfl rfl (fun h3 => ?_) (fun h3 => ?_)
      · exfalso
        simp only [Int32.lt_iff_toInt_lt, Int32.le_iff_toInt_le, ← Int32.toInt_inj, (show (1 : Int32).toInt = 1 from rfl), (show (6 : Int32).toInt = 6 from rfl), (show (67108863 : Int32).toInt = 67108863 from rfl), (nI_toInt (n := n) (by omega)), (nI_toInt (n := p) (by omega))] at h1 h2 h3
        omega
      · refine X_iload_n rfl rfl rfl rfl ?_
        refine X_iconst (v := (-1 : Int32)) rfl rfl rfl ?_
        refine X_icmp_eq (tgt := 38) rfl rfl rfl (fun h4 => ?_) (fun h4 => ?_)
        · exfalso
          simp only [Int32.lt_iff_toInt_lt, Int32.le_iff_toInt_le, ← Int32.toInt_inj, (show (-1 : Int32).toInt = -1 from rfl), (show (1 : Int32).toInt = 1 from rfl), (show (6 : Int32).toInt = 6 from rfl), (show (67108863 : Int32).toInt = 67108863 from rfl), (nI_toInt (n := n) (by omega)), (nI_toInt (n := p) (by omega))] at h1 h2 h3 h4
          omega
        · refine X_iload_n rfl rfl rfl rfl ?_
          refine X_callS (as := [.int b]) (st := []) rfl rfl rfl (by decide) rfl (Nat.le_of_ble_eq_true rfl) (by decide) (Nat.le_of_ble_eq_true rfl) rfl ?_
          refine LW_ls (ls' := [some (.int b)]) rfl ?_
          refine X_iload_n rfl rfl rfl rfl ?_
          refine X_iconst (v := (0 : Int32)) rfl rfl rfl ?_
          refine X_bipush (v := (25 : Int32)) rfl rfl rfl ?_
          refine X_callS (as := [.int b, .int (0 : Int32), .int (25 : Int32)]) (st := []) rfl rfl rfl (by decide) rfl (Nat.le_of_ble_eq_true rfl) (by decide) (Nat.le_of_ble_eq_true rfl) rfl ?_
          refine LW_ls (ls' := [some (.int b), some (.int (0 : Int32)), some (.int (25 : Int32))]) rfl ?_
          refine X_iload_n rfl rfl rfl rfl ?_
          refine X_iload_n rfl rfl rfl rfl ?_
          refine X_icmp_lt (tgt := 14) rfl rfl rfl (fun h5 => ?_) (fun h5 => ?_)
          · refine X_iconst (v := (0 : Int32)) rfl rfl rfl ?_
            refine LW_ireturn (st := []) rfl rfl rfl ?_
            refine LW_ireturn (st := []) rfl rfl rfl ?_
            refine X_if_eq (tgt := 36) rfl rfl rfl (fun _ => ?_) (fun q => absurd q (by decide))
            refine X_iconst (v := (-1 : Int32)) rfl rfl rfl ?_
            exact LW_ireturn (st := []) rfl rfl rfl rfl
          · refine X_iload_n rfl rfl rfl rfl ?_
            refine X_iload_n rfl rfl rfl rfl ?_
            refine X_icmp_gt (tgt := 14) rfl rfl rfl (fun h6 => ?_) (fun h6 => ?_)
            · refine X_iconst (v := (0 : Int32)) rfl rfl rfl ?_
              refine LW_ireturn (st := []) rfl rfl rfl ?_
              refine LW_ireturn (st := []) rfl rfl rfl ?_
              refine X_if_eq (tgt := 36) rfl rfl rfl (fun _ => ?_) (fun q => absurd q (by decide))
              refine X_iconst (v := (-1 : Int32)) rfl rfl rfl ?_
              exact LW_ireturn (st := []) rfl rfl rfl rfl
            · refine X_iconst (v := (1 : Int32)) rfl rfl rfl ?_
              refine LW_goto (tgt := 15) rfl rfl ?_
              refine LW_ireturn (st := []) rfl rfl rfl ?_
              refine LW_ireturn (st := []) rfl rfl rfl ?_
              refine X_if_eq (tgt := 36) rfl rfl rfl (fun q => absurd q (by decide)) (fun _ => ?_)
              exfalso
              simp only [Int32.lt_iff_toInt_lt, Int32.le_iff_toInt_le, ← Int32.toInt_inj, (show (-1 : Int32).toInt = -1 from rfl), (show (0 : Int32).toInt = 0 from rfl), (show (1 : Int32).toInt = 1 from rfl), (show (6 : Int32).toInt = 6 from rfl), (show (25 : Int32).toInt = 25 from rfl), (show (67108863 : Int32).toInt = 67108863 from rfl), (nI_toInt (n := n) (by omega)), (nI_toInt (n := p) (by omega))] at h1 h2 h3 h4 h5 h6
              omega
