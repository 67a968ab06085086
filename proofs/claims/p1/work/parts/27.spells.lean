/-! spells, of both -/
theorem r_349_7 : eR e2 349 7 = some 353 := by decide +kernel
theorem s_353 : eS e2 353 = .inr (.int, 31) := by decide +kernel
def sI (i : Int32) (f : Nat) : Nat → Nat → Nat → Int32 ⊕ Nat
  | 0, _, s => .inr s
  | m + 1, l, s => if nI s = i then .inl (nI (31 * f + l)) else sI i f m (l + 1) (s + 1)
def sO (i : Int32) : Nat → Nat → Nat → Int32
  | 0, _, s => if i = -1 then nI s else -2
  | m + 1, f, s => match sI i f (31 - f) f s with
    | .inl v => v
    | .inr s' => sO i m (f + 1) s'
def f_spells (i : Int32) : Int32 := if i = 0 then -1 else sO i 31 0 1
theorem sI_le (i : Int32) (f : Nat) : ∀ (m l s s' : Nat), sI i f m l s = .inr s' → s' ≤ s + m
  | 0, _, s, s', h => by
    have h : Sum.inr s = Sum.inr s' := h
    cases h
    exact Nat.le_refl _
  | m + 1, l, s, s', h => by
    unfold sI at h
    by_cases q : nI s = i
    · rw [if_pos q] at h; cases h
    · rw [if_neg q] at h
      have := sI_le i f m (l + 1) (s + 1) s' h
      omega
def ShC (g : LH) : Prop := Gs g = eS e2 ∧ (∀ q, q < 355 → Gr g q = eR e2 q) ∧ True
set_option maxRecDepth 10000 in
set_option maxHeartbeats 40000000 in
theorem c_sp_step {g : LH} {d f s l : Nat} {n0 : Option Value} {i D : Int32} {Q : Option Value → LH → Prop} (F : ShC g) (hI : Gi g 349 9 = 0) (hO : Gi g 349 8 = 0) (hf : f < 31) (hl : l < 31) (hs : s < 3000) (k1 : nI s = i → Q (some (.int (nI (31 * f + l)))) g) (k2 : ¬ nI s = i → ∀ D' : Int32, LW 79 d 0 0 55 [some (.ref 349), n0, some (.int i), some (.int (nI (s + 1))), some (.int (nI (f))), some (.int D'), some (.int (nI (l + 1)))] [] g Q) : LW 79 d 0 0 55 [some (.ref 349), n0, some (.int i), some (.int (nI (s))), some (.int (nI (f))), some (.int D), some (.int (nI (l)))] [] g (Q) := by
  refine X_iload rfl rfl rfl ?_
  refine X_bipush (v := (31 : Int32)) rfl rfl rfl ?_
  refine X_icmp_ge (tgt := 116) rfl rfl rfl (fun h1 => ?_) (fun h1 => ?_)
  · exfalso
    simp only [Int32.lt_iff_toInt_lt, Int32.le_iff_toInt_le, ← Int32.toInt_inj, (show (31 : Int32).toInt = 31 from rfl), (nI_toInt (n := l) (by omega))] at h1
    omega
  · refine X_iload rfl rfl rfl ?_
    refine X_iconst (v := (1 : Int32)) rfl rfl rfl ?_
    refine X_iload rfl rfl rfl ?_
    refine X_ishl (v := ((1 : Int32) <<< ((nI (l)) &&& 31))) rfl rfl rfl ?_
    refine X_ior (v := (D ||| ((1 : Int32) <<< ((nI (l)) &&& 31)))) rfl rfl rfl ?_
    refine X_istore (i := 5) (ls' := [some (.ref 349), n0, some (.int i), some (.int (nI (s))), some (.int (nI (f))), some (.int (D ||| ((1 : Int32) <<< ((nI (l)) &&& 31)))), some (.int (nI (l)))]) rfl rfl (Nat.le_of_ble_eq_true rfl) rfl ?_
    refine X_iload rfl rfl rfl ?_
    refine X_aload_n rfl rfl rfl rfl ?_
    refine X_getI (v := (0 : Int32)) rfl rfl rfl ((congrFun F.1 349).trans s_349) rfl hI ?_
    refine X_iand (v := (0 : Int32)) rfl rfl (by simp) ?_
    refine X_if_ne (tgt := 110) rfl rfl rfl (fun q => absurd q (by decide)) (fun _ => ?_)
    refine X_aload_n rfl rfl rfl rfl ?_
    refine X_getI (v := (0 : Int32)) rfl rfl rfl ((congrFun F.1 349).trans s_349) rfl hO ?_
    refine X_iload rfl rfl rfl ?_
    refine X_iconst (v := (-1 : Int32)) rfl rfl rfl ?_
    refine X_ixor (v := ((D ||| ((1 : Int32) <<< ((nI (l)) &&& 31))) ^^^ (-1 : Int32))) rfl rfl rfl ?_
    refine X_iand (v := (0 : Int32)) rfl rfl (by simp) ?_
    refine X_if_ne (tgt := 110) rfl rfl rfl (fun q => absurd q (by decide)) (fun _ => ?_)
    refine X_iload_n rfl rfl rfl rfl ?_
    refine X_iload_n rfl rfl rfl rfl ?_
    refine X_icmp_ne (tgt := 107) rfl rfl rfl (fun h2 => ?_) (fun h2 => ?_)
    · refine X_iinc (v := (nI (s + 1))) (ls' := [some (.ref 349), n0, some (.int i), some (.int (nI (s + 1))), some (.int (nI (f))), some (.int (D ||| ((1 : Int32) <<< ((nI (l)) &&& 31)))), some (.int (nI (l)))]) rfl rfl rfl (nI_add (s) 1) rfl ?_
      refine X_iinc (v := (nI (l + 1))) (ls' := [some (.ref 349), n0, some (.int i), some (.int (nI (s + 1))), some (.int (nI (f))), some (.int (D ||| ((1 : Int32) <<< ((nI (l)) &&& 31)))), some (.int (nI (l + 1)))]) rfl rfl rfl (nI_add (l) 1) rfl ?_
      refine LW_goto (tgt := 55) rfl rfl ?_
      exact k2 h2 _
    · refine X_bipush (v := (31 : Int32)) rfl rfl rfl ?_
      refine X_iload rfl rfl rfl ?_
      refine X_imul (v := (nI (31 * f))) rfl rfl (pk_mul (31) (f)) ?_
      refine X_iload rfl rfl rfl ?_
      refine X_iadd (v := (nI ((31 * f) + l))) rfl rfl (nI_add (31 * f) (l)) ?_
      exact LW_ireturn (st := []) rfl rfl rfl (k1 (Classical.not_not.mp (fun q => q h2)))
theorem c_sp_in {g : LH} {d f : Nat} {n0 : Option Value} {i : Int32} {Q : Option Value → LH → Prop} (F : ShC g) (hI : Gi g 349 9 = 0) (hO : Gi g 349 8 = 0) (hf : f < 31) : ∀ (m l s : Nat) (D : Int32), l + m = 31 → s < 2000 + l → (∀ v, sI i f m l s = .inl v → Q (some (.int v)) g) → (∀ s', sI i f m l s = .inr s' → ∀ D' : Int32, LW 79 d 0 0 55 [some (.ref 349), n0, some (.int i), some (.int (nI (s'))), some (.int (nI (f))), some (.int D'), some (.int (nI (31)))] [] g Q) → LW 79 d 0 0 55 [some (.ref 349), n0, some (.int i), some (.int (nI (s))), some (.int (nI (f))), some (.int D), some (.int (nI (l)))] [] g Q := by
  intro m
  induction m with
  | zero =>
    intro l s D hl hs k1 k2
    have hl : l = 31 := by omega
    subst hl
    exact k2 s rfl D
  | succ m ih =>
    intro l s D hl hs k1 k2
    refine c_sp_step F hI hO hf (by omega) (by omega) (fun q => k1 _ (by unfold sI; rw [if_pos q])) (fun q D' => ?_)
    refine ih (l + 1) (s + 1) D' (by omega) (by omega) (fun v hv => k1 v (by unfold sI; rw [if_neg q]; exact hv)) (fun s' hv => k2 s' (by unfold sI; rw [if_neg q]; exact hv))
set_option maxRecDepth 10000 in
set_option maxHeartbeats 40000000 in
theorem c_sp_next {g : LH} {d f s : Nat} {n0 : Option Value} {i D : Int32} {Q : Option Value → LH → Prop} (F : ShC g) (hI : Gi g 349 9 = 0) (hO : Gi g 349 8 = 0) (hf : f < 31) (k : LW 79 d 0 0 41 [some (.ref 349), n0, some (.int i), some (.int (nI (s))), some (.int (nI ((f + 1)))), some (.int D), some (.int (nI (31)))] [] g Q) : LW 79 d 0 0 55 [some (.ref 349), n0, some (.int i), some (.int (nI (s))), some (.int (nI (f))), some (.int D), some (.int (nI (31)))] [] g (Q) := by
  refine X_iload rfl rfl rfl ?_
  refine X_bipush (v := (31 : Int32)) rfl rfl rfl ?_
  refine X_icmp_ge (tgt := 116) rfl rfl rfl (fun h1 => ?_) (fun h1 => ?_)
  · refine X_iinc (v := (nI (f + 1))) (ls' := [some (.ref 349), n0, some (.int i), some (.int (nI (s))), some (.int (nI (f + 1))), some (.int D), some (.int (nI (31)))]) rfl rfl rfl (nI_add (f) 1) rfl ?_
    refine LW_goto (tgt := 41) rfl rfl ?_
    exact k
  · exfalso
    simp only [Int32.lt_iff_toInt_lt, Int32.le_iff_toInt_le, ← Int32.toInt_inj, (show (31 : Int32).toInt = 31 from rfl), (nI_toInt (n := 31) (by omega))] at h1
    omega
set_option maxRecDepth 10000 in
set_option maxHeartbeats 40000000 in
theorem c_sp_new {g : LH} {d f s : Nat} {n0 : Option Value} {i : Int32} {Q : Option Value → LH → Prop} {D6 L6 : Option Value} (F : ShC g) (hI : Gi g 349 9 = 0) (hO : Gi g 349 8 = 0) (hf : f < 31) (k : LW 79 d 0 0 55 [some (.ref 349), n0, some (.int i), some (.int (nI (s))), some (.int (nI (f))), some (.int (0 : Int32)), some (.int (nI (f)))] [] g Q) : LW 79 d 0 0 41 [some (.ref 349), n0, some (.int i), some (.int (nI (s))), some (.int (nI (f))), D6, L6] [] g (Q) := by
  refine X_iload rfl rfl rfl ?_
  refine X_bipush (v := (31 : Int32)) rfl rfl rfl ?_
  refine X_icmp_ge (tgt := 122) rfl rfl rfl (fun h1 => ?_) (fun h1 => ?_)
  · exfalso
    simp only [Int32.lt_iff_toInt_lt, Int32.le_iff_toInt_le, ← Int32.toInt_inj, (show (31 : Int32).toInt = 31 from rfl), (nI_toInt (n := f) (by omega))] at h1
    omega
  · refine X_iconst (v := (0 : Int32)) rfl rfl rfl ?_
    refine X_istore (i := 5) (ls' := [some (.ref 349), n0, some (.int i), some (.int (nI (s))), some (.int (nI (f))), some (.int (0 : Int32)), L6]) rfl rfl (Nat.le_of_ble_eq_true rfl) rfl ?_
    refine X_iload rfl rfl rfl ?_
    refine X_istore (i := 6) (ls' := [some (.ref 349), n0, some (.int i), some (.int (nI (s))), some (.int (nI (f))), some (.int (0 : Int32)), some (.int (nI (f)))]) rfl rfl (Nat.le_of_ble_eq_true rfl) rfl ?_
    exact k
set_option maxRecDepth 10000 in
set_option maxHeartbeats 40000000 in
theorem c_sp_end {g : LH} {d s : Nat} {n0 : Option Value} {i : Int32} {Q : Option Value → LH → Prop} {D6 L6 : Option Value} (F : ShC g) (hI : Gi g 349 9 = 0) (hO : Gi g 349 8 = 0) (k : Q (some (.int (if i = -1 then nI s else -2))) g) : LW 79 d 0 0 41 [some (.ref 349), n0, some (.int i), some (.int (nI (s))), some (.int (nI (31))), D6, L6] [] g (Q) := by
  refine X_iload rfl rfl rfl ?_
  refine X_bipush (v := (31 : Int32)) rfl rfl rfl ?_
  refine X_icmp_ge (tgt := 122) rfl rfl rfl (fun h1 => ?_) (fun h1 => ?_)
  · refine X_iload_n rfl rfl rfl rfl ?_
    refine X_iconst (v := (-1 : Int32)) rfl rfl rfl ?_
    refine X_icmp_ne (tgt := 131) rfl rfl rfl (fun h2 => ?_) (fun h2 => ?_)
    · refine X_bipush (v := (-2 : Int32)) rfl rfl rfl ?_
      refine LW_ireturn (st := []) rfl rfl rfl ?_
      have e : (if i = -1 then nI s else -2 : Int32) = (-2 : Int32) := if_neg h2
      rw [e] at k
      exact k
    · refine X_iload_n rfl rfl rfl rfl ?_
      refine LW_goto (tgt := 133) rfl rfl ?_
      refine LW_ireturn (st := []) rfl rfl rfl ?_
      have e : (if i = -1 then nI s else -2 : Int32) = (nI (s)) := if_pos (Classical.not_not.mp (fun q => q h2))
      rw [e] at k
      exact k
  · exfalso
    simp only [Int32.lt_iff_toInt_lt, Int32.le_iff_toInt_le, ← Int32.toInt_inj, (show (31 : Int32).toInt = 31 from rfl), (nI_toInt (n := 31) (by omega))] at h1
    omega
theorem c_sp_out {g : LH} {d : Nat} {n0 : Option Value} {i : Int32} {Q : Option Value → LH → Prop} (F : ShC g) (hI : Gi g 349 9 = 0) (hO : Gi g 349 8 = 0) : ∀ (m f s : Nat) (D6 L6 : Option Value), f + m = 31 → s < 2 + 31 * f → Q (some (.int (sO i m f s))) g → LW 79 d 0 0 41 [some (.ref 349), n0, some (.int i), some (.int (nI (s))), some (.int (nI (f))), D6, L6] [] g Q := by
  intro m
  induction m with
  | zero =>
    intro f s D6 L6 hf hs k
    have hf : f = 31 := by omega
    subst hf
    exact c_sp_end F hI hO k
  | succ m ih =>
    intro f s D6 L6 hf hs k
    refine c_sp_new F hI hO (by omega) ?_
    refine c_sp_in F hI hO (by omega) (31 - f) f s 0 (by omega) (by omega) (fun v hv => ?_) (fun s' hv D' => ?_)
    · unfold sO at k
      rw [hv] at k
      exact k
    · unfold sO at k
      rw [hv] at k
      have := sI_le i f (31 - f) f s s' hv
      exact c_sp_next F hI hO (by omega) (ih (f + 1) s' _ _ (by omega) (by omega) k)
theorem putS {g : LH} {q k : Nat} {z : Int32} : Gi (putI g q k z) q = upd (Gi g q) k z := va_up_self _ _ _
theorem putN {g : LH} {q k p : Nat} {z : Int32} (h : p ≠ q) : Gi (putI g q k z) p = Gi g p := va_up_ne _ _ h
def PV (g : LH) : Prop := Gs g = eS e2 ∧ (∀ q, q < 355 → Gr g q = eR e2 q) ∧ Fr g ∧ Gi g 1 9 = 0
theorem PV_put {g : LH} {q k : Nat} {z : Int32} (F : PV g) (h : q < 355) (h1 : q ≠ 1) : PV (putI g q k z) := ⟨F.1, F.2.1, Fr_putI F.2.2.1 h, by
  rw [putN (fun e => h1 e.symm)]
  exact F.2.2.2⟩
theorem PV_new {g : LH} (F : Fc g) (E : Fr g) : PV g := ⟨F.1, F.2.1, E, by
  rw [(F.2.2 1 (by decide)).1]
  decide +kernel⟩

set_option maxRecDepth 10000 in
set_option maxHeartbeats 40000000 in
theorem c_gp1 {g : LH} {d l : Nat} {x0 : Int32} {l3 : Option Value} {Q : Option Value → LH → Prop} (F : PV g) (hl : l < 31) (k : LW 81 d 0 0 7 [some (.ref 349), some (.int x0), some (.int (nI (l + 1))), l3] [] (putI g 353 l 0) Q) : LW 81 d 0 0 7 [some (.ref 349), some (.int x0), some (.int (nI (l))), l3] [] g (Q) := by
  refine X_iload_n rfl rfl rfl rfl ?_
  refine X_bipush (v := (31 : Int32)) rfl rfl rfl ?_
  refine X_icmp_ge (tgt := 26) rfl rfl rfl (fun h1 => ?_) (fun h1 => ?_)
  · exfalso
    simp only [Int32.lt_iff_toInt_lt, Int32.le_iff_toInt_le, ← Int32.toInt_inj, (show (31 : Int32).toInt = 31 from rfl), (nI_toInt (n := l) (by omega))] at h1
    omega
  · refine X_aload_n rfl rfl rfl rfl ?_
    refine X_getR (a := 353) rfl rfl rfl ((congrFun F.1 349).trans s_349) rfl ((congrFun (F.2.1 349 (by decide)) 7).trans r_349_7) ?_
    refine X_iload_n rfl rfl rfl rfl ?_
    refine X_iconst (v := (0 : Int32)) rfl rfl rfl ?_
    refine X_iast (k0 := l) rfl rfl ((congrFun F.1 353).trans s_353) (vp_in_nI (by omega) (by decide)) (nI_clamp (n := l) (by omega)) ?_
    refine X_iinc (v := (nI (l + 1))) (ls' := [some (.ref 349), some (.int x0), some (.int (nI (l + 1))), l3]) rfl rfl rfl (nI_add (l) 1) rfl ?_
    refine LW_goto (tgt := 7) rfl rfl ?_
    exact k
set_option maxRecDepth 10000 in
set_option maxHeartbeats 40000000 in
theorem c_gp2 {g : LH} {d : Nat} {x0 : Int32} {l3 : Option Value} {Q : Option Value → LH → Prop} (F : PV g) (k : Q none g) : LW 81 d 0 0 7 [some (.ref 349), some (.int x0), some (.int (nI (31))), l3] [] g (Q) := by
  refine X_iload_n rfl rfl rfl rfl ?_
  refine X_bipush (v := (31 : Int32)) rfl rfl rfl ?_
  refine X_icmp_ge (tgt := 26) rfl rfl rfl (fun h1 => ?_) (fun h1 => ?_)
  · refine X_iconst (v := (0 : Int32)) rfl rfl rfl ?_
    refine X_istore_n (i := 2) (ls' := [some (.ref 349), some (.int x0), some (.int (0 : Int32)), l3]) rfl rfl rfl (Nat.le_of_ble_eq_true rfl) rfl ?_
    refine X_iload_n rfl rfl rfl rfl ?_
    refine X_aload_n rfl rfl rfl rfl ?_
    refine X_getR (a := 1) rfl rfl rfl ((congrFun F.1 349).trans s_349) rfl ((congrFun (F.2.1 349 (by decide)) 0).trans r_349_0) ?_
    refine X_getI (v := (0 : Int32)) rfl rfl rfl ((congrFun F.1 1).trans s_1) rfl F.2.2.2 ?_
    refine X_icmp_ge (tgt := 117) rfl rfl rfl (fun _ => ?_) (fun q => absurd q (by decide))
    exact LW_return (st := []) rfl rfl k
  · exfalso
    simp only [Int32.lt_iff_toInt_lt, Int32.le_iff_toInt_le, ← Int32.toInt_inj, (show (31 : Int32).toInt = 31 from rfl), (nI_toInt (n := 31) (by omega))] at h1
    omega
theorem c_gpl {d : Nat} {x0 : Int32} {l3 : Option Value} {Q : Option Value → LH → Prop} (k : ∀ g', PV g' → Gi g' 349 9 = 0 → Q none g') : ∀ (m l : Nat), l + m = 31 → ∀ g : LH, PV g → Gi g 349 9 = 0 → LW 81 d 0 0 7 [some (.ref 349), some (.int x0), some (.int (nI (l))), l3] [] g Q := by
  intro m
  induction m with
  | zero =>
    intro l hl g F h
    have hl : l = 31 := by omega
    subst hl
    exact c_gp2 F (k g F h)
  | succ m ih =>
    intro l hl g F h
    refine c_gp1 F (by omega) (ih (l + 1) (by omega) _ (PV_put F (by decide) (by decide)) ?_)
    rw [putN (by decide)]
    exact h
set_option maxRecDepth 10000 in
set_option maxHeartbeats 40000000 in
theorem c_gather {g : LH} (F : PV g) {d : Nat} {x : Int32} : LW 81 d 0 0 0 (lEnt (mL 81) [.ref 349, .int x]) [] g (fun v g' => v = none ∧ PV g' ∧ Gi g' 349 9 = 0) := by
  refine LW_ls (ls' := [some (.ref 349), some (.int x), none, none]) rfl ?_
  refine X_aload_n rfl rfl rfl rfl ?_
  refine X_iconst (v := (0 : Int32)) rfl rfl rfl ?_
  refine X_putI rfl rfl rfl ((congrFun F.1 349).trans s_349) rfl rfl rfl rfl ?_
  refine X_iconst (v := (0 : Int32)) rfl rfl rfl ?_
  refine X_istore_n (i := 2) (ls' := [some (.ref 349), some (.int x), some (.int (0 : Int32)), none]) rfl rfl rfl (Nat.le_of_ble_eq_true rfl) rfl ?_
  exact c_gpl (fun g' F' h => ⟨rfl, F', h⟩) 31 0 rfl _ (PV_put F (by decide) (by decide)) (by rw [putS]; exact pk_us)
set_option maxRecDepth 10000 in
set_option maxHeartbeats 40000000 in
theorem c_weigh {g : LH} (F : PV g) {d : Nat} {x : Int32} : LW 80 (d + 1) 0 0 0 (lEnt (mL 80) [.ref 349, .int x]) [] g (fun v g' => v = some (.int 1) ∧ PV g' ∧ Gi g' 349 9 = 0 ∧ Gi g' 349 8 = 0) := by
  refine LW_ls (ls' := [some (.ref 349), some (.int x), none, none, none]) rfl ?_
  refine X_aload_n rfl rfl rfl rfl ?_
  refine X_iload_n rfl rfl rfl rfl ?_
  refine Y_callV (as := [.int x]) (st := []) rfl rfl rfl (by decide) rfl (Nat.le_of_ble_eq_true rfl) (by decide) (Nat.le_of_ble_eq_true rfl) rfl ((congrFun F.1 349).trans s_349) (by decide) (c_gather F) ?_
  rintro _ g ⟨rfl, F, h9⟩
  refine X_aload_n rfl rfl rfl rfl ?_
  refine X_iconst (v := (0 : Int32)) rfl rfl rfl ?_
  refine X_putI rfl rfl rfl ((congrFun F.1 349).trans s_349) rfl rfl rfl rfl ?_
  refine X_iconst (v := (0 : Int32)) rfl rfl rfl ?_
  refine X_istore_n (i := 2) (ls' := [some (.ref 349), some (.int x), some (.int (0 : Int32)), none, none]) rfl rfl rfl (Nat.le_of_ble_eq_true rfl) rfl ?_
  refine X_iload_n rfl rfl rfl rfl ?_
  refine X_aload_n rfl rfl rfl rfl ?_
  refine X_getR (a := 1) rfl rfl rfl ((congrFun F.1 349).trans s_349) rfl ((congrFun (F.2.1 349 (by decide)) 0).trans r_349_0) ?_
  refine X_getI (v := (0 : Int32)) rfl rfl rfl ((congrFun F.1 1).trans s_1) rfl F.2.2.2 ?_
  refine X_icmp_ge (tgt := 113) rfl rfl rfl (fun _ => ?_) (fun q => absurd q (by decide))
  refine X_iconst (v := (1 : Int32)) rfl rfl rfl ?_
  exact LW_ireturn (st := []) rfl rfl rfl ⟨rfl, PV_put F (by decide) (by decide), by rw [putS, pk_un (by decide)]; exact h9, by rw [putS]; exact pk_us⟩
set_option maxRecDepth 10000 in
set_option maxHeartbeats 40000000 in
theorem c_spell {g : LH} (F : PV g) {d n : Nat} (i : Int32) : LW 79 (d + 2) 0 0 0 (lEnt (mL 79) [.ref 349, .int (nI (n)), .int i]) [] g (fun v g' => v = some (.int (f_spells i)) ∧ Fr g') := by
  refine LW_ls (ls' := [some (.ref 349), some (.int (nI (n))), some (.int i), none, none, none, none]) rfl ?_
  refine X_iconst (v := (0 : Int32)) rfl rfl rfl ?_
  refine X_istore_n (i := 3) (ls' := [some (.ref 349), some (.int (nI (n))), some (.int i), some (.int (0 : Int32)), none, none, none]) rfl rfl rfl (Nat.le_of_ble_eq_true rfl) rfl ?_
  refine X_aload_n rfl rfl rfl rfl ?_
  refine X_iload_n rfl rfl rfl rfl ?_
  refine Y_callV (as := [.int (nI (n))]) (st := []) rfl rfl rfl (by decide) rfl (Nat.le_of_ble_eq_true rfl) (by decide) (Nat.le_of_ble_eq_true rfl) rfl ((congrFun F.1 349).trans s_349) (by decide) (c_weigh F) ?_
  rintro _ g ⟨rfl, F, h9, h8⟩
  refine X_if_ne (tgt := 22) rfl rfl rfl (fun _ => ?_) (fun q => absurd q (by decide))
  refine X_aload_n rfl rfl rfl rfl ?_
  refine X_getI (v := (0 : Int32)) rfl rfl rfl ((congrFun F.1 349).trans s_349) rfl h8 ?_
  refine X_if_ne (tgt := 38) rfl rfl rfl (fun q => absurd q (by decide)) (fun _ => ?_)
  refine X_iload_n rfl rfl rfl rfl ?_
  refine X_if_ne (tgt := 35) rfl rfl rfl (fun h1 => ?_) (fun h1 => ?_)
  · refine X_iinc (v := (1 : Int32)) (ls' := [some (.ref 349), some (.int (nI (n))), some (.int i), some (.int (1 : Int32)), none, none, none]) rfl rfl rfl rfl rfl ?_
    refine X_iconst (v := (0 : Int32)) rfl rfl rfl ?_
    refine X_istore (i := 4) (ls' := [some (.ref 349), some (.int (nI (n))), some (.int i), some (.int (1 : Int32)), some (.int (0 : Int32)), none, none]) rfl rfl (Nat.le_of_ble_eq_true rfl) rfl ?_
    refine c_sp_out ⟨F.1, F.2.1, trivial⟩ h9 h8 31 0 1 none none rfl (by decide) ?_
    refine ⟨congrArg (fun z => some (Value.int z)) ?_, F.2.2.1⟩
    unfold f_spells
    exact (if_neg h1).symm
  · refine X_iconst (v := (-1 : Int32)) rfl rfl rfl ?_
    refine LW_ireturn (st := []) rfl rfl rfl ⟨congrArg (fun z => some (Value.int z)) ?_, F.2.2.1⟩
    unfold f_spells
    exact (if_pos (Classical.not_not.mp (fun q => q h1))).symm
set_option maxRecDepth 10000 in
set_option maxHeartbeats 40000000 in
theorem c_spells_in {g : LH} (F : Fc g) (E : Fr g) {n : Nat} (hn : n < 26) (i : Int32) (hi : -1 ≤ i.toInt) : LW 161 30 0 0 0 (lEnt (mL 161) [.ref 0, .int (nI (n)), .int i]) [] g (fun v g' => v = some (.int (f_spells i)) ∧ Fr g') := by
  refine LW_ls (ls' := [some (.ref 0), some (.int (nI (n))), some (.int i)]) rfl ?_
  refine X_iload_n rfl rfl rfl rfl ?_
  refine X_callS (as := [.int (nI (n))]) (st := []) rfl rfl rfl (by decide) rfl (Nat.le_of_ble_eq_true rfl) (by decide) (Nat.le_of_ble_eq_true rfl) rfl ?_
  refine LW_ls (ls' := [some (.int (nI (n)))]) rfl ?_
  refine X_iload_n rfl rfl rfl rfl ?_
  refine X_if_lt (tgt := 14) rfl rfl rfl (fun h1 => ?_) (fun h1 => ?_)
  · exfalso
    simp only [Int32.lt_iff_toInt_lt, Int32.le_iff_toInt_le, ← Int32.toInt_inj, (show (0 : Int32).toInt = 0 from rfl), (nI_toInt (n := n) (by omega))] at h1
    omega
  · refine X_iload_n rfl rfl rfl rfl ?_
    refine X_bipush (v := (26 : Int32)) rfl rfl rfl ?_
    refine X_icmp_ge (tgt := 14) rfl rfl rfl (fun h2 => ?_) (fun h2 => ?_)
    · exfalso
      simp only [Int32.lt_iff_toInt_lt, Int32.le_iff_toInt_le, ← Int32.toInt_inj, (show (0 : Int32).toInt = 0 from rfl), (show (26 : Int32).toInt = 26 from rfl), (nI_toInt (n := n) (by omega))] at h1 h2
      omega
    · refine X_iconst (v := (1 : Int32)) rfl rfl rfl ?_
      refine LW_goto (tgt := 15) rfl rfl ?_
      refine LW_ireturn (st := []) rfl rfl rfl ?_
      refine X_if_eq (tgt := 24) rfl rfl rfl (fun q => absurd q (by decide)) (fun _ => ?_)
      refine X_iload_n rfl rfl rfl rfl ?_
      refine X_iconst (v := (-1 : Int32)) rfl rfl rfl ?_
      refine X_icmp_lt (tgt := 24) rfl rfl rfl (fun h3 => ?_) (fun h3 => ?_)
      · exfalso
        simp only [Int32.lt_iff_toInt_lt, Int32.le_iff_toInt_le, ← Int32.toInt_inj, (show (-1 : Int32).toInt = -1 from rfl), (show (0 : Int32).toInt = 0 from rfl), (show (26 : Int32).toInt = 26 from rfl), (nI_toInt (n := n) (by omega))] at h1 h2 h3
        omega
      · refine X_aload_n rfl rfl rfl rfl ?_
        refine X_getR (a := 349) rfl rfl rfl ((congrFun F.1 0).trans s_0) rfl ((congrFun (F.2.1 0 (by decide)) 8).trans r_0_8) ?_
        refine X_iload_n rfl rfl rfl rfl ?_
        refine X_iload_n rfl rfl rfl rfl ?_
        refine Y_callV (as := [.int (nI (n)), .int i]) (st := []) rfl rfl rfl (by decide) rfl (Nat.le_of_ble_eq_true rfl) (by decide) (Nat.le_of_ble_eq_true rfl) rfl ((congrFun F.1 349).trans s_349) (by decide) (c_spell (PV_new F E) i) ?_
        rintro _ g' ⟨rfl, E'⟩
        refine LW_goto (tgt := 26) rfl rfl ?_
        exact LW_ireturn (st := []) rfl rfl rfl ⟨rfl, E'⟩
set_option maxRecDepth 10000 in
set_option maxHeartbeats 40000000 in
theorem c_spells_out {g : LH} (F : Fc g) (E : Fr g) (a i : Int32) (hr : ¬ (0 ≤ a.toInt ∧ a.toInt ≤ 25 ∧ -1 ≤ i.toInt)) : LW 161 30 0 0 0 (lEnt (mL 161) [.ref 0, .int a, .int i]) [] g (fun v g' => v = some (.int (-2)) ∧ Fr g') := by
  refine LW_ls (ls' := [some (.ref 0), some (.int a), some (.int i)]) rfl ?_
  refine X_iload_n rfl rfl rfl rfl ?_
  refine X_callS (as := [.int a]) (st := []) rfl rfl rfl (by decide) rfl (Nat.le_of_ble_eq_true rfl) (by decide) (Nat.le_of_ble_eq_true rfl) rfl ?_
  refine LW_ls (ls' := [some (.int a)]) rfl ?_
  refine X_iload_n rfl rfl rfl rfl ?_
  refine X_if_lt (tgt := 14) rfl rfl rfl (fun h1 => ?_) (fun h1 => ?_)
  · refine X_iconst (v := (0 : Int32)) rfl rfl rfl ?_
    refine LW_ireturn (st := []) rfl rfl rfl ?_
    refine X_if_eq (tgt := 24) rfl rfl rfl (fun _ => ?_) (fun q => absurd q (by decide))
    refine X_bipush (v := (-2 : Int32)) rfl rfl rfl ?_
    exact LW_ireturn (st := []) rfl rfl rfl ⟨rfl, E⟩
  · refine X_iload_n rfl rfl rfl rfl ?_
    refine X_bipush (v := (26 : Int32)) rfl rfl rfl ?_
    refine X_icmp_ge (tgt := 14) rfl rfl rfl (fun h2 => ?_) (fun h2 => ?_)
    · refine X_iconst (v := (0 : Int32)) rfl rfl rfl ?_
      refine LW_ireturn (st := []) rfl rfl rfl ?_
      refine X_if_eq (tgt := 24) rfl rfl rfl (fun _ => ?_) (fun q => absurd q (by decide))
      refine X_bipush (v := (-2 : Int32)) rfl rfl rfl ?_
      exact LW_ireturn (st := []) rfl rfl rfl ⟨rfl, E⟩
    · refine X_iconst (v := (1 : Int32)) rfl rfl rfl ?_
      refine LW_goto (tgt := 15) rfl rfl ?_
      refine LW_ireturn (st := []) rfl rfl rfl ?_
      refine X_if_eq (tgt := 24) rfl rfl rfl (fun q => absurd q (by decide)) (fun _ => ?_)
      refine X_iload_n rfl rfl rfl rfl ?_
      refine X_iconst (v := (-1 : Int32)) rfl rfl rfl ?_
      refine X_icmp_lt (tgt := 24) rfl rfl rfl (fun h3 => ?_) (fun h3 => ?_)
      · refine X_bipush (v := (-2 : Int32)) rfl rfl rfl ?_
        exact LW_ireturn (st := []) rfl rfl rfl ⟨rfl, E⟩
      · exfalso
        simp only [Int32.lt_iff_toInt_lt, Int32.le_iff_toInt_le, ← Int32.toInt_inj, (show (-1 : Int32).toInt = -1 from rfl), (show (0 : Int32).toInt = 0 from rfl), (show (26 : Int32).toInt = 26 from rfl)] at h1 h2 h3
        omega
def FrA (g : LH) : Prop := Fr g
set_option maxRecDepth 10000 in
set_option maxHeartbeats 40000000 in
theorem r_canBe {g : LH} (F : Fr g) {d : Nat} (x y z : Int32) : LW 310 d 0 0 0 (lEnt (mL 310) [.ref 355, .int x, .int y, .int z]) [] g (fun v g' => v = some (.int 1) ∧ g' = g) := by
  refine LW_ls (ls' := [some (.ref 355), some (.int x), some (.int y), some (.int z), none, none, none, none, none]) rfl ?_
  refine X_iconst (v := (0 : Int32)) rfl rfl rfl ?_
  refine X_istore (i := 4) (ls' := [some (.ref 355), some (.int x), some (.int y), some (.int z), some (.int (0 : Int32)), none, none, none, none]) rfl rfl (Nat.le_of_ble_eq_true rfl) rfl ?_
  refine X_iload rfl rfl rfl ?_
  refine X_aload_n rfl rfl rfl rfl ?_
  refine X_getR (a := 356) rfl rfl rfl ((congrFun F.1 355).trans s_355) rfl ((congrFun (F.2.1 355 (by decide)) 0).trans r_355_0) ?_
  refine X_bipush (v := (9 : Int32)) rfl rfl rfl ?_
  refine X_iald (v := (0 : Int32)) rfl rfl ((congrFun F.1 356).trans s_356) (vp_in_d rfl) ((congrFun (F.2.2 356 (by decide)).1 9).trans i_356_9) ?_
  refine X_icmp_ge (tgt := 141) rfl rfl rfl (fun _ => ?_) (fun q => absurd q (by decide))
  refine X_iconst (v := (1 : Int32)) rfl rfl rfl ?_
  exact LW_ireturn (st := []) rfl rfl rfl ⟨rfl, rfl⟩
set_option maxRecDepth 10000 in
set_option maxHeartbeats 40000000 in
theorem r_sp_step {g : LH} {d f s l : Nat} {n0 : Int32} {i : Int32} {Q : Option Value → LH → Prop} (F : Fr g) (hf : f < 31) (hl : l < 31) (hs : s < 3000) (k1 : nI s = i → Q (some (.int (nI (31 * f + l)))) g) (k2 : ¬ nI s = i → LW 311 (d + 1) 0 0 50 [some (.ref 355), some (.int n0), some (.int i), some (.int (nI (s + 1))), some (.int (nI (f))), some (.int (nI (l + 1)))] [] g Q) : LW 311 (d + 1) 0 0 50 [some (.ref 355), some (.int n0), some (.int i), some (.int (nI (s))), some (.int (nI (f))), some (.int (nI (l)))] [] g (Q) := by
  refine X_iload rfl rfl rfl ?_
  refine X_bipush (v := (31 : Int32)) rfl rfl rfl ?_
  refine X_icmp_ge (tgt := 95) rfl rfl rfl (fun h1 => ?_) (fun h1 => ?_)
  · exfalso
    simp only [Int32.lt_iff_toInt_lt, Int32.le_iff_toInt_le, ← Int32.toInt_inj, (show (31 : Int32).toInt = 31 from rfl), (nI_toInt (n := l) (by omega))] at h1
    omega
  · refine X_aload_n rfl rfl rfl rfl ?_
    refine X_iload_n rfl rfl rfl rfl ?_
    refine X_iload rfl rfl rfl ?_
    refine X_iload rfl rfl rfl ?_
    refine Y_callV (as := [.int n0, .int (nI (f)), .int (nI (l))]) (st := []) rfl rfl rfl (by decide) rfl (Nat.le_of_ble_eq_true rfl) (by decide) (Nat.le_of_ble_eq_true rfl) rfl ((congrFun F.1 355).trans s_355) (by decide) (r_canBe F n0 (nI (f)) (nI (l))) ?_
    rintro _ _ ⟨rfl, rfl⟩
    refine X_if_ne (tgt := 72) rfl rfl rfl (fun _ => ?_) (fun q => absurd q (by decide))
    refine X_iload_n rfl rfl rfl rfl ?_
    refine X_iload_n rfl rfl rfl rfl ?_
    refine X_icmp_ne (tgt := 86) rfl rfl rfl (fun h2 => ?_) (fun h2 => ?_)
    · refine X_iinc (v := (nI (s + 1))) (ls' := [some (.ref 355), some (.int n0), some (.int i), some (.int (nI (s + 1))), some (.int (nI (f))), some (.int (nI (l)))]) rfl rfl rfl (nI_add (s) 1) rfl ?_
      refine X_iinc (v := (nI (l + 1))) (ls' := [some (.ref 355), some (.int n0), some (.int i), some (.int (nI (s + 1))), some (.int (nI (f))), some (.int (nI (l + 1)))]) rfl rfl rfl (nI_add (l) 1) rfl ?_
      refine LW_goto (tgt := 50) rfl rfl ?_
      exact k2 h2
    · refine X_bipush (v := (31 : Int32)) rfl rfl rfl ?_
      refine X_iload rfl rfl rfl ?_
      refine X_imul (v := (nI (31 * f))) rfl rfl (pk_mul (31) (f)) ?_
      refine X_iload rfl rfl rfl ?_
      refine X_iadd (v := (nI ((31 * f) + l))) rfl rfl (nI_add (31 * f) (l)) ?_
      exact LW_ireturn (st := []) rfl rfl rfl (k1 (Classical.not_not.mp (fun q => q h2)))
theorem r_sp_in {g : LH} {d f : Nat} {n0 : Int32} {i : Int32} {Q : Option Value → LH → Prop} (F : Fr g) (hf : f < 31) : ∀ (m l s : Nat), l + m = 31 → s < 2000 + l → (∀ v, sI i f m l s = .inl v → Q (some (.int v)) g) → (∀ s', sI i f m l s = .inr s' → LW 311 (d + 1) 0 0 50 [some (.ref 355), some (.int n0), some (.int i), some (.int (nI (s'))), some (.int (nI (f))), some (.int (nI (31)))] [] g Q) → LW 311 (d + 1) 0 0 50 [some (.ref 355), some (.int n0), some (.int i), some (.int (nI (s))), some (.int (nI (f))), some (.int (nI (l)))] [] g Q := by
  intro m
  induction m with
  | zero =>
    intro l s hl hs k1 k2
    have hl : l = 31 := by omega
    subst hl
    exact k2 s rfl
  | succ m ih =>
    intro l s hl hs k1 k2
    refine r_sp_step F hf (by omega) (by omega) (fun q => k1 _ (by unfold sI; rw [if_pos q])) (fun q => ?_)
    refine ih (l + 1) (s + 1) (by omega) (by omega) (fun v hv => k1 v (by unfold sI; rw [if_neg q]; exact hv)) (fun s' hv => k2 s' (by unfold sI; rw [if_neg q]; exact hv))
set_option maxRecDepth 10000 in
set_option maxHeartbeats 40000000 in
theorem r_sp_next {g : LH} {d f s : Nat} {n0 : Int32} {i : Int32} {Q : Option Value → LH → Prop} (F : Fr g) (hf : f < 31) (k : LW 311 (d + 1) 0 0 39 [some (.ref 355), some (.int n0), some (.int i), some (.int (nI (s))), some (.int (nI ((f + 1)))), some (.int (nI (31)))] [] g Q) : LW 311 (d + 1) 0 0 50 [some (.ref 355), some (.int n0), some (.int i), some (.int (nI (s))), some (.int (nI (f))), some (.int (nI (31)))] [] g (Q) := by
  refine X_iload rfl rfl rfl ?_
  refine X_bipush (v := (31 : Int32)) rfl rfl rfl ?_
  refine X_icmp_ge (tgt := 95) rfl rfl rfl (fun h1 => ?_) (fun h1 => ?_)
  · refine X_iinc (v := (nI (f + 1))) (ls' := [some (.ref 355), some (.int n0), some (.int i), some (.int (nI (s))), some (.int (nI (f + 1))), some (.int (nI (31)))]) rfl rfl rfl (nI_add (f) 1) rfl ?_
    refine LW_goto (tgt := 39) rfl rfl ?_
    exact k
  · exfalso
    simp only [Int32.lt_iff_toInt_lt, Int32.le_iff_toInt_le, ← Int32.toInt_inj, (show (31 : Int32).toInt = 31 from rfl), (nI_toInt (n := 31) (by omega))] at h1
    omega
set_option maxRecDepth 10000 in
set_option maxHeartbeats 40000000 in
theorem r_sp_new {g : LH} {d f s : Nat} {n0 : Int32} {i : Int32} {Q : Option Value → LH → Prop} {L6 : Option Value} (F : Fr g) (hf : f < 31) (k : LW 311 (d + 1) 0 0 50 [some (.ref 355), some (.int n0), some (.int i), some (.int (nI (s))), some (.int (nI (f))), some (.int (nI (f)))] [] g Q) : LW 311 (d + 1) 0 0 39 [some (.ref 355), some (.int n0), some (.int i), some (.int (nI (s))), some (.int (nI (f))), L6] [] g (Q) := by
  refine X_iload rfl rfl rfl ?_
  refine X_bipush (v := (31 : Int32)) rfl rfl rfl ?_
  refine X_icmp_ge (tgt := 101) rfl rfl rfl (fun h1 => ?_) (fun h1 => ?_)
  · exfalso
    simp only [Int32.lt_iff_toInt_lt, Int32.le_iff_toInt_le, ← Int32.toInt_inj, (show (31 : Int32).toInt = 31 from rfl), (nI_toInt (n := f) (by omega))] at h1
    omega
  · refine X_iload rfl rfl rfl ?_
    refine X_istore (i := 5) (ls' := [some (.ref 355), some (.int n0), some (.int i), some (.int (nI (s))), some (.int (nI (f))), some (.int (nI (f)))]) rfl rfl (Nat.le_of_ble_eq_true rfl) rfl ?_
    exact k
set_option maxRecDepth 10000 in
set_option maxHeartbeats 40000000 in
theorem r_sp_end {g : LH} {d s : Nat} {n0 : Int32} {i : Int32} {Q : Option Value → LH → Prop} {L6 : Option Value} (F : Fr g) (k : Q (some (.int (if i = -1 then nI s else -2))) g) : LW 311 (d + 1) 0 0 39 [some (.ref 355), some (.int n0), some (.int i), some (.int (nI (s))), some (.int (nI (31))), L6] [] g (Q) := by
  refine X_iload rfl rfl rfl ?_
  refine X_bipush (v := (31 : Int32)) rfl rfl rfl ?_
  refine X_icmp_ge (tgt := 101) rfl rfl rfl (fun h1 => ?_) (fun h1 => ?_)
  · refine X_iload_n rfl rfl rfl rfl ?_
    refine X_iconst (v := (-1 : Int32)) rfl rfl rfl ?_
    refine X_icmp_ne (tgt := 110) rfl rfl rfl (fun h2 => ?_) (fun h2 => ?_)
    · refine X_bipush (v := (-2 : Int32)) rfl rfl rfl ?_
      refine LW_ireturn (st := []) rfl rfl rfl ?_
      have e : (if i = -1 then nI s else -2 : Int32) = (-2 : Int32) := if_neg h2
      rw [e] at k
      exact k
    · refine X_iload_n rfl rfl rfl rfl ?_
      refine LW_goto (tgt := 112) rfl rfl ?_
      refine LW_ireturn (st := []) rfl rfl rfl ?_
      have e : (if i = -1 then nI s else -2 : Int32) = (nI (s)) := if_pos (Classical.not_not.mp (fun q => q h2))
      rw [e] at k
      exact k
  · exfalso
    simp only [Int32.lt_iff_toInt_lt, Int32.le_iff_toInt_le, ← Int32.toInt_inj, (show (31 : Int32).toInt = 31 from rfl), (nI_toInt (n := 31) (by omega))] at h1
    omega
theorem r_sp_out {g : LH} {d : Nat} {n0 : Int32} {i : Int32} {Q : Option Value → LH → Prop} (F : Fr g) : ∀ (m f s : Nat) (L6 : Option Value), f + m = 31 → s < 2 + 31 * f → Q (some (.int (sO i m f s))) g → LW 311 (d + 1) 0 0 39 [some (.ref 355), some (.int n0), some (.int i), some (.int (nI (s))), some (.int (nI (f))), L6] [] g Q := by
  intro m
  induction m with
  | zero =>
    intro f s L6 hf hs k
    have hf : f = 31 := by omega
    subst hf
    exact r_sp_end F k
  | succ m ih =>
    intro f s L6 hf hs k
    refine r_sp_new F (by omega) ?_
    refine r_sp_in F (by omega) (31 - f) f s (by omega) (by omega) (fun v hv => ?_) (fun s' hv => ?_)
    · unfold sO at k
      rw [hv] at k
      exact k
    · unfold sO at k
      rw [hv] at k
      have := sI_le i f (31 - f) f s s' hv
      exact r_sp_next F (by omega) (ih (f + 1) s' _ (by omega) (by omega) k)
set_option maxRecDepth 10000 in
set_option maxHeartbeats 40000000 in
theorem r_spells_in {g : LH} (F : Fr g) {n : Nat} (hn : n < 26) (i : Int32) (hi : -1 ≤ i.toInt) : LW 311 30 0 0 0 (lEnt (mL 311) [.ref 355, .int (nI (n)), .int i]) [] g (fun v _ => v = some (.int (f_spells i))) := by
  refine LW_ls (ls' := [some (.ref 355), some (.int (nI (n))), some (.int i), none, none, none]) rfl ?_
  refine X_iload_n rfl rfl rfl rfl ?_
  refine X_callS (as := [.int (nI (n))]) (st := []) rfl rfl rfl (by decide) rfl (Nat.le_of_ble_eq_true rfl) (by decide) (Nat.le_of_ble_eq_true rfl) rfl ?_
  refine LW_ls (ls' := [some (.int (nI (n)))]) rfl ?_
  refine X_iload_n rfl rfl rfl rfl ?_
  refine X_iconst (v := (0 : Int32)) rfl rfl rfl ?_
  refine X_bipush (v := (25 : Int32)) rfl rfl rfl ?_
  refine X_callS (as := [.int (nI (n)), .int (0 : Int32), .int (25 : Int32)]) (st := []) rfl rfl rfl (by decide) rfl (Nat.le_of_ble_eq_true rfl) (by decide) (Nat.le_of_ble_eq_true rfl) rfl ?_
  refine LW_ls (ls' := [some (.int (nI (n))), some (.int (0 : Int32)), some (.int (25 : Int32))]) rfl ?_
  refine X_iload_n rfl rfl rfl rfl ?_
  refine X_iload_n rfl rfl rfl rfl ?_
  refine X_icmp_lt (tgt := 14) rfl rfl rfl (fun h1 => ?_) (fun h1 => ?_)
  · exfalso
    simp only [Int32.lt_iff_toInt_lt, Int32.le_iff_toInt_le, ← Int32.toInt_inj, (show (0 : Int32).toInt = 0 from rfl), (nI_toInt (n := n) (by omega))] at h1
    omega
  · refine X_iload_n rfl rfl rfl rfl ?_
    refine X_iload_n rfl rfl rfl rfl ?_
    refine X_icmp_gt (tgt := 14) rfl rfl rfl (fun h2 => ?_) (fun h2 => ?_)
    · exfalso
      simp only [Int32.lt_iff_toInt_lt, Int32.le_iff_toInt_le, ← Int32.toInt_inj, (show (0 : Int32).toInt = 0 from rfl), (show (25 : Int32).toInt = 25 from rfl), (nI_toInt (n := n) (by omega))] at h1 h2
      omega
    · refine X_iconst (v := (1 : Int32)) rfl rfl rfl ?_
      refine LW_goto (tgt := 15) rfl rfl ?_
      refine LW_ireturn (st := []) rfl rfl rfl ?_
      refine LW_ireturn (st := []) rfl rfl rfl ?_
      refine X_if_eq (tgt := 12) rfl rfl rfl (fun q => absurd q (by decide)) (fun _ => ?_)
      refine X_iload_n rfl rfl rfl rfl ?_
      refine X_iconst (v := (-1 : Int32)) rfl rfl rfl ?_
      refine X_icmp_ge (tgt := 15) rfl rfl rfl (fun h3 => ?_) (fun h3 => ?_)
      · refine X_iconst (v := (0 : Int32)) rfl rfl rfl ?_
        refine X_istore_n (i := 3) (ls' := [some (.ref 355), some (.int (nI (n))), some (.int i), some (.int (0 : Int32)), none, none]) rfl rfl rfl (Nat.le_of_ble_eq_true rfl) rfl ?_
        refine X_aload_n rfl rfl rfl rfl ?_
        refine X_iload_n rfl rfl rfl rfl ?_
        refine X_iconst (v := (1 : Int32)) rfl rfl rfl ?_
        refine X_iconst (v := (0 : Int32)) rfl rfl rfl ?_
        refine Y_callV (as := [.int (nI (n)), .int (1 : Int32), .int (0 : Int32)]) (st := []) rfl rfl rfl (by decide) rfl (Nat.le_of_ble_eq_true rfl) (by decide) (Nat.le_of_ble_eq_true rfl) rfl ((congrFun F.1 355).trans s_355) (by decide) (r_canBe F (nI (n)) (1 : Int32) (0 : Int32)) ?_
        rintro _ _ ⟨rfl, rfl⟩
        refine X_if_eq (tgt := 36) rfl rfl rfl (fun q => absurd q (by decide)) (fun _ => ?_)
        refine X_iload_n rfl rfl rfl rfl ?_
        refine X_if_ne (tgt := 33) rfl rfl rfl (fun h4 => ?_) (fun h4 => ?_)
        · refine X_iinc (v := (1 : Int32)) (ls' := [some (.ref 355), some (.int (nI (n))), some (.int i), some (.int (1 : Int32)), none, none]) rfl rfl rfl rfl rfl ?_
          refine X_iconst (v := (0 : Int32)) rfl rfl rfl ?_
          refine X_istore (i := 4) (ls' := [some (.ref 355), some (.int (nI (n))), some (.int i), some (.int (1 : Int32)), some (.int (0 : Int32)), none]) rfl rfl (Nat.le_of_ble_eq_true rfl) rfl ?_
          refine r_sp_out F 31 0 1 none rfl (by decide) ?_
          refine congrArg (fun z => some (Value.int z)) ?_
          unfold f_spells
          exact (if_neg h4).symm
        · refine X_iconst (v := (-1 : Int32)) rfl rfl rfl ?_
          refine LW_ireturn (st := []) rfl rfl rfl (congrArg (fun z => some (Value.int z)) ?_)
          unfold f_spells
          exact (if_pos (Classical.not_not.mp (fun q => q h4))).symm
      · exfalso
        simp only [Int32.lt_iff_toInt_lt, Int32.le_iff_toInt_le, ← Int32.toInt_inj, (show (-1 : Int32).toInt = -1 from rfl), (show (0 : Int32).toInt = 0 from rfl), (show (25 : Int32).toInt = 25 from rfl), (nI_toInt (n := n) (by omega))] at h1 h2 h3
        omega
set_option maxRecDepth 10000 in
set_option maxHeartbeats 40000000 in
theorem r_spells_out {g : LH} (F : Fr g) (a i : Int32) (hr : ¬ (0 ≤ a.toInt ∧ a.toInt ≤ 25 ∧ -1 ≤ i.toInt)) : LW 311 30 0 0 0 (lEnt (mL 311) [.ref 355, .int a, .int i]) [] g (fun v _ => v = some (.int (-2))) := by
  refine LW_ls (ls' := [some (.ref 355), some (.int a), some (.int i), none, none, none]) rfl ?_
  refine X_iload_n rfl rfl rfl rfl ?_
  refine X_callS (as := [.int a]) (st := []) rfl rfl rfl (by decide) rfl (Nat.le_of_ble_eq_true rfl) (by decide) (Nat.le_of_ble_eq_true rfl) rfl ?_
  refine LW_ls (ls' := [some (.int a)]) rfl ?_
  refine X_iload_n rfl rfl rfl rfl ?_
  refine X_iconst (v := (0 : Int32)) rfl rfl rfl ?_
  refine X_bipush (v := (25 : Int32)) rfl rfl rfl ?_
  refine X_callS (as := [.int a, .int (0 : Int32), .int (25 : Int32)]) (st := []) rfl rfl rfl (by decide) rfl (Nat.le_of_ble_eq_true rfl) (by decide) (Nat.le_of_ble_eq_true rfl) rfl ?_
  refine LW_ls (ls' := [some (.int a), some (.int (0 : Int32)), some (.int (25 : Int32))]) rfl ?_
  refine X_iload_n rfl rfl rfl rfl ?_
  refine X_iload_n rfl rfl rfl rfl ?_
  refine X_icmp_lt (tgt := 14) rfl rfl rfl (fun h1 => ?_) (fun h1 => ?_)
  · refine X_iconst (v := (0 : Int32)) rfl rfl rfl ?_
    refine LW_ireturn (st := []) rfl rfl rfl ?_
    refine LW_ireturn (st := []) rfl rfl rfl ?_
    refine X_if_eq (tgt := 12) rfl rfl rfl (fun _ => ?_) (fun q => absurd q (by decide))
    refine X_bipush (v := (-2 : Int32)) rfl rfl rfl ?_
    exact LW_ireturn (st := []) rfl rfl rfl rfl
  · refine X_iload_n rfl rfl rfl rfl ?_
    refine X_iload_n rfl rfl rfl rfl ?_
    refine X_icmp_gt (tgt := 14) rfl rfl rfl (fun h2 => ?_) (fun h2 => ?_)
    · refine X_iconst (v := (0 : Int32)) rfl rfl rfl ?_
      refine LW_ireturn (st := []) rfl rfl rfl ?_
      refine LW_ireturn (st := []) rfl rfl rfl ?_
      refine X_if_eq (tgt := 12) rfl rfl rfl (fun _ => ?_) (fun q => absurd q (by decide))
      refine X_bipush (v := (-2 : Int32)) rfl rfl rfl ?_
      exact LW_ireturn (st := []) rfl rfl rfl rfl
    · refine X_iconst (v := (1 : Int32)) rfl rfl rfl ?_
      refine LW_goto (tgt := 15) rfl rfl ?_
      refine LW_ireturn (st := []) rfl rfl rfl ?_
      refine LW_ireturn (st := []) rfl rfl rfl ?_
      refine X_if_eq (tgt := 12) rfl rfl rfl (fun q => absurd q (by decide)) (fun _ => ?_)
      refine X_iload_n rfl rfl rfl rfl ?_
      refine X_iconst (v := (-1 : Int32)) rfl rfl rfl ?_
      refine X_icmp_ge (tgt := 15) rfl rfl rfl (fun h3 => ?_) (fun h3 => ?_)
      · exfalso
        simp only [Int32.lt_iff_toInt_lt, Int32.le_iff_toInt_le, ← Int32.toInt_inj, (show (-1 : Int32).toInt = -1 from rfl), (show (0 : Int32).toInt = 0 from rfl), (show (25 : Int32).toInt = 25 from rfl)] at h1 h2 h3
        omega
      · refine X_bipush (v := (-2 : Int32)) rfl rfl rfl ?_
        exact LW_ireturn (st := []) rfl rfl rfl rfl
