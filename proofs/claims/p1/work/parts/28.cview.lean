/-! a year; the class: keep, moves, dawn, morning, year -/
theorem LW_mono {j d bc bs pc : Nat} {ls : List (Option Value)} {st : List Value} {g : LH} {Q Q' : Option Value → LH → Prop} (h : LW j d bc bs pc ls st g Q) (hq : ∀ v g', Q v g' → Q' v g') : LW j d bc bs pc ls st g Q' :=
  fun p l e R s m args below meth c H locs cells slots Z D aC ρ A H0 b lsR X hc hs hw hl ho hz => h p l e R s m args below meth c H locs cells slots Z D aC ρ A H0 b lsR X hc hs hw hl ho (fun v g' ρ' H' locs' cells' slots' pc' ls' hQ => hz v g' ρ' H' locs' cells' slots' pc' ls' (hq v g' hQ))
theorem nI_or (a b : Nat) : nI a ||| nI b = nI (a ||| b) := by
  apply Int32.toBitVec_inj.mp
  show BitVec.ofNat 32 a ||| BitVec.ofNat 32 b = BitVec.ofNat 32 (a ||| b)
  apply BitVec.eq_of_toNat_eq
  simp [Nat.or_mod_two_pow]
theorem nI_xor (a b : Nat) : nI a ^^^ nI b = nI (a ^^^ b) := by
  apply Int32.toBitVec_inj.mp
  show BitVec.ofNat 32 a ^^^ BitVec.ofNat 32 b = BitVec.ofNat 32 (a ^^^ b)
  apply BitVec.eq_of_toNat_eq
  simp [Nat.xor_mod_two_pow]
theorem nI_or0 (x : Int32) : x ||| 0 = x := by simp
def mvB (w : Nat → Nat) (o l : Nat) : Nat := if o / 2 ^ l % 2 = 1 ∧ 9 < w l then 1 else 0
def mvS (w : Nat → Nat) (o : Nat) : Nat → Nat
  | 0 => 0
  | l + 1 => mvS w o l ||| (if mvB w o l = 1 then 2 ^ l else 0)
theorem mvB_lt (w : Nat → Nat) (o l : Nat) : mvB w o l < 2 := by unfold mvB; split <;> omega
theorem mvS_lt (w : Nat → Nat) (o : Nat) : ∀ l, l ≤ 26 → mvS w o l < 2 ^ 26
  | 0, _ => by show 0 < 2 ^ 26; decide
  | l + 1, h => by
    show mvS w o l ||| (if mvB w o l = 1 then 2 ^ l else 0) < 2 ^ 26
    refine Nat.or_lt_two_pow (mvS_lt w o l (by omega)) ?_
    split
    · exact Nat.pow_lt_pow_right (by decide) (by omega)
    · decide
theorem mvS_1 (w : Nat → Nat) (o l : Nat) (h : mvB w o l = 1) : mvS w o (l + 1) = mvS w o l ||| 2 ^ l := by
  show mvS w o l ||| (if mvB w o l = 1 then 2 ^ l else 0) = _
  rw [if_pos h]
theorem mvS_0 (w : Nat → Nat) (o l : Nat) (h : mvB w o l = 0) : mvS w o (l + 1) = mvS w o l := by
  show mvS w o l ||| (if mvB w o l = 1 then 2 ^ l else 0) = _
  rw [if_neg (by omega), Nat.or_zero]
theorem mvS_new : 0 ^^^ mvS (fun _ => 1) 0 26 = 0 := by decide +kernel
def anewN (x : Nat) : Nat := (x * 211 + 97) % 30139
def upW (w : Nat → Nat) (l : Nat) : Nat → Nat := fun k => if k = l then (if w l < 99 then w l + 1 else 99) else w k
def yW (w : Nat → Nat) (l x : Nat) : Nat → Nat := if x % 4 = 0 then upW w l else w
def yO (w : Nat → Nat) (o l x : Nat) : Nat := if x % 4 = 1 then o ^^^ 2 ^ l else if x % 4 = 3 then o ^^^ mvS w o 26 else o
def yr : Nat → (Nat → Nat) → Nat → Nat → Nat
  | 0, _, o, _ => o
  | m + 1, w, o, x => yr m (yW w (x % 26) (anewN x)) (yO w o (x % 26) (anewN x)) (anewN (anewN x))
def yOk (w : Nat → Nat) (o : Nat) : Prop := (∀ k, k < 26 → w k ≤ 99) ∧ o < 2 ^ 26
theorem anewN_lt (x : Nat) : anewN x < 30139 := Nat.mod_lt _ (by decide)
theorem yOk_step {w : Nat → Nat} {o l x : Nat} (h : yOk w o) (hl : l < 26) : yOk (yW w l x) (yO w o l x) := by
  refine ⟨fun k hk => ?_, ?_⟩
  · unfold yW
    split
    · unfold upW
      split
      · split <;> omega
      · exact h.1 k hk
    · exact h.1 k hk
  · unfold yO
    split
    · exact Nat.xor_lt_two_pow h.2 (Nat.pow_lt_pow_right (by decide) (by omega))
    · split
      · exact Nat.xor_lt_two_pow h.2 (mvS_lt w o 26 (Nat.le_refl _))
      · exact h.2
theorem yr_lt : ∀ (m : Nat) (w : Nat → Nat) (o x : Nat), yOk w o → yr m w o x < 2 ^ 26
  | 0, _, _, _, h => h.2
  | m + 1, w, o, x, h => yr_lt m _ _ _ (yOk_step h (Nat.mod_lt _ (by decide)))
-- the class's heap
def HV (g : LH) : Prop := ∃ c e : Nat, Gi g 14 0 = nI c ∧ Gi g 14 1 = nI e ∧ c ≤ 30 ∧ e < 30
def CV (g : LH) (w : Nat → Nat) (o x dy : Nat) : Prop := Gs g = eS e2 ∧ (∀ q, q < 355 → Gr g q = eR e2 q) ∧ Fr g ∧ Gi g 10 0 = nI o ∧ Gi g 10 1 = nI dy ∧ Gi g 10 2 = nI x ∧ (∀ k, k < 26 → Gi g 11 k = nI (w k)) ∧ (∀ k, k < 26 → Gi g 141 k = 0) ∧ Gi g 1 6 = -1 ∧ HV g
theorem CV_of {g g' : LH} {w : Nat → Nat} {o x dy : Nat} (V : CV g w o x dy) (hs : Gs g' = Gs g) (hr : Gr g' = Gr g) (hE : Fr g') (h : ∀ q, q = 10 ∨ q = 11 ∨ q = 141 ∨ q = 1 ∨ q = 14 → Gi g' q = Gi g q) : CV g' w o x dy := by
  obtain ⟨a1, a2, a3, a4, a5, a6, a7, a8, a9, c, e, b1, b2, b3, b4⟩ := V
  have h10 := h 10 (by omega)
  have h11 := h 11 (by omega)
  have h141 := h 141 (by omega)
  have h1 := h 1 (by omega)
  have h14 := h 14 (by omega)
  refine ⟨hs.trans a1, fun q hq => (congrFun hr q).trans (a2 q hq), hE, ?_, ?_, ?_, fun k hk => ?_, fun k hk => ?_, ?_, c, e, ?_, ?_, b3, b4⟩
  · rw [h10]; exact a4
  · rw [h10]; exact a5
  · rw [h10]; exact a6
  · rw [h11]; exact a7 k hk
  · rw [h141]; exact a8 k hk
  · rw [h1]; exact a9
  · rw [h14]; exact b1
  · rw [h14]; exact b2
theorem CV_put {g : LH} {w : Nat → Nat} {o x dy q k : Nat} {z : Int32} (V : CV g w o x dy) (hq : (15 ≤ q ∧ q < 136) ∨ q = 12 ∨ q = 13) : CV (putI g q k z) w o x dy :=
  CV_of V rfl rfl (Fr_putI V.2.2.1 (by omega)) (fun q' hq' => va_up_ne _ _ (by omega))
theorem CV_cpy {g : LH} {w : Nat → Nat} {o x dy a0 q sp dp n : Nat} (V : CV g w o x dy) (hq : 15 ≤ q ∧ q < 136) : CV (cpyI g a0 q sp dp n) w o x dy :=
  CV_of V rfl rfl (Fr_cpyI V.2.2.1 (by omega)) (fun q' hq' => va_up_ne _ _ (by omega))
theorem CV_hist {g : LH} {w : Nat → Nat} {o x dy k v : Nat} (V : CV g w o x dy) (hk : (k = 0 ∧ v ≤ 30) ∨ (k = 1 ∧ v < 30)) : CV (putI g 14 k (nI v)) w o x dy := by
  obtain ⟨a1, a2, a3, a4, a5, a6, a7, a8, a9, c, e, b1, b2, b3, b4⟩ := V
  have hn : ∀ q, q ≠ 14 → Gi (putI g 14 k (nI v)) q = Gi g q := fun q hq => va_up_ne _ _ hq
  have h14 : Gi (putI g 14 k (nI v)) 14 = upd (Gi g 14) k (nI v) := putS
  refine ⟨a1, a2, Fr_putI a3 (by decide), ?_, ?_, ?_, fun k hk => ?_, fun k hk => ?_, ?_, ?_⟩
  · rw [hn 10 (by decide)]; exact a4
  · rw [hn 10 (by decide)]; exact a5
  · rw [hn 10 (by decide)]; exact a6
  · rw [hn 11 (by decide)]; exact a7 k hk
  · rw [hn 141 (by decide)]; exact a8 k hk
  · rw [hn 1 (by decide)]; exact a9
  · rcases hk with ⟨rfl, hv⟩ | ⟨rfl, hv⟩
    · refine ⟨v, e, ?_, ?_, hv, b4⟩
      · rw [h14]; exact pk_us
      · rw [h14, pk_un (by decide)]; exact b2
    · refine ⟨c, v, ?_, ?_, b3, hv⟩
      · rw [h14, pk_un (by decide)]; exact b1
      · rw [h14]; exact pk_us
theorem CV_fld {g : LH} {w : Nat → Nat} {o x dy o' x' dy' k v : Nat} (V : CV g w o x dy) (hk : (k = 0 ∧ o' = v ∧ x' = x ∧ dy' = dy) ∨ (k = 1 ∧ dy' = v ∧ o' = o ∧ x' = x) ∨ (k = 2 ∧ x' = v ∧ o' = o ∧ dy' = dy)) : CV (putI g 10 k (nI v)) w o' x' dy' := by
  obtain ⟨a1, a2, a3, a4, a5, a6, a7, a8, a9, c, e, b1, b2, b3, b4⟩ := V
  have hn : ∀ q, q ≠ 10 → Gi (putI g 10 k (nI v)) q = Gi g q := fun q hq => va_up_ne _ _ hq
  have h10 : Gi (putI g 10 k (nI v)) 10 = upd (Gi g 10) k (nI v) := putS
  have r7 : ∀ k', k' < 26 → Gi (putI g 10 k (nI v)) 11 k' = nI (w k') := fun k' hk => by rw [hn 11 (by decide)]; exact a7 k' hk
  have r8 : ∀ k', k' < 26 → Gi (putI g 10 k (nI v)) 141 k' = 0 := fun k' hk => by rw [hn 141 (by decide)]; exact a8 k' hk
  have r9 : Gi (putI g 10 k (nI v)) 1 6 = -1 := by rw [hn 1 (by decide)]; exact a9
  have rh : HV (putI g 10 k (nI v)) := ⟨c, e, by rw [hn 14 (by decide)]; exact b1, by rw [hn 14 (by decide)]; exact b2, b3, b4⟩
  rcases hk with ⟨rfl, rfl, rfl, rfl⟩ | ⟨rfl, rfl, rfl, rfl⟩ | ⟨rfl, rfl, rfl, rfl⟩
  · refine ⟨a1, a2, Fr_putI a3 (by decide), ?_, ?_, ?_, r7, r8, r9, rh⟩
    · rw [h10]; exact pk_us
    · rw [h10, pk_un (by decide)]; exact a5
    · rw [h10, pk_un (by decide)]; exact a6
  · refine ⟨a1, a2, Fr_putI a3 (by decide), ?_, ?_, ?_, r7, r8, r9, rh⟩
    · rw [h10, pk_un (by decide)]; exact a4
    · rw [h10]; exact pk_us
    · rw [h10, pk_un (by decide)]; exact a6
  · refine ⟨a1, a2, Fr_putI a3 (by decide), ?_, ?_, ?_, r7, r8, r9, rh⟩
    · rw [h10, pk_un (by decide)]; exact a4
    · rw [h10, pk_un (by decide)]; exact a5
    · rw [h10]; exact pk_us
theorem CV_wage {g : LH} {w : Nat → Nat} {o x dy l : Nat} (V : CV g w o x dy) : CV (putI g 11 l (nI (if w l < 99 then w l + 1 else 99))) (upW w l) o x dy := by
  obtain ⟨a1, a2, a3, a4, a5, a6, a7, a8, a9, c, e, b1, b2, b3, b4⟩ := V
  have hn : ∀ q, q ≠ 11 → Gi (putI g 11 l (nI (if w l < 99 then w l + 1 else 99))) q = Gi g q := fun q hq => va_up_ne _ _ hq
  have h11 : Gi (putI g 11 l (nI (if w l < 99 then w l + 1 else 99))) 11 = upd (Gi g 11) l (nI (if w l < 99 then w l + 1 else 99)) := putS
  refine ⟨a1, a2, Fr_putI a3 (by decide), ?_, ?_, ?_, fun k hk => ?_, fun k hk => ?_, ?_, c, e, ?_, ?_, b3, b4⟩
  · rw [hn 10 (by decide)]; exact a4
  · rw [hn 10 (by decide)]; exact a5
  · rw [hn 10 (by decide)]; exact a6
  · rw [h11]
    unfold upW
    by_cases hkl : k = l
    · subst hkl
      rw [pk_us, if_pos rfl]
    · rw [pk_un hkl, if_neg hkl]
      exact a7 k hk
  · rw [hn 141 (by decide)]; exact a8 k hk
  · rw [hn 1 (by decide)]; exact a9
  · rw [hn 14 (by decide)]; exact b1
  · rw [hn 14 (by decide)]; exact b2
theorem mvG_at (g : LH) (n i q : Nat) : Gi (mvG g n i) q = va_up (va_up (Gi g) 10 (upd (Gi g 10) 0 (Gi g 10 0 ^^^ nI n))) 12 (mvR n i (Gi g 12)) q := rfl
theorem mvG_10 (g : LH) (n i : Nat) : Gi (mvG g n i) 10 = upd (Gi g 10) 0 (Gi g 10 0 ^^^ nI n) := by
  rw [mvG_at, va_up_ne _ _ (by decide), va_up_self]
theorem mvG_ne (g : LH) (n i q : Nat) (h : q ≠ 10) (h2 : q ≠ 12) : Gi (mvG g n i) q = Gi g q := by
  rw [mvG_at, va_up_ne _ _ h2, va_up_ne _ _ h]
theorem CV_move {g : LH} {w : Nat → Nat} {o x dy n i : Nat} (V : CV g w o x dy) : CV (mvG g n i) w (o ^^^ n) x dy := by
  obtain ⟨a1, a2, a3, a4, a5, a6, a7, a8, a9, c, e, b1, b2, b3, b4⟩ := V
  have hn := mvG_ne g n i
  have h10 := mvG_10 g n i
  refine ⟨a1, a2, Fr_mvG a3, ?_, ?_, ?_, fun k hk => ?_, fun k hk => ?_, ?_, c, e, ?_, ?_, b3, b4⟩
  · rw [h10, pk_us, a4, nI_xor]
  · rw [h10, pk_un (by decide)]; exact a5
  · rw [h10, pk_un (by decide)]; exact a6
  · rw [hn 11 (by decide) (by decide)]; exact a7 k hk
  · rw [hn 141 (by decide) (by decide)]; exact a8 k hk
  · rw [hn 1 (by decide) (by decide)]; exact a9
  · rw [hn 14 (by decide) (by decide)]; exact b1
  · rw [hn 14 (by decide) (by decide)]; exact b2
theorem st_a : ∀ k, k < 30 → eR e2 15 k = some (16 + 4 * k) := by decide +kernel
theorem st_s : ∀ k, k < 30 → eS e2 (16 + 4 * k) = .inl 9 := by decide +kernel
theorem st_4 : ∀ k, k < 30 → eR e2 (16 + 4 * k) 4 = some (17 + 4 * k) := by decide +kernel
theorem st_5 : ∀ k, k < 30 → eR e2 (16 + 4 * k) 5 = some (18 + 4 * k) := by decide +kernel
theorem st_6 : ∀ k, k < 30 → eR e2 (16 + 4 * k) 6 = some (19 + 4 * k) := by decide +kernel
theorem st_s1 : ∀ k, k < 30 → eS e2 (17 + 4 * k) = .inr (.int, 26) := by decide +kernel
theorem st_s2 : ∀ k, k < 30 → eS e2 (18 + 4 * k) = .inr (.int, 26) := by decide +kernel
theorem st_s3 : ∀ k, k < 30 → eS e2 (19 + 4 * k) = .inr (.int, 26) := by decide +kernel
theorem c_copyFromH {g : LH} {d k c : Nat} {w : Nat → Nat} {o x dy : Nat} (V : CV g w o x dy) (hk : k < 30) (hc : Gi g 14 0 = nI c) : LW 105 (d + 1) 0 0 0 (lEnt (mL 105) [.ref (16 + 4 * k), .ref 10]) [] g (fun v g' => v = none ∧ CV g' w o x dy ∧ Gi g' 14 0 = nI c) := by
  have ha : Gs g (16 + 4 * k) = .inl 9 := (congrFun V.1 _).trans (st_s k hk)
  have hb : Gs g 10 = .inl 9 := (congrFun V.1 10).trans s_10
  refine LW_ls (ls' := [some (.ref (16 + 4 * k)), some (.ref 10)]) rfl ?_
  refine X_aload_n rfl rfl rfl rfl ?_
  refine X_aload_n rfl rfl rfl rfl ?_
  refine X_getI (v := _) rfl rfl rfl hb rfl rfl ?_
  refine X_putI rfl rfl rfl ha rfl rfl rfl rfl ?_
  refine X_aload_n rfl rfl rfl rfl ?_
  refine X_aload_n rfl rfl rfl rfl ?_
  refine X_getI (v := _) rfl rfl rfl hb rfl rfl ?_
  refine X_putI rfl rfl rfl ha rfl rfl rfl rfl ?_
  refine X_aload_n rfl rfl rfl rfl ?_
  refine X_aload_n rfl rfl rfl rfl ?_
  refine X_getI (v := _) rfl rfl rfl hb rfl rfl ?_
  refine X_putI rfl rfl rfl ha rfl rfl rfl rfl ?_
  refine X_aload_n rfl rfl rfl rfl ?_
  refine X_aload_n rfl rfl rfl rfl ?_
  refine X_getI (v := _) rfl rfl rfl hb rfl rfl ?_
  refine X_putI rfl rfl rfl ha rfl rfl rfl rfl ?_
  refine X_aload_n rfl rfl rfl rfl ?_
  refine X_getR (a := 11) rfl rfl rfl hb rfl ((congrFun (V.2.1 10 (by decide)) 4).trans r_10_4) ?_
  refine X_iconst (v := 0) rfl rfl rfl ?_
  refine X_aload_n rfl rfl rfl rfl ?_
  refine X_getR (a := 17 + 4 * k) rfl rfl rfl ha rfl ((congrFun (V.2.1 (16 + 4 * k) (by omega)) 4).trans (st_4 k hk)) ?_
  refine X_iconst (v := 0) rfl rfl rfl ?_
  refine X_bipush (v := 26) rfl rfl rfl ?_
  refine X_copy (sp' := 0) (dp' := 0) (n' := 26) rfl rfl rfl ((congrFun V.1 11).trans s_11) ((congrFun V.1 _).trans (st_s1 k hk)) (by decide) (by decide) (by decide) rfl rfl rfl (by decide) (by decide) (Nat.le_of_ble_eq_true rfl) ?_
  refine X_aload_n rfl rfl rfl rfl ?_
  refine X_getR (a := 12) rfl rfl rfl hb rfl ((congrFun (V.2.1 10 (by decide)) 5).trans r_10_5) ?_
  refine X_iconst (v := 0) rfl rfl rfl ?_
  refine X_aload_n rfl rfl rfl rfl ?_
  refine X_getR (a := 18 + 4 * k) rfl rfl rfl ha rfl ((congrFun (V.2.1 (16 + 4 * k) (by omega)) 5).trans (st_5 k hk)) ?_
  refine X_iconst (v := 0) rfl rfl rfl ?_
  refine X_bipush (v := 26) rfl rfl rfl ?_
  refine X_copy (sp' := 0) (dp' := 0) (n' := 26) rfl rfl rfl ((congrFun V.1 12).trans s_12) ((congrFun V.1 _).trans (st_s2 k hk)) (by decide) (by decide) (by decide) rfl rfl rfl (by decide) (by decide) (Nat.le_of_ble_eq_true rfl) ?_
  refine X_aload_n rfl rfl rfl rfl ?_
  refine X_getR (a := 13) rfl rfl rfl hb rfl ((congrFun (V.2.1 10 (by decide)) 6).trans r_10_6) ?_
  refine X_iconst (v := 0) rfl rfl rfl ?_
  refine X_aload_n rfl rfl rfl rfl ?_
  refine X_getR (a := 19 + 4 * k) rfl rfl rfl ha rfl ((congrFun (V.2.1 (16 + 4 * k) (by omega)) 6).trans (st_6 k hk)) ?_
  refine X_iconst (v := 0) rfl rfl rfl ?_
  refine X_bipush (v := 26) rfl rfl rfl ?_
  refine X_copy (sp' := 0) (dp' := 0) (n' := 26) rfl rfl rfl ((congrFun V.1 13).trans s_13) ((congrFun V.1 _).trans (st_s3 k hk)) (by decide) (by decide) (by decide) rfl rfl rfl (by decide) (by decide) (Nat.le_of_ble_eq_true rfl) ?_
  refine LW_return (st := []) rfl rfl ⟨rfl, CV_cpy (CV_cpy (CV_cpy (CV_put (CV_put (CV_put (CV_put V (Or.inl ⟨by omega, by omega⟩)) (Or.inl ⟨by omega, by omega⟩)) (Or.inl ⟨by omega, by omega⟩)) (Or.inl ⟨by omega, by omega⟩)) ⟨by omega, by omega⟩) ⟨by omega, by omega⟩) ⟨by omega, by omega⟩, ?_⟩
  have u : ∀ (g : LH) (q k : Nat) (z : Int32), q ≠ 14 → Gi (putI g q k z) 14 = Gi g 14 := fun g q k z h => va_up_ne _ _ (fun e => h e.symm)
  have u2 : ∀ (g : LH) (a q s t n : Nat), q ≠ 14 → Gi (cpyI g a q s t n) 14 = Gi g 14 := fun g a q s t n h => va_up_ne _ _ (fun e => h e.symm)
  rw [u2 _ _ _ _ _ _ (by omega), u2 _ _ _ _ _ _ (by omega), u2 _ _ _ _ _ _ (by omega), u _ _ _ _ (by omega), u _ _ _ _ (by omega), u _ _ _ _ (by omega), u _ _ _ _ (by omega)]
  exact hc
theorem c_keep_tail {g : LH} {d c e : Nat} {w : Nat → Nat} {o x dy : Nat} (V : CV g w o x dy) (h0 : Gi g 14 0 = nI c) (h1 : Gi g 14 1 = nI e) (hc : c < 30) (he : e < 30) : LW 24 (d + 2) 0 0 32 [some (.ref 14), some (.ref 10)] [] g (fun v g' => v = none ∧ CV g' w o x dy) := by
  have hs : Gs g 14 = .inl 3 := (congrFun V.1 14).trans s_14
  have hkk : (e + c) % 30 < 30 := Nat.mod_lt _ (by decide)
  refine X_aload_n rfl rfl rfl rfl ?_
  refine X_getR (a := 15) rfl rfl rfl hs rfl ((congrFun (V.2.1 14 (by decide)) 2).trans r_14_2) ?_
  refine X_aload_n rfl rfl rfl rfl ?_
  refine X_getI (v := nI e) rfl rfl rfl hs rfl h1 ?_
  refine X_aload_n rfl rfl rfl rfl ?_
  refine X_getI (v := nI c) rfl rfl rfl hs rfl h0 ?_
  refine X_iadd (v := nI (e + c)) rfl rfl (nI_add _ _) ?_
  refine X_bipush (v := 30) rfl rfl rfl ?_
  refine X_irem (v := nI ((e + c) % 30)) rfl rfl (by decide) (nI_irem (d := 30) (by omega) (by decide)) ?_
  refine X_aald (a := 16 + 4 * ((e + c) % 30)) (t0 := 3) rfl rfl ((congrFun V.1 15).trans s_15) rfl (vp_in_nI hkk (by decide)) ((congrArg (Gr _ 15) (nI_clamp (n := (e + c) % 30) (by omega))).trans ((congrFun (V.2.1 15 (by decide)) _).trans (st_a _ hkk))) ?_
  refine X_aload_n rfl rfl rfl rfl ?_
  refine Y_callV (as := [.ref 10]) (st := []) rfl rfl rfl (by decide) rfl (Nat.le_of_ble_eq_true rfl) (by decide) (Nat.le_of_ble_eq_true rfl) rfl ((congrFun V.1 _).trans (st_s _ hkk)) (by decide) (c_copyFromH (c := c) V hkk h0) ?_
  rintro _ g' ⟨rfl, V', h0'⟩
  have hs' : Gs g' 14 = .inl 3 := (congrFun V'.1 14).trans s_14
  refine X_aload_n rfl rfl rfl rfl ?_
  refine X_dup rfl rfl rfl ?_
  refine X_getI (v := nI c) rfl rfl rfl hs' rfl h0' ?_
  refine X_iconst (v := 1) rfl rfl rfl ?_
  refine X_iadd (v := nI (c + 1)) rfl rfl (nI_add c 1) ?_
  refine X_putI rfl rfl rfl hs' rfl rfl rfl rfl ?_
  exact LW_return (st := []) rfl rfl ⟨rfl, CV_hist V' (Or.inl ⟨rfl, by omega⟩)⟩
theorem c_keep {g : LH} {d : Nat} {w : Nat → Nat} {o x dy : Nat} (V : CV g w o x dy) : LW 24 (d + 2) 0 0 0 (lEnt (mL 24) [.ref 14, .ref 10]) [] g (fun v g' => v = none ∧ CV g' w o x dy) := by
  have hs : Gs g 14 = .inl 3 := (congrFun V.1 14).trans s_14
  obtain ⟨c, e, h0, h1, hc, he⟩ := V.2.2.2.2.2.2.2.2.2
  refine LW_ls (ls' := [some (.ref 14), some (.ref 10)]) rfl ?_
  refine X_aload_n rfl rfl rfl rfl ?_
  refine X_getI (v := nI c) rfl rfl rfl hs rfl h0 ?_
  refine X_bipush (v := nI 30) rfl rfl rfl ?_
  refine X_icmp_ne (tgt := 32) rfl rfl rfl (fun q => ?_) (fun q => ?_)
  · have hne : c ≠ 30 := fun e => q (by rw [e])
    exact c_keep_tail V h0 h1 (by omega) he
  · have hc30 : c = 30 := (nI_eq (by omega) (by decide)).mp q
    subst hc30
    refine X_aload_n rfl rfl rfl rfl ?_
    refine X_aload_n rfl rfl rfl rfl ?_
    refine X_getI (v := nI e) rfl rfl rfl hs rfl h1 ?_
    refine X_iconst (v := 1) rfl rfl rfl ?_
    refine X_iadd (v := nI (e + 1)) rfl rfl (nI_add e 1) ?_
    refine X_bipush (v := 30) rfl rfl rfl ?_
    refine X_irem (v := nI ((e + 1) % 30)) rfl rfl (by decide) (nI_irem (d := 30) (by omega) (by decide)) ?_
    refine X_putI rfl rfl rfl hs rfl rfl rfl rfl ?_
    have V1 : CV (putI g 14 1 (nI ((e + 1) % 30))) w o x dy := CV_hist V (Or.inr ⟨rfl, Nat.mod_lt _ (by decide)⟩)
    refine X_aload_n rfl rfl rfl rfl ?_
    refine X_dup rfl rfl rfl ?_
    refine X_getI (v := nI 30) rfl rfl rfl hs rfl h0 ?_
    refine X_iconst (v := 1) rfl rfl rfl ?_
    refine X_isub (v := nI 29) rfl rfl rfl ?_
    refine X_putI rfl rfl rfl hs rfl rfl rfl rfl ?_
    exact c_keep_tail (CV_hist V1 (Or.inl ⟨rfl, by decide⟩)) rfl rfl (by decide) (Nat.mod_lt _ (by decide))
