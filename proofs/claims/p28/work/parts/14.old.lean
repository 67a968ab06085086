/-! rows over what stood there ahead: the script, the class's own row of numbers, its texts; the JDK's methods over texts -/
theorem vp_lt {i : Int32} {n : Nat} (h : vp_in i n) : i.toNatClampNeg < n := Nat.not_le.mp fun q => h (Or.inr q)
theorem LW_slenX {j d bc bs pc pc' : Nat} {ls : List (Option Value)} {st : List Value} {g : LH} {Q : Option Value → LH → Prop} {L : Nat} {xs : Nat → Int32} {v : Int32} (h : lk j pc = some (.arraylength, 1)) (hp : pc + 1 = pc') (hx : Gx g = some (L, xs)) (hv : Int32.ofNat L = v) (k : LW j d bc bs pc' ls (.int v :: st) g Q) : LW j d bc bs pc ls (.retAddr 0 :: st) g Q := by
  subst hp
  subst hv
  exact LW_slen h hx k
theorem X_zast {j d bc bs pc pc' : Nat} {ls : List (Option Value)} {st : List Value} {g : LH} {Q : Option Value → LH → Prop} {q n k0 : Nat} {i x v : Int32} (h : lk j pc = some (.bastore, 1)) (hp : pc + 1 = pc') (hsh : Gs g q = .inr (.boolean, n)) (hin : vp_in i n) (hi : i.toNatClampNeg = k0) (hv : vp_nar .boolean x = v) (k : LW j d bc bs pc' ls st (putI g q k0 v) Q) : LW j d bc bs pc ls (.int x :: .int i :: .ref q :: st) g Q := by
  subst hp
  subst hi
  exact LW_zast h hsh hin hv k
theorem vp_in_d {i : Int32} {n : Nat} (h : decide (¬ (i < 0 ∨ n ≤ i.toNatClampNeg)) = true) : vp_in i n := by
  have h2 : ¬ (i < 0 ∨ n ≤ i.toNatClampNeg) := of_decide_eq_true h
  exact h2
theorem LW_eqv {j d bc bs pc : Nat} {ls : List (Option Value)} {st : List Value} {g : LH} {Q : Option Value → LH → Prop} {x v : Int32} (h : x = v) (k : LW j d bc bs pc ls (.int v :: st) g Q) : LW j d bc bs pc ls (.int x :: st) g Q := by
  subst h
  exact k
section OLD
variable {j d bc bs pc pc' : Nat} {ls : List (Option Value)} {st : List Value} {g : LH} {Q : Option Value → LH → Prop}
theorem X_getsZ {idx : Nat} {C n dd : String} {v : Value} (h : lk j pc = some (.getstatic idx, 3)) (hp : pc + 3 = pc') (hlk : Cond.fieldLink (mO j) idx C n dd ∈ lg) (hv : ∀ n, okV n v) (hO : ∀ (ρ b : Nat → Nat) (s : State) (H : Heap) (A : Nat → Prop), lSO b s H A → va_Z C n dd (cv ρ b v) A s H) (kk : LW j d bc bs pc' ls (v :: st) g Q) : LW j d bc bs pc ls st g Q := by
  subst hp
  intro p l e R s m args below meth c H locs cells slots Z D aC ρ A H0 b lsR X hc hs hw hl ho hz
  obtain ⟨hH0, hso, -⟩ := id hw.2.2.2.2.2.2.1
  subst hH0
  exact va_gets X.1 X.2.1 (hO ρ b s _ A hso) hw.2.2.2.1 X.2.2.2.2.2.1 (X.2.2.2.2.2.2.1 _ hlk) (fun _ h => h) (lk_dec h) (kk p l e R s m args below meth c H locs cells slots Z D aC ρ A s.heap b lsR X hc hs hw hl (lOk_cons.mpr ⟨hv _, ho⟩) hz)
theorem X_getsQ {idx : Nat} (h : lk j pc = some (.getstatic idx, 3)) (hp : pc + 3 = pc') (hlk : Cond.fieldLink (mO j) idx RJ3 "SIOOBE_FORMATTER" "Ljava/util/function/BiFunction;" ∈ lg) (k1 : LW j d bc bs pc' ls (.null :: st) g Q) (k2 : LW j d bc bs pc' ls (.retAddr 6 :: st) g Q) : LW j d bc bs pc ls st g Q := by
  subst hp
  intro p l e R s m args below meth c H locs cells slots Z D aC ρ A H0 b lsR X hc hs hw hl ho hz
  obtain ⟨hH0, hso, -⟩ := id hw.2.2.2.2.2.2.1
  subst hH0
  rcases hso.2.2.2.2.2 with h6 | h6
  · exact va_gets X.1 X.2.1 h6 hw.2.2.2.1 X.2.2.2.2.2.1 (X.2.2.2.2.2.2.1 _ hlk) (fun _ h => h) (lk_dec h) (k1 p l e R s m args below meth c H locs cells slots Z D aC ρ A s.heap b lsR X hc hs hw hl (lOk_cons.mpr ⟨trivial, ho⟩) hz)
  · exact va_gets X.1 X.2.1 h6 hw.2.2.2.1 X.2.2.2.2.2.1 (X.2.2.2.2.2.2.1 _ hlk) (fun _ h => h) (lk_dec h) (k2 p l e R s m args below meth c H locs cells slots Z D aC ρ A s.heap b lsR X hc hs hw hl (lOk_cons.mpr ⟨trivial, ho⟩) hz)
theorem X_getfO {idx r : Nat} {n dd : String} {v : Value} (h : lk j pc = some (.getfield idx, 3)) (hp : pc + 3 = pc') (hlk : Cond.fieldLink (mO j) idx RJ0 n dd ∈ lg) (hv : ∀ n, okV n v) (hO : ∀ (ρ b : Nat → Nat) (s : State) (H : Heap) (A : Nat → Prop), lSO b s H A → va_OF RJ0 n dd (cv ρ b v) (b r) A s H) (kk : LW j d bc bs pc' ls (v :: st) g Q) : LW j d bc bs pc ls (.retAddr r :: st) g Q := by
  subst hp
  intro p l e R s m args below meth c H locs cells slots Z D aC ρ A H0 b lsR X hc hs hw hl ho hz
  obtain ⟨hH0, hso, -⟩ := id hw.2.2.2.2.2.2.1
  subst hH0
  exact vk_getf X.1 X.2.1 (hO ρ b s _ A hso) hw.2.2.2.1 X.2.2.2.2.2.1 (X.2.2.2.2.2.2.1 _ hlk) (fun _ h => h) (lk_dec h) (kk p l e R s m args below meth c H locs cells slots Z D aC ρ A s.heap b lsR X hc hs hw hl (lOk_cons.mpr ⟨hv _, (lOk_cons.mp ho).2⟩) hz)
/-- a row of numbers that stood there ahead -/
theorem X_oiald {r N : Nat} {f : Nat → Int32} {i : Int32} (h : lk j pc = some (.iaload, 1)) (hp : pc + 1 = pc') (hO : ∀ (b : Nat → Nat) (s : State) (H : Heap) (A : Nat → Prop), lSO b s H A → va_T .int (b r) N (fun k => .int (f k)) A s H) (hin : vp_in i N) (kk : LW j d bc bs pc' ls (.int (f i.toNatClampNeg) :: st) g Q) : LW j d bc bs pc ls (.int i :: .retAddr r :: st) g Q := by
  subst hp
  intro p l e R s m args below meth c H locs cells slots Z D aC ρ A H0 b lsR X hc hs hw hl ho hz
  obtain ⟨hH0, hso, -⟩ := id hw.2.2.2.2.2.2.1
  subst hH0
  exact va_ti (v := .int (f i.toNatClampNeg)) X.1 X.2.1 (hO b s _ A hso) hw.2.2.2.1 hin rfl (lk_dec h) (kk p l e R s m args below meth c H locs cells slots Z D aC ρ A s.heap b lsR X hc hs hw hl (lOk_cons.mpr ⟨trivial, (lOk_cons.mp (lOk_cons.mp ho).2).2⟩) hz)
theorem X_obald {r N : Nat} {f : Nat → Int32} {i : Int32} (h : lk j pc = some (.baload, 1)) (hp : pc + 1 = pc') (hO : ∀ (b : Nat → Nat) (s : State) (H : Heap) (A : Nat → Prop), lSO b s H A → va_T .byte (b r) N (fun k => .int (f k)) A s H) (hin : vp_in i N) (kk : LW j d bc bs pc' ls (.int (f i.toNatClampNeg) :: st) g Q) : LW j d bc bs pc ls (.int i :: .retAddr r :: st) g Q := by
  subst hp
  intro p l e R s m args below meth c H locs cells slots Z D aC ρ A H0 b lsR X hc hs hw hl ho hz
  obtain ⟨hH0, hso, -⟩ := id hw.2.2.2.2.2.2.1
  subst hH0
  exact va_tb (v := .int (f i.toNatClampNeg)) X.1 X.2.1 (hO b s _ A hso) hw.2.2.2.1 hin rfl (lk_dec h) (kk p l e R s m args below meth c H locs cells slots Z D aC ρ A s.heap b lsR X hc hs hw hl (lOk_cons.mpr ⟨trivial, (lOk_cons.mp (lOk_cons.mp ho).2).2⟩) hz)
theorem X_oalen {r N : Nat} {f : Nat → Value} {ty : FieldType} {v : Int32} (h : lk j pc = some (.arraylength, 1)) (hp : pc + 1 = pc') (hO : ∀ (b : Nat → Nat) (s : State) (H : Heap) (A : Nat → Prop), lSO b s H A → va_T ty (b r) N f A s H) (hv : Int32.ofNat N = v) (kk : LW j d bc bs pc' ls (.int v :: st) g Q) : LW j d bc bs pc ls (.retAddr r :: st) g Q := by
  subst hp
  intro p l e R s m args below meth c H locs cells slots Z D aC ρ A H0 b lsR X hc hs hw hl ho hz
  obtain ⟨hH0, hso, -⟩ := id hw.2.2.2.2.2.2.1
  subst hH0
  exact va_tlen X.1 X.2.1 (hO b s _ A hso) hw.2.2.2.1 hv (lk_dec h) (kk p l e R s m args below meth c H locs cells slots Z D aC ρ A s.heap b lsR X hc hs hw hl (lOk_cons.mpr ⟨trivial, (lOk_cons.mp ho).2⟩) hz)
theorem X_ldcS {idx r : Nat} {tx : String} (h : lk j pc = some (.ldc idx, 2)) (hp : pc + 2 = pc') (hO : ∀ (b : Nat → Nat) (s : State) (H : Heap) (A : Nat → Prop), lSO b s H A → vk_R (mO j) idx tx (b r) s) (kk : LW j d bc bs pc' ls (.retAddr r :: st) g Q) : LW j d bc bs pc ls st g Q := by
  subst hp
  intro p l e R s m args below meth c H locs cells slots Z D aC ρ A H0 b lsR X hc hs hw hl ho hz
  obtain ⟨hH0, hso, -⟩ := id hw.2.2.2.2.2.2.1
  subst hH0
  exact va_ldcS X.1 X.2.1 X.2.2.2.2.2.1 (hO b s _ A hso) (lk_dec h) (kk p l e R s m args below meth c H locs cells slots Z D aC ρ A s.heap b lsR X hc hs hw hl (lOk_cons.mpr ⟨trivial, ho⟩) hz)
theorem X_aloadS {x i : Nat} (h : lk j pc = some (.aload i, 2)) (hp : pc + 2 = pc') (hi : ls[i]? = some (some (.retAddr x))) (kk : LW j d bc bs pc' ls (.retAddr x :: st) g Q) : LW j d bc bs pc ls st g Q := by
  subst hp
  intro p l e R s m args below meth c H locs cells slots Z D aC ρ A H0 b lsR X hc hs hw hl ho hz
  exact lv_aload X.1 X.2.1 (lk_dec h) (hl.2.2.2 i _ hi) (kk p l e R s m args below meth c H locs cells slots Z D aC ρ A H0 b lsR X hc hs hw hl (lOk_cons.mpr ⟨ho.2 i _ hi, ho⟩) hz)
/-- a call of a method of a text -/
theorem Y_callVO {idx j' i : Nat} {as : List Value} {stk : List Value} {Q' : Option Value → LH → Prop} (hi : i < 2) (h : lk j pc = some (.invokevirtual idx, 3)) (hp : pc + 3 = pc') (hm : mres j idx = some (0, j')) (hj : jOk j' = true) (hcls : (mY j').cls = RJ0) (hn : as.length = mN j') (hlen : (lFlat (.retAddr (2 + i) :: as)).length ≤ mL j') (hmx : mL j' ≤ 100) (hcat : (st.map fun v => v.category).sum ≤ 8) (hstk : stk = as.reverse ++ .retAddr (2 + i) :: st)
    (spec : LW j' d 0 0 0 (lEnt (mL j') (.retAddr (2 + i) :: as)) [] g Q') (kk : ∀ v g', Q' v g' → LW j (d + 1) 0 0 pc' ls (lPush v st) g' Q) : LW j (d + 1) 0 0 pc ls stk g Q := by
  subst hp
  subst hstk
  intro p l e R s m args below meth c H locs cells slots Z D aC ρ A H0 b lsR X hc hs hw hl ho hz
  obtain ⟨ho1, ho3⟩ := lOk_app.mp ho
  obtain ⟨-, ho2⟩ := lOk_cons.mp ho3
  have hM := LW_met hj hlen spec hw.2.2.2.2.2.1 (fun v hv => by
    rcases List.mem_cons.mp hv with rfl | hv
    · exact trivial
    · exact ho1 v (List.mem_reverse.mpr hv)) l D aC ρ b H.size
  obtain ⟨k1, k2, k3, k4, k5, k6, k7⟩ := mJ_ok hj
  have hmo := mres_ok hm
  simp only [lMchk, Bool.and_eq_true, decide_eq_true_eq] at hmo
  have hts := X.2.2.2.2.2.2.1
  have hfr := X.2.2.2.2.2.2.2.2.1
  have hlo := X.2.2.2.2.2.2.2.2.2
  have hin : Cond.instanceMethod (mY j') ∈ lg := lAt_mem hmo.2.1
  have hsel : Cond.selects (mY j').cls (mY j') (mY j') ∈ lg := lAt_mem hmo.2.2.1
  have hlk : Cond.methodLink (mO j) idx (mY j') ∈ lg := any_mem (f := fun _ => .tt) hmo.2.2.2
  have hG : GoodIn lg (wsV (mO j) idx (mY j').cls (mY j') (lWs j')) := lGood _ (fun w hw => by
    unfold wsV at hw
    rcases List.mem_append.mp hw with h | h
    · simp only [List.mem_cons, List.not_mem_nil, or_false] at h
      rcases h with rfl | rfl | rfl | rfl
      · exact hlk
      · exact hin
      · exact hsel
      · exact k2
    · rcases List.mem_cons.mp h with rfl | h
      · exact k1
      · exact h)
  obtain ⟨hH0, hso, -⟩ := id hw.2.2.2.2.2.2.1
  have hrecv : ∃ cell : Cell, H[b (2 + i)]? = some cell ∧ cell.vm.isStatics = false ∧ s.vm.findClass (mY j').cls = some cell.cls := by
    rw [hcls]
    subst hH0
    exact vk_recv (adK := fun i => b (2 + i)) (i := i) hso.2.2.1 hi hw.2.2.2.1
  refine LW_back (mc := 0) (ms := 0) (bc := 0) (bs := 0) X (by omega) (by omega) hw hl ho2 (by simpa using hz) (stR := (as.reverse ++ .retAddr (2 + i) :: st).map (cv ρ b)) (va_runV (As := as.map (cv ρ b)) (b := b (2 + i)) (n := mN j') ⟨X.1, X.2.1, X.2.2.1, X.2.2.2.2.2.1, hts⟩ hM (cwV (mN j') hts hG rfl rfl rfl ⟨rfl, k4, k5, k6⟩ ⟨by show d + 1 ≤ _; omega, by show 8 + (mL j' + 11) + 128 * d ≤ _; omega⟩) ⟨lPc_blind, hrecv, fun U hU hW => ⟨rfl, lPre hw U hU hW⟩⟩ rfl (by rw [List.length_map]; exact hn) hl.1 (by show List.map _ _ = _; rw [List.map_append, List.map_reverse]; rfl) (lv_room (cat_cv hcat)) (lk_dec h) ⟨by omega, by omega⟩) (fun v g' q => ?_)
  rw [lPush_eq]
  exact kk v g' q
end OLD
/-! the JDK's methods over the two texts -/
def txN (i : Nat) : Nat := [189, 12].getD i 0
def txC (i k : Nat) : Int32 := ((((txB.getD i []).getD k 0) &&& 255).toUInt32 % 65536).toInt32
section TEXT
variable {d i : Nat} {g : LH}
theorem c_coder (hi : i < 2) : LW 327 d 0 0 0 (lEnt (mL 327) [.retAddr (2 + i)]) [] g (fun v g' => v = some (.int 0) ∧ g' = g) := by
  refine LW_ls (ls' := [some (.retAddr (2 + i))]) rfl ?_
  refine X_getsZ (v := .int 1) rfl rfl (lAt_mem (p := 753) (by decide +kernel)) (fun _ => trivial) (fun _ _ _ _ _ h => h.2.2.2.2.1) ?_
  refine X_if_eq (tgt := 13) rfl rfl rfl (fun q => absurd q (by decide)) (fun _ => ?_)
  refine X_aload_nS rfl rfl rfl rfl ?_
  refine X_getfO (v := .int 0) rfl rfl (lAt_mem (p := 2178) (by decide +kernel)) (fun _ => trivial) (fun _ _ _ _ _ h => (h.2.2.1.1 i hi).2.1) ?_
  refine LW_goto (tgt := 14) rfl rfl ?_
  exact LW_ireturn (st := []) rfl rfl rfl ⟨rfl, rfl⟩
theorem c_isLatin1 (hi : i < 2) : LW 328 d 0 0 0 (lEnt (mL 328) [.retAddr (2 + i)]) [] g (fun v g' => v = some (.int 1) ∧ g' = g) := by
  refine LW_ls (ls' := [some (.retAddr (2 + i))]) rfl ?_
  refine X_getsZ (v := .int 1) rfl rfl (lAt_mem (p := 753) (by decide +kernel)) (fun _ => trivial) (fun _ _ _ _ _ h => h.2.2.2.2.1) ?_
  refine X_if_eq (tgt := 17) rfl rfl rfl (fun q => absurd q (by decide)) (fun _ => ?_)
  refine X_aload_nS rfl rfl rfl rfl ?_
  refine X_getfO (v := .int 0) rfl rfl (lAt_mem (p := 2178) (by decide +kernel)) (fun _ => trivial) (fun _ _ _ _ _ h => (h.2.2.1.1 i hi).2.1) ?_
  refine X_if_ne (tgt := 17) rfl rfl rfl (fun q => absurd rfl q) (fun _ => ?_)
  refine X_iconst (v := 1) rfl rfl rfl ?_
  refine LW_goto (tgt := 18) rfl rfl ?_
  exact LW_ireturn (st := []) rfl rfl rfl ⟨rfl, rfl⟩
theorem tx_shr : ∀ i, i < 2 → Int32.ofNat (txN i) >>> ((0 : Int32) &&& 31) = nI (txN i) := by decide +kernel
theorem tx_sm : ∀ i, i < 2 → 0 < txN i ∧ txN i < 256 := by decide +kernel
theorem c_length (hi : i < 2) : LW 323 (d + 1) 0 0 0 (lEnt (mL 323) [.retAddr (2 + i)]) [] g (fun v g' => v = some (.int (nI (txN i))) ∧ g' = g) := by
  refine LW_ls (ls' := [some (.retAddr (2 + i))]) rfl ?_
  refine X_aload_nS rfl rfl rfl rfl ?_
  refine X_getfO (v := .retAddr (4 + i)) rfl rfl (lAt_mem (p := 2177) (by decide +kernel)) (fun _ => trivial) (fun _ _ _ _ _ h => (h.2.2.1.1 i hi).2.2.1) ?_
  refine X_oalen (v := nI (txN i)) rfl rfl (fun _ _ _ _ h => (h.2.2.1.1 i hi).2.2.2) rfl ?_
  refine X_aload_nS rfl rfl rfl rfl ?_
  refine Y_callVO (as := []) (st := [.int (nI (txN i))]) hi rfl rfl rfl (by decide) rfl rfl (Nat.le_of_ble_eq_true rfl) (by decide) (Nat.le_of_ble_eq_true rfl) rfl (c_coder hi) ?_
  rintro _ g ⟨rfl, rfl⟩
  refine X_ishr (v := nI (txN i)) rfl rfl (tx_shr i hi) ?_
  exact LW_ireturn (st := []) rfl rfl rfl ⟨rfl, rfl⟩
theorem c_pIdx {x : Int32} {n : Nat} {v : Value} (hn : n < 256) (hx : vp_in x n) (hv : v = .null ∨ v = .retAddr 6) : LW 334 d 0 0 0 (lEnt (mL 334) [.int x, .int (nI n), v]) [] g (fun v g' => v = some (.int x) ∧ g' = g) := by
  have hcat : v.category = 1 := by rcases hv with rfl | rfl <;> rfl
  have hls : lEnt (mL 334) [.int x, .int (nI n), v] = [some (.int x), some (.int (nI n)), some v] := by rcases hv with rfl | rfl <;> rfl
  refine LW_ls hls ?_
  have h0 : ¬ x < 0 := fun q => hx (Or.inl q)
  have h1 : x < nI n := by
    obtain ⟨k, hk, e⟩ := nI_of h0
    have h2 := vp_lt hx
    rw [e, nI_clamp hk] at h2
    rw [e]
    exact nI_lt h2 (by omega)
  refine X_iload_n rfl rfl rfl rfl ?_
  refine X_if_lt (tgt := 9) rfl rfl rfl (fun q => absurd q h0) (fun _ => ?_)
  refine X_iload_n rfl rfl rfl rfl ?_
  refine X_iload_n rfl rfl rfl rfl ?_
  refine X_icmp_lt (tgt := 16) rfl rfl rfl (fun _ => ?_) (fun q => absurd h1 q)
  refine X_iload_n rfl rfl rfl rfl ?_
  exact LW_ireturn (st := []) rfl rfl rfl ⟨rfl, rfl⟩
theorem c_sIdx {x : Int32} {n : Nat} (hn : n < 256) (hx : vp_in x n) : LW 329 (d + 1) 0 0 0 (lEnt (mL 329) [.int x, .int (nI n)]) [] g (fun v g' => v = none ∧ g' = g) := by
  refine LW_ls (ls' := [some (.int x), some (.int (nI n))]) rfl ?_
  refine X_iload_n rfl rfl rfl rfl ?_
  refine X_iload_n rfl rfl rfl rfl ?_
  refine X_getsQ rfl rfl (lAt_mem (p := 769) (by decide +kernel)) ?_ ?_
  · refine Y_callS (as := [.int x, .int (nI n), .null]) (st := []) rfl rfl rfl (by decide) rfl (Nat.le_of_ble_eq_true rfl) (by decide) (Nat.le_of_ble_eq_true rfl) rfl (c_pIdx hn hx (Or.inl rfl)) ?_
    rintro _ g ⟨rfl, rfl⟩
    refine X_pop rfl rfl rfl ?_
    exact LW_return (st := []) rfl rfl ⟨rfl, rfl⟩
  · refine Y_callS (as := [.int x, .int (nI n), .retAddr 6]) (st := []) rfl rfl rfl (by decide) rfl (Nat.le_of_ble_eq_true rfl) (by decide) (Nat.le_of_ble_eq_true rfl) rfl (c_pIdx hn hx (Or.inr rfl)) ?_
    rintro _ g ⟨rfl, rfl⟩
    refine X_pop rfl rfl rfl ?_
    exact LW_return (st := []) rfl rfl ⟨rfl, rfl⟩
theorem tx_ch : ∀ i, i < 2 → ∀ k, k < txN i → narrow .char (.int (txC i k)) = .int (txC i k) ∧ 0 ≤ (txC i k).toInt ∧ (txC i k).toInt ≤ 255 := by decide +kernel
theorem c_lCharAt (hi : i < 2) {x : Int32} (hx : vp_in x (txN i)) : LW 330 (d + 2) 0 0 0 (lEnt (mL 330) [.retAddr (4 + i), .int x]) [] g (fun v g' => v = some (.int (txC i x.toNatClampNeg)) ∧ g' = g) := by
  refine LW_ls (ls' := [some (.retAddr (4 + i)), some (.int x)]) rfl ?_
  refine X_iload_n rfl rfl rfl rfl ?_
  refine X_aload_nS rfl rfl rfl rfl ?_
  refine X_oalen (v := nI (txN i)) rfl rfl (fun _ _ _ _ h => (h.2.2.1.1 i hi).2.2.2) rfl ?_
  refine Y_callS (as := [.int x, .int (nI (txN i))]) (st := []) rfl rfl rfl (by decide) rfl (Nat.le_of_ble_eq_true rfl) (by decide) (Nat.le_of_ble_eq_true rfl) rfl (c_sIdx (tx_sm i hi).2 hx) ?_
  rintro _ g ⟨rfl, rfl⟩
  refine X_aload_nS rfl rfl rfl rfl ?_
  refine X_iload_n rfl rfl rfl rfl ?_
  refine X_obald (f := fun k => (txB.getD i []).getD k 0) rfl rfl (fun _ _ _ _ h => (h.2.2.1.1 i hi).2.2.2) hx ?_
  refine X_sipush (v := 255) rfl rfl rfl ?_
  refine X_iand rfl rfl rfl ?_
  refine X_i2c (v := txC i x.toNatClampNeg) rfl rfl rfl ?_
  exact LW_ireturn (st := []) rfl rfl (tx_ch i hi _ (vp_lt hx)).1 ⟨rfl, rfl⟩
theorem c_charAt (hi : i < 2) {x : Int32} (hx : vp_in x (txN i)) : LW 324 (d + 3) 0 0 0 (lEnt (mL 324) [.retAddr (2 + i), .int x]) [] g (fun v g' => v = some (.int (txC i x.toNatClampNeg)) ∧ g' = g) := by
  refine LW_ls (ls' := [some (.retAddr (2 + i)), some (.int x)]) rfl ?_
  refine X_aload_nS rfl rfl rfl rfl ?_
  refine Y_callVO (as := []) (st := []) hi rfl rfl rfl (by decide) rfl rfl (Nat.le_of_ble_eq_true rfl) (by decide) (Nat.le_of_ble_eq_true rfl) rfl (c_isLatin1 hi) ?_
  rintro _ g ⟨rfl, rfl⟩
  refine X_if_eq (tgt := 16) rfl rfl rfl (fun q => absurd q (by decide)) (fun _ => ?_)
  refine X_aload_nS rfl rfl rfl rfl ?_
  refine X_getfO (v := .retAddr (4 + i)) rfl rfl (lAt_mem (p := 2177) (by decide +kernel)) (fun _ => trivial) (fun _ _ _ _ _ h => (h.2.2.1.1 i hi).2.2.1) ?_
  refine X_iload_n rfl rfl rfl rfl ?_
  refine Y_callS (as := [.retAddr (4 + i), .int x]) (st := []) rfl rfl rfl (by decide) rfl (Nat.le_of_ble_eq_true rfl) (by decide) (Nat.le_of_ble_eq_true rfl) rfl (c_lCharAt hi hx) ?_
  rintro _ g ⟨rfl, rfl⟩
  exact LW_ireturn (st := []) rfl rfl (tx_ch i hi _ (vp_lt hx)).1 ⟨rfl, rfl⟩
theorem c_canEnc {x : Int32} : LW 331 d 0 0 0 (lEnt (mL 331) [.int x]) [] g (fun v g' => (v = some (.int 0) ∨ v = some (.int 1)) ∧ g' = g) := by
  refine LW_ls (ls' := [some (.int x)]) rfl ?_
  have h0 : LW 331 d 0 0 15 [some (.int x)] [] g (fun v g' => (v = some (.int 0) ∨ v = some (.int 1)) ∧ g' = g) := by
    refine X_iconst (v := 0) rfl rfl rfl ?_
    exact LW_ireturn (st := []) rfl rfl rfl ⟨Or.inl rfl, rfl⟩
  refine X_iload_n rfl rfl rfl rfl ?_
  refine X_if_lt (tgt := 15) rfl rfl rfl (fun _ => h0) (fun _ => ?_)
  refine X_iload_n rfl rfl rfl rfl ?_
  refine X_sipush (v := 255) rfl rfl rfl ?_
  refine X_icmp_gt (tgt := 15) rfl rfl rfl (fun _ => h0) (fun _ => ?_)
  refine X_iconst (v := 1) rfl rfl rfl ?_
  refine LW_goto (tgt := 16) rfl rfl ?_
  exact LW_ireturn (st := []) rfl rfl rfl ⟨Or.inr rfl, rfl⟩
theorem c_ixLoop (hi : i < 2) {x y : Int32} : ∀ m k, k + m = txN i → LW 333 d 0 0 7 [some (.retAddr (4 + i)), some (.int x), some (.int 0), some (.int (nI (txN i))), some (.int y), some (.int (nI k))] [] g (fun v g' => (∃ r : Int32, v = some (.int r)) ∧ g' = g) := by
  have hN := (tx_sm i hi).2
  intro m
  induction m with
  | zero =>
    intro k hk
    refine X_iload rfl rfl rfl ?_
    refine X_iload_n rfl rfl rfl rfl ?_
    refine X_icmp_ge (tgt := 31) rfl rfl rfl (fun _ => ?_) (fun q => absurd (nI_le (by omega) (by omega)) q)
    refine X_iconst (v := -1) rfl rfl rfl ?_
    exact LW_ireturn (st := []) rfl rfl rfl ⟨⟨_, rfl⟩, rfl⟩
  | succ m ih =>
    intro k hk
    refine X_iload rfl rfl rfl ?_
    refine X_iload_n rfl rfl rfl rfl ?_
    refine X_icmp_ge (tgt := 31) rfl rfl rfl (fun q => absurd q (nI_ge (by omega) (by omega))) (fun _ => ?_)
    refine X_aload_nS rfl rfl rfl rfl ?_
    refine X_iload rfl rfl rfl ?_
    refine X_obald (f := fun k => (txB.getD i []).getD k 0) rfl rfl (fun _ _ _ _ h => (h.2.2.1.1 i hi).2.2.2) (nI_in (c := k) (N := txN i) (by omega) (by omega)) ?_
    refine X_iload rfl rfl rfl ?_
    refine X_icmp_ne (tgt := 25) rfl rfl rfl (fun _ => ?_) (fun _ => ?_)
    · refine X_iinc (v := nI (k + 1)) (ls' := [some (.retAddr (4 + i)), some (.int x), some (.int 0), some (.int (nI (txN i))), some (.int y), some (.int (nI (k + 1)))]) rfl rfl rfl (nI_1 k) rfl ?_
      refine LW_goto (tgt := 7) rfl rfl ?_
      exact ih (k + 1) (by omega)
    · refine X_iload rfl rfl rfl ?_
      exact LW_ireturn (st := []) rfl rfl rfl ⟨⟨_, rfl⟩, rfl⟩
theorem c_ixChar (hi : i < 2) {x : Int32} : LW 333 d 0 0 0 (lEnt (mL 333) [.retAddr (4 + i), .int x, .int 0, .int (nI (txN i))]) [] g (fun v g' => (∃ r : Int32, v = some (.int r)) ∧ g' = g) := by
  refine LW_ls (ls' := [some (.retAddr (4 + i)), some (.int x), some (.int 0), some (.int (nI (txN i))), none, none]) rfl ?_
  refine X_iload_n rfl rfl rfl rfl ?_
  refine LW_i2b rfl ?_
  refine X_istore (ls' := [some (.retAddr (4 + i)), some (.int x), some (.int 0), some (.int (nI (txN i))), some (.int x.toInt8.toInt32), none]) rfl rfl (Nat.le_of_ble_eq_true rfl) rfl ?_
  refine X_iload_n rfl rfl rfl rfl ?_
  refine X_istore (ls' := [some (.retAddr (4 + i)), some (.int x), some (.int 0), some (.int (nI (txN i))), some (.int x.toInt8.toInt32), some (.int (nI 0))]) rfl rfl (Nat.le_of_ble_eq_true rfl) rfl ?_
  exact c_ixLoop hi (txN i) 0 (by omega)
theorem c_lIndexOf (hi : i < 2) {x : Int32} : LW 332 (d + 1) 0 0 0 (lEnt (mL 332) [.retAddr (4 + i), .int x, .int 0, .int (nI (txN i))]) [] g (fun v g' => (∃ r : Int32, v = some (.int r)) ∧ g' = g) := by
  have hN := tx_sm i hi
  refine LW_ls (ls' := [some (.retAddr (4 + i)), some (.int x), some (.int 0), some (.int (nI (txN i)))]) rfl ?_
  refine X_iload_n rfl rfl rfl rfl ?_
  refine Y_callS (as := [.int x]) (st := []) rfl rfl rfl (by decide) rfl (Nat.le_of_ble_eq_true rfl) (by decide) (Nat.le_of_ble_eq_true rfl) rfl c_canEnc ?_
  rintro _ g ⟨rfl | rfl, rfl⟩
  · refine X_if_ne (tgt := 9) rfl rfl rfl (fun q => absurd rfl q) (fun _ => ?_)
    refine X_iconst (v := -1) rfl rfl rfl ?_
    exact LW_ireturn (st := []) rfl rfl rfl ⟨⟨_, rfl⟩, rfl⟩
  · refine X_if_ne (tgt := 9) rfl rfl rfl (fun _ => ?_) (fun q => absurd q (by decide))
    refine X_iload_n rfl rfl rfl rfl ?_
    refine X_iconst (v := 0) rfl rfl rfl ?_
    refine X_max (v := 0) rfl rfl rfl (Nat.le_of_ble_eq_true rfl) rfl ?_
    refine X_istore_n (i := 2) (ls' := [some (.retAddr (4 + i)), some (.int x), some (.int 0), some (.int (nI (txN i)))]) rfl rfl rfl (Nat.le_of_ble_eq_true rfl) rfl ?_
    refine X_iload_n rfl rfl rfl rfl ?_
    refine X_aload_nS rfl rfl rfl rfl ?_
    refine X_oalen (v := nI (txN i)) rfl rfl (fun _ _ _ _ h => (h.2.2.1.1 i hi).2.2.2) rfl ?_
    refine X_min (v := nI (txN i)) rfl rfl rfl (Nat.le_of_ble_eq_true rfl) (by split <;> rfl) ?_
    refine X_istore_n (i := 3) (ls' := [some (.retAddr (4 + i)), some (.int x), some (.int 0), some (.int (nI (txN i)))]) rfl rfl rfl (Nat.le_of_ble_eq_true rfl) rfl ?_
    refine X_iload_n rfl rfl rfl rfl ?_
    refine X_iload_n rfl rfl rfl rfl ?_
    refine X_icmp_lt (tgt := 29) rfl rfl rfl (fun _ => ?_) (fun q => absurd (nI_lt (a := 0) hN.1 (by omega)) q)
    refine X_aload_nS rfl rfl rfl rfl ?_
    refine X_iload_n rfl rfl rfl rfl ?_
    refine X_iload_n rfl rfl rfl rfl ?_
    refine X_iload_n rfl rfl rfl rfl ?_
    refine Y_callS (as := [.retAddr (4 + i), .int x, .int 0, .int (nI (txN i))]) (st := []) rfl rfl rfl (by decide) rfl (Nat.le_of_ble_eq_true rfl) (by decide) (Nat.le_of_ble_eq_true rfl) rfl (c_ixChar hi) ?_
    rintro _ g ⟨⟨r, rfl⟩, rfl⟩
    exact LW_ireturn (st := []) rfl rfl rfl ⟨⟨_, rfl⟩, rfl⟩
theorem c_indexOf2 (hi : i < 2) {x : Int32} : LW 326 (d + 2) 0 0 0 (lEnt (mL 326) [.retAddr (2 + i), .int x, .int 0]) [] g (fun v g' => (∃ r : Int32, v = some (.int r)) ∧ g' = g) := by
  refine LW_ls (ls' := [some (.retAddr (2 + i)), some (.int x), some (.int 0)]) rfl ?_
  refine X_aload_nS rfl rfl rfl rfl ?_
  refine Y_callVO (as := []) (st := []) hi rfl rfl rfl (by decide) rfl rfl (Nat.le_of_ble_eq_true rfl) (by decide) (Nat.le_of_ble_eq_true rfl) rfl (c_isLatin1 hi) ?_
  rintro _ g ⟨rfl, rfl⟩
  refine X_if_eq (tgt := 23) rfl rfl rfl (fun q => absurd q (by decide)) (fun _ => ?_)
  refine X_aload_nS rfl rfl rfl rfl ?_
  refine X_getfO (v := .retAddr (4 + i)) rfl rfl (lAt_mem (p := 2177) (by decide +kernel)) (fun _ => trivial) (fun _ _ _ _ _ h => (h.2.2.1.1 i hi).2.2.1) ?_
  refine X_iload_n rfl rfl rfl rfl ?_
  refine X_iload_n rfl rfl rfl rfl ?_
  refine X_aload_nS rfl rfl rfl rfl ?_
  refine Y_callVO (as := []) (st := [.int 0, .int x, .retAddr (4 + i)]) hi rfl rfl rfl (by decide) rfl rfl (Nat.le_of_ble_eq_true rfl) (by decide) (Nat.le_of_ble_eq_true rfl) rfl (c_length hi) ?_
  rintro _ g ⟨rfl, rfl⟩
  refine Y_callS (as := [.retAddr (4 + i), .int x, .int 0, .int (nI (txN i))]) (st := []) rfl rfl rfl (by decide) rfl (Nat.le_of_ble_eq_true rfl) (by decide) (Nat.le_of_ble_eq_true rfl) rfl (c_lIndexOf hi) ?_
  rintro _ g ⟨⟨r, rfl⟩, rfl⟩
  refine LW_goto (tgt := 36) rfl rfl ?_
  exact LW_ireturn (st := []) rfl rfl rfl ⟨⟨_, rfl⟩, rfl⟩
theorem c_indexOf (hi : i < 2) {x : Int32} : LW 325 (d + 3) 0 0 0 (lEnt (mL 325) [.retAddr (2 + i), .int x]) [] g (fun v g' => (∃ r : Int32, v = some (.int r)) ∧ g' = g) := by
  refine LW_ls (ls' := [some (.retAddr (2 + i)), some (.int x)]) rfl ?_
  refine X_aload_nS rfl rfl rfl rfl ?_
  refine X_iload_n rfl rfl rfl rfl ?_
  refine X_iconst (v := 0) rfl rfl rfl ?_
  refine Y_callVO (as := [.int x, .int 0]) (st := []) hi rfl rfl rfl (by decide) rfl rfl (Nat.le_of_ble_eq_true rfl) (by decide) (Nat.le_of_ble_eq_true rfl) rfl (c_indexOf2 hi) ?_
  rintro _ g ⟨⟨r, rfl⟩, rfl⟩
  exact LW_ireturn (st := []) rfl rfl rfl ⟨⟨_, rfl⟩, rfl⟩
end TEXT
