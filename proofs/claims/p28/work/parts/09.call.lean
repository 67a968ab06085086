/-! rows: calls -/
def lFlat (as : List Value) : List (Option Value) := as.flatMap fun v => if v.category = 2 then [some v, none] else [some v]
def lEnt (nL : Nat) (as : List Value) : List (Option Value) := lFlat as ++ List.replicate (nL - (lFlat as).length) none
def toSl (ρ : Nat → Nat) (b : Nat → Nat) : Option Value → Slot
  | some v => .val (cv ρ b v)
  | none => .second
theorem lg_sl_cv (ρ : Nat → Nat) (b : Nat → Nat) (as : List Value) : lg_sl (as.map (cv ρ b)) = (lFlat as).map (toSl ρ b) := by
  unfold lg_sl lFlat
  induction as with
  | nil => rfl
  | cons v r ih =>
    rw [List.map_cons, List.flatMap_cons, List.flatMap_cons, List.map_append, ih, cv_cat]
    congr 1
    split <;> rfl
theorem lR_ent {ρ : Nat → Nat} {b : Nat → Nat} {nL : Nat} {as : List Value} (h : (lFlat as).length ≤ nL) : lR ρ b nL (lEnt nL as) ((lg_sl (as.map (cv ρ b)) ++ List.replicate (nL - (lg_sl (as.map (cv ρ b))).length) Slot.unset).toArray) := by
  have hlen : (lg_sl (as.map (cv ρ b))).length = (lFlat as).length := by rw [lg_sl_cv, List.length_map]
  obtain ⟨h1, h2, -⟩ := lv_entry (as.map (cv ρ b)) (n := nL) (by rw [hlen]; exact h)
  refine ⟨h1, h2, by unfold lEnt; simp; omega, fun i v hi => ?_⟩
  unfold lEnt at hi
  rw [List.getElem?_toArray, lg_sl_cv]
  by_cases hl : i < (lFlat as).length
  · rw [List.getElem?_append_left hl] at hi
    rw [List.getElem?_append_left (by rw [List.length_map]; exact hl), List.getElem?_map, hi]
    rfl
  · rw [List.getElem?_append_right (by omega)] at hi
    have := List.mem_of_getElem? hi
    rw [List.mem_replicate] at this
    exact absurd this.2 (by simp)
theorem lOk_ent {n nL : Nat} {as : List Value} (h : ∀ v ∈ as, okV n v) : lOk n (lEnt nL as) [] := by
  refine ⟨fun v hv => (by cases hv), fun i v hi => ?_⟩
  unfold lEnt at hi
  have hm := List.mem_of_getElem? hi
  rcases List.mem_append.mp hm with h1 | h1
  · unfold lFlat at h1
    obtain ⟨w, hw, h2⟩ := List.mem_flatMap.mp h1
    split at h2
    · simp at h2
      rw [h2]; exact h w hw
    · simp at h2
      rw [h2]; exact h w hw
  · rw [List.mem_replicate] at h1
    exact absurd h1.2 (by simp)
/-- a callee's words -/
abbrev lWs (j : Nat) : List Cond := Cond.code (mY j) (mB j) (mL j) (mR j) :: lg
abbrev lRm (d mc ms : Nat) : Room := { frames := d, cells := mc, slots := ms, locals := 128 * d }
def lPc (D : va_G) (aC : FieldType → ClassId) (ρ : Nat → Nat) (g : LH) (b : Nat → Nat) (sz : Nat) (U : State) : Prop :=
  U.heap.size = sz ∧ va_K D vwCl (tyL aC) U ∧ va_P D vwCl (lW ρ aC g) U.heap ∧ va_D (fun _ => True) (lW ρ aC g) ∧ lSX b (Gx g) U U.heap (va_A (lW ρ aC g) sz) ∧ lSt U
def lQc (D : va_G) (aC : FieldType → ClassId) (ρ : Nat → Nat) (g : LH) (b : Nat → Nat) (sz : Nat) (Q : Option Value → LH → Prop) : Array Value → State → Outcome → State → Prop := fun _ st0 o t =>
  (∃ (v : Option Value) (g' : LH) (ρ' : Nat → Nat), o = .returned (v.map (cv ρ' b)) ∧ Q v g' ∧ (∀ q, q < Gn g → ρ' q = ρ q) ∧ Gn g ≤ Gn g' ∧ va_P D vwCl (lW ρ' aC g') t.heap ∧ va_D (va_A (lW ρ aC g) sz) (lW ρ' aC g') ∧ (∀ q i a, Gr g' q i = some a → a < Gn g') ∧ Gx g' = Gx g ∧ (∀ x ∈ v, okV (Gn g') x)) ∧ va_F (va_A (lW ρ aC g) sz) st0 t
theorem LW_met {j d mc ms : Nat} {as : List Value} {g : LH} {Q : Option Value → LH → Prop} (hj : jOk j = true) (hlen : (lFlat as).length ≤ mL j) (spec : LW j d mc ms 0 (lEnt (mL j) as) [] g Q) (hwf : ∀ q i a, Gr g q i = some a → a < Gn g) (hok : ∀ v ∈ as, okV (Gn g) v) (l : Launch) (D : va_G) (aC : FieldType → ClassId) (ρ : Nat → Nat) (b : Nat → Nat) (sz : Nat) :
    Met l (mY j) (lWs j) (lRm d mc ms) (va_Pc (as.map (cv ρ b)) (lPc D aC ρ g b sz)) (lQc D aC ρ g b sz Q) mc ms (va_A (lW ρ aC g) sz) := by
  obtain ⟨k1, k2, k3, k4, k5, k6, k7⟩ := mJ_ok hj
  refine Met.ofW (cc := mB j) (maxL := mL j) (ret := mR j) k3 rfl ?_
  intro p e s m args below meth c s₁ B hml hv
  obtain ⟨rfl, hsz, hK, hP, hD0, hsx, hst⟩ := hv
  subst hsz
  have hts := atoms_spec (ws := lWs j) B.pre
  have hown : s.vm.findClass (mY j).cls = some m.cls := findClass_of_methodNamed B.named
  have hnm := (name_of_methodNamed B.named B.method).1
  have hlocks := B.notSynchronized
  have hx := B.exec
  have hb := B.bytes
  have hr := B.returns
  rw [lg_entry_eq]
  have X : lX j d p (lRm d mc ms) s m (as.map (cv ρ b)).toArray meth c := ⟨hx, hb, hml, hr, hlocks, by rw [k7]; exact hown, fun w hw => hts w (List.mem_cons_of_mem _ hw), fun h => by rw [← h]; exact hnm, Nat.le_refl _, Nat.le_refl _⟩
  have hA : ∀ q : Nat, s.heap.size ≤ q → va_A (lW ρ aC g) s.heap.size q := fun q h => Or.inr h
  have hz := spec p l e (lRm d mc ms) s m _ below meth c s.heap [] 0 0 (MQ below (lQc D aC ρ g b s.heap.size Q) (as.map (cv ρ b)).toArray s mc ms (va_A (lW ρ aC g) s.heap.size)) D aC ρ (va_A (lW ρ aC g) s.heap.size) s.heap b _ X (by show 0 + mc ≤ mc; omega) (by show 0 + ms ≤ ms; omega) ⟨hK, hP, hD0.self, va_S.rf, hA, hwf, hsx, hst⟩ (lR_ent hlen) (lOk_ent hok)
  refine hz ?_
  intro v g' ρ' H' locs' cells' slots' pc' ls' hQ hρ hn hgx hw' hc' hs' hret hokv
  obtain ⟨hK', hP', hD', hS', hA', hwf', hsx', hst'⟩ := hw'
  refine W.widen (k := mc) (n := ms) (by omega) (by omega) ?_
  have fin : ∀ t : State, t.heap = H' → lQc D aC ρ g b s.heap.size Q (as.map (cv ρ b)).toArray s (.returned (v.map (cv ρ' b))) t := fun t ht => ⟨⟨v, g', ρ', rfl, hQ, hρ, hn, by rw [ht]; exact hP', hD', hwf', hgx, hokv⟩, hS'.F ht⟩
  cases v with
  | none =>
    obtain ⟨h1, h2⟩ := hret
    exact W.vret hx hb (hr.trans h2) (fun t ht _ => fin t ht) hS'.2.2 (lk_dec h1)
  | some x =>
    cases x with
    | int x =>
      obtain ⟨h1, ty, h2, h3⟩ := hret
      exact W.zret hx hb (hr.trans h2) h3 (fun t ht _ => fin t ht) hS'.2.2 (lk_dec h1)
    | long x =>
      obtain ⟨h1, h2⟩ := hret
      exact W.lret hx hb (hr.trans h2) (fun t ht _ => fin t ht) hS'.2.2 (lk_dec h1)
    | null =>
      obtain ⟨h1, rt, h2, h3⟩ := hret
      exact W.aret hx hb (hr.trans h2) h3 (Or.inl rfl) (fun t ht _ => fin t ht) hS'.2.2 (lk_dec h1)
    | ref a =>
      obtain ⟨h1, rt, h2, h3⟩ := hret
      exact W.aret hx hb (hr.trans h2) h3 (Or.inr ⟨_, rfl⟩) (fun t ht _ => fin t ht) hS'.2.2 (lk_dec h1)
    | float x => exact absurd hret (fun h => h)
    | double x => exact absurd hret (fun h => h)
    | retAddr x => exact absurd hret (fun h => h)
theorem lPc_blind {D : va_G} {aC : FieldType → ClassId} {ρ : Nat → Nat} {g : LH} {b : Nat → Nat} {sz : Nat} {av : List Value} : FrameBlind (va_Pc av (lPc D aC ρ g b sz)) := by
  intro a U gf mk q
  obtain ⟨q0, q1, qK, qP, qD, qx, qs⟩ := q
  refine ⟨q0, q1, va_K.moved (u := U) (U := U.calling gf mk a) (Vm.Alike.refl U.vm) qK, qP, qD, ?_, qs.same (u := U) (U := U.calling gf mk a) rfl⟩
  obtain ⟨qa, qo, qx⟩ := qx
  refine ⟨rfl, qo.carry (U := U.calling gf mk a) (Vm.Alike.refl U.vm) (fun _ _ _ _ h => h.same rfl) (fun _ _ _ => rfl) (fun _ h => h), ?_⟩
  split
  · trivial
  · rename_i h
    rw [h] at qx
    exact ⟨qx.1.moved (u := U) (U := U.calling gf mk a) (Vm.Alike.refl U.vm), qx.2.1, qx.2.2⟩
/-- behind a call -/
theorem LW_back {j d bc bs pc : Nat} {ls : List (Option Value)} {st : List Value} {g : LH} {Q Q' : Option Value → LH → Prop} {mc ms : Nat} {p : Program} {l : Launch} {e : Env} {R : Room} {s : State} {m : MethodId} {args : Array Value} {below : List Frame} {meth : Method} {c : Code} {H : Heap} {locs : List Loc} {cells slots : Nat} {Z : State → Prop} {D : va_G} {aC : FieldType → ClassId} {ρ : Nat → Nat} {A : Nat → Prop} {H0 : Heap} {b : Nat → Nat} {lsR : Array Slot} {stR : List Value} {a : Array Value}
    (X : lX j d p R s m args meth c) (hc : cells + (mc + bc) ≤ R.cells) (hs : slots + (ms + bs) ≤ R.slots) (hw : lWx D aC ρ A H0 s H locs g b) (hl : lR ρ b (mL j) ls lsR) (ho : lOk (Gn g) ls st)
    (hz : ∀ (v : Option Value) (g' : LH) (ρ' : Nat → Nat) (H' : Heap) (locs' : List Loc) (cells' slots' pc' : Nat) (ls' : Array Slot), Q v g' → (∀ q, q < Gn g → ρ' q = ρ q) → Gn g ≤ Gn g' → Gx g' = Gx g → lWx D aC ρ' A H0 s H' locs' g' b → cells' ≤ cells + (mc + bc) → slots' ≤ slots + (ms + bs) → lRet j pc' v → (∀ x ∈ v, okV (Gn g') x) → W p l e R s m args below meth c H' locs' cells' slots' Z (F0 m pc' ls' (v.toList.map (cv ρ' b))))
    (hr : va_Run p l e R s m args below meth c H locs cells slots mc ms (F0 m pc lsR stR) (st.map (cv ρ b)) (lQc D aC ρ g b H.size Q' a) (va_A (lW ρ aC g) H.size))
    (kk : ∀ v g', Q' v g' → LW j d bc bs (pc + 3) ls (v.toList ++ st) g' Q) : W p l e R s m args below meth c H locs cells slots Z (F0 m pc lsR stR) := by
  intro T hT X0
  obtain ⟨v0, st₀, t, T', L, h0, X', hL, e1, e2, ⟨⟨v, g', ρ', hv, hQ', hρ, hn, hP', hD', hwf', hgx, hokv⟩, hF⟩, stp⟩ := hr T hT X0
  have hv := Outcome.returned.inj hv
  subst hv
  obtain ⟨hK, hP, hD, hS, hA, hwf, hsx, hst⟩ := hw
  obtain ⟨hz1, hk1⟩ := hF
  rw [h0] at hz1 hk1
  rw [← e1] at hP' hz1 hk1
  have hAA : ∀ q, va_A (lW ρ aC g) H.size q → A q := by
    rintro q (⟨k, x, h⟩ | h)
    · exact hD.2 k (q, x) h
    · exact hA q (Nat.le_trans hS.1 h)
  have hS' : va_S A H0 T'.heap (locs ++ L) := by
    refine ⟨Nat.le_trans hS.1 hz1, fun q h1 h2 => ?_, fun q hq => ?_⟩
    · rw [hk1 q (Nat.lt_of_lt_of_le h1 hS.1) (fun z => h2 (hAA q z))]
      exact hS.2.1 q h1 h2
    · rcases List.mem_append.mp hq with h | h
      · exact hS.2.2 q h
      · exact hAA _ (hL q h)
  have hcv : ∀ v, okV (Gn g) v → cv ρ' b v = cv ρ b v := by
    intro v hv
    cases v with
    | ref q => exact congrArg Value.ref (hρ q hv)
    | _ => rfl
  have hup : ∀ v, okV (Gn g) v → okV (Gn g') v := by
    intro v hv
    cases v with
    | ref q => exact Nat.lt_of_lt_of_le hv hn
    | _ => exact hv
  have kk1 := kk v g' hQ' p l e R s m args below meth c T'.heap (locs ++ L) (cells + mc) (slots + ms) Z D aC ρ' A H0 b lsR X (by omega) (by omega)
    ⟨hK, hP', hD'.weaken (fun _ _ _ h => hAA _ h), hS', hA, hwf', by rw [hgx]; exact hsx, hst⟩ ⟨hl.1, hl.2.1, hl.2.2.1, fun i v h => by rw [hcv v (ho.2 i v h)]; exact hl.2.2.2 i v h⟩
    ⟨fun x hx => by
      rcases List.mem_append.mp hx with h | h
      · exact hokv x (by simpa using h)
      · exact hup x (ho.1 x h), fun i v h => hup v (ho.2 i v h)⟩
    (fun v2 g2 ρ2 H2 locs2 cells2 slots2 pc2 ls2 q0 q1 q2 qx q3 q4 q5 => hz v2 g2 ρ2 H2 locs2 cells2 slots2 pc2 ls2 q0 (fun q hq => by rw [q1 q (Nat.lt_of_lt_of_le hq hn), hρ q hq]) (Nat.le_trans hn q2) (qx.trans hgx) q3 (by omega) (by omega))
  have hstk : (v.map (cv ρ' b)).toList ++ st.map (cv ρ b) = (v.toList ++ st).map (cv ρ' b) := by
    rw [List.map_append, List.map_congr_left (fun v hv => hcv v (ho.1 v hv))]
    cases v <;> rfl
  rw [← hstk] at kk1
  obtain ⟨t2, a1, b1⟩ := kk1 T' rfl X'
  exact ⟨t2, stp t2 a1, b1⟩
theorem lPre {D : va_G} {aC : FieldType → ClassId} {ρ : Nat → Nat} {A : Nat → Prop} {H0 H : Heap} {s : State} {locs : List Loc} {g : LH} {b : Nat → Nat} (hw : lWx D aC ρ A H0 s H locs g b) : ∀ U : State, U.heap = H → s.WarmedH U.vm → lPc D aC ρ g b H.size U := by
  intro U hU hW
  obtain ⟨hK, hP, hD, hS, hA, hwf, hsx, hst⟩ := hw
  refine ⟨by rw [hU], va_K.moved hW.alike hK, by rw [hU]; exact hP, hD.weaken (fun _ _ _ _ => trivial), ?_, hst.warm hW⟩
  obtain ⟨ha, hso, hsx⟩ := hsx
  have hAA : ∀ q, va_A (lW ρ aC g) H.size q → A q := by
    rintro q (⟨k, x, h⟩ | h)
    · exact hD.2 k (q, x) h
    · exact hA q (Nat.le_trans hS.1 h)
  refine ⟨rfl, hso.carry hW.alike (fun _ _ _ _ h => h.warm hW) (by rw [hU]; exact hS.2.1) hAA, ?_⟩
  split
  · trivial
  · rename_i bb L xs h
    rw [h] at hsx
    obtain ⟨h1, h2, h3⟩ := hsx
    refine ⟨?_, by rw [hU]; exact Nat.lt_of_lt_of_le h2 hS.1, ?_⟩
    · rw [hU]
      exact (h1.kept (hS.2.1 _ h2 h3)).moved hW.alike
    · rintro (⟨k, x, h⟩ | h)
      · exact h3 (hD.2 k _ h)
      · have := hS.1
        omega
theorem lGood (ws : List Cond) (h : ∀ w ∈ ws, w ∈ lg) : GoodIn lg ws := fun w hw => ⟨h w hw, good_of_word (lg_good w (h w hw))⟩
section CALL
variable {j d bc bs pc : Nat} {ls : List (Option Value)} {st : List Value} {g : LH} {Q Q' : Option Value → LH → Prop} {idx j' mc ms : Nat} {as : List Value}
theorem cat_cv {ρ : Nat → Nat} {b : Nat → Nat} {st : List Value} (h : (st.map fun v => v.category).sum ≤ 8) : ((st.map (cv ρ b)).map fun v => v.category).sum ≤ 8 := by
  rw [List.map_map, show ((fun v => Value.category v) ∘ cv ρ b) = (fun v => Value.category v) from funext fun v => cv_cat ρ b v]
  exact h
theorem lOk_app {n : Nat} {ls : List (Option Value)} {s1 s2 : List Value} : lOk n ls (s1 ++ s2) ↔ (∀ v ∈ s1, okV n v) ∧ lOk n ls s2 := by
  unfold lOk
  constructor
  · intro h
    exact ⟨fun v hv => h.1 v (List.mem_append_left _ hv), fun v hv => h.1 v (List.mem_append_right _ hv), h.2⟩
  · intro h
    refine ⟨fun v hv => ?_, h.2.2⟩
    rcases List.mem_append.mp hv with h1 | h1
    · exact h.1 v h1
    · exact h.2.1 v h1
/-- a call of a static method, of the same class or another -/
theorem LW_callS (h : lk j pc = some (.invokestatic idx, 3)) (hm : mres j idx = some (1, j')) (hj : jOk j' = true) (hn : as.length = mN j') (hlen : (lFlat as).length ≤ mL j') (hmx : mL j' ≤ 100) (hcat : (st.map fun v => v.category).sum ≤ 8) {stk : List Value} (hstk : stk = as.reverse ++ st)
    (spec : LW j' d mc ms 0 (lEnt (mL j') as) [] g Q') (kk : ∀ v g', Q' v g' → LW j (d + 1) bc bs (pc + 3) ls (v.toList ++ st) g' Q) : LW j (d + 1) (mc + bc) (ms + bs) pc ls stk g Q := by
  subst hstk
  intro p l e R s m args below meth c H locs cells slots Z D aC ρ A H0 b lsR X hc hs hw hl ho hz
  obtain ⟨ho1, ho2⟩ := lOk_app.mp ho
  have hM := LW_met hj hlen spec hw.2.2.2.2.2.1 (fun v hv => ho1 v (List.mem_reverse.mpr hv)) l D aC ρ b H.size
  obtain ⟨k1, k2, k3, k4, k5, k6, k7⟩ := mJ_ok hj
  have hmo := mres_ok hm
  simp only [lMchk, Bool.and_eq_true, decide_eq_true_eq] at hmo
  have hts := X.2.2.2.2.2.2.1
  have hfr := X.2.2.2.2.2.2.2.2.1
  have hlo := X.2.2.2.2.2.2.2.2.2
  have hst : Cond.static (mY j') ∈ lg := lAt_mem hmo.2.1
  have hlk : Cond.methodLink (mO j) idx (mY j') ∈ lg := any_mem (f := fun _ => .tt) hmo.2.2
  have hG : GoodIn lg (va_wsS (mO j) idx (mY j') (lWs j')) := lGood _ (fun w hw => by
    unfold va_wsS at hw
    rcases List.mem_append.mp hw with h | h
    · simp only [List.mem_cons, List.not_mem_nil, or_false] at h
      rcases h with rfl | rfl | rfl
      · exact hlk
      · exact hst
      · exact k2
    · rcases List.mem_cons.mp h with rfl | h
      · exact k1
      · exact h)
  refine LW_back X hc hs hw hl ho2 hz (stR := (as.reverse ++ st).map (cv ρ b)) (va_runS (As := as.map (cv ρ b)) (n := mN j') ⟨X.1, X.2.1, X.2.2.1, X.2.2.2.2.2.1, hts⟩ hM (va_cwS (mN j') hts hG rfl rfl rfl ⟨k4, k5, k6⟩ ⟨by show d + 1 ≤ _; omega, by show 8 + (mL j' + 11) + 128 * d ≤ _; omega⟩) ⟨lPc_blind, fun U hU hW => ⟨rfl, lPre hw U hU hW⟩⟩ rfl (by rw [List.length_map]; exact hn) hl.1 (by show List.map _ _ = _; rw [List.map_append, List.map_reverse]) (lv_room (cat_cv hcat)) (lk_dec h) ⟨by omega, by omega⟩) kk
/-- a call of a nest mate's private static method -/
theorem LW_callN (h : lk j pc = some (.invokestatic idx, 3)) (hm : mres j idx = some (4, j')) (hj : jOk j' = true) (hn : as.length = mN j') (hlen : (lFlat as).length ≤ mL j') (hmx : mL j' ≤ 100) (hcat : (st.map fun v => v.category).sum ≤ 8) {stk : List Value} (hstk : stk = as.reverse ++ st)
    (spec : LW j' d mc ms 0 (lEnt (mL j') as) [] g Q') (kk : ∀ v g', Q' v g' → LW j (d + 1) bc bs (pc + 3) ls (v.toList ++ st) g' Q) : LW j (d + 1) (mc + bc) (ms + bs) pc ls stk g Q := by
  subst hstk
  intro p l e R s m args below meth c H locs cells slots Z D aC ρ A H0 b lsR X hc hs hw hl ho hz
  obtain ⟨ho1, ho2⟩ := lOk_app.mp ho
  have hM := LW_met hj hlen spec hw.2.2.2.2.2.1 (fun v hv => ho1 v (List.mem_reverse.mpr hv)) l D aC ρ b H.size
  obtain ⟨k1, k2, k3, k4, k5, k6, k7⟩ := mJ_ok hj
  have hmo := mres_ok hm
  simp only [lMchk, Bool.and_eq_true, decide_eq_true_eq] at hmo
  have hts := X.2.2.2.2.2.2.1
  have hfr := X.2.2.2.2.2.2.2.2.1
  have hlo := X.2.2.2.2.2.2.2.2.2
  have hst : Cond.static (mY j') ∈ lg := lAt_mem hmo.2.1
  have hnw : va_Nw (.methodLinkNest (mO j) idx (mY j') RX12) s := by
    rw [hmo.2.2.1]
    exact hw.2.2.2.2.2.2.2.2.2 (mO j, idx) hmo.2.2.2
  have hG : GoodIn lg (lWs j') := lGood _ (fun w hw => by
    rcases List.mem_cons.mp hw with rfl | h
    · exact k1
    · exact h)
  refine LW_back X hc hs hw hl ho2 hz (stR := (as.reverse ++ st).map (cv ρ b)) (va_runSN (As := as.map (cv ρ b)) (n := mN j') (host := RX12) ⟨X.1, X.2.1, X.2.2.1, X.2.2.2.2.2.1, hts⟩ hM ⟨va_cnB (mN j') hts hG rfl rfl rfl hnw (hts _ k2) ⟨k4, k5, k6⟩ ⟨by show d + 1 ≤ _; omega, by show 8 + (mL j' + 11) + 128 * d ≤ _; omega⟩, hts _ hst, trivial⟩ ⟨lPc_blind, fun U hU hW => ⟨rfl, lPre hw U hU hW⟩⟩ rfl (by rw [List.length_map]; exact hn) hl.1 (by show List.map _ _ = _; rw [List.map_append, List.map_reverse]) (lv_room (cat_cv hcat)) (lk_dec h) ⟨by omega, by omega⟩) kk
/-- a call of a method of an object's own class -/
theorem LW_callV {q : Nat} (h : lk j pc = some (.invokevirtual idx, 3)) (hm : mres j idx = some (0, j')) (hj : jOk j' = true) (hn : as.length = mN j') (hlen : (lFlat (.ref q :: as)).length ≤ mL j') (hmx : mL j' ≤ 100) (hcat : (st.map fun v => v.category).sum ≤ 8) {stk : List Value} (hstk : stk = as.reverse ++ .ref q :: st) (hsh : Gs g q = .inl (mt j').1) (h14 : (mt j').1 < 14)
    (spec : LW j' d mc ms 0 (lEnt (mL j') (.ref q :: as)) [] g Q') (kk : ∀ v g', Q' v g' → LW j (d + 1) bc bs (pc + 3) ls (v.toList ++ st) g' Q) : LW j (d + 1) (mc + bc) (ms + bs) pc ls stk g Q := by
  subst hstk
  intro p l e R s m args below meth c H locs cells slots Z D aC ρ A H0 b lsR X hc hs hw hl ho hz
  obtain ⟨ho1, ho3⟩ := lOk_app.mp ho
  obtain ⟨hq, ho2⟩ := lOk_cons.mp ho3
  have hq : q < Gn g := hq
  have hM := LW_met hj hlen spec hw.2.2.2.2.2.1 (fun v hv => by
    rcases List.mem_cons.mp hv with rfl | hv
    · exact hq
    · exact ho1 v (List.mem_reverse.mpr hv)) l D aC ρ b H.size
  obtain ⟨k1, k2, k3, k4, k5, k6, k7⟩ := mJ_ok hj
  have hmo := mres_ok hm
  simp only [lMchk, Bool.and_eq_true, decide_eq_true_eq] at hmo
  have hts := X.2.2.2.2.2.2.1
  have hfr := X.2.2.2.2.2.2.2.2.1
  have hlo := X.2.2.2.2.2.2.2.2.2
  have hin : Cond.instanceMethod (mY j') ∈ lg := lAt_mem hmo.2.1
  have hsel : Cond.selects (mY j').cls (mY j') (mY j') ∈ lg := lAt_mem hmo.2.2.1
  have hlk : Cond.methodLink (mO j) idx (mY j') ∈ lg := any_mem (f := fun _ => .tt) hmo.2.2.2
  have hG : GoodIn lg (wsV (mO j) idx (mY j').cls (mY j') (lWs j')) := lGood _ (fun w hw => by
    unfold wsV at hw
    rcases List.mem_append.mp hw with h | h
    · simp only [List.mem_cons, List.not_mem_nil, or_false] at h
      rcases h with rfl | rfl | rfl | rfl
      · exact hlk
      · exact hin
      · exact hsel
      · exact k2
    · rcases List.mem_cons.mp h with rfl | h
      · exact k1
      · exact h)
  have he : (lW ρ aC g)[q]? = some (ρ q, .inr ((mt j').1, (List.range (nF (mt j').1)).map fun k => lV ρ g (tyA (mt j').1 k) q k)) := by rw [lW_at hq, lE_obj hsh]
  obtain ⟨r, hr⟩ : ∃ r, vwCl[(mt j').1]? = some r := by
    have h0 : vwCl.length = 14 := rfl
    exact ⟨_, List.getElem?_eq_getElem (by omega)⟩
  have hrC : r.1 = (mY j').cls := by
    have := (clOK (C := r.1) (T := r.2.1) (N := r.2.2) hr).2.1
    rw [this, ← k7]
    rfl
  have hrecv := va_recv hw.1 hw.2.1 hr he
  rw [hrC] at hrecv
  refine LW_back X hc hs hw hl ho2 hz (stR := (as.reverse ++ .ref q :: st).map (cv ρ b)) (va_runV (As := as.map (cv ρ b)) (b := ρ q) (n := mN j') ⟨X.1, X.2.1, X.2.2.1, X.2.2.2.2.2.1, hts⟩ hM (cwV (mN j') hts hG rfl rfl rfl ⟨rfl, k4, k5, k6⟩ ⟨by show d + 1 ≤ _; omega, by show 8 + (mL j' + 11) + 128 * d ≤ _; omega⟩) ⟨lPc_blind, hrecv, fun U hU hW => ⟨rfl, lPre hw U hU hW⟩⟩ rfl (by rw [List.length_map]; exact hn) hl.1 (by show List.map _ _ = _; rw [List.map_append, List.map_reverse]; rfl) (lv_room (cat_cv hcat)) (lk_dec h) ⟨by omega, by omega⟩) kk
/-- a constructor -/
theorem LW_callI {q : Nat} (h : lk j pc = some (.invokespecial idx, 3)) (hm : mres j idx = some (2, j')) (hj : jOk j' = true) (hn : as.length = mN j') (hlen : (lFlat (.ref q :: as)).length ≤ mL j') (hmx : mL j' ≤ 100) (hcat : (st.map fun v => v.category).sum ≤ 8) {stk : List Value} (hstk : stk = as.reverse ++ .ref q :: st)
    (spec : LW j' d mc ms 0 (lEnt (mL j') (.ref q :: as)) [] g Q') (kk : ∀ v g', Q' v g' → LW j (d + 1) bc bs (pc + 3) ls (v.toList ++ st) g' Q) : LW j (d + 1) (mc + bc) (ms + bs) pc ls stk g Q := by
  subst hstk
  intro p l e R s m args below meth c H locs cells slots Z D aC ρ A H0 b lsR X hc hs hw hl ho hz
  obtain ⟨ho1, ho3⟩ := lOk_app.mp ho
  obtain ⟨hq, ho2⟩ := lOk_cons.mp ho3
  have hq : q < Gn g := hq
  have hM := LW_met hj hlen spec hw.2.2.2.2.2.1 (fun v hv => by
    rcases List.mem_cons.mp hv with rfl | hv
    · exact hq
    · exact ho1 v (List.mem_reverse.mpr hv)) l D aC ρ b H.size
  obtain ⟨k1, k2, k3, k4, k5, k6, k7⟩ := mJ_ok hj
  have hmo := mres_ok hm
  simp only [lMchk, Bool.and_eq_true, decide_eq_true_eq] at hmo
  have hts := X.2.2.2.2.2.2.1
  have hfr := X.2.2.2.2.2.2.2.2.1
  have hlo := X.2.2.2.2.2.2.2.2.2
  have hin : Cond.instanceMethod (mY j') ∈ lg := lAt_mem hmo.2.1
  have hnm : (mY j').name = "<init>" := hmo.2.2.1
  have hrn : mR j' = none := hmo.2.2.2.1
  have hlk : Cond.methodLink (mO j) idx (mY j') ∈ lg := any_mem (f := fun _ => .tt) hmo.2.2.2.2
  have hG : GoodIn lg (lWs j') := lGood _ (fun w hw => by
    rcases List.mem_cons.mp hw with rfl | h
    · exact k1
    · exact h)
  have hcb := callB_of (bytes := mB j') (maxL := mL j') (ret := mR j') (rm := lRm d mc ms) (R := R) (own := mO j) (index := idx) (y := mY j') (ws := lWs j') (mN j') hts hG rfl rfl rfl (hts _ k2) (hts _ hlk) ⟨k4, k5, k6⟩ ⟨by show d + 1 ≤ _; omega, by show 8 + (mL j' + 11) + 128 * d ≤ _; omega⟩
  have hcb2 : CallB R s args (mO j) idx (mY j') (mB j') (mL j') none (lWs j') (lRm d mc ms) mc ms (mN j') := hrn ▸ hcb
  refine LW_back X hc hs hw hl ho2 hz (stR := (as.reverse ++ .ref q :: st).map (cv ρ b)) (va_runI (As := as.map (cv ρ b)) (b := ρ q) (n := mN j') ⟨X.1, X.2.1, X.2.2.1, X.2.2.2.2.2.1, hts⟩ hM ⟨hcb2, hnm, hts _ hin⟩ ⟨lPc_blind, fun U hU hW => ⟨rfl, lPre hw U hU hW⟩⟩ rfl (by rw [List.length_map]; exact hn) hl.1 (by show List.map _ _ = _; rw [List.map_append, List.map_reverse]; rfl) (lv_room (cat_cv hcat)) (lk_dec h) ⟨by omega, by omega⟩) kk
end CALL
/-! rows: Math.min, Math.max -/
set_option maxRecDepth 100000 in
theorem lgMath : Cond.initialized "java/lang/Math" ∈ lg := lAt_mem (p := 156) (by decide +kernel)
set_option maxRecDepth 100000 in
theorem lgMinC : Cond.code Lib.Math.min.name Lib.Math.min.code 2 (some .int) ∈ lg := lAt_mem (p := 802) (by decide +kernel)
set_option maxRecDepth 100000 in
theorem lgMaxC : Cond.code Lib.Math.max.name Lib.Math.max.code 2 (some .int) ∈ lg := lAt_mem (p := 821) (by decide +kernel)
section MATH
variable {j d bc bs pc : Nat} {ls : List (Option Value)} {st : List Value} {g : LH} {Q : Option Value → LH → Prop}
theorem mY321 : mY 321 = Lib.Math.min.name := by decide +kernel
theorem mY320 : mY 320 = Lib.Math.max.name := by decide +kernel
theorem LW_min {idx : Nat} {x y : Int32} (h : lk j pc = some (.invokestatic idx, 3)) (hm : mres j idx = some (1, 321)) (hcat : (st.map fun v => v.category).sum ≤ 8) (kk : LW j (d + 1) bc bs (pc + 3) ls (.int (if y < x then y else x) :: st) g Q) : LW j (d + 1) bc bs pc ls (.int y :: .int x :: st) g Q := by
  intro p l e R s m args below meth c H locs cells slots Z D aC ρ A H0 b lsR X hc hs hw hl ho hz
  have hmo := mres_ok hm
  simp only [lMchk, Bool.and_eq_true, decide_eq_true_eq] at hmo
  have hts := X.2.2.2.2.2.2.1
  have hfr := X.2.2.2.2.2.2.2.2.1
  have hlo := X.2.2.2.2.2.2.2.2.2
  have hst : Cond.static (mY 321) ∈ lg := lAt_mem hmo.2.1
  have hlk : Cond.methodLink (mO j) idx (mY 321) ∈ lg := any_mem (f := fun _ => .tt) hmo.2.2
  rw [mY321] at hst hlk
  have hcat2 := cat_cv (ρ := ρ) (b := b) hcat
  exact va_mmin X.1 X.2.1 (by rw [X.2.2.1, hl.1]) X.2.2.2.2.2.1 (hts _ hlk) (hts _ hst) (hts _ lgMath) (hts _ lgMinC) (by omega) (by omega) (by omega) (by omega) (lk_dec h) (kk p l e R s m args below meth c H locs cells slots Z D aC ρ A H0 b lsR X hc hs hw hl (by simp_all [lOk_cons, okV]) hz)
theorem LW_max {idx : Nat} {x y : Int32} (h : lk j pc = some (.invokestatic idx, 3)) (hm : mres j idx = some (1, 320)) (hcat : (st.map fun v => v.category).sum ≤ 8) (kk : LW j (d + 1) bc bs (pc + 3) ls (.int (if x < y then y else x) :: st) g Q) : LW j (d + 1) bc bs pc ls (.int y :: .int x :: st) g Q := by
  intro p l e R s m args below meth c H locs cells slots Z D aC ρ A H0 b lsR X hc hs hw hl ho hz
  have hmo := mres_ok hm
  simp only [lMchk, Bool.and_eq_true, decide_eq_true_eq] at hmo
  have hts := X.2.2.2.2.2.2.1
  have hfr := X.2.2.2.2.2.2.2.2.1
  have hlo := X.2.2.2.2.2.2.2.2.2
  have hst : Cond.static (mY 320) ∈ lg := lAt_mem hmo.2.1
  have hlk : Cond.methodLink (mO j) idx (mY 320) ∈ lg := any_mem (f := fun _ => .tt) hmo.2.2
  rw [mY320] at hst hlk
  have hcat2 := cat_cv (ρ := ρ) (b := b) hcat
  exact va_mmax X.1 X.2.1 (by rw [X.2.2.1, hl.1]) X.2.2.2.2.2.1 (hts _ hlk) (hts _ hst) (hts _ lgMath) (hts _ lgMaxC) (by omega) (by omega) (by omega) (by omega) (lk_dec h) (kk p l e R s m args below meth c H locs cells slots Z D aC ρ A H0 b lsR X hc hs hw hl (by simp_all [lOk_cons, okV]) hz)
end MATH
