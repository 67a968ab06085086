/-! rows: stack and locals -/
theorem lOk_cons {n : Nat} {ls : List (Option Value)} {v : Value} {st : List Value} : lOk n ls (v :: st) ↔ okV n v ∧ lOk n ls st := by
  unfold lOk
  constructor
  · intro h
    exact ⟨h.1 v List.mem_cons_self, fun w hw => h.1 w (List.mem_cons_of_mem _ hw), h.2⟩
  · intro h
    refine ⟨fun w hw => ?_, h.2.2⟩
    rcases List.mem_cons.mp hw with rfl | hw
    · exact h.1
    · exact h.2.1 w hw
theorem cv_cat (ρ : Nat → Nat) (b : Nat → Nat) (v : Value) : (cv ρ b v).category = v.category := by cases v <;> rfl
def clr (ls : List (Option Value)) (i : Nat) : List (Option Value) := match i with
  | 0 => ls
  | k + 1 => match ls[k]? with
    | some (some w) => if w.category = 2 then ls.set k none else ls
    | _ => ls
def st1 (ls : List (Option Value)) (i : Nat) (v : Value) : List (Option Value) := (clr ls i).set i (some v)
def st2 (ls : List (Option Value)) (i : Nat) (v : Value) : List (Option Value) := ((clr ls i).set i (some v)).set (i + 1) none
theorem clr_len (ls : List (Option Value)) (i : Nat) : (clr ls i).length = ls.length := by
  unfold clr
  split
  · rfl
  · split
    · split
      · simp
      · rfl
    · rfl
theorem clr_at {ls : List (Option Value)} {i k : Nat} {w : Value} (h : (clr ls i)[k]? = some (some w)) : ls[k]? = some (some w) ∧ ¬ (k + 1 = i ∧ w.category = 2) := by
  unfold clr at h
  split at h
  · exact ⟨h, fun q => by omega⟩
  · rename_i n
    split at h
    · rename_i w' hw'
      split at h
      · rename_i hc
        by_cases hk : n = k
        · subst hk
          rw [List.getElem?_set] at h
          split at h
          · split at h <;> simp at h
          · omega
        · rw [List.getElem?_set_ne hk] at h
          exact ⟨h, fun q => hk (by omega)⟩
      · rename_i hc
        refine ⟨h, fun q => ?_⟩
        have : n = k := by omega
        subst this
        rw [hw'] at h
        cases h
        exact hc q.2
    · rename_i hno
      refine ⟨h, fun q => ?_⟩
      have : n = k := by omega
      subst this
      exact hno w h
def lvl (ρ : Nat → Nat) (b : Nat → Nat) (ls : List (Option Value)) : List (Nat × Value) := (List.range ls.length).filterMap fun i => match ls[i]? with
  | some (some v) => some (i, cv ρ b v)
  | _ => none
theorem lvl_mem {ρ : Nat → Nat} {b : Nat → Nat} {ls : List (Option Value)} {q : Nat × Value} : q ∈ lvl ρ b ls ↔ ∃ v, ls[q.1]? = some (some v) ∧ q.2 = cv ρ b v := by
  unfold lvl
  rw [List.mem_filterMap]
  constructor
  · rintro ⟨i, hi, h⟩
    split at h
    · rename_i v hv
      cases h
      exact ⟨v, hv, rfl⟩
    · cases h
  · rintro ⟨v, hv, h⟩
    refine ⟨q.1, List.mem_range.mpr (List.getElem?_eq_some_iff.mp hv).1, ?_⟩
    rw [hv]
    show some (q.1, cv ρ b v) = some q
    rw [← h]
theorem lR.has {ρ : Nat → Nat} {b : Nat → Nat} {nL : Nat} {ls : List (Option Value)} {lsR : Array Slot} (h : lR ρ b nL ls lsR) : lv_has lsR nL (lvl ρ b ls) := by
  refine ⟨h.1, h.2.1, fun q hq => ?_⟩
  obtain ⟨v, h1, h2⟩ := lvl_mem.mp hq
  rw [h2]
  exact h.2.2.2 q.1 v h1
theorem lR.set1 {ρ : Nat → Nat} {b : Nat → Nat} {nL i : Nat} {ls : List (Option Value)} {v : Value} {ls' : Array Slot} (hn : ls.length = nL) (h : lv_has ls' nL ((i, cv ρ b v) :: (lvl ρ b ls).filter (fun q => !(q.1 == i) && !(q.1 + 1 == i && q.2.category == 2)))) : lR ρ b nL (st1 ls i v) ls' := by
  refine ⟨h.1, h.2.1, by unfold st1; rw [List.length_set, clr_len]; exact hn, fun k w hk => ?_⟩
  unfold st1 at hk
  by_cases hki : i = k
  · subst hki
    rw [List.getElem?_set] at hk
    split at hk
    · split at hk
      · cases hk
        exact h.2.2 (i, cv ρ b v) List.mem_cons_self
      · cases hk
    · omega
  · rw [List.getElem?_set_ne hki] at hk
    obtain ⟨h1, h2⟩ := clr_at hk
    refine h.2.2 (k, cv ρ b w) (List.mem_cons_of_mem _ (List.mem_filter.mpr ⟨lvl_mem.mpr ⟨w, h1, rfl⟩, ?_⟩))
    have h3 : ¬ k = i := fun q => hki q.symm
    rw [cv_cat]
    simp only [Bool.and_eq_true, Bool.not_eq_true', beq_eq_false_iff_ne, Bool.and_eq_false_iff, beq_iff_eq]
    refine ⟨h3, ?_⟩
    by_cases h4 : k + 1 = i
    · exact Or.inr fun q => h2 ⟨h4, q⟩
    · exact Or.inl h4
theorem lR.set2 {ρ : Nat → Nat} {b : Nat → Nat} {nL i : Nat} {ls : List (Option Value)} {v : Value} {ls' : Array Slot} (hn : ls.length = nL) (h : lv_has ls' nL ((i, cv ρ b v) :: (lvl ρ b ls).filter (fun q => !(q.1 == i) && (!(q.1 == i + 1) && !(q.1 + 1 == i && q.2.category == 2))))) : lR ρ b nL (st2 ls i v) ls' := by
  refine ⟨h.1, h.2.1, by unfold st2; rw [List.length_set, List.length_set, clr_len]; exact hn, fun k w hk => ?_⟩
  unfold st2 at hk
  have h5 : ¬ i + 1 = k := by
    intro q
    rw [List.getElem?_set] at hk
    rw [if_pos q] at hk
    split at hk <;> simp at hk
  rw [List.getElem?_set_ne h5] at hk
  by_cases hki : i = k
  · subst hki
    rw [List.getElem?_set] at hk
    split at hk
    · split at hk
      · cases hk
        exact h.2.2 (i, cv ρ b v) List.mem_cons_self
      · cases hk
    · omega
  · rw [List.getElem?_set_ne hki] at hk
    obtain ⟨h1, h2⟩ := clr_at hk
    refine h.2.2 (k, cv ρ b w) (List.mem_cons_of_mem _ (List.mem_filter.mpr ⟨lvl_mem.mpr ⟨w, h1, rfl⟩, ?_⟩))
    have h3 : ¬ k = i := fun q => hki q.symm
    have h6 : ¬ k = i + 1 := fun q => h5 q.symm
    rw [cv_cat]
    simp only [Bool.and_eq_true, Bool.not_eq_true', beq_eq_false_iff_ne, Bool.and_eq_false_iff, beq_iff_eq]
    refine ⟨h3, h6, ?_⟩
    by_cases h4 : k + 1 = i
    · exact Or.inr fun q => h2 ⟨h4, q⟩
    · exact Or.inl h4
theorem lOk_st1 {n i : Nat} {ls : List (Option Value)} {v : Value} {st : List Value} (h : lOk n ls (v :: st)) : lOk n (st1 ls i v) st := by
  obtain ⟨hv, h1, h2⟩ := lOk_cons.mp h
  refine ⟨h1, fun k w hk => ?_⟩
  unfold st1 at hk
  rw [List.getElem?_set] at hk
  split at hk
  · split at hk
    · cases hk
      exact hv
    · cases hk
  · exact h2 k w (clr_at hk).1
theorem lOk_st2 {n i : Nat} {ls : List (Option Value)} {v : Value} {st : List Value} (h : lOk n ls (v :: st)) : lOk n (st2 ls i v) st := by
  obtain ⟨hv, h1, h2⟩ := lOk_cons.mp h
  refine ⟨h1, fun k w hk => ?_⟩
  unfold st2 at hk
  rw [List.getElem?_set] at hk
  split at hk
  · split at hk <;> simp at hk
  · rw [List.getElem?_set] at hk
    split at hk
    · split at hk
      · cases hk
        exact hv
      · cases hk
    · exact h2 k w (clr_at hk).1
/-- fewer locals known -/
theorem LW_sub {j d bc bs pc : Nat} {ls : List (Option Value)} {st : List Value} {g : LH} {Q : Option Value → LH → Prop} {ls' : List (Option Value)} (hn : ls'.length = ls.length) (hs0 : ∀ (i : Nat) (v : Value), ls'[i]? = some (some v) → ls[i]? = some (some v)) (k : LW j d bc bs pc ls' st g Q) : LW j d bc bs pc ls st g Q := by
  intro p l e R s m args below meth c H locs cells slots Z D aC ρ A H0 b lsR X hc hs hw hl ho hz
  exact k p l e R s m args below meth c H locs cells slots Z D aC ρ A H0 b lsR X hc hs hw ⟨hl.1, hl.2.1, hn.trans hl.2.2.1, fun i v h => hl.2.2.2 i v (hs0 i v h)⟩ ⟨ho.1, fun i v h => ho.2 i v (hs0 i v h)⟩ hz
theorem LW_post {j d bc bs pc : Nat} {ls : List (Option Value)} {st : List Value} {g : LH} {Q : Option Value → LH → Prop} {Q' : Option Value → LH → Prop} (hq : ∀ v g', Q' v g' → Q v g') (k : LW j d bc bs pc ls st g Q') : LW j d bc bs pc ls st g Q := by
  intro p l e R s m args below meth c H locs cells slots Z D aC ρ A H0 b lsR X hc hs hw hl ho hz
  exact k p l e R s m args below meth c H locs cells slots Z D aC ρ A H0 b lsR X hc hs hw hl ho (fun v g' ρ' H' locs' cells' slots' pc' ls' h => hz v g' ρ' H' locs' cells' slots' pc' ls' (hq v g' h))
theorem LW_room {j d bc bs pc : Nat} {ls : List (Option Value)} {st : List Value} {g : LH} {Q : Option Value → LH → Prop} {bc' bs' d' : Nat} (h1 : bc' ≤ bc) (h2 : bs' ≤ bs) (h3 : d' ≤ d) (k : LW j d' bc' bs' pc ls st g Q) : LW j d bc bs pc ls st g Q := by
  intro p l e R s m args below meth c H locs cells slots Z D aC ρ A H0 b lsR X hc hs hw hl ho hz
  obtain ⟨x1, x2, x3, x4, x5, x6, x7, x8, x9, x10⟩ := X
  exact k p l e R s m args below meth c H locs cells slots Z D aC ρ A H0 b lsR ⟨x1, x2, x3, x4, x5, x6, x7, x8, by omega, by omega⟩ (by omega) (by omega) hw hl ho (fun v g' ρ' H' locs' cells' slots' pc' ls' q0 q1 q2 qx q3 q4 q5 => hz v g' ρ' H' locs' cells' slots' pc' ls' q0 q1 q2 qx q3 (by omega) (by omega))
theorem LW_iconst {j d bc bs pc : Nat} {ls : List (Option Value)} {st : List Value} {g : LH} {Q : Option Value → LH → Prop} {n : Int} {v : Int32} (h : lk j pc = some (.iconst n, 1)) (hv : Int32.ofInt n = v) (k : LW j d bc bs (pc + 1) ls (.int v :: st) g Q) : LW j d bc bs pc ls (st) g Q := by
  intro p l e R s m args below meth c H locs cells slots Z D aC ρ A H0 b lsR X hc hs hw hl ho hz
  exact lv_iconst X.1 X.2.1 (lk_dec h) hv (k p l e R s m args below meth c H locs cells slots Z D aC ρ A H0 b lsR X hc hs hw hl (by simp_all [lOk_cons, okV]) hz)
theorem LW_bipush {j d bc bs pc : Nat} {ls : List (Option Value)} {st : List Value} {g : LH} {Q : Option Value → LH → Prop} {n : Int} {v : Int32} (h : lk j pc = some (.bipush n, 2)) (hv : (Int8.ofInt n).toInt32 = v) (k : LW j d bc bs (pc + 2) ls (.int v :: st) g Q) : LW j d bc bs pc ls (st) g Q := by
  intro p l e R s m args below meth c H locs cells slots Z D aC ρ A H0 b lsR X hc hs hw hl ho hz
  exact lv_bipush X.1 X.2.1 (lk_dec h) hv (k p l e R s m args below meth c H locs cells slots Z D aC ρ A H0 b lsR X hc hs hw hl (by simp_all [lOk_cons, okV]) hz)
theorem LW_sipush {j d bc bs pc : Nat} {ls : List (Option Value)} {st : List Value} {g : LH} {Q : Option Value → LH → Prop} {n : Int} {v : Int32} (h : lk j pc = some (.sipush n, 3)) (hv : (Int16.ofInt n).toInt32 = v) (k : LW j d bc bs (pc + 3) ls (.int v :: st) g Q) : LW j d bc bs pc ls (st) g Q := by
  intro p l e R s m args below meth c H locs cells slots Z D aC ρ A H0 b lsR X hc hs hw hl ho hz
  exact lv_sipush X.1 X.2.1 (lk_dec h) hv (k p l e R s m args below meth c H locs cells slots Z D aC ρ A H0 b lsR X hc hs hw hl (by simp_all [lOk_cons, okV]) hz)
theorem LW_lconst {j d bc bs pc : Nat} {ls : List (Option Value)} {st : List Value} {g : LH} {Q : Option Value → LH → Prop} {n : Fin 2} {v : Int64} (h : lk j pc = some (.lconst n, 1)) (hv : Int64.ofNat (n : Nat) = v) (k : LW j d bc bs (pc + 1) ls (.long v :: st) g Q) : LW j d bc bs pc ls (st) g Q := by
  intro p l e R s m args below meth c H locs cells slots Z D aC ρ A H0 b lsR X hc hs hw hl ho hz
  exact lv_lconst X.1 X.2.1 (lk_dec h) hv (k p l e R s m args below meth c H locs cells slots Z D aC ρ A H0 b lsR X hc hs hw hl (by simp_all [lOk_cons, okV]) hz)
theorem LW_null {j d bc bs pc : Nat} {ls : List (Option Value)} {st : List Value} {g : LH} {Q : Option Value → LH → Prop}  (h : lk j pc = some (.aconst_null, 1)) (k : LW j d bc bs (pc + 1) ls (.null :: st) g Q) : LW j d bc bs pc ls (st) g Q := by
  intro p l e R s m args below meth c H locs cells slots Z D aC ρ A H0 b lsR X hc hs hw hl ho hz
  exact lv_null X.1 X.2.1 (lk_dec h) (k p l e R s m args below meth c H locs cells slots Z D aC ρ A H0 b lsR X hc hs hw hl (by simp_all [lOk_cons, okV]) hz)
theorem LW_iadd {j d bc bs pc : Nat} {ls : List (Option Value)} {st : List Value} {g : LH} {Q : Option Value → LH → Prop} {x y : Int32} (h : lk j pc = some (.iadd, 1)) (k : LW j d bc bs (pc + 1) ls (.int (x + y) :: st) g Q) : LW j d bc bs pc ls (.int y :: .int x :: st) g Q := by
  intro p l e R s m args below meth c H locs cells slots Z D aC ρ A H0 b lsR X hc hs hw hl ho hz
  exact lv_iadd X.1 X.2.1 (lk_dec h) (k p l e R s m args below meth c H locs cells slots Z D aC ρ A H0 b lsR X hc hs hw hl (by simp_all [lOk_cons, okV]) hz)
theorem LW_isub {j d bc bs pc : Nat} {ls : List (Option Value)} {st : List Value} {g : LH} {Q : Option Value → LH → Prop} {x y : Int32} (h : lk j pc = some (.isub, 1)) (k : LW j d bc bs (pc + 1) ls (.int (x - y) :: st) g Q) : LW j d bc bs pc ls (.int y :: .int x :: st) g Q := by
  intro p l e R s m args below meth c H locs cells slots Z D aC ρ A H0 b lsR X hc hs hw hl ho hz
  exact lv_isub X.1 X.2.1 (lk_dec h) (k p l e R s m args below meth c H locs cells slots Z D aC ρ A H0 b lsR X hc hs hw hl (by simp_all [lOk_cons, okV]) hz)
theorem LW_imul {j d bc bs pc : Nat} {ls : List (Option Value)} {st : List Value} {g : LH} {Q : Option Value → LH → Prop} {x y : Int32} (h : lk j pc = some (.imul, 1)) (k : LW j d bc bs (pc + 1) ls (.int (x * y) :: st) g Q) : LW j d bc bs pc ls (.int y :: .int x :: st) g Q := by
  intro p l e R s m args below meth c H locs cells slots Z D aC ρ A H0 b lsR X hc hs hw hl ho hz
  exact lv_imul X.1 X.2.1 (lk_dec h) (k p l e R s m args below meth c H locs cells slots Z D aC ρ A H0 b lsR X hc hs hw hl (by simp_all [lOk_cons, okV]) hz)
theorem LW_iand {j d bc bs pc : Nat} {ls : List (Option Value)} {st : List Value} {g : LH} {Q : Option Value → LH → Prop} {x y : Int32} (h : lk j pc = some (.iand, 1)) (k : LW j d bc bs (pc + 1) ls (.int (x &&& y) :: st) g Q) : LW j d bc bs pc ls (.int y :: .int x :: st) g Q := by
  intro p l e R s m args below meth c H locs cells slots Z D aC ρ A H0 b lsR X hc hs hw hl ho hz
  exact lv_iand X.1 X.2.1 (lk_dec h) (k p l e R s m args below meth c H locs cells slots Z D aC ρ A H0 b lsR X hc hs hw hl (by simp_all [lOk_cons, okV]) hz)
theorem LW_ior {j d bc bs pc : Nat} {ls : List (Option Value)} {st : List Value} {g : LH} {Q : Option Value → LH → Prop} {x y : Int32} (h : lk j pc = some (.ior, 1)) (k : LW j d bc bs (pc + 1) ls (.int (x ||| y) :: st) g Q) : LW j d bc bs pc ls (.int y :: .int x :: st) g Q := by
  intro p l e R s m args below meth c H locs cells slots Z D aC ρ A H0 b lsR X hc hs hw hl ho hz
  exact lv_ior X.1 X.2.1 (lk_dec h) (k p l e R s m args below meth c H locs cells slots Z D aC ρ A H0 b lsR X hc hs hw hl (by simp_all [lOk_cons, okV]) hz)
theorem LW_ixor {j d bc bs pc : Nat} {ls : List (Option Value)} {st : List Value} {g : LH} {Q : Option Value → LH → Prop} {x y : Int32} (h : lk j pc = some (.ixor, 1)) (k : LW j d bc bs (pc + 1) ls (.int (x ^^^ y) :: st) g Q) : LW j d bc bs pc ls (.int y :: .int x :: st) g Q := by
  intro p l e R s m args below meth c H locs cells slots Z D aC ρ A H0 b lsR X hc hs hw hl ho hz
  exact lv_ixor X.1 X.2.1 (lk_dec h) (k p l e R s m args below meth c H locs cells slots Z D aC ρ A H0 b lsR X hc hs hw hl (by simp_all [lOk_cons, okV]) hz)
theorem LW_ishl {j d bc bs pc : Nat} {ls : List (Option Value)} {st : List Value} {g : LH} {Q : Option Value → LH → Prop} {x y : Int32} (h : lk j pc = some (.ishl, 1)) (k : LW j d bc bs (pc + 1) ls (.int (x <<< (y &&& 31)) :: st) g Q) : LW j d bc bs pc ls (.int y :: .int x :: st) g Q := by
  intro p l e R s m args below meth c H locs cells slots Z D aC ρ A H0 b lsR X hc hs hw hl ho hz
  exact lv_ishl X.1 X.2.1 (lk_dec h) (k p l e R s m args below meth c H locs cells slots Z D aC ρ A H0 b lsR X hc hs hw hl (by simp_all [lOk_cons, okV]) hz)
theorem LW_ishr {j d bc bs pc : Nat} {ls : List (Option Value)} {st : List Value} {g : LH} {Q : Option Value → LH → Prop} {x y : Int32} (h : lk j pc = some (.ishr, 1)) (k : LW j d bc bs (pc + 1) ls (.int (x >>> (y &&& 31)) :: st) g Q) : LW j d bc bs pc ls (.int y :: .int x :: st) g Q := by
  intro p l e R s m args below meth c H locs cells slots Z D aC ρ A H0 b lsR X hc hs hw hl ho hz
  exact lv_ishr X.1 X.2.1 (lk_dec h) (k p l e R s m args below meth c H locs cells slots Z D aC ρ A H0 b lsR X hc hs hw hl (by simp_all [lOk_cons, okV]) hz)
theorem LW_ladd {j d bc bs pc : Nat} {ls : List (Option Value)} {st : List Value} {g : LH} {Q : Option Value → LH → Prop} {x y : Int64} (h : lk j pc = some (.ladd, 1)) (k : LW j d bc bs (pc + 1) ls (.long (x + y) :: st) g Q) : LW j d bc bs pc ls (.long y :: .long x :: st) g Q := by
  intro p l e R s m args below meth c H locs cells slots Z D aC ρ A H0 b lsR X hc hs hw hl ho hz
  exact lv_ladd X.1 X.2.1 (lk_dec h) (k p l e R s m args below meth c H locs cells slots Z D aC ρ A H0 b lsR X hc hs hw hl (by simp_all [lOk_cons, okV]) hz)
theorem LW_lsub {j d bc bs pc : Nat} {ls : List (Option Value)} {st : List Value} {g : LH} {Q : Option Value → LH → Prop} {x y : Int64} (h : lk j pc = some (.lsub, 1)) (k : LW j d bc bs (pc + 1) ls (.long (x - y) :: st) g Q) : LW j d bc bs pc ls (.long y :: .long x :: st) g Q := by
  intro p l e R s m args below meth c H locs cells slots Z D aC ρ A H0 b lsR X hc hs hw hl ho hz
  exact lv_lsub X.1 X.2.1 (lk_dec h) (k p l e R s m args below meth c H locs cells slots Z D aC ρ A H0 b lsR X hc hs hw hl (by simp_all [lOk_cons, okV]) hz)
theorem LW_lmul {j d bc bs pc : Nat} {ls : List (Option Value)} {st : List Value} {g : LH} {Q : Option Value → LH → Prop} {x y : Int64} (h : lk j pc = some (.lmul, 1)) (k : LW j d bc bs (pc + 1) ls (.long (x * y) :: st) g Q) : LW j d bc bs pc ls (.long y :: .long x :: st) g Q := by
  intro p l e R s m args below meth c H locs cells slots Z D aC ρ A H0 b lsR X hc hs hw hl ho hz
  exact lv_lmul X.1 X.2.1 (lk_dec h) (k p l e R s m args below meth c H locs cells slots Z D aC ρ A H0 b lsR X hc hs hw hl (by simp_all [lOk_cons, okV]) hz)
theorem LW_land {j d bc bs pc : Nat} {ls : List (Option Value)} {st : List Value} {g : LH} {Q : Option Value → LH → Prop} {x y : Int64} (h : lk j pc = some (.land, 1)) (k : LW j d bc bs (pc + 1) ls (.long (x &&& y) :: st) g Q) : LW j d bc bs pc ls (.long y :: .long x :: st) g Q := by
  intro p l e R s m args below meth c H locs cells slots Z D aC ρ A H0 b lsR X hc hs hw hl ho hz
  exact lv_land X.1 X.2.1 (lk_dec h) (k p l e R s m args below meth c H locs cells slots Z D aC ρ A H0 b lsR X hc hs hw hl (by simp_all [lOk_cons, okV]) hz)
theorem LW_lor {j d bc bs pc : Nat} {ls : List (Option Value)} {st : List Value} {g : LH} {Q : Option Value → LH → Prop} {x y : Int64} (h : lk j pc = some (.lor, 1)) (k : LW j d bc bs (pc + 1) ls (.long (x ||| y) :: st) g Q) : LW j d bc bs pc ls (.long y :: .long x :: st) g Q := by
  intro p l e R s m args below meth c H locs cells slots Z D aC ρ A H0 b lsR X hc hs hw hl ho hz
  exact lv_lor X.1 X.2.1 (lk_dec h) (k p l e R s m args below meth c H locs cells slots Z D aC ρ A H0 b lsR X hc hs hw hl (by simp_all [lOk_cons, okV]) hz)
theorem LW_lxor {j d bc bs pc : Nat} {ls : List (Option Value)} {st : List Value} {g : LH} {Q : Option Value → LH → Prop} {x y : Int64} (h : lk j pc = some (.lxor, 1)) (k : LW j d bc bs (pc + 1) ls (.long (x ^^^ y) :: st) g Q) : LW j d bc bs pc ls (.long y :: .long x :: st) g Q := by
  intro p l e R s m args below meth c H locs cells slots Z D aC ρ A H0 b lsR X hc hs hw hl ho hz
  exact lv_lxor X.1 X.2.1 (lk_dec h) (k p l e R s m args below meth c H locs cells slots Z D aC ρ A H0 b lsR X hc hs hw hl (by simp_all [lOk_cons, okV]) hz)
theorem LW_idiv {j d bc bs pc : Nat} {ls : List (Option Value)} {st : List Value} {g : LH} {Q : Option Value → LH → Prop} {x y : Int32} (h : lk j pc = some (.idiv, 1)) (hne : ¬ y = 0) (k : LW j d bc bs (pc + 1) ls (.int (x / y) :: st) g Q) : LW j d bc bs pc ls (.int y :: .int x :: st) g Q := by
  intro p l e R s m args below meth c H locs cells slots Z D aC ρ A H0 b lsR X hc hs hw hl ho hz
  exact lv_idiv X.1 X.2.1 (lk_dec h) hne (k p l e R s m args below meth c H locs cells slots Z D aC ρ A H0 b lsR X hc hs hw hl (by simp_all [lOk_cons, okV]) hz)
theorem LW_irem {j d bc bs pc : Nat} {ls : List (Option Value)} {st : List Value} {g : LH} {Q : Option Value → LH → Prop} {x y : Int32} (h : lk j pc = some (.irem, 1)) (hne : ¬ y = 0) (k : LW j d bc bs (pc + 1) ls (.int (x - x / y * y) :: st) g Q) : LW j d bc bs pc ls (.int y :: .int x :: st) g Q := by
  intro p l e R s m args below meth c H locs cells slots Z D aC ρ A H0 b lsR X hc hs hw hl ho hz
  exact lv_irem X.1 X.2.1 (lk_dec h) hne (k p l e R s m args below meth c H locs cells slots Z D aC ρ A H0 b lsR X hc hs hw hl (by simp_all [lOk_cons, okV]) hz)
theorem LW_ldiv {j d bc bs pc : Nat} {ls : List (Option Value)} {st : List Value} {g : LH} {Q : Option Value → LH → Prop} {x y : Int64} (h : lk j pc = some (.ldiv, 1)) (hne : ¬ y = 0) (k : LW j d bc bs (pc + 1) ls (.long (x / y) :: st) g Q) : LW j d bc bs pc ls (.long y :: .long x :: st) g Q := by
  intro p l e R s m args below meth c H locs cells slots Z D aC ρ A H0 b lsR X hc hs hw hl ho hz
  exact lv_ldiv X.1 X.2.1 (lk_dec h) hne (k p l e R s m args below meth c H locs cells slots Z D aC ρ A H0 b lsR X hc hs hw hl (by simp_all [lOk_cons, okV]) hz)
theorem LW_lrem {j d bc bs pc : Nat} {ls : List (Option Value)} {st : List Value} {g : LH} {Q : Option Value → LH → Prop} {x y : Int64} (h : lk j pc = some (.lrem, 1)) (hne : ¬ y = 0) (k : LW j d bc bs (pc + 1) ls (.long (x - x / y * y) :: st) g Q) : LW j d bc bs pc ls (.long y :: .long x :: st) g Q := by
  intro p l e R s m args below meth c H locs cells slots Z D aC ρ A H0 b lsR X hc hs hw hl ho hz
  exact lv_lrem X.1 X.2.1 (lk_dec h) hne (k p l e R s m args below meth c H locs cells slots Z D aC ρ A H0 b lsR X hc hs hw hl (by simp_all [lOk_cons, okV]) hz)
theorem LW_ineg {j d bc bs pc : Nat} {ls : List (Option Value)} {st : List Value} {g : LH} {Q : Option Value → LH → Prop} {x : Int32} (h : lk j pc = some (.ineg, 1)) (k : LW j d bc bs (pc + 1) ls (.int (-x) :: st) g Q) : LW j d bc bs pc ls (.int x :: st) g Q := by
  intro p l e R s m args below meth c H locs cells slots Z D aC ρ A H0 b lsR X hc hs hw hl ho hz
  exact lv_ineg X.1 X.2.1 (lk_dec h) (k p l e R s m args below meth c H locs cells slots Z D aC ρ A H0 b lsR X hc hs hw hl (by simp_all [lOk_cons, okV]) hz)
theorem LW_lneg {j d bc bs pc : Nat} {ls : List (Option Value)} {st : List Value} {g : LH} {Q : Option Value → LH → Prop} {x : Int64} (h : lk j pc = some (.lneg, 1)) (k : LW j d bc bs (pc + 1) ls (.long (-x) :: st) g Q) : LW j d bc bs pc ls (.long x :: st) g Q := by
  intro p l e R s m args below meth c H locs cells slots Z D aC ρ A H0 b lsR X hc hs hw hl ho hz
  exact lv_lneg X.1 X.2.1 (lk_dec h) (k p l e R s m args below meth c H locs cells slots Z D aC ρ A H0 b lsR X hc hs hw hl (by simp_all [lOk_cons, okV]) hz)
theorem LW_iushr {j d bc bs pc : Nat} {ls : List (Option Value)} {st : List Value} {g : LH} {Q : Option Value → LH → Prop} {x y : Int32} (h : lk j pc = some (.iushr, 1)) (k : LW j d bc bs (pc + 1) ls (.int ((x.toUInt32 >>> (y.toUInt32 &&& Int32.toUInt32 31)).toInt32) :: st) g Q) : LW j d bc bs pc ls (.int y :: .int x :: st) g Q := by
  intro p l e R s m args below meth c H locs cells slots Z D aC ρ A H0 b lsR X hc hs hw hl ho hz
  exact lv_iushr X.1 X.2.1 (lk_dec h) rfl (k p l e R s m args below meth c H locs cells slots Z D aC ρ A H0 b lsR X hc hs hw hl (by simp_all [lOk_cons, okV]) hz)
theorem LW_lshl {j d bc bs pc : Nat} {ls : List (Option Value)} {st : List Value} {g : LH} {Q : Option Value → LH → Prop} {x : Int64} {y : Int32} (h : lk j pc = some (.lshl, 1)) (k : LW j d bc bs (pc + 1) ls (.long (x <<< (y.toInt64 &&& 63)) :: st) g Q) : LW j d bc bs pc ls (.int y :: .long x :: st) g Q := by
  intro p l e R s m args below meth c H locs cells slots Z D aC ρ A H0 b lsR X hc hs hw hl ho hz
  exact lv_lshl X.1 X.2.1 (lk_dec h) rfl (k p l e R s m args below meth c H locs cells slots Z D aC ρ A H0 b lsR X hc hs hw hl (by simp_all [lOk_cons, okV]) hz)
theorem LW_i2l {j d bc bs pc : Nat} {ls : List (Option Value)} {st : List Value} {g : LH} {Q : Option Value → LH → Prop} {x : Int32} (h : lk j pc = some (.i2l, 1)) (k : LW j d bc bs (pc + 1) ls (.long x.toInt64 :: st) g Q) : LW j d bc bs pc ls (.int x :: st) g Q := by
  intro p l e R s m args below meth c H locs cells slots Z D aC ρ A H0 b lsR X hc hs hw hl ho hz
  exact lv_i2l X.1 X.2.1 (lk_dec h) rfl (k p l e R s m args below meth c H locs cells slots Z D aC ρ A H0 b lsR X hc hs hw hl (by simp_all [lOk_cons, okV]) hz)
theorem LW_l2i {j d bc bs pc : Nat} {ls : List (Option Value)} {st : List Value} {g : LH} {Q : Option Value → LH → Prop} {x : Int64} (h : lk j pc = some (.l2i, 1)) (k : LW j d bc bs (pc + 1) ls (.int x.toInt32 :: st) g Q) : LW j d bc bs pc ls (.long x :: st) g Q := by
  intro p l e R s m args below meth c H locs cells slots Z D aC ρ A H0 b lsR X hc hs hw hl ho hz
  exact lv_l2i X.1 X.2.1 (lk_dec h) rfl (k p l e R s m args below meth c H locs cells slots Z D aC ρ A H0 b lsR X hc hs hw hl (by simp_all [lOk_cons, okV]) hz)
theorem LW_i2b {j d bc bs pc : Nat} {ls : List (Option Value)} {st : List Value} {g : LH} {Q : Option Value → LH → Prop} {x : Int32} (h : lk j pc = some (.i2b, 1)) (k : LW j d bc bs (pc + 1) ls (.int x.toInt8.toInt32 :: st) g Q) : LW j d bc bs pc ls (.int x :: st) g Q := by
  intro p l e R s m args below meth c H locs cells slots Z D aC ρ A H0 b lsR X hc hs hw hl ho hz
  exact lv_i2b X.1 X.2.1 (lk_dec h) rfl (k p l e R s m args below meth c H locs cells slots Z D aC ρ A H0 b lsR X hc hs hw hl (by simp_all [lOk_cons, okV]) hz)
theorem LW_i2c {j d bc bs pc : Nat} {ls : List (Option Value)} {st : List Value} {g : LH} {Q : Option Value → LH → Prop} {x : Int32} (h : lk j pc = some (.i2c, 1)) (k : LW j d bc bs (pc + 1) ls (.int (x.toUInt32 % 65536).toInt32 :: st) g Q) : LW j d bc bs pc ls (.int x :: st) g Q := by
  intro p l e R s m args below meth c H locs cells slots Z D aC ρ A H0 b lsR X hc hs hw hl ho hz
  exact lv_i2c X.1 X.2.1 (lk_dec h) rfl (k p l e R s m args below meth c H locs cells slots Z D aC ρ A H0 b lsR X hc hs hw hl (by simp_all [lOk_cons, okV]) hz)
theorem LW_lcmp {j d bc bs pc : Nat} {ls : List (Option Value)} {st : List Value} {g : LH} {Q : Option Value → LH → Prop} {x y : Int64} (h : lk j pc = some (.lcmp, 1)) (k : LW j d bc bs (pc + 1) ls (.int (lg_cmp x y) :: st) g Q) : LW j d bc bs pc ls (.long y :: .long x :: st) g Q := by
  intro p l e R s m args below meth c H locs cells slots Z D aC ρ A H0 b lsR X hc hs hw hl ho hz
  exact W.lcmp X.1 X.2.1 (lk_dec h) (k p l e R s m args below meth c H locs cells slots Z D aC ρ A H0 b lsR X hc hs hw hl (by simp_all [lOk_cons, okV]) hz)
theorem LW_dup {j d bc bs pc : Nat} {ls : List (Option Value)} {st : List Value} {g : LH} {Q : Option Value → LH → Prop} {v : Value} (h : lk j pc = some (.dup, 1)) (hv : v.category = 1) (k : LW j d bc bs (pc + 1) ls (v :: v :: st) g Q) : LW j d bc bs pc ls (v :: st) g Q := by
  intro p l e R s m args below meth c H locs cells slots Z D aC ρ A H0 b lsR X hc hs hw hl ho hz
  exact lv_dup X.1 X.2.1 (lk_dec h) ((cv_cat _ _ _).trans hv) (k p l e R s m args below meth c H locs cells slots Z D aC ρ A H0 b lsR X hc hs hw hl (by simp_all [lOk_cons, okV]) hz)
theorem LW_pop {j d bc bs pc : Nat} {ls : List (Option Value)} {st : List Value} {g : LH} {Q : Option Value → LH → Prop} {v : Value} (h : lk j pc = some (.pop, 1)) (hv : v.category = 1) (k : LW j d bc bs (pc + 1) ls (st) g Q) : LW j d bc bs pc ls (v :: st) g Q := by
  intro p l e R s m args below meth c H locs cells slots Z D aC ρ A H0 b lsR X hc hs hw hl ho hz
  exact lv_pop X.1 X.2.1 (lk_dec h) ((cv_cat _ _ _).trans hv) (k p l e R s m args below meth c H locs cells slots Z D aC ρ A H0 b lsR X hc hs hw hl (by simp_all [lOk_cons, okV]) hz)
theorem LW_dup_x1 {j d bc bs pc : Nat} {ls : List (Option Value)} {st : List Value} {g : LH} {Q : Option Value → LH → Prop} {v w : Value} (h : lk j pc = some (.dup_x1, 1)) (hv : v.category = 1) (hw0 : w.category = 1) (k : LW j d bc bs (pc + 1) ls (v :: w :: v :: st) g Q) : LW j d bc bs pc ls (v :: w :: st) g Q := by
  intro p l e R s m args below meth c H locs cells slots Z D aC ρ A H0 b lsR X hc hs hw hl ho hz
  exact lv_dup_x1 X.1 X.2.1 (lk_dec h) ((cv_cat _ _ _).trans hv) ((cv_cat _ _ _).trans hw0) (k p l e R s m args below meth c H locs cells slots Z D aC ρ A H0 b lsR X hc hs hw hl (by simp_all [lOk_cons, okV]) hz)
theorem LW_dup_x2 {j d bc bs pc : Nat} {ls : List (Option Value)} {st : List Value} {g : LH} {Q : Option Value → LH → Prop} {v w u : Value} (h : lk j pc = some (.dup_x2, 1)) (hv : v.category = 1) (hw0 : w.category = 1) (hu : u.category = 1) (k : LW j d bc bs (pc + 1) ls (v :: w :: u :: v :: st) g Q) : LW j d bc bs pc ls (v :: w :: u :: st) g Q := by
  intro p l e R s m args below meth c H locs cells slots Z D aC ρ A H0 b lsR X hc hs hw hl ho hz
  exact lv_dup_x2 X.1 X.2.1 (lk_dec h) ((cv_cat _ _ _).trans hv) ((cv_cat _ _ _).trans hw0) ((cv_cat _ _ _).trans hu) (k p l e R s m args below meth c H locs cells slots Z D aC ρ A H0 b lsR X hc hs hw hl (by simp_all [lOk_cons, okV]) hz)
theorem LW_dup2 {j d bc bs pc : Nat} {ls : List (Option Value)} {st : List Value} {g : LH} {Q : Option Value → LH → Prop} {v w : Value} (h : lk j pc = some (.dup2, 1)) (hv : v.category = 1) (hw0 : w.category = 1) (k : LW j d bc bs (pc + 1) ls (v :: w :: v :: w :: st) g Q) : LW j d bc bs pc ls (v :: w :: st) g Q := by
  intro p l e R s m args below meth c H locs cells slots Z D aC ρ A H0 b lsR X hc hs hw hl ho hz
  exact lv_dup2_11 X.1 X.2.1 (lk_dec h) ((cv_cat _ _ _).trans hv) ((cv_cat _ _ _).trans hw0) (k p l e R s m args below meth c H locs cells slots Z D aC ρ A H0 b lsR X hc hs hw hl (by simp_all [lOk_cons, okV]) hz)
theorem LW_dup2_2 {j d bc bs pc : Nat} {ls : List (Option Value)} {st : List Value} {g : LH} {Q : Option Value → LH → Prop} {v : Value} (h : lk j pc = some (.dup2, 1)) (hv : v.category = 2) (k : LW j d bc bs (pc + 1) ls (v :: v :: st) g Q) : LW j d bc bs pc ls (v :: st) g Q := by
  intro p l e R s m args below meth c H locs cells slots Z D aC ρ A H0 b lsR X hc hs hw hl ho hz
  exact lv_dup2_2 X.1 X.2.1 (lk_dec h) ((cv_cat _ _ _).trans hv) (k p l e R s m args below meth c H locs cells slots Z D aC ρ A H0 b lsR X hc hs hw hl (by simp_all [lOk_cons, okV]) hz)
theorem LW_iload_n {j d bc bs pc : Nat} {ls : List (Option Value)} {st : List Value} {g : LH} {Q : Option Value → LH → Prop} {i : Nat} {x : Int32} {n : Fin 4} (h : lk j pc = some (.iload_n n, 1)) (hni : (n : Nat) = i) (hi : ls[i]? = some (some (.int x))) (k : LW j d bc bs (pc + 1) ls (.int x :: st) g Q) : LW j d bc bs pc ls st g Q := by
  intro p l e R s m args below meth c H locs cells slots Z D aC ρ A H0 b lsR X hc hs hw hl ho hz
  exact lv_iload_n X.1 X.2.1 (lk_dec h) hni (hl.2.2.2 i _ hi) (k p l e R s m args below meth c H locs cells slots Z D aC ρ A H0 b lsR X hc hs hw hl (lOk_cons.mpr ⟨ho.2 i _ hi, ho⟩) hz)
theorem LW_iload {j d bc bs pc : Nat} {ls : List (Option Value)} {st : List Value} {g : LH} {Q : Option Value → LH → Prop} {i : Nat} {x : Int32} (h : lk j pc = some (.iload i, 2)) (hi : ls[i]? = some (some (.int x))) (k : LW j d bc bs (pc + 2) ls (.int x :: st) g Q) : LW j d bc bs pc ls st g Q := by
  intro p l e R s m args below meth c H locs cells slots Z D aC ρ A H0 b lsR X hc hs hw hl ho hz
  exact lv_iload X.1 X.2.1 (lk_dec h) (hl.2.2.2 i _ hi) (k p l e R s m args below meth c H locs cells slots Z D aC ρ A H0 b lsR X hc hs hw hl (lOk_cons.mpr ⟨ho.2 i _ hi, ho⟩) hz)
theorem LW_lload_n {j d bc bs pc : Nat} {ls : List (Option Value)} {st : List Value} {g : LH} {Q : Option Value → LH → Prop} {i : Nat} {x : Int64} {n : Fin 4} (h : lk j pc = some (.lload_n n, 1)) (hni : (n : Nat) = i) (hi : ls[i]? = some (some (.long x))) (k : LW j d bc bs (pc + 1) ls (.long x :: st) g Q) : LW j d bc bs pc ls st g Q := by
  intro p l e R s m args below meth c H locs cells slots Z D aC ρ A H0 b lsR X hc hs hw hl ho hz
  exact lv_lload_n X.1 X.2.1 (lk_dec h) hni (hl.2.2.2 i _ hi) (k p l e R s m args below meth c H locs cells slots Z D aC ρ A H0 b lsR X hc hs hw hl (lOk_cons.mpr ⟨ho.2 i _ hi, ho⟩) hz)
theorem LW_lload {j d bc bs pc : Nat} {ls : List (Option Value)} {st : List Value} {g : LH} {Q : Option Value → LH → Prop} {i : Nat} {x : Int64} (h : lk j pc = some (.lload i, 2)) (hi : ls[i]? = some (some (.long x))) (k : LW j d bc bs (pc + 2) ls (.long x :: st) g Q) : LW j d bc bs pc ls st g Q := by
  intro p l e R s m args below meth c H locs cells slots Z D aC ρ A H0 b lsR X hc hs hw hl ho hz
  exact lv_lload X.1 X.2.1 (lk_dec h) (hl.2.2.2 i _ hi) (k p l e R s m args below meth c H locs cells slots Z D aC ρ A H0 b lsR X hc hs hw hl (lOk_cons.mpr ⟨ho.2 i _ hi, ho⟩) hz)
theorem LW_aload_n {j d bc bs pc : Nat} {ls : List (Option Value)} {st : List Value} {g : LH} {Q : Option Value → LH → Prop} {i : Nat} {x : Nat} {n : Fin 4} (h : lk j pc = some (.aload_n n, 1)) (hni : (n : Nat) = i) (hi : ls[i]? = some (some (.ref x))) (k : LW j d bc bs (pc + 1) ls (.ref x :: st) g Q) : LW j d bc bs pc ls st g Q := by
  intro p l e R s m args below meth c H locs cells slots Z D aC ρ A H0 b lsR X hc hs hw hl ho hz
  exact lv_aload_n X.1 X.2.1 (lk_dec h) hni (hl.2.2.2 i _ hi) (k p l e R s m args below meth c H locs cells slots Z D aC ρ A H0 b lsR X hc hs hw hl (lOk_cons.mpr ⟨ho.2 i _ hi, ho⟩) hz)
theorem LW_aload {j d bc bs pc : Nat} {ls : List (Option Value)} {st : List Value} {g : LH} {Q : Option Value → LH → Prop} {i : Nat} {x : Nat} (h : lk j pc = some (.aload i, 2)) (hi : ls[i]? = some (some (.ref x))) (k : LW j d bc bs (pc + 2) ls (.ref x :: st) g Q) : LW j d bc bs pc ls st g Q := by
  intro p l e R s m args below meth c H locs cells slots Z D aC ρ A H0 b lsR X hc hs hw hl ho hz
  exact lv_aload X.1 X.2.1 (lk_dec h) (hl.2.2.2 i _ hi) (k p l e R s m args below meth c H locs cells slots Z D aC ρ A H0 b lsR X hc hs hw hl (lOk_cons.mpr ⟨ho.2 i _ hi, ho⟩) hz)
theorem LW_aload_nN {j d bc bs pc : Nat} {ls : List (Option Value)} {st : List Value} {g : LH} {Q : Option Value → LH → Prop} {i : Nat} {n : Fin 4} (h : lk j pc = some (.aload_n n, 1)) (hni : (n : Nat) = i) (hi : ls[i]? = some (some (.null))) (k : LW j d bc bs (pc + 1) ls (.null :: st) g Q) : LW j d bc bs pc ls st g Q := by
  intro p l e R s m args below meth c H locs cells slots Z D aC ρ A H0 b lsR X hc hs hw hl ho hz
  exact lv_aload_nN X.1 X.2.1 (lk_dec h) hni (hl.2.2.2 i _ hi) (k p l e R s m args below meth c H locs cells slots Z D aC ρ A H0 b lsR X hc hs hw hl (lOk_cons.mpr ⟨ho.2 i _ hi, ho⟩) hz)
theorem LW_aloadN {j d bc bs pc : Nat} {ls : List (Option Value)} {st : List Value} {g : LH} {Q : Option Value → LH → Prop} {i : Nat}  (h : lk j pc = some (.aload i, 2)) (hi : ls[i]? = some (some (.null))) (k : LW j d bc bs (pc + 2) ls (.null :: st) g Q) : LW j d bc bs pc ls st g Q := by
  intro p l e R s m args below meth c H locs cells slots Z D aC ρ A H0 b lsR X hc hs hw hl ho hz
  exact lv_aloadN X.1 X.2.1 (lk_dec h) (hl.2.2.2 i _ hi) (k p l e R s m args below meth c H locs cells slots Z D aC ρ A H0 b lsR X hc hs hw hl (lOk_cons.mpr ⟨ho.2 i _ hi, ho⟩) hz)
theorem LW_aload_nS {j d bc bs pc : Nat} {ls : List (Option Value)} {st : List Value} {g : LH} {Q : Option Value → LH → Prop} {i : Nat} {x : Nat} {n : Fin 4} (h : lk j pc = some (.aload_n n, 1)) (hni : (n : Nat) = i) (hi : ls[i]? = some (some (.retAddr x))) (k : LW j d bc bs (pc + 1) ls (.retAddr x :: st) g Q) : LW j d bc bs pc ls st g Q := by
  intro p l e R s m args below meth c H locs cells slots Z D aC ρ A H0 b lsR X hc hs hw hl ho hz
  exact lv_aload_n X.1 X.2.1 (lk_dec h) hni (hl.2.2.2 i _ hi) (k p l e R s m args below meth c H locs cells slots Z D aC ρ A H0 b lsR X hc hs hw hl (lOk_cons.mpr ⟨ho.2 i _ hi, ho⟩) hz)
theorem LW_istore_n {j d bc bs pc : Nat} {ls : List (Option Value)} {st : List Value} {g : LH} {Q : Option Value → LH → Prop} {i : Nat} {x : Int32} {n : Fin 4} {ls' : List (Option Value)} (h : lk j pc = some (.istore_n n, 1)) (hni : (n : Nat) = i) (hlt : i < ls.length) (he : st1 ls i (.int x) = ls') (k : LW j d bc bs (pc + 1) ls' st g Q) : LW j d bc bs pc ls (.int x :: st) g Q := by
  subst he
  intro p l e R s m args below meth c H locs cells slots Z D aC ρ A H0 b lsR X hc hs hw hl ho hz
  exact lv_istore_n X.1 X.2.1 (lk_dec h) hni hl.has (by rw [← hl.2.2.1]; exact hlt) rfl (fun ls' h' => k p l e R s m args below meth c H locs cells slots Z D aC ρ A H0 b ls' X hc hs hw (lR.set1 hl.2.2.1 h') (lOk_st1 ho) hz)
theorem LW_istore {j d bc bs pc : Nat} {ls : List (Option Value)} {st : List Value} {g : LH} {Q : Option Value → LH → Prop} {i : Nat} {x : Int32} {ls' : List (Option Value)} (h : lk j pc = some (.istore i, 2)) (hlt : i < ls.length) (he : st1 ls i (.int x) = ls') (k : LW j d bc bs (pc + 2) ls' st g Q) : LW j d bc bs pc ls (.int x :: st) g Q := by
  subst he
  intro p l e R s m args below meth c H locs cells slots Z D aC ρ A H0 b lsR X hc hs hw hl ho hz
  exact lv_istore X.1 X.2.1 (lk_dec h) hl.has (by rw [← hl.2.2.1]; exact hlt) rfl (fun ls' h' => k p l e R s m args below meth c H locs cells slots Z D aC ρ A H0 b ls' X hc hs hw (lR.set1 hl.2.2.1 h') (lOk_st1 ho) hz)
theorem LW_lstore_n {j d bc bs pc : Nat} {ls : List (Option Value)} {st : List Value} {g : LH} {Q : Option Value → LH → Prop} {i : Nat} {x : Int64} {n : Fin 4} {ls' : List (Option Value)} (h : lk j pc = some (.lstore_n n, 1)) (hni : (n : Nat) = i) (hlt : i + 1 < ls.length) (he : st2 ls i (.long x) = ls') (k : LW j d bc bs (pc + 1) ls' st g Q) : LW j d bc bs pc ls (.long x :: st) g Q := by
  subst he
  intro p l e R s m args below meth c H locs cells slots Z D aC ρ A H0 b lsR X hc hs hw hl ho hz
  exact lv_lstore_n X.1 X.2.1 (lk_dec h) hni hl.has (by rw [← hl.2.2.1]; exact hlt) rfl (fun ls' h' => k p l e R s m args below meth c H locs cells slots Z D aC ρ A H0 b ls' X hc hs hw (lR.set2 hl.2.2.1 h') (lOk_st2 ho) hz)
theorem LW_lstore {j d bc bs pc : Nat} {ls : List (Option Value)} {st : List Value} {g : LH} {Q : Option Value → LH → Prop} {i : Nat} {x : Int64} {ls' : List (Option Value)} (h : lk j pc = some (.lstore i, 2)) (hlt : i + 1 < ls.length) (he : st2 ls i (.long x) = ls') (k : LW j d bc bs (pc + 2) ls' st g Q) : LW j d bc bs pc ls (.long x :: st) g Q := by
  subst he
  intro p l e R s m args below meth c H locs cells slots Z D aC ρ A H0 b lsR X hc hs hw hl ho hz
  exact lv_lstore X.1 X.2.1 (lk_dec h) hl.has (by rw [← hl.2.2.1]; exact hlt) rfl (fun ls' h' => k p l e R s m args below meth c H locs cells slots Z D aC ρ A H0 b ls' X hc hs hw (lR.set2 hl.2.2.1 h') (lOk_st2 ho) hz)
theorem LW_astore_n {j d bc bs pc : Nat} {ls : List (Option Value)} {st : List Value} {g : LH} {Q : Option Value → LH → Prop} {i : Nat} {x : Nat} {n : Fin 4} {ls' : List (Option Value)} (h : lk j pc = some (.astore_n n, 1)) (hni : (n : Nat) = i) (hlt : i < ls.length) (he : st1 ls i (.ref x) = ls') (k : LW j d bc bs (pc + 1) ls' st g Q) : LW j d bc bs pc ls (.ref x :: st) g Q := by
  subst he
  intro p l e R s m args below meth c H locs cells slots Z D aC ρ A H0 b lsR X hc hs hw hl ho hz
  exact lv_astore_n X.1 X.2.1 (lk_dec h) hni hl.has (by rw [← hl.2.2.1]; exact hlt) rfl (fun ls' h' => k p l e R s m args below meth c H locs cells slots Z D aC ρ A H0 b ls' X hc hs hw (lR.set1 hl.2.2.1 h') (lOk_st1 ho) hz)
theorem LW_astore {j d bc bs pc : Nat} {ls : List (Option Value)} {st : List Value} {g : LH} {Q : Option Value → LH → Prop} {i : Nat} {x : Nat} {ls' : List (Option Value)} (h : lk j pc = some (.astore i, 2)) (hlt : i < ls.length) (he : st1 ls i (.ref x) = ls') (k : LW j d bc bs (pc + 2) ls' st g Q) : LW j d bc bs pc ls (.ref x :: st) g Q := by
  subst he
  intro p l e R s m args below meth c H locs cells slots Z D aC ρ A H0 b lsR X hc hs hw hl ho hz
  exact lv_astore X.1 X.2.1 (lk_dec h) hl.has (by rw [← hl.2.2.1]; exact hlt) rfl (fun ls' h' => k p l e R s m args below meth c H locs cells slots Z D aC ρ A H0 b ls' X hc hs hw (lR.set1 hl.2.2.1 h') (lOk_st1 ho) hz)
theorem LW_astore_nN {j d bc bs pc : Nat} {ls : List (Option Value)} {st : List Value} {g : LH} {Q : Option Value → LH → Prop} {i : Nat} {n : Fin 4} {ls' : List (Option Value)} (h : lk j pc = some (.astore_n n, 1)) (hni : (n : Nat) = i) (hlt : i < ls.length) (he : st1 ls i (.null) = ls') (k : LW j d bc bs (pc + 1) ls' st g Q) : LW j d bc bs pc ls (.null :: st) g Q := by
  subst he
  intro p l e R s m args below meth c H locs cells slots Z D aC ρ A H0 b lsR X hc hs hw hl ho hz
  exact lv_astore_nN X.1 X.2.1 (lk_dec h) hni hl.has (by rw [← hl.2.2.1]; exact hlt) rfl (fun ls' h' => k p l e R s m args below meth c H locs cells slots Z D aC ρ A H0 b ls' X hc hs hw (lR.set1 hl.2.2.1 h') (lOk_st1 ho) hz)
theorem LW_astoreN {j d bc bs pc : Nat} {ls : List (Option Value)} {st : List Value} {g : LH} {Q : Option Value → LH → Prop} {i : Nat}  {ls' : List (Option Value)} (h : lk j pc = some (.astore i, 2)) (hlt : i < ls.length) (he : st1 ls i (.null) = ls') (k : LW j d bc bs (pc + 2) ls' st g Q) : LW j d bc bs pc ls (.null :: st) g Q := by
  subst he
  intro p l e R s m args below meth c H locs cells slots Z D aC ρ A H0 b lsR X hc hs hw hl ho hz
  exact lv_astoreN X.1 X.2.1 (lk_dec h) hl.has (by rw [← hl.2.2.1]; exact hlt) rfl (fun ls' h' => k p l e R s m args below meth c H locs cells slots Z D aC ρ A H0 b ls' X hc hs hw (lR.set1 hl.2.2.1 h') (lOk_st1 ho) hz)
theorem LW_iinc {j d bc bs pc : Nat} {ls : List (Option Value)} {st : List Value} {g : LH} {Q : Option Value → LH → Prop} {i : Nat} {n : Int} {x v : Int32} {ls' : List (Option Value)} (h : lk j pc = some (.iinc i n, 3)) (hi : ls[i]? = some (some (.int x))) (hv : x + Int32.ofInt n = v) (he : st1 ls i (.int v) = ls') (k : LW j d bc bs (pc + 3) ls' st g Q) : LW j d bc bs pc ls st g Q := by
  subst he
  intro p l e R s m args below meth c H locs cells slots Z D aC ρ A H0 b lsR X hc hs hw hl ho hz
  have hlt : i < mL j := by rw [← hl.2.2.1]; exact (List.getElem?_eq_some_iff.mp hi).1
  have hm : (i, Value.int x) ∈ lvl ρ b ls := lvl_mem.mpr ⟨.int x, hi, rfl⟩
  obtain ⟨k0, hk0⟩ := List.getElem?_of_mem hm
  exact lv_iinc X.1 X.2.1 (lk_dec h) hl.has hk0 hv hlt rfl (fun ls' h' => k p l e R s m args below meth c H locs cells slots Z D aC ρ A H0 b ls' X hc hs hw (lR.set1 (v := .int v) hl.2.2.1 h') (lOk_st1 (v := .int v) (lOk_cons.mpr ⟨trivial, ho⟩)) hz)
theorem LW_iincW {j d bc bs pc : Nat} {ls : List (Option Value)} {st : List Value} {g : LH} {Q : Option Value → LH → Prop} {i : Nat} {n : Int} {x v : Int32} {ls' : List (Option Value)} (h : lk j pc = some (.iinc i n, 6)) (hi : ls[i]? = some (some (.int x))) (hv : x + Int32.ofInt n = v) (he : st1 ls i (.int v) = ls') (k : LW j d bc bs (pc + 6) ls' st g Q) : LW j d bc bs pc ls st g Q := by
  subst he
  intro p l e R s m args below meth c H locs cells slots Z D aC ρ A H0 b lsR X hc hs hw hl ho hz
  have hlt : i < mL j := by rw [← hl.2.2.1]; exact (List.getElem?_eq_some_iff.mp hi).1
  have hm : (i, Value.int x) ∈ lvl ρ b ls := lvl_mem.mpr ⟨.int x, hi, rfl⟩
  obtain ⟨k0, hk0⟩ := List.getElem?_of_mem hm
  exact lv_iincW X.1 X.2.1 (lk_dec h) hl.has hk0 hv hlt rfl (fun ls' h' => k p l e R s m args below meth c H locs cells slots Z D aC ρ A H0 b ls' X hc hs hw (lR.set1 (v := .int v) hl.2.2.1 h') (lOk_st1 (v := .int v) (lOk_cons.mpr ⟨trivial, ho⟩)) hz)
theorem LW_if_eq {j d bc bs pc : Nat} {ls : List (Option Value)} {st : List Value} {g : LH} {Q : Option Value → LH → Prop} {x : Int32} {off : Int} {tgt : Nat} (h : lk j pc = some (.ifCond .eq off, 3)) (ht : (pc : Int) + off = (tgt : Int)) (kt : x = 0 → LW j d bc bs tgt ls st g Q) (kf : ¬ x = 0 → LW j d bc bs (pc + 3) ls st g Q) : LW j d bc bs pc ls (.int x :: st) g Q := by
  intro p l e R s m args below meth c H locs cells slots Z D aC ρ A H0 b lsR X hc hs hw hl ho hz
  exact lv_if_eq X.1 X.2.1 (lk_dec h) ht (fun q => kt q p l e R s m args below meth c H locs cells slots Z D aC ρ A H0 b lsR X hc hs hw hl (by simp_all [lOk_cons, okV]) hz) (fun q => kf q p l e R s m args below meth c H locs cells slots Z D aC ρ A H0 b lsR X hc hs hw hl (by simp_all [lOk_cons, okV]) hz)
theorem LW_if_ne {j d bc bs pc : Nat} {ls : List (Option Value)} {st : List Value} {g : LH} {Q : Option Value → LH → Prop} {x : Int32} {off : Int} {tgt : Nat} (h : lk j pc = some (.ifCond .ne off, 3)) (ht : (pc : Int) + off = (tgt : Int)) (kt : ¬ x = 0 → LW j d bc bs tgt ls st g Q) (kf : x = 0 → LW j d bc bs (pc + 3) ls st g Q) : LW j d bc bs pc ls (.int x :: st) g Q := by
  intro p l e R s m args below meth c H locs cells slots Z D aC ρ A H0 b lsR X hc hs hw hl ho hz
  exact lv_if_ne X.1 X.2.1 (lk_dec h) ht (fun q => kt q p l e R s m args below meth c H locs cells slots Z D aC ρ A H0 b lsR X hc hs hw hl (by simp_all [lOk_cons, okV]) hz) (fun q => kf q p l e R s m args below meth c H locs cells slots Z D aC ρ A H0 b lsR X hc hs hw hl (by simp_all [lOk_cons, okV]) hz)
theorem LW_if_lt {j d bc bs pc : Nat} {ls : List (Option Value)} {st : List Value} {g : LH} {Q : Option Value → LH → Prop} {x : Int32} {off : Int} {tgt : Nat} (h : lk j pc = some (.ifCond .lt off, 3)) (ht : (pc : Int) + off = (tgt : Int)) (kt : x < 0 → LW j d bc bs tgt ls st g Q) (kf : ¬ x < 0 → LW j d bc bs (pc + 3) ls st g Q) : LW j d bc bs pc ls (.int x :: st) g Q := by
  intro p l e R s m args below meth c H locs cells slots Z D aC ρ A H0 b lsR X hc hs hw hl ho hz
  exact lv_if_lt X.1 X.2.1 (lk_dec h) ht (fun q => kt q p l e R s m args below meth c H locs cells slots Z D aC ρ A H0 b lsR X hc hs hw hl (by simp_all [lOk_cons, okV]) hz) (fun q => kf q p l e R s m args below meth c H locs cells slots Z D aC ρ A H0 b lsR X hc hs hw hl (by simp_all [lOk_cons, okV]) hz)
theorem LW_if_ge {j d bc bs pc : Nat} {ls : List (Option Value)} {st : List Value} {g : LH} {Q : Option Value → LH → Prop} {x : Int32} {off : Int} {tgt : Nat} (h : lk j pc = some (.ifCond .ge off, 3)) (ht : (pc : Int) + off = (tgt : Int)) (kt : 0 ≤ x → LW j d bc bs tgt ls st g Q) (kf : ¬ 0 ≤ x → LW j d bc bs (pc + 3) ls st g Q) : LW j d bc bs pc ls (.int x :: st) g Q := by
  intro p l e R s m args below meth c H locs cells slots Z D aC ρ A H0 b lsR X hc hs hw hl ho hz
  exact lv_if_ge X.1 X.2.1 (lk_dec h) ht (fun q => kt q p l e R s m args below meth c H locs cells slots Z D aC ρ A H0 b lsR X hc hs hw hl (by simp_all [lOk_cons, okV]) hz) (fun q => kf q p l e R s m args below meth c H locs cells slots Z D aC ρ A H0 b lsR X hc hs hw hl (by simp_all [lOk_cons, okV]) hz)
theorem LW_if_gt {j d bc bs pc : Nat} {ls : List (Option Value)} {st : List Value} {g : LH} {Q : Option Value → LH → Prop} {x : Int32} {off : Int} {tgt : Nat} (h : lk j pc = some (.ifCond .gt off, 3)) (ht : (pc : Int) + off = (tgt : Int)) (kt : 0 < x → LW j d bc bs tgt ls st g Q) (kf : ¬ 0 < x → LW j d bc bs (pc + 3) ls st g Q) : LW j d bc bs pc ls (.int x :: st) g Q := by
  intro p l e R s m args below meth c H locs cells slots Z D aC ρ A H0 b lsR X hc hs hw hl ho hz
  exact lv_if_gt X.1 X.2.1 (lk_dec h) ht (fun q => kt q p l e R s m args below meth c H locs cells slots Z D aC ρ A H0 b lsR X hc hs hw hl (by simp_all [lOk_cons, okV]) hz) (fun q => kf q p l e R s m args below meth c H locs cells slots Z D aC ρ A H0 b lsR X hc hs hw hl (by simp_all [lOk_cons, okV]) hz)
theorem LW_if_le {j d bc bs pc : Nat} {ls : List (Option Value)} {st : List Value} {g : LH} {Q : Option Value → LH → Prop} {x : Int32} {off : Int} {tgt : Nat} (h : lk j pc = some (.ifCond .le off, 3)) (ht : (pc : Int) + off = (tgt : Int)) (kt : x ≤ 0 → LW j d bc bs tgt ls st g Q) (kf : ¬ x ≤ 0 → LW j d bc bs (pc + 3) ls st g Q) : LW j d bc bs pc ls (.int x :: st) g Q := by
  intro p l e R s m args below meth c H locs cells slots Z D aC ρ A H0 b lsR X hc hs hw hl ho hz
  exact lv_if_le X.1 X.2.1 (lk_dec h) ht (fun q => kt q p l e R s m args below meth c H locs cells slots Z D aC ρ A H0 b lsR X hc hs hw hl (by simp_all [lOk_cons, okV]) hz) (fun q => kf q p l e R s m args below meth c H locs cells slots Z D aC ρ A H0 b lsR X hc hs hw hl (by simp_all [lOk_cons, okV]) hz)
theorem LW_icmp_eq {j d bc bs pc : Nat} {ls : List (Option Value)} {st : List Value} {g : LH} {Q : Option Value → LH → Prop} {x y : Int32} {off : Int} {tgt : Nat} (h : lk j pc = some (.if_icmp .eq off, 3)) (ht : (pc : Int) + off = (tgt : Int)) (kt : x = y → LW j d bc bs tgt ls st g Q) (kf : ¬ x = y → LW j d bc bs (pc + 3) ls st g Q) : LW j d bc bs pc ls (.int y :: .int x :: st) g Q := by
  intro p l e R s m args below meth c H locs cells slots Z D aC ρ A H0 b lsR X hc hs hw hl ho hz
  exact lv_icmp_eq X.1 X.2.1 (lk_dec h) ht (fun q => kt q p l e R s m args below meth c H locs cells slots Z D aC ρ A H0 b lsR X hc hs hw hl (by simp_all [lOk_cons, okV]) hz) (fun q => kf q p l e R s m args below meth c H locs cells slots Z D aC ρ A H0 b lsR X hc hs hw hl (by simp_all [lOk_cons, okV]) hz)
theorem LW_icmp_ne {j d bc bs pc : Nat} {ls : List (Option Value)} {st : List Value} {g : LH} {Q : Option Value → LH → Prop} {x y : Int32} {off : Int} {tgt : Nat} (h : lk j pc = some (.if_icmp .ne off, 3)) (ht : (pc : Int) + off = (tgt : Int)) (kt : ¬ x = y → LW j d bc bs tgt ls st g Q) (kf : x = y → LW j d bc bs (pc + 3) ls st g Q) : LW j d bc bs pc ls (.int y :: .int x :: st) g Q := by
  intro p l e R s m args below meth c H locs cells slots Z D aC ρ A H0 b lsR X hc hs hw hl ho hz
  exact lv_icmp_ne X.1 X.2.1 (lk_dec h) ht (fun q => kt q p l e R s m args below meth c H locs cells slots Z D aC ρ A H0 b lsR X hc hs hw hl (by simp_all [lOk_cons, okV]) hz) (fun q => kf q p l e R s m args below meth c H locs cells slots Z D aC ρ A H0 b lsR X hc hs hw hl (by simp_all [lOk_cons, okV]) hz)
theorem LW_icmp_lt {j d bc bs pc : Nat} {ls : List (Option Value)} {st : List Value} {g : LH} {Q : Option Value → LH → Prop} {x y : Int32} {off : Int} {tgt : Nat} (h : lk j pc = some (.if_icmp .lt off, 3)) (ht : (pc : Int) + off = (tgt : Int)) (kt : x < y → LW j d bc bs tgt ls st g Q) (kf : ¬ x < y → LW j d bc bs (pc + 3) ls st g Q) : LW j d bc bs pc ls (.int y :: .int x :: st) g Q := by
  intro p l e R s m args below meth c H locs cells slots Z D aC ρ A H0 b lsR X hc hs hw hl ho hz
  exact lv_icmp_lt X.1 X.2.1 (lk_dec h) ht (fun q => kt q p l e R s m args below meth c H locs cells slots Z D aC ρ A H0 b lsR X hc hs hw hl (by simp_all [lOk_cons, okV]) hz) (fun q => kf q p l e R s m args below meth c H locs cells slots Z D aC ρ A H0 b lsR X hc hs hw hl (by simp_all [lOk_cons, okV]) hz)
theorem LW_icmp_ge {j d bc bs pc : Nat} {ls : List (Option Value)} {st : List Value} {g : LH} {Q : Option Value → LH → Prop} {x y : Int32} {off : Int} {tgt : Nat} (h : lk j pc = some (.if_icmp .ge off, 3)) (ht : (pc : Int) + off = (tgt : Int)) (kt : y ≤ x → LW j d bc bs tgt ls st g Q) (kf : ¬ y ≤ x → LW j d bc bs (pc + 3) ls st g Q) : LW j d bc bs pc ls (.int y :: .int x :: st) g Q := by
  intro p l e R s m args below meth c H locs cells slots Z D aC ρ A H0 b lsR X hc hs hw hl ho hz
  exact lv_icmp_ge X.1 X.2.1 (lk_dec h) ht (fun q => kt q p l e R s m args below meth c H locs cells slots Z D aC ρ A H0 b lsR X hc hs hw hl (by simp_all [lOk_cons, okV]) hz) (fun q => kf q p l e R s m args below meth c H locs cells slots Z D aC ρ A H0 b lsR X hc hs hw hl (by simp_all [lOk_cons, okV]) hz)
theorem LW_icmp_gt {j d bc bs pc : Nat} {ls : List (Option Value)} {st : List Value} {g : LH} {Q : Option Value → LH → Prop} {x y : Int32} {off : Int} {tgt : Nat} (h : lk j pc = some (.if_icmp .gt off, 3)) (ht : (pc : Int) + off = (tgt : Int)) (kt : y < x → LW j d bc bs tgt ls st g Q) (kf : ¬ y < x → LW j d bc bs (pc + 3) ls st g Q) : LW j d bc bs pc ls (.int y :: .int x :: st) g Q := by
  intro p l e R s m args below meth c H locs cells slots Z D aC ρ A H0 b lsR X hc hs hw hl ho hz
  exact lv_icmp_gt X.1 X.2.1 (lk_dec h) ht (fun q => kt q p l e R s m args below meth c H locs cells slots Z D aC ρ A H0 b lsR X hc hs hw hl (by simp_all [lOk_cons, okV]) hz) (fun q => kf q p l e R s m args below meth c H locs cells slots Z D aC ρ A H0 b lsR X hc hs hw hl (by simp_all [lOk_cons, okV]) hz)
theorem LW_icmp_le {j d bc bs pc : Nat} {ls : List (Option Value)} {st : List Value} {g : LH} {Q : Option Value → LH → Prop} {x y : Int32} {off : Int} {tgt : Nat} (h : lk j pc = some (.if_icmp .le off, 3)) (ht : (pc : Int) + off = (tgt : Int)) (kt : x ≤ y → LW j d bc bs tgt ls st g Q) (kf : ¬ x ≤ y → LW j d bc bs (pc + 3) ls st g Q) : LW j d bc bs pc ls (.int y :: .int x :: st) g Q := by
  intro p l e R s m args below meth c H locs cells slots Z D aC ρ A H0 b lsR X hc hs hw hl ho hz
  exact lv_icmp_le X.1 X.2.1 (lk_dec h) ht (fun q => kt q p l e R s m args below meth c H locs cells slots Z D aC ρ A H0 b lsR X hc hs hw hl (by simp_all [lOk_cons, okV]) hz) (fun q => kf q p l e R s m args below meth c H locs cells slots Z D aC ρ A H0 b lsR X hc hs hw hl (by simp_all [lOk_cons, okV]) hz)
theorem LW_goto {j d bc bs pc : Nat} {ls : List (Option Value)} {st : List Value} {g : LH} {Q : Option Value → LH → Prop} {off : Int} {tgt : Nat} (h : lk j pc = some (.goto off, 3)) (ht : (pc : Int) + off = (tgt : Int)) (k : LW j d bc bs tgt ls st g Q) : LW j d bc bs pc ls st g Q := by
  intro p l e R s m args below meth c H locs cells slots Z D aC ρ A H0 b lsR X hc hs hw hl ho hz
  exact lv_goto X.1 X.2.1 (lk_dec h) ht (k p l e R s m args below meth c H locs cells slots Z D aC ρ A H0 b lsR X hc hs hw hl ho hz)
theorem LW_ifnonnull {j d bc bs pc : Nat} {ls : List (Option Value)} {st : List Value} {g : LH} {Q : Option Value → LH → Prop} {x : Nat} {off : Int} {tgt : Nat} (h : lk j pc = some (.ifnonnull off, 3)) (ht : (pc : Int) + off = (tgt : Int)) (k : LW j d bc bs tgt ls st g Q) : LW j d bc bs pc ls (.ref x :: st) g Q := by
  intro p l e R s m args below meth c H locs cells slots Z D aC ρ A H0 b lsR X hc hs hw hl ho hz
  exact lv_ifnonnull X.1 X.2.1 (lk_dec h) ht (k p l e R s m args below meth c H locs cells slots Z D aC ρ A H0 b lsR X hc hs hw hl (by simp_all [lOk_cons, okV]) hz)
theorem LW_ifnonnullN {j d bc bs pc : Nat} {ls : List (Option Value)} {st : List Value} {g : LH} {Q : Option Value → LH → Prop}  {off : Int} {tgt : Nat} (h : lk j pc = some (.ifnonnull off, 3)) (ht : (pc : Int) + off = (tgt : Int)) (k : LW j d bc bs (pc + 3) ls st g Q) : LW j d bc bs pc ls (.null :: st) g Q := by
  intro p l e R s m args below meth c H locs cells slots Z D aC ρ A H0 b lsR X hc hs hw hl ho hz
  exact lv_ifnonnullN X.1 X.2.1 (lk_dec h) (k p l e R s m args below meth c H locs cells slots Z D aC ρ A H0 b lsR X hc hs hw hl (by simp_all [lOk_cons, okV]) hz)
theorem LW_ifnull {j d bc bs pc : Nat} {ls : List (Option Value)} {st : List Value} {g : LH} {Q : Option Value → LH → Prop} {x : Nat} {off : Int} {tgt : Nat} (h : lk j pc = some (.ifnull off, 3)) (ht : (pc : Int) + off = (tgt : Int)) (k : LW j d bc bs (pc + 3) ls st g Q) : LW j d bc bs pc ls (.ref x :: st) g Q := by
  intro p l e R s m args below meth c H locs cells slots Z D aC ρ A H0 b lsR X hc hs hw hl ho hz
  exact lv_ifnull X.1 X.2.1 (lk_dec h) (k p l e R s m args below meth c H locs cells slots Z D aC ρ A H0 b lsR X hc hs hw hl (by simp_all [lOk_cons, okV]) hz)
theorem LW_ifnullN {j d bc bs pc : Nat} {ls : List (Option Value)} {st : List Value} {g : LH} {Q : Option Value → LH → Prop}  {off : Int} {tgt : Nat} (h : lk j pc = some (.ifnull off, 3)) (ht : (pc : Int) + off = (tgt : Int)) (k : LW j d bc bs tgt ls st g Q) : LW j d bc bs pc ls (.null :: st) g Q := by
  intro p l e R s m args below meth c H locs cells slots Z D aC ρ A H0 b lsR X hc hs hw hl ho hz
  exact lv_ifnullN X.1 X.2.1 (lk_dec h) ht (k p l e R s m args below meth c H locs cells slots Z D aC ρ A H0 b lsR X hc hs hw hl (by simp_all [lOk_cons, okV]) hz)
theorem LW_tableIn {j d bc bs pc : Nat} {ls : List (Option Value)} {st : List Value} {g : LH} {Q : Option Value → LH → Prop} {dflt lo hi : Int} {offs : Array Int} {len : Nat} {x : Int32} {off : Int} {tgt : Nat} (h : lk j pc = some (.tableswitch dflt lo hi offs, len)) (h1 : ¬ x.toInt < lo) (h2 : ¬ hi < x.toInt) (hoff : offs[(x.toInt - lo).toNat]? = some off) (ht : (pc : Int) + off = (tgt : Int)) (k : LW j d bc bs tgt ls st g Q) : LW j d bc bs pc ls (.int x :: st) g Q := by
  intro p l e R s m args below meth c H locs cells slots Z D aC ρ A H0 b lsR X hc hs hw hl ho hz
  exact lv_tableIn X.1 X.2.1 (lk_dec h) h1 h2 hoff ht (k p l e R s m args below meth c H locs cells slots Z D aC ρ A H0 b lsR X hc hs hw hl (lOk_cons.mp ho).2 hz)
theorem LW_tableOut {j d bc bs pc : Nat} {ls : List (Option Value)} {st : List Value} {g : LH} {Q : Option Value → LH → Prop} {dflt lo hi : Int} {offs : Array Int} {len : Nat} {x : Int32} {tgt : Nat} (h : lk j pc = some (.tableswitch dflt lo hi offs, len)) (h1 : x.toInt < lo ∨ hi < x.toInt) (ht : (pc : Int) + dflt = (tgt : Int)) (k : LW j d bc bs tgt ls st g Q) : LW j d bc bs pc ls (.int x :: st) g Q := by
  intro p l e R s m args below meth c H locs cells slots Z D aC ρ A H0 b lsR X hc hs hw hl ho hz
  exact lv_tableOut X.1 X.2.1 (lk_dec h) h1 ht (k p l e R s m args below meth c H locs cells slots Z D aC ρ A H0 b lsR X hc hs hw hl (lOk_cons.mp ho).2 hz)
theorem LW_lookup {j d bc bs pc : Nat} {ls : List (Option Value)} {st : List Value} {g : LH} {Q : Option Value → LH → Prop} {dflt : Int} {ps : Array (Int × Int)} {len : Nat} {x : Int32} {off : Int} {tgt : Nat} (h : lk j pc = some (.lookupswitch dflt ps, len)) (hp : (ps.toList.zip (ps.toList.drop 1)).all (fun (a, next) => a.1 < next.1) = true) (hoff : Op.lookupswitch.offset ps.toList dflt x.toInt = off) (ht : (pc : Int) + off = (tgt : Int)) (k : LW j d bc bs tgt ls st g Q) : LW j d bc bs pc ls (.int x :: st) g Q := by
  intro p l e R s m args below meth c H locs cells slots Z D aC ρ A H0 b lsR X hc hs hw hl ho hz
  exact lv_lookup X.1 X.2.1 (lk_dec h) hp hoff ht (k p l e R s m args below meth c H locs cells slots Z D aC ρ A H0 b lsR X hc hs hw hl (lOk_cons.mp ho).2 hz)
theorem LW_return {j d bc bs pc : Nat} {ls : List (Option Value)} {st : List Value} {g : LH} {Q : Option Value → LH → Prop}  (h : lk j pc = some (.return_, 1)) (hr : mR j = none) (k : Q (none) g) : LW j d bc bs pc ls ([]) g Q := by
  intro p l e R s m args below meth c H locs cells slots Z D aC ρ A H0 b lsR X hc hs hw hl ho hz
  exact hz (none) g ρ H locs cells slots pc lsR k (fun _ _ => rfl) (Nat.le_refl _) rfl hw (Nat.le_add_right _ _) (Nat.le_add_right _ _) ⟨h, hr⟩ (by simp_all [lOk_cons, okV])
theorem LW_ireturn {j d bc bs pc : Nat} {ls : List (Option Value)} {st : List Value} {g : LH} {Q : Option Value → LH → Prop} {x : Int32} (h : lk j pc = some (.ireturn, 1)) {ty : FieldType} (hr : mR j = some ty) (hn : narrow ty (.int x) = .int x) (k : Q (some (.int x)) g) : LW j d bc bs pc ls ([.int x]) g Q := by
  intro p l e R s m args below meth c H locs cells slots Z D aC ρ A H0 b lsR X hc hs hw hl ho hz
  exact hz (some (.int x)) g ρ H locs cells slots pc lsR k (fun _ _ => rfl) (Nat.le_refl _) rfl hw (Nat.le_add_right _ _) (Nat.le_add_right _ _) ⟨h, _, hr, hn⟩ (by simp_all [lOk_cons, okV])
theorem LW_lreturn {j d bc bs pc : Nat} {ls : List (Option Value)} {st : List Value} {g : LH} {Q : Option Value → LH → Prop} {x : Int64} (h : lk j pc = some (.lreturn, 1)) (hr : mR j = some .long) (k : Q (some (.long x)) g) : LW j d bc bs pc ls ([.long x]) g Q := by
  intro p l e R s m args below meth c H locs cells slots Z D aC ρ A H0 b lsR X hc hs hw hl ho hz
  exact hz (some (.long x)) g ρ H locs cells slots pc lsR k (fun _ _ => rfl) (Nat.le_refl _) rfl hw (Nat.le_add_right _ _) (Nat.le_add_right _ _) ⟨h, hr⟩ (by simp_all [lOk_cons, okV])
theorem LW_areturn {j d bc bs pc : Nat} {ls : List (Option Value)} {st : List Value} {g : LH} {Q : Option Value → LH → Prop} {x : Nat} (h : lk j pc = some (.areturn, 1)) {rt : FieldType} (hr : mR j = some rt) (hrt : (∃ n, rt = .object n) ∨ ∃ t, rt = .array t) (k : Q (some (.ref x)) g) : LW j d bc bs pc ls ([.ref x]) g Q := by
  intro p l e R s m args below meth c H locs cells slots Z D aC ρ A H0 b lsR X hc hs hw hl ho hz
  exact hz (some (.ref x)) g ρ H locs cells slots pc lsR k (fun _ _ => rfl) (Nat.le_refl _) rfl hw (Nat.le_add_right _ _) (Nat.le_add_right _ _) ⟨h, _, hr, hrt⟩ (by simp_all [lOk_cons, okV])
theorem LW_areturnN {j d bc bs pc : Nat} {ls : List (Option Value)} {st : List Value} {g : LH} {Q : Option Value → LH → Prop}  (h : lk j pc = some (.areturn, 1)) {rt : FieldType} (hr : mR j = some rt) (hrt : (∃ n, rt = .object n) ∨ ∃ t, rt = .array t) (k : Q (some .null) g) : LW j d bc bs pc ls ([.null]) g Q := by
  intro p l e R s m args below meth c H locs cells slots Z D aC ρ A H0 b lsR X hc hs hw hl ho hz
  exact hz (some .null) g ρ H locs cells slots pc lsR k (fun _ _ => rfl) (Nat.le_refl _) rfl hw (Nat.le_add_right _ _) (Nat.le_add_right _ _) ⟨h, _, hr, hrt⟩ (by simp_all [lOk_cons, okV])
