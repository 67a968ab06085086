/-! rows: fields, arrays, new cells -/
theorem lW_at {ρ : Nat → Nat} {aC : FieldType → ClassId} {g : LH} {q : Nat} (h : q < Gn g) : (lW ρ aC g)[q]? = some (ρ q, lE ρ aC g q) := by
  unfold lW
  rw [List.getElem?_map, List.getElem?_range h]
  rfl
theorem lW_len {ρ : Nat → Nat} {aC : FieldType → ClassId} {g : LH} : (lW ρ aC g).length = Gn g := by
  unfold lW
  simp
theorem lE_obj {ρ : Nat → Nat} {aC : FieldType → ClassId} {g : LH} {q ci : Nat} (h : Gs g q = .inl ci) : lE ρ aC g q = .inr (ci, (List.range (nF ci)).map fun k => lV ρ g (tyA ci k) q k) := by
  unfold lE
  rw [h]
theorem lE_arr {ρ : Nat → Nat} {aC : FieldType → ClassId} {g : LH} {q n : Nat} {ty : FieldType} (h : Gs g q = .inr (ty, n)) : lE ρ aC g q = .inl (aC ty, n, lA ρ g ty q) := by
  unfold lE
  rw [h]
theorem lE_congr {ρ ρ' : Nat → Nat} {aC : FieldType → ClassId} {g g' : LH} {q : Nat} (h1 : Gs g' q = Gs g q) (h2 : Gi g' q = Gi g q) (h3 : Gj g' q = Gj g q) (h4 : ∀ k, (Gr g' q k).map ρ' = (Gr g q k).map ρ) : lE ρ' aC g' q = lE ρ aC g q := by
  unfold lE
  rw [h1]
  cases Gs g q with
  | inl ci =>
    show Sum.inr _ = Sum.inr _
    congr 2
    apply List.map_congr_left
    intro k _
    unfold lV
    rw [h2, h3, h4 k]
  | inr a =>
    obtain ⟨ty, n⟩ := a
    show Sum.inl _ = Sum.inl _
    unfold lA
    rw [h2, h3, funext h4]
theorem lW_upd {ρ : Nat → Nat} {aC : FieldType → ClassId} {g g' : LH} {q : Nat} (hn : Gn g' = Gn g) (hne : ∀ i, i ≠ q → lE ρ aC g' i = lE ρ aC g i) : lW ρ aC g' = (lW ρ aC g).set q (ρ q, lE ρ aC g' q) := by
  apply List.ext_getElem?
  intro i
  by_cases hi : i < Gn g
  · rw [lW_at (by rw [hn]; exact hi), List.getElem?_set, lW_len, lW_at hi]
    by_cases hq : q = i
    · subst hq
      rw [if_pos rfl, if_pos hi]
    · rw [if_neg hq, hne i (fun e => hq e.symm)]
  · rw [List.getElem?_eq_none (by rw [lW_len]; omega), List.getElem?_eq_none (by rw [List.length_set, lW_len]; omega)]
/-- the value of a field, small -/
def lvV (g : LH) (ty : FieldType) (q k : Nat) : Value := match kd ty with
  | 0 => .int (Gi g q k)
  | 1 => .long (Gj g q k)
  | _ => va_rf (Gr g q k)
theorem cv_rf (ρ : Nat → Nat) (b : Nat → Nat) (r : Option Nat) : cv ρ b (va_rf r) = va_rf (r.map ρ) := by cases r <;> rfl
theorem cv_lvV (ρ : Nat → Nat) (b : Nat → Nat) (g : LH) (ty : FieldType) (q k : Nat) : cv ρ b (lvV g ty q k) = lV ρ g ty q k := by
  unfold lvV lV
  generalize kd ty = z
  match z with
  | 0 => rfl
  | 1 => rfl
  | n + 2 => exact cv_rf _ _ _
theorem okV_rf {n : Nat} {r : Option Nat} (h : ∀ a, r = some a → a < n) : okV n (va_rf r) := by
  cases r with
  | none => trivial
  | some a => exact h a rfl
theorem okV_lvV {g : LH} {ty : FieldType} {q k : Nat} (h : ∀ q i a, Gr g q i = some a → a < Gn g) : okV (Gn g) (lvV g ty q k) := by
  unfold lvV
  split
  · trivial
  · trivial
  · exact okV_rf (fun a => h q k a)
theorem LW_getV {j d bc bs pc : Nat} {ls : List (Option Value)} {st : List Value} {g : LH} {Q : Option Value → LH → Prop} {idx ci k q : Nat} (h : lk j pc = some (.getfield idx, 3)) (hf : fres j idx = some (ci, k)) (hsh : Gs g q = .inl ci) (kk : LW j d bc bs (pc + 3) ls (lvV g (tyA ci k) q k :: st) g Q) : LW j d bc bs pc ls (.ref q :: st) g Q := by
  intro p l e R s m args below meth c H locs cells slots Z D aC ρ A H0 b lsR X hc hs hw hl ho hz
  obtain ⟨hK, hP, hD, hS, hA, hwf, hsx, hst⟩ := id hw
  obtain ⟨C, T, N, hcl, hkN, hlink⟩ := fres_ok hf
  obtain ⟨hN, hC, hty, hnm, hin, -, -⟩ := clOK hcl
  have hq : q < Gn g := (lOk_cons.mp ho).1
  have hts := X.2.2.2.2.2.2.1
  have he : (lW ρ aC g)[q]? = some (ρ q, .inr (ci, (List.range (nF ci)).map fun k => lV ρ g (tyA ci k) q k)) := by rw [lW_at hq, lE_obj hsh]
  have kk1 := kk p l e R s m args below meth c H locs cells slots Z D aC ρ A H0 b lsR X hc hs hw hl (lOk_cons.mpr ⟨okV_lvV hwf, (lOk_cons.mp ho).2⟩) hz
  rw [List.map_cons, cv_lvV] at kk1
  exact va_get (ref := (T k).1) X.1 X.2.1 hts hin X.2.2.2.2.2.1 hK hP q he hcl k hkN (hts _ hlink) (fun _ h => h) (by rw [List.getElem?_map, List.getElem?_range (by omega)]; rfl) (lk_dec h) kk1
theorem LW_getI {j d bc bs pc : Nat} {ls : List (Option Value)} {st : List Value} {g : LH} {Q : Option Value → LH → Prop} {idx ci k q : Nat} (h : lk j pc = some (.getfield idx, 3)) (hf : fres j idx = some (ci, k)) (hsh : Gs g q = .inl ci) (hk : kd (tyA ci k) = 0) (kk : LW j d bc bs (pc + 3) ls (.int (Gi g q k) :: st) g Q) : LW j d bc bs pc ls (.ref q :: st) g Q :=
  LW_getV h hf hsh (by unfold lvV; rw [hk]; exact kk)
theorem LW_getJ {j d bc bs pc : Nat} {ls : List (Option Value)} {st : List Value} {g : LH} {Q : Option Value → LH → Prop} {idx ci k q : Nat} (h : lk j pc = some (.getfield idx, 3)) (hf : fres j idx = some (ci, k)) (hsh : Gs g q = .inl ci) (hk : kd (tyA ci k) = 1) (kk : LW j d bc bs (pc + 3) ls (.long (Gj g q k) :: st) g Q) : LW j d bc bs pc ls (.ref q :: st) g Q :=
  LW_getV h hf hsh (by unfold lvV; rw [hk]; exact kk)
theorem LW_getR {j d bc bs pc : Nat} {ls : List (Option Value)} {st : List Value} {g : LH} {Q : Option Value → LH → Prop} {idx ci k q a : Nat} (h : lk j pc = some (.getfield idx, 3)) (hf : fres j idx = some (ci, k)) (hsh : Gs g q = .inl ci) (hk : kd (tyA ci k) = 2) (hr : Gr g q k = some a) (kk : LW j d bc bs (pc + 3) ls (.ref a :: st) g Q) : LW j d bc bs pc ls (.ref q :: st) g Q :=
  LW_getV h hf hsh (by unfold lvV; rw [hk, hr]; exact kk)
theorem LW_getN {j d bc bs pc : Nat} {ls : List (Option Value)} {st : List Value} {g : LH} {Q : Option Value → LH → Prop} {idx ci k q : Nat} (h : lk j pc = some (.getfield idx, 3)) (hf : fres j idx = some (ci, k)) (hsh : Gs g q = .inl ci) (hk : kd (tyA ci k) = 2) (hr : Gr g q k = none) (kk : LW j d bc bs (pc + 3) ls (.null :: st) g Q) : LW j d bc bs pc ls (.ref q :: st) g Q :=
  LW_getV h hf hsh (by unfold lvV; rw [hk, hr]; exact kk)
-- changes of one cell
def putI (g : LH) (q k : Nat) (x : Int32) : LH := (Gn g, Gs g, va_up (Gi g) q (upd (Gi g q) k x), Gj g, Gr g, Gx g)
def putJ (g : LH) (q k : Nat) (x : Int64) : LH := (Gn g, Gs g, Gi g, va_up (Gj g) q (vp_updL (Gj g q) k x), Gr g, Gx g)
def putR (g : LH) (q k : Nat) (x : Option Nat) : LH := (Gn g, Gs g, Gi g, Gj g, va_up (Gr g) q (va_up (Gr g q) k x), Gx g)
def lFin (ci k : Nat) : Bool := match vwCl[ci]? with
  | some q => (q.2.1 k).2.2.2
  | none => false
def lDecl (ci k : Nat) : String := match vwCl[ci]? with
  | some q => (q.2.1 k).1
  | none => ""
theorem fields_set {N k : Nat} {f f' : Nat → Value} {v : Value} (hk : f' k = v) (ho : ∀ i, i ≠ k → f' i = f i) : (List.range N).map f' = ((List.range N).map f).set k v := by
  apply List.ext_getElem?
  intro i
  rw [List.getElem?_set]
  by_cases hi : i < N
  · rw [List.getElem?_map, List.getElem?_map, List.getElem?_range hi]
    by_cases hq : k = i
    · subst hq
      rw [if_pos rfl, if_pos (by simpa using hi)]
      show some (f' k) = some v
      rw [hk]
    · rw [if_neg hq]
      show some (f' i) = some (f i)
      rw [ho i (fun e => hq e.symm)]
  · rw [List.getElem?_eq_none (by simp; omega)]
    by_cases hq : k = i
    · subst hq
      rw [if_pos rfl, if_neg (by simp; omega)]
    · rw [if_neg hq, List.getElem?_eq_none (by simp; omega)]
/-- a field is written: one row for all kinds of values -/
theorem LW_putV {j d bc bs pc : Nat} {ls : List (Option Value)} {st : List Value} {g g' : LH} {Q : Option Value → LH → Prop} {idx ci k q : Nat} {v : Value} (h : lk j pc = some (.putfield idx, 3)) (hf : fres j idx = some (ci, k)) (hsh : Gs g q = .inl ci)
    (hn : ∀ ρ b, narrow (tyA ci k) (cv ρ b v) = cv ρ b v) (hfit : ∀ ρ b, fits (tyA ci k) (cv ρ b v) = true) (hfin : lFin ci k = false ∨ ((mY j).name = "<init>" ∧ lDecl ci k = mO j))
    (g1 : Gn g' = Gn g) (g2 : Gx g' = Gx g) (g4 : ∀ q i a, Gr g' q i = some a → Gr g q i = some a ∨ v = .ref a) (g5 : ∀ ρ aC i, i ≠ q → lE ρ aC g' i = lE ρ aC g i) (g6 : ∀ ρ aC b, lE ρ aC g' q = .inr (ci, ((List.range (nF ci)).map fun k => lV ρ g (tyA ci k) q k).set k (cv ρ b v)))
    (kk : LW j d bc bs (pc + 3) ls st g' Q) : LW j d bc bs pc ls (v :: .ref q :: st) g Q := by
  intro p l e R s m args below meth c H locs cells slots Z D aC ρ A H0 b lsR X hc hs hw hl ho hz
  obtain ⟨hK, hP, hD, hS, hA, hwf, hsx, hst⟩ := id hw
  obtain ⟨C, T, N, hcl, hkN, hlink⟩ := fres_ok hf
  obtain ⟨hN, hC, hty, hnm, hin, -, -⟩ := clOK hcl
  obtain ⟨hv, ho1⟩ := lOk_cons.mp ho
  obtain ⟨hq, ho2⟩ := lOk_cons.mp ho1
  have hq : q < Gn g := hq
  have hts := X.2.2.2.2.2.2.1
  have he : (lW ρ aC g)[q]? = some (ρ q, .inr (ci, (List.range (nF ci)).map fun k => lV ρ g (tyA ci k) q k)) := by rw [lW_at hq, lE_obj hsh]
  have hW : lW ρ aC g' = (lW ρ aC g).set q (ρ q, .inr (ci, ((List.range (nF ci)).map fun k => lV ρ g (tyA ci k) q k).set k (cv ρ b v))) := by
    rw [lW_upd g1 (g5 ρ aC), g6 ρ aC b]
  have hwf' : ∀ q i a, Gr g' q i = some a → a < Gn g' := by
    intro q i a ha
    rw [g1]
    rcases g4 q i a ha with h | h
    · exact hwf q i a h
    · rw [h] at hv; exact hv
  have fin : ∀ (H1 : Heap) (locs1 : List Loc), va_P D vwCl ((lW ρ aC g).set q (ρ q, .inr (ci, ((List.range (nF ci)).map fun k => lV ρ g (tyA ci k) q k).set k (cv ρ b v)))) H1 → va_D A ((lW ρ aC g).set q (ρ q, .inr (ci, ((List.range (nF ci)).map fun k => lV ρ g (tyA ci k) q k).set k (cv ρ b v)))) → va_S A H0 H1 locs1 → W p l e R s m args below meth c H1 locs1 cells slots Z (F0 m (pc + 3) lsR (st.map (cv ρ b))) := by
    intro H1 locs1 hP1 hD1 hS1
    rw [← hW] at hP1 hD1
    exact kk p l e R s m args below meth c H1 locs1 cells slots Z D aC ρ A H0 b lsR X hc hs ⟨hK, hP1, hD1, hS1, hA, hwf', by rw [g2]; exact hsx, hst⟩ hl (by rw [g1]; exact ho2) (by rw [g1, g2]; exact hz)
  have hlen : k < ((List.range (nF ci)).map fun k => lV ρ g (tyA ci k) q k).length := by simp; omega
  rcases hfin with hfin | ⟨hi1, hi2⟩
  · exact va_put (ref := (T k).1) (ty := tyA ci k) X.1 X.2.1 hts hin (tyA ci) hty hnm X.2.2.2.2.2.1 hK hP hD hS q he hcl k hkN (hts _ hlink) (fun _ h => h) (by unfold lFin at hfin; rw [hcl] at hfin; exact hfin) (hty k hkN) (hn ρ b) (hfit ρ b) hlen (lk_dec h) fin
  · by_cases hfin : lFin ci k = false
    · exact va_put (ref := (T k).1) (ty := tyA ci k) X.1 X.2.1 hts hin (tyA ci) hty hnm X.2.2.2.2.2.1 hK hP hD hS q he hcl k hkN (hts _ hlink) (fun _ h => h) (by unfold lFin at hfin; rw [hcl] at hfin; exact hfin) (hty k hkN) (hn ρ b) (hfit ρ b) hlen (lk_dec h) fin
    · exact va_putF (ref := (T k).1) (ty := tyA ci k) X.1 X.2.1 hts hin (tyA ci) hty hnm X.2.2.2.2.2.1 hK hP hD hS q he hcl k hkN (hts _ hlink) (fun _ h => h) (by unfold lFin at hfin; rw [hcl] at hfin; simpa using hfin) (X.2.2.2.2.2.2.2.1 hi1) (by unfold lDecl at hi2; rw [hcl] at hi2; exact hi2) (hty k hkN) (hn ρ b) (hfit ρ b) hlen (lk_dec h) fin
theorem LW_putI {j d bc bs pc : Nat} {ls : List (Option Value)} {st : List Value} {g : LH} {Q : Option Value → LH → Prop} {idx ci k q : Nat} {x : Int32} (h : lk j pc = some (.putfield idx, 3)) (hf : fres j idx = some (ci, k)) (hsh : Gs g q = .inl ci) (hk : kd (tyA ci k) = 0) (hn : narrow (tyA ci k) (.int x) = .int x) (hfit : fits (tyA ci k) (.int x) = true) (hfin : lFin ci k = false ∨ ((mY j).name = "<init>" ∧ lDecl ci k = mO j)) (kk : LW j d bc bs (pc + 3) ls st (putI g q k x) Q) : LW j d bc bs pc ls (.int x :: .ref q :: st) g Q := by
  refine LW_putV (g' := putI g q k x) h hf hsh (fun _ _ => hn) (fun _ _ => hfit) hfin rfl rfl (fun _ _ _ h => Or.inl h) (fun ρ aC i hi => lE_congr rfl (va_up_ne _ _ hi) rfl (fun _ => rfl)) (fun ρ aC b => ?_) kk
  rw [lE_obj (ci := ci) (g := putI g q k x) hsh]
  refine congrArg (fun z => Sum.inr (ci, z)) (fields_set ?_ (fun i hi => ?_))
  · unfold lV
    rw [hk]
    show Value.int (va_up (Gi g) q (upd (Gi g q) k x) q k) = .int x
    rw [va_up_self, pk_us]
  · unfold lV
    split
    · show Value.int (va_up (Gi g) q (upd (Gi g q) k x) q i) = _
      rw [va_up_self, pk_un hi]
    · rfl
    · rfl
theorem LW_putJ {j d bc bs pc : Nat} {ls : List (Option Value)} {st : List Value} {g : LH} {Q : Option Value → LH → Prop} {idx ci k q : Nat} {x : Int64} (h : lk j pc = some (.putfield idx, 3)) (hf : fres j idx = some (ci, k)) (hsh : Gs g q = .inl ci) (hk : kd (tyA ci k) = 1) (hn : narrow (tyA ci k) (.long x) = .long x) (hfit : fits (tyA ci k) (.long x) = true) (hfin : lFin ci k = false ∨ ((mY j).name = "<init>" ∧ lDecl ci k = mO j)) (kk : LW j d bc bs (pc + 3) ls st (putJ g q k x) Q) : LW j d bc bs pc ls (.long x :: .ref q :: st) g Q := by
  refine LW_putV (g' := putJ g q k x) h hf hsh (fun _ _ => hn) (fun _ _ => hfit) hfin rfl rfl (fun _ _ _ h => Or.inl h) (fun ρ aC i hi => lE_congr rfl rfl (va_up_ne _ _ hi) (fun _ => rfl)) (fun ρ aC b => ?_) kk
  rw [lE_obj (ci := ci) (g := putJ g q k x) hsh]
  refine congrArg (fun z => Sum.inr (ci, z)) (fields_set ?_ (fun i hi => ?_))
  · unfold lV
    rw [hk]
    show Value.long (va_up (Gj g) q (vp_updL (Gj g q) k x) q k) = .long x
    rw [va_up_self, pk_uLs]
  · unfold lV
    split
    · rfl
    · show Value.long (va_up (Gj g) q (vp_updL (Gj g q) k x) q i) = _
      rw [va_up_self, pk_uLn hi]
    · rfl
theorem LW_putR {j d bc bs pc : Nat} {ls : List (Option Value)} {st : List Value} {g : LH} {Q : Option Value → LH → Prop} {idx ci k q : Nat} {r : Option Nat} (h : lk j pc = some (.putfield idx, 3)) (hf : fres j idx = some (ci, k)) (hsh : Gs g q = .inl ci) (hk : kd (tyA ci k) = 2) (hfin : lFin ci k = false ∨ ((mY j).name = "<init>" ∧ lDecl ci k = mO j)) (kk : LW j d bc bs (pc + 3) ls st (putR g q k r) Q) : LW j d bc bs pc ls (va_rf r :: .ref q :: st) g Q := by
  have hn : ∀ (ty : FieldType) (r : Option Nat), kd ty = 2 → narrow ty (va_rf r) = va_rf r := by
    intro ty r h
    cases r <;> cases ty <;> first | rfl | cases h
  have hfit : ∀ (ty : FieldType) (r : Option Nat), kd ty = 2 → fits ty (va_rf r) = true := by
    intro ty r h
    cases r <;> cases ty <;> first | rfl | cases h
  refine LW_putV (g' := putR g q k r) h hf hsh (fun ρ b => by rw [cv_rf]; exact hn _ _ hk) (fun ρ b => by rw [cv_rf]; exact hfit _ _ hk) hfin rfl rfl (fun q' i a ha => ?_) (fun ρ aC i hi => lE_congr rfl rfl rfl (fun k' => ?_)) (fun ρ aC b => ?_) kk
  · have ha : va_up (Gr g) q (va_up (Gr g q) k r) q' i = some a := ha
    unfold va_up at ha
    split at ha
    · rename_i e
      subst e
      dsimp only at ha
      split at ha
      · exact Or.inr (by rw [ha]; rfl)
      · exact Or.inl ha
    · exact Or.inl ha
  · show Option.map ρ (va_up (Gr g) q (va_up (Gr g q) k r) i k') = _
    rw [va_up_ne _ _ hi]
  · rw [lE_obj (ci := ci) (g := putR g q k r) hsh, cv_rf]
    refine congrArg (fun z => Sum.inr (ci, z)) (fields_set ?_ (fun i hi => ?_))
    · unfold lV
      rw [hk]
      show va_rf (Option.map ρ (va_up (Gr g) q (va_up (Gr g q) k r) q k)) = _
      rw [va_up_self, va_up_self]
    · unfold lV
      split
      · rfl
      · rfl
      · show va_rf (Option.map ρ (va_up (Gr g) q (va_up (Gr g q) k r) q i)) = _
        rw [va_up_self, va_up_ne _ _ hi]
