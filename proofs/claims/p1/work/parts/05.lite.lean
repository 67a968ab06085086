/-! the small machine's states over the kit's worlds: addresses are 0, 1, 2 .., a heap is some functions -/
abbrev LSh : Type := Nat ⊕ (FieldType × Nat)
abbrev LH : Type := Nat × (Nat → LSh) × (Nat → Nat → Int32) × (Nat → Nat → Int64) × (Nat → Nat → Option Nat) × Option (Nat × (Nat → Int32))
abbrev Gn (g : LH) : Nat := g.1
abbrev Gs (g : LH) : Nat → LSh := g.2.1
abbrev Gi (g : LH) : Nat → Nat → Int32 := g.2.2.1
abbrev Gj (g : LH) : Nat → Nat → Int64 := g.2.2.2.1
abbrev Gr (g : LH) : Nat → Nat → Option Nat := g.2.2.2.2.1
/-- the script, read only -/
abbrev Gx (g : LH) : Option (Nat × (Nat → Int32)) := g.2.2.2.2.2
/-- 0 of whole numbers, 1 long, 2 a reference, 3 none of these -/
def kd : FieldType → Nat
  | .long => 1
  | .object _ => 2
  | .array _ => 2
  | .int => 0 | .boolean => 0 | .byte => 0 | .char => 0 | .short => 0
  | _ => 3
/-- the program's own types of arrays -/
def lTys : List FieldType := [.int, .boolean, .long, .object RX9, .object RX11]
def tyL (aC : FieldType → ClassId) : List (ClassId × FieldType) := lTys.map fun t => (aC t, t)
theorem tyL_at {aC : FieldType → ClassId} {k : Nat} {t : FieldType} (h : lTys[k]? = some t) : (tyL aC)[k]? = some (aC t, t) := by
  unfold tyL
  rw [List.getElem?_map, h]
  rfl
def lV (ρ : Nat → Nat) (g : LH) (ty : FieldType) (q k : Nat) : Value := match kd ty with
  | 0 => .int (Gi g q k)
  | 1 => .long (Gj g q k)
  | _ => va_rf ((Gr g q k).map ρ)
def lA (ρ : Nat → Nat) (g : LH) (ty : FieldType) (q : Nat) : (Nat → Int32) ⊕ (Nat → Int64) ⊕ (Nat → UInt32) ⊕ (Nat → UInt64) ⊕ (Nat → Option Nat) := match kd ty with
  | 0 => .inl (Gi g q)
  | 1 => .inr (.inl (Gj g q))
  | _ => .inr (.inr (.inr (.inr fun i => (Gr g q i).map ρ)))
def lE (ρ : Nat → Nat) (aC : FieldType → ClassId) (g : LH) (q : Nat) : va_E := match Gs g q with
  | .inl ci => .inr (ci, (List.range (nF ci)).map fun k => lV ρ g (tyA ci k) q k)
  | .inr (ty, n) => .inl (aC ty, n, lA ρ g ty q)
def lW (ρ : Nat → Nat) (aC : FieldType → ClassId) (g : LH) : va_W := (List.range (Gn g)).map fun q => (ρ q, lE ρ aC g q)
def lSX (b : Nat) (x : Option (Nat × (Nat → Int32))) (s : State) (H0 : Heap) (A : Nat → Prop) : Prop := match x with
  | none => True
  | some (L, xs) => va_X b L xs s H0 ∧ b < H0.size ∧ ¬ A b
/-- what is said of the launch's tables and isn't a word that a callee may be given -/
def lSt (s : State) : Prop := va_AO RX9 s ∧ va_AO RX11 s ∧ ∀ q ∈ [(RX4, 109), (RX1, 133), (RX8, 159)], va_Nw (.methodLinkNest q.1 q.2 yX12_isLetter RX12) s
theorem lSt.warm {s U : State} (hW : s.WarmedH U.vm) (h : lSt s) : lSt U := ⟨h.1.moved hW.alike, h.2.1.moved hW.alike, fun q hq => (h.2.2 q hq).warmM hW⟩
theorem lSt.same {u U : State} (hv : u.vm = U.vm) (h : lSt u) : lSt U := ⟨h.1.moved (by rw [hv]; exact Vm.Alike.refl _), h.2.1.moved (by rw [hv]; exact Vm.Alike.refl _), fun q hq => (h.2.2 q hq).same rfl hv⟩
def lWx (D : va_G) (aC : FieldType → ClassId) (ρ : Nat → Nat) (A : Nat → Prop) (H0 : Heap) (s : State) (H : Heap) (locs : List Loc) (g : LH) (b : Nat) : Prop :=
  va_K D vwCl (tyL aC) s ∧ va_P D vwCl (lW ρ aC g) H ∧ va_D A (lW ρ aC g) ∧ va_S A H0 H locs ∧ (∀ q, H0.size ≤ q → A q) ∧ (∀ q i a, Gr g q i = some a → a < Gn g) ∧ lSX b (Gx g) s H0 A ∧ lSt s
/-- a value as the machine has it; .retAddr stands for the script -/
def cv (ρ : Nat → Nat) (b : Nat) : Value → Value
  | .ref q => .ref (ρ q)
  | .retAddr _ => .ref b
  | v => v
def okV (n : Nat) : Value → Prop
  | .ref q => q < n
  | .float _ => False
  | .double _ => False
  | _ => True
def lOk (n : Nat) (ls : List (Option Value)) (st : List Value) : Prop := (∀ v ∈ st, okV n v) ∧ ∀ (i : Nat) (v : Value), ls[i]? = some (some v) → okV n v
def lR (ρ : Nat → Nat) (b nL : Nat) (ls : List (Option Value)) (lsR : Array Slot) : Prop := lsR.size = nL ∧ lv_wf lsR ∧ ls.length = nL ∧ ∀ (i : Nat) (v : Value), ls[i]? = some (some v) → lsR[i]? = some (.val (cv ρ b v))
def lRet (j pc : Nat) : Option Value → Prop
  | none => lk j pc = some (.return_, 1) ∧ mR j = none
  | some (.int x) => lk j pc = some (.ireturn, 1) ∧ ∃ ty, mR j = some ty ∧ narrow ty (.int x) = .int x
  | some (.long _) => lk j pc = some (.lreturn, 1) ∧ mR j = some .long
  | some .null => lk j pc = some (.areturn, 1) ∧ ∃ rt, mR j = some rt ∧ ((∃ n, rt = .object n) ∨ ∃ t, rt = .array t)
  | some (.ref _) => lk j pc = some (.areturn, 1) ∧ ∃ rt, mR j = some rt ∧ ((∃ n, rt = .object n) ∨ ∃ t, rt = .array t)
  | _ => False
def lX (j d : Nat) (p : Program) (R : Room) (s : State) (m : MethodId) (args : Array Value) (meth : Method) (c : Code) : Prop :=
  p.tables.exec = Jvm.exec ∧ c.code = mB j ∧ c.maxLocals = mL j ∧ meth.sig.returnType = mR j ∧ meth.locks = false ∧ s.vm.findClass (mO j) = some m.cls ∧ (∀ w ∈ lg, w.before args s = true) ∧ ((mY j).name = "<init>" → meth.name = "<init>") ∧ d ≤ R.frames ∧ 128 * d ≤ R.locals
/-- from this place of method j, with depth d, so many cells and slots yet to make: it returns, and Q holds of the answer and the heap -/
def LW (j d bc bs pc : Nat) (ls : List (Option Value)) (st : List Value) (g : LH) (Q : Option Value → LH → Prop) : Prop :=
  ∀ (p : Program) (l : Launch) (e : Env) (R : Room) (s : State) (m : MethodId) (args : Array Value) (below : List Frame) (meth : Method) (c : Code) (H : Heap) (locs : List Loc) (cells slots : Nat) (Z : State → Prop) (D : va_G) (aC : FieldType → ClassId) (ρ : Nat → Nat) (A : Nat → Prop) (H0 : Heap) (b : Nat) (lsR : Array Slot),
    lX j d p R s m args meth c → cells + bc ≤ R.cells → slots + bs ≤ R.slots → lWx D aC ρ A H0 s H locs g b → lR ρ b (mL j) ls lsR → lOk (Gn g) ls st →
    (∀ (v : Option Value) (g' : LH) (ρ' : Nat → Nat) (H' : Heap) (locs' : List Loc) (cells' slots' pc' : Nat) (ls' : Array Slot), Q v g' → (∀ q, q < Gn g → ρ' q = ρ q) → Gn g ≤ Gn g' → Gx g' = Gx g → lWx D aC ρ' A H0 s H' locs' g' b → cells' ≤ cells + bc → slots' ≤ slots + bs → lRet j pc' v → (∀ x ∈ v, okV (Gn g') x) →
      W p l e R s m args below meth c H' locs' cells' slots' Z (F0 m pc' ls' (v.toList.map (cv ρ' b)))) →
    W p l e R s m args below meth c H locs cells slots Z (F0 m pc lsR (st.map (cv ρ b)))
