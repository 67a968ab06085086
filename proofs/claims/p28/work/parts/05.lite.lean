/-! the small machine's states over the kit's worlds: addresses are 0, 1, 2 .., a heap is some functions -/
abbrev LSh : Type := Nat ⊕ (FieldType × Nat)
abbrev LH : Type := Nat × (Nat → LSh) × (Nat → Nat → Int32) × (Nat → Nat → Int64) × (Nat → Nat → Option Nat) × Option (Nat × (Nat → Int32))
abbrev Gn (g : LH) : Nat := g.1
abbrev Gs (g : LH) : Nat → LSh := g.2.1
abbrev Gi (g : LH) : Nat → Nat → Int32 := g.2.2.1
abbrev Gj (g : LH) : Nat → Nat → Int64 := g.2.2.2.1
abbrev Gr (g : LH) : Nat → Nat → Option Nat := g.2.2.2.2.1
/-- the script, read only -/
abbrev Gx (g : LH) : Option (Nat × (Nat → Int32)) := g.2.2.2.2.2
/-- 0 of whole numbers, 1 long, 2 a reference, 3 none of these -/
def kd : FieldType → Nat
  | .long => 1
  | .object _ => 2
  | .array _ => 2
  | .int => 0 | .boolean => 0 | .byte => 0 | .char => 0 | .short => 0
  | _ => 3
/-- the program's own types of arrays -/
def lTys : List FieldType := [.int, .boolean, .long, .object RX9, .object RX11]
def tyL (aC : FieldType → ClassId) : List (ClassId × FieldType) := lTys.map fun t => (aC t, t)
theorem tyL_at {aC : FieldType → ClassId} {k : Nat} {t : FieldType} (h : lTys[k]? = some t) : (tyL aC)[k]? = some (aC t, t) := by
  unfold tyL
  rw [List.getElem?_map, h]
  rfl
def lV (ρ : Nat → Nat) (g : LH) (ty : FieldType) (q k : Nat) : Value := match kd ty with
  | 0 => .int (Gi g q k)
  | 1 => .long (Gj g q k)
  | _ => va_rf ((Gr g q k).map ρ)
def lA (ρ : Nat → Nat) (g : LH) (ty : FieldType) (q : Nat) : (Nat → Int32) ⊕ (Nat → Int64) ⊕ (Nat → UInt32) ⊕ (Nat → UInt64) ⊕ (Nat → Option Nat) := match kd ty with
  | 0 => .inl (Gi g q)
  | 1 => .inr (.inl (Gj g q))
  | _ => .inr (.inr (.inr (.inr fun i => (Gr g q i).map ρ)))
def lE (ρ : Nat → Nat) (aC : FieldType → ClassId) (g : LH) (q : Nat) : va_E := match Gs g q with
  | .inl ci => .inr (ci, (List.range (nF ci)).map fun k => lV ρ g (tyA ci k) q k)
  | .inr (ty, n) => .inl (aC ty, n, lA ρ g ty q)
def lW (ρ : Nat → Nat) (aC : FieldType → ClassId) (g : LH) : va_W := (List.range (Gn g)).map fun q => (ρ q, lE ρ aC g q)
def ordL : List Int32 := [1, 1, 2, 6, 24, 120, 720, 5040, 40320, 362880, 3628800]
def keysT : String := "joins returns price binds word say tie strike back raise sign contract morning means to by as none or and not day outs letter wage since vowel tied uses length sense signs broken many days "
def symsT : String := "<>=#+-*/(),;"
def txB : List (List Int32) := [[106, 111, 105, 110, 115, 32, 114, 101, 116, 117, 114, 110, 115, 32, 112, 114, 105, 99, 101, 32, 98, 105, 110, 100, 115, 32, 119, 111, 114, 100, 32, 115, 97, 121, 32, 116, 105, 101, 32, 115, 116, 114, 105, 107, 101, 32, 98, 97, 99, 107, 32, 114, 97, 105, 115, 101, 32, 115, 105, 103, 110, 32, 99, 111, 110, 116, 114, 97, 99, 116, 32, 109, 111, 114, 110, 105, 110, 103, 32, 109, 101, 97, 110, 115, 32, 116, 111, 32, 98, 121, 32, 97, 115, 32, 110, 111, 110, 101, 32, 111, 114, 32, 97, 110, 100, 32, 110, 111, 116, 32, 100, 97, 121, 32, 111, 117, 116, 115, 32, 108, 101, 116, 116, 101, 114, 32, 119, 97, 103, 101, 32, 115, 105, 110, 99, 101, 32, 118, 111, 119, 101, 108, 32, 116, 105, 101, 100, 32, 117, 115, 101, 115, 32, 108, 101, 110, 103, 116, 104, 32, 115, 101, 110, 115, 101, 32, 115, 105, 103, 110, 115, 32, 98, 114, 111, 107, 101, 110, 32, 109, 97, 110, 121, 32, 100, 97, 121, 115, 32], [60, 62, 61, 35, 43, 45, 42, 47, 40, 41, 44, 59]]
/-- what stood there ahead: 0 the script, 1 the class's own row of numbers, 2 and 3 its texts, 4 and 5 their bytes, 6 a thing of the JDK's -/
def lSO (b : Nat → Nat) (s : State) (H : Heap) (A : Nat → Prop) : Prop :=
  va_Z RX6 "ORDERS" "[I" (.ref (b 1)) A s H ∧ va_T .int (b 1) 11 (fun k => .int (ordL.getD k 0)) A s H ∧ vk_S 2 [189, 12] txB (fun i => b (2 + i)) (fun i => b (4 + i)) A s H ∧ (vk_R RX10 65 keysT (b 2) s ∧ vk_R RX10 58 symsT (b 3) s) ∧ va_Z RJ0 "COMPACT_STRINGS" "Z" (.int 1) A s H ∧
  (va_Z RJ3 "SIOOBE_FORMATTER" "Ljava/util/function/BiFunction;" .null A s H ∨ va_Z RJ3 "SIOOBE_FORMATTER" "Ljava/util/function/BiFunction;" (.ref (b 6)) A s H)
theorem lSO.carry {b : Nat → Nat} {s U : State} {H H1 : Heap} {A B : Nat → Prop} (hw : s.vm.Alike U.vm) (hR : ∀ own k tx a, vk_R own k tx a s → vk_R own k tx a U) (hq : ∀ a : Nat, a < H.size → ¬ A a → H1[a]? = H[a]?) (hAB : ∀ q, B q → A q) (h : lSO b s H A) : lSO b U H1 B := by
  obtain ⟨h1, h2, h3, h4, h5, h6⟩ := h
  refine ⟨((h1.kept hq).moved hw).narrow hAB, ((h2.kept hq).moved hw).narrow hAB, ((h3.kept hq).moved hw).narrow hAB, ⟨hR _ _ _ _ h4.1, hR _ _ _ _ h4.2⟩, ((h5.kept hq).moved hw).narrow hAB, ?_⟩
  rcases h6 with h | h
  · exact Or.inl (((h.kept hq).moved hw).narrow hAB)
  · exact Or.inr (((h.kept hq).moved hw).narrow hAB)
def lSX (b : Nat → Nat) (x : Option (Nat × (Nat → Int32))) (s : State) (H0 : Heap) (A : Nat → Prop) : Prop := H0 = s.heap ∧ lSO b s H0 A ∧ match x with
  | none => True
  | some (L, xs) => va_X (b 0) L xs s H0 ∧ b 0 < H0.size ∧ ¬ A (b 0)
/-- what is said of the launch's tables and isn't a word that a callee may be given -/
def lSt (s : State) : Prop := va_AO RX9 s ∧ va_AO RX11 s ∧ ∀ q ∈ [(RX4, 109), (RX1, 133), (RX8, 159)], va_Nw (.methodLinkNest q.1 q.2 yX12_isLetter RX12) s
theorem lSt.warm {s U : State} (hW : s.WarmedH U.vm) (h : lSt s) : lSt U := ⟨h.1.moved hW.alike, h.2.1.moved hW.alike, fun q hq => (h.2.2 q hq).warmM hW⟩
theorem lSt.same {u U : State} (hv : u.vm = U.vm) (h : lSt u) : lSt U := ⟨h.1.moved (by rw [hv]; exact Vm.Alike.refl _), h.2.1.moved (by rw [hv]; exact Vm.Alike.refl _), fun q hq => (h.2.2 q hq).same rfl hv⟩
def lWx (D : va_G) (aC : FieldType → ClassId) (ρ : Nat → Nat) (A : Nat → Prop) (H0 : Heap) (s : State) (H : Heap) (locs : List Loc) (g : LH) (b : Nat → Nat) : Prop :=
  va_K D vwCl (tyL aC) s ∧ va_P D vwCl (lW ρ aC g) H ∧ va_D A (lW ρ aC g) ∧ va_S A H0 H locs ∧ (∀ q, H0.size ≤ q → A q) ∧ (∀ q i a, Gr g q i = some a → a < Gn g) ∧ lSX b (Gx g) s H0 A ∧ lSt s
/-- a value as the machine has it; .retAddr stands for the script -/
def cv (ρ : Nat → Nat) (b : Nat → Nat) : Value → Value
  | .ref q => .ref (ρ q)
  | .retAddr q => .ref (b q)
  | v => v
def okV (n : Nat) : Value → Prop
  | .ref q => q < n
  | .float _ => False
  | .double _ => False
  | _ => True
def lOk (n : Nat) (ls : List (Option Value)) (st : List Value) : Prop := (∀ v ∈ st, okV n v) ∧ ∀ (i : Nat) (v : Value), ls[i]? = some (some v) → okV n v
def lR (ρ : Nat → Nat) (b : Nat → Nat) (nL : Nat) (ls : List (Option Value)) (lsR : Array Slot) : Prop := lsR.size = nL ∧ lv_wf lsR ∧ ls.length = nL ∧ ∀ (i : Nat) (v : Value), ls[i]? = some (some v) → lsR[i]? = some (.val (cv ρ b v))
def lRet (j pc : Nat) : Option Value → Prop
  | none => lk j pc = some (.return_, 1) ∧ mR j = none
  | some (.int x) => lk j pc = some (.ireturn, 1) ∧ ∃ ty, mR j = some ty ∧ narrow ty (.int x) = .int x
  | some (.long _) => lk j pc = some (.lreturn, 1) ∧ mR j = some .long
  | some .null => lk j pc = some (.areturn, 1) ∧ ∃ rt, mR j = some rt ∧ ((∃ n, rt = .object n) ∨ ∃ t, rt = .array t)
  | some (.ref _) => lk j pc = some (.areturn, 1) ∧ ∃ rt, mR j = some rt ∧ ((∃ n, rt = .object n) ∨ ∃ t, rt = .array t)
  | _ => False
def lX (j d : Nat) (p : Program) (R : Room) (s : State) (m : MethodId) (args : Array Value) (meth : Method) (c : Code) : Prop :=
  p.tables.exec = Jvm.exec ∧ c.code = mB j ∧ c.maxLocals = mL j ∧ meth.sig.returnType = mR j ∧ meth.locks = false ∧ s.vm.findClass (mO j) = some m.cls ∧ (∀ w ∈ lg, w.before args s = true) ∧ ((mY j).name = "<init>" → meth.name = "<init>") ∧ d ≤ R.frames ∧ 128 * d ≤ R.locals
/-- from this place of method j, with depth d, so many cells and slots yet to make: it returns, and Q holds of the answer and the heap -/
def LW (j d bc bs pc : Nat) (ls : List (Option Value)) (st : List Value) (g : LH) (Q : Option Value → LH → Prop) : Prop :=
  ∀ (p : Program) (l : Launch) (e : Env) (R : Room) (s : State) (m : MethodId) (args : Array Value) (below : List Frame) (meth : Method) (c : Code) (H : Heap) (locs : List Loc) (cells slots : Nat) (Z : State → Prop) (D : va_G) (aC : FieldType → ClassId) (ρ : Nat → Nat) (A : Nat → Prop) (H0 : Heap) (b : Nat → Nat) (lsR : Array Slot),
    lX j d p R s m args meth c → cells + bc ≤ R.cells → slots + bs ≤ R.slots → lWx D aC ρ A H0 s H locs g b → lR ρ b (mL j) ls lsR → lOk (Gn g) ls st →
    (∀ (v : Option Value) (g' : LH) (ρ' : Nat → Nat) (H' : Heap) (locs' : List Loc) (cells' slots' pc' : Nat) (ls' : Array Slot), Q v g' → (∀ q, q < Gn g → ρ' q = ρ q) → Gn g ≤ Gn g' → Gx g' = Gx g → lWx D aC ρ' A H0 s H' locs' g' b → cells' ≤ cells + bc → slots' ≤ slots + bs → lRet j pc' v → (∀ x ∈ v, okV (Gn g') x) →
      W p l e R s m args below meth c H' locs' cells' slots' Z (F0 m pc' ls' (v.toList.map (cv ρ' b)))) →
    W p l e R s m args below meth c H locs cells slots Z (F0 m pc lsR (st.map (cv ρ b)))
