/-! the small machine as a function, over heaps of lists -/
noncomputable def nth {α : Type} (d : α) (l : List α) : Nat → α := List.rec (motive := fun _ => Nat → α) (fun _ => d) (fun a _ ih i => Nat.rec (motive := fun _ => α) a (fun m _ => ih m) i) l
noncomputable def pth {α : Type} (d v : α) (i : Nat) : List α → List α := Nat.rec (motive := fun _ => List α → List α) (fun l => List.rec (motive := fun _ => List α) [v] (fun _ r _ => v :: r) l) (fun _ ih l => List.rec (motive := fun _ => List α) (d :: ih []) (fun a r _ => a :: ih r) l) i
theorem nth_pth {α : Type} (d v : α) : ∀ (i : Nat) (l : List α) (j : Nat), nth d (pth d v i l) j = if j = i then v else nth d l j
  | 0, [], 0 => rfl
  | 0, [], j + 1 => rfl
  | 0, a :: r, 0 => rfl
  | 0, a :: r, j + 1 => rfl
  | i + 1, [], 0 => rfl
  | i + 1, [], j + 1 => by
    show nth d (pth d v i []) j = _
    rw [nth_pth d v i [] j]
    by_cases h : j = i
    · rw [if_pos h, if_pos (by omega)]
    · rw [if_neg h, if_neg (by omega)]
      rfl
  | i + 1, a :: r, 0 => rfl
  | i + 1, a :: r, j + 1 => by
    show nth d (pth d v i r) j = _
    rw [nth_pth d v i r j]
    by_cases h : j = i
    · rw [if_pos h, if_pos (by omega)]
    · rw [if_neg h, if_neg (by omega)]
      rfl
abbrev T3 (α : Type) : Type := List (List (List α))
noncomputable def g3 {α : Type} (d : α) (t : T3 α) (i : Nat) : α := nth d (nth [] (nth [] t (i / 256)) (i / 16 % 16)) (i % 16)
noncomputable def p3 {α : Type} (d : α) (t : T3 α) (i : Nat) (v : α) : T3 α := pth [] (pth [] (pth d v (i % 16) (nth [] (nth [] t (i / 256)) (i / 16 % 16))) (i / 16 % 16) (nth [] t (i / 256))) (i / 256) t
theorem g3_p3 {α : Type} (d : α) (t : T3 α) (i j : Nat) (v : α) : g3 d (p3 d t i v) j = if j = i then v else g3 d t j := by
  unfold g3 p3
  rw [nth_pth]
  by_cases h1 : j / 256 = i / 256
  · rw [if_pos h1, nth_pth]
    by_cases h2 : j / 16 % 16 = i / 16 % 16
    · rw [if_pos h2, nth_pth]
      by_cases h3 : j % 16 = i % 16
      · rw [if_pos h3, if_pos (by omega)]
      · rw [if_neg h3, if_neg (by omega), h1, h2]
    · rw [if_neg h2, if_neg (fun e => h2 (by rw [e])), h1]
  · rw [if_neg h1, if_neg (fun e => h1 (by rw [e]))]
abbrev EH : Type := Nat × T3 LSh × T3 (T3 Int32) × T3 (T3 Int64) × T3 (T3 (Option Nat))
noncomputable def eS (e : EH) (q : Nat) : LSh := g3 (.inl 0) e.2.1 q
noncomputable def eI (e : EH) (q k : Nat) : Int32 := g3 0 (g3 [] e.2.2.1 q) k
noncomputable def eJ (e : EH) (q k : Nat) : Int64 := g3 0 (g3 [] e.2.2.2.1 q) k
noncomputable def eR (e : EH) (q k : Nat) : Option Nat := g3 none (g3 [] e.2.2.2.2 q) k
noncomputable def eV (x : Option (Nat × (Nat → Int32))) (e : EH) : LH := (e.1, eS e, eI e, eJ e, eR e, x)
noncomputable def wI (e : EH) (q k : Nat) (v : Int32) : EH := (e.1, e.2.1, p3 [] e.2.2.1 q (p3 0 (g3 [] e.2.2.1 q) k v), e.2.2.2)
noncomputable def wJ (e : EH) (q k : Nat) (v : Int64) : EH := (e.1, e.2.1, e.2.2.1, p3 [] e.2.2.2.1 q (p3 0 (g3 [] e.2.2.2.1 q) k v), e.2.2.2.2)
noncomputable def wR (e : EH) (q k : Nat) (v : Option Nat) : EH := (e.1, e.2.1, e.2.2.1, e.2.2.2.1, p3 [] e.2.2.2.2 q (p3 none (g3 [] e.2.2.2.2 q) k v))
noncomputable def wN (e : EH) (sh : LSh) : EH := (e.1 + 1, p3 (.inl 0) e.2.1 e.1 sh, p3 [] e.2.2.1 e.1 [], p3 [] e.2.2.2.1 e.1 [], p3 [] e.2.2.2.2 e.1 [])
/-- src from sp on, n of it, onto dst from dp on -/
noncomputable def cpyD (src : T3 Int32) (sp dp : Nat) (dst : T3 Int32) (n : Nat) : T3 Int32 := Nat.rec (motive := fun _ => T3 Int32) dst (fun k ih => p3 0 ih (dp + k) (g3 0 src (sp + k))) n
noncomputable def wC (e : EH) (a0 a1 sp dp n : Nat) : EH := (e.1, e.2.1, p3 [] e.2.2.1 a1 (cpyD (g3 [] e.2.2.1 a0) sp dp (g3 [] e.2.2.1 a1) n), e.2.2.2)
theorem eV_wI (x : Option (Nat × (Nat → Int32))) (e : EH) (q k : Nat) (v : Int32) : eV x (wI e q k v) = putI (eV x e) q k v := by
  unfold eV putI
  refine congrArg (fun z => (e.1, eS e, z, eJ e, eR e, x)) (funext fun q' => funext fun k' => ?_)
  show g3 0 (g3 [] (p3 [] e.2.2.1 q (p3 0 (g3 [] e.2.2.1 q) k v)) q') k' = va_up (eI e) q (upd (eI e q) k v) q' k'
  rw [g3_p3]
  unfold va_up upd
  by_cases h : q' = q
  · rw [if_pos h, if_pos h, g3_p3]
    rfl
  · rw [if_neg h, if_neg h]
    rfl
theorem eV_wJ (x : Option (Nat × (Nat → Int32))) (e : EH) (q k : Nat) (v : Int64) : eV x (wJ e q k v) = putJ (eV x e) q k v := by
  unfold eV putJ
  refine congrArg (fun z => (e.1, eS e, eI e, z, eR e, x)) (funext fun q' => funext fun k' => ?_)
  show g3 0 (g3 [] (p3 [] e.2.2.2.1 q (p3 0 (g3 [] e.2.2.2.1 q) k v)) q') k' = va_up (eJ e) q (vp_updL (eJ e q) k v) q' k'
  rw [g3_p3]
  unfold va_up vp_updL
  by_cases h : q' = q
  · rw [if_pos h, if_pos h, g3_p3]
    rfl
  · rw [if_neg h, if_neg h]
    rfl
theorem eV_wR (x : Option (Nat × (Nat → Int32))) (e : EH) (q k : Nat) (v : Option Nat) : eV x (wR e q k v) = putR (eV x e) q k v := by
  unfold eV putR
  refine congrArg (fun z => (e.1, eS e, eI e, eJ e, z, x)) (funext fun q' => funext fun k' => ?_)
  show g3 none (g3 [] (p3 [] e.2.2.2.2 q (p3 none (g3 [] e.2.2.2.2 q) k v)) q') k' = va_up (eR e) q (va_up (eR e q) k v) q' k'
  rw [g3_p3]
  unfold va_up
  by_cases h : q' = q
  · rw [if_pos h, if_pos h, g3_p3]
    rfl
  · rw [if_neg h, if_neg h]
    rfl
theorem g3_nil {α : Type} (d : α) (k : Nat) : g3 d [] k = d := rfl
theorem eV_wN (x : Option (Nat × (Nat → Int32))) (e : EH) (sh : LSh) : eV x (wN e sh) = newC (eV x e) sh := by
  unfold eV newC
  have h1 : eS (wN e sh) = va_up (eS e) e.1 sh := funext fun q => by
    show g3 (.inl 0) (p3 (.inl 0) e.2.1 e.1 sh) q = _
    rw [g3_p3]
    rfl
  have h2 : eI (wN e sh) = va_up (eI e) e.1 (fun _ => 0) := funext fun q => funext fun k => by
    show g3 0 (g3 [] (p3 [] e.2.2.1 e.1 []) q) k = _
    rw [g3_p3]
    unfold va_up
    by_cases h : q = e.1
    · rw [if_pos h, if_pos h]
      rfl
    · rw [if_neg h, if_neg h]
      rfl
  have h3 : eJ (wN e sh) = va_up (eJ e) e.1 (fun _ => 0) := funext fun q => funext fun k => by
    show g3 0 (g3 [] (p3 [] e.2.2.2.1 e.1 []) q) k = _
    rw [g3_p3]
    unfold va_up
    by_cases h : q = e.1
    · rw [if_pos h, if_pos h]
      rfl
    · rw [if_neg h, if_neg h]
      rfl
  have h4 : eR (wN e sh) = va_up (eR e) e.1 (fun _ => none) := funext fun q => funext fun k => by
    show g3 none (g3 [] (p3 [] e.2.2.2.2 e.1 []) q) k = _
    rw [g3_p3]
    unfold va_up
    by_cases h : q = e.1
    · rw [if_pos h, if_pos h]
      rfl
    · rw [if_neg h, if_neg h]
      rfl
  rw [h1, h2, h3, h4]
  rfl
theorem cpyD_at (src : T3 Int32) (sp dp : Nat) (dst : T3 Int32) : ∀ (n k : Nat), g3 0 (cpyD src sp dp dst n) k = va_cpy (g3 0 src) (g3 0 dst) sp dp n k
  | 0, k => by
    unfold va_cpy
    rw [if_neg (by omega)]
    rfl
  | n + 1, k => by
    show g3 0 (p3 0 (cpyD src sp dp dst n) (dp + n) (g3 0 src (sp + n))) k = _
    rw [g3_p3, cpyD_at src sp dp dst n k]
    unfold va_cpy
    by_cases h : k = dp + n
    · rw [if_pos h, if_pos (by omega)]
      congr 1
      omega
    · rw [if_neg h]
      by_cases h2 : dp ≤ k ∧ k < dp + n
      · rw [if_pos h2, if_pos (by omega)]
      · rw [if_neg h2, if_neg (by omega)]
theorem eV_wC (x : Option (Nat × (Nat → Int32))) (e : EH) (a0 a1 sp dp n : Nat) : eV x (wC e a0 a1 sp dp n) = cpyI (eV x e) a0 a1 sp dp n := by
  unfold eV cpyI
  refine congrArg (fun z => (e.1, eS e, z, eJ e, eR e, x)) (funext fun q' => funext fun k' => ?_)
  show g3 0 (g3 [] (p3 [] e.2.2.1 a1 (cpyD (g3 [] e.2.2.1 a0) sp dp (g3 [] e.2.2.1 a1) n)) q') k' = va_up (eI e) a1 (va_cpy (eI e a0) (eI e a1) sp dp n) q' k'
  rw [g3_p3]
  unfold va_up
  by_cases h : q' = a1
  · rw [if_pos h, if_pos h, cpyD_at]
    rfl
  · rw [if_neg h, if_neg h]
    rfl
abbrev ESt : Type := List (Option Value) × List Value × EH × Nat × Option Int
def nx (pc n : Nat) (jmp : Option Int) (pc' : Nat) : Prop := match jmp with
  | none => pc' = pc + n
  | some off => (pc : Int) + off = (pc' : Int)
def eOk (j d pc n : Nat) (ls : List (Option Value)) (st : List Value) (x : Option (Nat × (Nat → Int32))) (e : EH) (sl : Nat) (r : ESt) : Prop :=
  e.1 ≤ r.2.2.1.1 ∧ sl ≤ r.2.2.2.1 ∧ ∀ (Q : Option Value → LH → Prop) (bc bs pc' : Nat), nx pc n r.2.2.2.2 pc' → LW j (d + 1) bc bs pc' r.1 r.2.1 (eV x r.2.2.1) Q → LW j (d + 1) ((r.2.2.1.1 - e.1) + bc) ((r.2.2.2.1 - sl) + bs) pc ls st (eV x e) Q
theorem eOk_of {j d pc n : Nat} {ls ls' : List (Option Value)} {st st' : List Value} {x : Option (Nat × (Nat → Int32))} {e e' : EH} {sl : Nat} {jmp : Option Int} (hn : e'.1 = e.1) (h : ∀ (Q : Option Value → LH → Prop) (bc bs pc' : Nat), nx pc n jmp pc' → LW j (d + 1) bc bs pc' ls' st' (eV x e') Q → LW j (d + 1) bc bs pc ls st (eV x e) Q) : eOk j d pc n ls st x e sl (ls', st', e', sl, jmp) := by
  refine ⟨Nat.le_of_eq hn.symm, Nat.le_refl _, fun Q bc bs pc' hx k => ?_⟩
  have h1 : (e'.1 - e.1) + bc = bc := by omega
  have h2 : (sl - sl) + bs = bs := by omega
  show LW j (d + 1) ((e'.1 - e.1) + bc) ((sl - sl) + bs) pc ls st (eV x e) Q
  rw [h1, h2]
  exact h Q bc bs pc' hx k
theorem eOk_new {j d pc n N : Nat} {ls ls' : List (Option Value)} {st st' : List Value} {x : Option (Nat × (Nat → Int32))} {e e' : EH} {sl : Nat} {jmp : Option Int} (hn : e'.1 = e.1 + 1) (h : ∀ (Q : Option Value → LH → Prop) (bc bs pc' : Nat), nx pc n jmp pc' → LW j (d + 1) bc bs pc' ls' st' (eV x e') Q → LW j (d + 1) (bc + 1) (bs + N) pc ls st (eV x e) Q) : eOk j d pc n ls st x e sl (ls', st', e', sl + N, jmp) := by
  refine ⟨by show e.1 ≤ e'.1; omega, Nat.le_add_right _ _, fun Q bc bs pc' hx k => ?_⟩
  have h1 : (e'.1 - e.1) + bc = bc + 1 := by omega
  have h2 : (sl + N - sl) + bs = bs + N := by omega
  show LW j (d + 1) ((e'.1 - e.1) + bc) ((sl + N - sl) + bs) pc ls st (eV x e) Q
  rw [h1, h2]
  exact h Q bc bs pc' hx k
theorem lDecl_own : ∀ ci, ci < 14 → ∀ k, k < nF ci → lDecl ci k = lOwnN ci := by decide +kernel
theorem lTys_obj {C : String} (h : C = RX9 ∨ C = RX11) : ∃ t0 : Nat, lTys[t0]? = some (.object C) := by
  rcases h with rfl | rfl
  · exact ⟨3, rfl⟩
  · exact ⟨4, rfl⟩
theorem lTys_any {ty : FieldType} (h : ty = .int ∨ ty = .boolean ∨ ty = .long ∨ ty = .object RX9 ∨ ty = .object RX11) : ∃ t0 : Nat, lTys[t0]? = some ty := by
  rcases h with rfl | rfl | rfl | rfl | rfl
  · exact ⟨0, rfl⟩
  · exact ⟨1, rfl⟩
  · exact ⟨2, rfl⟩
  · exact ⟨3, rfl⟩
  · exact ⟨4, rfl⟩
def ilen : Instr → Nat
  | .aconst_null => 1
  | .iconst _ => 1
  | .bipush _ => 2
  | .sipush _ => 3
  | .lconst _ => 1
  | .iadd => 1
  | .isub => 1
  | .imul => 1
  | .iand => 1
  | .ior => 1
  | .ixor => 1
  | .ishl => 1
  | .ishr => 1
  | .iushr => 1
  | .ladd => 1
  | .lsub => 1
  | .lmul => 1
  | .lor => 1
  | .idiv => 1
  | .irem => 1
  | .ineg => 1
  | .i2l => 1
  | .l2i => 1
  | .i2c => 1
  | .lcmp => 1
  | .lshl => 1
  | .dup => 1
  | .pop => 1
  | .dup_x1 => 1
  | .dup_x2 => 1
  | .dup2 => 1
  | .iload_n _ => 1
  | .iload _ => 2
  | .lload_n _ => 1
  | .lload _ => 2
  | .aload_n _ => 1
  | .aload _ => 2
  | .istore_n _ => 1
  | .istore _ => 2
  | .lstore_n _ => 1
  | .lstore _ => 2
  | .astore_n _ => 1
  | .astore _ => 2
  | .iinc _ _ => 3
  | .goto _ => 3
  | .ifCond _ _ => 3
  | .if_icmp _ _ => 3
  | .ifnull _ => 3
  | .ifnonnull _ => 3
  | .getfield _ => 3
  | .putfield _ => 3
  | .iaload => 1
  | .baload => 1
  | .laload => 1
  | .aaload => 1
  | .iastore => 1
  | .bastore => 1
  | .lastore => 1
  | .aastore => 1
  | .arraylength => 1
  | .new _ => 3
  | .newarray _ => 2
  | .anewarray _ => 3
  | .ldc _ => 2
  | .ldc_w _ => 3
  | .ldc2_w _ => 3
  | .invokespecial _ => 3
  | .invokestatic _ => 3
  | _ => 0
noncomputable def eStep (oi : Nat) (ini : Bool) (pc : Nat) (ls : List (Option Value)) (st : List Value) (e : EH) (sl : Nat) : Instr → Option ESt
  | .aconst_null => some (ls, .null :: st, e, sl, none)
  | .iconst i => some (ls, .int (Int32.ofInt i) :: st, e, sl, none)
  | .bipush i => some (ls, .int (Int8.ofInt i).toInt32 :: st, e, sl, none)
  | .sipush i => some (ls, .int (Int16.ofInt i).toInt32 :: st, e, sl, none)
  | .lconst i => some (ls, .long (Int64.ofNat (i : Nat)) :: st, e, sl, none)
  | .iadd => (match st with | .int y :: .int x' :: r => some (ls, .int (x' + y) :: r, e, sl, none) | _ => none)
  | .isub => (match st with | .int y :: .int x' :: r => some (ls, .int (x' - y) :: r, e, sl, none) | _ => none)
  | .imul => (match st with | .int y :: .int x' :: r => some (ls, .int (x' * y) :: r, e, sl, none) | _ => none)
  | .iand => (match st with | .int y :: .int x' :: r => some (ls, .int (x' &&& y) :: r, e, sl, none) | _ => none)
  | .ior => (match st with | .int y :: .int x' :: r => some (ls, .int (x' ||| y) :: r, e, sl, none) | _ => none)
  | .ixor => (match st with | .int y :: .int x' :: r => some (ls, .int (x' ^^^ y) :: r, e, sl, none) | _ => none)
  | .ishl => (match st with | .int y :: .int x' :: r => some (ls, .int (x' <<< (y &&& 31)) :: r, e, sl, none) | _ => none)
  | .ishr => (match st with | .int y :: .int x' :: r => some (ls, .int (x' >>> (y &&& 31)) :: r, e, sl, none) | _ => none)
  | .iushr => (match st with | .int y :: .int x' :: r => some (ls, .int ((x'.toUInt32 >>> (y.toUInt32 &&& Int32.toUInt32 31)).toInt32) :: r, e, sl, none) | _ => none)
  | .ladd => (match st with | .long y :: .long x' :: r => some (ls, .long (x' + y) :: r, e, sl, none) | _ => none)
  | .lsub => (match st with | .long y :: .long x' :: r => some (ls, .long (x' - y) :: r, e, sl, none) | _ => none)
  | .lmul => (match st with | .long y :: .long x' :: r => some (ls, .long (x' * y) :: r, e, sl, none) | _ => none)
  | .lor => (match st with | .long y :: .long x' :: r => some (ls, .long (x' ||| y) :: r, e, sl, none) | _ => none)
  | .idiv => (match st with | .int y :: .int x' :: r => if y = 0 then none else some (ls, .int (x' / y) :: r, e, sl, none) | _ => none)
  | .irem => (match st with | .int y :: .int x' :: r => if y = 0 then none else some (ls, .int (x' - x' / y * y) :: r, e, sl, none) | _ => none)
  | .ineg => (match st with | .int x' :: r => some (ls, .int (-x') :: r, e, sl, none) | _ => none)
  | .i2l => (match st with | .int x' :: r => some (ls, .long x'.toInt64 :: r, e, sl, none) | _ => none)
  | .l2i => (match st with | .long x' :: r => some (ls, .int x'.toInt32 :: r, e, sl, none) | _ => none)
  | .i2c => (match st with | .int x' :: r => some (ls, .int (x'.toUInt32 % 65536).toInt32 :: r, e, sl, none) | _ => none)
  | .lcmp => (match st with | .long y :: .long x' :: r => some (ls, .int (lg_cmp x' y) :: r, e, sl, none) | _ => none)
  | .lshl => (match st with | .int y :: .long x' :: r => some (ls, .long (x' <<< (y.toInt64 &&& 63)) :: r, e, sl, none) | _ => none)
  | .dup => (match st with | v :: r => if v.category = 1 then some (ls, v :: v :: r, e, sl, none) else none | _ => none)
  | .pop => (match st with | v :: r => if v.category = 1 then some (ls, r, e, sl, none) else none | _ => none)
  | .dup_x1 => (match st with | v :: w :: r => if v.category = 1 ∧ w.category = 1 then some (ls, v :: w :: v :: r, e, sl, none) else none | _ => none)
  | .dup_x2 => (match st with | v :: w :: u :: r => if v.category = 1 ∧ w.category = 1 ∧ u.category = 1 then some (ls, v :: w :: u :: v :: r, e, sl, none) else none | _ => none)
  | .dup2 => (match st with | v :: w :: r => if v.category = 1 ∧ w.category = 1 then some (ls, v :: w :: v :: w :: r, e, sl, none) else none | _ => none)
  | .iload_n i => (match ls[(i : Nat)]? with | some (some (.int x')) => some (ls, .int x' :: st, e, sl, none) | _ => none)
  | .iload i => (match ls[i]? with | some (some (.int x')) => some (ls, .int x' :: st, e, sl, none) | _ => none)
  | .lload_n i => (match ls[(i : Nat)]? with | some (some (.long x')) => some (ls, .long x' :: st, e, sl, none) | _ => none)
  | .lload i => (match ls[i]? with | some (some (.long x')) => some (ls, .long x' :: st, e, sl, none) | _ => none)
  | .aload_n i => (match ls[(i : Nat)]? with | some (some (.ref a)) => some (ls, .ref a :: st, e, sl, none) | some (some .null) => some (ls, .null :: st, e, sl, none) | _ => none)
  | .aload i => (match ls[i]? with | some (some (.ref a)) => some (ls, .ref a :: st, e, sl, none) | some (some .null) => some (ls, .null :: st, e, sl, none) | _ => none)
  | .istore_n i => (match st with | .int x' :: r => if (i : Nat) < ls.length then some (st1 ls (i : Nat) (.int x'), r, e, sl, none) else none | _ => none)
  | .istore i => (match st with | .int x' :: r => if i < ls.length then some (st1 ls i (.int x'), r, e, sl, none) else none | _ => none)
  | .lstore_n i => (match st with | .long x' :: r => if (i : Nat) + 1 < ls.length then some (st2 ls (i : Nat) (.long x'), r, e, sl, none) else none | _ => none)
  | .lstore i => (match st with | .long x' :: r => if i + 1 < ls.length then some (st2 ls i (.long x'), r, e, sl, none) else none | _ => none)
  | .astore_n i => if (i : Nat) < ls.length then (match st with | .ref a :: r => some (st1 ls (i : Nat) (.ref a), r, e, sl, none) | .null :: r => some (st1 ls (i : Nat) .null, r, e, sl, none) | _ => none) else none
  | .astore i => if i < ls.length then (match st with | .ref a :: r => some (st1 ls i (.ref a), r, e, sl, none) | .null :: r => some (st1 ls i .null, r, e, sl, none) | _ => none) else none
  | .iinc i c => (match ls[i]? with | some (some (.int x')) => some (st1 ls i (.int (x' + Int32.ofInt c)), st, e, sl, none) | _ => none)
  | .goto off => some (ls, st, e, sl, some off)
  | .ifCond c off => (match st with | .int x' :: r => (match c with | .eq => if 0 ≤ (pc : Int) + off then (if x' = 0 then some (ls, r, e, sl, some off) else some (ls, r, e, sl, none)) else none | .ne => if 0 ≤ (pc : Int) + off then (if ¬ x' = 0 then some (ls, r, e, sl, some off) else some (ls, r, e, sl, none)) else none | .lt => if 0 ≤ (pc : Int) + off then (if x' < 0 then some (ls, r, e, sl, some off) else some (ls, r, e, sl, none)) else none | .ge => if 0 ≤ (pc : Int) + off then (if 0 ≤ x' then some (ls, r, e, sl, some off) else some (ls, r, e, sl, none)) else none | .gt => if 0 ≤ (pc : Int) + off then (if 0 < x' then some (ls, r, e, sl, some off) else some (ls, r, e, sl, none)) else none | .le => if 0 ≤ (pc : Int) + off then (if x' ≤ 0 then some (ls, r, e, sl, some off) else some (ls, r, e, sl, none)) else none) | _ => none)
  | .if_icmp c off => (match st with | .int y :: .int x' :: r => (match c with | .eq => if 0 ≤ (pc : Int) + off then (if x' = y then some (ls, r, e, sl, some off) else some (ls, r, e, sl, none)) else none | .ne => if 0 ≤ (pc : Int) + off then (if ¬ x' = y then some (ls, r, e, sl, some off) else some (ls, r, e, sl, none)) else none | .lt => if 0 ≤ (pc : Int) + off then (if x' < y then some (ls, r, e, sl, some off) else some (ls, r, e, sl, none)) else none | .ge => if 0 ≤ (pc : Int) + off then (if y ≤ x' then some (ls, r, e, sl, some off) else some (ls, r, e, sl, none)) else none | .gt => if 0 ≤ (pc : Int) + off then (if y < x' then some (ls, r, e, sl, some off) else some (ls, r, e, sl, none)) else none | .le => if 0 ≤ (pc : Int) + off then (if x' ≤ y then some (ls, r, e, sl, some off) else some (ls, r, e, sl, none)) else none) | _ => none)
  | .ifnull off => (match st with | .ref _ :: r => (if 0 ≤ (pc : Int) + off then some (ls, r, e, sl, none) else none) | .null :: r => some (ls, r, e, sl, some off) | _ => none)
  | .ifnonnull off => (match st with | .null :: r => (if 0 ≤ (pc : Int) + off then some (ls, r, e, sl, none) else none) | .ref _ :: r => some (ls, r, e, sl, some off) | _ => none)
  | .tableswitch dflt lo hi offs => (match st with | .int x' :: r => if x'.toInt < lo ∨ hi < x'.toInt then some (ls, r, e, sl, some dflt) else (match offs[(x'.toInt - lo).toNat]? with | some off => some (ls, r, e, sl, some off) | none => none) | _ => none)
  | .lookupswitch dflt ps => (match st with | .int x' :: r => if (ps.toList.zip (ps.toList.drop 1)).all (fun (a, next) => a.1 < next.1) = true then some (ls, r, e, sl, some (Op.lookupswitch.offset ps.toList dflt x'.toInt)) else none | _ => none)
  | .getfield idx => (match lAs (lFres.getD oi []) idx, st with | some (ci, k), .ref q :: r => (match eS e q with | .inl ci' => if ci' = ci then some (ls, lvV (eV none e) (tyA ci k) q k :: r, e, sl, none) else none | _ => none) | _, _ => none)
  | .putfield idx => (match lAs (lFres.getD oi []) idx, st with | some (ci, k), v :: .ref q :: r => (match eS e q with | .inl ci' => if ci' = ci ∧ (lFin ci k = false ∨ (ini = true ∧ ci = oi)) then (match kd (tyA ci k), v with | 0, .int x' => (if narrow (tyA ci k) (.int x') = .int x' ∧ fits (tyA ci k) (.int x') = true then some (ls, r, wI e q k x', sl, none) else none) | 1, .long x' => (if narrow (tyA ci k) (.long x') = .long x' ∧ fits (tyA ci k) (.long x') = true then some (ls, r, wJ e q k x', sl, none) else none) | 2, .ref a => some (ls, r, wR e q k (some a), sl, none) | 2, .null => some (ls, r, wR e q k none, sl, none) | _, _ => none) else none | _ => none) | _, _ => none)
  | .iaload => (match st with | .int i :: .ref q :: r => (match eS e q with | .inr (.int, n) => if i < 0 ∨ n ≤ i.toNatClampNeg then none else some (ls, .int (eI e q i.toNatClampNeg) :: r, e, sl, none) | _ => none) | _ => none)
  | .baload => (match st with | .int i :: .ref q :: r => (match eS e q with | .inr (.boolean, n) => if i < 0 ∨ n ≤ i.toNatClampNeg then none else some (ls, .int (eI e q i.toNatClampNeg) :: r, e, sl, none) | _ => none) | _ => none)
  | .laload => (match st with | .int i :: .ref q :: r => (match eS e q with | .inr (.long, n) => if i < 0 ∨ n ≤ i.toNatClampNeg then none else some (ls, .long (eJ e q i.toNatClampNeg) :: r, e, sl, none) | _ => none) | _ => none)
  | .aaload => (match st with | .int i :: .ref q :: r => (match eS e q with | .inr (.object C, n) => if (C = RX9 ∨ C = RX11) ∧ ¬ (i < 0 ∨ n ≤ i.toNatClampNeg) then some (ls, va_rf (eR e q i.toNatClampNeg) :: r, e, sl, none) else none | _ => none) | _ => none)
  | .iastore => (match st with | .int x' :: .int i :: .ref q :: r => (match eS e q with | .inr (.int, n) => if i < 0 ∨ n ≤ i.toNatClampNeg then none else some (ls, r, wI e q i.toNatClampNeg (x'), sl, none) | _ => none) | _ => none)
  | .bastore => (match st with | .int x' :: .int i :: .ref q :: r => (match eS e q with | .inr (.boolean, n) => if i < 0 ∨ n ≤ i.toNatClampNeg then none else some (ls, r, wI e q i.toNatClampNeg (vp_nar .boolean x'), sl, none) | _ => none) | _ => none)
  | .lastore => (match st with | .long x' :: .int i :: .ref q :: r => (match eS e q with | .inr (.long, n) => if i < 0 ∨ n ≤ i.toNatClampNeg then none else some (ls, r, wJ e q i.toNatClampNeg (x'), sl, none) | _ => none) | _ => none)
  | .aastore => (match st with | .ref a :: .int i :: .ref q :: r => (match eS e q, eS e a with | .inr (.object C, n), .inl ci => (match vwCl[ci]? with | some w => if (C = RX9 ∨ C = RX11) ∧ w.1 = C ∧ ¬ (i < 0 ∨ n ≤ i.toNatClampNeg) then some (ls, r, wR e q i.toNatClampNeg (some a), sl, none) else none | none => none) | _, _ => none) | _ => none)
  | .arraylength => (match st with | .ref q :: r => (match eS e q with | .inr (ty, n) => (if ty = .int ∨ ty = .boolean ∨ ty = .long ∨ ty = .object RX9 ∨ ty = .object RX11 then some (ls, .int (Int32.ofNat n) :: r, e, sl, none) else none) | _ => none) | _ => none)
  | .new idx => (match lAs (lCres.getD oi []) idx with | some ci => some (ls, .ref e.1 :: st, wN e (.inl ci), sl + nF ci, none) | none => none)
  | .newarray t => (match st with | .int n' :: r => (match t with | .int => (if ¬ n' < 0 ∧ n'.toNatClampNeg * 4 ≤ 536870912 then some (ls, .ref e.1 :: r, wN e (.inr (.int, n'.toNatClampNeg)), sl + n'.toNatClampNeg, none) else none) | .boolean => (if ¬ n' < 0 ∧ n'.toNatClampNeg * 1 ≤ 536870912 then some (ls, .ref e.1 :: r, wN e (.inr (.boolean, n'.toNatClampNeg)), sl + n'.toNatClampNeg, none) else none) | .long => (if ¬ n' < 0 ∧ n'.toNatClampNeg * 8 ≤ 536870912 then some (ls, .ref e.1 :: r, wN e (.inr (.long, n'.toNatClampNeg)), sl + n'.toNatClampNeg, none) else none) | _ => none) | _ => none)
  | .anewarray idx => (match lAs (lCres.getD oi []) idx, st with | some ci, .int n' :: r => (if (lOwnN ci = RX9 ∨ lOwnN ci = RX11) ∧ ¬ n' < 0 ∧ n'.toNatClampNeg * 4 ≤ 536870912 then some (ls, .ref e.1 :: r, wN e (.inr (.object (lOwnN ci), n'.toNatClampNeg)), sl + n'.toNatClampNeg, none) else none) | _, _ => none)
  | .ldc idx => (match lAs (lKon.getD oi []) idx with | some v => some (ls, .int v :: st, e, sl, none) | none => none)
  | .ldc_w idx => (match lAs (lKon.getD oi []) idx with | some v => some (ls, .int v :: st, e, sl, none) | none => none)
  | .ldc2_w idx => (match lAs (lKonL.getD oi []) idx with | some v => some (ls, .long v :: st, e, sl, none) | none => none)
  | .invokespecial idx => (match lAs (lMres.getD oi []) idx, st with | some (3, 0), .ref _ :: r => (if (r.map fun v => v.category).sum ≤ 8 then some (ls, r, e, sl, none) else none) | _, _ => none)
  | .invokestatic idx => (match lAs (lMres.getD oi []) idx, st with | some (5, 0), .int n' :: .int dp :: .ref a1 :: .int sp :: .ref a0 :: r => (match eS e a0, eS e a1 with | .inr (.int, n0), .inr (.int, n1) => (if ¬ sp < 0 ∧ ¬ dp < 0 ∧ ¬ n' < 0 ∧ sp.toNatClampNeg + n'.toNatClampNeg ≤ n0 ∧ dp.toNatClampNeg + n'.toNatClampNeg ≤ n1 ∧ (r.map fun v => v.category).sum ≤ 8 then some (ls, r, wC e a0 a1 sp.toNatClampNeg dp.toNatClampNeg n'.toNatClampNeg, sl, none) else none) | _, _ => none) | some (1, 321), .int y :: .int x' :: r => (if (r.map fun v => v.category).sum ≤ 8 then some (ls, .int (if y < x' then y else x') :: r, e, sl, none) else none) | some (1, 320), .int y :: .int x' :: r => (if (r.map fun v => v.category).sum ≤ 8 then some (ls, .int (if x' < y then y else x') :: r, e, sl, none) else none) | _, _ => none)
  | _ => none
set_option maxHeartbeats 4000000 in
theorem eStep_aconst_null {j d pc n : Nat} {ls : List (Option Value)} {st : List Value} {e : EH} {sl oi : Nat} {ini : Bool} {r : ESt} {x : Option (Nat × (Nat → Int32))}  (hoi : oi = (mt j).1) (hini : ini = true → (mY j).name = "<init>") (hlk : lk j pc = some (.aconst_null, n)) (hn : ilen (.aconst_null) = 0 ∨ n = ilen (.aconst_null)) (h : eStep oi ini pc ls st e sl (.aconst_null) = some r) : eOk j d pc n ls st x e sl r := by
  have hn : n = 1 := hn.resolve_left (fun q => by cases q)
  subst hn
  unfold eStep at h
  try dsimp only at h
  · cases h; refine eOk_of rfl (fun Q bc bs pc' hx k => ?_); cases hx; exact LW_null hlk k
set_option maxHeartbeats 4000000 in
theorem eStep_iconst {j d pc n : Nat} {ls : List (Option Value)} {st : List Value} {e : EH} {sl oi : Nat} {ini : Bool} {r : ESt} {x : Option (Nat × (Nat → Int32))} {i : Int} (hoi : oi = (mt j).1) (hini : ini = true → (mY j).name = "<init>") (hlk : lk j pc = some (.iconst i, n)) (hn : ilen (.iconst i) = 0 ∨ n = ilen (.iconst i)) (h : eStep oi ini pc ls st e sl (.iconst i) = some r) : eOk j d pc n ls st x e sl r := by
  have hn : n = 1 := hn.resolve_left (fun q => by cases q)
  subst hn
  unfold eStep at h
  try dsimp only at h
  · cases h; refine eOk_of rfl (fun Q bc bs pc' hx k => ?_); cases hx; exact LW_iconst hlk rfl k
set_option maxHeartbeats 4000000 in
theorem eStep_bipush {j d pc n : Nat} {ls : List (Option Value)} {st : List Value} {e : EH} {sl oi : Nat} {ini : Bool} {r : ESt} {x : Option (Nat × (Nat → Int32))} {i : Int} (hoi : oi = (mt j).1) (hini : ini = true → (mY j).name = "<init>") (hlk : lk j pc = some (.bipush i, n)) (hn : ilen (.bipush i) = 0 ∨ n = ilen (.bipush i)) (h : eStep oi ini pc ls st e sl (.bipush i) = some r) : eOk j d pc n ls st x e sl r := by
  have hn : n = 2 := hn.resolve_left (fun q => by cases q)
  subst hn
  unfold eStep at h
  try dsimp only at h
  · cases h; refine eOk_of rfl (fun Q bc bs pc' hx k => ?_); cases hx; exact LW_bipush hlk rfl k
set_option maxHeartbeats 4000000 in
theorem eStep_sipush {j d pc n : Nat} {ls : List (Option Value)} {st : List Value} {e : EH} {sl oi : Nat} {ini : Bool} {r : ESt} {x : Option (Nat × (Nat → Int32))} {i : Int} (hoi : oi = (mt j).1) (hini : ini = true → (mY j).name = "<init>") (hlk : lk j pc = some (.sipush i, n)) (hn : ilen (.sipush i) = 0 ∨ n = ilen (.sipush i)) (h : eStep oi ini pc ls st e sl (.sipush i) = some r) : eOk j d pc n ls st x e sl r := by
  have hn : n = 3 := hn.resolve_left (fun q => by cases q)
  subst hn
  unfold eStep at h
  try dsimp only at h
  · cases h; refine eOk_of rfl (fun Q bc bs pc' hx k => ?_); cases hx; exact LW_sipush hlk rfl k
set_option maxHeartbeats 4000000 in
theorem eStep_lconst {j d pc n : Nat} {ls : List (Option Value)} {st : List Value} {e : EH} {sl oi : Nat} {ini : Bool} {r : ESt} {x : Option (Nat × (Nat → Int32))} {i : Fin 2} (hoi : oi = (mt j).1) (hini : ini = true → (mY j).name = "<init>") (hlk : lk j pc = some (.lconst i, n)) (hn : ilen (.lconst i) = 0 ∨ n = ilen (.lconst i)) (h : eStep oi ini pc ls st e sl (.lconst i) = some r) : eOk j d pc n ls st x e sl r := by
  have hn : n = 1 := hn.resolve_left (fun q => by cases q)
  subst hn
  unfold eStep at h
  try dsimp only at h
  · cases h; refine eOk_of rfl (fun Q bc bs pc' hx k => ?_); cases hx; exact LW_lconst hlk rfl k
set_option maxHeartbeats 4000000 in
theorem eStep_iadd {j d pc n : Nat} {ls : List (Option Value)} {st : List Value} {e : EH} {sl oi : Nat} {ini : Bool} {r : ESt} {x : Option (Nat × (Nat → Int32))}  (hoi : oi = (mt j).1) (hini : ini = true → (mY j).name = "<init>") (hlk : lk j pc = some (.iadd, n)) (hn : ilen (.iadd) = 0 ∨ n = ilen (.iadd)) (h : eStep oi ini pc ls st e sl (.iadd) = some r) : eOk j d pc n ls st x e sl r := by
  have hn : n = 1 := hn.resolve_left (fun q => by cases q)
  subst hn
  unfold eStep at h
  try dsimp only at h
  · split at h <;> first | cases h | skip
    refine eOk_of rfl (fun Q bc bs pc' hx k => ?_); cases hx; exact LW_iadd hlk k
set_option maxHeartbeats 4000000 in
theorem eStep_isub {j d pc n : Nat} {ls : List (Option Value)} {st : List Value} {e : EH} {sl oi : Nat} {ini : Bool} {r : ESt} {x : Option (Nat × (Nat → Int32))}  (hoi : oi = (mt j).1) (hini : ini = true → (mY j).name = "<init>") (hlk : lk j pc = some (.isub, n)) (hn : ilen (.isub) = 0 ∨ n = ilen (.isub)) (h : eStep oi ini pc ls st e sl (.isub) = some r) : eOk j d pc n ls st x e sl r := by
  have hn : n = 1 := hn.resolve_left (fun q => by cases q)
  subst hn
  unfold eStep at h
  try dsimp only at h
  · split at h <;> first | cases h | skip
    refine eOk_of rfl (fun Q bc bs pc' hx k => ?_); cases hx; exact LW_isub hlk k
set_option maxHeartbeats 4000000 in
theorem eStep_imul {j d pc n : Nat} {ls : List (Option Value)} {st : List Value} {e : EH} {sl oi : Nat} {ini : Bool} {r : ESt} {x : Option (Nat × (Nat → Int32))}  (hoi : oi = (mt j).1) (hini : ini = true → (mY j).name = "<init>") (hlk : lk j pc = some (.imul, n)) (hn : ilen (.imul) = 0 ∨ n = ilen (.imul)) (h : eStep oi ini pc ls st e sl (.imul) = some r) : eOk j d pc n ls st x e sl r := by
  have hn : n = 1 := hn.resolve_left (fun q => by cases q)
  subst hn
  unfold eStep at h
  try dsimp only at h
  · split at h <;> first | cases h | skip
    refine eOk_of rfl (fun Q bc bs pc' hx k => ?_); cases hx; exact LW_imul hlk k
set_option maxHeartbeats 4000000 in
theorem eStep_iand {j d pc n : Nat} {ls : List (Option Value)} {st : List Value} {e : EH} {sl oi : Nat} {ini : Bool} {r : ESt} {x : Option (Nat × (Nat → Int32))}  (hoi : oi = (mt j).1) (hini : ini = true → (mY j).name = "<init>") (hlk : lk j pc = some (.iand, n)) (hn : ilen (.iand) = 0 ∨ n = ilen (.iand)) (h : eStep oi ini pc ls st e sl (.iand) = some r) : eOk j d pc n ls st x e sl r := by
  have hn : n = 1 := hn.resolve_left (fun q => by cases q)
  subst hn
  unfold eStep at h
  try dsimp only at h
  · split at h <;> first | cases h | skip
    refine eOk_of rfl (fun Q bc bs pc' hx k => ?_); cases hx; exact LW_iand hlk k
set_option maxHeartbeats 4000000 in
theorem eStep_ior {j d pc n : Nat} {ls : List (Option Value)} {st : List Value} {e : EH} {sl oi : Nat} {ini : Bool} {r : ESt} {x : Option (Nat × (Nat → Int32))}  (hoi : oi = (mt j).1) (hini : ini = true → (mY j).name = "<init>") (hlk : lk j pc = some (.ior, n)) (hn : ilen (.ior) = 0 ∨ n = ilen (.ior)) (h : eStep oi ini pc ls st e sl (.ior) = some r) : eOk j d pc n ls st x e sl r := by
  have hn : n = 1 := hn.resolve_left (fun q => by cases q)
  subst hn
  unfold eStep at h
  try dsimp only at h
  · split at h <;> first | cases h | skip
    refine eOk_of rfl (fun Q bc bs pc' hx k => ?_); cases hx; exact LW_ior hlk k
set_option maxHeartbeats 4000000 in
theorem eStep_ixor {j d pc n : Nat} {ls : List (Option Value)} {st : List Value} {e : EH} {sl oi : Nat} {ini : Bool} {r : ESt} {x : Option (Nat × (Nat → Int32))}  (hoi : oi = (mt j).1) (hini : ini = true → (mY j).name = "<init>") (hlk : lk j pc = some (.ixor, n)) (hn : ilen (.ixor) = 0 ∨ n = ilen (.ixor)) (h : eStep oi ini pc ls st e sl (.ixor) = some r) : eOk j d pc n ls st x e sl r := by
  have hn : n = 1 := hn.resolve_left (fun q => by cases q)
  subst hn
  unfold eStep at h
  try dsimp only at h
  · split at h <;> first | cases h | skip
    refine eOk_of rfl (fun Q bc bs pc' hx k => ?_); cases hx; exact LW_ixor hlk k
set_option maxHeartbeats 4000000 in
theorem eStep_ishl {j d pc n : Nat} {ls : List (Option Value)} {st : List Value} {e : EH} {sl oi : Nat} {ini : Bool} {r : ESt} {x : Option (Nat × (Nat → Int32))}  (hoi : oi = (mt j).1) (hini : ini = true → (mY j).name = "<init>") (hlk : lk j pc = some (.ishl, n)) (hn : ilen (.ishl) = 0 ∨ n = ilen (.ishl)) (h : eStep oi ini pc ls st e sl (.ishl) = some r) : eOk j d pc n ls st x e sl r := by
  have hn : n = 1 := hn.resolve_left (fun q => by cases q)
  subst hn
  unfold eStep at h
  try dsimp only at h
  · split at h <;> first | cases h | skip
    refine eOk_of rfl (fun Q bc bs pc' hx k => ?_); cases hx; exact LW_ishl hlk k
set_option maxHeartbeats 4000000 in
theorem eStep_ishr {j d pc n : Nat} {ls : List (Option Value)} {st : List Value} {e : EH} {sl oi : Nat} {ini : Bool} {r : ESt} {x : Option (Nat × (Nat → Int32))}  (hoi : oi = (mt j).1) (hini : ini = true → (mY j).name = "<init>") (hlk : lk j pc = some (.ishr, n)) (hn : ilen (.ishr) = 0 ∨ n = ilen (.ishr)) (h : eStep oi ini pc ls st e sl (.ishr) = some r) : eOk j d pc n ls st x e sl r := by
  have hn : n = 1 := hn.resolve_left (fun q => by cases q)
  subst hn
  unfold eStep at h
  try dsimp only at h
  · split at h <;> first | cases h | skip
    refine eOk_of rfl (fun Q bc bs pc' hx k => ?_); cases hx; exact LW_ishr hlk k
set_option maxHeartbeats 4000000 in
theorem eStep_iushr {j d pc n : Nat} {ls : List (Option Value)} {st : List Value} {e : EH} {sl oi : Nat} {ini : Bool} {r : ESt} {x : Option (Nat × (Nat → Int32))}  (hoi : oi = (mt j).1) (hini : ini = true → (mY j).name = "<init>") (hlk : lk j pc = some (.iushr, n)) (hn : ilen (.iushr) = 0 ∨ n = ilen (.iushr)) (h : eStep oi ini pc ls st e sl (.iushr) = some r) : eOk j d pc n ls st x e sl r := by
  have hn : n = 1 := hn.resolve_left (fun q => by cases q)
  subst hn
  unfold eStep at h
  try dsimp only at h
  · split at h <;> first | cases h | skip
    refine eOk_of rfl (fun Q bc bs pc' hx k => ?_); cases hx; exact LW_iushr hlk k
set_option maxHeartbeats 4000000 in
theorem eStep_ladd {j d pc n : Nat} {ls : List (Option Value)} {st : List Value} {e : EH} {sl oi : Nat} {ini : Bool} {r : ESt} {x : Option (Nat × (Nat → Int32))}  (hoi : oi = (mt j).1) (hini : ini = true → (mY j).name = "<init>") (hlk : lk j pc = some (.ladd, n)) (hn : ilen (.ladd) = 0 ∨ n = ilen (.ladd)) (h : eStep oi ini pc ls st e sl (.ladd) = some r) : eOk j d pc n ls st x e sl r := by
  have hn : n = 1 := hn.resolve_left (fun q => by cases q)
  subst hn
  unfold eStep at h
  try dsimp only at h
  · split at h <;> first | cases h | skip
    refine eOk_of rfl (fun Q bc bs pc' hx k => ?_); cases hx; exact LW_ladd hlk k
set_option maxHeartbeats 4000000 in
theorem eStep_lsub {j d pc n : Nat} {ls : List (Option Value)} {st : List Value} {e : EH} {sl oi : Nat} {ini : Bool} {r : ESt} {x : Option (Nat × (Nat → Int32))}  (hoi : oi = (mt j).1) (hini : ini = true → (mY j).name = "<init>") (hlk : lk j pc = some (.lsub, n)) (hn : ilen (.lsub) = 0 ∨ n = ilen (.lsub)) (h : eStep oi ini pc ls st e sl (.lsub) = some r) : eOk j d pc n ls st x e sl r := by
  have hn : n = 1 := hn.resolve_left (fun q => by cases q)
  subst hn
  unfold eStep at h
  try dsimp only at h
  · split at h <;> first | cases h | skip
    refine eOk_of rfl (fun Q bc bs pc' hx k => ?_); cases hx; exact LW_lsub hlk k
set_option maxHeartbeats 4000000 in
theorem eStep_lmul {j d pc n : Nat} {ls : List (Option Value)} {st : List Value} {e : EH} {sl oi : Nat} {ini : Bool} {r : ESt} {x : Option (Nat × (Nat → Int32))}  (hoi : oi = (mt j).1) (hini : ini = true → (mY j).name = "<init>") (hlk : lk j pc = some (.lmul, n)) (hn : ilen (.lmul) = 0 ∨ n = ilen (.lmul)) (h : eStep oi ini pc ls st e sl (.lmul) = some r) : eOk j d pc n ls st x e sl r := by
  have hn : n = 1 := hn.resolve_left (fun q => by cases q)
  subst hn
  unfold eStep at h
  try dsimp only at h
  · split at h <;> first | cases h | skip
    refine eOk_of rfl (fun Q bc bs pc' hx k => ?_); cases hx; exact LW_lmul hlk k
set_option maxHeartbeats 4000000 in
theorem eStep_lor {j d pc n : Nat} {ls : List (Option Value)} {st : List Value} {e : EH} {sl oi : Nat} {ini : Bool} {r : ESt} {x : Option (Nat × (Nat → Int32))}  (hoi : oi = (mt j).1) (hini : ini = true → (mY j).name = "<init>") (hlk : lk j pc = some (.lor, n)) (hn : ilen (.lor) = 0 ∨ n = ilen (.lor)) (h : eStep oi ini pc ls st e sl (.lor) = some r) : eOk j d pc n ls st x e sl r := by
  have hn : n = 1 := hn.resolve_left (fun q => by cases q)
  subst hn
  unfold eStep at h
  try dsimp only at h
  · split at h <;> first | cases h | skip
    refine eOk_of rfl (fun Q bc bs pc' hx k => ?_); cases hx; exact LW_lor hlk k
set_option maxHeartbeats 4000000 in
theorem eStep_idiv {j d pc n : Nat} {ls : List (Option Value)} {st : List Value} {e : EH} {sl oi : Nat} {ini : Bool} {r : ESt} {x : Option (Nat × (Nat → Int32))}  (hoi : oi = (mt j).1) (hini : ini = true → (mY j).name = "<init>") (hlk : lk j pc = some (.idiv, n)) (hn : ilen (.idiv) = 0 ∨ n = ilen (.idiv)) (h : eStep oi ini pc ls st e sl (.idiv) = some r) : eOk j d pc n ls st x e sl r := by
  have hn : n = 1 := hn.resolve_left (fun q => by cases q)
  subst hn
  unfold eStep at h
  try dsimp only at h
  · split at h <;> first | cases h | skip
    split at h <;> first | cases h | skip
    rename_i hne
    refine eOk_of rfl (fun Q bc bs pc' hx k => ?_); cases hx; exact LW_idiv hlk hne k
set_option maxHeartbeats 4000000 in
theorem eStep_irem {j d pc n : Nat} {ls : List (Option Value)} {st : List Value} {e : EH} {sl oi : Nat} {ini : Bool} {r : ESt} {x : Option (Nat × (Nat → Int32))}  (hoi : oi = (mt j).1) (hini : ini = true → (mY j).name = "<init>") (hlk : lk j pc = some (.irem, n)) (hn : ilen (.irem) = 0 ∨ n = ilen (.irem)) (h : eStep oi ini pc ls st e sl (.irem) = some r) : eOk j d pc n ls st x e sl r := by
  have hn : n = 1 := hn.resolve_left (fun q => by cases q)
  subst hn
  unfold eStep at h
  try dsimp only at h
  · split at h <;> first | cases h | skip
    split at h <;> first | cases h | skip
    rename_i hne
    refine eOk_of rfl (fun Q bc bs pc' hx k => ?_); cases hx; exact LW_irem hlk hne k
set_option maxHeartbeats 4000000 in
theorem eStep_ineg {j d pc n : Nat} {ls : List (Option Value)} {st : List Value} {e : EH} {sl oi : Nat} {ini : Bool} {r : ESt} {x : Option (Nat × (Nat → Int32))}  (hoi : oi = (mt j).1) (hini : ini = true → (mY j).name = "<init>") (hlk : lk j pc = some (.ineg, n)) (hn : ilen (.ineg) = 0 ∨ n = ilen (.ineg)) (h : eStep oi ini pc ls st e sl (.ineg) = some r) : eOk j d pc n ls st x e sl r := by
  have hn : n = 1 := hn.resolve_left (fun q => by cases q)
  subst hn
  unfold eStep at h
  try dsimp only at h
  · split at h <;> first | cases h | skip
    refine eOk_of rfl (fun Q bc bs pc' hx k => ?_); cases hx; exact LW_ineg hlk k
set_option maxHeartbeats 4000000 in
theorem eStep_i2l {j d pc n : Nat} {ls : List (Option Value)} {st : List Value} {e : EH} {sl oi : Nat} {ini : Bool} {r : ESt} {x : Option (Nat × (Nat → Int32))}  (hoi : oi = (mt j).1) (hini : ini = true → (mY j).name = "<init>") (hlk : lk j pc = some (.i2l, n)) (hn : ilen (.i2l) = 0 ∨ n = ilen (.i2l)) (h : eStep oi ini pc ls st e sl (.i2l) = some r) : eOk j d pc n ls st x e sl r := by
  have hn : n = 1 := hn.resolve_left (fun q => by cases q)
  subst hn
  unfold eStep at h
  try dsimp only at h
  · split at h <;> first | cases h | skip
    refine eOk_of rfl (fun Q bc bs pc' hx k => ?_); cases hx; exact LW_i2l hlk k
set_option maxHeartbeats 4000000 in
theorem eStep_l2i {j d pc n : Nat} {ls : List (Option Value)} {st : List Value} {e : EH} {sl oi : Nat} {ini : Bool} {r : ESt} {x : Option (Nat × (Nat → Int32))}  (hoi : oi = (mt j).1) (hini : ini = true → (mY j).name = "<init>") (hlk : lk j pc = some (.l2i, n)) (hn : ilen (.l2i) = 0 ∨ n = ilen (.l2i)) (h : eStep oi ini pc ls st e sl (.l2i) = some r) : eOk j d pc n ls st x e sl r := by
  have hn : n = 1 := hn.resolve_left (fun q => by cases q)
  subst hn
  unfold eStep at h
  try dsimp only at h
  · split at h <;> first | cases h | skip
    refine eOk_of rfl (fun Q bc bs pc' hx k => ?_); cases hx; exact LW_l2i hlk k
set_option maxHeartbeats 4000000 in
theorem eStep_i2c {j d pc n : Nat} {ls : List (Option Value)} {st : List Value} {e : EH} {sl oi : Nat} {ini : Bool} {r : ESt} {x : Option (Nat × (Nat → Int32))}  (hoi : oi = (mt j).1) (hini : ini = true → (mY j).name = "<init>") (hlk : lk j pc = some (.i2c, n)) (hn : ilen (.i2c) = 0 ∨ n = ilen (.i2c)) (h : eStep oi ini pc ls st e sl (.i2c) = some r) : eOk j d pc n ls st x e sl r := by
  have hn : n = 1 := hn.resolve_left (fun q => by cases q)
  subst hn
  unfold eStep at h
  try dsimp only at h
  · split at h <;> first | cases h | skip
    refine eOk_of rfl (fun Q bc bs pc' hx k => ?_); cases hx; exact LW_i2c hlk k
set_option maxHeartbeats 4000000 in
theorem eStep_lcmp {j d pc n : Nat} {ls : List (Option Value)} {st : List Value} {e : EH} {sl oi : Nat} {ini : Bool} {r : ESt} {x : Option (Nat × (Nat → Int32))}  (hoi : oi = (mt j).1) (hini : ini = true → (mY j).name = "<init>") (hlk : lk j pc = some (.lcmp, n)) (hn : ilen (.lcmp) = 0 ∨ n = ilen (.lcmp)) (h : eStep oi ini pc ls st e sl (.lcmp) = some r) : eOk j d pc n ls st x e sl r := by
  have hn : n = 1 := hn.resolve_left (fun q => by cases q)
  subst hn
  unfold eStep at h
  try dsimp only at h
  · split at h <;> first | cases h | skip
    refine eOk_of rfl (fun Q bc bs pc' hx k => ?_); cases hx; exact LW_lcmp hlk k
set_option maxHeartbeats 4000000 in
theorem eStep_lshl {j d pc n : Nat} {ls : List (Option Value)} {st : List Value} {e : EH} {sl oi : Nat} {ini : Bool} {r : ESt} {x : Option (Nat × (Nat → Int32))}  (hoi : oi = (mt j).1) (hini : ini = true → (mY j).name = "<init>") (hlk : lk j pc = some (.lshl, n)) (hn : ilen (.lshl) = 0 ∨ n = ilen (.lshl)) (h : eStep oi ini pc ls st e sl (.lshl) = some r) : eOk j d pc n ls st x e sl r := by
  have hn : n = 1 := hn.resolve_left (fun q => by cases q)
  subst hn
  unfold eStep at h
  try dsimp only at h
  · split at h <;> first | cases h | skip
    refine eOk_of rfl (fun Q bc bs pc' hx k => ?_); cases hx; exact LW_lshl hlk k
set_option maxHeartbeats 4000000 in
theorem eStep_dup {j d pc n : Nat} {ls : List (Option Value)} {st : List Value} {e : EH} {sl oi : Nat} {ini : Bool} {r : ESt} {x : Option (Nat × (Nat → Int32))}  (hoi : oi = (mt j).1) (hini : ini = true → (mY j).name = "<init>") (hlk : lk j pc = some (.dup, n)) (hn : ilen (.dup) = 0 ∨ n = ilen (.dup)) (h : eStep oi ini pc ls st e sl (.dup) = some r) : eOk j d pc n ls st x e sl r := by
  have hn : n = 1 := hn.resolve_left (fun q => by cases q)
  subst hn
  unfold eStep at h
  try dsimp only at h
  · split at h <;> first | cases h | skip
    split at h <;> first | cases h | skip
    rename_i hg
    refine eOk_of rfl (fun Q bc bs pc' hx k => ?_); cases hx; exact LW_dup hlk hg k
set_option maxHeartbeats 4000000 in
theorem eStep_pop {j d pc n : Nat} {ls : List (Option Value)} {st : List Value} {e : EH} {sl oi : Nat} {ini : Bool} {r : ESt} {x : Option (Nat × (Nat → Int32))}  (hoi : oi = (mt j).1) (hini : ini = true → (mY j).name = "<init>") (hlk : lk j pc = some (.pop, n)) (hn : ilen (.pop) = 0 ∨ n = ilen (.pop)) (h : eStep oi ini pc ls st e sl (.pop) = some r) : eOk j d pc n ls st x e sl r := by
  have hn : n = 1 := hn.resolve_left (fun q => by cases q)
  subst hn
  unfold eStep at h
  try dsimp only at h
  · split at h <;> first | cases h | skip
    split at h <;> first | cases h | skip
    rename_i hg
    refine eOk_of rfl (fun Q bc bs pc' hx k => ?_); cases hx; exact LW_pop hlk hg k
set_option maxHeartbeats 4000000 in
theorem eStep_dup_x1 {j d pc n : Nat} {ls : List (Option Value)} {st : List Value} {e : EH} {sl oi : Nat} {ini : Bool} {r : ESt} {x : Option (Nat × (Nat → Int32))}  (hoi : oi = (mt j).1) (hini : ini = true → (mY j).name = "<init>") (hlk : lk j pc = some (.dup_x1, n)) (hn : ilen (.dup_x1) = 0 ∨ n = ilen (.dup_x1)) (h : eStep oi ini pc ls st e sl (.dup_x1) = some r) : eOk j d pc n ls st x e sl r := by
  have hn : n = 1 := hn.resolve_left (fun q => by cases q)
  subst hn
  unfold eStep at h
  try dsimp only at h
  · split at h <;> first | cases h | skip
    split at h <;> first | cases h | skip
    rename_i hg
    refine eOk_of rfl (fun Q bc bs pc' hx k => ?_); cases hx; exact LW_dup_x1 hlk hg.1 hg.2 k
set_option maxHeartbeats 4000000 in
theorem eStep_dup_x2 {j d pc n : Nat} {ls : List (Option Value)} {st : List Value} {e : EH} {sl oi : Nat} {ini : Bool} {r : ESt} {x : Option (Nat × (Nat → Int32))}  (hoi : oi = (mt j).1) (hini : ini = true → (mY j).name = "<init>") (hlk : lk j pc = some (.dup_x2, n)) (hn : ilen (.dup_x2) = 0 ∨ n = ilen (.dup_x2)) (h : eStep oi ini pc ls st e sl (.dup_x2) = some r) : eOk j d pc n ls st x e sl r := by
  have hn : n = 1 := hn.resolve_left (fun q => by cases q)
  subst hn
  unfold eStep at h
  try dsimp only at h
  · split at h <;> first | cases h | skip
    split at h <;> first | cases h | skip
    rename_i hg
    refine eOk_of rfl (fun Q bc bs pc' hx k => ?_); cases hx; exact LW_dup_x2 hlk hg.1 hg.2.1 hg.2.2 k
set_option maxHeartbeats 4000000 in
theorem eStep_dup2 {j d pc n : Nat} {ls : List (Option Value)} {st : List Value} {e : EH} {sl oi : Nat} {ini : Bool} {r : ESt} {x : Option (Nat × (Nat → Int32))}  (hoi : oi = (mt j).1) (hini : ini = true → (mY j).name = "<init>") (hlk : lk j pc = some (.dup2, n)) (hn : ilen (.dup2) = 0 ∨ n = ilen (.dup2)) (h : eStep oi ini pc ls st e sl (.dup2) = some r) : eOk j d pc n ls st x e sl r := by
  have hn : n = 1 := hn.resolve_left (fun q => by cases q)
  subst hn
  unfold eStep at h
  try dsimp only at h
  · split at h <;> first | cases h | skip
    split at h <;> first | cases h | skip
    rename_i hg
    refine eOk_of rfl (fun Q bc bs pc' hx k => ?_); cases hx; exact LW_dup2 hlk hg.1 hg.2 k
set_option maxHeartbeats 4000000 in
theorem eStep_iload_n {j d pc n : Nat} {ls : List (Option Value)} {st : List Value} {e : EH} {sl oi : Nat} {ini : Bool} {r : ESt} {x : Option (Nat × (Nat → Int32))} {i : Fin 4} (hoi : oi = (mt j).1) (hini : ini = true → (mY j).name = "<init>") (hlk : lk j pc = some (.iload_n i, n)) (hn : ilen (.iload_n i) = 0 ∨ n = ilen (.iload_n i)) (h : eStep oi ini pc ls st e sl (.iload_n i) = some r) : eOk j d pc n ls st x e sl r := by
  have hn : n = 1 := hn.resolve_left (fun q => by cases q)
  subst hn
  unfold eStep at h
  try dsimp only at h
  · split at h <;> first | cases h | skip
    rename_i hi
    refine eOk_of rfl (fun Q bc bs pc' hx k => ?_); cases hx; exact LW_iload_n hlk rfl hi k
set_option maxHeartbeats 4000000 in
theorem eStep_iload {j d pc n : Nat} {ls : List (Option Value)} {st : List Value} {e : EH} {sl oi : Nat} {ini : Bool} {r : ESt} {x : Option (Nat × (Nat → Int32))} {i : Nat} (hoi : oi = (mt j).1) (hini : ini = true → (mY j).name = "<init>") (hlk : lk j pc = some (.iload i, n)) (hn : ilen (.iload i) = 0 ∨ n = ilen (.iload i)) (h : eStep oi ini pc ls st e sl (.iload i) = some r) : eOk j d pc n ls st x e sl r := by
  have hn : n = 2 := hn.resolve_left (fun q => by cases q)
  subst hn
  unfold eStep at h
  try dsimp only at h
  · split at h <;> first | cases h | skip
    rename_i hi
    refine eOk_of rfl (fun Q bc bs pc' hx k => ?_); cases hx; exact LW_iload hlk hi k
set_option maxHeartbeats 4000000 in
theorem eStep_lload_n {j d pc n : Nat} {ls : List (Option Value)} {st : List Value} {e : EH} {sl oi : Nat} {ini : Bool} {r : ESt} {x : Option (Nat × (Nat → Int32))} {i : Fin 4} (hoi : oi = (mt j).1) (hini : ini = true → (mY j).name = "<init>") (hlk : lk j pc = some (.lload_n i, n)) (hn : ilen (.lload_n i) = 0 ∨ n = ilen (.lload_n i)) (h : eStep oi ini pc ls st e sl (.lload_n i) = some r) : eOk j d pc n ls st x e sl r := by
  have hn : n = 1 := hn.resolve_left (fun q => by cases q)
  subst hn
  unfold eStep at h
  try dsimp only at h
  · split at h <;> first | cases h | skip
    rename_i hi
    refine eOk_of rfl (fun Q bc bs pc' hx k => ?_); cases hx; exact LW_lload_n hlk rfl hi k
set_option maxHeartbeats 4000000 in
theorem eStep_lload {j d pc n : Nat} {ls : List (Option Value)} {st : List Value} {e : EH} {sl oi : Nat} {ini : Bool} {r : ESt} {x : Option (Nat × (Nat → Int32))} {i : Nat} (hoi : oi = (mt j).1) (hini : ini = true → (mY j).name = "<init>") (hlk : lk j pc = some (.lload i, n)) (hn : ilen (.lload i) = 0 ∨ n = ilen (.lload i)) (h : eStep oi ini pc ls st e sl (.lload i) = some r) : eOk j d pc n ls st x e sl r := by
  have hn : n = 2 := hn.resolve_left (fun q => by cases q)
  subst hn
  unfold eStep at h
  try dsimp only at h
  · split at h <;> first | cases h | skip
    rename_i hi
    refine eOk_of rfl (fun Q bc bs pc' hx k => ?_); cases hx; exact LW_lload hlk hi k
set_option maxHeartbeats 4000000 in
theorem eStep_aload_n {j d pc n : Nat} {ls : List (Option Value)} {st : List Value} {e : EH} {sl oi : Nat} {ini : Bool} {r : ESt} {x : Option (Nat × (Nat → Int32))} {i : Fin 4} (hoi : oi = (mt j).1) (hini : ini = true → (mY j).name = "<init>") (hlk : lk j pc = some (.aload_n i, n)) (hn : ilen (.aload_n i) = 0 ∨ n = ilen (.aload_n i)) (h : eStep oi ini pc ls st e sl (.aload_n i) = some r) : eOk j d pc n ls st x e sl r := by
  have hn : n = 1 := hn.resolve_left (fun q => by cases q)
  subst hn
  unfold eStep at h
  try dsimp only at h
  · split at h <;> first | cases h | skip
    · rename_i hi
      refine eOk_of rfl (fun Q bc bs pc' hx k => ?_); cases hx; exact LW_aload_n hlk rfl hi k
    · rename_i hi
      refine eOk_of rfl (fun Q bc bs pc' hx k => ?_); cases hx; exact LW_aload_nN hlk rfl hi k
set_option maxHeartbeats 4000000 in
theorem eStep_aload {j d pc n : Nat} {ls : List (Option Value)} {st : List Value} {e : EH} {sl oi : Nat} {ini : Bool} {r : ESt} {x : Option (Nat × (Nat → Int32))} {i : Nat} (hoi : oi = (mt j).1) (hini : ini = true → (mY j).name = "<init>") (hlk : lk j pc = some (.aload i, n)) (hn : ilen (.aload i) = 0 ∨ n = ilen (.aload i)) (h : eStep oi ini pc ls st e sl (.aload i) = some r) : eOk j d pc n ls st x e sl r := by
  have hn : n = 2 := hn.resolve_left (fun q => by cases q)
  subst hn
  unfold eStep at h
  try dsimp only at h
  · split at h <;> first | cases h | skip
    · rename_i hi
      refine eOk_of rfl (fun Q bc bs pc' hx k => ?_); cases hx; exact LW_aload hlk hi k
    · rename_i hi
      refine eOk_of rfl (fun Q bc bs pc' hx k => ?_); cases hx; exact LW_aloadN hlk hi k
set_option maxHeartbeats 4000000 in
theorem eStep_istore_n {j d pc n : Nat} {ls : List (Option Value)} {st : List Value} {e : EH} {sl oi : Nat} {ini : Bool} {r : ESt} {x : Option (Nat × (Nat → Int32))} {i : Fin 4} (hoi : oi = (mt j).1) (hini : ini = true → (mY j).name = "<init>") (hlk : lk j pc = some (.istore_n i, n)) (hn : ilen (.istore_n i) = 0 ∨ n = ilen (.istore_n i)) (h : eStep oi ini pc ls st e sl (.istore_n i) = some r) : eOk j d pc n ls st x e sl r := by
  have hn : n = 1 := hn.resolve_left (fun q => by cases q)
  subst hn
  unfold eStep at h
  try dsimp only at h
  · split at h <;> first | cases h | skip
    split at h <;> first | cases h | skip
    rename_i hg
    refine eOk_of rfl (fun Q bc bs pc' hx k => ?_); cases hx; exact LW_istore_n hlk rfl hg rfl k
set_option maxHeartbeats 4000000 in
theorem eStep_istore {j d pc n : Nat} {ls : List (Option Value)} {st : List Value} {e : EH} {sl oi : Nat} {ini : Bool} {r : ESt} {x : Option (Nat × (Nat → Int32))} {i : Nat} (hoi : oi = (mt j).1) (hini : ini = true → (mY j).name = "<init>") (hlk : lk j pc = some (.istore i, n)) (hn : ilen (.istore i) = 0 ∨ n = ilen (.istore i)) (h : eStep oi ini pc ls st e sl (.istore i) = some r) : eOk j d pc n ls st x e sl r := by
  have hn : n = 2 := hn.resolve_left (fun q => by cases q)
  subst hn
  unfold eStep at h
  try dsimp only at h
  · split at h <;> first | cases h | skip
    split at h <;> first | cases h | skip
    rename_i hg
    refine eOk_of rfl (fun Q bc bs pc' hx k => ?_); cases hx; exact LW_istore hlk hg rfl k
set_option maxHeartbeats 4000000 in
theorem eStep_lstore_n {j d pc n : Nat} {ls : List (Option Value)} {st : List Value} {e : EH} {sl oi : Nat} {ini : Bool} {r : ESt} {x : Option (Nat × (Nat → Int32))} {i : Fin 4} (hoi : oi = (mt j).1) (hini : ini = true → (mY j).name = "<init>") (hlk : lk j pc = some (.lstore_n i, n)) (hn : ilen (.lstore_n i) = 0 ∨ n = ilen (.lstore_n i)) (h : eStep oi ini pc ls st e sl (.lstore_n i) = some r) : eOk j d pc n ls st x e sl r := by
  have hn : n = 1 := hn.resolve_left (fun q => by cases q)
  subst hn
  unfold eStep at h
  try dsimp only at h
  · split at h <;> first | cases h | skip
    split at h <;> first | cases h | skip
    rename_i hg
    refine eOk_of rfl (fun Q bc bs pc' hx k => ?_); cases hx; exact LW_lstore_n hlk rfl hg rfl k
set_option maxHeartbeats 4000000 in
theorem eStep_lstore {j d pc n : Nat} {ls : List (Option Value)} {st : List Value} {e : EH} {sl oi : Nat} {ini : Bool} {r : ESt} {x : Option (Nat × (Nat → Int32))} {i : Nat} (hoi : oi = (mt j).1) (hini : ini = true → (mY j).name = "<init>") (hlk : lk j pc = some (.lstore i, n)) (hn : ilen (.lstore i) = 0 ∨ n = ilen (.lstore i)) (h : eStep oi ini pc ls st e sl (.lstore i) = some r) : eOk j d pc n ls st x e sl r := by
  have hn : n = 2 := hn.resolve_left (fun q => by cases q)
  subst hn
  unfold eStep at h
  try dsimp only at h
  · split at h <;> first | cases h | skip
    split at h <;> first | cases h | skip
    rename_i hg
    refine eOk_of rfl (fun Q bc bs pc' hx k => ?_); cases hx; exact LW_lstore hlk hg rfl k
set_option maxHeartbeats 4000000 in
theorem eStep_astore_n {j d pc n : Nat} {ls : List (Option Value)} {st : List Value} {e : EH} {sl oi : Nat} {ini : Bool} {r : ESt} {x : Option (Nat × (Nat → Int32))} {i : Fin 4} (hoi : oi = (mt j).1) (hini : ini = true → (mY j).name = "<init>") (hlk : lk j pc = some (.astore_n i, n)) (hn : ilen (.astore_n i) = 0 ∨ n = ilen (.astore_n i)) (h : eStep oi ini pc ls st e sl (.astore_n i) = some r) : eOk j d pc n ls st x e sl r := by
  have hn : n = 1 := hn.resolve_left (fun q => by cases q)
  subst hn
  unfold eStep at h
  try dsimp only at h
  · split at h <;> first | cases h | skip
    rename_i hg
    split at h <;> first | cases h | skip
    · refine eOk_of rfl (fun Q bc bs pc' hx k => ?_); cases hx; exact LW_astore_n hlk rfl hg rfl k
    · refine eOk_of rfl (fun Q bc bs pc' hx k => ?_); cases hx; exact LW_astore_nN hlk rfl hg rfl k
set_option maxHeartbeats 4000000 in
theorem eStep_astore {j d pc n : Nat} {ls : List (Option Value)} {st : List Value} {e : EH} {sl oi : Nat} {ini : Bool} {r : ESt} {x : Option (Nat × (Nat → Int32))} {i : Nat} (hoi : oi = (mt j).1) (hini : ini = true → (mY j).name = "<init>") (hlk : lk j pc = some (.astore i, n)) (hn : ilen (.astore i) = 0 ∨ n = ilen (.astore i)) (h : eStep oi ini pc ls st e sl (.astore i) = some r) : eOk j d pc n ls st x e sl r := by
  have hn : n = 2 := hn.resolve_left (fun q => by cases q)
  subst hn
  unfold eStep at h
  try dsimp only at h
  · split at h <;> first | cases h | skip
    rename_i hg
    split at h <;> first | cases h | skip
    · refine eOk_of rfl (fun Q bc bs pc' hx k => ?_); cases hx; exact LW_astore hlk hg rfl k
    · refine eOk_of rfl (fun Q bc bs pc' hx k => ?_); cases hx; exact LW_astoreN hlk hg rfl k
set_option maxHeartbeats 4000000 in
theorem eStep_iinc {j d pc n : Nat} {ls : List (Option Value)} {st : List Value} {e : EH} {sl oi : Nat} {ini : Bool} {r : ESt} {x : Option (Nat × (Nat → Int32))} {i : Nat} {c : Int} (hoi : oi = (mt j).1) (hini : ini = true → (mY j).name = "<init>") (hlk : lk j pc = some (.iinc i c, n)) (hn : ilen (.iinc i c) = 0 ∨ n = ilen (.iinc i c)) (h : eStep oi ini pc ls st e sl (.iinc i c) = some r) : eOk j d pc n ls st x e sl r := by
  have hn : n = 3 := hn.resolve_left (fun q => by cases q)
  subst hn
  unfold eStep at h
  try dsimp only at h
  · split at h <;> first | cases h | skip
    rename_i hi
    refine eOk_of rfl (fun Q bc bs pc' hx k => ?_); cases hx; exact LW_iinc hlk hi rfl rfl k
set_option maxHeartbeats 4000000 in
theorem eStep_goto {j d pc n : Nat} {ls : List (Option Value)} {st : List Value} {e : EH} {sl oi : Nat} {ini : Bool} {r : ESt} {x : Option (Nat × (Nat → Int32))} {off : Int} (hoi : oi = (mt j).1) (hini : ini = true → (mY j).name = "<init>") (hlk : lk j pc = some (.goto off, n)) (hn : ilen (.goto off) = 0 ∨ n = ilen (.goto off)) (h : eStep oi ini pc ls st e sl (.goto off) = some r) : eOk j d pc n ls st x e sl r := by
  have hn : n = 3 := hn.resolve_left (fun q => by cases q)
  subst hn
  unfold eStep at h
  try dsimp only at h
  · cases h; refine eOk_of rfl (fun Q bc bs pc' hx k => ?_); exact LW_goto hlk hx k
set_option maxHeartbeats 4000000 in
theorem eStep_ifCond {j d pc n : Nat} {ls : List (Option Value)} {st : List Value} {e : EH} {sl oi : Nat} {ini : Bool} {r : ESt} {x : Option (Nat × (Nat → Int32))} {c : ClassFile.Cond} {off : Int} (hoi : oi = (mt j).1) (hini : ini = true → (mY j).name = "<init>") (hlk : lk j pc = some (.ifCond c off, n)) (hn : ilen (.ifCond c off) = 0 ∨ n = ilen (.ifCond c off)) (h : eStep oi ini pc ls st e sl (.ifCond c off) = some r) : eOk j d pc n ls st x e sl r := by
  have hn : n = 3 := hn.resolve_left (fun q => by cases q)
  subst hn
  unfold eStep at h
  try dsimp only at h
  · split at h <;> first | cases h | skip
    split at h
    · split at h
      · rename_i hp
        split at h
        · rename_i hc; cases h; refine eOk_of rfl (fun Q bc bs pc' hx k => ?_); exact LW_if_eq hlk hx (fun _ => k) (fun q => by first | exact absurd hc q | exact absurd q hc)
        · rename_i hc; cases h; refine eOk_of rfl (fun Q bc bs pc' hx k => ?_); cases hx; exact LW_if_eq hlk (tgt := ((pc : Int) + off).toNat) (Int.toNat_of_nonneg hp).symm (fun q => absurd q hc) (fun _ => k)
      · cases h
    · split at h
      · rename_i hp
        split at h
        · rename_i hc; cases h; refine eOk_of rfl (fun Q bc bs pc' hx k => ?_); exact LW_if_ne hlk hx (fun _ => k) (fun q => by first | exact absurd hc q | exact absurd q hc)
        · rename_i hc; cases h; refine eOk_of rfl (fun Q bc bs pc' hx k => ?_); cases hx; exact LW_if_ne hlk (tgt := ((pc : Int) + off).toNat) (Int.toNat_of_nonneg hp).symm (fun q => absurd q hc) (fun _ => k)
      · cases h
    · split at h
      · rename_i hp
        split at h
        · rename_i hc; cases h; refine eOk_of rfl (fun Q bc bs pc' hx k => ?_); exact LW_if_lt hlk hx (fun _ => k) (fun q => by first | exact absurd hc q | exact absurd q hc)
        · rename_i hc; cases h; refine eOk_of rfl (fun Q bc bs pc' hx k => ?_); cases hx; exact LW_if_lt hlk (tgt := ((pc : Int) + off).toNat) (Int.toNat_of_nonneg hp).symm (fun q => absurd q hc) (fun _ => k)
      · cases h
    · split at h
      · rename_i hp
        split at h
        · rename_i hc; cases h; refine eOk_of rfl (fun Q bc bs pc' hx k => ?_); exact LW_if_ge hlk hx (fun _ => k) (fun q => by first | exact absurd hc q | exact absurd q hc)
        · rename_i hc; cases h; refine eOk_of rfl (fun Q bc bs pc' hx k => ?_); cases hx; exact LW_if_ge hlk (tgt := ((pc : Int) + off).toNat) (Int.toNat_of_nonneg hp).symm (fun q => absurd q hc) (fun _ => k)
      · cases h
    · split at h
      · rename_i hp
        split at h
        · rename_i hc; cases h; refine eOk_of rfl (fun Q bc bs pc' hx k => ?_); exact LW_if_gt hlk hx (fun _ => k) (fun q => by first | exact absurd hc q | exact absurd q hc)
        · rename_i hc; cases h; refine eOk_of rfl (fun Q bc bs pc' hx k => ?_); cases hx; exact LW_if_gt hlk (tgt := ((pc : Int) + off).toNat) (Int.toNat_of_nonneg hp).symm (fun q => absurd q hc) (fun _ => k)
      · cases h
    · split at h
      · rename_i hp
        split at h
        · rename_i hc; cases h; refine eOk_of rfl (fun Q bc bs pc' hx k => ?_); exact LW_if_le hlk hx (fun _ => k) (fun q => by first | exact absurd hc q | exact absurd q hc)
        · rename_i hc; cases h; refine eOk_of rfl (fun Q bc bs pc' hx k => ?_); cases hx; exact LW_if_le hlk (tgt := ((pc : Int) + off).toNat) (Int.toNat_of_nonneg hp).symm (fun q => absurd q hc) (fun _ => k)
      · cases h
set_option maxHeartbeats 4000000 in
theorem eStep_if_icmp {j d pc n : Nat} {ls : List (Option Value)} {st : List Value} {e : EH} {sl oi : Nat} {ini : Bool} {r : ESt} {x : Option (Nat × (Nat → Int32))} {c : ClassFile.Cond} {off : Int} (hoi : oi = (mt j).1) (hini : ini = true → (mY j).name = "<init>") (hlk : lk j pc = some (.if_icmp c off, n)) (hn : ilen (.if_icmp c off) = 0 ∨ n = ilen (.if_icmp c off)) (h : eStep oi ini pc ls st e sl (.if_icmp c off) = some r) : eOk j d pc n ls st x e sl r := by
  have hn : n = 3 := hn.resolve_left (fun q => by cases q)
  subst hn
  unfold eStep at h
  try dsimp only at h
  · split at h <;> first | cases h | skip
    split at h
    · split at h
      · rename_i hp
        split at h
        · rename_i hc; cases h; refine eOk_of rfl (fun Q bc bs pc' hx k => ?_); exact LW_icmp_eq hlk hx (fun _ => k) (fun q => by first | exact absurd hc q | exact absurd q hc)
        · rename_i hc; cases h; refine eOk_of rfl (fun Q bc bs pc' hx k => ?_); cases hx; exact LW_icmp_eq hlk (tgt := ((pc : Int) + off).toNat) (Int.toNat_of_nonneg hp).symm (fun q => absurd q hc) (fun _ => k)
      · cases h
    · split at h
      · rename_i hp
        split at h
        · rename_i hc; cases h; refine eOk_of rfl (fun Q bc bs pc' hx k => ?_); exact LW_icmp_ne hlk hx (fun _ => k) (fun q => by first | exact absurd hc q | exact absurd q hc)
        · rename_i hc; cases h; refine eOk_of rfl (fun Q bc bs pc' hx k => ?_); cases hx; exact LW_icmp_ne hlk (tgt := ((pc : Int) + off).toNat) (Int.toNat_of_nonneg hp).symm (fun q => absurd q hc) (fun _ => k)
      · cases h
    · split at h
      · rename_i hp
        split at h
        · rename_i hc; cases h; refine eOk_of rfl (fun Q bc bs pc' hx k => ?_); exact LW_icmp_lt hlk hx (fun _ => k) (fun q => by first | exact absurd hc q | exact absurd q hc)
        · rename_i hc; cases h; refine eOk_of rfl (fun Q bc bs pc' hx k => ?_); cases hx; exact LW_icmp_lt hlk (tgt := ((pc : Int) + off).toNat) (Int.toNat_of_nonneg hp).symm (fun q => absurd q hc) (fun _ => k)
      · cases h
    · split at h
      · rename_i hp
        split at h
        · rename_i hc; cases h; refine eOk_of rfl (fun Q bc bs pc' hx k => ?_); exact LW_icmp_ge hlk hx (fun _ => k) (fun q => by first | exact absurd hc q | exact absurd q hc)
        · rename_i hc; cases h; refine eOk_of rfl (fun Q bc bs pc' hx k => ?_); cases hx; exact LW_icmp_ge hlk (tgt := ((pc : Int) + off).toNat) (Int.toNat_of_nonneg hp).symm (fun q => absurd q hc) (fun _ => k)
      · cases h
    · split at h
      · rename_i hp
        split at h
        · rename_i hc; cases h; refine eOk_of rfl (fun Q bc bs pc' hx k => ?_); exact LW_icmp_gt hlk hx (fun _ => k) (fun q => by first | exact absurd hc q | exact absurd q hc)
        · rename_i hc; cases h; refine eOk_of rfl (fun Q bc bs pc' hx k => ?_); cases hx; exact LW_icmp_gt hlk (tgt := ((pc : Int) + off).toNat) (Int.toNat_of_nonneg hp).symm (fun q => absurd q hc) (fun _ => k)
      · cases h
    · split at h
      · rename_i hp
        split at h
        · rename_i hc; cases h; refine eOk_of rfl (fun Q bc bs pc' hx k => ?_); exact LW_icmp_le hlk hx (fun _ => k) (fun q => by first | exact absurd hc q | exact absurd q hc)
        · rename_i hc; cases h; refine eOk_of rfl (fun Q bc bs pc' hx k => ?_); cases hx; exact LW_icmp_le hlk (tgt := ((pc : Int) + off).toNat) (Int.toNat_of_nonneg hp).symm (fun q => absurd q hc) (fun _ => k)
      · cases h
set_option maxHeartbeats 4000000 in
theorem eStep_ifnull {j d pc n : Nat} {ls : List (Option Value)} {st : List Value} {e : EH} {sl oi : Nat} {ini : Bool} {r : ESt} {x : Option (Nat × (Nat → Int32))} {off : Int} (hoi : oi = (mt j).1) (hini : ini = true → (mY j).name = "<init>") (hlk : lk j pc = some (.ifnull off, n)) (hn : ilen (.ifnull off) = 0 ∨ n = ilen (.ifnull off)) (h : eStep oi ini pc ls st e sl (.ifnull off) = some r) : eOk j d pc n ls st x e sl r := by
  have hn : n = 3 := hn.resolve_left (fun q => by cases q)
  subst hn
  unfold eStep at h
  try dsimp only at h
  · split at h <;> first | cases h | skip
    · split at h <;> first | cases h | skip
      rename_i hp
      refine eOk_of rfl (fun Q bc bs pc' hx k => ?_); cases hx; exact LW_ifnull hlk (tgt := ((pc : Int) + off).toNat) (Int.toNat_of_nonneg hp).symm k
    · refine eOk_of rfl (fun Q bc bs pc' hx k => ?_); exact LW_ifnullN hlk hx k
set_option maxHeartbeats 4000000 in
theorem eStep_ifnonnull {j d pc n : Nat} {ls : List (Option Value)} {st : List Value} {e : EH} {sl oi : Nat} {ini : Bool} {r : ESt} {x : Option (Nat × (Nat → Int32))} {off : Int} (hoi : oi = (mt j).1) (hini : ini = true → (mY j).name = "<init>") (hlk : lk j pc = some (.ifnonnull off, n)) (hn : ilen (.ifnonnull off) = 0 ∨ n = ilen (.ifnonnull off)) (h : eStep oi ini pc ls st e sl (.ifnonnull off) = some r) : eOk j d pc n ls st x e sl r := by
  have hn : n = 3 := hn.resolve_left (fun q => by cases q)
  subst hn
  unfold eStep at h
  try dsimp only at h
  · split at h <;> first | cases h | skip
    · split at h <;> first | cases h | skip
      rename_i hp
      refine eOk_of rfl (fun Q bc bs pc' hx k => ?_); cases hx; exact LW_ifnonnullN hlk (tgt := ((pc : Int) + off).toNat) (Int.toNat_of_nonneg hp).symm k
    · refine eOk_of rfl (fun Q bc bs pc' hx k => ?_); exact LW_ifnonnull hlk hx k
set_option maxHeartbeats 4000000 in
theorem eStep_tableswitch {j d pc n : Nat} {ls : List (Option Value)} {st : List Value} {e : EH} {sl oi : Nat} {ini : Bool} {r : ESt} {x : Option (Nat × (Nat → Int32))} {dflt lo hi : Int} {offs : Array Int} (hoi : oi = (mt j).1) (hini : ini = true → (mY j).name = "<init>") (hlk : lk j pc = some (.tableswitch dflt lo hi offs, n)) (hn : ilen (.tableswitch dflt lo hi offs) = 0 ∨ n = ilen (.tableswitch dflt lo hi offs)) (h : eStep oi ini pc ls st e sl (.tableswitch dflt lo hi offs) = some r) : eOk j d pc n ls st x e sl r := by
  unfold eStep at h
  try dsimp only at h
  · split at h <;> first | cases h | skip
    split at h
    · rename_i hc; cases h; refine eOk_of rfl (fun Q bc bs pc' hx k => ?_); exact LW_tableOut hlk hc hx k
    · rename_i hc; split at h <;> first | cases h | skip
      rename_i ho
      refine eOk_of rfl (fun Q bc bs pc' hx k => ?_); exact LW_tableIn hlk (fun q => hc (Or.inl q)) (fun q => hc (Or.inr q)) ho hx k
set_option maxHeartbeats 4000000 in
theorem eStep_lookupswitch {j d pc n : Nat} {ls : List (Option Value)} {st : List Value} {e : EH} {sl oi : Nat} {ini : Bool} {r : ESt} {x : Option (Nat × (Nat → Int32))} {dflt : Int} {ps : Array (Int × Int)} (hoi : oi = (mt j).1) (hini : ini = true → (mY j).name = "<init>") (hlk : lk j pc = some (.lookupswitch dflt ps, n)) (hn : ilen (.lookupswitch dflt ps) = 0 ∨ n = ilen (.lookupswitch dflt ps)) (h : eStep oi ini pc ls st e sl (.lookupswitch dflt ps) = some r) : eOk j d pc n ls st x e sl r := by
  unfold eStep at h
  try dsimp only at h
  · split at h <;> first | cases h | skip
    split at h <;> first | cases h | skip
    rename_i hc
    refine eOk_of rfl (fun Q bc bs pc' hx k => ?_); exact LW_lookup hlk hc rfl hx k
set_option maxHeartbeats 4000000 in
theorem eStep_getfield {j d pc n : Nat} {ls : List (Option Value)} {st : List Value} {e : EH} {sl oi : Nat} {ini : Bool} {r : ESt} {x : Option (Nat × (Nat → Int32))} {idx : Nat} (hoi : oi = (mt j).1) (hini : ini = true → (mY j).name = "<init>") (hlk : lk j pc = some (.getfield idx, n)) (hn : ilen (.getfield idx) = 0 ∨ n = ilen (.getfield idx)) (h : eStep oi ini pc ls st e sl (.getfield idx) = some r) : eOk j d pc n ls st x e sl r := by
  have hn : n = 3 := hn.resolve_left (fun q => by cases q)
  subst hn
  unfold eStep at h
  try dsimp only at h
  · split at h <;> first | cases h | skip
    rename_i ci k q r hf
    split at h <;> first | cases h | skip
    rename_i ci' hsh
    split at h <;> first | cases h | skip
    rename_i hci
    subst hci
    subst hoi
    refine eOk_of rfl (fun Q bc bs pc' hx kk => ?_); cases hx; exact LW_getV hlk hf hsh kk
set_option maxHeartbeats 4000000 in
theorem eStep_putfield {j d pc n : Nat} {ls : List (Option Value)} {st : List Value} {e : EH} {sl oi : Nat} {ini : Bool} {r : ESt} {x : Option (Nat × (Nat → Int32))} {idx : Nat} (hoi : oi = (mt j).1) (hini : ini = true → (mY j).name = "<init>") (hlk : lk j pc = some (.putfield idx, n)) (hn : ilen (.putfield idx) = 0 ∨ n = ilen (.putfield idx)) (h : eStep oi ini pc ls st e sl (.putfield idx) = some r) : eOk j d pc n ls st x e sl r := by
  have hn : n = 3 := hn.resolve_left (fun q => by cases q)
  subst hn
  unfold eStep at h
  try dsimp only at h
  · split at h <;> first | cases h | skip
    rename_i ci k v q r hf
    split at h <;> first | cases h | skip
    rename_i ci' hsh
    split at h <;> first | cases h | skip
    rename_i hg
    obtain ⟨hci, hfin0⟩ := hg
    subst hci
    have hfin : lFin ci' k = false ∨ ((mY j).name = "<init>" ∧ lDecl ci' k = mO j) := by
      rcases hfin0 with h0 | ⟨h1, h2⟩
      · exact Or.inl h0
      · refine Or.inr ⟨hini h1, ?_⟩
        subst hoi
        obtain ⟨C, T, N, hcl, hkN, -⟩ := fres_ok (j := j) hf
        have hN := (clOK hcl).1
        have hlt : ci' < 14 := (List.getElem?_eq_some_iff.mp hcl).1
        rw [lDecl_own ci' hlt k (by omega), h2]
        rfl
    subst hoi
    split at h
    · rename_i hk
      split at h <;> first | cases h | skip
      rename_i hg2
      refine eOk_of rfl (fun Q bc bs pc' hx kk => ?_); cases hx; rw [eV_wI] at kk; exact LW_putI hlk hf hsh hk hg2.1 hg2.2 hfin kk
    · rename_i hk
      split at h <;> first | cases h | skip
      rename_i hg2
      refine eOk_of rfl (fun Q bc bs pc' hx kk => ?_); cases hx; rw [eV_wJ] at kk; exact LW_putJ hlk hf hsh hk hg2.1 hg2.2 hfin kk
    · rename_i hk
      cases h
      refine eOk_of rfl (fun Q bc bs pc' hx kk => ?_); cases hx; rw [eV_wR] at kk; exact LW_putR (r := some _) hlk hf hsh hk hfin kk
    · rename_i hk
      cases h
      refine eOk_of rfl (fun Q bc bs pc' hx kk => ?_); cases hx; rw [eV_wR] at kk; exact LW_putR (r := none) hlk hf hsh hk hfin kk
    · cases h
set_option maxHeartbeats 4000000 in
theorem eStep_iaload {j d pc n : Nat} {ls : List (Option Value)} {st : List Value} {e : EH} {sl oi : Nat} {ini : Bool} {r : ESt} {x : Option (Nat × (Nat → Int32))}  (hoi : oi = (mt j).1) (hini : ini = true → (mY j).name = "<init>") (hlk : lk j pc = some (.iaload, n)) (hn : ilen (.iaload) = 0 ∨ n = ilen (.iaload)) (h : eStep oi ini pc ls st e sl (.iaload) = some r) : eOk j d pc n ls st x e sl r := by
  have hn : n = 1 := hn.resolve_left (fun q => by cases q)
  subst hn
  unfold eStep at h
  try dsimp only at h
  · split at h <;> first | cases h | skip
    split at h <;> first | cases h | skip
    rename_i hsh
    split at h <;> first | cases h | skip
    rename_i hin
    refine eOk_of rfl (fun Q bc bs pc' hx k => ?_); cases hx; exact LW_iald hlk hsh hin k
set_option maxHeartbeats 4000000 in
theorem eStep_baload {j d pc n : Nat} {ls : List (Option Value)} {st : List Value} {e : EH} {sl oi : Nat} {ini : Bool} {r : ESt} {x : Option (Nat × (Nat → Int32))}  (hoi : oi = (mt j).1) (hini : ini = true → (mY j).name = "<init>") (hlk : lk j pc = some (.baload, n)) (hn : ilen (.baload) = 0 ∨ n = ilen (.baload)) (h : eStep oi ini pc ls st e sl (.baload) = some r) : eOk j d pc n ls st x e sl r := by
  have hn : n = 1 := hn.resolve_left (fun q => by cases q)
  subst hn
  unfold eStep at h
  try dsimp only at h
  · split at h <;> first | cases h | skip
    split at h <;> first | cases h | skip
    rename_i hsh
    split at h <;> first | cases h | skip
    rename_i hin
    refine eOk_of rfl (fun Q bc bs pc' hx k => ?_); cases hx; exact LW_zald hlk hsh hin k
set_option maxHeartbeats 4000000 in
theorem eStep_laload {j d pc n : Nat} {ls : List (Option Value)} {st : List Value} {e : EH} {sl oi : Nat} {ini : Bool} {r : ESt} {x : Option (Nat × (Nat → Int32))}  (hoi : oi = (mt j).1) (hini : ini = true → (mY j).name = "<init>") (hlk : lk j pc = some (.laload, n)) (hn : ilen (.laload) = 0 ∨ n = ilen (.laload)) (h : eStep oi ini pc ls st e sl (.laload) = some r) : eOk j d pc n ls st x e sl r := by
  have hn : n = 1 := hn.resolve_left (fun q => by cases q)
  subst hn
  unfold eStep at h
  try dsimp only at h
  · split at h <;> first | cases h | skip
    split at h <;> first | cases h | skip
    rename_i hsh
    split at h <;> first | cases h | skip
    rename_i hin
    refine eOk_of rfl (fun Q bc bs pc' hx k => ?_); cases hx; exact LW_lald hlk hsh hin k
set_option maxHeartbeats 4000000 in
theorem eStep_aaload {j d pc n : Nat} {ls : List (Option Value)} {st : List Value} {e : EH} {sl oi : Nat} {ini : Bool} {r : ESt} {x : Option (Nat × (Nat → Int32))}  (hoi : oi = (mt j).1) (hini : ini = true → (mY j).name = "<init>") (hlk : lk j pc = some (.aaload, n)) (hn : ilen (.aaload) = 0 ∨ n = ilen (.aaload)) (h : eStep oi ini pc ls st e sl (.aaload) = some r) : eOk j d pc n ls st x e sl r := by
  have hn : n = 1 := hn.resolve_left (fun q => by cases q)
  subst hn
  unfold eStep at h
  try dsimp only at h
  · split at h <;> first | cases h | skip
    split at h <;> first | cases h | skip
    rename_i hsh
    split at h <;> first | cases h | skip
    rename_i hg
    obtain ⟨hC, hin⟩ := hg
    obtain ⟨t0, ht⟩ := lTys_obj hC
    refine eOk_of rfl (fun Q bc bs pc' hx k => ?_); cases hx; exact LW_aald hlk hsh ht hin k
set_option maxHeartbeats 4000000 in
theorem eStep_iastore {j d pc n : Nat} {ls : List (Option Value)} {st : List Value} {e : EH} {sl oi : Nat} {ini : Bool} {r : ESt} {x : Option (Nat × (Nat → Int32))}  (hoi : oi = (mt j).1) (hini : ini = true → (mY j).name = "<init>") (hlk : lk j pc = some (.iastore, n)) (hn : ilen (.iastore) = 0 ∨ n = ilen (.iastore)) (h : eStep oi ini pc ls st e sl (.iastore) = some r) : eOk j d pc n ls st x e sl r := by
  have hn : n = 1 := hn.resolve_left (fun q => by cases q)
  subst hn
  unfold eStep at h
  try dsimp only at h
  · split at h <;> first | cases h | skip
    split at h <;> first | cases h | skip
    rename_i hsh
    split at h <;> first | cases h | skip
    rename_i hin
    refine eOk_of rfl (fun Q bc bs pc' hx k => ?_); cases hx; rw [eV_wI] at k; exact LW_iast hlk hsh hin k
set_option maxHeartbeats 4000000 in
theorem eStep_bastore {j d pc n : Nat} {ls : List (Option Value)} {st : List Value} {e : EH} {sl oi : Nat} {ini : Bool} {r : ESt} {x : Option (Nat × (Nat → Int32))}  (hoi : oi = (mt j).1) (hini : ini = true → (mY j).name = "<init>") (hlk : lk j pc = some (.bastore, n)) (hn : ilen (.bastore) = 0 ∨ n = ilen (.bastore)) (h : eStep oi ini pc ls st e sl (.bastore) = some r) : eOk j d pc n ls st x e sl r := by
  have hn : n = 1 := hn.resolve_left (fun q => by cases q)
  subst hn
  unfold eStep at h
  try dsimp only at h
  · split at h <;> first | cases h | skip
    split at h <;> first | cases h | skip
    rename_i hsh
    split at h <;> first | cases h | skip
    rename_i hin
    refine eOk_of rfl (fun Q bc bs pc' hx k => ?_); cases hx; rw [eV_wI] at k; exact LW_zast hlk hsh hin rfl k
set_option maxHeartbeats 4000000 in
theorem eStep_lastore {j d pc n : Nat} {ls : List (Option Value)} {st : List Value} {e : EH} {sl oi : Nat} {ini : Bool} {r : ESt} {x : Option (Nat × (Nat → Int32))}  (hoi : oi = (mt j).1) (hini : ini = true → (mY j).name = "<init>") (hlk : lk j pc = some (.lastore, n)) (hn : ilen (.lastore) = 0 ∨ n = ilen (.lastore)) (h : eStep oi ini pc ls st e sl (.lastore) = some r) : eOk j d pc n ls st x e sl r := by
  have hn : n = 1 := hn.resolve_left (fun q => by cases q)
  subst hn
  unfold eStep at h
  try dsimp only at h
  · split at h <;> first | cases h | skip
    split at h <;> first | cases h | skip
    rename_i hsh
    split at h <;> first | cases h | skip
    rename_i hin
    refine eOk_of rfl (fun Q bc bs pc' hx k => ?_); cases hx; rw [eV_wJ] at k; exact LW_last hlk hsh hin k
set_option maxHeartbeats 4000000 in
theorem eStep_aastore {j d pc n : Nat} {ls : List (Option Value)} {st : List Value} {e : EH} {sl oi : Nat} {ini : Bool} {r : ESt} {x : Option (Nat × (Nat → Int32))}  (hoi : oi = (mt j).1) (hini : ini = true → (mY j).name = "<init>") (hlk : lk j pc = some (.aastore, n)) (hn : ilen (.aastore) = 0 ∨ n = ilen (.aastore)) (h : eStep oi ini pc ls st e sl (.aastore) = some r) : eOk j d pc n ls st x e sl r := by
  have hn : n = 1 := hn.resolve_left (fun q => by cases q)
  subst hn
  unfold eStep at h
  try dsimp only at h
  · split at h <;> first | cases h | skip
    split at h <;> first | cases h | skip
    rename_i hsh hsa
    split at h <;> first | cases h | skip
    rename_i w hw0
    split at h <;> first | cases h | skip
    rename_i hg
    obtain ⟨hC, hwC, hin⟩ := hg
    obtain ⟨t0, ht⟩ := lTys_obj hC
    subst hwC
    refine eOk_of rfl (fun Q bc bs pc' hx k => ?_); cases hx; rw [eV_wR] at k; exact LW_aast (C := w.1) (T := w.2.1) (N := w.2.2) hlk hsh ht hsa hw0 hin k
set_option maxHeartbeats 4000000 in
theorem eStep_arraylength {j d pc n : Nat} {ls : List (Option Value)} {st : List Value} {e : EH} {sl oi : Nat} {ini : Bool} {r : ESt} {x : Option (Nat × (Nat → Int32))}  (hoi : oi = (mt j).1) (hini : ini = true → (mY j).name = "<init>") (hlk : lk j pc = some (.arraylength, n)) (hn : ilen (.arraylength) = 0 ∨ n = ilen (.arraylength)) (h : eStep oi ini pc ls st e sl (.arraylength) = some r) : eOk j d pc n ls st x e sl r := by
  have hn : n = 1 := hn.resolve_left (fun q => by cases q)
  subst hn
  unfold eStep at h
  try dsimp only at h
  · split at h <;> first | cases h | skip
    split at h <;> first | cases h | skip
    rename_i hsh
    split at h <;> first | cases h | skip
    rename_i hg
    obtain ⟨t0, ht⟩ := lTys_any hg
    refine eOk_of rfl (fun Q bc bs pc' hx k => ?_); cases hx; exact LW_alen hlk hsh ht rfl k
set_option maxHeartbeats 4000000 in
theorem eStep_new {j d pc n : Nat} {ls : List (Option Value)} {st : List Value} {e : EH} {sl oi : Nat} {ini : Bool} {r : ESt} {x : Option (Nat × (Nat → Int32))} {idx : Nat} (hoi : oi = (mt j).1) (hini : ini = true → (mY j).name = "<init>") (hlk : lk j pc = some (.new idx, n)) (hn : ilen (.new idx) = 0 ∨ n = ilen (.new idx)) (h : eStep oi ini pc ls st e sl (.new idx) = some r) : eOk j d pc n ls st x e sl r := by
  have hn : n = 3 := hn.resolve_left (fun q => by cases q)
  subst hn
  unfold eStep at h
  try dsimp only at h
  · split at h <;> first | cases h | skip
    rename_i hf
    subst hoi
    refine eOk_new rfl (fun Q bc bs pc' hx k => ?_); cases hx; rw [eV_wN] at k; exact LW_new hlk hf k
set_option maxHeartbeats 4000000 in
theorem eStep_newarray {j d pc n : Nat} {ls : List (Option Value)} {st : List Value} {e : EH} {sl oi : Nat} {ini : Bool} {r : ESt} {x : Option (Nat × (Nat → Int32))} {t : ArrayType} (hoi : oi = (mt j).1) (hini : ini = true → (mY j).name = "<init>") (hlk : lk j pc = some (.newarray t, n)) (hn : ilen (.newarray t) = 0 ∨ n = ilen (.newarray t)) (h : eStep oi ini pc ls st e sl (.newarray t) = some r) : eOk j d pc n ls st x e sl r := by
  have hn : n = 2 := hn.resolve_left (fun q => by cases q)
  subst hn
  unfold eStep at h
  try dsimp only at h
  · split at h <;> first | cases h | skip
    split at h
    · split at h <;> first | cases h | skip
      rename_i hg
      refine eOk_new rfl (fun Q bc bs pc' hx k => ?_); cases hx; rw [eV_wN] at k; exact LW_newI hlk hg.1 rfl hg.2 k
    · split at h <;> first | cases h | skip
      rename_i hg
      refine eOk_new rfl (fun Q bc bs pc' hx k => ?_); cases hx; rw [eV_wN] at k; exact LW_newZ hlk hg.1 rfl hg.2 k
    · split at h <;> first | cases h | skip
      rename_i hg
      refine eOk_new rfl (fun Q bc bs pc' hx k => ?_); cases hx; rw [eV_wN] at k; exact LW_newJ hlk hg.1 rfl hg.2 k
    · cases h
set_option maxHeartbeats 4000000 in
theorem eStep_anewarray {j d pc n : Nat} {ls : List (Option Value)} {st : List Value} {e : EH} {sl oi : Nat} {ini : Bool} {r : ESt} {x : Option (Nat × (Nat → Int32))} {idx : Nat} (hoi : oi = (mt j).1) (hini : ini = true → (mY j).name = "<init>") (hlk : lk j pc = some (.anewarray idx, n)) (hn : ilen (.anewarray idx) = 0 ∨ n = ilen (.anewarray idx)) (h : eStep oi ini pc ls st e sl (.anewarray idx) = some r) : eOk j d pc n ls st x e sl r := by
  have hn : n = 3 := hn.resolve_left (fun q => by cases q)
  subst hn
  unfold eStep at h
  try dsimp only at h
  · split at h <;> first | cases h | skip
    rename_i hf
    split at h <;> first | cases h | skip
    rename_i hg
    subst hoi
    obtain ⟨h1, h2, h3⟩ := hg
    rcases h1 with h1 | h1
    · refine eOk_new rfl (fun Q bc bs pc' hx k => ?_); cases hx; rw [eV_wN] at k; exact LW_newA hlk hf (Or.inl ⟨h1, rfl⟩) h2 rfl h3 k
    · refine eOk_new rfl (fun Q bc bs pc' hx k => ?_); cases hx; rw [eV_wN] at k; exact LW_newA hlk hf (Or.inr ⟨h1, rfl⟩) h2 rfl h3 k
set_option maxHeartbeats 4000000 in
theorem eStep_ldc {j d pc n : Nat} {ls : List (Option Value)} {st : List Value} {e : EH} {sl oi : Nat} {ini : Bool} {r : ESt} {x : Option (Nat × (Nat → Int32))} {idx : Nat} (hoi : oi = (mt j).1) (hini : ini = true → (mY j).name = "<init>") (hlk : lk j pc = some (.ldc idx, n)) (hn : ilen (.ldc idx) = 0 ∨ n = ilen (.ldc idx)) (h : eStep oi ini pc ls st e sl (.ldc idx) = some r) : eOk j d pc n ls st x e sl r := by
  have hn : n = 2 := hn.resolve_left (fun q => by cases q)
  subst hn
  unfold eStep at h
  try dsimp only at h
  · split at h <;> first | cases h | skip
    rename_i hv
    subst hoi
    refine eOk_of rfl (fun Q bc bs pc' hx k => ?_); cases hx; exact LW_ldc hlk hv k
set_option maxHeartbeats 4000000 in
theorem eStep_ldc_w {j d pc n : Nat} {ls : List (Option Value)} {st : List Value} {e : EH} {sl oi : Nat} {ini : Bool} {r : ESt} {x : Option (Nat × (Nat → Int32))} {idx : Nat} (hoi : oi = (mt j).1) (hini : ini = true → (mY j).name = "<init>") (hlk : lk j pc = some (.ldc_w idx, n)) (hn : ilen (.ldc_w idx) = 0 ∨ n = ilen (.ldc_w idx)) (h : eStep oi ini pc ls st e sl (.ldc_w idx) = some r) : eOk j d pc n ls st x e sl r := by
  have hn : n = 3 := hn.resolve_left (fun q => by cases q)
  subst hn
  unfold eStep at h
  try dsimp only at h
  · split at h <;> first | cases h | skip
    rename_i hv
    subst hoi
    refine eOk_of rfl (fun Q bc bs pc' hx k => ?_); cases hx; exact LW_ldcw hlk hv k
set_option maxHeartbeats 4000000 in
theorem eStep_ldc2_w {j d pc n : Nat} {ls : List (Option Value)} {st : List Value} {e : EH} {sl oi : Nat} {ini : Bool} {r : ESt} {x : Option (Nat × (Nat → Int32))} {idx : Nat} (hoi : oi = (mt j).1) (hini : ini = true → (mY j).name = "<init>") (hlk : lk j pc = some (.ldc2_w idx, n)) (hn : ilen (.ldc2_w idx) = 0 ∨ n = ilen (.ldc2_w idx)) (h : eStep oi ini pc ls st e sl (.ldc2_w idx) = some r) : eOk j d pc n ls st x e sl r := by
  have hn : n = 3 := hn.resolve_left (fun q => by cases q)
  subst hn
  unfold eStep at h
  try dsimp only at h
  · split at h <;> first | cases h | skip
    rename_i hv
    subst hoi
    refine eOk_of rfl (fun Q bc bs pc' hx k => ?_); cases hx; exact LW_ldc2 hlk hv k
set_option maxHeartbeats 4000000 in
theorem eStep_invokespecial {j d pc n : Nat} {ls : List (Option Value)} {st : List Value} {e : EH} {sl oi : Nat} {ini : Bool} {r : ESt} {x : Option (Nat × (Nat → Int32))} {idx : Nat} (hoi : oi = (mt j).1) (hini : ini = true → (mY j).name = "<init>") (hlk : lk j pc = some (.invokespecial idx, n)) (hn : ilen (.invokespecial idx) = 0 ∨ n = ilen (.invokespecial idx)) (h : eStep oi ini pc ls st e sl (.invokespecial idx) = some r) : eOk j d pc n ls st x e sl r := by
  have hn : n = 3 := hn.resolve_left (fun q => by cases q)
  subst hn
  unfold eStep at h
  try dsimp only at h
  · split at h <;> first | cases h | skip
    rename_i hm
    split at h <;> first | cases h | skip
    rename_i hcat
    subst hoi
    refine eOk_of rfl (fun Q bc bs pc' hx k => ?_); cases hx; exact LW_objInit hlk hm hcat k
set_option maxHeartbeats 4000000 in
theorem eStep_invokestatic {j d pc n : Nat} {ls : List (Option Value)} {st : List Value} {e : EH} {sl oi : Nat} {ini : Bool} {r : ESt} {x : Option (Nat × (Nat → Int32))} {idx : Nat} (hoi : oi = (mt j).1) (hini : ini = true → (mY j).name = "<init>") (hlk : lk j pc = some (.invokestatic idx, n)) (hn : ilen (.invokestatic idx) = 0 ∨ n = ilen (.invokestatic idx)) (h : eStep oi ini pc ls st e sl (.invokestatic idx) = some r) : eOk j d pc n ls st x e sl r := by
  have hn : n = 3 := hn.resolve_left (fun q => by cases q)
  subst hn
  unfold eStep at h
  try dsimp only at h
  · split at h
    · rename_i hm
      split at h <;> first | cases h | skip
      rename_i h0 h1
      split at h <;> first | cases h | skip
      rename_i hg
      subst hoi
      refine eOk_of rfl (fun Q bc bs pc' hx k => ?_); cases hx; rw [eV_wC] at k; exact LW_copy hlk hm h0 h1 hg.1 hg.2.1 hg.2.2.1 hg.2.2.2.1 hg.2.2.2.2.1 hg.2.2.2.2.2 k
    · rename_i hm
      split at h <;> first | cases h | skip
      rename_i hcat
      subst hoi
      refine eOk_of rfl (fun Q bc bs pc' hx k => ?_); cases hx; exact LW_min hlk hm hcat k
    · rename_i hm
      split at h <;> first | cases h | skip
      rename_i hcat
      subst hoi
      refine eOk_of rfl (fun Q bc bs pc' hx k => ?_); cases hx; exact LW_max hlk hm hcat k
    · cases h
set_option maxHeartbeats 4000000 in
theorem eStep_ok {j d pc n : Nat} {ls : List (Option Value)} {st : List Value} {e : EH} {sl oi : Nat} {ini : Bool} {r : ESt} {x : Option (Nat × (Nat → Int32))} (hoi : oi = (mt j).1) (hini : ini = true → (mY j).name = "<init>") : ∀ {ins : Instr}, lk j pc = some (ins, n) → (ilen ins = 0 ∨ n = ilen ins) → eStep oi ini pc ls st e sl ins = some r → eOk j d pc n ls st x e sl r := by
  intro ins hlk hn h
  cases ins with
  | aconst_null => exact eStep_aconst_null hoi hini hlk hn h
  | iconst i => exact eStep_iconst hoi hini hlk hn h
  | bipush i => exact eStep_bipush hoi hini hlk hn h
  | sipush i => exact eStep_sipush hoi hini hlk hn h
  | lconst i => exact eStep_lconst hoi hini hlk hn h
  | iadd => exact eStep_iadd hoi hini hlk hn h
  | isub => exact eStep_isub hoi hini hlk hn h
  | imul => exact eStep_imul hoi hini hlk hn h
  | iand => exact eStep_iand hoi hini hlk hn h
  | ior => exact eStep_ior hoi hini hlk hn h
  | ixor => exact eStep_ixor hoi hini hlk hn h
  | ishl => exact eStep_ishl hoi hini hlk hn h
  | ishr => exact eStep_ishr hoi hini hlk hn h
  | iushr => exact eStep_iushr hoi hini hlk hn h
  | ladd => exact eStep_ladd hoi hini hlk hn h
  | lsub => exact eStep_lsub hoi hini hlk hn h
  | lmul => exact eStep_lmul hoi hini hlk hn h
  | lor => exact eStep_lor hoi hini hlk hn h
  | idiv => exact eStep_idiv hoi hini hlk hn h
  | irem => exact eStep_irem hoi hini hlk hn h
  | ineg => exact eStep_ineg hoi hini hlk hn h
  | i2l => exact eStep_i2l hoi hini hlk hn h
  | l2i => exact eStep_l2i hoi hini hlk hn h
  | i2c => exact eStep_i2c hoi hini hlk hn h
  | lcmp => exact eStep_lcmp hoi hini hlk hn h
  | lshl => exact eStep_lshl hoi hini hlk hn h
  | dup => exact eStep_dup hoi hini hlk hn h
  | pop => exact eStep_pop hoi hini hlk hn h
  | dup_x1 => exact eStep_dup_x1 hoi hini hlk hn h
  | dup_x2 => exact eStep_dup_x2 hoi hini hlk hn h
  | dup2 => exact eStep_dup2 hoi hini hlk hn h
  | iload_n i => exact eStep_iload_n hoi hini hlk hn h
  | iload i => exact eStep_iload hoi hini hlk hn h
  | lload_n i => exact eStep_lload_n hoi hini hlk hn h
  | lload i => exact eStep_lload hoi hini hlk hn h
  | aload_n i => exact eStep_aload_n hoi hini hlk hn h
  | aload i => exact eStep_aload hoi hini hlk hn h
  | istore_n i => exact eStep_istore_n hoi hini hlk hn h
  | istore i => exact eStep_istore hoi hini hlk hn h
  | lstore_n i => exact eStep_lstore_n hoi hini hlk hn h
  | lstore i => exact eStep_lstore hoi hini hlk hn h
  | astore_n i => exact eStep_astore_n hoi hini hlk hn h
  | astore i => exact eStep_astore hoi hini hlk hn h
  | iinc i c => exact eStep_iinc hoi hini hlk hn h
  | goto off => exact eStep_goto hoi hini hlk hn h
  | ifCond c off => exact eStep_ifCond hoi hini hlk hn h
  | if_icmp c off => exact eStep_if_icmp hoi hini hlk hn h
  | ifnull off => exact eStep_ifnull hoi hini hlk hn h
  | ifnonnull off => exact eStep_ifnonnull hoi hini hlk hn h
  | tableswitch dflt lo hi offs => exact eStep_tableswitch hoi hini hlk hn h
  | lookupswitch dflt ps => exact eStep_lookupswitch hoi hini hlk hn h
  | getfield idx => exact eStep_getfield hoi hini hlk hn h
  | putfield idx => exact eStep_putfield hoi hini hlk hn h
  | iaload => exact eStep_iaload hoi hini hlk hn h
  | baload => exact eStep_baload hoi hini hlk hn h
  | laload => exact eStep_laload hoi hini hlk hn h
  | aaload => exact eStep_aaload hoi hini hlk hn h
  | iastore => exact eStep_iastore hoi hini hlk hn h
  | bastore => exact eStep_bastore hoi hini hlk hn h
  | lastore => exact eStep_lastore hoi hini hlk hn h
  | aastore => exact eStep_aastore hoi hini hlk hn h
  | arraylength => exact eStep_arraylength hoi hini hlk hn h
  | new idx => exact eStep_new hoi hini hlk hn h
  | newarray t => exact eStep_newarray hoi hini hlk hn h
  | anewarray idx => exact eStep_anewarray hoi hini hlk hn h
  | ldc idx => exact eStep_ldc hoi hini hlk hn h
  | ldc_w idx => exact eStep_ldc_w hoi hini hlk hn h
  | ldc2_w idx => exact eStep_ldc2_w hoi hini hlk hn h
  | invokespecial idx => exact eStep_invokespecial hoi hini hlk hn h
  | invokestatic idx => exact eStep_invokestatic hoi hini hlk hn h
  | _ => cases h
