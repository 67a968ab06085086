/-! rows for the walks that wip/p1/walk.py prints: the next place and the result are named -/
theorem X_iconst {j d bc bs pc pc' : Nat} {ls : List (Option Value)} {st : List Value} {g : LH} {Q : Option Value → LH → Prop} {n : Int} {v : Int32} (h : lk j pc = some (.iconst n, 1)) (hp : pc + 1 = pc') (hv : Int32.ofInt n = v) (k : LW j d bc bs pc' ls (.int v :: st) g Q) : LW j d bc bs pc ls (st) g Q := by
  subst hp
  exact LW_iconst h hv k
theorem X_bipush {j d bc bs pc pc' : Nat} {ls : List (Option Value)} {st : List Value} {g : LH} {Q : Option Value → LH → Prop} {n : Int} {v : Int32} (h : lk j pc = some (.bipush n, 2)) (hp : pc + 2 = pc') (hv : (Int8.ofInt n).toInt32 = v) (k : LW j d bc bs pc' ls (.int v :: st) g Q) : LW j d bc bs pc ls (st) g Q := by
  subst hp
  exact LW_bipush h hv k
theorem X_sipush {j d bc bs pc pc' : Nat} {ls : List (Option Value)} {st : List Value} {g : LH} {Q : Option Value → LH → Prop} {n : Int} {v : Int32} (h : lk j pc = some (.sipush n, 3)) (hp : pc + 3 = pc') (hv : (Int16.ofInt n).toInt32 = v) (k : LW j d bc bs pc' ls (.int v :: st) g Q) : LW j d bc bs pc ls (st) g Q := by
  subst hp
  exact LW_sipush h hv k
theorem X_lconst {j d bc bs pc pc' : Nat} {ls : List (Option Value)} {st : List Value} {g : LH} {Q : Option Value → LH → Prop} {n : Fin 2} {v : Int64} (h : lk j pc = some (.lconst n, 1)) (hp : pc + 1 = pc') (hv : Int64.ofNat (n : Nat) = v) (k : LW j d bc bs pc' ls (.long v :: st) g Q) : LW j d bc bs pc ls (st) g Q := by
  subst hp
  exact LW_lconst h hv k
theorem X_null {j d bc bs pc pc' : Nat} {ls : List (Option Value)} {st : List Value} {g : LH} {Q : Option Value → LH → Prop}  (h : lk j pc = some (.aconst_null, 1)) (hp : pc + 1 = pc') (k : LW j d bc bs pc' ls (.null :: st) g Q) : LW j d bc bs pc ls (st) g Q := by
  subst hp
  exact LW_null h k
theorem X_iadd {j d bc bs pc pc' : Nat} {ls : List (Option Value)} {st : List Value} {g : LH} {Q : Option Value → LH → Prop} {x y v : Int32} (h : lk j pc = some (.iadd, 1)) (hp : pc + 1 = pc') (hv : x + y = v) (k : LW j d bc bs pc' ls (.int v :: st) g Q) : LW j d bc bs pc ls (.int y :: .int x :: st) g Q := by
  subst hp
  subst hv
  exact LW_iadd h k
theorem X_isub {j d bc bs pc pc' : Nat} {ls : List (Option Value)} {st : List Value} {g : LH} {Q : Option Value → LH → Prop} {x y v : Int32} (h : lk j pc = some (.isub, 1)) (hp : pc + 1 = pc') (hv : x - y = v) (k : LW j d bc bs pc' ls (.int v :: st) g Q) : LW j d bc bs pc ls (.int y :: .int x :: st) g Q := by
  subst hp
  subst hv
  exact LW_isub h k
theorem X_imul {j d bc bs pc pc' : Nat} {ls : List (Option Value)} {st : List Value} {g : LH} {Q : Option Value → LH → Prop} {x y v : Int32} (h : lk j pc = some (.imul, 1)) (hp : pc + 1 = pc') (hv : x * y = v) (k : LW j d bc bs pc' ls (.int v :: st) g Q) : LW j d bc bs pc ls (.int y :: .int x :: st) g Q := by
  subst hp
  subst hv
  exact LW_imul h k
theorem X_iand {j d bc bs pc pc' : Nat} {ls : List (Option Value)} {st : List Value} {g : LH} {Q : Option Value → LH → Prop} {x y v : Int32} (h : lk j pc = some (.iand, 1)) (hp : pc + 1 = pc') (hv : x &&& y = v) (k : LW j d bc bs pc' ls (.int v :: st) g Q) : LW j d bc bs pc ls (.int y :: .int x :: st) g Q := by
  subst hp
  subst hv
  exact LW_iand h k
theorem X_ior {j d bc bs pc pc' : Nat} {ls : List (Option Value)} {st : List Value} {g : LH} {Q : Option Value → LH → Prop} {x y v : Int32} (h : lk j pc = some (.ior, 1)) (hp : pc + 1 = pc') (hv : x ||| y = v) (k : LW j d bc bs pc' ls (.int v :: st) g Q) : LW j d bc bs pc ls (.int y :: .int x :: st) g Q := by
  subst hp
  subst hv
  exact LW_ior h k
theorem X_ixor {j d bc bs pc pc' : Nat} {ls : List (Option Value)} {st : List Value} {g : LH} {Q : Option Value → LH → Prop} {x y v : Int32} (h : lk j pc = some (.ixor, 1)) (hp : pc + 1 = pc') (hv : x ^^^ y = v) (k : LW j d bc bs pc' ls (.int v :: st) g Q) : LW j d bc bs pc ls (.int y :: .int x :: st) g Q := by
  subst hp
  subst hv
  exact LW_ixor h k
theorem X_ishl {j d bc bs pc pc' : Nat} {ls : List (Option Value)} {st : List Value} {g : LH} {Q : Option Value → LH → Prop} {x y v : Int32} (h : lk j pc = some (.ishl, 1)) (hp : pc + 1 = pc') (hv : x <<< (y &&& 31) = v) (k : LW j d bc bs pc' ls (.int v :: st) g Q) : LW j d bc bs pc ls (.int y :: .int x :: st) g Q := by
  subst hp
  subst hv
  exact LW_ishl h k
theorem X_ishr {j d bc bs pc pc' : Nat} {ls : List (Option Value)} {st : List Value} {g : LH} {Q : Option Value → LH → Prop} {x y v : Int32} (h : lk j pc = some (.ishr, 1)) (hp : pc + 1 = pc') (hv : x >>> (y &&& 31) = v) (k : LW j d bc bs pc' ls (.int v :: st) g Q) : LW j d bc bs pc ls (.int y :: .int x :: st) g Q := by
  subst hp
  subst hv
  exact LW_ishr h k
theorem X_iushr {j d bc bs pc pc' : Nat} {ls : List (Option Value)} {st : List Value} {g : LH} {Q : Option Value → LH → Prop} {x y v : Int32} (h : lk j pc = some (.iushr, 1)) (hp : pc + 1 = pc') (hv : (x.toUInt32 >>> (y.toUInt32 &&& Int32.toUInt32 31)).toInt32 = v) (k : LW j d bc bs pc' ls (.int v :: st) g Q) : LW j d bc bs pc ls (.int y :: .int x :: st) g Q := by
  subst hp
  subst hv
  exact LW_iushr h k
theorem X_idiv {j d bc bs pc pc' : Nat} {ls : List (Option Value)} {st : List Value} {g : LH} {Q : Option Value → LH → Prop} {x y v : Int32} (h : lk j pc = some (.idiv, 1)) (hp : pc + 1 = pc') (hne : ¬ y = 0) (hv : x / y = v) (k : LW j d bc bs pc' ls (.int v :: st) g Q) : LW j d bc bs pc ls (.int y :: .int x :: st) g Q := by
  subst hp
  subst hv
  exact LW_idiv h hne k
theorem X_irem {j d bc bs pc pc' : Nat} {ls : List (Option Value)} {st : List Value} {g : LH} {Q : Option Value → LH → Prop} {x y v : Int32} (h : lk j pc = some (.irem, 1)) (hp : pc + 1 = pc') (hne : ¬ y = 0) (hv : x - x / y * y = v) (k : LW j d bc bs pc' ls (.int v :: st) g Q) : LW j d bc bs pc ls (.int y :: .int x :: st) g Q := by
  subst hp
  subst hv
  exact LW_irem h hne k
theorem X_ladd {j d bc bs pc pc' : Nat} {ls : List (Option Value)} {st : List Value} {g : LH} {Q : Option Value → LH → Prop} {x y v : Int64} (h : lk j pc = some (.ladd, 1)) (hp : pc + 1 = pc') (hv : x + y = v) (k : LW j d bc bs pc' ls (.long v :: st) g Q) : LW j d bc bs pc ls (.long y :: .long x :: st) g Q := by
  subst hp
  subst hv
  exact LW_ladd h k
theorem X_lsub {j d bc bs pc pc' : Nat} {ls : List (Option Value)} {st : List Value} {g : LH} {Q : Option Value → LH → Prop} {x y v : Int64} (h : lk j pc = some (.lsub, 1)) (hp : pc + 1 = pc') (hv : x - y = v) (k : LW j d bc bs pc' ls (.long v :: st) g Q) : LW j d bc bs pc ls (.long y :: .long x :: st) g Q := by
  subst hp
  subst hv
  exact LW_lsub h k
theorem X_lmul {j d bc bs pc pc' : Nat} {ls : List (Option Value)} {st : List Value} {g : LH} {Q : Option Value → LH → Prop} {x y v : Int64} (h : lk j pc = some (.lmul, 1)) (hp : pc + 1 = pc') (hv : x * y = v) (k : LW j d bc bs pc' ls (.long v :: st) g Q) : LW j d bc bs pc ls (.long y :: .long x :: st) g Q := by
  subst hp
  subst hv
  exact LW_lmul h k
theorem X_lor {j d bc bs pc pc' : Nat} {ls : List (Option Value)} {st : List Value} {g : LH} {Q : Option Value → LH → Prop} {x y v : Int64} (h : lk j pc = some (.lor, 1)) (hp : pc + 1 = pc') (hv : x ||| y = v) (k : LW j d bc bs pc' ls (.long v :: st) g Q) : LW j d bc bs pc ls (.long y :: .long x :: st) g Q := by
  subst hp
  subst hv
  exact LW_lor h k
theorem X_ineg {j d bc bs pc pc' : Nat} {ls : List (Option Value)} {st : List Value} {g : LH} {Q : Option Value → LH → Prop} {x v : Int32} (h : lk j pc = some (.ineg, 1)) (hp : pc + 1 = pc') (hv : -x = v) (k : LW j d bc bs pc' ls (.int v :: st) g Q) : LW j d bc bs pc ls (.int x :: st) g Q := by
  subst hp
  subst hv
  exact LW_ineg h k
theorem X_i2l {j d bc bs pc pc' : Nat} {ls : List (Option Value)} {st : List Value} {g : LH} {Q : Option Value → LH → Prop} {x : Int32} {v : Int64} (h : lk j pc = some (.i2l, 1)) (hp : pc + 1 = pc') (hv : x.toInt64 = v) (k : LW j d bc bs pc' ls (.long v :: st) g Q) : LW j d bc bs pc ls (.int x :: st) g Q := by
  subst hp
  subst hv
  exact LW_i2l h k
theorem X_l2i {j d bc bs pc pc' : Nat} {ls : List (Option Value)} {st : List Value} {g : LH} {Q : Option Value → LH → Prop} {x : Int64} {v : Int32} (h : lk j pc = some (.l2i, 1)) (hp : pc + 1 = pc') (hv : x.toInt32 = v) (k : LW j d bc bs pc' ls (.int v :: st) g Q) : LW j d bc bs pc ls (.long x :: st) g Q := by
  subst hp
  subst hv
  exact LW_l2i h k
theorem X_i2c {j d bc bs pc pc' : Nat} {ls : List (Option Value)} {st : List Value} {g : LH} {Q : Option Value → LH → Prop} {x v : Int32} (h : lk j pc = some (.i2c, 1)) (hp : pc + 1 = pc') (hv : (x.toUInt32 % 65536).toInt32 = v) (k : LW j d bc bs pc' ls (.int v :: st) g Q) : LW j d bc bs pc ls (.int x :: st) g Q := by
  subst hp
  subst hv
  exact LW_i2c h k
theorem X_lcmp {j d bc bs pc pc' : Nat} {ls : List (Option Value)} {st : List Value} {g : LH} {Q : Option Value → LH → Prop} {x y : Int64} {v : Int32} (h : lk j pc = some (.lcmp, 1)) (hp : pc + 1 = pc') (hv : lg_cmp x y = v) (k : LW j d bc bs pc' ls (.int v :: st) g Q) : LW j d bc bs pc ls (.long y :: .long x :: st) g Q := by
  subst hp
  subst hv
  exact LW_lcmp h k
theorem X_lshl {j d bc bs pc pc' : Nat} {ls : List (Option Value)} {st : List Value} {g : LH} {Q : Option Value → LH → Prop} {x v : Int64} {y : Int32} (h : lk j pc = some (.lshl, 1)) (hp : pc + 1 = pc') (hv : x <<< (y.toInt64 &&& 63) = v) (k : LW j d bc bs pc' ls (.long v :: st) g Q) : LW j d bc bs pc ls (.int y :: .long x :: st) g Q := by
  subst hp
  subst hv
  exact LW_lshl h k
theorem X_dup {j d bc bs pc pc' : Nat} {ls : List (Option Value)} {st : List Value} {g : LH} {Q : Option Value → LH → Prop} {v : Value} (h : lk j pc = some (.dup, 1)) (hp : pc + 1 = pc') (hv : v.category = 1) (k : LW j d bc bs pc' ls (v :: v :: st) g Q) : LW j d bc bs pc ls (v :: st) g Q := by
  subst hp
  exact LW_dup h hv k
theorem X_pop {j d bc bs pc pc' : Nat} {ls : List (Option Value)} {st : List Value} {g : LH} {Q : Option Value → LH → Prop} {v : Value} (h : lk j pc = some (.pop, 1)) (hp : pc + 1 = pc') (hv : v.category = 1) (k : LW j d bc bs pc' ls (st) g Q) : LW j d bc bs pc ls (v :: st) g Q := by
  subst hp
  exact LW_pop h hv k
theorem X_dup_x1 {j d bc bs pc pc' : Nat} {ls : List (Option Value)} {st : List Value} {g : LH} {Q : Option Value → LH → Prop} {v w : Value} (h : lk j pc = some (.dup_x1, 1)) (hp : pc + 1 = pc') (hv : v.category = 1) (hw : w.category = 1) (k : LW j d bc bs pc' ls (v :: w :: v :: st) g Q) : LW j d bc bs pc ls (v :: w :: st) g Q := by
  subst hp
  exact LW_dup_x1 h hv hw k
theorem X_dup_x2 {j d bc bs pc pc' : Nat} {ls : List (Option Value)} {st : List Value} {g : LH} {Q : Option Value → LH → Prop} {v w u : Value} (h : lk j pc = some (.dup_x2, 1)) (hp : pc + 1 = pc') (hv : v.category = 1) (hw : w.category = 1) (hu : u.category = 1) (k : LW j d bc bs pc' ls (v :: w :: u :: v :: st) g Q) : LW j d bc bs pc ls (v :: w :: u :: st) g Q := by
  subst hp
  exact LW_dup_x2 h hv hw hu k
theorem X_dup2 {j d bc bs pc pc' : Nat} {ls : List (Option Value)} {st : List Value} {g : LH} {Q : Option Value → LH → Prop} {v w : Value} (h : lk j pc = some (.dup2, 1)) (hp : pc + 1 = pc') (hv : v.category = 1) (hw : w.category = 1) (k : LW j d bc bs pc' ls (v :: w :: v :: w :: st) g Q) : LW j d bc bs pc ls (v :: w :: st) g Q := by
  subst hp
  exact LW_dup2 h hv hw k
theorem X_iload_n {j d bc bs pc pc' : Nat} {ls : List (Option Value)} {st : List Value} {g : LH} {Q : Option Value → LH → Prop} {x : Int32} {i : Nat} {n : Fin 4} (h : lk j pc = some (.iload_n n, 1)) (hp : pc + 1 = pc') (hni : (n : Nat) = i) (hi : ls[i]? = some (some (.int x))) (k : LW j d bc bs pc' ls (.int x :: st) g Q) : LW j d bc bs pc ls (st) g Q := by
  subst hp
  exact LW_iload_n h hni hi k
theorem X_iload {j d bc bs pc pc' : Nat} {ls : List (Option Value)} {st : List Value} {g : LH} {Q : Option Value → LH → Prop} {x : Int32} {i : Nat} (h : lk j pc = some (.iload i, 2)) (hp : pc + 2 = pc') (hi : ls[i]? = some (some (.int x))) (k : LW j d bc bs pc' ls (.int x :: st) g Q) : LW j d bc bs pc ls (st) g Q := by
  subst hp
  exact LW_iload h hi k
theorem X_lload_n {j d bc bs pc pc' : Nat} {ls : List (Option Value)} {st : List Value} {g : LH} {Q : Option Value → LH → Prop} {x : Int64} {i : Nat} {n : Fin 4} (h : lk j pc = some (.lload_n n, 1)) (hp : pc + 1 = pc') (hni : (n : Nat) = i) (hi : ls[i]? = some (some (.long x))) (k : LW j d bc bs pc' ls (.long x :: st) g Q) : LW j d bc bs pc ls (st) g Q := by
  subst hp
  exact LW_lload_n h hni hi k
theorem X_lload {j d bc bs pc pc' : Nat} {ls : List (Option Value)} {st : List Value} {g : LH} {Q : Option Value → LH → Prop} {x : Int64} {i : Nat} (h : lk j pc = some (.lload i, 2)) (hp : pc + 2 = pc') (hi : ls[i]? = some (some (.long x))) (k : LW j d bc bs pc' ls (.long x :: st) g Q) : LW j d bc bs pc ls (st) g Q := by
  subst hp
  exact LW_lload h hi k
theorem X_aload_n {j d bc bs pc pc' : Nat} {ls : List (Option Value)} {st : List Value} {g : LH} {Q : Option Value → LH → Prop} {x : Nat} {i : Nat} {n : Fin 4} (h : lk j pc = some (.aload_n n, 1)) (hp : pc + 1 = pc') (hni : (n : Nat) = i) (hi : ls[i]? = some (some (.ref x))) (k : LW j d bc bs pc' ls (.ref x :: st) g Q) : LW j d bc bs pc ls (st) g Q := by
  subst hp
  exact LW_aload_n h hni hi k
theorem X_aload {j d bc bs pc pc' : Nat} {ls : List (Option Value)} {st : List Value} {g : LH} {Q : Option Value → LH → Prop} {x : Nat} {i : Nat} (h : lk j pc = some (.aload i, 2)) (hp : pc + 2 = pc') (hi : ls[i]? = some (some (.ref x))) (k : LW j d bc bs pc' ls (.ref x :: st) g Q) : LW j d bc bs pc ls (st) g Q := by
  subst hp
  exact LW_aload h hi k
theorem X_aload_nN {j d bc bs pc pc' : Nat} {ls : List (Option Value)} {st : List Value} {g : LH} {Q : Option Value → LH → Prop} {i : Nat} {n : Fin 4} (h : lk j pc = some (.aload_n n, 1)) (hp : pc + 1 = pc') (hni : (n : Nat) = i) (hi : ls[i]? = some (some .null)) (k : LW j d bc bs pc' ls (.null :: st) g Q) : LW j d bc bs pc ls (st) g Q := by
  subst hp
  exact LW_aload_nN h hni hi k
theorem X_aloadN {j d bc bs pc pc' : Nat} {ls : List (Option Value)} {st : List Value} {g : LH} {Q : Option Value → LH → Prop} {i : Nat} (h : lk j pc = some (.aload i, 2)) (hp : pc + 2 = pc') (hi : ls[i]? = some (some .null)) (k : LW j d bc bs pc' ls (.null :: st) g Q) : LW j d bc bs pc ls (st) g Q := by
  subst hp
  exact LW_aloadN h hi k
theorem X_aload_nS {j d bc bs pc pc' : Nat} {ls : List (Option Value)} {st : List Value} {g : LH} {Q : Option Value → LH → Prop} {x : Nat} {i : Nat} {n : Fin 4} (h : lk j pc = some (.aload_n n, 1)) (hp : pc + 1 = pc') (hni : (n : Nat) = i) (hi : ls[i]? = some (some (.retAddr x))) (k : LW j d bc bs pc' ls (.retAddr x :: st) g Q) : LW j d bc bs pc ls (st) g Q := by
  subst hp
  exact LW_aload_nS h hni hi k
theorem X_istore_n {j d bc bs pc pc' : Nat} {ls : List (Option Value)} {st : List Value} {g : LH} {Q : Option Value → LH → Prop} {x : Int32} {i : Nat} {n : Fin 4} {ls' : List (Option Value)} (h : lk j pc = some (.istore_n n, 1)) (hp : pc + 1 = pc') (hni : (n : Nat) = i) (hlt : i < ls.length) (he : st1 ls i (.int x) = ls') (k : LW j d bc bs pc' ls' st g Q) : LW j d bc bs pc ls (.int x :: st) g Q := by
  subst hp
  exact LW_istore_n h hni hlt he k
theorem X_istore {j d bc bs pc pc' : Nat} {ls : List (Option Value)} {st : List Value} {g : LH} {Q : Option Value → LH → Prop} {x : Int32} {i : Nat} {ls' : List (Option Value)} (h : lk j pc = some (.istore i, 2)) (hp : pc + 2 = pc') (hlt : i < ls.length) (he : st1 ls i (.int x) = ls') (k : LW j d bc bs pc' ls' st g Q) : LW j d bc bs pc ls (.int x :: st) g Q := by
  subst hp
  exact LW_istore h hlt he k
theorem X_lstore_n {j d bc bs pc pc' : Nat} {ls : List (Option Value)} {st : List Value} {g : LH} {Q : Option Value → LH → Prop} {x : Int64} {i : Nat} {n : Fin 4} {ls' : List (Option Value)} (h : lk j pc = some (.lstore_n n, 1)) (hp : pc + 1 = pc') (hni : (n : Nat) = i) (hlt : i + 1 < ls.length) (he : st2 ls i (.long x) = ls') (k : LW j d bc bs pc' ls' st g Q) : LW j d bc bs pc ls (.long x :: st) g Q := by
  subst hp
  exact LW_lstore_n h hni hlt he k
theorem X_lstore {j d bc bs pc pc' : Nat} {ls : List (Option Value)} {st : List Value} {g : LH} {Q : Option Value → LH → Prop} {x : Int64} {i : Nat} {ls' : List (Option Value)} (h : lk j pc = some (.lstore i, 2)) (hp : pc + 2 = pc') (hlt : i + 1 < ls.length) (he : st2 ls i (.long x) = ls') (k : LW j d bc bs pc' ls' st g Q) : LW j d bc bs pc ls (.long x :: st) g Q := by
  subst hp
  exact LW_lstore h hlt he k
theorem X_astore_n {j d bc bs pc pc' : Nat} {ls : List (Option Value)} {st : List Value} {g : LH} {Q : Option Value → LH → Prop} {x : Nat} {i : Nat} {n : Fin 4} {ls' : List (Option Value)} (h : lk j pc = some (.astore_n n, 1)) (hp : pc + 1 = pc') (hni : (n : Nat) = i) (hlt : i < ls.length) (he : st1 ls i (.ref x) = ls') (k : LW j d bc bs pc' ls' st g Q) : LW j d bc bs pc ls (.ref x :: st) g Q := by
  subst hp
  exact LW_astore_n h hni hlt he k
theorem X_astore {j d bc bs pc pc' : Nat} {ls : List (Option Value)} {st : List Value} {g : LH} {Q : Option Value → LH → Prop} {x : Nat} {i : Nat} {ls' : List (Option Value)} (h : lk j pc = some (.astore i, 2)) (hp : pc + 2 = pc') (hlt : i < ls.length) (he : st1 ls i (.ref x) = ls') (k : LW j d bc bs pc' ls' st g Q) : LW j d bc bs pc ls (.ref x :: st) g Q := by
  subst hp
  exact LW_astore h hlt he k
theorem X_astore_nN {j d bc bs pc pc' : Nat} {ls : List (Option Value)} {st : List Value} {g : LH} {Q : Option Value → LH → Prop} {i : Nat} {n : Fin 4} {ls' : List (Option Value)} (h : lk j pc = some (.astore_n n, 1)) (hp : pc + 1 = pc') (hni : (n : Nat) = i) (hlt : i < ls.length) (he : st1 ls i (.null) = ls') (k : LW j d bc bs pc' ls' st g Q) : LW j d bc bs pc ls (.null :: st) g Q := by
  subst hp
  exact LW_astore_nN h hni hlt he k
theorem X_astoreN {j d bc bs pc pc' : Nat} {ls : List (Option Value)} {st : List Value} {g : LH} {Q : Option Value → LH → Prop} {i : Nat} {ls' : List (Option Value)} (h : lk j pc = some (.astore i, 2)) (hp : pc + 2 = pc') (hlt : i < ls.length) (he : st1 ls i (.null) = ls') (k : LW j d bc bs pc' ls' st g Q) : LW j d bc bs pc ls (.null :: st) g Q := by
  subst hp
  exact LW_astoreN h hlt he k
theorem X_iinc {j d bc bs pc pc' : Nat} {ls : List (Option Value)} {st : List Value} {g : LH} {Q : Option Value → LH → Prop} {i : Nat} {n : Int} {x v : Int32} {ls' : List (Option Value)} (h : lk j pc = some (.iinc i n, 3)) (hp : pc + 3 = pc') (hi : ls[i]? = some (some (.int x))) (hv : x + Int32.ofInt n = v) (he : st1 ls i (.int v) = ls') (k : LW j d bc bs pc' ls' st g Q) : LW j d bc bs pc ls st g Q := by
  subst hp
  exact LW_iinc h hi hv he k
theorem X_if_eq {j d bc bs pc pc' : Nat} {ls : List (Option Value)} {st : List Value} {g : LH} {Q : Option Value → LH → Prop} {x : Int32} {off : Int} {tgt : Nat} (h : lk j pc = some (.ifCond .eq off, 3)) (hp : pc + 3 = pc') (ht : (pc : Int) + off = (tgt : Int)) (kt : x = 0 → LW j d bc bs tgt ls st g Q) (kf : ¬ x = 0 → LW j d bc bs pc' ls st g Q) : LW j d bc bs pc ls (.int x :: st) g Q := by
  subst hp
  exact LW_if_eq h ht kt kf
theorem X_if_ne {j d bc bs pc pc' : Nat} {ls : List (Option Value)} {st : List Value} {g : LH} {Q : Option Value → LH → Prop} {x : Int32} {off : Int} {tgt : Nat} (h : lk j pc = some (.ifCond .ne off, 3)) (hp : pc + 3 = pc') (ht : (pc : Int) + off = (tgt : Int)) (kt : ¬ x = 0 → LW j d bc bs tgt ls st g Q) (kf : x = 0 → LW j d bc bs pc' ls st g Q) : LW j d bc bs pc ls (.int x :: st) g Q := by
  subst hp
  exact LW_if_ne h ht kt kf
theorem X_if_lt {j d bc bs pc pc' : Nat} {ls : List (Option Value)} {st : List Value} {g : LH} {Q : Option Value → LH → Prop} {x : Int32} {off : Int} {tgt : Nat} (h : lk j pc = some (.ifCond .lt off, 3)) (hp : pc + 3 = pc') (ht : (pc : Int) + off = (tgt : Int)) (kt : x < 0 → LW j d bc bs tgt ls st g Q) (kf : ¬ x < 0 → LW j d bc bs pc' ls st g Q) : LW j d bc bs pc ls (.int x :: st) g Q := by
  subst hp
  exact LW_if_lt h ht kt kf
theorem X_if_ge {j d bc bs pc pc' : Nat} {ls : List (Option Value)} {st : List Value} {g : LH} {Q : Option Value → LH → Prop} {x : Int32} {off : Int} {tgt : Nat} (h : lk j pc = some (.ifCond .ge off, 3)) (hp : pc + 3 = pc') (ht : (pc : Int) + off = (tgt : Int)) (kt : 0 ≤ x → LW j d bc bs tgt ls st g Q) (kf : ¬ 0 ≤ x → LW j d bc bs pc' ls st g Q) : LW j d bc bs pc ls (.int x :: st) g Q := by
  subst hp
  exact LW_if_ge h ht kt kf
theorem X_if_gt {j d bc bs pc pc' : Nat} {ls : List (Option Value)} {st : List Value} {g : LH} {Q : Option Value → LH → Prop} {x : Int32} {off : Int} {tgt : Nat} (h : lk j pc = some (.ifCond .gt off, 3)) (hp : pc + 3 = pc') (ht : (pc : Int) + off = (tgt : Int)) (kt : 0 < x → LW j d bc bs tgt ls st g Q) (kf : ¬ 0 < x → LW j d bc bs pc' ls st g Q) : LW j d bc bs pc ls (.int x :: st) g Q := by
  subst hp
  exact LW_if_gt h ht kt kf
theorem X_if_le {j d bc bs pc pc' : Nat} {ls : List (Option Value)} {st : List Value} {g : LH} {Q : Option Value → LH → Prop} {x : Int32} {off : Int} {tgt : Nat} (h : lk j pc = some (.ifCond .le off, 3)) (hp : pc + 3 = pc') (ht : (pc : Int) + off = (tgt : Int)) (kt : x ≤ 0 → LW j d bc bs tgt ls st g Q) (kf : ¬ x ≤ 0 → LW j d bc bs pc' ls st g Q) : LW j d bc bs pc ls (.int x :: st) g Q := by
  subst hp
  exact LW_if_le h ht kt kf
theorem X_icmp_eq {j d bc bs pc pc' : Nat} {ls : List (Option Value)} {st : List Value} {g : LH} {Q : Option Value → LH → Prop} {x y : Int32} {off : Int} {tgt : Nat} (h : lk j pc = some (.if_icmp .eq off, 3)) (hp : pc + 3 = pc') (ht : (pc : Int) + off = (tgt : Int)) (kt : x = y → LW j d bc bs tgt ls st g Q) (kf : ¬ x = y → LW j d bc bs pc' ls st g Q) : LW j d bc bs pc ls (.int y :: .int x :: st) g Q := by
  subst hp
  exact LW_icmp_eq h ht kt kf
theorem X_icmp_ne {j d bc bs pc pc' : Nat} {ls : List (Option Value)} {st : List Value} {g : LH} {Q : Option Value → LH → Prop} {x y : Int32} {off : Int} {tgt : Nat} (h : lk j pc = some (.if_icmp .ne off, 3)) (hp : pc + 3 = pc') (ht : (pc : Int) + off = (tgt : Int)) (kt : ¬ x = y → LW j d bc bs tgt ls st g Q) (kf : x = y → LW j d bc bs pc' ls st g Q) : LW j d bc bs pc ls (.int y :: .int x :: st) g Q := by
  subst hp
  exact LW_icmp_ne h ht kt kf
theorem X_icmp_lt {j d bc bs pc pc' : Nat} {ls : List (Option Value)} {st : List Value} {g : LH} {Q : Option Value → LH → Prop} {x y : Int32} {off : Int} {tgt : Nat} (h : lk j pc = some (.if_icmp .lt off, 3)) (hp : pc + 3 = pc') (ht : (pc : Int) + off = (tgt : Int)) (kt : x < y → LW j d bc bs tgt ls st g Q) (kf : ¬ x < y → LW j d bc bs pc' ls st g Q) : LW j d bc bs pc ls (.int y :: .int x :: st) g Q := by
  subst hp
  exact LW_icmp_lt h ht kt kf
theorem X_icmp_ge {j d bc bs pc pc' : Nat} {ls : List (Option Value)} {st : List Value} {g : LH} {Q : Option Value → LH → Prop} {x y : Int32} {off : Int} {tgt : Nat} (h : lk j pc = some (.if_icmp .ge off, 3)) (hp : pc + 3 = pc') (ht : (pc : Int) + off = (tgt : Int)) (kt : y ≤ x → LW j d bc bs tgt ls st g Q) (kf : ¬ y ≤ x → LW j d bc bs pc' ls st g Q) : LW j d bc bs pc ls (.int y :: .int x :: st) g Q := by
  subst hp
  exact LW_icmp_ge h ht kt kf
theorem X_icmp_gt {j d bc bs pc pc' : Nat} {ls : List (Option Value)} {st : List Value} {g : LH} {Q : Option Value → LH → Prop} {x y : Int32} {off : Int} {tgt : Nat} (h : lk j pc = some (.if_icmp .gt off, 3)) (hp : pc + 3 = pc') (ht : (pc : Int) + off = (tgt : Int)) (kt : y < x → LW j d bc bs tgt ls st g Q) (kf : ¬ y < x → LW j d bc bs pc' ls st g Q) : LW j d bc bs pc ls (.int y :: .int x :: st) g Q := by
  subst hp
  exact LW_icmp_gt h ht kt kf
theorem X_icmp_le {j d bc bs pc pc' : Nat} {ls : List (Option Value)} {st : List Value} {g : LH} {Q : Option Value → LH → Prop} {x y : Int32} {off : Int} {tgt : Nat} (h : lk j pc = some (.if_icmp .le off, 3)) (hp : pc + 3 = pc') (ht : (pc : Int) + off = (tgt : Int)) (kt : x ≤ y → LW j d bc bs tgt ls st g Q) (kf : ¬ x ≤ y → LW j d bc bs pc' ls st g Q) : LW j d bc bs pc ls (.int y :: .int x :: st) g Q := by
  subst hp
  exact LW_icmp_le h ht kt kf
theorem X_ifnonnullN {j d bc bs pc pc' : Nat} {ls : List (Option Value)} {st : List Value} {g : LH} {Q : Option Value → LH → Prop} {off : Int} {tgt : Nat} (h : lk j pc = some (.ifnonnull off, 3)) (hp : pc + 3 = pc') (ht : (pc : Int) + off = (tgt : Int)) (k : LW j d bc bs pc' ls (st) g Q) : LW j d bc bs pc ls (.null :: st) g Q := by
  subst hp
  exact LW_ifnonnullN h ht k
theorem X_ifnull {j d bc bs pc pc' : Nat} {ls : List (Option Value)} {st : List Value} {g : LH} {Q : Option Value → LH → Prop} {x : Nat} {off : Int} {tgt : Nat} (h : lk j pc = some (.ifnull off, 3)) (hp : pc + 3 = pc') (ht : (pc : Int) + off = (tgt : Int)) (k : LW j d bc bs pc' ls (st) g Q) : LW j d bc bs pc ls (.ref x :: st) g Q := by
  subst hp
  exact LW_ifnull h ht k
theorem X_getI {j d bc bs pc pc' : Nat} {ls : List (Option Value)} {st : List Value} {g : LH} {Q : Option Value → LH → Prop} {idx ci k0 q : Nat} {v : Int32} (h : lk j pc = some (.getfield idx, 3)) (hp : pc + 3 = pc') (hf : fres j idx = some (ci, k0)) (hsh : Gs g q = .inl ci) (hk : kd (tyA ci k0) = 0) (hv : Gi g q k0 = v) (k : LW j d bc bs pc' ls (.int v :: st) g Q) : LW j d bc bs pc ls (.ref q :: st) g Q := by
  subst hp
  subst hv
  exact LW_getI h hf hsh hk k
theorem X_getJ {j d bc bs pc pc' : Nat} {ls : List (Option Value)} {st : List Value} {g : LH} {Q : Option Value → LH → Prop} {idx ci k0 q : Nat} {v : Int64} (h : lk j pc = some (.getfield idx, 3)) (hp : pc + 3 = pc') (hf : fres j idx = some (ci, k0)) (hsh : Gs g q = .inl ci) (hk : kd (tyA ci k0) = 1) (hv : Gj g q k0 = v) (k : LW j d bc bs pc' ls (.long v :: st) g Q) : LW j d bc bs pc ls (.ref q :: st) g Q := by
  subst hp
  subst hv
  exact LW_getJ h hf hsh hk k
theorem X_getR {j d bc bs pc pc' : Nat} {ls : List (Option Value)} {st : List Value} {g : LH} {Q : Option Value → LH → Prop} {idx ci k0 q a : Nat} (h : lk j pc = some (.getfield idx, 3)) (hp : pc + 3 = pc') (hf : fres j idx = some (ci, k0)) (hsh : Gs g q = .inl ci) (hk : kd (tyA ci k0) = 2) (hv : Gr g q k0 = some a) (k : LW j d bc bs pc' ls (.ref a :: st) g Q) : LW j d bc bs pc ls (.ref q :: st) g Q := by
  subst hp
  exact LW_getR h hf hsh hk hv k
theorem X_getN {j d bc bs pc pc' : Nat} {ls : List (Option Value)} {st : List Value} {g : LH} {Q : Option Value → LH → Prop} {idx ci k0 q : Nat} (h : lk j pc = some (.getfield idx, 3)) (hp : pc + 3 = pc') (hf : fres j idx = some (ci, k0)) (hsh : Gs g q = .inl ci) (hk : kd (tyA ci k0) = 2) (hv : Gr g q k0 = none) (k : LW j d bc bs pc' ls (.null :: st) g Q) : LW j d bc bs pc ls (.ref q :: st) g Q := by
  subst hp
  exact LW_getN h hf hsh hk hv k
theorem X_putI {j d bc bs pc pc' : Nat} {ls : List (Option Value)} {st : List Value} {g : LH} {Q : Option Value → LH → Prop} {idx ci k0 q : Nat} {x : Int32} (h : lk j pc = some (.putfield idx, 3)) (hp : pc + 3 = pc') (hf : fres j idx = some (ci, k0)) (hsh : Gs g q = .inl ci) (hk : kd (tyA ci k0) = 0) (hn : narrow (tyA ci k0) (.int x) = .int x) (hfit : fits (tyA ci k0) (.int x) = true) (hfin : lFin ci k0 = false) (k : LW j d bc bs pc' ls st (putI g q k0 x) Q) : LW j d bc bs pc ls (.int x :: .ref q :: st) g Q := by
  subst hp
  exact LW_putI h hf hsh hk hn hfit (Or.inl hfin) k
theorem X_putR {j d bc bs pc pc' : Nat} {ls : List (Option Value)} {st : List Value} {g : LH} {Q : Option Value → LH → Prop} {idx ci k0 q a : Nat} (h : lk j pc = some (.putfield idx, 3)) (hp : pc + 3 = pc') (hf : fres j idx = some (ci, k0)) (hsh : Gs g q = .inl ci) (hk : kd (tyA ci k0) = 2) (hfin : lFin ci k0 = false) (k : LW j d bc bs pc' ls st (putR g q k0 (some a)) Q) : LW j d bc bs pc ls (.ref a :: .ref q :: st) g Q := by
  subst hp
  exact LW_putR (r := some a) h hf hsh hk (Or.inl hfin) k
theorem X_iald {j d bc bs pc pc' : Nat} {ls : List (Option Value)} {st : List Value} {g : LH} {Q : Option Value → LH → Prop} {q n : Nat} {i v : Int32} (h : lk j pc = some (.iaload, 1)) (hp : pc + 1 = pc') (hsh : Gs g q = .inr (.int, n)) (hin : vp_in i n) (hv : Gi g q i.toNatClampNeg = v) (k : LW j d bc bs pc' ls (.int v :: st) g Q) : LW j d bc bs pc ls (.int i :: .ref q :: st) g Q := by
  subst hp
  subst hv
  exact LW_iald h hsh hin k
theorem X_zald {j d bc bs pc pc' : Nat} {ls : List (Option Value)} {st : List Value} {g : LH} {Q : Option Value → LH → Prop} {q n : Nat} {i v : Int32} (h : lk j pc = some (.baload, 1)) (hp : pc + 1 = pc') (hsh : Gs g q = .inr (.boolean, n)) (hin : vp_in i n) (hv : Gi g q i.toNatClampNeg = v) (k : LW j d bc bs pc' ls (.int v :: st) g Q) : LW j d bc bs pc ls (.int i :: .ref q :: st) g Q := by
  subst hp
  subst hv
  exact LW_zald h hsh hin k
theorem X_sld {j d bc bs pc pc' : Nat} {ls : List (Option Value)} {st : List Value} {g : LH} {Q : Option Value → LH → Prop} {L : Nat} {xs : Nat → Int32} {i v : Int32} (h : lk j pc = some (.iaload, 1)) (hp : pc + 1 = pc') (hx : Gx g = some (L, xs)) (hin : vp_in i L) (hv : xs i.toNatClampNeg = v) (k : LW j d bc bs pc' ls (.int v :: st) g Q) : LW j d bc bs pc ls (.int i :: .retAddr 0 :: st) g Q := by
  subst hp
  subst hv
  exact LW_sld h hx hin k
theorem X_iast {j d bc bs pc pc' : Nat} {ls : List (Option Value)} {st : List Value} {g : LH} {Q : Option Value → LH → Prop} {q n k0 : Nat} {i x : Int32} (h : lk j pc = some (.iastore, 1)) (hp : pc + 1 = pc') (hsh : Gs g q = .inr (.int, n)) (hin : vp_in i n) (hi : i.toNatClampNeg = k0) (k : LW j d bc bs pc' ls st (putI g q k0 x) Q) : LW j d bc bs pc ls (.int x :: .int i :: .ref q :: st) g Q := by
  subst hp
  subst hi
  exact LW_iast h hsh hin k
theorem X_aald {j d bc bs pc pc' : Nat} {ls : List (Option Value)} {st : List Value} {g : LH} {Q : Option Value → LH → Prop} {q n t0 a : Nat} {C : String} {i : Int32} (h : lk j pc = some (.aaload, 1)) (hp : pc + 1 = pc') (hsh : Gs g q = .inr (.object C, n)) (ht : lTys[t0]? = some (.object C)) (hin : vp_in i n) (hv : Gr g q i.toNatClampNeg = some a) (k : LW j d bc bs pc' ls (.ref a :: st) g Q) : LW j d bc bs pc ls (.int i :: .ref q :: st) g Q := by
  subst hp
  refine LW_aald h hsh ht hin ?_
  rw [hv]
  exact k
theorem X_alen {j d bc bs pc pc' : Nat} {ls : List (Option Value)} {st : List Value} {g : LH} {Q : Option Value → LH → Prop} {q n t0 : Nat} {ty : FieldType} {v : Int32} (h : lk j pc = some (.arraylength, 1)) (hp : pc + 1 = pc') (hsh : Gs g q = .inr (ty, n)) (ht : lTys[t0]? = some ty) (hv : Int32.ofNat n = v) (k : LW j d bc bs pc' ls (.int v :: st) g Q) : LW j d bc bs pc ls (.ref q :: st) g Q := by
  subst hp
  exact LW_alen h hsh ht hv k
theorem X_copy {j d bc bs pc pc' : Nat} {ls : List (Option Value)} {st : List Value} {g : LH} {Q : Option Value → LH → Prop} {a0 a1 n0 n1 idx : Nat} {sp dp n : Int32} {sp' dp' n' : Nat} (h : lk j pc = some (.invokestatic idx, 3)) (hp : pc + 3 = pc') (hm : mres j idx = some (5, 0)) (h0 : Gs g a0 = .inr (.int, n0)) (h1 : Gs g a1 = .inr (.int, n1)) (hsp : ¬ sp < 0) (hdp : ¬ dp < 0) (hn : ¬ n < 0) (e1 : sp.toNatClampNeg = sp') (e2 : dp.toNatClampNeg = dp') (e3 : n.toNatClampNeg = n') (hb0 : sp' + n' ≤ n0) (hb1 : dp' + n' ≤ n1) (hcat : (st.map fun v => v.category).sum ≤ 8) (k : LW j (d + 1) bc bs pc' ls st (cpyI g a0 a1 sp' dp' n') Q) : LW j (d + 1) bc bs pc ls (.int n :: .int dp :: .ref a1 :: .int sp :: .ref a0 :: st) g Q := by
  subst hp
  subst e1
  subst e2
  subst e3
  exact LW_copy h hm h0 h1 hsp hdp hn hb0 hb1 hcat k
theorem X_ldc {j d bc bs pc pc' : Nat} {ls : List (Option Value)} {st : List Value} {g : LH} {Q : Option Value → LH → Prop} {idx : Nat} {v : Int32} (h : lk j pc = some (.ldc idx, 2)) (hp : pc + 2 = pc') (hv : kres j idx = some v) (k : LW j d bc bs pc' ls (.int v :: st) g Q) : LW j d bc bs pc ls (st) g Q := by
  subst hp
  exact LW_ldc h hv k
theorem X_ldcw {j d bc bs pc pc' : Nat} {ls : List (Option Value)} {st : List Value} {g : LH} {Q : Option Value → LH → Prop} {idx : Nat} {v : Int32} (h : lk j pc = some (.ldc_w idx, 3)) (hp : pc + 3 = pc') (hv : kres j idx = some v) (k : LW j d bc bs pc' ls (.int v :: st) g Q) : LW j d bc bs pc ls (st) g Q := by
  subst hp
  exact LW_ldcw h hv k
theorem X_ldc2 {j d bc bs pc pc' : Nat} {ls : List (Option Value)} {st : List Value} {g : LH} {Q : Option Value → LH → Prop} {idx : Nat} {v : Int64} (h : lk j pc = some (.ldc2_w idx, 3)) (hp : pc + 3 = pc') (hv : klres j idx = some v) (k : LW j d bc bs pc' ls (.long v :: st) g Q) : LW j d bc bs pc ls (st) g Q := by
  subst hp
  exact LW_ldc2 h hv k
def lPush : Option Value → List Value → List Value
  | none, st => st
  | some v, st => v :: st
theorem lPush_eq (v : Option Value) (st : List Value) : v.toList ++ st = lPush v st := by cases v <;> rfl
theorem X_callV {j d pc pc' : Nat} {ls : List (Option Value)} {st : List Value} {g : LH} {Q : Option Value → LH → Prop} {idx j' : Nat} {as : List Value} {stk : List Value} {q : Nat} (h : lk j pc = some (.invokevirtual idx, 3)) (hp : pc + 3 = pc') (hm : mres j idx = some (0, j')) (hj : jOk j' = true) (hn : as.length = mN j') (hlen : (lFlat (.ref q :: as)).length ≤ mL j') (hmx : mL j' ≤ 100) (hcat : (st.map fun v => v.category).sum ≤ 8) (hstk : stk = as.reverse ++ .ref q :: st) (hsh : Gs g q = .inl (mt j').1) (h14 : (mt j').1 < 14) (k : LW j' d 0 0 0 (lEnt (mL j') (.ref q :: as)) [] g (fun v g' => LW j (d + 1) 0 0 pc' ls (lPush v st) g' Q)) : LW j (d + 1) 0 0 pc ls stk g Q := by
  subst hp
  refine LW_callV (mc := 0) (ms := 0) (bc := 0) (bs := 0) h hm hj hn hlen hmx hcat hstk hsh h14 k (fun v g' q => ?_)
  rw [lPush_eq]
  exact q
theorem Y_callV {j d pc pc' : Nat} {ls : List (Option Value)} {st : List Value} {g : LH} {Q : Option Value → LH → Prop} {idx j' : Nat} {as : List Value} {stk : List Value} {q : Nat} {Q' : Option Value → LH → Prop} (h : lk j pc = some (.invokevirtual idx, 3)) (hp : pc + 3 = pc') (hm : mres j idx = some (0, j')) (hj : jOk j' = true) (hn : as.length = mN j') (hlen : (lFlat (.ref q :: as)).length ≤ mL j') (hmx : mL j' ≤ 100) (hcat : (st.map fun v => v.category).sum ≤ 8) (hstk : stk = as.reverse ++ .ref q :: st) (hsh : Gs g q = .inl (mt j').1) (h14 : (mt j').1 < 14) (spec : LW j' d 0 0 0 (lEnt (mL j') (.ref q :: as)) [] g Q') (k : ∀ v g', Q' v g' → LW j (d + 1) 0 0 pc' ls (lPush v st) g' Q) : LW j (d + 1) 0 0 pc ls stk g Q := by
  subst hp
  refine LW_callV (mc := 0) (ms := 0) (bc := 0) (bs := 0) h hm hj hn hlen hmx hcat hstk hsh h14 spec (fun v g' q => ?_)
  rw [lPush_eq]
  exact k v g' q
theorem X_callS {j d pc pc' : Nat} {ls : List (Option Value)} {st : List Value} {g : LH} {Q : Option Value → LH → Prop} {idx j' : Nat} {as : List Value} {stk : List Value} (h : lk j pc = some (.invokestatic idx, 3)) (hp : pc + 3 = pc') (hm : mres j idx = some (1, j')) (hj : jOk j' = true) (hn : as.length = mN j') (hlen : (lFlat (as)).length ≤ mL j') (hmx : mL j' ≤ 100) (hcat : (st.map fun v => v.category).sum ≤ 8) (hstk : stk = as.reverse ++ st) (k : LW j' d 0 0 0 (lEnt (mL j') (as)) [] g (fun v g' => LW j (d + 1) 0 0 pc' ls (lPush v st) g' Q)) : LW j (d + 1) 0 0 pc ls stk g Q := by
  subst hp
  refine LW_callS (mc := 0) (ms := 0) (bc := 0) (bs := 0) h hm hj hn hlen hmx hcat hstk k (fun v g' q => ?_)
  rw [lPush_eq]
  exact q
theorem Y_callS {j d pc pc' : Nat} {ls : List (Option Value)} {st : List Value} {g : LH} {Q : Option Value → LH → Prop} {idx j' : Nat} {as : List Value} {stk : List Value} {Q' : Option Value → LH → Prop} (h : lk j pc = some (.invokestatic idx, 3)) (hp : pc + 3 = pc') (hm : mres j idx = some (1, j')) (hj : jOk j' = true) (hn : as.length = mN j') (hlen : (lFlat (as)).length ≤ mL j') (hmx : mL j' ≤ 100) (hcat : (st.map fun v => v.category).sum ≤ 8) (hstk : stk = as.reverse ++ st) (spec : LW j' d 0 0 0 (lEnt (mL j') (as)) [] g Q') (k : ∀ v g', Q' v g' → LW j (d + 1) 0 0 pc' ls (lPush v st) g' Q) : LW j (d + 1) 0 0 pc ls stk g Q := by
  subst hp
  refine LW_callS (mc := 0) (ms := 0) (bc := 0) (bs := 0) h hm hj hn hlen hmx hcat hstk spec (fun v g' q => ?_)
  rw [lPush_eq]
  exact k v g' q
theorem X_callN {j d pc pc' : Nat} {ls : List (Option Value)} {st : List Value} {g : LH} {Q : Option Value → LH → Prop} {idx j' : Nat} {as : List Value} {stk : List Value} (h : lk j pc = some (.invokestatic idx, 3)) (hp : pc + 3 = pc') (hm : mres j idx = some (4, j')) (hj : jOk j' = true) (hn : as.length = mN j') (hlen : (lFlat (as)).length ≤ mL j') (hmx : mL j' ≤ 100) (hcat : (st.map fun v => v.category).sum ≤ 8) (hstk : stk = as.reverse ++ st) (k : LW j' d 0 0 0 (lEnt (mL j') (as)) [] g (fun v g' => LW j (d + 1) 0 0 pc' ls (lPush v st) g' Q)) : LW j (d + 1) 0 0 pc ls stk g Q := by
  subst hp
  refine LW_callN (mc := 0) (ms := 0) (bc := 0) (bs := 0) h hm hj hn hlen hmx hcat hstk k (fun v g' q => ?_)
  rw [lPush_eq]
  exact q
theorem Y_callN {j d pc pc' : Nat} {ls : List (Option Value)} {st : List Value} {g : LH} {Q : Option Value → LH → Prop} {idx j' : Nat} {as : List Value} {stk : List Value} {Q' : Option Value → LH → Prop} (h : lk j pc = some (.invokestatic idx, 3)) (hp : pc + 3 = pc') (hm : mres j idx = some (4, j')) (hj : jOk j' = true) (hn : as.length = mN j') (hlen : (lFlat (as)).length ≤ mL j') (hmx : mL j' ≤ 100) (hcat : (st.map fun v => v.category).sum ≤ 8) (hstk : stk = as.reverse ++ st) (spec : LW j' d 0 0 0 (lEnt (mL j') (as)) [] g Q') (k : ∀ v g', Q' v g' → LW j (d + 1) 0 0 pc' ls (lPush v st) g' Q) : LW j (d + 1) 0 0 pc ls stk g Q := by
  subst hp
  refine LW_callN (mc := 0) (ms := 0) (bc := 0) (bs := 0) h hm hj hn hlen hmx hcat hstk spec (fun v g' q => ?_)
  rw [lPush_eq]
  exact k v g' q
theorem LW_ls {j d bc bs pc : Nat} {ls ls' : List (Option Value)} {st : List Value} {g : LH} {Q : Option Value → LH → Prop} (h : ls = ls') (k : LW j d bc bs pc ls' st g Q) : LW j d bc bs pc ls st g Q := by
  subst h
  exact k
theorem X_min {j d bc bs pc pc' : Nat} {ls : List (Option Value)} {st : List Value} {g : LH} {Q : Option Value → LH → Prop} {idx : Nat} {x y v : Int32} (h : lk j pc = some (.invokestatic idx, 3)) (hp : pc + 3 = pc') (hm : mres j idx = some (1, 321)) (hcat : (st.map fun v => v.category).sum ≤ 8) (hv : (if y < x then y else x) = v) (k : LW j (d + 1) bc bs pc' ls (.int v :: st) g Q) : LW j (d + 1) bc bs pc ls (.int y :: .int x :: st) g Q := by
  subst hp
  subst hv
  exact LW_min h hm hcat k
theorem X_max {j d bc bs pc pc' : Nat} {ls : List (Option Value)} {st : List Value} {g : LH} {Q : Option Value → LH → Prop} {idx : Nat} {x y v : Int32} (h : lk j pc = some (.invokestatic idx, 3)) (hp : pc + 3 = pc') (hm : mres j idx = some (1, 320)) (hcat : (st.map fun v => v.category).sum ≤ 8) (hv : (if x < y then y else x) = v) (k : LW j (d + 1) bc bs pc' ls (.int v :: st) g Q) : LW j (d + 1) bc bs pc ls (.int y :: .int x :: st) g Q := by
  subst hp
  subst hv
  exact LW_max h hm hcat k
