/-! rows by toInt: what swalk.py walks with -/
theorem nI_or (a b : Nat) : nI a ||| nI b = nI (a ||| b) := by
  apply Int32.toBitVec_inj.mp
  show BitVec.ofNat 32 a ||| BitVec.ofNat 32 b = BitVec.ofNat 32 (a ||| b)
  apply BitVec.eq_of_toNat_eq
  simp [Nat.or_mod_two_pow]
theorem pcn_le : ∀ (k n : Nat), pcn k n ≤ k
  | 0, _ => Nat.le_refl _
  | k + 1, n => by
    have := pcn_le k (n / 2)
    show n % 2 + pcn k (n / 2) ≤ k + 1
    omega
theorem nI_ex (x : Int32) (h : 0 ≤ x.toInt) : ∃ n : Nat, n < 2 ^ 31 ∧ x = nI n ∧ x.toInt = n := by
  obtain ⟨n, h1, h2⟩ := nI_of (x := x) (fun q => by
    have q := Int32.lt_iff_toInt_lt.mp q
    rw [show (0 : Int32).toInt = 0 from rfl] at q
    omega)
  exact ⟨n, h1, h2, by rw [h2, nI_toInt h1]⟩
theorem nbool {x : Int32} {a : Int} (h : x.toInt = a) (hr : a = 0 ∨ a = 1) : narrow .boolean (.int x) = .int x := by
  have hx : x = 0 ∨ x = 1 := by
    rcases hr with hr | hr
    · exact Or.inl (Int32.toInt_inj.mp (by rw [h, hr]; rfl))
    · exact Or.inr (Int32.toInt_inj.mp (by rw [h, hr]; rfl))
  rcases hx with rfl | rfl <;> rfl
theorem ti_lo (x : Int32) : -2147483648 ≤ x.toInt := Int32.le_toInt x
theorem ti_hi (x : Int32) : x.toInt ≤ 2147483647 := Int.le_of_lt_add_one (Int32.toInt_lt x)
theorem ti_add {x y : Int32} {a b : Int} (ha : x.toInt = a) (hb : y.toInt = b) (h : -2147483648 ≤ a + b ∧ a + b ≤ 2147483647) : (x + y).toInt = a + b := by
  rw [Int32.toInt_add, ha, hb]
  exact Int.bmod_eq_of_le_mul_two (by omega) (by omega)
theorem ti_sub {x y : Int32} {a b : Int} (ha : x.toInt = a) (hb : y.toInt = b) (h : -2147483648 ≤ a - b ∧ a - b ≤ 2147483647) : (x - y).toInt = a - b := by
  rw [Int32.toInt_sub, ha, hb]
  exact Int.bmod_eq_of_le_mul_two (by omega) (by omega)
theorem ti_mul {x y : Int32} {a b : Int} (ha : x.toInt = a) (hb : y.toInt = b) (h : -2147483648 ≤ a * b ∧ a * b ≤ 2147483647) : (x * y).toInt = a * b := by
  rw [Int32.toInt_mul, ha, hb]
  generalize a * b = z at h ⊢
  exact Int.bmod_eq_of_le_mul_two (by omega) (by omega)
theorem ti_rem {x y : Int32} {a b : Int} (ha : x.toInt = a) (hb : y.toInt = b) : (x - x / y * y).toInt = a.tmod b := by
  rw [irem_eq_mod, Int32.toInt_mod, ha, hb]
theorem ti_div {x y : Int32} {a b : Int} (ha : x.toInt = a) (hb : y.toInt = b) (h0 : 0 ≤ a) (h : 0 < b) : (x / y).toInt = a / b := by
  have h1 := ti_hi x
  rw [Int32.toInt_div, ha, hb, Int.tdiv_eq_ediv_of_nonneg h0]
  have h2 : a / b ≤ a := Int.ediv_le_self b h0
  have h3 : 0 ≤ a / b := Int.ediv_nonneg h0 (by omega)
  exact Int.bmod_eq_of_le_mul_two (by omega) (by omega)
theorem ti_idx {x : Int32} {a : Int} {n : Nat} (ha : x.toInt = a) (h : 0 ≤ a ∧ a < n) : vp_in x n ∧ x.toNatClampNeg = a.toNat := by
  refine ⟨vp_in_iff.mpr (by rw [ha]; exact h), ?_⟩
  rw [← ha]
  rfl
theorem S_iadd {j d bc bs pc pc' : Nat} {ls : List (Option Value)} {st : List Value} {g : LH} {Q : Option Value → LH → Prop} {x y : Int32} {a b : Int} (h : lk j pc = some (.iadd, 1)) (hp : pc + 1 = pc') (ha : x.toInt = a) (hb : y.toInt = b) (hr : -2147483648 ≤ a + b ∧ a + b ≤ 2147483647) (k : ∀ z : Int32, z.toInt = a + b → LW j d bc bs pc' ls (.int z :: st) g Q) : LW j d bc bs pc ls (.int y :: .int x :: st) g Q := X_iadd h hp rfl (k _ (ti_add ha hb hr))
theorem S_isub {j d bc bs pc pc' : Nat} {ls : List (Option Value)} {st : List Value} {g : LH} {Q : Option Value → LH → Prop} {x y : Int32} {a b : Int} (h : lk j pc = some (.isub, 1)) (hp : pc + 1 = pc') (ha : x.toInt = a) (hb : y.toInt = b) (hr : -2147483648 ≤ a - b ∧ a - b ≤ 2147483647) (k : ∀ z : Int32, z.toInt = a - b → LW j d bc bs pc' ls (.int z :: st) g Q) : LW j d bc bs pc ls (.int y :: .int x :: st) g Q := X_isub h hp rfl (k _ (ti_sub ha hb hr))
theorem S_imul {j d bc bs pc pc' : Nat} {ls : List (Option Value)} {st : List Value} {g : LH} {Q : Option Value → LH → Prop} {x y : Int32} {a b : Int} (h : lk j pc = some (.imul, 1)) (hp : pc + 1 = pc') (ha : x.toInt = a) (hb : y.toInt = b) (hr : -2147483648 ≤ a * b ∧ a * b ≤ 2147483647) (k : ∀ z : Int32, z.toInt = a * b → LW j d bc bs pc' ls (.int z :: st) g Q) : LW j d bc bs pc ls (.int y :: .int x :: st) g Q := X_imul h hp rfl (k _ (ti_mul ha hb hr))
theorem S_iaddT {j d bc bs pc pc' : Nat} {ls : List (Option Value)} {st : List Value} {g : LH} {Q : Option Value → LH → Prop} {x y : Int32} (h : lk j pc = some (.iadd, 1)) (hp : pc + 1 = pc') (k : ∀ z : Int32, LW j d bc bs pc' ls (.int z :: st) g Q) : LW j d bc bs pc ls (.int y :: .int x :: st) g Q := X_iadd h hp rfl (k _)
theorem S_isubT {j d bc bs pc pc' : Nat} {ls : List (Option Value)} {st : List Value} {g : LH} {Q : Option Value → LH → Prop} {x y : Int32} (h : lk j pc = some (.isub, 1)) (hp : pc + 1 = pc') (k : ∀ z : Int32, LW j d bc bs pc' ls (.int z :: st) g Q) : LW j d bc bs pc ls (.int y :: .int x :: st) g Q := X_isub h hp rfl (k _)
theorem S_imulT {j d bc bs pc pc' : Nat} {ls : List (Option Value)} {st : List Value} {g : LH} {Q : Option Value → LH → Prop} {x y : Int32} (h : lk j pc = some (.imul, 1)) (hp : pc + 1 = pc') (k : ∀ z : Int32, LW j d bc bs pc' ls (.int z :: st) g Q) : LW j d bc bs pc ls (.int y :: .int x :: st) g Q := X_imul h hp rfl (k _)
theorem S_iandT {j d bc bs pc pc' : Nat} {ls : List (Option Value)} {st : List Value} {g : LH} {Q : Option Value → LH → Prop} {x y : Int32} (h : lk j pc = some (.iand, 1)) (hp : pc + 1 = pc') (k : ∀ z : Int32, LW j d bc bs pc' ls (.int z :: st) g Q) : LW j d bc bs pc ls (.int y :: .int x :: st) g Q := X_iand h hp rfl (k _)
theorem S_iorT {j d bc bs pc pc' : Nat} {ls : List (Option Value)} {st : List Value} {g : LH} {Q : Option Value → LH → Prop} {x y : Int32} (h : lk j pc = some (.ior, 1)) (hp : pc + 1 = pc') (k : ∀ z : Int32, LW j d bc bs pc' ls (.int z :: st) g Q) : LW j d bc bs pc ls (.int y :: .int x :: st) g Q := X_ior h hp rfl (k _)
theorem S_ixorT {j d bc bs pc pc' : Nat} {ls : List (Option Value)} {st : List Value} {g : LH} {Q : Option Value → LH → Prop} {x y : Int32} (h : lk j pc = some (.ixor, 1)) (hp : pc + 1 = pc') (k : ∀ z : Int32, LW j d bc bs pc' ls (.int z :: st) g Q) : LW j d bc bs pc ls (.int y :: .int x :: st) g Q := X_ixor h hp rfl (k _)
theorem S_ishlT {j d bc bs pc pc' : Nat} {ls : List (Option Value)} {st : List Value} {g : LH} {Q : Option Value → LH → Prop} {x y : Int32} (h : lk j pc = some (.ishl, 1)) (hp : pc + 1 = pc') (k : ∀ z : Int32, LW j d bc bs pc' ls (.int z :: st) g Q) : LW j d bc bs pc ls (.int y :: .int x :: st) g Q := X_ishl h hp rfl (k _)
theorem S_ishrT {j d bc bs pc pc' : Nat} {ls : List (Option Value)} {st : List Value} {g : LH} {Q : Option Value → LH → Prop} {x y : Int32} (h : lk j pc = some (.ishr, 1)) (hp : pc + 1 = pc') (k : ∀ z : Int32, LW j d bc bs pc' ls (.int z :: st) g Q) : LW j d bc bs pc ls (.int y :: .int x :: st) g Q := X_ishr h hp rfl (k _)
theorem S_iushrT {j d bc bs pc pc' : Nat} {ls : List (Option Value)} {st : List Value} {g : LH} {Q : Option Value → LH → Prop} {x y : Int32} (h : lk j pc = some (.iushr, 1)) (hp : pc + 1 = pc') (k : ∀ z : Int32, LW j d bc bs pc' ls (.int z :: st) g Q) : LW j d bc bs pc ls (.int y :: .int x :: st) g Q := X_iushr h hp rfl (k _)
theorem S_inegT {j d bc bs pc pc' : Nat} {ls : List (Option Value)} {st : List Value} {g : LH} {Q : Option Value → LH → Prop} {x : Int32} (h : lk j pc = some (.ineg, 1)) (hp : pc + 1 = pc') (k : ∀ z : Int32, LW j d bc bs pc' ls (.int z :: st) g Q) : LW j d bc bs pc ls (.int x :: st) g Q := X_ineg h hp rfl (k _)
theorem S_idiv {j d bc bs pc pc' : Nat} {ls : List (Option Value)} {st : List Value} {g : LH} {Q : Option Value → LH → Prop} {x y : Int32} {a b : Int} (h : lk j pc = some (.idiv, 1)) (hp : pc + 1 = pc') (ha : x.toInt = a) (hb : y.toInt = b) (h0 : 0 ≤ a) (h1 : 0 < b) (k : ∀ z : Int32, z.toInt = a / b → LW j d bc bs pc' ls (.int z :: st) g Q) : LW j d bc bs pc ls (.int y :: .int x :: st) g Q :=
  X_idiv h hp (fun e => by rw [e] at hb; rw [← hb] at h1; exact absurd h1 (by decide)) rfl (k _ (ti_div ha hb h0 h1))
theorem S_idivT {j d bc bs pc pc' : Nat} {ls : List (Option Value)} {st : List Value} {g : LH} {Q : Option Value → LH → Prop} {x y : Int32} {b : Int} (h : lk j pc = some (.idiv, 1)) (hp : pc + 1 = pc') (hb : y.toInt = b) (h1 : b ≠ 0) (k : ∀ z : Int32, LW j d bc bs pc' ls (.int z :: st) g Q) : LW j d bc bs pc ls (.int y :: .int x :: st) g Q :=
  X_idiv h hp (fun e => by rw [e] at hb; exact h1 hb.symm) rfl (k _)
theorem S_irem {j d bc bs pc pc' : Nat} {ls : List (Option Value)} {st : List Value} {g : LH} {Q : Option Value → LH → Prop} {x y : Int32} {a b : Int} (h : lk j pc = some (.irem, 1)) (hp : pc + 1 = pc') (ha : x.toInt = a) (hb : y.toInt = b) (h0 : 0 ≤ a) (h1 : 0 < b) (k : ∀ z : Int32, z.toInt = a % b → LW j d bc bs pc' ls (.int z :: st) g Q) : LW j d bc bs pc ls (.int y :: .int x :: st) g Q :=
  X_irem h hp (fun e => by rw [e] at hb; rw [← hb] at h1; exact absurd h1 (by decide)) rfl (k _ (by rw [ti_rem ha hb]; exact Int.tmod_eq_emod_of_nonneg h0))
theorem S_iremT {j d bc bs pc pc' : Nat} {ls : List (Option Value)} {st : List Value} {g : LH} {Q : Option Value → LH → Prop} {x y : Int32} {b : Int} (h : lk j pc = some (.irem, 1)) (hp : pc + 1 = pc') (hb : y.toInt = b) (h1 : b ≠ 0) (k : ∀ z : Int32, (0 < b → -b < z.toInt ∧ z.toInt < b) → LW j d bc bs pc' ls (.int z :: st) g Q) : LW j d bc bs pc ls (.int y :: .int x :: st) g Q :=
  X_irem h hp (fun e => by rw [e] at hb; exact h1 hb.symm) rfl (k _ (fun hpos => by
    rw [ti_rem rfl hb]
    have t1 := Int.lt_tmod_of_pos x.toInt hpos
    have t2 := Int.tmod_lt_of_pos x.toInt hpos
    exact ⟨by omega, by omega⟩))
theorem S_iandR {j d bc bs pc pc' : Nat} {ls : List (Option Value)} {st : List Value} {g : LH} {Q : Option Value → LH → Prop} {x y : Int32} {k : Nat} (h : lk j pc = some (.iand, 1)) (hp : pc + 1 = pc') (hm : y.toBitVec.toNat = 2 ^ k - 1) (kk : ∀ z : Int32, (k ≤ 30 → 0 ≤ z.toInt ∧ z.toInt ≤ ((2 ^ k - 1 : Nat) : Int)) → LW j d bc bs pc' ls (.int z :: st) g Q) : LW j d bc bs pc ls (.int y :: .int x :: st) g Q :=
  X_iand h hp rfl (kk _ (fun h30 => by
    rw [pk_and x k hm]
    have h2 : 2 ^ k ≤ 2 ^ 30 := Nat.pow_le_pow_right (by decide) h30
    have h1 : x.toBitVec.toNat % 2 ^ k < 2 ^ k := Nat.mod_lt _ (Nat.two_pow_pos k)
    rw [nI_toInt (by omega)]
    omega))
theorem S_shl1 {j d bc bs pc pc' : Nat} {ls : List (Option Value)} {st : List Value} {g : LH} {Q : Option Value → LH → Prop} {y : Int32} {b : Int} {n : Nat} (h : lk j pc = some (.ishl, 1)) (hp : pc + 1 = pc') (hb : y.toInt = b) (hr : 0 ≤ b ∧ b ≤ n ∧ n ≤ 20) (k : ∀ z : Int32, 1 ≤ z.toInt ∧ z.toInt ≤ ((2 ^ n : Nat) : Int) → LW j d bc bs pc' ls (.int z :: st) g Q) : LW j d bc bs pc ls (.int y :: .int (1 : Int32) :: st) g Q :=
  X_ishl h hp rfl (k _ (by
    obtain ⟨m, hm, e⟩ := nI_of (x := y) (fun q => by
      have q := Int32.lt_iff_toInt_lt.mp q
      rw [show (0 : Int32).toInt = 0 from rfl] at q
      omega)
    have hmb : (m : Int) = b := by rw [← hb, e, nI_toInt hm]
    have hm20 : m < 21 := by omega
    have hall : ∀ m, m < 21 → (1 : Int32) <<< (nI m &&& 31) = nI (2 ^ m) := by decide +kernel
    rw [e, hall m hm20]
    have h1 : 2 ^ m ≤ 2 ^ n := Nat.pow_le_pow_right (by decide) (by omega)
    have h2 : 2 ^ n ≤ 2 ^ 20 := Nat.pow_le_pow_right (by decide) hr.2.2
    have h3 : 0 < 2 ^ m := Nat.two_pow_pos m
    rw [nI_toInt (by omega)]
    omega))
theorem S_ior {j d bc bs pc pc' : Nat} {ls : List (Option Value)} {st : List Value} {g : LH} {Q : Option Value → LH → Prop} {x y : Int32} {a b : Int} {n : Nat} (h : lk j pc = some (.ior, 1)) (hp : pc + 1 = pc') (ha : x.toInt = a) (hb : y.toInt = b) (h1 : 0 ≤ a ∧ a < ((2 ^ n : Nat) : Int) ∧ n ≤ 30) (h2 : 0 ≤ b ∧ b < ((2 ^ n : Nat) : Int)) (k : ∀ z : Int32, 0 ≤ z.toInt ∧ z.toInt < ((2 ^ n : Nat) : Int) → LW j d bc bs pc' ls (.int z :: st) g Q) : LW j d bc bs pc ls (.int y :: .int x :: st) g Q :=
  X_ior h hp rfl (k _ (by
    obtain ⟨m, hm, e, em⟩ := nI_ex x (by omega)
    obtain ⟨q, hq, e2, eq⟩ := nI_ex y (by omega)
    rw [e, e2, nI_or]
    have hlt : m ||| q < 2 ^ n := Nat.or_lt_two_pow (by omega) (by omega)
    have hn : 2 ^ n ≤ 2 ^ 30 := Nat.pow_le_pow_right (by decide) h1.2.2
    rw [nI_toInt (by omega)]
    omega))
theorem S_iinc {j d bc bs pc pc' : Nat} {ls : List (Option Value)} {st : List Value} {g : LH} {Q : Option Value → LH → Prop} {i : Nat} {n c a : Int} {x : Int32} (h : lk j pc = some (.iinc i n, 3)) (hp : pc + 3 = pc') (hi : ls[i]? = some (some (.int x))) (ha : x.toInt = a) (hc : (Int32.ofInt n).toInt = c) (hr : -2147483648 ≤ a + c ∧ a + c ≤ 2147483647) (k : ∀ z : Int32, z.toInt = a + c → LW j d bc bs pc' (st1 ls i (.int z)) st g Q) : LW j d bc bs pc ls st g Q := X_iinc h hp hi rfl rfl (k _ (ti_add ha hc hr))
theorem S_iincT {j d bc bs pc pc' : Nat} {ls : List (Option Value)} {st : List Value} {g : LH} {Q : Option Value → LH → Prop} {i : Nat} {n : Int} {x : Int32} (h : lk j pc = some (.iinc i n, 3)) (hp : pc + 3 = pc') (hi : ls[i]? = some (some (.int x))) (k : ∀ z : Int32, LW j d bc bs pc' (st1 ls i (.int z)) st g Q) : LW j d bc bs pc ls st g Q := X_iinc h hp hi rfl rfl (k _)
theorem S_i2c {j d bc bs pc pc' : Nat} {ls : List (Option Value)} {st : List Value} {g : LH} {Q : Option Value → LH → Prop} {x : Int32} (h : lk j pc = some (.i2c, 1)) (hp : pc + 1 = pc') (k : ∀ z : Int32, 0 ≤ z.toInt ∧ z.toInt ≤ 65535 → LW j d bc bs pc' ls (.int z :: st) g Q) : LW j d bc bs pc ls (.int x :: st) g Q := X_i2c h hp rfl (k _ (by
  rw [pk_char, nI_toInt (by omega)]
  omega))
theorem S_icmp_eq {j d bc bs pc pc' : Nat} {ls : List (Option Value)} {st : List Value} {g : LH} {Q : Option Value → LH → Prop} {x y : Int32} {a b : Int} {off : Int} {tgt : Nat} (h : lk j pc = some (.if_icmp .eq off, 3)) (hp : pc + 3 = pc') (ht : (pc : Int) + off = (tgt : Int)) (ha : x.toInt = a) (hb : y.toInt = b) (kt : a = b → LW j d bc bs tgt ls (st) g Q) (kf : ¬ (a = b) → LW j d bc bs pc' ls (st) g Q) : LW j d bc bs pc ls (.int y :: .int x :: st) g Q := X_icmp_eq h hp ht (fun q => kt (by rw [← ha, ← hb, q])) (fun q => kf (fun e => q (Int32.toInt_inj.mp (by rw [ha, hb, e]))))
theorem S_if_eq {j d bc bs pc pc' : Nat} {ls : List (Option Value)} {st : List Value} {g : LH} {Q : Option Value → LH → Prop} {x : Int32} {a : Int} {off : Int} {tgt : Nat} (h : lk j pc = some (.ifCond .eq off, 3)) (hp : pc + 3 = pc') (ht : (pc : Int) + off = (tgt : Int)) (ha : x.toInt = a) (kt : a = 0 → LW j d bc bs tgt ls (st) g Q) (kf : ¬ (a = 0) → LW j d bc bs pc' ls (st) g Q) : LW j d bc bs pc ls (.int x :: st) g Q := by
  have hb : (0 : Int32).toInt = 0 := rfl
  exact X_if_eq h hp ht (fun q => kt (by rw [← ha, ← hb, q])) (fun q => kf (fun e => q (Int32.toInt_inj.mp (by rw [ha, hb, e]))))
theorem S_icmp_ne {j d bc bs pc pc' : Nat} {ls : List (Option Value)} {st : List Value} {g : LH} {Q : Option Value → LH → Prop} {x y : Int32} {a b : Int} {off : Int} {tgt : Nat} (h : lk j pc = some (.if_icmp .ne off, 3)) (hp : pc + 3 = pc') (ht : (pc : Int) + off = (tgt : Int)) (ha : x.toInt = a) (hb : y.toInt = b) (kt : ¬ a = b → LW j d bc bs tgt ls (st) g Q) (kf : ¬ (¬ a = b) → LW j d bc bs pc' ls (st) g Q) : LW j d bc bs pc ls (.int y :: .int x :: st) g Q := X_icmp_ne h hp ht (fun q => kt (fun e => q (Int32.toInt_inj.mp (by rw [ha, hb, e])))) (fun q => kf (fun e => e (by rw [← ha, ← hb, q])))
theorem S_if_ne {j d bc bs pc pc' : Nat} {ls : List (Option Value)} {st : List Value} {g : LH} {Q : Option Value → LH → Prop} {x : Int32} {a : Int} {off : Int} {tgt : Nat} (h : lk j pc = some (.ifCond .ne off, 3)) (hp : pc + 3 = pc') (ht : (pc : Int) + off = (tgt : Int)) (ha : x.toInt = a) (kt : ¬ a = 0 → LW j d bc bs tgt ls (st) g Q) (kf : ¬ (¬ a = 0) → LW j d bc bs pc' ls (st) g Q) : LW j d bc bs pc ls (.int x :: st) g Q := by
  have hb : (0 : Int32).toInt = 0 := rfl
  exact X_if_ne h hp ht (fun q => kt (fun e => q (Int32.toInt_inj.mp (by rw [ha, hb, e])))) (fun q => kf (fun e => e (by rw [← ha, ← hb, q])))
theorem S_icmp_lt {j d bc bs pc pc' : Nat} {ls : List (Option Value)} {st : List Value} {g : LH} {Q : Option Value → LH → Prop} {x y : Int32} {a b : Int} {off : Int} {tgt : Nat} (h : lk j pc = some (.if_icmp .lt off, 3)) (hp : pc + 3 = pc') (ht : (pc : Int) + off = (tgt : Int)) (ha : x.toInt = a) (hb : y.toInt = b) (kt : a < b → LW j d bc bs tgt ls (st) g Q) (kf : ¬ (a < b) → LW j d bc bs pc' ls (st) g Q) : LW j d bc bs pc ls (.int y :: .int x :: st) g Q := X_icmp_lt h hp ht (fun q => kt (by rw [← ha, ← hb]; exact Int32.lt_iff_toInt_lt.mp q)) (fun q => kf (fun e => q (Int32.lt_iff_toInt_lt.mpr (by rw [ha, hb]; exact e))))
theorem S_if_lt {j d bc bs pc pc' : Nat} {ls : List (Option Value)} {st : List Value} {g : LH} {Q : Option Value → LH → Prop} {x : Int32} {a : Int} {off : Int} {tgt : Nat} (h : lk j pc = some (.ifCond .lt off, 3)) (hp : pc + 3 = pc') (ht : (pc : Int) + off = (tgt : Int)) (ha : x.toInt = a) (kt : a < 0 → LW j d bc bs tgt ls (st) g Q) (kf : ¬ (a < 0) → LW j d bc bs pc' ls (st) g Q) : LW j d bc bs pc ls (.int x :: st) g Q := by
  have hb : (0 : Int32).toInt = 0 := rfl
  exact X_if_lt h hp ht (fun q => kt (by rw [← ha, ← hb]; exact Int32.lt_iff_toInt_lt.mp q)) (fun q => kf (fun e => q (Int32.lt_iff_toInt_lt.mpr (by rw [ha, hb]; exact e))))
theorem S_icmp_ge {j d bc bs pc pc' : Nat} {ls : List (Option Value)} {st : List Value} {g : LH} {Q : Option Value → LH → Prop} {x y : Int32} {a b : Int} {off : Int} {tgt : Nat} (h : lk j pc = some (.if_icmp .ge off, 3)) (hp : pc + 3 = pc') (ht : (pc : Int) + off = (tgt : Int)) (ha : x.toInt = a) (hb : y.toInt = b) (kt : b ≤ a → LW j d bc bs tgt ls (st) g Q) (kf : ¬ (b ≤ a) → LW j d bc bs pc' ls (st) g Q) : LW j d bc bs pc ls (.int y :: .int x :: st) g Q := X_icmp_ge h hp ht (fun q => kt (by rw [← ha, ← hb]; exact Int32.le_iff_toInt_le.mp q)) (fun q => kf (fun e => q (Int32.le_iff_toInt_le.mpr (by rw [ha, hb]; exact e))))
theorem S_if_ge {j d bc bs pc pc' : Nat} {ls : List (Option Value)} {st : List Value} {g : LH} {Q : Option Value → LH → Prop} {x : Int32} {a : Int} {off : Int} {tgt : Nat} (h : lk j pc = some (.ifCond .ge off, 3)) (hp : pc + 3 = pc') (ht : (pc : Int) + off = (tgt : Int)) (ha : x.toInt = a) (kt : 0 ≤ a → LW j d bc bs tgt ls (st) g Q) (kf : ¬ (0 ≤ a) → LW j d bc bs pc' ls (st) g Q) : LW j d bc bs pc ls (.int x :: st) g Q := by
  have hb : (0 : Int32).toInt = 0 := rfl
  exact X_if_ge h hp ht (fun q => kt (by rw [← ha, ← hb]; exact Int32.le_iff_toInt_le.mp q)) (fun q => kf (fun e => q (Int32.le_iff_toInt_le.mpr (by rw [ha, hb]; exact e))))
theorem S_icmp_gt {j d bc bs pc pc' : Nat} {ls : List (Option Value)} {st : List Value} {g : LH} {Q : Option Value → LH → Prop} {x y : Int32} {a b : Int} {off : Int} {tgt : Nat} (h : lk j pc = some (.if_icmp .gt off, 3)) (hp : pc + 3 = pc') (ht : (pc : Int) + off = (tgt : Int)) (ha : x.toInt = a) (hb : y.toInt = b) (kt : b < a → LW j d bc bs tgt ls (st) g Q) (kf : ¬ (b < a) → LW j d bc bs pc' ls (st) g Q) : LW j d bc bs pc ls (.int y :: .int x :: st) g Q := X_icmp_gt h hp ht (fun q => kt (by rw [← ha, ← hb]; exact Int32.lt_iff_toInt_lt.mp q)) (fun q => kf (fun e => q (Int32.lt_iff_toInt_lt.mpr (by rw [ha, hb]; exact e))))
theorem S_if_gt {j d bc bs pc pc' : Nat} {ls : List (Option Value)} {st : List Value} {g : LH} {Q : Option Value → LH → Prop} {x : Int32} {a : Int} {off : Int} {tgt : Nat} (h : lk j pc = some (.ifCond .gt off, 3)) (hp : pc + 3 = pc') (ht : (pc : Int) + off = (tgt : Int)) (ha : x.toInt = a) (kt : 0 < a → LW j d bc bs tgt ls (st) g Q) (kf : ¬ (0 < a) → LW j d bc bs pc' ls (st) g Q) : LW j d bc bs pc ls (.int x :: st) g Q := by
  have hb : (0 : Int32).toInt = 0 := rfl
  exact X_if_gt h hp ht (fun q => kt (by rw [← ha, ← hb]; exact Int32.lt_iff_toInt_lt.mp q)) (fun q => kf (fun e => q (Int32.lt_iff_toInt_lt.mpr (by rw [ha, hb]; exact e))))
theorem S_icmp_le {j d bc bs pc pc' : Nat} {ls : List (Option Value)} {st : List Value} {g : LH} {Q : Option Value → LH → Prop} {x y : Int32} {a b : Int} {off : Int} {tgt : Nat} (h : lk j pc = some (.if_icmp .le off, 3)) (hp : pc + 3 = pc') (ht : (pc : Int) + off = (tgt : Int)) (ha : x.toInt = a) (hb : y.toInt = b) (kt : a ≤ b → LW j d bc bs tgt ls (st) g Q) (kf : ¬ (a ≤ b) → LW j d bc bs pc' ls (st) g Q) : LW j d bc bs pc ls (.int y :: .int x :: st) g Q := X_icmp_le h hp ht (fun q => kt (by rw [← ha, ← hb]; exact Int32.le_iff_toInt_le.mp q)) (fun q => kf (fun e => q (Int32.le_iff_toInt_le.mpr (by rw [ha, hb]; exact e))))
theorem S_if_le {j d bc bs pc pc' : Nat} {ls : List (Option Value)} {st : List Value} {g : LH} {Q : Option Value → LH → Prop} {x : Int32} {a : Int} {off : Int} {tgt : Nat} (h : lk j pc = some (.ifCond .le off, 3)) (hp : pc + 3 = pc') (ht : (pc : Int) + off = (tgt : Int)) (ha : x.toInt = a) (kt : a ≤ 0 → LW j d bc bs tgt ls (st) g Q) (kf : ¬ (a ≤ 0) → LW j d bc bs pc' ls (st) g Q) : LW j d bc bs pc ls (.int x :: st) g Q := by
  have hb : (0 : Int32).toInt = 0 := rfl
  exact X_if_le h hp ht (fun q => kt (by rw [← ha, ← hb]; exact Int32.le_iff_toInt_le.mp q)) (fun q => kf (fun e => q (Int32.le_iff_toInt_le.mpr (by rw [ha, hb]; exact e))))
theorem S_tableIn {j d bc bs pc : Nat} {ls : List (Option Value)} {st : List Value} {g : LH} {Q : Option Value → LH → Prop} {dflt lo hi : Int} {offs : Array Int} {len : Nat} {x : Int32} {c off : Int} {tgt : Nat} (h : lk j pc = some (.tableswitch dflt lo hi offs, len)) (hx : x.toInt = c) (h1 : ¬ c < lo) (h2 : ¬ hi < c) (hoff : offs[(c - lo).toNat]? = some off) (ht : (pc : Int) + off = (tgt : Int)) (k : LW j d bc bs tgt ls (st) g Q) : LW j d bc bs pc ls (.int x :: st) g Q := by
  subst hx
  exact LW_tableIn h h1 h2 hoff ht k
theorem S_tableOut {j d bc bs pc : Nat} {ls : List (Option Value)} {st : List Value} {g : LH} {Q : Option Value → LH → Prop} {dflt lo hi : Int} {offs : Array Int} {len : Nat} {x : Int32} {c : Int} {tgt : Nat} (h : lk j pc = some (.tableswitch dflt lo hi offs, len)) (hx : x.toInt = c) (h1 : c < lo ∨ hi < c) (ht : (pc : Int) + dflt = (tgt : Int)) (k : LW j d bc bs tgt ls (st) g Q) : LW j d bc bs pc ls (.int x :: st) g Q := by
  subst hx
  exact LW_tableOut h h1 ht k
theorem S_lookIn {j d bc bs pc : Nat} {ls : List (Option Value)} {st : List Value} {g : LH} {Q : Option Value → LH → Prop} {dflt : Int} {ps : Array (Int × Int)} {len : Nat} {x : Int32} {c off : Int} {tgt : Nat} (h : lk j pc = some (.lookupswitch dflt ps, len)) (hx : x.toInt = c) {a : Int} (ha : c = a) (hp : (ps.toList.zip (ps.toList.drop 1)).all (fun (a, next) => a.1 < next.1) = true) (hoff : Op.lookupswitch.offset ps.toList dflt a = off) (ht : (pc : Int) + off = (tgt : Int)) (k : LW j d bc bs tgt ls (st) g Q) : LW j d bc bs pc ls (.int x :: st) g Q := by
  subst ha
  exact LW_lookup h hp (by rw [hx]; exact hoff) ht k
theorem S_laddT {j d bc bs pc pc' : Nat} {ls : List (Option Value)} {st : List Value} {g : LH} {Q : Option Value → LH → Prop} {x y : Int64} (h : lk j pc = some (.ladd, 1)) (hp : pc + 1 = pc') (k : ∀ z : Int64, LW j d bc bs pc' ls (.long z :: st) g Q) : LW j d bc bs pc ls (.long y :: .long x :: st) g Q := X_ladd h hp rfl (k _)
theorem S_lsubT {j d bc bs pc pc' : Nat} {ls : List (Option Value)} {st : List Value} {g : LH} {Q : Option Value → LH → Prop} {x y : Int64} (h : lk j pc = some (.lsub, 1)) (hp : pc + 1 = pc') (k : ∀ z : Int64, LW j d bc bs pc' ls (.long z :: st) g Q) : LW j d bc bs pc ls (.long y :: .long x :: st) g Q := X_lsub h hp rfl (k _)
theorem S_lmulT {j d bc bs pc pc' : Nat} {ls : List (Option Value)} {st : List Value} {g : LH} {Q : Option Value → LH → Prop} {x y : Int64} (h : lk j pc = some (.lmul, 1)) (hp : pc + 1 = pc') (k : ∀ z : Int64, LW j d bc bs pc' ls (.long z :: st) g Q) : LW j d bc bs pc ls (.long y :: .long x :: st) g Q := X_lmul h hp rfl (k _)
theorem S_lorT {j d bc bs pc pc' : Nat} {ls : List (Option Value)} {st : List Value} {g : LH} {Q : Option Value → LH → Prop} {x y : Int64} (h : lk j pc = some (.lor, 1)) (hp : pc + 1 = pc') (k : ∀ z : Int64, LW j d bc bs pc' ls (.long z :: st) g Q) : LW j d bc bs pc ls (.long y :: .long x :: st) g Q := X_lor h hp rfl (k _)
theorem S_landT {j d bc bs pc pc' : Nat} {ls : List (Option Value)} {st : List Value} {g : LH} {Q : Option Value → LH → Prop} {x y : Int64} (h : lk j pc = some (.land, 1)) (hp : pc + 1 = pc') (k : ∀ z : Int64, LW j d bc bs pc' ls (.long z :: st) g Q) : LW j d bc bs pc ls (.long y :: .long x :: st) g Q := by
  subst hp
  exact LW_land h (k _)
theorem S_ldivT {j d bc bs pc pc' : Nat} {ls : List (Option Value)} {st : List Value} {g : LH} {Q : Option Value → LH → Prop} {x y : Int64} (h : lk j pc = some (.ldiv, 1)) (hp : pc + 1 = pc') (hne : ¬ y = 0) (k : ∀ z : Int64, LW j d bc bs pc' ls (.long z :: st) g Q) : LW j d bc bs pc ls (.long y :: .long x :: st) g Q := by
  subst hp
  exact LW_ldiv h hne (k _)
theorem S_lnegT {j d bc bs pc pc' : Nat} {ls : List (Option Value)} {st : List Value} {g : LH} {Q : Option Value → LH → Prop} {x : Int64} (h : lk j pc = some (.lneg, 1)) (hp : pc + 1 = pc') (k : ∀ z : Int64, LW j d bc bs pc' ls (.long z :: st) g Q) : LW j d bc bs pc ls (.long x :: st) g Q := by
  subst hp
  exact LW_lneg h (k _)
theorem S_lshlT {j d bc bs pc pc' : Nat} {ls : List (Option Value)} {st : List Value} {g : LH} {Q : Option Value → LH → Prop} {x : Int64} {y : Int32} (h : lk j pc = some (.lshl, 1)) (hp : pc + 1 = pc') (k : ∀ z : Int64, LW j d bc bs pc' ls (.long z :: st) g Q) : LW j d bc bs pc ls (.int y :: .long x :: st) g Q := X_lshl h hp rfl (k _)
theorem S_i2lT {j d bc bs pc pc' : Nat} {ls : List (Option Value)} {st : List Value} {g : LH} {Q : Option Value → LH → Prop} {x : Int32} (h : lk j pc = some (.i2l, 1)) (hp : pc + 1 = pc') (k : ∀ z : Int64, LW j d bc bs pc' ls (.long z :: st) g Q) : LW j d bc bs pc ls (.int x :: st) g Q := X_i2l h hp rfl (k _)
theorem S_l2iT {j d bc bs pc pc' : Nat} {ls : List (Option Value)} {st : List Value} {g : LH} {Q : Option Value → LH → Prop} {x : Int64} (h : lk j pc = some (.l2i, 1)) (hp : pc + 1 = pc') (k : ∀ z : Int32, LW j d bc bs pc' ls (.int z :: st) g Q) : LW j d bc bs pc ls (.long x :: st) g Q := X_l2i h hp rfl (k _)
theorem S_lcmp {j d bc bs pc pc' : Nat} {ls : List (Option Value)} {st : List Value} {g : LH} {Q : Option Value → LH → Prop} {x y : Int64} (h : lk j pc = some (.lcmp, 1)) (hp : pc + 1 = pc') (k : ∀ z : Int32, ((z.toInt = 0 ↔ x = y) ∧ -1 ≤ z.toInt ∧ z.toInt ≤ 1) → LW j d bc bs pc' ls (.int z :: st) g Q) : LW j d bc bs pc ls (.long y :: .long x :: st) g Q := X_lcmp h hp rfl (k _ (by
  unfold lg_cmp
  split
  · rename_i q
    refine ⟨⟨fun e => absurd e (by decide), fun e => ?_⟩, by decide, by decide⟩
    rw [e] at q
    exact absurd q (Int64.lt_irrefl)
  · split
    · rename_i q
      exact ⟨⟨fun _ => q, fun _ => rfl⟩, by decide, by decide⟩
    · rename_i q
      exact ⟨⟨fun e => absurd e (by decide), fun e => absurd e q⟩, by decide, by decide⟩))
theorem S_min {j d bc bs pc pc' : Nat} {ls : List (Option Value)} {st : List Value} {g : LH} {Q : Option Value → LH → Prop} {idx : Nat} {x y : Int32} {a b : Int} (h : lk j pc = some (.invokestatic idx, 3)) (hp : pc + 3 = pc') (hm : mres j idx = some (1, 321)) (hcat : (st.map fun v => v.category).sum ≤ 8) (ha : x.toInt = a) (hb : y.toInt = b) (k : ∀ z : Int32, (z.toInt = a ∨ z.toInt = b) ∧ z.toInt ≤ a ∧ z.toInt ≤ b → LW j (d + 1) bc bs pc' ls (.int z :: st) g Q) : LW j (d + 1) bc bs pc ls (.int y :: .int x :: st) g Q := X_min h hp hm hcat rfl (k _ (by
  split
  · rename_i q
    have q := Int32.lt_iff_toInt_lt.mp q
    exact ⟨Or.inr hb, by omega, by omega⟩
  · rename_i q
    have q : ¬ y.toInt < x.toInt := fun e => q (Int32.lt_iff_toInt_lt.mpr e)
    exact ⟨Or.inl ha, by omega, by omega⟩))
theorem S_max {j d bc bs pc pc' : Nat} {ls : List (Option Value)} {st : List Value} {g : LH} {Q : Option Value → LH → Prop} {idx : Nat} {x y : Int32} {a b : Int} (h : lk j pc = some (.invokestatic idx, 3)) (hp : pc + 3 = pc') (hm : mres j idx = some (1, 320)) (hcat : (st.map fun v => v.category).sum ≤ 8) (ha : x.toInt = a) (hb : y.toInt = b) (k : ∀ z : Int32, (z.toInt = a ∨ z.toInt = b) ∧ a ≤ z.toInt ∧ b ≤ z.toInt → LW j (d + 1) bc bs pc' ls (.int z :: st) g Q) : LW j (d + 1) bc bs pc ls (.int y :: .int x :: st) g Q := X_max h hp hm hcat rfl (k _ (by
  split
  · rename_i q
    have q := Int32.lt_iff_toInt_lt.mp q
    exact ⟨Or.inr hb, by omega, by omega⟩
  · rename_i q
    have q : ¬ x.toInt < y.toInt := fun e => q (Int32.lt_iff_toInt_lt.mpr e)
    exact ⟨Or.inl ha, by omega, by omega⟩))
theorem S_iandL {j d bc bs pc pc' : Nat} {ls : List (Option Value)} {st : List Value} {g : LH} {Q : Option Value → LH → Prop} {x y : Int32} {k : Nat} (h : lk j pc = some (.iand, 1)) (hp : pc + 1 = pc') (hm : x.toBitVec.toNat = 2 ^ k - 1) (kk : ∀ z : Int32, (k ≤ 30 → 0 ≤ z.toInt ∧ z.toInt ≤ ((2 ^ k - 1 : Nat) : Int)) → LW j d bc bs pc' ls (.int z :: st) g Q) : LW j d bc bs pc ls (.int y :: .int x :: st) g Q :=
  X_iand h hp rfl (kk _ (fun h30 => by
    rw [Int32.and_comm, pk_and y k hm]
    have h2 : 2 ^ k ≤ 2 ^ 30 := Nat.pow_le_pow_right (by decide) h30
    have h1 : y.toBitVec.toNat % 2 ^ k < 2 ^ k := Nat.mod_lt _ (Nat.two_pow_pos k)
    rw [nI_toInt (by omega)]
    omega))
theorem lk_off {dflt c : Int} : ∀ {ps : List (Int × Int)}, (∀ q ∈ ps, ¬ c = q.1) → Op.lookupswitch.offset ps dflt c = dflt := by
  intro ps
  induction ps with
  | nil => intro _; rfl
  | cons a r ih =>
    intro h
    obtain ⟨a, b⟩ := a
    rw [Op.lookupswitch.offset_cons, if_neg (fun e => h (a, b) List.mem_cons_self e.symm)]
    exact ih (fun q hq => h q (List.mem_cons_of_mem _ hq))
theorem S_iald_v {j d bc bs pc pc' : Nat} {ls : List (Option Value)} {st : List Value} {g : LH} {Q : Option Value → LH → Prop} {q n : Nat} {i v : Int32} {a : Int} (h : lk j pc = some (.iaload, 1)) (hp : pc + 1 = pc') (hsh : Gs g q = .inr (.int, n)) (hi : i.toInt = a) (hin : 0 ≤ a ∧ a < n) (e : Gi g q a.toNat = v) (k : LW j d bc bs pc' ls (.int v :: st) g Q) : LW j d bc bs pc ls (.int i :: .ref q :: st) g Q := X_iald h hp hsh (ti_idx hi hin).1 (by rw [(ti_idx hi hin).2]; exact e) k
theorem S_zald_v {j d bc bs pc pc' : Nat} {ls : List (Option Value)} {st : List Value} {g : LH} {Q : Option Value → LH → Prop} {q n : Nat} {i v : Int32} {a : Int} (h : lk j pc = some (.baload, 1)) (hp : pc + 1 = pc') (hsh : Gs g q = .inr (.boolean, n)) (hi : i.toInt = a) (hin : 0 ≤ a ∧ a < n) (e : Gi g q a.toNat = v) (k : LW j d bc bs pc' ls (.int v :: st) g Q) : LW j d bc bs pc ls (.int i :: .ref q :: st) g Q := X_zald h hp hsh (ti_idx hi hin).1 (by rw [(ti_idx hi hin).2]; exact e) k
theorem S_lookOut {j d bc bs pc : Nat} {ls : List (Option Value)} {st : List Value} {g : LH} {Q : Option Value → LH → Prop} {dflt : Int} {ps : Array (Int × Int)} {len : Nat} {x : Int32} {c : Int} {tgt : Nat} (h : lk j pc = some (.lookupswitch dflt ps, len)) (hx : x.toInt = c) (hp : (ps.toList.zip (ps.toList.drop 1)).all (fun (a, next) => a.1 < next.1) = true) (hne : ∀ q ∈ ps.toList, ¬ c = q.1) (ht : (pc : Int) + dflt = (tgt : Int)) (k : LW j d bc bs tgt ls st g Q) : LW j d bc bs pc ls (.int x :: st) g Q := by
  subst hx
  exact LW_lookup h hp (lk_off hne) ht k
theorem S_getI {j d bc bs pc pc' : Nat} {ls : List (Option Value)} {st : List Value} {g : LH} {Q : Option Value → LH → Prop} {idx ci k0 q : Nat} (h : lk j pc = some (.getfield idx, 3)) (hp : pc + 3 = pc') (hf : fres j idx = some (ci, k0)) (hsh : Gs g q = .inl ci) (hk : kd (tyA ci k0) = 0) (k : ∀ z : Int32, Gi g q k0 = z → LW j d bc bs pc' ls (.int z :: st) g Q) : LW j d bc bs pc ls (.ref q :: st) g Q := X_getI h hp hf hsh hk rfl (k _ rfl)
theorem S_iald {j d bc bs pc pc' : Nat} {ls : List (Option Value)} {st : List Value} {g : LH} {Q : Option Value → LH → Prop} {q n : Nat} {i : Int32} {a : Int} (h : lk j pc = some (.iaload, 1)) (hp : pc + 1 = pc') (hsh : Gs g q = .inr (.int, n)) (hi : i.toInt = a) (hin : 0 ≤ a ∧ a < n) (k : ∀ z : Int32, Gi g q a.toNat = z → LW j d bc bs pc' ls (.int z :: st) g Q) : LW j d bc bs pc ls (.int i :: .ref q :: st) g Q := X_iald h hp hsh (ti_idx hi hin).1 (by rw [(ti_idx hi hin).2]) (k _ rfl)
theorem S_zald {j d bc bs pc pc' : Nat} {ls : List (Option Value)} {st : List Value} {g : LH} {Q : Option Value → LH → Prop} {q n : Nat} {i : Int32} {a : Int} (h : lk j pc = some (.baload, 1)) (hp : pc + 1 = pc') (hsh : Gs g q = .inr (.boolean, n)) (hi : i.toInt = a) (hin : 0 ≤ a ∧ a < n) (k : ∀ z : Int32, Gi g q a.toNat = z → LW j d bc bs pc' ls (.int z :: st) g Q) : LW j d bc bs pc ls (.int i :: .ref q :: st) g Q := X_zald h hp hsh (ti_idx hi hin).1 (by rw [(ti_idx hi hin).2]) (k _ rfl)
theorem putS {g : LH} {q k : Nat} {z : Int32} : Gi (putI g q k z) q = upd (Gi g q) k z := va_up_self _ _ _
theorem putN {g : LH} {q k p : Nat} {z : Int32} (h : p ≠ q) : Gi (putI g q k z) p = Gi g p := va_up_ne _ _ h
theorem putI_o {g : LH} {q k : Nat} {x : Int32} (q' k' : Nat) (h : q' ≠ q ∨ k' ≠ k) : Gi (putI g q k x) q' k' = Gi g q' k' := by
  by_cases hq : q' = q
  · subst hq
    rw [putS, pk_un (by omega)]
  · rw [putN hq]
theorem putI_s {g : LH} {q k : Nat} {x : Int32} : Gi (putI g q k x) q k = x := by rw [putS, pk_us]
theorem S_putI {j d bc bs pc pc' : Nat} {ls : List (Option Value)} {st : List Value} {g : LH} {Q : Option Value → LH → Prop} {I : LH → Prop} {idx ci k0 q : Nat} {x : Int32} (h : lk j pc = some (.putfield idx, 3)) (hp : pc + 3 = pc') (hf : fres j idx = some (ci, k0)) (hsh : Gs g q = .inl ci) (hk : kd (tyA ci k0) = 0) (hn : narrow (tyA ci k0) (.int x) = .int x) (hfit : fits (tyA ci k0) (.int x) = true) (hfin : lFin ci k0 = false) (ok : I (putI g q k0 x)) (k : ∀ g' : LH, I g' → Gi g' q k0 = x → (∀ q' k', q' ≠ q ∨ k' ≠ k0 → Gi g' q' k' = Gi g q' k') → Gr g' = Gr g → LW j d bc bs pc' ls st g' Q) : LW j d bc bs pc ls (.int x :: .ref q :: st) g Q := X_putI h hp hf hsh hk hn hfit hfin (k _ ok putI_s putI_o rfl)
/-- a truth is written: 0 or 1 -/
theorem S_putZ {j d bc bs pc pc' : Nat} {ls : List (Option Value)} {st : List Value} {g : LH} {Q : Option Value → LH → Prop} {I : LH → Prop} {idx ci k0 q : Nat} {x : Int32} {a : Int} (h : lk j pc = some (.putfield idx, 3)) (hp : pc + 3 = pc') (hf : fres j idx = some (ci, k0)) (hsh : Gs g q = .inl ci) (hz : tyA ci k0 = .boolean) (ha : x.toInt = a) (hr : a = 0 ∨ a = 1) (hfin : lFin ci k0 = false) (ok : I (putI g q k0 x)) (k : ∀ g' : LH, I g' → Gi g' q k0 = x → (∀ q' k', q' ≠ q ∨ k' ≠ k0 → Gi g' q' k' = Gi g q' k') → Gr g' = Gr g → LW j d bc bs pc' ls st g' Q) : LW j d bc bs pc ls (.int x :: .ref q :: st) g Q := by
  have hx : x = 0 ∨ x = 1 := by
    rcases hr with hr | hr
    · exact Or.inl (Int32.toInt_inj.mp (by rw [ha, hr]; rfl))
    · exact Or.inr (Int32.toInt_inj.mp (by rw [ha, hr]; rfl))
  refine X_putI h hp hf hsh (by rw [hz]; rfl) ?_ ?_ hfin (k _ ok putI_s putI_o rfl)
  · rw [hz]
    rcases hx with rfl | rfl <;> rfl
  · rw [hz]
    rcases hx with rfl | rfl <;> rfl
theorem S_iast {j d bc bs pc pc' : Nat} {ls : List (Option Value)} {st : List Value} {g : LH} {Q : Option Value → LH → Prop} {I : LH → Prop} {q n : Nat} {i x : Int32} {a : Int} (h : lk j pc = some (.iastore, 1)) (hp : pc + 1 = pc') (hsh : Gs g q = .inr (.int, n)) (hi : i.toInt = a) (hin : 0 ≤ a ∧ a < n) (ok : I (putI g q a.toNat x)) (k : ∀ g' : LH, I g' → Gi g' q a.toNat = x → (∀ q' k', q' ≠ q ∨ k' ≠ a.toNat → Gi g' q' k' = Gi g q' k') → Gr g' = Gr g → LW j d bc bs pc' ls st g' Q) : LW j d bc bs pc ls (.int x :: .int i :: .ref q :: st) g Q := X_iast h hp hsh (ti_idx hi hin).1 (ti_idx hi hin).2 (k _ ok putI_s putI_o rfl)
theorem S_zast {j d bc bs pc pc' : Nat} {ls : List (Option Value)} {st : List Value} {g : LH} {Q : Option Value → LH → Prop} {I : LH → Prop} {q n : Nat} {i x : Int32} {a : Int} (h : lk j pc = some (.bastore, 1)) (hp : pc + 1 = pc') (hsh : Gs g q = .inr (.boolean, n)) (hi : i.toInt = a) (hin : 0 ≤ a ∧ a < n) (ok : ∀ y : Int32, I (putI g q a.toNat y)) (k : ∀ g' : LH, I g' → (∀ q' k', q' ≠ q ∨ k' ≠ a.toNat → Gi g' q' k' = Gi g q' k') → Gr g' = Gr g → LW j d bc bs pc' ls st g' Q) : LW j d bc bs pc ls (.int x :: .int i :: .ref q :: st) g Q := X_zast h hp hsh (ti_idx hi hin).1 (ti_idx hi hin).2 rfl (k _ (ok _) putI_o rfl)
theorem S_last {j d bc bs pc pc' : Nat} {ls : List (Option Value)} {st : List Value} {g : LH} {Q : Option Value → LH → Prop} {I : LH → Prop} {q n : Nat} {i : Int32} {x : Int64} {a : Int} (h : lk j pc = some (.lastore, 1)) (hp : pc + 1 = pc') (hsh : Gs g q = .inr (.long, n)) (hi : i.toInt = a) (hin : 0 ≤ a ∧ a < n) (ok : ∀ J, I (Gn g, Gs g, Gi g, J, Gr g, Gx g)) (k : ∀ g' : LH, I g' → (∀ q' k', Gi g' q' k' = Gi g q' k') → Gr g' = Gr g → LW j d bc bs pc' ls st g' Q) : LW j d bc bs pc ls (.long x :: .int i :: .ref q :: st) g Q := by
  subst hp
  exact LW_last h hsh (ti_idx hi hin).1 (k _ (ok _) (fun _ _ => rfl) rfl)
theorem S_lald {j d bc bs pc pc' : Nat} {ls : List (Option Value)} {st : List Value} {g : LH} {Q : Option Value → LH → Prop} {q n : Nat} {i : Int32} {a : Int} (h : lk j pc = some (.laload, 1)) (hp : pc + 1 = pc') (hsh : Gs g q = .inr (.long, n)) (hi : i.toInt = a) (hin : 0 ≤ a ∧ a < n) (k : ∀ z : Int64, LW j d bc bs pc' ls (.long z :: st) g Q) : LW j d bc bs pc ls (.int i :: .ref q :: st) g Q := by
  subst hp
  exact LW_lald h hsh (ti_idx hi hin).1 (k _)
theorem S_getJ {j d bc bs pc pc' : Nat} {ls : List (Option Value)} {st : List Value} {g : LH} {Q : Option Value → LH → Prop} {idx ci k0 q : Nat} (h : lk j pc = some (.getfield idx, 3)) (hp : pc + 3 = pc') (hf : fres j idx = some (ci, k0)) (hsh : Gs g q = .inl ci) (hk : kd (tyA ci k0) = 1) (k : ∀ z : Int64, LW j d bc bs pc' ls (.long z :: st) g Q) : LW j d bc bs pc ls (.ref q :: st) g Q := by
  subst hp
  exact LW_getJ h hf hsh hk (k _)
theorem S_putJ {j d bc bs pc pc' : Nat} {ls : List (Option Value)} {st : List Value} {g : LH} {Q : Option Value → LH → Prop} {I : LH → Prop} {idx ci k0 q : Nat} {x : Int64} (h : lk j pc = some (.putfield idx, 3)) (hp : pc + 3 = pc') (hf : fres j idx = some (ci, k0)) (hsh : Gs g q = .inl ci) (hk : kd (tyA ci k0) = 1) (hn : narrow (tyA ci k0) (.long x) = .long x) (hfit : fits (tyA ci k0) (.long x) = true) (hfin : lFin ci k0 = false) (ok : ∀ J, I (Gn g, Gs g, Gi g, J, Gr g, Gx g)) (k : ∀ g' : LH, I g' → (∀ q' k', Gi g' q' k' = Gi g q' k') → Gr g' = Gr g → LW j d bc bs pc' ls st g' Q) : LW j d bc bs pc ls (.long x :: .ref q :: st) g Q := by
  subst hp
  exact LW_putJ h hf hsh hk hn hfit (Or.inl hfin) (k _ (ok _) (fun _ _ => rfl) rfl)
theorem S_copy {j d bc bs pc pc' : Nat} {ls : List (Option Value)} {st : List Value} {g : LH} {Q : Option Value → LH → Prop} {I : LH → Prop} {a0 a1 n0 n1 idx sp' dp' n' : Nat} {sp dp n : Int32} (h : lk j pc = some (.invokestatic idx, 3)) (hp : pc + 3 = pc') (hm : mres j idx = some (5, 0)) (h0 : Gs g a0 = .inr (.int, n0)) (h1 : Gs g a1 = .inr (.int, n1)) (hsp : ¬ sp < 0) (hdp : ¬ dp < 0) (hn : ¬ n < 0) (e1 : sp.toNatClampNeg = sp') (e2 : dp.toNatClampNeg = dp') (e3 : n.toNatClampNeg = n') (hb0 : sp' + n' ≤ n0) (hb1 : dp' + n' ≤ n1) (hcat : (st.map fun v => v.category).sum ≤ 8) (ok : I (cpyI g a0 a1 sp' dp' n')) (k : ∀ g' : LH, I g' → (∀ q' k', q' ≠ a1 → Gi g' q' k' = Gi g q' k') → Gr g' = Gr g → LW j (d + 1) bc bs pc' ls st g' Q) : LW j (d + 1) bc bs pc ls (.int n :: .int dp :: .ref a1 :: .int sp :: .ref a0 :: st) g Q := by
  subst hp
  subst e1
  subst e2
  subst e3
  refine LW_copy h hm h0 h1 hsp hdp hn hb0 hb1 hcat (k _ ok (fun q' k' hq => ?_) rfl)
  show va_up (Gi g) a1 _ q' k' = _
  rw [va_up_ne _ _ hq]
