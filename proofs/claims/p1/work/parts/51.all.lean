/-! raise, sign, of, about, word: both sides answer the same word -/
theorem LW_gx {j d bc bs pc : Nat} {ls : List (Option Value)} {st : List Value} {g : LH} {Q : Option Value → LH → Prop} (h : LW j d bc bs pc ls st g Q) : LW j d bc bs pc ls st g (fun v g' => Q v g' ∧ Gx g' = Gx g) :=
  fun p l e R s m args below meth c H locs cells slots Z D aC ρ A H0 b lsR X hc hs hw hl ho hz => h p l e R s m args below meth c H locs cells slots Z D aC ρ A H0 b lsR X hc hs hw hl ho (fun v g' ρ' H' locs' cells' slots' pc' ls' hQ h1 h2 h3 => hz v g' ρ' H' locs' cells' slots' pc' ls' ⟨hQ, h3⟩ h1 h2 h3)
theorem LW_dmono {j d bc bs pc : Nat} {ls : List (Option Value)} {st : List Value} {g : LH} {Q : Option Value → LH → Prop} (h : LW j d bc bs pc ls st g Q) : LW j (d + 1) bc bs pc ls st g Q :=
  fun p l e R s m args below meth c H locs cells slots Z D aC ρ A H0 b lsR X hc hs hw hl ho hz => h p l e R s m args below meth c H locs cells slots Z D aC ρ A H0 b lsR ⟨X.1, X.2.1, X.2.2.1, X.2.2.2.1, X.2.2.2.2.1, X.2.2.2.2.2.1, X.2.2.2.2.2.2.1, X.2.2.2.2.2.2.2.1, by have := X.2.2.2.2.2.2.2.2.1; omega, by have := X.2.2.2.2.2.2.2.2.2; omega⟩ hc hs hw hl ho hz
theorem nI_ex (x : Int32) (h : 0 ≤ x.toInt) : ∃ n : Nat, n < 2 ^ 31 ∧ x = nI n ∧ x.toInt = n := by
  obtain ⟨j, hj, e⟩ := nI_of (x := x) (fun q => by
    have q := Int32.lt_iff_toInt_lt.mp q
    rw [show (0 : Int32).toInt = 0 from rfl] at q
    omega)
  exact ⟨j, hj, e, by rw [e, nI_toInt hj]⟩
theorem r_raise {g : LH} (F : Fr g) (a b : Int32) : LW 253 30 0 0 0 (lEnt (mL 253) [.ref 355, .int a, .int b]) [] g (fun v _ => v = some (.int (f_raise a b))) := by
  by_cases h : 0 ≤ a.toInt ∧ a.toInt ≤ 25
  · obtain ⟨n, hn, rfl, e⟩ := nI_ex a h.1
    have e2 : f_raise (nI n) b = if (0 ≤ b.toInt ∧ b.toInt ≤ 99) ∧ ¬ b.toInt = 1 then 1 else 0 := by
      unfold f_raise
      rw [e]
      by_cases q : (0 ≤ b.toInt ∧ b.toInt ≤ 99) ∧ ¬ b.toInt = 1
      · rw [if_pos ⟨⟨by omega, by omega⟩, q⟩, if_pos q]
      · rw [if_neg (fun z => q z.2), if_neg q]
    rw [e2]
    exact r_raise_in F (by omega) b
  · have e2 : f_raise a b = 0 := if_neg (fun z => h z.1)
    rw [e2]
    exact r_raise_out F a b h
theorem r_sign {g : LH} (F : Fr g) (a b : Int32) : LW 254 30 0 0 0 (lEnt (mL 254) [.ref 355, .int a, .int b]) [] g (fun v _ => v = some (.int (f_sign a b))) := by
  by_cases h : 0 ≤ a.toInt ∧ a.toInt ≤ 25
  · obtain ⟨n, hn, rfl, e⟩ := nI_ex a h.1
    have e2 : f_sign (nI n) b = if (-1 ≤ b.toInt ∧ b.toInt ≤ 9) ∧ ¬ b.toInt = -1 then 1 else 0 := by
      unfold f_sign
      rw [e]
      by_cases q : (-1 ≤ b.toInt ∧ b.toInt ≤ 9) ∧ ¬ b.toInt = -1
      · rw [if_pos ⟨⟨by omega, by omega⟩, q⟩, if_pos q]
      · rw [if_neg (fun z => q z.2), if_neg q]
    rw [e2]
    exact r_sign_in F (by omega) b
  · have e2 : f_sign a b = 0 := if_neg (fun z => h z.1)
    rw [e2]
    exact r_sign_out F a b h
theorem r_of {g : LH} (F : Fr g) (a b : Int32) : LW 270 30 0 0 0 (lEnt (mL 270) [.ref 355, .int a, .int b]) [] g (fun v _ => v = some (.int (f_of a b))) := by
  by_cases h : 0 ≤ a.toInt ∧ a.toInt ≤ 25
  · obtain ⟨n, hn, rfl, e⟩ := nI_ex a h.1
    have e2 : f_of (nI n) b = if b.toInt = 0 then 1 else if b.toInt = 3 then -1 else if 0 ≤ b.toInt ∧ b.toInt ≤ 6 then 0 else -2 := by
      unfold f_of
      rw [e, if_pos ⟨by omega, by omega⟩]
    rw [e2]
    exact r_of_in F (by omega) b
  · have e2 : f_of a b = -2 := if_neg h
    rw [e2]
    exact r_of_out F a b h
theorem r_about {g : LH} (F : Fr g) (a : Int32) : LW 318 30 0 0 0 (lEnt (mL 318) [.ref 355, .int a]) [] g (fun v _ => v = some (.int (f_about a))) := by
  by_cases h0 : a = 0
  · subst h0
    rw [show f_about 0 = 0 from by decide +kernel]
    exact r_about_0 F
  by_cases h1 : a = 1
  · subst h1
    rw [show f_about 1 = 0 from by decide +kernel]
    exact r_about_1 F
  by_cases h2 : a = 2
  · subst h2
    rw [show f_about 2 = 0 from by decide +kernel]
    exact r_about_2 F
  by_cases h3 : a = 3
  · subst h3
    rw [show f_about 3 = 17 from by decide +kernel]
    exact r_about_3 F
  by_cases h4 : a = 4
  · subst h4
    rw [show f_about 4 = 0 from by decide +kernel]
    exact r_about_4 F
  by_cases h5 : a = 5
  · subst h5
    rw [show f_about 5 = -1 from by decide +kernel]
    exact r_about_5 F
  by_cases h6 : a = 6
  · subst h6
    rw [show f_about 6 = 0 from by decide +kernel]
    exact r_about_6 F
  by_cases h7 : a = 7
  · subst h7
    rw [show f_about 7 = 0 from by decide +kernel]
    exact r_about_7 F
  by_cases h8 : a = 8
  · subst h8
    rw [show f_about 8 = 0 from by decide +kernel]
    exact r_about_8 F
  by_cases h9 : a = 9
  · subst h9
    rw [show f_about 9 = 0 from by decide +kernel]
    exact r_about_9 F
  by_cases h10 : a = 10
  · subst h10
    rw [show f_about 10 = 0 from by decide +kernel]
    exact r_about_10 F
  by_cases h11 : a = 11
  · subst h11
    rw [show f_about 11 = 0 from by decide +kernel]
    exact r_about_11 F
  simp only [← Int32.toInt_inj, (show (0 : Int32).toInt = 0 from rfl), (show (1 : Int32).toInt = 1 from rfl), (show (2 : Int32).toInt = 2 from rfl), (show (3 : Int32).toInt = 3 from rfl), (show (4 : Int32).toInt = 4 from rfl), (show (5 : Int32).toInt = 5 from rfl), (show (6 : Int32).toInt = 6 from rfl), (show (7 : Int32).toInt = 7 from rfl), (show (8 : Int32).toInt = 8 from rfl), (show (9 : Int32).toInt = 9 from rfl), (show (10 : Int32).toInt = 10 from rfl), (show (11 : Int32).toInt = 11 from rfl)] at h0 h1 h2 h3 h4 h5 h6 h7 h8 h9 h10 h11
  have hr : ¬ (0 ≤ a.toInt ∧ a.toInt ≤ 11) := by omega
  have e2 : f_about a = -2 := by
    unfold f_about
    rw [if_neg (by omega), if_neg (by omega), if_neg hr]
  rw [e2]
  exact r_about_out F a hr
theorem bv_cond (y : Int32) : y.toInt = if 2 * y.toBitVec.toNat < 2 ^ 32 then (y.toBitVec.toNat : Int) else (y.toBitVec.toNat : Int) - (2 ^ 32 : Nat) := BitVec.toInt_eq_toNat_cond y.toBitVec
theorem byte_0 (x : Int32) : (x >>> ((0 : Int32) &&& 31)) &&& (255 : Int32) = ((x).toUInt32 >>> (((0 : Int32)).toUInt32 &&& Int32.toUInt32 31)).toInt32 &&& (255 : Int32) := by
  have h1 := pk_shr x ((0 : Int32) &&& 31) 0 (by decide)
  have h2 := pk_ushr x (0 : Int32) 0 (by decide)
  have g1 := pk_and (x >>> ((0 : Int32) &&& 31)) (m := (255 : Int32)) 8 rfl
  have g2 := pk_and (((x).toUInt32 >>> (((0 : Int32)).toUInt32 &&& Int32.toUInt32 31)).toInt32) (m := (255 : Int32)) 8 rfl
  rw [g1, g2, h2]
  clear g1 g2 h2
  rw [Int.shiftRight_eq_div_pow] at h1
  have a := bv_cond x
  have b := bv_cond (x >>> ((0 : Int32) &&& 31))
  have l1 := x.toBitVec.isLt
  have l2 := (x >>> ((0 : Int32) &&& 31)).toBitVec.isLt
  generalize (x >>> ((0 : Int32) &&& 31)).toInt = yi at h1 b
  generalize (x >>> ((0 : Int32) &&& 31)).toBitVec.toNat = yt at b l2 ⊢
  generalize x.toInt = xi at h1 a
  generalize x.toBitVec.toNat = xt at a l1 ⊢
  refine congrArg nI ?_
  split at a <;> split at b <;> omega
theorem byte_8 (x : Int32) : (x >>> ((8 : Int32) &&& 31)) &&& (255 : Int32) = ((x).toUInt32 >>> (((8 : Int32)).toUInt32 &&& Int32.toUInt32 31)).toInt32 &&& (255 : Int32) := by
  have h1 := pk_shr x ((8 : Int32) &&& 31) 8 (by decide)
  have h2 := pk_ushr x (8 : Int32) 8 (by decide)
  have g1 := pk_and (x >>> ((8 : Int32) &&& 31)) (m := (255 : Int32)) 8 rfl
  have g2 := pk_and (((x).toUInt32 >>> (((8 : Int32)).toUInt32 &&& Int32.toUInt32 31)).toInt32) (m := (255 : Int32)) 8 rfl
  rw [g1, g2, h2]
  clear g1 g2 h2
  rw [Int.shiftRight_eq_div_pow] at h1
  have a := bv_cond x
  have b := bv_cond (x >>> ((8 : Int32) &&& 31))
  have l1 := x.toBitVec.isLt
  have l2 := (x >>> ((8 : Int32) &&& 31)).toBitVec.isLt
  generalize (x >>> ((8 : Int32) &&& 31)).toInt = yi at h1 b
  generalize (x >>> ((8 : Int32) &&& 31)).toBitVec.toNat = yt at b l2 ⊢
  generalize x.toInt = xi at h1 a
  generalize x.toBitVec.toNat = xt at a l1 ⊢
  refine congrArg nI ?_
  split at a <;> split at b <;> omega
theorem byte_16 (x : Int32) : (x >>> ((16 : Int32) &&& 31)) &&& (255 : Int32) = ((x).toUInt32 >>> (((16 : Int32)).toUInt32 &&& Int32.toUInt32 31)).toInt32 &&& (255 : Int32) := by
  have h1 := pk_shr x ((16 : Int32) &&& 31) 16 (by decide)
  have h2 := pk_ushr x (16 : Int32) 16 (by decide)
  have g1 := pk_and (x >>> ((16 : Int32) &&& 31)) (m := (255 : Int32)) 8 rfl
  have g2 := pk_and (((x).toUInt32 >>> (((16 : Int32)).toUInt32 &&& Int32.toUInt32 31)).toInt32) (m := (255 : Int32)) 8 rfl
  rw [g1, g2, h2]
  clear g1 g2 h2
  rw [Int.shiftRight_eq_div_pow] at h1
  have a := bv_cond x
  have b := bv_cond (x >>> ((16 : Int32) &&& 31))
  have l1 := x.toBitVec.isLt
  have l2 := (x >>> ((16 : Int32) &&& 31)).toBitVec.isLt
  generalize (x >>> ((16 : Int32) &&& 31)).toInt = yi at h1 b
  generalize (x >>> ((16 : Int32) &&& 31)).toBitVec.toNat = yt at b l2 ⊢
  generalize x.toInt = xi at h1 a
  generalize x.toBitVec.toNat = xt at a l1 ⊢
  refine congrArg nI ?_
  split at a <;> split at b <;> omega
theorem byte_24 (x : Int32) : (x >>> ((24 : Int32) &&& 31)) &&& (255 : Int32) = ((x).toUInt32 >>> (((24 : Int32)).toUInt32 &&& Int32.toUInt32 31)).toInt32 &&& (255 : Int32) := by
  have h1 := pk_shr x ((24 : Int32) &&& 31) 24 (by decide)
  have h2 := pk_ushr x (24 : Int32) 24 (by decide)
  have g1 := pk_and (x >>> ((24 : Int32) &&& 31)) (m := (255 : Int32)) 8 rfl
  have g2 := pk_and (((x).toUInt32 >>> (((24 : Int32)).toUInt32 &&& Int32.toUInt32 31)).toInt32) (m := (255 : Int32)) 8 rfl
  rw [g1, g2, h2]
  clear g1 g2 h2
  rw [Int.shiftRight_eq_div_pow] at h1
  have a := bv_cond x
  have b := bv_cond (x >>> ((24 : Int32) &&& 31))
  have l1 := x.toBitVec.isLt
  have l2 := (x >>> ((24 : Int32) &&& 31)).toBitVec.isLt
  generalize (x >>> ((24 : Int32) &&& 31)).toInt = yi at h1 b
  generalize (x >>> ((24 : Int32) &&& 31)).toBitVec.toNat = yt at b l2 ⊢
  generalize x.toInt = xi at h1 a
  generalize x.toBitVec.toNat = xt at a l1 ⊢
  refine congrArg nI ?_
  split at a <;> split at b <;> omega
def f_word (a c s : Int32) : Int32 := f_wordB (((a).toUInt32 >>> (((0 : Int32)).toUInt32 &&& Int32.toUInt32 31)).toInt32 &&& (255 : Int32)) (((a).toUInt32 >>> (((8 : Int32)).toUInt32 &&& Int32.toUInt32 31)).toInt32 &&& (255 : Int32)) (((a).toUInt32 >>> (((16 : Int32)).toUInt32 &&& Int32.toUInt32 31)).toInt32 &&& (255 : Int32)) (((a).toUInt32 >>> (((24 : Int32)).toUInt32 &&& Int32.toUInt32 31)).toInt32 &&& (255 : Int32)) (((c).toUInt32 >>> (((0 : Int32)).toUInt32 &&& Int32.toUInt32 31)).toInt32 &&& (255 : Int32)) (((c).toUInt32 >>> (((8 : Int32)).toUInt32 &&& Int32.toUInt32 31)).toInt32 &&& (255 : Int32)) (((c).toUInt32 >>> (((16 : Int32)).toUInt32 &&& Int32.toUInt32 31)).toInt32 &&& (255 : Int32)) (((c).toUInt32 >>> (((24 : Int32)).toUInt32 &&& Int32.toUInt32 31)).toInt32 &&& (255 : Int32)) s
theorem c_wordA {g : LH} (F : Fc g) (E : Fr g) (a c s : Int32) : LW 127 30 0 0 0 (lEnt (mL 127) [.ref 0, .int a, .int c, .int s]) [] g (fun v g' => v = some (.int (f_word a c s)) ∧ Fr g') := c_word F E a c s _ _ _ _ _ _ _ _ rfl rfl rfl rfl rfl rfl rfl rfl
theorem r_wordA {g : LH} (F : Fr g) (a c s : Int32) : LW 189 30 0 0 0 (lEnt (mL 189) [.ref 355, .int a, .int c, .int s]) [] g (fun v _ => v = some (.int (f_word a c s))) := r_word F a c s _ _ _ _ _ _ _ _ (byte_0 a) (byte_8 a) (byte_16 a) (byte_24 a) (byte_0 c) (byte_8 c) (byte_16 c) (byte_24 c)
