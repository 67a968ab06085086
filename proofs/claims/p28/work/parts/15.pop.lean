/-! how many bits: Integer.bitCount's way, as whole numbers -/
def pcn : Nat → Nat → Nat
  | 0, _ => 0
  | k + 1, x => x % 2 + pcn k (x / 2)
theorem land16 (a b r s : Nat) (hr : r < 16) (hs : s < 16) : (16 * a + r) &&& (16 * b + s) = 16 * (a &&& b) + (r &&& s) := by
  have h1 : (16 * a + r) &&& (16 * b + s) = 16 * (((16 * a + r) &&& (16 * b + s)) / 16) + ((16 * a + r) &&& (16 * b + s)) % 16 := by omega
  rw [h1]
  have h2 : ((16 * a + r) &&& (16 * b + s)) / 16 = a &&& b := by
    have := Nat.shiftRight_and_distrib (a := 16 * a + r) (b := 16 * b + s) (i := 4)
    rw [Nat.shiftRight_eq_div_pow, Nat.shiftRight_eq_div_pow, Nat.shiftRight_eq_div_pow] at this
    rw [show (2 : Nat) ^ 4 = 16 from rfl] at this
    rw [this, show (16 * a + r) / 16 = a by omega, show (16 * b + s) / 16 = b by omega]
  have h3 : ((16 * a + r) &&& (16 * b + s)) % 16 = r &&& s := by
    have := Nat.and_mod_two_pow (a := 16 * a + r) (b := 16 * b + s) (n := 4)
    rw [show (2 : Nat) ^ 4 = 16 from rfl] at this
    rw [this, show (16 * a + r) % 16 = r by omega, show (16 * b + s) % 16 = s by omega]
  rw [h2, h3]
def mN5 : Nat → Nat
  | 0 => 0
  | k + 1 => 16 * mN5 k + 5
def mN3 : Nat → Nat
  | 0 => 0
  | k + 1 => 16 * mN3 k + 3
def dgs : Nat → Nat → Nat
  | 0, _ => 0
  | k + 1, x => 16 * dgs k (x / 16) + pcn 4 (x % 16)
theorem nib1 : ∀ c, c < 2 → ∀ r, r < 16 → (8 * c + r / 2) &&& 5 = (r / 2) &&& 5 := by decide +kernel
theorem nib2 : ∀ c, c < 4 → ∀ r, r < 16 → (4 * c + (r - ((r / 2) &&& 5)) / 4) &&& 3 = ((r - ((r / 2) &&& 5)) / 4) &&& 3 := by decide +kernel
theorem nib3 : ∀ r, r < 16 → ((r - ((r / 2) &&& 5)) &&& 3) + (((r - ((r / 2) &&& 5)) / 4) &&& 3) = pcn 4 r ∧ (r / 2) &&& 5 ≤ r := by decide +kernel
theorem swar2 : ∀ (k x : Nat), x < 16 ^ k → ((x - (x / 2 &&& mN5 k)) &&& mN3 k) + ((x - (x / 2 &&& mN5 k)) / 4 &&& mN3 k) = dgs k x
  | 0, x, h => by
    have : x = 0 := by simpa using h
    subst this
    rfl
  | k + 1, x, h => by
    have hX : x / 16 < 16 ^ k := by rw [Nat.pow_succ] at h; omega
    have ih := swar2 k (x / 16) hX
    generalize hXX : x / 16 = X at ih
    generalize hrr : x % 16 = r
    have hr : r < 16 := by omega
    have hx : x = 16 * X + r := by omega
    obtain ⟨n3, n3'⟩ := nib3 r hr
    have e1 : x / 2 &&& mN5 (k + 1) = 16 * (X / 2 &&& mN5 k) + (r / 2 &&& 5) := by
      have : x / 2 = 16 * (X / 2) + (8 * (X % 2) + r / 2) := by omega
      rw [this, show mN5 (k + 1) = 16 * mN5 k + 5 from rfl, land16 _ _ _ _ (by omega) (by omega), nib1 (X % 2) (by omega) r hr]
    have hle : X / 2 &&& mN5 k ≤ X := Nat.le_trans Nat.and_le_left (by omega)
    generalize hG : (X / 2 &&& mN5 k) = G at *
    generalize hT : (r / 2 &&& 5) = T at *
    have e2 : x - (x / 2 &&& mN5 (k + 1)) = 16 * (X - G) + (r - T) := by rw [e1, hx]; omega
    rw [e2]
    have e3 : (16 * (X - G) + (r - T)) / 4 = 16 * ((X - G) / 4) + (4 * ((X - G) % 4) + (r - T) / 4) := by omega
    rw [e3, show mN3 (k + 1) = 16 * mN3 k + 3 from rfl, land16 _ _ _ _ (by omega) (by omega), land16 _ _ _ _ (by omega) (by omega)]
    have n2 := nib2 ((X - G) % 4) (by omega) r hr
    rw [hT] at n2
    rw [n2]
    show _ = 16 * dgs k (x / 16) + pcn 4 (x % 16)
    rw [hXX, hrr, ← ih, ← n3]
    omega
theorem pcn4_le : ∀ r, r < 16 → pcn 4 r ≤ 4 := by decide +kernel
theorem pcn_split (k x : Nat) : pcn (k + 4) x = pcn 4 (x % 16) + pcn k (x / 16) := by
  show x % 2 + (x / 2 % 2 + (x / 2 / 2 % 2 + (x / 2 / 2 / 2 % 2 + pcn k (x / 2 / 2 / 2 / 2)))) = (x % 16 % 2 + (x % 16 / 2 % 2 + (x % 16 / 2 / 2 % 2 + (x % 16 / 2 / 2 / 2 % 2 + 0)))) + pcn k (x / 16)
  rw [show x / 2 / 2 / 2 / 2 = x / 16 by omega]
  omega
theorem pcn_zero : ∀ k, pcn k 0 = 0
  | 0 => rfl
  | k + 1 => by show 0 % 2 + pcn k (0 / 2) = 0; rw [show 0 / 2 = 0 from rfl, pcn_zero k]
theorem pcn_add : ∀ (a b x : Nat), pcn (a + b) x = pcn a x + pcn b (x / 2 ^ a)
  | 0, b, x => by simp [pcn]
  | a + 1, b, x => by
    rw [show a + 1 + b = (a + b) + 1 by omega]
    show x % 2 + pcn (a + b) (x / 2) = (x % 2 + pcn a (x / 2)) + pcn b (x / 2 ^ (a + 1))
    rw [pcn_add a b (x / 2), Nat.div_div_eq_div_mul, show 2 * 2 ^ a = 2 ^ (a + 1) by rw [Nat.pow_succ]; omega]
    omega
def sw3 (b : Nat) : Nat := (b + b / 16) &&& 252645135
theorem sw3_eq (c0 c1 c2 c3 c4 c5 c6 c7 : Nat) (h0 : c0 ≤ 4) (h1 : c1 ≤ 4) (h2 : c2 ≤ 4) (h3 : c3 ≤ 4) (h4 : c4 ≤ 4) (h5 : c5 ≤ 4) (h6 : c6 ≤ 4) (h7 : c7 ≤ 4) :
    sw3 (16 * (16 * (16 * (16 * (16 * (16 * (16 * (16 * 0 + c7) + c6) + c5) + c4) + c3) + c2) + c1) + c0) = 16 * (16 * (16 * (16 * (16 * (16 * (16 * 0 + (c6 + c7)) + 0) + (c4 + c5)) + 0) + (c2 + c3)) + 0) + (c0 + c1) := by
  unfold sw3
  have e : (16 * (16 * (16 * (16 * (16 * (16 * (16 * (16 * 0 + c7) + c6) + c5) + c4) + c3) + c2) + c1) + c0) + (16 * (16 * (16 * (16 * (16 * (16 * (16 * (16 * 0 + c7) + c6) + c5) + c4) + c3) + c2) + c1) + c0) / 16 = 16 * (16 * (16 * (16 * (16 * (16 * (16 * (16 * 0 + c7) + (c6 + c7)) + (c5 + c6)) + (c4 + c5)) + (c3 + c4)) + (c2 + c3)) + (c1 + c2)) + (c0 + c1) := by omega
  rw [e, show (252645135 : Nat) = 16 * (16 * (16 * (16 * (16 * (16 * (16 * (16 * 0 + 0) + 15) + 0) + 15) + 0) + 15) + 0) + 15 from rfl]
  repeat rw [land16 _ _ _ _ (by omega) (by omega)]
  have l15 : ∀ r, r < 9 → r &&& 15 = r := by decide +kernel
  rw [l15 _ (by omega), l15 _ (by omega), l15 _ (by omega), l15 _ (by omega)]
  simp only [Nat.and_zero, Nat.zero_and]
/-- Integer.bitCount, as whole numbers -/
def sw (x : Nat) : Nat :=
  (sw3 (((x - (x / 2 &&& 1431655765)) &&& 858993459) + ((x - (x / 2 &&& 1431655765)) / 4 &&& 858993459)) + sw3 (((x - (x / 2 &&& 1431655765)) &&& 858993459) + ((x - (x / 2 &&& 1431655765)) / 4 &&& 858993459)) / 256 + (sw3 (((x - (x / 2 &&& 1431655765)) &&& 858993459) + ((x - (x / 2 &&& 1431655765)) / 4 &&& 858993459)) + sw3 (((x - (x / 2 &&& 1431655765)) &&& 858993459) + ((x - (x / 2 &&& 1431655765)) / 4 &&& 858993459)) / 256) / 65536) % 64
theorem sw_eq (x : Nat) (hx : x < 2 ^ 32) : sw x = pcn 32 x := by
  unfold sw
  have h := swar2 8 x (by rw [show (16 : Nat) ^ 8 = 2 ^ 32 from rfl]; exact hx)
  rw [show mN5 8 = 1431655765 from rfl, show mN3 8 = 858993459 from rfl] at h
  rw [h]
  have p0 : pcn 32 (x) = pcn 4 ((x) % 16) + pcn 28 (x / 16) := pcn_split 28 _
  have p1 : pcn 28 (x / 16) = pcn 4 ((x / 16) % 16) + pcn 24 (x / 16 / 16) := pcn_split 24 _
  have p2 : pcn 24 (x / 16 / 16) = pcn 4 ((x / 16 / 16) % 16) + pcn 20 (x / 16 / 16 / 16) := pcn_split 20 _
  have p3 : pcn 20 (x / 16 / 16 / 16) = pcn 4 ((x / 16 / 16 / 16) % 16) + pcn 16 (x / 16 / 16 / 16 / 16) := pcn_split 16 _
  have p4 : pcn 16 (x / 16 / 16 / 16 / 16) = pcn 4 ((x / 16 / 16 / 16 / 16) % 16) + pcn 12 (x / 16 / 16 / 16 / 16 / 16) := pcn_split 12 _
  have p5 : pcn 12 (x / 16 / 16 / 16 / 16 / 16) = pcn 4 ((x / 16 / 16 / 16 / 16 / 16) % 16) + pcn 8 (x / 16 / 16 / 16 / 16 / 16 / 16) := pcn_split 8 _
  have p6 : pcn 8 (x / 16 / 16 / 16 / 16 / 16 / 16) = pcn 4 ((x / 16 / 16 / 16 / 16 / 16 / 16) % 16) + pcn 4 (x / 16 / 16 / 16 / 16 / 16 / 16 / 16) := pcn_split 4 _
  rw [p0, p1, p2, p3, p4, p5, p6]
  have hd : dgs 8 x = 16 * (16 * (16 * (16 * (16 * (16 * (16 * (16 * 0 + pcn 4 (x / 16 / 16 / 16 / 16 / 16 / 16 / 16 % 16)) + pcn 4 (x / 16 / 16 / 16 / 16 / 16 / 16 % 16)) + pcn 4 (x / 16 / 16 / 16 / 16 / 16 % 16)) + pcn 4 (x / 16 / 16 / 16 / 16 % 16)) + pcn 4 (x / 16 / 16 / 16 % 16)) + pcn 4 (x / 16 / 16 % 16)) + pcn 4 (x / 16 % 16)) + pcn 4 (x % 16) := rfl
  rw [hd]
  have hl : x / 16 / 16 / 16 / 16 / 16 / 16 / 16 = x / 16 / 16 / 16 / 16 / 16 / 16 / 16 % 16 := by omega
  have hl2 : pcn 4 (x / 16 / 16 / 16 / 16 / 16 / 16 / 16) = pcn 4 (x / 16 / 16 / 16 / 16 / 16 / 16 / 16 % 16) := by rw [← hl]
  rw [hl2]
  have b0 := pcn4_le (x % 16) (by omega)
  have b1 := pcn4_le (x / 16 % 16) (by omega)
  have b2 := pcn4_le (x / 16 / 16 % 16) (by omega)
  have b3 := pcn4_le (x / 16 / 16 / 16 % 16) (by omega)
  have b4 := pcn4_le (x / 16 / 16 / 16 / 16 % 16) (by omega)
  have b5 := pcn4_le (x / 16 / 16 / 16 / 16 / 16 % 16) (by omega)
  have b6 := pcn4_le (x / 16 / 16 / 16 / 16 / 16 / 16 % 16) (by omega)
  have b7 := pcn4_le (x / 16 / 16 / 16 / 16 / 16 / 16 / 16 % 16) (by omega)
  generalize pcn 4 (x % 16) = c0 at *
  generalize pcn 4 (x / 16 % 16) = c1 at *
  generalize pcn 4 (x / 16 / 16 % 16) = c2 at *
  generalize pcn 4 (x / 16 / 16 / 16 % 16) = c3 at *
  generalize pcn 4 (x / 16 / 16 / 16 / 16 % 16) = c4 at *
  generalize pcn 4 (x / 16 / 16 / 16 / 16 / 16 % 16) = c5 at *
  generalize pcn 4 (x / 16 / 16 / 16 / 16 / 16 / 16 % 16) = c6 at *
  generalize pcn 4 (x / 16 / 16 / 16 / 16 / 16 / 16 / 16 % 16) = c7 at *
  rw [sw3_eq c0 c1 c2 c3 c4 c5 c6 c7 b0 b1 b2 b3 b4 b5 b6 b7]
  have q1 : 16 * (16 * (16 * (16 * (16 * (16 * (16 * 0 + (c6 + c7)) + 0) + (c4 + c5)) + 0) + (c2 + c3)) + 0) + (c0 + c1) = (c0 + c1) + 256 * (c2 + c3) + 65536 * (c4 + c5) + 16777216 * (c6 + c7) := by omega
  rw [q1]
  clear q1
  generalize e01 : c0 + c1 = s0
  generalize e23 : c2 + c3 = s1
  generalize e45 : c4 + c5 = s2
  generalize e67 : c6 + c7 = s3
  have q2 : (s0 + 256 * s1 + 65536 * s2 + 16777216 * s3) / 256 = s1 + 256 * s2 + 65536 * s3 := by omega
  rw [q2]
  have q3 : s0 + 256 * s1 + 65536 * s2 + 16777216 * s3 + (s1 + 256 * s2 + 65536 * s3) = (s0 + s1) + 256 * (s1 + s2) + 65536 * (s2 + s3 + 256 * s3) := by omega
  rw [q3]
  have q4 : ((s0 + s1) + 256 * (s1 + s2) + 65536 * (s2 + s3 + 256 * s3)) / 65536 = s2 + s3 + 256 * s3 := by omega
  rw [q4]
  omega
