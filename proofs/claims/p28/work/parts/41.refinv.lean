/-! what every state keeps of the reference's cells (355 .. 373); the class's (0 .. 354) stay as they are -/
def okA (k : Nat) (x : Int) : Prop := (k = 0 → 0 ≤ x ∧ x ≤ 24) ∧ (k = 1 → 0 ≤ x ∧ x ≤ 8) ∧ (k = 4 → 0 ≤ x ∧ x ≤ 4) ∧ (k = 5 → (-1) ≤ x ∧ x ≤ 3) ∧ (k = 6 → 0 ≤ x ∧ x ≤ 30) ∧ (k = 8 → 0 ≤ x ∧ x ≤ 4) ∧ (k = 9 → 0 ≤ x ∧ x ≤ 12) ∧ (k = 10 → 0 ≤ x ∧ x ≤ 10) ∧ (116 ≤ k ∧ k < 356 ∧ (k - 116) % 10 < 8 → 0 ≤ x ∧ x ≤ 25) ∧ (116 ≤ k ∧ k < 356 ∧ (k - 116) % 10 = 8 → 0 ≤ x ∧ x ≤ 8) ∧ (356 ≤ k ∧ k < 428 ∧ (k - 356) % 9 = 0 → 0 ≤ x ∧ x ≤ 8) ∧ (428 ≤ k ∧ k < 538 ∧ (k - 428) % 11 = 2 → 0 ≤ x ∧ x ≤ 8) ∧ (428 ≤ k ∧ k < 538 ∧ 3 ≤ (k - 428) % 11 → 0 ≤ x ∧ x ≤ 23) ∧ (542 ≤ k ∧ k < 578 ∧ (k - 542) % 3 = 0 → 0 ≤ x ∧ x ≤ 23) ∧ (578 ≤ k ∧ (k - 578) % 82 = 1 → 0 ≤ x ∧ x ≤ 10)
theorem A_WORDS {k : Nat} {x : Int} (h : okA k x) (c : k = 0) : 0 ≤ x ∧ x ≤ 24 := h.1 c
theorem B_WORDS {k : Nat} {x : Int} (c : k = 0) (b : 0 ≤ x ∧ x ≤ 24) : okA k x := ⟨fun _ => by omega, fun _ => by omega, fun _ => by omega, fun _ => by omega, fun _ => by omega, fun _ => by omega, fun _ => by omega, fun _ => by omega, fun _ => by omega, fun _ => by omega, fun _ => by omega, fun _ => by omega, fun _ => by omega, fun _ => by omega, fun _ => by omega⟩
theorem A_SAYS {k : Nat} {x : Int} (h : okA k x) (c : k = 1) : 0 ≤ x ∧ x ≤ 8 := h.2.1 c
theorem B_SAYS {k : Nat} {x : Int} (c : k = 1) (b : 0 ≤ x ∧ x ≤ 8) : okA k x := ⟨fun _ => by omega, fun _ => by omega, fun _ => by omega, fun _ => by omega, fun _ => by omega, fun _ => by omega, fun _ => by omega, fun _ => by omega, fun _ => by omega, fun _ => by omega, fun _ => by omega, fun _ => by omega, fun _ => by omega, fun _ => by omega, fun _ => by omega⟩
theorem A_TEXTS {k : Nat} {x : Int} (h : okA k x) (c : k = 4) : 0 ≤ x ∧ x ≤ 4 := h.2.2.1 c
theorem B_TEXTS {k : Nat} {x : Int} (c : k = 4) (b : 0 ≤ x ∧ x ≤ 4) : okA k x := ⟨fun _ => by omega, fun _ => by omega, fun _ => by omega, fun _ => by omega, fun _ => by omega, fun _ => by omega, fun _ => by omega, fun _ => by omega, fun _ => by omega, fun _ => by omega, fun _ => by omega, fun _ => by omega, fun _ => by omega, fun _ => by omega, fun _ => by omega⟩
theorem A_TEXT {k : Nat} {x : Int} (h : okA k x) (c : k = 5) : (-1) ≤ x ∧ x ≤ 3 := h.2.2.2.1 c
theorem B_TEXT {k : Nat} {x : Int} (c : k = 5) (b : (-1) ≤ x ∧ x ≤ 3) : okA k x := ⟨fun _ => by omega, fun _ => by omega, fun _ => by omega, fun _ => by omega, fun _ => by omega, fun _ => by omega, fun _ => by omega, fun _ => by omega, fun _ => by omega, fun _ => by omega, fun _ => by omega, fun _ => by omega, fun _ => by omega, fun _ => by omega, fun _ => by omega⟩
theorem A_STEPS {k : Nat} {x : Int} (h : okA k x) (c : k = 6) : 0 ≤ x ∧ x ≤ 30 := h.2.2.2.2.1 c
theorem B_STEPS {k : Nat} {x : Int} (c : k = 6) (b : 0 ≤ x ∧ x ≤ 30) : okA k x := ⟨fun _ => by omega, fun _ => by omega, fun _ => by omega, fun _ => by omega, fun _ => by omega, fun _ => by omega, fun _ => by omega, fun _ => by omega, fun _ => by omega, fun _ => by omega, fun _ => by omega, fun _ => by omega, fun _ => by omega, fun _ => by omega, fun _ => by omega⟩
theorem A_PARTS {k : Nat} {x : Int} (h : okA k x) (c : k = 8) : 0 ≤ x ∧ x ≤ 4 := h.2.2.2.2.2.1 c
theorem B_PARTS {k : Nat} {x : Int} (c : k = 8) (b : 0 ≤ x ∧ x ≤ 4) : okA k x := ⟨fun _ => by omega, fun _ => by omega, fun _ => by omega, fun _ => by omega, fun _ => by omega, fun _ => by omega, fun _ => by omega, fun _ => by omega, fun _ => by omega, fun _ => by omega, fun _ => by omega, fun _ => by omega, fun _ => by omega, fun _ => by omega, fun _ => by omega⟩
theorem A_PRINTS {k : Nat} {x : Int} (h : okA k x) (c : k = 9) : 0 ≤ x ∧ x ≤ 12 := h.2.2.2.2.2.2.1 c
theorem B_PRINTS {k : Nat} {x : Int} (c : k = 9) (b : 0 ≤ x ∧ x ≤ 12) : okA k x := ⟨fun _ => by omega, fun _ => by omega, fun _ => by omega, fun _ => by omega, fun _ => by omega, fun _ => by omega, fun _ => by omega, fun _ => by omega, fun _ => by omega, fun _ => by omega, fun _ => by omega, fun _ => by omega, fun _ => by omega, fun _ => by omega, fun _ => by omega⟩
theorem A_CONS {k : Nat} {x : Int} (h : okA k x) (c : k = 10) : 0 ≤ x ∧ x ≤ 10 := h.2.2.2.2.2.2.2.1 c
theorem B_CONS {k : Nat} {x : Int} (c : k = 10) (b : 0 ≤ x ∧ x ≤ 10) : okA k x := ⟨fun _ => by omega, fun _ => by omega, fun _ => by omega, fun _ => by omega, fun _ => by omega, fun _ => by omega, fun _ => by omega, fun _ => by omega, fun _ => by omega, fun _ => by omega, fun _ => by omega, fun _ => by omega, fun _ => by omega, fun _ => by omega, fun _ => by omega⟩
theorem A_LETTER {k : Nat} {x : Int} (h : okA k x) (c : 116 ≤ k ∧ k < 356 ∧ (k - 116) % 10 < 8) : 0 ≤ x ∧ x ≤ 25 := h.2.2.2.2.2.2.2.2.1 c
theorem B_LETTER {k : Nat} {x : Int} (c : 116 ≤ k ∧ k < 356 ∧ (k - 116) % 10 < 8) (b : 0 ≤ x ∧ x ≤ 25) : okA k x := ⟨fun _ => by omega, fun _ => by omega, fun _ => by omega, fun _ => by omega, fun _ => by omega, fun _ => by omega, fun _ => by omega, fun _ => by omega, fun _ => by omega, fun _ => by omega, fun _ => by omega, fun _ => by omega, fun _ => by omega, fun _ => by omega, fun _ => by omega⟩
theorem A_LENGTH {k : Nat} {x : Int} (h : okA k x) (c : 116 ≤ k ∧ k < 356 ∧ (k - 116) % 10 = 8) : 0 ≤ x ∧ x ≤ 8 := h.2.2.2.2.2.2.2.2.2.1 c
theorem B_LENGTH {k : Nat} {x : Int} (c : 116 ≤ k ∧ k < 356 ∧ (k - 116) % 10 = 8) (b : 0 ≤ x ∧ x ≤ 8) : okA k x := ⟨fun _ => by omega, fun _ => by omega, fun _ => by omega, fun _ => by omega, fun _ => by omega, fun _ => by omega, fun _ => by omega, fun _ => by omega, fun _ => by omega, fun _ => by omega, fun _ => by omega, fun _ => by omega, fun _ => by omega, fun _ => by omega, fun _ => by omega⟩
theorem A_SCOUNT {k : Nat} {x : Int} (h : okA k x) (c : 356 ≤ k ∧ k < 428 ∧ (k - 356) % 9 = 0) : 0 ≤ x ∧ x ≤ 8 := h.2.2.2.2.2.2.2.2.2.2.1 c
theorem B_SCOUNT {k : Nat} {x : Int} (c : 356 ≤ k ∧ k < 428 ∧ (k - 356) % 9 = 0) (b : 0 ≤ x ∧ x ≤ 8) : okA k x := ⟨fun _ => by omega, fun _ => by omega, fun _ => by omega, fun _ => by omega, fun _ => by omega, fun _ => by omega, fun _ => by omega, fun _ => by omega, fun _ => by omega, fun _ => by omega, fun _ => by omega, fun _ => by omega, fun _ => by omega, fun _ => by omega, fun _ => by omega⟩
theorem A_CMANY {k : Nat} {x : Int} (h : okA k x) (c : 428 ≤ k ∧ k < 538 ∧ (k - 428) % 11 = 2) : 0 ≤ x ∧ x ≤ 8 := h.2.2.2.2.2.2.2.2.2.2.2.1 c
theorem B_CMANY {k : Nat} {x : Int} (c : 428 ≤ k ∧ k < 538 ∧ (k - 428) % 11 = 2) (b : 0 ≤ x ∧ x ≤ 8) : okA k x := ⟨fun _ => by omega, fun _ => by omega, fun _ => by omega, fun _ => by omega, fun _ => by omega, fun _ => by omega, fun _ => by omega, fun _ => by omega, fun _ => by omega, fun _ => by omega, fun _ => by omega, fun _ => by omega, fun _ => by omega, fun _ => by omega, fun _ => by omega⟩
theorem A_CWORD {k : Nat} {x : Int} (h : okA k x) (c : 428 ≤ k ∧ k < 538 ∧ 3 ≤ (k - 428) % 11) : 0 ≤ x ∧ x ≤ 23 := h.2.2.2.2.2.2.2.2.2.2.2.2.1 c
theorem B_CWORD {k : Nat} {x : Int} (c : 428 ≤ k ∧ k < 538 ∧ 3 ≤ (k - 428) % 11) (b : 0 ≤ x ∧ x ≤ 23) : okA k x := ⟨fun _ => by omega, fun _ => by omega, fun _ => by omega, fun _ => by omega, fun _ => by omega, fun _ => by omega, fun _ => by omega, fun _ => by omega, fun _ => by omega, fun _ => by omega, fun _ => by omega, fun _ => by omega, fun _ => by omega, fun _ => by omega, fun _ => by omega⟩
theorem A_PWORD {k : Nat} {x : Int} (h : okA k x) (c : 542 ≤ k ∧ k < 578 ∧ (k - 542) % 3 = 0) : 0 ≤ x ∧ x ≤ 23 := h.2.2.2.2.2.2.2.2.2.2.2.2.2.1 c
theorem B_PWORD {k : Nat} {x : Int} (c : 542 ≤ k ∧ k < 578 ∧ (k - 542) % 3 = 0) (b : 0 ≤ x ∧ x ≤ 23) : okA k x := ⟨fun _ => by omega, fun _ => by omega, fun _ => by omega, fun _ => by omega, fun _ => by omega, fun _ => by omega, fun _ => by omega, fun _ => by omega, fun _ => by omega, fun _ => by omega, fun _ => by omega, fun _ => by omega, fun _ => by omega, fun _ => by omega, fun _ => by omega⟩
theorem A_SCON {k : Nat} {x : Int} (h : okA k x) (c : 578 ≤ k ∧ (k - 578) % 82 = 1) : 0 ≤ x ∧ x ≤ 10 := h.2.2.2.2.2.2.2.2.2.2.2.2.2.2 c
theorem B_SCON {k : Nat} {x : Int} (c : 578 ≤ k ∧ (k - 578) % 82 = 1) (b : 0 ≤ x ∧ x ≤ 10) : okA k x := ⟨fun _ => by omega, fun _ => by omega, fun _ => by omega, fun _ => by omega, fun _ => by omega, fun _ => by omega, fun _ => by omega, fun _ => by omega, fun _ => by omega, fun _ => by omega, fun _ => by omega, fun _ => by omega, fun _ => by omega, fun _ => by omega, fun _ => by omega⟩
theorem B_FREE {k : Nat} {x : Int} (c : k = 2 ∨ k = 3 ∨ k = 7 ∨ (11 ≤ k ∧ k < 116) ∨ (116 ≤ k ∧ k < 356 ∧ (k - 116) % 10 = 9) ∨ (356 ≤ k ∧ k < 428 ∧ ¬ (k - 356) % 9 = 0) ∨ (428 ≤ k ∧ k < 538 ∧ (k - 428) % 11 < 2) ∨ (538 ≤ k ∧ k < 542) ∨ (542 ≤ k ∧ k < 578 ∧ ¬ (k - 542) % 3 = 0) ∨ (578 ≤ k ∧ ¬ (k - 578) % 82 = 1)) : okA k x := ⟨fun _ => by omega, fun _ => by omega, fun _ => by omega, fun _ => by omega, fun _ => by omega, fun _ => by omega, fun _ => by omega, fun _ => by omega, fun _ => by omega, fun _ => by omega, fun _ => by omega, fun _ => by omega, fun _ => by omega, fun _ => by omega, fun _ => by omega⟩
theorem B_STEP {k : Nat} {x : Int} (c : 578 ≤ k) (h : okA (k + 82) x) : okA k x := ⟨fun _ => by omega, fun _ => by omega, fun _ => by omega, fun _ => by omega, fun _ => by omega, fun _ => by omega, fun _ => by omega, fun _ => by omega, fun _ => by omega, fun _ => by omega, fun _ => by omega, fun _ => by omega, fun _ => by omega, fun _ => by omega, fun q => A_SCON h (by omega)⟩
def okT (k : Nat) (x : Int) : Prop := (k % 873 = 0 → 0 ≤ x ∧ x ≤ 24) ∧ (1 ≤ k % 873 ∧ k % 873 < 265 ∧ 3 ≤ (k % 873 - 1) % 11 → (-1) ≤ x ∧ x ≤ 25)
def okO (q k : Nat) (x : Int) : Prop := match q with
  | 355 => (match k with | 4 => 0 ≤ x ∧ x ≤ 8 | 6 => 0 ≤ x ∧ x ≤ 8 | 8 => 0 ≤ x ∧ x ≤ 300 | _ => True)
  | 359 => 0 ≤ x ∧ x ≤ 25
  | 361 => 0 ≤ x ∧ x ≤ 255
  | 365 => 0 ≤ x ∧ x ≤ 1
  | 367 => 0 ≤ x ∧ x ≤ 25
  | 368 => 0 ≤ x ∧ x ≤ 1
  | 369 => 0 ≤ x ∧ x ≤ 1
  | _ => True
theorem O_355_4 {x : Int} (h : okO 355 4 x) : 0 ≤ x ∧ x ≤ 8 := h
theorem O_355_6 {x : Int} (h : okO 355 6 x) : 0 ≤ x ∧ x ≤ 8 := h
theorem O_355_8 {x : Int} (h : okO 355 8 x) : 0 ≤ x ∧ x ≤ 300 := h
theorem O_359 {k : Nat} {x : Int} (h : okO 359 k x) : 0 ≤ x ∧ x ≤ 25 := h
theorem O_361 {k : Nat} {x : Int} (h : okO 361 k x) : 0 ≤ x ∧ x ≤ 255 := h
theorem O_365 {k : Nat} {x : Int} (h : okO 365 k x) : 0 ≤ x ∧ x ≤ 1 := h
theorem O_367 {k : Nat} {x : Int} (h : okO 367 k x) : 0 ≤ x ∧ x ≤ 25 := h
theorem O_368 {k : Nat} {x : Int} (h : okO 368 k x) : 0 ≤ x ∧ x ≤ 1 := h
theorem O_369 {k : Nat} {x : Int} (h : okO 369 k x) : 0 ≤ x ∧ x ≤ 1 := h
/-- the cdv of a clause from s on, i its end: how many values and truths lie there; none: it can't be worked -/
def okc (f : Nat → Int32) (b s : Nat) : Nat → Option (Nat × Nat)
  | 0 => some (0, 0)
  | m + 1 => match okc f b s m with
    | none => none
    | some (n, t) =>
      let o := (f (b + 2 * (s + m))).toInt
      let v := (f (b + 2 * (s + m) + 1)).toInt
      if o = 0 then some (n + 1, t)
      else if o = 1 then (if 0 ≤ v ∧ v ≤ 13 then some (n + 1, t) else none)
      else if o = 2 then (if 1 ≤ n then some (n, t) else none)
      else if o < 0 then none
      else if o < 10 then (if 2 ≤ n then some (n - 1, t) else none)
      else if o < 20 then (if 2 ≤ n then some (n - 2, t + 1) else none)
      else if o = 20 then (if 1 ≤ t then some (n, t) else none)
      else (if 2 ≤ t then some (n, t - 1) else none)
/-- a clause that was read: a law's cdv can be worked, a saying has eight senses at most -/
def wfC (f : Nat → Int32) (t c : Nat) : Prop :=
  ((f (873 * t + 1 + 11 * c)).toInt = 5 → 0 ≤ (f (873 * t + 1 + 11 * c + 1)).toInt ∧ (f (873 * t + 1 + 11 * c + 1)).toInt ≤ 8) ∧
  (0 ≤ (f (873 * t + 1 + 11 * c)).toInt ∧ (f (873 * t + 1 + 11 * c)).toInt ≤ 3 → ∃ a z : Nat, (f (873 * t + 1 + 11 * c + 1)).toInt = (a : Int) ∧ (f (873 * t + 1 + 11 * c + 2)).toInt = (z : Int) ∧ a ≤ z ∧ z ≤ 304 ∧ okc f (873 * t + 265) a (z - a) ≠ none)
/-- a text that was read -/
def wfT (f : Nat → Int32) (t : Nat) : Prop := ∀ c : Nat, (c : Int) < (f (873 * t)).toInt → wfC f t c
def okX (g : LH) : Prop := (Gi g 356 5).toInt < (Gi g 356 4).toInt ∧ (Gi g 357 5).toInt < (Gi g 357 4).toInt ∧ (Gi g 357 4).toInt ≤ (Gi g 356 4).toInt ∧ ∀ t : Nat, (t : Int) < (Gi g 356 4).toInt → wfT (Gi g 358) t
def InvR (P : Par) (g : LH) : Prop := Gs g = eS e2 ∧ (∀ q, 355 ≤ q → Gr g q = eR e2 q) ∧ (∀ q k, q < 355 → Gi g q k = P.2.2 q k) ∧ (∀ k, okA k (Gi g 356 k).toInt) ∧ (∀ k, okA k (Gi g 357 k).toInt) ∧ (∀ k, okT k (Gi g 358 k).toInt) ∧ (∀ q k, 355 ≤ q → okO q k (Gi g q k).toInt) ∧ okX g ∧ (Gi g 356 8).toInt = ((P.1 : Nat) : Int) ∧ (Gi g 357 8).toInt = ((P.2.1 : Nat) : Int)
theorem InvR_putA {P : Par} {g : LH} {k : Nat} {x : Int32} (V : InvR P g) (hk : k ≠ 4 ∧ k ≠ 5 ∧ k ≠ 8) (h : okA k x.toInt) : InvR P (putI g 356 k x) := by
  have e : ∀ q' k', q' ≠ 356 → Gi (putI g 356 k x) q' k' = Gi g q' k' := fun q' k' hq => putI_o q' k' (Or.inl hq)
  have e' : ∀ k', k' ≠ k → Gi (putI g 356 k x) 356 k' = Gi g 356 k' := fun k' hq => putI_o 356 k' (Or.inr hq)
  refine ⟨V.1, V.2.1, fun q' k' h' => ?_, fun k' => ?_, fun k' => ?_, fun k' => ?_, fun q' k' h' => ?_, ⟨?_, ?_, ?_, fun t ht => ?_⟩, ?_, ?_⟩
  · rw [e q' k' (by omega)]
    exact V.2.2.1 q' k' h'
  · by_cases hq : k' = k
    · subst hq
      rw [putI_s]
      exact h
    · rw [e' k' hq]
      exact V.2.2.2.1 k'
  · rw [e 357 k' (by decide)]
    exact V.2.2.2.2.1 k'
  · rw [e 358 k' (by decide)]
    exact V.2.2.2.2.2.1 k'
  · by_cases hq : q' = 356
    · subst hq
      exact trivial
    · rw [e q' k' hq]
      exact V.2.2.2.2.2.2.1 q' k' h'
  · rw [e' 5 (fun q => hk.2.1 q.symm), e' 4 (fun q => hk.1 q.symm)]
    exact V.2.2.2.2.2.2.2.1.1
  · rw [e 357 5 (by decide), e 357 4 (by decide)]
    exact V.2.2.2.2.2.2.2.1.2.1
  · rw [e 357 4 (by decide), e' 4 (fun q => hk.1 q.symm)]
    exact V.2.2.2.2.2.2.2.1.2.2.1
  · rw [e' 4 (fun q => hk.1 q.symm)] at ht
    rw [show Gi (putI g 356 k x) 358 = Gi g 358 from funext fun k' => e 358 k' (by decide)]
    exact V.2.2.2.2.2.2.2.1.2.2.2 t ht
  · rw [e' 8 (fun q => hk.2.2 q.symm)]
    exact V.2.2.2.2.2.2.2.2.1
  · rw [e 357 8 (by decide)]
    exact V.2.2.2.2.2.2.2.2.2
theorem InvR_putO {P : Par} {g : LH} {q k : Nat} {x : Int32} (V : InvR P g) (hq : 355 ≤ q ∧ q ≠ 356 ∧ q ≠ 357 ∧ q ≠ 358) (h : okO q k x.toInt) : InvR P (putI g q k x) := by
  have e : ∀ q' k', q' ≠ q → Gi (putI g q k x) q' k' = Gi g q' k' := fun q' k' h' => putI_o q' k' (Or.inl h')
  have ve6 : Gi (putI g q k x) 356 = Gi g 356 := funext fun k' => e 356 k' (by omega)
  have ve7 : Gi (putI g q k x) 357 = Gi g 357 := funext fun k' => e 357 k' (by omega)
  have e8 : Gi (putI g q k x) 358 = Gi g 358 := funext fun k' => e 358 k' (by omega)
  refine ⟨V.1, V.2.1, fun q' k' h' => ?_, ?_, ?_, ?_, fun q' k' h' => ?_, ?_, ?_, ?_⟩
  · rw [e q' k' (by omega)]
    exact V.2.2.1 q' k' h'
  · rw [ve6]
    exact V.2.2.2.1
  · rw [ve7]
    exact V.2.2.2.2.1
  · rw [e8]
    exact V.2.2.2.2.2.1
  · by_cases hh : q' = q ∧ k' = k
    · obtain ⟨rfl, rfl⟩ := hh
      rw [putI_s]
      exact h
    · rw [putI_o q' k' (by omega)]
      exact V.2.2.2.2.2.2.1 q' k' h'
  · unfold okX
    rw [ve6, ve7, e8]
    exact V.2.2.2.2.2.2.2.1
  · rw [ve6]
    exact V.2.2.2.2.2.2.2.2.1
  · rw [ve7]
    exact V.2.2.2.2.2.2.2.2.2

