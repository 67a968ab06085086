/-! the methods of the program by number; the instruction at a place -/
def tyA (ci : Nat) : Nat → FieldType := match ci with
  | 0 => tyX0 | 1 => tyX1 | 2 => tyX2 | 3 => tyX3 | 4 => tyX4 | 5 => tyX5 | 6 => tyX6 | 7 => tyX7 | 8 => tyX8 | 9 => tyX9 | 10 => tyX10 | 11 => tyX11 | 12 => tyX12 | _ => tyX13
def nF (ci : Nat) : Nat := match ci with
  | 0 => 4 | 1 => 3 | 2 => 13 | 3 => 3 | 4 => 4 | 5 => 9 | 6 => 7 | 7 => 10 | 8 => 10 | 9 => 7 | 10 => 7 | 11 => 11 | 12 => 10 | _ => 40
-- the methods
def mt (j : Nat) : lMT := lMtab.getD j (0, yX0_init, cX0_init, 0, none)
abbrev mO (j : Nat) : String := lOwn.getD (mt j).1 ""
abbrev mY (j : Nat) : MethodName := (mt j).2.1
abbrev mB (j : Nat) : ByteArray := (mt j).2.2.1
abbrev mL (j : Nat) : Nat := (mt j).2.2.2.1
abbrev mR (j : Nat) : Option FieldType := (mt j).2.2.2.2
def lLook : lCode → Nat → Option (Instr × Nat)
  | [], _ => none
  | q :: r, pc => if q.1 = pc then some q.2 else lLook r pc
theorem lLook_mem : ∀ (l : lCode) (pc : Nat) (x : Instr × Nat), lLook l pc = some x → (pc, x) ∈ l
  | [], _, _, h => by cases h
  | q :: r, pc, x, h => by
    unfold lLook at h
    by_cases hq : q.1 = pc
    · rw [if_pos hq] at h
      cases h
      rw [← hq]
      exact List.mem_cons_self
    · rw [if_neg hq] at h
      exact List.mem_cons_of_mem _ (lLook_mem r pc x h)
theorem lPk_dec (q : lPk) {pc : Nat} {x : Instr × Nat} (h : lLook q.1.2 pc = some x) : decode q.1.1 pc = .ok x := by
  have h1 : (pc, x) ∈ q.1.2 := lLook_mem _ _ _ h
  have h2 := q.2 (pc, x) h1
  exact h2
def lPkD : lPk := ⟨(cX0_init, []), fun _ h => by cases h⟩
def lPkN (j : Nat) : lPk := lPks.getD j lPkD
def lProg (j : Nat) : lCode := (lPkN j).1.2
set_option maxRecDepth 20000 in
theorem lPks_len : lPks.length = 335 := rfl
set_option maxRecDepth 20000 in
theorem lMtab_len : lMtab.length = 335 := rfl
set_option maxRecDepth 20000 in
theorem lBytes_all : lMtab.map (fun q => q.2.2.1) = lPks.map (fun q => q.1.1) := rfl
theorem getD_map {α β : Type} (f : α → β) (l : List α) (j : Nat) (d : α) : f (l.getD j d) = (l.map f).getD j (f d) := by
  rw [List.getD_eq_getElem?_getD, List.getD_eq_getElem?_getD, List.getElem?_map]
  cases l[j]? <;> rfl
theorem lBytes (j : Nat) : mB j = (lPkN j).1.1 := by
  have h1 := getD_map (fun q : lMT => q.2.2.1) lMtab j (0, yX0_init, cX0_init, 0, none)
  have h2 := getD_map (fun q : lPk => q.1.1) lPks j lPkD
  rw [lBytes_all] at h1
  exact h1.trans h2.symm
/-- the instruction at a place of a method -/
def lk (j pc : Nat) : Option (Instr × Nat) := lLook (lProg j) pc
theorem lk_dec {j pc : Nat} {x : Instr × Nat} (h : lk j pc = some x) : decode (mB j) pc = .ok x := by
  rw [lBytes j]
  exact lPk_dec (lPkN j) h
