/-! the small machine's run, with calls -/
abbrev ESm : Type := Nat → List Value → EH → Option (Option Value × EH)
abbrev ERes : Type := Option (Option Value × EH × Nat)
abbrev EX : Type := Nat → Nat → Nat → Bool → lCode → lCode → List (Option Value) → List Value → EH → Nat → ERes
noncomputable def lFrom (l : lCode) (t : Nat) : lCode := List.rec (motive := fun _ => lCode) [] (fun q r ih => if q.1 = t then q :: r else ih) l
theorem lFrom_sub (t : Nat) : ∀ (l : lCode), (∀ q ∈ lFrom l t, q ∈ l) ∧ ∀ q r, lFrom l t = q :: r → q.1 = t
  | [] => ⟨fun q h => (by cases h), fun q r h => (by cases h)⟩
  | a :: l => by
    obtain ⟨h1, h2⟩ := lFrom_sub t l
    have e : lFrom (a :: l) t = if a.1 = t then a :: l else lFrom l t := rfl
    rw [e]
    by_cases ha : a.1 = t
    · rw [if_pos ha]
      exact ⟨fun q h => h, fun q r h => by cases h; exact ha⟩
    · rw [if_neg ha]
      exact ⟨fun q h => List.mem_cons_of_mem _ (h1 q h), h2⟩
/-- on behind an instruction -/
noncomputable def eNext (rec : EX) (d j oi : Nat) (ini : Bool) (full tl : lCode) (pc n : Nat) (r : ESt) : ERes := match r.2.2.2.2 with
  | none => (match tl with
    | q :: _ => if q.1 = pc + n then rec d j oi ini full tl r.1 r.2.1 r.2.2.1 r.2.2.2.1 else none
    | [] => none)
  | some off => if 0 ≤ (pc : Int) + off then rec d j oi ini full (lFrom full ((pc : Int) + off).toNat) r.1 r.2.1 r.2.2.1 r.2.2.2.1 else none
noncomputable def eGo (sm : ESm) (rec : EX) (d j' : Nat) (as : List Value) (e : EH) (sl : Nat) : ERes := match d with
  | 0 => none
  | d' + 1 => (match sm j' as e with
    | some r => some (r.1, r.2, sl)
    | none => if (lProg j').head?.map (fun q => q.1) = some 0 then rec d' j' (mt j').1 (decide ((mY j').name = "<init>")) (lProg j') (lProg j') (lEnt (mL j') as) [] e sl else none)
noncomputable def eCall (sm : ESm) (rec : EX) (d oi : Nat) (st : List Value) (e : EH) (sl : Nat) : Instr → Option (Option Value × EH × Nat × List Value)
  | .invokevirtual idx => (match lAs (lMres.getD oi []) idx with
    | some (0, j') => (match st.drop (mN j') with
      | .ref q :: rest => if jOk j' = true ∧ ((st.take (mN j')).reverse).length = mN j' ∧ (lFlat (.ref q :: (st.take (mN j')).reverse)).length ≤ mL j' ∧ mL j' ≤ 100 ∧ (rest.map fun v => v.category).sum ≤ 8 ∧ (mt j').1 < 14 then
          (match eS e q with
          | .inl ci => if ci = (mt j').1 then (match eGo sm rec d j' (.ref q :: (st.take (mN j')).reverse) e sl with
            | some r => some (r.1, r.2.1, r.2.2, rest)
            | none => none) else none
          | _ => none) else none
      | _ => none)
    | _ => none)
  | .invokespecial idx => (match lAs (lMres.getD oi []) idx with
    | some (2, j') => (match st.drop (mN j') with
      | .ref q :: rest => if jOk j' = true ∧ ((st.take (mN j')).reverse).length = mN j' ∧ (lFlat (.ref q :: (st.take (mN j')).reverse)).length ≤ mL j' ∧ mL j' ≤ 100 ∧ (rest.map fun v => v.category).sum ≤ 8 then
          (match eGo sm rec d j' (.ref q :: (st.take (mN j')).reverse) e sl with
          | some r => some (r.1, r.2.1, r.2.2, rest)
          | none => none) else none
      | _ => none)
    | _ => none)
  | .invokestatic idx => (match lAs (lMres.getD oi []) idx with
    | some (1, j') => if jOk j' = true ∧ ((st.take (mN j')).reverse).length = mN j' ∧ (lFlat ((st.take (mN j')).reverse)).length ≤ mL j' ∧ mL j' ≤ 100 ∧ ((st.drop (mN j')).map fun v => v.category).sum ≤ 8 then
          (match eGo sm rec d j' ((st.take (mN j')).reverse) e sl with
          | some r => some (r.1, r.2.1, r.2.2, st.drop (mN j'))
          | none => none) else none
    | some (4, j') => if jOk j' = true ∧ ((st.take (mN j')).reverse).length = mN j' ∧ (lFlat ((st.take (mN j')).reverse)).length ≤ mL j' ∧ mL j' ≤ 100 ∧ ((st.drop (mN j')).map fun v => v.category).sum ≤ 8 then
          (match eGo sm rec d j' ((st.take (mN j')).reverse) e sl with
          | some r => some (r.1, r.2.1, r.2.2, st.drop (mN j'))
          | none => none) else none
    | _ => none)
  | _ => none
noncomputable def eRet (j : Nat) (st : List Value) : Instr → Option (Option Value)
  | .return_ => (match st, mR j with | [], none => some none | _, _ => none)
  | .ireturn => (match st, mR j with | [.int x], some ty => if narrow ty (.int x) = .int x then some (some (.int x)) else none | _, _ => none)
  | .lreturn => (match st, mR j with | [.long x], some .long => some (some (.long x)) | _, _ => none)
  | .areturn => (match st, mR j with | [.ref a], some (.object _) => some (some (.ref a)) | [.null], some (.object _) => some (some .null) | _, _ => none)
  | _ => none
noncomputable def eBody (sm : ESm) (rec : EX) : EX := fun d j oi ini full cur ls st e sl => match cur with
  | [] => none
  | (pc, ins, n) :: tl => (match eStep oi ini pc ls st e sl ins with
    | some r => if ilen ins = 0 ∨ n = ilen ins then eNext rec d j oi ini full tl pc n r else none
    | none => (match eRet j st ins with
      | some v => if n = 1 then some (v, e, sl) else none
      | none => (match eCall sm rec d oi st e sl ins with
        | some r => if n = 3 then eNext rec d j oi ini full tl pc n (ls, r.1.toList ++ r.2.2.2, r.2.1, r.2.2.1, none) else none
        | none => none)))
noncomputable def ex (sm : ESm) (fuel : Nat) : EX := Nat.rec (motive := fun _ => EX) (fun _ _ _ _ _ _ _ _ _ _ => none) (fun _ ih => eBody sm ih) fuel
abbrev XS : Type := Option (Nat × (Nat → Int32))
/-- what a run says -/
def eSays (x : XS) (j d pc : Nat) (ls : List (Option Value)) (st : List Value) (e : EH) (sl : Nat) (v : Option Value) (e' : EH) (sl' : Nat) : Prop :=
  e.1 ≤ e'.1 ∧ sl ≤ sl' ∧ LW j d (e'.1 - e.1) (sl' - sl) pc ls st (eV x e) (fun v' g' => v' = v ∧ g' = eV x e')
def eSmOk (x : XS) (sm : ESm) : Prop := ∀ j' as e r, sm j' as e = some r → r.2.1 = e.1 ∧ ∀ d, LW j' (d + 1) 0 0 0 (lEnt (mL j') as) [] (eV x e) (fun v' g' => v' = r.1 ∧ g' = eV x r.2)
def eRecOk (x : XS) (rec : EX) : Prop := ∀ d j oi ini full cur ls st e sl v e' sl', rec d j oi ini full cur ls st e sl = some (v, e', sl') → full = lProg j → (∀ q ∈ cur, q ∈ full) → oi = (mt j).1 → (ini = true → (mY j).name = "<init>") → ∃ q tl, cur = q :: tl ∧ eSays x j (d + 1) q.1 ls st e sl v e' sl'
theorem lk_of_mem {j pc : Nat} {q : Instr × Nat} (h : (pc, q) ∈ lProg j) : lk j pc = some q := by
  have hd : decode (mB j) pc = .ok q := by
    rw [lBytes j]
    have h2 := (lPkN j).2 (pc, q) h
    exact h2
  have hf : ∀ (l : lCode), (pc, q) ∈ l → ∃ y, lLook l pc = some y := by
    intro l
    induction l with
    | nil => intro h; cases h
    | cons a r ih =>
      intro h
      unfold lLook
      by_cases ha : a.1 = pc
      · exact ⟨a.2, if_pos ha⟩
      · rw [if_neg ha]
        rcases List.mem_cons.mp h with h1 | h1
        · exact absurd (by rw [← h1]) ha
        · exact ih h1
  obtain ⟨y, hy⟩ := hf _ h
  have h3 : lk j pc = some y := hy
  have h4 := lk_dec h3
  rw [hd] at h4
  cases h4
  exact h3
theorem eNext_ok {x : XS} {rec : EX} (hrec : eRecOk x rec) {d j oi : Nat} {ini : Bool} {full tl : lCode} {pc n : Nat} {r : ESt} {v : Option Value} {e' : EH} {sl' : Nat} (h : eNext rec d j oi ini full tl pc n r = some (v, e', sl')) (hfull : full = lProg j) (htl : ∀ q ∈ tl, q ∈ full) (hoi : oi = (mt j).1) (hini : ini = true → (mY j).name = "<init>") : ∃ pc', nx pc n r.2.2.2.2 pc' ∧ eSays x j (d + 1) pc' r.1 r.2.1 r.2.2.1 r.2.2.2.1 v e' sl' := by
  obtain ⟨ls1, st1', e1, sl1, jmp⟩ := r
  unfold eNext at h
  dsimp only at h
  cases jmp with
  | none =>
    dsimp only at h
    cases tl with
    | nil => cases h
    | cons q t =>
      dsimp only at h
      split at h
      · rename_i hq
        obtain ⟨q', t', h1, h2⟩ := hrec _ _ _ _ _ _ _ _ _ _ _ _ _ h hfull htl hoi hini
        cases h1
        exact ⟨q.1, hq, h2⟩
      · cases h
  | some off =>
    dsimp only at h
    split at h
    · rename_i hp
      obtain ⟨h3, h4⟩ := lFrom_sub ((pc : Int) + off).toNat full
      obtain ⟨q', t', h1, h2⟩ := hrec _ _ _ _ _ _ _ _ _ _ _ _ _ h hfull h3 hoi hini
      refine ⟨q'.1, ?_, h2⟩
      rw [h4 q' t' h1]
      exact (Int.toNat_of_nonneg hp).symm
    · cases h
theorem eGo_ok {x : XS} {sm : ESm} {rec : EX} (hsm : eSmOk x sm) (hrec : eRecOk x rec) {d j' : Nat} {as : List Value} {e : EH} {sl : Nat} {r : Option Value × EH × Nat} (h : eGo sm rec d j' as e sl = some r) : eSays x j' d 0 (lEnt (mL j') as) [] e sl r.1 r.2.1 r.2.2 := by
  unfold eGo at h
  cases d with
  | zero => cases h
  | succ d =>
    dsimp only at h
    split at h
    · rename_i r' hr'
      cases h
      obtain ⟨h1, h2⟩ := hsm _ _ _ _ hr'
      refine ⟨Nat.le_of_eq h1.symm, Nat.le_refl _, ?_⟩
      show LW j' (d + 1) (r'.2.1 - e.1) (sl - sl) 0 _ _ _ _
      rw [h1, Nat.sub_self, Nat.sub_self]
      exact h2 d
    · split at h
      · rename_i hh
        obtain ⟨v, e', sl'⟩ := r
        obtain ⟨q, t, h1, h2⟩ := hrec _ _ _ _ _ _ _ _ _ _ _ _ _ h rfl (fun q hq => hq) rfl (fun hi => of_decide_eq_true hi)
        rw [h1] at hh
        have hh : q.1 = 0 := Option.some.inj hh
        rw [← hh]
        exact h2
      · cases h
theorem take_drop_rev (st : List Value) (n : Nat) : st = ((st.take n).reverse).reverse ++ st.drop n := by
  rw [List.reverse_reverse, List.take_append_drop]
set_option maxHeartbeats 4000000 in
theorem eBody_ok {x : XS} {sm : ESm} {rec : EX} (hsm : eSmOk x sm) (hrec : eRecOk x rec) : eRecOk x (eBody sm rec) := by
  intro d j oi ini full cur ls st e sl v e' sl' h hfull hsub hoi hini
  unfold eBody at h
  cases cur with
  | nil => cases h
  | cons q tl =>
    obtain ⟨pc, ins, n⟩ := q
    refine ⟨_, tl, rfl, ?_⟩
    have hlk : lk j pc = some (ins, n) := lk_of_mem (by rw [← hfull]; exact hsub _ List.mem_cons_self)
    have htl : ∀ q ∈ tl, q ∈ full := fun q hq => hsub q (List.mem_cons_of_mem _ hq)
    dsimp only at h
    split at h
    · rename_i r hr
      split at h
      · rename_i hn
        obtain ⟨h1, h2, h3⟩ := eStep_ok (x := x) (d := d) hoi hini hlk hn hr
        obtain ⟨pc', h4, h5, h6, h7⟩ := eNext_ok hrec h hfull htl hoi hini
        refine ⟨Nat.le_trans h1 h5, Nat.le_trans h2 h6, ?_⟩
        have h8 := h3 _ _ _ pc' h4 h7
        have e1 : (r.2.2.1.1 - e.1) + (e'.1 - r.2.2.1.1) = e'.1 - e.1 := by omega
        have e2 : (r.2.2.2.1 - sl) + (sl' - r.2.2.2.1) = sl' - sl := by omega
        rw [e1, e2] at h8
        exact h8
      · cases h
    · rename_i hes
      clear hes
      split at h
      · rename_i v0 hv
        split at h
        · rename_i hn
          subst hn
          cases h
          refine ⟨Nat.le_refl _, Nat.le_refl _, ?_⟩
          unfold eRet at hv
          split at hv
          · split at hv
            · rename_i hr
              cases hv
              exact LW_return (st := []) hlk hr ⟨rfl, rfl⟩
            · cases hv
          · split at hv
            · rename_i hr
              split at hv
              · rename_i hnr
                cases hv
                exact LW_ireturn (st := []) hlk hr hnr ⟨rfl, rfl⟩
              · cases hv
            · cases hv
          · split at hv
            · rename_i hr
              cases hv
              exact LW_lreturn (st := []) hlk hr ⟨rfl, rfl⟩
            · cases hv
          · split at hv
            · rename_i hr
              cases hv
              exact LW_areturn (st := []) hlk hr (Or.inl ⟨_, rfl⟩) ⟨rfl, rfl⟩
            · rename_i hr
              cases hv
              exact LW_areturnN (st := []) hlk hr (Or.inl ⟨_, rfl⟩) ⟨rfl, rfl⟩
            · cases hv
          · cases hv
        · cases h
      · split at h
        · rename_i r hr
          split at h
          · rename_i hn
            subst hn
            obtain ⟨v1, e1, sl1, rest⟩ := r
            obtain ⟨pc', h4, h5, h6, h7⟩ := eNext_ok hrec h hfull htl hoi hini
            have h4 : pc' = pc + 3 := h4
            subst h4
            dsimp only at h5 h6 h7
            suffices hs : e.1 ≤ e1.1 ∧ sl ≤ sl1 ∧ LW j (d + 1) ((e1.1 - e.1) + (e'.1 - e1.1)) ((sl1 - sl) + (sl' - sl1)) pc ls st (eV x e) (fun v' g' => v' = v ∧ g' = eV x e') by
              obtain ⟨s1, s2, s3⟩ := hs
              refine ⟨Nat.le_trans s1 h5, Nat.le_trans s2 h6, ?_⟩
              have q1 : (e1.1 - e.1) + (e'.1 - e1.1) = e'.1 - e.1 := by omega
              have q2 : (sl1 - sl) + (sl' - sl1) = sl' - sl := by omega
              rw [q1, q2] at s3
              exact s3
            subst hoi
            unfold eCall at hr
            split at hr
            · split at hr <;> first | cases hr | skip
              rename_i hm
              split at hr <;> first | cases hr | skip
              rename_i hd
              split at hr <;> first | cases hr | skip
              rename_i hg
              split at hr <;> first | cases hr | skip
              rename_i hsh
              split at hr <;> first | cases hr | skip
              rename_i hci
              split at hr <;> first | cases hr | skip
              rename_i r hgo
              obtain ⟨g1, g2, g3⟩ := eGo_ok hsm hrec hgo
              obtain ⟨k1, k2, k3, k4, k5, k6⟩ := hg
              refine ⟨g1, g2, LW_callV hlk hm k1 k2 k3 k4 k5 (by rw [← hd]; exact take_drop_rev st _) (hsh.trans (congrArg Sum.inl hci)) k6 g3 ?_⟩
              rintro v2 g2' ⟨rfl, rfl⟩
              exact h7
            · split at hr <;> first | cases hr | skip
              rename_i hm
              split at hr <;> first | cases hr | skip
              rename_i hd
              split at hr <;> first | cases hr | skip
              rename_i hg
              split at hr <;> first | cases hr | skip
              rename_i r hgo
              obtain ⟨g1, g2, g3⟩ := eGo_ok hsm hrec hgo
              obtain ⟨k1, k2, k3, k4, k5⟩ := hg
              refine ⟨g1, g2, LW_callI hlk hm k1 k2 k3 k4 k5 (by rw [← hd]; exact take_drop_rev st _) g3 ?_⟩
              rintro v2 g2' ⟨rfl, rfl⟩
              exact h7
            · split at hr <;> first | cases hr | skip
              · rename_i hm
                split at hr <;> first | cases hr | skip
                rename_i hg
                split at hr <;> first | cases hr | skip
                rename_i r hgo
                obtain ⟨g1, g2, g3⟩ := eGo_ok hsm hrec hgo
                obtain ⟨k1, k2, k3, k4, k5⟩ := hg
                refine ⟨g1, g2, LW_callS hlk hm k1 k2 k3 k4 k5 (take_drop_rev st _) g3 ?_⟩
                rintro v2 g2' ⟨rfl, rfl⟩
                exact h7
              · rename_i hm
                split at hr <;> first | cases hr | skip
                rename_i hg
                split at hr <;> first | cases hr | skip
                rename_i r hgo
                obtain ⟨g1, g2, g3⟩ := eGo_ok hsm hrec hgo
                obtain ⟨k1, k2, k3, k4, k5⟩ := hg
                refine ⟨g1, g2, LW_callN hlk hm k1 k2 k3 k4 k5 (take_drop_rev st _) g3 ?_⟩
                rintro v2 g2' ⟨rfl, rfl⟩
                exact h7
            · cases hr
          · cases h
        · cases h
theorem ex_ok {x : XS} {sm : ESm} (hsm : eSmOk x sm) : ∀ fuel, eRecOk x (ex sm fuel)
  | 0 => fun _ _ _ _ _ _ _ _ _ _ _ _ _ h => (by cases h)
  | fuel + 1 => eBody_ok hsm (ex_ok hsm fuel)
/-- a whole method -/
noncomputable def eRun (sm : ESm) (fuel d j : Nat) (as : List Value) (e : EH) (sl : Nat) : ERes := ex sm fuel d j (mt j).1 (decide ((mY j).name = "<init>")) (lProg j) (lProg j) (lEnt (mL j) as) [] e sl
theorem eRun_ok {x : XS} {sm : ESm} (hsm : eSmOk x sm) {fuel d j : Nat} {as : List Value} {e : EH} {sl : Nat} {v : Option Value} {e' : EH} {sl' : Nat} (h : eRun sm fuel d j as e sl = some (v, e', sl')) (h0 : (lProg j).head?.map (fun q => q.1) = some 0) : eSays x j (d + 1) 0 (lEnt (mL j) as) [] e sl v e' sl' := by
  obtain ⟨q, t, h1, h2⟩ := ex_ok hsm fuel _ _ _ _ _ _ _ _ _ _ _ _ _ h rfl (fun q hq => hq) rfl (fun hi => of_decide_eq_true hi)
  rw [h1] at h0
  have h0 : q.1 = 0 := Option.some.inj h0
  rw [← h0]
  exact h2
noncomputable def sm0 : ESm := fun _ _ _ => none
theorem sm0_ok (x : XS) : eSmOk x sm0 := fun _ _ _ _ h => (by cases h)

/-! answers of runs, compared -/
def eqEH (a b : EH) : Bool := decide (a.1 = b.1) && (decide (a.2.1 = b.2.1) && (decide (a.2.2.1 = b.2.2.1) && (decide (a.2.2.2.1 = b.2.2.2.1) && decide (a.2.2.2.2 = b.2.2.2.2))))
theorem eqEH_ok {a b : EH} (h : eqEH a b = true) : a = b := by
  unfold eqEH at h
  simp only [Bool.and_eq_true, decide_eq_true_eq] at h
  obtain ⟨a1, a2, a3, a4, a5⟩ := a
  obtain ⟨b1, b2, b3, b4, b5⟩ := b
  obtain ⟨h1, h2, h3, h4, h5⟩ := h
  dsimp only at h1 h2 h3 h4 h5
  subst h1
  subst h2
  subst h3
  subst h4
  subst h5
  rfl
def eqRes (r : ERes) (v : Option Value) (e : EH) (sl : Nat) : Bool := match r with
  | some q => decide (q.1 = v) && (eqEH q.2.1 e && decide (q.2.2 = sl))
  | none => false
theorem eqRes_ok {r : ERes} {v : Option Value} {e : EH} {sl : Nat} (h : eqRes r v e sl = true) : r = some (v, e, sl) := by
  unfold eqRes at h
  split at h
  · rename_i q
    simp only [Bool.and_eq_true, decide_eq_true_eq] at h
    obtain ⟨h1, h2, h3⟩ := h
    have h2 := eqEH_ok h2
    obtain ⟨q1, q2, q3⟩ := q
    dsimp only at h1 h2 h3
    subst h1
    subst h2
    subst h3
    rfl
  · cases h
