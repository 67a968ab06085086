/-! rows: arrays, new cells -/
/-- one cell changes -/
theorem LW_set {j d bc bs pc pc' q : Nat} {ls : List (Option Value)} {st st' : List Value} {g g' : LH} {Q : Option Value → LH → Prop}
    (g1 : Gn g' = Gn g) (g2 : Gx g' = Gx g) (g4 : (∀ q i a, Gr g q i = some a → a < Gn g) → lOk (Gn g) ls st → ∀ q i a, Gr g' q i = some a → a < Gn g) (g5 : ∀ ρ aC i, i ≠ q → lE ρ aC g' i = lE ρ aC g i) (hok : lOk (Gn g) ls st → lOk (Gn g) ls st')
    (row : ∀ (p : Program) (l : Launch) (e : Env) (R : Room) (s : State) (m : MethodId) (args : Array Value) (below : List Frame) (meth : Method) (c : Code) (H : Heap) (locs : List Loc) (cells slots : Nat) (Z : State → Prop) (D : va_G) (aC : FieldType → ClassId) (ρ : Nat → Nat) (A : Nat → Prop) (H0 : Heap) (b : Nat → Nat) (lsR : Array Slot),
      lX j d p R s m args meth c → lWx D aC ρ A H0 s H locs g b → lR ρ b (mL j) ls lsR → lOk (Gn g) ls st →
      (∀ (H1 : Heap) (locs1 : List Loc), va_P D vwCl ((lW ρ aC g).set q (ρ q, lE ρ aC g' q)) H1 → va_D A ((lW ρ aC g).set q (ρ q, lE ρ aC g' q)) → va_S A H0 H1 locs1 → W p l e R s m args below meth c H1 locs1 cells slots Z (F0 m pc' lsR (st'.map (cv ρ b)))) →
      W p l e R s m args below meth c H locs cells slots Z (F0 m pc lsR (st.map (cv ρ b))))
    (kk : LW j d bc bs pc' ls st' g' Q) : LW j d bc bs pc ls st g Q := by
  intro p l e R s m args below meth c H locs cells slots Z D aC ρ A H0 b lsR X hc hs hw hl ho hz
  refine row p l e R s m args below meth c H locs cells slots Z D aC ρ A H0 b lsR X hw hl ho (fun H1 locs1 hP1 hD1 hS1 => ?_)
  obtain ⟨hK, hP, hD, hS, hA, hwf, hsx, hst⟩ := hw
  rw [← lW_upd g1 (g5 ρ aC)] at hP1 hD1
  exact kk p l e R s m args below meth c H1 locs1 cells slots Z D aC ρ A H0 b lsR X hc hs ⟨hK, hP1, hD1, hS1, hA, by rw [g1]; exact g4 hwf ho, by rw [g2]; exact hsx, hst⟩ hl (by rw [g1]; exact hok ho) (by rw [g1, g2]; exact hz)
section ARR
variable {j d bc bs pc : Nat} {ls : List (Option Value)} {st : List Value} {g : LH} {Q : Option Value → LH → Prop}
theorem LW_iald {q n : Nat} {i : Int32} (h : lk j pc = some (.iaload, 1)) (hsh : Gs g q = .inr (.int, n)) (hin : vp_in i n) (kk : LW j d bc bs (pc + 1) ls (.int (Gi g q i.toNatClampNeg) :: st) g Q) : LW j d bc bs pc ls (.int i :: .ref q :: st) g Q := by
  intro p l e R s m args below meth c H locs cells slots Z D aC ρ A H0 b lsR X hc hs hw hl ho hz
  have hq : q < Gn g := (lOk_cons.mp (lOk_cons.mp ho).2).1
  have he : (lW ρ aC g)[q]? = some (ρ q, .inl (aC .int, n, .inl (Gi g q))) := by rw [lW_at hq, lE_arr hsh]; rfl
  exact va_iald X.1 X.2.1 hw.1 hw.2.1 q 0 he (tyL_at (k := 0) rfl) hin (lk_dec h) (kk p l e R s m args below meth c H locs cells slots Z D aC ρ A H0 b lsR X hc hs hw hl (by simp_all [lOk_cons, okV]) hz)
theorem LW_zald {q n : Nat} {i : Int32} (h : lk j pc = some (.baload, 1)) (hsh : Gs g q = .inr (.boolean, n)) (hin : vp_in i n) (kk : LW j d bc bs (pc + 1) ls (.int (Gi g q i.toNatClampNeg) :: st) g Q) : LW j d bc bs pc ls (.int i :: .ref q :: st) g Q := by
  intro p l e R s m args below meth c H locs cells slots Z D aC ρ A H0 b lsR X hc hs hw hl ho hz
  have hq : q < Gn g := (lOk_cons.mp (lOk_cons.mp ho).2).1
  have he : (lW ρ aC g)[q]? = some (ρ q, .inl (aC .boolean, n, .inl (Gi g q))) := by rw [lW_at hq, lE_arr hsh]; rfl
  exact va_zald X.1 X.2.1 hw.1 hw.2.1 q 1 he (tyL_at (k := 1) rfl) hin (lk_dec h) (kk p l e R s m args below meth c H locs cells slots Z D aC ρ A H0 b lsR X hc hs hw hl (by simp_all [lOk_cons, okV]) hz)
theorem LW_lald {q n : Nat} {i : Int32} (h : lk j pc = some (.laload, 1)) (hsh : Gs g q = .inr (.long, n)) (hin : vp_in i n) (kk : LW j d bc bs (pc + 1) ls (.long (Gj g q i.toNatClampNeg) :: st) g Q) : LW j d bc bs pc ls (.int i :: .ref q :: st) g Q := by
  intro p l e R s m args below meth c H locs cells slots Z D aC ρ A H0 b lsR X hc hs hw hl ho hz
  have hq : q < Gn g := (lOk_cons.mp (lOk_cons.mp ho).2).1
  have he : (lW ρ aC g)[q]? = some (ρ q, .inl (aC .long, n, .inr (.inl (Gj g q)))) := by rw [lW_at hq, lE_arr hsh]; rfl
  exact va_lald X.1 X.2.1 hw.1 hw.2.1 q 2 he (tyL_at (k := 2) rfl) hin (lk_dec h) (kk p l e R s m args below meth c H locs cells slots Z D aC ρ A H0 b lsR X hc hs hw hl (by simp_all [lOk_cons, okV]) hz)
theorem LW_aald {q n t0 : Nat} {C : String} {i : Int32} (h : lk j pc = some (.aaload, 1)) (hsh : Gs g q = .inr (.object C, n)) (ht : lTys[t0]? = some (.object C)) (hin : vp_in i n) (kk : LW j d bc bs (pc + 1) ls (va_rf (Gr g q i.toNatClampNeg) :: st) g Q) : LW j d bc bs pc ls (.int i :: .ref q :: st) g Q := by
  intro p l e R s m args below meth c H locs cells slots Z D aC ρ A H0 b lsR X hc hs hw hl ho hz
  have hq : q < Gn g := (lOk_cons.mp (lOk_cons.mp ho).2).1
  have he : (lW ρ aC g)[q]? = some (ρ q, .inl (aC (.object C), n, .inr (.inr (.inr (.inr fun i => (Gr g q i).map ρ))))) := by rw [lW_at hq, lE_arr hsh]; rfl
  have kk1 := kk p l e R s m args below meth c H locs cells slots Z D aC ρ A H0 b lsR X hc hs hw hl (lOk_cons.mpr ⟨okV_rf (fun a => hw.2.2.2.2.2.1 q _ a), (lOk_cons.mp (lOk_cons.mp ho).2).2⟩) hz
  rw [List.map_cons, cv_rf] at kk1
  exact va_aldq X.1 X.2.1 hw.1 hw.2.1 q t0 he (tyL_at ht) hin (lk_dec h) kk1
theorem LW_alen {q n t0 : Nat} {ty : FieldType} {v : Int32} (h : lk j pc = some (.arraylength, 1)) (hsh : Gs g q = .inr (ty, n)) (ht : lTys[t0]? = some ty) (hv : Int32.ofNat n = v) (kk : LW j d bc bs (pc + 1) ls (.int v :: st) g Q) : LW j d bc bs pc ls (.ref q :: st) g Q := by
  intro p l e R s m args below meth c H locs cells slots Z D aC ρ A H0 b lsR X hc hs hw hl ho hz
  have hq : q < Gn g := (lOk_cons.mp ho).1
  have he : (lW ρ aC g)[q]? = some (ρ q, .inl (aC ty, n, lA ρ g ty q)) := by rw [lW_at hq, lE_arr hsh]
  exact va_alen X.1 X.2.1 hw.1 hw.2.1 q t0 he (tyL_at ht) hv (lk_dec h) (kk p l e R s m args below meth c H locs cells slots Z D aC ρ A H0 b lsR X hc hs hw hl (by simp_all [lOk_cons, okV]) hz)
/-- the script -/
theorem LW_sld {L : Nat} {xs : Nat → Int32} {i : Int32} (h : lk j pc = some (.iaload, 1)) (hx : Gx g = some (L, xs)) (hin : vp_in i L) (kk : LW j d bc bs (pc + 1) ls (.int (xs i.toNatClampNeg) :: st) g Q) : LW j d bc bs pc ls (.int i :: .retAddr 0 :: st) g Q := by
  intro p l e R s m args below meth c H locs cells slots Z D aC ρ A H0 b lsR X hc hs hw hl ho hz
  have hsx := hw.2.2.2.2.2.2.1
  unfold lSX at hsx
  rw [hx] at hsx
  obtain ⟨-, -, h1, h2, h3⟩ := hsx
  exact va_sld X.1 X.2.1 h1 h2 h3 hw.2.2.2.1 hin (lk_dec h) (kk p l e R s m args below meth c H locs cells slots Z D aC ρ A H0 b lsR X hc hs hw hl (by simp_all [lOk_cons, okV]) hz)
theorem LW_slen {L : Nat} {xs : Nat → Int32} (h : lk j pc = some (.arraylength, 1)) (hx : Gx g = some (L, xs)) (kk : LW j d bc bs (pc + 1) ls (.int (Int32.ofNat L) :: st) g Q) : LW j d bc bs pc ls (.retAddr 0 :: st) g Q := by
  intro p l e R s m args below meth c H locs cells slots Z D aC ρ A H0 b lsR X hc hs hw hl ho hz
  have hsx := hw.2.2.2.2.2.2.1
  unfold lSX at hsx
  rw [hx] at hsx
  obtain ⟨-, -, h1, h2, h3⟩ := hsx
  exact va_slen X.1 X.2.1 h1 h2 h3 hw.2.2.2.1 (lk_dec h) (kk p l e R s m args below meth c H locs cells slots Z D aC ρ A H0 b lsR X hc hs hw hl (by simp_all [lOk_cons, okV]) hz)
theorem lE_putI {ρ : Nat → Nat} {aC : FieldType → ClassId} {q k n : Nat} {x : Int32} {ty : FieldType} (hsh : Gs g q = .inr (ty, n)) (hk : kd ty = 0) : lE ρ aC (putI g q k x) q = .inl (aC ty, n, .inl (upd (Gi g q) k x)) := by
  rw [lE_arr (g := putI g q k x) hsh]
  unfold lA
  rw [hk]
  show Sum.inl (aC ty, n, Sum.inl (va_up (Gi g) q (upd (Gi g q) k x) q)) = _
  rw [va_up_self]
theorem LW_iast {q n : Nat} {i x : Int32} (h : lk j pc = some (.iastore, 1)) (hsh : Gs g q = .inr (.int, n)) (hin : vp_in i n) (kk : LW j d bc bs (pc + 1) ls st (putI g q i.toNatClampNeg x) Q) : LW j d bc bs pc ls (.int x :: .int i :: .ref q :: st) g Q := by
  refine LW_set (g' := putI g q i.toNatClampNeg x) (q := q) rfl rfl (fun hwf _ => hwf) (fun ρ aC z hz => lE_congr rfl (va_up_ne _ _ hz) rfl (fun _ => rfl)) (fun ho => by simp_all [lOk_cons, okV]) ?_ kk
  intro p l e R s m args below meth c H locs cells slots Z D aC ρ A H0 b lsR X hw hl ho kk1
  have hq : q < Gn g := (lOk_cons.mp (lOk_cons.mp (lOk_cons.mp ho).2).2).1
  have he : (lW ρ aC g)[q]? = some (ρ q, .inl (aC .int, n, .inl (Gi g q))) := by rw [lW_at hq, lE_arr hsh]; rfl
  rw [lE_putI hsh rfl] at kk1
  exact va_iast X.1 X.2.1 hw.1 hw.2.1 hw.2.2.1 hw.2.2.2.1 q 0 he (tyL_at (k := 0) rfl) hin (lk_dec h) kk1
theorem LW_zast {q n : Nat} {i x v : Int32} (h : lk j pc = some (.bastore, 1)) (hsh : Gs g q = .inr (.boolean, n)) (hin : vp_in i n) (hv : vp_nar .boolean x = v) (kk : LW j d bc bs (pc + 1) ls st (putI g q i.toNatClampNeg v) Q) : LW j d bc bs pc ls (.int x :: .int i :: .ref q :: st) g Q := by
  refine LW_set (g' := putI g q i.toNatClampNeg v) (q := q) rfl rfl (fun hwf _ => hwf) (fun ρ aC z hz => lE_congr rfl (va_up_ne _ _ hz) rfl (fun _ => rfl)) (fun ho => by simp_all [lOk_cons, okV]) ?_ kk
  intro p l e R s m args below meth c H locs cells slots Z D aC ρ A H0 b lsR X hw hl ho kk1
  have hq : q < Gn g := (lOk_cons.mp (lOk_cons.mp (lOk_cons.mp ho).2).2).1
  have he : (lW ρ aC g)[q]? = some (ρ q, .inl (aC .boolean, n, .inl (Gi g q))) := by rw [lW_at hq, lE_arr hsh]; rfl
  rw [lE_putI hsh rfl, ← hv] at kk1
  exact va_zast X.1 X.2.1 hw.1 hw.2.1 hw.2.2.1 hw.2.2.2.1 q 1 he (tyL_at (k := 1) rfl) hin (lk_dec h) kk1
theorem LW_last {q n : Nat} {i : Int32} {x : Int64} (h : lk j pc = some (.lastore, 1)) (hsh : Gs g q = .inr (.long, n)) (hin : vp_in i n) (kk : LW j d bc bs (pc + 1) ls st (putJ g q i.toNatClampNeg x) Q) : LW j d bc bs pc ls (.long x :: .int i :: .ref q :: st) g Q := by
  refine LW_set (g' := putJ g q i.toNatClampNeg x) (q := q) rfl rfl (fun hwf _ => hwf) (fun ρ aC z hz => lE_congr rfl rfl (va_up_ne _ _ hz) (fun _ => rfl)) (fun ho => by simp_all [lOk_cons, okV]) ?_ kk
  intro p l e R s m args below meth c H locs cells slots Z D aC ρ A H0 b lsR X hw hl ho kk1
  have hq : q < Gn g := (lOk_cons.mp (lOk_cons.mp (lOk_cons.mp ho).2).2).1
  have he : (lW ρ aC g)[q]? = some (ρ q, .inl (aC .long, n, .inr (.inl (Gj g q)))) := by rw [lW_at hq, lE_arr hsh]; rfl
  have he2 : lE ρ aC (putJ g q i.toNatClampNeg x) q = .inl (aC .long, n, .inr (.inl (vp_updL (Gj g q) i.toNatClampNeg x))) := by
    rw [lE_arr (g := putJ g q i.toNatClampNeg x) hsh]
    show Sum.inl (aC .long, n, Sum.inr (Sum.inl (va_up (Gj g) q (vp_updL (Gj g q) i.toNatClampNeg x) q))) = _
    rw [va_up_self]
  rw [he2] at kk1
  exact va_last X.1 X.2.1 hw.1 hw.2.1 hw.2.2.1 hw.2.2.2.1 q 2 he (tyL_at (k := 2) rfl) hin (lk_dec h) kk1
theorem LW_aast {q n t0 a ci : Nat} {C : String} {T : u_T} {N : Nat} {i : Int32} (h : lk j pc = some (.aastore, 1)) (hsh : Gs g q = .inr (.object C, n)) (ht : lTys[t0]? = some (.object C)) (hsa : Gs g a = .inl ci) (hcl : vwCl[ci]? = some (C, T, N)) (hin : vp_in i n) (kk : LW j d bc bs (pc + 1) ls st (putR g q i.toNatClampNeg (some a)) Q) : LW j d bc bs pc ls (.ref a :: .int i :: .ref q :: st) g Q := by
  refine LW_set (g' := putR g q i.toNatClampNeg (some a)) (q := q) rfl rfl (fun hwf ho => ?_) (fun ρ aC z hz => lE_congr rfl rfl rfl (fun k' => ?_)) (fun ho => by simp_all [lOk_cons, okV]) ?_ kk
  · intro q' i' a' ha
    have ha : va_up (Gr g) q (va_up (Gr g q) i.toNatClampNeg (some a)) q' i' = some a' := ha
    unfold va_up at ha
    split at ha
    · rename_i e
      subst e
      dsimp only at ha
      split at ha
      · cases ha
        exact (lOk_cons.mp ho).1
      · exact hwf _ _ _ ha
    · exact hwf _ _ _ ha
  · show Option.map ρ (va_up (Gr g) q (va_up (Gr g q) i.toNatClampNeg (some a)) z k') = _
    rw [va_up_ne _ _ hz]
  intro p l e R s m args below meth c H locs cells slots Z D aC ρ A H0 b lsR X hw hl ho kk1
  have ha : a < Gn g := (lOk_cons.mp ho).1
  have hq : q < Gn g := (lOk_cons.mp (lOk_cons.mp (lOk_cons.mp ho).2).2).1
  have he : (lW ρ aC g)[q]? = some (ρ q, .inl (aC (.object C), n, .inr (.inr (.inr (.inr fun i => (Gr g q i).map ρ))))) := by rw [lW_at hq, lE_arr hsh]; rfl
  have hea : (lW ρ aC g)[a]? = some (ρ a, .inr (ci, (List.range (nF ci)).map fun k => lV ρ g (tyA ci k) a k)) := by rw [lW_at ha, lE_obj hsa]
  have he2 : lE ρ aC (putR g q i.toNatClampNeg (some a)) q = .inl (aC (.object C), n, .inr (.inr (.inr (.inr (va_up (fun i => (Gr g q i).map ρ) i.toNatClampNeg (some (ρ a))))))) := by
    rw [lE_arr (g := putR g q i.toNatClampNeg (some a)) hsh]
    show Sum.inl (aC (.object C), n, Sum.inr (Sum.inr (Sum.inr (Sum.inr (fun z => Option.map ρ (va_up (Gr g) q (va_up (Gr g q) i.toNatClampNeg (some a)) q z)))))) = _
    rw [va_up_self]
    refine congrArg (fun z => Sum.inl (aC (.object C), n, Sum.inr (Sum.inr (Sum.inr (Sum.inr z))))) (funext fun z => ?_)
    unfold va_up
    split <;> rfl
  rw [he2] at kk1
  exact va_astq (r := (C, T, N)) X.1 X.2.1 hw.1 hw.2.1 hw.2.2.1 hw.2.2.2.1 q t0 a ci he (tyL_at ht) hea hcl hin (lk_dec h) kk1
def cpyI (g : LH) (a0 a1 sp dp n : Nat) : LH := (Gn g, Gs g, va_up (Gi g) a1 (va_cpy (Gi g a0) (Gi g a1) sp dp n), Gj g, Gr g, Gx g)
theorem LW_copy {a0 a1 n0 n1 idx : Nat} {sp dp n : Int32} (h : lk j pc = some (.invokestatic idx, 3)) (hm : mres j idx = some (5, 0)) (h0 : Gs g a0 = .inr (.int, n0)) (h1 : Gs g a1 = .inr (.int, n1)) (hsp : ¬ sp < 0) (hdp : ¬ dp < 0) (hn : ¬ n < 0) (hb0 : sp.toNatClampNeg + n.toNatClampNeg ≤ n0) (hb1 : dp.toNatClampNeg + n.toNatClampNeg ≤ n1) (hcat : (st.map fun v => v.category).sum ≤ 8)
    (kk : LW j (d + 1) bc bs (pc + 3) ls st (cpyI g a0 a1 sp.toNatClampNeg dp.toNatClampNeg n.toNatClampNeg) Q) : LW j (d + 1) bc bs pc ls (.int n :: .int dp :: .ref a1 :: .int sp :: .ref a0 :: st) g Q := by
  refine LW_set (g' := cpyI g a0 a1 sp.toNatClampNeg dp.toNatClampNeg n.toNatClampNeg) (q := a1) rfl rfl (fun hwf _ => hwf) (fun ρ aC z hz => lE_congr rfl (va_up_ne _ _ hz) rfl (fun _ => rfl)) (fun ho => by simp_all [lOk_cons, okV]) ?_ kk
  intro p l e R s m args below meth c H locs cells slots Z D aC ρ A H0 b lsR X hw hl ho kk1
  have ho1 := (lOk_cons.mp (lOk_cons.mp ho).2).2
  have hq1 : a1 < Gn g := (lOk_cons.mp ho1).1
  have hq0 : a0 < Gn g := (lOk_cons.mp (lOk_cons.mp (lOk_cons.mp ho1).2).2).1
  have he0 : (lW ρ aC g)[a0]? = some (ρ a0, .inl (aC .int, n0, .inl (Gi g a0))) := by rw [lW_at hq0, lE_arr h0]; rfl
  have he1 : (lW ρ aC g)[a1]? = some (ρ a1, .inl (aC .int, n1, .inl (Gi g a1))) := by rw [lW_at hq1, lE_arr h1]; rfl
  have he2 : lE ρ aC (cpyI g a0 a1 sp.toNatClampNeg dp.toNatClampNeg n.toNatClampNeg) a1 = .inl (aC .int, n1, .inl (va_cpy (Gi g a0) (Gi g a1) sp.toNatClampNeg dp.toNatClampNeg n.toNatClampNeg)) := by
    rw [lE_arr (g := cpyI g a0 a1 sp.toNatClampNeg dp.toNatClampNeg n.toNatClampNeg) h1]
    show Sum.inl (aC .int, n1, Sum.inl (va_up (Gi g) a1 (va_cpy (Gi g a0) (Gi g a1) sp.toNatClampNeg dp.toNatClampNeg n.toNatClampNeg) a1)) = _
    rw [va_up_self]
  rw [he2] at kk1
  have hm1 := mres_ok hm
  have hlink : Cond.methodLink (mO j) idx arraycopyName ∈ lg := any_mem (f := fun _ => .tt) hm1
  have hts := X.2.2.2.2.2.2.1
  have hfr := X.2.2.2.2.2.2.2.2.1
  have hlo := X.2.2.2.2.2.2.2.2.2
  have hcat2 : ((st.map (cv ρ b)).map fun v => v.category).sum ≤ 8 := by
    rw [List.map_map, show ((fun v => Value.category v) ∘ cv ρ b) = (fun v => Value.category v) from funext fun v => cv_cat ρ b v]
    exact hcat
  have hnw : nativeFrameWords "java/lang/System" "arraycopy" 5 ≤ 100 := by decide +kernel
  exact va_copyi X.1 X.2.1 (by rw [X.2.2.1, hl.1]) X.2.2.2.2.2.1 (hts _ hlink) (hts _ lgNat) (hts _ lgStat) (hts _ lgSys) hw.1 hw.2.1 hw.2.2.1 hw.2.2.2.1 a0 a1 0 0 he0 he1 (tyL_at (k := 0) rfl) (tyL_at (k := 0) rfl) rfl hsp hdp hn hb0 hb1 (fun _ _ => rfl) (by omega) (by omega) (lk_dec h) kk1
-- new cells
def newC (g : LH) (sh : LSh) : LH := (Gn g + 1, va_up (Gs g) (Gn g) sh, va_up (Gi g) (Gn g) (fun _ => 0), va_up (Gj g) (Gn g) (fun _ => 0), va_up (Gr g) (Gn g) (fun _ => none), Gx g)
theorem lW_new {ρ : Nat → Nat} {aC : FieldType → ClassId} {sh : LSh} {qa : Nat} (hwf : ∀ q i a, Gr g q i = some a → a < Gn g) : lW (va_up ρ (Gn g) qa) aC (newC g sh) = lW ρ aC g ++ [(qa, lE (va_up ρ (Gn g) qa) aC (newC g sh) (Gn g))] := by
  unfold lW
  rw [show Gn (newC g sh) = Gn g + 1 from rfl, List.range_succ, List.map_append]
  congr 1
  · apply List.map_congr_left
    intro i hi
    have hi : i < Gn g := List.mem_range.mp hi
    have hne : i ≠ Gn g := by omega
    rw [va_up_ne _ _ hne]
    congr 1
    refine lE_congr (va_up_ne _ _ hne) (va_up_ne _ _ hne) (va_up_ne _ _ hne) (fun k => ?_)
    show Option.map (va_up ρ (Gn g) qa) (va_up (Gr g) (Gn g) (fun _ => none) i k) = _
    rw [va_up_ne _ _ hne]
    cases hr : Gr g i k with
    | none => rfl
    | some a =>
      have := hwf i k a hr
      show some (va_up ρ (Gn g) qa a) = some (ρ a)
      rw [va_up_ne ρ qa (show a ≠ Gn g by omega)]
  · show [(va_up ρ (Gn g) qa (Gn g), _)] = _
    rw [va_up_self]
theorem LW_grow {N pc' : Nat} {sh : LSh} {st' : List Value} (hok : lOk (Gn g) ls st → lOk (Gn g) ls st')
    (row : ∀ (p : Program) (l : Launch) (e : Env) (R : Room) (s : State) (m : MethodId) (args : Array Value) (below : List Frame) (meth : Method) (c : Code) (H : Heap) (locs : List Loc) (cells slots : Nat) (Z : State → Prop) (D : va_G) (aC : FieldType → ClassId) (ρ : Nat → Nat) (A : Nat → Prop) (H0 : Heap) (b : Nat → Nat) (lsR : Array Slot),
      lX j d p R s m args meth c → cells + 1 ≤ R.cells → slots + N ≤ R.slots → lWx D aC ρ A H0 s H locs g b → lR ρ b (mL j) ls lsR → lOk (Gn g) ls st →
      (∀ (qa : Nat) (H1 : Heap), va_P D vwCl (lW ρ aC g ++ [(qa, lE (va_up ρ (Gn g) qa) aC (newC g sh) (Gn g))]) H1 → va_D A (lW ρ aC g ++ [(qa, lE (va_up ρ (Gn g) qa) aC (newC g sh) (Gn g))]) → va_S A H0 H1 locs → W p l e R s m args below meth c H1 locs (cells + 1) (slots + N) Z (F0 m pc' lsR (.ref qa :: st'.map (cv ρ b)))) →
      W p l e R s m args below meth c H locs cells slots Z (F0 m pc lsR (st.map (cv ρ b))))
    (kk : LW j d bc bs pc' ls (.ref (Gn g) :: st') (newC g sh) Q) : LW j d (bc + 1) (bs + N) pc ls st g Q := by
  intro p l e R s m args below meth c H locs cells slots Z D aC ρ A H0 b lsR X hc hs hw hl ho hz
  refine row p l e R s m args below meth c H locs cells slots Z D aC ρ A H0 b lsR X (by omega) (by omega) hw hl ho (fun qa H1 hP1 hD1 hS1 => ?_)
  obtain ⟨hK, hP, hD, hS, hA, hwf, hsx, hst⟩ := hw
  rw [← lW_new hwf] at hP1 hD1
  have hcv : ∀ v, okV (Gn g) v → cv (va_up ρ (Gn g) qa) b v = cv ρ b v := by
    intro v hv
    cases v with
    | ref q =>
      have hv : q < Gn g := hv
      show Value.ref (va_up ρ (Gn g) qa q) = .ref (ρ q)
      rw [va_up_ne ρ qa (Nat.ne_of_lt hv)]
    | _ => rfl
  have hok' := hok ho
  have hst' : st'.map (cv ρ b) = st'.map (cv (va_up ρ (Gn g) qa) b) := List.map_congr_left fun v hv => (hcv v (hok'.1 v hv)).symm
  have hup : ∀ v, okV (Gn g) v → okV (Gn g + 1) v := by
    intro v hv
    cases v with
    | ref q => exact Nat.lt_succ_of_lt hv
    | _ => exact hv
  have hself : Value.ref qa = cv (va_up ρ (Gn g) qa) b (.ref (Gn g)) := by
    show Value.ref qa = .ref (va_up ρ (Gn g) qa (Gn g))
    rw [va_up_self]
  rw [hst', hself, ← List.map_cons]
  refine kk p l e R s m args below meth c H1 locs (cells + 1) (slots + N) Z D aC (va_up ρ (Gn g) qa) A H0 b lsR X (by omega) (by omega) ⟨hK, hP1, hD1, hS1, hA, ?_, hsx, hst⟩ ⟨hl.1, hl.2.1, hl.2.2.1, fun i v h => by rw [hcv v (ho.2 i v h)]; exact hl.2.2.2 i v h⟩ (lOk_cons.mpr ⟨Nat.lt_succ_self _, fun v hv => hup v (hok'.1 v hv), fun i v h => hup v (hok'.2 i v h)⟩) ?_
  · intro q i a ha
    have ha : va_up (Gr g) (Gn g) (fun _ => none) q i = some a := ha
    show a < Gn g + 1
    unfold va_up at ha
    split at ha
    · cases ha
    · have := hwf q i a ha
      omega
  · intro v g' ρ' H' locs' cells' slots' pc'' ls' q0 q1 q2 qx q3 q4 q5
    refine hz v g' ρ' H' locs' cells' slots' pc'' ls' q0 (fun q hq => ?_) (by have : Gn g + 1 ≤ Gn g' := q2; omega) qx q3 (by omega) (by omega)
    rw [q1 q (show q < Gn g + 1 by omega), va_up_ne ρ qa (show q ≠ Gn g by omega)]
theorem kd_fields : ∀ ci, ci < 14 → ∀ k, k < nF ci → ¬ kd (tyA ci k) = 3 := by decide +kernel
theorem dflt_kd {ty : FieldType} (h : ¬ kd ty = 3) : defaultValue ty = (match kd ty with | 0 => Value.int 0 | 1 => .long 0 | _ => .null) := by
  cases ty <;> first | rfl | exact absurd rfl h
theorem LW_new {idx ci : Nat} (h : lk j pc = some (.new idx, 3)) (hf : cres j idx = some ci) (kk : LW j d bc bs (pc + 3) ls (.ref (Gn g) :: st) (newC g (.inl ci)) Q) : LW j d (bc + 1) (bs + nF ci) pc ls st g Q := by
  refine LW_grow (fun h => h) ?_ kk
  intro p l e R s m args below meth c H locs cells slots Z D aC ρ A H0 b lsR X hc hs hw hl ho kk1
  obtain ⟨hK, hP, hD, hS, hA, hwf, hsx, hst⟩ := hw
  obtain ⟨C, T, N, hcl, hlink⟩ := cres_ok hf
  obtain ⟨hN, hC, hty, hnm, hin, hi1, hi2⟩ := clOK hcl
  have hts := X.2.2.2.2.2.2.1
  have hlt : ci < 14 := (List.getElem?_eq_some_iff.mp hcl).1
  refine va_new (fs := (List.range (nF ci)).map fun k => lV ρ (newC g (.inl ci)) (tyA ci k) (Gn g) k) X.1 X.2.1 hts hin (tyA ci) hty X.2.2.2.2.2.1 (hts _ hlink) (hts _ hi1) (hts _ hi2) hK hP hD hS hA hcl (fun k hk => ?_) hc (by rw [hN]; exact hs) (lk_dec h) (fun qa H1 hP1 hD1 hS1 => ?_)
  · rw [hN] at hk
    rw [dflt_kd (kd_fields ci hlt k hk)]
    show _ = ((List.range (nF ci)).map fun k => lV ρ (newC g (.inl ci)) (tyA ci k) (Gn g) k).getD k .null
    rw [List.getD_eq_getElem?_getD, List.getElem?_map, List.getElem?_range hk]
    show _ = lV ρ (newC g (.inl ci)) (tyA ci k) (Gn g) k
    unfold lV
    generalize kd (tyA ci k) = z
    match z with
    | 0 =>
      show _ = Value.int (va_up (Gi g) (Gn g) (fun _ => 0) (Gn g) k)
      rw [va_up_self]
      rfl
    | 1 =>
      show _ = Value.long (va_up (Gj g) (Gn g) (fun _ => 0) (Gn g) k)
      rw [va_up_self]
      rfl
    | n + 2 =>
      show _ = va_rf (Option.map ρ (va_up (Gr g) (Gn g) (fun _ => none) (Gn g) k))
      rw [va_up_self]
      rfl
  · have he : lE (va_up ρ (Gn g) qa) aC (newC g (.inl ci)) (Gn g) = .inr (ci, (List.range (nF ci)).map fun k => lV ρ (newC g (.inl ci)) (tyA ci k) (Gn g) k) := by
      rw [lE_obj (g := newC g (.inl ci)) (ci := ci) (va_up_self _ _ _)]
      refine congrArg (fun z => Sum.inr (ci, z)) (List.map_congr_left fun k _ => ?_)
      unfold lV
      split
      · rfl
      · rfl
      · show va_rf (Option.map _ (va_up (Gr g) (Gn g) (fun _ => none) (Gn g) k)) = va_rf (Option.map _ (va_up (Gr g) (Gn g) (fun _ => none) (Gn g) k))
        rw [va_up_self]
        rfl
    rw [← he] at hP1 hD1
    have kk2 := kk1 qa H1 hP1 hD1 hS1
    rw [← hN] at kk2
    exact kk2
theorem RA_uniq {s : State} {c1 c2 : ClassId} {ty : FieldType} (h1 : va_RA s c1 ty) (h2 : va_RA s c2 ty) : c1 = c2 := by
  cases ty with
  | object C =>
    obtain ⟨_, _, _, _, _, a⟩ := h1
    obtain ⟨_, _, _, _, _, a'⟩ := h2
    exact Option.some.inj (a.symm.trans a')
  | _ => exact Option.some.inj (Eq.trans (Eq.symm h1) h2)
theorem K_last {D : va_G} {aC : FieldType → ClassId} {s : State} {cA : ClassId} {ty : FieldType} {t0 : Nat} (ht : lTys[t0]? = some ty) (h : va_K D vwCl (tyL aC ++ [(cA, ty)]) s) : cA = aC ty := by
  have hl : (tyL aC).length = 5 := by unfold tyL; simp [lTys]
  have h1 := (h.2 5 (cA, ty) (by rw [List.getElem?_append_right (by omega), hl]; rfl)).2
  have ht2 := tyL_at (aC := aC) ht
  have hlt := (List.getElem?_eq_some_iff.mp ht2).1
  have h2 := (h.2 t0 (aC ty, ty) (by rw [List.getElem?_append_left hlt]; exact ht2)).2
  exact RA_uniq h1 h2
theorem LW_newI {n : Int32} {N : Nat} (h : lk j pc = some (.newarray .int, 2)) (hn : ¬ n < 0) (hN : n.toNatClampNeg = N) (hb : N * 4 ≤ 536870912) (kk : LW j d bc bs (pc + 2) ls (.ref (Gn g) :: st) (newC g (.inr (.int, N))) Q) : LW j d (bc + 1) (bs + N) pc ls (.int n :: st) g Q := by
  refine LW_grow (fun h => (lOk_cons.mp h).2) ?_ kk
  intro p l e R s m args below meth c H locs cells slots Z D aC ρ A H0 b lsR X hc hs hw hl ho kk1
  obtain ⟨hK, hP, hD, hS, hA, hwf, hsx, hst⟩ := hw
  have hts := X.2.2.2.2.2.2.1
  refine va_newa (atype := .int) (ty := .int) (a0 := (N, .inl fun _ => 0)) X.1 X.2.1 (hts _ lgInt) rfl hK hP hD hS hA (fun cA => rfl) hn hN hb hc hs (lk_dec h) (fun qa cA H1 hK1 hP1 hD1 hS1 => ?_)
  have he : lE (va_up ρ (Gn g) qa) aC (newC g (.inr (.int, N))) (Gn g) = .inl (cA, N, .inl fun _ => 0) := by
    rw [lE_arr (g := newC g (.inr (.int, N))) (va_up_self _ _ _), K_last (t0 := 0) rfl hK1]
    show Sum.inl (aC .int, N, Sum.inl (va_up (Gi g) (Gn g) (fun _ => 0) (Gn g))) = _
    rw [va_up_self]
  rw [← he] at hP1 hD1
  exact kk1 qa H1 hP1 hD1 hS1
theorem LW_newZ {n : Int32} {N : Nat} (h : lk j pc = some (.newarray .boolean, 2)) (hn : ¬ n < 0) (hN : n.toNatClampNeg = N) (hb : N * 1 ≤ 536870912) (kk : LW j d bc bs (pc + 2) ls (.ref (Gn g) :: st) (newC g (.inr (.boolean, N))) Q) : LW j d (bc + 1) (bs + N) pc ls (.int n :: st) g Q := by
  refine LW_grow (fun h => (lOk_cons.mp h).2) ?_ kk
  intro p l e R s m args below meth c H locs cells slots Z D aC ρ A H0 b lsR X hc hs hw hl ho kk1
  obtain ⟨hK, hP, hD, hS, hA, hwf, hsx, hst⟩ := hw
  have hts := X.2.2.2.2.2.2.1
  refine va_newa (atype := .boolean) (ty := .boolean) (a0 := (N, .inl fun _ => 0)) X.1 X.2.1 (hts _ lgBool) rfl hK hP hD hS hA (fun cA => rfl) hn hN hb hc hs (lk_dec h) (fun qa cA H1 hK1 hP1 hD1 hS1 => ?_)
  have he : lE (va_up ρ (Gn g) qa) aC (newC g (.inr (.boolean, N))) (Gn g) = .inl (cA, N, .inl fun _ => 0) := by
    rw [lE_arr (g := newC g (.inr (.boolean, N))) (va_up_self _ _ _), K_last (t0 := 1) rfl hK1]
    show Sum.inl (aC .boolean, N, Sum.inl (va_up (Gi g) (Gn g) (fun _ => 0) (Gn g))) = _
    rw [va_up_self]
  rw [← he] at hP1 hD1
  exact kk1 qa H1 hP1 hD1 hS1
theorem LW_newJ {n : Int32} {N : Nat} (h : lk j pc = some (.newarray .long, 2)) (hn : ¬ n < 0) (hN : n.toNatClampNeg = N) (hb : N * 8 ≤ 536870912) (kk : LW j d bc bs (pc + 2) ls (.ref (Gn g) :: st) (newC g (.inr (.long, N))) Q) : LW j d (bc + 1) (bs + N) pc ls (.int n :: st) g Q := by
  refine LW_grow (fun h => (lOk_cons.mp h).2) ?_ kk
  intro p l e R s m args below meth c H locs cells slots Z D aC ρ A H0 b lsR X hc hs hw hl ho kk1
  obtain ⟨hK, hP, hD, hS, hA, hwf, hsx, hst⟩ := hw
  have hts := X.2.2.2.2.2.2.1
  refine va_newa (atype := .long) (ty := .long) (a0 := (N, .inr (.inl fun _ => 0))) X.1 X.2.1 (hts _ lgLong) rfl hK hP hD hS hA (fun cA => rfl) hn hN hb hc hs (lk_dec h) (fun qa cA H1 hK1 hP1 hD1 hS1 => ?_)
  have he : lE (va_up ρ (Gn g) qa) aC (newC g (.inr (.long, N))) (Gn g) = .inl (cA, N, .inr (.inl fun _ => 0)) := by
    rw [lE_arr (g := newC g (.inr (.long, N))) (va_up_self _ _ _), K_last (t0 := 2) rfl hK1]
    show Sum.inl (aC .long, N, Sum.inr (Sum.inl (va_up (Gj g) (Gn g) (fun _ => 0) (Gn g)))) = _
    rw [va_up_self]
  rw [← he] at hP1 hD1
  exact kk1 qa H1 hP1 hD1 hS1
theorem LW_newA {n : Int32} {N idx ci t0 : Nat} (h : lk j pc = some (.anewarray idx, 3)) (hf : cres j idx = some ci) (hci : lOwnN ci = RX9 ∧ t0 = 3 ∨ lOwnN ci = RX11 ∧ t0 = 4) (hn : ¬ n < 0) (hN : n.toNatClampNeg = N) (hb : N * 4 ≤ 536870912) (kk : LW j d bc bs (pc + 3) ls (.ref (Gn g) :: st) (newC g (.inr (.object (lOwnN ci), N))) Q) : LW j d (bc + 1) (bs + N) pc ls (.int n :: st) g Q := by
  refine LW_grow (fun h => (lOk_cons.mp h).2) ?_ kk
  intro p l e R s m args below meth c H locs cells slots Z D aC ρ A H0 b lsR X hc hs hw hl ho kk1
  obtain ⟨hK, hP, hD, hS, hA, hwf, hsx, hst⟩ := hw
  obtain ⟨C, T, N', hcl, hlink⟩ := cres_ok hf
  obtain ⟨hN', hC, -⟩ := clOK hcl
  have hts := X.2.2.2.2.2.2.1
  subst hC
  have hAO : va_AO (lOwnN ci) s := by
    rcases hci with ⟨h, -⟩ | ⟨h, -⟩
    · rw [h]; exact hst.1
    · rw [h]; exact hst.2.1
  have ht : lTys[t0]? = some (.object (lOwnN ci)) := by
    rcases hci with ⟨h, rfl⟩ | ⟨h, rfl⟩
    · rw [h]; rfl
    · rw [h]; rfl
  refine va_newq X.1 X.2.1 X.2.2.2.2.2.1 (hts _ hlink) hAO hK hP hD hS hA hn hN hb hc hs (lk_dec h) (fun qa cA H1 hK1 hP1 hD1 hS1 => ?_)
  have he : lE (va_up ρ (Gn g) qa) aC (newC g (.inr (.object (lOwnN ci), N))) (Gn g) = .inl (cA, N, .inr (.inr (.inr (.inr fun _ => none)))) := by
    rw [lE_arr (g := newC g (.inr (.object (lOwnN ci), N))) (va_up_self _ _ _), K_last ht hK1]
    show Sum.inl (aC (.object (lOwnN ci)), N, Sum.inr (Sum.inr (Sum.inr (Sum.inr fun z => Option.map (va_up ρ (Gn g) qa) (va_up (Gr g) (Gn g) (fun _ => none) (Gn g) z))))) = _
    rw [va_up_self]
    rfl
  rw [← he] at hP1 hD1
  exact kk1 qa H1 hP1 hD1 hS1
-- constants
theorem LW_ldc {idx : Nat} {v : Int32} (h : lk j pc = some (.ldc idx, 2)) (hv : kres j idx = some v) (kk : LW j d bc bs (pc + 2) ls (.int v :: st) g Q) : LW j d bc bs pc ls st g Q := by
  intro p l e R s m args below meth c H locs cells slots Z D aC ρ A H0 b lsR X hc hs hw hl ho hz
  exact lv_ldc X.1 X.2.1 X.2.2.2.2.2.1 (X.2.2.2.2.2.2.1 _ (kres_ok hv)) (lk_dec h) (kk p l e R s m args below meth c H locs cells slots Z D aC ρ A H0 b lsR X hc hs hw hl (lOk_cons.mpr ⟨trivial, ho⟩) hz)
theorem LW_ldcw {idx : Nat} {v : Int32} (h : lk j pc = some (.ldc_w idx, 3)) (hv : kres j idx = some v) (kk : LW j d bc bs (pc + 3) ls (.int v :: st) g Q) : LW j d bc bs pc ls st g Q := by
  intro p l e R s m args below meth c H locs cells slots Z D aC ρ A H0 b lsR X hc hs hw hl ho hz
  exact lv_ldcw X.1 X.2.1 X.2.2.2.2.2.1 (X.2.2.2.2.2.2.1 _ (kres_ok hv)) (lk_dec h) (kk p l e R s m args below meth c H locs cells slots Z D aC ρ A H0 b lsR X hc hs hw hl (lOk_cons.mpr ⟨trivial, ho⟩) hz)
theorem LW_ldc2 {idx : Nat} {v : Int64} (h : lk j pc = some (.ldc2_w idx, 3)) (hv : klres j idx = some v) (kk : LW j d bc bs (pc + 3) ls (.long v :: st) g Q) : LW j d bc bs pc ls st g Q := by
  intro p l e R s m args below meth c H locs cells slots Z D aC ρ A H0 b lsR X hc hs hw hl ho hz
  exact lv_ldc2 X.1 X.2.1 X.2.2.2.2.2.1 (X.2.2.2.2.2.2.1 _ (klres_ok hv)) (lk_dec h) (kk p l e R s m args below meth c H locs cells slots Z D aC ρ A H0 b lsR X hc hs hw hl (lOk_cons.mpr ⟨trivial, ho⟩) hz)
theorem LW_objInit {idx q : Nat} (h : lk j pc = some (.invokespecial idx, 3)) (hm : mres j idx = some (3, 0)) (hcat : (st.map fun v => v.category).sum ≤ 8) (kk : LW j (d + 1) bc bs (pc + 3) ls st g Q) : LW j (d + 1) bc bs pc ls (.ref q :: st) g Q := by
  intro p l e R s m args below meth c H locs cells slots Z D aC ρ A H0 b lsR X hc hs hw hl ho hz
  have hlink : Cond.methodLink (mO j) idx Lib.objectInit ∈ lg := any_mem (f := fun _ => .tt) (mres_ok hm)
  have hts := X.2.2.2.2.2.2.1
  have hfr := X.2.2.2.2.2.2.2.2.1
  have hlo := X.2.2.2.2.2.2.2.2.2
  have hcat2 : ((st.map (cv ρ b)).map fun v => v.category).sum ≤ 8 := by
    rw [List.map_map, show ((fun v => Value.category v) ∘ cv ρ b) = (fun v => Value.category v) from funext fun v => cv_cat ρ b v]
    exact hcat
  exact W.objInit X.1 X.2.1 X.2.2.2.2.2.1 (hts _ hlink) (hts _ lgObj) (hts _ lgObjC) rfl (by rw [X.2.2.1]; exact hl.1) rfl (lk_dec h) (by omega) (by show 2 * 0 + _ + 12 ≤ _; omega) (kk p l e R s m args below meth c H locs cells slots Z D aC ρ A H0 b lsR X hc hs hw hl (lOk_cons.mp ho).2 hz)
end ARR
