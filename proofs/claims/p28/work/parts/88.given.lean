/-! what the Statement gives of the start: the class's own row of numbers, its texts, the JDK's values -/
def vtxm : Nat → Term
  | 0 => (Term.string RX10 65)
  | _ => (Term.string RX10 58)
set_option maxRecDepth 100000 in
theorem vel_O : ∀ j : Nat, j < 11 → (flatC (Jvm.Cond.and given_1 narrow_1))[12 + j]? = some (Cond.eq (.elem (.static RX6 "ORDERS" "[I") (.int (Int32.ofNat j))) (.int (ordL.getD j 0))) := by decide +kernel
set_option maxRecDepth 100000 in
theorem vel_65 : ∀ j : Nat, j < 189 → (flatC (Jvm.Cond.and given_1 narrow_1))[55 + j]? = some (Cond.eq (.elem (Term.field (Term.string RX10 65) "java/lang/String" "value" "[B") (.int (Int32.ofNat j))) (.int ((txB.getD 0 []).getD j 0))) := by decide +kernel
set_option maxRecDepth 100000 in
theorem vel_58 : ∀ j : Nat, j < 12 → (flatC (Jvm.Cond.and given_1 narrow_1))[248 + j]? = some (Cond.eq (.elem (Term.field (Term.string RX10 58) "java/lang/String" "value" "[B") (.int (Int32.ofNat j))) (.int ((txB.getD 1 []).getD j 0))) := by decide +kernel
theorem vk_S_eq {N : Nat} {len : List Nat} {byt : List (List Int32)} {a1 a2 b1 b2 : Nat → Nat} {A : Nat → Prop} {U : State} {H : Heap} (ea : ∀ i, i < N → b1 i = a1 i) (eb : ∀ i, i < N → b2 i = a2 i) (h : vk_S N len byt a1 a2 A U H) : vk_S N len byt b1 b2 A U H := by
  refine ⟨fun i hi => ?_, fun i j hi hj e => h.2 i j hi hj (by rw [← ea i hi, ← ea j hj]; exact e)⟩
  rw [ea i hi, eb i hi]
  exact h.1 i hi
/-- where what stood there ahead lies -/
def vat (b t k0 k1 v0 v1 f : Nat) : Nat → Nat
  | 0 => b
  | 1 => t
  | 2 => k0
  | 3 => k1
  | 4 => v0
  | 5 => v1
  | _ => f
set_option maxRecDepth 100000 in
theorem start_O {s : State} {b : Nat} (hts : ∀ w ∈ lw_tbl, w.before #[Value.ref b] s = true) (hgv : (Jvm.Cond.and given_1 narrow_1).before #[Value.ref b] s = true) : ∃ vb : Nat → Nat, vb 0 = b ∧ lSO vb s s.heap (fun q => s.heap.size ≤ q) := by
  have vgv := flat_of_before _ hgv
  have hA : ∀ a : Nat, a < s.heap.size → ¬ (fun q => s.heap.size ≤ q) a := fun a h q => absurd h (Nat.not_lt.mpr q)
  have vo1 : (Cond.arrayOf (.static RX6 "ORDERS" "[I") .int).before #[Value.ref b] s = true := (vgv _ (List.mem_of_getElem? (i := 10) (by decide +kernel)))
  have vo2 : (Cond.eq (.length (.static RX6 "ORDERS" "[I")) (.int 11)).before #[Value.ref b] s = true := (vgv _ (List.mem_of_getElem? (i := 11) (by decide +kernel)))
  obtain ⟨t, vt1, vt2⟩ := va_Tof (args := #[Value.ref b]) (s := s) (tm := .static RX6 "ORDERS" "[I") (ty := .int) (N := 11) (f := fun k => .int (ordL.getD k 0)) (A := fun q => s.heap.size ≤ q) (by decide) vo1 (va_eqt vo2) (fun j hj => va_eqt (vgv _ (List.mem_of_getElem? (vel_O j hj)))) hA
  have vz1 : va_Z RX6 "ORDERS" "[I" (.ref t) (fun q => s.heap.size ≤ q) s s.heap := va_Zref (hts _ (List.mem_of_getElem? (i := 1278) (by decide +kernel))) (hts _ (List.mem_of_getElem? (i := 149) (by decide +kernel))) vt1 hA
  have vc1 : (Cond.eq (.static RJ0 "COMPACT_STRINGS" "Z") (.int 1)).before #[Value.ref b] s = true := (vgv _ (List.mem_of_getElem? (i := 4) (by decide +kernel)))
  have vz2 : va_Z RJ0 "COMPACT_STRINGS" "Z" (.int 1) (fun q => s.heap.size ≤ q) s s.heap := va_Zof (hts _ (List.mem_of_getElem? (i := 754) (by decide +kernel))) (hts _ (List.mem_of_getElem? (i := 152) (by decide +kernel))) (va_eqt vc1) hA
  have vf1 : (Cond.isRef (.static RJ3 "SIOOBE_FORMATTER" "Ljava/util/function/BiFunction;")).before #[Value.ref b] s = true := (vgv _ (List.mem_of_getElem? (i := 5) (by decide +kernel)))
  have vz3 : va_Zq RJ3 "SIOOBE_FORMATTER" "Ljava/util/function/BiFunction;" (fun q => s.heap.size ≤ q) s s.heap := va_Zqof (hts _ (List.mem_of_getElem? (i := 770) (by decide +kernel))) (hts _ (List.mem_of_getElem? (i := 154) (by decide +kernel))) vf1 hA
  obtain ⟨ak, av, vs1, vs2⟩ := vk_Sof (args := #[Value.ref b]) (s := s) (N := 2) (tm := vtxm) (len := [189, 12]) (byt := txB) (A := fun q => s.heap.size ≤ q)
    (fun i hi => (by
    match i, hi with
    | 0, _ => exact (by decide)
    | 1, _ => exact (by decide)
    | i + 2, hi => exact absurd hi (by omega)))
    (fun i hi => (by
    match i, hi with
    | 0, _ => exact (vgv _ (List.mem_of_getElem? (i := 51) (by decide +kernel)))
    | 1, _ => exact (vgv _ (List.mem_of_getElem? (i := 244) (by decide +kernel)))
    | i + 2, hi => exact absurd hi (by omega)))
    (fun i hi => (by
    match i, hi with
    | 0, _ => exact (vgv _ (List.mem_of_getElem? (i := 52) (by decide +kernel)))
    | 1, _ => exact (vgv _ (List.mem_of_getElem? (i := 245) (by decide +kernel)))
    | i + 2, hi => exact absurd hi (by omega)))
    (fun i hi => (by
    match i, hi with
    | 0, _ => exact (vgv _ (List.mem_of_getElem? (i := 53) (by decide +kernel)))
    | 1, _ => exact (vgv _ (List.mem_of_getElem? (i := 246) (by decide +kernel)))
    | i + 2, hi => exact absurd hi (by omega)))
    (fun i hi => (by
    match i, hi with
    | 0, _ => exact (vgv _ (List.mem_of_getElem? (i := 54) (by decide +kernel)))
    | 1, _ => exact (vgv _ (List.mem_of_getElem? (i := 247) (by decide +kernel)))
    | i + 2, hi => exact absurd hi (by omega)))
    (fun i hi => (by
    match i, hi with
    | 0, _ => exact fun j hj => vgv _ (List.mem_of_getElem? (vel_65 j hj))
    | 1, _ => exact fun j hj => vgv _ (List.mem_of_getElem? (vel_58 j hj))
    | i + 2, hi => exact absurd hi (by omega)))
    (fun i j hi hj hij => (by
    have vne : (Cond.not (Cond.eq (vtxm 0) (vtxm 1))).before #[Value.ref b] s = true := (vgv _ (List.mem_of_getElem? (i := 260) (by decide +kernel)))
    match i, j, hi, hj, hij with
    | 0, 0, _, _, hij => exact absurd rfl hij
    | 0, 1, _, _, _ => exact Or.inl vne
    | 1, 0, _, _, _ => exact Or.inr vne
    | 1, 1, _, _, hij => exact absurd rfl hij
    | i + 2, _, hi, _, _ => exact absurd hi (by omega)
    | 0, j + 2, _, hj, _ => exact absurd hj (by omega)
    | 1, j + 2, _, hj, _ => exact absurd hj (by omega))) hA
  have vr1 : vk_R RX10 65 keysT (ak 0) s := vk_R.of (hts _ (List.mem_of_getElem? (i := 744) (by decide +kernel))) (vs2 0 (by decide))
  have vr2 : vk_R RX10 58 symsT (ak 1) s := vk_R.of (hts _ (List.mem_of_getElem? (i := 803) (by decide +kernel))) (vs2 1 (by decide))
  have vse : ∀ f : Nat, vk_S 2 [189, 12] txB (fun i => vat b t (ak 0) (ak 1) (av 0) (av 1) f (2 + i)) (fun i => vat b t (ak 0) (ak 1) (av 0) (av 1) f (4 + i)) (fun q => s.heap.size ≤ q) s s.heap := by
    intro f
    refine vk_S_eq (fun i hi => ?_) (fun i hi => ?_) vs1
    · match i, hi with
      | 0, _ => rfl
      | 1, _ => rfl
      | i + 2, hi => exact absurd hi (by omega)
    · match i, hi with
      | 0, _ => rfl
      | 1, _ => rfl
      | i + 2, hi => exact absurd hi (by omega)
  rcases vz3 with vz3 | ⟨f, vz3⟩
  · exact ⟨vat b t (ak 0) (ak 1) (av 0) (av 1) 0, rfl, vz1, vt2, vse 0, ⟨vr1, vr2⟩, vz2, Or.inl vz3⟩
  · exact ⟨vat b t (ak 0) (ak 1) (av 0) (av 1) f, rfl, vz1, vt2, vse f, ⟨vr1, vr2⟩, vz2, Or.inr vz3⟩
/-- the classes and the arrays that the tables know, at the law's entry -/
theorem start_K {s : State} {b : Nat} (htg : ∀ w ∈ lg, w.before #[Value.ref b] s = true) (hst : lSt s) : ∃ (D : va_G) (aC : FieldType → ClassId), va_K D vwCl (tyL aC) s := by
  have h1 : ∀ c : Nat, ∃ x : ClassId × (Nat → Nat), ∀ q, vwCl[c]? = some q → u_Kn s q.1 q.2.1 q.2.2 x.1 x.2 := by
    intro c
    cases hq : vwCl[c]? with
    | none => exact ⟨(0, fun _ => 0), fun q h => by cases h⟩
    | some q =>
      obtain ⟨C, T, N⟩ := q
      obtain ⟨-, -, -, -, hin, hi, -⟩ := clOK hq
      obtain ⟨cC, iS, hk⟩ := u_known (C := C) (T := T) (N := N) (n := N) htg hin (htg _ hi)
      exact ⟨(cC, iS), fun q h => by cases h; exact hk⟩
  obtain ⟨FC, hFC⟩ := Classical.axiomOfChoice h1
  have hp : ∀ t : FieldType, (∃ n, t = .object n) ∨ (Cond.arrayClass t).before #[Value.ref b] s = true → (∀ n, t = .object n → (Cond.arrayOver (.object n)).before #[] s = true) → ∃ cA : ClassId, ArrOfT s cA t ∧ va_RA s cA t := by
    intro t h ho
    rcases h with ⟨n, rfl⟩ | h
    · obtain ⟨comp, cA, kA, hcomp, hidx, hk, hkind, hname⟩ := Cond.arrayOver_spec (ho n rfl)
      exact ⟨cA, fun _ z => ⟨fun k h => (by cases h), kA, hk, comp, hkind⟩, kA, comp, hk, hkind, hcomp, hname⟩
    · cases t with
      | object n =>
        obtain ⟨comp, cA, kA, hcomp, hidx, hk, hkind, hname⟩ := Cond.arrayOver_spec (ho n rfl)
        exact ⟨cA, fun _ z => ⟨fun k h => (by cases h), kA, hk, comp, hkind⟩, kA, comp, hk, hkind, hcomp, hname⟩
      | _ =>
        obtain ⟨cA, kA, comp, hfind, hk, hkind⟩ := Cond.arrayClass_spec h
        exact ⟨cA, fun _ z => ⟨fun k h => (by cases h), kA, hk, comp, hkind⟩, hfind⟩
  have h2 : ∀ t : FieldType, ∃ cA : ClassId, t ∈ lTys → ArrOfT s cA t ∧ va_RA s cA t := by
    intro t
    by_cases ht : t ∈ lTys
    · have hc : (∃ n, t = .object n) ∨ (Cond.arrayClass t).before #[Value.ref b] s = true := by
        simp only [lTys, List.mem_cons, List.not_mem_nil, or_false] at ht
        rcases ht with rfl | rfl | rfl | rfl | rfl
        · exact Or.inr (htg _ lgInt)
        · exact Or.inr (htg _ lgBool)
        · exact Or.inr (htg _ lgLong)
        · exact Or.inl ⟨_, rfl⟩
        · exact Or.inl ⟨_, rfl⟩
      obtain ⟨cA, h⟩ := hp t hc (fun n e => by
        subst e
        simp only [lTys, List.mem_cons, List.not_mem_nil, or_false, FieldType.object.injEq, reduceCtorEq, false_or] at ht
        rcases ht with rfl | rfl
        · exact hst.1
        · exact hst.2.1)
      exact ⟨cA, fun _ => h⟩
    · exact ⟨0, fun h => absurd h ht⟩
  obtain ⟨aC, haC⟩ := Classical.axiomOfChoice h2
  refine ⟨(fun c => (FC c).1, fun c => (FC c).2), aC, fun c q h => hFC c q h, fun k q h => ?_⟩
  unfold tyL at h
  rw [List.getElem?_map] at h
  cases ht : lTys[k]? with
  | none => rw [ht] at h; cases h
  | some t =>
    rw [ht] at h
    cases h
    exact haC t (List.mem_of_getElem? ht)
set_option maxRecDepth 100000 in
theorem lTbl_AO : Cond.arrayOver (.object RX9) ∈ lw_tbl ∧ Cond.arrayOver (.object RX11) ∈ lw_tbl := ⟨List.mem_of_getElem? (i := 278) (by decide +kernel), List.mem_of_getElem? (i := 391) (by decide +kernel)⟩
set_option maxRecDepth 100000 in
theorem lTbl_Nw : ∀ q ∈ [(RX4, 109), (RX1, 133), (RX8, 159)], Cond.methodLinkNest q.1 q.2 yX12_isLetter RX12 ∈ lw_tbl := by
  intro q hq
  simp only [List.mem_cons, List.not_mem_nil, or_false] at hq
  rcases hq with rfl | rfl | rfl
  · exact List.mem_of_getElem? (i := 1413) (by decide +kernel)
  · exact List.mem_of_getElem? (i := 1173) (by decide +kernel)
  · exact List.mem_of_getElem? (i := 909) (by decide +kernel)
theorem lawB : mB 322 = code := rfl
theorem lawR : mR 322 = ret := rfl
