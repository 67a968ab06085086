/-! the reader: what isn't a law -/
set_option maxRecDepth 10000 in
set_option maxHeartbeats 40000000 in
theorem C_X13_need {P : Par} {g : LH} {d : Nat}  (V : InvR P g) (x1 : Int64) (hq0 : 0 ≤ (Gi g 355 12).toInt) (hq1 : (Gi g 355 12).toInt ≤ (Gi g 355 11).toInt) (hq2 : (Gi g 355 11).toInt ≤ (Gi g 355 8).toInt) (hq3 : (Gi g 355 8).toInt ≤ 300) (hq4 : (Gi g 355 13).toInt = 0 ∨ (Gi g 355 12).toInt < (Gi g 355 11).toInt)  : LW 225 (d + 9) 0 0 0 (lEnt (mL 225) [.ref 355, .long x1]) [] g (fun v g' => ∃ r : Int32, v = some (.int r) ∧ 0 ≤ r.toInt ∧ r.toInt ≤ 1 ∧ InvR P g' ∧ Gr g' = Gr g ∧ vSm vsa g' g ∧ (r.toInt = 0 → (((Gi g 355 12).toInt < (Gi g' 355 12).toInt) ∧ (0 ≤ (Gi g' 355 12).toInt) ∧ ((Gi g' 355 12).toInt ≤ (Gi g' 355 11).toInt) ∧ ((Gi g' 355 11).toInt ≤ (Gi g' 355 8).toInt) ∧ ((Gi g' 355 8).toInt ≤ 300) ∧ ((Gi g' 355 13).toInt = 0 ∨ (Gi g' 355 12).toInt < (Gi g' 355 11).toInt)))) := by
  refine LW_ls (ls' := [some (.ref 355), some (.long x1), none]) rfl ?_
  have hG : Gr g = Gr g := rfl
  have hF : vSm vsa g g := vSm.refl
  obtain ⟨vz1, evz1⟩ : ∃ z, Gi g 355 12 = z := ⟨_, rfl⟩
  rw [evz1] at hq0
  rw [evz1] at hq1
  obtain ⟨vz2, evz2⟩ : ∃ z, Gi g 355 11 = z := ⟨_, rfl⟩
  rw [evz2] at hq1
  rw [evz2] at hq2
  obtain ⟨vz3, evz3⟩ : ∃ z, Gi g 355 8 = z := ⟨_, rfl⟩
  have vf4 := O_355_8 (V.2.2.2.2.2.2.1 355 (8) (Nat.le_of_ble_eq_true rfl))
  rw [evz3] at vf4
  rw [evz3] at hq2
  rw [evz3] at hq3
  obtain ⟨vz5, evz5⟩ : ∃ z, Gi g 355 13 = z := ⟨_, rfl⟩
  rw [evz5] at hq4
  rw [evz1] at hq4
  rw [evz2] at hq4
  have vo355_12 : (Gi g 355 12).toInt = vz1.toInt := congrArg Int32.toInt evz1
  refine X_aload_n rfl rfl rfl rfl ?_
  refine X_lload_n rfl rfl rfl rfl ?_
  refine Y_callV (as := [.long x1]) (st := []) rfl rfl rfl (by decide) rfl (Nat.le_of_ble_eq_true rfl) (by decide) (Nat.le_of_ble_eq_true rfl) rfl ((congrFun V.1 355).trans s_355) (by decide) (C_X13_isWord V x1 ) ?_
  rintro _ g' ⟨vr6, rfl, hrvr60, hrvr61, hgg, vq7⟩
  subst hgg
  rw [evz5] at vq7
  refine S_if_ne (tgt := 10) rfl rfl rfl rfl (fun vh8 => ?_) (fun vh8 => ?_)
  · refine X_aload_n rfl rfl rfl rfl ?_
    have vo355_11 : (Gi g 355 11).toInt = vz2.toInt := congrArg Int32.toInt evz2
    refine Y_callV (as := []) (st := []) rfl rfl rfl (by decide) rfl (Nat.le_of_ble_eq_true rfl) (by decide) (Nat.le_of_ble_eq_true rfl) rfl ((congrFun V.1 355).trans s_355) (by decide) (C_X13_nextToken V  (by rw [evz2] <;> omega) (by rw [evz2, evz3] <;> omega) (by rw [evz3] <;> omega)) ?_
    rintro _ g ⟨rfl, V, hq, chF, vq10, vq11, vq12, vq13, vq14, vq15⟩
    have hG := hq.trans hG
    have evz3 := (chF 355 8 (by decide)).trans evz3
    have hF := vSm.tr chF (vi_ vsa) hF
    obtain ⟨vz16, evz16⟩ : ∃ z, Gi g 355 12 = z := ⟨_, rfl⟩
    rw [evz16] at vq10
    rw [evz16] at vq11
    rw [evz16] at vq12
    obtain ⟨vz17, evz17⟩ : ∃ z, Gi g 355 11 = z := ⟨_, rfl⟩
    rw [evz17] at vq12
    rw [evz17] at vq13
    rw [evz3] at vq13
    rw [evz3] at vq14
    obtain ⟨vz18, evz18⟩ : ∃ z, Gi g 355 13 = z := ⟨_, rfl⟩
    rw [evz18] at vq15
    rw [evz16] at vq15
    rw [evz17] at vq15
    refine X_iconst (v := (0 : Int32)) rfl rfl rfl ?_
    exact LW_ireturn (st := []) rfl rfl rfl ⟨_, rfl, by decide, by decide, V, hG, hF, (by have vkr := (show (0 : Int32).toInt = 0 from rfl); rw [evz16, evz17, evz3, evz18] <;> omega)⟩
  · refine X_iconst (v := (1 : Int32)) rfl rfl rfl ?_
    exact LW_ireturn (st := []) rfl rfl rfl ⟨_, rfl, by decide, by decide, V, hG, hF, (by have vkr := (show (1 : Int32).toInt = 1 from rfl); rw [evz1, evz2, evz3, evz5] <;> omega)⟩
set_option maxRecDepth 10000 in
set_option maxHeartbeats 40000000 in
theorem C_X13_figure {P : Par} {g : LH} {d : Nat}  (V : InvR P g) (x1 : Int32) (y1 : Int) (hx1 : x1.toInt = y1) (hf1 : 1 ≤ y1 ∧ y1 ≤ 2893) (x2 : Int32) (y2 : Int) (hx2 : x2.toInt = y2) (hf2 : 0 ≤ y2 ∧ y2 ≤ 1) (x3 : Int32) (y3 : Int) (hx3 : x3.toInt = y3) (hf3 : 7 ≤ y3 ∧ y3 ≤ 99) (hq0 : 0 ≤ (Gi g 355 12).toInt) (hq1 : (Gi g 355 12).toInt ≤ (Gi g 355 11).toInt) (hq2 : (Gi g 355 11).toInt ≤ (Gi g 355 8).toInt) (hq3 : (Gi g 355 8).toInt ≤ 300) (hq4 : (Gi g 355 13).toInt = 0 ∨ (Gi g 355 12).toInt < (Gi g 355 11).toInt) (hq5 : 873 * (Gi g 356 4).toInt ≤ y1) (hq6 : ∀ v : Int, y2 ≤ v → v ≤ y3 → okT (Int.toNat (y1)) v)  : LW 223 (d + 9) 0 0 0 (lEnt (mL 223) [.ref 355, .int x1, .int x2, .int x3]) [] g (fun v g' => ∃ r : Int32, v = some (.int r) ∧ 0 ≤ r.toInt ∧ r.toInt ≤ 2 ∧ InvR P g' ∧ Gr g' = Gr g ∧ (vSm vse g' g ∧ vX1 y1 g' g) ∧ (r.toInt = 0 → (((Gi g 355 12).toInt < (Gi g' 355 12).toInt) ∧ (0 ≤ (Gi g' 355 12).toInt) ∧ ((Gi g' 355 12).toInt ≤ (Gi g' 355 11).toInt) ∧ ((Gi g' 355 11).toInt ≤ (Gi g' 355 8).toInt) ∧ ((Gi g' 355 8).toInt ≤ 300) ∧ ((Gi g' 355 13).toInt = 0 ∨ (Gi g' 355 12).toInt < (Gi g' 355 11).toInt)))) := by
  refine LW_ls (ls' := [some (.ref 355), some (.int x1), some (.int x2), some (.int x3)]) rfl ?_
  have hG : Gr g = Gr g := rfl
  have hF : (vSm vse g g ∧ vX1 y1 g g) := And.intro vSm.refl vX1.refl
  obtain ⟨vz1, evz1⟩ : ∃ z, Gi g 355 12 = z := ⟨_, rfl⟩
  rw [evz1] at hq0
  rw [evz1] at hq1
  obtain ⟨vz2, evz2⟩ : ∃ z, Gi g 355 11 = z := ⟨_, rfl⟩
  rw [evz2] at hq1
  rw [evz2] at hq2
  obtain ⟨vz3, evz3⟩ : ∃ z, Gi g 355 8 = z := ⟨_, rfl⟩
  have vf4 := O_355_8 (V.2.2.2.2.2.2.1 355 (8) (Nat.le_of_ble_eq_true rfl))
  rw [evz3] at vf4
  rw [evz3] at hq2
  rw [evz3] at hq3
  obtain ⟨vz5, evz5⟩ : ∃ z, Gi g 355 13 = z := ⟨_, rfl⟩
  rw [evz5] at hq4
  rw [evz1] at hq4
  rw [evz2] at hq4
  obtain ⟨vz6, evz6⟩ : ∃ z, Gi g 356 4 = z := ⟨_, rfl⟩
  have vf7 := A_TEXTS (V.2.2.2.1 (4)) (by omega)
  rw [evz6] at vf7
  rw [evz6] at hq5
  have vo355_12 : (Gi g 355 12).toInt = vz1.toInt := congrArg Int32.toInt evz1
  refine X_aload_n rfl rfl rfl rfl ?_
  refine X_getI (v := vz5) rfl rfl rfl ((congrFun V.1 355).trans s_355) rfl evz5 ?_
  refine X_iconst (v := (1 : Int32)) rfl rfl rfl ?_
  refine S_icmp_eq (tgt := 10) rfl rfl rfl rfl (show (1 : Int32).toInt = 1 from rfl) (fun vh8 => ?_) (fun vh8 => ?_)
  · refine X_aload_n rfl rfl rfl rfl ?_
    refine S_getI rfl rfl rfl ((congrFun V.1 355).trans s_355) rfl (fun vz9 evz9 => ?_)
    refine X_iload_n rfl rfl rfl rfl ?_
    refine X_iload_n rfl rfl rfl rfl ?_
    refine X_callS (as := [.int vz9, .int x2, .int x3]) (st := []) rfl rfl rfl (by decide) rfl (Nat.le_of_ble_eq_true rfl) (by decide) (Nat.le_of_ble_eq_true rfl) rfl ?_
    refine LW_ls (ls' := [some (.int vz9), some (.int x2), some (.int x3)]) rfl ?_
    refine X_iload_n rfl rfl rfl rfl ?_
    refine X_iload_n rfl rfl rfl rfl ?_
    refine S_icmp_lt (tgt := 14) rfl rfl rfl rfl hx2 (fun vh10 => ?_) (fun vh10 => ?_)
    · refine X_iconst (v := (0 : Int32)) rfl rfl rfl ?_
      refine LW_ireturn (st := []) rfl rfl rfl ?_
      refine S_if_ne (tgt := 24) rfl rfl rfl (show (0 : Int32).toInt = 0 from rfl) (fun q => absurd q (by omega)) (fun vh11 => ?_)
      refine X_iconst (v := (2 : Int32)) rfl rfl rfl ?_
      exact LW_ireturn (st := []) rfl rfl rfl ⟨_, rfl, by decide, by decide, V, hG, hF, (by have vkr := (show (2 : Int32).toInt = 2 from rfl); rw [evz1, evz2, evz3, evz5] <;> omega)⟩
    · refine X_iload_n rfl rfl rfl rfl ?_
      refine X_iload_n rfl rfl rfl rfl ?_
      refine S_icmp_gt (tgt := 14) rfl rfl rfl rfl hx3 (fun vh12 => ?_) (fun vh12 => ?_)
      · refine X_iconst (v := (0 : Int32)) rfl rfl rfl ?_
        refine LW_ireturn (st := []) rfl rfl rfl ?_
        refine S_if_ne (tgt := 24) rfl rfl rfl (show (0 : Int32).toInt = 0 from rfl) (fun q => absurd q (by omega)) (fun vh13 => ?_)
        refine X_iconst (v := (2 : Int32)) rfl rfl rfl ?_
        exact LW_ireturn (st := []) rfl rfl rfl ⟨_, rfl, by decide, by decide, V, hG, hF, (by have vkr := (show (2 : Int32).toInt = 2 from rfl); rw [evz1, evz2, evz3, evz5] <;> omega)⟩
      · refine X_iconst (v := (1 : Int32)) rfl rfl rfl ?_
        refine LW_goto (tgt := 15) rfl rfl ?_
        refine LW_ireturn (st := []) rfl rfl rfl ?_
        refine S_if_ne (tgt := 24) rfl rfl rfl (show (1 : Int32).toInt = 1 from rfl) (fun vh14 => ?_) (fun q => absurd q (by omega))
        refine X_aload_n rfl rfl rfl rfl ?_
        refine X_getR (a := 358) rfl rfl rfl ((congrFun V.1 355).trans s_355) rfl ((congrFun (V.2.1 355 (by decide)) 2).trans r_355_2) ?_
        refine X_iload_n rfl rfl rfl rfl ?_
        refine X_aload_n rfl rfl rfl rfl ?_
        refine X_getI (v := vz9) rfl rfl rfl ((congrFun V.1 355).trans s_355) rfl evz9 ?_
        refine S_iast (I := InvR _) rfl rfl ((congrFun V.1 358).trans s_358) hx1 (by omega) (InvR_putX V (by rw [evz6] <;> omega) (hq6 _ (by omega) (by omega))) (fun g V ve15 vn16 hq => ?_)
        have hG := hq.trans hG
        have hF := And.intro (vSm.putN hF.1 vn16 (by unfold vse; omega)) (vX1.put hF.2 vn16 (by omega))
        have evz1 := (vn16 (355) 12 (Or.inl (by decide))).trans evz1
        have evz2 := (vn16 (355) 11 (Or.inl (by decide))).trans evz2
        have evz3 := (vn16 (355) 8 (Or.inl (by decide))).trans evz3
        have evz5 := (vn16 (355) 13 (Or.inl (by decide))).trans evz5
        have evz6 := (vn16 (356) 4 (Or.inl (by decide))).trans evz6
        have evz9 := (vn16 (355) 14 (Or.inl (by decide))).trans evz9
        refine X_aload_n rfl rfl rfl rfl ?_
        have vo355_11 : (Gi g 355 11).toInt = vz2.toInt := congrArg Int32.toInt evz2
        refine Y_callV (as := []) (st := []) rfl rfl rfl (by decide) rfl (Nat.le_of_ble_eq_true rfl) (by decide) (Nat.le_of_ble_eq_true rfl) rfl ((congrFun V.1 355).trans s_355) (by decide) (C_X13_nextToken V  (by rw [evz2] <;> omega) (by rw [evz2, evz3] <;> omega) (by rw [evz3] <;> omega)) ?_
        rintro _ g ⟨rfl, V, hq, chF, vq18, vq19, vq20, vq21, vq22, vq23⟩
        have hG := hq.trans hG
        have evz3 := (chF 355 8 (by decide)).trans evz3
        have evz6 := (chF 356 4 (by decide)).trans evz6
        have hF := And.intro (vSm.tr chF vi_ea hF.1) (vX1.oth hF.2 (fun k => chF 358 k (Or.inl (by decide))))
        obtain ⟨vz24, evz24⟩ : ∃ z, Gi g 355 12 = z := ⟨_, rfl⟩
        rw [evz24] at vq18
        rw [evz24] at vq19
        rw [evz24] at vq20
        obtain ⟨vz25, evz25⟩ : ∃ z, Gi g 355 11 = z := ⟨_, rfl⟩
        rw [evz25] at vq20
        rw [evz25] at vq21
        rw [evz3] at vq21
        rw [evz3] at vq22
        obtain ⟨vz26, evz26⟩ : ∃ z, Gi g 355 13 = z := ⟨_, rfl⟩
        rw [evz26] at vq23
        rw [evz24] at vq23
        rw [evz25] at vq23
        refine X_iconst (v := (0 : Int32)) rfl rfl rfl ?_
        exact LW_ireturn (st := []) rfl rfl rfl ⟨_, rfl, by decide, by decide, V, hG, hF, (by have vkr := (show (0 : Int32).toInt = 0 from rfl); rw [evz24, evz25, evz3, evz26] <;> omega)⟩
  · refine X_iconst (v := (1 : Int32)) rfl rfl rfl ?_
    exact LW_ireturn (st := []) rfl rfl rfl ⟨_, rfl, by decide, by decide, V, hG, hF, (by have vkr := (show (1 : Int32).toInt = 1 from rfl); rw [evz1, evz2, evz3, evz5] <;> omega)⟩
set_option maxRecDepth 10000 in
set_option maxHeartbeats 40000000 in
theorem C_X13_letters_22 {P : Par} {vgx : Int} {g g0 : LH} {d n : Nat}  (V : InvR P g) (hG : Gr g = Gr g0) (hF : (vSm vse g g0 ∧ vX1 vgx g g0)) (x1 : Int32) (y1 : Int) (hx1 : x1.toInt = y1) (hf1 : 1 ≤ y1 ∧ y1 ≤ 2893) (x2 : Int32) (y2 : Int) (hx2 : x2.toInt = y2) (hf2 : 0 ≤ y2 ∧ y2 ≤ 300) (x3 : Int32) (y3 : Int) (hx3 : x3.toInt = y3) (hf3 : 0 ≤ y3 ∧ y3 ≤ 300) (o4 : Option Value) (hq0 : 0 ≤ (Gi g 355 12).toInt) (hq1 : (Gi g 355 12).toInt ≤ (Gi g 355 11).toInt) (hq2 : (Gi g 355 11).toInt ≤ (Gi g 355 8).toInt) (hq3 : (Gi g 355 8).toInt ≤ 300) (hq4 : (Gi g 355 12).toInt < (Gi g 355 11).toInt) (hq5 : 873 * (Gi g 356 4).toInt ≤ y1) (hq6 : ∀ v : Int, okT (Int.toNat (y1)) v) (hq7 : (Gi g 355 12).toInt = (Gi g0 355 12).toInt) (hq8 : y2 = (Gi g 355 11).toInt - (Gi g 355 12).toInt) (hq9 : ∀ k : Nat, ↑k < y3 → 97 ≤ (Gi g 361 (Int.toNat ((Gi g 355 12).toInt + ↑k))).toInt ∧ (Gi g 361 (Int.toNat ((Gi g 355 12).toInt + ↑k))).toInt ≤ 122) (hq10 : y1 = vgx) (hmu : (300 - y3) * 1 + 10 < (n : Int) + 1) (ih22 : ∀ (g : LH) (V : InvR P g) (hG : Gr g = Gr g0) (hF : (vSm vse g g0 ∧ vX1 vgx g g0)) (x1 : Int32) (y1 : Int) (hx1 : x1.toInt = y1) (hf1 : 1 ≤ y1 ∧ y1 ≤ 2893) (x2 : Int32) (y2 : Int) (hx2 : x2.toInt = y2) (hf2 : 0 ≤ y2 ∧ y2 ≤ 300) (x3 : Int32) (y3 : Int) (hx3 : x3.toInt = y3) (hf3 : 0 ≤ y3 ∧ y3 ≤ 300) (o4 : Option Value) (hq0 : 0 ≤ (Gi g 355 12).toInt) (hq1 : (Gi g 355 12).toInt ≤ (Gi g 355 11).toInt) (hq2 : (Gi g 355 11).toInt ≤ (Gi g 355 8).toInt) (hq3 : (Gi g 355 8).toInt ≤ 300) (hq4 : (Gi g 355 12).toInt < (Gi g 355 11).toInt) (hq5 : 873 * (Gi g 356 4).toInt ≤ y1) (hq6 : ∀ v : Int, okT (Int.toNat (y1)) v) (hq7 : (Gi g 355 12).toInt = (Gi g0 355 12).toInt) (hq8 : y2 = (Gi g 355 11).toInt - (Gi g 355 12).toInt) (hq9 : ∀ k : Nat, ↑k < y3 → 97 ≤ (Gi g 361 (Int.toNat ((Gi g 355 12).toInt + ↑k))).toInt ∧ (Gi g 361 (Int.toNat ((Gi g 355 12).toInt + ↑k))).toInt ≤ 122) (hq10 : y1 = vgx), (300 - y3) * 1 + 10 < (n : Int) → LW 224 (d + 9) 0 0 22 [some (.ref 355), some (.int x1), some (.int x2), some (.int x3), o4] [] g (fun v g' => ∃ r : Int32, v = some (.int r) ∧ 0 ≤ r.toInt ∧ r.toInt ≤ 7 ∧ InvR P g' ∧ Gr g' = Gr g0 ∧ (vSm vse g' g0 ∧ vX1 vgx g' g0) ∧ (r.toInt = 0 → (((Gi g0 355 12).toInt < (Gi g' 355 12).toInt) ∧ (0 ≤ (Gi g' 355 12).toInt) ∧ ((Gi g' 355 12).toInt ≤ (Gi g' 355 11).toInt) ∧ ((Gi g' 355 11).toInt ≤ (Gi g' 355 8).toInt) ∧ ((Gi g' 355 8).toInt ≤ 300) ∧ ((Gi g' 355 13).toInt = 0 ∨ (Gi g' 355 12).toInt < (Gi g' 355 11).toInt))))) (ih75 : ∀ (g : LH) (V : InvR P g) (hG : Gr g = Gr g0) (hF : (vSm vse g g0 ∧ vX1 vgx g g0)) (x1 : Int32) (y1 : Int) (hx1 : x1.toInt = y1) (hf1 : 1 ≤ y1 ∧ y1 ≤ 2893) (x2 : Int32) (y2 : Int) (hx2 : x2.toInt = y2) (hf2 : 0 ≤ y2 ∧ y2 ≤ 8) (x3 : Int32) (y3 : Int) (hx3 : x3.toInt = y3) (x4 : Int32) (y4 : Int) (hx4 : x4.toInt = y4) (hf4 : 0 ≤ y4 ∧ y4 ≤ 8) (hq0 : 0 ≤ (Gi g 355 12).toInt) (hq1 : (Gi g 355 12).toInt ≤ (Gi g 355 11).toInt) (hq2 : (Gi g 355 11).toInt ≤ (Gi g 355 8).toInt) (hq3 : (Gi g 355 8).toInt ≤ 300) (hq4 : (Gi g 355 12).toInt < (Gi g 355 11).toInt) (hq5 : 873 * (Gi g 356 4).toInt ≤ y1) (hq6 : ∀ v : Int, okT (Int.toNat (y1)) v) (hq7 : (Gi g 355 12).toInt = (Gi g0 355 12).toInt) (hq8 : y2 = (Gi g 355 11).toInt - (Gi g 355 12).toInt) (hq9 : ∀ k : Nat, ↑k < y2 → 97 ≤ (Gi g 361 (Int.toNat ((Gi g 355 12).toInt + ↑k))).toInt ∧ (Gi g 361 (Int.toNat ((Gi g 355 12).toInt + ↑k))).toInt ≤ 122) (hq10 : y1 = vgx), (8 - y4) * 1 + 0 < (n : Int) → LW 224 (d + 9) 0 0 75 [some (.ref 355), some (.int x1), some (.int x2), some (.int x3), some (.int x4)] [] g (fun v g' => ∃ r : Int32, v = some (.int r) ∧ 0 ≤ r.toInt ∧ r.toInt ≤ 7 ∧ InvR P g' ∧ Gr g' = Gr g0 ∧ (vSm vse g' g0 ∧ vX1 vgx g' g0) ∧ (r.toInt = 0 → (((Gi g0 355 12).toInt < (Gi g' 355 12).toInt) ∧ (0 ≤ (Gi g' 355 12).toInt) ∧ ((Gi g' 355 12).toInt ≤ (Gi g' 355 11).toInt) ∧ ((Gi g' 355 11).toInt ≤ (Gi g' 355 8).toInt) ∧ ((Gi g' 355 8).toInt ≤ 300) ∧ ((Gi g' 355 13).toInt = 0 ∨ (Gi g' 355 12).toInt < (Gi g' 355 11).toInt))))) : LW 224 (d + 9) 0 0 22 [some (.ref 355), some (.int x1), some (.int x2), some (.int x3), o4] [] g (fun v g' => ∃ r : Int32, v = some (.int r) ∧ 0 ≤ r.toInt ∧ r.toInt ≤ 7 ∧ InvR P g' ∧ Gr g' = Gr g0 ∧ (vSm vse g' g0 ∧ vX1 vgx g' g0) ∧ (r.toInt = 0 → (((Gi g0 355 12).toInt < (Gi g' 355 12).toInt) ∧ (0 ≤ (Gi g' 355 12).toInt) ∧ ((Gi g' 355 12).toInt ≤ (Gi g' 355 11).toInt) ∧ ((Gi g' 355 11).toInt ≤ (Gi g' 355 8).toInt) ∧ ((Gi g' 355 8).toInt ≤ 300) ∧ ((Gi g' 355 13).toInt = 0 ∨ (Gi g' 355 12).toInt < (Gi g' 355 11).toInt)))) := by
  obtain ⟨vz1, evz1⟩ : ∃ z, Gi g 355 12 = z := ⟨_, rfl⟩
  rw [evz1] at hq0
  rw [evz1] at hq1
  obtain ⟨vz2, evz2⟩ : ∃ z, Gi g 355 11 = z := ⟨_, rfl⟩
  rw [evz2] at hq1
  rw [evz2] at hq2
  obtain ⟨vz3, evz3⟩ : ∃ z, Gi g 355 8 = z := ⟨_, rfl⟩
  have vf4 := O_355_8 (V.2.2.2.2.2.2.1 355 (8) (Nat.le_of_ble_eq_true rfl))
  rw [evz3] at vf4
  rw [evz3] at hq2
  rw [evz3] at hq3
  rw [evz1] at hq4
  rw [evz2] at hq4
  obtain ⟨vz5, evz5⟩ : ∃ z, Gi g 356 4 = z := ⟨_, rfl⟩
  have vf6 := A_TEXTS (V.2.2.2.1 (4)) (by omega)
  rw [evz5] at vf6
  rw [evz5] at hq5
  rw [evz1] at hq7
  rw [evz2] at hq8
  rw [evz1] at hq8
  rw [evz1] at hq9
  refine X_iload_n rfl rfl rfl rfl ?_
  refine X_iload_n rfl rfl rfl rfl ?_
  refine S_icmp_ge (tgt := 56) rfl rfl rfl hx3 hx2 (fun vh7 => ?_) (fun vh7 => ?_)
  · refine X_iload_n rfl rfl rfl rfl ?_
    refine X_bipush (v := (8 : Int32)) rfl rfl rfl ?_
    refine S_icmp_le (tgt := 65) rfl rfl rfl hx2 (show (8 : Int32).toInt = 8 from rfl) (fun vh8 => ?_) (fun vh8 => ?_)
    · refine X_aload_n rfl rfl rfl rfl ?_
      refine X_iload_n rfl rfl rfl rfl ?_
      refine S_putI (I := InvR _) rfl rfl rfl ((congrFun V.1 355).trans s_355) rfl rfl rfl rfl (InvR_putO V (by decide) (show okO 355 _ _ from (show 0 ≤ x2.toInt ∧ x2.toInt ≤ 8 by omega))) (fun g V ve9 vn10 hq => ?_)
      have hG := hq.trans hG
      have hF := And.intro (vSm.putN hF.1 vn10 (by decide)) (vX1.oth hF.2 (fun k => vn10 358 k (Or.inl (by decide))))
      have evz1 := (vn10 (355) 12 (Or.inr (by decide))).trans evz1
      have evz2 := (vn10 (355) 11 (Or.inr (by decide))).trans evz2
      have evz3 := (vn10 (355) 8 (Or.inr (by decide))).trans evz3
      have evz5 := (vn10 (356) 4 (Or.inl (by decide))).trans evz5
      refine X_iconst (v := (0 : Int32)) rfl rfl rfl ?_
      refine X_istore_n (i := 3) (ls' := [some (.ref 355), some (.int x1), some (.int x2), some (.int (0 : Int32)), o4]) rfl rfl rfl (Nat.le_of_ble_eq_true rfl) rfl ?_
      refine X_iconst (v := (0 : Int32)) rfl rfl rfl ?_
      refine X_istore (i := 4) (ls' := [some (.ref 355), some (.int x1), some (.int x2), some (.int (0 : Int32)), some (.int (0 : Int32))]) rfl rfl (Nat.le_of_ble_eq_true rfl) rfl ?_
      exact ih75 _ V hG hF x1 y1 hx1 (by omega) x2 y2 hx2 (by omega) (0 : Int32) 0 (show (0 : Int32).toInt = 0 from rfl) (0 : Int32) 0 (show (0 : Int32).toInt = 0 from rfl) (by omega)  (by rw [evz1] <;> omega) (by rw [evz1, evz2] <;> omega) (by rw [evz2, evz3] <;> omega) (by rw [evz3] <;> omega) (by rw [evz1, evz2] <;> omega) (by rw [evz5] <;> omega) (hq6) (by rw [evz1] <;> omega) (by rw [evz2, evz1] <;> omega) (by rw [evz1]; exact (by
            intro k hk
            rw [vn10 361 _ (Or.inl (by decide))]
            exact hq9 k (by omega))) (by omega)  (by omega)
    · refine X_bipush (v := (7 : Int32)) rfl rfl rfl ?_
      exact LW_ireturn (st := []) rfl rfl rfl ⟨_, rfl, by decide, by decide, V, hG, hF, (by have vkr := (show (7 : Int32).toInt = 7 from rfl); rw [evz1, evz2, evz3] <;> omega)⟩
  · refine X_aload_n rfl rfl rfl rfl ?_
    refine X_aload_n rfl rfl rfl rfl ?_
    refine X_getI (v := vz1) rfl rfl rfl ((congrFun V.1 355).trans s_355) rfl evz1 ?_
    refine X_iload_n rfl rfl rfl rfl ?_
    refine S_iadd rfl rfl rfl hx3 (by omega) (fun vz11 hvz11 => ?_)
    refine X_callV (as := [.int vz11]) (st := []) rfl rfl rfl (by decide) rfl (Nat.le_of_ble_eq_true rfl) (by decide) (Nat.le_of_ble_eq_true rfl) rfl ((congrFun V.1 355).trans s_355) (by decide) ?_
    refine LW_ls (ls' := [some (.ref 355), some (.int vz11)]) rfl ?_
    refine X_iload_n rfl rfl rfl rfl ?_
    refine X_aload_n rfl rfl rfl rfl ?_
    refine X_getI (v := vz3) rfl rfl rfl ((congrFun V.1 355).trans s_355) rfl evz3 ?_
    refine S_icmp_ge (tgt := 17) rfl rfl rfl rfl rfl (fun vh12 => ?_) (fun vh12 => ?_)
    · refine X_iconst (v := (-1 : Int32)) rfl rfl rfl ?_
      refine LW_ireturn (st := []) rfl rfl rfl ?_
      refine X_bipush (v := (97 : Int32)) rfl rfl rfl ?_
      refine X_bipush (v := (122 : Int32)) rfl rfl rfl ?_
      refine X_callS (as := [.int (-1 : Int32), .int (97 : Int32), .int (122 : Int32)]) (st := []) rfl rfl rfl (by decide) rfl (Nat.le_of_ble_eq_true rfl) (by decide) (Nat.le_of_ble_eq_true rfl) rfl ?_
      refine LW_ls (ls' := [some (.int (-1 : Int32)), some (.int (97 : Int32)), some (.int (122 : Int32))]) rfl ?_
      refine X_iload_n rfl rfl rfl rfl ?_
      refine X_iload_n rfl rfl rfl rfl ?_
      refine S_icmp_lt (tgt := 14) rfl rfl rfl (show (-1 : Int32).toInt = -1 from rfl) (show (97 : Int32).toInt = 97 from rfl) (fun vh13 => ?_) (fun q => absurd q (by omega))
      refine X_iconst (v := (0 : Int32)) rfl rfl rfl ?_
      refine LW_ireturn (st := []) rfl rfl rfl ?_
      refine S_if_ne (tgt := 50) rfl rfl rfl (show (0 : Int32).toInt = 0 from rfl) (fun q => absurd q (by omega)) (fun vh14 => ?_)
      refine X_bipush (v := (7 : Int32)) rfl rfl rfl ?_
      exact LW_ireturn (st := []) rfl rfl rfl ⟨_, rfl, by decide, by decide, V, hG, hF, (by have vkr := (show (7 : Int32).toInt = 7 from rfl); rw [evz1, evz2, evz3] <;> omega)⟩
    · refine X_aload_n rfl rfl rfl rfl ?_
      refine X_getR (a := 361) rfl rfl rfl ((congrFun V.1 355).trans s_355) rfl ((congrFun (V.2.1 355 (by decide)) 7).trans r_355_7) ?_
      refine X_iload_n rfl rfl rfl rfl ?_
      refine S_iald rfl rfl ((congrFun V.1 361).trans s_361) rfl (by omega) (fun vz15 evz15 => ?_)
      have vf16 := O_361 (V.2.2.2.2.2.2.1 361 ((vz11.toInt : Int).toNat) (Nat.le_of_ble_eq_true rfl))
      rw [evz15] at vf16
      refine LW_goto (tgt := 18) rfl rfl ?_
      refine LW_ireturn (st := []) rfl rfl rfl ?_
      refine X_bipush (v := (97 : Int32)) rfl rfl rfl ?_
      refine X_bipush (v := (122 : Int32)) rfl rfl rfl ?_
      refine X_callS (as := [.int vz15, .int (97 : Int32), .int (122 : Int32)]) (st := []) rfl rfl rfl (by decide) rfl (Nat.le_of_ble_eq_true rfl) (by decide) (Nat.le_of_ble_eq_true rfl) rfl ?_
      refine LW_ls (ls' := [some (.int vz15), some (.int (97 : Int32)), some (.int (122 : Int32))]) rfl ?_
      refine X_iload_n rfl rfl rfl rfl ?_
      refine X_iload_n rfl rfl rfl rfl ?_
      refine S_icmp_lt (tgt := 14) rfl rfl rfl rfl (show (97 : Int32).toInt = 97 from rfl) (fun vh17 => ?_) (fun vh17 => ?_)
      · refine X_iconst (v := (0 : Int32)) rfl rfl rfl ?_
        refine LW_ireturn (st := []) rfl rfl rfl ?_
        refine S_if_ne (tgt := 50) rfl rfl rfl (show (0 : Int32).toInt = 0 from rfl) (fun q => absurd q (by omega)) (fun vh18 => ?_)
        refine X_bipush (v := (7 : Int32)) rfl rfl rfl ?_
        exact LW_ireturn (st := []) rfl rfl rfl ⟨_, rfl, by decide, by decide, V, hG, hF, (by have vkr := (show (7 : Int32).toInt = 7 from rfl); rw [evz1, evz2, evz3] <;> omega)⟩
      · refine X_iload_n rfl rfl rfl rfl ?_
        refine X_iload_n rfl rfl rfl rfl ?_
        refine S_icmp_gt (tgt := 14) rfl rfl rfl rfl (show (122 : Int32).toInt = 122 from rfl) (fun vh19 => ?_) (fun vh19 => ?_)
        · refine X_iconst (v := (0 : Int32)) rfl rfl rfl ?_
          refine LW_ireturn (st := []) rfl rfl rfl ?_
          refine S_if_ne (tgt := 50) rfl rfl rfl (show (0 : Int32).toInt = 0 from rfl) (fun q => absurd q (by omega)) (fun vh20 => ?_)
          refine X_bipush (v := (7 : Int32)) rfl rfl rfl ?_
          exact LW_ireturn (st := []) rfl rfl rfl ⟨_, rfl, by decide, by decide, V, hG, hF, (by have vkr := (show (7 : Int32).toInt = 7 from rfl); rw [evz1, evz2, evz3] <;> omega)⟩
        · refine X_iconst (v := (1 : Int32)) rfl rfl rfl ?_
          refine LW_goto (tgt := 15) rfl rfl ?_
          refine LW_ireturn (st := []) rfl rfl rfl ?_
          refine S_if_ne (tgt := 50) rfl rfl rfl (show (1 : Int32).toInt = 1 from rfl) (fun vh21 => ?_) (fun q => absurd q (by omega))
          refine S_iinc (c := 1) rfl rfl rfl hx3 rfl (by omega) (fun vz22 hvz22 => ?_)
          refine LW_ls (ls' := [some (.ref 355), some (.int x1), some (.int x2), some (.int vz22), o4]) rfl ?_
          refine LW_goto (tgt := 22) rfl rfl ?_
          exact ih22 _ V hG hF x1 y1 hx1 (by omega) x2 y2 hx2 (by omega) vz22 vz22.toInt rfl (by omega) o4  (by rw [evz1] <;> omega) (by rw [evz1, evz2] <;> omega) (by rw [evz2, evz3] <;> omega) (by rw [evz3] <;> omega) (by rw [evz1, evz2] <;> omega) (by rw [evz5] <;> omega) (hq6) (by rw [evz1] <;> omega) (by rw [evz2, evz1] <;> omega) (by rw [evz1]; exact (by
                intro k hk
                by_cases hk2 : ↑k < y3
                · exact hq9 k hk2
                · rw [show Int.toNat (vz1.toInt + ↑k) = Int.toNat vz11.toInt by omega, evz15]
                  omega)) (by omega)  (by omega)
set_option maxRecDepth 10000 in
set_option maxHeartbeats 40000000 in
theorem C_X13_letters_75 {P : Par} {vgx : Int} {g g0 : LH} {d n : Nat}  (V : InvR P g) (hG : Gr g = Gr g0) (hF : (vSm vse g g0 ∧ vX1 vgx g g0)) (x1 : Int32) (y1 : Int) (hx1 : x1.toInt = y1) (hf1 : 1 ≤ y1 ∧ y1 ≤ 2893) (x2 : Int32) (y2 : Int) (hx2 : x2.toInt = y2) (hf2 : 0 ≤ y2 ∧ y2 ≤ 8) (x3 : Int32) (y3 : Int) (hx3 : x3.toInt = y3) (x4 : Int32) (y4 : Int) (hx4 : x4.toInt = y4) (hf4 : 0 ≤ y4 ∧ y4 ≤ 8) (hq0 : 0 ≤ (Gi g 355 12).toInt) (hq1 : (Gi g 355 12).toInt ≤ (Gi g 355 11).toInt) (hq2 : (Gi g 355 11).toInt ≤ (Gi g 355 8).toInt) (hq3 : (Gi g 355 8).toInt ≤ 300) (hq4 : (Gi g 355 12).toInt < (Gi g 355 11).toInt) (hq5 : 873 * (Gi g 356 4).toInt ≤ y1) (hq6 : ∀ v : Int, okT (Int.toNat (y1)) v) (hq7 : (Gi g 355 12).toInt = (Gi g0 355 12).toInt) (hq8 : y2 = (Gi g 355 11).toInt - (Gi g 355 12).toInt) (hq9 : ∀ k : Nat, ↑k < y2 → 97 ≤ (Gi g 361 (Int.toNat ((Gi g 355 12).toInt + ↑k))).toInt ∧ (Gi g 361 (Int.toNat ((Gi g 355 12).toInt + ↑k))).toInt ≤ 122) (hq10 : y1 = vgx) (hmu : (8 - y4) * 1 + 0 < (n : Int) + 1) (ih22 : ∀ (g : LH) (V : InvR P g) (hG : Gr g = Gr g0) (hF : (vSm vse g g0 ∧ vX1 vgx g g0)) (x1 : Int32) (y1 : Int) (hx1 : x1.toInt = y1) (hf1 : 1 ≤ y1 ∧ y1 ≤ 2893) (x2 : Int32) (y2 : Int) (hx2 : x2.toInt = y2) (hf2 : 0 ≤ y2 ∧ y2 ≤ 300) (x3 : Int32) (y3 : Int) (hx3 : x3.toInt = y3) (hf3 : 0 ≤ y3 ∧ y3 ≤ 300) (o4 : Option Value) (hq0 : 0 ≤ (Gi g 355 12).toInt) (hq1 : (Gi g 355 12).toInt ≤ (Gi g 355 11).toInt) (hq2 : (Gi g 355 11).toInt ≤ (Gi g 355 8).toInt) (hq3 : (Gi g 355 8).toInt ≤ 300) (hq4 : (Gi g 355 12).toInt < (Gi g 355 11).toInt) (hq5 : 873 * (Gi g 356 4).toInt ≤ y1) (hq6 : ∀ v : Int, okT (Int.toNat (y1)) v) (hq7 : (Gi g 355 12).toInt = (Gi g0 355 12).toInt) (hq8 : y2 = (Gi g 355 11).toInt - (Gi g 355 12).toInt) (hq9 : ∀ k : Nat, ↑k < y3 → 97 ≤ (Gi g 361 (Int.toNat ((Gi g 355 12).toInt + ↑k))).toInt ∧ (Gi g 361 (Int.toNat ((Gi g 355 12).toInt + ↑k))).toInt ≤ 122) (hq10 : y1 = vgx), (300 - y3) * 1 + 10 < (n : Int) → LW 224 (d + 9) 0 0 22 [some (.ref 355), some (.int x1), some (.int x2), some (.int x3), o4] [] g (fun v g' => ∃ r : Int32, v = some (.int r) ∧ 0 ≤ r.toInt ∧ r.toInt ≤ 7 ∧ InvR P g' ∧ Gr g' = Gr g0 ∧ (vSm vse g' g0 ∧ vX1 vgx g' g0) ∧ (r.toInt = 0 → (((Gi g0 355 12).toInt < (Gi g' 355 12).toInt) ∧ (0 ≤ (Gi g' 355 12).toInt) ∧ ((Gi g' 355 12).toInt ≤ (Gi g' 355 11).toInt) ∧ ((Gi g' 355 11).toInt ≤ (Gi g' 355 8).toInt) ∧ ((Gi g' 355 8).toInt ≤ 300) ∧ ((Gi g' 355 13).toInt = 0 ∨ (Gi g' 355 12).toInt < (Gi g' 355 11).toInt))))) (ih75 : ∀ (g : LH) (V : InvR P g) (hG : Gr g = Gr g0) (hF : (vSm vse g g0 ∧ vX1 vgx g g0)) (x1 : Int32) (y1 : Int) (hx1 : x1.toInt = y1) (hf1 : 1 ≤ y1 ∧ y1 ≤ 2893) (x2 : Int32) (y2 : Int) (hx2 : x2.toInt = y2) (hf2 : 0 ≤ y2 ∧ y2 ≤ 8) (x3 : Int32) (y3 : Int) (hx3 : x3.toInt = y3) (x4 : Int32) (y4 : Int) (hx4 : x4.toInt = y4) (hf4 : 0 ≤ y4 ∧ y4 ≤ 8) (hq0 : 0 ≤ (Gi g 355 12).toInt) (hq1 : (Gi g 355 12).toInt ≤ (Gi g 355 11).toInt) (hq2 : (Gi g 355 11).toInt ≤ (Gi g 355 8).toInt) (hq3 : (Gi g 355 8).toInt ≤ 300) (hq4 : (Gi g 355 12).toInt < (Gi g 355 11).toInt) (hq5 : 873 * (Gi g 356 4).toInt ≤ y1) (hq6 : ∀ v : Int, okT (Int.toNat (y1)) v) (hq7 : (Gi g 355 12).toInt = (Gi g0 355 12).toInt) (hq8 : y2 = (Gi g 355 11).toInt - (Gi g 355 12).toInt) (hq9 : ∀ k : Nat, ↑k < y2 → 97 ≤ (Gi g 361 (Int.toNat ((Gi g 355 12).toInt + ↑k))).toInt ∧ (Gi g 361 (Int.toNat ((Gi g 355 12).toInt + ↑k))).toInt ≤ 122) (hq10 : y1 = vgx), (8 - y4) * 1 + 0 < (n : Int) → LW 224 (d + 9) 0 0 75 [some (.ref 355), some (.int x1), some (.int x2), some (.int x3), some (.int x4)] [] g (fun v g' => ∃ r : Int32, v = some (.int r) ∧ 0 ≤ r.toInt ∧ r.toInt ≤ 7 ∧ InvR P g' ∧ Gr g' = Gr g0 ∧ (vSm vse g' g0 ∧ vX1 vgx g' g0) ∧ (r.toInt = 0 → (((Gi g0 355 12).toInt < (Gi g' 355 12).toInt) ∧ (0 ≤ (Gi g' 355 12).toInt) ∧ ((Gi g' 355 12).toInt ≤ (Gi g' 355 11).toInt) ∧ ((Gi g' 355 11).toInt ≤ (Gi g' 355 8).toInt) ∧ ((Gi g' 355 8).toInt ≤ 300) ∧ ((Gi g' 355 13).toInt = 0 ∨ (Gi g' 355 12).toInt < (Gi g' 355 11).toInt))))) : LW 224 (d + 9) 0 0 75 [some (.ref 355), some (.int x1), some (.int x2), some (.int x3), some (.int x4)] [] g (fun v g' => ∃ r : Int32, v = some (.int r) ∧ 0 ≤ r.toInt ∧ r.toInt ≤ 7 ∧ InvR P g' ∧ Gr g' = Gr g0 ∧ (vSm vse g' g0 ∧ vX1 vgx g' g0) ∧ (r.toInt = 0 → (((Gi g0 355 12).toInt < (Gi g' 355 12).toInt) ∧ (0 ≤ (Gi g' 355 12).toInt) ∧ ((Gi g' 355 12).toInt ≤ (Gi g' 355 11).toInt) ∧ ((Gi g' 355 11).toInt ≤ (Gi g' 355 8).toInt) ∧ ((Gi g' 355 8).toInt ≤ 300) ∧ ((Gi g' 355 13).toInt = 0 ∨ (Gi g' 355 12).toInt < (Gi g' 355 11).toInt)))) := by
  obtain ⟨vz1, evz1⟩ : ∃ z, Gi g 355 12 = z := ⟨_, rfl⟩
  rw [evz1] at hq0
  rw [evz1] at hq1
  obtain ⟨vz2, evz2⟩ : ∃ z, Gi g 355 11 = z := ⟨_, rfl⟩
  rw [evz2] at hq1
  rw [evz2] at hq2
  obtain ⟨vz3, evz3⟩ : ∃ z, Gi g 355 8 = z := ⟨_, rfl⟩
  have vf4 := O_355_8 (V.2.2.2.2.2.2.1 355 (8) (Nat.le_of_ble_eq_true rfl))
  rw [evz3] at vf4
  rw [evz3] at hq2
  rw [evz3] at hq3
  rw [evz1] at hq4
  rw [evz2] at hq4
  obtain ⟨vz5, evz5⟩ : ∃ z, Gi g 356 4 = z := ⟨_, rfl⟩
  have vf6 := A_TEXTS (V.2.2.2.1 (4)) (by omega)
  rw [evz5] at vf6
  rw [evz5] at hq5
  rw [evz1] at hq7
  rw [evz2] at hq8
  rw [evz1] at hq8
  rw [evz1] at hq9
  refine X_iload rfl rfl rfl ?_
  refine X_iload_n rfl rfl rfl rfl ?_
  refine S_icmp_ge (tgt := 120) rfl rfl rfl hx4 hx2 (fun vh7 => ?_) (fun vh7 => ?_)
  · refine X_aload_n rfl rfl rfl rfl ?_
    refine X_getR (a := 358) rfl rfl rfl ((congrFun V.1 355).trans s_355) rfl ((congrFun (V.2.1 355 (by decide)) 2).trans r_355_2) ?_
    refine X_iload_n rfl rfl rfl rfl ?_
    refine X_iload_n rfl rfl rfl rfl ?_
    refine S_iast (I := InvR _) rfl rfl ((congrFun V.1 358).trans s_358) hx1 (by omega) (InvR_putX V (by rw [evz5] <;> omega) (hq6 _)) (fun g V ve8 vn9 hq => ?_)
    have hG := hq.trans hG
    have hF := And.intro (vSm.putN hF.1 vn9 (by unfold vse; omega)) (vX1.put hF.2 vn9 (by omega))
    have evz1 := (vn9 (355) 12 (Or.inl (by decide))).trans evz1
    have evz2 := (vn9 (355) 11 (Or.inl (by decide))).trans evz2
    have evz3 := (vn9 (355) 8 (Or.inl (by decide))).trans evz3
    have evz5 := (vn9 (356) 4 (Or.inl (by decide))).trans evz5
    refine X_aload_n rfl rfl rfl rfl ?_
    have vo355_11 : (Gi g 355 11).toInt = vz2.toInt := congrArg Int32.toInt evz2
    refine Y_callV (as := []) (st := []) rfl rfl rfl (by decide) rfl (Nat.le_of_ble_eq_true rfl) (by decide) (Nat.le_of_ble_eq_true rfl) rfl ((congrFun V.1 355).trans s_355) (by decide) (C_X13_nextToken V  (by rw [evz2] <;> omega) (by rw [evz2, evz3] <;> omega) (by rw [evz3] <;> omega)) ?_
    rintro _ g ⟨rfl, V, hq, chF, vq11, vq12, vq13, vq14, vq15, vq16⟩
    have hG := hq.trans hG
    have evz3 := (chF 355 8 (by decide)).trans evz3
    have evz5 := (chF 356 4 (by decide)).trans evz5
    have hF := And.intro (vSm.tr chF vi_ea hF.1) (vX1.oth hF.2 (fun k => chF 358 k (Or.inl (by decide))))
    obtain ⟨vz17, evz17⟩ : ∃ z, Gi g 355 12 = z := ⟨_, rfl⟩
    rw [evz17] at vq11
    rw [evz17] at vq12
    rw [evz17] at vq13
    obtain ⟨vz18, evz18⟩ : ∃ z, Gi g 355 11 = z := ⟨_, rfl⟩
    rw [evz18] at vq13
    rw [evz18] at vq14
    rw [evz3] at vq14
    rw [evz3] at vq15
    obtain ⟨vz19, evz19⟩ : ∃ z, Gi g 355 13 = z := ⟨_, rfl⟩
    rw [evz19] at vq16
    rw [evz17] at vq16
    rw [evz18] at vq16
    refine X_iconst (v := (0 : Int32)) rfl rfl rfl ?_
    exact LW_ireturn (st := []) rfl rfl rfl ⟨_, rfl, by decide, by decide, V, hG, hF, (by have vkr := (show (0 : Int32).toInt = 0 from rfl); rw [evz17, evz18, evz3, evz19] <;> omega)⟩
  · refine X_aload_n rfl rfl rfl rfl ?_
    refine X_getR (a := 359) rfl rfl rfl ((congrFun V.1 355).trans s_355) rfl ((congrFun (V.2.1 355 (by decide)) 3).trans r_355_3) ?_
    refine X_iload rfl rfl rfl ?_
    refine X_aload_n rfl rfl rfl rfl ?_
    refine X_aload_n rfl rfl rfl rfl ?_
    refine X_getI (v := vz1) rfl rfl rfl ((congrFun V.1 355).trans s_355) rfl evz1 ?_
    refine X_iload rfl rfl rfl ?_
    refine S_iadd rfl rfl rfl hx4 (by omega) (fun vz20 hvz20 => ?_)
    refine X_callV (as := [.int vz20]) (st := [.int x4, .ref 359]) rfl rfl rfl (by decide) rfl (Nat.le_of_ble_eq_true rfl) (by decide) (Nat.le_of_ble_eq_true rfl) rfl ((congrFun V.1 355).trans s_355) (by decide) ?_
    refine LW_ls (ls' := [some (.ref 355), some (.int vz20)]) rfl ?_
    refine X_iload_n rfl rfl rfl rfl ?_
    refine X_aload_n rfl rfl rfl rfl ?_
    refine X_getI (v := vz3) rfl rfl rfl ((congrFun V.1 355).trans s_355) rfl evz3 ?_
    refine S_icmp_ge (tgt := 17) rfl rfl rfl rfl rfl (fun vh21 => ?_) (fun vh21 => ?_)
    · refine X_iconst (v := (-1 : Int32)) rfl rfl rfl ?_
      refine LW_ireturn (st := []) rfl rfl rfl ?_
      refine X_bipush (v := (97 : Int32)) rfl rfl rfl ?_
      refine X_isub (v := (-98 : Int32)) rfl rfl rfl ?_
      refine S_iast (I := InvR _) rfl rfl ((congrFun V.1 359).trans s_359) hx4 (by omega) (InvR_putO V (by decide) (show okO 359 _ _ from (show 0 ≤ (-98 : Int32).toInt ∧ (-98 : Int32).toInt ≤ 25 by omega))) (fun g V ve22 vn23 hq => ?_)
      have hG := hq.trans hG
      have hF := And.intro (vSm.putN hF.1 vn23 (by unfold vse; omega)) (vX1.oth hF.2 (fun k => vn23 358 k (Or.inl (by decide))))
      have evz1 := (vn23 (355) 12 (Or.inl (by decide))).trans evz1
      have evz2 := (vn23 (355) 11 (Or.inl (by decide))).trans evz2
      have evz3 := (vn23 (355) 8 (Or.inl (by decide))).trans evz3
      have evz5 := (vn23 (356) 4 (Or.inl (by decide))).trans evz5
      refine X_iload_n rfl rfl rfl rfl ?_
      refine X_iconst (v := (1 : Int32)) rfl rfl rfl ?_
      refine X_aload_n rfl rfl rfl rfl ?_
      refine X_getR (a := 359) rfl rfl rfl ((congrFun V.1 355).trans s_355) rfl ((congrFun (V.2.1 355 (by decide)) 3).trans r_355_3) ?_
      refine X_iload rfl rfl rfl ?_
      refine S_iald rfl rfl ((congrFun V.1 359).trans s_359) hx4 (by omega) (fun vz24 evz24 => ?_)
      have vf25 := O_359 (V.2.2.2.2.2.2.1 359 ((y4 : Int).toNat) (Nat.le_of_ble_eq_true rfl))
      rw [evz24] at vf25
      refine S_ishlT rfl rfl (fun vz26 => ?_)
      refine S_iorT rfl rfl (fun vz27 => ?_)
      refine X_istore_n (i := 3) (ls' := [some (.ref 355), some (.int x1), some (.int x2), some (.int vz27), some (.int x4)]) rfl rfl rfl (Nat.le_of_ble_eq_true rfl) rfl ?_
      refine S_iinc (c := 1) rfl rfl rfl hx4 rfl (by omega) (fun vz28 hvz28 => ?_)
      refine LW_ls (ls' := [some (.ref 355), some (.int x1), some (.int x2), some (.int vz27), some (.int vz28)]) rfl ?_
      refine LW_goto (tgt := 75) rfl rfl ?_
      exact ih75 _ V hG hF x1 y1 hx1 (by omega) x2 y2 hx2 (by omega) vz27 vz27.toInt rfl vz28 vz28.toInt rfl (by omega)  (by rw [evz1] <;> omega) (by rw [evz1, evz2] <;> omega) (by rw [evz2, evz3] <;> omega) (by rw [evz3] <;> omega) (by rw [evz1, evz2] <;> omega) (by rw [evz5] <;> omega) (hq6) (by rw [evz1] <;> omega) (by rw [evz2, evz1] <;> omega) (by rw [evz1]; exact (by
            intro k hk
            rw [vn23 361 _ (Or.inl (by decide))]
            exact hq9 k hk)) (by omega)  (by omega)
    · refine X_aload_n rfl rfl rfl rfl ?_
      refine X_getR (a := 361) rfl rfl rfl ((congrFun V.1 355).trans s_355) rfl ((congrFun (V.2.1 355 (by decide)) 7).trans r_355_7) ?_
      refine X_iload_n rfl rfl rfl rfl ?_
      refine S_iald rfl rfl ((congrFun V.1 361).trans s_361) rfl (by omega) (fun vz29 evz29 => ?_)
      have vf30 := O_361 (V.2.2.2.2.2.2.1 361 ((vz20.toInt : Int).toNat) (Nat.le_of_ble_eq_true rfl))
      rw [evz29] at vf30
      have vf31 := hq9 (Int.toNat y4) (by omega)
      rw [show Int.toNat (vz1.toInt + ↑(Int.toNat y4)) = (vz20.toInt : Int).toNat by omega, evz29] at vf31
      refine LW_goto (tgt := 18) rfl rfl ?_
      refine LW_ireturn (st := []) rfl rfl rfl ?_
      refine X_bipush (v := (97 : Int32)) rfl rfl rfl ?_
      refine S_isub rfl rfl rfl (show (97 : Int32).toInt = 97 from rfl) (by omega) (fun vz32 hvz32 => ?_)
      refine S_iast (I := InvR _) rfl rfl ((congrFun V.1 359).trans s_359) hx4 (by omega) (InvR_putO V (by decide) (show okO 359 _ _ from (show 0 ≤ vz32.toInt ∧ vz32.toInt ≤ 25 by omega))) (fun g V ve33 vn34 hq => ?_)
      have hG := hq.trans hG
      have hF := And.intro (vSm.putN hF.1 vn34 (by unfold vse; omega)) (vX1.oth hF.2 (fun k => vn34 358 k (Or.inl (by decide))))
      have evz1 := (vn34 (355) 12 (Or.inl (by decide))).trans evz1
      have evz2 := (vn34 (355) 11 (Or.inl (by decide))).trans evz2
      have evz3 := (vn34 (355) 8 (Or.inl (by decide))).trans evz3
      have evz5 := (vn34 (356) 4 (Or.inl (by decide))).trans evz5
      have evz29 := (vn34 (361) ((vz20.toInt : Int).toNat) (Or.inl (by decide))).trans evz29
      refine X_iload_n rfl rfl rfl rfl ?_
      refine X_iconst (v := (1 : Int32)) rfl rfl rfl ?_
      refine X_aload_n rfl rfl rfl rfl ?_
      refine X_getR (a := 359) rfl rfl rfl ((congrFun V.1 355).trans s_355) rfl ((congrFun (V.2.1 355 (by decide)) 3).trans r_355_3) ?_
      refine X_iload rfl rfl rfl ?_
      refine S_iald rfl rfl ((congrFun V.1 359).trans s_359) hx4 (by omega) (fun vz35 evz35 => ?_)
      have vf36 := O_359 (V.2.2.2.2.2.2.1 359 ((y4 : Int).toNat) (Nat.le_of_ble_eq_true rfl))
      rw [evz35] at vf36
      refine S_ishlT rfl rfl (fun vz37 => ?_)
      refine S_iorT rfl rfl (fun vz38 => ?_)
      refine X_istore_n (i := 3) (ls' := [some (.ref 355), some (.int x1), some (.int x2), some (.int vz38), some (.int x4)]) rfl rfl rfl (Nat.le_of_ble_eq_true rfl) rfl ?_
      refine S_iinc (c := 1) rfl rfl rfl hx4 rfl (by omega) (fun vz39 hvz39 => ?_)
      refine LW_ls (ls' := [some (.ref 355), some (.int x1), some (.int x2), some (.int vz38), some (.int vz39)]) rfl ?_
      refine LW_goto (tgt := 75) rfl rfl ?_
      exact ih75 _ V hG hF x1 y1 hx1 (by omega) x2 y2 hx2 (by omega) vz38 vz38.toInt rfl vz39 vz39.toInt rfl (by omega)  (by rw [evz1] <;> omega) (by rw [evz1, evz2] <;> omega) (by rw [evz2, evz3] <;> omega) (by rw [evz3] <;> omega) (by rw [evz1, evz2] <;> omega) (by rw [evz5] <;> omega) (hq6) (by rw [evz1] <;> omega) (by rw [evz2, evz1] <;> omega) (by rw [evz1]; exact (by
            intro k hk
            rw [vn34 361 _ (Or.inl (by decide))]
            exact hq9 k hk)) (by omega)  (by omega)
theorem C_X13_letters_all {P : Par} {vgx : Int} {g0 : LH} {d : Nat}  : ∀ n : Nat, (∀ (g : LH) (V : InvR P g) (hG : Gr g = Gr g0) (hF : (vSm vse g g0 ∧ vX1 vgx g g0)) (x1 : Int32) (y1 : Int) (hx1 : x1.toInt = y1) (hf1 : 1 ≤ y1 ∧ y1 ≤ 2893) (x2 : Int32) (y2 : Int) (hx2 : x2.toInt = y2) (hf2 : 0 ≤ y2 ∧ y2 ≤ 300) (x3 : Int32) (y3 : Int) (hx3 : x3.toInt = y3) (hf3 : 0 ≤ y3 ∧ y3 ≤ 300) (o4 : Option Value) (hq0 : 0 ≤ (Gi g 355 12).toInt) (hq1 : (Gi g 355 12).toInt ≤ (Gi g 355 11).toInt) (hq2 : (Gi g 355 11).toInt ≤ (Gi g 355 8).toInt) (hq3 : (Gi g 355 8).toInt ≤ 300) (hq4 : (Gi g 355 12).toInt < (Gi g 355 11).toInt) (hq5 : 873 * (Gi g 356 4).toInt ≤ y1) (hq6 : ∀ v : Int, okT (Int.toNat (y1)) v) (hq7 : (Gi g 355 12).toInt = (Gi g0 355 12).toInt) (hq8 : y2 = (Gi g 355 11).toInt - (Gi g 355 12).toInt) (hq9 : ∀ k : Nat, ↑k < y3 → 97 ≤ (Gi g 361 (Int.toNat ((Gi g 355 12).toInt + ↑k))).toInt ∧ (Gi g 361 (Int.toNat ((Gi g 355 12).toInt + ↑k))).toInt ≤ 122) (hq10 : y1 = vgx), (300 - y3) * 1 + 10 < (n : Int) → LW 224 (d + 9) 0 0 22 [some (.ref 355), some (.int x1), some (.int x2), some (.int x3), o4] [] g (fun v g' => ∃ r : Int32, v = some (.int r) ∧ 0 ≤ r.toInt ∧ r.toInt ≤ 7 ∧ InvR P g' ∧ Gr g' = Gr g0 ∧ (vSm vse g' g0 ∧ vX1 vgx g' g0) ∧ (r.toInt = 0 → (((Gi g0 355 12).toInt < (Gi g' 355 12).toInt) ∧ (0 ≤ (Gi g' 355 12).toInt) ∧ ((Gi g' 355 12).toInt ≤ (Gi g' 355 11).toInt) ∧ ((Gi g' 355 11).toInt ≤ (Gi g' 355 8).toInt) ∧ ((Gi g' 355 8).toInt ≤ 300) ∧ ((Gi g' 355 13).toInt = 0 ∨ (Gi g' 355 12).toInt < (Gi g' 355 11).toInt))))) ∧ (∀ (g : LH) (V : InvR P g) (hG : Gr g = Gr g0) (hF : (vSm vse g g0 ∧ vX1 vgx g g0)) (x1 : Int32) (y1 : Int) (hx1 : x1.toInt = y1) (hf1 : 1 ≤ y1 ∧ y1 ≤ 2893) (x2 : Int32) (y2 : Int) (hx2 : x2.toInt = y2) (hf2 : 0 ≤ y2 ∧ y2 ≤ 8) (x3 : Int32) (y3 : Int) (hx3 : x3.toInt = y3) (x4 : Int32) (y4 : Int) (hx4 : x4.toInt = y4) (hf4 : 0 ≤ y4 ∧ y4 ≤ 8) (hq0 : 0 ≤ (Gi g 355 12).toInt) (hq1 : (Gi g 355 12).toInt ≤ (Gi g 355 11).toInt) (hq2 : (Gi g 355 11).toInt ≤ (Gi g 355 8).toInt) (hq3 : (Gi g 355 8).toInt ≤ 300) (hq4 : (Gi g 355 12).toInt < (Gi g 355 11).toInt) (hq5 : 873 * (Gi g 356 4).toInt ≤ y1) (hq6 : ∀ v : Int, okT (Int.toNat (y1)) v) (hq7 : (Gi g 355 12).toInt = (Gi g0 355 12).toInt) (hq8 : y2 = (Gi g 355 11).toInt - (Gi g 355 12).toInt) (hq9 : ∀ k : Nat, ↑k < y2 → 97 ≤ (Gi g 361 (Int.toNat ((Gi g 355 12).toInt + ↑k))).toInt ∧ (Gi g 361 (Int.toNat ((Gi g 355 12).toInt + ↑k))).toInt ≤ 122) (hq10 : y1 = vgx), (8 - y4) * 1 + 0 < (n : Int) → LW 224 (d + 9) 0 0 75 [some (.ref 355), some (.int x1), some (.int x2), some (.int x3), some (.int x4)] [] g (fun v g' => ∃ r : Int32, v = some (.int r) ∧ 0 ≤ r.toInt ∧ r.toInt ≤ 7 ∧ InvR P g' ∧ Gr g' = Gr g0 ∧ (vSm vse g' g0 ∧ vX1 vgx g' g0) ∧ (r.toInt = 0 → (((Gi g0 355 12).toInt < (Gi g' 355 12).toInt) ∧ (0 ≤ (Gi g' 355 12).toInt) ∧ ((Gi g' 355 12).toInt ≤ (Gi g' 355 11).toInt) ∧ ((Gi g' 355 11).toInt ≤ (Gi g' 355 8).toInt) ∧ ((Gi g' 355 8).toInt ≤ 300) ∧ ((Gi g' 355 13).toInt = 0 ∨ (Gi g' 355 12).toInt < (Gi g' 355 11).toInt))))) := by
  intro n
  induction n with
  | zero => exact ⟨fun g V hG hF x1 y1 hx1 hf1 x2 y2 hx2 hf2 x3 y3 hx3 hf3 o4 hq0 hq1 hq2 hq3 hq4 hq5 hq6 hq7 hq8 hq9 hq10 hmu => absurd hmu (by omega), fun g V hG hF x1 y1 hx1 hf1 x2 y2 hx2 hf2 x3 y3 hx3 x4 y4 hx4 hf4 hq0 hq1 hq2 hq3 hq4 hq5 hq6 hq7 hq8 hq9 hq10 hmu => absurd hmu (by omega)⟩
  | succ n ih => exact ⟨fun g V hG hF x1 y1 hx1 hf1 x2 y2 hx2 hf2 x3 y3 hx3 hf3 o4 hq0 hq1 hq2 hq3 hq4 hq5 hq6 hq7 hq8 hq9 hq10 hmu => C_X13_letters_22  V hG hF x1 y1 hx1 hf1 x2 y2 hx2 hf2 x3 y3 hx3 hf3 o4 hq0 hq1 hq2 hq3 hq4 hq5 hq6 hq7 hq8 hq9 hq10 (by omega) ih.1 ih.2, fun g V hG hF x1 y1 hx1 hf1 x2 y2 hx2 hf2 x3 y3 hx3 x4 y4 hx4 hf4 hq0 hq1 hq2 hq3 hq4 hq5 hq6 hq7 hq8 hq9 hq10 hmu => C_X13_letters_75  V hG hF x1 y1 hx1 hf1 x2 y2 hx2 hf2 x3 y3 hx3 x4 y4 hx4 hf4 hq0 hq1 hq2 hq3 hq4 hq5 hq6 hq7 hq8 hq9 hq10 (by omega) ih.1 ih.2⟩
set_option maxRecDepth 10000 in
set_option maxHeartbeats 40000000 in
theorem C_X13_letters {P : Par} {g : LH} {d : Nat}  (V : InvR P g) (x1 : Int32) (y1 : Int) (hx1 : x1.toInt = y1) (hf1 : 1 ≤ y1 ∧ y1 ≤ 2893) (hq0 : 0 ≤ (Gi g 355 12).toInt) (hq1 : (Gi g 355 12).toInt ≤ (Gi g 355 11).toInt) (hq2 : (Gi g 355 11).toInt ≤ (Gi g 355 8).toInt) (hq3 : (Gi g 355 8).toInt ≤ 300) (hq4 : (Gi g 355 13).toInt = 0 ∨ (Gi g 355 12).toInt < (Gi g 355 11).toInt) (hq5 : 873 * (Gi g 356 4).toInt ≤ y1) (hq6 : ∀ v : Int, okT (Int.toNat (y1)) v)  : LW 224 (d + 9) 0 0 0 (lEnt (mL 224) [.ref 355, .int x1]) [] g (fun v g' => ∃ r : Int32, v = some (.int r) ∧ 0 ≤ r.toInt ∧ r.toInt ≤ 7 ∧ InvR P g' ∧ Gr g' = Gr g ∧ (vSm vse g' g ∧ vX1 y1 g' g) ∧ (r.toInt = 0 → (((Gi g 355 12).toInt < (Gi g' 355 12).toInt) ∧ (0 ≤ (Gi g' 355 12).toInt) ∧ ((Gi g' 355 12).toInt ≤ (Gi g' 355 11).toInt) ∧ ((Gi g' 355 11).toInt ≤ (Gi g' 355 8).toInt) ∧ ((Gi g' 355 8).toInt ≤ 300) ∧ ((Gi g' 355 13).toInt = 0 ∨ (Gi g' 355 12).toInt < (Gi g' 355 11).toInt)))) := by
  refine LW_ls (ls' := [some (.ref 355), some (.int x1), none, none, none]) rfl ?_
  have hG : Gr g = Gr g := rfl
  have hF : (vSm vse g g ∧ vX1 y1 g g) := And.intro vSm.refl vX1.refl
  obtain ⟨vz1, evz1⟩ : ∃ z, Gi g 355 12 = z := ⟨_, rfl⟩
  rw [evz1] at hq0
  rw [evz1] at hq1
  obtain ⟨vz2, evz2⟩ : ∃ z, Gi g 355 11 = z := ⟨_, rfl⟩
  rw [evz2] at hq1
  rw [evz2] at hq2
  obtain ⟨vz3, evz3⟩ : ∃ z, Gi g 355 8 = z := ⟨_, rfl⟩
  have vf4 := O_355_8 (V.2.2.2.2.2.2.1 355 (8) (Nat.le_of_ble_eq_true rfl))
  rw [evz3] at vf4
  rw [evz3] at hq2
  rw [evz3] at hq3
  obtain ⟨vz5, evz5⟩ : ∃ z, Gi g 355 13 = z := ⟨_, rfl⟩
  rw [evz5] at hq4
  rw [evz1] at hq4
  rw [evz2] at hq4
  obtain ⟨vz6, evz6⟩ : ∃ z, Gi g 356 4 = z := ⟨_, rfl⟩
  have vf7 := A_TEXTS (V.2.2.2.1 (4)) (by omega)
  rw [evz6] at vf7
  rw [evz6] at hq5
  have vo355_12 : (Gi g 355 12).toInt = vz1.toInt := congrArg Int32.toInt evz1
  refine X_aload_n rfl rfl rfl rfl ?_
  refine X_getI (v := vz5) rfl rfl rfl ((congrFun V.1 355).trans s_355) rfl evz5 ?_
  refine X_iconst (v := (2 : Int32)) rfl rfl rfl ?_
  refine S_icmp_eq (tgt := 10) rfl rfl rfl rfl (show (2 : Int32).toInt = 2 from rfl) (fun vh8 => ?_) (fun vh8 => ?_)
  · refine X_aload_n rfl rfl rfl rfl ?_
    refine X_getI (v := vz2) rfl rfl rfl ((congrFun V.1 355).trans s_355) rfl evz2 ?_
    refine X_aload_n rfl rfl rfl rfl ?_
    refine X_getI (v := vz1) rfl rfl rfl ((congrFun V.1 355).trans s_355) rfl evz1 ?_
    refine S_isub rfl rfl rfl rfl (by omega) (fun vz9 hvz9 => ?_)
    refine X_istore_n (i := 2) (ls' := [some (.ref 355), some (.int x1), some (.int vz9), none, none]) rfl rfl rfl (Nat.le_of_ble_eq_true rfl) rfl ?_
    refine X_iconst (v := (0 : Int32)) rfl rfl rfl ?_
    refine X_istore_n (i := 3) (ls' := [some (.ref 355), some (.int x1), some (.int vz9), some (.int (0 : Int32)), none]) rfl rfl rfl (Nat.le_of_ble_eq_true rfl) rfl ?_
    exact (C_X13_letters_all (((300 - 0) * 1 + 10) + 1 : Int).toNat).1 _ V hG hF x1 y1 hx1 (by omega) vz9 vz9.toInt rfl (by omega) (0 : Int32) 0 (show (0 : Int32).toInt = 0 from rfl) (by omega) none  (by rw [evz1] <;> omega) (by rw [evz1, evz2] <;> omega) (by rw [evz2, evz3] <;> omega) (by rw [evz3] <;> omega) (by rw [evz1, evz2] <;> omega) (by rw [evz6] <;> omega) (hq6) (by rw [evz1] <;> omega) (by rw [evz2, evz1] <;> omega) (by rw [evz1]; exact (by
          exact fun k hk => absurd hk (by omega))) (by omega)  (by omega)
  · refine X_iconst (v := (1 : Int32)) rfl rfl rfl ?_
    exact LW_ireturn (st := []) rfl rfl rfl ⟨_, rfl, by decide, by decide, V, hG, hF, (by have vkr := (show (1 : Int32).toInt = 1 from rfl); rw [evz1, evz2, evz3, evz5] <;> omega)⟩
set_option maxRecDepth 10000 in
set_option maxHeartbeats 40000000 in
theorem C_X13_wordClause_16 {P : Par} {vgx : Int} {g g0 : LH} {d n : Nat}  (V : InvR P g) (hG : Gr g = Gr g0) (hF : (vSm vse g g0 ∧ vX9 vgx g g0)) (x1 : Int32) (y1 : Int) (hx1 : x1.toInt = y1) (hf1 : 1 ≤ y1 ∧ y1 ≤ 2873) (x2 : Int32) (y2 : Int) (hx2 : x2.toInt = y2) (hf2 : 0 ≤ y2 ∧ y2 ≤ 0) (x3 : Int32) (y3 : Int) (hx3 : x3.toInt = y3) (hf3 : 0 ≤ y3 ∧ y3 ≤ 8) (hq0 : 0 ≤ (Gi g 355 12).toInt) (hq1 : (Gi g 355 12).toInt ≤ (Gi g 355 11).toInt) (hq2 : (Gi g 355 11).toInt ≤ (Gi g 355 8).toInt) (hq3 : (Gi g 355 8).toInt ≤ 300) (hq4 : (Gi g 355 13).toInt = 0 ∨ (Gi g 355 12).toInt < (Gi g 355 11).toInt) (hq5 : 873 * (Gi g 356 4).toInt ≤ y1) (hq6 : vIX (y1)) (hq7 : (Gi g0 355 12).toInt < (Gi g 355 12).toInt) (hq8 : y1 = vgx) (hmu : (8 - y3) * 1 + 0 < (n : Int) + 1) (ih16 : ∀ (g : LH) (V : InvR P g) (hG : Gr g = Gr g0) (hF : (vSm vse g g0 ∧ vX9 vgx g g0)) (x1 : Int32) (y1 : Int) (hx1 : x1.toInt = y1) (hf1 : 1 ≤ y1 ∧ y1 ≤ 2873) (x2 : Int32) (y2 : Int) (hx2 : x2.toInt = y2) (hf2 : 0 ≤ y2 ∧ y2 ≤ 0) (x3 : Int32) (y3 : Int) (hx3 : x3.toInt = y3) (hf3 : 0 ≤ y3 ∧ y3 ≤ 8) (hq0 : 0 ≤ (Gi g 355 12).toInt) (hq1 : (Gi g 355 12).toInt ≤ (Gi g 355 11).toInt) (hq2 : (Gi g 355 11).toInt ≤ (Gi g 355 8).toInt) (hq3 : (Gi g 355 8).toInt ≤ 300) (hq4 : (Gi g 355 13).toInt = 0 ∨ (Gi g 355 12).toInt < (Gi g 355 11).toInt) (hq5 : 873 * (Gi g 356 4).toInt ≤ y1) (hq6 : vIX (y1)) (hq7 : (Gi g0 355 12).toInt < (Gi g 355 12).toInt) (hq8 : y1 = vgx), (8 - y3) * 1 + 0 < (n : Int) → LW 226 (d + 20) 0 0 16 [some (.ref 355), some (.int x1), some (.int x2), some (.int x3)] [] g (fun v g' => ∃ r : Int32, v = some (.int r) ∧ 0 ≤ r.toInt ∧ r.toInt ≤ 7 ∧ InvR P g' ∧ Gr g' = Gr g0 ∧ (vSm vse g' g0 ∧ vX9 vgx g' g0) ∧ (r.toInt = 0 → (((Gi g0 355 12).toInt < (Gi g' 355 12).toInt) ∧ (0 ≤ (Gi g' 355 12).toInt) ∧ ((Gi g' 355 12).toInt ≤ (Gi g' 355 11).toInt) ∧ ((Gi g' 355 11).toInt ≤ (Gi g' 355 8).toInt) ∧ ((Gi g' 355 8).toInt ≤ 300) ∧ ((Gi g' 355 13).toInt = 0 ∨ (Gi g' 355 12).toInt < (Gi g' 355 11).toInt))))) : LW 226 (d + 20) 0 0 16 [some (.ref 355), some (.int x1), some (.int x2), some (.int x3)] [] g (fun v g' => ∃ r : Int32, v = some (.int r) ∧ 0 ≤ r.toInt ∧ r.toInt ≤ 7 ∧ InvR P g' ∧ Gr g' = Gr g0 ∧ (vSm vse g' g0 ∧ vX9 vgx g' g0) ∧ (r.toInt = 0 → (((Gi g0 355 12).toInt < (Gi g' 355 12).toInt) ∧ (0 ≤ (Gi g' 355 12).toInt) ∧ ((Gi g' 355 12).toInt ≤ (Gi g' 355 11).toInt) ∧ ((Gi g' 355 11).toInt ≤ (Gi g' 355 8).toInt) ∧ ((Gi g' 355 8).toInt ≤ 300) ∧ ((Gi g' 355 13).toInt = 0 ∨ (Gi g' 355 12).toInt < (Gi g' 355 11).toInt)))) := by
  have vix := hq6
  obtain ⟨vt, vc, vi1, vi2, vi3⟩ := vix
  obtain ⟨vz1, evz1⟩ : ∃ z, Gi g 355 12 = z := ⟨_, rfl⟩
  rw [evz1] at hq0
  rw [evz1] at hq1
  obtain ⟨vz2, evz2⟩ : ∃ z, Gi g 355 11 = z := ⟨_, rfl⟩
  rw [evz2] at hq1
  rw [evz2] at hq2
  obtain ⟨vz3, evz3⟩ : ∃ z, Gi g 355 8 = z := ⟨_, rfl⟩
  have vf4 := O_355_8 (V.2.2.2.2.2.2.1 355 (8) (Nat.le_of_ble_eq_true rfl))
  rw [evz3] at vf4
  rw [evz3] at hq2
  rw [evz3] at hq3
  obtain ⟨vz5, evz5⟩ : ∃ z, Gi g 355 13 = z := ⟨_, rfl⟩
  rw [evz5] at hq4
  rw [evz1] at hq4
  rw [evz2] at hq4
  obtain ⟨vz6, evz6⟩ : ∃ z, Gi g 356 4 = z := ⟨_, rfl⟩
  have vf7 := A_TEXTS (V.2.2.2.1 (4)) (by omega)
  rw [evz6] at vf7
  rw [evz6] at hq5
  rw [evz1] at hq7
  refine X_iload_n rfl rfl rfl rfl ?_
  refine X_bipush (v := (8 : Int32)) rfl rfl rfl ?_
  refine S_icmp_ge (tgt := 56) rfl rfl rfl hx3 (show (8 : Int32).toInt = 8 from rfl) (fun vh8 => ?_) (fun vh8 => ?_)
  · refine X_aload_n rfl rfl rfl rfl ?_
    refine X_bipush (v := (109 : Int32)) rfl rfl rfl ?_
    refine X_bipush (v := (101 : Int32)) rfl rfl rfl ?_
    refine X_bipush (v := (97 : Int32)) rfl rfl rfl ?_
    refine X_bipush (v := (110 : Int32)) rfl rfl rfl ?_
    refine X_bipush (v := (115 : Int32)) rfl rfl rfl ?_
    refine Y_callS (as := [.int (109 : Int32), .int (101 : Int32), .int (97 : Int32), .int (110 : Int32), .int (115 : Int32)]) (st := [.ref 355]) rfl rfl rfl (by decide) rfl (Nat.le_of_ble_eq_true rfl) (by decide) (Nat.le_of_ble_eq_true rfl) rfl (C_X13_w5 V (109 : Int32) 109 (show (109 : Int32).toInt = 109 from rfl) (101 : Int32) 101 (show (101 : Int32).toInt = 101 from rfl) (97 : Int32) 97 (show (97 : Int32).toInt = 97 from rfl) (110 : Int32) 110 (show (110 : Int32).toInt = 110 from rfl) (115 : Int32) 115 (show (115 : Int32).toInt = 115 from rfl) ) ?_
    rintro _ g' ⟨vr9, rfl, hgg⟩
    subst hgg
    have vo355_12 : (Gi g 355 12).toInt = vz1.toInt := congrArg Int32.toInt evz1
    refine Y_callV (as := [.long vr9]) (st := []) rfl rfl rfl (by decide) rfl (Nat.le_of_ble_eq_true rfl) (by decide) (Nat.le_of_ble_eq_true rfl) rfl ((congrFun V.1 355).trans s_355) (by decide) (C_X13_need V vr9 (by rw [evz1] <;> omega) (by rw [evz1, evz2] <;> omega) (by rw [evz2, evz3] <;> omega) (by rw [evz3] <;> omega) (by rw [evz5, evz1, evz2] <;> omega)) ?_
    rintro _ g ⟨vr10, rfl, hrvr100, hrvr101, V, hq, chF, vq11⟩
    have hG := hq.trans hG
    have evz3 := (chF 355 8 (by decide)).trans evz3
    have evz6 := (chF 356 4 (by decide)).trans evz6
    have hF := And.intro (vSm.tr chF vi_ea hF.1) (vX9.oth hF.2 (fun k => chF 358 k (Or.inl (by decide))))
    obtain ⟨vz12, evz12⟩ : ∃ z, Gi g 355 12 = z := ⟨_, rfl⟩
    rw [evz12] at vq11
    obtain ⟨vz13, evz13⟩ : ∃ z, Gi g 355 11 = z := ⟨_, rfl⟩
    rw [evz13] at vq11
    rw [evz3] at vq11
    obtain ⟨vz14, evz14⟩ : ∃ z, Gi g 355 13 = z := ⟨_, rfl⟩
    rw [evz14] at vq11
    refine X_istore_n (i := 2) (ls' := [some (.ref 355), some (.int x1), some (.int vr10), some (.int x3)]) rfl rfl rfl (Nat.le_of_ble_eq_true rfl) rfl ?_
    refine X_iload_n rfl rfl rfl rfl ?_
    refine S_if_eq (tgt := 82) rfl rfl rfl rfl (fun vh15 => ?_) (fun vh15 => ?_)
    · refine X_aload_n rfl rfl rfl rfl ?_
      refine X_iload_n rfl rfl rfl rfl ?_
      refine X_iconst (v := (2 : Int32)) rfl rfl rfl ?_
      refine S_iadd rfl rfl hx1 (show (2 : Int32).toInt = 2 from rfl) (by omega) (fun vz16 hvz16 => ?_)
      refine X_iconst (v := (0 : Int32)) rfl rfl rfl ?_
      refine X_bipush (v := (9 : Int32)) rfl rfl rfl ?_
      have vo355_12 : (Gi g 355 12).toInt = vz12.toInt := congrArg Int32.toInt evz12
      refine Y_callV (as := [.int vz16, .int (0 : Int32), .int (9 : Int32)]) (st := []) rfl rfl rfl (by decide) rfl (Nat.le_of_ble_eq_true rfl) (by decide) (Nat.le_of_ble_eq_true rfl) rfl ((congrFun V.1 355).trans s_355) (by decide) (C_X13_figure V vz16 vz16.toInt rfl (by omega) (0 : Int32) 0 (show (0 : Int32).toInt = 0 from rfl) (by omega) (9 : Int32) 9 (show (9 : Int32).toInt = 9 from rfl) (by omega) (by rw [evz12] <;> omega) (by rw [evz12, evz13] <;> omega) (by rw [evz13, evz3] <;> omega) (by rw [evz3] <;> omega) (by rw [evz14, evz12, evz13] <;> omega) (by rw [evz6] <;> omega) (fun v vha vhb => vokT_row (t := vt) (c := vc) (m := 2) (by omega) vi2 (by decide) (fun _ => by omega))) ?_
      rintro _ g ⟨vr17, rfl, hrvr170, hrvr171, V, hq, chF, vq18⟩
      have hG := hq.trans hG
      have evz3 := (chF.1 355 8 (by decide)).trans evz3
      have evz6 := (chF.1 356 4 (by decide)).trans evz6
      have hF := And.intro (vSm.tr chF.1 (vi_ vse) hF.1) (vX9.one hF.2 chF.2 (by omega))
      obtain ⟨vz19, evz19⟩ : ∃ z, Gi g 355 12 = z := ⟨_, rfl⟩
      rw [evz19] at vq18
      obtain ⟨vz20, evz20⟩ : ∃ z, Gi g 355 11 = z := ⟨_, rfl⟩
      rw [evz20] at vq18
      rw [evz3] at vq18
      obtain ⟨vz21, evz21⟩ : ∃ z, Gi g 355 13 = z := ⟨_, rfl⟩
      rw [evz21] at vq18
      have hr := (rfl : vr17.toInt = vr17.toInt)
      exact LW_ireturn (st := []) rfl rfl rfl ⟨_, rfl, by omega, by omega, V, hG, hF, (by rw [evz19, evz20, evz3, evz21] <;> omega)⟩
    · refine X_iload_n rfl rfl rfl rfl ?_
      refine LW_goto (tgt := 92) rfl rfl ?_
      have hr := (rfl : vr10.toInt = vr10.toInt)
      exact LW_ireturn (st := []) rfl rfl rfl ⟨_, rfl, by omega, by omega, V, hG, hF, (by rw [evz12, evz13, evz3, evz14] <;> omega)⟩
  · refine X_aload_n rfl rfl rfl rfl ?_
    refine X_getR (a := 358) rfl rfl rfl ((congrFun V.1 355).trans s_355) rfl ((congrFun (V.2.1 355 (by decide)) 2).trans r_355_2) ?_
    refine X_iload_n rfl rfl rfl rfl ?_
    refine X_iconst (v := (3 : Int32)) rfl rfl rfl ?_
    refine S_iadd rfl rfl hx1 (show (3 : Int32).toInt = 3 from rfl) (by omega) (fun vz22 hvz22 => ?_)
    refine X_iload_n rfl rfl rfl rfl ?_
    refine S_iadd rfl rfl rfl hx3 (by omega) (fun vz23 hvz23 => ?_)
    refine X_iload_n rfl rfl rfl rfl ?_
    refine X_aload_n rfl rfl rfl rfl ?_
    refine S_getI rfl rfl rfl ((congrFun V.1 355).trans s_355) rfl (fun vz24 evz24 => ?_)
    have vf25 := O_355_4 (V.2.2.2.2.2.2.1 355 (4) (Nat.le_of_ble_eq_true rfl))
    rw [evz24] at vf25
    refine S_icmp_ge (tgt := 48) rfl rfl rfl hx3 rfl (fun vh26 => ?_) (fun vh26 => ?_)
    · refine X_iconst (v := (-1 : Int32)) rfl rfl rfl ?_
      refine S_iast (I := InvR _) rfl rfl ((congrFun V.1 358).trans s_358) rfl (by omega) (InvR_putX V (by rw [evz6] <;> omega) (vokT_row (t := vt) (c := vc) (m := 3 + Int.toNat y3) (by omega) vi2 (by omega) (fun _ => by have vk := (show ((-1 : Int32)).toInt = -1 from rfl); omega))) (fun g V ve27 vn28 hq => ?_)
      have hG := hq.trans hG
      have hF := And.intro (vSm.putN hF.1 vn28 (by unfold vse; omega)) (vX9.put hF.2 vn28 (by omega))
      have evz1 := (vn28 (355) 12 (Or.inl (by decide))).trans evz1
      have evz2 := (vn28 (355) 11 (Or.inl (by decide))).trans evz2
      have evz3 := (vn28 (355) 8 (Or.inl (by decide))).trans evz3
      have evz5 := (vn28 (355) 13 (Or.inl (by decide))).trans evz5
      have evz6 := (vn28 (356) 4 (Or.inl (by decide))).trans evz6
      have evz24 := (vn28 (355) 4 (Or.inl (by decide))).trans evz24
      refine S_iinc (c := 1) rfl rfl rfl hx3 rfl (by omega) (fun vz29 hvz29 => ?_)
      refine LW_ls (ls' := [some (.ref 355), some (.int x1), some (.int x2), some (.int vz29)]) rfl ?_
      refine LW_goto (tgt := 16) rfl rfl ?_
      exact ih16 _ V hG hF x1 y1 hx1 (by omega) x2 y2 hx2 (by omega) vz29 vz29.toInt rfl (by omega)  (by rw [evz1] <;> omega) (by rw [evz1, evz2] <;> omega) (by rw [evz2, evz3] <;> omega) (by rw [evz3] <;> omega) (by rw [evz5, evz1, evz2] <;> omega) (by rw [evz6] <;> omega) (hq6) (by rw [evz1] <;> omega) (by omega)  (by omega)
    · refine X_aload_n rfl rfl rfl rfl ?_
      refine X_getR (a := 359) rfl rfl rfl ((congrFun V.1 355).trans s_355) rfl ((congrFun (V.2.1 355 (by decide)) 3).trans r_355_3) ?_
      refine X_iload_n rfl rfl rfl rfl ?_
      refine S_iald rfl rfl ((congrFun V.1 359).trans s_359) hx3 (by omega) (fun vz30 evz30 => ?_)
      have vf31 := O_359 (V.2.2.2.2.2.2.1 359 ((y3 : Int).toNat) (Nat.le_of_ble_eq_true rfl))
      rw [evz30] at vf31
      refine LW_goto (tgt := 49) rfl rfl ?_
      refine S_iast (I := InvR _) rfl rfl ((congrFun V.1 358).trans s_358) rfl (by omega) (InvR_putX V (by rw [evz6] <;> omega) (vokT_row (t := vt) (c := vc) (m := 3 + Int.toNat y3) (by omega) vi2 (by omega) (fun _ => by omega))) (fun g V ve32 vn33 hq => ?_)
      have hG := hq.trans hG
      have hF := And.intro (vSm.putN hF.1 vn33 (by unfold vse; omega)) (vX9.put hF.2 vn33 (by omega))
      have evz1 := (vn33 (355) 12 (Or.inl (by decide))).trans evz1
      have evz2 := (vn33 (355) 11 (Or.inl (by decide))).trans evz2
      have evz3 := (vn33 (355) 8 (Or.inl (by decide))).trans evz3
      have evz5 := (vn33 (355) 13 (Or.inl (by decide))).trans evz5
      have evz6 := (vn33 (356) 4 (Or.inl (by decide))).trans evz6
      have evz24 := (vn33 (355) 4 (Or.inl (by decide))).trans evz24
      have evz30 := (vn33 (359) ((y3 : Int).toNat) (Or.inl (by decide))).trans evz30
      refine S_iinc (c := 1) rfl rfl rfl hx3 rfl (by omega) (fun vz34 hvz34 => ?_)
      refine LW_ls (ls' := [some (.ref 355), some (.int x1), some (.int x2), some (.int vz34)]) rfl ?_
      refine LW_goto (tgt := 16) rfl rfl ?_
      exact ih16 _ V hG hF x1 y1 hx1 (by omega) x2 y2 hx2 (by omega) vz34 vz34.toInt rfl (by omega)  (by rw [evz1] <;> omega) (by rw [evz1, evz2] <;> omega) (by rw [evz2, evz3] <;> omega) (by rw [evz3] <;> omega) (by rw [evz5, evz1, evz2] <;> omega) (by rw [evz6] <;> omega) (hq6) (by rw [evz1] <;> omega) (by omega)  (by omega)
theorem C_X13_wordClause_all {P : Par} {vgx : Int} {g0 : LH} {d : Nat}  : ∀ n : Nat, (∀ (g : LH) (V : InvR P g) (hG : Gr g = Gr g0) (hF : (vSm vse g g0 ∧ vX9 vgx g g0)) (x1 : Int32) (y1 : Int) (hx1 : x1.toInt = y1) (hf1 : 1 ≤ y1 ∧ y1 ≤ 2873) (x2 : Int32) (y2 : Int) (hx2 : x2.toInt = y2) (hf2 : 0 ≤ y2 ∧ y2 ≤ 0) (x3 : Int32) (y3 : Int) (hx3 : x3.toInt = y3) (hf3 : 0 ≤ y3 ∧ y3 ≤ 8) (hq0 : 0 ≤ (Gi g 355 12).toInt) (hq1 : (Gi g 355 12).toInt ≤ (Gi g 355 11).toInt) (hq2 : (Gi g 355 11).toInt ≤ (Gi g 355 8).toInt) (hq3 : (Gi g 355 8).toInt ≤ 300) (hq4 : (Gi g 355 13).toInt = 0 ∨ (Gi g 355 12).toInt < (Gi g 355 11).toInt) (hq5 : 873 * (Gi g 356 4).toInt ≤ y1) (hq6 : vIX (y1)) (hq7 : (Gi g0 355 12).toInt < (Gi g 355 12).toInt) (hq8 : y1 = vgx), (8 - y3) * 1 + 0 < (n : Int) → LW 226 (d + 20) 0 0 16 [some (.ref 355), some (.int x1), some (.int x2), some (.int x3)] [] g (fun v g' => ∃ r : Int32, v = some (.int r) ∧ 0 ≤ r.toInt ∧ r.toInt ≤ 7 ∧ InvR P g' ∧ Gr g' = Gr g0 ∧ (vSm vse g' g0 ∧ vX9 vgx g' g0) ∧ (r.toInt = 0 → (((Gi g0 355 12).toInt < (Gi g' 355 12).toInt) ∧ (0 ≤ (Gi g' 355 12).toInt) ∧ ((Gi g' 355 12).toInt ≤ (Gi g' 355 11).toInt) ∧ ((Gi g' 355 11).toInt ≤ (Gi g' 355 8).toInt) ∧ ((Gi g' 355 8).toInt ≤ 300) ∧ ((Gi g' 355 13).toInt = 0 ∨ (Gi g' 355 12).toInt < (Gi g' 355 11).toInt))))) := by
  intro n
  induction n with
  | zero => exact fun g V hG hF x1 y1 hx1 hf1 x2 y2 hx2 hf2 x3 y3 hx3 hf3 hq0 hq1 hq2 hq3 hq4 hq5 hq6 hq7 hq8 hmu => absurd hmu (by omega)
  | succ n ih => exact fun g V hG hF x1 y1 hx1 hf1 x2 y2 hx2 hf2 x3 y3 hx3 hf3 hq0 hq1 hq2 hq3 hq4 hq5 hq6 hq7 hq8 hmu => C_X13_wordClause_16  V hG hF x1 y1 hx1 hf1 x2 y2 hx2 hf2 x3 y3 hx3 hf3 hq0 hq1 hq2 hq3 hq4 hq5 hq6 hq7 hq8 (by omega) ih
set_option maxRecDepth 10000 in
set_option maxHeartbeats 40000000 in
theorem C_X13_wordClause {P : Par} {g : LH} {d : Nat}  (V : InvR P g) (x1 : Int32) (y1 : Int) (hx1 : x1.toInt = y1) (hf1 : 1 ≤ y1 ∧ y1 ≤ 2873) (hq0 : 0 ≤ (Gi g 355 12).toInt) (hq1 : (Gi g 355 12).toInt ≤ (Gi g 355 11).toInt) (hq2 : (Gi g 355 11).toInt ≤ (Gi g 355 8).toInt) (hq3 : (Gi g 355 8).toInt ≤ 300) (hq4 : (Gi g 355 13).toInt = 0 ∨ (Gi g 355 12).toInt < (Gi g 355 11).toInt) (hq5 : 873 * (Gi g 356 4).toInt ≤ y1) (hq6 : vIX (y1))  : LW 226 (d + 20) 0 0 0 (lEnt (mL 226) [.ref 355, .int x1]) [] g (fun v g' => ∃ r : Int32, v = some (.int r) ∧ 0 ≤ r.toInt ∧ r.toInt ≤ 7 ∧ InvR P g' ∧ Gr g' = Gr g ∧ (vSm vse g' g ∧ vX9 y1 g' g) ∧ (r.toInt = 0 → (((Gi g 355 12).toInt < (Gi g' 355 12).toInt) ∧ (0 ≤ (Gi g' 355 12).toInt) ∧ ((Gi g' 355 12).toInt ≤ (Gi g' 355 11).toInt) ∧ ((Gi g' 355 11).toInt ≤ (Gi g' 355 8).toInt) ∧ ((Gi g' 355 8).toInt ≤ 300) ∧ ((Gi g' 355 13).toInt = 0 ∨ (Gi g' 355 12).toInt < (Gi g' 355 11).toInt)))) := by
  have vix := hq6
  obtain ⟨vt, vc, vi1, vi2, vi3⟩ := vix
  refine LW_ls (ls' := [some (.ref 355), some (.int x1), none, none]) rfl ?_
  have hG : Gr g = Gr g := rfl
  have hF : (vSm vse g g ∧ vX9 y1 g g) := And.intro vSm.refl vX9.refl
  obtain ⟨vz1, evz1⟩ : ∃ z, Gi g 355 12 = z := ⟨_, rfl⟩
  rw [evz1] at hq0
  rw [evz1] at hq1
  obtain ⟨vz2, evz2⟩ : ∃ z, Gi g 355 11 = z := ⟨_, rfl⟩
  rw [evz2] at hq1
  rw [evz2] at hq2
  obtain ⟨vz3, evz3⟩ : ∃ z, Gi g 355 8 = z := ⟨_, rfl⟩
  have vf4 := O_355_8 (V.2.2.2.2.2.2.1 355 (8) (Nat.le_of_ble_eq_true rfl))
  rw [evz3] at vf4
  rw [evz3] at hq2
  rw [evz3] at hq3
  obtain ⟨vz5, evz5⟩ : ∃ z, Gi g 355 13 = z := ⟨_, rfl⟩
  rw [evz5] at hq4
  rw [evz1] at hq4
  rw [evz2] at hq4
  obtain ⟨vz6, evz6⟩ : ∃ z, Gi g 356 4 = z := ⟨_, rfl⟩
  have vf7 := A_TEXTS (V.2.2.2.1 (4)) (by omega)
  rw [evz6] at vf7
  rw [evz6] at hq5
  have vo355_12 : (Gi g 355 12).toInt = vz1.toInt := congrArg Int32.toInt evz1
  refine X_aload_n rfl rfl rfl rfl ?_
  refine X_iload_n rfl rfl rfl rfl ?_
  refine X_iconst (v := (1 : Int32)) rfl rfl rfl ?_
  refine S_iadd rfl rfl hx1 (show (1 : Int32).toInt = 1 from rfl) (by omega) (fun vz8 hvz8 => ?_)
  have vo355_12 : (Gi g 355 12).toInt = vz1.toInt := congrArg Int32.toInt evz1
  refine Y_callV (as := [.int vz8]) (st := []) rfl rfl rfl (by decide) rfl (Nat.le_of_ble_eq_true rfl) (by decide) (Nat.le_of_ble_eq_true rfl) rfl ((congrFun V.1 355).trans s_355) (by decide) (C_X13_letters V vz8 vz8.toInt rfl (by omega) (by rw [evz1] <;> omega) (by rw [evz1, evz2] <;> omega) (by rw [evz2, evz3] <;> omega) (by rw [evz3] <;> omega) (by rw [evz5, evz1, evz2] <;> omega) (by rw [evz6] <;> omega) (fun v => vokT_row (t := vt) (c := vc) (m := 1) (by omega) vi2 (by decide) (fun vh' => absurd vh' (by decide)))) ?_
  rintro _ g ⟨vr9, rfl, hrvr90, hrvr91, V, hq, chF, vq10⟩
  have hG := hq.trans hG
  have evz3 := (chF.1 355 8 (by decide)).trans evz3
  have evz6 := (chF.1 356 4 (by decide)).trans evz6
  have hF := And.intro (vSm.tr chF.1 (vi_ vse) hF.1) (vX9.one hF.2 chF.2 (by omega))
  obtain ⟨vz11, evz11⟩ : ∃ z, Gi g 355 12 = z := ⟨_, rfl⟩
  rw [evz11] at vq10
  obtain ⟨vz12, evz12⟩ : ∃ z, Gi g 355 11 = z := ⟨_, rfl⟩
  rw [evz12] at vq10
  rw [evz3] at vq10
  obtain ⟨vz13, evz13⟩ : ∃ z, Gi g 355 13 = z := ⟨_, rfl⟩
  rw [evz13] at vq10
  refine X_istore_n (i := 2) (ls' := [some (.ref 355), some (.int x1), some (.int vr9), none]) rfl rfl rfl (Nat.le_of_ble_eq_true rfl) rfl ?_
  refine X_iload_n rfl rfl rfl rfl ?_
  refine S_if_eq (tgt := 14) rfl rfl rfl rfl (fun vh14 => ?_) (fun vh14 => ?_)
  · refine X_iconst (v := (0 : Int32)) rfl rfl rfl ?_
    refine X_istore_n (i := 3) (ls' := [some (.ref 355), some (.int x1), some (.int vr9), some (.int (0 : Int32))]) rfl rfl rfl (Nat.le_of_ble_eq_true rfl) rfl ?_
    exact (C_X13_wordClause_all (((8 - 0) * 1 + 0) + 1 : Int).toNat) _ V hG hF x1 y1 hx1 (by omega) vr9 vr9.toInt rfl (by omega) (0 : Int32) 0 (show (0 : Int32).toInt = 0 from rfl) (by omega)  (by rw [evz11] <;> omega) (by rw [evz11, evz12] <;> omega) (by rw [evz12, evz3] <;> omega) (by rw [evz3] <;> omega) (by rw [evz13, evz11, evz12] <;> omega) (by rw [evz6] <;> omega) (hq6) (by rw [evz11] <;> omega) (by omega)  (by omega)
  · refine X_iload_n rfl rfl rfl rfl ?_
    have hr := (rfl : vr9.toInt = vr9.toInt)
    exact LW_ireturn (st := []) rfl rfl rfl ⟨_, rfl, by omega, by omega, V, hG, hF, (by rw [evz11, evz12, evz3, evz13] <;> omega)⟩
set_option maxRecDepth 10000 in
set_option maxHeartbeats 40000000 in
theorem C_X13_sayClause_13 {P : Par} {vgx : Int} {g g0 : LH} {d n : Nat}  (V : InvR P g) (hG : Gr g = Gr g0) (hF : (vSm vse g g0 ∧ vX9 vgx g g0)) (x1 : Int32) (y1 : Int) (hx1 : x1.toInt = y1) (hf1 : 1 ≤ y1 ∧ y1 ≤ 2873) (x2 : Int32) (y2 : Int) (hx2 : x2.toInt = y2) (hf2 : 0 ≤ y2 ∧ y2 ≤ 2) (x3 : Int32) (y3 : Int) (hx3 : x3.toInt = y3) (hf3 : 1 ≤ y3 ∧ y3 ≤ 8) (hq0 : y2 = 0 → ((0 ≤ (Gi g 355 12).toInt) ∧ ((Gi g 355 12).toInt ≤ (Gi g 355 11).toInt) ∧ ((Gi g 355 11).toInt ≤ (Gi g 355 8).toInt) ∧ ((Gi g 355 8).toInt ≤ 300) ∧ ((Gi g 355 13).toInt = 0 ∨ (Gi g 355 12).toInt < (Gi g 355 11).toInt) ∧ ((Gi g0 355 12).toInt < (Gi g 355 12).toInt))) (hq1 : 1 ≤ y3 ∧ y3 ≤ 8) (hq2 : 0 ≤ (Gi g 356 4).toInt) (hq3 : (Gi g 355 8).toInt ≤ 300) (hq4 : 873 * (Gi g 356 4).toInt ≤ y1) (hq5 : 0 ≤ y2) (hq6 : vIX (y1)) (hq7 : y1 = vgx) (hmu : (8 - y3) * 1 + 0 < (n : Int) + 1) (ih13 : ∀ (g : LH) (V : InvR P g) (hG : Gr g = Gr g0) (hF : (vSm vse g g0 ∧ vX9 vgx g g0)) (x1 : Int32) (y1 : Int) (hx1 : x1.toInt = y1) (hf1 : 1 ≤ y1 ∧ y1 ≤ 2873) (x2 : Int32) (y2 : Int) (hx2 : x2.toInt = y2) (hf2 : 0 ≤ y2 ∧ y2 ≤ 2) (x3 : Int32) (y3 : Int) (hx3 : x3.toInt = y3) (hf3 : 1 ≤ y3 ∧ y3 ≤ 8) (hq0 : y2 = 0 → ((0 ≤ (Gi g 355 12).toInt) ∧ ((Gi g 355 12).toInt ≤ (Gi g 355 11).toInt) ∧ ((Gi g 355 11).toInt ≤ (Gi g 355 8).toInt) ∧ ((Gi g 355 8).toInt ≤ 300) ∧ ((Gi g 355 13).toInt = 0 ∨ (Gi g 355 12).toInt < (Gi g 355 11).toInt) ∧ ((Gi g0 355 12).toInt < (Gi g 355 12).toInt))) (hq1 : 1 ≤ y3 ∧ y3 ≤ 8) (hq2 : 0 ≤ (Gi g 356 4).toInt) (hq3 : (Gi g 355 8).toInt ≤ 300) (hq4 : 873 * (Gi g 356 4).toInt ≤ y1) (hq5 : 0 ≤ y2) (hq6 : vIX (y1)) (hq7 : y1 = vgx), (8 - y3) * 1 + 0 < (n : Int) → LW 227 (d + 20) 0 0 13 [some (.ref 355), some (.int x1), some (.int x2), some (.int x3)] [] g (fun v g' => ∃ r : Int32, v = some (.int r) ∧ 0 ≤ r.toInt ∧ r.toInt ≤ 8 ∧ InvR P g' ∧ Gr g' = Gr g0 ∧ (vSm vse g' g0 ∧ vX9 vgx g' g0) ∧ (r.toInt = 0 → (((Gi g0 355 12).toInt < (Gi g' 355 12).toInt) ∧ (0 ≤ (Gi g' 355 12).toInt) ∧ ((Gi g' 355 12).toInt ≤ (Gi g' 355 11).toInt) ∧ ((Gi g' 355 11).toInt ≤ (Gi g' 355 8).toInt) ∧ ((Gi g' 355 8).toInt ≤ 300) ∧ ((Gi g' 355 13).toInt = 0 ∨ (Gi g' 355 12).toInt < (Gi g' 355 11).toInt))) ∧ (r.toInt = 0 → 0 ≤ (Gi g' 358 (Int.toNat (y1 + 1))).toInt ∧ (Gi g' 358 (Int.toNat (y1 + 1))).toInt ≤ 8))) : LW 227 (d + 20) 0 0 13 [some (.ref 355), some (.int x1), some (.int x2), some (.int x3)] [] g (fun v g' => ∃ r : Int32, v = some (.int r) ∧ 0 ≤ r.toInt ∧ r.toInt ≤ 8 ∧ InvR P g' ∧ Gr g' = Gr g0 ∧ (vSm vse g' g0 ∧ vX9 vgx g' g0) ∧ (r.toInt = 0 → (((Gi g0 355 12).toInt < (Gi g' 355 12).toInt) ∧ (0 ≤ (Gi g' 355 12).toInt) ∧ ((Gi g' 355 12).toInt ≤ (Gi g' 355 11).toInt) ∧ ((Gi g' 355 11).toInt ≤ (Gi g' 355 8).toInt) ∧ ((Gi g' 355 8).toInt ≤ 300) ∧ ((Gi g' 355 13).toInt = 0 ∨ (Gi g' 355 12).toInt < (Gi g' 355 11).toInt))) ∧ (r.toInt = 0 → 0 ≤ (Gi g' 358 (Int.toNat (y1 + 1))).toInt ∧ (Gi g' 358 (Int.toNat (y1 + 1))).toInt ≤ 8)) := by
  have vix := hq6
  obtain ⟨vt, vc, vi1, vi2, vi3⟩ := vix
  obtain ⟨vz1, evz1⟩ : ∃ z, Gi g 355 12 = z := ⟨_, rfl⟩
  rw [evz1] at hq0
  obtain ⟨vz2, evz2⟩ : ∃ z, Gi g 355 11 = z := ⟨_, rfl⟩
  rw [evz2] at hq0
  obtain ⟨vz3, evz3⟩ : ∃ z, Gi g 355 8 = z := ⟨_, rfl⟩
  have vf4 := O_355_8 (V.2.2.2.2.2.2.1 355 (8) (Nat.le_of_ble_eq_true rfl))
  rw [evz3] at vf4
  rw [evz3] at hq0
  obtain ⟨vz5, evz5⟩ : ∃ z, Gi g 355 13 = z := ⟨_, rfl⟩
  rw [evz5] at hq0
  obtain ⟨vz6, evz6⟩ : ∃ z, Gi g 356 4 = z := ⟨_, rfl⟩
  have vf7 := A_TEXTS (V.2.2.2.1 (4)) (by omega)
  rw [evz6] at vf7
  rw [evz6] at hq2
  rw [evz3] at hq3
  rw [evz6] at hq4
  refine X_iload_n rfl rfl rfl rfl ?_
  refine S_if_ne (tgt := 83) rfl rfl rfl hx2 (fun vh8 => ?_) (fun vh8 => ?_)
  · refine X_aload_n rfl rfl rfl rfl ?_
    refine X_getR (a := 358) rfl rfl rfl ((congrFun V.1 355).trans s_355) rfl ((congrFun (V.2.1 355 (by decide)) 2).trans r_355_2) ?_
    refine X_iload_n rfl rfl rfl rfl ?_
    refine X_iconst (v := (1 : Int32)) rfl rfl rfl ?_
    refine S_iadd rfl rfl hx1 (show (1 : Int32).toInt = 1 from rfl) (by omega) (fun vz9 hvz9 => ?_)
    refine X_iload_n rfl rfl rfl rfl ?_
    refine S_iast (I := InvR _) rfl rfl ((congrFun V.1 358).trans s_358) rfl (by omega) (InvR_putX V (by rw [evz6] <;> omega) (vokT_row (t := vt) (c := vc) (m := 1) (by omega) vi2 (by decide) (fun vh' => absurd vh' (by decide)))) (fun g V ve10 vn11 hq => ?_)
    have hG := hq.trans hG
    have hF := And.intro (vSm.putN hF.1 vn11 (by unfold vse; omega)) (vX9.put hF.2 vn11 (by omega))
    have evz1 := (vn11 (355) 12 (Or.inl (by decide))).trans evz1
    have evz2 := (vn11 (355) 11 (Or.inl (by decide))).trans evz2
    have evz3 := (vn11 (355) 8 (Or.inl (by decide))).trans evz3
    have evz5 := (vn11 (355) 13 (Or.inl (by decide))).trans evz5
    have evz6 := (vn11 (356) 4 (Or.inl (by decide))).trans evz6
    refine X_iload_n rfl rfl rfl rfl ?_
    have hr := hx2
    exact LW_ireturn (st := []) rfl rfl rfl ⟨_, rfl, by omega, by omega, V, hG, hF, (by rw [evz1, evz2, evz3, evz5] <;> omega), (by
          intro _
          rw [show Int.toNat (y1 + 1) = Int.toNat vz9.toInt by omega, ve10]
          omega)⟩
  · refine X_aload_n rfl rfl rfl rfl ?_
    refine X_getI (v := vz5) rfl rfl rfl ((congrFun V.1 355).trans s_355) rfl evz5 ?_
    refine X_bipush (v := (44 : Int32)) rfl rfl rfl ?_
    refine S_icmp_ne (tgt := 83) rfl rfl rfl rfl (show (44 : Int32).toInt = 44 from rfl) (fun vh12 => ?_) (fun vh12 => ?_)
    · refine X_aload_n rfl rfl rfl rfl ?_
      refine X_getR (a := 358) rfl rfl rfl ((congrFun V.1 355).trans s_355) rfl ((congrFun (V.2.1 355 (by decide)) 2).trans r_355_2) ?_
      refine X_iload_n rfl rfl rfl rfl ?_
      refine X_iconst (v := (1 : Int32)) rfl rfl rfl ?_
      refine S_iadd rfl rfl hx1 (show (1 : Int32).toInt = 1 from rfl) (by omega) (fun vz13 hvz13 => ?_)
      refine X_iload_n rfl rfl rfl rfl ?_
      refine S_iast (I := InvR _) rfl rfl ((congrFun V.1 358).trans s_358) rfl (by omega) (InvR_putX V (by rw [evz6] <;> omega) (vokT_row (t := vt) (c := vc) (m := 1) (by omega) vi2 (by decide) (fun vh' => absurd vh' (by decide)))) (fun g V ve14 vn15 hq => ?_)
      have hG := hq.trans hG
      have hF := And.intro (vSm.putN hF.1 vn15 (by unfold vse; omega)) (vX9.put hF.2 vn15 (by omega))
      have evz1 := (vn15 (355) 12 (Or.inl (by decide))).trans evz1
      have evz2 := (vn15 (355) 11 (Or.inl (by decide))).trans evz2
      have evz3 := (vn15 (355) 8 (Or.inl (by decide))).trans evz3
      have evz5 := (vn15 (355) 13 (Or.inl (by decide))).trans evz5
      have evz6 := (vn15 (356) 4 (Or.inl (by decide))).trans evz6
      refine X_iload_n rfl rfl rfl rfl ?_
      have hr := hx2
      exact LW_ireturn (st := []) rfl rfl rfl ⟨_, rfl, by omega, by omega, V, hG, hF, (by rw [evz1, evz2, evz3, evz5] <;> omega), (by
            intro _
            rw [show Int.toNat (y1 + 1) = Int.toNat vz13.toInt by omega, ve14]
            omega)⟩
    · refine X_aload_n rfl rfl rfl rfl ?_
      have vo355_11 : (Gi g 355 11).toInt = vz2.toInt := congrArg Int32.toInt evz2
      refine Y_callV (as := []) (st := []) rfl rfl rfl (by decide) rfl (Nat.le_of_ble_eq_true rfl) (by decide) (Nat.le_of_ble_eq_true rfl) rfl ((congrFun V.1 355).trans s_355) (by decide) (C_X13_nextToken V  (by rw [evz2] <;> omega) (by rw [evz2, evz3] <;> omega) (by rw [evz3] <;> omega)) ?_
      rintro _ g ⟨rfl, V, hq, chF, vq17, vq18, vq19, vq20, vq21, vq22⟩
      have hG := hq.trans hG
      have evz3 := (chF 355 8 (by decide)).trans evz3
      have evz6 := (chF 356 4 (by decide)).trans evz6
      have hF := And.intro (vSm.tr chF vi_ea hF.1) (vX9.oth hF.2 (fun k => chF 358 k (Or.inl (by decide))))
      obtain ⟨vz23, evz23⟩ : ∃ z, Gi g 355 12 = z := ⟨_, rfl⟩
      rw [evz23] at vq17
      rw [evz23] at vq18
      rw [evz23] at vq19
      obtain ⟨vz24, evz24⟩ : ∃ z, Gi g 355 11 = z := ⟨_, rfl⟩
      rw [evz24] at vq19
      rw [evz24] at vq20
      rw [evz3] at vq20
      rw [evz3] at vq21
      obtain ⟨vz25, evz25⟩ : ∃ z, Gi g 355 13 = z := ⟨_, rfl⟩
      rw [evz25] at vq22
      rw [evz23] at vq22
      rw [evz24] at vq22
      refine X_iload_n rfl rfl rfl rfl ?_
      refine X_bipush (v := (8 : Int32)) rfl rfl rfl ?_
      refine S_icmp_ne (tgt := 64) rfl rfl rfl hx3 (show (8 : Int32).toInt = 8 from rfl) (fun vh26 => ?_) (fun vh26 => ?_)
      · refine X_aload_n rfl rfl rfl rfl ?_
        refine X_iload_n rfl rfl rfl rfl ?_
        refine X_iconst (v := (2 : Int32)) rfl rfl rfl ?_
        refine S_iadd rfl rfl hx1 (show (2 : Int32).toInt = 2 from rfl) (by omega) (fun vz27 hvz27 => ?_)
        refine X_iload_n rfl rfl rfl rfl ?_
        refine S_iadd rfl rfl rfl hx3 (by omega) (fun vz28 hvz28 => ?_)
        refine X_iconst (v := (0 : Int32)) rfl rfl rfl ?_
        refine X_bipush (v := (9 : Int32)) rfl rfl rfl ?_
        have vo355_12 : (Gi g 355 12).toInt = vz23.toInt := congrArg Int32.toInt evz23
        refine Y_callV (as := [.int vz28, .int (0 : Int32), .int (9 : Int32)]) (st := []) rfl rfl rfl (by decide) rfl (Nat.le_of_ble_eq_true rfl) (by decide) (Nat.le_of_ble_eq_true rfl) rfl ((congrFun V.1 355).trans s_355) (by decide) (C_X13_figure V vz28 vz28.toInt rfl (by omega) (0 : Int32) 0 (show (0 : Int32).toInt = 0 from rfl) (by omega) (9 : Int32) 9 (show (9 : Int32).toInt = 9 from rfl) (by omega) (by rw [evz23] <;> omega) (by rw [evz23, evz24] <;> omega) (by rw [evz24, evz3] <;> omega) (by rw [evz3] <;> omega) (by rw [evz25, evz23, evz24] <;> omega) (by rw [evz6] <;> omega) (fun v vha vhb => vokT_row (t := vt) (c := vc) (m := 2 + Int.toNat y3) (by omega) vi2 (by omega) (fun _ => by omega))) ?_
        rintro _ g ⟨vr29, rfl, hrvr290, hrvr291, V, hq, chF, vq30⟩
        have hG := hq.trans hG
        have evz3 := (chF.1 355 8 (by decide)).trans evz3
        have evz6 := (chF.1 356 4 (by decide)).trans evz6
        have hF := And.intro (vSm.tr chF.1 (vi_ vse) hF.1) (vX9.one hF.2 chF.2 (by omega))
        obtain ⟨vz31, evz31⟩ : ∃ z, Gi g 355 12 = z := ⟨_, rfl⟩
        rw [evz31] at vq30
        obtain ⟨vz32, evz32⟩ : ∃ z, Gi g 355 11 = z := ⟨_, rfl⟩
        rw [evz32] at vq30
        rw [evz3] at vq30
        obtain ⟨vz33, evz33⟩ : ∃ z, Gi g 355 13 = z := ⟨_, rfl⟩
        rw [evz33] at vq30
        refine X_istore_n (i := 2) (ls' := [some (.ref 355), some (.int x1), some (.int vr29), some (.int x3)]) rfl rfl rfl (Nat.le_of_ble_eq_true rfl) rfl ?_
        refine S_iinc (c := 1) rfl rfl rfl hx3 rfl (by omega) (fun vz34 hvz34 => ?_)
        refine LW_ls (ls' := [some (.ref 355), some (.int x1), some (.int vr29), some (.int vz34)]) rfl ?_
        refine LW_goto (tgt := 13) rfl rfl ?_
        exact ih13 _ V hG hF x1 y1 hx1 (by omega) vr29 vr29.toInt rfl (by omega) vz34 vz34.toInt rfl (by omega)  (by rw [evz31, evz32, evz3, evz33] <;> omega) (by omega) (by rw [evz6] <;> omega) (by rw [evz3] <;> omega) (by rw [evz6] <;> omega) (by omega) (hq6) (by omega)  (by omega)
      · refine X_aload_n rfl rfl rfl rfl ?_
        refine X_getI (v := vz25) rfl rfl rfl ((congrFun V.1 355).trans s_355) rfl evz25 ?_
        refine X_iconst (v := (1 : Int32)) rfl rfl rfl ?_
        refine S_icmp_eq (tgt := 48) rfl rfl rfl rfl (show (1 : Int32).toInt = 1 from rfl) (fun vh35 => ?_) (fun vh35 => ?_)
        · refine X_aload_n rfl rfl rfl rfl ?_
          refine S_getI rfl rfl rfl ((congrFun V.1 355).trans s_355) rfl (fun vz36 evz36 => ?_)
          refine X_bipush (v := (9 : Int32)) rfl rfl rfl ?_
          refine S_icmp_le (tgt := 61) rfl rfl rfl rfl (show (9 : Int32).toInt = 9 from rfl) (fun vh37 => ?_) (fun vh37 => ?_)
          · refine X_bipush (v := (8 : Int32)) rfl rfl rfl ?_
            exact LW_ireturn (st := []) rfl rfl rfl ⟨_, rfl, by decide, by decide, V, hG, hF, (by have vkr := (show (8 : Int32).toInt = 8 from rfl); rw [evz23, evz24, evz3, evz25] <;> omega), (fun q => absurd q (by decide))⟩
          · refine X_iconst (v := (2 : Int32)) rfl rfl rfl ?_
            refine LW_goto (tgt := 63) rfl rfl ?_
            exact LW_ireturn (st := []) rfl rfl rfl ⟨_, rfl, by decide, by decide, V, hG, hF, (by have vkr := (show (2 : Int32).toInt = 2 from rfl); rw [evz23, evz24, evz3, evz25] <;> omega), (fun q => absurd q (by decide))⟩
        · refine X_iconst (v := (1 : Int32)) rfl rfl rfl ?_
          refine LW_goto (tgt := 63) rfl rfl ?_
          exact LW_ireturn (st := []) rfl rfl rfl ⟨_, rfl, by decide, by decide, V, hG, hF, (by have vkr := (show (1 : Int32).toInt = 1 from rfl); rw [evz23, evz24, evz3, evz25] <;> omega), (fun q => absurd q (by decide))⟩
theorem C_X13_sayClause_all {P : Par} {vgx : Int} {g0 : LH} {d : Nat}  : ∀ n : Nat, (∀ (g : LH) (V : InvR P g) (hG : Gr g = Gr g0) (hF : (vSm vse g g0 ∧ vX9 vgx g g0)) (x1 : Int32) (y1 : Int) (hx1 : x1.toInt = y1) (hf1 : 1 ≤ y1 ∧ y1 ≤ 2873) (x2 : Int32) (y2 : Int) (hx2 : x2.toInt = y2) (hf2 : 0 ≤ y2 ∧ y2 ≤ 2) (x3 : Int32) (y3 : Int) (hx3 : x3.toInt = y3) (hf3 : 1 ≤ y3 ∧ y3 ≤ 8) (hq0 : y2 = 0 → ((0 ≤ (Gi g 355 12).toInt) ∧ ((Gi g 355 12).toInt ≤ (Gi g 355 11).toInt) ∧ ((Gi g 355 11).toInt ≤ (Gi g 355 8).toInt) ∧ ((Gi g 355 8).toInt ≤ 300) ∧ ((Gi g 355 13).toInt = 0 ∨ (Gi g 355 12).toInt < (Gi g 355 11).toInt) ∧ ((Gi g0 355 12).toInt < (Gi g 355 12).toInt))) (hq1 : 1 ≤ y3 ∧ y3 ≤ 8) (hq2 : 0 ≤ (Gi g 356 4).toInt) (hq3 : (Gi g 355 8).toInt ≤ 300) (hq4 : 873 * (Gi g 356 4).toInt ≤ y1) (hq5 : 0 ≤ y2) (hq6 : vIX (y1)) (hq7 : y1 = vgx), (8 - y3) * 1 + 0 < (n : Int) → LW 227 (d + 20) 0 0 13 [some (.ref 355), some (.int x1), some (.int x2), some (.int x3)] [] g (fun v g' => ∃ r : Int32, v = some (.int r) ∧ 0 ≤ r.toInt ∧ r.toInt ≤ 8 ∧ InvR P g' ∧ Gr g' = Gr g0 ∧ (vSm vse g' g0 ∧ vX9 vgx g' g0) ∧ (r.toInt = 0 → (((Gi g0 355 12).toInt < (Gi g' 355 12).toInt) ∧ (0 ≤ (Gi g' 355 12).toInt) ∧ ((Gi g' 355 12).toInt ≤ (Gi g' 355 11).toInt) ∧ ((Gi g' 355 11).toInt ≤ (Gi g' 355 8).toInt) ∧ ((Gi g' 355 8).toInt ≤ 300) ∧ ((Gi g' 355 13).toInt = 0 ∨ (Gi g' 355 12).toInt < (Gi g' 355 11).toInt))) ∧ (r.toInt = 0 → 0 ≤ (Gi g' 358 (Int.toNat (y1 + 1))).toInt ∧ (Gi g' 358 (Int.toNat (y1 + 1))).toInt ≤ 8))) := by
  intro n
  induction n with
  | zero => exact fun g V hG hF x1 y1 hx1 hf1 x2 y2 hx2 hf2 x3 y3 hx3 hf3 hq0 hq1 hq2 hq3 hq4 hq5 hq6 hq7 hmu => absurd hmu (by omega)
  | succ n ih => exact fun g V hG hF x1 y1 hx1 hf1 x2 y2 hx2 hf2 x3 y3 hx3 hf3 hq0 hq1 hq2 hq3 hq4 hq5 hq6 hq7 hmu => C_X13_sayClause_13  V hG hF x1 y1 hx1 hf1 x2 y2 hx2 hf2 x3 y3 hx3 hf3 hq0 hq1 hq2 hq3 hq4 hq5 hq6 hq7 (by omega) ih
set_option maxRecDepth 10000 in
set_option maxHeartbeats 40000000 in
theorem C_X13_sayClause {P : Par} {g : LH} {d : Nat}  (V : InvR P g) (x1 : Int32) (y1 : Int) (hx1 : x1.toInt = y1) (hf1 : 1 ≤ y1 ∧ y1 ≤ 2873) (hq0 : 0 ≤ (Gi g 355 12).toInt) (hq1 : (Gi g 355 12).toInt ≤ (Gi g 355 11).toInt) (hq2 : (Gi g 355 11).toInt ≤ (Gi g 355 8).toInt) (hq3 : (Gi g 355 8).toInt ≤ 300) (hq4 : (Gi g 355 13).toInt = 0 ∨ (Gi g 355 12).toInt < (Gi g 355 11).toInt) (hq5 : 873 * (Gi g 356 4).toInt ≤ y1) (hq6 : vIX (y1))  : LW 227 (d + 20) 0 0 0 (lEnt (mL 227) [.ref 355, .int x1]) [] g (fun v g' => ∃ r : Int32, v = some (.int r) ∧ 0 ≤ r.toInt ∧ r.toInt ≤ 8 ∧ InvR P g' ∧ Gr g' = Gr g ∧ (vSm vse g' g ∧ vX9 y1 g' g) ∧ (r.toInt = 0 → (((Gi g 355 12).toInt < (Gi g' 355 12).toInt) ∧ (0 ≤ (Gi g' 355 12).toInt) ∧ ((Gi g' 355 12).toInt ≤ (Gi g' 355 11).toInt) ∧ ((Gi g' 355 11).toInt ≤ (Gi g' 355 8).toInt) ∧ ((Gi g' 355 8).toInt ≤ 300) ∧ ((Gi g' 355 13).toInt = 0 ∨ (Gi g' 355 12).toInt < (Gi g' 355 11).toInt))) ∧ (r.toInt = 0 → 0 ≤ (Gi g' 358 (Int.toNat (y1 + 1))).toInt ∧ (Gi g' 358 (Int.toNat (y1 + 1))).toInt ≤ 8)) := by
  have vix := hq6
  obtain ⟨vt, vc, vi1, vi2, vi3⟩ := vix
  refine LW_ls (ls' := [some (.ref 355), some (.int x1), none, none]) rfl ?_
  have hG : Gr g = Gr g := rfl
  have hF : (vSm vse g g ∧ vX9 y1 g g) := And.intro vSm.refl vX9.refl
  obtain ⟨vz1, evz1⟩ : ∃ z, Gi g 355 12 = z := ⟨_, rfl⟩
  rw [evz1] at hq0
  rw [evz1] at hq1
  obtain ⟨vz2, evz2⟩ : ∃ z, Gi g 355 11 = z := ⟨_, rfl⟩
  rw [evz2] at hq1
  rw [evz2] at hq2
  obtain ⟨vz3, evz3⟩ : ∃ z, Gi g 355 8 = z := ⟨_, rfl⟩
  have vf4 := O_355_8 (V.2.2.2.2.2.2.1 355 (8) (Nat.le_of_ble_eq_true rfl))
  rw [evz3] at vf4
  rw [evz3] at hq2
  rw [evz3] at hq3
  obtain ⟨vz5, evz5⟩ : ∃ z, Gi g 355 13 = z := ⟨_, rfl⟩
  rw [evz5] at hq4
  rw [evz1] at hq4
  rw [evz2] at hq4
  obtain ⟨vz6, evz6⟩ : ∃ z, Gi g 356 4 = z := ⟨_, rfl⟩
  have vf7 := A_TEXTS (V.2.2.2.1 (4)) (by omega)
  rw [evz6] at vf7
  rw [evz6] at hq5
  have vo355_12 : (Gi g 355 12).toInt = vz1.toInt := congrArg Int32.toInt evz1
  refine X_aload_n rfl rfl rfl rfl ?_
  refine X_iload_n rfl rfl rfl rfl ?_
  refine X_iconst (v := (2 : Int32)) rfl rfl rfl ?_
  refine S_iadd rfl rfl hx1 (show (2 : Int32).toInt = 2 from rfl) (by omega) (fun vz8 hvz8 => ?_)
  refine X_iconst (v := (0 : Int32)) rfl rfl rfl ?_
  refine X_bipush (v := (9 : Int32)) rfl rfl rfl ?_
  have vo355_12 : (Gi g 355 12).toInt = vz1.toInt := congrArg Int32.toInt evz1
  refine Y_callV (as := [.int vz8, .int (0 : Int32), .int (9 : Int32)]) (st := []) rfl rfl rfl (by decide) rfl (Nat.le_of_ble_eq_true rfl) (by decide) (Nat.le_of_ble_eq_true rfl) rfl ((congrFun V.1 355).trans s_355) (by decide) (C_X13_figure V vz8 vz8.toInt rfl (by omega) (0 : Int32) 0 (show (0 : Int32).toInt = 0 from rfl) (by omega) (9 : Int32) 9 (show (9 : Int32).toInt = 9 from rfl) (by omega) (by rw [evz1] <;> omega) (by rw [evz1, evz2] <;> omega) (by rw [evz2, evz3] <;> omega) (by rw [evz3] <;> omega) (by rw [evz5, evz1, evz2] <;> omega) (by rw [evz6] <;> omega) (fun v vha vhb => vokT_row (t := vt) (c := vc) (m := 2) (by omega) vi2 (by decide) (fun _ => by omega))) ?_
  rintro _ g ⟨vr9, rfl, hrvr90, hrvr91, V, hq, chF, vq10⟩
  have hG := hq.trans hG
  have evz3 := (chF.1 355 8 (by decide)).trans evz3
  have evz6 := (chF.1 356 4 (by decide)).trans evz6
  have hF := And.intro (vSm.tr chF.1 (vi_ vse) hF.1) (vX9.one hF.2 chF.2 (by omega))
  obtain ⟨vz11, evz11⟩ : ∃ z, Gi g 355 12 = z := ⟨_, rfl⟩
  rw [evz11] at vq10
  obtain ⟨vz12, evz12⟩ : ∃ z, Gi g 355 11 = z := ⟨_, rfl⟩
  rw [evz12] at vq10
  rw [evz3] at vq10
  obtain ⟨vz13, evz13⟩ : ∃ z, Gi g 355 13 = z := ⟨_, rfl⟩
  rw [evz13] at vq10
  refine X_istore_n (i := 2) (ls' := [some (.ref 355), some (.int x1), some (.int vr9), none]) rfl rfl rfl (Nat.le_of_ble_eq_true rfl) rfl ?_
  refine X_iconst (v := (1 : Int32)) rfl rfl rfl ?_
  refine X_istore_n (i := 3) (ls' := [some (.ref 355), some (.int x1), some (.int vr9), some (.int (1 : Int32))]) rfl rfl rfl (Nat.le_of_ble_eq_true rfl) rfl ?_
  exact (C_X13_sayClause_all (((8 - 1) * 1 + 0) + 1 : Int).toNat) _ V hG hF x1 y1 hx1 (by omega) vr9 vr9.toInt rfl (by omega) (1 : Int32) 1 (show (1 : Int32).toInt = 1 from rfl) (by omega)  (by rw [evz11, evz12, evz3, evz13] <;> omega) (by omega) (by rw [evz6] <;> omega) (by rw [evz3] <;> omega) (by rw [evz6] <;> omega) (by omega) (hq6) (by omega)  (by omega)
set_option maxRecDepth 10000 in
set_option maxHeartbeats 40000000 in
theorem C_X13_tieClause {P : Par} {g : LH} {d : Nat}  (V : InvR P g) (x1 : Int32) (y1 : Int) (hx1 : x1.toInt = y1) (hf1 : 1 ≤ y1 ∧ y1 ≤ 2873) (hq0 : 0 ≤ (Gi g 355 12).toInt) (hq1 : (Gi g 355 12).toInt ≤ (Gi g 355 11).toInt) (hq2 : (Gi g 355 11).toInt ≤ (Gi g 355 8).toInt) (hq3 : (Gi g 355 8).toInt ≤ 300) (hq4 : (Gi g 355 13).toInt = 0 ∨ (Gi g 355 12).toInt < (Gi g 355 11).toInt) (hq5 : 873 * (Gi g 356 4).toInt ≤ y1) (hq6 : vIX (y1))  : LW 229 (d + 20) 0 0 0 (lEnt (mL 229) [.ref 355, .int x1]) [] g (fun v g' => ∃ r : Int32, v = some (.int r) ∧ 0 ≤ r.toInt ∧ r.toInt ≤ 7 ∧ InvR P g' ∧ Gr g' = Gr g ∧ (vSm vse g' g ∧ vX9 y1 g' g) ∧ (r.toInt = 0 → (((Gi g 355 12).toInt < (Gi g' 355 12).toInt) ∧ (0 ≤ (Gi g' 355 12).toInt) ∧ ((Gi g' 355 12).toInt ≤ (Gi g' 355 11).toInt) ∧ ((Gi g' 355 11).toInt ≤ (Gi g' 355 8).toInt) ∧ ((Gi g' 355 8).toInt ≤ 300) ∧ ((Gi g' 355 13).toInt = 0 ∨ (Gi g' 355 12).toInt < (Gi g' 355 11).toInt)))) := by
  have vix := hq6
  obtain ⟨vt, vc, vi1, vi2, vi3⟩ := vix
  refine LW_ls (ls' := [some (.ref 355), some (.int x1), none]) rfl ?_
  have hG : Gr g = Gr g := rfl
  have hF : (vSm vse g g ∧ vX9 y1 g g) := And.intro vSm.refl vX9.refl
  obtain ⟨vz1, evz1⟩ : ∃ z, Gi g 355 12 = z := ⟨_, rfl⟩
  rw [evz1] at hq0
  rw [evz1] at hq1
  obtain ⟨vz2, evz2⟩ : ∃ z, Gi g 355 11 = z := ⟨_, rfl⟩
  rw [evz2] at hq1
  rw [evz2] at hq2
  obtain ⟨vz3, evz3⟩ : ∃ z, Gi g 355 8 = z := ⟨_, rfl⟩
  have vf4 := O_355_8 (V.2.2.2.2.2.2.1 355 (8) (Nat.le_of_ble_eq_true rfl))
  rw [evz3] at vf4
  rw [evz3] at hq2
  rw [evz3] at hq3
  obtain ⟨vz5, evz5⟩ : ∃ z, Gi g 355 13 = z := ⟨_, rfl⟩
  rw [evz5] at hq4
  rw [evz1] at hq4
  rw [evz2] at hq4
  obtain ⟨vz6, evz6⟩ : ∃ z, Gi g 356 4 = z := ⟨_, rfl⟩
  have vf7 := A_TEXTS (V.2.2.2.1 (4)) (by omega)
  rw [evz6] at vf7
  rw [evz6] at hq5
  have vo355_12 : (Gi g 355 12).toInt = vz1.toInt := congrArg Int32.toInt evz1
  refine X_aload_n rfl rfl rfl rfl ?_
  refine X_iload_n rfl rfl rfl rfl ?_
  refine X_iconst (v := (1 : Int32)) rfl rfl rfl ?_
  refine S_iadd rfl rfl hx1 (show (1 : Int32).toInt = 1 from rfl) (by omega) (fun vz8 hvz8 => ?_)
  have vo355_12 : (Gi g 355 12).toInt = vz1.toInt := congrArg Int32.toInt evz1
  refine Y_callV (as := [.int vz8]) (st := []) rfl rfl rfl (by decide) rfl (Nat.le_of_ble_eq_true rfl) (by decide) (Nat.le_of_ble_eq_true rfl) rfl ((congrFun V.1 355).trans s_355) (by decide) (C_X13_letters V vz8 vz8.toInt rfl (by omega) (by rw [evz1] <;> omega) (by rw [evz1, evz2] <;> omega) (by rw [evz2, evz3] <;> omega) (by rw [evz3] <;> omega) (by rw [evz5, evz1, evz2] <;> omega) (by rw [evz6] <;> omega) (by
        exact fun v => vokT_row (t := vt) (c := vc) (m := 1) (by omega) vi2 (by decide) (fun vh' => absurd vh' (by decide)))) ?_
  rintro _ g ⟨vr9, rfl, hrvr90, hrvr91, V, hq, chF, vq10⟩
  have hG := hq.trans hG
  have evz3 := (chF.1 355 8 (by decide)).trans evz3
  have evz6 := (chF.1 356 4 (by decide)).trans evz6
  have hF := And.intro (vSm.tr chF.1 (vi_ vse) hF.1) (vX9.one hF.2 chF.2 (by omega))
  obtain ⟨vz11, evz11⟩ : ∃ z, Gi g 355 12 = z := ⟨_, rfl⟩
  rw [evz11] at vq10
  obtain ⟨vz12, evz12⟩ : ∃ z, Gi g 355 11 = z := ⟨_, rfl⟩
  rw [evz12] at vq10
  rw [evz3] at vq10
  obtain ⟨vz13, evz13⟩ : ∃ z, Gi g 355 13 = z := ⟨_, rfl⟩
  rw [evz13] at vq10
  refine X_istore_n (i := 2) (ls' := [some (.ref 355), some (.int x1), some (.int vr9)]) rfl rfl rfl (Nat.le_of_ble_eq_true rfl) rfl ?_
  refine X_iload_n rfl rfl rfl rfl ?_
  refine S_if_ne (tgt := 20) rfl rfl rfl rfl (fun vh14 => ?_) (fun vh14 => ?_)
  · refine X_iload_n rfl rfl rfl rfl ?_
    refine S_if_eq (tgt := 28) rfl rfl rfl rfl (fun q => absurd q (by omega)) (fun vh15 => ?_)
    refine X_iload_n rfl rfl rfl rfl ?_
    refine LW_goto (tgt := 35) rfl rfl ?_
    have hr := (rfl : vr9.toInt = vr9.toInt)
    exact LW_ireturn (st := []) rfl rfl rfl ⟨_, rfl, by omega, by omega, V, hG, hF, (by rw [evz11, evz12, evz3, evz13] <;> omega)⟩
  · refine X_aload_n rfl rfl rfl rfl ?_
    refine X_ldc2 (v := (29807 : Int64)) rfl rfl rfl ?_
    have vo355_12 : (Gi g 355 12).toInt = vz11.toInt := congrArg Int32.toInt evz11
    refine Y_callV (as := [.long (29807 : Int64)]) (st := []) rfl rfl rfl (by decide) rfl (Nat.le_of_ble_eq_true rfl) (by decide) (Nat.le_of_ble_eq_true rfl) rfl ((congrFun V.1 355).trans s_355) (by decide) (C_X13_need V (29807 : Int64) (by rw [evz11] <;> omega) (by rw [evz11, evz12] <;> omega) (by rw [evz12, evz3] <;> omega) (by rw [evz3] <;> omega) (by rw [evz13, evz11, evz12] <;> omega)) ?_
    rintro _ g ⟨vr16, rfl, hrvr160, hrvr161, V, hq, chF, vq17⟩
    have hG := hq.trans hG
    have evz3 := (chF 355 8 (by decide)).trans evz3
    have evz6 := (chF 356 4 (by decide)).trans evz6
    have hF := And.intro (vSm.tr chF vi_ea hF.1) (vX9.oth hF.2 (fun k => chF 358 k (Or.inl (by decide))))
    obtain ⟨vz18, evz18⟩ : ∃ z, Gi g 355 12 = z := ⟨_, rfl⟩
    rw [evz18] at vq17
    obtain ⟨vz19, evz19⟩ : ∃ z, Gi g 355 11 = z := ⟨_, rfl⟩
    rw [evz19] at vq17
    rw [evz3] at vq17
    obtain ⟨vz20, evz20⟩ : ∃ z, Gi g 355 13 = z := ⟨_, rfl⟩
    rw [evz20] at vq17
    refine X_istore_n (i := 2) (ls' := [some (.ref 355), some (.int x1), some (.int vr16)]) rfl rfl rfl (Nat.le_of_ble_eq_true rfl) rfl ?_
    refine X_iload_n rfl rfl rfl rfl ?_
    refine S_if_eq (tgt := 28) rfl rfl rfl rfl (fun vh21 => ?_) (fun vh21 => ?_)
    · refine X_aload_n rfl rfl rfl rfl ?_
      refine X_iload_n rfl rfl rfl rfl ?_
      refine X_iconst (v := (2 : Int32)) rfl rfl rfl ?_
      refine S_iadd rfl rfl hx1 (show (2 : Int32).toInt = 2 from rfl) (by omega) (fun vz22 hvz22 => ?_)
      have vo355_12 : (Gi g 355 12).toInt = vz18.toInt := congrArg Int32.toInt evz18
      refine Y_callV (as := [.int vz22]) (st := []) rfl rfl rfl (by decide) rfl (Nat.le_of_ble_eq_true rfl) (by decide) (Nat.le_of_ble_eq_true rfl) rfl ((congrFun V.1 355).trans s_355) (by decide) (C_X13_letters V vz22 vz22.toInt rfl (by omega) (by rw [evz18] <;> omega) (by rw [evz18, evz19] <;> omega) (by rw [evz19, evz3] <;> omega) (by rw [evz3] <;> omega) (by rw [evz20, evz18, evz19] <;> omega) (by rw [evz6] <;> omega) (by
            exact fun v => vokT_row (t := vt) (c := vc) (m := 2) (by omega) vi2 (by decide) (fun vh' => absurd vh' (by decide)))) ?_
      rintro _ g ⟨vr23, rfl, hrvr230, hrvr231, V, hq, chF, vq24⟩
      have hG := hq.trans hG
      have evz3 := (chF.1 355 8 (by decide)).trans evz3
      have evz6 := (chF.1 356 4 (by decide)).trans evz6
      have hF := And.intro (vSm.tr chF.1 (vi_ vse) hF.1) (vX9.one hF.2 chF.2 (by omega))
      obtain ⟨vz25, evz25⟩ : ∃ z, Gi g 355 12 = z := ⟨_, rfl⟩
      rw [evz25] at vq24
      obtain ⟨vz26, evz26⟩ : ∃ z, Gi g 355 11 = z := ⟨_, rfl⟩
      rw [evz26] at vq24
      rw [evz3] at vq24
      obtain ⟨vz27, evz27⟩ : ∃ z, Gi g 355 13 = z := ⟨_, rfl⟩
      rw [evz27] at vq24
      have hr := (rfl : vr23.toInt = vr23.toInt)
      exact LW_ireturn (st := []) rfl rfl rfl ⟨_, rfl, by omega, by omega, V, hG, hF, (by rw [evz25, evz26, evz3, evz27] <;> omega)⟩
    · refine X_iload_n rfl rfl rfl rfl ?_
      refine LW_goto (tgt := 35) rfl rfl ?_
      have hr := (rfl : vr16.toInt = vr16.toInt)
      exact LW_ireturn (st := []) rfl rfl rfl ⟨_, rfl, by omega, by omega, V, hG, hF, (by rw [evz18, evz19, evz3, evz20] <;> omega)⟩
set_option maxRecDepth 10000 in
set_option maxHeartbeats 40000000 in
theorem C_X13_raiseClause {P : Par} {g : LH} {d : Nat}  (V : InvR P g) (x1 : Int32) (y1 : Int) (hx1 : x1.toInt = y1) (hf1 : 1 ≤ y1 ∧ y1 ≤ 2873) (hq0 : 0 ≤ (Gi g 355 12).toInt) (hq1 : (Gi g 355 12).toInt ≤ (Gi g 355 11).toInt) (hq2 : (Gi g 355 11).toInt ≤ (Gi g 355 8).toInt) (hq3 : (Gi g 355 8).toInt ≤ 300) (hq4 : (Gi g 355 13).toInt = 0 ∨ (Gi g 355 12).toInt < (Gi g 355 11).toInt) (hq5 : 873 * (Gi g 356 4).toInt ≤ y1) (hq6 : vIX (y1))  : LW 230 (d + 20) 0 0 0 (lEnt (mL 230) [.ref 355, .int x1]) [] g (fun v g' => ∃ r : Int32, v = some (.int r) ∧ 0 ≤ r.toInt ∧ r.toInt ≤ 7 ∧ InvR P g' ∧ Gr g' = Gr g ∧ (vSm vse g' g ∧ vX9 y1 g' g) ∧ (r.toInt = 0 → (((Gi g 355 12).toInt < (Gi g' 355 12).toInt) ∧ (0 ≤ (Gi g' 355 12).toInt) ∧ ((Gi g' 355 12).toInt ≤ (Gi g' 355 11).toInt) ∧ ((Gi g' 355 11).toInt ≤ (Gi g' 355 8).toInt) ∧ ((Gi g' 355 8).toInt ≤ 300) ∧ ((Gi g' 355 13).toInt = 0 ∨ (Gi g' 355 12).toInt < (Gi g' 355 11).toInt)))) := by
  have vix := hq6
  obtain ⟨vt, vc, vi1, vi2, vi3⟩ := vix
  refine LW_ls (ls' := [some (.ref 355), some (.int x1), none]) rfl ?_
  have hG : Gr g = Gr g := rfl
  have hF : (vSm vse g g ∧ vX9 y1 g g) := And.intro vSm.refl vX9.refl
  obtain ⟨vz1, evz1⟩ : ∃ z, Gi g 355 12 = z := ⟨_, rfl⟩
  rw [evz1] at hq0
  rw [evz1] at hq1
  obtain ⟨vz2, evz2⟩ : ∃ z, Gi g 355 11 = z := ⟨_, rfl⟩
  rw [evz2] at hq1
  rw [evz2] at hq2
  obtain ⟨vz3, evz3⟩ : ∃ z, Gi g 355 8 = z := ⟨_, rfl⟩
  have vf4 := O_355_8 (V.2.2.2.2.2.2.1 355 (8) (Nat.le_of_ble_eq_true rfl))
  rw [evz3] at vf4
  rw [evz3] at hq2
  rw [evz3] at hq3
  obtain ⟨vz5, evz5⟩ : ∃ z, Gi g 355 13 = z := ⟨_, rfl⟩
  rw [evz5] at hq4
  rw [evz1] at hq4
  rw [evz2] at hq4
  obtain ⟨vz6, evz6⟩ : ∃ z, Gi g 356 4 = z := ⟨_, rfl⟩
  have vf7 := A_TEXTS (V.2.2.2.1 (4)) (by omega)
  rw [evz6] at vf7
  rw [evz6] at hq5
  have vo355_12 : (Gi g 355 12).toInt = vz1.toInt := congrArg Int32.toInt evz1
  refine X_aload_n rfl rfl rfl rfl ?_
  refine X_iload_n rfl rfl rfl rfl ?_
  refine X_iconst (v := (1 : Int32)) rfl rfl rfl ?_
  refine S_iadd rfl rfl hx1 (show (1 : Int32).toInt = 1 from rfl) (by omega) (fun vz8 hvz8 => ?_)
  have vo355_12 : (Gi g 355 12).toInt = vz1.toInt := congrArg Int32.toInt evz1
  refine Y_callV (as := [.int vz8]) (st := []) rfl rfl rfl (by decide) rfl (Nat.le_of_ble_eq_true rfl) (by decide) (Nat.le_of_ble_eq_true rfl) rfl ((congrFun V.1 355).trans s_355) (by decide) (C_X13_letters V vz8 vz8.toInt rfl (by omega) (by rw [evz1] <;> omega) (by rw [evz1, evz2] <;> omega) (by rw [evz2, evz3] <;> omega) (by rw [evz3] <;> omega) (by rw [evz5, evz1, evz2] <;> omega) (by rw [evz6] <;> omega) (fun v => vokT_row (t := vt) (c := vc) (m := 1) (by omega) vi2 (by decide) (fun vh' => absurd vh' (by decide)))) ?_
  rintro _ g ⟨vr9, rfl, hrvr90, hrvr91, V, hq, chF, vq10⟩
  have hG := hq.trans hG
  have evz3 := (chF.1 355 8 (by decide)).trans evz3
  have evz6 := (chF.1 356 4 (by decide)).trans evz6
  have hF := And.intro (vSm.tr chF.1 (vi_ vse) hF.1) (vX9.one hF.2 chF.2 (by omega))
  obtain ⟨vz11, evz11⟩ : ∃ z, Gi g 355 12 = z := ⟨_, rfl⟩
  rw [evz11] at vq10
  obtain ⟨vz12, evz12⟩ : ∃ z, Gi g 355 11 = z := ⟨_, rfl⟩
  rw [evz12] at vq10
  rw [evz3] at vq10
  obtain ⟨vz13, evz13⟩ : ∃ z, Gi g 355 13 = z := ⟨_, rfl⟩
  rw [evz13] at vq10
  refine X_istore_n (i := 2) (ls' := [some (.ref 355), some (.int x1), some (.int vr9)]) rfl rfl rfl (Nat.le_of_ble_eq_true rfl) rfl ?_
  refine X_iload_n rfl rfl rfl rfl ?_
  refine S_if_ne (tgt := 20) rfl rfl rfl rfl (fun vh14 => ?_) (fun vh14 => ?_)
  · refine X_iload_n rfl rfl rfl rfl ?_
    refine S_if_eq (tgt := 28) rfl rfl rfl rfl (fun q => absurd q (by omega)) (fun vh15 => ?_)
    refine X_iload_n rfl rfl rfl rfl ?_
    refine LW_goto (tgt := 38) rfl rfl ?_
    have hr := (rfl : vr9.toInt = vr9.toInt)
    exact LW_ireturn (st := []) rfl rfl rfl ⟨_, rfl, by omega, by omega, V, hG, hF, (by rw [evz11, evz12, evz3, evz13] <;> omega)⟩
  · refine X_aload_n rfl rfl rfl rfl ?_
    refine X_ldc2 (v := (25209 : Int64)) rfl rfl rfl ?_
    have vo355_12 : (Gi g 355 12).toInt = vz11.toInt := congrArg Int32.toInt evz11
    refine Y_callV (as := [.long (25209 : Int64)]) (st := []) rfl rfl rfl (by decide) rfl (Nat.le_of_ble_eq_true rfl) (by decide) (Nat.le_of_ble_eq_true rfl) rfl ((congrFun V.1 355).trans s_355) (by decide) (C_X13_need V (25209 : Int64) (by rw [evz11] <;> omega) (by rw [evz11, evz12] <;> omega) (by rw [evz12, evz3] <;> omega) (by rw [evz3] <;> omega) (by rw [evz13, evz11, evz12] <;> omega)) ?_
    rintro _ g ⟨vr16, rfl, hrvr160, hrvr161, V, hq, chF, vq17⟩
    have hG := hq.trans hG
    have evz3 := (chF 355 8 (by decide)).trans evz3
    have evz6 := (chF 356 4 (by decide)).trans evz6
    have hF := And.intro (vSm.tr chF vi_ea hF.1) (vX9.oth hF.2 (fun k => chF 358 k (Or.inl (by decide))))
    obtain ⟨vz18, evz18⟩ : ∃ z, Gi g 355 12 = z := ⟨_, rfl⟩
    rw [evz18] at vq17
    obtain ⟨vz19, evz19⟩ : ∃ z, Gi g 355 11 = z := ⟨_, rfl⟩
    rw [evz19] at vq17
    rw [evz3] at vq17
    obtain ⟨vz20, evz20⟩ : ∃ z, Gi g 355 13 = z := ⟨_, rfl⟩
    rw [evz20] at vq17
    refine X_istore_n (i := 2) (ls' := [some (.ref 355), some (.int x1), some (.int vr16)]) rfl rfl rfl (Nat.le_of_ble_eq_true rfl) rfl ?_
    refine X_iload_n rfl rfl rfl rfl ?_
    refine S_if_eq (tgt := 28) rfl rfl rfl rfl (fun vh21 => ?_) (fun vh21 => ?_)
    · refine X_aload_n rfl rfl rfl rfl ?_
      refine X_iload_n rfl rfl rfl rfl ?_
      refine X_iconst (v := (2 : Int32)) rfl rfl rfl ?_
      refine S_iadd rfl rfl hx1 (show (2 : Int32).toInt = 2 from rfl) (by omega) (fun vz22 hvz22 => ?_)
      refine X_iconst (v := (1 : Int32)) rfl rfl rfl ?_
      refine X_bipush (v := (99 : Int32)) rfl rfl rfl ?_
      have vo355_12 : (Gi g 355 12).toInt = vz18.toInt := congrArg Int32.toInt evz18
      refine Y_callV (as := [.int vz22, .int (1 : Int32), .int (99 : Int32)]) (st := []) rfl rfl rfl (by decide) rfl (Nat.le_of_ble_eq_true rfl) (by decide) (Nat.le_of_ble_eq_true rfl) rfl ((congrFun V.1 355).trans s_355) (by decide) (C_X13_figure V vz22 vz22.toInt rfl (by omega) (1 : Int32) 1 (show (1 : Int32).toInt = 1 from rfl) (by omega) (99 : Int32) 99 (show (99 : Int32).toInt = 99 from rfl) (by omega) (by rw [evz18] <;> omega) (by rw [evz18, evz19] <;> omega) (by rw [evz19, evz3] <;> omega) (by rw [evz3] <;> omega) (by rw [evz20, evz18, evz19] <;> omega) (by rw [evz6] <;> omega) (fun v vha vhb => vokT_row (t := vt) (c := vc) (m := 2) (by omega) vi2 (by decide) (fun _ => by omega))) ?_
      rintro _ g ⟨vr23, rfl, hrvr230, hrvr231, V, hq, chF, vq24⟩
      have hG := hq.trans hG
      have evz3 := (chF.1 355 8 (by decide)).trans evz3
      have evz6 := (chF.1 356 4 (by decide)).trans evz6
      have hF := And.intro (vSm.tr chF.1 (vi_ vse) hF.1) (vX9.one hF.2 chF.2 (by omega))
      obtain ⟨vz25, evz25⟩ : ∃ z, Gi g 355 12 = z := ⟨_, rfl⟩
      rw [evz25] at vq24
      obtain ⟨vz26, evz26⟩ : ∃ z, Gi g 355 11 = z := ⟨_, rfl⟩
      rw [evz26] at vq24
      rw [evz3] at vq24
      obtain ⟨vz27, evz27⟩ : ∃ z, Gi g 355 13 = z := ⟨_, rfl⟩
      rw [evz27] at vq24
      have hr := (rfl : vr23.toInt = vr23.toInt)
      exact LW_ireturn (st := []) rfl rfl rfl ⟨_, rfl, by omega, by omega, V, hG, hF, (by rw [evz25, evz26, evz3, evz27] <;> omega)⟩
    · refine X_iload_n rfl rfl rfl rfl ?_
      refine LW_goto (tgt := 38) rfl rfl ?_
      have hr := (rfl : vr16.toInt = vr16.toInt)
      exact LW_ireturn (st := []) rfl rfl rfl ⟨_, rfl, by omega, by omega, V, hG, hF, (by rw [evz18, evz19, evz3, evz20] <;> omega)⟩
set_option maxRecDepth 10000 in
set_option maxHeartbeats 40000000 in
theorem C_X13_signClause {P : Par} {g : LH} {d : Nat}  (V : InvR P g) (x1 : Int32) (y1 : Int) (hx1 : x1.toInt = y1) (hf1 : 1 ≤ y1 ∧ y1 ≤ 2873) (hq0 : 0 ≤ (Gi g 355 12).toInt) (hq1 : (Gi g 355 12).toInt ≤ (Gi g 355 11).toInt) (hq2 : (Gi g 355 11).toInt ≤ (Gi g 355 8).toInt) (hq3 : (Gi g 355 8).toInt ≤ 300) (hq4 : (Gi g 355 13).toInt = 0 ∨ (Gi g 355 12).toInt < (Gi g 355 11).toInt) (hq5 : 873 * (Gi g 356 4).toInt ≤ y1) (hq6 : vIX (y1))  : LW 228 (d + 20) 0 0 0 (lEnt (mL 228) [.ref 355, .int x1]) [] g (fun v g' => ∃ r : Int32, v = some (.int r) ∧ 0 ≤ r.toInt ∧ r.toInt ≤ 7 ∧ InvR P g' ∧ Gr g' = Gr g ∧ (vSm vse g' g ∧ vX9 y1 g' g) ∧ (r.toInt = 0 → (((Gi g 355 12).toInt < (Gi g' 355 12).toInt) ∧ (0 ≤ (Gi g' 355 12).toInt) ∧ ((Gi g' 355 12).toInt ≤ (Gi g' 355 11).toInt) ∧ ((Gi g' 355 11).toInt ≤ (Gi g' 355 8).toInt) ∧ ((Gi g' 355 8).toInt ≤ 300) ∧ ((Gi g' 355 13).toInt = 0 ∨ (Gi g' 355 12).toInt < (Gi g' 355 11).toInt)))) := by
  have vix := hq6
  obtain ⟨vt, vc, vi1, vi2, vi3⟩ := vix
  refine LW_ls (ls' := [some (.ref 355), some (.int x1), none]) rfl ?_
  have hG : Gr g = Gr g := rfl
  have hF : (vSm vse g g ∧ vX9 y1 g g) := And.intro vSm.refl vX9.refl
  obtain ⟨vz1, evz1⟩ : ∃ z, Gi g 355 12 = z := ⟨_, rfl⟩
  rw [evz1] at hq0
  rw [evz1] at hq1
  obtain ⟨vz2, evz2⟩ : ∃ z, Gi g 355 11 = z := ⟨_, rfl⟩
  rw [evz2] at hq1
  rw [evz2] at hq2
  obtain ⟨vz3, evz3⟩ : ∃ z, Gi g 355 8 = z := ⟨_, rfl⟩
  have vf4 := O_355_8 (V.2.2.2.2.2.2.1 355 (8) (Nat.le_of_ble_eq_true rfl))
  rw [evz3] at vf4
  rw [evz3] at hq2
  rw [evz3] at hq3
  obtain ⟨vz5, evz5⟩ : ∃ z, Gi g 355 13 = z := ⟨_, rfl⟩
  rw [evz5] at hq4
  rw [evz1] at hq4
  rw [evz2] at hq4
  obtain ⟨vz6, evz6⟩ : ∃ z, Gi g 356 4 = z := ⟨_, rfl⟩
  have vf7 := A_TEXTS (V.2.2.2.1 (4)) (by omega)
  rw [evz6] at vf7
  rw [evz6] at hq5
  have vo355_12 : (Gi g 355 12).toInt = vz1.toInt := congrArg Int32.toInt evz1
  refine X_aload_n rfl rfl rfl rfl ?_
  refine X_iload_n rfl rfl rfl rfl ?_
  refine X_iconst (v := (1 : Int32)) rfl rfl rfl ?_
  refine S_iadd rfl rfl hx1 (show (1 : Int32).toInt = 1 from rfl) (by omega) (fun vz8 hvz8 => ?_)
  have vo355_12 : (Gi g 355 12).toInt = vz1.toInt := congrArg Int32.toInt evz1
  refine Y_callV (as := [.int vz8]) (st := []) rfl rfl rfl (by decide) rfl (Nat.le_of_ble_eq_true rfl) (by decide) (Nat.le_of_ble_eq_true rfl) rfl ((congrFun V.1 355).trans s_355) (by decide) (C_X13_letters V vz8 vz8.toInt rfl (by omega) (by rw [evz1] <;> omega) (by rw [evz1, evz2] <;> omega) (by rw [evz2, evz3] <;> omega) (by rw [evz3] <;> omega) (by rw [evz5, evz1, evz2] <;> omega) (by rw [evz6] <;> omega) (fun v => vokT_row (t := vt) (c := vc) (m := 1) (by omega) vi2 (by decide) (fun vh' => absurd vh' (by decide)))) ?_
  rintro _ g ⟨vr9, rfl, hrvr90, hrvr91, V, hq, chF, vq10⟩
  have hG := hq.trans hG
  have evz3 := (chF.1 355 8 (by decide)).trans evz3
  have evz6 := (chF.1 356 4 (by decide)).trans evz6
  have hF := And.intro (vSm.tr chF.1 (vi_ vse) hF.1) (vX9.one hF.2 chF.2 (by omega))
  obtain ⟨vz11, evz11⟩ : ∃ z, Gi g 355 12 = z := ⟨_, rfl⟩
  rw [evz11] at vq10
  obtain ⟨vz12, evz12⟩ : ∃ z, Gi g 355 11 = z := ⟨_, rfl⟩
  rw [evz12] at vq10
  rw [evz3] at vq10
  obtain ⟨vz13, evz13⟩ : ∃ z, Gi g 355 13 = z := ⟨_, rfl⟩
  rw [evz13] at vq10
  refine X_istore_n (i := 2) (ls' := [some (.ref 355), some (.int x1), some (.int vr9)]) rfl rfl rfl (Nat.le_of_ble_eq_true rfl) rfl ?_
  refine X_iload_n rfl rfl rfl rfl ?_
  refine S_if_ne (tgt := 37) rfl rfl rfl rfl (fun vh14 => ?_) (fun vh14 => ?_)
  · refine X_iload_n rfl rfl rfl rfl ?_
    refine S_if_eq (tgt := 43) rfl rfl rfl rfl (fun q => absurd q (by omega)) (fun vh15 => ?_)
    refine X_iload_n rfl rfl rfl rfl ?_
    have hr := (rfl : vr9.toInt = vr9.toInt)
    exact LW_ireturn (st := []) rfl rfl rfl ⟨_, rfl, by omega, by omega, V, hG, hF, (by rw [evz11, evz12, evz3, evz13] <;> omega)⟩
  · refine X_aload_n rfl rfl rfl rfl ?_
    refine X_getI (v := vz13) rfl rfl rfl ((congrFun V.1 355).trans s_355) rfl evz13 ?_
    refine X_iconst (v := (2 : Int32)) rfl rfl rfl ?_
    refine S_icmp_ne (tgt := 35) rfl rfl rfl rfl (show (2 : Int32).toInt = 2 from rfl) (fun vh16 => ?_) (fun vh16 => ?_)
    · refine X_iconst (v := (1 : Int32)) rfl rfl rfl ?_
      refine X_istore_n (i := 2) (ls' := [some (.ref 355), some (.int x1), some (.int (1 : Int32))]) rfl rfl rfl (Nat.le_of_ble_eq_true rfl) rfl ?_
      refine X_iload_n rfl rfl rfl rfl ?_
      refine S_if_eq (tgt := 43) rfl rfl rfl (show (1 : Int32).toInt = 1 from rfl) (fun q => absurd q (by omega)) (fun vh17 => ?_)
      refine X_iload_n rfl rfl rfl rfl ?_
      exact LW_ireturn (st := []) rfl rfl rfl ⟨_, rfl, by decide, by decide, V, hG, hF, (by have vkr := (show (1 : Int32).toInt = 1 from rfl); rw [evz11, evz12, evz3, evz13] <;> omega)⟩
    · refine X_aload_n rfl rfl rfl rfl ?_
      refine S_getJ rfl rfl rfl ((congrFun V.1 355).trans s_355) rfl (fun vz18 => ?_)
      refine X_ldc2 (v := (24947 : Int64)) rfl rfl rfl ?_
      refine S_lcmp rfl rfl (fun vz19 hvz19 => ?_)
      refine S_if_ne (tgt := 35) rfl rfl rfl rfl (fun vh20 => ?_) (fun vh20 => ?_)
      · refine X_iconst (v := (1 : Int32)) rfl rfl rfl ?_
        refine X_istore_n (i := 2) (ls' := [some (.ref 355), some (.int x1), some (.int (1 : Int32))]) rfl rfl rfl (Nat.le_of_ble_eq_true rfl) rfl ?_
        refine X_iload_n rfl rfl rfl rfl ?_
        refine S_if_eq (tgt := 43) rfl rfl rfl (show (1 : Int32).toInt = 1 from rfl) (fun q => absurd q (by omega)) (fun vh21 => ?_)
        refine X_iload_n rfl rfl rfl rfl ?_
        exact LW_ireturn (st := []) rfl rfl rfl ⟨_, rfl, by decide, by decide, V, hG, hF, (by have vkr := (show (1 : Int32).toInt = 1 from rfl); rw [evz11, evz12, evz3, evz13] <;> omega)⟩
      · refine X_iconst (v := (0 : Int32)) rfl rfl rfl ?_
        refine LW_goto (tgt := 36) rfl rfl ?_
        refine X_istore_n (i := 2) (ls' := [some (.ref 355), some (.int x1), some (.int (0 : Int32))]) rfl rfl rfl (Nat.le_of_ble_eq_true rfl) rfl ?_
        refine X_iload_n rfl rfl rfl rfl ?_
        refine S_if_eq (tgt := 43) rfl rfl rfl (show (0 : Int32).toInt = 0 from rfl) (fun vh22 => ?_) (fun q => absurd q (by omega))
        refine X_aload_n rfl rfl rfl rfl ?_
        have vo355_11 : (Gi g 355 11).toInt = vz12.toInt := congrArg Int32.toInt evz12
        refine Y_callV (as := []) (st := []) rfl rfl rfl (by decide) rfl (Nat.le_of_ble_eq_true rfl) (by decide) (Nat.le_of_ble_eq_true rfl) rfl ((congrFun V.1 355).trans s_355) (by decide) (C_X13_nextToken V  (by rw [evz12] <;> omega) (by rw [evz12, evz3] <;> omega) (by rw [evz3] <;> omega)) ?_
        rintro _ g ⟨rfl, V, hq, chF, vq24, vq25, vq26, vq27, vq28, vq29⟩
        have hG := hq.trans hG
        have evz3 := (chF 355 8 (by decide)).trans evz3
        have evz6 := (chF 356 4 (by decide)).trans evz6
        have hF := And.intro (vSm.tr chF vi_ea hF.1) (vX9.oth hF.2 (fun k => chF 358 k (Or.inl (by decide))))
        obtain ⟨vz30, evz30⟩ : ∃ z, Gi g 355 12 = z := ⟨_, rfl⟩
        rw [evz30] at vq24
        rw [evz30] at vq25
        rw [evz30] at vq26
        obtain ⟨vz31, evz31⟩ : ∃ z, Gi g 355 11 = z := ⟨_, rfl⟩
        rw [evz31] at vq26
        rw [evz31] at vq27
        rw [evz3] at vq27
        rw [evz3] at vq28
        obtain ⟨vz32, evz32⟩ : ∃ z, Gi g 355 13 = z := ⟨_, rfl⟩
        rw [evz32] at vq29
        rw [evz30] at vq29
        rw [evz31] at vq29
        refine X_aload_n rfl rfl rfl rfl ?_
        refine X_getR (a := 358) rfl rfl rfl ((congrFun V.1 355).trans s_355) rfl ((congrFun (V.2.1 355 (by decide)) 2).trans r_355_2) ?_
        refine X_iload_n rfl rfl rfl rfl ?_
        refine X_iconst (v := (2 : Int32)) rfl rfl rfl ?_
        refine S_iadd rfl rfl hx1 (show (2 : Int32).toInt = 2 from rfl) (by omega) (fun vz33 hvz33 => ?_)
        refine X_iconst (v := (-1 : Int32)) rfl rfl rfl ?_
        refine S_iast (I := InvR _) rfl rfl ((congrFun V.1 358).trans s_358) rfl (by omega) (InvR_putX V (by rw [evz6] <;> omega) (vokT_row (t := vt) (c := vc) (m := 2) (by omega) vi2 (by decide) (fun vh' => absurd vh' (by decide)))) (fun g V ve34 vn35 hq => ?_)
        have hG := hq.trans hG
        have hF := And.intro (vSm.putN hF.1 vn35 (by unfold vse; omega)) (vX9.put hF.2 vn35 (by omega))
        have evz3 := (vn35 (355) 8 (Or.inl (by decide))).trans evz3
        have evz6 := (vn35 (356) 4 (Or.inl (by decide))).trans evz6
        have evz30 := (vn35 (355) 12 (Or.inl (by decide))).trans evz30
        have evz31 := (vn35 (355) 11 (Or.inl (by decide))).trans evz31
        have evz32 := (vn35 (355) 13 (Or.inl (by decide))).trans evz32
        refine X_aload_n rfl rfl rfl rfl ?_
        refine X_bipush (v := (110 : Int32)) rfl rfl rfl ?_
        refine X_bipush (v := (111 : Int32)) rfl rfl rfl ?_
        refine X_bipush (v := (110 : Int32)) rfl rfl rfl ?_
        refine X_bipush (v := (101 : Int32)) rfl rfl rfl ?_
        refine Y_callS (as := [.int (110 : Int32), .int (111 : Int32), .int (110 : Int32), .int (101 : Int32)]) (st := [.ref 355]) rfl rfl rfl (by decide) rfl (Nat.le_of_ble_eq_true rfl) (by decide) (Nat.le_of_ble_eq_true rfl) rfl (C_X13_w4 V (110 : Int32) 110 (show (110 : Int32).toInt = 110 from rfl) (111 : Int32) 111 (show (111 : Int32).toInt = 111 from rfl) (110 : Int32) 110 (show (110 : Int32).toInt = 110 from rfl) (101 : Int32) 101 (show (101 : Int32).toInt = 101 from rfl) ) ?_
        rintro _ g' ⟨vr36, rfl, hgg⟩
        subst hgg
        refine Y_callV (as := [.long vr36]) (st := []) rfl rfl rfl (by decide) rfl (Nat.le_of_ble_eq_true rfl) (by decide) (Nat.le_of_ble_eq_true rfl) rfl ((congrFun V.1 355).trans s_355) (by decide) (C_X13_isWord V vr36 ) ?_
        rintro _ g' ⟨vr37, rfl, hrvr370, hrvr371, hgg, vq38⟩
        subst hgg
        rw [evz32] at vq38
        refine S_if_eq (tgt := 92) rfl rfl rfl rfl (fun vh39 => ?_) (fun vh39 => ?_)
        · refine X_aload_n rfl rfl rfl rfl ?_
          refine X_iload_n rfl rfl rfl rfl ?_
          refine X_iconst (v := (2 : Int32)) rfl rfl rfl ?_
          refine S_iadd rfl rfl hx1 (show (2 : Int32).toInt = 2 from rfl) (by omega) (fun vz40 hvz40 => ?_)
          refine X_iconst (v := (0 : Int32)) rfl rfl rfl ?_
          refine X_bipush (v := (9 : Int32)) rfl rfl rfl ?_
          have vo355_12 : (Gi g 355 12).toInt = vz30.toInt := congrArg Int32.toInt evz30
          refine Y_callV (as := [.int vz40, .int (0 : Int32), .int (9 : Int32)]) (st := []) rfl rfl rfl (by decide) rfl (Nat.le_of_ble_eq_true rfl) (by decide) (Nat.le_of_ble_eq_true rfl) rfl ((congrFun V.1 355).trans s_355) (by decide) (C_X13_figure V vz40 vz40.toInt rfl (by omega) (0 : Int32) 0 (show (0 : Int32).toInt = 0 from rfl) (by omega) (9 : Int32) 9 (show (9 : Int32).toInt = 9 from rfl) (by omega) (by rw [evz30] <;> omega) (by rw [evz30, evz31] <;> omega) (by rw [evz31, evz3] <;> omega) (by rw [evz3] <;> omega) (by rw [evz32, evz30, evz31] <;> omega) (by rw [evz6] <;> omega) (fun v vha vhb => vokT_row (t := vt) (c := vc) (m := 2) (by omega) vi2 (by decide) (fun _ => by omega))) ?_
          rintro _ g ⟨vr41, rfl, hrvr410, hrvr411, V, hq, chF, vq42⟩
          have hG := hq.trans hG
          have evz3 := (chF.1 355 8 (by decide)).trans evz3
          have evz6 := (chF.1 356 4 (by decide)).trans evz6
          have hF := And.intro (vSm.tr chF.1 (vi_ vse) hF.1) (vX9.one hF.2 chF.2 (by omega))
          obtain ⟨vz43, evz43⟩ : ∃ z, Gi g 355 12 = z := ⟨_, rfl⟩
          rw [evz43] at vq42
          obtain ⟨vz44, evz44⟩ : ∃ z, Gi g 355 11 = z := ⟨_, rfl⟩
          rw [evz44] at vq42
          rw [evz3] at vq42
          obtain ⟨vz45, evz45⟩ : ∃ z, Gi g 355 13 = z := ⟨_, rfl⟩
          rw [evz45] at vq42
          have hr := (rfl : vr41.toInt = vr41.toInt)
          exact LW_ireturn (st := []) rfl rfl rfl ⟨_, rfl, by omega, by omega, V, hG, hF, (by rw [evz43, evz44, evz3, evz45] <;> omega)⟩
        · refine X_aload_n rfl rfl rfl rfl ?_
          refine X_bipush (v := (110 : Int32)) rfl rfl rfl ?_
          refine X_bipush (v := (111 : Int32)) rfl rfl rfl ?_
          refine X_bipush (v := (110 : Int32)) rfl rfl rfl ?_
          refine X_bipush (v := (101 : Int32)) rfl rfl rfl ?_
          refine Y_callS (as := [.int (110 : Int32), .int (111 : Int32), .int (110 : Int32), .int (101 : Int32)]) (st := [.ref 355]) rfl rfl rfl (by decide) rfl (Nat.le_of_ble_eq_true rfl) (by decide) (Nat.le_of_ble_eq_true rfl) rfl (C_X13_w4 V (110 : Int32) 110 (show (110 : Int32).toInt = 110 from rfl) (111 : Int32) 111 (show (111 : Int32).toInt = 111 from rfl) (110 : Int32) 110 (show (110 : Int32).toInt = 110 from rfl) (101 : Int32) 101 (show (101 : Int32).toInt = 101 from rfl) ) ?_
          rintro _ g' ⟨vr46, rfl, hgg⟩
          subst hgg
          have vo355_12 : (Gi g 355 12).toInt = vz30.toInt := congrArg Int32.toInt evz30
          refine Y_callV (as := [.long vr46]) (st := []) rfl rfl rfl (by decide) rfl (Nat.le_of_ble_eq_true rfl) (by decide) (Nat.le_of_ble_eq_true rfl) rfl ((congrFun V.1 355).trans s_355) (by decide) (C_X13_need V vr46 (by rw [evz30] <;> omega) (by rw [evz30, evz31] <;> omega) (by rw [evz31, evz3] <;> omega) (by rw [evz3] <;> omega) (by rw [evz32, evz30, evz31] <;> omega)) ?_
          rintro _ g ⟨vr47, rfl, hrvr470, hrvr471, V, hq, chF, vq48⟩
          have hG := hq.trans hG
          have evz3 := (chF 355 8 (by decide)).trans evz3
          have evz6 := (chF 356 4 (by decide)).trans evz6
          have hF := And.intro (vSm.tr chF vi_ea hF.1) (vX9.oth hF.2 (fun k => chF 358 k (Or.inl (by decide))))
          obtain ⟨vz49, evz49⟩ : ∃ z, Gi g 355 12 = z := ⟨_, rfl⟩
          rw [evz49] at vq48
          obtain ⟨vz50, evz50⟩ : ∃ z, Gi g 355 11 = z := ⟨_, rfl⟩
          rw [evz50] at vq48
          rw [evz3] at vq48
          obtain ⟨vz51, evz51⟩ : ∃ z, Gi g 355 13 = z := ⟨_, rfl⟩
          rw [evz51] at vq48
          refine LW_goto (tgt := 102) rfl rfl ?_
          have hr := (rfl : vr47.toInt = vr47.toInt)
          exact LW_ireturn (st := []) rfl rfl rfl ⟨_, rfl, by omega, by omega, V, hG, hF, (by rw [evz49, evz50, evz3, evz51] <;> omega)⟩
