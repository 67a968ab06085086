/-! the reference: a law is worked -/
theorem WS.to {g : LH} {x cdv n t i x' cdv' n' t' i' : Int} {a z m nn tt : Nat} (h : WS g x cdv n t i a z m nn tt) (h1 : x' = x) (h2 : cdv' = cdv) (h3 : n' = n) (h4 : t' = t) (h5 : i' = i) : WS g x' cdv' n' t' i' a z m nn tt := by
  subst h1 h2 h3 h4 h5
  exact h
set_option maxRecDepth 10000 in
set_option maxHeartbeats 40000000 in
theorem C_X13_clauseOf_2 {P : Par} {g : LH} {d n : Nat}  (V : InvR P g) (x1 : Int32) (y1 : Int) (hx1 : x1.toInt = y1) (x2 : Int32) (y2 : Int) (hx2 : x2.toInt = y2) (hf2 : 0 ≤ y2 ∧ y2 ≤ 24)  (hmu : (24 - y2) * 1 + 0 < (n : Int) + 1) (ih2 : ∀ (V : InvR P g) (x1 : Int32) (y1 : Int) (hx1 : x1.toInt = y1) (x2 : Int32) (y2 : Int) (hx2 : x2.toInt = y2) (hf2 : 0 ≤ y2 ∧ y2 ≤ 24) , (24 - y2) * 1 + 0 < (n : Int) → LW 242 (d + 6) 0 0 2 [some (.ref 355), some (.int x1), some (.int x2)] [] g (fun v g' => ∃ r : Int32, v = some (.int r) ∧ (-1) ≤ r.toInt ∧ r.toInt ≤ 23 ∧ g = g' ∧ (0 ≤ r.toInt → CL g (y1) r.toInt))) : LW 242 (d + 6) 0 0 2 [some (.ref 355), some (.int x1), some (.int x2)] [] g (fun v g' => ∃ r : Int32, v = some (.int r) ∧ (-1) ≤ r.toInt ∧ r.toInt ≤ 23 ∧ g = g' ∧ (0 ≤ r.toInt → CL g (y1) r.toInt)) := by
  refine X_aload_n rfl rfl rfl rfl ?_
  refine X_getR (a := 356) rfl rfl rfl ((congrFun V.1 355).trans s_355) rfl ((congrFun (V.2.1 355 (by decide)) 0).trans r_355_0) ?_
  refine X_iconst (v := (5 : Int32)) rfl rfl rfl ?_
  refine S_iald rfl rfl ((congrFun V.1 356).trans s_356) (show (5 : Int32).toInt = 5 from rfl) (by omega) (fun vz1 evz1 => ?_)
  have evz1 : Gi g 356 5 = vz1 := evz1
  have vf2 := A_TEXT (V.2.2.2.1 (5)) (by omega)
  rw [evz1] at vf2
  refine S_if_lt (tgt := 64) rfl rfl rfl rfl (fun vh3 => ?_) (fun vh3 => ?_)
  · refine X_iconst (v := (-1 : Int32)) rfl rfl rfl ?_
    exact LW_ireturn (st := []) rfl rfl rfl ⟨_, rfl, by decide, by decide, rfl, (by
        exact fun q => absurd q (by decide))⟩
  · refine X_iload_n rfl rfl rfl rfl ?_
    refine X_aload_n rfl rfl rfl rfl ?_
    refine X_getR (a := 358) rfl rfl rfl ((congrFun V.1 355).trans s_355) rfl ((congrFun (V.2.1 355 (by decide)) 2).trans r_355_2) ?_
    refine X_sipush (v := (873 : Int32)) rfl rfl rfl ?_
    refine X_aload_n rfl rfl rfl rfl ?_
    refine X_getR (a := 356) rfl rfl rfl ((congrFun V.1 355).trans s_355) rfl ((congrFun (V.2.1 355 (by decide)) 0).trans r_355_0) ?_
    refine X_iconst (v := (5 : Int32)) rfl rfl rfl ?_
    refine S_iald_v rfl rfl ((congrFun V.1 356).trans s_356) (show (5 : Int32).toInt = 5 from rfl) (by omega) evz1 ?_
    refine S_imul rfl rfl (show (873 : Int32).toInt = 873 from rfl) rfl (by omega) (fun vz5 hvz5 => ?_)
    refine S_iald rfl rfl ((congrFun V.1 358).trans s_358) rfl (by omega) (fun vz6 evz6 => ?_)
    have vf7 := (V.2.2.2.2.2.1 ((vz5.toInt : Int).toNat)).1 (by omega)
    rw [evz6] at vf7
    refine S_icmp_ge (tgt := 64) rfl rfl rfl hx2 rfl (fun vh8 => ?_) (fun vh8 => ?_)
    · refine X_iconst (v := (-1 : Int32)) rfl rfl rfl ?_
      exact LW_ireturn (st := []) rfl rfl rfl ⟨_, rfl, by decide, by decide, rfl, (by
        exact fun q => absurd q (by decide))⟩
    · refine X_aload_n rfl rfl rfl rfl ?_
      refine X_getR (a := 358) rfl rfl rfl ((congrFun V.1 355).trans s_355) rfl ((congrFun (V.2.1 355 (by decide)) 2).trans r_355_2) ?_
      refine X_sipush (v := (873 : Int32)) rfl rfl rfl ?_
      refine X_aload_n rfl rfl rfl rfl ?_
      refine X_getR (a := 356) rfl rfl rfl ((congrFun V.1 355).trans s_355) rfl ((congrFun (V.2.1 355 (by decide)) 0).trans r_355_0) ?_
      refine X_iconst (v := (5 : Int32)) rfl rfl rfl ?_
      refine S_iald_v rfl rfl ((congrFun V.1 356).trans s_356) (show (5 : Int32).toInt = 5 from rfl) (by omega) evz1 ?_
      refine S_imul rfl rfl (show (873 : Int32).toInt = 873 from rfl) rfl (by omega) (fun vz10 hvz10 => ?_)
      refine X_iconst (v := (1 : Int32)) rfl rfl rfl ?_
      refine S_iadd rfl rfl rfl (show (1 : Int32).toInt = 1 from rfl) (by omega) (fun vz11 hvz11 => ?_)
      refine X_bipush (v := (11 : Int32)) rfl rfl rfl ?_
      refine X_iload_n rfl rfl rfl rfl ?_
      refine S_imul rfl rfl (show (11 : Int32).toInt = 11 from rfl) hx2 (by omega) (fun vz12 hvz12 => ?_)
      refine S_iadd rfl rfl rfl rfl (by omega) (fun vz13 hvz13 => ?_)
      refine S_iald rfl rfl ((congrFun V.1 358).trans s_358) rfl (by omega) (fun vz14 evz14 => ?_)
      refine X_iload_n rfl rfl rfl rfl ?_
      refine S_icmp_ne (tgt := 58) rfl rfl rfl rfl hx1 (fun vh15 => ?_) (fun vh15 => ?_)
      · refine S_iinc (c := 1) rfl rfl rfl hx2 rfl (by omega) (fun vz16 hvz16 => ?_)
        refine LW_ls (ls' := [some (.ref 355), some (.int x1), some (.int vz16)]) rfl ?_
        refine LW_goto (tgt := 2) rfl rfl ?_
        exact ih2 V x1 y1 hx1 vz16 vz16.toInt rfl (by omega)    (by omega)
      · refine X_iload_n rfl rfl rfl rfl ?_
        have hr := hx2
        exact LW_ireturn (st := []) rfl rfl rfl ⟨_, rfl, by omega, by omega, rfl, (by
        intro vh
        unfold CL
        rw [evz1, show 873 * Int.toNat vz1.toInt = Int.toNat vz5.toInt by omega, evz6, show Int.toNat vz5.toInt + 1 + 11 * Int.toNat x2.toInt = Int.toNat vz13.toInt by omega, evz14]
        omega)⟩
theorem C_X13_clauseOf_all {P : Par} {g : LH} {d : Nat}  : ∀ n : Nat, (∀ (V : InvR P g) (x1 : Int32) (y1 : Int) (hx1 : x1.toInt = y1) (x2 : Int32) (y2 : Int) (hx2 : x2.toInt = y2) (hf2 : 0 ≤ y2 ∧ y2 ≤ 24) , (24 - y2) * 1 + 0 < (n : Int) → LW 242 (d + 6) 0 0 2 [some (.ref 355), some (.int x1), some (.int x2)] [] g (fun v g' => ∃ r : Int32, v = some (.int r) ∧ (-1) ≤ r.toInt ∧ r.toInt ≤ 23 ∧ g = g' ∧ (0 ≤ r.toInt → CL g (y1) r.toInt))) := by
  intro n
  induction n with
  | zero => exact fun V x1 y1 hx1 x2 y2 hx2 hf2 hmu => absurd hmu (by omega)
  | succ n ih => exact fun V x1 y1 hx1 x2 y2 hx2 hf2 hmu => C_X13_clauseOf_2  V x1 y1 hx1 x2 y2 hx2 hf2 (by omega) ih
set_option maxRecDepth 10000 in
set_option maxHeartbeats 40000000 in
theorem C_X13_clauseOf {P : Par} {g : LH} {d : Nat}  (V : InvR P g) (x1 : Int32) (y1 : Int) (hx1 : x1.toInt = y1)   : LW 242 (d + 6) 0 0 0 (lEnt (mL 242) [.ref 355, .int x1]) [] g (fun v g' => ∃ r : Int32, v = some (.int r) ∧ (-1) ≤ r.toInt ∧ r.toInt ≤ 23 ∧ g = g' ∧ (0 ≤ r.toInt → CL g (y1) r.toInt)) := by
  refine LW_ls (ls' := [some (.ref 355), some (.int x1), none]) rfl ?_
  refine X_iconst (v := (0 : Int32)) rfl rfl rfl ?_
  refine X_istore_n (i := 2) (ls' := [some (.ref 355), some (.int x1), some (.int (0 : Int32))]) rfl rfl rfl (Nat.le_of_ble_eq_true rfl) rfl ?_
  exact (C_X13_clauseOf_all (((24 - 0) * 1 + 0) + 1 : Int).toNat) V x1 y1 hx1 (0 : Int32) 0 (show (0 : Int32).toInt = 0 from rfl) (by omega)    (by omega)
set_option maxRecDepth 10000 in
set_option maxHeartbeats 40000000 in
theorem C_X13_clip {P : Par} {g : LH} {d : Nat}  (V : InvR P g) (x0 : Int64)   : LW 238 (d + 4) 0 0 0 (lEnt (mL 238) [.long x0]) [] g (fun v g' => ∃ r : Int64, v = some (.long r) ∧ g = g') := by
  refine LW_ls (ls' := [some (.long x0), none]) rfl ?_
  refine X_lload_n rfl rfl rfl rfl ?_
  refine X_ldc2 (v := (1000000 : Int64)) rfl rfl rfl ?_
  refine S_lcmp rfl rfl (fun vz1 hvz1 => ?_)
  refine S_if_le (tgt := 14) rfl rfl rfl rfl (fun vh2 => ?_) (fun vh2 => ?_)
  · refine X_lload_n rfl rfl rfl rfl ?_
    refine X_ldc2 (v := (-1000000 : Int64)) rfl rfl rfl ?_
    refine S_lcmp rfl rfl (fun vz3 hvz3 => ?_)
    refine S_if_ge (tgt := 28) rfl rfl rfl rfl (fun vh4 => ?_) (fun vh4 => ?_)
    · refine X_lload_n rfl rfl rfl rfl ?_
      exact LW_lreturn (st := []) rfl rfl ⟨_, rfl, rfl⟩
    · refine X_ldc2 (v := (-1000000 : Int64)) rfl rfl rfl ?_
      refine LW_goto (tgt := 29) rfl rfl ?_
      exact LW_lreturn (st := []) rfl rfl ⟨_, rfl, rfl⟩
  · refine X_ldc2 (v := (1000000 : Int64)) rfl rfl rfl ?_
    refine LW_goto (tgt := 29) rfl rfl ?_
    exact LW_lreturn (st := []) rfl rfl ⟨_, rfl, rfl⟩
set_option maxRecDepth 10000 in
set_option maxHeartbeats 40000000 in
theorem C_X13_two {P : Par} {g : LH} {d : Nat}  (V : InvR P g) (x0 : Int32) (y0 : Int) (hx0 : x0.toInt = y0) (hf0 : 3 ≤ y0 ∧ y0 ≤ 9) (x1 : Int64) (x3 : Int64)   : LW 239 (d + 8) 0 0 0 (lEnt (mL 239) [.int x0, .long x1, .long x3]) [] g (fun v g' => ∃ r : Int64, v = some (.long r) ∧ g = g') := by
  refine LW_ls (ls' := [some (.int x0), some (.long x1), none, some (.long x3), none]) rfl ?_
  refine X_iload_n rfl rfl rfl rfl ?_
  by_cases vh1 : y0 = 3
  · refine S_tableIn (tgt := 28) (c := 3) rfl (hx0.trans vh1) (by decide) (by decide) rfl rfl ?_
    refine X_lload_n rfl rfl rfl rfl ?_
    refine X_lload_n rfl rfl rfl rfl ?_
    refine S_laddT rfl rfl (fun vz2 => ?_)
    refine Y_callS (as := [.long vz2]) (st := []) rfl rfl rfl (by decide) rfl (Nat.le_of_ble_eq_true rfl) (by decide) (Nat.le_of_ble_eq_true rfl) rfl (C_X13_clip V vz2 ) ?_
    rintro _ g' ⟨vr3, rfl, hgg⟩
    subst hgg
    exact LW_lreturn (st := []) rfl rfl ⟨_, rfl, rfl⟩
  by_cases vh4 : y0 = 4
  · refine S_tableIn (tgt := 35) (c := 4) rfl (hx0.trans vh4) (by decide) (by decide) rfl rfl ?_
    refine X_lload_n rfl rfl rfl rfl ?_
    refine X_lload_n rfl rfl rfl rfl ?_
    refine S_lsubT rfl rfl (fun vz5 => ?_)
    refine Y_callS (as := [.long vz5]) (st := []) rfl rfl rfl (by decide) rfl (Nat.le_of_ble_eq_true rfl) (by decide) (Nat.le_of_ble_eq_true rfl) rfl (C_X13_clip V vz5 ) ?_
    rintro _ g' ⟨vr6, rfl, hgg⟩
    subst hgg
    exact LW_lreturn (st := []) rfl rfl ⟨_, rfl, rfl⟩
  by_cases vh7 : y0 = 5
  · refine S_tableIn (tgt := 42) (c := 5) rfl (hx0.trans vh7) (by decide) (by decide) rfl rfl ?_
    refine X_lload_n rfl rfl rfl rfl ?_
    refine X_lload_n rfl rfl rfl rfl ?_
    refine S_lmulT rfl rfl (fun vz8 => ?_)
    refine Y_callS (as := [.long vz8]) (st := []) rfl rfl rfl (by decide) rfl (Nat.le_of_ble_eq_true rfl) (by decide) (Nat.le_of_ble_eq_true rfl) rfl (C_X13_clip V vz8 ) ?_
    rintro _ g' ⟨vr9, rfl, hgg⟩
    subst hgg
    exact LW_lreturn (st := []) rfl rfl ⟨_, rfl, rfl⟩
  refine S_tableOut (tgt := 49) rfl hx0 (by omega) rfl ?_
  refine X_lload_n rfl rfl rfl rfl ?_
  refine X_lconst (v := (0 : Int64)) rfl rfl rfl ?_
  refine S_lcmp rfl rfl (fun vz10 hvz10 => ?_)
  refine S_if_ne (tgt := 59) rfl rfl rfl rfl (fun vh11 => ?_) (fun vh11 => ?_)
  · refine X_lload_n rfl rfl rfl rfl ?_
    refine X_lload_n rfl rfl rfl rfl ?_
    refine S_ldivT rfl rfl (fun q => absurd (hvz10.1.mpr q) (by omega)) (fun vz12 => ?_)
    refine Y_callS (as := [.long vz12]) (st := []) rfl rfl rfl (by decide) rfl (Nat.le_of_ble_eq_true rfl) (by decide) (Nat.le_of_ble_eq_true rfl) rfl (C_X13_clip V vz12 ) ?_
    rintro _ g' ⟨vr13, rfl, hgg⟩
    subst hgg
    exact LW_lreturn (st := []) rfl rfl ⟨_, rfl, rfl⟩
  · refine X_lconst (v := (0 : Int64)) rfl rfl rfl ?_
    refine LW_goto (tgt := 65) rfl rfl ?_
    exact LW_lreturn (st := []) rfl rfl ⟨_, rfl, rfl⟩
set_option maxRecDepth 10000 in
set_option maxHeartbeats 40000000 in
theorem C_X13_isAsked {P : Par} {g : LH} {d : Nat}  (V : InvR P g) (x0 : Int32) (y0 : Int) (hx0 : x0.toInt = y0) (hf0 : 10 ≤ y0 ∧ y0 ≤ 19) (x1 : Int64) (x3 : Int64)   : LW 240 (d + 8) 0 0 0 (lEnt (mL 240) [.int x0, .long x1, .long x3]) [] g (fun v g' => ∃ r : Int32, v = some (.int r) ∧ 0 ≤ r.toInt ∧ r.toInt ≤ 1 ∧ g = g') := by
  refine LW_ls (ls' := [some (.int x0), some (.long x1), none, some (.long x3), none]) rfl ?_
  refine X_iload_n rfl rfl rfl rfl ?_
  refine X_bipush (v := (10 : Int32)) rfl rfl rfl ?_
  refine S_icmp_ne (tgt := 20) rfl rfl rfl hx0 (show (10 : Int32).toInt = 10 from rfl) (fun vh1 => ?_) (fun vh1 => ?_)
  · refine X_iload_n rfl rfl rfl rfl ?_
    refine X_bipush (v := (11 : Int32)) rfl rfl rfl ?_
    refine S_icmp_ne (tgt := 40) rfl rfl rfl hx0 (show (11 : Int32).toInt = 11 from rfl) (fun vh2 => ?_) (fun vh2 => ?_)
    · refine X_iload_n rfl rfl rfl rfl ?_
      refine X_bipush (v := (12 : Int32)) rfl rfl rfl ?_
      refine S_icmp_ne (tgt := 60) rfl rfl rfl hx0 (show (12 : Int32).toInt = 12 from rfl) (fun vh3 => ?_) (fun vh3 => ?_)
      · refine X_iload_n rfl rfl rfl rfl ?_
        refine X_bipush (v := (13 : Int32)) rfl rfl rfl ?_
        refine S_icmp_ne (tgt := 80) rfl rfl rfl hx0 (show (13 : Int32).toInt = 13 from rfl) (fun vh4 => ?_) (fun vh4 => ?_)
        · refine X_iload_n rfl rfl rfl rfl ?_
          refine X_bipush (v := (14 : Int32)) rfl rfl rfl ?_
          refine S_icmp_ne (tgt := 100) rfl rfl rfl hx0 (show (14 : Int32).toInt = 14 from rfl) (fun vh5 => ?_) (fun vh5 => ?_)
          · refine X_lload_n rfl rfl rfl rfl ?_
            refine X_lload_n rfl rfl rfl rfl ?_
            refine S_lcmp rfl rfl (fun vz6 hvz6 => ?_)
            refine S_if_eq (tgt := 110) rfl rfl rfl rfl (fun vh7 => ?_) (fun vh7 => ?_)
            · refine X_iconst (v := (0 : Int32)) rfl rfl rfl ?_
              exact LW_ireturn (st := []) rfl rfl rfl ⟨_, rfl, by decide, by decide, rfl⟩
            · refine X_iconst (v := (1 : Int32)) rfl rfl rfl ?_
              refine LW_goto (tgt := 111) rfl rfl ?_
              exact LW_ireturn (st := []) rfl rfl rfl ⟨_, rfl, by decide, by decide, rfl⟩
          · refine X_lload_n rfl rfl rfl rfl ?_
            refine X_lload_n rfl rfl rfl rfl ?_
            refine S_lcmp rfl rfl (fun vz8 hvz8 => ?_)
            refine S_if_ne (tgt := 96) rfl rfl rfl rfl (fun vh9 => ?_) (fun vh9 => ?_)
            · refine X_iconst (v := (0 : Int32)) rfl rfl rfl ?_
              refine LW_goto (tgt := 111) rfl rfl ?_
              exact LW_ireturn (st := []) rfl rfl rfl ⟨_, rfl, by decide, by decide, rfl⟩
            · refine X_iconst (v := (1 : Int32)) rfl rfl rfl ?_
              refine LW_goto (tgt := 111) rfl rfl ?_
              exact LW_ireturn (st := []) rfl rfl rfl ⟨_, rfl, by decide, by decide, rfl⟩
        · refine X_lload_n rfl rfl rfl rfl ?_
          refine X_lload_n rfl rfl rfl rfl ?_
          refine S_lcmp rfl rfl (fun vz10 hvz10 => ?_)
          refine S_if_lt (tgt := 76) rfl rfl rfl rfl (fun vh11 => ?_) (fun vh11 => ?_)
          · refine X_iconst (v := (0 : Int32)) rfl rfl rfl ?_
            refine LW_goto (tgt := 111) rfl rfl ?_
            exact LW_ireturn (st := []) rfl rfl rfl ⟨_, rfl, by decide, by decide, rfl⟩
          · refine X_iconst (v := (1 : Int32)) rfl rfl rfl ?_
            refine LW_goto (tgt := 111) rfl rfl ?_
            exact LW_ireturn (st := []) rfl rfl rfl ⟨_, rfl, by decide, by decide, rfl⟩
      · refine X_lload_n rfl rfl rfl rfl ?_
        refine X_lload_n rfl rfl rfl rfl ?_
        refine S_lcmp rfl rfl (fun vz12 hvz12 => ?_)
        refine S_if_le (tgt := 56) rfl rfl rfl rfl (fun vh13 => ?_) (fun vh13 => ?_)
        · refine X_iconst (v := (0 : Int32)) rfl rfl rfl ?_
          refine LW_goto (tgt := 111) rfl rfl ?_
          exact LW_ireturn (st := []) rfl rfl rfl ⟨_, rfl, by decide, by decide, rfl⟩
        · refine X_iconst (v := (1 : Int32)) rfl rfl rfl ?_
          refine LW_goto (tgt := 111) rfl rfl ?_
          exact LW_ireturn (st := []) rfl rfl rfl ⟨_, rfl, by decide, by decide, rfl⟩
    · refine X_lload_n rfl rfl rfl rfl ?_
      refine X_lload_n rfl rfl rfl rfl ?_
      refine S_lcmp rfl rfl (fun vz14 hvz14 => ?_)
      refine S_if_gt (tgt := 36) rfl rfl rfl rfl (fun vh15 => ?_) (fun vh15 => ?_)
      · refine X_iconst (v := (0 : Int32)) rfl rfl rfl ?_
        refine LW_goto (tgt := 111) rfl rfl ?_
        exact LW_ireturn (st := []) rfl rfl rfl ⟨_, rfl, by decide, by decide, rfl⟩
      · refine X_iconst (v := (1 : Int32)) rfl rfl rfl ?_
        refine LW_goto (tgt := 111) rfl rfl ?_
        exact LW_ireturn (st := []) rfl rfl rfl ⟨_, rfl, by decide, by decide, rfl⟩
  · refine X_lload_n rfl rfl rfl rfl ?_
    refine X_lload_n rfl rfl rfl rfl ?_
    refine S_lcmp rfl rfl (fun vz16 hvz16 => ?_)
    refine S_if_ge (tgt := 16) rfl rfl rfl rfl (fun vh17 => ?_) (fun vh17 => ?_)
    · refine X_iconst (v := (0 : Int32)) rfl rfl rfl ?_
      refine LW_goto (tgt := 111) rfl rfl ?_
      exact LW_ireturn (st := []) rfl rfl rfl ⟨_, rfl, by decide, by decide, rfl⟩
    · refine X_iconst (v := (1 : Int32)) rfl rfl rfl ?_
      refine LW_goto (tgt := 111) rfl rfl ?_
      exact LW_ireturn (st := []) rfl rfl rfl ⟨_, rfl, by decide, by decide, rfl⟩
set_option maxRecDepth 10000 in
set_option maxHeartbeats 40000000 in
theorem C_X13_work_61 {P : Par} {g g0 : LH} {d n : Nat}  (V : InvR P g) (hG : Gr g = Gr g0) (hA : Gi g 356 = Gi g0 356) (x1 : Int32) (y1 : Int) (hx1 : x1.toInt = y1) (hf1 : (-1) ≤ y1 ∧ y1 ≤ 23) (x2 : Int32) (y2 : Int) (hx2 : x2.toInt = y2) (hf2 : 1 ≤ y2 ∧ y2 ≤ 2873) (x3 : Int32) (y3 : Int) (hx3 : x3.toInt = y3) (hf3 : 265 ≤ y3 ∧ y3 ≤ 2884) (x4 : Int32) (y4 : Int) (hx4 : x4.toInt = y4) (hf4 : 0 ≤ y4 ∧ y4 ≤ 872) (x5 : Int32) (y5 : Int) (hx5 : x5.toInt = y5) (hf5 : 0 ≤ y5 ∧ y5 ≤ 872) (x6 : Int32) (y6 : Int) (hx6 : x6.toInt = y6) (hf6 : 0 ≤ y6 ∧ y6 ≤ 304) (o7 : Option Value) (o8 : Option Value) (hc356_5 : (-1) ≤ (Gi g 356 5).toInt ∧ (Gi g 356 5).toInt ≤ 3) (hq0 : y3 = 873 * (Gi g 356 5).toInt + 265) (hq1 : 0 ≤ (Gi g 356 5).toInt) (hq2 : y2 = 873 * (Gi g 356 5).toInt + 1 + 11 * y1) (hq3 : 0 ≤ y1 ∧ y1 < 24) (hq4 : ∃ a z m nn tt : Nat, WS g (y2) (y3) (y4) (y5) (y6) a z m nn tt) (hmu : (304 - y6) * 1 + 0 < (n : Int) + 1) (ih61 : ∀ (g : LH) (V : InvR P g) (hG : Gr g = Gr g0) (hA : Gi g 356 = Gi g0 356) (x1 : Int32) (y1 : Int) (hx1 : x1.toInt = y1) (hf1 : (-1) ≤ y1 ∧ y1 ≤ 23) (x2 : Int32) (y2 : Int) (hx2 : x2.toInt = y2) (hf2 : 1 ≤ y2 ∧ y2 ≤ 2873) (x3 : Int32) (y3 : Int) (hx3 : x3.toInt = y3) (hf3 : 265 ≤ y3 ∧ y3 ≤ 2884) (x4 : Int32) (y4 : Int) (hx4 : x4.toInt = y4) (hf4 : 0 ≤ y4 ∧ y4 ≤ 872) (x5 : Int32) (y5 : Int) (hx5 : x5.toInt = y5) (hf5 : 0 ≤ y5 ∧ y5 ≤ 872) (x6 : Int32) (y6 : Int) (hx6 : x6.toInt = y6) (hf6 : 0 ≤ y6 ∧ y6 ≤ 304) (o7 : Option Value) (o8 : Option Value) (hc356_5 : (-1) ≤ (Gi g 356 5).toInt ∧ (Gi g 356 5).toInt ≤ 3) (hq0 : y3 = 873 * (Gi g 356 5).toInt + 265) (hq1 : 0 ≤ (Gi g 356 5).toInt) (hq2 : y2 = 873 * (Gi g 356 5).toInt + 1 + 11 * y1) (hq3 : 0 ≤ y1 ∧ y1 < 24) (hq4 : ∃ a z m nn tt : Nat, WS g (y2) (y3) (y4) (y5) (y6) a z m nn tt), (304 - y6) * 1 + 0 < (n : Int) → LW 241 (d + 14) 0 0 61 [some (.ref 355), some (.int x1), some (.int x2), some (.int x3), some (.int x4), some (.int x5), some (.int x6), o7, o8] [] g (fun v g' => v = none ∧ InvR P g' ∧ Gr g' = Gr g0 ∧ Gi g' 356 = Gi g0 356)) : LW 241 (d + 14) 0 0 61 [some (.ref 355), some (.int x1), some (.int x2), some (.int x3), some (.int x4), some (.int x5), some (.int x6), o7, o8] [] g (fun v g' => v = none ∧ InvR P g' ∧ Gr g' = Gr g0 ∧ Gi g' 356 = Gi g0 356) := by
  obtain ⟨vz1, evz1⟩ : ∃ z, Gi g 356 5 = z := ⟨_, rfl⟩
  rw [evz1] at hc356_5
  rw [evz1] at hq0
  rw [evz1] at hq1
  rw [evz1] at hq2
  refine X_iload rfl rfl rfl ?_
  refine X_aload_n rfl rfl rfl rfl ?_
  refine X_getR (a := 358) rfl rfl rfl ((congrFun V.1 355).trans s_355) rfl ((congrFun (V.2.1 355 (by decide)) 2).trans r_355_2) ?_
  refine X_iload_n rfl rfl rfl rfl ?_
  refine X_iconst (v := (2 : Int32)) rfl rfl rfl ?_
  refine S_iadd rfl rfl hx2 (show (2 : Int32).toInt = 2 from rfl) (by omega) (fun vz2 hvz2 => ?_)
  refine S_iald rfl rfl ((congrFun V.1 358).trans s_358) rfl (by omega) (fun vz3 evz3 => ?_)
  obtain ⟨vwa, vwz, vwm, vwn, vwt, vws⟩ := hq4
  have vw1 : vz3.toInt = (vwz : Int) := by
    have vw2 := vws.1
    rw [show Int.toNat (y2 + 2) = Int.toNat vz2.toInt by omega, evz3] at vw2
    exact vw2
  have vw3 := vws.2.1
  refine S_icmp_ge (tgt := 373) rfl rfl rfl hx6 rfl (fun vh4 => ?_) (fun vh4 => ?_)
  · exact LW_return (st := []) rfl rfl ⟨rfl, V, hG, hA⟩
  · refine X_aload_n rfl rfl rfl rfl ?_
    refine X_getR (a := 358) rfl rfl rfl ((congrFun V.1 355).trans s_355) rfl ((congrFun (V.2.1 355 (by decide)) 2).trans r_355_2) ?_
    refine X_iload_n rfl rfl rfl rfl ?_
    refine X_iconst (v := (2 : Int32)) rfl rfl rfl ?_
    refine X_iload rfl rfl rfl ?_
    refine S_imul rfl rfl (show (2 : Int32).toInt = 2 from rfl) hx6 (by omega) (fun vz5 hvz5 => ?_)
    refine S_iadd rfl rfl hx3 rfl (by omega) (fun vz6 hvz6 => ?_)
    refine S_iald rfl rfl ((congrFun V.1 358).trans s_358) rfl (by omega) (fun vz7 evz7 => ?_)
    refine X_istore (i := 7) (ls' := [some (.ref 355), some (.int x1), some (.int x2), some (.int x3), some (.int x4), some (.int x5), some (.int x6), some (.int vz7), o8]) rfl rfl (Nat.le_of_ble_eq_true rfl) rfl ?_
    refine X_aload_n rfl rfl rfl rfl ?_
    refine X_getR (a := 358) rfl rfl rfl ((congrFun V.1 355).trans s_355) rfl ((congrFun (V.2.1 355 (by decide)) 2).trans r_355_2) ?_
    refine X_iload_n rfl rfl rfl rfl ?_
    refine X_iconst (v := (2 : Int32)) rfl rfl rfl ?_
    refine X_iload rfl rfl rfl ?_
    refine S_imul rfl rfl (show (2 : Int32).toInt = 2 from rfl) hx6 (by omega) (fun vz8 hvz8 => ?_)
    refine S_iadd rfl rfl hx3 rfl (by omega) (fun vz9 hvz9 => ?_)
    refine X_iconst (v := (1 : Int32)) rfl rfl rfl ?_
    refine S_iadd rfl rfl rfl (show (1 : Int32).toInt = 1 from rfl) (by omega) (fun vz10 hvz10 => ?_)
    refine S_iald rfl rfl ((congrFun V.1 358).trans s_358) rfl (by omega) (fun vz11 evz11 => ?_)
    obtain ⟨vwn', vwt', vw4, vw5, vws, vw6, vw7, vw8, vwo⟩ := vws.next (by omega)
    rw [show Int.toNat y3 + 2 * Int.toNat y6 = Int.toNat vz6.toInt by omega, show Int.toNat vz6.toInt + 1 = Int.toNat vz10.toInt by omega, evz7, evz11] at vwo
    refine X_istore (i := 8) (ls' := [some (.ref 355), some (.int x1), some (.int x2), some (.int x3), some (.int x4), some (.int x5), some (.int x6), some (.int vz7), some (.int vz11)]) rfl rfl (Nat.le_of_ble_eq_true rfl) rfl ?_
    refine X_iload rfl rfl rfl ?_
    refine X_iconst (v := (1 : Int32)) rfl rfl rfl ?_
    refine S_icmp_gt (tgt := 140) rfl rfl rfl rfl (show (1 : Int32).toInt = 1 from rfl) (fun vh12 => ?_) (fun vh12 => ?_)
    · refine X_iload rfl rfl rfl ?_
      refine X_iconst (v := (2 : Int32)) rfl rfl rfl ?_
      refine S_icmp_ne (tgt := 168) rfl rfl rfl rfl (show (2 : Int32).toInt = 2 from rfl) (fun vh13 => ?_) (fun vh13 => ?_)
      · refine X_iload rfl rfl rfl ?_
        refine X_bipush (v := (10 : Int32)) rfl rfl rfl ?_
        refine S_icmp_ge (tgt := 211) rfl rfl rfl rfl (show (10 : Int32).toInt = 10 from rfl) (fun vh14 => ?_) (fun vh14 => ?_)
        · refine X_iload rfl rfl rfl ?_
          refine X_bipush (v := (20 : Int32)) rfl rfl rfl ?_
          refine S_icmp_ge (tgt := 255) rfl rfl rfl rfl (show (20 : Int32).toInt = 20 from rfl) (fun vh15 => ?_) (fun vh15 => ?_)
          · refine X_iload rfl rfl rfl ?_
            refine X_bipush (v := (20 : Int32)) rfl rfl rfl ?_
            refine S_icmp_ne (tgt := 291) rfl rfl rfl rfl (show (20 : Int32).toInt = 20 from rfl) (fun vh16 => ?_) (fun vh16 => ?_)
            · refine S_iinc (c := (-1)) rfl rfl rfl hx5 rfl (by omega) (fun vz17 hvz17 => ?_)
              refine LW_ls (ls' := [some (.ref 355), some (.int x1), some (.int x2), some (.int x3), some (.int x4), some (.int vz17), some (.int x6), some (.int vz7), some (.int vz11)]) rfl ?_
              refine X_aload_n rfl rfl rfl rfl ?_
              refine X_getR (a := 365) rfl rfl rfl ((congrFun V.1 355).trans s_355) rfl ((congrFun (V.2.1 355 (by decide)) 28).trans r_355_28) ?_
              refine X_iload rfl rfl rfl ?_
              refine X_iconst (v := (1 : Int32)) rfl rfl rfl ?_
              refine S_isub rfl rfl rfl (show (1 : Int32).toInt = 1 from rfl) (by omega) (fun vz18 hvz18 => ?_)
              refine X_iload rfl rfl rfl ?_
              refine X_bipush (v := (21 : Int32)) rfl rfl rfl ?_
              refine S_icmp_ne (tgt := 339) rfl rfl rfl rfl (show (21 : Int32).toInt = 21 from rfl) (fun vh19 => ?_) (fun vh19 => ?_)
              · refine X_aload_n rfl rfl rfl rfl ?_
                refine X_getR (a := 365) rfl rfl rfl ((congrFun V.1 355).trans s_355) rfl ((congrFun (V.2.1 355 (by decide)) 28).trans r_355_28) ?_
                refine X_iload rfl rfl rfl ?_
                refine X_iconst (v := (1 : Int32)) rfl rfl rfl ?_
                refine S_isub rfl rfl rfl (show (1 : Int32).toInt = 1 from rfl) (by omega) (fun vz20 hvz20 => ?_)
                refine S_zald rfl rfl ((congrFun V.1 365).trans s_365) rfl (by omega) (fun vz21 evz21 => ?_)
                have vf22 := O_365 (V.2.2.2.2.2.2.1 365 ((vz20.toInt : Int).toNat) (Nat.le_of_ble_eq_true rfl))
                rw [evz21] at vf22
                refine S_if_ne (tgt := 361) rfl rfl rfl rfl (fun vh23 => ?_) (fun vh23 => ?_)
                · refine X_iconst (v := (1 : Int32)) rfl rfl rfl ?_
                  refine LW_goto (tgt := 366) rfl rfl ?_
                  refine S_zastB (I := InvR _) rfl rfl ((congrFun V.1 365).trans s_365) rfl (by omega) (fun x vhx => (InvR_putO V (by decide) (show okO 365 _ _ from (show 0 ≤ x.toInt ∧ x.toInt ≤ 1 by omega)))) (fun g V vn25 hq => ?_)
                  have hG := hq.trans hG
                  have hA := (funext fun k => vn25 356 k (Or.inl (by decide))).trans hA
                  have evz1 := (vn25 (356) 5 (Or.inl (by decide))).trans evz1
                  have vws := vws.now (funext fun k => vn25 358 k (Or.inl (by decide)))
                  have evz3 := (vn25 (358) ((vz2.toInt : Int).toNat) (Or.inl (by decide))).trans evz3
                  have evz7 := (vn25 (358) ((vz6.toInt : Int).toNat) (Or.inl (by decide))).trans evz7
                  have evz11 := (vn25 (358) ((vz10.toInt : Int).toNat) (Or.inl (by decide))).trans evz11
                  refine S_iinc (c := 1) rfl rfl rfl hx6 rfl (by omega) (fun vz26 hvz26 => ?_)
                  refine LW_ls (ls' := [some (.ref 355), some (.int x1), some (.int x2), some (.int x3), some (.int x4), some (.int vz17), some (.int vz26), some (.int vz7), some (.int vz11)]) rfl ?_
                  refine LW_goto (tgt := 61) rfl rfl ?_
                  exact ih61 _ V hG hA x1 y1 hx1 (by omega) x2 y2 hx2 (by omega) x3 y3 hx3 (by omega) x4 y4 hx4 (by omega) vz17 vz17.toInt rfl (by omega) vz26 vz26.toInt rfl (by omega) (some (.int vz7)) (some (.int vz11)) (by rw [evz1]; omega) (by rw [evz1]; omega) (by rw [evz1]; omega) (by rw [evz1]; omega) (by omega) (by
        exact ⟨_, _, _, _, _, vws.to (by omega) (by omega) (by omega) (by omega) (by omega)⟩)  (by omega)
                · refine X_aload_n rfl rfl rfl rfl ?_
                  refine X_getR (a := 365) rfl rfl rfl ((congrFun V.1 355).trans s_355) rfl ((congrFun (V.2.1 355 (by decide)) 28).trans r_355_28) ?_
                  refine X_iload rfl rfl rfl ?_
                  refine S_zald rfl rfl ((congrFun V.1 365).trans s_365) rfl (by omega) (fun vz27 evz27 => ?_)
                  have vf28 := O_365 (V.2.2.2.2.2.2.1 365 ((vz17.toInt : Int).toNat) (Nat.le_of_ble_eq_true rfl))
                  rw [evz27] at vf28
                  refine S_if_eq (tgt := 365) rfl rfl rfl rfl (fun vh29 => ?_) (fun vh29 => ?_)
                  · refine X_iconst (v := (0 : Int32)) rfl rfl rfl ?_
                    refine S_zastB (I := InvR _) rfl rfl ((congrFun V.1 365).trans s_365) rfl (by omega) (fun x vhx => (InvR_putO V (by decide) (show okO 365 _ _ from (show 0 ≤ x.toInt ∧ x.toInt ≤ 1 by omega)))) (fun g V vn31 hq => ?_)
                    have hG := hq.trans hG
                    have hA := (funext fun k => vn31 356 k (Or.inl (by decide))).trans hA
                    have evz1 := (vn31 (356) 5 (Or.inl (by decide))).trans evz1
                    have vws := vws.now (funext fun k => vn31 358 k (Or.inl (by decide)))
                    have evz3 := (vn31 (358) ((vz2.toInt : Int).toNat) (Or.inl (by decide))).trans evz3
                    have evz7 := (vn31 (358) ((vz6.toInt : Int).toNat) (Or.inl (by decide))).trans evz7
                    have evz11 := (vn31 (358) ((vz10.toInt : Int).toNat) (Or.inl (by decide))).trans evz11
                    refine S_iinc (c := 1) rfl rfl rfl hx6 rfl (by omega) (fun vz32 hvz32 => ?_)
                    refine LW_ls (ls' := [some (.ref 355), some (.int x1), some (.int x2), some (.int x3), some (.int x4), some (.int vz17), some (.int vz32), some (.int vz7), some (.int vz11)]) rfl ?_
                    refine LW_goto (tgt := 61) rfl rfl ?_
                    exact ih61 _ V hG hA x1 y1 hx1 (by omega) x2 y2 hx2 (by omega) x3 y3 hx3 (by omega) x4 y4 hx4 (by omega) vz17 vz17.toInt rfl (by omega) vz32 vz32.toInt rfl (by omega) (some (.int vz7)) (some (.int vz11)) (by rw [evz1]; omega) (by rw [evz1]; omega) (by rw [evz1]; omega) (by rw [evz1]; omega) (by omega) (by
        exact ⟨_, _, _, _, _, vws.to (by omega) (by omega) (by omega) (by omega) (by omega)⟩)  (by omega)
                  · refine X_iconst (v := (1 : Int32)) rfl rfl rfl ?_
                    refine LW_goto (tgt := 366) rfl rfl ?_
                    refine S_zastB (I := InvR _) rfl rfl ((congrFun V.1 365).trans s_365) rfl (by omega) (fun x vhx => (InvR_putO V (by decide) (show okO 365 _ _ from (show 0 ≤ x.toInt ∧ x.toInt ≤ 1 by omega)))) (fun g V vn34 hq => ?_)
                    have hG := hq.trans hG
                    have hA := (funext fun k => vn34 356 k (Or.inl (by decide))).trans hA
                    have evz1 := (vn34 (356) 5 (Or.inl (by decide))).trans evz1
                    have vws := vws.now (funext fun k => vn34 358 k (Or.inl (by decide)))
                    have evz3 := (vn34 (358) ((vz2.toInt : Int).toNat) (Or.inl (by decide))).trans evz3
                    have evz7 := (vn34 (358) ((vz6.toInt : Int).toNat) (Or.inl (by decide))).trans evz7
                    have evz11 := (vn34 (358) ((vz10.toInt : Int).toNat) (Or.inl (by decide))).trans evz11
                    refine S_iinc (c := 1) rfl rfl rfl hx6 rfl (by omega) (fun vz35 hvz35 => ?_)
                    refine LW_ls (ls' := [some (.ref 355), some (.int x1), some (.int x2), some (.int x3), some (.int x4), some (.int vz17), some (.int vz35), some (.int vz7), some (.int vz11)]) rfl ?_
                    refine LW_goto (tgt := 61) rfl rfl ?_
                    exact ih61 _ V hG hA x1 y1 hx1 (by omega) x2 y2 hx2 (by omega) x3 y3 hx3 (by omega) x4 y4 hx4 (by omega) vz17 vz17.toInt rfl (by omega) vz35 vz35.toInt rfl (by omega) (some (.int vz7)) (some (.int vz11)) (by rw [evz1]; omega) (by rw [evz1]; omega) (by rw [evz1]; omega) (by rw [evz1]; omega) (by omega) (by
        exact ⟨_, _, _, _, _, vws.to (by omega) (by omega) (by omega) (by omega) (by omega)⟩)  (by omega)
              · refine X_aload_n rfl rfl rfl rfl ?_
                refine X_getR (a := 365) rfl rfl rfl ((congrFun V.1 355).trans s_355) rfl ((congrFun (V.2.1 355 (by decide)) 28).trans r_355_28) ?_
                refine X_iload rfl rfl rfl ?_
                refine X_iconst (v := (1 : Int32)) rfl rfl rfl ?_
                refine S_isub rfl rfl rfl (show (1 : Int32).toInt = 1 from rfl) (by omega) (fun vz36 hvz36 => ?_)
                refine S_zald rfl rfl ((congrFun V.1 365).trans s_365) rfl (by omega) (fun vz37 evz37 => ?_)
                have vf38 := O_365 (V.2.2.2.2.2.2.1 365 ((vz36.toInt : Int).toNat) (Nat.le_of_ble_eq_true rfl))
                rw [evz37] at vf38
                refine S_if_eq (tgt := 335) rfl rfl rfl rfl (fun vh39 => ?_) (fun vh39 => ?_)
                · refine X_iconst (v := (0 : Int32)) rfl rfl rfl ?_
                  refine LW_goto (tgt := 366) rfl rfl ?_
                  refine S_zastB (I := InvR _) rfl rfl ((congrFun V.1 365).trans s_365) rfl (by omega) (fun x vhx => (InvR_putO V (by decide) (show okO 365 _ _ from (show 0 ≤ x.toInt ∧ x.toInt ≤ 1 by omega)))) (fun g V vn41 hq => ?_)
                  have hG := hq.trans hG
                  have hA := (funext fun k => vn41 356 k (Or.inl (by decide))).trans hA
                  have evz1 := (vn41 (356) 5 (Or.inl (by decide))).trans evz1
                  have vws := vws.now (funext fun k => vn41 358 k (Or.inl (by decide)))
                  have evz3 := (vn41 (358) ((vz2.toInt : Int).toNat) (Or.inl (by decide))).trans evz3
                  have evz7 := (vn41 (358) ((vz6.toInt : Int).toNat) (Or.inl (by decide))).trans evz7
                  have evz11 := (vn41 (358) ((vz10.toInt : Int).toNat) (Or.inl (by decide))).trans evz11
                  refine S_iinc (c := 1) rfl rfl rfl hx6 rfl (by omega) (fun vz42 hvz42 => ?_)
                  refine LW_ls (ls' := [some (.ref 355), some (.int x1), some (.int x2), some (.int x3), some (.int x4), some (.int vz17), some (.int vz42), some (.int vz7), some (.int vz11)]) rfl ?_
                  refine LW_goto (tgt := 61) rfl rfl ?_
                  exact ih61 _ V hG hA x1 y1 hx1 (by omega) x2 y2 hx2 (by omega) x3 y3 hx3 (by omega) x4 y4 hx4 (by omega) vz17 vz17.toInt rfl (by omega) vz42 vz42.toInt rfl (by omega) (some (.int vz7)) (some (.int vz11)) (by rw [evz1]; omega) (by rw [evz1]; omega) (by rw [evz1]; omega) (by rw [evz1]; omega) (by omega) (by
        exact ⟨_, _, _, _, _, vws.to (by omega) (by omega) (by omega) (by omega) (by omega)⟩)  (by omega)
                · refine X_aload_n rfl rfl rfl rfl ?_
                  refine X_getR (a := 365) rfl rfl rfl ((congrFun V.1 355).trans s_355) rfl ((congrFun (V.2.1 355 (by decide)) 28).trans r_355_28) ?_
                  refine X_iload rfl rfl rfl ?_
                  refine S_zald rfl rfl ((congrFun V.1 365).trans s_365) rfl (by omega) (fun vz43 evz43 => ?_)
                  have vf44 := O_365 (V.2.2.2.2.2.2.1 365 ((vz17.toInt : Int).toNat) (Nat.le_of_ble_eq_true rfl))
                  rw [evz43] at vf44
                  refine S_if_eq (tgt := 335) rfl rfl rfl rfl (fun vh45 => ?_) (fun vh45 => ?_)
                  · refine X_iconst (v := (0 : Int32)) rfl rfl rfl ?_
                    refine LW_goto (tgt := 366) rfl rfl ?_
                    refine S_zastB (I := InvR _) rfl rfl ((congrFun V.1 365).trans s_365) rfl (by omega) (fun x vhx => (InvR_putO V (by decide) (show okO 365 _ _ from (show 0 ≤ x.toInt ∧ x.toInt ≤ 1 by omega)))) (fun g V vn47 hq => ?_)
                    have hG := hq.trans hG
                    have hA := (funext fun k => vn47 356 k (Or.inl (by decide))).trans hA
                    have evz1 := (vn47 (356) 5 (Or.inl (by decide))).trans evz1
                    have vws := vws.now (funext fun k => vn47 358 k (Or.inl (by decide)))
                    have evz3 := (vn47 (358) ((vz2.toInt : Int).toNat) (Or.inl (by decide))).trans evz3
                    have evz7 := (vn47 (358) ((vz6.toInt : Int).toNat) (Or.inl (by decide))).trans evz7
                    have evz11 := (vn47 (358) ((vz10.toInt : Int).toNat) (Or.inl (by decide))).trans evz11
                    refine S_iinc (c := 1) rfl rfl rfl hx6 rfl (by omega) (fun vz48 hvz48 => ?_)
                    refine LW_ls (ls' := [some (.ref 355), some (.int x1), some (.int x2), some (.int x3), some (.int x4), some (.int vz17), some (.int vz48), some (.int vz7), some (.int vz11)]) rfl ?_
                    refine LW_goto (tgt := 61) rfl rfl ?_
                    exact ih61 _ V hG hA x1 y1 hx1 (by omega) x2 y2 hx2 (by omega) x3 y3 hx3 (by omega) x4 y4 hx4 (by omega) vz17 vz17.toInt rfl (by omega) vz48 vz48.toInt rfl (by omega) (some (.int vz7)) (some (.int vz11)) (by rw [evz1]; omega) (by rw [evz1]; omega) (by rw [evz1]; omega) (by rw [evz1]; omega) (by omega) (by
        exact ⟨_, _, _, _, _, vws.to (by omega) (by omega) (by omega) (by omega) (by omega)⟩)  (by omega)
                  · refine X_iconst (v := (1 : Int32)) rfl rfl rfl ?_
                    refine LW_goto (tgt := 366) rfl rfl ?_
                    refine S_zastB (I := InvR _) rfl rfl ((congrFun V.1 365).trans s_365) rfl (by omega) (fun x vhx => (InvR_putO V (by decide) (show okO 365 _ _ from (show 0 ≤ x.toInt ∧ x.toInt ≤ 1 by omega)))) (fun g V vn50 hq => ?_)
                    have hG := hq.trans hG
                    have hA := (funext fun k => vn50 356 k (Or.inl (by decide))).trans hA
                    have evz1 := (vn50 (356) 5 (Or.inl (by decide))).trans evz1
                    have vws := vws.now (funext fun k => vn50 358 k (Or.inl (by decide)))
                    have evz3 := (vn50 (358) ((vz2.toInt : Int).toNat) (Or.inl (by decide))).trans evz3
                    have evz7 := (vn50 (358) ((vz6.toInt : Int).toNat) (Or.inl (by decide))).trans evz7
                    have evz11 := (vn50 (358) ((vz10.toInt : Int).toNat) (Or.inl (by decide))).trans evz11
                    refine S_iinc (c := 1) rfl rfl rfl hx6 rfl (by omega) (fun vz51 hvz51 => ?_)
                    refine LW_ls (ls' := [some (.ref 355), some (.int x1), some (.int x2), some (.int x3), some (.int x4), some (.int vz17), some (.int vz51), some (.int vz7), some (.int vz11)]) rfl ?_
                    refine LW_goto (tgt := 61) rfl rfl ?_
                    exact ih61 _ V hG hA x1 y1 hx1 (by omega) x2 y2 hx2 (by omega) x3 y3 hx3 (by omega) x4 y4 hx4 (by omega) vz17 vz17.toInt rfl (by omega) vz51 vz51.toInt rfl (by omega) (some (.int vz7)) (some (.int vz11)) (by rw [evz1]; omega) (by rw [evz1]; omega) (by rw [evz1]; omega) (by rw [evz1]; omega) (by omega) (by
        exact ⟨_, _, _, _, _, vws.to (by omega) (by omega) (by omega) (by omega) (by omega)⟩)  (by omega)
            · refine X_aload_n rfl rfl rfl rfl ?_
              refine X_getR (a := 365) rfl rfl rfl ((congrFun V.1 355).trans s_355) rfl ((congrFun (V.2.1 355 (by decide)) 28).trans r_355_28) ?_
              refine X_iload rfl rfl rfl ?_
              refine X_iconst (v := (1 : Int32)) rfl rfl rfl ?_
              refine S_isub rfl rfl hx5 (show (1 : Int32).toInt = 1 from rfl) (by omega) (fun vz52 hvz52 => ?_)
              refine X_aload_n rfl rfl rfl rfl ?_
              refine X_getR (a := 365) rfl rfl rfl ((congrFun V.1 355).trans s_355) rfl ((congrFun (V.2.1 355 (by decide)) 28).trans r_355_28) ?_
              refine X_iload rfl rfl rfl ?_
              refine X_iconst (v := (1 : Int32)) rfl rfl rfl ?_
              refine S_isub rfl rfl hx5 (show (1 : Int32).toInt = 1 from rfl) (by omega) (fun vz53 hvz53 => ?_)
              refine S_zald rfl rfl ((congrFun V.1 365).trans s_365) rfl (by omega) (fun vz54 evz54 => ?_)
              have vf55 := O_365 (V.2.2.2.2.2.2.1 365 ((vz53.toInt : Int).toNat) (Nat.le_of_ble_eq_true rfl))
              rw [evz54] at vf55
              refine S_if_ne (tgt := 286) rfl rfl rfl rfl (fun vh56 => ?_) (fun vh56 => ?_)
              · refine X_iconst (v := (0 : Int32)) rfl rfl rfl ?_
                refine S_zastB (I := InvR _) rfl rfl ((congrFun V.1 365).trans s_365) rfl (by omega) (fun x vhx => (InvR_putO V (by decide) (show okO 365 _ _ from (show 0 ≤ x.toInt ∧ x.toInt ≤ 1 by omega)))) (fun g V vn58 hq => ?_)
                have hG := hq.trans hG
                have hA := (funext fun k => vn58 356 k (Or.inl (by decide))).trans hA
                have evz1 := (vn58 (356) 5 (Or.inl (by decide))).trans evz1
                have vws := vws.now (funext fun k => vn58 358 k (Or.inl (by decide)))
                have evz3 := (vn58 (358) ((vz2.toInt : Int).toNat) (Or.inl (by decide))).trans evz3
                have evz7 := (vn58 (358) ((vz6.toInt : Int).toNat) (Or.inl (by decide))).trans evz7
                have evz11 := (vn58 (358) ((vz10.toInt : Int).toNat) (Or.inl (by decide))).trans evz11
                refine LW_goto (tgt := 367) rfl rfl ?_
                refine S_iinc (c := 1) rfl rfl rfl hx6 rfl (by omega) (fun vz59 hvz59 => ?_)
                refine LW_ls (ls' := [some (.ref 355), some (.int x1), some (.int x2), some (.int x3), some (.int x4), some (.int x5), some (.int vz59), some (.int vz7), some (.int vz11)]) rfl ?_
                refine LW_goto (tgt := 61) rfl rfl ?_
                exact ih61 _ V hG hA x1 y1 hx1 (by omega) x2 y2 hx2 (by omega) x3 y3 hx3 (by omega) x4 y4 hx4 (by omega) x5 y5 hx5 (by omega) vz59 vz59.toInt rfl (by omega) (some (.int vz7)) (some (.int vz11)) (by rw [evz1]; omega) (by rw [evz1]; omega) (by rw [evz1]; omega) (by rw [evz1]; omega) (by omega) (by
        exact ⟨_, _, _, _, _, vws.to (by omega) (by omega) (by omega) (by omega) (by omega)⟩)  (by omega)
              · refine X_iconst (v := (1 : Int32)) rfl rfl rfl ?_
                refine LW_goto (tgt := 287) rfl rfl ?_
                refine S_zastB (I := InvR _) rfl rfl ((congrFun V.1 365).trans s_365) rfl (by omega) (fun x vhx => (InvR_putO V (by decide) (show okO 365 _ _ from (show 0 ≤ x.toInt ∧ x.toInt ≤ 1 by omega)))) (fun g V vn61 hq => ?_)
                have hG := hq.trans hG
                have hA := (funext fun k => vn61 356 k (Or.inl (by decide))).trans hA
                have evz1 := (vn61 (356) 5 (Or.inl (by decide))).trans evz1
                have vws := vws.now (funext fun k => vn61 358 k (Or.inl (by decide)))
                have evz3 := (vn61 (358) ((vz2.toInt : Int).toNat) (Or.inl (by decide))).trans evz3
                have evz7 := (vn61 (358) ((vz6.toInt : Int).toNat) (Or.inl (by decide))).trans evz7
                have evz11 := (vn61 (358) ((vz10.toInt : Int).toNat) (Or.inl (by decide))).trans evz11
                refine LW_goto (tgt := 367) rfl rfl ?_
                refine S_iinc (c := 1) rfl rfl rfl hx6 rfl (by omega) (fun vz62 hvz62 => ?_)
                refine LW_ls (ls' := [some (.ref 355), some (.int x1), some (.int x2), some (.int x3), some (.int x4), some (.int x5), some (.int vz62), some (.int vz7), some (.int vz11)]) rfl ?_
                refine LW_goto (tgt := 61) rfl rfl ?_
                exact ih61 _ V hG hA x1 y1 hx1 (by omega) x2 y2 hx2 (by omega) x3 y3 hx3 (by omega) x4 y4 hx4 (by omega) x5 y5 hx5 (by omega) vz62 vz62.toInt rfl (by omega) (some (.int vz7)) (some (.int vz11)) (by rw [evz1]; omega) (by rw [evz1]; omega) (by rw [evz1]; omega) (by rw [evz1]; omega) (by omega) (by
        exact ⟨_, _, _, _, _, vws.to (by omega) (by omega) (by omega) (by omega) (by omega)⟩)  (by omega)
          · refine S_iinc (c := (-2)) rfl rfl rfl hx4 rfl (by omega) (fun vz63 hvz63 => ?_)
            refine LW_ls (ls' := [some (.ref 355), some (.int x1), some (.int x2), some (.int x3), some (.int vz63), some (.int x5), some (.int x6), some (.int vz7), some (.int vz11)]) rfl ?_
            refine X_aload_n rfl rfl rfl rfl ?_
            refine X_getR (a := 365) rfl rfl rfl ((congrFun V.1 355).trans s_355) rfl ((congrFun (V.2.1 355 (by decide)) 28).trans r_355_28) ?_
            refine X_iload rfl rfl rfl ?_
            refine X_iload rfl rfl rfl ?_
            refine X_aload_n rfl rfl rfl rfl ?_
            refine X_getR (a := 364) rfl rfl rfl ((congrFun V.1 355).trans s_355) rfl ((congrFun (V.2.1 355 (by decide)) 27).trans r_355_27) ?_
            refine X_iload rfl rfl rfl ?_
            refine S_lald rfl rfl ((congrFun V.1 364).trans s_364) rfl (by omega) (fun vz64 => ?_)
            refine X_aload_n rfl rfl rfl rfl ?_
            refine X_getR (a := 364) rfl rfl rfl ((congrFun V.1 355).trans s_355) rfl ((congrFun (V.2.1 355 (by decide)) 27).trans r_355_27) ?_
            refine X_iload rfl rfl rfl ?_
            refine X_iconst (v := (1 : Int32)) rfl rfl rfl ?_
            refine S_iadd rfl rfl rfl (show (1 : Int32).toInt = 1 from rfl) (by omega) (fun vz65 hvz65 => ?_)
            refine S_lald rfl rfl ((congrFun V.1 364).trans s_364) rfl (by omega) (fun vz66 => ?_)
            refine Y_callS (as := [.int vz7, .long vz64, .long vz66]) (st := [.int x5, .ref 365]) rfl rfl rfl (by decide) rfl (Nat.le_of_ble_eq_true rfl) (by decide) (Nat.le_of_ble_eq_true rfl) rfl (C_X13_isAsked V vz7 vz7.toInt rfl (by omega) vz64 vz66 ) ?_
            rintro _ g' ⟨vr67, rfl, hrvr670, hrvr671, hgg⟩
            subst hgg
            refine S_zastB (I := InvR _) rfl rfl ((congrFun V.1 365).trans s_365) hx5 (by omega) (fun x vhx => (InvR_putO V (by decide) (show okO 365 _ _ from (show 0 ≤ x.toInt ∧ x.toInt ≤ 1 by omega)))) (fun g V vn69 hq => ?_)
            have hG := hq.trans hG
            have hA := (funext fun k => vn69 356 k (Or.inl (by decide))).trans hA
            have evz1 := (vn69 (356) 5 (Or.inl (by decide))).trans evz1
            have vws := vws.now (funext fun k => vn69 358 k (Or.inl (by decide)))
            have evz3 := (vn69 (358) ((vz2.toInt : Int).toNat) (Or.inl (by decide))).trans evz3
            have evz7 := (vn69 (358) ((vz6.toInt : Int).toNat) (Or.inl (by decide))).trans evz7
            have evz11 := (vn69 (358) ((vz10.toInt : Int).toNat) (Or.inl (by decide))).trans evz11
            refine S_iinc (c := 1) rfl rfl rfl hx5 rfl (by omega) (fun vz70 hvz70 => ?_)
            refine LW_ls (ls' := [some (.ref 355), some (.int x1), some (.int x2), some (.int x3), some (.int vz63), some (.int vz70), some (.int x6), some (.int vz7), some (.int vz11)]) rfl ?_
            refine LW_goto (tgt := 367) rfl rfl ?_
            refine S_iinc (c := 1) rfl rfl rfl hx6 rfl (by omega) (fun vz71 hvz71 => ?_)
            refine LW_ls (ls' := [some (.ref 355), some (.int x1), some (.int x2), some (.int x3), some (.int vz63), some (.int vz70), some (.int vz71), some (.int vz7), some (.int vz11)]) rfl ?_
            refine LW_goto (tgt := 61) rfl rfl ?_
            exact ih61 _ V hG hA x1 y1 hx1 (by omega) x2 y2 hx2 (by omega) x3 y3 hx3 (by omega) vz63 vz63.toInt rfl (by omega) vz70 vz70.toInt rfl (by omega) vz71 vz71.toInt rfl (by omega) (some (.int vz7)) (some (.int vz11)) (by rw [evz1]; omega) (by rw [evz1]; omega) (by rw [evz1]; omega) (by rw [evz1]; omega) (by omega) (by
        exact ⟨_, _, _, _, _, vws.to (by omega) (by omega) (by omega) (by omega) (by omega)⟩)  (by omega)
        · refine S_iinc (c := (-1)) rfl rfl rfl hx4 rfl (by omega) (fun vz72 hvz72 => ?_)
          refine LW_ls (ls' := [some (.ref 355), some (.int x1), some (.int x2), some (.int x3), some (.int vz72), some (.int x5), some (.int x6), some (.int vz7), some (.int vz11)]) rfl ?_
          refine X_aload_n rfl rfl rfl rfl ?_
          refine X_getR (a := 364) rfl rfl rfl ((congrFun V.1 355).trans s_355) rfl ((congrFun (V.2.1 355 (by decide)) 27).trans r_355_27) ?_
          refine X_iload rfl rfl rfl ?_
          refine X_iconst (v := (1 : Int32)) rfl rfl rfl ?_
          refine S_isub rfl rfl rfl (show (1 : Int32).toInt = 1 from rfl) (by omega) (fun vz73 hvz73 => ?_)
          refine X_iload rfl rfl rfl ?_
          refine X_aload_n rfl rfl rfl rfl ?_
          refine X_getR (a := 364) rfl rfl rfl ((congrFun V.1 355).trans s_355) rfl ((congrFun (V.2.1 355 (by decide)) 27).trans r_355_27) ?_
          refine X_iload rfl rfl rfl ?_
          refine X_iconst (v := (1 : Int32)) rfl rfl rfl ?_
          refine S_isub rfl rfl rfl (show (1 : Int32).toInt = 1 from rfl) (by omega) (fun vz74 hvz74 => ?_)
          refine S_lald rfl rfl ((congrFun V.1 364).trans s_364) rfl (by omega) (fun vz75 => ?_)
          refine X_aload_n rfl rfl rfl rfl ?_
          refine X_getR (a := 364) rfl rfl rfl ((congrFun V.1 355).trans s_355) rfl ((congrFun (V.2.1 355 (by decide)) 27).trans r_355_27) ?_
          refine X_iload rfl rfl rfl ?_
          refine S_lald rfl rfl ((congrFun V.1 364).trans s_364) rfl (by omega) (fun vz76 => ?_)
          refine Y_callS (as := [.int vz7, .long vz75, .long vz76]) (st := [.int vz73, .ref 364]) rfl rfl rfl (by decide) rfl (Nat.le_of_ble_eq_true rfl) (by decide) (Nat.le_of_ble_eq_true rfl) rfl (C_X13_two V vz7 vz7.toInt rfl (by omega) vz75 vz76 ) ?_
          rintro _ g' ⟨vr77, rfl, hgg⟩
          subst hgg
          refine S_last (I := InvR _) rfl rfl ((congrFun V.1 364).trans s_364) rfl (by omega) (fun _ => V) (fun g V vn78 hq => ?_)
          have hG := hq.trans hG
          have evz1 := (vn78 (356) 5).trans evz1
          have vws := vws.now (funext fun k => vn78 358 k)
          have hA := (funext fun k => vn78 356 k).trans hA
          refine LW_goto (tgt := 367) rfl rfl ?_
          refine S_iinc (c := 1) rfl rfl rfl hx6 rfl (by omega) (fun vz79 hvz79 => ?_)
          refine LW_ls (ls' := [some (.ref 355), some (.int x1), some (.int x2), some (.int x3), some (.int vz72), some (.int x5), some (.int vz79), some (.int vz7), some (.int vz11)]) rfl ?_
          refine LW_goto (tgt := 61) rfl rfl ?_
          exact ih61 _ V hG hA x1 y1 hx1 (by omega) x2 y2 hx2 (by omega) x3 y3 hx3 (by omega) vz72 vz72.toInt rfl (by omega) x5 y5 hx5 (by omega) vz79 vz79.toInt rfl (by omega) (some (.int vz7)) (some (.int vz11)) (by rw [evz1]; omega) (by rw [evz1]; omega) (by rw [evz1]; omega) (by rw [evz1]; omega) (by omega) (by
        exact ⟨_, _, _, _, _, vws.to (by omega) (by omega) (by omega) (by omega) (by omega)⟩)  (by omega)
      · refine X_aload_n rfl rfl rfl rfl ?_
        refine X_getR (a := 364) rfl rfl rfl ((congrFun V.1 355).trans s_355) rfl ((congrFun (V.2.1 355 (by decide)) 27).trans r_355_27) ?_
        refine X_iload rfl rfl rfl ?_
        refine X_iconst (v := (1 : Int32)) rfl rfl rfl ?_
        refine S_isub rfl rfl hx4 (show (1 : Int32).toInt = 1 from rfl) (by omega) (fun vz80 hvz80 => ?_)
        refine X_aload_n rfl rfl rfl rfl ?_
        refine X_getR (a := 364) rfl rfl rfl ((congrFun V.1 355).trans s_355) rfl ((congrFun (V.2.1 355 (by decide)) 27).trans r_355_27) ?_
        refine X_iload rfl rfl rfl ?_
        refine X_iconst (v := (1 : Int32)) rfl rfl rfl ?_
        refine S_isub rfl rfl hx4 (show (1 : Int32).toInt = 1 from rfl) (by omega) (fun vz81 hvz81 => ?_)
        refine S_lald rfl rfl ((congrFun V.1 364).trans s_364) rfl (by omega) (fun vz82 => ?_)
        refine S_lnegT rfl rfl (fun vz83 => ?_)
        refine S_last (I := InvR _) rfl rfl ((congrFun V.1 364).trans s_364) rfl (by omega) (fun _ => V) (fun g V vn84 hq => ?_)
        have hG := hq.trans hG
        have evz1 := (vn84 (356) 5).trans evz1
        have vws := vws.now (funext fun k => vn84 358 k)
        have hA := (funext fun k => vn84 356 k).trans hA
        refine LW_goto (tgt := 367) rfl rfl ?_
        refine S_iinc (c := 1) rfl rfl rfl hx6 rfl (by omega) (fun vz85 hvz85 => ?_)
        refine LW_ls (ls' := [some (.ref 355), some (.int x1), some (.int x2), some (.int x3), some (.int x4), some (.int x5), some (.int vz85), some (.int vz7), some (.int vz11)]) rfl ?_
        refine LW_goto (tgt := 61) rfl rfl ?_
        exact ih61 _ V hG hA x1 y1 hx1 (by omega) x2 y2 hx2 (by omega) x3 y3 hx3 (by omega) x4 y4 hx4 (by omega) x5 y5 hx5 (by omega) vz85 vz85.toInt rfl (by omega) (some (.int vz7)) (some (.int vz11)) (by rw [evz1]; omega) (by rw [evz1]; omega) (by rw [evz1]; omega) (by rw [evz1]; omega) (by omega) (by
        exact ⟨_, _, _, _, _, vws.to (by omega) (by omega) (by omega) (by omega) (by omega)⟩)  (by omega)
    · refine X_aload_n rfl rfl rfl rfl ?_
      refine X_getR (a := 364) rfl rfl rfl ((congrFun V.1 355).trans s_355) rfl ((congrFun (V.2.1 355 (by decide)) 27).trans r_355_27) ?_
      refine X_iload rfl rfl rfl ?_
      refine X_iload rfl rfl rfl ?_
      refine S_if_ne (tgt := 125) rfl rfl rfl rfl (fun vh86 => ?_) (fun vh86 => ?_)
      · refine X_aload_n rfl rfl rfl rfl ?_
        refine X_getR (a := 363) rfl rfl rfl ((congrFun V.1 355).trans s_355) rfl ((congrFun (V.2.1 355 (by decide)) 26).trans r_355_26) ?_
        refine X_iload rfl rfl rfl ?_
        refine S_iald rfl rfl ((congrFun V.1 363).trans s_363) rfl (by omega) (fun vz87 evz87 => ?_)
        refine S_i2lT rfl rfl (fun vz88 => ?_)
        refine S_last (I := InvR _) rfl rfl ((congrFun V.1 364).trans s_364) hx4 (by omega) (fun _ => V) (fun g V vn89 hq => ?_)
        have hG := hq.trans hG
        have evz1 := (vn89 (356) 5).trans evz1
        have vws := vws.now (funext fun k => vn89 358 k)
        have hA := (funext fun k => vn89 356 k).trans hA
        refine S_iinc (c := 1) rfl rfl rfl hx4 rfl (by omega) (fun vz90 hvz90 => ?_)
        refine LW_ls (ls' := [some (.ref 355), some (.int x1), some (.int x2), some (.int x3), some (.int vz90), some (.int x5), some (.int x6), some (.int vz7), some (.int vz11)]) rfl ?_
        refine LW_goto (tgt := 367) rfl rfl ?_
        refine S_iinc (c := 1) rfl rfl rfl hx6 rfl (by omega) (fun vz91 hvz91 => ?_)
        refine LW_ls (ls' := [some (.ref 355), some (.int x1), some (.int x2), some (.int x3), some (.int vz90), some (.int x5), some (.int vz91), some (.int vz7), some (.int vz11)]) rfl ?_
        refine LW_goto (tgt := 61) rfl rfl ?_
        exact ih61 _ V hG hA x1 y1 hx1 (by omega) x2 y2 hx2 (by omega) x3 y3 hx3 (by omega) vz90 vz90.toInt rfl (by omega) x5 y5 hx5 (by omega) vz91 vz91.toInt rfl (by omega) (some (.int vz7)) (some (.int vz11)) (by rw [evz1]; omega) (by rw [evz1]; omega) (by rw [evz1]; omega) (by rw [evz1]; omega) (by omega) (by
        exact ⟨_, _, _, _, _, vws.to (by omega) (by omega) (by omega) (by omega) (by omega)⟩)  (by omega)
      · refine X_iload rfl rfl rfl ?_
        refine S_i2lT rfl rfl (fun vz92 => ?_)
        refine LW_goto (tgt := 133) rfl rfl ?_
        refine S_last (I := InvR _) rfl rfl ((congrFun V.1 364).trans s_364) hx4 (by omega) (fun _ => V) (fun g V vn93 hq => ?_)
        have hG := hq.trans hG
        have evz1 := (vn93 (356) 5).trans evz1
        have vws := vws.now (funext fun k => vn93 358 k)
        have hA := (funext fun k => vn93 356 k).trans hA
        refine S_iinc (c := 1) rfl rfl rfl hx4 rfl (by omega) (fun vz94 hvz94 => ?_)
        refine LW_ls (ls' := [some (.ref 355), some (.int x1), some (.int x2), some (.int x3), some (.int vz94), some (.int x5), some (.int x6), some (.int vz7), some (.int vz11)]) rfl ?_
        refine LW_goto (tgt := 367) rfl rfl ?_
        refine S_iinc (c := 1) rfl rfl rfl hx6 rfl (by omega) (fun vz95 hvz95 => ?_)
        refine LW_ls (ls' := [some (.ref 355), some (.int x1), some (.int x2), some (.int x3), some (.int vz94), some (.int x5), some (.int vz95), some (.int vz7), some (.int vz11)]) rfl ?_
        refine LW_goto (tgt := 61) rfl rfl ?_
        exact ih61 _ V hG hA x1 y1 hx1 (by omega) x2 y2 hx2 (by omega) x3 y3 hx3 (by omega) vz94 vz94.toInt rfl (by omega) x5 y5 hx5 (by omega) vz95 vz95.toInt rfl (by omega) (some (.int vz7)) (some (.int vz11)) (by rw [evz1]; omega) (by rw [evz1]; omega) (by rw [evz1]; omega) (by rw [evz1]; omega) (by omega) (by
        exact ⟨_, _, _, _, _, vws.to (by omega) (by omega) (by omega) (by omega) (by omega)⟩)  (by omega)
theorem C_X13_work_all {P : Par} {g0 : LH} {d : Nat}  : ∀ n : Nat, (∀ (g : LH) (V : InvR P g) (hG : Gr g = Gr g0) (hA : Gi g 356 = Gi g0 356) (x1 : Int32) (y1 : Int) (hx1 : x1.toInt = y1) (hf1 : (-1) ≤ y1 ∧ y1 ≤ 23) (x2 : Int32) (y2 : Int) (hx2 : x2.toInt = y2) (hf2 : 1 ≤ y2 ∧ y2 ≤ 2873) (x3 : Int32) (y3 : Int) (hx3 : x3.toInt = y3) (hf3 : 265 ≤ y3 ∧ y3 ≤ 2884) (x4 : Int32) (y4 : Int) (hx4 : x4.toInt = y4) (hf4 : 0 ≤ y4 ∧ y4 ≤ 872) (x5 : Int32) (y5 : Int) (hx5 : x5.toInt = y5) (hf5 : 0 ≤ y5 ∧ y5 ≤ 872) (x6 : Int32) (y6 : Int) (hx6 : x6.toInt = y6) (hf6 : 0 ≤ y6 ∧ y6 ≤ 304) (o7 : Option Value) (o8 : Option Value) (hc356_5 : (-1) ≤ (Gi g 356 5).toInt ∧ (Gi g 356 5).toInt ≤ 3) (hq0 : y3 = 873 * (Gi g 356 5).toInt + 265) (hq1 : 0 ≤ (Gi g 356 5).toInt) (hq2 : y2 = 873 * (Gi g 356 5).toInt + 1 + 11 * y1) (hq3 : 0 ≤ y1 ∧ y1 < 24) (hq4 : ∃ a z m nn tt : Nat, WS g (y2) (y3) (y4) (y5) (y6) a z m nn tt), (304 - y6) * 1 + 0 < (n : Int) → LW 241 (d + 14) 0 0 61 [some (.ref 355), some (.int x1), some (.int x2), some (.int x3), some (.int x4), some (.int x5), some (.int x6), o7, o8] [] g (fun v g' => v = none ∧ InvR P g' ∧ Gr g' = Gr g0 ∧ Gi g' 356 = Gi g0 356)) := by
  intro n
  induction n with
  | zero => exact fun g V hG hA x1 y1 hx1 hf1 x2 y2 hx2 hf2 x3 y3 hx3 hf3 x4 y4 hx4 hf4 x5 y5 hx5 hf5 x6 y6 hx6 hf6 o7 o8 hc356_5 hq0 hq1 hq2 hq3 hq4 hmu => absurd hmu (by omega)
  | succ n ih => exact fun g V hG hA x1 y1 hx1 hf1 x2 y2 hx2 hf2 x3 y3 hx3 hf3 x4 y4 hx4 hf4 x5 y5 hx5 hf5 x6 y6 hx6 hf6 o7 o8 hc356_5 hq0 hq1 hq2 hq3 hq4 hmu => C_X13_work_61  V hG hA x1 y1 hx1 hf1 x2 y2 hx2 hf2 x3 y3 hx3 hf3 x4 y4 hx4 hf4 x5 y5 hx5 hf5 x6 y6 hx6 hf6 o7 o8 hc356_5 hq0 hq1 hq2 hq3 hq4 (by omega) ih
set_option maxRecDepth 10000 in
set_option maxHeartbeats 40000000 in
theorem C_X13_work {P : Par} {g : LH} {d : Nat}  (V : InvR P g) (x1 : Int32) (y1 : Int) (hx1 : x1.toInt = y1) (hf1 : (-1) ≤ y1 ∧ y1 ≤ 23) (hq0 : WK g (y1))  : LW 241 (d + 14) 0 0 0 (lEnt (mL 241) [.ref 355, .int x1]) [] g (fun v g' => v = none ∧ InvR P g' ∧ Gr g' = Gr g ∧ Gi g' 356 = Gi g 356) := by
  refine LW_ls (ls' := [some (.ref 355), some (.int x1), none, none, none, none, none, none, none]) rfl ?_
  have hG : Gr g = Gr g := rfl
  have hA : Gi g 356 = Gi g 356 := rfl
  refine X_sipush (v := (873 : Int32)) rfl rfl rfl ?_
  refine X_aload_n rfl rfl rfl rfl ?_
  refine X_getR (a := 356) rfl rfl rfl ((congrFun V.1 355).trans s_355) rfl ((congrFun (V.2.1 355 (by decide)) 0).trans r_355_0) ?_
  refine X_iconst (v := (5 : Int32)) rfl rfl rfl ?_
  refine S_iald rfl rfl ((congrFun V.1 356).trans s_356) (show (5 : Int32).toInt = 5 from rfl) (by omega) (fun vz1 evz1 => ?_)
  have evz1 : Gi g 356 5 = vz1 := evz1
  have vf2 := A_TEXT (V.2.2.2.1 (5)) (by omega)
  rw [evz1] at vf2
  have vwb : 0 ≤ vz1.toInt ∧ 0 ≤ y1 ∧ y1 < 24 := by
    obtain ⟨vw0, vw9, vw8, vw1, vw2, vw3, vw5⟩ := hq0
    have vw4 := (V.2.2.2.2.2.1 (873 * Int.toNat (Gi g 356 5).toInt)).1 (by omega)
    rw [evz1] at vw1 vw3 vw4
    omega
  refine S_imul rfl rfl (show (873 : Int32).toInt = 873 from rfl) rfl (by omega) (fun vz3 hvz3 => ?_)
  refine X_iconst (v := (1 : Int32)) rfl rfl rfl ?_
  refine S_iadd rfl rfl rfl (show (1 : Int32).toInt = 1 from rfl) (by omega) (fun vz4 hvz4 => ?_)
  refine X_bipush (v := (11 : Int32)) rfl rfl rfl ?_
  refine X_iload_n rfl rfl rfl rfl ?_
  refine S_imul rfl rfl (show (11 : Int32).toInt = 11 from rfl) hx1 (by omega) (fun vz5 hvz5 => ?_)
  refine S_iadd rfl rfl rfl rfl (by omega) (fun vz6 hvz6 => ?_)
  refine X_istore_n (i := 2) (ls' := [some (.ref 355), some (.int x1), some (.int vz6), none, none, none, none, none, none]) rfl rfl rfl (Nat.le_of_ble_eq_true rfl) rfl ?_
  refine X_sipush (v := (873 : Int32)) rfl rfl rfl ?_
  refine X_aload_n rfl rfl rfl rfl ?_
  refine X_getR (a := 356) rfl rfl rfl ((congrFun V.1 355).trans s_355) rfl ((congrFun (V.2.1 355 (by decide)) 0).trans r_355_0) ?_
  refine X_iconst (v := (5 : Int32)) rfl rfl rfl ?_
  refine S_iald_v rfl rfl ((congrFun V.1 356).trans s_356) (show (5 : Int32).toInt = 5 from rfl) (by omega) evz1 ?_
  refine S_imul rfl rfl (show (873 : Int32).toInt = 873 from rfl) rfl (by omega) (fun vz8 hvz8 => ?_)
  refine X_sipush (v := (265 : Int32)) rfl rfl rfl ?_
  refine S_iadd rfl rfl rfl (show (265 : Int32).toInt = 265 from rfl) (by omega) (fun vz9 hvz9 => ?_)
  refine X_istore_n (i := 3) (ls' := [some (.ref 355), some (.int x1), some (.int vz6), some (.int vz9), none, none, none, none, none]) rfl rfl rfl (Nat.le_of_ble_eq_true rfl) rfl ?_
  refine X_iconst (v := (0 : Int32)) rfl rfl rfl ?_
  refine X_istore (i := 4) (ls' := [some (.ref 355), some (.int x1), some (.int vz6), some (.int vz9), some (.int (0 : Int32)), none, none, none, none]) rfl rfl (Nat.le_of_ble_eq_true rfl) rfl ?_
  refine X_iconst (v := (0 : Int32)) rfl rfl rfl ?_
  refine X_istore (i := 5) (ls' := [some (.ref 355), some (.int x1), some (.int vz6), some (.int vz9), some (.int (0 : Int32)), some (.int (0 : Int32)), none, none, none]) rfl rfl (Nat.le_of_ble_eq_true rfl) rfl ?_
  refine X_aload_n rfl rfl rfl rfl ?_
  refine X_getR (a := 363) rfl rfl rfl ((congrFun V.1 355).trans s_355) rfl ((congrFun (V.2.1 355 (by decide)) 26).trans r_355_26) ?_
  refine X_iconst (v := (0 : Int32)) rfl rfl rfl ?_
  refine X_aload_n rfl rfl rfl rfl ?_
  refine X_getR (a := 356) rfl rfl rfl ((congrFun V.1 355).trans s_355) rfl ((congrFun (V.2.1 355 (by decide)) 0).trans r_355_0) ?_
  refine X_iconst (v := (2 : Int32)) rfl rfl rfl ?_
  refine S_iald rfl rfl ((congrFun V.1 356).trans s_356) (show (2 : Int32).toInt = 2 from rfl) (by omega) (fun vz10 evz10 => ?_)
  have evz10 : Gi g 356 2 = vz10 := evz10
  refine S_iast (I := InvR _) rfl rfl ((congrFun V.1 363).trans s_363) (show (0 : Int32).toInt = 0 from rfl) (by omega) (InvR_putO V (by decide) trivial) (fun g V ve11 vn12 hq => ?_)
  have hG := hq.trans hG
  have hA := (funext fun k => vn12 356 k (Or.inl (by decide))).trans hA
  have evz1 := (vn12 (356) 5 (Or.inl (by decide))).trans evz1
  have evz10 := (vn12 (356) 2 (Or.inl (by decide))).trans evz10
  have ve11 : Gi g 363 0 = vz10 := ve11
  have vwk := WK.oth (fun q' k' vh' => vn12 q' k' (Or.inl vh')) hq0
  refine X_aload_n rfl rfl rfl rfl ?_
  refine X_getR (a := 358) rfl rfl rfl ((congrFun V.1 355).trans s_355) rfl ((congrFun (V.2.1 355 (by decide)) 2).trans r_355_2) ?_
  refine X_iload_n rfl rfl rfl rfl ?_
  refine X_iconst (v := (1 : Int32)) rfl rfl rfl ?_
  refine S_iadd rfl rfl rfl (show (1 : Int32).toInt = 1 from rfl) (by omega) (fun vz13 hvz13 => ?_)
  refine S_iald rfl rfl ((congrFun V.1 358).trans s_358) rfl (by omega) (fun vz14 evz14 => ?_)
  obtain ⟨vwa, vwz, vw1, vw2, vw3, vws⟩ := WS.start V vwk
  rw [evz1] at vw1 vws
  rw [show 873 * Int.toNat vz1.toInt + 1 + 11 * Int.toNat y1 + 1 = Int.toNat vz13.toInt by omega, evz14] at vw1
  refine X_istore (i := 6) (ls' := [some (.ref 355), some (.int x1), some (.int vz6), some (.int vz9), some (.int (0 : Int32)), some (.int (0 : Int32)), some (.int vz14), none, none]) rfl rfl (Nat.le_of_ble_eq_true rfl) rfl ?_
  exact (C_X13_work_all (((304 - vz14.toInt) * 1 + 0) + 1 : Int).toNat) _ V hG hA x1 y1 hx1 (by omega) vz6 vz6.toInt rfl (by omega) vz9 vz9.toInt rfl (by omega) (0 : Int32) 0 (show (0 : Int32).toInt = 0 from rfl) (by omega) (0 : Int32) 0 (show (0 : Int32).toInt = 0 from rfl) (by omega) vz14 vz14.toInt rfl (by omega) none none (by rw [evz1]; omega) (by rw [evz1]; omega) (by rw [evz1]; omega) (by rw [evz1]; omega) (by omega) (by
        exact ⟨_, _, _, _, _, vws.to (by omega) (by omega) (by omega) (by omega) (by omega)⟩)  (by omega)
