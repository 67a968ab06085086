/-! the law, op by op -/
set_option maxRecDepth 10000 in
set_option maxHeartbeats 40000000 in
theorem vop_0 {g : LH} {L : Nat} {xs : Nat → Int32} {xi : Int32} {y : Int} (hi : xi.toInt = y) (hy : 0 ≤ y ∧ y + 6 ≤ (L : Int)) (hL : L ≤ 3072) (hx : Gx g = some (L, xs)) (hI : IB g) (K : ∀ g', IB g' → Gx g' = some (L, xs) → LW 322 100 0 0 1468 [some (.retAddr 0), some (.ref 0), some (.ref 355), some (.int xi)] [] g' (fun v _ => v = some (.int 1))) : LW 322 100 0 0 208 [some (.retAddr 0), some (.ref 0), some (.ref 355), some (.int xi)] [] g (fun v _ => v = some (.int 1)) := by
  obtain ⟨n, m, V, W⟩ := hI
  refine X_aload_n rfl rfl rfl rfl ?_
  refine X_aload_nS rfl rfl rfl rfl ?_
  refine X_iload_n rfl rfl rfl rfl ?_
  refine X_iconst (v := (1 : Int32)) rfl rfl rfl ?_
  refine S_iadd rfl rfl hi (show (1 : Int32).toInt = 1 from rfl) (by omega) (fun vz1 hvz1 => ?_)
  refine vX_sld rfl rfl hx hvz1 (by omega) ?_
  refine X_aload_nS rfl rfl rfl rfl ?_
  refine X_iload_n rfl rfl rfl rfl ?_
  refine X_iconst (v := (2 : Int32)) rfl rfl rfl ?_
  refine S_iadd rfl rfl hi (show (2 : Int32).toInt = 2 from rfl) (by omega) (fun vz2 hvz2 => ?_)
  refine vX_sld rfl rfl hx hvz2 (by omega) ?_
  refine Y_callV (as := [.int (xs (Int.toNat (y + 1))), .int (xs (Int.toNat (y + 2)))]) (st := []) rfl rfl rfl (by decide) rfl (Nat.le_of_ble_eq_true rfl) (by decide) (Nat.le_of_ble_eq_true rfl) rfl ((congrFun V.1 0).trans s_0) (by decide) (LW_gx (LW_room (Nat.le_refl _) (Nat.le_refl _) (show 0 + 8 ≤ 99 by decide) (C_X12_tie (d := 0) V (xs (Int.toNat (y + 1))) (xs (Int.toNat (y + 1))).toInt rfl (xs (Int.toNat (y + 2))) (xs (Int.toNat (y + 2))).toInt rfl))) ?_
  rintro _ g' ⟨⟨vr3, rfl, _, _, vV, vG⟩, vgx⟩
  have W := vIB_c vV W
  have V := vIB_s vV
  have hx := vgx.trans hx
  refine X_pop rfl rfl rfl ?_
  refine X_aload_n rfl rfl rfl rfl ?_
  refine X_aload_nS rfl rfl rfl rfl ?_
  refine X_iload_n rfl rfl rfl rfl ?_
  refine X_iconst (v := (1 : Int32)) rfl rfl rfl ?_
  refine S_iadd rfl rfl hi (show (1 : Int32).toInt = 1 from rfl) (by omega) (fun vz4 hvz4 => ?_)
  refine vX_sld rfl rfl hx hvz4 (by omega) ?_
  refine X_aload_nS rfl rfl rfl rfl ?_
  refine X_iload_n rfl rfl rfl rfl ?_
  refine X_iconst (v := (2 : Int32)) rfl rfl rfl ?_
  refine S_iadd rfl rfl hi (show (2 : Int32).toInt = 2 from rfl) (by omega) (fun vz5 hvz5 => ?_)
  refine vX_sld rfl rfl hx hvz5 (by omega) ?_
  refine Y_callV (as := [.int (xs (Int.toNat (y + 1))), .int (xs (Int.toNat (y + 2)))]) (st := []) rfl rfl rfl (by decide) rfl (Nat.le_of_ble_eq_true rfl) (by decide) (Nat.le_of_ble_eq_true rfl) rfl ((congrFun V.1 355).trans s_355) (by decide) (LW_gx (LW_room (Nat.le_refl _) (Nat.le_refl _) (show 0 + 5 ≤ 99 by decide) (C_X13_tie (d := 0) W (xs (Int.toNat (y + 1))) (xs (Int.toNat (y + 1))).toInt rfl (xs (Int.toNat (y + 2))) (xs (Int.toNat (y + 2))).toInt rfl))) ?_
  rintro _ g' ⟨⟨vr6, rfl, _, _, vV, vG⟩, vgx⟩
  have V := vIB_r vV vG V
  have W := vIB_t vV
  have hx := vgx.trans hx
  refine X_pop rfl rfl rfl ?_
  refine LW_goto (tgt := 1468) rfl rfl ?_
  exact K _ ⟨_, _, V, W⟩ hx
set_option maxRecDepth 10000 in
set_option maxHeartbeats 40000000 in
theorem vop_1 {g : LH} {L : Nat} {xs : Nat → Int32} {xi : Int32} {y : Int} (hi : xi.toInt = y) (hy : 0 ≤ y ∧ y + 6 ≤ (L : Int)) (hL : L ≤ 3072) (hx : Gx g = some (L, xs)) (hI : IB g) (K : ∀ g', IB g' → Gx g' = some (L, xs) → LW 322 100 0 0 1468 [some (.retAddr 0), some (.ref 0), some (.ref 355), some (.int xi)] [] g' (fun v _ => v = some (.int 1))) : LW 322 100 0 0 241 [some (.retAddr 0), some (.ref 0), some (.ref 355), some (.int xi)] [] g (fun v _ => v = some (.int 1)) := by
  obtain ⟨n, m, V, W⟩ := hI
  refine X_aload_n rfl rfl rfl rfl ?_
  refine X_aload_nS rfl rfl rfl rfl ?_
  refine X_iload_n rfl rfl rfl rfl ?_
  refine X_iconst (v := (1 : Int32)) rfl rfl rfl ?_
  refine S_iadd rfl rfl hi (show (1 : Int32).toInt = 1 from rfl) (by omega) (fun vz1 hvz1 => ?_)
  refine vX_sld rfl rfl hx hvz1 (by omega) ?_
  refine X_aload_nS rfl rfl rfl rfl ?_
  refine X_iload_n rfl rfl rfl rfl ?_
  refine X_iconst (v := (2 : Int32)) rfl rfl rfl ?_
  refine S_iadd rfl rfl hi (show (2 : Int32).toInt = 2 from rfl) (by omega) (fun vz2 hvz2 => ?_)
  refine vX_sld rfl rfl hx hvz2 (by omega) ?_
  refine X_aload_nS rfl rfl rfl rfl ?_
  refine X_iload_n rfl rfl rfl rfl ?_
  refine X_iconst (v := (3 : Int32)) rfl rfl rfl ?_
  refine S_iadd rfl rfl hi (show (3 : Int32).toInt = 3 from rfl) (by omega) (fun vz3 hvz3 => ?_)
  refine vX_sld rfl rfl hx hvz3 (by omega) ?_
  refine Y_callV (as := [.int (xs (Int.toNat (y + 1))), .int (xs (Int.toNat (y + 2))), .int (xs (Int.toNat (y + 3)))]) (st := []) rfl rfl rfl (by decide) rfl (Nat.le_of_ble_eq_true rfl) (by decide) (Nat.le_of_ble_eq_true rfl) rfl ((congrFun V.1 0).trans s_0) (by decide) (LW_gx (LW_room (Nat.le_refl _) (Nat.le_refl _) (show 0 + 13 ≤ 99 by decide) (C_X12_word (d := 0) V (xs (Int.toNat (y + 1))) (xs (Int.toNat (y + 1))).toInt rfl (xs (Int.toNat (y + 2))) (xs (Int.toNat (y + 2))).toInt rfl (xs (Int.toNat (y + 3))) (xs (Int.toNat (y + 3))).toInt rfl))) ?_
  rintro _ g' ⟨⟨vr4, rfl, _, _, vV, vG⟩, vgx⟩
  have W := vIB_c vV W
  have V := vIB_s vV
  have hx := vgx.trans hx
  refine X_pop rfl rfl rfl ?_
  refine X_aload_n rfl rfl rfl rfl ?_
  refine X_aload_nS rfl rfl rfl rfl ?_
  refine X_iload_n rfl rfl rfl rfl ?_
  refine X_iconst (v := (1 : Int32)) rfl rfl rfl ?_
  refine S_iadd rfl rfl hi (show (1 : Int32).toInt = 1 from rfl) (by omega) (fun vz5 hvz5 => ?_)
  refine vX_sld rfl rfl hx hvz5 (by omega) ?_
  refine X_aload_nS rfl rfl rfl rfl ?_
  refine X_iload_n rfl rfl rfl rfl ?_
  refine X_iconst (v := (2 : Int32)) rfl rfl rfl ?_
  refine S_iadd rfl rfl hi (show (2 : Int32).toInt = 2 from rfl) (by omega) (fun vz6 hvz6 => ?_)
  refine vX_sld rfl rfl hx hvz6 (by omega) ?_
  refine X_aload_nS rfl rfl rfl rfl ?_
  refine X_iload_n rfl rfl rfl rfl ?_
  refine X_iconst (v := (3 : Int32)) rfl rfl rfl ?_
  refine S_iadd rfl rfl hi (show (3 : Int32).toInt = 3 from rfl) (by omega) (fun vz7 hvz7 => ?_)
  refine vX_sld rfl rfl hx hvz7 (by omega) ?_
  refine Y_callV (as := [.int (xs (Int.toNat (y + 1))), .int (xs (Int.toNat (y + 2))), .int (xs (Int.toNat (y + 3)))]) (st := []) rfl rfl rfl (by decide) rfl (Nat.le_of_ble_eq_true rfl) (by decide) (Nat.le_of_ble_eq_true rfl) rfl ((congrFun V.1 355).trans s_355) (by decide) (LW_gx (LW_room (Nat.le_refl _) (Nat.le_refl _) (show 0 + 13 ≤ 99 by decide) (C_X13_word (d := 0) W (xs (Int.toNat (y + 1))) (xs (Int.toNat (y + 1))).toInt rfl (xs (Int.toNat (y + 2))) (xs (Int.toNat (y + 2))).toInt rfl (xs (Int.toNat (y + 3))) (xs (Int.toNat (y + 3))).toInt rfl))) ?_
  rintro _ g' ⟨⟨vr8, rfl, _, _, vV, vG⟩, vgx⟩
  have V := vIB_r vV vG V
  have W := vIB_t vV
  have hx := vgx.trans hx
  refine X_pop rfl rfl rfl ?_
  refine LW_goto (tgt := 1468) rfl rfl ?_
  exact K _ ⟨_, _, V, W⟩ hx
set_option maxRecDepth 10000 in
set_option maxHeartbeats 40000000 in
theorem vop_2 {g : LH} {L : Nat} {xs : Nat → Int32} {xi : Int32} {y : Int} (hi : xi.toInt = y) (hy : 0 ≤ y ∧ y + 6 ≤ (L : Int)) (hL : L ≤ 3072) (hx : Gx g = some (L, xs)) (hI : IB g) (K : ∀ g', IB g' → Gx g' = some (L, xs) → LW 322 100 0 0 1468 [some (.retAddr 0), some (.ref 0), some (.ref 355), some (.int xi)] [] g' (fun v _ => v = some (.int 1))) : LW 322 100 0 0 284 [some (.retAddr 0), some (.ref 0), some (.ref 355), some (.int xi)] [] g (fun v _ => v = some (.int 1)) := by
  obtain ⟨n, m, V, W⟩ := hI
  refine X_aload_n rfl rfl rfl rfl ?_
  refine X_aload_nS rfl rfl rfl rfl ?_
  refine X_iload_n rfl rfl rfl rfl ?_
  refine X_iconst (v := (1 : Int32)) rfl rfl rfl ?_
  refine S_iadd rfl rfl hi (show (1 : Int32).toInt = 1 from rfl) (by omega) (fun vz1 hvz1 => ?_)
  refine vX_sld rfl rfl hx hvz1 (by omega) ?_
  refine Y_callV (as := [.int (xs (Int.toNat (y + 1)))]) (st := []) rfl rfl rfl (by decide) rfl (Nat.le_of_ble_eq_true rfl) (by decide) (Nat.le_of_ble_eq_true rfl) rfl ((congrFun V.1 0).trans s_0) (by decide) (LW_gx (LW_room (Nat.le_refl _) (Nat.le_refl _) (show 0 + 7 ≤ 99 by decide) (C_X12_saying (d := 0) V (xs (Int.toNat (y + 1))) (xs (Int.toNat (y + 1))).toInt rfl))) ?_
  rintro _ g' ⟨⟨vr2, rfl, _, _, vV, vG⟩, vgx⟩
  have W := vIB_c vV W
  have V := vIB_s vV
  have hx := vgx.trans hx
  refine X_pop rfl rfl rfl ?_
  refine X_aload_n rfl rfl rfl rfl ?_
  refine X_aload_nS rfl rfl rfl rfl ?_
  refine X_iload_n rfl rfl rfl rfl ?_
  refine X_iconst (v := (1 : Int32)) rfl rfl rfl ?_
  refine S_iadd rfl rfl hi (show (1 : Int32).toInt = 1 from rfl) (by omega) (fun vz3 hvz3 => ?_)
  refine vX_sld rfl rfl hx hvz3 (by omega) ?_
  refine Y_callV (as := [.int (xs (Int.toNat (y + 1)))]) (st := []) rfl rfl rfl (by decide) rfl (Nat.le_of_ble_eq_true rfl) (by decide) (Nat.le_of_ble_eq_true rfl) rfl ((congrFun V.1 355).trans s_355) (by decide) (LW_gx (LW_room (Nat.le_refl _) (Nat.le_refl _) (show 0 + 8 ≤ 99 by decide) (C_X13_saying (d := 0) W (xs (Int.toNat (y + 1))) (xs (Int.toNat (y + 1))).toInt rfl))) ?_
  rintro _ g' ⟨⟨vr4, rfl, _, _, vV, vG⟩, vgx⟩
  have V := vIB_r vV vG V
  have W := vIB_t vV
  have hx := vgx.trans hx
  refine X_pop rfl rfl rfl ?_
  refine LW_goto (tgt := 1468) rfl rfl ?_
  exact K _ ⟨_, _, V, W⟩ hx
set_option maxRecDepth 10000 in
set_option maxHeartbeats 40000000 in
theorem vop_3 {g : LH} {L : Nat} {xs : Nat → Int32} {xi : Int32} {y : Int} (hi : xi.toInt = y) (hy : 0 ≤ y ∧ y + 6 ≤ (L : Int)) (hL : L ≤ 3072) (hx : Gx g = some (L, xs)) (hI : IB g) (K : ∀ g', IB g' → Gx g' = some (L, xs) → LW 322 100 0 0 1468 [some (.retAddr 0), some (.ref 0), some (.ref 355), some (.int xi)] [] g' (fun v _ => v = some (.int 1))) : LW 322 100 0 0 307 [some (.retAddr 0), some (.ref 0), some (.ref 355), some (.int xi)] [] g (fun v _ => v = some (.int 1)) := by
  obtain ⟨n, m, V, W⟩ := hI
  refine X_aload_n rfl rfl rfl rfl ?_
  refine X_aload_nS rfl rfl rfl rfl ?_
  refine X_iload_n rfl rfl rfl rfl ?_
  refine X_iconst (v := (1 : Int32)) rfl rfl rfl ?_
  refine S_iadd rfl rfl hi (show (1 : Int32).toInt = 1 from rfl) (by omega) (fun vz1 hvz1 => ?_)
  refine vX_sld rfl rfl hx hvz1 (by omega) ?_
  refine X_aload_nS rfl rfl rfl rfl ?_
  refine X_iload_n rfl rfl rfl rfl ?_
  refine X_iconst (v := (2 : Int32)) rfl rfl rfl ?_
  refine S_iadd rfl rfl hi (show (2 : Int32).toInt = 2 from rfl) (by omega) (fun vz2 hvz2 => ?_)
  refine vX_sld rfl rfl hx hvz2 (by omega) ?_
  refine X_aload_nS rfl rfl rfl rfl ?_
  refine X_iload_n rfl rfl rfl rfl ?_
  refine X_iconst (v := (3 : Int32)) rfl rfl rfl ?_
  refine S_iadd rfl rfl hi (show (3 : Int32).toInt = 3 from rfl) (by omega) (fun vz3 hvz3 => ?_)
  refine vX_sld rfl rfl hx hvz3 (by omega) ?_
  refine X_aload_nS rfl rfl rfl rfl ?_
  refine X_iload_n rfl rfl rfl rfl ?_
  refine X_iconst (v := (4 : Int32)) rfl rfl rfl ?_
  refine S_iadd rfl rfl hi (show (4 : Int32).toInt = 4 from rfl) (by omega) (fun vz4 hvz4 => ?_)
  refine vX_sld rfl rfl hx hvz4 (by omega) ?_
  refine X_aload_nS rfl rfl rfl rfl ?_
  refine X_iload_n rfl rfl rfl rfl ?_
  refine X_iconst (v := (5 : Int32)) rfl rfl rfl ?_
  refine S_iadd rfl rfl hi (show (5 : Int32).toInt = 5 from rfl) (by omega) (fun vz5 hvz5 => ?_)
  refine vX_sld rfl rfl hx hvz5 (by omega) ?_
  refine Y_callV (as := [.int (xs (Int.toNat (y + 1))), .int (xs (Int.toNat (y + 2))), .int (xs (Int.toNat (y + 3))), .int (xs (Int.toNat (y + 4))), .int (xs (Int.toNat (y + 5)))]) (st := []) rfl rfl rfl (by decide) rfl (Nat.le_of_ble_eq_true rfl) (by decide) (Nat.le_of_ble_eq_true rfl) rfl ((congrFun V.1 0).trans s_0) (by decide) (LW_gx (LW_room (Nat.le_refl _) (Nat.le_refl _) (show 0 + 7 ≤ 99 by decide) (C_X12_feed (d := 0) V (xs (Int.toNat (y + 1))) (xs (Int.toNat (y + 1))).toInt rfl (xs (Int.toNat (y + 2))) (xs (Int.toNat (y + 2))).toInt rfl (xs (Int.toNat (y + 3))) (xs (Int.toNat (y + 3))).toInt rfl (xs (Int.toNat (y + 4))) (xs (Int.toNat (y + 4))).toInt rfl (xs (Int.toNat (y + 5))) (xs (Int.toNat (y + 5))).toInt rfl))) ?_
  rintro _ g' ⟨⟨vr6, rfl, _, _, vV, vG⟩, vgx⟩
  have W := vIB_c vV W
  have V := vIB_s vV
  have hx := vgx.trans hx
  refine X_pop rfl rfl rfl ?_
  refine X_aload_n rfl rfl rfl rfl ?_
  refine X_aload_nS rfl rfl rfl rfl ?_
  refine X_iload_n rfl rfl rfl rfl ?_
  refine X_iconst (v := (1 : Int32)) rfl rfl rfl ?_
  refine S_iadd rfl rfl hi (show (1 : Int32).toInt = 1 from rfl) (by omega) (fun vz7 hvz7 => ?_)
  refine vX_sld rfl rfl hx hvz7 (by omega) ?_
  refine X_aload_nS rfl rfl rfl rfl ?_
  refine X_iload_n rfl rfl rfl rfl ?_
  refine X_iconst (v := (2 : Int32)) rfl rfl rfl ?_
  refine S_iadd rfl rfl hi (show (2 : Int32).toInt = 2 from rfl) (by omega) (fun vz8 hvz8 => ?_)
  refine vX_sld rfl rfl hx hvz8 (by omega) ?_
  refine X_aload_nS rfl rfl rfl rfl ?_
  refine X_iload_n rfl rfl rfl rfl ?_
  refine X_iconst (v := (3 : Int32)) rfl rfl rfl ?_
  refine S_iadd rfl rfl hi (show (3 : Int32).toInt = 3 from rfl) (by omega) (fun vz9 hvz9 => ?_)
  refine vX_sld rfl rfl hx hvz9 (by omega) ?_
  refine X_aload_nS rfl rfl rfl rfl ?_
  refine X_iload_n rfl rfl rfl rfl ?_
  refine X_iconst (v := (4 : Int32)) rfl rfl rfl ?_
  refine S_iadd rfl rfl hi (show (4 : Int32).toInt = 4 from rfl) (by omega) (fun vz10 hvz10 => ?_)
  refine vX_sld rfl rfl hx hvz10 (by omega) ?_
  refine X_aload_nS rfl rfl rfl rfl ?_
  refine X_iload_n rfl rfl rfl rfl ?_
  refine X_iconst (v := (5 : Int32)) rfl rfl rfl ?_
  refine S_iadd rfl rfl hi (show (5 : Int32).toInt = 5 from rfl) (by omega) (fun vz11 hvz11 => ?_)
  refine vX_sld rfl rfl hx hvz11 (by omega) ?_
  refine Y_callV (as := [.int (xs (Int.toNat (y + 1))), .int (xs (Int.toNat (y + 2))), .int (xs (Int.toNat (y + 3))), .int (xs (Int.toNat (y + 4))), .int (xs (Int.toNat (y + 5)))]) (st := []) rfl rfl rfl (by decide) rfl (Nat.le_of_ble_eq_true rfl) (by decide) (Nat.le_of_ble_eq_true rfl) rfl ((congrFun V.1 355).trans s_355) (by decide) (LW_gx (LW_room (Nat.le_refl _) (Nat.le_refl _) (show 0 + 4 ≤ 99 by decide) (C_X13_feed (d := 0) W (xs (Int.toNat (y + 1))) (xs (Int.toNat (y + 1))).toInt rfl (xs (Int.toNat (y + 2))) (xs (Int.toNat (y + 2))).toInt rfl (xs (Int.toNat (y + 3))) (xs (Int.toNat (y + 3))).toInt rfl (xs (Int.toNat (y + 4))) (xs (Int.toNat (y + 4))).toInt rfl (xs (Int.toNat (y + 5))) (xs (Int.toNat (y + 5))).toInt rfl))) ?_
  rintro _ g' ⟨⟨vr12, rfl, _, _, vV, vG⟩, vgx⟩
  have V := vIB_r vV vG V
  have W := vIB_t vV
  have hx := vgx.trans hx
  refine X_pop rfl rfl rfl ?_
  refine LW_goto (tgt := 1468) rfl rfl ?_
  exact K _ ⟨_, _, V, W⟩ hx
set_option maxRecDepth 10000 in
set_option maxHeartbeats 40000000 in
theorem vop_4 {g : LH} {L : Nat} {xs : Nat → Int32} {xi : Int32} {y : Int} (hi : xi.toInt = y) (hy : 0 ≤ y ∧ y + 6 ≤ (L : Int)) (hL : L ≤ 3072) (hx : Gx g = some (L, xs)) (hI : IB g) (K : ∀ g', IB g' → Gx g' = some (L, xs) → LW 322 100 0 0 1468 [some (.retAddr 0), some (.ref 0), some (.ref 355), some (.int xi)] [] g' (fun v _ => v = some (.int 1))) : LW 322 100 0 0 370 [some (.retAddr 0), some (.ref 0), some (.ref 355), some (.int xi)] [] g (fun v _ => v = some (.int 1)) := by
  obtain ⟨n, m, V, W⟩ := hI
  refine X_aload_n rfl rfl rfl rfl ?_
  refine X_aload_nS rfl rfl rfl rfl ?_
  refine X_iload_n rfl rfl rfl rfl ?_
  refine X_iconst (v := (1 : Int32)) rfl rfl rfl ?_
  refine S_iadd rfl rfl hi (show (1 : Int32).toInt = 1 from rfl) (by omega) (fun vz1 hvz1 => ?_)
  refine vX_sld rfl rfl hx hvz1 (by omega) ?_
  refine Y_callV (as := [.int (xs (Int.toNat (y + 1)))]) (st := []) rfl rfl rfl (by decide) rfl (Nat.le_of_ble_eq_true rfl) (by decide) (Nat.le_of_ble_eq_true rfl) rfl ((congrFun V.1 0).trans s_0) (by decide) (LW_gx (LW_room (Nat.le_refl _) (Nat.le_refl _) (show 0 + 3 ≤ 99 by decide) (C_X12_end (d := 0) V (xs (Int.toNat (y + 1))) (xs (Int.toNat (y + 1))).toInt rfl))) ?_
  rintro _ g' ⟨⟨vr2, rfl, _, _, vV, vG⟩, vgx⟩
  have W := vIB_c vV W
  have V := vIB_s vV
  have hx := vgx.trans hx
  refine X_pop rfl rfl rfl ?_
  refine X_aload_n rfl rfl rfl rfl ?_
  refine X_aload_nS rfl rfl rfl rfl ?_
  refine X_iload_n rfl rfl rfl rfl ?_
  refine X_iconst (v := (1 : Int32)) rfl rfl rfl ?_
  refine S_iadd rfl rfl hi (show (1 : Int32).toInt = 1 from rfl) (by omega) (fun vz3 hvz3 => ?_)
  refine vX_sld rfl rfl hx hvz3 (by omega) ?_
  refine Y_callV (as := [.int (xs (Int.toNat (y + 1)))]) (st := []) rfl rfl rfl (by decide) rfl (Nat.le_of_ble_eq_true rfl) (by decide) (Nat.le_of_ble_eq_true rfl) rfl ((congrFun V.1 355).trans s_355) (by decide) (LW_gx (LW_room (Nat.le_refl _) (Nat.le_refl _) (show 0 + 4 ≤ 99 by decide) (C_X13_end (d := 0) W (xs (Int.toNat (y + 1))) (xs (Int.toNat (y + 1))).toInt rfl))) ?_
  rintro _ g' ⟨⟨vr4, rfl, _, _, vV, vG⟩, vgx⟩
  have V := vIB_r vV vG V
  have W := vIB_t vV
  have hx := vgx.trans hx
  refine X_pop rfl rfl rfl ?_
  refine LW_goto (tgt := 1468) rfl rfl ?_
  exact K _ ⟨_, _, V, W⟩ hx
set_option maxRecDepth 10000 in
set_option maxHeartbeats 40000000 in
theorem vop_5 {g : LH} {L : Nat} {xs : Nat → Int32} {xi : Int32} {y : Int} (hi : xi.toInt = y) (hy : 0 ≤ y ∧ y + 6 ≤ (L : Int)) (hL : L ≤ 3072) (hx : Gx g = some (L, xs)) (hI : IB g) (K : ∀ g', IB g' → Gx g' = some (L, xs) → LW 322 100 0 0 1468 [some (.retAddr 0), some (.ref 0), some (.ref 355), some (.int xi)] [] g' (fun v _ => v = some (.int 1))) : LW 322 100 0 0 393 [some (.retAddr 0), some (.ref 0), some (.ref 355), some (.int xi)] [] g (fun v _ => v = some (.int 1)) := by
  obtain ⟨n, m, V, W⟩ := hI
  refine X_aload_n rfl rfl rfl rfl ?_
  refine Y_callV (as := []) (st := []) rfl rfl rfl (by decide) rfl (Nat.le_of_ble_eq_true rfl) (by decide) (Nat.le_of_ble_eq_true rfl) rfl ((congrFun V.1 0).trans s_0) (by decide) (LW_gx (LW_room (Nat.le_refl _) (Nat.le_refl _) (show 0 + 77 ≤ 99 by decide) (C_X12_text (d := 0) V ))) ?_
  rintro _ g' ⟨⟨vr1, rfl, _, _, vV⟩, vgx⟩
  have W := vIB_c vV W
  have V := vIB_s vV
  have hx := vgx.trans hx
  refine X_pop rfl rfl rfl ?_
  refine X_aload_n rfl rfl rfl rfl ?_
  refine Y_callV (as := []) (st := []) rfl rfl rfl (by decide) rfl (Nat.le_of_ble_eq_true rfl) (by decide) (Nat.le_of_ble_eq_true rfl) rfl ((congrFun V.1 355).trans s_355) (by decide) (LW_gx (LW_room (Nat.le_refl _) (Nat.le_refl _) (show 0 + 64 ≤ 99 by decide) (C_X13_text (d := 0) W ))) ?_
  rintro _ g' ⟨⟨vr2, rfl, _, _, vV, vG⟩, vgx⟩
  have V := vIB_r vV vG V
  have W := vIB_t vV
  have hx := vgx.trans hx
  refine X_pop rfl rfl rfl ?_
  refine LW_goto (tgt := 1468) rfl rfl ?_
  exact K _ ⟨_, _, V, W⟩ hx
set_option maxRecDepth 10000 in
set_option maxHeartbeats 40000000 in
theorem vop_6 {g : LH} {L : Nat} {xs : Nat → Int32} {xi : Int32} {y : Int} (hi : xi.toInt = y) (hy : 0 ≤ y ∧ y + 6 ≤ (L : Int)) (hL : L ≤ 3072) (hx : Gx g = some (L, xs)) (hI : IB g) (K : ∀ g', IB g' → Gx g' = some (L, xs) → LW 322 100 0 0 1468 [some (.retAddr 0), some (.ref 0), some (.ref 355), some (.int xi)] [] g' (fun v _ => v = some (.int 1))) : LW 322 100 0 0 406 [some (.retAddr 0), some (.ref 0), some (.ref 355), some (.int xi)] [] g (fun v _ => v = some (.int 1)) := by
  obtain ⟨n, m, V, W⟩ := hI
  refine X_aload_n rfl rfl rfl rfl ?_
  refine X_aload_nS rfl rfl rfl rfl ?_
  refine X_iload_n rfl rfl rfl rfl ?_
  refine X_iconst (v := (1 : Int32)) rfl rfl rfl ?_
  refine S_iadd rfl rfl hi (show (1 : Int32).toInt = 1 from rfl) (by omega) (fun vz1 hvz1 => ?_)
  refine vX_sld rfl rfl hx hvz1 (by omega) ?_
  refine Y_callV (as := [.int (xs (Int.toNat (y + 1)))]) (st := []) rfl rfl rfl (by decide) rfl (Nat.le_of_ble_eq_true rfl) (by decide) (Nat.le_of_ble_eq_true rfl) rfl ((congrFun V.1 0).trans s_0) (by decide) (LW_gx (LW_room (Nat.le_refl _) (Nat.le_refl _) (show 0 + 3 ≤ 99 by decide) (C_X12_fault (d := 0) V (xs (Int.toNat (y + 1))) (xs (Int.toNat (y + 1))).toInt rfl))) ?_
  rintro _ g' ⟨⟨vr2, rfl, vgg⟩, vgx⟩
  subst vgg
  refine X_pop rfl rfl rfl ?_
  refine X_aload_n rfl rfl rfl rfl ?_
  refine X_aload_nS rfl rfl rfl rfl ?_
  refine X_iload_n rfl rfl rfl rfl ?_
  refine X_iconst (v := (1 : Int32)) rfl rfl rfl ?_
  refine S_iadd rfl rfl hi (show (1 : Int32).toInt = 1 from rfl) (by omega) (fun vz3 hvz3 => ?_)
  refine vX_sld rfl rfl hx hvz3 (by omega) ?_
  refine Y_callV (as := [.int (xs (Int.toNat (y + 1)))]) (st := []) rfl rfl rfl (by decide) rfl (Nat.le_of_ble_eq_true rfl) (by decide) (Nat.le_of_ble_eq_true rfl) rfl ((congrFun V.1 355).trans s_355) (by decide) (LW_gx (LW_room (Nat.le_refl _) (Nat.le_refl _) (show 0 + 3 ≤ 99 by decide) (C_X13_fault (d := 0) W (xs (Int.toNat (y + 1))) (xs (Int.toNat (y + 1))).toInt rfl))) ?_
  rintro _ g' ⟨⟨vr4, rfl, vgg⟩, vgx⟩
  subst vgg
  refine X_pop rfl rfl rfl ?_
  refine LW_goto (tgt := 1468) rfl rfl ?_
  exact K _ ⟨_, _, V, W⟩ hx
set_option maxRecDepth 10000 in
set_option maxHeartbeats 40000000 in
theorem vop_7 {g : LH} {L : Nat} {xs : Nat → Int32} {xi : Int32} {y : Int} (hi : xi.toInt = y) (hy : 0 ≤ y ∧ y + 6 ≤ (L : Int)) (hL : L ≤ 3072) (hx : Gx g = some (L, xs)) (hI : IB g) (K : ∀ g', IB g' → Gx g' = some (L, xs) → LW 322 100 0 0 1468 [some (.retAddr 0), some (.ref 0), some (.ref 355), some (.int xi)] [] g' (fun v _ => v = some (.int 1))) : LW 322 100 0 0 429 [some (.retAddr 0), some (.ref 0), some (.ref 355), some (.int xi)] [] g (fun v _ => v = some (.int 1)) := by
  obtain ⟨n, m, V, W⟩ := hI
  refine X_aload_n rfl rfl rfl rfl ?_
  refine X_aload_nS rfl rfl rfl rfl ?_
  refine X_iload_n rfl rfl rfl rfl ?_
  refine X_iconst (v := (1 : Int32)) rfl rfl rfl ?_
  refine S_iadd rfl rfl hi (show (1 : Int32).toInt = 1 from rfl) (by omega) (fun vz1 hvz1 => ?_)
  refine vX_sld rfl rfl hx hvz1 (by omega) ?_
  refine Y_callV (as := [.int (xs (Int.toNat (y + 1)))]) (st := []) rfl rfl rfl (by decide) rfl (Nat.le_of_ble_eq_true rfl) (by decide) (Nat.le_of_ble_eq_true rfl) rfl ((congrFun V.1 0).trans s_0) (by decide) (LW_gx (LW_room (Nat.le_refl _) (Nat.le_refl _) (show 0 + 4 ≤ 99 by decide) (C_X12_by (d := 0) V (xs (Int.toNat (y + 1))) (xs (Int.toNat (y + 1))).toInt rfl))) ?_
  rintro _ g' ⟨⟨vr2, rfl, _, _, vV, vG⟩, vgx⟩
  have W := vIB_c vV W
  have V := vIB_s vV
  have hx := vgx.trans hx
  refine X_pop rfl rfl rfl ?_
  refine X_aload_n rfl rfl rfl rfl ?_
  refine X_aload_nS rfl rfl rfl rfl ?_
  refine X_iload_n rfl rfl rfl rfl ?_
  refine X_iconst (v := (1 : Int32)) rfl rfl rfl ?_
  refine S_iadd rfl rfl hi (show (1 : Int32).toInt = 1 from rfl) (by omega) (fun vz3 hvz3 => ?_)
  refine vX_sld rfl rfl hx hvz3 (by omega) ?_
  refine Y_callV (as := [.int (xs (Int.toNat (y + 1)))]) (st := []) rfl rfl rfl (by decide) rfl (Nat.le_of_ble_eq_true rfl) (by decide) (Nat.le_of_ble_eq_true rfl) rfl ((congrFun V.1 355).trans s_355) (by decide) (LW_gx (LW_room (Nat.le_refl _) (Nat.le_refl _) (show 0 + 4 ≤ 99 by decide) (C_X13_by (d := 0) W (xs (Int.toNat (y + 1))) (xs (Int.toNat (y + 1))).toInt rfl))) ?_
  rintro _ g' ⟨⟨vr4, rfl, _, _, vV, vG⟩, vgx⟩
  have V := vIB_r vV vG V
  have W := vIB_t vV
  have hx := vgx.trans hx
  refine X_pop rfl rfl rfl ?_
  refine LW_goto (tgt := 1468) rfl rfl ?_
  exact K _ ⟨_, _, V, W⟩ hx
set_option maxRecDepth 10000 in
set_option maxHeartbeats 40000000 in
theorem vop_8 {g : LH} {L : Nat} {xs : Nat → Int32} {xi : Int32} {y : Int} (hi : xi.toInt = y) (hy : 0 ≤ y ∧ y + 6 ≤ (L : Int)) (hL : L ≤ 3072) (hx : Gx g = some (L, xs)) (hI : IB g) (K : ∀ g', IB g' → Gx g' = some (L, xs) → LW 322 100 0 0 1468 [some (.retAddr 0), some (.ref 0), some (.ref 355), some (.int xi)] [] g' (fun v _ => v = some (.int 1))) : LW 322 100 0 0 452 [some (.retAddr 0), some (.ref 0), some (.ref 355), some (.int xi)] [] g (fun v _ => v = some (.int 1)) := by
  obtain ⟨n, m, V, W⟩ := hI
  refine X_aload_n rfl rfl rfl rfl ?_
  refine X_aload_nS rfl rfl rfl rfl ?_
  refine X_iload_n rfl rfl rfl rfl ?_
  refine X_iconst (v := (1 : Int32)) rfl rfl rfl ?_
  refine S_iadd rfl rfl hi (show (1 : Int32).toInt = 1 from rfl) (by omega) (fun vz1 hvz1 => ?_)
  refine vX_sld rfl rfl hx hvz1 (by omega) ?_
  refine Y_callV (as := [.int (xs (Int.toNat (y + 1)))]) (st := []) rfl rfl rfl (by decide) rfl (Nat.le_of_ble_eq_true rfl) (by decide) (Nat.le_of_ble_eq_true rfl) rfl ((congrFun V.1 0).trans s_0) (by decide) (LW_gx (LW_room (Nat.le_refl _) (Nat.le_refl _) (show 0 + 27 ≤ 99 by decide) (C_X12_morning (d := 0) V (xs (Int.toNat (y + 1))) (xs (Int.toNat (y + 1))).toInt rfl))) ?_
  rintro _ g' ⟨⟨vr2, rfl, _, _, vV, vG⟩, vgx⟩
  have W := vIB_c vV W
  have V := vIB_s vV
  have hx := vgx.trans hx
  refine X_pop rfl rfl rfl ?_
  refine X_aload_n rfl rfl rfl rfl ?_
  refine X_aload_nS rfl rfl rfl rfl ?_
  refine X_iload_n rfl rfl rfl rfl ?_
  refine X_iconst (v := (1 : Int32)) rfl rfl rfl ?_
  refine S_iadd rfl rfl hi (show (1 : Int32).toInt = 1 from rfl) (by omega) (fun vz3 hvz3 => ?_)
  refine vX_sld rfl rfl hx hvz3 (by omega) ?_
  refine Y_callV (as := [.int (xs (Int.toNat (y + 1)))]) (st := []) rfl rfl rfl (by decide) rfl (Nat.le_of_ble_eq_true rfl) (by decide) (Nat.le_of_ble_eq_true rfl) rfl ((congrFun V.1 355).trans s_355) (by decide) (LW_gx (LW_room (Nat.le_refl _) (Nat.le_refl _) (show 0 + 34 ≤ 99 by decide) (C_X13_morning (d := 0) W (xs (Int.toNat (y + 1))) (xs (Int.toNat (y + 1))).toInt rfl))) ?_
  rintro _ g' ⟨⟨vr4, rfl, _, _, vV, vG⟩, vgx⟩
  have V := vIB_r vV vG V
  have W := vIB_t vV
  have hx := vgx.trans hx
  refine X_pop rfl rfl rfl ?_
  refine LW_goto (tgt := 1468) rfl rfl ?_
  exact K _ ⟨_, _, V, W⟩ hx
set_option maxRecDepth 10000 in
set_option maxHeartbeats 40000000 in
theorem vop_9 {g : LH} {L : Nat} {xs : Nat → Int32} {xi : Int32} {y : Int} (hi : xi.toInt = y) (hy : 0 ≤ y ∧ y + 6 ≤ (L : Int)) (hL : L ≤ 3072) (hx : Gx g = some (L, xs)) (hI : IB g) (K : ∀ g', IB g' → Gx g' = some (L, xs) → LW 322 100 0 0 1468 [some (.retAddr 0), some (.ref 0), some (.ref 355), some (.int xi)] [] g' (fun v _ => v = some (.int 1))) : LW 322 100 0 0 475 [some (.retAddr 0), some (.ref 0), some (.ref 355), some (.int xi)] [] g (fun v _ => v = some (.int 1)) := by
  obtain ⟨n, m, V, W⟩ := hI
  refine X_aload_n rfl rfl rfl rfl ?_
  refine X_aload_nS rfl rfl rfl rfl ?_
  refine X_iload_n rfl rfl rfl rfl ?_
  refine X_iconst (v := (1 : Int32)) rfl rfl rfl ?_
  refine S_iadd rfl rfl hi (show (1 : Int32).toInt = 1 from rfl) (by omega) (fun vz1 hvz1 => ?_)
  refine vX_sld rfl rfl hx hvz1 (by omega) ?_
  refine Y_callV (as := [.int (xs (Int.toNat (y + 1)))]) (st := []) rfl rfl rfl (by decide) rfl (Nat.le_of_ble_eq_true rfl) (by decide) (Nat.le_of_ble_eq_true rfl) rfl ((congrFun V.1 0).trans s_0) (by decide) (LW_gx (LW_room (Nat.le_refl _) (Nat.le_refl _) (show 0 + 19 ≤ 99 by decide) (C_X12_strike (d := 0) V (xs (Int.toNat (y + 1))) (xs (Int.toNat (y + 1))).toInt rfl))) ?_
  rintro _ g' ⟨⟨vr2, rfl, _, _, vV, vG⟩, vgx⟩
  have W := vIB_c vV W
  have V := vIB_s vV
  have hx := vgx.trans hx
  refine X_pop rfl rfl rfl ?_
  refine X_aload_n rfl rfl rfl rfl ?_
  refine X_aload_nS rfl rfl rfl rfl ?_
  refine X_iload_n rfl rfl rfl rfl ?_
  refine X_iconst (v := (1 : Int32)) rfl rfl rfl ?_
  refine S_iadd rfl rfl hi (show (1 : Int32).toInt = 1 from rfl) (by omega) (fun vz3 hvz3 => ?_)
  refine vX_sld rfl rfl hx hvz3 (by omega) ?_
  refine Y_callV (as := [.int (xs (Int.toNat (y + 1)))]) (st := []) rfl rfl rfl (by decide) rfl (Nat.le_of_ble_eq_true rfl) (by decide) (Nat.le_of_ble_eq_true rfl) rfl ((congrFun V.1 355).trans s_355) (by decide) (LW_gx (LW_room (Nat.le_refl _) (Nat.le_refl _) (show 0 + 14 ≤ 99 by decide) (C_X13_strike (d := 0) W (xs (Int.toNat (y + 1))) (xs (Int.toNat (y + 1))).toInt rfl))) ?_
  rintro _ g' ⟨⟨vr4, rfl, _, _, vV, vG⟩, vgx⟩
  have V := vIB_r vV vG V
  have W := vIB_t vV
  have hx := vgx.trans hx
  refine X_pop rfl rfl rfl ?_
  refine LW_goto (tgt := 1468) rfl rfl ?_
  exact K _ ⟨_, _, V, W⟩ hx
set_option maxRecDepth 10000 in
set_option maxHeartbeats 40000000 in
theorem vop_10 {g : LH} {L : Nat} {xs : Nat → Int32} {xi : Int32} {y : Int} (hi : xi.toInt = y) (hy : 0 ≤ y ∧ y + 6 ≤ (L : Int)) (hL : L ≤ 3072) (hx : Gx g = some (L, xs)) (hI : IB g) (K : ∀ g', IB g' → Gx g' = some (L, xs) → LW 322 100 0 0 1468 [some (.retAddr 0), some (.ref 0), some (.ref 355), some (.int xi)] [] g' (fun v _ => v = some (.int 1))) : LW 322 100 0 0 498 [some (.retAddr 0), some (.ref 0), some (.ref 355), some (.int xi)] [] g (fun v _ => v = some (.int 1)) := by
  obtain ⟨n, m, V, W⟩ := hI
  refine X_aload_n rfl rfl rfl rfl ?_
  refine X_aload_nS rfl rfl rfl rfl ?_
  refine X_iload_n rfl rfl rfl rfl ?_
  refine X_iconst (v := (1 : Int32)) rfl rfl rfl ?_
  refine S_iadd rfl rfl hi (show (1 : Int32).toInt = 1 from rfl) (by omega) (fun vz1 hvz1 => ?_)
  refine vX_sld rfl rfl hx hvz1 (by omega) ?_
  refine Y_callV (as := [.int (xs (Int.toNat (y + 1)))]) (st := []) rfl rfl rfl (by decide) rfl (Nat.le_of_ble_eq_true rfl) (by decide) (Nat.le_of_ble_eq_true rfl) rfl ((congrFun V.1 0).trans s_0) (by decide) (LW_gx (LW_room (Nat.le_refl _) (Nat.le_refl _) (show 0 + 19 ≤ 99 by decide) (C_X12_comeBack (d := 0) V (xs (Int.toNat (y + 1))) (xs (Int.toNat (y + 1))).toInt rfl))) ?_
  rintro _ g' ⟨⟨vr2, rfl, _, _, vV, vG⟩, vgx⟩
  have W := vIB_c vV W
  have V := vIB_s vV
  have hx := vgx.trans hx
  refine X_pop rfl rfl rfl ?_
  refine X_aload_n rfl rfl rfl rfl ?_
  refine X_aload_nS rfl rfl rfl rfl ?_
  refine X_iload_n rfl rfl rfl rfl ?_
  refine X_iconst (v := (1 : Int32)) rfl rfl rfl ?_
  refine S_iadd rfl rfl hi (show (1 : Int32).toInt = 1 from rfl) (by omega) (fun vz3 hvz3 => ?_)
  refine vX_sld rfl rfl hx hvz3 (by omega) ?_
  refine Y_callV (as := [.int (xs (Int.toNat (y + 1)))]) (st := []) rfl rfl rfl (by decide) rfl (Nat.le_of_ble_eq_true rfl) (by decide) (Nat.le_of_ble_eq_true rfl) rfl ((congrFun V.1 355).trans s_355) (by decide) (LW_gx (LW_room (Nat.le_refl _) (Nat.le_refl _) (show 0 + 14 ≤ 99 by decide) (C_X13_comeBack (d := 0) W (xs (Int.toNat (y + 1))) (xs (Int.toNat (y + 1))).toInt rfl))) ?_
  rintro _ g' ⟨⟨vr4, rfl, _, _, vV, vG⟩, vgx⟩
  have V := vIB_r vV vG V
  have W := vIB_t vV
  have hx := vgx.trans hx
  refine X_pop rfl rfl rfl ?_
  refine LW_goto (tgt := 1468) rfl rfl ?_
  exact K _ ⟨_, _, V, W⟩ hx
set_option maxRecDepth 10000 in
set_option maxHeartbeats 40000000 in
theorem vop_11 {g : LH} {L : Nat} {xs : Nat → Int32} {xi : Int32} {y : Int} (hi : xi.toInt = y) (hy : 0 ≤ y ∧ y + 6 ≤ (L : Int)) (hL : L ≤ 3072) (hx : Gx g = some (L, xs)) (hI : IB g) (K : ∀ g', IB g' → Gx g' = some (L, xs) → LW 322 100 0 0 1468 [some (.retAddr 0), some (.ref 0), some (.ref 355), some (.int xi)] [] g' (fun v _ => v = some (.int 1))) : LW 322 100 0 0 521 [some (.retAddr 0), some (.ref 0), some (.ref 355), some (.int xi)] [] g (fun v _ => v = some (.int 1)) := by
  obtain ⟨n, m, V, W⟩ := hI
  refine X_aload_n rfl rfl rfl rfl ?_
  refine X_aload_nS rfl rfl rfl rfl ?_
  refine X_iload_n rfl rfl rfl rfl ?_
  refine X_iconst (v := (1 : Int32)) rfl rfl rfl ?_
  refine S_iadd rfl rfl hi (show (1 : Int32).toInt = 1 from rfl) (by omega) (fun vz1 hvz1 => ?_)
  refine vX_sld rfl rfl hx hvz1 (by omega) ?_
  refine X_aload_nS rfl rfl rfl rfl ?_
  refine X_iload_n rfl rfl rfl rfl ?_
  refine X_iconst (v := (2 : Int32)) rfl rfl rfl ?_
  refine S_iadd rfl rfl hi (show (2 : Int32).toInt = 2 from rfl) (by omega) (fun vz2 hvz2 => ?_)
  refine vX_sld rfl rfl hx hvz2 (by omega) ?_
  refine Y_callV (as := [.int (xs (Int.toNat (y + 1))), .int (xs (Int.toNat (y + 2)))]) (st := []) rfl rfl rfl (by decide) rfl (Nat.le_of_ble_eq_true rfl) (by decide) (Nat.le_of_ble_eq_true rfl) rfl ((congrFun V.1 0).trans s_0) (by decide) (LW_gx (LW_room (Nat.le_refl _) (Nat.le_refl _) (show 0 + 11 ≤ 99 by decide) (C_X12_raise (d := 0) V (xs (Int.toNat (y + 1))) (xs (Int.toNat (y + 1))).toInt rfl (xs (Int.toNat (y + 2))) (xs (Int.toNat (y + 2))).toInt rfl))) ?_
  rintro _ g' ⟨⟨vr3, rfl, _, _, vV, vG⟩, vgx⟩
  have W := vIB_c vV W
  have V := vIB_s vV
  have hx := vgx.trans hx
  refine X_pop rfl rfl rfl ?_
  refine X_aload_n rfl rfl rfl rfl ?_
  refine X_aload_nS rfl rfl rfl rfl ?_
  refine X_iload_n rfl rfl rfl rfl ?_
  refine X_iconst (v := (1 : Int32)) rfl rfl rfl ?_
  refine S_iadd rfl rfl hi (show (1 : Int32).toInt = 1 from rfl) (by omega) (fun vz4 hvz4 => ?_)
  refine vX_sld rfl rfl hx hvz4 (by omega) ?_
  refine X_aload_nS rfl rfl rfl rfl ?_
  refine X_iload_n rfl rfl rfl rfl ?_
  refine X_iconst (v := (2 : Int32)) rfl rfl rfl ?_
  refine S_iadd rfl rfl hi (show (2 : Int32).toInt = 2 from rfl) (by omega) (fun vz5 hvz5 => ?_)
  refine vX_sld rfl rfl hx hvz5 (by omega) ?_
  refine Y_callV (as := [.int (xs (Int.toNat (y + 1))), .int (xs (Int.toNat (y + 2)))]) (st := []) rfl rfl rfl (by decide) rfl (Nat.le_of_ble_eq_true rfl) (by decide) (Nat.le_of_ble_eq_true rfl) rfl ((congrFun V.1 355).trans s_355) (by decide) (LW_gx (LW_room (Nat.le_refl _) (Nat.le_refl _) (show 0 + 9 ≤ 99 by decide) (C_X13_raise (d := 0) W (xs (Int.toNat (y + 1))) (xs (Int.toNat (y + 1))).toInt rfl (xs (Int.toNat (y + 2))) (xs (Int.toNat (y + 2))).toInt rfl))) ?_
  rintro _ g' ⟨⟨vr6, rfl, _, _, vV, vG⟩, vgx⟩
  have V := vIB_r vV vG V
  have W := vIB_t vV
  have hx := vgx.trans hx
  refine X_pop rfl rfl rfl ?_
  refine LW_goto (tgt := 1468) rfl rfl ?_
  exact K _ ⟨_, _, V, W⟩ hx
set_option maxRecDepth 10000 in
set_option maxHeartbeats 40000000 in
theorem vop_12 {g : LH} {L : Nat} {xs : Nat → Int32} {xi : Int32} {y : Int} (hi : xi.toInt = y) (hy : 0 ≤ y ∧ y + 6 ≤ (L : Int)) (hL : L ≤ 3072) (hx : Gx g = some (L, xs)) (hI : IB g) (K : ∀ g', IB g' → Gx g' = some (L, xs) → LW 322 100 0 0 1468 [some (.retAddr 0), some (.ref 0), some (.ref 355), some (.int xi)] [] g' (fun v _ => v = some (.int 1))) : LW 322 100 0 0 554 [some (.retAddr 0), some (.ref 0), some (.ref 355), some (.int xi)] [] g (fun v _ => v = some (.int 1)) := by
  obtain ⟨n, m, V, W⟩ := hI
  refine X_aload_n rfl rfl rfl rfl ?_
  refine X_aload_nS rfl rfl rfl rfl ?_
  refine X_iload_n rfl rfl rfl rfl ?_
  refine X_iconst (v := (1 : Int32)) rfl rfl rfl ?_
  refine S_iadd rfl rfl hi (show (1 : Int32).toInt = 1 from rfl) (by omega) (fun vz1 hvz1 => ?_)
  refine vX_sld rfl rfl hx hvz1 (by omega) ?_
  refine X_aload_nS rfl rfl rfl rfl ?_
  refine X_iload_n rfl rfl rfl rfl ?_
  refine X_iconst (v := (2 : Int32)) rfl rfl rfl ?_
  refine S_iadd rfl rfl hi (show (2 : Int32).toInt = 2 from rfl) (by omega) (fun vz2 hvz2 => ?_)
  refine vX_sld rfl rfl hx hvz2 (by omega) ?_
  refine Y_callV (as := [.int (xs (Int.toNat (y + 1))), .int (xs (Int.toNat (y + 2)))]) (st := []) rfl rfl rfl (by decide) rfl (Nat.le_of_ble_eq_true rfl) (by decide) (Nat.le_of_ble_eq_true rfl) rfl ((congrFun V.1 0).trans s_0) (by decide) (LW_gx (LW_room (Nat.le_refl _) (Nat.le_refl _) (show 0 + 11 ≤ 99 by decide) (C_X12_sign (d := 0) V (xs (Int.toNat (y + 1))) (xs (Int.toNat (y + 1))).toInt rfl (xs (Int.toNat (y + 2))) (xs (Int.toNat (y + 2))).toInt rfl))) ?_
  rintro _ g' ⟨⟨vr3, rfl, _, _, vV, vG⟩, vgx⟩
  have W := vIB_c vV W
  have V := vIB_s vV
  have hx := vgx.trans hx
  refine X_pop rfl rfl rfl ?_
  refine X_aload_n rfl rfl rfl rfl ?_
  refine X_aload_nS rfl rfl rfl rfl ?_
  refine X_iload_n rfl rfl rfl rfl ?_
  refine X_iconst (v := (1 : Int32)) rfl rfl rfl ?_
  refine S_iadd rfl rfl hi (show (1 : Int32).toInt = 1 from rfl) (by omega) (fun vz4 hvz4 => ?_)
  refine vX_sld rfl rfl hx hvz4 (by omega) ?_
  refine X_aload_nS rfl rfl rfl rfl ?_
  refine X_iload_n rfl rfl rfl rfl ?_
  refine X_iconst (v := (2 : Int32)) rfl rfl rfl ?_
  refine S_iadd rfl rfl hi (show (2 : Int32).toInt = 2 from rfl) (by omega) (fun vz5 hvz5 => ?_)
  refine vX_sld rfl rfl hx hvz5 (by omega) ?_
  refine Y_callV (as := [.int (xs (Int.toNat (y + 1))), .int (xs (Int.toNat (y + 2)))]) (st := []) rfl rfl rfl (by decide) rfl (Nat.le_of_ble_eq_true rfl) (by decide) (Nat.le_of_ble_eq_true rfl) rfl ((congrFun V.1 355).trans s_355) (by decide) (LW_gx (LW_room (Nat.le_refl _) (Nat.le_refl _) (show 0 + 9 ≤ 99 by decide) (C_X13_sign (d := 0) W (xs (Int.toNat (y + 1))) (xs (Int.toNat (y + 1))).toInt rfl (xs (Int.toNat (y + 2))) (xs (Int.toNat (y + 2))).toInt rfl))) ?_
  rintro _ g' ⟨⟨vr6, rfl, _, _, vV, vG⟩, vgx⟩
  have V := vIB_r vV vG V
  have W := vIB_t vV
  have hx := vgx.trans hx
  refine X_pop rfl rfl rfl ?_
  refine LW_goto (tgt := 1468) rfl rfl ?_
  exact K _ ⟨_, _, V, W⟩ hx
set_option maxRecDepth 10000 in
set_option maxHeartbeats 40000000 in
theorem vop_13 {g : LH} {L : Nat} {xs : Nat → Int32} {xi : Int32} {y : Int} (hi : xi.toInt = y) (hy : 0 ≤ y ∧ y + 6 ≤ (L : Int)) (hL : L ≤ 3072) (hx : Gx g = some (L, xs)) (hI : IB g) (K : ∀ g', IB g' → Gx g' = some (L, xs) → LW 322 100 0 0 1468 [some (.retAddr 0), some (.ref 0), some (.ref 355), some (.int xi)] [] g' (fun v _ => v = some (.int 1))) : LW 322 100 0 0 587 [some (.retAddr 0), some (.ref 0), some (.ref 355), some (.int xi)] [] g (fun v _ => v = some (.int 1)) := by
  obtain ⟨n, m, V, W⟩ := hI
  refine X_aload_n rfl rfl rfl rfl ?_
  refine X_aload_nS rfl rfl rfl rfl ?_
  refine X_iload_n rfl rfl rfl rfl ?_
  refine X_iconst (v := (1 : Int32)) rfl rfl rfl ?_
  refine S_iadd rfl rfl hi (show (1 : Int32).toInt = 1 from rfl) (by omega) (fun vz1 hvz1 => ?_)
  refine vX_sld rfl rfl hx hvz1 (by omega) ?_
  refine Y_callV (as := [.int (xs (Int.toNat (y + 1)))]) (st := []) rfl rfl rfl (by decide) rfl (Nat.le_of_ble_eq_true rfl) (by decide) (Nat.le_of_ble_eq_true rfl) rfl ((congrFun V.1 0).trans s_0) (by decide) (LW_gx (LW_room (Nat.le_refl _) (Nat.le_refl _) (show 0 + 20 ≤ 99 by decide) (C_X12_contract (d := 0) V (xs (Int.toNat (y + 1))) (xs (Int.toNat (y + 1))).toInt rfl))) ?_
  rintro _ g' ⟨⟨vr2, rfl, _, _, vV, vG⟩, vgx⟩
  have W := vIB_c vV W
  have V := vIB_s vV
  have hx := vgx.trans hx
  refine X_pop rfl rfl rfl ?_
  refine X_aload_n rfl rfl rfl rfl ?_
  refine X_aload_nS rfl rfl rfl rfl ?_
  refine X_iload_n rfl rfl rfl rfl ?_
  refine X_iconst (v := (1 : Int32)) rfl rfl rfl ?_
  refine S_iadd rfl rfl hi (show (1 : Int32).toInt = 1 from rfl) (by omega) (fun vz3 hvz3 => ?_)
  refine vX_sld rfl rfl hx hvz3 (by omega) ?_
  refine Y_callV (as := [.int (xs (Int.toNat (y + 1)))]) (st := []) rfl rfl rfl (by decide) rfl (Nat.le_of_ble_eq_true rfl) (by decide) (Nat.le_of_ble_eq_true rfl) rfl ((congrFun V.1 355).trans s_355) (by decide) (LW_gx (LW_room (Nat.le_refl _) (Nat.le_refl _) (show 0 + 33 ≤ 99 by decide) (C_X13_contract (d := 0) W (xs (Int.toNat (y + 1))) (xs (Int.toNat (y + 1))).toInt rfl))) ?_
  rintro _ g' ⟨⟨vr4, rfl, _, _, vV, vG⟩, vgx⟩
  have V := vIB_r vV vG V
  have W := vIB_t vV
  have hx := vgx.trans hx
  refine X_pop rfl rfl rfl ?_
  refine LW_goto (tgt := 1468) rfl rfl ?_
  exact K _ ⟨_, _, V, W⟩ hx
set_option maxRecDepth 10000 in
set_option maxHeartbeats 40000000 in
theorem vop_14 {g : LH} {L : Nat} {xs : Nat → Int32} {xi : Int32} {y : Int} (hi : xi.toInt = y) (hy : 0 ≤ y ∧ y + 6 ≤ (L : Int)) (hL : L ≤ 3072) (hx : Gx g = some (L, xs)) (hI : IB g) (K : ∀ g', IB g' → Gx g' = some (L, xs) → LW 322 100 0 0 1468 [some (.retAddr 0), some (.ref 0), some (.ref 355), some (.int xi)] [] g' (fun v _ => v = some (.int 1))) : LW 322 100 0 0 610 [some (.retAddr 0), some (.ref 0), some (.ref 355), some (.int xi)] [] g (fun v _ => v = some (.int 1)) := by
  obtain ⟨n, m, V, W⟩ := hI
  refine X_aload_n rfl rfl rfl rfl ?_
  refine X_aload_nS rfl rfl rfl rfl ?_
  refine X_iload_n rfl rfl rfl rfl ?_
  refine X_iconst (v := (1 : Int32)) rfl rfl rfl ?_
  refine S_iadd rfl rfl hi (show (1 : Int32).toInt = 1 from rfl) (by omega) (fun vz1 hvz1 => ?_)
  refine vX_sld rfl rfl hx hvz1 (by omega) ?_
  refine Y_callV (as := [.int (xs (Int.toNat (y + 1)))]) (st := []) rfl rfl rfl (by decide) rfl (Nat.le_of_ble_eq_true rfl) (by decide) (Nat.le_of_ble_eq_true rfl) rfl ((congrFun V.1 0).trans s_0) (by decide) (LW_gx (LW_room (Nat.le_refl _) (Nat.le_refl _) (show 0 + 36 ≤ 99 by decide) (C_X12_played (d := 0) V (xs (Int.toNat (y + 1))) (xs (Int.toNat (y + 1))).toInt rfl))) ?_
  rintro _ g' ⟨⟨vr2, rfl, _, _, vV, vG⟩, vgx⟩
  have W := vIB_c vV W
  have V := vIB_s vV
  have hx := vgx.trans hx
  refine X_pop rfl rfl rfl ?_
  refine X_aload_n rfl rfl rfl rfl ?_
  refine X_aload_nS rfl rfl rfl rfl ?_
  refine X_iload_n rfl rfl rfl rfl ?_
  refine X_iconst (v := (1 : Int32)) rfl rfl rfl ?_
  refine S_iadd rfl rfl hi (show (1 : Int32).toInt = 1 from rfl) (by omega) (fun vz3 hvz3 => ?_)
  refine vX_sld rfl rfl hx hvz3 (by omega) ?_
  refine Y_callV (as := [.int (xs (Int.toNat (y + 1)))]) (st := []) rfl rfl rfl (by decide) rfl (Nat.le_of_ble_eq_true rfl) (by decide) (Nat.le_of_ble_eq_true rfl) rfl ((congrFun V.1 355).trans s_355) (by decide) (LW_gx (LW_room (Nat.le_refl _) (Nat.le_refl _) (show 0 + 90 ≤ 99 by decide) (C_X13_played (d := 0) W (xs (Int.toNat (y + 1))) (xs (Int.toNat (y + 1))).toInt rfl))) ?_
  rintro _ g' ⟨⟨vr4, rfl, _, _, vV, vG⟩, vgx⟩
  have V := vIB_r vV vG V
  have W := vIB_t vV
  have hx := vgx.trans hx
  refine X_pop rfl rfl rfl ?_
  refine LW_goto (tgt := 1468) rfl rfl ?_
  exact K _ ⟨_, _, V, W⟩ hx
set_option maxRecDepth 10000 in
set_option maxHeartbeats 40000000 in
theorem vop_15 {g : LH} {L : Nat} {xs : Nat → Int32} {xi : Int32} {y : Int} (hi : xi.toInt = y) (hy : 0 ≤ y ∧ y + 6 ≤ (L : Int)) (hL : L ≤ 3072) (hx : Gx g = some (L, xs)) (hI : IB g) (K : ∀ g', IB g' → Gx g' = some (L, xs) → LW 322 100 0 0 1468 [some (.retAddr 0), some (.ref 0), some (.ref 355), some (.int xi)] [] g' (fun v _ => v = some (.int 1))) : LW 322 100 0 0 633 [some (.retAddr 0), some (.ref 0), some (.ref 355), some (.int xi)] [] g (fun v _ => v = some (.int 1)) := by
  obtain ⟨n, m, V, W⟩ := hI
  refine X_aload_n rfl rfl rfl rfl ?_
  refine X_aload_nS rfl rfl rfl rfl ?_
  refine X_iload_n rfl rfl rfl rfl ?_
  refine X_iconst (v := (1 : Int32)) rfl rfl rfl ?_
  refine S_iadd rfl rfl hi (show (1 : Int32).toInt = 1 from rfl) (by omega) (fun vz1 hvz1 => ?_)
  refine vX_sld rfl rfl hx hvz1 (by omega) ?_
  refine X_aload_nS rfl rfl rfl rfl ?_
  refine X_iload_n rfl rfl rfl rfl ?_
  refine X_iconst (v := (2 : Int32)) rfl rfl rfl ?_
  refine S_iadd rfl rfl hi (show (2 : Int32).toInt = 2 from rfl) (by omega) (fun vz2 hvz2 => ?_)
  refine vX_sld rfl rfl hx hvz2 (by omega) ?_
  refine Y_callV (as := [.int (xs (Int.toNat (y + 1))), .int (xs (Int.toNat (y + 2)))]) (st := []) rfl rfl rfl (by decide) rfl (Nat.le_of_ble_eq_true rfl) (by decide) (Nat.le_of_ble_eq_true rfl) rfl ((congrFun V.1 0).trans s_0) (by decide) (LW_gx (LW_room (Nat.le_refl _) (Nat.le_refl _) (show 0 + 35 ≤ 99 by decide) (C_X12_year (d := 0) V (xs (Int.toNat (y + 1))) (xs (Int.toNat (y + 1))).toInt rfl (xs (Int.toNat (y + 2))) (xs (Int.toNat (y + 2))).toInt rfl))) ?_
  rintro _ g' ⟨⟨vr3, rfl, _, _, vV, vG⟩, vgx⟩
  have W := vIB_c vV W
  have V := vIB_s vV
  have hx := vgx.trans hx
  refine X_pop rfl rfl rfl ?_
  refine X_aload_n rfl rfl rfl rfl ?_
  refine X_aload_nS rfl rfl rfl rfl ?_
  refine X_iload_n rfl rfl rfl rfl ?_
  refine X_iconst (v := (1 : Int32)) rfl rfl rfl ?_
  refine S_iadd rfl rfl hi (show (1 : Int32).toInt = 1 from rfl) (by omega) (fun vz4 hvz4 => ?_)
  refine vX_sld rfl rfl hx hvz4 (by omega) ?_
  refine X_aload_nS rfl rfl rfl rfl ?_
  refine X_iload_n rfl rfl rfl rfl ?_
  refine X_iconst (v := (2 : Int32)) rfl rfl rfl ?_
  refine S_iadd rfl rfl hi (show (2 : Int32).toInt = 2 from rfl) (by omega) (fun vz5 hvz5 => ?_)
  refine vX_sld rfl rfl hx hvz5 (by omega) ?_
  refine Y_callV (as := [.int (xs (Int.toNat (y + 1))), .int (xs (Int.toNat (y + 2)))]) (st := []) rfl rfl rfl (by decide) rfl (Nat.le_of_ble_eq_true rfl) (by decide) (Nat.le_of_ble_eq_true rfl) rfl ((congrFun V.1 355).trans s_355) (by decide) (LW_gx (LW_room (Nat.le_refl _) (Nat.le_refl _) (show 0 + 34 ≤ 99 by decide) (C_X13_year (d := 0) W (xs (Int.toNat (y + 1))) (xs (Int.toNat (y + 1))).toInt rfl (xs (Int.toNat (y + 2))) (xs (Int.toNat (y + 2))).toInt rfl))) ?_
  rintro _ g' ⟨⟨vr6, rfl, _, _, vV, vG⟩, vgx⟩
  have V := vIB_r vV vG V
  have W := vIB_t vV
  have hx := vgx.trans hx
  refine X_pop rfl rfl rfl ?_
  refine LW_goto (tgt := 1468) rfl rfl ?_
  exact K _ ⟨_, _, V, W⟩ hx
set_option maxRecDepth 10000 in
set_option maxHeartbeats 40000000 in
theorem vop_16 {g : LH} {L : Nat} {xs : Nat → Int32} {xi : Int32} {y : Int} (hi : xi.toInt = y) (hy : 0 ≤ y ∧ y + 6 ≤ (L : Int)) (hL : L ≤ 3072) (hx : Gx g = some (L, xs)) (hI : IB g) (K : ∀ g', IB g' → Gx g' = some (L, xs) → LW 322 100 0 0 1468 [some (.retAddr 0), some (.ref 0), some (.ref 355), some (.int xi)] [] g' (fun v _ => v = some (.int 1))) : LW 322 100 0 0 666 [some (.retAddr 0), some (.ref 0), some (.ref 355), some (.int xi)] [] g (fun v _ => v = some (.int 1)) := by
  obtain ⟨n, m, V, W⟩ := hI
  refine X_aload_n rfl rfl rfl rfl ?_
  refine Y_callV (as := []) (st := []) rfl rfl rfl (by decide) rfl (Nat.le_of_ble_eq_true rfl) (by decide) (Nat.le_of_ble_eq_true rfl) rfl ((congrFun V.1 0).trans s_0) (by decide) (LW_gx (LW_room (Nat.le_refl _) (Nat.le_refl _) (show 0 + 9 ≤ 99 by decide) (C_X12_undo (d := 0) V ))) ?_
  rintro _ g' ⟨⟨vr1, rfl, _, _, vV, vG⟩, vgx⟩
  have W := vIB_c vV W
  have V := vIB_s vV
  have hx := vgx.trans hx
  refine X_pop rfl rfl rfl ?_
  refine X_aload_n rfl rfl rfl rfl ?_
  refine Y_callV (as := []) (st := []) rfl rfl rfl (by decide) rfl (Nat.le_of_ble_eq_true rfl) (by decide) (Nat.le_of_ble_eq_true rfl) rfl ((congrFun V.1 355).trans s_355) (by decide) (LW_gx (LW_room (Nat.le_refl _) (Nat.le_refl _) (show 0 + 3 ≤ 99 by decide) (C_X13_undo (d := 0) W ))) ?_
  rintro _ g' ⟨⟨vr2, rfl, _, _, vV, vG⟩, vgx⟩
  have V := vIB_r vV vG V
  have W := vIB_t vV
  have hx := vgx.trans hx
  refine X_pop rfl rfl rfl ?_
  refine LW_goto (tgt := 1468) rfl rfl ?_
  exact K _ ⟨_, _, V, W⟩ hx
set_option maxRecDepth 10000 in
set_option maxHeartbeats 40000000 in
theorem vop_17 {g : LH} {L : Nat} {xs : Nat → Int32} {xi : Int32} {y : Int} (hi : xi.toInt = y) (hy : 0 ≤ y ∧ y + 6 ≤ (L : Int)) (hL : L ≤ 3072) (hx : Gx g = some (L, xs)) (hI : IB g) (K : ∀ g', IB g' → Gx g' = some (L, xs) → LW 322 100 0 0 1468 [some (.retAddr 0), some (.ref 0), some (.ref 355), some (.int xi)] [] g' (fun v _ => v = some (.int 1))) : LW 322 100 0 0 679 [some (.retAddr 0), some (.ref 0), some (.ref 355), some (.int xi)] [] g (fun v _ => v = some (.int 1)) := by
  obtain ⟨n, m, V, W⟩ := hI
  refine X_aload_n rfl rfl rfl rfl ?_
  refine X_aload_nS rfl rfl rfl rfl ?_
  refine X_iload_n rfl rfl rfl rfl ?_
  refine X_iconst (v := (1 : Int32)) rfl rfl rfl ?_
  refine S_iadd rfl rfl hi (show (1 : Int32).toInt = 1 from rfl) (by omega) (fun vz1 hvz1 => ?_)
  refine vX_sld rfl rfl hx hvz1 (by omega) ?_
  refine X_aload_nS rfl rfl rfl rfl ?_
  refine X_iload_n rfl rfl rfl rfl ?_
  refine X_iconst (v := (2 : Int32)) rfl rfl rfl ?_
  refine S_iadd rfl rfl hi (show (2 : Int32).toInt = 2 from rfl) (by omega) (fun vz2 hvz2 => ?_)
  refine vX_sld rfl rfl hx hvz2 (by omega) ?_
  refine Y_callV (as := [.int (xs (Int.toNat (y + 1))), .int (xs (Int.toNat (y + 2)))]) (st := []) rfl rfl rfl (by decide) rfl (Nat.le_of_ble_eq_true rfl) (by decide) (Nat.le_of_ble_eq_true rfl) rfl ((congrFun V.1 0).trans s_0) (by decide) (LW_gx (LW_room (Nat.le_refl _) (Nat.le_refl _) (show 0 + 17 ≤ 99 by decide) (C_X12_of (d := 0) V (xs (Int.toNat (y + 1))) (xs (Int.toNat (y + 1))).toInt rfl (xs (Int.toNat (y + 2))) (xs (Int.toNat (y + 2))).toInt rfl))) ?_
  rintro _ g' ⟨⟨vr3, rfl, vV, vG⟩, vgx⟩
  have W := vIB_c vV W
  have V := vIB_s vV
  have hx := vgx.trans hx
  refine X_pop rfl rfl rfl ?_
  refine X_aload_n rfl rfl rfl rfl ?_
  refine X_aload_nS rfl rfl rfl rfl ?_
  refine X_iload_n rfl rfl rfl rfl ?_
  refine X_iconst (v := (1 : Int32)) rfl rfl rfl ?_
  refine S_iadd rfl rfl hi (show (1 : Int32).toInt = 1 from rfl) (by omega) (fun vz4 hvz4 => ?_)
  refine vX_sld rfl rfl hx hvz4 (by omega) ?_
  refine X_aload_nS rfl rfl rfl rfl ?_
  refine X_iload_n rfl rfl rfl rfl ?_
  refine X_iconst (v := (2 : Int32)) rfl rfl rfl ?_
  refine S_iadd rfl rfl hi (show (2 : Int32).toInt = 2 from rfl) (by omega) (fun vz5 hvz5 => ?_)
  refine vX_sld rfl rfl hx hvz5 (by omega) ?_
  refine Y_callV (as := [.int (xs (Int.toNat (y + 1))), .int (xs (Int.toNat (y + 2)))]) (st := []) rfl rfl rfl (by decide) rfl (Nat.le_of_ble_eq_true rfl) (by decide) (Nat.le_of_ble_eq_true rfl) rfl ((congrFun V.1 355).trans s_355) (by decide) (LW_gx (LW_room (Nat.le_refl _) (Nat.le_refl _) (show 0 + 26 ≤ 99 by decide) (C_X13_of (d := 0) W (xs (Int.toNat (y + 1))) (xs (Int.toNat (y + 1))).toInt rfl (xs (Int.toNat (y + 2))) (xs (Int.toNat (y + 2))).toInt rfl))) ?_
  rintro _ g' ⟨⟨vr6, rfl, vV, vG⟩, vgx⟩
  have V := vIB_r vV vG V
  have W := vIB_t vV
  have hx := vgx.trans hx
  refine X_pop rfl rfl rfl ?_
  refine LW_goto (tgt := 1468) rfl rfl ?_
  exact K _ ⟨_, _, V, W⟩ hx
set_option maxRecDepth 10000 in
set_option maxHeartbeats 40000000 in
theorem vop_18 {g : LH} {L : Nat} {xs : Nat → Int32} {xi : Int32} {y : Int} (hi : xi.toInt = y) (hy : 0 ≤ y ∧ y + 6 ≤ (L : Int)) (hL : L ≤ 3072) (hx : Gx g = some (L, xs)) (hI : IB g) (K : ∀ g', IB g' → Gx g' = some (L, xs) → LW 322 100 0 0 1468 [some (.retAddr 0), some (.ref 0), some (.ref 355), some (.int xi)] [] g' (fun v _ => v = some (.int 1))) : LW 322 100 0 0 712 [some (.retAddr 0), some (.ref 0), some (.ref 355), some (.int xi)] [] g (fun v _ => v = some (.int 1)) := by
  obtain ⟨n, m, V, W⟩ := hI
  refine X_aload_n rfl rfl rfl rfl ?_
  refine X_aload_nS rfl rfl rfl rfl ?_
  refine X_iload_n rfl rfl rfl rfl ?_
  refine X_iconst (v := (1 : Int32)) rfl rfl rfl ?_
  refine S_iadd rfl rfl hi (show (1 : Int32).toInt = 1 from rfl) (by omega) (fun vz1 hvz1 => ?_)
  refine vX_sld rfl rfl hx hvz1 (by omega) ?_
  refine X_aload_nS rfl rfl rfl rfl ?_
  refine X_iload_n rfl rfl rfl rfl ?_
  refine X_iconst (v := (2 : Int32)) rfl rfl rfl ?_
  refine S_iadd rfl rfl hi (show (2 : Int32).toInt = 2 from rfl) (by omega) (fun vz2 hvz2 => ?_)
  refine vX_sld rfl rfl hx hvz2 (by omega) ?_
  refine Y_callV (as := [.int (xs (Int.toNat (y + 1))), .int (xs (Int.toNat (y + 2)))]) (st := []) rfl rfl rfl (by decide) rfl (Nat.le_of_ble_eq_true rfl) (by decide) (Nat.le_of_ble_eq_true rfl) rfl ((congrFun V.1 0).trans s_0) (by decide) (LW_gx (LW_room (Nat.le_refl _) (Nat.le_refl _) (show 0 + 9 ≤ 99 by decide) (C_X12_ofWord (d := 0) V (xs (Int.toNat (y + 1))) (xs (Int.toNat (y + 1))).toInt rfl (xs (Int.toNat (y + 2))) (xs (Int.toNat (y + 2))).toInt rfl))) ?_
  rintro _ g' ⟨⟨vr3, rfl, vgg⟩, vgx⟩
  subst vgg
  refine X_pop rfl rfl rfl ?_
  refine X_aload_n rfl rfl rfl rfl ?_
  refine X_aload_nS rfl rfl rfl rfl ?_
  refine X_iload_n rfl rfl rfl rfl ?_
  refine X_iconst (v := (1 : Int32)) rfl rfl rfl ?_
  refine S_iadd rfl rfl hi (show (1 : Int32).toInt = 1 from rfl) (by omega) (fun vz4 hvz4 => ?_)
  refine vX_sld rfl rfl hx hvz4 (by omega) ?_
  refine X_aload_nS rfl rfl rfl rfl ?_
  refine X_iload_n rfl rfl rfl rfl ?_
  refine X_iconst (v := (2 : Int32)) rfl rfl rfl ?_
  refine S_iadd rfl rfl hi (show (2 : Int32).toInt = 2 from rfl) (by omega) (fun vz5 hvz5 => ?_)
  refine vX_sld rfl rfl hx hvz5 (by omega) ?_
  refine Y_callV (as := [.int (xs (Int.toNat (y + 1))), .int (xs (Int.toNat (y + 2)))]) (st := []) rfl rfl rfl (by decide) rfl (Nat.le_of_ble_eq_true rfl) (by decide) (Nat.le_of_ble_eq_true rfl) rfl ((congrFun V.1 355).trans s_355) (by decide) (LW_gx (LW_room (Nat.le_refl _) (Nat.le_refl _) (show 0 + 12 ≤ 99 by decide) (C_X13_ofWord (d := 0) W (xs (Int.toNat (y + 1))) (xs (Int.toNat (y + 1))).toInt rfl (xs (Int.toNat (y + 2))) (xs (Int.toNat (y + 2))).toInt rfl))) ?_
  rintro _ g' ⟨⟨vr6, rfl, vgg⟩, vgx⟩
  subst vgg
  refine X_pop rfl rfl rfl ?_
  refine LW_goto (tgt := 1468) rfl rfl ?_
  exact K _ ⟨_, _, V, W⟩ hx
set_option maxRecDepth 10000 in
set_option maxHeartbeats 40000000 in
theorem vop_19 {g : LH} {L : Nat} {xs : Nat → Int32} {xi : Int32} {y : Int} (hi : xi.toInt = y) (hy : 0 ≤ y ∧ y + 6 ≤ (L : Int)) (hL : L ≤ 3072) (hx : Gx g = some (L, xs)) (hI : IB g) (K : ∀ g', IB g' → Gx g' = some (L, xs) → LW 322 100 0 0 1468 [some (.retAddr 0), some (.ref 0), some (.ref 355), some (.int xi)] [] g' (fun v _ => v = some (.int 1))) : LW 322 100 0 0 745 [some (.retAddr 0), some (.ref 0), some (.ref 355), some (.int xi)] [] g (fun v _ => v = some (.int 1)) := by
  obtain ⟨n, m, V, W⟩ := hI
  refine X_aload_n rfl rfl rfl rfl ?_
  refine X_aload_nS rfl rfl rfl rfl ?_
  refine X_iload_n rfl rfl rfl rfl ?_
  refine X_iconst (v := (1 : Int32)) rfl rfl rfl ?_
  refine S_iadd rfl rfl hi (show (1 : Int32).toInt = 1 from rfl) (by omega) (fun vz1 hvz1 => ?_)
  refine vX_sld rfl rfl hx hvz1 (by omega) ?_
  refine X_aload_nS rfl rfl rfl rfl ?_
  refine X_iload_n rfl rfl rfl rfl ?_
  refine X_iconst (v := (2 : Int32)) rfl rfl rfl ?_
  refine S_iadd rfl rfl hi (show (2 : Int32).toInt = 2 from rfl) (by omega) (fun vz2 hvz2 => ?_)
  refine vX_sld rfl rfl hx hvz2 (by omega) ?_
  refine Y_callV (as := [.int (xs (Int.toNat (y + 1))), .int (xs (Int.toNat (y + 2)))]) (st := []) rfl rfl rfl (by decide) rfl (Nat.le_of_ble_eq_true rfl) (by decide) (Nat.le_of_ble_eq_true rfl) rfl ((congrFun V.1 0).trans s_0) (by decide) (LW_gx (LW_room (Nat.le_refl _) (Nat.le_refl _) (show 0 + 5 ≤ 99 by decide) (C_X12_ofSaying (d := 0) V (xs (Int.toNat (y + 1))) (xs (Int.toNat (y + 1))).toInt rfl (xs (Int.toNat (y + 2))) (xs (Int.toNat (y + 2))).toInt rfl))) ?_
  rintro _ g' ⟨⟨vr3, rfl, _, _, vgg⟩, vgx⟩
  subst vgg
  refine X_pop rfl rfl rfl ?_
  refine X_aload_n rfl rfl rfl rfl ?_
  refine X_aload_nS rfl rfl rfl rfl ?_
  refine X_iload_n rfl rfl rfl rfl ?_
  refine X_iconst (v := (1 : Int32)) rfl rfl rfl ?_
  refine S_iadd rfl rfl hi (show (1 : Int32).toInt = 1 from rfl) (by omega) (fun vz4 hvz4 => ?_)
  refine vX_sld rfl rfl hx hvz4 (by omega) ?_
  refine X_aload_nS rfl rfl rfl rfl ?_
  refine X_iload_n rfl rfl rfl rfl ?_
  refine X_iconst (v := (2 : Int32)) rfl rfl rfl ?_
  refine S_iadd rfl rfl hi (show (2 : Int32).toInt = 2 from rfl) (by omega) (fun vz5 hvz5 => ?_)
  refine vX_sld rfl rfl hx hvz5 (by omega) ?_
  refine Y_callV (as := [.int (xs (Int.toNat (y + 1))), .int (xs (Int.toNat (y + 2)))]) (st := []) rfl rfl rfl (by decide) rfl (Nat.le_of_ble_eq_true rfl) (by decide) (Nat.le_of_ble_eq_true rfl) rfl ((congrFun V.1 355).trans s_355) (by decide) (LW_gx (LW_room (Nat.le_refl _) (Nat.le_refl _) (show 0 + 5 ≤ 99 by decide) (C_X13_ofSaying (d := 0) W (xs (Int.toNat (y + 1))) (xs (Int.toNat (y + 1))).toInt rfl (xs (Int.toNat (y + 2))) (xs (Int.toNat (y + 2))).toInt rfl))) ?_
  rintro _ g' ⟨⟨vr6, rfl, vgg⟩, vgx⟩
  subst vgg
  refine X_pop rfl rfl rfl ?_
  refine LW_goto (tgt := 1468) rfl rfl ?_
  exact K _ ⟨_, _, V, W⟩ hx
set_option maxRecDepth 10000 in
set_option maxHeartbeats 40000000 in
theorem vop_20 {g : LH} {L : Nat} {xs : Nat → Int32} {xi : Int32} {y : Int} (hi : xi.toInt = y) (hy : 0 ≤ y ∧ y + 6 ≤ (L : Int)) (hL : L ≤ 3072) (hx : Gx g = some (L, xs)) (hI : IB g) (K : ∀ g', IB g' → Gx g' = some (L, xs) → LW 322 100 0 0 1468 [some (.retAddr 0), some (.ref 0), some (.ref 355), some (.int xi)] [] g' (fun v _ => v = some (.int 1))) : LW 322 100 0 0 778 [some (.retAddr 0), some (.ref 0), some (.ref 355), some (.int xi)] [] g (fun v _ => v = some (.int 1)) := by
  obtain ⟨n, m, V, W⟩ := hI
  refine X_aload_n rfl rfl rfl rfl ?_
  refine X_aload_nS rfl rfl rfl rfl ?_
  refine X_iload_n rfl rfl rfl rfl ?_
  refine X_iconst (v := (1 : Int32)) rfl rfl rfl ?_
  refine S_iadd rfl rfl hi (show (1 : Int32).toInt = 1 from rfl) (by omega) (fun vz1 hvz1 => ?_)
  refine vX_sld rfl rfl hx hvz1 (by omega) ?_
  refine X_aload_nS rfl rfl rfl rfl ?_
  refine X_iload_n rfl rfl rfl rfl ?_
  refine X_iconst (v := (2 : Int32)) rfl rfl rfl ?_
  refine S_iadd rfl rfl hi (show (2 : Int32).toInt = 2 from rfl) (by omega) (fun vz2 hvz2 => ?_)
  refine vX_sld rfl rfl hx hvz2 (by omega) ?_
  refine Y_callV (as := [.int (xs (Int.toNat (y + 1))), .int (xs (Int.toNat (y + 2)))]) (st := []) rfl rfl rfl (by decide) rfl (Nat.le_of_ble_eq_true rfl) (by decide) (Nat.le_of_ble_eq_true rfl) rfl ((congrFun V.1 0).trans s_0) (by decide) (LW_gx (LW_room (Nat.le_refl _) (Nat.le_refl _) (show 0 + 15 ≤ 99 by decide) (C_X12_mistaken (d := 0) V (xs (Int.toNat (y + 1))) (xs (Int.toNat (y + 1))).toInt rfl (xs (Int.toNat (y + 2))) (xs (Int.toNat (y + 2))).toInt rfl))) ?_
  rintro _ g' ⟨⟨vr3, rfl, _, _, vV, vG⟩, vgx⟩
  have W := vIB_c vV W
  have V := vIB_s vV
  have hx := vgx.trans hx
  refine X_pop rfl rfl rfl ?_
  refine X_aload_n rfl rfl rfl rfl ?_
  refine X_aload_nS rfl rfl rfl rfl ?_
  refine X_iload_n rfl rfl rfl rfl ?_
  refine X_iconst (v := (1 : Int32)) rfl rfl rfl ?_
  refine S_iadd rfl rfl hi (show (1 : Int32).toInt = 1 from rfl) (by omega) (fun vz4 hvz4 => ?_)
  refine vX_sld rfl rfl hx hvz4 (by omega) ?_
  refine X_aload_nS rfl rfl rfl rfl ?_
  refine X_iload_n rfl rfl rfl rfl ?_
  refine X_iconst (v := (2 : Int32)) rfl rfl rfl ?_
  refine S_iadd rfl rfl hi (show (2 : Int32).toInt = 2 from rfl) (by omega) (fun vz5 hvz5 => ?_)
  refine vX_sld rfl rfl hx hvz5 (by omega) ?_
  refine Y_callV (as := [.int (xs (Int.toNat (y + 1))), .int (xs (Int.toNat (y + 2)))]) (st := []) rfl rfl rfl (by decide) rfl (Nat.le_of_ble_eq_true rfl) (by decide) (Nat.le_of_ble_eq_true rfl) rfl ((congrFun V.1 355).trans s_355) (by decide) (LW_gx (LW_room (Nat.le_refl _) (Nat.le_refl _) (show 0 + 11 ≤ 99 by decide) (C_X13_mistaken (d := 0) W (xs (Int.toNat (y + 1))) (xs (Int.toNat (y + 1))).toInt rfl (xs (Int.toNat (y + 2))) (xs (Int.toNat (y + 2))).toInt rfl))) ?_
  rintro _ g' ⟨⟨vr6, rfl, _, _, vgg⟩, vgx⟩
  subst vgg
  refine X_pop rfl rfl rfl ?_
  refine LW_goto (tgt := 1468) rfl rfl ?_
  exact K _ ⟨_, _, V, W⟩ hx
set_option maxRecDepth 10000 in
set_option maxHeartbeats 40000000 in
theorem vop_21 {g : LH} {L : Nat} {xs : Nat → Int32} {xi : Int32} {y : Int} (hi : xi.toInt = y) (hy : 0 ≤ y ∧ y + 6 ≤ (L : Int)) (hL : L ≤ 3072) (hx : Gx g = some (L, xs)) (hI : IB g) (K : ∀ g', IB g' → Gx g' = some (L, xs) → LW 322 100 0 0 1468 [some (.retAddr 0), some (.ref 0), some (.ref 355), some (.int xi)] [] g' (fun v _ => v = some (.int 1))) : LW 322 100 0 0 811 [some (.retAddr 0), some (.ref 0), some (.ref 355), some (.int xi)] [] g (fun v _ => v = some (.int 1)) := by
  obtain ⟨n, m, V, W⟩ := hI
  refine X_aload_n rfl rfl rfl rfl ?_
  refine X_aload_nS rfl rfl rfl rfl ?_
  refine X_iload_n rfl rfl rfl rfl ?_
  refine X_iconst (v := (1 : Int32)) rfl rfl rfl ?_
  refine S_iadd rfl rfl hi (show (1 : Int32).toInt = 1 from rfl) (by omega) (fun vz1 hvz1 => ?_)
  refine vX_sld rfl rfl hx hvz1 (by omega) ?_
  refine X_aload_nS rfl rfl rfl rfl ?_
  refine X_iload_n rfl rfl rfl rfl ?_
  refine X_iconst (v := (2 : Int32)) rfl rfl rfl ?_
  refine S_iadd rfl rfl hi (show (2 : Int32).toInt = 2 from rfl) (by omega) (fun vz2 hvz2 => ?_)
  refine vX_sld rfl rfl hx hvz2 (by omega) ?_
  refine X_aload_nS rfl rfl rfl rfl ?_
  refine X_iload_n rfl rfl rfl rfl ?_
  refine X_iconst (v := (3 : Int32)) rfl rfl rfl ?_
  refine S_iadd rfl rfl hi (show (3 : Int32).toInt = 3 from rfl) (by omega) (fun vz3 hvz3 => ?_)
  refine vX_sld rfl rfl hx hvz3 (by omega) ?_
  refine Y_callV (as := [.int (xs (Int.toNat (y + 1))), .int (xs (Int.toNat (y + 2))), .int (xs (Int.toNat (y + 3)))]) (st := []) rfl rfl rfl (by decide) rfl (Nat.le_of_ble_eq_true rfl) (by decide) (Nat.le_of_ble_eq_true rfl) rfl ((congrFun V.1 0).trans s_0) (by decide) (LW_gx (LW_room (Nat.le_refl _) (Nat.le_refl _) (show 0 + 20 ≤ 99 by decide) (C_X12_said (d := 0) V (xs (Int.toNat (y + 1))) (xs (Int.toNat (y + 1))).toInt rfl (xs (Int.toNat (y + 2))) (xs (Int.toNat (y + 2))).toInt rfl (xs (Int.toNat (y + 3))) (xs (Int.toNat (y + 3))).toInt rfl))) ?_
  rintro _ g' ⟨⟨vr4, rfl, vgg⟩, vgx⟩
  subst vgg
  refine X_pop rfl rfl rfl ?_
  refine X_aload_n rfl rfl rfl rfl ?_
  refine X_aload_nS rfl rfl rfl rfl ?_
  refine X_iload_n rfl rfl rfl rfl ?_
  refine X_iconst (v := (1 : Int32)) rfl rfl rfl ?_
  refine S_iadd rfl rfl hi (show (1 : Int32).toInt = 1 from rfl) (by omega) (fun vz5 hvz5 => ?_)
  refine vX_sld rfl rfl hx hvz5 (by omega) ?_
  refine X_aload_nS rfl rfl rfl rfl ?_
  refine X_iload_n rfl rfl rfl rfl ?_
  refine X_iconst (v := (2 : Int32)) rfl rfl rfl ?_
  refine S_iadd rfl rfl hi (show (2 : Int32).toInt = 2 from rfl) (by omega) (fun vz6 hvz6 => ?_)
  refine vX_sld rfl rfl hx hvz6 (by omega) ?_
  refine X_aload_nS rfl rfl rfl rfl ?_
  refine X_iload_n rfl rfl rfl rfl ?_
  refine X_iconst (v := (3 : Int32)) rfl rfl rfl ?_
  refine S_iadd rfl rfl hi (show (3 : Int32).toInt = 3 from rfl) (by omega) (fun vz7 hvz7 => ?_)
  refine vX_sld rfl rfl hx hvz7 (by omega) ?_
  refine Y_callV (as := [.int (xs (Int.toNat (y + 1))), .int (xs (Int.toNat (y + 2))), .int (xs (Int.toNat (y + 3)))]) (st := []) rfl rfl rfl (by decide) rfl (Nat.le_of_ble_eq_true rfl) (by decide) (Nat.le_of_ble_eq_true rfl) rfl ((congrFun V.1 355).trans s_355) (by decide) (LW_gx (LW_room (Nat.le_refl _) (Nat.le_refl _) (show 0 + 40 ≤ 99 by decide) (C_X13_said (d := 0) W (xs (Int.toNat (y + 1))) (xs (Int.toNat (y + 1))).toInt rfl (xs (Int.toNat (y + 2))) (xs (Int.toNat (y + 2))).toInt rfl (xs (Int.toNat (y + 3))) (xs (Int.toNat (y + 3))).toInt rfl))) ?_
  rintro _ g' ⟨⟨vr8, rfl, vgg⟩, vgx⟩
  subst vgg
  refine X_pop rfl rfl rfl ?_
  refine LW_goto (tgt := 1468) rfl rfl ?_
  exact K _ ⟨_, _, V, W⟩ hx
set_option maxRecDepth 10000 in
set_option maxHeartbeats 40000000 in
theorem vop_22 {g : LH} {L : Nat} {xs : Nat → Int32} {xi : Int32} {y : Int} (hi : xi.toInt = y) (hy : 0 ≤ y ∧ y + 6 ≤ (L : Int)) (hL : L ≤ 3072) (hx : Gx g = some (L, xs)) (hI : IB g) (K : ∀ g', IB g' → Gx g' = some (L, xs) → LW 322 100 0 0 1468 [some (.retAddr 0), some (.ref 0), some (.ref 355), some (.int xi)] [] g' (fun v _ => v = some (.int 1))) : LW 322 100 0 0 854 [some (.retAddr 0), some (.ref 0), some (.ref 355), some (.int xi)] [] g (fun v _ => v = some (.int 1)) := by
  obtain ⟨n, m, V, W⟩ := hI
  refine X_aload_n rfl rfl rfl rfl ?_
  refine X_aload_nS rfl rfl rfl rfl ?_
  refine X_iload_n rfl rfl rfl rfl ?_
  refine X_iconst (v := (1 : Int32)) rfl rfl rfl ?_
  refine S_iadd rfl rfl hi (show (1 : Int32).toInt = 1 from rfl) (by omega) (fun vz1 hvz1 => ?_)
  refine vX_sld rfl rfl hx hvz1 (by omega) ?_
  refine Y_callV (as := [.int (xs (Int.toNat (y + 1)))]) (st := []) rfl rfl rfl (by decide) rfl (Nat.le_of_ble_eq_true rfl) (by decide) (Nat.le_of_ble_eq_true rfl) rfl ((congrFun V.1 0).trans s_0) (by decide) (LW_gx (LW_room (Nat.le_refl _) (Nat.le_refl _) (show 0 + 19 ≤ 99 by decide) (C_X12_dear (d := 0) V (xs (Int.toNat (y + 1))) (xs (Int.toNat (y + 1))).toInt rfl))) ?_
  rintro _ g' ⟨⟨vr2, rfl, vV, vG⟩, vgx⟩
  have W := vIB_c vV W
  have V := vIB_s vV
  have hx := vgx.trans hx
  refine X_pop rfl rfl rfl ?_
  refine X_aload_n rfl rfl rfl rfl ?_
  refine X_aload_nS rfl rfl rfl rfl ?_
  refine X_iload_n rfl rfl rfl rfl ?_
  refine X_iconst (v := (1 : Int32)) rfl rfl rfl ?_
  refine S_iadd rfl rfl hi (show (1 : Int32).toInt = 1 from rfl) (by omega) (fun vz3 hvz3 => ?_)
  refine vX_sld rfl rfl hx hvz3 (by omega) ?_
  refine Y_callV (as := [.int (xs (Int.toNat (y + 1)))]) (st := []) rfl rfl rfl (by decide) rfl (Nat.le_of_ble_eq_true rfl) (by decide) (Nat.le_of_ble_eq_true rfl) rfl ((congrFun V.1 355).trans s_355) (by decide) (LW_gx (LW_room (Nat.le_refl _) (Nat.le_refl _) (show 0 + 60 ≤ 99 by decide) (C_X13_dear (d := 0) W (xs (Int.toNat (y + 1))) (xs (Int.toNat (y + 1))).toInt rfl))) ?_
  rintro _ g' ⟨⟨vr4, rfl, vV, vG⟩, vgx⟩
  have V := vIB_r vV vG V
  have W := vIB_t vV
  have hx := vgx.trans hx
  refine X_pop rfl rfl rfl ?_
  refine LW_goto (tgt := 1468) rfl rfl ?_
  exact K _ ⟨_, _, V, W⟩ hx
set_option maxRecDepth 10000 in
set_option maxHeartbeats 40000000 in
theorem vop_23 {g : LH} {L : Nat} {xs : Nat → Int32} {xi : Int32} {y : Int} (hi : xi.toInt = y) (hy : 0 ≤ y ∧ y + 6 ≤ (L : Int)) (hL : L ≤ 3072) (hx : Gx g = some (L, xs)) (hI : IB g) (K : ∀ g', IB g' → Gx g' = some (L, xs) → LW 322 100 0 0 1468 [some (.retAddr 0), some (.ref 0), some (.ref 355), some (.int xi)] [] g' (fun v _ => v = some (.int 1))) : LW 322 100 0 0 877 [some (.retAddr 0), some (.ref 0), some (.ref 355), some (.int xi)] [] g (fun v _ => v = some (.int 1)) := by
  obtain ⟨n, m, V, W⟩ := hI
  refine X_aload_n rfl rfl rfl rfl ?_
  refine X_aload_nS rfl rfl rfl rfl ?_
  refine X_iload_n rfl rfl rfl rfl ?_
  refine X_iconst (v := (1 : Int32)) rfl rfl rfl ?_
  refine S_iadd rfl rfl hi (show (1 : Int32).toInt = 1 from rfl) (by omega) (fun vz1 hvz1 => ?_)
  refine vX_sld rfl rfl hx hvz1 (by omega) ?_
  refine Y_callV (as := [.int (xs (Int.toNat (y + 1)))]) (st := []) rfl rfl rfl (by decide) rfl (Nat.le_of_ble_eq_true rfl) (by decide) (Nat.le_of_ble_eq_true rfl) rfl ((congrFun V.1 0).trans s_0) (by decide) (LW_gx (LW_room (Nat.le_refl _) (Nat.le_refl _) (show 0 + 24 ≤ 99 by decide) (C_X12_stop (d := 0) V (xs (Int.toNat (y + 1))) (xs (Int.toNat (y + 1))).toInt rfl))) ?_
  rintro _ g' ⟨⟨vr2, rfl, vgg⟩, vgx⟩
  subst vgg
  refine X_pop rfl rfl rfl ?_
  refine X_aload_n rfl rfl rfl rfl ?_
  refine X_aload_nS rfl rfl rfl rfl ?_
  refine X_iload_n rfl rfl rfl rfl ?_
  refine X_iconst (v := (1 : Int32)) rfl rfl rfl ?_
  refine S_iadd rfl rfl hi (show (1 : Int32).toInt = 1 from rfl) (by omega) (fun vz3 hvz3 => ?_)
  refine vX_sld rfl rfl hx hvz3 (by omega) ?_
  refine Y_callV (as := [.int (xs (Int.toNat (y + 1)))]) (st := []) rfl rfl rfl (by decide) rfl (Nat.le_of_ble_eq_true rfl) (by decide) (Nat.le_of_ble_eq_true rfl) rfl ((congrFun V.1 355).trans s_355) (by decide) (LW_gx (LW_room (Nat.le_refl _) (Nat.le_refl _) (show 0 + 40 ≤ 99 by decide) (C_X13_stop (d := 0) W (xs (Int.toNat (y + 1))) (xs (Int.toNat (y + 1))).toInt rfl))) ?_
  rintro _ g' ⟨⟨vr4, rfl, vV, vG⟩, vgx⟩
  have V := vIB_r vV vG V
  have W := vIB_t vV
  have hx := vgx.trans hx
  refine X_pop rfl rfl rfl ?_
  refine LW_goto (tgt := 1468) rfl rfl ?_
  exact K _ ⟨_, _, V, W⟩ hx
set_option maxRecDepth 10000 in
set_option maxHeartbeats 40000000 in
theorem vop_24 {g : LH} {L : Nat} {xs : Nat → Int32} {xi : Int32} {y : Int} (hi : xi.toInt = y) (hy : 0 ≤ y ∧ y + 6 ≤ (L : Int)) (hL : L ≤ 3072) (hx : Gx g = some (L, xs)) (hI : IB g) (K : ∀ g', IB g' → Gx g' = some (L, xs) → LW 322 100 0 0 1468 [some (.retAddr 0), some (.ref 0), some (.ref 355), some (.int xi)] [] g' (fun v _ => v = some (.int 1))) : LW 322 100 0 0 900 [some (.retAddr 0), some (.ref 0), some (.ref 355), some (.int xi)] [] g (fun v _ => v = some (.int 1)) := by
  obtain ⟨n, m, V, W⟩ := hI
  refine X_aload_n rfl rfl rfl rfl ?_
  refine X_aload_nS rfl rfl rfl rfl ?_
  refine X_iload_n rfl rfl rfl rfl ?_
  refine X_iconst (v := (1 : Int32)) rfl rfl rfl ?_
  refine S_iadd rfl rfl hi (show (1 : Int32).toInt = 1 from rfl) (by omega) (fun vz1 hvz1 => ?_)
  refine vX_sld rfl rfl hx hvz1 (by omega) ?_
  refine S_if_eq (tgt := 913) rfl rfl rfl rfl (fun vh2 => ?_) (fun vh2 => ?_)
  · refine X_iconst (v := (0 : Int32)) rfl rfl rfl ?_
    refine Y_callV (as := [.int (0 : Int32)]) (st := []) rfl rfl rfl (by decide) rfl (Nat.le_of_ble_eq_true rfl) (by decide) (Nat.le_of_ble_eq_true rfl) rfl ((congrFun V.1 0).trans s_0) (by decide) (LW_gx (LW_room (Nat.le_refl _) (Nat.le_refl _) (show 0 + 11 ≤ 99 by decide) (C_X12_spared (d := 0) V (0 : Int32) 0 (show (0 : Int32).toInt = 0 from rfl) (by omega)))) ?_
    rintro _ g' ⟨⟨vr3, rfl, _, _, vgg⟩, vgx⟩
    subst vgg
    refine X_pop rfl rfl rfl ?_
    refine X_aload_n rfl rfl rfl rfl ?_
    refine X_aload_nS rfl rfl rfl rfl ?_
    refine X_iload_n rfl rfl rfl rfl ?_
    refine X_iconst (v := (1 : Int32)) rfl rfl rfl ?_
    refine S_iadd rfl rfl hi (show (1 : Int32).toInt = 1 from rfl) (by omega) (fun vz4 hvz4 => ?_)
    refine vX_sld rfl rfl hx hvz4 (by omega) ?_
    refine S_if_eq (tgt := 931) rfl rfl rfl rfl (fun vh5 => ?_) (fun vh5 => ?_)
    · refine X_iconst (v := (0 : Int32)) rfl rfl rfl ?_
      refine Y_callV (as := [.int (0 : Int32)]) (st := []) rfl rfl rfl (by decide) rfl (Nat.le_of_ble_eq_true rfl) (by decide) (Nat.le_of_ble_eq_true rfl) rfl ((congrFun V.1 355).trans s_355) (by decide) (LW_gx (LW_room (Nat.le_refl _) (Nat.le_refl _) (show 0 + 32 ≤ 99 by decide) (C_X13_spared (d := 0) W (0 : Int32) 0 (show (0 : Int32).toInt = 0 from rfl) (by omega)))) ?_
      rintro _ g' ⟨⟨vr6, rfl, vgg⟩, vgx⟩
      subst vgg
      refine X_pop rfl rfl rfl ?_
      refine LW_goto (tgt := 1468) rfl rfl ?_
      exact K _ ⟨_, _, V, W⟩ hx
    · refine X_iconst (v := (1 : Int32)) rfl rfl rfl ?_
      refine LW_goto (tgt := 932) rfl rfl ?_
      refine Y_callV (as := [.int (1 : Int32)]) (st := []) rfl rfl rfl (by decide) rfl (Nat.le_of_ble_eq_true rfl) (by decide) (Nat.le_of_ble_eq_true rfl) rfl ((congrFun V.1 355).trans s_355) (by decide) (LW_gx (LW_room (Nat.le_refl _) (Nat.le_refl _) (show 0 + 32 ≤ 99 by decide) (C_X13_spared (d := 0) W (1 : Int32) 1 (show (1 : Int32).toInt = 1 from rfl) (by omega)))) ?_
      rintro _ g' ⟨⟨vr7, rfl, vgg⟩, vgx⟩
      subst vgg
      refine X_pop rfl rfl rfl ?_
      refine LW_goto (tgt := 1468) rfl rfl ?_
      exact K _ ⟨_, _, V, W⟩ hx
  · refine X_iconst (v := (1 : Int32)) rfl rfl rfl ?_
    refine LW_goto (tgt := 914) rfl rfl ?_
    refine Y_callV (as := [.int (1 : Int32)]) (st := []) rfl rfl rfl (by decide) rfl (Nat.le_of_ble_eq_true rfl) (by decide) (Nat.le_of_ble_eq_true rfl) rfl ((congrFun V.1 0).trans s_0) (by decide) (LW_gx (LW_room (Nat.le_refl _) (Nat.le_refl _) (show 0 + 11 ≤ 99 by decide) (C_X12_spared (d := 0) V (1 : Int32) 1 (show (1 : Int32).toInt = 1 from rfl) (by omega)))) ?_
    rintro _ g' ⟨⟨vr8, rfl, _, _, vgg⟩, vgx⟩
    subst vgg
    refine X_pop rfl rfl rfl ?_
    refine X_aload_n rfl rfl rfl rfl ?_
    refine X_aload_nS rfl rfl rfl rfl ?_
    refine X_iload_n rfl rfl rfl rfl ?_
    refine X_iconst (v := (1 : Int32)) rfl rfl rfl ?_
    refine S_iadd rfl rfl hi (show (1 : Int32).toInt = 1 from rfl) (by omega) (fun vz9 hvz9 => ?_)
    refine vX_sld rfl rfl hx hvz9 (by omega) ?_
    refine S_if_eq (tgt := 931) rfl rfl rfl rfl (fun vh10 => ?_) (fun vh10 => ?_)
    · refine X_iconst (v := (0 : Int32)) rfl rfl rfl ?_
      refine Y_callV (as := [.int (0 : Int32)]) (st := []) rfl rfl rfl (by decide) rfl (Nat.le_of_ble_eq_true rfl) (by decide) (Nat.le_of_ble_eq_true rfl) rfl ((congrFun V.1 355).trans s_355) (by decide) (LW_gx (LW_room (Nat.le_refl _) (Nat.le_refl _) (show 0 + 32 ≤ 99 by decide) (C_X13_spared (d := 0) W (0 : Int32) 0 (show (0 : Int32).toInt = 0 from rfl) (by omega)))) ?_
      rintro _ g' ⟨⟨vr11, rfl, vgg⟩, vgx⟩
      subst vgg
      refine X_pop rfl rfl rfl ?_
      refine LW_goto (tgt := 1468) rfl rfl ?_
      exact K _ ⟨_, _, V, W⟩ hx
    · refine X_iconst (v := (1 : Int32)) rfl rfl rfl ?_
      refine LW_goto (tgt := 932) rfl rfl ?_
      refine Y_callV (as := [.int (1 : Int32)]) (st := []) rfl rfl rfl (by decide) rfl (Nat.le_of_ble_eq_true rfl) (by decide) (Nat.le_of_ble_eq_true rfl) rfl ((congrFun V.1 355).trans s_355) (by decide) (LW_gx (LW_room (Nat.le_refl _) (Nat.le_refl _) (show 0 + 32 ≤ 99 by decide) (C_X13_spared (d := 0) W (1 : Int32) 1 (show (1 : Int32).toInt = 1 from rfl) (by omega)))) ?_
      rintro _ g' ⟨⟨vr12, rfl, vgg⟩, vgx⟩
      subst vgg
      refine X_pop rfl rfl rfl ?_
      refine LW_goto (tgt := 1468) rfl rfl ?_
      exact K _ ⟨_, _, V, W⟩ hx
set_option maxRecDepth 10000 in
set_option maxHeartbeats 40000000 in
theorem vop_25 {g : LH} {L : Nat} {xs : Nat → Int32} {xi : Int32} {y : Int} (hi : xi.toInt = y) (hy : 0 ≤ y ∧ y + 6 ≤ (L : Int)) (hL : L ≤ 3072) (hx : Gx g = some (L, xs)) (hI : IB g) (K : ∀ g', IB g' → Gx g' = some (L, xs) → LW 322 100 0 0 1468 [some (.retAddr 0), some (.ref 0), some (.ref 355), some (.int xi)] [] g' (fun v _ => v = some (.int 1))) : LW 322 100 0 0 939 [some (.retAddr 0), some (.ref 0), some (.ref 355), some (.int xi)] [] g (fun v _ => v = some (.int 1)) := by
  obtain ⟨n, m, V, W⟩ := hI
  refine X_aload_n rfl rfl rfl rfl ?_
  refine X_aload_nS rfl rfl rfl rfl ?_
  refine X_iload_n rfl rfl rfl rfl ?_
  refine X_iconst (v := (1 : Int32)) rfl rfl rfl ?_
  refine S_iadd rfl rfl hi (show (1 : Int32).toInt = 1 from rfl) (by omega) (fun vz1 hvz1 => ?_)
  refine vX_sld rfl rfl hx hvz1 (by omega) ?_
  refine X_aload_nS rfl rfl rfl rfl ?_
  refine X_iload_n rfl rfl rfl rfl ?_
  refine X_iconst (v := (2 : Int32)) rfl rfl rfl ?_
  refine S_iadd rfl rfl hi (show (2 : Int32).toInt = 2 from rfl) (by omega) (fun vz2 hvz2 => ?_)
  refine vX_sld rfl rfl hx hvz2 (by omega) ?_
  refine X_aload_nS rfl rfl rfl rfl ?_
  refine X_iload_n rfl rfl rfl rfl ?_
  refine X_iconst (v := (3 : Int32)) rfl rfl rfl ?_
  refine S_iadd rfl rfl hi (show (3 : Int32).toInt = 3 from rfl) (by omega) (fun vz3 hvz3 => ?_)
  refine vX_sld rfl rfl hx hvz3 (by omega) ?_
  refine X_aload_nS rfl rfl rfl rfl ?_
  refine X_iload_n rfl rfl rfl rfl ?_
  refine X_iconst (v := (4 : Int32)) rfl rfl rfl ?_
  refine S_iadd rfl rfl hi (show (4 : Int32).toInt = 4 from rfl) (by omega) (fun vz4 hvz4 => ?_)
  refine vX_sld rfl rfl hx hvz4 (by omega) ?_
  refine S_if_eq (tgt := 967) rfl rfl rfl rfl (fun vh5 => ?_) (fun vh5 => ?_)
  · refine X_iconst (v := (0 : Int32)) rfl rfl rfl ?_
    refine Y_callV (as := [.int (xs (Int.toNat (y + 1))), .int (xs (Int.toNat (y + 2))), .int (xs (Int.toNat (y + 3))), .int (0 : Int32)]) (st := []) rfl rfl rfl (by decide) rfl (Nat.le_of_ble_eq_true rfl) (by decide) (Nat.le_of_ble_eq_true rfl) rfl ((congrFun V.1 0).trans s_0) (by decide) (LW_gx (LW_room (Nat.le_refl _) (Nat.le_refl _) (show 0 + 18 ≤ 99 by decide) (C_X12_power (d := 0) V (xs (Int.toNat (y + 1))) (xs (Int.toNat (y + 1))).toInt rfl (xs (Int.toNat (y + 2))) (xs (Int.toNat (y + 2))).toInt rfl (xs (Int.toNat (y + 3))) (xs (Int.toNat (y + 3))).toInt rfl (0 : Int32) 0 (show (0 : Int32).toInt = 0 from rfl) (by omega)))) ?_
    rintro _ g' ⟨⟨vr6, rfl, vV, vG⟩, vgx⟩
    have W := vIB_c vV W
    have V := vIB_s vV
    have hx := vgx.trans hx
    refine X_pop rfl rfl rfl ?_
    refine X_aload_n rfl rfl rfl rfl ?_
    refine X_aload_nS rfl rfl rfl rfl ?_
    refine X_iload_n rfl rfl rfl rfl ?_
    refine X_iconst (v := (1 : Int32)) rfl rfl rfl ?_
    refine S_iadd rfl rfl hi (show (1 : Int32).toInt = 1 from rfl) (by omega) (fun vz7 hvz7 => ?_)
    refine vX_sld rfl rfl hx hvz7 (by omega) ?_
    refine X_aload_nS rfl rfl rfl rfl ?_
    refine X_iload_n rfl rfl rfl rfl ?_
    refine X_iconst (v := (2 : Int32)) rfl rfl rfl ?_
    refine S_iadd rfl rfl hi (show (2 : Int32).toInt = 2 from rfl) (by omega) (fun vz8 hvz8 => ?_)
    refine vX_sld rfl rfl hx hvz8 (by omega) ?_
    refine X_aload_nS rfl rfl rfl rfl ?_
    refine X_iload_n rfl rfl rfl rfl ?_
    refine X_iconst (v := (3 : Int32)) rfl rfl rfl ?_
    refine S_iadd rfl rfl hi (show (3 : Int32).toInt = 3 from rfl) (by omega) (fun vz9 hvz9 => ?_)
    refine vX_sld rfl rfl hx hvz9 (by omega) ?_
    refine X_aload_nS rfl rfl rfl rfl ?_
    refine X_iload_n rfl rfl rfl rfl ?_
    refine X_iconst (v := (4 : Int32)) rfl rfl rfl ?_
    refine S_iadd rfl rfl hi (show (4 : Int32).toInt = 4 from rfl) (by omega) (fun vz10 hvz10 => ?_)
    refine vX_sld rfl rfl hx hvz10 (by omega) ?_
    refine S_if_eq (tgt := 1000) rfl rfl rfl rfl (fun vh11 => ?_) (fun vh11 => ?_)
    · refine X_iconst (v := (0 : Int32)) rfl rfl rfl ?_
      refine Y_callV (as := [.int (xs (Int.toNat (y + 1))), .int (xs (Int.toNat (y + 2))), .int (xs (Int.toNat (y + 3))), .int (0 : Int32)]) (st := []) rfl rfl rfl (by decide) rfl (Nat.le_of_ble_eq_true rfl) (by decide) (Nat.le_of_ble_eq_true rfl) rfl ((congrFun V.1 355).trans s_355) (by decide) (LW_gx (LW_room (Nat.le_refl _) (Nat.le_refl _) (show 0 + 60 ≤ 99 by decide) (C_X13_power (d := 0) W (xs (Int.toNat (y + 1))) (xs (Int.toNat (y + 1))).toInt rfl (xs (Int.toNat (y + 2))) (xs (Int.toNat (y + 2))).toInt rfl (xs (Int.toNat (y + 3))) (xs (Int.toNat (y + 3))).toInt rfl (0 : Int32) 0 (show (0 : Int32).toInt = 0 from rfl) (by omega)))) ?_
      rintro _ g' ⟨⟨vr12, rfl, vV, vG⟩, vgx⟩
      have V := vIB_r vV vG V
      have W := vIB_t vV
      have hx := vgx.trans hx
      refine X_pop rfl rfl rfl ?_
      refine LW_goto (tgt := 1468) rfl rfl ?_
      exact K _ ⟨_, _, V, W⟩ hx
    · refine X_iconst (v := (1 : Int32)) rfl rfl rfl ?_
      refine LW_goto (tgt := 1001) rfl rfl ?_
      refine Y_callV (as := [.int (xs (Int.toNat (y + 1))), .int (xs (Int.toNat (y + 2))), .int (xs (Int.toNat (y + 3))), .int (1 : Int32)]) (st := []) rfl rfl rfl (by decide) rfl (Nat.le_of_ble_eq_true rfl) (by decide) (Nat.le_of_ble_eq_true rfl) rfl ((congrFun V.1 355).trans s_355) (by decide) (LW_gx (LW_room (Nat.le_refl _) (Nat.le_refl _) (show 0 + 60 ≤ 99 by decide) (C_X13_power (d := 0) W (xs (Int.toNat (y + 1))) (xs (Int.toNat (y + 1))).toInt rfl (xs (Int.toNat (y + 2))) (xs (Int.toNat (y + 2))).toInt rfl (xs (Int.toNat (y + 3))) (xs (Int.toNat (y + 3))).toInt rfl (1 : Int32) 1 (show (1 : Int32).toInt = 1 from rfl) (by omega)))) ?_
      rintro _ g' ⟨⟨vr13, rfl, vV, vG⟩, vgx⟩
      have V := vIB_r vV vG V
      have W := vIB_t vV
      have hx := vgx.trans hx
      refine X_pop rfl rfl rfl ?_
      refine LW_goto (tgt := 1468) rfl rfl ?_
      exact K _ ⟨_, _, V, W⟩ hx
  · refine X_iconst (v := (1 : Int32)) rfl rfl rfl ?_
    refine LW_goto (tgt := 968) rfl rfl ?_
    refine Y_callV (as := [.int (xs (Int.toNat (y + 1))), .int (xs (Int.toNat (y + 2))), .int (xs (Int.toNat (y + 3))), .int (1 : Int32)]) (st := []) rfl rfl rfl (by decide) rfl (Nat.le_of_ble_eq_true rfl) (by decide) (Nat.le_of_ble_eq_true rfl) rfl ((congrFun V.1 0).trans s_0) (by decide) (LW_gx (LW_room (Nat.le_refl _) (Nat.le_refl _) (show 0 + 18 ≤ 99 by decide) (C_X12_power (d := 0) V (xs (Int.toNat (y + 1))) (xs (Int.toNat (y + 1))).toInt rfl (xs (Int.toNat (y + 2))) (xs (Int.toNat (y + 2))).toInt rfl (xs (Int.toNat (y + 3))) (xs (Int.toNat (y + 3))).toInt rfl (1 : Int32) 1 (show (1 : Int32).toInt = 1 from rfl) (by omega)))) ?_
    rintro _ g' ⟨⟨vr14, rfl, vV, vG⟩, vgx⟩
    have W := vIB_c vV W
    have V := vIB_s vV
    have hx := vgx.trans hx
    refine X_pop rfl rfl rfl ?_
    refine X_aload_n rfl rfl rfl rfl ?_
    refine X_aload_nS rfl rfl rfl rfl ?_
    refine X_iload_n rfl rfl rfl rfl ?_
    refine X_iconst (v := (1 : Int32)) rfl rfl rfl ?_
    refine S_iadd rfl rfl hi (show (1 : Int32).toInt = 1 from rfl) (by omega) (fun vz15 hvz15 => ?_)
    refine vX_sld rfl rfl hx hvz15 (by omega) ?_
    refine X_aload_nS rfl rfl rfl rfl ?_
    refine X_iload_n rfl rfl rfl rfl ?_
    refine X_iconst (v := (2 : Int32)) rfl rfl rfl ?_
    refine S_iadd rfl rfl hi (show (2 : Int32).toInt = 2 from rfl) (by omega) (fun vz16 hvz16 => ?_)
    refine vX_sld rfl rfl hx hvz16 (by omega) ?_
    refine X_aload_nS rfl rfl rfl rfl ?_
    refine X_iload_n rfl rfl rfl rfl ?_
    refine X_iconst (v := (3 : Int32)) rfl rfl rfl ?_
    refine S_iadd rfl rfl hi (show (3 : Int32).toInt = 3 from rfl) (by omega) (fun vz17 hvz17 => ?_)
    refine vX_sld rfl rfl hx hvz17 (by omega) ?_
    refine X_aload_nS rfl rfl rfl rfl ?_
    refine X_iload_n rfl rfl rfl rfl ?_
    refine X_iconst (v := (4 : Int32)) rfl rfl rfl ?_
    refine S_iadd rfl rfl hi (show (4 : Int32).toInt = 4 from rfl) (by omega) (fun vz18 hvz18 => ?_)
    refine vX_sld rfl rfl hx hvz18 (by omega) ?_
    refine S_if_eq (tgt := 1000) rfl rfl rfl rfl (fun vh19 => ?_) (fun vh19 => ?_)
    · refine X_iconst (v := (0 : Int32)) rfl rfl rfl ?_
      refine Y_callV (as := [.int (xs (Int.toNat (y + 1))), .int (xs (Int.toNat (y + 2))), .int (xs (Int.toNat (y + 3))), .int (0 : Int32)]) (st := []) rfl rfl rfl (by decide) rfl (Nat.le_of_ble_eq_true rfl) (by decide) (Nat.le_of_ble_eq_true rfl) rfl ((congrFun V.1 355).trans s_355) (by decide) (LW_gx (LW_room (Nat.le_refl _) (Nat.le_refl _) (show 0 + 60 ≤ 99 by decide) (C_X13_power (d := 0) W (xs (Int.toNat (y + 1))) (xs (Int.toNat (y + 1))).toInt rfl (xs (Int.toNat (y + 2))) (xs (Int.toNat (y + 2))).toInt rfl (xs (Int.toNat (y + 3))) (xs (Int.toNat (y + 3))).toInt rfl (0 : Int32) 0 (show (0 : Int32).toInt = 0 from rfl) (by omega)))) ?_
      rintro _ g' ⟨⟨vr20, rfl, vV, vG⟩, vgx⟩
      have V := vIB_r vV vG V
      have W := vIB_t vV
      have hx := vgx.trans hx
      refine X_pop rfl rfl rfl ?_
      refine LW_goto (tgt := 1468) rfl rfl ?_
      exact K _ ⟨_, _, V, W⟩ hx
    · refine X_iconst (v := (1 : Int32)) rfl rfl rfl ?_
      refine LW_goto (tgt := 1001) rfl rfl ?_
      refine Y_callV (as := [.int (xs (Int.toNat (y + 1))), .int (xs (Int.toNat (y + 2))), .int (xs (Int.toNat (y + 3))), .int (1 : Int32)]) (st := []) rfl rfl rfl (by decide) rfl (Nat.le_of_ble_eq_true rfl) (by decide) (Nat.le_of_ble_eq_true rfl) rfl ((congrFun V.1 355).trans s_355) (by decide) (LW_gx (LW_room (Nat.le_refl _) (Nat.le_refl _) (show 0 + 60 ≤ 99 by decide) (C_X13_power (d := 0) W (xs (Int.toNat (y + 1))) (xs (Int.toNat (y + 1))).toInt rfl (xs (Int.toNat (y + 2))) (xs (Int.toNat (y + 2))).toInt rfl (xs (Int.toNat (y + 3))) (xs (Int.toNat (y + 3))).toInt rfl (1 : Int32) 1 (show (1 : Int32).toInt = 1 from rfl) (by omega)))) ?_
      rintro _ g' ⟨⟨vr21, rfl, vV, vG⟩, vgx⟩
      have V := vIB_r vV vG V
      have W := vIB_t vV
      have hx := vgx.trans hx
      refine X_pop rfl rfl rfl ?_
      refine LW_goto (tgt := 1468) rfl rfl ?_
      exact K _ ⟨_, _, V, W⟩ hx
set_option maxRecDepth 10000 in
set_option maxHeartbeats 40000000 in
theorem vop_26 {g : LH} {L : Nat} {xs : Nat → Int32} {xi : Int32} {y : Int} (hi : xi.toInt = y) (hy : 0 ≤ y ∧ y + 6 ≤ (L : Int)) (hL : L ≤ 3072) (hx : Gx g = some (L, xs)) (hI : IB g) (K : ∀ g', IB g' → Gx g' = some (L, xs) → LW 322 100 0 0 1468 [some (.retAddr 0), some (.ref 0), some (.ref 355), some (.int xi)] [] g' (fun v _ => v = some (.int 1))) : LW 322 100 0 0 1008 [some (.retAddr 0), some (.ref 0), some (.ref 355), some (.int xi)] [] g (fun v _ => v = some (.int 1)) := by
  obtain ⟨n, m, V, W⟩ := hI
  refine X_aload_n rfl rfl rfl rfl ?_
  refine X_aload_nS rfl rfl rfl rfl ?_
  refine X_iload_n rfl rfl rfl rfl ?_
  refine X_iconst (v := (1 : Int32)) rfl rfl rfl ?_
  refine S_iadd rfl rfl hi (show (1 : Int32).toInt = 1 from rfl) (by omega) (fun vz1 hvz1 => ?_)
  refine vX_sld rfl rfl hx hvz1 (by omega) ?_
  refine Y_callV (as := [.int (xs (Int.toNat (y + 1)))]) (st := []) rfl rfl rfl (by decide) rfl (Nat.le_of_ble_eq_true rfl) (by decide) (Nat.le_of_ble_eq_true rfl) rfl ((congrFun V.1 0).trans s_0) (by decide) (LW_gx (LW_room (Nat.le_refl _) (Nat.le_refl _) (show 0 + 4 ≤ 99 by decide) (C_X12_party (d := 0) V (xs (Int.toNat (y + 1))) (xs (Int.toNat (y + 1))).toInt rfl))) ?_
  rintro _ g' ⟨⟨vr2, rfl, vp3, vV, vG⟩, vgx⟩
  have W := vIB_c vV W
  have V := vIB_s vV
  have hx := vgx.trans hx
  refine X_aload_n rfl rfl rfl rfl ?_
  refine X_aload_nS rfl rfl rfl rfl ?_
  refine X_iload_n rfl rfl rfl rfl ?_
  refine X_iconst (v := (1 : Int32)) rfl rfl rfl ?_
  refine S_iadd rfl rfl hi (show (1 : Int32).toInt = 1 from rfl) (by omega) (fun vz4 hvz4 => ?_)
  refine vX_sld rfl rfl hx hvz4 (by omega) ?_
  refine Y_callV (as := [.int (xs (Int.toNat (y + 1)))]) (st := [.int vr2]) rfl rfl rfl (by decide) rfl (Nat.le_of_ble_eq_true rfl) (by decide) (Nat.le_of_ble_eq_true rfl) rfl ((congrFun V.1 355).trans s_355) (by decide) (LW_gx (LW_room (Nat.le_refl _) (Nat.le_refl _) (show 0 + 4 ≤ 99 by decide) (C_X13_party (d := 0) W (xs (Int.toNat (y + 1))) (xs (Int.toNat (y + 1))).toInt rfl))) ?_
  rintro _ g' ⟨⟨vr5, rfl, vp6, vV, vG⟩, vgx⟩
  have V := vIB_r vV vG V
  have W := vIB_t vV
  have hx := vgx.trans hx
  refine S_icmp_eq (tgt := 1468) rfl rfl rfl vp3 vp6 (fun _ => ?_) (fun q => absurd rfl q)
  exact K _ ⟨_, _, V, W⟩ hx
set_option maxRecDepth 10000 in
set_option maxHeartbeats 40000000 in
theorem vop_27 {g : LH} {L : Nat} {xs : Nat → Int32} {xi : Int32} {y : Int} (hi : xi.toInt = y) (hy : 0 ≤ y ∧ y + 6 ≤ (L : Int)) (hL : L ≤ 3072) (hx : Gx g = some (L, xs)) (hI : IB g) (K : ∀ g', IB g' → Gx g' = some (L, xs) → LW 322 100 0 0 1468 [some (.retAddr 0), some (.ref 0), some (.ref 355), some (.int xi)] [] g' (fun v _ => v = some (.int 1))) : LW 322 100 0 0 1031 [some (.retAddr 0), some (.ref 0), some (.ref 355), some (.int xi)] [] g (fun v _ => v = some (.int 1)) := by
  obtain ⟨n, m, V, W⟩ := hI
  refine X_aload_n rfl rfl rfl rfl ?_
  refine X_aload_nS rfl rfl rfl rfl ?_
  refine X_iload_n rfl rfl rfl rfl ?_
  refine X_iconst (v := (1 : Int32)) rfl rfl rfl ?_
  refine S_iadd rfl rfl hi (show (1 : Int32).toInt = 1 from rfl) (by omega) (fun vz1 hvz1 => ?_)
  refine vX_sld rfl rfl hx hvz1 (by omega) ?_
  refine Y_callV (as := [.int (xs (Int.toNat (y + 1)))]) (st := []) rfl rfl rfl (by decide) rfl (Nat.le_of_ble_eq_true rfl) (by decide) (Nat.le_of_ble_eq_true rfl) rfl ((congrFun V.1 0).trans s_0) (by decide) (LW_gx (LW_room (Nat.le_refl _) (Nat.le_refl _) (show 0 + 15 ≤ 99 by decide) (C_X12_worth (d := 0) V (xs (Int.toNat (y + 1))) (xs (Int.toNat (y + 1))).toInt rfl))) ?_
  rintro _ g' ⟨⟨vr2, rfl, _, _, vgg⟩, vgx⟩
  subst vgg
  refine X_pop rfl rfl rfl ?_
  refine X_aload_n rfl rfl rfl rfl ?_
  refine X_aload_nS rfl rfl rfl rfl ?_
  refine X_iload_n rfl rfl rfl rfl ?_
  refine X_iconst (v := (1 : Int32)) rfl rfl rfl ?_
  refine S_iadd rfl rfl hi (show (1 : Int32).toInt = 1 from rfl) (by omega) (fun vz3 hvz3 => ?_)
  refine vX_sld rfl rfl hx hvz3 (by omega) ?_
  refine Y_callV (as := [.int (xs (Int.toNat (y + 1)))]) (st := []) rfl rfl rfl (by decide) rfl (Nat.le_of_ble_eq_true rfl) (by decide) (Nat.le_of_ble_eq_true rfl) rfl ((congrFun V.1 355).trans s_355) (by decide) (LW_gx (LW_room (Nat.le_refl _) (Nat.le_refl _) (show 0 + 38 ≤ 99 by decide) (C_X13_worth (d := 0) W (xs (Int.toNat (y + 1))) (xs (Int.toNat (y + 1))).toInt rfl))) ?_
  rintro _ g' ⟨⟨vr4, rfl, vgg⟩, vgx⟩
  subst vgg
  refine X_pop rfl rfl rfl ?_
  refine LW_goto (tgt := 1468) rfl rfl ?_
  exact K _ ⟨_, _, V, W⟩ hx
set_option maxRecDepth 10000 in
set_option maxHeartbeats 40000000 in
theorem vop_28 {g : LH} {L : Nat} {xs : Nat → Int32} {xi : Int32} {y : Int} (hi : xi.toInt = y) (hy : 0 ≤ y ∧ y + 6 ≤ (L : Int)) (hL : L ≤ 3072) (hx : Gx g = some (L, xs)) (hI : IB g) (K : ∀ g', IB g' → Gx g' = some (L, xs) → LW 322 100 0 0 1468 [some (.retAddr 0), some (.ref 0), some (.ref 355), some (.int xi)] [] g' (fun v _ => v = some (.int 1))) : LW 322 100 0 0 1054 [some (.retAddr 0), some (.ref 0), some (.ref 355), some (.int xi)] [] g (fun v _ => v = some (.int 1)) := by
  obtain ⟨n, m, V, W⟩ := hI
  refine X_aload_n rfl rfl rfl rfl ?_
  refine X_aload_nS rfl rfl rfl rfl ?_
  refine X_iload_n rfl rfl rfl rfl ?_
  refine X_iconst (v := (1 : Int32)) rfl rfl rfl ?_
  refine S_iadd rfl rfl hi (show (1 : Int32).toInt = 1 from rfl) (by omega) (fun vz1 hvz1 => ?_)
  refine vX_sld rfl rfl hx hvz1 (by omega) ?_
  refine X_aload_nS rfl rfl rfl rfl ?_
  refine X_iload_n rfl rfl rfl rfl ?_
  refine X_iconst (v := (2 : Int32)) rfl rfl rfl ?_
  refine S_iadd rfl rfl hi (show (2 : Int32).toInt = 2 from rfl) (by omega) (fun vz2 hvz2 => ?_)
  refine vX_sld rfl rfl hx hvz2 (by omega) ?_
  refine Y_callV (as := [.int (xs (Int.toNat (y + 1))), .int (xs (Int.toNat (y + 2)))]) (st := []) rfl rfl rfl (by decide) rfl (Nat.le_of_ble_eq_true rfl) (by decide) (Nat.le_of_ble_eq_true rfl) rfl ((congrFun V.1 0).trans s_0) (by decide) (LW_gx (LW_room (Nat.le_refl _) (Nat.le_refl _) (show 0 + 21 ≤ 99 by decide) (C_X12_core (d := 0) V (xs (Int.toNat (y + 1))) (xs (Int.toNat (y + 1))).toInt rfl (xs (Int.toNat (y + 2))) (xs (Int.toNat (y + 2))).toInt rfl))) ?_
  rintro _ g' ⟨⟨vr3, rfl, vV, vG⟩, vgx⟩
  have W := vIB_c vV W
  have V := vIB_s vV
  have hx := vgx.trans hx
  refine X_pop rfl rfl rfl ?_
  refine X_aload_n rfl rfl rfl rfl ?_
  refine X_aload_nS rfl rfl rfl rfl ?_
  refine X_iload_n rfl rfl rfl rfl ?_
  refine X_iconst (v := (1 : Int32)) rfl rfl rfl ?_
  refine S_iadd rfl rfl hi (show (1 : Int32).toInt = 1 from rfl) (by omega) (fun vz4 hvz4 => ?_)
  refine vX_sld rfl rfl hx hvz4 (by omega) ?_
  refine X_aload_nS rfl rfl rfl rfl ?_
  refine X_iload_n rfl rfl rfl rfl ?_
  refine X_iconst (v := (2 : Int32)) rfl rfl rfl ?_
  refine S_iadd rfl rfl hi (show (2 : Int32).toInt = 2 from rfl) (by omega) (fun vz5 hvz5 => ?_)
  refine vX_sld rfl rfl hx hvz5 (by omega) ?_
  refine Y_callV (as := [.int (xs (Int.toNat (y + 1))), .int (xs (Int.toNat (y + 2)))]) (st := []) rfl rfl rfl (by decide) rfl (Nat.le_of_ble_eq_true rfl) (by decide) (Nat.le_of_ble_eq_true rfl) rfl ((congrFun V.1 355).trans s_355) (by decide) (LW_gx (LW_room (Nat.le_refl _) (Nat.le_refl _) (show 0 + 60 ≤ 99 by decide) (C_X13_core (d := 0) W (xs (Int.toNat (y + 1))) (xs (Int.toNat (y + 1))).toInt rfl (xs (Int.toNat (y + 2))) (xs (Int.toNat (y + 2))).toInt rfl))) ?_
  rintro _ g' ⟨⟨vr6, rfl, vV, vG⟩, vgx⟩
  have V := vIB_r vV vG V
  have W := vIB_t vV
  have hx := vgx.trans hx
  refine X_pop rfl rfl rfl ?_
  refine LW_goto (tgt := 1468) rfl rfl ?_
  exact K _ ⟨_, _, V, W⟩ hx
set_option maxRecDepth 10000 in
set_option maxHeartbeats 40000000 in
theorem vop_29 {g : LH} {L : Nat} {xs : Nat → Int32} {xi : Int32} {y : Int} (hi : xi.toInt = y) (hy : 0 ≤ y ∧ y + 6 ≤ (L : Int)) (hL : L ≤ 3072) (hx : Gx g = some (L, xs)) (hI : IB g) (K : ∀ g', IB g' → Gx g' = some (L, xs) → LW 322 100 0 0 1468 [some (.retAddr 0), some (.ref 0), some (.ref 355), some (.int xi)] [] g' (fun v _ => v = some (.int 1))) : LW 322 100 0 0 1087 [some (.retAddr 0), some (.ref 0), some (.ref 355), some (.int xi)] [] g (fun v _ => v = some (.int 1)) := by
  obtain ⟨n, m, V, W⟩ := hI
  refine X_aload_n rfl rfl rfl rfl ?_
  refine X_aload_nS rfl rfl rfl rfl ?_
  refine X_iload_n rfl rfl rfl rfl ?_
  refine X_iconst (v := (1 : Int32)) rfl rfl rfl ?_
  refine S_iadd rfl rfl hi (show (1 : Int32).toInt = 1 from rfl) (by omega) (fun vz1 hvz1 => ?_)
  refine vX_sld rfl rfl hx hvz1 (by omega) ?_
  refine X_aload_nS rfl rfl rfl rfl ?_
  refine X_iload_n rfl rfl rfl rfl ?_
  refine X_iconst (v := (2 : Int32)) rfl rfl rfl ?_
  refine S_iadd rfl rfl hi (show (2 : Int32).toInt = 2 from rfl) (by omega) (fun vz2 hvz2 => ?_)
  refine vX_sld rfl rfl hx hvz2 (by omega) ?_
  refine X_aload_nS rfl rfl rfl rfl ?_
  refine X_iload_n rfl rfl rfl rfl ?_
  refine X_iconst (v := (3 : Int32)) rfl rfl rfl ?_
  refine S_iadd rfl rfl hi (show (3 : Int32).toInt = 3 from rfl) (by omega) (fun vz3 hvz3 => ?_)
  refine vX_sld rfl rfl hx hvz3 (by omega) ?_
  refine S_if_eq (tgt := 1110) rfl rfl rfl rfl (fun vh4 => ?_) (fun vh4 => ?_)
  · refine X_iconst (v := (0 : Int32)) rfl rfl rfl ?_
    refine Y_callV (as := [.int (xs (Int.toNat (y + 1))), .int (xs (Int.toNat (y + 2))), .int (0 : Int32)]) (st := []) rfl rfl rfl (by decide) rfl (Nat.le_of_ble_eq_true rfl) (by decide) (Nat.le_of_ble_eq_true rfl) rfl ((congrFun V.1 0).trans s_0) (by decide) (LW_gx (LW_room (Nat.le_refl _) (Nat.le_refl _) (show 0 + 19 ≤ 99 by decide) (C_X12_game (d := 0) V (xs (Int.toNat (y + 1))) (xs (Int.toNat (y + 1))).toInt rfl (xs (Int.toNat (y + 2))) (xs (Int.toNat (y + 2))).toInt rfl (0 : Int32) 0 (show (0 : Int32).toInt = 0 from rfl) (by omega)))) ?_
    rintro _ g' ⟨⟨vr5, rfl, _, _, vV, vG⟩, vgx⟩
    have W := vIB_c vV W
    have V := vIB_s vV
    have hx := vgx.trans hx
    refine X_pop rfl rfl rfl ?_
    refine X_aload_n rfl rfl rfl rfl ?_
    refine X_aload_nS rfl rfl rfl rfl ?_
    refine X_iload_n rfl rfl rfl rfl ?_
    refine X_iconst (v := (1 : Int32)) rfl rfl rfl ?_
    refine S_iadd rfl rfl hi (show (1 : Int32).toInt = 1 from rfl) (by omega) (fun vz6 hvz6 => ?_)
    refine vX_sld rfl rfl hx hvz6 (by omega) ?_
    refine X_aload_nS rfl rfl rfl rfl ?_
    refine X_iload_n rfl rfl rfl rfl ?_
    refine X_iconst (v := (2 : Int32)) rfl rfl rfl ?_
    refine S_iadd rfl rfl hi (show (2 : Int32).toInt = 2 from rfl) (by omega) (fun vz7 hvz7 => ?_)
    refine vX_sld rfl rfl hx hvz7 (by omega) ?_
    refine X_aload_nS rfl rfl rfl rfl ?_
    refine X_iload_n rfl rfl rfl rfl ?_
    refine X_iconst (v := (3 : Int32)) rfl rfl rfl ?_
    refine S_iadd rfl rfl hi (show (3 : Int32).toInt = 3 from rfl) (by omega) (fun vz8 hvz8 => ?_)
    refine vX_sld rfl rfl hx hvz8 (by omega) ?_
    refine S_if_eq (tgt := 1138) rfl rfl rfl rfl (fun vh9 => ?_) (fun vh9 => ?_)
    · refine X_iconst (v := (0 : Int32)) rfl rfl rfl ?_
      refine Y_callV (as := [.int (xs (Int.toNat (y + 1))), .int (xs (Int.toNat (y + 2))), .int (0 : Int32)]) (st := []) rfl rfl rfl (by decide) rfl (Nat.le_of_ble_eq_true rfl) (by decide) (Nat.le_of_ble_eq_true rfl) rfl ((congrFun V.1 355).trans s_355) (by decide) (LW_gx (LW_room (Nat.le_refl _) (Nat.le_refl _) (show 0 + 60 ≤ 99 by decide) (C_X13_game (d := 0) W (xs (Int.toNat (y + 1))) (xs (Int.toNat (y + 1))).toInt rfl (xs (Int.toNat (y + 2))) (xs (Int.toNat (y + 2))).toInt rfl (0 : Int32) 0 (show (0 : Int32).toInt = 0 from rfl) (by omega)))) ?_
      rintro _ g' ⟨⟨vr10, rfl, _, _, vV, vG⟩, vgx⟩
      have V := vIB_r vV vG V
      have W := vIB_t vV
      have hx := vgx.trans hx
      refine X_pop rfl rfl rfl ?_
      refine LW_goto (tgt := 1468) rfl rfl ?_
      exact K _ ⟨_, _, V, W⟩ hx
    · refine X_iconst (v := (1 : Int32)) rfl rfl rfl ?_
      refine LW_goto (tgt := 1139) rfl rfl ?_
      refine Y_callV (as := [.int (xs (Int.toNat (y + 1))), .int (xs (Int.toNat (y + 2))), .int (1 : Int32)]) (st := []) rfl rfl rfl (by decide) rfl (Nat.le_of_ble_eq_true rfl) (by decide) (Nat.le_of_ble_eq_true rfl) rfl ((congrFun V.1 355).trans s_355) (by decide) (LW_gx (LW_room (Nat.le_refl _) (Nat.le_refl _) (show 0 + 60 ≤ 99 by decide) (C_X13_game (d := 0) W (xs (Int.toNat (y + 1))) (xs (Int.toNat (y + 1))).toInt rfl (xs (Int.toNat (y + 2))) (xs (Int.toNat (y + 2))).toInt rfl (1 : Int32) 1 (show (1 : Int32).toInt = 1 from rfl) (by omega)))) ?_
      rintro _ g' ⟨⟨vr11, rfl, _, _, vV, vG⟩, vgx⟩
      have V := vIB_r vV vG V
      have W := vIB_t vV
      have hx := vgx.trans hx
      refine X_pop rfl rfl rfl ?_
      refine LW_goto (tgt := 1468) rfl rfl ?_
      exact K _ ⟨_, _, V, W⟩ hx
  · refine X_iconst (v := (1 : Int32)) rfl rfl rfl ?_
    refine LW_goto (tgt := 1111) rfl rfl ?_
    refine Y_callV (as := [.int (xs (Int.toNat (y + 1))), .int (xs (Int.toNat (y + 2))), .int (1 : Int32)]) (st := []) rfl rfl rfl (by decide) rfl (Nat.le_of_ble_eq_true rfl) (by decide) (Nat.le_of_ble_eq_true rfl) rfl ((congrFun V.1 0).trans s_0) (by decide) (LW_gx (LW_room (Nat.le_refl _) (Nat.le_refl _) (show 0 + 19 ≤ 99 by decide) (C_X12_game (d := 0) V (xs (Int.toNat (y + 1))) (xs (Int.toNat (y + 1))).toInt rfl (xs (Int.toNat (y + 2))) (xs (Int.toNat (y + 2))).toInt rfl (1 : Int32) 1 (show (1 : Int32).toInt = 1 from rfl) (by omega)))) ?_
    rintro _ g' ⟨⟨vr12, rfl, _, _, vV, vG⟩, vgx⟩
    have W := vIB_c vV W
    have V := vIB_s vV
    have hx := vgx.trans hx
    refine X_pop rfl rfl rfl ?_
    refine X_aload_n rfl rfl rfl rfl ?_
    refine X_aload_nS rfl rfl rfl rfl ?_
    refine X_iload_n rfl rfl rfl rfl ?_
    refine X_iconst (v := (1 : Int32)) rfl rfl rfl ?_
    refine S_iadd rfl rfl hi (show (1 : Int32).toInt = 1 from rfl) (by omega) (fun vz13 hvz13 => ?_)
    refine vX_sld rfl rfl hx hvz13 (by omega) ?_
    refine X_aload_nS rfl rfl rfl rfl ?_
    refine X_iload_n rfl rfl rfl rfl ?_
    refine X_iconst (v := (2 : Int32)) rfl rfl rfl ?_
    refine S_iadd rfl rfl hi (show (2 : Int32).toInt = 2 from rfl) (by omega) (fun vz14 hvz14 => ?_)
    refine vX_sld rfl rfl hx hvz14 (by omega) ?_
    refine X_aload_nS rfl rfl rfl rfl ?_
    refine X_iload_n rfl rfl rfl rfl ?_
    refine X_iconst (v := (3 : Int32)) rfl rfl rfl ?_
    refine S_iadd rfl rfl hi (show (3 : Int32).toInt = 3 from rfl) (by omega) (fun vz15 hvz15 => ?_)
    refine vX_sld rfl rfl hx hvz15 (by omega) ?_
    refine S_if_eq (tgt := 1138) rfl rfl rfl rfl (fun vh16 => ?_) (fun vh16 => ?_)
    · refine X_iconst (v := (0 : Int32)) rfl rfl rfl ?_
      refine Y_callV (as := [.int (xs (Int.toNat (y + 1))), .int (xs (Int.toNat (y + 2))), .int (0 : Int32)]) (st := []) rfl rfl rfl (by decide) rfl (Nat.le_of_ble_eq_true rfl) (by decide) (Nat.le_of_ble_eq_true rfl) rfl ((congrFun V.1 355).trans s_355) (by decide) (LW_gx (LW_room (Nat.le_refl _) (Nat.le_refl _) (show 0 + 60 ≤ 99 by decide) (C_X13_game (d := 0) W (xs (Int.toNat (y + 1))) (xs (Int.toNat (y + 1))).toInt rfl (xs (Int.toNat (y + 2))) (xs (Int.toNat (y + 2))).toInt rfl (0 : Int32) 0 (show (0 : Int32).toInt = 0 from rfl) (by omega)))) ?_
      rintro _ g' ⟨⟨vr17, rfl, _, _, vV, vG⟩, vgx⟩
      have V := vIB_r vV vG V
      have W := vIB_t vV
      have hx := vgx.trans hx
      refine X_pop rfl rfl rfl ?_
      refine LW_goto (tgt := 1468) rfl rfl ?_
      exact K _ ⟨_, _, V, W⟩ hx
    · refine X_iconst (v := (1 : Int32)) rfl rfl rfl ?_
      refine LW_goto (tgt := 1139) rfl rfl ?_
      refine Y_callV (as := [.int (xs (Int.toNat (y + 1))), .int (xs (Int.toNat (y + 2))), .int (1 : Int32)]) (st := []) rfl rfl rfl (by decide) rfl (Nat.le_of_ble_eq_true rfl) (by decide) (Nat.le_of_ble_eq_true rfl) rfl ((congrFun V.1 355).trans s_355) (by decide) (LW_gx (LW_room (Nat.le_refl _) (Nat.le_refl _) (show 0 + 60 ≤ 99 by decide) (C_X13_game (d := 0) W (xs (Int.toNat (y + 1))) (xs (Int.toNat (y + 1))).toInt rfl (xs (Int.toNat (y + 2))) (xs (Int.toNat (y + 2))).toInt rfl (1 : Int32) 1 (show (1 : Int32).toInt = 1 from rfl) (by omega)))) ?_
      rintro _ g' ⟨⟨vr18, rfl, _, _, vV, vG⟩, vgx⟩
      have V := vIB_r vV vG V
      have W := vIB_t vV
      have hx := vgx.trans hx
      refine X_pop rfl rfl rfl ?_
      refine LW_goto (tgt := 1468) rfl rfl ?_
      exact K _ ⟨_, _, V, W⟩ hx
set_option maxRecDepth 10000 in
set_option maxHeartbeats 40000000 in
theorem vop_30 {g : LH} {L : Nat} {xs : Nat → Int32} {xi : Int32} {y : Int} (hi : xi.toInt = y) (hy : 0 ≤ y ∧ y + 6 ≤ (L : Int)) (hL : L ≤ 3072) (hx : Gx g = some (L, xs)) (hI : IB g) (K : ∀ g', IB g' → Gx g' = some (L, xs) → LW 322 100 0 0 1468 [some (.retAddr 0), some (.ref 0), some (.ref 355), some (.int xi)] [] g' (fun v _ => v = some (.int 1))) : LW 322 100 0 0 1146 [some (.retAddr 0), some (.ref 0), some (.ref 355), some (.int xi)] [] g (fun v _ => v = some (.int 1)) := by
  obtain ⟨n, m, V, W⟩ := hI
  refine X_aload_n rfl rfl rfl rfl ?_
  refine X_aload_nS rfl rfl rfl rfl ?_
  refine X_iload_n rfl rfl rfl rfl ?_
  refine X_iconst (v := (1 : Int32)) rfl rfl rfl ?_
  refine S_iadd rfl rfl hi (show (1 : Int32).toInt = 1 from rfl) (by omega) (fun vz1 hvz1 => ?_)
  refine vX_sld rfl rfl hx hvz1 (by omega) ?_
  refine X_aload_nS rfl rfl rfl rfl ?_
  refine X_iload_n rfl rfl rfl rfl ?_
  refine X_iconst (v := (2 : Int32)) rfl rfl rfl ?_
  refine S_iadd rfl rfl hi (show (2 : Int32).toInt = 2 from rfl) (by omega) (fun vz2 hvz2 => ?_)
  refine vX_sld rfl rfl hx hvz2 (by omega) ?_
  refine Y_callV (as := [.int (xs (Int.toNat (y + 1))), .int (xs (Int.toNat (y + 2)))]) (st := []) rfl rfl rfl (by decide) rfl (Nat.le_of_ble_eq_true rfl) (by decide) (Nat.le_of_ble_eq_true rfl) rfl ((congrFun V.1 0).trans s_0) (by decide) (LW_gx (LW_room (Nat.le_refl _) (Nat.le_refl _) (show 0 + 50 ≤ 99 by decide) (C_X12_signsFor (d := 0) V (xs (Int.toNat (y + 1))) (xs (Int.toNat (y + 1))).toInt rfl (xs (Int.toNat (y + 2))) (xs (Int.toNat (y + 2))).toInt rfl))) ?_
  rintro _ g' ⟨⟨vr3, rfl, vV, vG⟩, vgx⟩
  have W := vIB_c vV W
  have V := vIB_s vV
  have hx := vgx.trans hx
  refine X_pop rfl rfl rfl ?_
  refine X_aload_n rfl rfl rfl rfl ?_
  refine X_aload_nS rfl rfl rfl rfl ?_
  refine X_iload_n rfl rfl rfl rfl ?_
  refine X_iconst (v := (1 : Int32)) rfl rfl rfl ?_
  refine S_iadd rfl rfl hi (show (1 : Int32).toInt = 1 from rfl) (by omega) (fun vz4 hvz4 => ?_)
  refine vX_sld rfl rfl hx hvz4 (by omega) ?_
  refine X_aload_nS rfl rfl rfl rfl ?_
  refine X_iload_n rfl rfl rfl rfl ?_
  refine X_iconst (v := (2 : Int32)) rfl rfl rfl ?_
  refine S_iadd rfl rfl hi (show (2 : Int32).toInt = 2 from rfl) (by omega) (fun vz5 hvz5 => ?_)
  refine vX_sld rfl rfl hx hvz5 (by omega) ?_
  refine Y_callV (as := [.int (xs (Int.toNat (y + 1))), .int (xs (Int.toNat (y + 2)))]) (st := []) rfl rfl rfl (by decide) rfl (Nat.le_of_ble_eq_true rfl) (by decide) (Nat.le_of_ble_eq_true rfl) rfl ((congrFun V.1 355).trans s_355) (by decide) (LW_gx (LW_room (Nat.le_refl _) (Nat.le_refl _) (show 0 + 50 ≤ 99 by decide) (C_X13_signsFor (d := 0) W (xs (Int.toNat (y + 1))) (xs (Int.toNat (y + 1))).toInt rfl (xs (Int.toNat (y + 2))) (xs (Int.toNat (y + 2))).toInt rfl))) ?_
  rintro _ g' ⟨⟨vr6, rfl, vV, vG⟩, vgx⟩
  have V := vIB_r vV vG V
  have W := vIB_t vV
  have hx := vgx.trans hx
  refine X_pop rfl rfl rfl ?_
  refine LW_goto (tgt := 1468) rfl rfl ?_
  exact K _ ⟨_, _, V, W⟩ hx
set_option maxRecDepth 10000 in
set_option maxHeartbeats 40000000 in
theorem vop_31 {g : LH} {L : Nat} {xs : Nat → Int32} {xi : Int32} {y : Int} (hi : xi.toInt = y) (hy : 0 ≤ y ∧ y + 6 ≤ (L : Int)) (hL : L ≤ 3072) (hx : Gx g = some (L, xs)) (hI : IB g) (K : ∀ g', IB g' → Gx g' = some (L, xs) → LW 322 100 0 0 1468 [some (.retAddr 0), some (.ref 0), some (.ref 355), some (.int xi)] [] g' (fun v _ => v = some (.int 1))) : LW 322 100 0 0 1179 [some (.retAddr 0), some (.ref 0), some (.ref 355), some (.int xi)] [] g (fun v _ => v = some (.int 1)) := by
  obtain ⟨n, m, V, W⟩ := hI
  refine X_aload_n rfl rfl rfl rfl ?_
  refine X_aload_nS rfl rfl rfl rfl ?_
  refine X_iload_n rfl rfl rfl rfl ?_
  refine X_iconst (v := (1 : Int32)) rfl rfl rfl ?_
  refine S_iadd rfl rfl hi (show (1 : Int32).toInt = 1 from rfl) (by omega) (fun vz1 hvz1 => ?_)
  refine vX_sld rfl rfl hx hvz1 (by omega) ?_
  refine X_aload_nS rfl rfl rfl rfl ?_
  refine X_iload_n rfl rfl rfl rfl ?_
  refine X_iconst (v := (2 : Int32)) rfl rfl rfl ?_
  refine S_iadd rfl rfl hi (show (2 : Int32).toInt = 2 from rfl) (by omega) (fun vz2 hvz2 => ?_)
  refine vX_sld rfl rfl hx hvz2 (by omega) ?_
  refine Y_callV (as := [.int (xs (Int.toNat (y + 1))), .int (xs (Int.toNat (y + 2)))]) (st := []) rfl rfl rfl (by decide) rfl (Nat.le_of_ble_eq_true rfl) (by decide) (Nat.le_of_ble_eq_true rfl) rfl ((congrFun V.1 0).trans s_0) (by decide) (LW_gx (LW_room (Nat.le_refl _) (Nat.le_refl _) (show 0 + 20 ≤ 99 by decide) (C_X12_settlement (d := 0) V (xs (Int.toNat (y + 1))) (xs (Int.toNat (y + 1))).toInt rfl (xs (Int.toNat (y + 2))) (xs (Int.toNat (y + 2))).toInt rfl))) ?_
  rintro _ g' ⟨⟨vr3, rfl, vV, vG⟩, vgx⟩
  have W := vIB_c vV W
  have V := vIB_s vV
  have hx := vgx.trans hx
  refine X_pop rfl rfl rfl ?_
  refine X_aload_n rfl rfl rfl rfl ?_
  refine X_aload_nS rfl rfl rfl rfl ?_
  refine X_iload_n rfl rfl rfl rfl ?_
  refine X_iconst (v := (1 : Int32)) rfl rfl rfl ?_
  refine S_iadd rfl rfl hi (show (1 : Int32).toInt = 1 from rfl) (by omega) (fun vz4 hvz4 => ?_)
  refine vX_sld rfl rfl hx hvz4 (by omega) ?_
  refine X_aload_nS rfl rfl rfl rfl ?_
  refine X_iload_n rfl rfl rfl rfl ?_
  refine X_iconst (v := (2 : Int32)) rfl rfl rfl ?_
  refine S_iadd rfl rfl hi (show (2 : Int32).toInt = 2 from rfl) (by omega) (fun vz5 hvz5 => ?_)
  refine vX_sld rfl rfl hx hvz5 (by omega) ?_
  refine Y_callV (as := [.int (xs (Int.toNat (y + 1))), .int (xs (Int.toNat (y + 2)))]) (st := []) rfl rfl rfl (by decide) rfl (Nat.le_of_ble_eq_true rfl) (by decide) (Nat.le_of_ble_eq_true rfl) rfl ((congrFun V.1 355).trans s_355) (by decide) (LW_gx (LW_room (Nat.le_refl _) (Nat.le_refl _) (show 0 + 40 ≤ 99 by decide) (C_X13_settlement (d := 0) W (xs (Int.toNat (y + 1))) (xs (Int.toNat (y + 1))).toInt rfl (xs (Int.toNat (y + 2))) (xs (Int.toNat (y + 2))).toInt rfl))) ?_
  rintro _ g' ⟨⟨vr6, rfl, vV, vG⟩, vgx⟩
  have V := vIB_r vV vG V
  have W := vIB_t vV
  have hx := vgx.trans hx
  refine X_pop rfl rfl rfl ?_
  refine LW_goto (tgt := 1468) rfl rfl ?_
  exact K _ ⟨_, _, V, W⟩ hx
set_option maxRecDepth 10000 in
set_option maxHeartbeats 40000000 in
theorem vop_32 {g : LH} {L : Nat} {xs : Nat → Int32} {xi : Int32} {y : Int} (hi : xi.toInt = y) (hy : 0 ≤ y ∧ y + 6 ≤ (L : Int)) (hL : L ≤ 3072) (hx : Gx g = some (L, xs)) (hI : IB g) (K : ∀ g', IB g' → Gx g' = some (L, xs) → LW 322 100 0 0 1468 [some (.retAddr 0), some (.ref 0), some (.ref 355), some (.int xi)] [] g' (fun v _ => v = some (.int 1))) : LW 322 100 0 0 1212 [some (.retAddr 0), some (.ref 0), some (.ref 355), some (.int xi)] [] g (fun v _ => v = some (.int 1)) := by
  obtain ⟨n, m, V, W⟩ := hI
  refine X_aload_n rfl rfl rfl rfl ?_
  refine X_aload_nS rfl rfl rfl rfl ?_
  refine X_iload_n rfl rfl rfl rfl ?_
  refine X_iconst (v := (1 : Int32)) rfl rfl rfl ?_
  refine S_iadd rfl rfl hi (show (1 : Int32).toInt = 1 from rfl) (by omega) (fun vz1 hvz1 => ?_)
  refine vX_sld rfl rfl hx hvz1 (by omega) ?_
  refine X_aload_nS rfl rfl rfl rfl ?_
  refine X_iload_n rfl rfl rfl rfl ?_
  refine X_iconst (v := (2 : Int32)) rfl rfl rfl ?_
  refine S_iadd rfl rfl hi (show (2 : Int32).toInt = 2 from rfl) (by omega) (fun vz2 hvz2 => ?_)
  refine vX_sld rfl rfl hx hvz2 (by omega) ?_
  refine S_if_eq (tgt := 1230) rfl rfl rfl rfl (fun vh3 => ?_) (fun vh3 => ?_)
  · refine X_iconst (v := (0 : Int32)) rfl rfl rfl ?_
    refine Y_callV (as := [.int (xs (Int.toNat (y + 1))), .int (0 : Int32)]) (st := []) rfl rfl rfl (by decide) rfl (Nat.le_of_ble_eq_true rfl) (by decide) (Nat.le_of_ble_eq_true rfl) rfl ((congrFun V.1 0).trans s_0) (by decide) (LW_gx (LW_room (Nat.le_refl _) (Nat.le_refl _) (show 0 + 21 ≤ 99 by decide) (C_X12_learn (d := 0) V (xs (Int.toNat (y + 1))) (xs (Int.toNat (y + 1))).toInt rfl (0 : Int32) 0 (show (0 : Int32).toInt = 0 from rfl) (by omega)))) ?_
    rintro _ g' ⟨⟨vr4, rfl, vV, vG⟩, vgx⟩
    have W := vIB_c vV W
    have V := vIB_s vV
    have hx := vgx.trans hx
    refine X_pop rfl rfl rfl ?_
    refine X_aload_n rfl rfl rfl rfl ?_
    refine X_aload_nS rfl rfl rfl rfl ?_
    refine X_iload_n rfl rfl rfl rfl ?_
    refine X_iconst (v := (1 : Int32)) rfl rfl rfl ?_
    refine S_iadd rfl rfl hi (show (1 : Int32).toInt = 1 from rfl) (by omega) (fun vz5 hvz5 => ?_)
    refine vX_sld rfl rfl hx hvz5 (by omega) ?_
    refine X_aload_nS rfl rfl rfl rfl ?_
    refine X_iload_n rfl rfl rfl rfl ?_
    refine X_iconst (v := (2 : Int32)) rfl rfl rfl ?_
    refine S_iadd rfl rfl hi (show (2 : Int32).toInt = 2 from rfl) (by omega) (fun vz6 hvz6 => ?_)
    refine vX_sld rfl rfl hx hvz6 (by omega) ?_
    refine S_if_eq (tgt := 1253) rfl rfl rfl rfl (fun vh7 => ?_) (fun vh7 => ?_)
    · refine X_iconst (v := (0 : Int32)) rfl rfl rfl ?_
      refine Y_callV (as := [.int (xs (Int.toNat (y + 1))), .int (0 : Int32)]) (st := []) rfl rfl rfl (by decide) rfl (Nat.le_of_ble_eq_true rfl) (by decide) (Nat.le_of_ble_eq_true rfl) rfl ((congrFun V.1 355).trans s_355) (by decide) (LW_gx (LW_room (Nat.le_refl _) (Nat.le_refl _) (show 0 + 40 ≤ 99 by decide) (C_X13_learn (d := 0) W (xs (Int.toNat (y + 1))) (xs (Int.toNat (y + 1))).toInt rfl (0 : Int32) 0 (show (0 : Int32).toInt = 0 from rfl) (by omega)))) ?_
      rintro _ g' ⟨⟨vr8, rfl, vV, vG⟩, vgx⟩
      have V := vIB_r vV vG V
      have W := vIB_t vV
      have hx := vgx.trans hx
      refine X_pop rfl rfl rfl ?_
      refine LW_goto (tgt := 1468) rfl rfl ?_
      exact K _ ⟨_, _, V, W⟩ hx
    · refine X_iconst (v := (1 : Int32)) rfl rfl rfl ?_
      refine LW_goto (tgt := 1254) rfl rfl ?_
      refine Y_callV (as := [.int (xs (Int.toNat (y + 1))), .int (1 : Int32)]) (st := []) rfl rfl rfl (by decide) rfl (Nat.le_of_ble_eq_true rfl) (by decide) (Nat.le_of_ble_eq_true rfl) rfl ((congrFun V.1 355).trans s_355) (by decide) (LW_gx (LW_room (Nat.le_refl _) (Nat.le_refl _) (show 0 + 40 ≤ 99 by decide) (C_X13_learn (d := 0) W (xs (Int.toNat (y + 1))) (xs (Int.toNat (y + 1))).toInt rfl (1 : Int32) 1 (show (1 : Int32).toInt = 1 from rfl) (by omega)))) ?_
      rintro _ g' ⟨⟨vr9, rfl, vV, vG⟩, vgx⟩
      have V := vIB_r vV vG V
      have W := vIB_t vV
      have hx := vgx.trans hx
      refine X_pop rfl rfl rfl ?_
      refine LW_goto (tgt := 1468) rfl rfl ?_
      exact K _ ⟨_, _, V, W⟩ hx
  · refine X_iconst (v := (1 : Int32)) rfl rfl rfl ?_
    refine LW_goto (tgt := 1231) rfl rfl ?_
    refine Y_callV (as := [.int (xs (Int.toNat (y + 1))), .int (1 : Int32)]) (st := []) rfl rfl rfl (by decide) rfl (Nat.le_of_ble_eq_true rfl) (by decide) (Nat.le_of_ble_eq_true rfl) rfl ((congrFun V.1 0).trans s_0) (by decide) (LW_gx (LW_room (Nat.le_refl _) (Nat.le_refl _) (show 0 + 21 ≤ 99 by decide) (C_X12_learn (d := 0) V (xs (Int.toNat (y + 1))) (xs (Int.toNat (y + 1))).toInt rfl (1 : Int32) 1 (show (1 : Int32).toInt = 1 from rfl) (by omega)))) ?_
    rintro _ g' ⟨⟨vr10, rfl, vV, vG⟩, vgx⟩
    have W := vIB_c vV W
    have V := vIB_s vV
    have hx := vgx.trans hx
    refine X_pop rfl rfl rfl ?_
    refine X_aload_n rfl rfl rfl rfl ?_
    refine X_aload_nS rfl rfl rfl rfl ?_
    refine X_iload_n rfl rfl rfl rfl ?_
    refine X_iconst (v := (1 : Int32)) rfl rfl rfl ?_
    refine S_iadd rfl rfl hi (show (1 : Int32).toInt = 1 from rfl) (by omega) (fun vz11 hvz11 => ?_)
    refine vX_sld rfl rfl hx hvz11 (by omega) ?_
    refine X_aload_nS rfl rfl rfl rfl ?_
    refine X_iload_n rfl rfl rfl rfl ?_
    refine X_iconst (v := (2 : Int32)) rfl rfl rfl ?_
    refine S_iadd rfl rfl hi (show (2 : Int32).toInt = 2 from rfl) (by omega) (fun vz12 hvz12 => ?_)
    refine vX_sld rfl rfl hx hvz12 (by omega) ?_
    refine S_if_eq (tgt := 1253) rfl rfl rfl rfl (fun vh13 => ?_) (fun vh13 => ?_)
    · refine X_iconst (v := (0 : Int32)) rfl rfl rfl ?_
      refine Y_callV (as := [.int (xs (Int.toNat (y + 1))), .int (0 : Int32)]) (st := []) rfl rfl rfl (by decide) rfl (Nat.le_of_ble_eq_true rfl) (by decide) (Nat.le_of_ble_eq_true rfl) rfl ((congrFun V.1 355).trans s_355) (by decide) (LW_gx (LW_room (Nat.le_refl _) (Nat.le_refl _) (show 0 + 40 ≤ 99 by decide) (C_X13_learn (d := 0) W (xs (Int.toNat (y + 1))) (xs (Int.toNat (y + 1))).toInt rfl (0 : Int32) 0 (show (0 : Int32).toInt = 0 from rfl) (by omega)))) ?_
      rintro _ g' ⟨⟨vr14, rfl, vV, vG⟩, vgx⟩
      have V := vIB_r vV vG V
      have W := vIB_t vV
      have hx := vgx.trans hx
      refine X_pop rfl rfl rfl ?_
      refine LW_goto (tgt := 1468) rfl rfl ?_
      exact K _ ⟨_, _, V, W⟩ hx
    · refine X_iconst (v := (1 : Int32)) rfl rfl rfl ?_
      refine LW_goto (tgt := 1254) rfl rfl ?_
      refine Y_callV (as := [.int (xs (Int.toNat (y + 1))), .int (1 : Int32)]) (st := []) rfl rfl rfl (by decide) rfl (Nat.le_of_ble_eq_true rfl) (by decide) (Nat.le_of_ble_eq_true rfl) rfl ((congrFun V.1 355).trans s_355) (by decide) (LW_gx (LW_room (Nat.le_refl _) (Nat.le_refl _) (show 0 + 40 ≤ 99 by decide) (C_X13_learn (d := 0) W (xs (Int.toNat (y + 1))) (xs (Int.toNat (y + 1))).toInt rfl (1 : Int32) 1 (show (1 : Int32).toInt = 1 from rfl) (by omega)))) ?_
      rintro _ g' ⟨⟨vr15, rfl, vV, vG⟩, vgx⟩
      have V := vIB_r vV vG V
      have W := vIB_t vV
      have hx := vgx.trans hx
      refine X_pop rfl rfl rfl ?_
      refine LW_goto (tgt := 1468) rfl rfl ?_
      exact K _ ⟨_, _, V, W⟩ hx
set_option maxRecDepth 10000 in
set_option maxHeartbeats 40000000 in
theorem vop_33 {g : LH} {L : Nat} {xs : Nat → Int32} {xi : Int32} {y : Int} (hi : xi.toInt = y) (hy : 0 ≤ y ∧ y + 6 ≤ (L : Int)) (hL : L ≤ 3072) (hx : Gx g = some (L, xs)) (hI : IB g) (K : ∀ g', IB g' → Gx g' = some (L, xs) → LW 322 100 0 0 1468 [some (.retAddr 0), some (.ref 0), some (.ref 355), some (.int xi)] [] g' (fun v _ => v = some (.int 1))) : LW 322 100 0 0 1261 [some (.retAddr 0), some (.ref 0), some (.ref 355), some (.int xi)] [] g (fun v _ => v = some (.int 1)) := by
  obtain ⟨n, m, V, W⟩ := hI
  refine X_aload_n rfl rfl rfl rfl ?_
  refine X_aload_nS rfl rfl rfl rfl ?_
  refine X_iload_n rfl rfl rfl rfl ?_
  refine X_iconst (v := (1 : Int32)) rfl rfl rfl ?_
  refine S_iadd rfl rfl hi (show (1 : Int32).toInt = 1 from rfl) (by omega) (fun vz1 hvz1 => ?_)
  refine vX_sld rfl rfl hx hvz1 (by omega) ?_
  refine X_aload_nS rfl rfl rfl rfl ?_
  refine X_iload_n rfl rfl rfl rfl ?_
  refine X_iconst (v := (2 : Int32)) rfl rfl rfl ?_
  refine S_iadd rfl rfl hi (show (2 : Int32).toInt = 2 from rfl) (by omega) (fun vz2 hvz2 => ?_)
  refine vX_sld rfl rfl hx hvz2 (by omega) ?_
  refine Y_callV (as := [.int (xs (Int.toNat (y + 1))), .int (xs (Int.toNat (y + 2)))]) (st := []) rfl rfl rfl (by decide) rfl (Nat.le_of_ble_eq_true rfl) (by decide) (Nat.le_of_ble_eq_true rfl) rfl ((congrFun V.1 0).trans s_0) (by decide) (LW_gx (LW_room (Nat.le_refl _) (Nat.le_refl _) (show 0 + 10 ≤ 99 by decide) (C_X12_hair (d := 0) V (xs (Int.toNat (y + 1))) (xs (Int.toNat (y + 1))).toInt rfl (xs (Int.toNat (y + 2))) (xs (Int.toNat (y + 2))).toInt rfl))) ?_
  rintro _ g' ⟨⟨vr3, rfl, vgg⟩, vgx⟩
  subst vgg
  refine X_pop rfl rfl rfl ?_
  refine X_aload_n rfl rfl rfl rfl ?_
  refine X_aload_nS rfl rfl rfl rfl ?_
  refine X_iload_n rfl rfl rfl rfl ?_
  refine X_iconst (v := (1 : Int32)) rfl rfl rfl ?_
  refine S_iadd rfl rfl hi (show (1 : Int32).toInt = 1 from rfl) (by omega) (fun vz4 hvz4 => ?_)
  refine vX_sld rfl rfl hx hvz4 (by omega) ?_
  refine X_aload_nS rfl rfl rfl rfl ?_
  refine X_iload_n rfl rfl rfl rfl ?_
  refine X_iconst (v := (2 : Int32)) rfl rfl rfl ?_
  refine S_iadd rfl rfl hi (show (2 : Int32).toInt = 2 from rfl) (by omega) (fun vz5 hvz5 => ?_)
  refine vX_sld rfl rfl hx hvz5 (by omega) ?_
  refine Y_callV (as := [.int (xs (Int.toNat (y + 1))), .int (xs (Int.toNat (y + 2)))]) (st := []) rfl rfl rfl (by decide) rfl (Nat.le_of_ble_eq_true rfl) (by decide) (Nat.le_of_ble_eq_true rfl) rfl ((congrFun V.1 355).trans s_355) (by decide) (LW_gx (LW_room (Nat.le_refl _) (Nat.le_refl _) (show 0 + 10 ≤ 99 by decide) (C_X13_hair (d := 0) W (xs (Int.toNat (y + 1))) (xs (Int.toNat (y + 1))).toInt rfl (xs (Int.toNat (y + 2))) (xs (Int.toNat (y + 2))).toInt rfl))) ?_
  rintro _ g' ⟨⟨vr6, rfl, vgg⟩, vgx⟩
  subst vgg
  refine X_pop rfl rfl rfl ?_
  refine LW_goto (tgt := 1468) rfl rfl ?_
  exact K _ ⟨_, _, V, W⟩ hx
set_option maxRecDepth 10000 in
set_option maxHeartbeats 40000000 in
theorem vop_34 {g : LH} {L : Nat} {xs : Nat → Int32} {xi : Int32} {y : Int} (hi : xi.toInt = y) (hy : 0 ≤ y ∧ y + 6 ≤ (L : Int)) (hL : L ≤ 3072) (hx : Gx g = some (L, xs)) (hI : IB g) (K : ∀ g', IB g' → Gx g' = some (L, xs) → LW 322 100 0 0 1468 [some (.retAddr 0), some (.ref 0), some (.ref 355), some (.int xi)] [] g' (fun v _ => v = some (.int 1))) : LW 322 100 0 0 1294 [some (.retAddr 0), some (.ref 0), some (.ref 355), some (.int xi)] [] g (fun v _ => v = some (.int 1)) := by
  obtain ⟨n, m, V, W⟩ := hI
  refine X_aload_n rfl rfl rfl rfl ?_
  refine X_aload_nS rfl rfl rfl rfl ?_
  refine X_iload_n rfl rfl rfl rfl ?_
  refine X_iconst (v := (1 : Int32)) rfl rfl rfl ?_
  refine S_iadd rfl rfl hi (show (1 : Int32).toInt = 1 from rfl) (by omega) (fun vz1 hvz1 => ?_)
  refine vX_sld rfl rfl hx hvz1 (by omega) ?_
  refine X_aload_nS rfl rfl rfl rfl ?_
  refine X_iload_n rfl rfl rfl rfl ?_
  refine X_iconst (v := (2 : Int32)) rfl rfl rfl ?_
  refine S_iadd rfl rfl hi (show (2 : Int32).toInt = 2 from rfl) (by omega) (fun vz2 hvz2 => ?_)
  refine vX_sld rfl rfl hx hvz2 (by omega) ?_
  refine X_aload_nS rfl rfl rfl rfl ?_
  refine X_iload_n rfl rfl rfl rfl ?_
  refine X_iconst (v := (3 : Int32)) rfl rfl rfl ?_
  refine S_iadd rfl rfl hi (show (3 : Int32).toInt = 3 from rfl) (by omega) (fun vz3 hvz3 => ?_)
  refine vX_sld rfl rfl hx hvz3 (by omega) ?_
  refine S_if_eq (tgt := 1317) rfl rfl rfl rfl (fun vh4 => ?_) (fun vh4 => ?_)
  · refine X_iconst (v := (0 : Int32)) rfl rfl rfl ?_
    refine Y_callV (as := [.int (xs (Int.toNat (y + 1))), .int (xs (Int.toNat (y + 2))), .int (0 : Int32)]) (st := []) rfl rfl rfl (by decide) rfl (Nat.le_of_ble_eq_true rfl) (by decide) (Nat.le_of_ble_eq_true rfl) rfl ((congrFun V.1 0).trans s_0) (by decide) (LW_gx (LW_room (Nat.le_refl _) (Nat.le_refl _) (show 0 + 4 ≤ 99 by decide) (C_X12_printed (d := 0) V (xs (Int.toNat (y + 1))) (xs (Int.toNat (y + 1))).toInt rfl (xs (Int.toNat (y + 2))) (xs (Int.toNat (y + 2))).toInt rfl (0 : Int32) 0 (show (0 : Int32).toInt = 0 from rfl) (by omega)))) ?_
    rintro _ g' ⟨⟨vr5, rfl, _, _, vV, vG⟩, vgx⟩
    have W := vIB_c vV W
    have V := vIB_s vV
    have hx := vgx.trans hx
    refine X_pop rfl rfl rfl ?_
    refine X_aload_n rfl rfl rfl rfl ?_
    refine X_aload_nS rfl rfl rfl rfl ?_
    refine X_iload_n rfl rfl rfl rfl ?_
    refine X_iconst (v := (1 : Int32)) rfl rfl rfl ?_
    refine S_iadd rfl rfl hi (show (1 : Int32).toInt = 1 from rfl) (by omega) (fun vz6 hvz6 => ?_)
    refine vX_sld rfl rfl hx hvz6 (by omega) ?_
    refine X_aload_nS rfl rfl rfl rfl ?_
    refine X_iload_n rfl rfl rfl rfl ?_
    refine X_iconst (v := (2 : Int32)) rfl rfl rfl ?_
    refine S_iadd rfl rfl hi (show (2 : Int32).toInt = 2 from rfl) (by omega) (fun vz7 hvz7 => ?_)
    refine vX_sld rfl rfl hx hvz7 (by omega) ?_
    refine X_aload_nS rfl rfl rfl rfl ?_
    refine X_iload_n rfl rfl rfl rfl ?_
    refine X_iconst (v := (3 : Int32)) rfl rfl rfl ?_
    refine S_iadd rfl rfl hi (show (3 : Int32).toInt = 3 from rfl) (by omega) (fun vz8 hvz8 => ?_)
    refine vX_sld rfl rfl hx hvz8 (by omega) ?_
    refine S_if_eq (tgt := 1345) rfl rfl rfl rfl (fun vh9 => ?_) (fun vh9 => ?_)
    · refine X_iconst (v := (0 : Int32)) rfl rfl rfl ?_
      refine Y_callV (as := [.int (xs (Int.toNat (y + 1))), .int (xs (Int.toNat (y + 2))), .int (0 : Int32)]) (st := []) rfl rfl rfl (by decide) rfl (Nat.le_of_ble_eq_true rfl) (by decide) (Nat.le_of_ble_eq_true rfl) rfl ((congrFun V.1 355).trans s_355) (by decide) (LW_gx (LW_room (Nat.le_refl _) (Nat.le_refl _) (show 0 + 5 ≤ 99 by decide) (C_X13_printed (d := 0) W (xs (Int.toNat (y + 1))) (xs (Int.toNat (y + 1))).toInt rfl (xs (Int.toNat (y + 2))) (xs (Int.toNat (y + 2))).toInt rfl (0 : Int32) 0 (show (0 : Int32).toInt = 0 from rfl) (by omega)))) ?_
      rintro _ g' ⟨⟨vr10, rfl, _, _, vV, vG⟩, vgx⟩
      have V := vIB_r vV vG V
      have W := vIB_t vV
      have hx := vgx.trans hx
      refine X_pop rfl rfl rfl ?_
      refine LW_goto (tgt := 1468) rfl rfl ?_
      exact K _ ⟨_, _, V, W⟩ hx
    · refine X_iconst (v := (1 : Int32)) rfl rfl rfl ?_
      refine LW_goto (tgt := 1346) rfl rfl ?_
      refine Y_callV (as := [.int (xs (Int.toNat (y + 1))), .int (xs (Int.toNat (y + 2))), .int (1 : Int32)]) (st := []) rfl rfl rfl (by decide) rfl (Nat.le_of_ble_eq_true rfl) (by decide) (Nat.le_of_ble_eq_true rfl) rfl ((congrFun V.1 355).trans s_355) (by decide) (LW_gx (LW_room (Nat.le_refl _) (Nat.le_refl _) (show 0 + 5 ≤ 99 by decide) (C_X13_printed (d := 0) W (xs (Int.toNat (y + 1))) (xs (Int.toNat (y + 1))).toInt rfl (xs (Int.toNat (y + 2))) (xs (Int.toNat (y + 2))).toInt rfl (1 : Int32) 1 (show (1 : Int32).toInt = 1 from rfl) (by omega)))) ?_
      rintro _ g' ⟨⟨vr11, rfl, _, _, vV, vG⟩, vgx⟩
      have V := vIB_r vV vG V
      have W := vIB_t vV
      have hx := vgx.trans hx
      refine X_pop rfl rfl rfl ?_
      refine LW_goto (tgt := 1468) rfl rfl ?_
      exact K _ ⟨_, _, V, W⟩ hx
  · refine X_iconst (v := (1 : Int32)) rfl rfl rfl ?_
    refine LW_goto (tgt := 1318) rfl rfl ?_
    refine Y_callV (as := [.int (xs (Int.toNat (y + 1))), .int (xs (Int.toNat (y + 2))), .int (1 : Int32)]) (st := []) rfl rfl rfl (by decide) rfl (Nat.le_of_ble_eq_true rfl) (by decide) (Nat.le_of_ble_eq_true rfl) rfl ((congrFun V.1 0).trans s_0) (by decide) (LW_gx (LW_room (Nat.le_refl _) (Nat.le_refl _) (show 0 + 4 ≤ 99 by decide) (C_X12_printed (d := 0) V (xs (Int.toNat (y + 1))) (xs (Int.toNat (y + 1))).toInt rfl (xs (Int.toNat (y + 2))) (xs (Int.toNat (y + 2))).toInt rfl (1 : Int32) 1 (show (1 : Int32).toInt = 1 from rfl) (by omega)))) ?_
    rintro _ g' ⟨⟨vr12, rfl, _, _, vV, vG⟩, vgx⟩
    have W := vIB_c vV W
    have V := vIB_s vV
    have hx := vgx.trans hx
    refine X_pop rfl rfl rfl ?_
    refine X_aload_n rfl rfl rfl rfl ?_
    refine X_aload_nS rfl rfl rfl rfl ?_
    refine X_iload_n rfl rfl rfl rfl ?_
    refine X_iconst (v := (1 : Int32)) rfl rfl rfl ?_
    refine S_iadd rfl rfl hi (show (1 : Int32).toInt = 1 from rfl) (by omega) (fun vz13 hvz13 => ?_)
    refine vX_sld rfl rfl hx hvz13 (by omega) ?_
    refine X_aload_nS rfl rfl rfl rfl ?_
    refine X_iload_n rfl rfl rfl rfl ?_
    refine X_iconst (v := (2 : Int32)) rfl rfl rfl ?_
    refine S_iadd rfl rfl hi (show (2 : Int32).toInt = 2 from rfl) (by omega) (fun vz14 hvz14 => ?_)
    refine vX_sld rfl rfl hx hvz14 (by omega) ?_
    refine X_aload_nS rfl rfl rfl rfl ?_
    refine X_iload_n rfl rfl rfl rfl ?_
    refine X_iconst (v := (3 : Int32)) rfl rfl rfl ?_
    refine S_iadd rfl rfl hi (show (3 : Int32).toInt = 3 from rfl) (by omega) (fun vz15 hvz15 => ?_)
    refine vX_sld rfl rfl hx hvz15 (by omega) ?_
    refine S_if_eq (tgt := 1345) rfl rfl rfl rfl (fun vh16 => ?_) (fun vh16 => ?_)
    · refine X_iconst (v := (0 : Int32)) rfl rfl rfl ?_
      refine Y_callV (as := [.int (xs (Int.toNat (y + 1))), .int (xs (Int.toNat (y + 2))), .int (0 : Int32)]) (st := []) rfl rfl rfl (by decide) rfl (Nat.le_of_ble_eq_true rfl) (by decide) (Nat.le_of_ble_eq_true rfl) rfl ((congrFun V.1 355).trans s_355) (by decide) (LW_gx (LW_room (Nat.le_refl _) (Nat.le_refl _) (show 0 + 5 ≤ 99 by decide) (C_X13_printed (d := 0) W (xs (Int.toNat (y + 1))) (xs (Int.toNat (y + 1))).toInt rfl (xs (Int.toNat (y + 2))) (xs (Int.toNat (y + 2))).toInt rfl (0 : Int32) 0 (show (0 : Int32).toInt = 0 from rfl) (by omega)))) ?_
      rintro _ g' ⟨⟨vr17, rfl, _, _, vV, vG⟩, vgx⟩
      have V := vIB_r vV vG V
      have W := vIB_t vV
      have hx := vgx.trans hx
      refine X_pop rfl rfl rfl ?_
      refine LW_goto (tgt := 1468) rfl rfl ?_
      exact K _ ⟨_, _, V, W⟩ hx
    · refine X_iconst (v := (1 : Int32)) rfl rfl rfl ?_
      refine LW_goto (tgt := 1346) rfl rfl ?_
      refine Y_callV (as := [.int (xs (Int.toNat (y + 1))), .int (xs (Int.toNat (y + 2))), .int (1 : Int32)]) (st := []) rfl rfl rfl (by decide) rfl (Nat.le_of_ble_eq_true rfl) (by decide) (Nat.le_of_ble_eq_true rfl) rfl ((congrFun V.1 355).trans s_355) (by decide) (LW_gx (LW_room (Nat.le_refl _) (Nat.le_refl _) (show 0 + 5 ≤ 99 by decide) (C_X13_printed (d := 0) W (xs (Int.toNat (y + 1))) (xs (Int.toNat (y + 1))).toInt rfl (xs (Int.toNat (y + 2))) (xs (Int.toNat (y + 2))).toInt rfl (1 : Int32) 1 (show (1 : Int32).toInt = 1 from rfl) (by omega)))) ?_
      rintro _ g' ⟨⟨vr18, rfl, _, _, vV, vG⟩, vgx⟩
      have V := vIB_r vV vG V
      have W := vIB_t vV
      have hx := vgx.trans hx
      refine X_pop rfl rfl rfl ?_
      refine LW_goto (tgt := 1468) rfl rfl ?_
      exact K _ ⟨_, _, V, W⟩ hx
set_option maxRecDepth 10000 in
set_option maxHeartbeats 40000000 in
theorem vop_35 {g : LH} {L : Nat} {xs : Nat → Int32} {xi : Int32} {y : Int} (hi : xi.toInt = y) (hy : 0 ≤ y ∧ y + 6 ≤ (L : Int)) (hL : L ≤ 3072) (hx : Gx g = some (L, xs)) (hI : IB g) (K : ∀ g', IB g' → Gx g' = some (L, xs) → LW 322 100 0 0 1468 [some (.retAddr 0), some (.ref 0), some (.ref 355), some (.int xi)] [] g' (fun v _ => v = some (.int 1))) : LW 322 100 0 0 1353 [some (.retAddr 0), some (.ref 0), some (.ref 355), some (.int xi)] [] g (fun v _ => v = some (.int 1)) := by
  obtain ⟨n, m, V, W⟩ := hI
  refine X_aload_n rfl rfl rfl rfl ?_
  refine X_aload_nS rfl rfl rfl rfl ?_
  refine X_iload_n rfl rfl rfl rfl ?_
  refine X_iconst (v := (1 : Int32)) rfl rfl rfl ?_
  refine S_iadd rfl rfl hi (show (1 : Int32).toInt = 1 from rfl) (by omega) (fun vz1 hvz1 => ?_)
  refine vX_sld rfl rfl hx hvz1 (by omega) ?_
  refine X_aload_nS rfl rfl rfl rfl ?_
  refine X_iload_n rfl rfl rfl rfl ?_
  refine X_iconst (v := (2 : Int32)) rfl rfl rfl ?_
  refine S_iadd rfl rfl hi (show (2 : Int32).toInt = 2 from rfl) (by omega) (fun vz2 hvz2 => ?_)
  refine vX_sld rfl rfl hx hvz2 (by omega) ?_
  refine Y_callV (as := [.int (xs (Int.toNat (y + 1))), .int (xs (Int.toNat (y + 2)))]) (st := []) rfl rfl rfl (by decide) rfl (Nat.le_of_ble_eq_true rfl) (by decide) (Nat.le_of_ble_eq_true rfl) rfl ((congrFun V.1 0).trans s_0) (by decide) (LW_gx (LW_room (Nat.le_refl _) (Nat.le_refl _) (show 0 + 16 ≤ 99 by decide) (C_X12_spells (d := 0) V (xs (Int.toNat (y + 1))) (xs (Int.toNat (y + 1))).toInt rfl (xs (Int.toNat (y + 2))) (xs (Int.toNat (y + 2))).toInt rfl))) ?_
  rintro _ g' ⟨⟨vr3, rfl, vV, vG⟩, vgx⟩
  have W := vIB_c vV W
  have V := vIB_s vV
  have hx := vgx.trans hx
  refine X_pop rfl rfl rfl ?_
  refine X_aload_n rfl rfl rfl rfl ?_
  refine X_aload_nS rfl rfl rfl rfl ?_
  refine X_iload_n rfl rfl rfl rfl ?_
  refine X_iconst (v := (1 : Int32)) rfl rfl rfl ?_
  refine S_iadd rfl rfl hi (show (1 : Int32).toInt = 1 from rfl) (by omega) (fun vz4 hvz4 => ?_)
  refine vX_sld rfl rfl hx hvz4 (by omega) ?_
  refine X_aload_nS rfl rfl rfl rfl ?_
  refine X_iload_n rfl rfl rfl rfl ?_
  refine X_iconst (v := (2 : Int32)) rfl rfl rfl ?_
  refine S_iadd rfl rfl hi (show (2 : Int32).toInt = 2 from rfl) (by omega) (fun vz5 hvz5 => ?_)
  refine vX_sld rfl rfl hx hvz5 (by omega) ?_
  refine Y_callV (as := [.int (xs (Int.toNat (y + 1))), .int (xs (Int.toNat (y + 2)))]) (st := []) rfl rfl rfl (by decide) rfl (Nat.le_of_ble_eq_true rfl) (by decide) (Nat.le_of_ble_eq_true rfl) rfl ((congrFun V.1 355).trans s_355) (by decide) (LW_gx (LW_room (Nat.le_refl _) (Nat.le_refl _) (show 0 + 19 ≤ 99 by decide) (C_X13_spells (d := 0) W (xs (Int.toNat (y + 1))) (xs (Int.toNat (y + 1))).toInt rfl (xs (Int.toNat (y + 2))) (xs (Int.toNat (y + 2))).toInt rfl))) ?_
  rintro _ g' ⟨⟨vr6, rfl, vgg⟩, vgx⟩
  subst vgg
  refine X_pop rfl rfl rfl ?_
  refine LW_goto (tgt := 1468) rfl rfl ?_
  exact K _ ⟨_, _, V, W⟩ hx
set_option maxRecDepth 10000 in
set_option maxHeartbeats 40000000 in
theorem vop_36 {g : LH} {L : Nat} {xs : Nat → Int32} {xi : Int32} {y : Int} (hi : xi.toInt = y) (hy : 0 ≤ y ∧ y + 6 ≤ (L : Int)) (hL : L ≤ 3072) (hx : Gx g = some (L, xs)) (hI : IB g) (K : ∀ g', IB g' → Gx g' = some (L, xs) → LW 322 100 0 0 1468 [some (.retAddr 0), some (.ref 0), some (.ref 355), some (.int xi)] [] g' (fun v _ => v = some (.int 1))) : LW 322 100 0 0 1386 [some (.retAddr 0), some (.ref 0), some (.ref 355), some (.int xi)] [] g (fun v _ => v = some (.int 1)) := by
  obtain ⟨n, m, V, W⟩ := hI
  refine X_aload_n rfl rfl rfl rfl ?_
  refine X_aload_nS rfl rfl rfl rfl ?_
  refine X_iload_n rfl rfl rfl rfl ?_
  refine X_iconst (v := (1 : Int32)) rfl rfl rfl ?_
  refine S_iadd rfl rfl hi (show (1 : Int32).toInt = 1 from rfl) (by omega) (fun vz1 hvz1 => ?_)
  refine vX_sld rfl rfl hx hvz1 (by omega) ?_
  refine X_aload_nS rfl rfl rfl rfl ?_
  refine X_iload_n rfl rfl rfl rfl ?_
  refine X_iconst (v := (2 : Int32)) rfl rfl rfl ?_
  refine S_iadd rfl rfl hi (show (2 : Int32).toInt = 2 from rfl) (by omega) (fun vz2 hvz2 => ?_)
  refine vX_sld rfl rfl hx hvz2 (by omega) ?_
  refine Y_callV (as := [.int (xs (Int.toNat (y + 1))), .int (xs (Int.toNat (y + 2)))]) (st := []) rfl rfl rfl (by decide) rfl (Nat.le_of_ble_eq_true rfl) (by decide) (Nat.le_of_ble_eq_true rfl) rfl ((congrFun V.1 0).trans s_0) (by decide) (LW_gx (LW_room (Nat.le_refl _) (Nat.le_refl _) (show 0 + 22 ≤ 99 by decide) (C_X12_signed (d := 0) V (xs (Int.toNat (y + 1))) (xs (Int.toNat (y + 1))).toInt rfl (xs (Int.toNat (y + 2))) (xs (Int.toNat (y + 2))).toInt rfl))) ?_
  rintro _ g' ⟨⟨vr3, rfl, vV, vG⟩, vgx⟩
  have W := vIB_c vV W
  have V := vIB_s vV
  have hx := vgx.trans hx
  refine X_pop rfl rfl rfl ?_
  refine X_aload_n rfl rfl rfl rfl ?_
  refine X_aload_nS rfl rfl rfl rfl ?_
  refine X_iload_n rfl rfl rfl rfl ?_
  refine X_iconst (v := (1 : Int32)) rfl rfl rfl ?_
  refine S_iadd rfl rfl hi (show (1 : Int32).toInt = 1 from rfl) (by omega) (fun vz4 hvz4 => ?_)
  refine vX_sld rfl rfl hx hvz4 (by omega) ?_
  refine X_aload_nS rfl rfl rfl rfl ?_
  refine X_iload_n rfl rfl rfl rfl ?_
  refine X_iconst (v := (2 : Int32)) rfl rfl rfl ?_
  refine S_iadd rfl rfl hi (show (2 : Int32).toInt = 2 from rfl) (by omega) (fun vz5 hvz5 => ?_)
  refine vX_sld rfl rfl hx hvz5 (by omega) ?_
  refine Y_callV (as := [.int (xs (Int.toNat (y + 1))), .int (xs (Int.toNat (y + 2)))]) (st := []) rfl rfl rfl (by decide) rfl (Nat.le_of_ble_eq_true rfl) (by decide) (Nat.le_of_ble_eq_true rfl) rfl ((congrFun V.1 355).trans s_355) (by decide) (LW_gx (LW_room (Nat.le_refl _) (Nat.le_refl _) (show 0 + 28 ≤ 99 by decide) (C_X13_signed (d := 0) W (xs (Int.toNat (y + 1))) (xs (Int.toNat (y + 1))).toInt rfl (xs (Int.toNat (y + 2))) (xs (Int.toNat (y + 2))).toInt rfl))) ?_
  rintro _ g' ⟨⟨vr6, rfl, vV, vG⟩, vgx⟩
  have V := vIB_r vV vG V
  have W := vIB_t vV
  have hx := vgx.trans hx
  refine X_pop rfl rfl rfl ?_
  refine LW_goto (tgt := 1468) rfl rfl ?_
  exact K _ ⟨_, _, V, W⟩ hx
set_option maxRecDepth 10000 in
set_option maxHeartbeats 40000000 in
theorem vop_37 {g : LH} {L : Nat} {xs : Nat → Int32} {xi : Int32} {y : Int} (hi : xi.toInt = y) (hy : 0 ≤ y ∧ y + 6 ≤ (L : Int)) (hL : L ≤ 3072) (hx : Gx g = some (L, xs)) (hI : IB g) (K : ∀ g', IB g' → Gx g' = some (L, xs) → LW 322 100 0 0 1468 [some (.retAddr 0), some (.ref 0), some (.ref 355), some (.int xi)] [] g' (fun v _ => v = some (.int 1))) : LW 322 100 0 0 1419 [some (.retAddr 0), some (.ref 0), some (.ref 355), some (.int xi)] [] g (fun v _ => v = some (.int 1)) := by
  obtain ⟨n, m, V, W⟩ := hI
  refine X_aload_n rfl rfl rfl rfl ?_
  refine Y_callV (as := []) (st := []) rfl rfl rfl (by decide) rfl (Nat.le_of_ble_eq_true rfl) (by decide) (Nat.le_of_ble_eq_true rfl) rfl ((congrFun V.1 0).trans s_0) (by decide) (LW_gx (LW_room (Nat.le_refl _) (Nat.le_refl _) (show 0 + 15 ≤ 99 by decide) (C_X12_image (d := 0) V ))) ?_
  rintro _ g' ⟨⟨vr1, rfl, vV, vG⟩, vgx⟩
  have W := vIB_c vV W
  have V := vIB_s vV
  have hx := vgx.trans hx
  refine X_pop rfl rfl rfl ?_
  refine X_aload_n rfl rfl rfl rfl ?_
  refine Y_callV (as := []) (st := []) rfl rfl rfl (by decide) rfl (Nat.le_of_ble_eq_true rfl) (by decide) (Nat.le_of_ble_eq_true rfl) rfl ((congrFun V.1 355).trans s_355) (by decide) (LW_gx (LW_room (Nat.le_refl _) (Nat.le_refl _) (show 0 + 3 ≤ 99 by decide) (C_X13_image (d := 0) W ))) ?_
  rintro _ g' ⟨⟨vr2, rfl, vV, vG⟩, vgx⟩
  have V := vIB_r vV vG V
  have W := vIB_t vV
  have hx := vgx.trans hx
  refine X_pop rfl rfl rfl ?_
  refine LW_goto (tgt := 1468) rfl rfl ?_
  exact K _ ⟨_, _, V, W⟩ hx
set_option maxRecDepth 10000 in
set_option maxHeartbeats 40000000 in
theorem vop_38 {g : LH} {L : Nat} {xs : Nat → Int32} {xi : Int32} {y : Int} (hi : xi.toInt = y) (hy : 0 ≤ y ∧ y + 6 ≤ (L : Int)) (hL : L ≤ 3072) (hx : Gx g = some (L, xs)) (hI : IB g) (K : ∀ g', IB g' → Gx g' = some (L, xs) → LW 322 100 0 0 1468 [some (.retAddr 0), some (.ref 0), some (.ref 355), some (.int xi)] [] g' (fun v _ => v = some (.int 1))) : LW 322 100 0 0 1432 [some (.retAddr 0), some (.ref 0), some (.ref 355), some (.int xi)] [] g (fun v _ => v = some (.int 1)) := by
  obtain ⟨n, m, V, W⟩ := hI
  refine X_aload_n rfl rfl rfl rfl ?_
  refine Y_callV (as := []) (st := []) rfl rfl rfl (by decide) rfl (Nat.le_of_ble_eq_true rfl) (by decide) (Nat.le_of_ble_eq_true rfl) rfl ((congrFun V.1 0).trans s_0) (by decide) (LW_gx (LW_room (Nat.le_refl _) (Nat.le_refl _) (show 0 + 15 ≤ 99 by decide) (C_X12_back (d := 0) V ))) ?_
  rintro _ g' ⟨⟨vr1, rfl, vV, vG⟩, vgx⟩
  have W := vIB_c vV W
  have V := vIB_s vV
  have hx := vgx.trans hx
  refine X_pop rfl rfl rfl ?_
  refine X_aload_n rfl rfl rfl rfl ?_
  refine Y_callV (as := []) (st := []) rfl rfl rfl (by decide) rfl (Nat.le_of_ble_eq_true rfl) (by decide) (Nat.le_of_ble_eq_true rfl) rfl ((congrFun V.1 355).trans s_355) (by decide) (LW_gx (LW_room (Nat.le_refl _) (Nat.le_refl _) (show 0 + 3 ≤ 99 by decide) (C_X13_back (d := 0) W ))) ?_
  rintro _ g' ⟨⟨vr2, rfl, vV, vG⟩, vgx⟩
  have V := vIB_r vV vG V
  have W := vIB_t vV
  have hx := vgx.trans hx
  refine X_pop rfl rfl rfl ?_
  refine LW_goto (tgt := 1468) rfl rfl ?_
  exact K _ ⟨_, _, V, W⟩ hx
set_option maxRecDepth 10000 in
set_option maxHeartbeats 40000000 in
theorem vop_39 {g : LH} {L : Nat} {xs : Nat → Int32} {xi : Int32} {y : Int} (hi : xi.toInt = y) (hy : 0 ≤ y ∧ y + 6 ≤ (L : Int)) (hL : L ≤ 3072) (hx : Gx g = some (L, xs)) (hI : IB g) (K : ∀ g', IB g' → Gx g' = some (L, xs) → LW 322 100 0 0 1468 [some (.retAddr 0), some (.ref 0), some (.ref 355), some (.int xi)] [] g' (fun v _ => v = some (.int 1))) : LW 322 100 0 0 1445 [some (.retAddr 0), some (.ref 0), some (.ref 355), some (.int xi)] [] g (fun v _ => v = some (.int 1)) := by
  obtain ⟨n, m, V, W⟩ := hI
  refine X_aload_n rfl rfl rfl rfl ?_
  refine X_aload_nS rfl rfl rfl rfl ?_
  refine X_iload_n rfl rfl rfl rfl ?_
  refine X_iconst (v := (1 : Int32)) rfl rfl rfl ?_
  refine S_iadd rfl rfl hi (show (1 : Int32).toInt = 1 from rfl) (by omega) (fun vz1 hvz1 => ?_)
  refine vX_sld rfl rfl hx hvz1 (by omega) ?_
  refine Y_callV (as := [.int (xs (Int.toNat (y + 1)))]) (st := []) rfl rfl rfl (by decide) rfl (Nat.le_of_ble_eq_true rfl) (by decide) (Nat.le_of_ble_eq_true rfl) rfl ((congrFun V.1 0).trans s_0) (by decide) (LW_gx (LW_room (Nat.le_refl _) (Nat.le_refl _) (show 0 + 11 ≤ 99 by decide) (C_X12_about (d := 0) V (xs (Int.toNat (y + 1))) (xs (Int.toNat (y + 1))).toInt rfl))) ?_
  rintro _ g' ⟨⟨vr2, rfl, vgg⟩, vgx⟩
  subst vgg
  refine X_pop rfl rfl rfl ?_
  refine X_aload_n rfl rfl rfl rfl ?_
  refine X_aload_nS rfl rfl rfl rfl ?_
  refine X_iload_n rfl rfl rfl rfl ?_
  refine X_iconst (v := (1 : Int32)) rfl rfl rfl ?_
  refine S_iadd rfl rfl hi (show (1 : Int32).toInt = 1 from rfl) (by omega) (fun vz3 hvz3 => ?_)
  refine vX_sld rfl rfl hx hvz3 (by omega) ?_
  refine Y_callV (as := [.int (xs (Int.toNat (y + 1)))]) (st := []) rfl rfl rfl (by decide) rfl (Nat.le_of_ble_eq_true rfl) (by decide) (Nat.le_of_ble_eq_true rfl) rfl ((congrFun V.1 355).trans s_355) (by decide) (LW_gx (LW_room (Nat.le_refl _) (Nat.le_refl _) (show 0 + 8 ≤ 99 by decide) (C_X13_about (d := 0) W (xs (Int.toNat (y + 1))) (xs (Int.toNat (y + 1))).toInt rfl))) ?_
  rintro _ g' ⟨⟨vr4, rfl, vgg⟩, vgx⟩
  subst vgg
  refine X_pop rfl rfl rfl ?_
  refine LW_goto (tgt := 1468) rfl rfl ?_
  exact K _ ⟨_, _, V, W⟩ hx
