/-! the law, case by case -/
set_option maxRecDepth 10000 in
set_option maxHeartbeats 40000000 in
theorem law_0_in {g : LH} {xs : Nat → Int32} (F : Fc g) (E : Fr g) (hx : Gx g = some (6, xs)) {n b : Nat} (hn : n < 26) (hb : b < 26) (hne : b ≠ n) (hx1 : xs 1 = nI n) (hx2 : xs 2 = nI b) : LW 322 31 0 0 208 [some (.retAddr 0), some (.ref 0), some (.ref 355), some (.int (0 : Int32))] [] g (fun v _ => v = some (.int 1)) := by
  refine X_aload_n rfl rfl rfl rfl ?_
  refine X_aload_nS rfl rfl rfl rfl ?_
  refine X_iload_n rfl rfl rfl rfl ?_
  refine X_iconst (v := (1 : Int32)) rfl rfl rfl ?_
  refine X_iadd (v := (1 : Int32)) rfl rfl rfl ?_
  refine X_sld (v := (nI (n))) rfl rfl hx (vp_in_d rfl) hx1 ?_
  refine X_aload_nS rfl rfl rfl rfl ?_
  refine X_iload_n rfl rfl rfl rfl ?_
  refine X_iconst (v := (2 : Int32)) rfl rfl rfl ?_
  refine X_iadd (v := (2 : Int32)) rfl rfl rfl ?_
  refine X_sld (v := (nI (b))) rfl rfl hx (vp_in_d rfl) hx2 ?_
  refine Y_callV (as := [.int (nI (n)), .int (nI (b))]) (st := []) rfl rfl rfl (by decide) rfl (Nat.le_of_ble_eq_true rfl) (by decide) (Nat.le_of_ble_eq_true rfl) rfl ((congrFun F.1 0).trans s_0) (by decide) (LW_gx (c_tie_in F E hn hb hne)) ?_
  rintro _ g' ⟨⟨rfl, E'⟩, hx'⟩
  have hx := hx'.trans hx
  refine X_aload_n rfl rfl rfl rfl ?_
  refine X_aload_nS rfl rfl rfl rfl ?_
  refine X_iload_n rfl rfl rfl rfl ?_
  refine X_iconst (v := (1 : Int32)) rfl rfl rfl ?_
  refine X_iadd (v := (1 : Int32)) rfl rfl rfl ?_
  refine X_sld (v := (nI (n))) rfl rfl hx (vp_in_d rfl) hx1 ?_
  refine X_aload_nS rfl rfl rfl rfl ?_
  refine X_iload_n rfl rfl rfl rfl ?_
  refine X_iconst (v := (2 : Int32)) rfl rfl rfl ?_
  refine X_iadd (v := (2 : Int32)) rfl rfl rfl ?_
  refine X_sld (v := (nI (b))) rfl rfl hx (vp_in_d rfl) hx2 ?_
  refine Y_callV (as := [.int (nI (n)), .int (nI (b))]) (st := [.int (1 : Int32)]) rfl rfl rfl (by decide) rfl (Nat.le_of_ble_eq_true rfl) (by decide) (Nat.le_of_ble_eq_true rfl) rfl ((congrFun E'.1 355).trans s_355) (by decide) (LW_gx (r_tie_in E' hn hb hne)) ?_
  rintro _ g'' ⟨rfl, hx''⟩
  have hx := hx''.trans hx
  refine X_icmp_eq (tgt := 1468) rfl rfl rfl (fun _ => ?_) (fun q => absurd q (by decide))
  refine X_iinc (v := (6 : Int32)) (ls' := [some (.retAddr 0), some (.ref 0), some (.ref 355), some (.int (6 : Int32))]) rfl rfl rfl rfl rfl ?_
  refine LW_goto (tgt := 18) rfl rfl ?_
  refine X_iload_n rfl rfl rfl rfl ?_
  refine X_aload_nS rfl rfl rfl rfl ?_
  refine LW_slenX (v := (6 : Int32)) rfl rfl hx rfl ?_
  refine X_bipush (v := (6 : Int32)) rfl rfl rfl ?_
  refine X_isub (v := (0 : Int32)) rfl rfl rfl ?_
  refine X_icmp_gt (tgt := 1474) rfl rfl rfl (fun _ => ?_) (fun q => absurd q (by decide))
  refine X_iconst (v := (1 : Int32)) rfl rfl rfl ?_
  exact LW_ireturn (st := []) rfl rfl rfl rfl
set_option maxRecDepth 10000 in
set_option maxHeartbeats 40000000 in
theorem law_0_out {g : LH} {xs : Nat → Int32} (F : Fc g) (E : Fr g) (hx : Gx g = some (6, xs)) (hr : ¬ (0 ≤ (xs 1).toInt ∧ (xs 1).toInt ≤ 25 ∧ 0 ≤ (xs 2).toInt ∧ (xs 2).toInt ≤ 25 ∧ ¬ (xs 1).toInt = (xs 2).toInt)) : LW 322 31 0 0 208 [some (.retAddr 0), some (.ref 0), some (.ref 355), some (.int (0 : Int32))] [] g (fun v _ => v = some (.int 1)) := by
  refine X_aload_n rfl rfl rfl rfl ?_
  refine X_aload_nS rfl rfl rfl rfl ?_
  refine X_iload_n rfl rfl rfl rfl ?_
  refine X_iconst (v := (1 : Int32)) rfl rfl rfl ?_
  refine X_iadd (v := (1 : Int32)) rfl rfl rfl ?_
  refine X_sld (v := (xs 1)) rfl rfl hx (vp_in_d rfl) rfl ?_
  refine X_aload_nS rfl rfl rfl rfl ?_
  refine X_iload_n rfl rfl rfl rfl ?_
  refine X_iconst (v := (2 : Int32)) rfl rfl rfl ?_
  refine X_iadd (v := (2 : Int32)) rfl rfl rfl ?_
  refine X_sld (v := (xs 2)) rfl rfl hx (vp_in_d rfl) rfl ?_
  refine Y_callV (as := [.int (xs 1), .int (xs 2)]) (st := []) rfl rfl rfl (by decide) rfl (Nat.le_of_ble_eq_true rfl) (by decide) (Nat.le_of_ble_eq_true rfl) rfl ((congrFun F.1 0).trans s_0) (by decide) (LW_gx (c_tie_out F E (xs 1) (xs 2) hr)) ?_
  rintro _ g' ⟨⟨rfl, E'⟩, hx'⟩
  have hx := hx'.trans hx
  refine X_aload_n rfl rfl rfl rfl ?_
  refine X_aload_nS rfl rfl rfl rfl ?_
  refine X_iload_n rfl rfl rfl rfl ?_
  refine X_iconst (v := (1 : Int32)) rfl rfl rfl ?_
  refine X_iadd (v := (1 : Int32)) rfl rfl rfl ?_
  refine X_sld (v := (xs 1)) rfl rfl hx (vp_in_d rfl) rfl ?_
  refine X_aload_nS rfl rfl rfl rfl ?_
  refine X_iload_n rfl rfl rfl rfl ?_
  refine X_iconst (v := (2 : Int32)) rfl rfl rfl ?_
  refine X_iadd (v := (2 : Int32)) rfl rfl rfl ?_
  refine X_sld (v := (xs 2)) rfl rfl hx (vp_in_d rfl) rfl ?_
  refine Y_callV (as := [.int (xs 1), .int (xs 2)]) (st := [.int (0 : Int32)]) rfl rfl rfl (by decide) rfl (Nat.le_of_ble_eq_true rfl) (by decide) (Nat.le_of_ble_eq_true rfl) rfl ((congrFun E'.1 355).trans s_355) (by decide) (LW_gx (r_tie_out E' (xs 1) (xs 2) hr)) ?_
  rintro _ g'' ⟨rfl, hx''⟩
  have hx := hx''.trans hx
  refine X_icmp_eq (tgt := 1468) rfl rfl rfl (fun _ => ?_) (fun q => absurd q (by decide))
  refine X_iinc (v := (6 : Int32)) (ls' := [some (.retAddr 0), some (.ref 0), some (.ref 355), some (.int (6 : Int32))]) rfl rfl rfl rfl rfl ?_
  refine LW_goto (tgt := 18) rfl rfl ?_
  refine X_iload_n rfl rfl rfl rfl ?_
  refine X_aload_nS rfl rfl rfl rfl ?_
  refine LW_slenX (v := (6 : Int32)) rfl rfl hx rfl ?_
  refine X_bipush (v := (6 : Int32)) rfl rfl rfl ?_
  refine X_isub (v := (0 : Int32)) rfl rfl rfl ?_
  refine X_icmp_gt (tgt := 1474) rfl rfl rfl (fun _ => ?_) (fun q => absurd q (by decide))
  refine X_iconst (v := (1 : Int32)) rfl rfl rfl ?_
  exact LW_ireturn (st := []) rfl rfl rfl rfl
set_option maxRecDepth 10000 in
set_option maxHeartbeats 40000000 in
theorem law_1 {g : LH} {xs : Nat → Int32} (F : Fc g) (E : Fr g) (hx : Gx g = some (6, xs))  : LW 322 31 0 0 241 [some (.retAddr 0), some (.ref 0), some (.ref 355), some (.int (0 : Int32))] [] g (fun v _ => v = some (.int 1)) := by
  refine X_aload_n rfl rfl rfl rfl ?_
  refine X_aload_nS rfl rfl rfl rfl ?_
  refine X_iload_n rfl rfl rfl rfl ?_
  refine X_iconst (v := (1 : Int32)) rfl rfl rfl ?_
  refine X_iadd (v := (1 : Int32)) rfl rfl rfl ?_
  refine X_sld (v := (xs 1)) rfl rfl hx (vp_in_d rfl) rfl ?_
  refine X_aload_nS rfl rfl rfl rfl ?_
  refine X_iload_n rfl rfl rfl rfl ?_
  refine X_iconst (v := (2 : Int32)) rfl rfl rfl ?_
  refine X_iadd (v := (2 : Int32)) rfl rfl rfl ?_
  refine X_sld (v := (xs 2)) rfl rfl hx (vp_in_d rfl) rfl ?_
  refine X_aload_nS rfl rfl rfl rfl ?_
  refine X_iload_n rfl rfl rfl rfl ?_
  refine X_iconst (v := (3 : Int32)) rfl rfl rfl ?_
  refine X_iadd (v := (3 : Int32)) rfl rfl rfl ?_
  refine X_sld (v := (xs 3)) rfl rfl hx (vp_in_d rfl) rfl ?_
  refine Y_callV (as := [.int (xs 1), .int (xs 2), .int (xs 3)]) (st := []) rfl rfl rfl (by decide) rfl (Nat.le_of_ble_eq_true rfl) (by decide) (Nat.le_of_ble_eq_true rfl) rfl ((congrFun F.1 0).trans s_0) (by decide) (LW_gx (c_wordA F E (xs 1) (xs 2) (xs 3))) ?_
  rintro _ g' ⟨⟨rfl, E'⟩, hx'⟩
  have hx := hx'.trans hx
  refine X_aload_n rfl rfl rfl rfl ?_
  refine X_aload_nS rfl rfl rfl rfl ?_
  refine X_iload_n rfl rfl rfl rfl ?_
  refine X_iconst (v := (1 : Int32)) rfl rfl rfl ?_
  refine X_iadd (v := (1 : Int32)) rfl rfl rfl ?_
  refine X_sld (v := (xs 1)) rfl rfl hx (vp_in_d rfl) rfl ?_
  refine X_aload_nS rfl rfl rfl rfl ?_
  refine X_iload_n rfl rfl rfl rfl ?_
  refine X_iconst (v := (2 : Int32)) rfl rfl rfl ?_
  refine X_iadd (v := (2 : Int32)) rfl rfl rfl ?_
  refine X_sld (v := (xs 2)) rfl rfl hx (vp_in_d rfl) rfl ?_
  refine X_aload_nS rfl rfl rfl rfl ?_
  refine X_iload_n rfl rfl rfl rfl ?_
  refine X_iconst (v := (3 : Int32)) rfl rfl rfl ?_
  refine X_iadd (v := (3 : Int32)) rfl rfl rfl ?_
  refine X_sld (v := (xs 3)) rfl rfl hx (vp_in_d rfl) rfl ?_
  refine Y_callV (as := [.int (xs 1), .int (xs 2), .int (xs 3)]) (st := [.int (f_word (xs 1) (xs 2) (xs 3))]) rfl rfl rfl (by decide) rfl (Nat.le_of_ble_eq_true rfl) (by decide) (Nat.le_of_ble_eq_true rfl) rfl ((congrFun E'.1 355).trans s_355) (by decide) (LW_gx (r_wordA E' (xs 1) (xs 2) (xs 3))) ?_
  rintro _ g'' ⟨rfl, hx''⟩
  have hx := hx''.trans hx
  refine X_icmp_eq (tgt := 1468) rfl rfl rfl (fun _ => ?_) (fun q => absurd rfl q)
  refine X_iinc (v := (6 : Int32)) (ls' := [some (.retAddr 0), some (.ref 0), some (.ref 355), some (.int (6 : Int32))]) rfl rfl rfl rfl rfl ?_
  refine LW_goto (tgt := 18) rfl rfl ?_
  refine X_iload_n rfl rfl rfl rfl ?_
  refine X_aload_nS rfl rfl rfl rfl ?_
  refine LW_slenX (v := (6 : Int32)) rfl rfl hx rfl ?_
  refine X_bipush (v := (6 : Int32)) rfl rfl rfl ?_
  refine X_isub (v := (0 : Int32)) rfl rfl rfl ?_
  refine X_icmp_gt (tgt := 1474) rfl rfl rfl (fun _ => ?_) (fun q => absurd q (by decide))
  refine X_iconst (v := (1 : Int32)) rfl rfl rfl ?_
  exact LW_ireturn (st := []) rfl rfl rfl rfl
set_option maxRecDepth 10000 in
set_option maxHeartbeats 40000000 in
theorem law_2_in {g : LH} {xs : Nat → Int32} (F : Fc g) (E : Fr g) (hx : Gx g = some (6, xs)) {n : Nat} (h0 : 10 ≤ n) (hn : n ≤ 199999999) (hx1 : xs 1 = nI n) : LW 322 31 0 0 284 [some (.retAddr 0), some (.ref 0), some (.ref 355), some (.int (0 : Int32))] [] g (fun v _ => v = some (.int 1)) := by
  refine X_aload_n rfl rfl rfl rfl ?_
  refine X_aload_nS rfl rfl rfl rfl ?_
  refine X_iload_n rfl rfl rfl rfl ?_
  refine X_iconst (v := (1 : Int32)) rfl rfl rfl ?_
  refine X_iadd (v := (1 : Int32)) rfl rfl rfl ?_
  refine X_sld (v := (nI (n))) rfl rfl hx (vp_in_d rfl) hx1 ?_
  refine Y_callV (as := [.int (nI (n))]) (st := []) rfl rfl rfl (by decide) rfl (Nat.le_of_ble_eq_true rfl) (by decide) (Nat.le_of_ble_eq_true rfl) rfl ((congrFun F.1 0).trans s_0) (by decide) (LW_gx (c_saying_in F E h0 hn)) ?_
  rintro _ g' ⟨⟨rfl, E'⟩, hx'⟩
  have hx := hx'.trans hx
  refine X_aload_n rfl rfl rfl rfl ?_
  refine X_aload_nS rfl rfl rfl rfl ?_
  refine X_iload_n rfl rfl rfl rfl ?_
  refine X_iconst (v := (1 : Int32)) rfl rfl rfl ?_
  refine X_iadd (v := (1 : Int32)) rfl rfl rfl ?_
  refine X_sld (v := (nI (n))) rfl rfl hx (vp_in_d rfl) hx1 ?_
  refine Y_callV (as := [.int (nI (n))]) (st := [.int (f_sayN n)]) rfl rfl rfl (by decide) rfl (Nat.le_of_ble_eq_true rfl) (by decide) (Nat.le_of_ble_eq_true rfl) rfl ((congrFun E'.1 355).trans s_355) (by decide) (LW_gx (r_saying_in E' h0 hn)) ?_
  rintro _ g'' ⟨rfl, hx''⟩
  have hx := hx''.trans hx
  refine X_icmp_eq (tgt := 1468) rfl rfl rfl (fun _ => ?_) (fun q => absurd rfl q)
  refine X_iinc (v := (6 : Int32)) (ls' := [some (.retAddr 0), some (.ref 0), some (.ref 355), some (.int (6 : Int32))]) rfl rfl rfl rfl rfl ?_
  refine LW_goto (tgt := 18) rfl rfl ?_
  refine X_iload_n rfl rfl rfl rfl ?_
  refine X_aload_nS rfl rfl rfl rfl ?_
  refine LW_slenX (v := (6 : Int32)) rfl rfl hx rfl ?_
  refine X_bipush (v := (6 : Int32)) rfl rfl rfl ?_
  refine X_isub (v := (0 : Int32)) rfl rfl rfl ?_
  refine X_icmp_gt (tgt := 1474) rfl rfl rfl (fun _ => ?_) (fun q => absurd q (by decide))
  refine X_iconst (v := (1 : Int32)) rfl rfl rfl ?_
  exact LW_ireturn (st := []) rfl rfl rfl rfl
set_option maxRecDepth 10000 in
set_option maxHeartbeats 40000000 in
theorem law_2_out {g : LH} {xs : Nat → Int32} (F : Fc g) (E : Fr g) (hx : Gx g = some (6, xs)) (hr : ¬ (10 ≤ (xs 1).toInt ∧ (xs 1).toInt ≤ 199999999)) : LW 322 31 0 0 284 [some (.retAddr 0), some (.ref 0), some (.ref 355), some (.int (0 : Int32))] [] g (fun v _ => v = some (.int 1)) := by
  refine X_aload_n rfl rfl rfl rfl ?_
  refine X_aload_nS rfl rfl rfl rfl ?_
  refine X_iload_n rfl rfl rfl rfl ?_
  refine X_iconst (v := (1 : Int32)) rfl rfl rfl ?_
  refine X_iadd (v := (1 : Int32)) rfl rfl rfl ?_
  refine X_sld (v := (xs 1)) rfl rfl hx (vp_in_d rfl) rfl ?_
  refine Y_callV (as := [.int (xs 1)]) (st := []) rfl rfl rfl (by decide) rfl (Nat.le_of_ble_eq_true rfl) (by decide) (Nat.le_of_ble_eq_true rfl) rfl ((congrFun F.1 0).trans s_0) (by decide) (LW_gx (c_saying_out F E (xs 1) hr)) ?_
  rintro _ g' ⟨⟨rfl, E'⟩, hx'⟩
  have hx := hx'.trans hx
  refine X_aload_n rfl rfl rfl rfl ?_
  refine X_aload_nS rfl rfl rfl rfl ?_
  refine X_iload_n rfl rfl rfl rfl ?_
  refine X_iconst (v := (1 : Int32)) rfl rfl rfl ?_
  refine X_iadd (v := (1 : Int32)) rfl rfl rfl ?_
  refine X_sld (v := (xs 1)) rfl rfl hx (vp_in_d rfl) rfl ?_
  refine Y_callV (as := [.int (xs 1)]) (st := [.int (-1 : Int32)]) rfl rfl rfl (by decide) rfl (Nat.le_of_ble_eq_true rfl) (by decide) (Nat.le_of_ble_eq_true rfl) rfl ((congrFun E'.1 355).trans s_355) (by decide) (LW_gx (r_saying_out E' (xs 1) hr)) ?_
  rintro _ g'' ⟨rfl, hx''⟩
  have hx := hx''.trans hx
  refine X_icmp_eq (tgt := 1468) rfl rfl rfl (fun _ => ?_) (fun q => absurd q (by decide))
  refine X_iinc (v := (6 : Int32)) (ls' := [some (.retAddr 0), some (.ref 0), some (.ref 355), some (.int (6 : Int32))]) rfl rfl rfl rfl rfl ?_
  refine LW_goto (tgt := 18) rfl rfl ?_
  refine X_iload_n rfl rfl rfl rfl ?_
  refine X_aload_nS rfl rfl rfl rfl ?_
  refine LW_slenX (v := (6 : Int32)) rfl rfl hx rfl ?_
  refine X_bipush (v := (6 : Int32)) rfl rfl rfl ?_
  refine X_isub (v := (0 : Int32)) rfl rfl rfl ?_
  refine X_icmp_gt (tgt := 1474) rfl rfl rfl (fun _ => ?_) (fun q => absurd q (by decide))
  refine X_iconst (v := (1 : Int32)) rfl rfl rfl ?_
  exact LW_ireturn (st := []) rfl rfl rfl rfl
set_option maxRecDepth 10000 in
set_option maxHeartbeats 40000000 in
theorem law_3 {g : LH} {xs : Nat → Int32} (F : Fc g) (E : Fr g) (hx : Gx g = some (6, xs))  : LW 322 31 0 0 307 [some (.retAddr 0), some (.ref 0), some (.ref 355), some (.int (0 : Int32))] [] g (fun v _ => v = some (.int 1)) := by
  refine X_aload_n rfl rfl rfl rfl ?_
  refine X_aload_nS rfl rfl rfl rfl ?_
  refine X_iload_n rfl rfl rfl rfl ?_
  refine X_iconst (v := (1 : Int32)) rfl rfl rfl ?_
  refine X_iadd (v := (1 : Int32)) rfl rfl rfl ?_
  refine X_sld (v := (xs 1)) rfl rfl hx (vp_in_d rfl) rfl ?_
  refine X_aload_nS rfl rfl rfl rfl ?_
  refine X_iload_n rfl rfl rfl rfl ?_
  refine X_iconst (v := (2 : Int32)) rfl rfl rfl ?_
  refine X_iadd (v := (2 : Int32)) rfl rfl rfl ?_
  refine X_sld (v := (xs 2)) rfl rfl hx (vp_in_d rfl) rfl ?_
  refine X_aload_nS rfl rfl rfl rfl ?_
  refine X_iload_n rfl rfl rfl rfl ?_
  refine X_iconst (v := (3 : Int32)) rfl rfl rfl ?_
  refine X_iadd (v := (3 : Int32)) rfl rfl rfl ?_
  refine X_sld (v := (xs 3)) rfl rfl hx (vp_in_d rfl) rfl ?_
  refine X_aload_nS rfl rfl rfl rfl ?_
  refine X_iload_n rfl rfl rfl rfl ?_
  refine X_iconst (v := (4 : Int32)) rfl rfl rfl ?_
  refine X_iadd (v := (4 : Int32)) rfl rfl rfl ?_
  refine X_sld (v := (xs 4)) rfl rfl hx (vp_in_d rfl) rfl ?_
  refine X_aload_nS rfl rfl rfl rfl ?_
  refine X_iload_n rfl rfl rfl rfl ?_
  refine X_iconst (v := (5 : Int32)) rfl rfl rfl ?_
  refine X_iadd (v := (5 : Int32)) rfl rfl rfl ?_
  refine X_sld (v := (xs 5)) rfl rfl hx (vp_in_d rfl) rfl ?_
  refine Y_callV (as := [.int (xs 1), .int (xs 2), .int (xs 3), .int (xs 4), .int (xs 5)]) (st := []) rfl rfl rfl (by decide) rfl (Nat.le_of_ble_eq_true rfl) (by decide) (Nat.le_of_ble_eq_true rfl) rfl ((congrFun F.1 0).trans s_0) (by decide) (LW_gx (c_feed F E (xs 1) (xs 2) (xs 3) (xs 4) (xs 5))) ?_
  rintro _ g' ⟨⟨rfl, E'⟩, hx'⟩
  have hx := hx'.trans hx
  refine X_aload_n rfl rfl rfl rfl ?_
  refine X_aload_nS rfl rfl rfl rfl ?_
  refine X_iload_n rfl rfl rfl rfl ?_
  refine X_iconst (v := (1 : Int32)) rfl rfl rfl ?_
  refine X_iadd (v := (1 : Int32)) rfl rfl rfl ?_
  refine X_sld (v := (xs 1)) rfl rfl hx (vp_in_d rfl) rfl ?_
  refine X_aload_nS rfl rfl rfl rfl ?_
  refine X_iload_n rfl rfl rfl rfl ?_
  refine X_iconst (v := (2 : Int32)) rfl rfl rfl ?_
  refine X_iadd (v := (2 : Int32)) rfl rfl rfl ?_
  refine X_sld (v := (xs 2)) rfl rfl hx (vp_in_d rfl) rfl ?_
  refine X_aload_nS rfl rfl rfl rfl ?_
  refine X_iload_n rfl rfl rfl rfl ?_
  refine X_iconst (v := (3 : Int32)) rfl rfl rfl ?_
  refine X_iadd (v := (3 : Int32)) rfl rfl rfl ?_
  refine X_sld (v := (xs 3)) rfl rfl hx (vp_in_d rfl) rfl ?_
  refine X_aload_nS rfl rfl rfl rfl ?_
  refine X_iload_n rfl rfl rfl rfl ?_
  refine X_iconst (v := (4 : Int32)) rfl rfl rfl ?_
  refine X_iadd (v := (4 : Int32)) rfl rfl rfl ?_
  refine X_sld (v := (xs 4)) rfl rfl hx (vp_in_d rfl) rfl ?_
  refine X_aload_nS rfl rfl rfl rfl ?_
  refine X_iload_n rfl rfl rfl rfl ?_
  refine X_iconst (v := (5 : Int32)) rfl rfl rfl ?_
  refine X_iadd (v := (5 : Int32)) rfl rfl rfl ?_
  refine X_sld (v := (xs 5)) rfl rfl hx (vp_in_d rfl) rfl ?_
  refine Y_callV (as := [.int (xs 1), .int (xs 2), .int (xs 3), .int (xs 4), .int (xs 5)]) (st := [.int (f_feed (xs 1) (xs 2) (xs 3) (xs 4) (xs 5))]) rfl rfl rfl (by decide) rfl (Nat.le_of_ble_eq_true rfl) (by decide) (Nat.le_of_ble_eq_true rfl) rfl ((congrFun E'.1 355).trans s_355) (by decide) (LW_gx (r_feed E' (xs 1) (xs 2) (xs 3) (xs 4) (xs 5))) ?_
  rintro _ g'' ⟨rfl, hx''⟩
  have hx := hx''.trans hx
  refine X_icmp_eq (tgt := 1468) rfl rfl rfl (fun _ => ?_) (fun q => absurd rfl q)
  refine X_iinc (v := (6 : Int32)) (ls' := [some (.retAddr 0), some (.ref 0), some (.ref 355), some (.int (6 : Int32))]) rfl rfl rfl rfl rfl ?_
  refine LW_goto (tgt := 18) rfl rfl ?_
  refine X_iload_n rfl rfl rfl rfl ?_
  refine X_aload_nS rfl rfl rfl rfl ?_
  refine LW_slenX (v := (6 : Int32)) rfl rfl hx rfl ?_
  refine X_bipush (v := (6 : Int32)) rfl rfl rfl ?_
  refine X_isub (v := (0 : Int32)) rfl rfl rfl ?_
  refine X_icmp_gt (tgt := 1474) rfl rfl rfl (fun _ => ?_) (fun q => absurd q (by decide))
  refine X_iconst (v := (1 : Int32)) rfl rfl rfl ?_
  exact LW_ireturn (st := []) rfl rfl rfl rfl
set_option maxRecDepth 10000 in
set_option maxHeartbeats 40000000 in
theorem law_4 {g : LH} {xs : Nat → Int32} (F : Fc g) (E : Fr g) (hx : Gx g = some (6, xs))  : LW 322 31 0 0 370 [some (.retAddr 0), some (.ref 0), some (.ref 355), some (.int (0 : Int32))] [] g (fun v _ => v = some (.int 1)) := by
  refine X_aload_n rfl rfl rfl rfl ?_
  refine X_aload_nS rfl rfl rfl rfl ?_
  refine X_iload_n rfl rfl rfl rfl ?_
  refine X_iconst (v := (1 : Int32)) rfl rfl rfl ?_
  refine X_iadd (v := (1 : Int32)) rfl rfl rfl ?_
  refine X_sld (v := (xs 1)) rfl rfl hx (vp_in_d rfl) rfl ?_
  refine Y_callV (as := [.int (xs 1)]) (st := []) rfl rfl rfl (by decide) rfl (Nat.le_of_ble_eq_true rfl) (by decide) (Nat.le_of_ble_eq_true rfl) rfl ((congrFun F.1 0).trans s_0) (by decide) (LW_gx (c_end F E (xs 1))) ?_
  rintro _ g' ⟨⟨rfl, E'⟩, hx'⟩
  have hx := hx'.trans hx
  refine X_aload_n rfl rfl rfl rfl ?_
  refine X_aload_nS rfl rfl rfl rfl ?_
  refine X_iload_n rfl rfl rfl rfl ?_
  refine X_iconst (v := (1 : Int32)) rfl rfl rfl ?_
  refine X_iadd (v := (1 : Int32)) rfl rfl rfl ?_
  refine X_sld (v := (xs 1)) rfl rfl hx (vp_in_d rfl) rfl ?_
  refine Y_callV (as := [.int (xs 1)]) (st := [.int (f_end (xs 1))]) rfl rfl rfl (by decide) rfl (Nat.le_of_ble_eq_true rfl) (by decide) (Nat.le_of_ble_eq_true rfl) rfl ((congrFun E'.1 355).trans s_355) (by decide) (LW_gx (r_end E' (xs 1))) ?_
  rintro _ g'' ⟨rfl, hx''⟩
  have hx := hx''.trans hx
  refine X_icmp_eq (tgt := 1468) rfl rfl rfl (fun _ => ?_) (fun q => absurd rfl q)
  refine X_iinc (v := (6 : Int32)) (ls' := [some (.retAddr 0), some (.ref 0), some (.ref 355), some (.int (6 : Int32))]) rfl rfl rfl rfl rfl ?_
  refine LW_goto (tgt := 18) rfl rfl ?_
  refine X_iload_n rfl rfl rfl rfl ?_
  refine X_aload_nS rfl rfl rfl rfl ?_
  refine LW_slenX (v := (6 : Int32)) rfl rfl hx rfl ?_
  refine X_bipush (v := (6 : Int32)) rfl rfl rfl ?_
  refine X_isub (v := (0 : Int32)) rfl rfl rfl ?_
  refine X_icmp_gt (tgt := 1474) rfl rfl rfl (fun _ => ?_) (fun q => absurd q (by decide))
  refine X_iconst (v := (1 : Int32)) rfl rfl rfl ?_
  exact LW_ireturn (st := []) rfl rfl rfl rfl
set_option maxRecDepth 10000 in
set_option maxHeartbeats 40000000 in
theorem law_5 {g : LH} {xs : Nat → Int32} (F : Fc g) (E : Fr g) (hx : Gx g = some (6, xs))  : LW 322 31 0 0 393 [some (.retAddr 0), some (.ref 0), some (.ref 355), some (.int (0 : Int32))] [] g (fun v _ => v = some (.int 1)) := by
  refine X_aload_n rfl rfl rfl rfl ?_
  refine Y_callV (as := []) (st := []) rfl rfl rfl (by decide) rfl (Nat.le_of_ble_eq_true rfl) (by decide) (Nat.le_of_ble_eq_true rfl) rfl ((congrFun F.1 0).trans s_0) (by decide) (LW_gx (c_text F E)) ?_
  rintro _ g' ⟨⟨rfl, E'⟩, hx'⟩
  have hx := hx'.trans hx
  refine X_aload_n rfl rfl rfl rfl ?_
  refine Y_callV (as := []) (st := [.int (f_text)]) rfl rfl rfl (by decide) rfl (Nat.le_of_ble_eq_true rfl) (by decide) (Nat.le_of_ble_eq_true rfl) rfl ((congrFun E'.1 355).trans s_355) (by decide) (LW_gx (r_text E')) ?_
  rintro _ g'' ⟨rfl, hx''⟩
  have hx := hx''.trans hx
  refine X_icmp_eq (tgt := 1468) rfl rfl rfl (fun _ => ?_) (fun q => absurd rfl q)
  refine X_iinc (v := (6 : Int32)) (ls' := [some (.retAddr 0), some (.ref 0), some (.ref 355), some (.int (6 : Int32))]) rfl rfl rfl rfl rfl ?_
  refine LW_goto (tgt := 18) rfl rfl ?_
  refine X_iload_n rfl rfl rfl rfl ?_
  refine X_aload_nS rfl rfl rfl rfl ?_
  refine LW_slenX (v := (6 : Int32)) rfl rfl hx rfl ?_
  refine X_bipush (v := (6 : Int32)) rfl rfl rfl ?_
  refine X_isub (v := (0 : Int32)) rfl rfl rfl ?_
  refine X_icmp_gt (tgt := 1474) rfl rfl rfl (fun _ => ?_) (fun q => absurd q (by decide))
  refine X_iconst (v := (1 : Int32)) rfl rfl rfl ?_
  exact LW_ireturn (st := []) rfl rfl rfl rfl
set_option maxRecDepth 10000 in
set_option maxHeartbeats 40000000 in
theorem law_6 {g : LH} {xs : Nat → Int32} (F : Fc g) (E : Fr g) (hx : Gx g = some (6, xs))  : LW 322 31 0 0 406 [some (.retAddr 0), some (.ref 0), some (.ref 355), some (.int (0 : Int32))] [] g (fun v _ => v = some (.int 1)) := by
  refine X_aload_n rfl rfl rfl rfl ?_
  refine X_aload_nS rfl rfl rfl rfl ?_
  refine X_iload_n rfl rfl rfl rfl ?_
  refine X_iconst (v := (1 : Int32)) rfl rfl rfl ?_
  refine X_iadd (v := (1 : Int32)) rfl rfl rfl ?_
  refine X_sld (v := (xs 1)) rfl rfl hx (vp_in_d rfl) rfl ?_
  refine Y_callV (as := [.int (xs 1)]) (st := []) rfl rfl rfl (by decide) rfl (Nat.le_of_ble_eq_true rfl) (by decide) (Nat.le_of_ble_eq_true rfl) rfl ((congrFun F.1 0).trans s_0) (by decide) (LW_gx (c_fault F E (xs 1))) ?_
  rintro _ g' ⟨⟨rfl, E'⟩, hx'⟩
  have hx := hx'.trans hx
  refine X_aload_n rfl rfl rfl rfl ?_
  refine X_aload_nS rfl rfl rfl rfl ?_
  refine X_iload_n rfl rfl rfl rfl ?_
  refine X_iconst (v := (1 : Int32)) rfl rfl rfl ?_
  refine X_iadd (v := (1 : Int32)) rfl rfl rfl ?_
  refine X_sld (v := (xs 1)) rfl rfl hx (vp_in_d rfl) rfl ?_
  refine Y_callV (as := [.int (xs 1)]) (st := [.int (f_fault (xs 1))]) rfl rfl rfl (by decide) rfl (Nat.le_of_ble_eq_true rfl) (by decide) (Nat.le_of_ble_eq_true rfl) rfl ((congrFun E'.1 355).trans s_355) (by decide) (LW_gx (r_fault E' (xs 1))) ?_
  rintro _ g'' ⟨rfl, hx''⟩
  have hx := hx''.trans hx
  refine X_icmp_eq (tgt := 1468) rfl rfl rfl (fun _ => ?_) (fun q => absurd rfl q)
  refine X_iinc (v := (6 : Int32)) (ls' := [some (.retAddr 0), some (.ref 0), some (.ref 355), some (.int (6 : Int32))]) rfl rfl rfl rfl rfl ?_
  refine LW_goto (tgt := 18) rfl rfl ?_
  refine X_iload_n rfl rfl rfl rfl ?_
  refine X_aload_nS rfl rfl rfl rfl ?_
  refine LW_slenX (v := (6 : Int32)) rfl rfl hx rfl ?_
  refine X_bipush (v := (6 : Int32)) rfl rfl rfl ?_
  refine X_isub (v := (0 : Int32)) rfl rfl rfl ?_
  refine X_icmp_gt (tgt := 1474) rfl rfl rfl (fun _ => ?_) (fun q => absurd q (by decide))
  refine X_iconst (v := (1 : Int32)) rfl rfl rfl ?_
  exact LW_ireturn (st := []) rfl rfl rfl rfl
set_option maxRecDepth 10000 in
set_option maxHeartbeats 40000000 in
theorem law_7 {g : LH} {xs : Nat → Int32} (F : Fc g) (E : Fr g) (hx : Gx g = some (6, xs))  : LW 322 31 0 0 429 [some (.retAddr 0), some (.ref 0), some (.ref 355), some (.int (0 : Int32))] [] g (fun v _ => v = some (.int 1)) := by
  refine X_aload_n rfl rfl rfl rfl ?_
  refine X_aload_nS rfl rfl rfl rfl ?_
  refine X_iload_n rfl rfl rfl rfl ?_
  refine X_iconst (v := (1 : Int32)) rfl rfl rfl ?_
  refine X_iadd (v := (1 : Int32)) rfl rfl rfl ?_
  refine X_sld (v := (xs 1)) rfl rfl hx (vp_in_d rfl) rfl ?_
  refine Y_callV (as := [.int (xs 1)]) (st := []) rfl rfl rfl (by decide) rfl (Nat.le_of_ble_eq_true rfl) (by decide) (Nat.le_of_ble_eq_true rfl) rfl ((congrFun F.1 0).trans s_0) (by decide) (LW_gx (c_by F E (xs 1))) ?_
  rintro _ g' ⟨⟨rfl, E'⟩, hx'⟩
  have hx := hx'.trans hx
  refine X_aload_n rfl rfl rfl rfl ?_
  refine X_aload_nS rfl rfl rfl rfl ?_
  refine X_iload_n rfl rfl rfl rfl ?_
  refine X_iconst (v := (1 : Int32)) rfl rfl rfl ?_
  refine X_iadd (v := (1 : Int32)) rfl rfl rfl ?_
  refine X_sld (v := (xs 1)) rfl rfl hx (vp_in_d rfl) rfl ?_
  refine Y_callV (as := [.int (xs 1)]) (st := [.int (f_by (xs 1))]) rfl rfl rfl (by decide) rfl (Nat.le_of_ble_eq_true rfl) (by decide) (Nat.le_of_ble_eq_true rfl) rfl ((congrFun E'.1 355).trans s_355) (by decide) (LW_gx (r_by E' (xs 1))) ?_
  rintro _ g'' ⟨rfl, hx''⟩
  have hx := hx''.trans hx
  refine X_icmp_eq (tgt := 1468) rfl rfl rfl (fun _ => ?_) (fun q => absurd rfl q)
  refine X_iinc (v := (6 : Int32)) (ls' := [some (.retAddr 0), some (.ref 0), some (.ref 355), some (.int (6 : Int32))]) rfl rfl rfl rfl rfl ?_
  refine LW_goto (tgt := 18) rfl rfl ?_
  refine X_iload_n rfl rfl rfl rfl ?_
  refine X_aload_nS rfl rfl rfl rfl ?_
  refine LW_slenX (v := (6 : Int32)) rfl rfl hx rfl ?_
  refine X_bipush (v := (6 : Int32)) rfl rfl rfl ?_
  refine X_isub (v := (0 : Int32)) rfl rfl rfl ?_
  refine X_icmp_gt (tgt := 1474) rfl rfl rfl (fun _ => ?_) (fun q => absurd q (by decide))
  refine X_iconst (v := (1 : Int32)) rfl rfl rfl ?_
  exact LW_ireturn (st := []) rfl rfl rfl rfl
set_option maxRecDepth 10000 in
set_option maxHeartbeats 40000000 in
theorem law_13 {g : LH} {xs : Nat → Int32} (F : Fc g) (E : Fr g) (hx : Gx g = some (6, xs))  : LW 322 31 0 0 587 [some (.retAddr 0), some (.ref 0), some (.ref 355), some (.int (0 : Int32))] [] g (fun v _ => v = some (.int 1)) := by
  refine X_aload_n rfl rfl rfl rfl ?_
  refine X_aload_nS rfl rfl rfl rfl ?_
  refine X_iload_n rfl rfl rfl rfl ?_
  refine X_iconst (v := (1 : Int32)) rfl rfl rfl ?_
  refine X_iadd (v := (1 : Int32)) rfl rfl rfl ?_
  refine X_sld (v := (xs 1)) rfl rfl hx (vp_in_d rfl) rfl ?_
  refine Y_callV (as := [.int (xs 1)]) (st := []) rfl rfl rfl (by decide) rfl (Nat.le_of_ble_eq_true rfl) (by decide) (Nat.le_of_ble_eq_true rfl) rfl ((congrFun F.1 0).trans s_0) (by decide) (LW_gx (c_contract F E (xs 1))) ?_
  rintro _ g' ⟨⟨rfl, E'⟩, hx'⟩
  have hx := hx'.trans hx
  refine X_aload_n rfl rfl rfl rfl ?_
  refine X_aload_nS rfl rfl rfl rfl ?_
  refine X_iload_n rfl rfl rfl rfl ?_
  refine X_iconst (v := (1 : Int32)) rfl rfl rfl ?_
  refine X_iadd (v := (1 : Int32)) rfl rfl rfl ?_
  refine X_sld (v := (xs 1)) rfl rfl hx (vp_in_d rfl) rfl ?_
  refine Y_callV (as := [.int (xs 1)]) (st := [.int (f_contract (xs 1))]) rfl rfl rfl (by decide) rfl (Nat.le_of_ble_eq_true rfl) (by decide) (Nat.le_of_ble_eq_true rfl) rfl ((congrFun E'.1 355).trans s_355) (by decide) (LW_gx (r_contract E' (xs 1))) ?_
  rintro _ g'' ⟨rfl, hx''⟩
  have hx := hx''.trans hx
  refine X_icmp_eq (tgt := 1468) rfl rfl rfl (fun _ => ?_) (fun q => absurd rfl q)
  refine X_iinc (v := (6 : Int32)) (ls' := [some (.retAddr 0), some (.ref 0), some (.ref 355), some (.int (6 : Int32))]) rfl rfl rfl rfl rfl ?_
  refine LW_goto (tgt := 18) rfl rfl ?_
  refine X_iload_n rfl rfl rfl rfl ?_
  refine X_aload_nS rfl rfl rfl rfl ?_
  refine LW_slenX (v := (6 : Int32)) rfl rfl hx rfl ?_
  refine X_bipush (v := (6 : Int32)) rfl rfl rfl ?_
  refine X_isub (v := (0 : Int32)) rfl rfl rfl ?_
  refine X_icmp_gt (tgt := 1474) rfl rfl rfl (fun _ => ?_) (fun q => absurd q (by decide))
  refine X_iconst (v := (1 : Int32)) rfl rfl rfl ?_
  exact LW_ireturn (st := []) rfl rfl rfl rfl
set_option maxRecDepth 10000 in
set_option maxHeartbeats 40000000 in
theorem law_14 {g : LH} {xs : Nat → Int32} (F : Fc g) (E : Fr g) (hx : Gx g = some (6, xs))  : LW 322 31 0 0 610 [some (.retAddr 0), some (.ref 0), some (.ref 355), some (.int (0 : Int32))] [] g (fun v _ => v = some (.int 1)) := by
  refine X_aload_n rfl rfl rfl rfl ?_
  refine X_aload_nS rfl rfl rfl rfl ?_
  refine X_iload_n rfl rfl rfl rfl ?_
  refine X_iconst (v := (1 : Int32)) rfl rfl rfl ?_
  refine X_iadd (v := (1 : Int32)) rfl rfl rfl ?_
  refine X_sld (v := (xs 1)) rfl rfl hx (vp_in_d rfl) rfl ?_
  refine Y_callV (as := [.int (xs 1)]) (st := []) rfl rfl rfl (by decide) rfl (Nat.le_of_ble_eq_true rfl) (by decide) (Nat.le_of_ble_eq_true rfl) rfl ((congrFun F.1 0).trans s_0) (by decide) (LW_gx (c_played F E (xs 1))) ?_
  rintro _ g' ⟨⟨rfl, E'⟩, hx'⟩
  have hx := hx'.trans hx
  refine X_aload_n rfl rfl rfl rfl ?_
  refine X_aload_nS rfl rfl rfl rfl ?_
  refine X_iload_n rfl rfl rfl rfl ?_
  refine X_iconst (v := (1 : Int32)) rfl rfl rfl ?_
  refine X_iadd (v := (1 : Int32)) rfl rfl rfl ?_
  refine X_sld (v := (xs 1)) rfl rfl hx (vp_in_d rfl) rfl ?_
  refine Y_callV (as := [.int (xs 1)]) (st := [.int (f_played (xs 1))]) rfl rfl rfl (by decide) rfl (Nat.le_of_ble_eq_true rfl) (by decide) (Nat.le_of_ble_eq_true rfl) rfl ((congrFun E'.1 355).trans s_355) (by decide) (LW_gx (r_played E' (xs 1))) ?_
  rintro _ g'' ⟨rfl, hx''⟩
  have hx := hx''.trans hx
  refine X_icmp_eq (tgt := 1468) rfl rfl rfl (fun _ => ?_) (fun q => absurd rfl q)
  refine X_iinc (v := (6 : Int32)) (ls' := [some (.retAddr 0), some (.ref 0), some (.ref 355), some (.int (6 : Int32))]) rfl rfl rfl rfl rfl ?_
  refine LW_goto (tgt := 18) rfl rfl ?_
  refine X_iload_n rfl rfl rfl rfl ?_
  refine X_aload_nS rfl rfl rfl rfl ?_
  refine LW_slenX (v := (6 : Int32)) rfl rfl hx rfl ?_
  refine X_bipush (v := (6 : Int32)) rfl rfl rfl ?_
  refine X_isub (v := (0 : Int32)) rfl rfl rfl ?_
  refine X_icmp_gt (tgt := 1474) rfl rfl rfl (fun _ => ?_) (fun q => absurd q (by decide))
  refine X_iconst (v := (1 : Int32)) rfl rfl rfl ?_
  exact LW_ireturn (st := []) rfl rfl rfl rfl
set_option maxRecDepth 10000 in
set_option maxHeartbeats 40000000 in
theorem law_16 {g : LH} {xs : Nat → Int32} (F : Fc g) (E : Fr g) (hx : Gx g = some (6, xs))  : LW 322 31 0 0 666 [some (.retAddr 0), some (.ref 0), some (.ref 355), some (.int (0 : Int32))] [] g (fun v _ => v = some (.int 1)) := by
  refine X_aload_n rfl rfl rfl rfl ?_
  refine Y_callV (as := []) (st := []) rfl rfl rfl (by decide) rfl (Nat.le_of_ble_eq_true rfl) (by decide) (Nat.le_of_ble_eq_true rfl) rfl ((congrFun F.1 0).trans s_0) (by decide) (LW_gx (c_undo F E)) ?_
  rintro _ g' ⟨⟨rfl, E'⟩, hx'⟩
  have hx := hx'.trans hx
  refine X_aload_n rfl rfl rfl rfl ?_
  refine Y_callV (as := []) (st := [.int (f_undo)]) rfl rfl rfl (by decide) rfl (Nat.le_of_ble_eq_true rfl) (by decide) (Nat.le_of_ble_eq_true rfl) rfl ((congrFun E'.1 355).trans s_355) (by decide) (LW_gx (r_undo E')) ?_
  rintro _ g'' ⟨rfl, hx''⟩
  have hx := hx''.trans hx
  refine X_icmp_eq (tgt := 1468) rfl rfl rfl (fun _ => ?_) (fun q => absurd rfl q)
  refine X_iinc (v := (6 : Int32)) (ls' := [some (.retAddr 0), some (.ref 0), some (.ref 355), some (.int (6 : Int32))]) rfl rfl rfl rfl rfl ?_
  refine LW_goto (tgt := 18) rfl rfl ?_
  refine X_iload_n rfl rfl rfl rfl ?_
  refine X_aload_nS rfl rfl rfl rfl ?_
  refine LW_slenX (v := (6 : Int32)) rfl rfl hx rfl ?_
  refine X_bipush (v := (6 : Int32)) rfl rfl rfl ?_
  refine X_isub (v := (0 : Int32)) rfl rfl rfl ?_
  refine X_icmp_gt (tgt := 1474) rfl rfl rfl (fun _ => ?_) (fun q => absurd q (by decide))
  refine X_iconst (v := (1 : Int32)) rfl rfl rfl ?_
  exact LW_ireturn (st := []) rfl rfl rfl rfl
set_option maxRecDepth 10000 in
set_option maxHeartbeats 40000000 in
theorem law_18 {g : LH} {xs : Nat → Int32} (F : Fc g) (E : Fr g) (hx : Gx g = some (6, xs))  : LW 322 31 0 0 712 [some (.retAddr 0), some (.ref 0), some (.ref 355), some (.int (0 : Int32))] [] g (fun v _ => v = some (.int 1)) := by
  refine X_aload_n rfl rfl rfl rfl ?_
  refine X_aload_nS rfl rfl rfl rfl ?_
  refine X_iload_n rfl rfl rfl rfl ?_
  refine X_iconst (v := (1 : Int32)) rfl rfl rfl ?_
  refine X_iadd (v := (1 : Int32)) rfl rfl rfl ?_
  refine X_sld (v := (xs 1)) rfl rfl hx (vp_in_d rfl) rfl ?_
  refine X_aload_nS rfl rfl rfl rfl ?_
  refine X_iload_n rfl rfl rfl rfl ?_
  refine X_iconst (v := (2 : Int32)) rfl rfl rfl ?_
  refine X_iadd (v := (2 : Int32)) rfl rfl rfl ?_
  refine X_sld (v := (xs 2)) rfl rfl hx (vp_in_d rfl) rfl ?_
  refine Y_callV (as := [.int (xs 1), .int (xs 2)]) (st := []) rfl rfl rfl (by decide) rfl (Nat.le_of_ble_eq_true rfl) (by decide) (Nat.le_of_ble_eq_true rfl) rfl ((congrFun F.1 0).trans s_0) (by decide) (LW_gx (c_ofWord F E (xs 1) (xs 2))) ?_
  rintro _ g' ⟨⟨rfl, E'⟩, hx'⟩
  have hx := hx'.trans hx
  refine X_aload_n rfl rfl rfl rfl ?_
  refine X_aload_nS rfl rfl rfl rfl ?_
  refine X_iload_n rfl rfl rfl rfl ?_
  refine X_iconst (v := (1 : Int32)) rfl rfl rfl ?_
  refine X_iadd (v := (1 : Int32)) rfl rfl rfl ?_
  refine X_sld (v := (xs 1)) rfl rfl hx (vp_in_d rfl) rfl ?_
  refine X_aload_nS rfl rfl rfl rfl ?_
  refine X_iload_n rfl rfl rfl rfl ?_
  refine X_iconst (v := (2 : Int32)) rfl rfl rfl ?_
  refine X_iadd (v := (2 : Int32)) rfl rfl rfl ?_
  refine X_sld (v := (xs 2)) rfl rfl hx (vp_in_d rfl) rfl ?_
  refine Y_callV (as := [.int (xs 1), .int (xs 2)]) (st := [.int (f_ofWord (xs 1) (xs 2))]) rfl rfl rfl (by decide) rfl (Nat.le_of_ble_eq_true rfl) (by decide) (Nat.le_of_ble_eq_true rfl) rfl ((congrFun E'.1 355).trans s_355) (by decide) (LW_gx (r_ofWord E' (xs 1) (xs 2))) ?_
  rintro _ g'' ⟨rfl, hx''⟩
  have hx := hx''.trans hx
  refine X_icmp_eq (tgt := 1468) rfl rfl rfl (fun _ => ?_) (fun q => absurd rfl q)
  refine X_iinc (v := (6 : Int32)) (ls' := [some (.retAddr 0), some (.ref 0), some (.ref 355), some (.int (6 : Int32))]) rfl rfl rfl rfl rfl ?_
  refine LW_goto (tgt := 18) rfl rfl ?_
  refine X_iload_n rfl rfl rfl rfl ?_
  refine X_aload_nS rfl rfl rfl rfl ?_
  refine LW_slenX (v := (6 : Int32)) rfl rfl hx rfl ?_
  refine X_bipush (v := (6 : Int32)) rfl rfl rfl ?_
  refine X_isub (v := (0 : Int32)) rfl rfl rfl ?_
  refine X_icmp_gt (tgt := 1474) rfl rfl rfl (fun _ => ?_) (fun q => absurd q (by decide))
  refine X_iconst (v := (1 : Int32)) rfl rfl rfl ?_
  exact LW_ireturn (st := []) rfl rfl rfl rfl
set_option maxRecDepth 10000 in
set_option maxHeartbeats 40000000 in
theorem law_19 {g : LH} {xs : Nat → Int32} (F : Fc g) (E : Fr g) (hx : Gx g = some (6, xs))  : LW 322 31 0 0 745 [some (.retAddr 0), some (.ref 0), some (.ref 355), some (.int (0 : Int32))] [] g (fun v _ => v = some (.int 1)) := by
  refine X_aload_n rfl rfl rfl rfl ?_
  refine X_aload_nS rfl rfl rfl rfl ?_
  refine X_iload_n rfl rfl rfl rfl ?_
  refine X_iconst (v := (1 : Int32)) rfl rfl rfl ?_
  refine X_iadd (v := (1 : Int32)) rfl rfl rfl ?_
  refine X_sld (v := (xs 1)) rfl rfl hx (vp_in_d rfl) rfl ?_
  refine X_aload_nS rfl rfl rfl rfl ?_
  refine X_iload_n rfl rfl rfl rfl ?_
  refine X_iconst (v := (2 : Int32)) rfl rfl rfl ?_
  refine X_iadd (v := (2 : Int32)) rfl rfl rfl ?_
  refine X_sld (v := (xs 2)) rfl rfl hx (vp_in_d rfl) rfl ?_
  refine Y_callV (as := [.int (xs 1), .int (xs 2)]) (st := []) rfl rfl rfl (by decide) rfl (Nat.le_of_ble_eq_true rfl) (by decide) (Nat.le_of_ble_eq_true rfl) rfl ((congrFun F.1 0).trans s_0) (by decide) (LW_gx (c_ofSaying F E (xs 1) (xs 2))) ?_
  rintro _ g' ⟨⟨rfl, E'⟩, hx'⟩
  have hx := hx'.trans hx
  refine X_aload_n rfl rfl rfl rfl ?_
  refine X_aload_nS rfl rfl rfl rfl ?_
  refine X_iload_n rfl rfl rfl rfl ?_
  refine X_iconst (v := (1 : Int32)) rfl rfl rfl ?_
  refine X_iadd (v := (1 : Int32)) rfl rfl rfl ?_
  refine X_sld (v := (xs 1)) rfl rfl hx (vp_in_d rfl) rfl ?_
  refine X_aload_nS rfl rfl rfl rfl ?_
  refine X_iload_n rfl rfl rfl rfl ?_
  refine X_iconst (v := (2 : Int32)) rfl rfl rfl ?_
  refine X_iadd (v := (2 : Int32)) rfl rfl rfl ?_
  refine X_sld (v := (xs 2)) rfl rfl hx (vp_in_d rfl) rfl ?_
  refine Y_callV (as := [.int (xs 1), .int (xs 2)]) (st := [.int (f_ofSaying (xs 1) (xs 2))]) rfl rfl rfl (by decide) rfl (Nat.le_of_ble_eq_true rfl) (by decide) (Nat.le_of_ble_eq_true rfl) rfl ((congrFun E'.1 355).trans s_355) (by decide) (LW_gx (r_ofSaying E' (xs 1) (xs 2))) ?_
  rintro _ g'' ⟨rfl, hx''⟩
  have hx := hx''.trans hx
  refine X_icmp_eq (tgt := 1468) rfl rfl rfl (fun _ => ?_) (fun q => absurd rfl q)
  refine X_iinc (v := (6 : Int32)) (ls' := [some (.retAddr 0), some (.ref 0), some (.ref 355), some (.int (6 : Int32))]) rfl rfl rfl rfl rfl ?_
  refine LW_goto (tgt := 18) rfl rfl ?_
  refine X_iload_n rfl rfl rfl rfl ?_
  refine X_aload_nS rfl rfl rfl rfl ?_
  refine LW_slenX (v := (6 : Int32)) rfl rfl hx rfl ?_
  refine X_bipush (v := (6 : Int32)) rfl rfl rfl ?_
  refine X_isub (v := (0 : Int32)) rfl rfl rfl ?_
  refine X_icmp_gt (tgt := 1474) rfl rfl rfl (fun _ => ?_) (fun q => absurd q (by decide))
  refine X_iconst (v := (1 : Int32)) rfl rfl rfl ?_
  exact LW_ireturn (st := []) rfl rfl rfl rfl
set_option maxRecDepth 10000 in
set_option maxHeartbeats 40000000 in
theorem law_20 {g : LH} {xs : Nat → Int32} (F : Fc g) (E : Fr g) (hx : Gx g = some (6, xs))  : LW 322 31 0 0 778 [some (.retAddr 0), some (.ref 0), some (.ref 355), some (.int (0 : Int32))] [] g (fun v _ => v = some (.int 1)) := by
  refine X_aload_n rfl rfl rfl rfl ?_
  refine X_aload_nS rfl rfl rfl rfl ?_
  refine X_iload_n rfl rfl rfl rfl ?_
  refine X_iconst (v := (1 : Int32)) rfl rfl rfl ?_
  refine X_iadd (v := (1 : Int32)) rfl rfl rfl ?_
  refine X_sld (v := (xs 1)) rfl rfl hx (vp_in_d rfl) rfl ?_
  refine X_aload_nS rfl rfl rfl rfl ?_
  refine X_iload_n rfl rfl rfl rfl ?_
  refine X_iconst (v := (2 : Int32)) rfl rfl rfl ?_
  refine X_iadd (v := (2 : Int32)) rfl rfl rfl ?_
  refine X_sld (v := (xs 2)) rfl rfl hx (vp_in_d rfl) rfl ?_
  refine Y_callV (as := [.int (xs 1), .int (xs 2)]) (st := []) rfl rfl rfl (by decide) rfl (Nat.le_of_ble_eq_true rfl) (by decide) (Nat.le_of_ble_eq_true rfl) rfl ((congrFun F.1 0).trans s_0) (by decide) (LW_gx (c_mistaken F E (xs 1) (xs 2))) ?_
  rintro _ g' ⟨⟨rfl, E'⟩, hx'⟩
  have hx := hx'.trans hx
  refine X_aload_n rfl rfl rfl rfl ?_
  refine X_aload_nS rfl rfl rfl rfl ?_
  refine X_iload_n rfl rfl rfl rfl ?_
  refine X_iconst (v := (1 : Int32)) rfl rfl rfl ?_
  refine X_iadd (v := (1 : Int32)) rfl rfl rfl ?_
  refine X_sld (v := (xs 1)) rfl rfl hx (vp_in_d rfl) rfl ?_
  refine X_aload_nS rfl rfl rfl rfl ?_
  refine X_iload_n rfl rfl rfl rfl ?_
  refine X_iconst (v := (2 : Int32)) rfl rfl rfl ?_
  refine X_iadd (v := (2 : Int32)) rfl rfl rfl ?_
  refine X_sld (v := (xs 2)) rfl rfl hx (vp_in_d rfl) rfl ?_
  refine Y_callV (as := [.int (xs 1), .int (xs 2)]) (st := [.int (f_mistaken (xs 1) (xs 2))]) rfl rfl rfl (by decide) rfl (Nat.le_of_ble_eq_true rfl) (by decide) (Nat.le_of_ble_eq_true rfl) rfl ((congrFun E'.1 355).trans s_355) (by decide) (LW_gx (r_mistaken E' (xs 1) (xs 2))) ?_
  rintro _ g'' ⟨rfl, hx''⟩
  have hx := hx''.trans hx
  refine X_icmp_eq (tgt := 1468) rfl rfl rfl (fun _ => ?_) (fun q => absurd rfl q)
  refine X_iinc (v := (6 : Int32)) (ls' := [some (.retAddr 0), some (.ref 0), some (.ref 355), some (.int (6 : Int32))]) rfl rfl rfl rfl rfl ?_
  refine LW_goto (tgt := 18) rfl rfl ?_
  refine X_iload_n rfl rfl rfl rfl ?_
  refine X_aload_nS rfl rfl rfl rfl ?_
  refine LW_slenX (v := (6 : Int32)) rfl rfl hx rfl ?_
  refine X_bipush (v := (6 : Int32)) rfl rfl rfl ?_
  refine X_isub (v := (0 : Int32)) rfl rfl rfl ?_
  refine X_icmp_gt (tgt := 1474) rfl rfl rfl (fun _ => ?_) (fun q => absurd q (by decide))
  refine X_iconst (v := (1 : Int32)) rfl rfl rfl ?_
  exact LW_ireturn (st := []) rfl rfl rfl rfl
set_option maxRecDepth 10000 in
set_option maxHeartbeats 40000000 in
theorem law_21 {g : LH} {xs : Nat → Int32} (F : Fc g) (E : Fr g) (hx : Gx g = some (6, xs))  : LW 322 31 0 0 811 [some (.retAddr 0), some (.ref 0), some (.ref 355), some (.int (0 : Int32))] [] g (fun v _ => v = some (.int 1)) := by
  refine X_aload_n rfl rfl rfl rfl ?_
  refine X_aload_nS rfl rfl rfl rfl ?_
  refine X_iload_n rfl rfl rfl rfl ?_
  refine X_iconst (v := (1 : Int32)) rfl rfl rfl ?_
  refine X_iadd (v := (1 : Int32)) rfl rfl rfl ?_
  refine X_sld (v := (xs 1)) rfl rfl hx (vp_in_d rfl) rfl ?_
  refine X_aload_nS rfl rfl rfl rfl ?_
  refine X_iload_n rfl rfl rfl rfl ?_
  refine X_iconst (v := (2 : Int32)) rfl rfl rfl ?_
  refine X_iadd (v := (2 : Int32)) rfl rfl rfl ?_
  refine X_sld (v := (xs 2)) rfl rfl hx (vp_in_d rfl) rfl ?_
  refine X_aload_nS rfl rfl rfl rfl ?_
  refine X_iload_n rfl rfl rfl rfl ?_
  refine X_iconst (v := (3 : Int32)) rfl rfl rfl ?_
  refine X_iadd (v := (3 : Int32)) rfl rfl rfl ?_
  refine X_sld (v := (xs 3)) rfl rfl hx (vp_in_d rfl) rfl ?_
  refine Y_callV (as := [.int (xs 1), .int (xs 2), .int (xs 3)]) (st := []) rfl rfl rfl (by decide) rfl (Nat.le_of_ble_eq_true rfl) (by decide) (Nat.le_of_ble_eq_true rfl) rfl ((congrFun F.1 0).trans s_0) (by decide) (LW_gx (c_said F E (xs 1) (xs 2) (xs 3))) ?_
  rintro _ g' ⟨⟨rfl, E'⟩, hx'⟩
  have hx := hx'.trans hx
  refine X_aload_n rfl rfl rfl rfl ?_
  refine X_aload_nS rfl rfl rfl rfl ?_
  refine X_iload_n rfl rfl rfl rfl ?_
  refine X_iconst (v := (1 : Int32)) rfl rfl rfl ?_
  refine X_iadd (v := (1 : Int32)) rfl rfl rfl ?_
  refine X_sld (v := (xs 1)) rfl rfl hx (vp_in_d rfl) rfl ?_
  refine X_aload_nS rfl rfl rfl rfl ?_
  refine X_iload_n rfl rfl rfl rfl ?_
  refine X_iconst (v := (2 : Int32)) rfl rfl rfl ?_
  refine X_iadd (v := (2 : Int32)) rfl rfl rfl ?_
  refine X_sld (v := (xs 2)) rfl rfl hx (vp_in_d rfl) rfl ?_
  refine X_aload_nS rfl rfl rfl rfl ?_
  refine X_iload_n rfl rfl rfl rfl ?_
  refine X_iconst (v := (3 : Int32)) rfl rfl rfl ?_
  refine X_iadd (v := (3 : Int32)) rfl rfl rfl ?_
  refine X_sld (v := (xs 3)) rfl rfl hx (vp_in_d rfl) rfl ?_
  refine Y_callV (as := [.int (xs 1), .int (xs 2), .int (xs 3)]) (st := [.int (f_said (xs 1) (xs 2) (xs 3))]) rfl rfl rfl (by decide) rfl (Nat.le_of_ble_eq_true rfl) (by decide) (Nat.le_of_ble_eq_true rfl) rfl ((congrFun E'.1 355).trans s_355) (by decide) (LW_gx (r_said E' (xs 1) (xs 2) (xs 3))) ?_
  rintro _ g'' ⟨rfl, hx''⟩
  have hx := hx''.trans hx
  refine X_icmp_eq (tgt := 1468) rfl rfl rfl (fun _ => ?_) (fun q => absurd rfl q)
  refine X_iinc (v := (6 : Int32)) (ls' := [some (.retAddr 0), some (.ref 0), some (.ref 355), some (.int (6 : Int32))]) rfl rfl rfl rfl rfl ?_
  refine LW_goto (tgt := 18) rfl rfl ?_
  refine X_iload_n rfl rfl rfl rfl ?_
  refine X_aload_nS rfl rfl rfl rfl ?_
  refine LW_slenX (v := (6 : Int32)) rfl rfl hx rfl ?_
  refine X_bipush (v := (6 : Int32)) rfl rfl rfl ?_
  refine X_isub (v := (0 : Int32)) rfl rfl rfl ?_
  refine X_icmp_gt (tgt := 1474) rfl rfl rfl (fun _ => ?_) (fun q => absurd q (by decide))
  refine X_iconst (v := (1 : Int32)) rfl rfl rfl ?_
  exact LW_ireturn (st := []) rfl rfl rfl rfl
set_option maxRecDepth 10000 in
set_option maxHeartbeats 40000000 in
theorem law_22 {g : LH} {xs : Nat → Int32} (F : Fc g) (E : Fr g) (hx : Gx g = some (6, xs))  : LW 322 31 0 0 854 [some (.retAddr 0), some (.ref 0), some (.ref 355), some (.int (0 : Int32))] [] g (fun v _ => v = some (.int 1)) := by
  refine X_aload_n rfl rfl rfl rfl ?_
  refine X_aload_nS rfl rfl rfl rfl ?_
  refine X_iload_n rfl rfl rfl rfl ?_
  refine X_iconst (v := (1 : Int32)) rfl rfl rfl ?_
  refine X_iadd (v := (1 : Int32)) rfl rfl rfl ?_
  refine X_sld (v := (xs 1)) rfl rfl hx (vp_in_d rfl) rfl ?_
  refine Y_callV (as := [.int (xs 1)]) (st := []) rfl rfl rfl (by decide) rfl (Nat.le_of_ble_eq_true rfl) (by decide) (Nat.le_of_ble_eq_true rfl) rfl ((congrFun F.1 0).trans s_0) (by decide) (LW_gx (c_dear F E (xs 1))) ?_
  rintro _ g' ⟨⟨rfl, E'⟩, hx'⟩
  have hx := hx'.trans hx
  refine X_aload_n rfl rfl rfl rfl ?_
  refine X_aload_nS rfl rfl rfl rfl ?_
  refine X_iload_n rfl rfl rfl rfl ?_
  refine X_iconst (v := (1 : Int32)) rfl rfl rfl ?_
  refine X_iadd (v := (1 : Int32)) rfl rfl rfl ?_
  refine X_sld (v := (xs 1)) rfl rfl hx (vp_in_d rfl) rfl ?_
  refine Y_callV (as := [.int (xs 1)]) (st := [.int (f_dear (xs 1))]) rfl rfl rfl (by decide) rfl (Nat.le_of_ble_eq_true rfl) (by decide) (Nat.le_of_ble_eq_true rfl) rfl ((congrFun E'.1 355).trans s_355) (by decide) (LW_gx (r_dear E' (xs 1))) ?_
  rintro _ g'' ⟨rfl, hx''⟩
  have hx := hx''.trans hx
  refine X_icmp_eq (tgt := 1468) rfl rfl rfl (fun _ => ?_) (fun q => absurd rfl q)
  refine X_iinc (v := (6 : Int32)) (ls' := [some (.retAddr 0), some (.ref 0), some (.ref 355), some (.int (6 : Int32))]) rfl rfl rfl rfl rfl ?_
  refine LW_goto (tgt := 18) rfl rfl ?_
  refine X_iload_n rfl rfl rfl rfl ?_
  refine X_aload_nS rfl rfl rfl rfl ?_
  refine LW_slenX (v := (6 : Int32)) rfl rfl hx rfl ?_
  refine X_bipush (v := (6 : Int32)) rfl rfl rfl ?_
  refine X_isub (v := (0 : Int32)) rfl rfl rfl ?_
  refine X_icmp_gt (tgt := 1474) rfl rfl rfl (fun _ => ?_) (fun q => absurd q (by decide))
  refine X_iconst (v := (1 : Int32)) rfl rfl rfl ?_
  exact LW_ireturn (st := []) rfl rfl rfl rfl
set_option maxRecDepth 10000 in
set_option maxHeartbeats 40000000 in
theorem law_23 {g : LH} {xs : Nat → Int32} (F : Fc g) (E : Fr g) (hx : Gx g = some (6, xs))  : LW 322 31 0 0 877 [some (.retAddr 0), some (.ref 0), some (.ref 355), some (.int (0 : Int32))] [] g (fun v _ => v = some (.int 1)) := by
  refine X_aload_n rfl rfl rfl rfl ?_
  refine X_aload_nS rfl rfl rfl rfl ?_
  refine X_iload_n rfl rfl rfl rfl ?_
  refine X_iconst (v := (1 : Int32)) rfl rfl rfl ?_
  refine X_iadd (v := (1 : Int32)) rfl rfl rfl ?_
  refine X_sld (v := (xs 1)) rfl rfl hx (vp_in_d rfl) rfl ?_
  refine Y_callV (as := [.int (xs 1)]) (st := []) rfl rfl rfl (by decide) rfl (Nat.le_of_ble_eq_true rfl) (by decide) (Nat.le_of_ble_eq_true rfl) rfl ((congrFun F.1 0).trans s_0) (by decide) (LW_gx (c_stop F E (xs 1))) ?_
  rintro _ g' ⟨⟨rfl, E'⟩, hx'⟩
  have hx := hx'.trans hx
  refine X_aload_n rfl rfl rfl rfl ?_
  refine X_aload_nS rfl rfl rfl rfl ?_
  refine X_iload_n rfl rfl rfl rfl ?_
  refine X_iconst (v := (1 : Int32)) rfl rfl rfl ?_
  refine X_iadd (v := (1 : Int32)) rfl rfl rfl ?_
  refine X_sld (v := (xs 1)) rfl rfl hx (vp_in_d rfl) rfl ?_
  refine Y_callV (as := [.int (xs 1)]) (st := [.int (f_stop (xs 1))]) rfl rfl rfl (by decide) rfl (Nat.le_of_ble_eq_true rfl) (by decide) (Nat.le_of_ble_eq_true rfl) rfl ((congrFun E'.1 355).trans s_355) (by decide) (LW_gx (r_stop E' (xs 1))) ?_
  rintro _ g'' ⟨rfl, hx''⟩
  have hx := hx''.trans hx
  refine X_icmp_eq (tgt := 1468) rfl rfl rfl (fun _ => ?_) (fun q => absurd rfl q)
  refine X_iinc (v := (6 : Int32)) (ls' := [some (.retAddr 0), some (.ref 0), some (.ref 355), some (.int (6 : Int32))]) rfl rfl rfl rfl rfl ?_
  refine LW_goto (tgt := 18) rfl rfl ?_
  refine X_iload_n rfl rfl rfl rfl ?_
  refine X_aload_nS rfl rfl rfl rfl ?_
  refine LW_slenX (v := (6 : Int32)) rfl rfl hx rfl ?_
  refine X_bipush (v := (6 : Int32)) rfl rfl rfl ?_
  refine X_isub (v := (0 : Int32)) rfl rfl rfl ?_
  refine X_icmp_gt (tgt := 1474) rfl rfl rfl (fun _ => ?_) (fun q => absurd q (by decide))
  refine X_iconst (v := (1 : Int32)) rfl rfl rfl ?_
  exact LW_ireturn (st := []) rfl rfl rfl rfl
set_option maxRecDepth 10000 in
set_option maxHeartbeats 40000000 in
theorem law_26 {g : LH} {xs : Nat → Int32} (F : Fc g) (E : Fr g) (hx : Gx g = some (6, xs))  : LW 322 31 0 0 1008 [some (.retAddr 0), some (.ref 0), some (.ref 355), some (.int (0 : Int32))] [] g (fun v _ => v = some (.int 1)) := by
  refine X_aload_n rfl rfl rfl rfl ?_
  refine X_aload_nS rfl rfl rfl rfl ?_
  refine X_iload_n rfl rfl rfl rfl ?_
  refine X_iconst (v := (1 : Int32)) rfl rfl rfl ?_
  refine X_iadd (v := (1 : Int32)) rfl rfl rfl ?_
  refine X_sld (v := (xs 1)) rfl rfl hx (vp_in_d rfl) rfl ?_
  refine Y_callV (as := [.int (xs 1)]) (st := []) rfl rfl rfl (by decide) rfl (Nat.le_of_ble_eq_true rfl) (by decide) (Nat.le_of_ble_eq_true rfl) rfl ((congrFun F.1 0).trans s_0) (by decide) (LW_gx (c_party F E (xs 1))) ?_
  rintro _ g' ⟨⟨rfl, E'⟩, hx'⟩
  have hx := hx'.trans hx
  refine X_aload_n rfl rfl rfl rfl ?_
  refine X_aload_nS rfl rfl rfl rfl ?_
  refine X_iload_n rfl rfl rfl rfl ?_
  refine X_iconst (v := (1 : Int32)) rfl rfl rfl ?_
  refine X_iadd (v := (1 : Int32)) rfl rfl rfl ?_
  refine X_sld (v := (xs 1)) rfl rfl hx (vp_in_d rfl) rfl ?_
  refine Y_callV (as := [.int (xs 1)]) (st := [.int (f_party (xs 1))]) rfl rfl rfl (by decide) rfl (Nat.le_of_ble_eq_true rfl) (by decide) (Nat.le_of_ble_eq_true rfl) rfl ((congrFun E'.1 355).trans s_355) (by decide) (LW_gx (r_party E' (xs 1))) ?_
  rintro _ g'' ⟨rfl, hx''⟩
  have hx := hx''.trans hx
  refine X_icmp_eq (tgt := 1468) rfl rfl rfl (fun _ => ?_) (fun q => absurd rfl q)
  refine X_iinc (v := (6 : Int32)) (ls' := [some (.retAddr 0), some (.ref 0), some (.ref 355), some (.int (6 : Int32))]) rfl rfl rfl rfl rfl ?_
  refine LW_goto (tgt := 18) rfl rfl ?_
  refine X_iload_n rfl rfl rfl rfl ?_
  refine X_aload_nS rfl rfl rfl rfl ?_
  refine LW_slenX (v := (6 : Int32)) rfl rfl hx rfl ?_
  refine X_bipush (v := (6 : Int32)) rfl rfl rfl ?_
  refine X_isub (v := (0 : Int32)) rfl rfl rfl ?_
  refine X_icmp_gt (tgt := 1474) rfl rfl rfl (fun _ => ?_) (fun q => absurd q (by decide))
  refine X_iconst (v := (1 : Int32)) rfl rfl rfl ?_
  exact LW_ireturn (st := []) rfl rfl rfl rfl
set_option maxRecDepth 10000 in
set_option maxHeartbeats 40000000 in
theorem law_27 {g : LH} {xs : Nat → Int32} (F : Fc g) (E : Fr g) (hx : Gx g = some (6, xs))  : LW 322 31 0 0 1031 [some (.retAddr 0), some (.ref 0), some (.ref 355), some (.int (0 : Int32))] [] g (fun v _ => v = some (.int 1)) := by
  refine X_aload_n rfl rfl rfl rfl ?_
  refine X_aload_nS rfl rfl rfl rfl ?_
  refine X_iload_n rfl rfl rfl rfl ?_
  refine X_iconst (v := (1 : Int32)) rfl rfl rfl ?_
  refine X_iadd (v := (1 : Int32)) rfl rfl rfl ?_
  refine X_sld (v := (xs 1)) rfl rfl hx (vp_in_d rfl) rfl ?_
  refine Y_callV (as := [.int (xs 1)]) (st := []) rfl rfl rfl (by decide) rfl (Nat.le_of_ble_eq_true rfl) (by decide) (Nat.le_of_ble_eq_true rfl) rfl ((congrFun F.1 0).trans s_0) (by decide) (LW_gx (c_worth F E (xs 1))) ?_
  rintro _ g' ⟨⟨rfl, E'⟩, hx'⟩
  have hx := hx'.trans hx
  refine X_aload_n rfl rfl rfl rfl ?_
  refine X_aload_nS rfl rfl rfl rfl ?_
  refine X_iload_n rfl rfl rfl rfl ?_
  refine X_iconst (v := (1 : Int32)) rfl rfl rfl ?_
  refine X_iadd (v := (1 : Int32)) rfl rfl rfl ?_
  refine X_sld (v := (xs 1)) rfl rfl hx (vp_in_d rfl) rfl ?_
  refine Y_callV (as := [.int (xs 1)]) (st := [.int (f_worth (xs 1))]) rfl rfl rfl (by decide) rfl (Nat.le_of_ble_eq_true rfl) (by decide) (Nat.le_of_ble_eq_true rfl) rfl ((congrFun E'.1 355).trans s_355) (by decide) (LW_gx (r_worth E' (xs 1))) ?_
  rintro _ g'' ⟨rfl, hx''⟩
  have hx := hx''.trans hx
  refine X_icmp_eq (tgt := 1468) rfl rfl rfl (fun _ => ?_) (fun q => absurd rfl q)
  refine X_iinc (v := (6 : Int32)) (ls' := [some (.retAddr 0), some (.ref 0), some (.ref 355), some (.int (6 : Int32))]) rfl rfl rfl rfl rfl ?_
  refine LW_goto (tgt := 18) rfl rfl ?_
  refine X_iload_n rfl rfl rfl rfl ?_
  refine X_aload_nS rfl rfl rfl rfl ?_
  refine LW_slenX (v := (6 : Int32)) rfl rfl hx rfl ?_
  refine X_bipush (v := (6 : Int32)) rfl rfl rfl ?_
  refine X_isub (v := (0 : Int32)) rfl rfl rfl ?_
  refine X_icmp_gt (tgt := 1474) rfl rfl rfl (fun _ => ?_) (fun q => absurd q (by decide))
  refine X_iconst (v := (1 : Int32)) rfl rfl rfl ?_
  exact LW_ireturn (st := []) rfl rfl rfl rfl
set_option maxRecDepth 10000 in
set_option maxHeartbeats 40000000 in
theorem law_28 {g : LH} {xs : Nat → Int32} (F : Fc g) (E : Fr g) (hx : Gx g = some (6, xs))  : LW 322 31 0 0 1054 [some (.retAddr 0), some (.ref 0), some (.ref 355), some (.int (0 : Int32))] [] g (fun v _ => v = some (.int 1)) := by
  refine X_aload_n rfl rfl rfl rfl ?_
  refine X_aload_nS rfl rfl rfl rfl ?_
  refine X_iload_n rfl rfl rfl rfl ?_
  refine X_iconst (v := (1 : Int32)) rfl rfl rfl ?_
  refine X_iadd (v := (1 : Int32)) rfl rfl rfl ?_
  refine X_sld (v := (xs 1)) rfl rfl hx (vp_in_d rfl) rfl ?_
  refine X_aload_nS rfl rfl rfl rfl ?_
  refine X_iload_n rfl rfl rfl rfl ?_
  refine X_iconst (v := (2 : Int32)) rfl rfl rfl ?_
  refine X_iadd (v := (2 : Int32)) rfl rfl rfl ?_
  refine X_sld (v := (xs 2)) rfl rfl hx (vp_in_d rfl) rfl ?_
  refine Y_callV (as := [.int (xs 1), .int (xs 2)]) (st := []) rfl rfl rfl (by decide) rfl (Nat.le_of_ble_eq_true rfl) (by decide) (Nat.le_of_ble_eq_true rfl) rfl ((congrFun F.1 0).trans s_0) (by decide) (LW_gx (c_core F E (xs 1) (xs 2))) ?_
  rintro _ g' ⟨⟨rfl, E'⟩, hx'⟩
  have hx := hx'.trans hx
  refine X_aload_n rfl rfl rfl rfl ?_
  refine X_aload_nS rfl rfl rfl rfl ?_
  refine X_iload_n rfl rfl rfl rfl ?_
  refine X_iconst (v := (1 : Int32)) rfl rfl rfl ?_
  refine X_iadd (v := (1 : Int32)) rfl rfl rfl ?_
  refine X_sld (v := (xs 1)) rfl rfl hx (vp_in_d rfl) rfl ?_
  refine X_aload_nS rfl rfl rfl rfl ?_
  refine X_iload_n rfl rfl rfl rfl ?_
  refine X_iconst (v := (2 : Int32)) rfl rfl rfl ?_
  refine X_iadd (v := (2 : Int32)) rfl rfl rfl ?_
  refine X_sld (v := (xs 2)) rfl rfl hx (vp_in_d rfl) rfl ?_
  refine Y_callV (as := [.int (xs 1), .int (xs 2)]) (st := [.int (f_core (xs 1) (xs 2))]) rfl rfl rfl (by decide) rfl (Nat.le_of_ble_eq_true rfl) (by decide) (Nat.le_of_ble_eq_true rfl) rfl ((congrFun E'.1 355).trans s_355) (by decide) (LW_gx (r_core E' (xs 1) (xs 2))) ?_
  rintro _ g'' ⟨rfl, hx''⟩
  have hx := hx''.trans hx
  refine X_icmp_eq (tgt := 1468) rfl rfl rfl (fun _ => ?_) (fun q => absurd rfl q)
  refine X_iinc (v := (6 : Int32)) (ls' := [some (.retAddr 0), some (.ref 0), some (.ref 355), some (.int (6 : Int32))]) rfl rfl rfl rfl rfl ?_
  refine LW_goto (tgt := 18) rfl rfl ?_
  refine X_iload_n rfl rfl rfl rfl ?_
  refine X_aload_nS rfl rfl rfl rfl ?_
  refine LW_slenX (v := (6 : Int32)) rfl rfl hx rfl ?_
  refine X_bipush (v := (6 : Int32)) rfl rfl rfl ?_
  refine X_isub (v := (0 : Int32)) rfl rfl rfl ?_
  refine X_icmp_gt (tgt := 1474) rfl rfl rfl (fun _ => ?_) (fun q => absurd q (by decide))
  refine X_iconst (v := (1 : Int32)) rfl rfl rfl ?_
  exact LW_ireturn (st := []) rfl rfl rfl rfl
set_option maxRecDepth 10000 in
set_option maxHeartbeats 40000000 in
theorem law_31 {g : LH} {xs : Nat → Int32} (F : Fc g) (E : Fr g) (hx : Gx g = some (6, xs))  : LW 322 31 0 0 1179 [some (.retAddr 0), some (.ref 0), some (.ref 355), some (.int (0 : Int32))] [] g (fun v _ => v = some (.int 1)) := by
  refine X_aload_n rfl rfl rfl rfl ?_
  refine X_aload_nS rfl rfl rfl rfl ?_
  refine X_iload_n rfl rfl rfl rfl ?_
  refine X_iconst (v := (1 : Int32)) rfl rfl rfl ?_
  refine X_iadd (v := (1 : Int32)) rfl rfl rfl ?_
  refine X_sld (v := (xs 1)) rfl rfl hx (vp_in_d rfl) rfl ?_
  refine X_aload_nS rfl rfl rfl rfl ?_
  refine X_iload_n rfl rfl rfl rfl ?_
  refine X_iconst (v := (2 : Int32)) rfl rfl rfl ?_
  refine X_iadd (v := (2 : Int32)) rfl rfl rfl ?_
  refine X_sld (v := (xs 2)) rfl rfl hx (vp_in_d rfl) rfl ?_
  refine Y_callV (as := [.int (xs 1), .int (xs 2)]) (st := []) rfl rfl rfl (by decide) rfl (Nat.le_of_ble_eq_true rfl) (by decide) (Nat.le_of_ble_eq_true rfl) rfl ((congrFun F.1 0).trans s_0) (by decide) (LW_gx (c_settlement F E (xs 1) (xs 2))) ?_
  rintro _ g' ⟨⟨rfl, E'⟩, hx'⟩
  have hx := hx'.trans hx
  refine X_aload_n rfl rfl rfl rfl ?_
  refine X_aload_nS rfl rfl rfl rfl ?_
  refine X_iload_n rfl rfl rfl rfl ?_
  refine X_iconst (v := (1 : Int32)) rfl rfl rfl ?_
  refine X_iadd (v := (1 : Int32)) rfl rfl rfl ?_
  refine X_sld (v := (xs 1)) rfl rfl hx (vp_in_d rfl) rfl ?_
  refine X_aload_nS rfl rfl rfl rfl ?_
  refine X_iload_n rfl rfl rfl rfl ?_
  refine X_iconst (v := (2 : Int32)) rfl rfl rfl ?_
  refine X_iadd (v := (2 : Int32)) rfl rfl rfl ?_
  refine X_sld (v := (xs 2)) rfl rfl hx (vp_in_d rfl) rfl ?_
  refine Y_callV (as := [.int (xs 1), .int (xs 2)]) (st := [.int (f_settlement (xs 1) (xs 2))]) rfl rfl rfl (by decide) rfl (Nat.le_of_ble_eq_true rfl) (by decide) (Nat.le_of_ble_eq_true rfl) rfl ((congrFun E'.1 355).trans s_355) (by decide) (LW_gx (r_settlement E' (xs 1) (xs 2))) ?_
  rintro _ g'' ⟨rfl, hx''⟩
  have hx := hx''.trans hx
  refine X_icmp_eq (tgt := 1468) rfl rfl rfl (fun _ => ?_) (fun q => absurd rfl q)
  refine X_iinc (v := (6 : Int32)) (ls' := [some (.retAddr 0), some (.ref 0), some (.ref 355), some (.int (6 : Int32))]) rfl rfl rfl rfl rfl ?_
  refine LW_goto (tgt := 18) rfl rfl ?_
  refine X_iload_n rfl rfl rfl rfl ?_
  refine X_aload_nS rfl rfl rfl rfl ?_
  refine LW_slenX (v := (6 : Int32)) rfl rfl hx rfl ?_
  refine X_bipush (v := (6 : Int32)) rfl rfl rfl ?_
  refine X_isub (v := (0 : Int32)) rfl rfl rfl ?_
  refine X_icmp_gt (tgt := 1474) rfl rfl rfl (fun _ => ?_) (fun q => absurd q (by decide))
  refine X_iconst (v := (1 : Int32)) rfl rfl rfl ?_
  exact LW_ireturn (st := []) rfl rfl rfl rfl
set_option maxRecDepth 10000 in
set_option maxHeartbeats 40000000 in
theorem law_33 {g : LH} {xs : Nat → Int32} (F : Fc g) (E : Fr g) (hx : Gx g = some (6, xs))  : LW 322 31 0 0 1261 [some (.retAddr 0), some (.ref 0), some (.ref 355), some (.int (0 : Int32))] [] g (fun v _ => v = some (.int 1)) := by
  refine X_aload_n rfl rfl rfl rfl ?_
  refine X_aload_nS rfl rfl rfl rfl ?_
  refine X_iload_n rfl rfl rfl rfl ?_
  refine X_iconst (v := (1 : Int32)) rfl rfl rfl ?_
  refine X_iadd (v := (1 : Int32)) rfl rfl rfl ?_
  refine X_sld (v := (xs 1)) rfl rfl hx (vp_in_d rfl) rfl ?_
  refine X_aload_nS rfl rfl rfl rfl ?_
  refine X_iload_n rfl rfl rfl rfl ?_
  refine X_iconst (v := (2 : Int32)) rfl rfl rfl ?_
  refine X_iadd (v := (2 : Int32)) rfl rfl rfl ?_
  refine X_sld (v := (xs 2)) rfl rfl hx (vp_in_d rfl) rfl ?_
  refine Y_callV (as := [.int (xs 1), .int (xs 2)]) (st := []) rfl rfl rfl (by decide) rfl (Nat.le_of_ble_eq_true rfl) (by decide) (Nat.le_of_ble_eq_true rfl) rfl ((congrFun F.1 0).trans s_0) (by decide) (LW_gx (c_hair F E (xs 1) (xs 2))) ?_
  rintro _ g' ⟨⟨rfl, E'⟩, hx'⟩
  have hx := hx'.trans hx
  refine X_aload_n rfl rfl rfl rfl ?_
  refine X_aload_nS rfl rfl rfl rfl ?_
  refine X_iload_n rfl rfl rfl rfl ?_
  refine X_iconst (v := (1 : Int32)) rfl rfl rfl ?_
  refine X_iadd (v := (1 : Int32)) rfl rfl rfl ?_
  refine X_sld (v := (xs 1)) rfl rfl hx (vp_in_d rfl) rfl ?_
  refine X_aload_nS rfl rfl rfl rfl ?_
  refine X_iload_n rfl rfl rfl rfl ?_
  refine X_iconst (v := (2 : Int32)) rfl rfl rfl ?_
  refine X_iadd (v := (2 : Int32)) rfl rfl rfl ?_
  refine X_sld (v := (xs 2)) rfl rfl hx (vp_in_d rfl) rfl ?_
  refine Y_callV (as := [.int (xs 1), .int (xs 2)]) (st := [.int (f_hair (xs 1) (xs 2))]) rfl rfl rfl (by decide) rfl (Nat.le_of_ble_eq_true rfl) (by decide) (Nat.le_of_ble_eq_true rfl) rfl ((congrFun E'.1 355).trans s_355) (by decide) (LW_gx (r_hair E' (xs 1) (xs 2))) ?_
  rintro _ g'' ⟨rfl, hx''⟩
  have hx := hx''.trans hx
  refine X_icmp_eq (tgt := 1468) rfl rfl rfl (fun _ => ?_) (fun q => absurd rfl q)
  refine X_iinc (v := (6 : Int32)) (ls' := [some (.retAddr 0), some (.ref 0), some (.ref 355), some (.int (6 : Int32))]) rfl rfl rfl rfl rfl ?_
  refine LW_goto (tgt := 18) rfl rfl ?_
  refine X_iload_n rfl rfl rfl rfl ?_
  refine X_aload_nS rfl rfl rfl rfl ?_
  refine LW_slenX (v := (6 : Int32)) rfl rfl hx rfl ?_
  refine X_bipush (v := (6 : Int32)) rfl rfl rfl ?_
  refine X_isub (v := (0 : Int32)) rfl rfl rfl ?_
  refine X_icmp_gt (tgt := 1474) rfl rfl rfl (fun _ => ?_) (fun q => absurd q (by decide))
  refine X_iconst (v := (1 : Int32)) rfl rfl rfl ?_
  exact LW_ireturn (st := []) rfl rfl rfl rfl
set_option maxRecDepth 10000 in
set_option maxHeartbeats 40000000 in
theorem law_36 {g : LH} {xs : Nat → Int32} (F : Fc g) (E : Fr g) (hx : Gx g = some (6, xs))  : LW 322 31 0 0 1386 [some (.retAddr 0), some (.ref 0), some (.ref 355), some (.int (0 : Int32))] [] g (fun v _ => v = some (.int 1)) := by
  refine X_aload_n rfl rfl rfl rfl ?_
  refine X_aload_nS rfl rfl rfl rfl ?_
  refine X_iload_n rfl rfl rfl rfl ?_
  refine X_iconst (v := (1 : Int32)) rfl rfl rfl ?_
  refine X_iadd (v := (1 : Int32)) rfl rfl rfl ?_
  refine X_sld (v := (xs 1)) rfl rfl hx (vp_in_d rfl) rfl ?_
  refine X_aload_nS rfl rfl rfl rfl ?_
  refine X_iload_n rfl rfl rfl rfl ?_
  refine X_iconst (v := (2 : Int32)) rfl rfl rfl ?_
  refine X_iadd (v := (2 : Int32)) rfl rfl rfl ?_
  refine X_sld (v := (xs 2)) rfl rfl hx (vp_in_d rfl) rfl ?_
  refine Y_callV (as := [.int (xs 1), .int (xs 2)]) (st := []) rfl rfl rfl (by decide) rfl (Nat.le_of_ble_eq_true rfl) (by decide) (Nat.le_of_ble_eq_true rfl) rfl ((congrFun F.1 0).trans s_0) (by decide) (LW_gx (c_signed F E (xs 1) (xs 2))) ?_
  rintro _ g' ⟨⟨rfl, E'⟩, hx'⟩
  have hx := hx'.trans hx
  refine X_aload_n rfl rfl rfl rfl ?_
  refine X_aload_nS rfl rfl rfl rfl ?_
  refine X_iload_n rfl rfl rfl rfl ?_
  refine X_iconst (v := (1 : Int32)) rfl rfl rfl ?_
  refine X_iadd (v := (1 : Int32)) rfl rfl rfl ?_
  refine X_sld (v := (xs 1)) rfl rfl hx (vp_in_d rfl) rfl ?_
  refine X_aload_nS rfl rfl rfl rfl ?_
  refine X_iload_n rfl rfl rfl rfl ?_
  refine X_iconst (v := (2 : Int32)) rfl rfl rfl ?_
  refine X_iadd (v := (2 : Int32)) rfl rfl rfl ?_
  refine X_sld (v := (xs 2)) rfl rfl hx (vp_in_d rfl) rfl ?_
  refine Y_callV (as := [.int (xs 1), .int (xs 2)]) (st := [.int (f_signed (xs 1) (xs 2))]) rfl rfl rfl (by decide) rfl (Nat.le_of_ble_eq_true rfl) (by decide) (Nat.le_of_ble_eq_true rfl) rfl ((congrFun E'.1 355).trans s_355) (by decide) (LW_gx (r_signed E' (xs 1) (xs 2))) ?_
  rintro _ g'' ⟨rfl, hx''⟩
  have hx := hx''.trans hx
  refine X_icmp_eq (tgt := 1468) rfl rfl rfl (fun _ => ?_) (fun q => absurd rfl q)
  refine X_iinc (v := (6 : Int32)) (ls' := [some (.retAddr 0), some (.ref 0), some (.ref 355), some (.int (6 : Int32))]) rfl rfl rfl rfl rfl ?_
  refine LW_goto (tgt := 18) rfl rfl ?_
  refine X_iload_n rfl rfl rfl rfl ?_
  refine X_aload_nS rfl rfl rfl rfl ?_
  refine LW_slenX (v := (6 : Int32)) rfl rfl hx rfl ?_
  refine X_bipush (v := (6 : Int32)) rfl rfl rfl ?_
  refine X_isub (v := (0 : Int32)) rfl rfl rfl ?_
  refine X_icmp_gt (tgt := 1474) rfl rfl rfl (fun _ => ?_) (fun q => absurd q (by decide))
  refine X_iconst (v := (1 : Int32)) rfl rfl rfl ?_
  exact LW_ireturn (st := []) rfl rfl rfl rfl
set_option maxRecDepth 10000 in
set_option maxHeartbeats 40000000 in
theorem law_37 {g : LH} {xs : Nat → Int32} (F : Fc g) (E : Fr g) (hx : Gx g = some (6, xs))  : LW 322 31 0 0 1419 [some (.retAddr 0), some (.ref 0), some (.ref 355), some (.int (0 : Int32))] [] g (fun v _ => v = some (.int 1)) := by
  refine X_aload_n rfl rfl rfl rfl ?_
  refine Y_callV (as := []) (st := []) rfl rfl rfl (by decide) rfl (Nat.le_of_ble_eq_true rfl) (by decide) (Nat.le_of_ble_eq_true rfl) rfl ((congrFun F.1 0).trans s_0) (by decide) (LW_gx (c_image F E)) ?_
  rintro _ g' ⟨⟨rfl, E'⟩, hx'⟩
  have hx := hx'.trans hx
  refine X_aload_n rfl rfl rfl rfl ?_
  refine Y_callV (as := []) (st := [.int (f_image)]) rfl rfl rfl (by decide) rfl (Nat.le_of_ble_eq_true rfl) (by decide) (Nat.le_of_ble_eq_true rfl) rfl ((congrFun E'.1 355).trans s_355) (by decide) (LW_gx (r_image E')) ?_
  rintro _ g'' ⟨rfl, hx''⟩
  have hx := hx''.trans hx
  refine X_icmp_eq (tgt := 1468) rfl rfl rfl (fun _ => ?_) (fun q => absurd rfl q)
  refine X_iinc (v := (6 : Int32)) (ls' := [some (.retAddr 0), some (.ref 0), some (.ref 355), some (.int (6 : Int32))]) rfl rfl rfl rfl rfl ?_
  refine LW_goto (tgt := 18) rfl rfl ?_
  refine X_iload_n rfl rfl rfl rfl ?_
  refine X_aload_nS rfl rfl rfl rfl ?_
  refine LW_slenX (v := (6 : Int32)) rfl rfl hx rfl ?_
  refine X_bipush (v := (6 : Int32)) rfl rfl rfl ?_
  refine X_isub (v := (0 : Int32)) rfl rfl rfl ?_
  refine X_icmp_gt (tgt := 1474) rfl rfl rfl (fun _ => ?_) (fun q => absurd q (by decide))
  refine X_iconst (v := (1 : Int32)) rfl rfl rfl ?_
  exact LW_ireturn (st := []) rfl rfl rfl rfl
set_option maxRecDepth 10000 in
set_option maxHeartbeats 40000000 in
theorem law_38 {g : LH} {xs : Nat → Int32} (F : Fc g) (E : Fr g) (hx : Gx g = some (6, xs))  : LW 322 31 0 0 1432 [some (.retAddr 0), some (.ref 0), some (.ref 355), some (.int (0 : Int32))] [] g (fun v _ => v = some (.int 1)) := by
  refine X_aload_n rfl rfl rfl rfl ?_
  refine Y_callV (as := []) (st := []) rfl rfl rfl (by decide) rfl (Nat.le_of_ble_eq_true rfl) (by decide) (Nat.le_of_ble_eq_true rfl) rfl ((congrFun F.1 0).trans s_0) (by decide) (LW_gx (c_back F E)) ?_
  rintro _ g' ⟨⟨rfl, E'⟩, hx'⟩
  have hx := hx'.trans hx
  refine X_aload_n rfl rfl rfl rfl ?_
  refine Y_callV (as := []) (st := [.int (f_back)]) rfl rfl rfl (by decide) rfl (Nat.le_of_ble_eq_true rfl) (by decide) (Nat.le_of_ble_eq_true rfl) rfl ((congrFun E'.1 355).trans s_355) (by decide) (LW_gx (r_back E')) ?_
  rintro _ g'' ⟨rfl, hx''⟩
  have hx := hx''.trans hx
  refine X_icmp_eq (tgt := 1468) rfl rfl rfl (fun _ => ?_) (fun q => absurd rfl q)
  refine X_iinc (v := (6 : Int32)) (ls' := [some (.retAddr 0), some (.ref 0), some (.ref 355), some (.int (6 : Int32))]) rfl rfl rfl rfl rfl ?_
  refine LW_goto (tgt := 18) rfl rfl ?_
  refine X_iload_n rfl rfl rfl rfl ?_
  refine X_aload_nS rfl rfl rfl rfl ?_
  refine LW_slenX (v := (6 : Int32)) rfl rfl hx rfl ?_
  refine X_bipush (v := (6 : Int32)) rfl rfl rfl ?_
  refine X_isub (v := (0 : Int32)) rfl rfl rfl ?_
  refine X_icmp_gt (tgt := 1474) rfl rfl rfl (fun _ => ?_) (fun q => absurd q (by decide))
  refine X_iconst (v := (1 : Int32)) rfl rfl rfl ?_
  exact LW_ireturn (st := []) rfl rfl rfl rfl
set_option maxRecDepth 10000 in
set_option maxHeartbeats 40000000 in
theorem law_24 {g : LH} {xs : Nat → Int32} (F : Fc g) (E : Fr g) (hx : Gx g = some (6, xs))  : LW 322 31 0 0 900 [some (.retAddr 0), some (.ref 0), some (.ref 355), some (.int (0 : Int32))] [] g (fun v _ => v = some (.int 1)) := by
  refine X_aload_n rfl rfl rfl rfl ?_
  refine X_aload_nS rfl rfl rfl rfl ?_
  refine X_iload_n rfl rfl rfl rfl ?_
  refine X_iconst (v := (1 : Int32)) rfl rfl rfl ?_
  refine X_iadd (v := (1 : Int32)) rfl rfl rfl ?_
  refine X_sld (v := (xs 1)) rfl rfl hx (vp_in_d rfl) rfl ?_
  refine X_if_eq (tgt := 913) rfl rfl rfl (fun h1 => ?_) (fun h1 => ?_)
  · refine X_iconst (v := (0 : Int32)) rfl rfl rfl ?_
    refine Y_callV (as := [.int (0 : Int32)]) (st := []) rfl rfl rfl (by decide) rfl (Nat.le_of_ble_eq_true rfl) (by decide) (Nat.le_of_ble_eq_true rfl) rfl ((congrFun F.1 0).trans s_0) (by decide) (LW_gx (c_spared0 F E)) ?_
    rintro _ g' ⟨⟨rfl, E'⟩, hx'⟩
    have hx := hx'.trans hx
    refine X_aload_n rfl rfl rfl rfl ?_
    refine X_aload_nS rfl rfl rfl rfl ?_
    refine X_iload_n rfl rfl rfl rfl ?_
    refine X_iconst (v := (1 : Int32)) rfl rfl rfl ?_
    refine X_iadd (v := (1 : Int32)) rfl rfl rfl ?_
    refine X_sld (v := (xs 1)) rfl rfl hx (vp_in_d rfl) rfl ?_
    refine X_if_eq (tgt := 930) rfl rfl rfl (fun h2 => ?_) (fun h2 => ?_)
    · refine X_iconst (v := (0 : Int32)) rfl rfl rfl ?_
      refine Y_callV (as := [.int (0 : Int32)]) (st := [.int (f_spared0)]) rfl rfl rfl (by decide) rfl (Nat.le_of_ble_eq_true rfl) (by decide) (Nat.le_of_ble_eq_true rfl) rfl ((congrFun E'.1 355).trans s_355) (by decide) (LW_gx (r_spared0 E')) ?_
      rintro _ g'' ⟨rfl, hx''⟩
      have hx := hx''.trans hx
      refine X_icmp_eq (tgt := 1468) rfl rfl rfl (fun _ => ?_) (fun q => absurd rfl q)
      refine X_iinc (v := (6 : Int32)) (ls' := [some (.retAddr 0), some (.ref 0), some (.ref 355), some (.int (6 : Int32))]) rfl rfl rfl rfl rfl ?_
      refine LW_goto (tgt := 18) rfl rfl ?_
      refine X_iload_n rfl rfl rfl rfl ?_
      refine X_aload_nS rfl rfl rfl rfl ?_
      refine LW_slenX (v := (6 : Int32)) rfl rfl hx rfl ?_
      refine X_bipush (v := (6 : Int32)) rfl rfl rfl ?_
      refine X_isub (v := (0 : Int32)) rfl rfl rfl ?_
      refine X_icmp_gt (tgt := 1474) rfl rfl rfl (fun _ => ?_) (fun q => absurd q (by decide))
      refine X_iconst (v := (1 : Int32)) rfl rfl rfl ?_
      exact LW_ireturn (st := []) rfl rfl rfl rfl
    · exfalso
      simp only [Int32.lt_iff_toInt_lt, Int32.le_iff_toInt_le, ← Int32.toInt_inj, (show (0 : Int32).toInt = 0 from rfl)] at h1 h2
      omega
  · refine X_iconst (v := (1 : Int32)) rfl rfl rfl ?_
    refine LW_goto (tgt := 914) rfl rfl ?_
    refine Y_callV (as := [.int (1 : Int32)]) (st := []) rfl rfl rfl (by decide) rfl (Nat.le_of_ble_eq_true rfl) (by decide) (Nat.le_of_ble_eq_true rfl) rfl ((congrFun F.1 0).trans s_0) (by decide) (LW_gx (c_spared1 F E)) ?_
    rintro _ g' ⟨⟨rfl, E'⟩, hx'⟩
    have hx := hx'.trans hx
    refine X_aload_n rfl rfl rfl rfl ?_
    refine X_aload_nS rfl rfl rfl rfl ?_
    refine X_iload_n rfl rfl rfl rfl ?_
    refine X_iconst (v := (1 : Int32)) rfl rfl rfl ?_
    refine X_iadd (v := (1 : Int32)) rfl rfl rfl ?_
    refine X_sld (v := (xs 1)) rfl rfl hx (vp_in_d rfl) rfl ?_
    refine X_if_eq (tgt := 930) rfl rfl rfl (fun h3 => ?_) (fun h3 => ?_)
    · exfalso
      simp only [Int32.lt_iff_toInt_lt, Int32.le_iff_toInt_le, ← Int32.toInt_inj, (show (0 : Int32).toInt = 0 from rfl)] at h1 h3
      omega
    · refine X_iconst (v := (1 : Int32)) rfl rfl rfl ?_
      refine LW_goto (tgt := 931) rfl rfl ?_
      refine Y_callV (as := [.int (1 : Int32)]) (st := [.int (f_spared1)]) rfl rfl rfl (by decide) rfl (Nat.le_of_ble_eq_true rfl) (by decide) (Nat.le_of_ble_eq_true rfl) rfl ((congrFun E'.1 355).trans s_355) (by decide) (LW_gx (r_spared1 E')) ?_
      rintro _ g'' ⟨rfl, hx''⟩
      have hx := hx''.trans hx
      refine X_icmp_eq (tgt := 1468) rfl rfl rfl (fun _ => ?_) (fun q => absurd rfl q)
      refine X_iinc (v := (6 : Int32)) (ls' := [some (.retAddr 0), some (.ref 0), some (.ref 355), some (.int (6 : Int32))]) rfl rfl rfl rfl rfl ?_
      refine LW_goto (tgt := 18) rfl rfl ?_
      refine X_iload_n rfl rfl rfl rfl ?_
      refine X_aload_nS rfl rfl rfl rfl ?_
      refine LW_slenX (v := (6 : Int32)) rfl rfl hx rfl ?_
      refine X_bipush (v := (6 : Int32)) rfl rfl rfl ?_
      refine X_isub (v := (0 : Int32)) rfl rfl rfl ?_
      refine X_icmp_gt (tgt := 1474) rfl rfl rfl (fun _ => ?_) (fun q => absurd q (by decide))
      refine X_iconst (v := (1 : Int32)) rfl rfl rfl ?_
      exact LW_ireturn (st := []) rfl rfl rfl rfl
set_option maxRecDepth 10000 in
set_option maxHeartbeats 40000000 in
theorem law_25 {g : LH} {xs : Nat → Int32} (F : Fc g) (E : Fr g) (hx : Gx g = some (6, xs))  : LW 322 31 0 0 939 [some (.retAddr 0), some (.ref 0), some (.ref 355), some (.int (0 : Int32))] [] g (fun v _ => v = some (.int 1)) := by
  refine X_aload_n rfl rfl rfl rfl ?_
  refine X_aload_nS rfl rfl rfl rfl ?_
  refine X_iload_n rfl rfl rfl rfl ?_
  refine X_iconst (v := (1 : Int32)) rfl rfl rfl ?_
  refine X_iadd (v := (1 : Int32)) rfl rfl rfl ?_
  refine X_sld (v := (xs 1)) rfl rfl hx (vp_in_d rfl) rfl ?_
  refine X_aload_nS rfl rfl rfl rfl ?_
  refine X_iload_n rfl rfl rfl rfl ?_
  refine X_iconst (v := (2 : Int32)) rfl rfl rfl ?_
  refine X_iadd (v := (2 : Int32)) rfl rfl rfl ?_
  refine X_sld (v := (xs 2)) rfl rfl hx (vp_in_d rfl) rfl ?_
  refine X_aload_nS rfl rfl rfl rfl ?_
  refine X_iload_n rfl rfl rfl rfl ?_
  refine X_iconst (v := (3 : Int32)) rfl rfl rfl ?_
  refine X_iadd (v := (3 : Int32)) rfl rfl rfl ?_
  refine X_sld (v := (xs 3)) rfl rfl hx (vp_in_d rfl) rfl ?_
  refine X_aload_nS rfl rfl rfl rfl ?_
  refine X_iload_n rfl rfl rfl rfl ?_
  refine X_iconst (v := (4 : Int32)) rfl rfl rfl ?_
  refine X_iadd (v := (4 : Int32)) rfl rfl rfl ?_
  refine X_sld (v := (xs 4)) rfl rfl hx (vp_in_d rfl) rfl ?_
  refine X_if_eq (tgt := 967) rfl rfl rfl (fun h1 => ?_) (fun h1 => ?_)
  · refine X_iconst (v := (0 : Int32)) rfl rfl rfl ?_
    refine Y_callV (as := [.int (xs 1), .int (xs 2), .int (xs 3), .int (0 : Int32)]) (st := []) rfl rfl rfl (by decide) rfl (Nat.le_of_ble_eq_true rfl) (by decide) (Nat.le_of_ble_eq_true rfl) rfl ((congrFun F.1 0).trans s_0) (by decide) (LW_gx (c_power0 F E (xs 1) (xs 2) (xs 3))) ?_
    rintro _ g' ⟨⟨rfl, E'⟩, hx'⟩
    have hx := hx'.trans hx
    refine X_aload_n rfl rfl rfl rfl ?_
    refine X_aload_nS rfl rfl rfl rfl ?_
    refine X_iload_n rfl rfl rfl rfl ?_
    refine X_iconst (v := (1 : Int32)) rfl rfl rfl ?_
    refine X_iadd (v := (1 : Int32)) rfl rfl rfl ?_
    refine X_sld (v := (xs 1)) rfl rfl hx (vp_in_d rfl) rfl ?_
    refine X_aload_nS rfl rfl rfl rfl ?_
    refine X_iload_n rfl rfl rfl rfl ?_
    refine X_iconst (v := (2 : Int32)) rfl rfl rfl ?_
    refine X_iadd (v := (2 : Int32)) rfl rfl rfl ?_
    refine X_sld (v := (xs 2)) rfl rfl hx (vp_in_d rfl) rfl ?_
    refine X_aload_nS rfl rfl rfl rfl ?_
    refine X_iload_n rfl rfl rfl rfl ?_
    refine X_iconst (v := (3 : Int32)) rfl rfl rfl ?_
    refine X_iadd (v := (3 : Int32)) rfl rfl rfl ?_
    refine X_sld (v := (xs 3)) rfl rfl hx (vp_in_d rfl) rfl ?_
    refine X_aload_nS rfl rfl rfl rfl ?_
    refine X_iload_n rfl rfl rfl rfl ?_
    refine X_iconst (v := (4 : Int32)) rfl rfl rfl ?_
    refine X_iadd (v := (4 : Int32)) rfl rfl rfl ?_
    refine X_sld (v := (xs 4)) rfl rfl hx (vp_in_d rfl) rfl ?_
    refine X_if_eq (tgt := 999) rfl rfl rfl (fun h2 => ?_) (fun h2 => ?_)
    · refine X_iconst (v := (0 : Int32)) rfl rfl rfl ?_
      refine Y_callV (as := [.int (xs 1), .int (xs 2), .int (xs 3), .int (0 : Int32)]) (st := [.int (f_power0 (xs 1) (xs 2) (xs 3))]) rfl rfl rfl (by decide) rfl (Nat.le_of_ble_eq_true rfl) (by decide) (Nat.le_of_ble_eq_true rfl) rfl ((congrFun E'.1 355).trans s_355) (by decide) (LW_gx (r_power0 E' (xs 1) (xs 2) (xs 3))) ?_
      rintro _ g'' ⟨rfl, hx''⟩
      have hx := hx''.trans hx
      refine X_icmp_eq (tgt := 1468) rfl rfl rfl (fun _ => ?_) (fun q => absurd rfl q)
      refine X_iinc (v := (6 : Int32)) (ls' := [some (.retAddr 0), some (.ref 0), some (.ref 355), some (.int (6 : Int32))]) rfl rfl rfl rfl rfl ?_
      refine LW_goto (tgt := 18) rfl rfl ?_
      refine X_iload_n rfl rfl rfl rfl ?_
      refine X_aload_nS rfl rfl rfl rfl ?_
      refine LW_slenX (v := (6 : Int32)) rfl rfl hx rfl ?_
      refine X_bipush (v := (6 : Int32)) rfl rfl rfl ?_
      refine X_isub (v := (0 : Int32)) rfl rfl rfl ?_
      refine X_icmp_gt (tgt := 1474) rfl rfl rfl (fun _ => ?_) (fun q => absurd q (by decide))
      refine X_iconst (v := (1 : Int32)) rfl rfl rfl ?_
      exact LW_ireturn (st := []) rfl rfl rfl rfl
    · exfalso
      simp only [Int32.lt_iff_toInt_lt, Int32.le_iff_toInt_le, ← Int32.toInt_inj, (show (0 : Int32).toInt = 0 from rfl)] at h1 h2
      omega
  · refine X_iconst (v := (1 : Int32)) rfl rfl rfl ?_
    refine LW_goto (tgt := 968) rfl rfl ?_
    refine Y_callV (as := [.int (xs 1), .int (xs 2), .int (xs 3), .int (1 : Int32)]) (st := []) rfl rfl rfl (by decide) rfl (Nat.le_of_ble_eq_true rfl) (by decide) (Nat.le_of_ble_eq_true rfl) rfl ((congrFun F.1 0).trans s_0) (by decide) (LW_gx (c_power1 F E (xs 1) (xs 2) (xs 3))) ?_
    rintro _ g' ⟨⟨rfl, E'⟩, hx'⟩
    have hx := hx'.trans hx
    refine X_aload_n rfl rfl rfl rfl ?_
    refine X_aload_nS rfl rfl rfl rfl ?_
    refine X_iload_n rfl rfl rfl rfl ?_
    refine X_iconst (v := (1 : Int32)) rfl rfl rfl ?_
    refine X_iadd (v := (1 : Int32)) rfl rfl rfl ?_
    refine X_sld (v := (xs 1)) rfl rfl hx (vp_in_d rfl) rfl ?_
    refine X_aload_nS rfl rfl rfl rfl ?_
    refine X_iload_n rfl rfl rfl rfl ?_
    refine X_iconst (v := (2 : Int32)) rfl rfl rfl ?_
    refine X_iadd (v := (2 : Int32)) rfl rfl rfl ?_
    refine X_sld (v := (xs 2)) rfl rfl hx (vp_in_d rfl) rfl ?_
    refine X_aload_nS rfl rfl rfl rfl ?_
    refine X_iload_n rfl rfl rfl rfl ?_
    refine X_iconst (v := (3 : Int32)) rfl rfl rfl ?_
    refine X_iadd (v := (3 : Int32)) rfl rfl rfl ?_
    refine X_sld (v := (xs 3)) rfl rfl hx (vp_in_d rfl) rfl ?_
    refine X_aload_nS rfl rfl rfl rfl ?_
    refine X_iload_n rfl rfl rfl rfl ?_
    refine X_iconst (v := (4 : Int32)) rfl rfl rfl ?_
    refine X_iadd (v := (4 : Int32)) rfl rfl rfl ?_
    refine X_sld (v := (xs 4)) rfl rfl hx (vp_in_d rfl) rfl ?_
    refine X_if_eq (tgt := 999) rfl rfl rfl (fun h3 => ?_) (fun h3 => ?_)
    · exfalso
      simp only [Int32.lt_iff_toInt_lt, Int32.le_iff_toInt_le, ← Int32.toInt_inj, (show (0 : Int32).toInt = 0 from rfl)] at h1 h3
      omega
    · refine X_iconst (v := (1 : Int32)) rfl rfl rfl ?_
      refine LW_goto (tgt := 1000) rfl rfl ?_
      refine Y_callV (as := [.int (xs 1), .int (xs 2), .int (xs 3), .int (1 : Int32)]) (st := [.int (f_power1 (xs 1) (xs 2) (xs 3))]) rfl rfl rfl (by decide) rfl (Nat.le_of_ble_eq_true rfl) (by decide) (Nat.le_of_ble_eq_true rfl) rfl ((congrFun E'.1 355).trans s_355) (by decide) (LW_gx (r_power1 E' (xs 1) (xs 2) (xs 3))) ?_
      rintro _ g'' ⟨rfl, hx''⟩
      have hx := hx''.trans hx
      refine X_icmp_eq (tgt := 1468) rfl rfl rfl (fun _ => ?_) (fun q => absurd rfl q)
      refine X_iinc (v := (6 : Int32)) (ls' := [some (.retAddr 0), some (.ref 0), some (.ref 355), some (.int (6 : Int32))]) rfl rfl rfl rfl rfl ?_
      refine LW_goto (tgt := 18) rfl rfl ?_
      refine X_iload_n rfl rfl rfl rfl ?_
      refine X_aload_nS rfl rfl rfl rfl ?_
      refine LW_slenX (v := (6 : Int32)) rfl rfl hx rfl ?_
      refine X_bipush (v := (6 : Int32)) rfl rfl rfl ?_
      refine X_isub (v := (0 : Int32)) rfl rfl rfl ?_
      refine X_icmp_gt (tgt := 1474) rfl rfl rfl (fun _ => ?_) (fun q => absurd q (by decide))
      refine X_iconst (v := (1 : Int32)) rfl rfl rfl ?_
      exact LW_ireturn (st := []) rfl rfl rfl rfl
set_option maxRecDepth 10000 in
set_option maxHeartbeats 40000000 in
theorem law_29 {g : LH} {xs : Nat → Int32} (F : Fc g) (E : Fr g) (hx : Gx g = some (6, xs))  : LW 322 31 0 0 1087 [some (.retAddr 0), some (.ref 0), some (.ref 355), some (.int (0 : Int32))] [] g (fun v _ => v = some (.int 1)) := by
  refine X_aload_n rfl rfl rfl rfl ?_
  refine X_aload_nS rfl rfl rfl rfl ?_
  refine X_iload_n rfl rfl rfl rfl ?_
  refine X_iconst (v := (1 : Int32)) rfl rfl rfl ?_
  refine X_iadd (v := (1 : Int32)) rfl rfl rfl ?_
  refine X_sld (v := (xs 1)) rfl rfl hx (vp_in_d rfl) rfl ?_
  refine X_aload_nS rfl rfl rfl rfl ?_
  refine X_iload_n rfl rfl rfl rfl ?_
  refine X_iconst (v := (2 : Int32)) rfl rfl rfl ?_
  refine X_iadd (v := (2 : Int32)) rfl rfl rfl ?_
  refine X_sld (v := (xs 2)) rfl rfl hx (vp_in_d rfl) rfl ?_
  refine X_aload_nS rfl rfl rfl rfl ?_
  refine X_iload_n rfl rfl rfl rfl ?_
  refine X_iconst (v := (3 : Int32)) rfl rfl rfl ?_
  refine X_iadd (v := (3 : Int32)) rfl rfl rfl ?_
  refine X_sld (v := (xs 3)) rfl rfl hx (vp_in_d rfl) rfl ?_
  refine X_if_eq (tgt := 1110) rfl rfl rfl (fun h1 => ?_) (fun h1 => ?_)
  · refine X_iconst (v := (0 : Int32)) rfl rfl rfl ?_
    refine Y_callV (as := [.int (xs 1), .int (xs 2), .int (0 : Int32)]) (st := []) rfl rfl rfl (by decide) rfl (Nat.le_of_ble_eq_true rfl) (by decide) (Nat.le_of_ble_eq_true rfl) rfl ((congrFun F.1 0).trans s_0) (by decide) (LW_gx (c_game0 F E (xs 1) (xs 2))) ?_
    rintro _ g' ⟨⟨rfl, E'⟩, hx'⟩
    have hx := hx'.trans hx
    refine X_aload_n rfl rfl rfl rfl ?_
    refine X_aload_nS rfl rfl rfl rfl ?_
    refine X_iload_n rfl rfl rfl rfl ?_
    refine X_iconst (v := (1 : Int32)) rfl rfl rfl ?_
    refine X_iadd (v := (1 : Int32)) rfl rfl rfl ?_
    refine X_sld (v := (xs 1)) rfl rfl hx (vp_in_d rfl) rfl ?_
    refine X_aload_nS rfl rfl rfl rfl ?_
    refine X_iload_n rfl rfl rfl rfl ?_
    refine X_iconst (v := (2 : Int32)) rfl rfl rfl ?_
    refine X_iadd (v := (2 : Int32)) rfl rfl rfl ?_
    refine X_sld (v := (xs 2)) rfl rfl hx (vp_in_d rfl) rfl ?_
    refine X_aload_nS rfl rfl rfl rfl ?_
    refine X_iload_n rfl rfl rfl rfl ?_
    refine X_iconst (v := (3 : Int32)) rfl rfl rfl ?_
    refine X_iadd (v := (3 : Int32)) rfl rfl rfl ?_
    refine X_sld (v := (xs 3)) rfl rfl hx (vp_in_d rfl) rfl ?_
    refine X_if_eq (tgt := 1137) rfl rfl rfl (fun h2 => ?_) (fun h2 => ?_)
    · refine X_iconst (v := (0 : Int32)) rfl rfl rfl ?_
      refine Y_callV (as := [.int (xs 1), .int (xs 2), .int (0 : Int32)]) (st := [.int (f_game0 (xs 1) (xs 2))]) rfl rfl rfl (by decide) rfl (Nat.le_of_ble_eq_true rfl) (by decide) (Nat.le_of_ble_eq_true rfl) rfl ((congrFun E'.1 355).trans s_355) (by decide) (LW_gx (r_game0 E' (xs 1) (xs 2))) ?_
      rintro _ g'' ⟨rfl, hx''⟩
      have hx := hx''.trans hx
      refine X_icmp_eq (tgt := 1468) rfl rfl rfl (fun _ => ?_) (fun q => absurd rfl q)
      refine X_iinc (v := (6 : Int32)) (ls' := [some (.retAddr 0), some (.ref 0), some (.ref 355), some (.int (6 : Int32))]) rfl rfl rfl rfl rfl ?_
      refine LW_goto (tgt := 18) rfl rfl ?_
      refine X_iload_n rfl rfl rfl rfl ?_
      refine X_aload_nS rfl rfl rfl rfl ?_
      refine LW_slenX (v := (6 : Int32)) rfl rfl hx rfl ?_
      refine X_bipush (v := (6 : Int32)) rfl rfl rfl ?_
      refine X_isub (v := (0 : Int32)) rfl rfl rfl ?_
      refine X_icmp_gt (tgt := 1474) rfl rfl rfl (fun _ => ?_) (fun q => absurd q (by decide))
      refine X_iconst (v := (1 : Int32)) rfl rfl rfl ?_
      exact LW_ireturn (st := []) rfl rfl rfl rfl
    · exfalso
      simp only [Int32.lt_iff_toInt_lt, Int32.le_iff_toInt_le, ← Int32.toInt_inj, (show (0 : Int32).toInt = 0 from rfl)] at h1 h2
      omega
  · refine X_iconst (v := (1 : Int32)) rfl rfl rfl ?_
    refine LW_goto (tgt := 1111) rfl rfl ?_
    refine Y_callV (as := [.int (xs 1), .int (xs 2), .int (1 : Int32)]) (st := []) rfl rfl rfl (by decide) rfl (Nat.le_of_ble_eq_true rfl) (by decide) (Nat.le_of_ble_eq_true rfl) rfl ((congrFun F.1 0).trans s_0) (by decide) (LW_gx (c_game1 F E (xs 1) (xs 2))) ?_
    rintro _ g' ⟨⟨rfl, E'⟩, hx'⟩
    have hx := hx'.trans hx
    refine X_aload_n rfl rfl rfl rfl ?_
    refine X_aload_nS rfl rfl rfl rfl ?_
    refine X_iload_n rfl rfl rfl rfl ?_
    refine X_iconst (v := (1 : Int32)) rfl rfl rfl ?_
    refine X_iadd (v := (1 : Int32)) rfl rfl rfl ?_
    refine X_sld (v := (xs 1)) rfl rfl hx (vp_in_d rfl) rfl ?_
    refine X_aload_nS rfl rfl rfl rfl ?_
    refine X_iload_n rfl rfl rfl rfl ?_
    refine X_iconst (v := (2 : Int32)) rfl rfl rfl ?_
    refine X_iadd (v := (2 : Int32)) rfl rfl rfl ?_
    refine X_sld (v := (xs 2)) rfl rfl hx (vp_in_d rfl) rfl ?_
    refine X_aload_nS rfl rfl rfl rfl ?_
    refine X_iload_n rfl rfl rfl rfl ?_
    refine X_iconst (v := (3 : Int32)) rfl rfl rfl ?_
    refine X_iadd (v := (3 : Int32)) rfl rfl rfl ?_
    refine X_sld (v := (xs 3)) rfl rfl hx (vp_in_d rfl) rfl ?_
    refine X_if_eq (tgt := 1137) rfl rfl rfl (fun h3 => ?_) (fun h3 => ?_)
    · exfalso
      simp only [Int32.lt_iff_toInt_lt, Int32.le_iff_toInt_le, ← Int32.toInt_inj, (show (0 : Int32).toInt = 0 from rfl)] at h1 h3
      omega
    · refine X_iconst (v := (1 : Int32)) rfl rfl rfl ?_
      refine LW_goto (tgt := 1138) rfl rfl ?_
      refine Y_callV (as := [.int (xs 1), .int (xs 2), .int (1 : Int32)]) (st := [.int (f_game1 (xs 1) (xs 2))]) rfl rfl rfl (by decide) rfl (Nat.le_of_ble_eq_true rfl) (by decide) (Nat.le_of_ble_eq_true rfl) rfl ((congrFun E'.1 355).trans s_355) (by decide) (LW_gx (r_game1 E' (xs 1) (xs 2))) ?_
      rintro _ g'' ⟨rfl, hx''⟩
      have hx := hx''.trans hx
      refine X_icmp_eq (tgt := 1468) rfl rfl rfl (fun _ => ?_) (fun q => absurd rfl q)
      refine X_iinc (v := (6 : Int32)) (ls' := [some (.retAddr 0), some (.ref 0), some (.ref 355), some (.int (6 : Int32))]) rfl rfl rfl rfl rfl ?_
      refine LW_goto (tgt := 18) rfl rfl ?_
      refine X_iload_n rfl rfl rfl rfl ?_
      refine X_aload_nS rfl rfl rfl rfl ?_
      refine LW_slenX (v := (6 : Int32)) rfl rfl hx rfl ?_
      refine X_bipush (v := (6 : Int32)) rfl rfl rfl ?_
      refine X_isub (v := (0 : Int32)) rfl rfl rfl ?_
      refine X_icmp_gt (tgt := 1474) rfl rfl rfl (fun _ => ?_) (fun q => absurd q (by decide))
      refine X_iconst (v := (1 : Int32)) rfl rfl rfl ?_
      exact LW_ireturn (st := []) rfl rfl rfl rfl
set_option maxRecDepth 10000 in
set_option maxHeartbeats 40000000 in
theorem law_32 {g : LH} {xs : Nat → Int32} (F : Fc g) (E : Fr g) (hx : Gx g = some (6, xs))  : LW 322 31 0 0 1212 [some (.retAddr 0), some (.ref 0), some (.ref 355), some (.int (0 : Int32))] [] g (fun v _ => v = some (.int 1)) := by
  refine X_aload_n rfl rfl rfl rfl ?_
  refine X_aload_nS rfl rfl rfl rfl ?_
  refine X_iload_n rfl rfl rfl rfl ?_
  refine X_iconst (v := (1 : Int32)) rfl rfl rfl ?_
  refine X_iadd (v := (1 : Int32)) rfl rfl rfl ?_
  refine X_sld (v := (xs 1)) rfl rfl hx (vp_in_d rfl) rfl ?_
  refine X_aload_nS rfl rfl rfl rfl ?_
  refine X_iload_n rfl rfl rfl rfl ?_
  refine X_iconst (v := (2 : Int32)) rfl rfl rfl ?_
  refine X_iadd (v := (2 : Int32)) rfl rfl rfl ?_
  refine X_sld (v := (xs 2)) rfl rfl hx (vp_in_d rfl) rfl ?_
  refine X_if_eq (tgt := 1230) rfl rfl rfl (fun h1 => ?_) (fun h1 => ?_)
  · refine X_iconst (v := (0 : Int32)) rfl rfl rfl ?_
    refine Y_callV (as := [.int (xs 1), .int (0 : Int32)]) (st := []) rfl rfl rfl (by decide) rfl (Nat.le_of_ble_eq_true rfl) (by decide) (Nat.le_of_ble_eq_true rfl) rfl ((congrFun F.1 0).trans s_0) (by decide) (LW_gx (c_learn0 F E (xs 1))) ?_
    rintro _ g' ⟨⟨rfl, E'⟩, hx'⟩
    have hx := hx'.trans hx
    refine X_aload_n rfl rfl rfl rfl ?_
    refine X_aload_nS rfl rfl rfl rfl ?_
    refine X_iload_n rfl rfl rfl rfl ?_
    refine X_iconst (v := (1 : Int32)) rfl rfl rfl ?_
    refine X_iadd (v := (1 : Int32)) rfl rfl rfl ?_
    refine X_sld (v := (xs 1)) rfl rfl hx (vp_in_d rfl) rfl ?_
    refine X_aload_nS rfl rfl rfl rfl ?_
    refine X_iload_n rfl rfl rfl rfl ?_
    refine X_iconst (v := (2 : Int32)) rfl rfl rfl ?_
    refine X_iadd (v := (2 : Int32)) rfl rfl rfl ?_
    refine X_sld (v := (xs 2)) rfl rfl hx (vp_in_d rfl) rfl ?_
    refine X_if_eq (tgt := 1252) rfl rfl rfl (fun h2 => ?_) (fun h2 => ?_)
    · refine X_iconst (v := (0 : Int32)) rfl rfl rfl ?_
      refine Y_callV (as := [.int (xs 1), .int (0 : Int32)]) (st := [.int (f_learn0 (xs 1))]) rfl rfl rfl (by decide) rfl (Nat.le_of_ble_eq_true rfl) (by decide) (Nat.le_of_ble_eq_true rfl) rfl ((congrFun E'.1 355).trans s_355) (by decide) (LW_gx (r_learn0 E' (xs 1))) ?_
      rintro _ g'' ⟨rfl, hx''⟩
      have hx := hx''.trans hx
      refine X_icmp_eq (tgt := 1468) rfl rfl rfl (fun _ => ?_) (fun q => absurd rfl q)
      refine X_iinc (v := (6 : Int32)) (ls' := [some (.retAddr 0), some (.ref 0), some (.ref 355), some (.int (6 : Int32))]) rfl rfl rfl rfl rfl ?_
      refine LW_goto (tgt := 18) rfl rfl ?_
      refine X_iload_n rfl rfl rfl rfl ?_
      refine X_aload_nS rfl rfl rfl rfl ?_
      refine LW_slenX (v := (6 : Int32)) rfl rfl hx rfl ?_
      refine X_bipush (v := (6 : Int32)) rfl rfl rfl ?_
      refine X_isub (v := (0 : Int32)) rfl rfl rfl ?_
      refine X_icmp_gt (tgt := 1474) rfl rfl rfl (fun _ => ?_) (fun q => absurd q (by decide))
      refine X_iconst (v := (1 : Int32)) rfl rfl rfl ?_
      exact LW_ireturn (st := []) rfl rfl rfl rfl
    · exfalso
      simp only [Int32.lt_iff_toInt_lt, Int32.le_iff_toInt_le, ← Int32.toInt_inj, (show (0 : Int32).toInt = 0 from rfl)] at h1 h2
      omega
  · refine X_iconst (v := (1 : Int32)) rfl rfl rfl ?_
    refine LW_goto (tgt := 1231) rfl rfl ?_
    refine Y_callV (as := [.int (xs 1), .int (1 : Int32)]) (st := []) rfl rfl rfl (by decide) rfl (Nat.le_of_ble_eq_true rfl) (by decide) (Nat.le_of_ble_eq_true rfl) rfl ((congrFun F.1 0).trans s_0) (by decide) (LW_gx (c_learn1 F E (xs 1))) ?_
    rintro _ g' ⟨⟨rfl, E'⟩, hx'⟩
    have hx := hx'.trans hx
    refine X_aload_n rfl rfl rfl rfl ?_
    refine X_aload_nS rfl rfl rfl rfl ?_
    refine X_iload_n rfl rfl rfl rfl ?_
    refine X_iconst (v := (1 : Int32)) rfl rfl rfl ?_
    refine X_iadd (v := (1 : Int32)) rfl rfl rfl ?_
    refine X_sld (v := (xs 1)) rfl rfl hx (vp_in_d rfl) rfl ?_
    refine X_aload_nS rfl rfl rfl rfl ?_
    refine X_iload_n rfl rfl rfl rfl ?_
    refine X_iconst (v := (2 : Int32)) rfl rfl rfl ?_
    refine X_iadd (v := (2 : Int32)) rfl rfl rfl ?_
    refine X_sld (v := (xs 2)) rfl rfl hx (vp_in_d rfl) rfl ?_
    refine X_if_eq (tgt := 1252) rfl rfl rfl (fun h3 => ?_) (fun h3 => ?_)
    · exfalso
      simp only [Int32.lt_iff_toInt_lt, Int32.le_iff_toInt_le, ← Int32.toInt_inj, (show (0 : Int32).toInt = 0 from rfl)] at h1 h3
      omega
    · refine X_iconst (v := (1 : Int32)) rfl rfl rfl ?_
      refine LW_goto (tgt := 1253) rfl rfl ?_
      refine Y_callV (as := [.int (xs 1), .int (1 : Int32)]) (st := [.int (f_learn1 (xs 1))]) rfl rfl rfl (by decide) rfl (Nat.le_of_ble_eq_true rfl) (by decide) (Nat.le_of_ble_eq_true rfl) rfl ((congrFun E'.1 355).trans s_355) (by decide) (LW_gx (r_learn1 E' (xs 1))) ?_
      rintro _ g'' ⟨rfl, hx''⟩
      have hx := hx''.trans hx
      refine X_icmp_eq (tgt := 1468) rfl rfl rfl (fun _ => ?_) (fun q => absurd rfl q)
      refine X_iinc (v := (6 : Int32)) (ls' := [some (.retAddr 0), some (.ref 0), some (.ref 355), some (.int (6 : Int32))]) rfl rfl rfl rfl rfl ?_
      refine LW_goto (tgt := 18) rfl rfl ?_
      refine X_iload_n rfl rfl rfl rfl ?_
      refine X_aload_nS rfl rfl rfl rfl ?_
      refine LW_slenX (v := (6 : Int32)) rfl rfl hx rfl ?_
      refine X_bipush (v := (6 : Int32)) rfl rfl rfl ?_
      refine X_isub (v := (0 : Int32)) rfl rfl rfl ?_
      refine X_icmp_gt (tgt := 1474) rfl rfl rfl (fun _ => ?_) (fun q => absurd q (by decide))
      refine X_iconst (v := (1 : Int32)) rfl rfl rfl ?_
      exact LW_ireturn (st := []) rfl rfl rfl rfl
set_option maxRecDepth 10000 in
set_option maxHeartbeats 40000000 in
theorem law_34 {g : LH} {xs : Nat → Int32} (F : Fc g) (E : Fr g) (hx : Gx g = some (6, xs))  : LW 322 31 0 0 1294 [some (.retAddr 0), some (.ref 0), some (.ref 355), some (.int (0 : Int32))] [] g (fun v _ => v = some (.int 1)) := by
  refine X_aload_n rfl rfl rfl rfl ?_
  refine X_aload_nS rfl rfl rfl rfl ?_
  refine X_iload_n rfl rfl rfl rfl ?_
  refine X_iconst (v := (1 : Int32)) rfl rfl rfl ?_
  refine X_iadd (v := (1 : Int32)) rfl rfl rfl ?_
  refine X_sld (v := (xs 1)) rfl rfl hx (vp_in_d rfl) rfl ?_
  refine X_aload_nS rfl rfl rfl rfl ?_
  refine X_iload_n rfl rfl rfl rfl ?_
  refine X_iconst (v := (2 : Int32)) rfl rfl rfl ?_
  refine X_iadd (v := (2 : Int32)) rfl rfl rfl ?_
  refine X_sld (v := (xs 2)) rfl rfl hx (vp_in_d rfl) rfl ?_
  refine X_aload_nS rfl rfl rfl rfl ?_
  refine X_iload_n rfl rfl rfl rfl ?_
  refine X_iconst (v := (3 : Int32)) rfl rfl rfl ?_
  refine X_iadd (v := (3 : Int32)) rfl rfl rfl ?_
  refine X_sld (v := (xs 3)) rfl rfl hx (vp_in_d rfl) rfl ?_
  refine X_if_eq (tgt := 1317) rfl rfl rfl (fun h1 => ?_) (fun h1 => ?_)
  · refine X_iconst (v := (0 : Int32)) rfl rfl rfl ?_
    refine Y_callV (as := [.int (xs 1), .int (xs 2), .int (0 : Int32)]) (st := []) rfl rfl rfl (by decide) rfl (Nat.le_of_ble_eq_true rfl) (by decide) (Nat.le_of_ble_eq_true rfl) rfl ((congrFun F.1 0).trans s_0) (by decide) (LW_gx (c_printed0 F E (xs 1) (xs 2))) ?_
    rintro _ g' ⟨⟨rfl, E'⟩, hx'⟩
    have hx := hx'.trans hx
    refine X_aload_n rfl rfl rfl rfl ?_
    refine X_aload_nS rfl rfl rfl rfl ?_
    refine X_iload_n rfl rfl rfl rfl ?_
    refine X_iconst (v := (1 : Int32)) rfl rfl rfl ?_
    refine X_iadd (v := (1 : Int32)) rfl rfl rfl ?_
    refine X_sld (v := (xs 1)) rfl rfl hx (vp_in_d rfl) rfl ?_
    refine X_aload_nS rfl rfl rfl rfl ?_
    refine X_iload_n rfl rfl rfl rfl ?_
    refine X_iconst (v := (2 : Int32)) rfl rfl rfl ?_
    refine X_iadd (v := (2 : Int32)) rfl rfl rfl ?_
    refine X_sld (v := (xs 2)) rfl rfl hx (vp_in_d rfl) rfl ?_
    refine X_aload_nS rfl rfl rfl rfl ?_
    refine X_iload_n rfl rfl rfl rfl ?_
    refine X_iconst (v := (3 : Int32)) rfl rfl rfl ?_
    refine X_iadd (v := (3 : Int32)) rfl rfl rfl ?_
    refine X_sld (v := (xs 3)) rfl rfl hx (vp_in_d rfl) rfl ?_
    refine X_if_eq (tgt := 1344) rfl rfl rfl (fun h2 => ?_) (fun h2 => ?_)
    · refine X_iconst (v := (0 : Int32)) rfl rfl rfl ?_
      refine Y_callV (as := [.int (xs 1), .int (xs 2), .int (0 : Int32)]) (st := [.int (f_printed0 (xs 1) (xs 2))]) rfl rfl rfl (by decide) rfl (Nat.le_of_ble_eq_true rfl) (by decide) (Nat.le_of_ble_eq_true rfl) rfl ((congrFun E'.1 355).trans s_355) (by decide) (LW_gx (r_printed0 E' (xs 1) (xs 2))) ?_
      rintro _ g'' ⟨rfl, hx''⟩
      have hx := hx''.trans hx
      refine X_icmp_eq (tgt := 1468) rfl rfl rfl (fun _ => ?_) (fun q => absurd rfl q)
      refine X_iinc (v := (6 : Int32)) (ls' := [some (.retAddr 0), some (.ref 0), some (.ref 355), some (.int (6 : Int32))]) rfl rfl rfl rfl rfl ?_
      refine LW_goto (tgt := 18) rfl rfl ?_
      refine X_iload_n rfl rfl rfl rfl ?_
      refine X_aload_nS rfl rfl rfl rfl ?_
      refine LW_slenX (v := (6 : Int32)) rfl rfl hx rfl ?_
      refine X_bipush (v := (6 : Int32)) rfl rfl rfl ?_
      refine X_isub (v := (0 : Int32)) rfl rfl rfl ?_
      refine X_icmp_gt (tgt := 1474) rfl rfl rfl (fun _ => ?_) (fun q => absurd q (by decide))
      refine X_iconst (v := (1 : Int32)) rfl rfl rfl ?_
      exact LW_ireturn (st := []) rfl rfl rfl rfl
    · exfalso
      simp only [Int32.lt_iff_toInt_lt, Int32.le_iff_toInt_le, ← Int32.toInt_inj, (show (0 : Int32).toInt = 0 from rfl)] at h1 h2
      omega
  · refine X_iconst (v := (1 : Int32)) rfl rfl rfl ?_
    refine LW_goto (tgt := 1318) rfl rfl ?_
    refine Y_callV (as := [.int (xs 1), .int (xs 2), .int (1 : Int32)]) (st := []) rfl rfl rfl (by decide) rfl (Nat.le_of_ble_eq_true rfl) (by decide) (Nat.le_of_ble_eq_true rfl) rfl ((congrFun F.1 0).trans s_0) (by decide) (LW_gx (c_printed1 F E (xs 1) (xs 2))) ?_
    rintro _ g' ⟨⟨rfl, E'⟩, hx'⟩
    have hx := hx'.trans hx
    refine X_aload_n rfl rfl rfl rfl ?_
    refine X_aload_nS rfl rfl rfl rfl ?_
    refine X_iload_n rfl rfl rfl rfl ?_
    refine X_iconst (v := (1 : Int32)) rfl rfl rfl ?_
    refine X_iadd (v := (1 : Int32)) rfl rfl rfl ?_
    refine X_sld (v := (xs 1)) rfl rfl hx (vp_in_d rfl) rfl ?_
    refine X_aload_nS rfl rfl rfl rfl ?_
    refine X_iload_n rfl rfl rfl rfl ?_
    refine X_iconst (v := (2 : Int32)) rfl rfl rfl ?_
    refine X_iadd (v := (2 : Int32)) rfl rfl rfl ?_
    refine X_sld (v := (xs 2)) rfl rfl hx (vp_in_d rfl) rfl ?_
    refine X_aload_nS rfl rfl rfl rfl ?_
    refine X_iload_n rfl rfl rfl rfl ?_
    refine X_iconst (v := (3 : Int32)) rfl rfl rfl ?_
    refine X_iadd (v := (3 : Int32)) rfl rfl rfl ?_
    refine X_sld (v := (xs 3)) rfl rfl hx (vp_in_d rfl) rfl ?_
    refine X_if_eq (tgt := 1344) rfl rfl rfl (fun h3 => ?_) (fun h3 => ?_)
    · exfalso
      simp only [Int32.lt_iff_toInt_lt, Int32.le_iff_toInt_le, ← Int32.toInt_inj, (show (0 : Int32).toInt = 0 from rfl)] at h1 h3
      omega
    · refine X_iconst (v := (1 : Int32)) rfl rfl rfl ?_
      refine LW_goto (tgt := 1345) rfl rfl ?_
      refine Y_callV (as := [.int (xs 1), .int (xs 2), .int (1 : Int32)]) (st := [.int (f_printed1 (xs 1) (xs 2))]) rfl rfl rfl (by decide) rfl (Nat.le_of_ble_eq_true rfl) (by decide) (Nat.le_of_ble_eq_true rfl) rfl ((congrFun E'.1 355).trans s_355) (by decide) (LW_gx (r_printed1 E' (xs 1) (xs 2))) ?_
      rintro _ g'' ⟨rfl, hx''⟩
      have hx := hx''.trans hx
      refine X_icmp_eq (tgt := 1468) rfl rfl rfl (fun _ => ?_) (fun q => absurd rfl q)
      refine X_iinc (v := (6 : Int32)) (ls' := [some (.retAddr 0), some (.ref 0), some (.ref 355), some (.int (6 : Int32))]) rfl rfl rfl rfl rfl ?_
      refine LW_goto (tgt := 18) rfl rfl ?_
      refine X_iload_n rfl rfl rfl rfl ?_
      refine X_aload_nS rfl rfl rfl rfl ?_
      refine LW_slenX (v := (6 : Int32)) rfl rfl hx rfl ?_
      refine X_bipush (v := (6 : Int32)) rfl rfl rfl ?_
      refine X_isub (v := (0 : Int32)) rfl rfl rfl ?_
      refine X_icmp_gt (tgt := 1474) rfl rfl rfl (fun _ => ?_) (fun q => absurd q (by decide))
      refine X_iconst (v := (1 : Int32)) rfl rfl rfl ?_
      exact LW_ireturn (st := []) rfl rfl rfl rfl
set_option maxRecDepth 10000 in
set_option maxHeartbeats 40000000 in
theorem law_8_in {g : LH} {xs : Nat → Int32} (F : Fc g) (E : Fr g) (hx : Gx g = some (6, xs)) {n : Nat} (h0 : 1 ≤ n) (hn : n ≤ 99) (hx1 : xs 1 = nI n) : LW 322 31 0 0 452 [some (.retAddr 0), some (.ref 0), some (.ref 355), some (.int (0 : Int32))] [] g (fun v _ => v = some (.int 1)) := by
  refine X_aload_n rfl rfl rfl rfl ?_
  refine X_aload_nS rfl rfl rfl rfl ?_
  refine X_iload_n rfl rfl rfl rfl ?_
  refine X_iconst (v := (1 : Int32)) rfl rfl rfl ?_
  refine X_iadd (v := (1 : Int32)) rfl rfl rfl ?_
  refine X_sld (v := (nI (n))) rfl rfl hx (vp_in_d rfl) hx1 ?_
  refine Y_callV (as := [.int (nI (n))]) (st := []) rfl rfl rfl (by decide) rfl (Nat.le_of_ble_eq_true rfl) (by decide) (Nat.le_of_ble_eq_true rfl) rfl ((congrFun F.1 0).trans s_0) (by decide) (LW_gx (c_morning_in F E h0 hn)) ?_
  rintro _ g' ⟨⟨rfl, E'⟩, hx'⟩
  have hx := hx'.trans hx
  refine X_aload_n rfl rfl rfl rfl ?_
  refine X_aload_nS rfl rfl rfl rfl ?_
  refine X_iload_n rfl rfl rfl rfl ?_
  refine X_iconst (v := (1 : Int32)) rfl rfl rfl ?_
  refine X_iadd (v := (1 : Int32)) rfl rfl rfl ?_
  refine X_sld (v := (nI (n))) rfl rfl hx (vp_in_d rfl) hx1 ?_
  refine Y_callV (as := [.int (nI (n))]) (st := [.int (0 : Int32)]) rfl rfl rfl (by decide) rfl (Nat.le_of_ble_eq_true rfl) (by decide) (Nat.le_of_ble_eq_true rfl) rfl ((congrFun E'.1 355).trans s_355) (by decide) (LW_gx (r_morning_in E' h0 hn)) ?_
  rintro _ g'' ⟨rfl, hx''⟩
  have hx := hx''.trans hx
  refine X_icmp_eq (tgt := 1468) rfl rfl rfl (fun _ => ?_) (fun q => absurd q (by decide))
  refine X_iinc (v := (6 : Int32)) (ls' := [some (.retAddr 0), some (.ref 0), some (.ref 355), some (.int (6 : Int32))]) rfl rfl rfl rfl rfl ?_
  refine LW_goto (tgt := 18) rfl rfl ?_
  refine X_iload_n rfl rfl rfl rfl ?_
  refine X_aload_nS rfl rfl rfl rfl ?_
  refine LW_slenX (v := (6 : Int32)) rfl rfl hx rfl ?_
  refine X_bipush (v := (6 : Int32)) rfl rfl rfl ?_
  refine X_isub (v := (0 : Int32)) rfl rfl rfl ?_
  refine X_icmp_gt (tgt := 1474) rfl rfl rfl (fun _ => ?_) (fun q => absurd q (by decide))
  refine X_iconst (v := (1 : Int32)) rfl rfl rfl ?_
  exact LW_ireturn (st := []) rfl rfl rfl rfl
set_option maxRecDepth 10000 in
set_option maxHeartbeats 40000000 in
theorem law_8_out {g : LH} {xs : Nat → Int32} (F : Fc g) (E : Fr g) (hx : Gx g = some (6, xs)) (hr : ¬ (1 ≤ (xs 1).toInt ∧ (xs 1).toInt ≤ 99)) : LW 322 31 0 0 452 [some (.retAddr 0), some (.ref 0), some (.ref 355), some (.int (0 : Int32))] [] g (fun v _ => v = some (.int 1)) := by
  refine X_aload_n rfl rfl rfl rfl ?_
  refine X_aload_nS rfl rfl rfl rfl ?_
  refine X_iload_n rfl rfl rfl rfl ?_
  refine X_iconst (v := (1 : Int32)) rfl rfl rfl ?_
  refine X_iadd (v := (1 : Int32)) rfl rfl rfl ?_
  refine X_sld (v := (xs 1)) rfl rfl hx (vp_in_d rfl) rfl ?_
  refine Y_callV (as := [.int (xs 1)]) (st := []) rfl rfl rfl (by decide) rfl (Nat.le_of_ble_eq_true rfl) (by decide) (Nat.le_of_ble_eq_true rfl) rfl ((congrFun F.1 0).trans s_0) (by decide) (LW_gx (c_morning_out F E (xs 1) hr)) ?_
  rintro _ g' ⟨⟨rfl, E'⟩, hx'⟩
  have hx := hx'.trans hx
  refine X_aload_n rfl rfl rfl rfl ?_
  refine X_aload_nS rfl rfl rfl rfl ?_
  refine X_iload_n rfl rfl rfl rfl ?_
  refine X_iconst (v := (1 : Int32)) rfl rfl rfl ?_
  refine X_iadd (v := (1 : Int32)) rfl rfl rfl ?_
  refine X_sld (v := (xs 1)) rfl rfl hx (vp_in_d rfl) rfl ?_
  refine Y_callV (as := [.int (xs 1)]) (st := [.int (-1 : Int32)]) rfl rfl rfl (by decide) rfl (Nat.le_of_ble_eq_true rfl) (by decide) (Nat.le_of_ble_eq_true rfl) rfl ((congrFun E'.1 355).trans s_355) (by decide) (LW_gx (r_morning_out E' (xs 1) hr)) ?_
  rintro _ g'' ⟨rfl, hx''⟩
  have hx := hx''.trans hx
  refine X_icmp_eq (tgt := 1468) rfl rfl rfl (fun _ => ?_) (fun q => absurd q (by decide))
  refine X_iinc (v := (6 : Int32)) (ls' := [some (.retAddr 0), some (.ref 0), some (.ref 355), some (.int (6 : Int32))]) rfl rfl rfl rfl rfl ?_
  refine LW_goto (tgt := 18) rfl rfl ?_
  refine X_iload_n rfl rfl rfl rfl ?_
  refine X_aload_nS rfl rfl rfl rfl ?_
  refine LW_slenX (v := (6 : Int32)) rfl rfl hx rfl ?_
  refine X_bipush (v := (6 : Int32)) rfl rfl rfl ?_
  refine X_isub (v := (0 : Int32)) rfl rfl rfl ?_
  refine X_icmp_gt (tgt := 1474) rfl rfl rfl (fun _ => ?_) (fun q => absurd q (by decide))
  refine X_iconst (v := (1 : Int32)) rfl rfl rfl ?_
  exact LW_ireturn (st := []) rfl rfl rfl rfl
set_option maxRecDepth 10000 in
set_option maxHeartbeats 40000000 in
theorem law_9_in {g : LH} {xs : Nat → Int32} (F : Fc g) (E : Fr g) (hx : Gx g = some (6, xs)) {n : Nat} (h0 : 1 ≤ n) (hn : n < 67108864) (hp : 1 ≤ pcn 32 n) (hp2 : pcn 32 n ≤ 32) (hx1 : xs 1 = nI n) : LW 322 31 0 0 475 [some (.retAddr 0), some (.ref 0), some (.ref 355), some (.int (0 : Int32))] [] g (fun v _ => v = some (.int 1)) := by
  refine X_aload_n rfl rfl rfl rfl ?_
  refine X_aload_nS rfl rfl rfl rfl ?_
  refine X_iload_n rfl rfl rfl rfl ?_
  refine X_iconst (v := (1 : Int32)) rfl rfl rfl ?_
  refine X_iadd (v := (1 : Int32)) rfl rfl rfl ?_
  refine X_sld (v := (nI (n))) rfl rfl hx (vp_in_d rfl) hx1 ?_
  refine Y_callV (as := [.int (nI (n))]) (st := []) rfl rfl rfl (by decide) rfl (Nat.le_of_ble_eq_true rfl) (by decide) (Nat.le_of_ble_eq_true rfl) rfl ((congrFun F.1 0).trans s_0) (by decide) (LW_gx (c_strike_in F E h0 hn hp hp2)) ?_
  rintro _ g' ⟨⟨rfl, E'⟩, hx'⟩
  have hx := hx'.trans hx
  refine X_aload_n rfl rfl rfl rfl ?_
  refine X_aload_nS rfl rfl rfl rfl ?_
  refine X_iload_n rfl rfl rfl rfl ?_
  refine X_iconst (v := (1 : Int32)) rfl rfl rfl ?_
  refine X_iadd (v := (1 : Int32)) rfl rfl rfl ?_
  refine X_sld (v := (nI (n))) rfl rfl hx (vp_in_d rfl) hx1 ?_
  refine Y_callV (as := [.int (nI (n))]) (st := [.int (nI (pcn 32 n))]) rfl rfl rfl (by decide) rfl (Nat.le_of_ble_eq_true rfl) (by decide) (Nat.le_of_ble_eq_true rfl) rfl ((congrFun E'.1 355).trans s_355) (by decide) (LW_gx (r_strike_in E' h0 hn)) ?_
  rintro _ g'' ⟨rfl, hx''⟩
  have hx := hx''.trans hx
  refine X_icmp_eq (tgt := 1468) rfl rfl rfl (fun _ => ?_) (fun q => absurd rfl q)
  refine X_iinc (v := (6 : Int32)) (ls' := [some (.retAddr 0), some (.ref 0), some (.ref 355), some (.int (6 : Int32))]) rfl rfl rfl rfl rfl ?_
  refine LW_goto (tgt := 18) rfl rfl ?_
  refine X_iload_n rfl rfl rfl rfl ?_
  refine X_aload_nS rfl rfl rfl rfl ?_
  refine LW_slenX (v := (6 : Int32)) rfl rfl hx rfl ?_
  refine X_bipush (v := (6 : Int32)) rfl rfl rfl ?_
  refine X_isub (v := (0 : Int32)) rfl rfl rfl ?_
  refine X_icmp_gt (tgt := 1474) rfl rfl rfl (fun _ => ?_) (fun q => absurd q (by decide))
  refine X_iconst (v := (1 : Int32)) rfl rfl rfl ?_
  exact LW_ireturn (st := []) rfl rfl rfl rfl
set_option maxRecDepth 10000 in
set_option maxHeartbeats 40000000 in
theorem law_9_out {g : LH} {xs : Nat → Int32} (F : Fc g) (E : Fr g) (hx : Gx g = some (6, xs)) (hr : ¬ (1 ≤ (xs 1).toInt ∧ (xs 1).toInt ≤ 67108863)) : LW 322 31 0 0 475 [some (.retAddr 0), some (.ref 0), some (.ref 355), some (.int (0 : Int32))] [] g (fun v _ => v = some (.int 1)) := by
  refine X_aload_n rfl rfl rfl rfl ?_
  refine X_aload_nS rfl rfl rfl rfl ?_
  refine X_iload_n rfl rfl rfl rfl ?_
  refine X_iconst (v := (1 : Int32)) rfl rfl rfl ?_
  refine X_iadd (v := (1 : Int32)) rfl rfl rfl ?_
  refine X_sld (v := (xs 1)) rfl rfl hx (vp_in_d rfl) rfl ?_
  refine Y_callV (as := [.int (xs 1)]) (st := []) rfl rfl rfl (by decide) rfl (Nat.le_of_ble_eq_true rfl) (by decide) (Nat.le_of_ble_eq_true rfl) rfl ((congrFun F.1 0).trans s_0) (by decide) (LW_gx (c_strike_out F E (xs 1) hr)) ?_
  rintro _ g' ⟨⟨rfl, E'⟩, hx'⟩
  have hx := hx'.trans hx
  refine X_aload_n rfl rfl rfl rfl ?_
  refine X_aload_nS rfl rfl rfl rfl ?_
  refine X_iload_n rfl rfl rfl rfl ?_
  refine X_iconst (v := (1 : Int32)) rfl rfl rfl ?_
  refine X_iadd (v := (1 : Int32)) rfl rfl rfl ?_
  refine X_sld (v := (xs 1)) rfl rfl hx (vp_in_d rfl) rfl ?_
  refine Y_callV (as := [.int (xs 1)]) (st := [.int (-1 : Int32)]) rfl rfl rfl (by decide) rfl (Nat.le_of_ble_eq_true rfl) (by decide) (Nat.le_of_ble_eq_true rfl) rfl ((congrFun E'.1 355).trans s_355) (by decide) (LW_gx (r_strike_out E' (xs 1) hr)) ?_
  rintro _ g'' ⟨rfl, hx''⟩
  have hx := hx''.trans hx
  refine X_icmp_eq (tgt := 1468) rfl rfl rfl (fun _ => ?_) (fun q => absurd q (by decide))
  refine X_iinc (v := (6 : Int32)) (ls' := [some (.retAddr 0), some (.ref 0), some (.ref 355), some (.int (6 : Int32))]) rfl rfl rfl rfl rfl ?_
  refine LW_goto (tgt := 18) rfl rfl ?_
  refine X_iload_n rfl rfl rfl rfl ?_
  refine X_aload_nS rfl rfl rfl rfl ?_
  refine LW_slenX (v := (6 : Int32)) rfl rfl hx rfl ?_
  refine X_bipush (v := (6 : Int32)) rfl rfl rfl ?_
  refine X_isub (v := (0 : Int32)) rfl rfl rfl ?_
  refine X_icmp_gt (tgt := 1474) rfl rfl rfl (fun _ => ?_) (fun q => absurd q (by decide))
  refine X_iconst (v := (1 : Int32)) rfl rfl rfl ?_
  exact LW_ireturn (st := []) rfl rfl rfl rfl
set_option maxRecDepth 10000 in
set_option maxHeartbeats 40000000 in
theorem law_10_in {g : LH} {xs : Nat → Int32} (F : Fc g) (E : Fr g) (hx : Gx g = some (6, xs)) {n : Nat} (h0 : 1 ≤ n) (hn : n < 67108864) (hx1 : xs 1 = nI n) : LW 322 31 0 0 498 [some (.retAddr 0), some (.ref 0), some (.ref 355), some (.int (0 : Int32))] [] g (fun v _ => v = some (.int 1)) := by
  refine X_aload_n rfl rfl rfl rfl ?_
  refine X_aload_nS rfl rfl rfl rfl ?_
  refine X_iload_n rfl rfl rfl rfl ?_
  refine X_iconst (v := (1 : Int32)) rfl rfl rfl ?_
  refine X_iadd (v := (1 : Int32)) rfl rfl rfl ?_
  refine X_sld (v := (nI (n))) rfl rfl hx (vp_in_d rfl) hx1 ?_
  refine Y_callV (as := [.int (nI (n))]) (st := []) rfl rfl rfl (by decide) rfl (Nat.le_of_ble_eq_true rfl) (by decide) (Nat.le_of_ble_eq_true rfl) rfl ((congrFun F.1 0).trans s_0) (by decide) (LW_gx (c_comeBack_in F E h0 hn)) ?_
  rintro _ g' ⟨⟨rfl, E'⟩, hx'⟩
  have hx := hx'.trans hx
  refine X_aload_n rfl rfl rfl rfl ?_
  refine X_aload_nS rfl rfl rfl rfl ?_
  refine X_iload_n rfl rfl rfl rfl ?_
  refine X_iconst (v := (1 : Int32)) rfl rfl rfl ?_
  refine X_iadd (v := (1 : Int32)) rfl rfl rfl ?_
  refine X_sld (v := (nI (n))) rfl rfl hx (vp_in_d rfl) hx1 ?_
  refine Y_callV (as := [.int (nI (n))]) (st := [.int (-1 : Int32)]) rfl rfl rfl (by decide) rfl (Nat.le_of_ble_eq_true rfl) (by decide) (Nat.le_of_ble_eq_true rfl) rfl ((congrFun E'.1 355).trans s_355) (by decide) (LW_gx (r_comeBack_in E' h0 hn)) ?_
  rintro _ g'' ⟨rfl, hx''⟩
  have hx := hx''.trans hx
  refine X_icmp_eq (tgt := 1468) rfl rfl rfl (fun _ => ?_) (fun q => absurd q (by decide))
  refine X_iinc (v := (6 : Int32)) (ls' := [some (.retAddr 0), some (.ref 0), some (.ref 355), some (.int (6 : Int32))]) rfl rfl rfl rfl rfl ?_
  refine LW_goto (tgt := 18) rfl rfl ?_
  refine X_iload_n rfl rfl rfl rfl ?_
  refine X_aload_nS rfl rfl rfl rfl ?_
  refine LW_slenX (v := (6 : Int32)) rfl rfl hx rfl ?_
  refine X_bipush (v := (6 : Int32)) rfl rfl rfl ?_
  refine X_isub (v := (0 : Int32)) rfl rfl rfl ?_
  refine X_icmp_gt (tgt := 1474) rfl rfl rfl (fun _ => ?_) (fun q => absurd q (by decide))
  refine X_iconst (v := (1 : Int32)) rfl rfl rfl ?_
  exact LW_ireturn (st := []) rfl rfl rfl rfl
set_option maxRecDepth 10000 in
set_option maxHeartbeats 40000000 in
theorem law_10_out {g : LH} {xs : Nat → Int32} (F : Fc g) (E : Fr g) (hx : Gx g = some (6, xs)) (hr : ¬ (1 ≤ (xs 1).toInt ∧ (xs 1).toInt ≤ 67108863)) : LW 322 31 0 0 498 [some (.retAddr 0), some (.ref 0), some (.ref 355), some (.int (0 : Int32))] [] g (fun v _ => v = some (.int 1)) := by
  refine X_aload_n rfl rfl rfl rfl ?_
  refine X_aload_nS rfl rfl rfl rfl ?_
  refine X_iload_n rfl rfl rfl rfl ?_
  refine X_iconst (v := (1 : Int32)) rfl rfl rfl ?_
  refine X_iadd (v := (1 : Int32)) rfl rfl rfl ?_
  refine X_sld (v := (xs 1)) rfl rfl hx (vp_in_d rfl) rfl ?_
  refine Y_callV (as := [.int (xs 1)]) (st := []) rfl rfl rfl (by decide) rfl (Nat.le_of_ble_eq_true rfl) (by decide) (Nat.le_of_ble_eq_true rfl) rfl ((congrFun F.1 0).trans s_0) (by decide) (LW_gx (c_comeBack_out F E (xs 1) hr)) ?_
  rintro _ g' ⟨⟨rfl, E'⟩, hx'⟩
  have hx := hx'.trans hx
  refine X_aload_n rfl rfl rfl rfl ?_
  refine X_aload_nS rfl rfl rfl rfl ?_
  refine X_iload_n rfl rfl rfl rfl ?_
  refine X_iconst (v := (1 : Int32)) rfl rfl rfl ?_
  refine X_iadd (v := (1 : Int32)) rfl rfl rfl ?_
  refine X_sld (v := (xs 1)) rfl rfl hx (vp_in_d rfl) rfl ?_
  refine Y_callV (as := [.int (xs 1)]) (st := [.int (-1 : Int32)]) rfl rfl rfl (by decide) rfl (Nat.le_of_ble_eq_true rfl) (by decide) (Nat.le_of_ble_eq_true rfl) rfl ((congrFun E'.1 355).trans s_355) (by decide) (LW_gx (r_comeBack_out E' (xs 1) hr)) ?_
  rintro _ g'' ⟨rfl, hx''⟩
  have hx := hx''.trans hx
  refine X_icmp_eq (tgt := 1468) rfl rfl rfl (fun _ => ?_) (fun q => absurd q (by decide))
  refine X_iinc (v := (6 : Int32)) (ls' := [some (.retAddr 0), some (.ref 0), some (.ref 355), some (.int (6 : Int32))]) rfl rfl rfl rfl rfl ?_
  refine LW_goto (tgt := 18) rfl rfl ?_
  refine X_iload_n rfl rfl rfl rfl ?_
  refine X_aload_nS rfl rfl rfl rfl ?_
  refine LW_slenX (v := (6 : Int32)) rfl rfl hx rfl ?_
  refine X_bipush (v := (6 : Int32)) rfl rfl rfl ?_
  refine X_isub (v := (0 : Int32)) rfl rfl rfl ?_
  refine X_icmp_gt (tgt := 1474) rfl rfl rfl (fun _ => ?_) (fun q => absurd q (by decide))
  refine X_iconst (v := (1 : Int32)) rfl rfl rfl ?_
  exact LW_ireturn (st := []) rfl rfl rfl rfl
set_option maxRecDepth 10000 in
set_option maxHeartbeats 40000000 in
theorem law_11 {g : LH} {xs : Nat → Int32} (F : Fc g) (E : Fr g) (hx : Gx g = some (6, xs))  : LW 322 31 0 0 521 [some (.retAddr 0), some (.ref 0), some (.ref 355), some (.int (0 : Int32))] [] g (fun v _ => v = some (.int 1)) := by
  refine X_aload_n rfl rfl rfl rfl ?_
  refine X_aload_nS rfl rfl rfl rfl ?_
  refine X_iload_n rfl rfl rfl rfl ?_
  refine X_iconst (v := (1 : Int32)) rfl rfl rfl ?_
  refine X_iadd (v := (1 : Int32)) rfl rfl rfl ?_
  refine X_sld (v := (xs 1)) rfl rfl hx (vp_in_d rfl) rfl ?_
  refine X_aload_nS rfl rfl rfl rfl ?_
  refine X_iload_n rfl rfl rfl rfl ?_
  refine X_iconst (v := (2 : Int32)) rfl rfl rfl ?_
  refine X_iadd (v := (2 : Int32)) rfl rfl rfl ?_
  refine X_sld (v := (xs 2)) rfl rfl hx (vp_in_d rfl) rfl ?_
  refine Y_callV (as := [.int (xs 1), .int (xs 2)]) (st := []) rfl rfl rfl (by decide) rfl (Nat.le_of_ble_eq_true rfl) (by decide) (Nat.le_of_ble_eq_true rfl) rfl ((congrFun F.1 0).trans s_0) (by decide) (LW_gx (c_raise F E (xs 1) (xs 2))) ?_
  rintro _ g' ⟨⟨rfl, E'⟩, hx'⟩
  have hx := hx'.trans hx
  refine X_aload_n rfl rfl rfl rfl ?_
  refine X_aload_nS rfl rfl rfl rfl ?_
  refine X_iload_n rfl rfl rfl rfl ?_
  refine X_iconst (v := (1 : Int32)) rfl rfl rfl ?_
  refine X_iadd (v := (1 : Int32)) rfl rfl rfl ?_
  refine X_sld (v := (xs 1)) rfl rfl hx (vp_in_d rfl) rfl ?_
  refine X_aload_nS rfl rfl rfl rfl ?_
  refine X_iload_n rfl rfl rfl rfl ?_
  refine X_iconst (v := (2 : Int32)) rfl rfl rfl ?_
  refine X_iadd (v := (2 : Int32)) rfl rfl rfl ?_
  refine X_sld (v := (xs 2)) rfl rfl hx (vp_in_d rfl) rfl ?_
  refine Y_callV (as := [.int (xs 1), .int (xs 2)]) (st := [.int (f_raise (xs 1) (xs 2))]) rfl rfl rfl (by decide) rfl (Nat.le_of_ble_eq_true rfl) (by decide) (Nat.le_of_ble_eq_true rfl) rfl ((congrFun E'.1 355).trans s_355) (by decide) (LW_gx (r_raise E' (xs 1) (xs 2))) ?_
  rintro _ g'' ⟨rfl, hx''⟩
  have hx := hx''.trans hx
  refine X_icmp_eq (tgt := 1468) rfl rfl rfl (fun _ => ?_) (fun q => absurd rfl q)
  refine X_iinc (v := (6 : Int32)) (ls' := [some (.retAddr 0), some (.ref 0), some (.ref 355), some (.int (6 : Int32))]) rfl rfl rfl rfl rfl ?_
  refine LW_goto (tgt := 18) rfl rfl ?_
  refine X_iload_n rfl rfl rfl rfl ?_
  refine X_aload_nS rfl rfl rfl rfl ?_
  refine LW_slenX (v := (6 : Int32)) rfl rfl hx rfl ?_
  refine X_bipush (v := (6 : Int32)) rfl rfl rfl ?_
  refine X_isub (v := (0 : Int32)) rfl rfl rfl ?_
  refine X_icmp_gt (tgt := 1474) rfl rfl rfl (fun _ => ?_) (fun q => absurd q (by decide))
  refine X_iconst (v := (1 : Int32)) rfl rfl rfl ?_
  exact LW_ireturn (st := []) rfl rfl rfl rfl
set_option maxRecDepth 10000 in
set_option maxHeartbeats 40000000 in
theorem law_12 {g : LH} {xs : Nat → Int32} (F : Fc g) (E : Fr g) (hx : Gx g = some (6, xs))  : LW 322 31 0 0 554 [some (.retAddr 0), some (.ref 0), some (.ref 355), some (.int (0 : Int32))] [] g (fun v _ => v = some (.int 1)) := by
  refine X_aload_n rfl rfl rfl rfl ?_
  refine X_aload_nS rfl rfl rfl rfl ?_
  refine X_iload_n rfl rfl rfl rfl ?_
  refine X_iconst (v := (1 : Int32)) rfl rfl rfl ?_
  refine X_iadd (v := (1 : Int32)) rfl rfl rfl ?_
  refine X_sld (v := (xs 1)) rfl rfl hx (vp_in_d rfl) rfl ?_
  refine X_aload_nS rfl rfl rfl rfl ?_
  refine X_iload_n rfl rfl rfl rfl ?_
  refine X_iconst (v := (2 : Int32)) rfl rfl rfl ?_
  refine X_iadd (v := (2 : Int32)) rfl rfl rfl ?_
  refine X_sld (v := (xs 2)) rfl rfl hx (vp_in_d rfl) rfl ?_
  refine Y_callV (as := [.int (xs 1), .int (xs 2)]) (st := []) rfl rfl rfl (by decide) rfl (Nat.le_of_ble_eq_true rfl) (by decide) (Nat.le_of_ble_eq_true rfl) rfl ((congrFun F.1 0).trans s_0) (by decide) (LW_gx (c_sign F E (xs 1) (xs 2))) ?_
  rintro _ g' ⟨⟨rfl, E'⟩, hx'⟩
  have hx := hx'.trans hx
  refine X_aload_n rfl rfl rfl rfl ?_
  refine X_aload_nS rfl rfl rfl rfl ?_
  refine X_iload_n rfl rfl rfl rfl ?_
  refine X_iconst (v := (1 : Int32)) rfl rfl rfl ?_
  refine X_iadd (v := (1 : Int32)) rfl rfl rfl ?_
  refine X_sld (v := (xs 1)) rfl rfl hx (vp_in_d rfl) rfl ?_
  refine X_aload_nS rfl rfl rfl rfl ?_
  refine X_iload_n rfl rfl rfl rfl ?_
  refine X_iconst (v := (2 : Int32)) rfl rfl rfl ?_
  refine X_iadd (v := (2 : Int32)) rfl rfl rfl ?_
  refine X_sld (v := (xs 2)) rfl rfl hx (vp_in_d rfl) rfl ?_
  refine Y_callV (as := [.int (xs 1), .int (xs 2)]) (st := [.int (f_sign (xs 1) (xs 2))]) rfl rfl rfl (by decide) rfl (Nat.le_of_ble_eq_true rfl) (by decide) (Nat.le_of_ble_eq_true rfl) rfl ((congrFun E'.1 355).trans s_355) (by decide) (LW_gx (r_sign E' (xs 1) (xs 2))) ?_
  rintro _ g'' ⟨rfl, hx''⟩
  have hx := hx''.trans hx
  refine X_icmp_eq (tgt := 1468) rfl rfl rfl (fun _ => ?_) (fun q => absurd rfl q)
  refine X_iinc (v := (6 : Int32)) (ls' := [some (.retAddr 0), some (.ref 0), some (.ref 355), some (.int (6 : Int32))]) rfl rfl rfl rfl rfl ?_
  refine LW_goto (tgt := 18) rfl rfl ?_
  refine X_iload_n rfl rfl rfl rfl ?_
  refine X_aload_nS rfl rfl rfl rfl ?_
  refine LW_slenX (v := (6 : Int32)) rfl rfl hx rfl ?_
  refine X_bipush (v := (6 : Int32)) rfl rfl rfl ?_
  refine X_isub (v := (0 : Int32)) rfl rfl rfl ?_
  refine X_icmp_gt (tgt := 1474) rfl rfl rfl (fun _ => ?_) (fun q => absurd q (by decide))
  refine X_iconst (v := (1 : Int32)) rfl rfl rfl ?_
  exact LW_ireturn (st := []) rfl rfl rfl rfl
set_option maxRecDepth 10000 in
set_option maxHeartbeats 40000000 in
theorem law_17 {g : LH} {xs : Nat → Int32} (F : Fc g) (E : Fr g) (hx : Gx g = some (6, xs))  : LW 322 31 0 0 679 [some (.retAddr 0), some (.ref 0), some (.ref 355), some (.int (0 : Int32))] [] g (fun v _ => v = some (.int 1)) := by
  refine X_aload_n rfl rfl rfl rfl ?_
  refine X_aload_nS rfl rfl rfl rfl ?_
  refine X_iload_n rfl rfl rfl rfl ?_
  refine X_iconst (v := (1 : Int32)) rfl rfl rfl ?_
  refine X_iadd (v := (1 : Int32)) rfl rfl rfl ?_
  refine X_sld (v := (xs 1)) rfl rfl hx (vp_in_d rfl) rfl ?_
  refine X_aload_nS rfl rfl rfl rfl ?_
  refine X_iload_n rfl rfl rfl rfl ?_
  refine X_iconst (v := (2 : Int32)) rfl rfl rfl ?_
  refine X_iadd (v := (2 : Int32)) rfl rfl rfl ?_
  refine X_sld (v := (xs 2)) rfl rfl hx (vp_in_d rfl) rfl ?_
  refine Y_callV (as := [.int (xs 1), .int (xs 2)]) (st := []) rfl rfl rfl (by decide) rfl (Nat.le_of_ble_eq_true rfl) (by decide) (Nat.le_of_ble_eq_true rfl) rfl ((congrFun F.1 0).trans s_0) (by decide) (LW_gx (c_of F E (xs 1) (xs 2))) ?_
  rintro _ g' ⟨⟨rfl, E'⟩, hx'⟩
  have hx := hx'.trans hx
  refine X_aload_n rfl rfl rfl rfl ?_
  refine X_aload_nS rfl rfl rfl rfl ?_
  refine X_iload_n rfl rfl rfl rfl ?_
  refine X_iconst (v := (1 : Int32)) rfl rfl rfl ?_
  refine X_iadd (v := (1 : Int32)) rfl rfl rfl ?_
  refine X_sld (v := (xs 1)) rfl rfl hx (vp_in_d rfl) rfl ?_
  refine X_aload_nS rfl rfl rfl rfl ?_
  refine X_iload_n rfl rfl rfl rfl ?_
  refine X_iconst (v := (2 : Int32)) rfl rfl rfl ?_
  refine X_iadd (v := (2 : Int32)) rfl rfl rfl ?_
  refine X_sld (v := (xs 2)) rfl rfl hx (vp_in_d rfl) rfl ?_
  refine Y_callV (as := [.int (xs 1), .int (xs 2)]) (st := [.int (f_of (xs 1) (xs 2))]) rfl rfl rfl (by decide) rfl (Nat.le_of_ble_eq_true rfl) (by decide) (Nat.le_of_ble_eq_true rfl) rfl ((congrFun E'.1 355).trans s_355) (by decide) (LW_gx (r_of E' (xs 1) (xs 2))) ?_
  rintro _ g'' ⟨rfl, hx''⟩
  have hx := hx''.trans hx
  refine X_icmp_eq (tgt := 1468) rfl rfl rfl (fun _ => ?_) (fun q => absurd rfl q)
  refine X_iinc (v := (6 : Int32)) (ls' := [some (.retAddr 0), some (.ref 0), some (.ref 355), some (.int (6 : Int32))]) rfl rfl rfl rfl rfl ?_
  refine LW_goto (tgt := 18) rfl rfl ?_
  refine X_iload_n rfl rfl rfl rfl ?_
  refine X_aload_nS rfl rfl rfl rfl ?_
  refine LW_slenX (v := (6 : Int32)) rfl rfl hx rfl ?_
  refine X_bipush (v := (6 : Int32)) rfl rfl rfl ?_
  refine X_isub (v := (0 : Int32)) rfl rfl rfl ?_
  refine X_icmp_gt (tgt := 1474) rfl rfl rfl (fun _ => ?_) (fun q => absurd q (by decide))
  refine X_iconst (v := (1 : Int32)) rfl rfl rfl ?_
  exact LW_ireturn (st := []) rfl rfl rfl rfl
set_option maxRecDepth 10000 in
set_option maxHeartbeats 40000000 in
theorem law_39 {g : LH} {xs : Nat → Int32} (F : Fc g) (E : Fr g) (hx : Gx g = some (6, xs))  : LW 322 31 0 0 1445 [some (.retAddr 0), some (.ref 0), some (.ref 355), some (.int (0 : Int32))] [] g (fun v _ => v = some (.int 1)) := by
  refine X_aload_n rfl rfl rfl rfl ?_
  refine X_aload_nS rfl rfl rfl rfl ?_
  refine X_iload_n rfl rfl rfl rfl ?_
  refine X_iconst (v := (1 : Int32)) rfl rfl rfl ?_
  refine X_iadd (v := (1 : Int32)) rfl rfl rfl ?_
  refine X_sld (v := (xs 1)) rfl rfl hx (vp_in_d rfl) rfl ?_
  refine Y_callV (as := [.int (xs 1)]) (st := []) rfl rfl rfl (by decide) rfl (Nat.le_of_ble_eq_true rfl) (by decide) (Nat.le_of_ble_eq_true rfl) rfl ((congrFun F.1 0).trans s_0) (by decide) (LW_gx (c_about F E (xs 1))) ?_
  rintro _ g' ⟨⟨rfl, E'⟩, hx'⟩
  have hx := hx'.trans hx
  refine X_aload_n rfl rfl rfl rfl ?_
  refine X_aload_nS rfl rfl rfl rfl ?_
  refine X_iload_n rfl rfl rfl rfl ?_
  refine X_iconst (v := (1 : Int32)) rfl rfl rfl ?_
  refine X_iadd (v := (1 : Int32)) rfl rfl rfl ?_
  refine X_sld (v := (xs 1)) rfl rfl hx (vp_in_d rfl) rfl ?_
  refine Y_callV (as := [.int (xs 1)]) (st := [.int (f_about (xs 1))]) rfl rfl rfl (by decide) rfl (Nat.le_of_ble_eq_true rfl) (by decide) (Nat.le_of_ble_eq_true rfl) rfl ((congrFun E'.1 355).trans s_355) (by decide) (LW_gx (r_about E' (xs 1))) ?_
  rintro _ g'' ⟨rfl, hx''⟩
  have hx := hx''.trans hx
  refine X_icmp_eq (tgt := 1468) rfl rfl rfl (fun _ => ?_) (fun q => absurd rfl q)
  refine X_iinc (v := (6 : Int32)) (ls' := [some (.retAddr 0), some (.ref 0), some (.ref 355), some (.int (6 : Int32))]) rfl rfl rfl rfl rfl ?_
  refine LW_goto (tgt := 18) rfl rfl ?_
  refine X_iload_n rfl rfl rfl rfl ?_
  refine X_aload_nS rfl rfl rfl rfl ?_
  refine LW_slenX (v := (6 : Int32)) rfl rfl hx rfl ?_
  refine X_bipush (v := (6 : Int32)) rfl rfl rfl ?_
  refine X_isub (v := (0 : Int32)) rfl rfl rfl ?_
  refine X_icmp_gt (tgt := 1474) rfl rfl rfl (fun _ => ?_) (fun q => absurd q (by decide))
  refine X_iconst (v := (1 : Int32)) rfl rfl rfl ?_
  exact LW_ireturn (st := []) rfl rfl rfl rfl
set_option maxRecDepth 10000 in
set_option maxHeartbeats 40000000 in
theorem law_15_in {g : LH} {xs : Nat → Int32} (F : Fc g) (E : Fr g) (hx : Gx g = some (6, xs)) {s n : Nat} (hs : s ≤ 9999) (h1 : 1 ≤ n) (hn : n ≤ 40) (hx1 : xs 1 = nI s) (hx2 : xs 2 = nI n) : LW 322 31 0 0 633 [some (.retAddr 0), some (.ref 0), some (.ref 355), some (.int (0 : Int32))] [] g (fun v _ => v = some (.int 1)) := by
  refine X_aload_n rfl rfl rfl rfl ?_
  refine X_aload_nS rfl rfl rfl rfl ?_
  refine X_iload_n rfl rfl rfl rfl ?_
  refine X_iconst (v := (1 : Int32)) rfl rfl rfl ?_
  refine X_iadd (v := (1 : Int32)) rfl rfl rfl ?_
  refine X_sld (v := (nI (s))) rfl rfl hx (vp_in_d rfl) hx1 ?_
  refine X_aload_nS rfl rfl rfl rfl ?_
  refine X_iload_n rfl rfl rfl rfl ?_
  refine X_iconst (v := (2 : Int32)) rfl rfl rfl ?_
  refine X_iadd (v := (2 : Int32)) rfl rfl rfl ?_
  refine X_sld (v := (nI (n))) rfl rfl hx (vp_in_d rfl) hx2 ?_
  refine Y_callV (as := [.int (nI (s)), .int (nI (n))]) (st := []) rfl rfl rfl (by decide) rfl (Nat.le_of_ble_eq_true rfl) (by decide) (Nat.le_of_ble_eq_true rfl) rfl ((congrFun F.1 0).trans s_0) (by decide) (LW_gx (c_year_in F E hs h1 hn)) ?_
  rintro _ g' ⟨⟨rfl, E'⟩, hx'⟩
  have hx := hx'.trans hx
  refine X_aload_n rfl rfl rfl rfl ?_
  refine X_aload_nS rfl rfl rfl rfl ?_
  refine X_iload_n rfl rfl rfl rfl ?_
  refine X_iconst (v := (1 : Int32)) rfl rfl rfl ?_
  refine X_iadd (v := (1 : Int32)) rfl rfl rfl ?_
  refine X_sld (v := (nI (s))) rfl rfl hx (vp_in_d rfl) hx1 ?_
  refine X_aload_nS rfl rfl rfl rfl ?_
  refine X_iload_n rfl rfl rfl rfl ?_
  refine X_iconst (v := (2 : Int32)) rfl rfl rfl ?_
  refine X_iadd (v := (2 : Int32)) rfl rfl rfl ?_
  refine X_sld (v := (nI (n))) rfl rfl hx (vp_in_d rfl) hx2 ?_
  refine Y_callV (as := [.int (nI (s)), .int (nI (n))]) (st := [.int (f_year s n)]) rfl rfl rfl (by decide) rfl (Nat.le_of_ble_eq_true rfl) (by decide) (Nat.le_of_ble_eq_true rfl) rfl ((congrFun E'.1 355).trans s_355) (by decide) (LW_gx (r_year_in E' hs h1 hn)) ?_
  rintro _ g'' ⟨rfl, hx''⟩
  have hx := hx''.trans hx
  refine X_icmp_eq (tgt := 1468) rfl rfl rfl (fun _ => ?_) (fun q => absurd rfl q)
  refine X_iinc (v := (6 : Int32)) (ls' := [some (.retAddr 0), some (.ref 0), some (.ref 355), some (.int (6 : Int32))]) rfl rfl rfl rfl rfl ?_
  refine LW_goto (tgt := 18) rfl rfl ?_
  refine X_iload_n rfl rfl rfl rfl ?_
  refine X_aload_nS rfl rfl rfl rfl ?_
  refine LW_slenX (v := (6 : Int32)) rfl rfl hx rfl ?_
  refine X_bipush (v := (6 : Int32)) rfl rfl rfl ?_
  refine X_isub (v := (0 : Int32)) rfl rfl rfl ?_
  refine X_icmp_gt (tgt := 1474) rfl rfl rfl (fun _ => ?_) (fun q => absurd q (by decide))
  refine X_iconst (v := (1 : Int32)) rfl rfl rfl ?_
  exact LW_ireturn (st := []) rfl rfl rfl rfl
set_option maxRecDepth 10000 in
set_option maxHeartbeats 40000000 in
theorem law_15_out {g : LH} {xs : Nat → Int32} (F : Fc g) (E : Fr g) (hx : Gx g = some (6, xs)) (hr : ¬ (0 ≤ (xs 1).toInt ∧ (xs 1).toInt ≤ 9999 ∧ 1 ≤ (xs 2).toInt ∧ (xs 2).toInt ≤ 40)) : LW 322 31 0 0 633 [some (.retAddr 0), some (.ref 0), some (.ref 355), some (.int (0 : Int32))] [] g (fun v _ => v = some (.int 1)) := by
  refine X_aload_n rfl rfl rfl rfl ?_
  refine X_aload_nS rfl rfl rfl rfl ?_
  refine X_iload_n rfl rfl rfl rfl ?_
  refine X_iconst (v := (1 : Int32)) rfl rfl rfl ?_
  refine X_iadd (v := (1 : Int32)) rfl rfl rfl ?_
  refine X_sld (v := (xs 1)) rfl rfl hx (vp_in_d rfl) rfl ?_
  refine X_aload_nS rfl rfl rfl rfl ?_
  refine X_iload_n rfl rfl rfl rfl ?_
  refine X_iconst (v := (2 : Int32)) rfl rfl rfl ?_
  refine X_iadd (v := (2 : Int32)) rfl rfl rfl ?_
  refine X_sld (v := (xs 2)) rfl rfl hx (vp_in_d rfl) rfl ?_
  refine Y_callV (as := [.int (xs 1), .int (xs 2)]) (st := []) rfl rfl rfl (by decide) rfl (Nat.le_of_ble_eq_true rfl) (by decide) (Nat.le_of_ble_eq_true rfl) rfl ((congrFun F.1 0).trans s_0) (by decide) (LW_gx (c_year_out F E (xs 1) (xs 2) hr)) ?_
  rintro _ g' ⟨⟨rfl, E'⟩, hx'⟩
  have hx := hx'.trans hx
  refine X_aload_n rfl rfl rfl rfl ?_
  refine X_aload_nS rfl rfl rfl rfl ?_
  refine X_iload_n rfl rfl rfl rfl ?_
  refine X_iconst (v := (1 : Int32)) rfl rfl rfl ?_
  refine X_iadd (v := (1 : Int32)) rfl rfl rfl ?_
  refine X_sld (v := (xs 1)) rfl rfl hx (vp_in_d rfl) rfl ?_
  refine X_aload_nS rfl rfl rfl rfl ?_
  refine X_iload_n rfl rfl rfl rfl ?_
  refine X_iconst (v := (2 : Int32)) rfl rfl rfl ?_
  refine X_iadd (v := (2 : Int32)) rfl rfl rfl ?_
  refine X_sld (v := (xs 2)) rfl rfl hx (vp_in_d rfl) rfl ?_
  refine Y_callV (as := [.int (xs 1), .int (xs 2)]) (st := [.int (-1 : Int32)]) rfl rfl rfl (by decide) rfl (Nat.le_of_ble_eq_true rfl) (by decide) (Nat.le_of_ble_eq_true rfl) rfl ((congrFun E'.1 355).trans s_355) (by decide) (LW_gx (r_year_out E' (xs 1) (xs 2) hr)) ?_
  rintro _ g'' ⟨rfl, hx''⟩
  have hx := hx''.trans hx
  refine X_icmp_eq (tgt := 1468) rfl rfl rfl (fun _ => ?_) (fun q => absurd q (by decide))
  refine X_iinc (v := (6 : Int32)) (ls' := [some (.retAddr 0), some (.ref 0), some (.ref 355), some (.int (6 : Int32))]) rfl rfl rfl rfl rfl ?_
  refine LW_goto (tgt := 18) rfl rfl ?_
  refine X_iload_n rfl rfl rfl rfl ?_
  refine X_aload_nS rfl rfl rfl rfl ?_
  refine LW_slenX (v := (6 : Int32)) rfl rfl hx rfl ?_
  refine X_bipush (v := (6 : Int32)) rfl rfl rfl ?_
  refine X_isub (v := (0 : Int32)) rfl rfl rfl ?_
  refine X_icmp_gt (tgt := 1474) rfl rfl rfl (fun _ => ?_) (fun q => absurd q (by decide))
  refine X_iconst (v := (1 : Int32)) rfl rfl rfl ?_
  exact LW_ireturn (st := []) rfl rfl rfl rfl
set_option maxRecDepth 10000 in
set_option maxHeartbeats 40000000 in
theorem law_30_out {g : LH} {xs : Nat → Int32} (F : Fc g) (E : Fr g) (hx : Gx g = some (6, xs)) (hr : ¬ (1 ≤ (xs 1).toInt ∧ (xs 1).toInt ≤ 67108863)) : LW 322 31 0 0 1146 [some (.retAddr 0), some (.ref 0), some (.ref 355), some (.int (0 : Int32))] [] g (fun v _ => v = some (.int 1)) := by
  refine X_aload_n rfl rfl rfl rfl ?_
  refine X_aload_nS rfl rfl rfl rfl ?_
  refine X_iload_n rfl rfl rfl rfl ?_
  refine X_iconst (v := (1 : Int32)) rfl rfl rfl ?_
  refine X_iadd (v := (1 : Int32)) rfl rfl rfl ?_
  refine X_sld (v := (xs 1)) rfl rfl hx (vp_in_d rfl) rfl ?_
  refine X_aload_nS rfl rfl rfl rfl ?_
  refine X_iload_n rfl rfl rfl rfl ?_
  refine X_iconst (v := (2 : Int32)) rfl rfl rfl ?_
  refine X_iadd (v := (2 : Int32)) rfl rfl rfl ?_
  refine X_sld (v := (xs 2)) rfl rfl hx (vp_in_d rfl) rfl ?_
  refine Y_callV (as := [.int (xs 1), .int (xs 2)]) (st := []) rfl rfl rfl (by decide) rfl (Nat.le_of_ble_eq_true rfl) (by decide) (Nat.le_of_ble_eq_true rfl) rfl ((congrFun F.1 0).trans s_0) (by decide) (LW_gx (c_sg_out F E (xs 1) (xs 2) hr)) ?_
  rintro _ g' ⟨⟨rfl, E'⟩, hx'⟩
  have hx := hx'.trans hx
  refine X_aload_n rfl rfl rfl rfl ?_
  refine X_aload_nS rfl rfl rfl rfl ?_
  refine X_iload_n rfl rfl rfl rfl ?_
  refine X_iconst (v := (1 : Int32)) rfl rfl rfl ?_
  refine X_iadd (v := (1 : Int32)) rfl rfl rfl ?_
  refine X_sld (v := (xs 1)) rfl rfl hx (vp_in_d rfl) rfl ?_
  refine X_aload_nS rfl rfl rfl rfl ?_
  refine X_iload_n rfl rfl rfl rfl ?_
  refine X_iconst (v := (2 : Int32)) rfl rfl rfl ?_
  refine X_iadd (v := (2 : Int32)) rfl rfl rfl ?_
  refine X_sld (v := (xs 2)) rfl rfl hx (vp_in_d rfl) rfl ?_
  refine Y_callV (as := [.int (xs 1), .int (xs 2)]) (st := [.int (-1 : Int32)]) rfl rfl rfl (by decide) rfl (Nat.le_of_ble_eq_true rfl) (by decide) (Nat.le_of_ble_eq_true rfl) rfl ((congrFun E'.1 355).trans s_355) (by decide) (LW_gx (r_sg_out E' (xs 1) (xs 2) hr)) ?_
  rintro _ g'' ⟨rfl, hx''⟩
  have hx := hx''.trans hx
  refine X_icmp_eq (tgt := 1468) rfl rfl rfl (fun _ => ?_) (fun q => absurd q (by decide))
  refine X_iinc (v := (6 : Int32)) (ls' := [some (.retAddr 0), some (.ref 0), some (.ref 355), some (.int (6 : Int32))]) rfl rfl rfl rfl rfl ?_
  refine LW_goto (tgt := 18) rfl rfl ?_
  refine X_iload_n rfl rfl rfl rfl ?_
  refine X_aload_nS rfl rfl rfl rfl ?_
  refine LW_slenX (v := (6 : Int32)) rfl rfl hx rfl ?_
  refine X_bipush (v := (6 : Int32)) rfl rfl rfl ?_
  refine X_isub (v := (0 : Int32)) rfl rfl rfl ?_
  refine X_icmp_gt (tgt := 1474) rfl rfl rfl (fun _ => ?_) (fun q => absurd q (by decide))
  refine X_iconst (v := (1 : Int32)) rfl rfl rfl ?_
  exact LW_ireturn (st := []) rfl rfl rfl rfl
set_option maxRecDepth 10000 in
set_option maxHeartbeats 40000000 in
theorem law_30_big {g : LH} {xs : Nat → Int32} (F : Fc g) (E : Fr g) (hx : Gx g = some (6, xs)) {n p : Nat} (h0 : 1 ≤ n) (hn : n < 2 ^ 26) (hc : pcn 32 n = p) (hp : pcn 26 n = p) (h32 : p ≤ 32) (hx1 : xs 1 = nI n) (h6 : 6 < p) : LW 322 31 0 0 1146 [some (.retAddr 0), some (.ref 0), some (.ref 355), some (.int (0 : Int32))] [] g (fun v _ => v = some (.int 1)) := by
  refine X_aload_n rfl rfl rfl rfl ?_
  refine X_aload_nS rfl rfl rfl rfl ?_
  refine X_iload_n rfl rfl rfl rfl ?_
  refine X_iconst (v := (1 : Int32)) rfl rfl rfl ?_
  refine X_iadd (v := (1 : Int32)) rfl rfl rfl ?_
  refine X_sld (v := (nI (n))) rfl rfl hx (vp_in_d rfl) hx1 ?_
  refine X_aload_nS rfl rfl rfl rfl ?_
  refine X_iload_n rfl rfl rfl rfl ?_
  refine X_iconst (v := (2 : Int32)) rfl rfl rfl ?_
  refine X_iadd (v := (2 : Int32)) rfl rfl rfl ?_
  refine X_sld (v := (xs 2)) rfl rfl hx (vp_in_d rfl) rfl ?_
  refine Y_callV (as := [.int (nI (n)), .int (xs 2)]) (st := []) rfl rfl rfl (by decide) rfl (Nat.le_of_ble_eq_true rfl) (by decide) (Nat.le_of_ble_eq_true rfl) rfl ((congrFun F.1 0).trans s_0) (by decide) (LW_gx (c_sg_big F E h0 hn hc h32 h6 (xs 2))) ?_
  rintro _ g' ⟨⟨rfl, E'⟩, hx'⟩
  have hx := hx'.trans hx
  refine X_aload_n rfl rfl rfl rfl ?_
  refine X_aload_nS rfl rfl rfl rfl ?_
  refine X_iload_n rfl rfl rfl rfl ?_
  refine X_iconst (v := (1 : Int32)) rfl rfl rfl ?_
  refine X_iadd (v := (1 : Int32)) rfl rfl rfl ?_
  refine X_sld (v := (nI (n))) rfl rfl hx (vp_in_d rfl) hx1 ?_
  refine X_aload_nS rfl rfl rfl rfl ?_
  refine X_iload_n rfl rfl rfl rfl ?_
  refine X_iconst (v := (2 : Int32)) rfl rfl rfl ?_
  refine X_iadd (v := (2 : Int32)) rfl rfl rfl ?_
  refine X_sld (v := (xs 2)) rfl rfl hx (vp_in_d rfl) rfl ?_
  refine Y_callV (as := [.int (nI (n)), .int (xs 2)]) (st := [.int (-1 : Int32)]) rfl rfl rfl (by decide) rfl (Nat.le_of_ble_eq_true rfl) (by decide) (Nat.le_of_ble_eq_true rfl) rfl ((congrFun E'.1 355).trans s_355) (by decide) (LW_gx (r_sg_big E' h0 hn hp h32 h6 (xs 2))) ?_
  rintro _ g'' ⟨rfl, hx''⟩
  have hx := hx''.trans hx
  refine X_icmp_eq (tgt := 1468) rfl rfl rfl (fun _ => ?_) (fun q => absurd q (by decide))
  refine X_iinc (v := (6 : Int32)) (ls' := [some (.retAddr 0), some (.ref 0), some (.ref 355), some (.int (6 : Int32))]) rfl rfl rfl rfl rfl ?_
  refine LW_goto (tgt := 18) rfl rfl ?_
  refine X_iload_n rfl rfl rfl rfl ?_
  refine X_aload_nS rfl rfl rfl rfl ?_
  refine LW_slenX (v := (6 : Int32)) rfl rfl hx rfl ?_
  refine X_bipush (v := (6 : Int32)) rfl rfl rfl ?_
  refine X_isub (v := (0 : Int32)) rfl rfl rfl ?_
  refine X_icmp_gt (tgt := 1474) rfl rfl rfl (fun _ => ?_) (fun q => absurd q (by decide))
  refine X_iconst (v := (1 : Int32)) rfl rfl rfl ?_
  exact LW_ireturn (st := []) rfl rfl rfl rfl
set_option maxRecDepth 10000 in
set_option maxHeartbeats 40000000 in
theorem law_30_m1 {g : LH} {xs : Nat → Int32} (F : Fc g) (E : Fr g) (hx : Gx g = some (6, xs)) {n p : Nat} (h0 : 1 ≤ n) (hn : n < 2 ^ 26) (hc : pcn 32 n = p) (hp : pcn 26 n = p) (h32 : p ≤ 32) (hx1 : xs 1 = nI n) (h6 : p ≤ 6) (hp1 : 1 ≤ p) (hx2 : xs 2 = -1) : LW 322 31 0 0 1146 [some (.retAddr 0), some (.ref 0), some (.ref 355), some (.int (0 : Int32))] [] g (fun v _ => v = some (.int 1)) := by
  refine X_aload_n rfl rfl rfl rfl ?_
  refine X_aload_nS rfl rfl rfl rfl ?_
  refine X_iload_n rfl rfl rfl rfl ?_
  refine X_iconst (v := (1 : Int32)) rfl rfl rfl ?_
  refine X_iadd (v := (1 : Int32)) rfl rfl rfl ?_
  refine X_sld (v := (nI (n))) rfl rfl hx (vp_in_d rfl) hx1 ?_
  refine X_aload_nS rfl rfl rfl rfl ?_
  refine X_iload_n rfl rfl rfl rfl ?_
  refine X_iconst (v := (2 : Int32)) rfl rfl rfl ?_
  refine X_iadd (v := (2 : Int32)) rfl rfl rfl ?_
  refine X_sld (v := (-1 : Int32)) rfl rfl hx (vp_in_d rfl) hx2 ?_
  refine Y_callV (as := [.int (nI (n)), .int (-1 : Int32)]) (st := []) rfl rfl rfl (by decide) rfl (Nat.le_of_ble_eq_true rfl) (by decide) (Nat.le_of_ble_eq_true rfl) rfl ((congrFun F.1 0).trans s_0) (by decide) (LW_gx (c_sg_m1 F E h0 hn hc h32 h6)) ?_
  rintro _ g' ⟨⟨rfl, E'⟩, hx'⟩
  have hx := hx'.trans hx
  refine X_aload_n rfl rfl rfl rfl ?_
  refine X_aload_nS rfl rfl rfl rfl ?_
  refine X_iload_n rfl rfl rfl rfl ?_
  refine X_iconst (v := (1 : Int32)) rfl rfl rfl ?_
  refine X_iadd (v := (1 : Int32)) rfl rfl rfl ?_
  refine X_sld (v := (nI (n))) rfl rfl hx (vp_in_d rfl) hx1 ?_
  refine X_aload_nS rfl rfl rfl rfl ?_
  refine X_iload_n rfl rfl rfl rfl ?_
  refine X_iconst (v := (2 : Int32)) rfl rfl rfl ?_
  refine X_iadd (v := (2 : Int32)) rfl rfl rfl ?_
  refine X_sld (v := (-1 : Int32)) rfl rfl hx (vp_in_d rfl) hx2 ?_
  refine Y_callV (as := [.int (nI (n)), .int (-1 : Int32)]) (st := [.int (1 : Int32)]) rfl rfl rfl (by decide) rfl (Nat.le_of_ble_eq_true rfl) (by decide) (Nat.le_of_ble_eq_true rfl) rfl ((congrFun E'.1 355).trans s_355) (by decide) (LW_gx (r_sg_m1 E' h0 hn hp h32 h6 hp1)) ?_
  rintro _ g'' ⟨rfl, hx''⟩
  have hx := hx''.trans hx
  refine X_icmp_eq (tgt := 1468) rfl rfl rfl (fun _ => ?_) (fun q => absurd q (by decide))
  refine X_iinc (v := (6 : Int32)) (ls' := [some (.retAddr 0), some (.ref 0), some (.ref 355), some (.int (6 : Int32))]) rfl rfl rfl rfl rfl ?_
  refine LW_goto (tgt := 18) rfl rfl ?_
  refine X_iload_n rfl rfl rfl rfl ?_
  refine X_aload_nS rfl rfl rfl rfl ?_
  refine LW_slenX (v := (6 : Int32)) rfl rfl hx rfl ?_
  refine X_bipush (v := (6 : Int32)) rfl rfl rfl ?_
  refine X_isub (v := (0 : Int32)) rfl rfl rfl ?_
  refine X_icmp_gt (tgt := 1474) rfl rfl rfl (fun _ => ?_) (fun q => absurd q (by decide))
  refine X_iconst (v := (1 : Int32)) rfl rfl rfl ?_
  exact LW_ireturn (st := []) rfl rfl rfl rfl
set_option maxRecDepth 10000 in
set_option maxHeartbeats 40000000 in
theorem law_30_in {g : LH} {xs : Nat → Int32} (F : Fc g) (E : Fr g) (hx : Gx g = some (6, xs)) {n l p : Nat} (h0 : 1 ≤ n) (hn : n < 2 ^ 26) (hc : pcn 32 n = p) (hp : pcn 26 n = p) (h32 : p ≤ 32) (hx1 : xs 1 = nI n) (h6 : p ≤ 6) (hp1 : 1 ≤ p) (hl : l < 26) (hx2 : xs 2 = nI l) (hb1 : n / 2 ^ l % 2 = 1) (hb : (((nI (n)) >>> ((nI (l)) &&& 31)) &&& (1 : Int32)) = (1 : Int32)) : LW 322 31 0 0 1146 [some (.retAddr 0), some (.ref 0), some (.ref 355), some (.int (0 : Int32))] [] g (fun v _ => v = some (.int 1)) := by
  refine X_aload_n rfl rfl rfl rfl ?_
  refine X_aload_nS rfl rfl rfl rfl ?_
  refine X_iload_n rfl rfl rfl rfl ?_
  refine X_iconst (v := (1 : Int32)) rfl rfl rfl ?_
  refine X_iadd (v := (1 : Int32)) rfl rfl rfl ?_
  refine X_sld (v := (nI (n))) rfl rfl hx (vp_in_d rfl) hx1 ?_
  refine X_aload_nS rfl rfl rfl rfl ?_
  refine X_iload_n rfl rfl rfl rfl ?_
  refine X_iconst (v := (2 : Int32)) rfl rfl rfl ?_
  refine X_iadd (v := (2 : Int32)) rfl rfl rfl ?_
  refine X_sld (v := (nI (l))) rfl rfl hx (vp_in_d rfl) hx2 ?_
  refine Y_callV (as := [.int (nI (n)), .int (nI (l))]) (st := []) rfl rfl rfl (by decide) rfl (Nat.le_of_ble_eq_true rfl) (by decide) (Nat.le_of_ble_eq_true rfl) rfl ((congrFun F.1 0).trans s_0) (by decide) (LW_gx (c_sg_in F E h0 hn hc h32 h6 hl hb1 hb)) ?_
  rintro _ g' ⟨⟨rfl, E'⟩, hx'⟩
  have hx := hx'.trans hx
  refine X_aload_n rfl rfl rfl rfl ?_
  refine X_aload_nS rfl rfl rfl rfl ?_
  refine X_iload_n rfl rfl rfl rfl ?_
  refine X_iconst (v := (1 : Int32)) rfl rfl rfl ?_
  refine X_iadd (v := (1 : Int32)) rfl rfl rfl ?_
  refine X_sld (v := (nI (n))) rfl rfl hx (vp_in_d rfl) hx1 ?_
  refine X_aload_nS rfl rfl rfl rfl ?_
  refine X_iload_n rfl rfl rfl rfl ?_
  refine X_iconst (v := (2 : Int32)) rfl rfl rfl ?_
  refine X_iadd (v := (2 : Int32)) rfl rfl rfl ?_
  refine X_sld (v := (nI (l))) rfl rfl hx (vp_in_d rfl) hx2 ?_
  refine Y_callV (as := [.int (nI (n)), .int (nI (l))]) (st := [.int (0 : Int32)]) rfl rfl rfl (by decide) rfl (Nat.le_of_ble_eq_true rfl) (by decide) (Nat.le_of_ble_eq_true rfl) rfl ((congrFun E'.1 355).trans s_355) (by decide) (LW_gx (r_sg_in E' h0 hn hp h32 h6 hp1 hl hb1 hb)) ?_
  rintro _ g'' ⟨rfl, hx''⟩
  have hx := hx''.trans hx
  refine X_icmp_eq (tgt := 1468) rfl rfl rfl (fun _ => ?_) (fun q => absurd q (by decide))
  refine X_iinc (v := (6 : Int32)) (ls' := [some (.retAddr 0), some (.ref 0), some (.ref 355), some (.int (6 : Int32))]) rfl rfl rfl rfl rfl ?_
  refine LW_goto (tgt := 18) rfl rfl ?_
  refine X_iload_n rfl rfl rfl rfl ?_
  refine X_aload_nS rfl rfl rfl rfl ?_
  refine LW_slenX (v := (6 : Int32)) rfl rfl hx rfl ?_
  refine X_bipush (v := (6 : Int32)) rfl rfl rfl ?_
  refine X_isub (v := (0 : Int32)) rfl rfl rfl ?_
  refine X_icmp_gt (tgt := 1474) rfl rfl rfl (fun _ => ?_) (fun q => absurd q (by decide))
  refine X_iconst (v := (1 : Int32)) rfl rfl rfl ?_
  exact LW_ireturn (st := []) rfl rfl rfl rfl
set_option maxRecDepth 10000 in
set_option maxHeartbeats 40000000 in
theorem law_30_no {g : LH} {xs : Nat → Int32} (F : Fc g) (E : Fr g) (hx : Gx g = some (6, xs)) {n l p : Nat} (h0 : 1 ≤ n) (hn : n < 2 ^ 26) (hc : pcn 32 n = p) (hp : pcn 26 n = p) (h32 : p ≤ 32) (hx1 : xs 1 = nI n) (h6 : p ≤ 6) (hl : l < 26) (hx2 : xs 2 = nI l) (hb : (((nI (n)) >>> ((nI (l)) &&& 31)) &&& (1 : Int32)) = (0 : Int32)) : LW 322 31 0 0 1146 [some (.retAddr 0), some (.ref 0), some (.ref 355), some (.int (0 : Int32))] [] g (fun v _ => v = some (.int 1)) := by
  refine X_aload_n rfl rfl rfl rfl ?_
  refine X_aload_nS rfl rfl rfl rfl ?_
  refine X_iload_n rfl rfl rfl rfl ?_
  refine X_iconst (v := (1 : Int32)) rfl rfl rfl ?_
  refine X_iadd (v := (1 : Int32)) rfl rfl rfl ?_
  refine X_sld (v := (nI (n))) rfl rfl hx (vp_in_d rfl) hx1 ?_
  refine X_aload_nS rfl rfl rfl rfl ?_
  refine X_iload_n rfl rfl rfl rfl ?_
  refine X_iconst (v := (2 : Int32)) rfl rfl rfl ?_
  refine X_iadd (v := (2 : Int32)) rfl rfl rfl ?_
  refine X_sld (v := (nI (l))) rfl rfl hx (vp_in_d rfl) hx2 ?_
  refine Y_callV (as := [.int (nI (n)), .int (nI (l))]) (st := []) rfl rfl rfl (by decide) rfl (Nat.le_of_ble_eq_true rfl) (by decide) (Nat.le_of_ble_eq_true rfl) rfl ((congrFun F.1 0).trans s_0) (by decide) (LW_gx (c_sg_no F E h0 hn hc h32 h6 hl hb)) ?_
  rintro _ g' ⟨⟨rfl, E'⟩, hx'⟩
  have hx := hx'.trans hx
  refine X_aload_n rfl rfl rfl rfl ?_
  refine X_aload_nS rfl rfl rfl rfl ?_
  refine X_iload_n rfl rfl rfl rfl ?_
  refine X_iconst (v := (1 : Int32)) rfl rfl rfl ?_
  refine X_iadd (v := (1 : Int32)) rfl rfl rfl ?_
  refine X_sld (v := (nI (n))) rfl rfl hx (vp_in_d rfl) hx1 ?_
  refine X_aload_nS rfl rfl rfl rfl ?_
  refine X_iload_n rfl rfl rfl rfl ?_
  refine X_iconst (v := (2 : Int32)) rfl rfl rfl ?_
  refine X_iadd (v := (2 : Int32)) rfl rfl rfl ?_
  refine X_sld (v := (nI (l))) rfl rfl hx (vp_in_d rfl) hx2 ?_
  refine Y_callV (as := [.int (nI (n)), .int (nI (l))]) (st := [.int (-1 : Int32)]) rfl rfl rfl (by decide) rfl (Nat.le_of_ble_eq_true rfl) (by decide) (Nat.le_of_ble_eq_true rfl) rfl ((congrFun E'.1 355).trans s_355) (by decide) (LW_gx (r_sg_no E' h0 hn hp h32 h6 hl hb)) ?_
  rintro _ g'' ⟨rfl, hx''⟩
  have hx := hx''.trans hx
  refine X_icmp_eq (tgt := 1468) rfl rfl rfl (fun _ => ?_) (fun q => absurd q (by decide))
  refine X_iinc (v := (6 : Int32)) (ls' := [some (.retAddr 0), some (.ref 0), some (.ref 355), some (.int (6 : Int32))]) rfl rfl rfl rfl rfl ?_
  refine LW_goto (tgt := 18) rfl rfl ?_
  refine X_iload_n rfl rfl rfl rfl ?_
  refine X_aload_nS rfl rfl rfl rfl ?_
  refine LW_slenX (v := (6 : Int32)) rfl rfl hx rfl ?_
  refine X_bipush (v := (6 : Int32)) rfl rfl rfl ?_
  refine X_isub (v := (0 : Int32)) rfl rfl rfl ?_
  refine X_icmp_gt (tgt := 1474) rfl rfl rfl (fun _ => ?_) (fun q => absurd q (by decide))
  refine X_iconst (v := (1 : Int32)) rfl rfl rfl ?_
  exact LW_ireturn (st := []) rfl rfl rfl rfl
set_option maxRecDepth 10000 in
set_option maxHeartbeats 40000000 in
theorem law_30_lo {g : LH} {xs : Nat → Int32} (F : Fc g) (E : Fr g) (hx : Gx g = some (6, xs)) {n p : Nat} (h0 : 1 ≤ n) (hn : n < 2 ^ 26) (hc : pcn 32 n = p) (hp : pcn 26 n = p) (h32 : p ≤ 32) (hx1 : xs 1 = nI n) (h6 : p ≤ 6) (hr : ¬ (-1 ≤ (xs 2).toInt ∧ (xs 2).toInt ≤ 25)) : LW 322 31 0 0 1146 [some (.retAddr 0), some (.ref 0), some (.ref 355), some (.int (0 : Int32))] [] g (fun v _ => v = some (.int 1)) := by
  refine X_aload_n rfl rfl rfl rfl ?_
  refine X_aload_nS rfl rfl rfl rfl ?_
  refine X_iload_n rfl rfl rfl rfl ?_
  refine X_iconst (v := (1 : Int32)) rfl rfl rfl ?_
  refine X_iadd (v := (1 : Int32)) rfl rfl rfl ?_
  refine X_sld (v := (nI (n))) rfl rfl hx (vp_in_d rfl) hx1 ?_
  refine X_aload_nS rfl rfl rfl rfl ?_
  refine X_iload_n rfl rfl rfl rfl ?_
  refine X_iconst (v := (2 : Int32)) rfl rfl rfl ?_
  refine X_iadd (v := (2 : Int32)) rfl rfl rfl ?_
  refine X_sld (v := (xs 2)) rfl rfl hx (vp_in_d rfl) rfl ?_
  refine Y_callV (as := [.int (nI (n)), .int (xs 2)]) (st := []) rfl rfl rfl (by decide) rfl (Nat.le_of_ble_eq_true rfl) (by decide) (Nat.le_of_ble_eq_true rfl) rfl ((congrFun F.1 0).trans s_0) (by decide) (LW_gx (c_sg_lo F E h0 hn hc h32 h6 (xs 2) hr)) ?_
  rintro _ g' ⟨⟨rfl, E'⟩, hx'⟩
  have hx := hx'.trans hx
  refine X_aload_n rfl rfl rfl rfl ?_
  refine X_aload_nS rfl rfl rfl rfl ?_
  refine X_iload_n rfl rfl rfl rfl ?_
  refine X_iconst (v := (1 : Int32)) rfl rfl rfl ?_
  refine X_iadd (v := (1 : Int32)) rfl rfl rfl ?_
  refine X_sld (v := (nI (n))) rfl rfl hx (vp_in_d rfl) hx1 ?_
  refine X_aload_nS rfl rfl rfl rfl ?_
  refine X_iload_n rfl rfl rfl rfl ?_
  refine X_iconst (v := (2 : Int32)) rfl rfl rfl ?_
  refine X_iadd (v := (2 : Int32)) rfl rfl rfl ?_
  refine X_sld (v := (xs 2)) rfl rfl hx (vp_in_d rfl) rfl ?_
  refine Y_callV (as := [.int (nI (n)), .int (xs 2)]) (st := [.int (-1 : Int32)]) rfl rfl rfl (by decide) rfl (Nat.le_of_ble_eq_true rfl) (by decide) (Nat.le_of_ble_eq_true rfl) rfl ((congrFun E'.1 355).trans s_355) (by decide) (LW_gx (r_sg_lo E' h0 hn hp h32 h6 (xs 2) hr)) ?_
  rintro _ g'' ⟨rfl, hx''⟩
  have hx := hx''.trans hx
  refine X_icmp_eq (tgt := 1468) rfl rfl rfl (fun _ => ?_) (fun q => absurd q (by decide))
  refine X_iinc (v := (6 : Int32)) (ls' := [some (.retAddr 0), some (.ref 0), some (.ref 355), some (.int (6 : Int32))]) rfl rfl rfl rfl rfl ?_
  refine LW_goto (tgt := 18) rfl rfl ?_
  refine X_iload_n rfl rfl rfl rfl ?_
  refine X_aload_nS rfl rfl rfl rfl ?_
  refine LW_slenX (v := (6 : Int32)) rfl rfl hx rfl ?_
  refine X_bipush (v := (6 : Int32)) rfl rfl rfl ?_
  refine X_isub (v := (0 : Int32)) rfl rfl rfl ?_
  refine X_icmp_gt (tgt := 1474) rfl rfl rfl (fun _ => ?_) (fun q => absurd q (by decide))
  refine X_iconst (v := (1 : Int32)) rfl rfl rfl ?_
  exact LW_ireturn (st := []) rfl rfl rfl rfl
set_option maxRecDepth 10000 in
set_option maxHeartbeats 40000000 in
theorem law_35_in {g : LH} {xs : Nat → Int32} (F : Fc g) (E : Fr g) (hx : Gx g = some (6, xs)) {n : Nat} (hn : n < 26) (hi : -1 ≤ (xs 2).toInt) (hx1 : xs 1 = nI n) : LW 322 31 0 0 1353 [some (.retAddr 0), some (.ref 0), some (.ref 355), some (.int (0 : Int32))] [] g (fun v _ => v = some (.int 1)) := by
  refine X_aload_n rfl rfl rfl rfl ?_
  refine X_aload_nS rfl rfl rfl rfl ?_
  refine X_iload_n rfl rfl rfl rfl ?_
  refine X_iconst (v := (1 : Int32)) rfl rfl rfl ?_
  refine X_iadd (v := (1 : Int32)) rfl rfl rfl ?_
  refine X_sld (v := (nI (n))) rfl rfl hx (vp_in_d rfl) hx1 ?_
  refine X_aload_nS rfl rfl rfl rfl ?_
  refine X_iload_n rfl rfl rfl rfl ?_
  refine X_iconst (v := (2 : Int32)) rfl rfl rfl ?_
  refine X_iadd (v := (2 : Int32)) rfl rfl rfl ?_
  refine X_sld (v := (xs 2)) rfl rfl hx (vp_in_d rfl) rfl ?_
  refine Y_callV (as := [.int (nI (n)), .int (xs 2)]) (st := []) rfl rfl rfl (by decide) rfl (Nat.le_of_ble_eq_true rfl) (by decide) (Nat.le_of_ble_eq_true rfl) rfl ((congrFun F.1 0).trans s_0) (by decide) (LW_gx (c_spells_in F E hn (xs 2) hi)) ?_
  rintro _ g' ⟨⟨rfl, E'⟩, hx'⟩
  have hx := hx'.trans hx
  refine X_aload_n rfl rfl rfl rfl ?_
  refine X_aload_nS rfl rfl rfl rfl ?_
  refine X_iload_n rfl rfl rfl rfl ?_
  refine X_iconst (v := (1 : Int32)) rfl rfl rfl ?_
  refine X_iadd (v := (1 : Int32)) rfl rfl rfl ?_
  refine X_sld (v := (nI (n))) rfl rfl hx (vp_in_d rfl) hx1 ?_
  refine X_aload_nS rfl rfl rfl rfl ?_
  refine X_iload_n rfl rfl rfl rfl ?_
  refine X_iconst (v := (2 : Int32)) rfl rfl rfl ?_
  refine X_iadd (v := (2 : Int32)) rfl rfl rfl ?_
  refine X_sld (v := (xs 2)) rfl rfl hx (vp_in_d rfl) rfl ?_
  refine Y_callV (as := [.int (nI (n)), .int (xs 2)]) (st := [.int (f_spells (xs 2))]) rfl rfl rfl (by decide) rfl (Nat.le_of_ble_eq_true rfl) (by decide) (Nat.le_of_ble_eq_true rfl) rfl ((congrFun E'.1 355).trans s_355) (by decide) (LW_gx (r_spells_in E' hn (xs 2) hi)) ?_
  rintro _ g'' ⟨rfl, hx''⟩
  have hx := hx''.trans hx
  refine X_icmp_eq (tgt := 1468) rfl rfl rfl (fun _ => ?_) (fun q => absurd rfl q)
  refine X_iinc (v := (6 : Int32)) (ls' := [some (.retAddr 0), some (.ref 0), some (.ref 355), some (.int (6 : Int32))]) rfl rfl rfl rfl rfl ?_
  refine LW_goto (tgt := 18) rfl rfl ?_
  refine X_iload_n rfl rfl rfl rfl ?_
  refine X_aload_nS rfl rfl rfl rfl ?_
  refine LW_slenX (v := (6 : Int32)) rfl rfl hx rfl ?_
  refine X_bipush (v := (6 : Int32)) rfl rfl rfl ?_
  refine X_isub (v := (0 : Int32)) rfl rfl rfl ?_
  refine X_icmp_gt (tgt := 1474) rfl rfl rfl (fun _ => ?_) (fun q => absurd q (by decide))
  refine X_iconst (v := (1 : Int32)) rfl rfl rfl ?_
  exact LW_ireturn (st := []) rfl rfl rfl rfl
set_option maxRecDepth 10000 in
set_option maxHeartbeats 40000000 in
theorem law_35_out {g : LH} {xs : Nat → Int32} (F : Fc g) (E : Fr g) (hx : Gx g = some (6, xs)) (hr : ¬ (0 ≤ (xs 1).toInt ∧ (xs 1).toInt ≤ 25 ∧ -1 ≤ (xs 2).toInt)) : LW 322 31 0 0 1353 [some (.retAddr 0), some (.ref 0), some (.ref 355), some (.int (0 : Int32))] [] g (fun v _ => v = some (.int 1)) := by
  refine X_aload_n rfl rfl rfl rfl ?_
  refine X_aload_nS rfl rfl rfl rfl ?_
  refine X_iload_n rfl rfl rfl rfl ?_
  refine X_iconst (v := (1 : Int32)) rfl rfl rfl ?_
  refine X_iadd (v := (1 : Int32)) rfl rfl rfl ?_
  refine X_sld (v := (xs 1)) rfl rfl hx (vp_in_d rfl) rfl ?_
  refine X_aload_nS rfl rfl rfl rfl ?_
  refine X_iload_n rfl rfl rfl rfl ?_
  refine X_iconst (v := (2 : Int32)) rfl rfl rfl ?_
  refine X_iadd (v := (2 : Int32)) rfl rfl rfl ?_
  refine X_sld (v := (xs 2)) rfl rfl hx (vp_in_d rfl) rfl ?_
  refine Y_callV (as := [.int (xs 1), .int (xs 2)]) (st := []) rfl rfl rfl (by decide) rfl (Nat.le_of_ble_eq_true rfl) (by decide) (Nat.le_of_ble_eq_true rfl) rfl ((congrFun F.1 0).trans s_0) (by decide) (LW_gx (c_spells_out F E (xs 1) (xs 2) hr)) ?_
  rintro _ g' ⟨⟨rfl, E'⟩, hx'⟩
  have hx := hx'.trans hx
  refine X_aload_n rfl rfl rfl rfl ?_
  refine X_aload_nS rfl rfl rfl rfl ?_
  refine X_iload_n rfl rfl rfl rfl ?_
  refine X_iconst (v := (1 : Int32)) rfl rfl rfl ?_
  refine X_iadd (v := (1 : Int32)) rfl rfl rfl ?_
  refine X_sld (v := (xs 1)) rfl rfl hx (vp_in_d rfl) rfl ?_
  refine X_aload_nS rfl rfl rfl rfl ?_
  refine X_iload_n rfl rfl rfl rfl ?_
  refine X_iconst (v := (2 : Int32)) rfl rfl rfl ?_
  refine X_iadd (v := (2 : Int32)) rfl rfl rfl ?_
  refine X_sld (v := (xs 2)) rfl rfl hx (vp_in_d rfl) rfl ?_
  refine Y_callV (as := [.int (xs 1), .int (xs 2)]) (st := [.int (-2 : Int32)]) rfl rfl rfl (by decide) rfl (Nat.le_of_ble_eq_true rfl) (by decide) (Nat.le_of_ble_eq_true rfl) rfl ((congrFun E'.1 355).trans s_355) (by decide) (LW_gx (r_spells_out E' (xs 1) (xs 2) hr)) ?_
  rintro _ g'' ⟨rfl, hx''⟩
  have hx := hx''.trans hx
  refine X_icmp_eq (tgt := 1468) rfl rfl rfl (fun _ => ?_) (fun q => absurd q (by decide))
  refine X_iinc (v := (6 : Int32)) (ls' := [some (.retAddr 0), some (.ref 0), some (.ref 355), some (.int (6 : Int32))]) rfl rfl rfl rfl rfl ?_
  refine LW_goto (tgt := 18) rfl rfl ?_
  refine X_iload_n rfl rfl rfl rfl ?_
  refine X_aload_nS rfl rfl rfl rfl ?_
  refine LW_slenX (v := (6 : Int32)) rfl rfl hx rfl ?_
  refine X_bipush (v := (6 : Int32)) rfl rfl rfl ?_
  refine X_isub (v := (0 : Int32)) rfl rfl rfl ?_
  refine X_icmp_gt (tgt := 1474) rfl rfl rfl (fun _ => ?_) (fun q => absurd q (by decide))
  refine X_iconst (v := (1 : Int32)) rfl rfl rfl ?_
  exact LW_ireturn (st := []) rfl rfl rfl rfl
