/-! the law: the cases of an op, the switch, the start -/
theorem op_0 {g : LH} {xs : Nat → Int32} (F : Fc g) (E : Fr g) (hx : Gx g = some (6, xs)) : LW 322 31 0 0 208 [some (.retAddr 0), some (.ref 0), some (.ref 355), some (.int (0 : Int32))] [] g (fun v _ => v = some (.int 1)) := by
  by_cases hr : 0 ≤ (xs 1).toInt ∧ (xs 1).toInt ≤ 25 ∧ 0 ≤ (xs 2).toInt ∧ (xs 2).toInt ≤ 25 ∧ ¬ (xs 1).toInt = (xs 2).toInt
  · obtain ⟨n, _, e1, f1⟩ := nI_ex (xs 1) hr.1
    obtain ⟨b, _, e2, f2⟩ := nI_ex (xs 2) hr.2.2.1
    exact law_0_in F E hx (n := n) (b := b) (by omega) (by omega) (by omega) e1 e2
  · exact law_0_out F E hx hr
theorem op_2 {g : LH} {xs : Nat → Int32} (F : Fc g) (E : Fr g) (hx : Gx g = some (6, xs)) : LW 322 31 0 0 284 [some (.retAddr 0), some (.ref 0), some (.ref 355), some (.int (0 : Int32))] [] g (fun v _ => v = some (.int 1)) := by
  by_cases hr : 10 ≤ (xs 1).toInt ∧ (xs 1).toInt ≤ 199999999
  · obtain ⟨n, _, e1, f1⟩ := nI_ex (xs 1) (by omega)
    exact law_2_in F E hx (n := n) (by omega) (by omega) e1
  · exact law_2_out F E hx hr
theorem op_8 {g : LH} {xs : Nat → Int32} (F : Fc g) (E : Fr g) (hx : Gx g = some (6, xs)) : LW 322 31 0 0 452 [some (.retAddr 0), some (.ref 0), some (.ref 355), some (.int (0 : Int32))] [] g (fun v _ => v = some (.int 1)) := by
  by_cases hr : 1 ≤ (xs 1).toInt ∧ (xs 1).toInt ≤ 99
  · obtain ⟨n, _, e1, f1⟩ := nI_ex (xs 1) (by omega)
    exact law_8_in F E hx (n := n) (by omega) (by omega) e1
  · exact law_8_out F E hx hr
theorem op_10 {g : LH} {xs : Nat → Int32} (F : Fc g) (E : Fr g) (hx : Gx g = some (6, xs)) : LW 322 31 0 0 498 [some (.retAddr 0), some (.ref 0), some (.ref 355), some (.int (0 : Int32))] [] g (fun v _ => v = some (.int 1)) := by
  by_cases hr : 1 ≤ (xs 1).toInt ∧ (xs 1).toInt ≤ 67108863
  · obtain ⟨n, _, e1, f1⟩ := nI_ex (xs 1) (by omega)
    exact law_10_in F E hx (n := n) (by omega) (by omega) e1
  · exact law_10_out F E hx hr
theorem pcn_pos {n : Nat} (h0 : 1 ≤ n) (hn : n < 2 ^ 26) : 1 ≤ pcn 32 n := by
  rcases Nat.eq_zero_or_pos (pcn 32 n) with q | q
  · have := pcn_none 32 n (by omega) q
    omega
  · exact q
theorem op_9 {g : LH} {xs : Nat → Int32} (F : Fc g) (E : Fr g) (hx : Gx g = some (6, xs)) : LW 322 31 0 0 475 [some (.retAddr 0), some (.ref 0), some (.ref 355), some (.int (0 : Int32))] [] g (fun v _ => v = some (.int 1)) := by
  by_cases hr : 1 ≤ (xs 1).toInt ∧ (xs 1).toInt ≤ 67108863
  · obtain ⟨n, _, e1, f1⟩ := nI_ex (xs 1) (by omega)
    exact law_9_in F E hx (n := n) (by omega) (by omega) (pcn_pos (by omega) (by omega)) (pcn_le 32 n) e1
  · exact law_9_out F E hx hr
theorem op_15 {g : LH} {xs : Nat → Int32} (F : Fc g) (E : Fr g) (hx : Gx g = some (6, xs)) : LW 322 31 0 0 633 [some (.retAddr 0), some (.ref 0), some (.ref 355), some (.int (0 : Int32))] [] g (fun v _ => v = some (.int 1)) := by
  by_cases hr : 0 ≤ (xs 1).toInt ∧ (xs 1).toInt ≤ 9999 ∧ 1 ≤ (xs 2).toInt ∧ (xs 2).toInt ≤ 40
  · obtain ⟨s, _, e1, f1⟩ := nI_ex (xs 1) hr.1
    obtain ⟨n, _, e2, f2⟩ := nI_ex (xs 2) (by omega)
    exact law_15_in F E hx (s := s) (n := n) (by omega) (by omega) (by omega) e1 e2
  · exact law_15_out F E hx hr
theorem op_35 {g : LH} {xs : Nat → Int32} (F : Fc g) (E : Fr g) (hx : Gx g = some (6, xs)) : LW 322 31 0 0 1353 [some (.retAddr 0), some (.ref 0), some (.ref 355), some (.int (0 : Int32))] [] g (fun v _ => v = some (.int 1)) := by
  by_cases hr : 0 ≤ (xs 1).toInt ∧ (xs 1).toInt ≤ 25 ∧ -1 ≤ (xs 2).toInt
  · obtain ⟨n, _, e1, f1⟩ := nI_ex (xs 1) hr.1
    exact law_35_in F E hx (n := n) (by omega) hr.2.2 e1
  · exact law_35_out F E hx hr
theorem op_30 {g : LH} {xs : Nat → Int32} (F : Fc g) (E : Fr g) (hx : Gx g = some (6, xs)) : LW 322 31 0 0 1146 [some (.retAddr 0), some (.ref 0), some (.ref 355), some (.int (0 : Int32))] [] g (fun v _ => v = some (.int 1)) := by
  by_cases hr : 1 ≤ (xs 1).toInt ∧ (xs 1).toInt ≤ 67108863
  · obtain ⟨n, _, e1, f1⟩ := nI_ex (xs 1) (by omega)
    have h0 : 1 ≤ n := by omega
    have hn : n < 2 ^ 26 := by omega
    obtain ⟨p, hc, hp, h32, hp1⟩ : ∃ p, pcn 32 n = p ∧ pcn 26 n = p ∧ p ≤ 32 ∧ 1 ≤ p := ⟨_, rfl, (pcn26 hn).symm, pcn_le 32 n, pcn_pos h0 hn⟩
    have h6d : p ≤ 6 ∨ 6 < p := by clear hc hp; omega
    rcases h6d with h6 | h6
    · by_cases hb : -1 ≤ (xs 2).toInt ∧ (xs 2).toInt ≤ 25
      · by_cases hm : xs 2 = -1
        · exact law_30_m1 F E hx h0 hn hc hp h32 e1 h6 hp1 hm
        · have hm2 : ¬ (xs 2).toInt = -1 := fun q => hm (Int32.toInt_inj.mp q)
          have hb0 : 0 ≤ (xs 2).toInt := by clear hc hp; omega
          obtain ⟨l, _, e2, f2⟩ := nI_ex (xs 2) hb0
          have hl : l < 26 := by clear hc hp; omega
          have hn31 : n < 2 ^ 31 := by clear hc hp; omega
          have hbit := bit_nI (n := n) (k := l) hn31 (by clear hc hp; omega)
          by_cases hb1 : n / 2 ^ l % 2 = 1
          · rw [hb1] at hbit
            exact law_30_in F E hx h0 hn hc hp h32 e1 h6 hp1 (l := l) hl e2 hb1 hbit
          · have hb0 : n / 2 ^ l % 2 = 0 := by clear hc hp; omega
            rw [hb0] at hbit
            exact law_30_no F E hx h0 hn hc hp h32 e1 h6 (l := l) hl e2 hbit
      · exact law_30_lo F E hx h0 hn hc hp h32 e1 h6 hb
    · exact law_30_big F E hx h0 hn hc hp h32 e1 h6
  · exact law_30_out F E hx hr
set_option maxRecDepth 10000 in
set_option maxHeartbeats 40000000 in
theorem law_dflt {g : LH} {xs : Nat → Int32} (F : Fc g) (E : Fr g) (hx : Gx g = some (6, xs)) : LW 322 31 0 0 1468 [some (.retAddr 0), some (.ref 0), some (.ref 355), some (.int (0 : Int32))] [] g (fun v _ => v = some (.int 1)) := by
  refine X_iinc (v := (6 : Int32)) (ls' := [some (.retAddr 0), some (.ref 0), some (.ref 355), some (.int (6 : Int32))]) rfl rfl rfl rfl rfl ?_
  refine LW_goto (tgt := 18) rfl rfl ?_
  refine X_iload_n rfl rfl rfl rfl ?_
  refine X_aload_nS rfl rfl rfl rfl ?_
  refine LW_slenX (v := (6 : Int32)) rfl rfl hx rfl ?_
  refine X_bipush (v := (6 : Int32)) rfl rfl rfl ?_
  refine X_isub (v := (0 : Int32)) rfl rfl rfl ?_
  refine X_icmp_gt (tgt := 1474) rfl rfl rfl (fun _ => ?_) (fun q => absurd q (by decide))
  refine X_iconst (v := (1 : Int32)) rfl rfl rfl ?_
  exact LW_ireturn (st := []) rfl rfl rfl rfl
set_option maxRecDepth 10000 in
set_option maxHeartbeats 40000000 in
theorem law_sw {g : LH} {xs : Nat → Int32} (F : Fc g) (E : Fr g) (hx : Gx g = some (6, xs)) {z : Int32} {j : Nat} (hz : z = nI j) (hj : j < 64) : LW 322 31 0 0 33 [some (.retAddr 0), some (.ref 0), some (.ref 355), some (.int (0 : Int32))] [.int z] g (fun v _ => v = some (.int 1)) := by
  by_cases h0 : z = 0
  · refine LW_eqv h0 ?_
    refine LW_tableIn (tgt := 208) rfl (by decide) (by decide) rfl rfl ?_
    exact op_0 F E hx
  by_cases h1 : z = 1
  · refine LW_eqv h1 ?_
    refine LW_tableIn (tgt := 241) rfl (by decide) (by decide) rfl rfl ?_
    exact law_1 F E hx
  by_cases h2 : z = 2
  · refine LW_eqv h2 ?_
    refine LW_tableIn (tgt := 284) rfl (by decide) (by decide) rfl rfl ?_
    exact op_2 F E hx
  by_cases h3 : z = 3
  · refine LW_eqv h3 ?_
    refine LW_tableIn (tgt := 307) rfl (by decide) (by decide) rfl rfl ?_
    exact law_3 F E hx
  by_cases h4 : z = 4
  · refine LW_eqv h4 ?_
    refine LW_tableIn (tgt := 370) rfl (by decide) (by decide) rfl rfl ?_
    exact law_4 F E hx
  by_cases h5 : z = 5
  · refine LW_eqv h5 ?_
    refine LW_tableIn (tgt := 393) rfl (by decide) (by decide) rfl rfl ?_
    exact law_5 F E hx
  by_cases h6 : z = 6
  · refine LW_eqv h6 ?_
    refine LW_tableIn (tgt := 406) rfl (by decide) (by decide) rfl rfl ?_
    exact law_6 F E hx
  by_cases h7 : z = 7
  · refine LW_eqv h7 ?_
    refine LW_tableIn (tgt := 429) rfl (by decide) (by decide) rfl rfl ?_
    exact law_7 F E hx
  by_cases h8 : z = 8
  · refine LW_eqv h8 ?_
    refine LW_tableIn (tgt := 452) rfl (by decide) (by decide) rfl rfl ?_
    exact op_8 F E hx
  by_cases h9 : z = 9
  · refine LW_eqv h9 ?_
    refine LW_tableIn (tgt := 475) rfl (by decide) (by decide) rfl rfl ?_
    exact op_9 F E hx
  by_cases h10 : z = 10
  · refine LW_eqv h10 ?_
    refine LW_tableIn (tgt := 498) rfl (by decide) (by decide) rfl rfl ?_
    exact op_10 F E hx
  by_cases h11 : z = 11
  · refine LW_eqv h11 ?_
    refine LW_tableIn (tgt := 521) rfl (by decide) (by decide) rfl rfl ?_
    exact law_11 F E hx
  by_cases h12 : z = 12
  · refine LW_eqv h12 ?_
    refine LW_tableIn (tgt := 554) rfl (by decide) (by decide) rfl rfl ?_
    exact law_12 F E hx
  by_cases h13 : z = 13
  · refine LW_eqv h13 ?_
    refine LW_tableIn (tgt := 587) rfl (by decide) (by decide) rfl rfl ?_
    exact law_13 F E hx
  by_cases h14 : z = 14
  · refine LW_eqv h14 ?_
    refine LW_tableIn (tgt := 610) rfl (by decide) (by decide) rfl rfl ?_
    exact law_14 F E hx
  by_cases h15 : z = 15
  · refine LW_eqv h15 ?_
    refine LW_tableIn (tgt := 633) rfl (by decide) (by decide) rfl rfl ?_
    exact op_15 F E hx
  by_cases h16 : z = 16
  · refine LW_eqv h16 ?_
    refine LW_tableIn (tgt := 666) rfl (by decide) (by decide) rfl rfl ?_
    exact law_16 F E hx
  by_cases h17 : z = 17
  · refine LW_eqv h17 ?_
    refine LW_tableIn (tgt := 679) rfl (by decide) (by decide) rfl rfl ?_
    exact law_17 F E hx
  by_cases h18 : z = 18
  · refine LW_eqv h18 ?_
    refine LW_tableIn (tgt := 712) rfl (by decide) (by decide) rfl rfl ?_
    exact law_18 F E hx
  by_cases h19 : z = 19
  · refine LW_eqv h19 ?_
    refine LW_tableIn (tgt := 745) rfl (by decide) (by decide) rfl rfl ?_
    exact law_19 F E hx
  by_cases h20 : z = 20
  · refine LW_eqv h20 ?_
    refine LW_tableIn (tgt := 778) rfl (by decide) (by decide) rfl rfl ?_
    exact law_20 F E hx
  by_cases h21 : z = 21
  · refine LW_eqv h21 ?_
    refine LW_tableIn (tgt := 811) rfl (by decide) (by decide) rfl rfl ?_
    exact law_21 F E hx
  by_cases h22 : z = 22
  · refine LW_eqv h22 ?_
    refine LW_tableIn (tgt := 854) rfl (by decide) (by decide) rfl rfl ?_
    exact law_22 F E hx
  by_cases h23 : z = 23
  · refine LW_eqv h23 ?_
    refine LW_tableIn (tgt := 877) rfl (by decide) (by decide) rfl rfl ?_
    exact law_23 F E hx
  by_cases h24 : z = 24
  · refine LW_eqv h24 ?_
    refine LW_tableIn (tgt := 900) rfl (by decide) (by decide) rfl rfl ?_
    exact law_24 F E hx
  by_cases h25 : z = 25
  · refine LW_eqv h25 ?_
    refine LW_tableIn (tgt := 939) rfl (by decide) (by decide) rfl rfl ?_
    exact law_25 F E hx
  by_cases h26 : z = 26
  · refine LW_eqv h26 ?_
    refine LW_tableIn (tgt := 1008) rfl (by decide) (by decide) rfl rfl ?_
    exact law_26 F E hx
  by_cases h27 : z = 27
  · refine LW_eqv h27 ?_
    refine LW_tableIn (tgt := 1031) rfl (by decide) (by decide) rfl rfl ?_
    exact law_27 F E hx
  by_cases h28 : z = 28
  · refine LW_eqv h28 ?_
    refine LW_tableIn (tgt := 1054) rfl (by decide) (by decide) rfl rfl ?_
    exact law_28 F E hx
  by_cases h29 : z = 29
  · refine LW_eqv h29 ?_
    refine LW_tableIn (tgt := 1087) rfl (by decide) (by decide) rfl rfl ?_
    exact law_29 F E hx
  by_cases h30 : z = 30
  · refine LW_eqv h30 ?_
    refine LW_tableIn (tgt := 1146) rfl (by decide) (by decide) rfl rfl ?_
    exact op_30 F E hx
  by_cases h31 : z = 31
  · refine LW_eqv h31 ?_
    refine LW_tableIn (tgt := 1179) rfl (by decide) (by decide) rfl rfl ?_
    exact law_31 F E hx
  by_cases h32 : z = 32
  · refine LW_eqv h32 ?_
    refine LW_tableIn (tgt := 1212) rfl (by decide) (by decide) rfl rfl ?_
    exact law_32 F E hx
  by_cases h33 : z = 33
  · refine LW_eqv h33 ?_
    refine LW_tableIn (tgt := 1261) rfl (by decide) (by decide) rfl rfl ?_
    exact law_33 F E hx
  by_cases h34 : z = 34
  · refine LW_eqv h34 ?_
    refine LW_tableIn (tgt := 1294) rfl (by decide) (by decide) rfl rfl ?_
    exact law_34 F E hx
  by_cases h35 : z = 35
  · refine LW_eqv h35 ?_
    refine LW_tableIn (tgt := 1353) rfl (by decide) (by decide) rfl rfl ?_
    exact op_35 F E hx
  by_cases h36 : z = 36
  · refine LW_eqv h36 ?_
    refine LW_tableIn (tgt := 1386) rfl (by decide) (by decide) rfl rfl ?_
    exact law_36 F E hx
  by_cases h37 : z = 37
  · refine LW_eqv h37 ?_
    refine LW_tableIn (tgt := 1419) rfl (by decide) (by decide) rfl rfl ?_
    exact law_37 F E hx
  by_cases h38 : z = 38
  · refine LW_eqv h38 ?_
    refine LW_tableIn (tgt := 1432) rfl (by decide) (by decide) rfl rfl ?_
    exact law_38 F E hx
  by_cases h39 : z = 39
  · refine LW_eqv h39 ?_
    refine LW_tableIn (tgt := 1445) rfl (by decide) (by decide) rfl rfl ?_
    exact law_39 F E hx
  have hz2 : z.toInt = j := by rw [hz, nI_toInt (by omega)]
  simp only [← Int32.toInt_inj, (show (0 : Int32).toInt = 0 from rfl), (show (1 : Int32).toInt = 1 from rfl), (show (2 : Int32).toInt = 2 from rfl), (show (3 : Int32).toInt = 3 from rfl), (show (4 : Int32).toInt = 4 from rfl), (show (5 : Int32).toInt = 5 from rfl), (show (6 : Int32).toInt = 6 from rfl), (show (7 : Int32).toInt = 7 from rfl), (show (8 : Int32).toInt = 8 from rfl), (show (9 : Int32).toInt = 9 from rfl), (show (10 : Int32).toInt = 10 from rfl), (show (11 : Int32).toInt = 11 from rfl), (show (12 : Int32).toInt = 12 from rfl), (show (13 : Int32).toInt = 13 from rfl), (show (14 : Int32).toInt = 14 from rfl), (show (15 : Int32).toInt = 15 from rfl), (show (16 : Int32).toInt = 16 from rfl), (show (17 : Int32).toInt = 17 from rfl), (show (18 : Int32).toInt = 18 from rfl), (show (19 : Int32).toInt = 19 from rfl), (show (20 : Int32).toInt = 20 from rfl), (show (21 : Int32).toInt = 21 from rfl), (show (22 : Int32).toInt = 22 from rfl), (show (23 : Int32).toInt = 23 from rfl), (show (24 : Int32).toInt = 24 from rfl), (show (25 : Int32).toInt = 25 from rfl), (show (26 : Int32).toInt = 26 from rfl), (show (27 : Int32).toInt = 27 from rfl), (show (28 : Int32).toInt = 28 from rfl), (show (29 : Int32).toInt = 29 from rfl), (show (30 : Int32).toInt = 30 from rfl), (show (31 : Int32).toInt = 31 from rfl), (show (32 : Int32).toInt = 32 from rfl), (show (33 : Int32).toInt = 33 from rfl), (show (34 : Int32).toInt = 34 from rfl), (show (35 : Int32).toInt = 35 from rfl), (show (36 : Int32).toInt = 36 from rfl), (show (37 : Int32).toInt = 37 from rfl), (show (38 : Int32).toInt = 38 from rfl), (show (39 : Int32).toInt = 39 from rfl)] at h0 h1 h2 h3 h4 h5 h6 h7 h8 h9 h10 h11 h12 h13 h14 h15 h16 h17 h18 h19 h20 h21 h22 h23 h24 h25 h26 h27 h28 h29 h30 h31 h32 h33 h34 h35 h36 h37 h38 h39
  refine LW_tableOut (tgt := 1468) rfl (by omega) rfl ?_
  exact law_dflt F E hx
theorem law_at16 {g : LH} {xs : Nat → Int32} (F : Fc g) (E : Fr g) (hx : Gx g = some (6, xs)) {l3 : Option Value} : LW 322 31 0 0 16 [some (.retAddr 0), some (.ref 0), some (.ref 355), l3] [] g (fun v _ => v = some (.int 1)) := by
  refine X_iconst (v := 0) rfl rfl rfl ?_
  refine X_istore_n (i := 3) (ls' := [some (.retAddr 0), some (.ref 0), some (.ref 355), some (.int (0 : Int32))]) rfl rfl rfl (Nat.le_of_ble_eq_true rfl) rfl ?_
  refine X_iload_n rfl rfl rfl rfl ?_
  refine X_aload_nS rfl rfl rfl rfl ?_
  refine LW_slenX (v := 6) rfl rfl hx rfl ?_
  refine X_bipush (v := 6) rfl rfl rfl ?_
  refine X_isub (v := 0) rfl rfl rfl ?_
  refine X_icmp_gt (tgt := 1474) rfl rfl rfl (fun q => absurd q (by decide)) (fun _ => ?_)
  refine X_aload_nS rfl rfl rfl rfl ?_
  refine X_iload_n rfl rfl rfl rfl ?_
  refine X_sld (v := xs 0) rfl rfl hx (vp_in_d rfl) rfl ?_
  refine X_bipush (v := 63) rfl rfl rfl ?_
  obtain ⟨j, hj, e⟩ := pk_andE (xs 0) (m := 63) 6 rfl
  refine X_iand (v := xs 0 &&& 63) rfl rfl rfl ?_
  exact law_sw F E hx e hj
set_option maxRecDepth 10000 in
set_option maxHeartbeats 40000000 in
theorem law_short0 {g : LH} {xs : Nat → Int32} {l3 : Option Value} (hx : Gx g = some (0, xs)) : LW 322 31 0 0 16 [some (.retAddr 0), some (.ref 0), some (.ref 355), l3] [] g (fun v _ => v = some (.int 1)) := by
  refine X_iconst (v := (0 : Int32)) rfl rfl rfl ?_
  refine X_istore_n (i := 3) (ls' := [some (.retAddr 0), some (.ref 0), some (.ref 355), some (.int (0 : Int32))]) rfl rfl rfl (Nat.le_of_ble_eq_true rfl) rfl ?_
  refine X_iload_n rfl rfl rfl rfl ?_
  refine X_aload_nS rfl rfl rfl rfl ?_
  refine LW_slenX (v := (0 : Int32)) rfl rfl hx rfl ?_
  refine X_bipush (v := (6 : Int32)) rfl rfl rfl ?_
  refine X_isub (v := (-6 : Int32)) rfl rfl rfl ?_
  refine X_icmp_gt (tgt := 1474) rfl rfl rfl (fun _ => ?_) (fun q => absurd q (by decide))
  refine X_iconst (v := (1 : Int32)) rfl rfl rfl ?_
  exact LW_ireturn (st := []) rfl rfl rfl rfl
set_option maxRecDepth 10000 in
set_option maxHeartbeats 40000000 in
theorem law_short1 {g : LH} {xs : Nat → Int32} {l3 : Option Value} (hx : Gx g = some (1, xs)) : LW 322 31 0 0 16 [some (.retAddr 0), some (.ref 0), some (.ref 355), l3] [] g (fun v _ => v = some (.int 1)) := by
  refine X_iconst (v := (0 : Int32)) rfl rfl rfl ?_
  refine X_istore_n (i := 3) (ls' := [some (.retAddr 0), some (.ref 0), some (.ref 355), some (.int (0 : Int32))]) rfl rfl rfl (Nat.le_of_ble_eq_true rfl) rfl ?_
  refine X_iload_n rfl rfl rfl rfl ?_
  refine X_aload_nS rfl rfl rfl rfl ?_
  refine LW_slenX (v := (1 : Int32)) rfl rfl hx rfl ?_
  refine X_bipush (v := (6 : Int32)) rfl rfl rfl ?_
  refine X_isub (v := (-5 : Int32)) rfl rfl rfl ?_
  refine X_icmp_gt (tgt := 1474) rfl rfl rfl (fun _ => ?_) (fun q => absurd q (by decide))
  refine X_iconst (v := (1 : Int32)) rfl rfl rfl ?_
  exact LW_ireturn (st := []) rfl rfl rfl rfl
set_option maxRecDepth 10000 in
set_option maxHeartbeats 40000000 in
theorem law_short2 {g : LH} {xs : Nat → Int32} {l3 : Option Value} (hx : Gx g = some (2, xs)) : LW 322 31 0 0 16 [some (.retAddr 0), some (.ref 0), some (.ref 355), l3] [] g (fun v _ => v = some (.int 1)) := by
  refine X_iconst (v := (0 : Int32)) rfl rfl rfl ?_
  refine X_istore_n (i := 3) (ls' := [some (.retAddr 0), some (.ref 0), some (.ref 355), some (.int (0 : Int32))]) rfl rfl rfl (Nat.le_of_ble_eq_true rfl) rfl ?_
  refine X_iload_n rfl rfl rfl rfl ?_
  refine X_aload_nS rfl rfl rfl rfl ?_
  refine LW_slenX (v := (2 : Int32)) rfl rfl hx rfl ?_
  refine X_bipush (v := (6 : Int32)) rfl rfl rfl ?_
  refine X_isub (v := (-4 : Int32)) rfl rfl rfl ?_
  refine X_icmp_gt (tgt := 1474) rfl rfl rfl (fun _ => ?_) (fun q => absurd q (by decide))
  refine X_iconst (v := (1 : Int32)) rfl rfl rfl ?_
  exact LW_ireturn (st := []) rfl rfl rfl rfl
set_option maxRecDepth 10000 in
set_option maxHeartbeats 40000000 in
theorem law_short3 {g : LH} {xs : Nat → Int32} {l3 : Option Value} (hx : Gx g = some (3, xs)) : LW 322 31 0 0 16 [some (.retAddr 0), some (.ref 0), some (.ref 355), l3] [] g (fun v _ => v = some (.int 1)) := by
  refine X_iconst (v := (0 : Int32)) rfl rfl rfl ?_
  refine X_istore_n (i := 3) (ls' := [some (.retAddr 0), some (.ref 0), some (.ref 355), some (.int (0 : Int32))]) rfl rfl rfl (Nat.le_of_ble_eq_true rfl) rfl ?_
  refine X_iload_n rfl rfl rfl rfl ?_
  refine X_aload_nS rfl rfl rfl rfl ?_
  refine LW_slenX (v := (3 : Int32)) rfl rfl hx rfl ?_
  refine X_bipush (v := (6 : Int32)) rfl rfl rfl ?_
  refine X_isub (v := (-3 : Int32)) rfl rfl rfl ?_
  refine X_icmp_gt (tgt := 1474) rfl rfl rfl (fun _ => ?_) (fun q => absurd q (by decide))
  refine X_iconst (v := (1 : Int32)) rfl rfl rfl ?_
  exact LW_ireturn (st := []) rfl rfl rfl rfl
set_option maxRecDepth 10000 in
set_option maxHeartbeats 40000000 in
theorem law_short4 {g : LH} {xs : Nat → Int32} {l3 : Option Value} (hx : Gx g = some (4, xs)) : LW 322 31 0 0 16 [some (.retAddr 0), some (.ref 0), some (.ref 355), l3] [] g (fun v _ => v = some (.int 1)) := by
  refine X_iconst (v := (0 : Int32)) rfl rfl rfl ?_
  refine X_istore_n (i := 3) (ls' := [some (.retAddr 0), some (.ref 0), some (.ref 355), some (.int (0 : Int32))]) rfl rfl rfl (Nat.le_of_ble_eq_true rfl) rfl ?_
  refine X_iload_n rfl rfl rfl rfl ?_
  refine X_aload_nS rfl rfl rfl rfl ?_
  refine LW_slenX (v := (4 : Int32)) rfl rfl hx rfl ?_
  refine X_bipush (v := (6 : Int32)) rfl rfl rfl ?_
  refine X_isub (v := (-2 : Int32)) rfl rfl rfl ?_
  refine X_icmp_gt (tgt := 1474) rfl rfl rfl (fun _ => ?_) (fun q => absurd q (by decide))
  refine X_iconst (v := (1 : Int32)) rfl rfl rfl ?_
  exact LW_ireturn (st := []) rfl rfl rfl rfl
set_option maxRecDepth 10000 in
set_option maxHeartbeats 40000000 in
theorem law_short5 {g : LH} {xs : Nat → Int32} {l3 : Option Value} (hx : Gx g = some (5, xs)) : LW 322 31 0 0 16 [some (.retAddr 0), some (.ref 0), some (.ref 355), l3] [] g (fun v _ => v = some (.int 1)) := by
  refine X_iconst (v := (0 : Int32)) rfl rfl rfl ?_
  refine X_istore_n (i := 3) (ls' := [some (.retAddr 0), some (.ref 0), some (.ref 355), some (.int (0 : Int32))]) rfl rfl rfl (Nat.le_of_ble_eq_true rfl) rfl ?_
  refine X_iload_n rfl rfl rfl rfl ?_
  refine X_aload_nS rfl rfl rfl rfl ?_
  refine LW_slenX (v := (5 : Int32)) rfl rfl hx rfl ?_
  refine X_bipush (v := (6 : Int32)) rfl rfl rfl ?_
  refine X_isub (v := (-1 : Int32)) rfl rfl rfl ?_
  refine X_icmp_gt (tgt := 1474) rfl rfl rfl (fun _ => ?_) (fun q => absurd q (by decide))
  refine X_iconst (v := (1 : Int32)) rfl rfl rfl ?_
  exact LW_ireturn (st := []) rfl rfl rfl rfl
theorem law_g16 {L : Nat} (hL : L ≤ 6) {g : LH} {xs : Nat → Int32} (F : Fc g) (E : Fr g) (hx : Gx g = some (L, xs)) {l3 : Option Value} : LW 322 31 0 0 16 [some (.retAddr 0), some (.ref 0), some (.ref 355), l3] [] g (fun v _ => v = some (.int 1)) := by
  rcases Nat.lt_or_ge L 6 with h | h
  · match L, h, hx with
    | 0, _, hx => exact law_short0 hx
    | 1, _, hx => exact law_short1 hx
    | 2, _, hx => exact law_short2 hx
    | 3, _, hx => exact law_short3 hx
    | 4, _, hx => exact law_short4 hx
    | 5, _, hx => exact law_short5 hx
  · have : L = 6 := by omega
    subst this
    exact law_at16 F E hx
noncomputable def eN : EH := (0, [], [], [], [])
set_option maxRecDepth 100000 in
theorem e0_eq : eqEH (wN eN (.inl 12)) e0 = true := by decide +kernel
theorem law_ok {L : Nat} (hL : L ≤ 6) (xs : Nat → Int32) : LW 322 32 ((355 - 1 + ((374 - 356 + 0) + 1)) + 1) ((12740 - 10 + ((25633 - 12780 + 0) + nF 13)) + nF 12) 0 [some (.retAddr 0), none, none, none] [] (eV (some (L, xs)) eN) (fun v _ => v = some (.int 1)) := by
  refine LW_new (ci := 12) rfl rfl ?_
  have e : newC (eV (some (L, xs)) eN) (.inl 12) = eV (some (L, xs)) e0 := (eV_wN _ eN _).symm.trans (congrArg (eV _) (eqEH_ok e0_eq))
  rw [e]
  refine X_dup (pc' := 4) rfl rfl rfl ?_
  have s1 := (eRun_ok (sm0_ok (some (L, xs))) (eqRes_ok ctor_c) rfl).2.2
  refine LW_callI (as := []) (j' := 125) (q := 0) (st := [.ref 0]) rfl rfl (by decide) rfl (Nat.le_of_ble_eq_true rfl) (by decide) (Nat.le_of_ble_eq_true rfl) rfl s1 (fun v g' q => ?_)
  obtain ⟨rfl, rfl⟩ := q
  refine X_astore_n (pc' := 8) (i := 1) (ls' := [some (.retAddr 0), some (.ref 0), none, none]) rfl rfl rfl (Nat.le_of_ble_eq_true rfl) rfl ?_
  refine LW_new (ci := 13) rfl rfl ?_
  have e3 : newC (eV (some (L, xs)) e1) (.inl 13) = eV (some (L, xs)) e1r := (eV_wN _ e1 _).symm.trans (congrArg (eV _) (eqEH_ok e1r_eq))
  rw [e3]
  refine X_dup (pc' := 12) rfl rfl rfl ?_
  have s2 := (eRun_ok (sm0_ok (some (L, xs))) (eqRes_ok ctor_r) rfl).2.2
  refine LW_callI (mc := 374 - 356) (bc := 0) (ms := 25633 - 12780) (bs := 0) (as := []) (j' := 170) (q := 355) (st := [.ref 355]) rfl rfl (by decide) rfl (Nat.le_of_ble_eq_true rfl) (by decide) (Nat.le_of_ble_eq_true rfl) rfl s2 (fun v g' q => ?_)
  obtain ⟨rfl, rfl⟩ := q
  refine X_astore_n (pc' := 16) (i := 2) (ls' := [some (.retAddr 0), some (.ref 0), some (.ref 355), none]) rfl rfl rfl (Nat.le_of_ble_eq_true rfl) rfl ?_
  exact LW_dmono (law_g16 hL ⟨rfl, fun _ _ => rfl, fun _ _ => ⟨rfl, rfl⟩⟩ ⟨rfl, fun _ _ => rfl, fun _ _ => ⟨rfl, rfl⟩⟩ rfl)
